def mwi (v a b : Int32) : Int32 := if v < a then 0 else if b < v then 0 else 1
theorem mwi_or (v a b : Int32) : mwi v a b = 0 ∨ mwi v a b = 1 := by
  unfold mwi
  split
  · exact Or.inl rfl
  · split
    · exact Or.inl rfl
    · exact Or.inr rfl

set_option maxHeartbeats 8000000 in
set_option maxRecDepth 100000 in
theorem mo_within (l : Launch) (D : va_G) (cI cL cZ cC : ClassId) (x : Int32) (a : Int32) (b : Int32) : Met l y_MO_within (wz y_MO_within b_MO_within 3 (some .boolean)) ({ frames := 0, cells := 0, slots := 0, locals := 0 }) (va_Pc [.int x, .int a, .int b] (wq_pre D (tys4 cI cL cZ cC) [])) (QcRead (mwi x a b)) 0 0 (fun _ => False) := by
  refine Met.ofW (cc := b_MO_within) (maxL := 3) (ret := (some .boolean)) (by decide) rfl ?_
  intro p e s m args below meth c s₁ B hml hv
  obtain ⟨rfl, hP, hK⟩ := hv
  have hx := B.exec
  have hb := B.bytes
  have hr := B.returns
  have hts := atoms_spec (ws := wz y_MO_within b_MO_within 3 (some .boolean)) B.pre
  have hG := wz_G hts
  have hown : s.vm.findClass rn_MO = some m.cls := findClass_of_methodNamed B.named
  have hlocks := B.notSynchronized
  have hl := lv_entry ([.int x, .int a, .int b]) (n := 3) (Nat.le_of_ble_eq_true rfl)
  rw [lg_entry_eq]
  generalize (lg_sl ([.int x, .int a, .int b]) ++ List.replicate (3 - (lg_sl ([.int x, .int a, .int b])).length) Slot.unset).toArray = ls at hl ⊢
  have hl : lv_has ls 3 [(0, .int x), (1, .int a), (2, .int b)] := hl
  refine lv_iload_n hx hb d_MO_within_0 rfl (lv_at hl 0 rfl) ?_
  refine lv_iload_n hx hb d_MO_within_1 rfl (lv_at hl 1 rfl) ?_
  refine lv_icmp_lt (tgt := 14) hx hb d_MO_within_2 (by decide) (fun hb_1 => ?_) (fun hb_1 => ?_)
  · skip
    refine lv_iconst (v := 0) hx hb d_MO_within_14 (by decide) ?_
    exact W.zret hx hb hr rfl (fun t ht hW => ⟨by rw [show mwi x a b = 0 by simp [mwi, hb_1]], ht⟩) (fun q h => by cases h) d_MO_within_15 hlocks
  · skip
    refine lv_iload_n hx hb d_MO_within_5 rfl (lv_at hl 0 rfl) ?_
    refine lv_iload_n hx hb d_MO_within_6 rfl (lv_at hl 2 rfl) ?_
    refine lv_icmp_gt (tgt := 14) hx hb d_MO_within_7 (by decide) (fun hb_2 => ?_) (fun hb_2 => ?_)
    · skip
      refine lv_iconst (v := 0) hx hb d_MO_within_14 (by decide) ?_
      exact W.zret hx hb hr rfl (fun t ht hW => ⟨by rw [show mwi x a b = 0 by simp [mwi, hb_1, hb_2]], ht⟩) (fun q h => by cases h) d_MO_within_15 hlocks
    · skip
      refine lv_iconst (v := 1) hx hb d_MO_within_10 (by decide) ?_
      refine lv_goto (tgt := 15) hx hb d_MO_within_11 (by decide) ?_
      exact W.zret hx hb hr rfl (fun t ht hW => ⟨by rw [show mwi x a b = 1 by simp [mwi, hb_1, hb_2]], ht⟩) (fun q h => by cases h) d_MO_within_15 hlocks
set_option maxHeartbeats 8000000 in
set_option maxRecDepth 100000 in
theorem mo_isLetter (l : Launch) (D : va_G) (cI cL cZ cC : ClassId) (x : Int32) : Met l y_MO_isLetter (wz y_MO_isLetter b_MO_isLetter 1 (some .boolean)) ({ frames := 1, cells := 0, slots := 0, locals := 22 }) (va_Pc [.int x] (wq_pre D (tys4 cI cL cZ cC) [])) (QcRead (mwi x 97 122)) 0 0 (fun _ => False) := by
  refine Met.ofW (cc := b_MO_isLetter) (maxL := 1) (ret := (some .boolean)) (by decide) rfl ?_
  intro p e s m args below meth c s₁ B hml hv
  obtain ⟨rfl, hP, hK⟩ := hv
  have hx := B.exec
  have hb := B.bytes
  have hr := B.returns
  have hts := atoms_spec (ws := wz y_MO_isLetter b_MO_isLetter 1 (some .boolean)) B.pre
  have hG := wz_G hts
  have hown : s.vm.findClass rn_MO = some m.cls := findClass_of_methodNamed B.named
  have hlocks := B.notSynchronized
  have hl := lv_entry ([.int x]) (n := 1) (Nat.le_of_ble_eq_true rfl)
  rw [lg_entry_eq]
  generalize (lg_sl ([.int x]) ++ List.replicate (1 - (lg_sl ([.int x])).length) Slot.unset).toArray = ls at hl ⊢
  have hl : lv_has ls 1 [(0, .int x)] := hl
  refine lv_iload_n hx hb d_MO_isLetter_0 rfl (lv_at hl 0 rfl) ?_
  refine lv_bipush (v := 97) hx hb d_MO_isLetter_1 (by decide) ?_
  refine lv_bipush (v := 122) hx hb d_MO_isLetter_3 (by decide) ?_
  refine W.callR (W.runS (As := [.int x, .int 97, .int 122]) (rest := []) ⟨hx, hb, hml, hown, hG⟩ (mo_within l D cI cL cZ cC x 97 122 ) (cwS 3 hG (gd_S k_1361 k_1362 k_116 k_1363) rfl rfl rfl (by decide +kernel) ⟨Nat.le_of_ble_eq_true rfl, Nat.le_of_ble_eq_true rfl⟩) (wq_S hP hK [] rfl) rfl rfl hl.1 rfl (lv_room (Nat.le_of_ble_eq_true rfl)) d_MO_isLetter_5 ⟨Nat.le_of_ble_eq_true rfl, Nat.le_of_ble_eq_true rfl⟩) ?_
  refine W.eq (g2 := F0 m 8 ls [.int (mwi x (97 : Int32) (122 : Int32))]) rfl ?_
  exact W.zret hx hb hr (bln_n (mwi_or _ _ _)) (fun t ht hW => ⟨rfl, ht⟩) (fun q h => by cases h) d_MO_isLetter_8 hlocks
set_option maxHeartbeats 8000000 in
set_option maxRecDepth 100000 in
theorem mo_digit (l : Launch) (D : va_G) (cI cL cZ cC : ClassId) (x : Int32) : Met l y_MO_digit (wz y_MO_digit b_MO_digit 1 (some .boolean)) ({ frames := 1, cells := 0, slots := 0, locals := 22 }) (va_Pc [.int x] (wq_pre D (tys4 cI cL cZ cC) [])) (QcRead (mwi x 48 57)) 0 0 (fun _ => False) := by
  refine Met.ofW (cc := b_MO_digit) (maxL := 1) (ret := (some .boolean)) (by decide) rfl ?_
  intro p e s m args below meth c s₁ B hml hv
  obtain ⟨rfl, hP, hK⟩ := hv
  have hx := B.exec
  have hb := B.bytes
  have hr := B.returns
  have hts := atoms_spec (ws := wz y_MO_digit b_MO_digit 1 (some .boolean)) B.pre
  have hG := wz_G hts
  have hown : s.vm.findClass rn_MO = some m.cls := findClass_of_methodNamed B.named
  have hlocks := B.notSynchronized
  have hl := lv_entry ([.int x]) (n := 1) (Nat.le_of_ble_eq_true rfl)
  rw [lg_entry_eq]
  generalize (lg_sl ([.int x]) ++ List.replicate (1 - (lg_sl ([.int x])).length) Slot.unset).toArray = ls at hl ⊢
  have hl : lv_has ls 1 [(0, .int x)] := hl
  refine lv_iload_n hx hb d_MO_digit_0 rfl (lv_at hl 0 rfl) ?_
  refine lv_bipush (v := 48) hx hb d_MO_digit_1 (by decide) ?_
  refine lv_bipush (v := 57) hx hb d_MO_digit_3 (by decide) ?_
  refine W.callR (W.runS (As := [.int x, .int 48, .int 57]) (rest := []) ⟨hx, hb, hml, hown, hG⟩ (mo_within l D cI cL cZ cC x 48 57 ) (cwS 3 hG (gd_S k_1361 k_1362 k_116 k_1363) rfl rfl rfl (by decide +kernel) ⟨Nat.le_of_ble_eq_true rfl, Nat.le_of_ble_eq_true rfl⟩) (wq_S hP hK [] rfl) rfl rfl hl.1 rfl (lv_room (Nat.le_of_ble_eq_true rfl)) d_MO_digit_5 ⟨Nat.le_of_ble_eq_true rfl, Nat.le_of_ble_eq_true rfl⟩) ?_
  refine W.eq (g2 := F0 m 8 ls [.int (mwi x (48 : Int32) (57 : Int32))]) rfl ?_
  exact W.zret hx hb hr (bln_n (mwi_or _ _ _)) (fun t ht hW => ⟨rfl, ht⟩) (fun q h => by cases h) d_MO_digit_8 hlocks
set_option maxHeartbeats 8000000 in
set_option maxRecDepth 100000 in
theorem mo_sign (l : Launch) (D : va_G) (cI cL cZ cC : ClassId) (x : Int32) (sz : Nat) (hnt : l.stackTraces = false) : em_Met l y_MO_sign (wz y_MO_sign b_MO_sign 1 (some .boolean)) ({ frames := 1, cells := 0, slots := 0, locals := 22 }) (va_Pc [.int x] (tw_pre D (tys4 cI cL cZ cC) [] sz)) D (tys4 cI cL cZ cC) (va_A [] sz) (fun (_ : Unit) => []) (fun v (_ : Unit) => ∃ r : Int32, v = some (.int r) ∧ ((r = 0 ∨ r = 1))) (fun C (_ : Unit) => False) 0 0 := by
  refine em_Met.ofW (cc := b_MO_sign) (maxL := 1) (ret := (some .boolean)) (by decide) rfl ?_
  intro p e s m args below meth c s₁ B hml hv hno
  obtain ⟨rfl, ⟨hsz, hP, hK, hD0⟩, hE⟩ := hv
  have hx := B.exec
  have hb := B.bytes
  have hr := B.returns
  have hts := atoms_spec (ws := wz y_MO_sign b_MO_sign 1 (some .boolean)) B.pre
  have hG := wz_G hts
  have hown : s.vm.findClass rn_MO = some m.cls := findClass_of_methodNamed B.named
  have hlocks := B.notSynchronized
  subst hsz
  have hD := hD0.self (sz := s.heap.size)
  have hst := tw_st hP
  generalize hAe : va_A [] s.heap.size = A at hD hst ⊢
  have hA : ∀ q : Nat, s.heap.size ≤ q → A q := fun q h => by rw [← hAe]; exact Or.inr h
  have hS : va_S A s.heap s.heap [] := va_S.rf
  have hl := lv_entry ([.int x]) (n := 1) (Nat.le_of_ble_eq_true rfl)
  rw [lg_entry_eq]
  generalize (lg_sl ([.int x]) ++ List.replicate (1 - (lg_sl ([.int x])).length) Slot.unset).toArray = ls at hl ⊢
  have hl : lv_has ls 1 [(0, .int x)] := hl
  refine lv_iload_n hx hb d_MO_sign_0 rfl (lv_at hl 0 rfl) ?_
  refine lv_bipush (v := 40) hx hb d_MO_sign_1 (by decide) ?_
  refine lv_bipush (v := 46) hx hb d_MO_sign_3 (by decide) ?_
  refine W.callR (W.runS (As := [.int x, .int 40, .int 46]) (rest := []) ⟨hx, hb, hml, hown, hG⟩ (mo_within l D cI cL cZ cC x 40 46 ) (cwS 3 hG (gd_S k_1361 k_1362 k_116 k_1363) rfl rfl rfl (by decide +kernel) ⟨Nat.le_of_ble_eq_true rfl, Nat.le_of_ble_eq_true rfl⟩) (wq_S hP hK [] rfl) rfl rfl hl.1 rfl (lv_room (Nat.le_of_ble_eq_true rfl)) d_MO_sign_5 ⟨Nat.le_of_ble_eq_true rfl, Nat.le_of_ble_eq_true rfl⟩) ?_
  refine W.eq (g2 := F0 m 8 ls [.int (mwi x (40 : Int32) (46 : Int32))]) rfl ?_
  refine lv_if_ne (tgt := 53) hx hb d_MO_sign_8 (by decide) (fun hb_1 => ?_) (fun hb_1 => ?_)
  · skip
    refine lv_iconst (v := 1) hx hb d_MO_sign_53 (by decide) ?_
    refine lv_goto (tgt := 58) hx hb d_MO_sign_54 (by decide) ?_
    exact em_zret hx hb hr hlocks rfl hP hD hK hS () [] (by decide) rfl ⟨_, rfl, (Or.inr rfl)⟩ d_MO_sign_58
  · skip
    refine lv_iload_n hx hb d_MO_sign_11 rfl (lv_at hl 0 rfl) ?_
    refine lv_bipush (v := 58) hx hb d_MO_sign_12 (by decide) ?_
    refine lv_icmp_eq (tgt := 53) hx hb d_MO_sign_14 (by decide) (fun hb_2 => ?_) (fun hb_2 => ?_)
    · skip
      refine lv_iconst (v := 1) hx hb d_MO_sign_53 (by decide) ?_
      refine lv_goto (tgt := 58) hx hb d_MO_sign_54 (by decide) ?_
      exact em_zret hx hb hr hlocks rfl hP hD hK hS () [] (by decide) rfl ⟨_, rfl, (Or.inr rfl)⟩ d_MO_sign_58
    · skip
      refine lv_iload_n hx hb d_MO_sign_17 rfl (lv_at hl 0 rfl) ?_
      refine lv_bipush (v := 59) hx hb d_MO_sign_18 (by decide) ?_
      refine lv_icmp_eq (tgt := 53) hx hb d_MO_sign_20 (by decide) (fun hb_3 => ?_) (fun hb_3 => ?_)
      · skip
        refine lv_iconst (v := 1) hx hb d_MO_sign_53 (by decide) ?_
        refine lv_goto (tgt := 58) hx hb d_MO_sign_54 (by decide) ?_
        exact em_zret hx hb hr hlocks rfl hP hD hK hS () [] (by decide) rfl ⟨_, rfl, (Or.inr rfl)⟩ d_MO_sign_58
      · skip
        refine lv_iload_n hx hb d_MO_sign_23 rfl (lv_at hl 0 rfl) ?_
        refine lv_bipush (v := 60) hx hb d_MO_sign_24 (by decide) ?_
        refine lv_icmp_eq (tgt := 53) hx hb d_MO_sign_26 (by decide) (fun hb_4 => ?_) (fun hb_4 => ?_)
        · skip
          refine lv_iconst (v := 1) hx hb d_MO_sign_53 (by decide) ?_
          refine lv_goto (tgt := 58) hx hb d_MO_sign_54 (by decide) ?_
          exact em_zret hx hb hr hlocks rfl hP hD hK hS () [] (by decide) rfl ⟨_, rfl, (Or.inr rfl)⟩ d_MO_sign_58
        · skip
          refine lv_iload_n hx hb d_MO_sign_29 rfl (lv_at hl 0 rfl) ?_
          refine lv_bipush (v := 61) hx hb d_MO_sign_30 (by decide) ?_
          refine lv_icmp_eq (tgt := 53) hx hb d_MO_sign_32 (by decide) (fun hb_5 => ?_) (fun hb_5 => ?_)
          · skip
            refine lv_iconst (v := 1) hx hb d_MO_sign_53 (by decide) ?_
            refine lv_goto (tgt := 58) hx hb d_MO_sign_54 (by decide) ?_
            exact em_zret hx hb hr hlocks rfl hP hD hK hS () [] (by decide) rfl ⟨_, rfl, (Or.inr rfl)⟩ d_MO_sign_58
          · skip
            refine lv_iload_n hx hb d_MO_sign_35 rfl (lv_at hl 0 rfl) ?_
            refine lv_bipush (v := 91) hx hb d_MO_sign_36 (by decide) ?_
            refine lv_icmp_eq (tgt := 53) hx hb d_MO_sign_38 (by decide) (fun hb_6 => ?_) (fun hb_6 => ?_)
            · skip
              refine lv_iconst (v := 1) hx hb d_MO_sign_53 (by decide) ?_
              refine lv_goto (tgt := 58) hx hb d_MO_sign_54 (by decide) ?_
              exact em_zret hx hb hr hlocks rfl hP hD hK hS () [] (by decide) rfl ⟨_, rfl, (Or.inr rfl)⟩ d_MO_sign_58
            · skip
              refine lv_iload_n hx hb d_MO_sign_41 rfl (lv_at hl 0 rfl) ?_
              refine lv_bipush (v := 92) hx hb d_MO_sign_42 (by decide) ?_
              refine lv_icmp_eq (tgt := 53) hx hb d_MO_sign_44 (by decide) (fun hb_7 => ?_) (fun hb_7 => ?_)
              · skip
                refine lv_iconst (v := 1) hx hb d_MO_sign_53 (by decide) ?_
                refine lv_goto (tgt := 58) hx hb d_MO_sign_54 (by decide) ?_
                exact em_zret hx hb hr hlocks rfl hP hD hK hS () [] (by decide) rfl ⟨_, rfl, (Or.inr rfl)⟩ d_MO_sign_58
              · skip
                refine lv_iload_n hx hb d_MO_sign_47 rfl (lv_at hl 0 rfl) ?_
                refine lv_bipush (v := 93) hx hb d_MO_sign_48 (by decide) ?_
                refine lv_icmp_ne (tgt := 57) hx hb d_MO_sign_50 (by decide) (fun hb_8 => ?_) (fun hb_8 => ?_)
                · skip
                  refine lv_iconst (v := 0) hx hb d_MO_sign_57 (by decide) ?_
                  exact em_zret hx hb hr hlocks rfl hP hD hK hS () [] (by decide) rfl ⟨_, rfl, (Or.inl rfl)⟩ d_MO_sign_58
                · skip
                  refine lv_iconst (v := 1) hx hb d_MO_sign_53 (by decide) ?_
                  refine lv_goto (tgt := 58) hx hb d_MO_sign_54 (by decide) ?_
                  exact em_zret hx hb hr hlocks rfl hP hD hK hS () [] (by decide) rfl ⟨_, rfl, (Or.inr rfl)⟩ d_MO_sign_58
set_option maxHeartbeats 8000000 in
set_option maxRecDepth 100000 in
theorem mo_lexeme (l : Launch) (D : va_G) (cI cL cZ cC : ClassId) (f : Nat → Nat) (h0 : Nat) (tn : Int32) (rm : Nat) (ln : Nat) (lx : Nat) (at_ : Nat) (bd : Int32) (fs : Nat) (dp : Nat) (on : Nat) (os : Nat) (bn : Nat) (df : Nat) (th : Int32) (tp : Nat) (mo_ : Int32) (ev : Nat) (ss : Int32) (so : Int32) (lk : Int64) (rs : Int64) (pt : Int32) (ot : Nat) (cl : Int32) (ki : Nat → Int32) (wh : Nat → Int64) (k : Int32) (v : Int64) (sz : Nat) (hl1 : lx ≤ 100) (hk3 : ∀ j, j < lx → ¬ ki j = 3) (hkk : ¬ k = 3) (hbo : bdo bd) (hnt : l.stackTraces = false) : em_Met l y_MO_lexeme (wz y_MO_lexeme b_MO_lexeme 4 none) ({ frames := 1, cells := 0, slots := 0, locals := 21 }) (va_Pc [.ref h0, .int k, .long v] (tw_pre D (tys4 cI cL cZ cC) [(h0, .inr (8, mS f tn rm ln lx at_ bd fs dp on os bn df th tp mo_ ev ss so lk rs pt ot cl)), ((f 1), .inl (cI, 101, .inl ki)), ((f 2), .inl (cL, 101, .inr (.inl wh)))] sz)) D (tys4 cI cL cZ cC) (va_A [(h0, .inr (8, mS f tn rm ln lx at_ bd fs dp on os bn df th tp mo_ ev ss so lk rs pt ot cl)), ((f 1), .inl (cI, 101, .inl ki)), ((f 2), .inl (cL, 101, .inr (.inl wh)))] sz) (fun (u : Nat × Int32 × (Nat → Int32) × (Nat → Int64)) => [(h0, .inr (8, mS f tn rm ln u.1 at_ u.2.1 fs dp on os bn df th tp mo_ ev ss so lk rs pt ot cl)), ((f 1), .inl (cI, 101, .inl u.2.2.1)), ((f 2), .inl (cL, 101, .inr (.inl u.2.2.2)))]) (fun v (u : Nat × Int32 × (Nat → Int32) × (Nat → Int64)) => v = none ∧ ((bdo u.2.1) ∧ (u.1 ≤ 100) ∧ (∀ j, j < u.1 → ¬ u.2.2.1 j = 3))) (fun C (u : Nat × Int32 × (Nat → Int32) × (Nat → Int64)) => False) 0 0 := by
  refine em_Met.ofW (cc := b_MO_lexeme) (maxL := 4) (ret := none) (by decide) rfl ?_
  intro p e s m args below meth c s₁ B hml hv hno
  obtain ⟨rfl, ⟨hsz, hP, hK, hD0⟩, hE⟩ := hv
  have hx := B.exec
  have hb := B.bytes
  have hr := B.returns
  have hts := atoms_spec (ws := wz y_MO_lexeme b_MO_lexeme 4 none) B.pre
  have hG := wz_G hts
  have hown : s.vm.findClass rn_MO = some m.cls := findClass_of_methodNamed B.named
  have hlocks := B.notSynchronized
  subst hsz
  have hD := hD0.self (sz := s.heap.size)
  have hst := tw_st hP
  generalize hAe : va_A [(h0, .inr (8, mS f tn rm ln lx at_ bd fs dp on os bn df th tp mo_ ev ss so lk rs pt ot cl)), ((f 1), .inl (cI, 101, .inl ki)), ((f 2), .inl (cL, 101, .inr (.inl wh)))] s.heap.size = A at hD hst ⊢
  have hA : ∀ q : Nat, s.heap.size ≤ q → A q := fun q h => by rw [← hAe]; exact Or.inr h
  have hS : va_S A s.heap s.heap [] := va_S.rf
  have hl := lv_entry ([.ref h0, .int k, .long v]) (n := 4) (Nat.le_of_ble_eq_true rfl)
  rw [lg_entry_eq]
  generalize (lg_sl ([.ref h0, .int k, .long v]) ++ List.replicate (4 - (lg_sl ([.ref h0, .int k, .long v])).length) Slot.unset).toArray = ls at hl ⊢
  have hl : lv_has ls 4 [(0, .ref h0), (1, .int k), (2, .long v)] := hl
  refine lv_aload_n hx hb d_MO_lexeme_0 rfl (lv_at hl 0 rfl) ?_
  refine va_get (D := D) (ci := 8) (v := .int (nI lx)) (C := rn_MO) (T := fl_MO) (N := 55) hx hb hG in_MO hown hK hP 0 rfl rfl 4 (by decide) (hG _ k_1195) (fun _ h9 => h9) rfl d_MO_lexeme_1 ?_
  refine lv_bipush (v := 100) hx hb d_MO_lexeme_4 (by decide) ?_
  refine lv_icmp_ne (tgt := 15) hx hb d_MO_lexeme_6 (by decide) (fun hb_1 => ?_) (fun hb_1 => ?_)
  · skip
    have hn_2 : ¬ lx = 100 := fun h => hb_1 ((nI_eq (a := lx) (b := 100) (by omega) (by omega)).mpr h)
    refine lv_aload_n hx hb d_MO_lexeme_15 rfl (lv_at hl 0 rfl) ?_
    refine va_get (D := D) (ci := 8) (v := .ref (f 1)) (C := rn_MO) (T := fl_MO) (N := 55) hx hb hG in_MO hown hK hP 0 rfl rfl 7 (by decide) (hG _ k_1198) (fun _ h9 => h9) rfl d_MO_lexeme_16 ?_
    refine lv_aload_n hx hb d_MO_lexeme_19 rfl (lv_at hl 0 rfl) ?_
    refine va_get (D := D) (ci := 8) (v := .int (nI lx)) (C := rn_MO) (T := fl_MO) (N := 55) hx hb hG in_MO hown hK hP 0 rfl rfl 4 (by decide) (hG _ k_1195) (fun _ h9 => h9) rfl d_MO_lexeme_20 ?_
    refine lv_iload_n hx hb d_MO_lexeme_23 rfl (lv_at hl 1 rfl) ?_
    refine va_iast hx hb hK hP hD hS 1 0 rfl rfl (vp_in_nI (n := lx) (N := 101) (by omega) (by omega)) d_MO_lexeme_24 (fun H locs hP hD hS => ?_)
    have hP : va_P D classes [(h0, .inr (8, mS f tn rm ln lx at_ bd fs dp on os bn df th tp mo_ ev ss so lk rs pt ot cl)), ((f 1), .inl (cI, 101, .inl (upd ki (nI lx).toNatClampNeg k))), ((f 2), .inl (cL, 101, .inr (.inl wh)))] H := hP
    have hD : va_D A [(h0, .inr (8, mS f tn rm ln lx at_ bd fs dp on os bn df th tp mo_ ev ss so lk rs pt ot cl)), ((f 1), .inl (cI, 101, .inl (upd ki (nI lx).toNatClampNeg k))), ((f 2), .inl (cL, 101, .inr (.inl wh)))] := hD
    obtain ⟨g_3, eg_3⟩ : ∃ z, z = upd ki lx k := ⟨_, rfl⟩
    rw [nI_clamp (n := lx) (by omega), ← eg_3] at hP hD
    refine lv_aload_n hx hb d_MO_lexeme_25 rfl (lv_at hl 0 rfl) ?_
    refine va_get (D := D) (ci := 8) (v := .ref (f 2)) (C := rn_MO) (T := fl_MO) (N := 55) hx hb hG in_MO hown hK hP 0 rfl rfl 8 (by decide) (hG _ k_1199) (fun _ h9 => h9) rfl d_MO_lexeme_26 ?_
    refine lv_aload_n hx hb d_MO_lexeme_29 rfl (lv_at hl 0 rfl) ?_
    refine va_get (D := D) (ci := 8) (v := .int (nI lx)) (C := rn_MO) (T := fl_MO) (N := 55) hx hb hG in_MO hown hK hP 0 rfl rfl 4 (by decide) (hG _ k_1195) (fun _ h9 => h9) rfl d_MO_lexeme_30 ?_
    refine lv_lload_n hx hb d_MO_lexeme_33 rfl (lv_at hl 2 rfl) ?_
    refine va_last hx hb hK hP hD hS 2 1 rfl rfl (vp_in_nI (n := lx) (N := 101) (by omega) (by omega)) d_MO_lexeme_34 (fun H locs hP hD hS => ?_)
    have hP : va_P D classes [(h0, .inr (8, mS f tn rm ln lx at_ bd fs dp on os bn df th tp mo_ ev ss so lk rs pt ot cl)), ((f 1), .inl (cI, 101, .inl g_3)), ((f 2), .inl (cL, 101, .inr (.inl (vp_updL wh (nI lx).toNatClampNeg v))))] H := hP
    have hD : va_D A [(h0, .inr (8, mS f tn rm ln lx at_ bd fs dp on os bn df th tp mo_ ev ss so lk rs pt ot cl)), ((f 1), .inl (cI, 101, .inl g_3)), ((f 2), .inl (cL, 101, .inr (.inl (vp_updL wh (nI lx).toNatClampNeg v))))] := hD
    obtain ⟨g_4, eg_4⟩ : ∃ z, z = vp_updL wh lx v := ⟨_, rfl⟩
    rw [nI_clamp (n := lx) (by omega), ← eg_4] at hP hD
    refine lv_aload_n hx hb d_MO_lexeme_35 rfl (lv_at hl 0 rfl) ?_
    refine lv_dup hx hb d_MO_lexeme_36 rfl ?_
    refine va_get (D := D) (ci := 8) (v := .int (nI lx)) (C := rn_MO) (T := fl_MO) (N := 55) hx hb hG in_MO hown hK hP 0 rfl rfl 4 (by decide) (hG _ k_1195) (fun _ h9 => h9) rfl d_MO_lexeme_37 ?_
    refine lv_iconst (v := 1) hx hb d_MO_lexeme_40 (by decide) ?_
    refine lw_iadd (a := lx) (b := 1) hx hb d_MO_lexeme_41 ?_
    refine va_put (D := D) (ci := 8) (v := .int (nI (lx + 1))) (ty := .int) (C := rn_MO) (T := fl_MO) (N := 55) hx hb hG in_MO tt_MO tk_MO nn_MO hown hK hP hD hS 0 rfl rfl 4 (by decide) (hG _ k_1195) (fun _ h9 => h9) rfl (by decide +kernel) rfl rfl (Nat.le_of_ble_eq_true rfl) d_MO_lexeme_42 (fun H locs hP hD hS => ?_)
    have hP : va_P D classes [(h0, .inr (8, mS f tn rm ln (lx + 1) at_ bd fs dp on os bn df th tp mo_ ev ss so lk rs pt ot cl)), ((f 1), .inl (cI, 101, .inl g_3)), ((f 2), .inl (cL, 101, .inr (.inl g_4)))] H := hP
    have hD : va_D A [(h0, .inr (8, mS f tn rm ln (lx + 1) at_ bd fs dp on os bn df th tp mo_ ev ss so lk rs pt ot cl)), ((f 1), .inl (cI, 101, .inl g_3)), ((f 2), .inl (cL, 101, .inr (.inl g_4)))] := hD
    exact em_vret hx hb hr hlocks hP hD hK hS (lx + 1, bd, g_3, g_4) [0, 1, 2] (by decide) rfl ⟨rfl, ⟨(show bdo bd from (by first | assumption | omega | exact Or.inl rfl)), (show (lx + 1) ≤ 100 from (by first | assumption | omega | exact Or.inl rfl)), (show ∀ j, j < (lx + 1) → ¬ g_3 j = 3 from (fun j hj => by rw [eg_3]; by_cases e : j = lx; rw [e, upd_at rfl]; exact hkk; rw [upd_ne e]; exact hk3 j (by omega)))⟩⟩ d_MO_lexeme_45
  · skip
    have hn_5 : lx = 100 := (nI_eq (a := lx) (b := 100) (by omega) (by omega)).mp hb_1
    refine lv_aload_n hx hb d_MO_lexeme_9 rfl (lv_at hl 0 rfl) ?_
    refine lv_iconst (v := 2) hx hb d_MO_lexeme_10 (by decide) ?_
    refine em_call (wr := [((f 1), .inl (cI, 101, .inl ki)), ((f 2), .inl (cL, 101, .inr (.inl wh)))]) (em_runV (As := [.int 2]) (rest := []) ⟨hx, hb, hml, hown, hG⟩ (mo_wrong l D cI cL cZ cC f h0 tn rm ln lx at_ bd fs dp on os bn df th tp mo_ ev ss so lk rs pt ot cl 2 _ (by decide) (by first | assumption | omega | exact Or.inl rfl) hnt) (cwV 1 hG (gd_V k_1388 k_1390 k_54 k_116 k_1391) rfl rfl rfl (by decide +kernel) ⟨Nat.le_of_ble_eq_true rfl, Nat.le_of_ble_eq_true rfl⟩) (tw_V (q0 := 0) hP hD hK hE hst hS rfl rfl [0] rfl (by decide)) rfl rfl hl.1 rfl (lv_room (Nat.le_of_ble_eq_true rfl)) d_MO_lexeme_11 ⟨Nat.le_of_ble_eq_true rfl, Nat.le_of_ble_eq_true rfl⟩) hP hD hS hA [0] [1, 2] rfl rfl (by decide) (by decide) (fun v u H locs hok hP hD hS => ?_) (fun x C u H locs hbad hxx hP hD hS => ?_)
    · skip
      obtain ⟨bd_6, rfl⟩ : ∃ z, z = u := ⟨_, rfl⟩
      obtain ⟨rfl, hp_8⟩ := hok
      obtain ⟨hbn_9, hbo_10, hbx_11⟩ : (¬ bd_6 = 0) ∧ (bdo bd_6) ∧ (bd = 0 → bd_6 = (2 : Int32)) := hp_8
      have hP : va_P D classes [((f 1), .inl (cI, 101, .inl ki)), ((f 2), .inl (cL, 101, .inr (.inl wh))), (h0, .inr (8, mS f tn rm ln lx at_ bd_6 fs dp on os bn df th tp mo_ ev ss so lk rs pt ot cl))] H := hP
      have hD : va_D A [((f 1), .inl (cI, 101, .inl ki)), ((f 2), .inl (cL, 101, .inr (.inl wh))), (h0, .inr (8, mS f tn rm ln lx at_ bd_6 fs dp on os bn df th tp mo_ ev ss so lk rs pt ot cl))] := hD
      refine W.eq (g2 := F0 m 14 ls []) rfl ?_
      exact em_vret hx hb hr hlocks hP hD hK hS (lx, bd_6, ki, wh) [2, 0, 1] (by decide) rfl ⟨rfl, ⟨(show bdo bd_6 from (by first | assumption | omega | exact Or.inl rfl)), (show lx ≤ 100 from (by first | assumption | omega | exact Or.inl rfl)), (show ∀ j, j < lx → ¬ ki j = 3 from hk3)⟩⟩ d_MO_lexeme_14
    · skip
      exact hbad.elim
set_option maxHeartbeats 8000000 in
set_option maxRecDepth 100000 in
theorem mo_cut (l : Launch) (D : va_G) (cI cL cZ cC : ClassId) (f : Nat → Nat) (h0 : Nat) (tn : Int32) (rm : Nat) (ln : Nat) (lx : Nat) (at_ : Nat) (bd : Int32) (fs : Nat) (dp : Nat) (on : Nat) (os : Nat) (bn : Nat) (df : Nat) (th : Int32) (tp : Nat) (mo_ : Int32) (ev : Nat) (ss : Int32) (so : Int32) (lk : Int64) (rs : Int64) (pt : Int32) (ot : Nat) (cl : Int32) (ki : Nat → Int32) (wh : Nat → Int64) (tx : Nat → Int32) (sz : Nat) (hln : ln ≤ 240) (hbo : bdo bd) (hnt : l.stackTraces = false) : em_Met l y_MO_cut (wz y_MO_cut b_MO_cut 7 none) ({ frames := 2, cells := 0, slots := 0, locals := 44 }) (va_Pc [.ref h0] (tw_pre D (tys4 cI cL cZ cC) [(h0, .inr (8, mS f tn rm ln lx at_ bd fs dp on os bn df th tp mo_ ev ss so lk rs pt ot cl)), ((f 1), .inl (cI, 101, .inl ki)), ((f 2), .inl (cL, 101, .inr (.inl wh))), ((f 0), .inl (cI, 240, .inl tx))] sz)) D (tys4 cI cL cZ cC) (va_A [(h0, .inr (8, mS f tn rm ln lx at_ bd fs dp on os bn df th tp mo_ ev ss so lk rs pt ot cl)), ((f 1), .inl (cI, 101, .inl ki)), ((f 2), .inl (cL, 101, .inr (.inl wh))), ((f 0), .inl (cI, 240, .inl tx))] sz) (fun (u : Nat × Int32 × (Nat → Int32) × (Nat → Int64)) => [(h0, .inr (8, mS f tn rm ln u.1 at_ u.2.1 fs dp on os bn df th tp mo_ ev ss so lk rs pt ot cl)), ((f 1), .inl (cI, 101, .inl u.2.2.1)), ((f 2), .inl (cL, 101, .inr (.inl u.2.2.2))), ((f 0), .inl (cI, 240, .inl tx))]) (fun v (u : Nat × Int32 × (Nat → Int32) × (Nat → Int64)) => v = none ∧ ((bdo u.2.1) ∧ (u.1 ≤ 100) ∧ (∀ j, j < u.1 → ¬ u.2.2.1 j = 3) ∧ (u.2.2.1 u.1 = 3))) (fun C (u : Nat × Int32 × (Nat → Int32) × (Nat → Int64)) => False) 0 0 := by
  refine em_Met.ofW (cc := b_MO_cut) (maxL := 7) (ret := none) (by decide) rfl ?_
  intro p e s m args below meth c s₁ B hml hv hno
  obtain ⟨rfl, ⟨hsz, hP, hK, hD0⟩, hE⟩ := hv
  have hx := B.exec
  have hb := B.bytes
  have hr := B.returns
  have hts := atoms_spec (ws := wz y_MO_cut b_MO_cut 7 none) B.pre
  have hG := wz_G hts
  have hown : s.vm.findClass rn_MO = some m.cls := findClass_of_methodNamed B.named
  have hlocks := B.notSynchronized
  subst hsz
  have hD := hD0.self (sz := s.heap.size)
  have hst := tw_st hP
  generalize hAe : va_A [(h0, .inr (8, mS f tn rm ln lx at_ bd fs dp on os bn df th tp mo_ ev ss so lk rs pt ot cl)), ((f 1), .inl (cI, 101, .inl ki)), ((f 2), .inl (cL, 101, .inr (.inl wh))), ((f 0), .inl (cI, 240, .inl tx))] s.heap.size = A at hD hst ⊢
  have hA : ∀ q : Nat, s.heap.size ≤ q → A q := fun q h => by rw [← hAe]; exact Or.inr h
  have hS : va_S A s.heap s.heap [] := va_S.rf
  have hl := lv_entry ([.ref h0]) (n := 7) (Nat.le_of_ble_eq_true rfl)
  rw [lg_entry_eq]
  generalize (lg_sl ([.ref h0]) ++ List.replicate (7 - (lg_sl ([.ref h0])).length) Slot.unset).toArray = ls at hl ⊢
  have hl : lv_has ls 7 [(0, .ref h0)] := hl
  have loop_2 : ∀ (k_1 : Nat) (i : Nat) (mz : Nat) (lx1 : Nat) (bd1 : Int32) (ki1 : Nat → Int32) (wh1 : Nat → Int64) (H : Heap) (locs : List Loc) (ls : Array Slot), mz < k_1 → (i ≤ ln) → (bd1 = 0 → ln - i + 1 ≤ mz) → (bdo bd1) → (lx1 ≤ 100) → (∀ j, j < lx1 → ¬ ki1 j = 3) → lv_has ls 7 [(0, .ref h0), (1, .int (nI i))] → va_P D classes [(h0, .inr (8, mS f tn rm ln lx1 at_ bd1 fs dp on os bn df th tp mo_ ev ss so lk rs pt ot cl)), ((f 1), .inl (cI, 101, .inl ki1)), ((f 2), .inl (cL, 101, .inr (.inl wh1))), ((f 0), .inl (cI, 240, .inl tx))] H → va_D A [(h0, .inr (8, mS f tn rm ln lx1 at_ bd1 fs dp on os bn df th tp mo_ ev ss so lk rs pt ot cl)), ((f 1), .inl (cI, 101, .inl ki1)), ((f 2), .inl (cL, 101, .inr (.inl wh1))), ((f 0), .inl (cI, 240, .inl tx))] → va_S A s.heap H locs → W p l e (headSpec (wz y_MO_cut b_MO_cut 7 none) ({ frames := 2, cells := 0, slots := 0, locals := 44 })).room s m ([.ref h0] : List Value).toArray below meth c H locs 0 0 (em_MQ below D (tys4 cI cL cZ cC) A (fun (u : Nat × Int32 × (Nat → Int32) × (Nat → Int64)) => [(h0, .inr (8, mS f tn rm ln u.1 at_ u.2.1 fs dp on os bn df th tp mo_ ev ss so lk rs pt ot cl)), ((f 1), .inl (cI, 101, .inl u.2.2.1)), ((f 2), .inl (cL, 101, .inr (.inl u.2.2.2))), ((f 0), .inl (cI, 240, .inl tx))]) (fun v (u : Nat × Int32 × (Nat → Int32) × (Nat → Int64)) => v = none ∧ ((bdo u.2.1) ∧ (u.1 ≤ 100) ∧ (∀ j, j < u.1 → ¬ u.2.2.1 j = 3) ∧ (u.2.2.1 u.1 = 3))) (fun C (u : Nat × Int32 × (Nat → Int32) × (Nat → Int64)) => False) s 0 0) (F0 m 7 ls []) := by
    intro k_1
    induction k_1 with
    | zero => intro i mz lx1 bd1 ki1 wh1 H locs ls hm; exact absurd hm (Nat.not_lt_zero _)
    | succ k_1 ih_3 =>
      intro i mz lx1 bd1 ki1 wh1 H locs ls hm hi hmz hbo1 hl1 hk3 hl hP hD hS
      refine lv_iload_n hx hb d_MO_cut_7 rfl (lv_at hl 1 rfl) ?_
      refine lv_aload_n hx hb d_MO_cut_8 rfl (lv_at hl 0 rfl) ?_
      refine va_get (D := D) (ci := 8) (v := .int (nI ln)) (C := rn_MO) (T := fl_MO) (N := 55) hx hb hG in_MO hown hK hP 0 rfl rfl 2 (by decide) (hG _ k_1193) (fun _ h9 => h9) rfl d_MO_cut_9 ?_
      refine lv_icmp_ge (tgt := 274) hx hb d_MO_cut_12 (by decide) (fun hb_4 => ?_) (fun hb_4 => ?_)
      · skip
        have hn_5 : ln ≤ i := (nI_leI (a := ln) (b := i) (by omega) (by omega)).mp hb_4
        refine lv_aload_n hx hb d_MO_cut_274 rfl (lv_at hl 0 rfl) ?_
        refine va_get (D := D) (ci := 8) (v := .ref (f 1)) (C := rn_MO) (T := fl_MO) (N := 55) hx hb hG in_MO hown hK hP 0 rfl rfl 7 (by decide) (hG _ k_1198) (fun _ h9 => h9) rfl d_MO_cut_275 ?_
        refine lv_aload_n hx hb d_MO_cut_278 rfl (lv_at hl 0 rfl) ?_
        refine va_get (D := D) (ci := 8) (v := .int (nI lx1)) (C := rn_MO) (T := fl_MO) (N := 55) hx hb hG in_MO hown hK hP 0 rfl rfl 4 (by decide) (hG _ k_1195) (fun _ h9 => h9) rfl d_MO_cut_279 ?_
        refine lv_iconst (v := 3) hx hb d_MO_cut_282 (by decide) ?_
        refine va_iast hx hb hK hP hD hS 1 0 rfl rfl (vp_in_nI (n := lx1) (N := 101) (by omega) (by omega)) d_MO_cut_283 (fun H locs hP hD hS => ?_)
        have hP : va_P D classes [(h0, .inr (8, mS f tn rm ln lx1 at_ bd1 fs dp on os bn df th tp mo_ ev ss so lk rs pt ot cl)), ((f 1), .inl (cI, 101, .inl (upd ki1 (nI lx1).toNatClampNeg 3))), ((f 2), .inl (cL, 101, .inr (.inl wh1))), ((f 0), .inl (cI, 240, .inl tx))] H := hP
        have hD : va_D A [(h0, .inr (8, mS f tn rm ln lx1 at_ bd1 fs dp on os bn df th tp mo_ ev ss so lk rs pt ot cl)), ((f 1), .inl (cI, 101, .inl (upd ki1 (nI lx1).toNatClampNeg 3))), ((f 2), .inl (cL, 101, .inr (.inl wh1))), ((f 0), .inl (cI, 240, .inl tx))] := hD
        obtain ⟨g_6, eg_6⟩ : ∃ z, z = upd ki1 lx1 3 := ⟨_, rfl⟩
        rw [nI_clamp (n := lx1) (by omega), ← eg_6] at hP hD
        refine lv_aload_n hx hb d_MO_cut_284 rfl (lv_at hl 0 rfl) ?_
        refine va_get (D := D) (ci := 8) (v := .ref (f 2)) (C := rn_MO) (T := fl_MO) (N := 55) hx hb hG in_MO hown hK hP 0 rfl rfl 8 (by decide) (hG _ k_1199) (fun _ h9 => h9) rfl d_MO_cut_285 ?_
        refine lv_aload_n hx hb d_MO_cut_288 rfl (lv_at hl 0 rfl) ?_
        refine va_get (D := D) (ci := 8) (v := .int (nI lx1)) (C := rn_MO) (T := fl_MO) (N := 55) hx hb hG in_MO hown hK hP 0 rfl rfl 4 (by decide) (hG _ k_1195) (fun _ h9 => h9) rfl d_MO_cut_289 ?_
        refine lv_lconst (v := 0) hx hb d_MO_cut_292 (by decide) ?_
        refine va_last hx hb hK hP hD hS 2 1 rfl rfl (vp_in_nI (n := lx1) (N := 101) (by omega) (by omega)) d_MO_cut_293 (fun H locs hP hD hS => ?_)
        have hP : va_P D classes [(h0, .inr (8, mS f tn rm ln lx1 at_ bd1 fs dp on os bn df th tp mo_ ev ss so lk rs pt ot cl)), ((f 1), .inl (cI, 101, .inl g_6)), ((f 2), .inl (cL, 101, .inr (.inl (vp_updL wh1 (nI lx1).toNatClampNeg 0)))), ((f 0), .inl (cI, 240, .inl tx))] H := hP
        have hD : va_D A [(h0, .inr (8, mS f tn rm ln lx1 at_ bd1 fs dp on os bn df th tp mo_ ev ss so lk rs pt ot cl)), ((f 1), .inl (cI, 101, .inl g_6)), ((f 2), .inl (cL, 101, .inr (.inl (vp_updL wh1 (nI lx1).toNatClampNeg 0)))), ((f 0), .inl (cI, 240, .inl tx))] := hD
        obtain ⟨g_7, eg_7⟩ : ∃ z, z = vp_updL wh1 lx1 0 := ⟨_, rfl⟩
        rw [nI_clamp (n := lx1) (by omega), ← eg_7] at hP hD
        exact em_vret hx hb hr hlocks hP hD hK hS (lx1, bd1, g_6, g_7) [0, 1, 2, 3] (by decide) rfl ⟨rfl, ⟨(show bdo bd1 from (by first | assumption | omega | exact Or.inl rfl)), (show lx1 ≤ 100 from (by first | assumption | omega | exact Or.inl rfl)), (show ∀ j, j < lx1 → ¬ g_6 j = 3 from (fun j hj => by rw [eg_6, upd_ne (by omega)]; exact hk3 j hj)), (show g_6 lx1 = 3 from (by rw [eg_6]; exact upd_at rfl))⟩⟩ d_MO_cut_294
      · skip
        have hn_8 : ¬ ln ≤ i := fun h => hb_4 ((nI_leI (a := ln) (b := i) (by omega) (by omega)).mpr h)
        refine lv_aload_n hx hb d_MO_cut_15 rfl (lv_at hl 0 rfl) ?_
        refine va_get (D := D) (ci := 8) (v := .int bd1) (C := rn_MO) (T := fl_MO) (N := 55) hx hb hG in_MO hown hK hP 0 rfl rfl 6 (by decide) (hG _ k_1197) (fun _ h9 => h9) rfl d_MO_cut_16 ?_
        refine lv_if_ne (tgt := 274) hx hb d_MO_cut_19 (by decide) (fun hb_9 => ?_) (fun hb_9 => ?_)
        · skip
          refine lv_aload_n hx hb d_MO_cut_274 rfl (lv_at hl 0 rfl) ?_
          refine va_get (D := D) (ci := 8) (v := .ref (f 1)) (C := rn_MO) (T := fl_MO) (N := 55) hx hb hG in_MO hown hK hP 0 rfl rfl 7 (by decide) (hG _ k_1198) (fun _ h9 => h9) rfl d_MO_cut_275 ?_
          refine lv_aload_n hx hb d_MO_cut_278 rfl (lv_at hl 0 rfl) ?_
          refine va_get (D := D) (ci := 8) (v := .int (nI lx1)) (C := rn_MO) (T := fl_MO) (N := 55) hx hb hG in_MO hown hK hP 0 rfl rfl 4 (by decide) (hG _ k_1195) (fun _ h9 => h9) rfl d_MO_cut_279 ?_
          refine lv_iconst (v := 3) hx hb d_MO_cut_282 (by decide) ?_
          refine va_iast hx hb hK hP hD hS 1 0 rfl rfl (vp_in_nI (n := lx1) (N := 101) (by omega) (by omega)) d_MO_cut_283 (fun H locs hP hD hS => ?_)
          have hP : va_P D classes [(h0, .inr (8, mS f tn rm ln lx1 at_ bd1 fs dp on os bn df th tp mo_ ev ss so lk rs pt ot cl)), ((f 1), .inl (cI, 101, .inl (upd ki1 (nI lx1).toNatClampNeg 3))), ((f 2), .inl (cL, 101, .inr (.inl wh1))), ((f 0), .inl (cI, 240, .inl tx))] H := hP
          have hD : va_D A [(h0, .inr (8, mS f tn rm ln lx1 at_ bd1 fs dp on os bn df th tp mo_ ev ss so lk rs pt ot cl)), ((f 1), .inl (cI, 101, .inl (upd ki1 (nI lx1).toNatClampNeg 3))), ((f 2), .inl (cL, 101, .inr (.inl wh1))), ((f 0), .inl (cI, 240, .inl tx))] := hD
          obtain ⟨g_10, eg_10⟩ : ∃ z, z = upd ki1 lx1 3 := ⟨_, rfl⟩
          rw [nI_clamp (n := lx1) (by omega), ← eg_10] at hP hD
          refine lv_aload_n hx hb d_MO_cut_284 rfl (lv_at hl 0 rfl) ?_
          refine va_get (D := D) (ci := 8) (v := .ref (f 2)) (C := rn_MO) (T := fl_MO) (N := 55) hx hb hG in_MO hown hK hP 0 rfl rfl 8 (by decide) (hG _ k_1199) (fun _ h9 => h9) rfl d_MO_cut_285 ?_
          refine lv_aload_n hx hb d_MO_cut_288 rfl (lv_at hl 0 rfl) ?_
          refine va_get (D := D) (ci := 8) (v := .int (nI lx1)) (C := rn_MO) (T := fl_MO) (N := 55) hx hb hG in_MO hown hK hP 0 rfl rfl 4 (by decide) (hG _ k_1195) (fun _ h9 => h9) rfl d_MO_cut_289 ?_
          refine lv_lconst (v := 0) hx hb d_MO_cut_292 (by decide) ?_
          refine va_last hx hb hK hP hD hS 2 1 rfl rfl (vp_in_nI (n := lx1) (N := 101) (by omega) (by omega)) d_MO_cut_293 (fun H locs hP hD hS => ?_)
          have hP : va_P D classes [(h0, .inr (8, mS f tn rm ln lx1 at_ bd1 fs dp on os bn df th tp mo_ ev ss so lk rs pt ot cl)), ((f 1), .inl (cI, 101, .inl g_10)), ((f 2), .inl (cL, 101, .inr (.inl (vp_updL wh1 (nI lx1).toNatClampNeg 0)))), ((f 0), .inl (cI, 240, .inl tx))] H := hP
          have hD : va_D A [(h0, .inr (8, mS f tn rm ln lx1 at_ bd1 fs dp on os bn df th tp mo_ ev ss so lk rs pt ot cl)), ((f 1), .inl (cI, 101, .inl g_10)), ((f 2), .inl (cL, 101, .inr (.inl (vp_updL wh1 (nI lx1).toNatClampNeg 0)))), ((f 0), .inl (cI, 240, .inl tx))] := hD
          obtain ⟨g_11, eg_11⟩ : ∃ z, z = vp_updL wh1 lx1 0 := ⟨_, rfl⟩
          rw [nI_clamp (n := lx1) (by omega), ← eg_11] at hP hD
          exact em_vret hx hb hr hlocks hP hD hK hS (lx1, bd1, g_10, g_11) [0, 1, 2, 3] (by decide) rfl ⟨rfl, ⟨(show bdo bd1 from (by first | assumption | omega | exact Or.inl rfl)), (show lx1 ≤ 100 from (by first | assumption | omega | exact Or.inl rfl)), (show ∀ j, j < lx1 → ¬ g_10 j = 3 from (fun j hj => by rw [eg_10, upd_ne (by omega)]; exact hk3 j hj)), (show g_10 lx1 = 3 from (by rw [eg_10]; exact upd_at rfl))⟩⟩ d_MO_cut_294
        · skip
          have hmz1 := hmz hb_9
          refine lv_aload_n hx hb d_MO_cut_22 rfl (lv_at hl 0 rfl) ?_
          refine va_get (D := D) (ci := 8) (v := .ref (f 0)) (C := rn_MO) (T := fl_MO) (N := 55) hx hb hG in_MO hown hK hP 0 rfl rfl 3 (by decide) (hG _ k_1194) (fun _ h9 => h9) rfl d_MO_cut_23 ?_
          refine lv_iload_n hx hb d_MO_cut_26 rfl (lv_at hl 1 rfl) ?_
          refine va_iald hx hb hK hP 3 0 rfl rfl (vp_in_nI (n := i) (N := 240) (by omega) (by omega)) d_MO_cut_27 ?_
          refine W.eq (g2 := F0 m 28 ls [.int (tx i)]) (by rw [nI_clamp (n := i) (by omega)]) ?_
          refine lv_istore_n (lv' := [(2, .int (tx i)), (0, .ref h0), (1, .int (nI i))]) hx hb d_MO_cut_28 rfl hl (Nat.le_of_ble_eq_true rfl) rfl (fun ls hl => ?_)
          refine lv_lconst (v := 0) hx hb d_MO_cut_29 (by decide) ?_
          refine lv_lstore_n (lv' := [(3, .long 0), (2, .int (tx i)), (0, .ref h0), (1, .int (nI i))]) hx hb d_MO_cut_30 rfl hl (Nat.le_of_ble_eq_true rfl) rfl (fun ls hl => ?_)
          refine lv_iconst (v := 0) hx hb d_MO_cut_31 (by decide) ?_
          refine lv_istore (lv' := [(5, .int 0), (3, .long 0), (2, .int (tx i)), (0, .ref h0), (1, .int (nI i))]) hx hb d_MO_cut_32 hl (Nat.le_of_ble_eq_true rfl) rfl (fun ls hl => ?_)
          refine lv_iload_n hx hb d_MO_cut_34 rfl (lv_at hl 2 rfl) ?_
          refine W.callR (W.runS (As := [.int (tx i)]) (rest := []) ⟨hx, hb, hml, hown, hG⟩ (mo_isLetter l D cI cL cZ cC (tx i) ) (cwS 1 hG (gd_S k_1381 k_1382 k_116 k_1383) rfl rfl rfl (by decide +kernel) ⟨Nat.le_of_ble_eq_true rfl, Nat.le_of_ble_eq_true rfl⟩) (wq_S hP hK [] rfl) rfl rfl hl.1 rfl (lv_room (Nat.le_of_ble_eq_true rfl)) d_MO_cut_35 ⟨Nat.le_of_ble_eq_true rfl, Nat.le_of_ble_eq_true rfl⟩) ?_
          refine W.eq (g2 := F0 m 38 ls [.int (mwi (tx i) 97 122)]) rfl ?_
          refine lv_if_eq (tgt := 101) hx hb d_MO_cut_38 (by decide) (fun hb_12 => ?_) (fun hb_12 => ?_)
          · skip
            refine lv_iload_n hx hb d_MO_cut_101 rfl (lv_at hl 2 rfl) ?_
            refine W.callR (W.runS (As := [.int (tx i)]) (rest := []) ⟨hx, hb, hml, hown, hG⟩ (mo_digit l D cI cL cZ cC (tx i) ) (cwS 1 hG (gd_S k_1392 k_1393 k_116 k_1394) rfl rfl rfl (by decide +kernel) ⟨Nat.le_of_ble_eq_true rfl, Nat.le_of_ble_eq_true rfl⟩) (wq_S hP hK [] rfl) rfl rfl hl.1 rfl (lv_room (Nat.le_of_ble_eq_true rfl)) d_MO_cut_102 ⟨Nat.le_of_ble_eq_true rfl, Nat.le_of_ble_eq_true rfl⟩) ?_
            refine W.eq (g2 := F0 m 105 ls [.int (mwi (tx i) 48 57)]) rfl ?_
            refine lv_if_eq (tgt := 171) hx hb d_MO_cut_105 (by decide) (fun hb_13 => ?_) (fun hb_13 => ?_)
            · skip
              refine lv_iload_n hx hb d_MO_cut_171 rfl (lv_at hl 2 rfl) ?_
              refine lv_bipush (v := 32) hx hb d_MO_cut_172 (by decide) ?_
              refine lv_icmp_eq (tgt := 183) hx hb d_MO_cut_174 (by decide) (fun hb_14 => ?_) (fun hb_14 => ?_)
              · skip
                refine lv_iinc (k := 4) (v := nI (i + 1)) (lv' := [(1, .int (nI (i + 1))), (5, .int 0), (3, .long 0), (2, .int (tx i)), (0, .ref h0)]) hx hb d_MO_cut_183 hl rfl (lw_inc i 1) (Nat.le_of_ble_eq_true rfl) rfl (fun ls hl => ?_)
                refine lv_goto (tgt := 271) hx hb d_MO_cut_186 (by decide) ?_
                refine lv_goto (tgt := 7) hx hb d_MO_cut_271 (by decide) ?_
                have hl := lv_sub (l' := [(0, .ref h0), (1, .int (nI (i + 1)))]) hl [4, 0] rfl
                exact ih_3 (i + 1) (mz - 1) lx1 bd1 ki1 wh1 _ _ _ (by omega) (by omega) (fun _ => by omega) (by assumption) (by omega) (by first | assumption | exact (fun j hj => absurd hj (Nat.not_lt_zero _))) hl hP hD hS
              · skip
                refine lv_iload_n hx hb d_MO_cut_177 rfl (lv_at hl 2 rfl) ?_
                refine lv_bipush (v := 10) hx hb d_MO_cut_178 (by decide) ?_
                refine lv_icmp_ne (tgt := 189) hx hb d_MO_cut_180 (by decide) (fun hb_15 => ?_) (fun hb_15 => ?_)
                · skip
                  refine lv_iload_n hx hb d_MO_cut_189 rfl (lv_at hl 2 rfl) ?_
                  refine em_call (wr := [(h0, .inr (8, mS f tn rm ln lx1 at_ bd1 fs dp on os bn df th tp mo_ ev ss so lk rs pt ot cl)), ((f 1), .inl (cI, 101, .inl ki1)), ((f 2), .inl (cL, 101, .inr (.inl wh1))), ((f 0), .inl (cI, 240, .inl tx))]) (em_runS (As := [.int (tx i)]) (rest := []) ⟨hx, hb, hml, hown, hG⟩ (mo_sign l D cI cL cZ cC (tx i) _  hnt) (cwS 1 hG (gd_S k_1397 k_1398 k_116 k_1399) rfl rfl rfl (by decide +kernel) ⟨Nat.le_of_ble_eq_true rfl, Nat.le_of_ble_eq_true rfl⟩) (tw_S hP hD hK hE hst hS [] rfl (by decide)) rfl rfl hl.1 rfl (lv_room (Nat.le_of_ble_eq_true rfl)) d_MO_cut_190 ⟨Nat.le_of_ble_eq_true rfl, Nat.le_of_ble_eq_true rfl⟩) hP hD hS hA [] [0, 1, 2, 3] rfl rfl (by decide) (by decide) (fun v u H locs hok hP hD hS => ?_) (fun x C u H locs hbad hxx hP hD hS => ?_)
                  · skip
                    obtain ⟨r_16, rfl, hp_17⟩ := hok
                    have hP : va_P D classes [(h0, .inr (8, mS f tn rm ln lx1 at_ bd1 fs dp on os bn df th tp mo_ ev ss so lk rs pt ot cl)), ((f 1), .inl (cI, 101, .inl ki1)), ((f 2), .inl (cL, 101, .inr (.inl wh1))), ((f 0), .inl (cI, 240, .inl tx))] H := hP
                    have hD : va_D A [(h0, .inr (8, mS f tn rm ln lx1 at_ bd1 fs dp on os bn df th tp mo_ ev ss so lk rs pt ot cl)), ((f 1), .inl (cI, 101, .inl ki1)), ((f 2), .inl (cL, 101, .inr (.inl wh1))), ((f 0), .inl (cI, 240, .inl tx))] := hD
                    rcases hp_17 with rfl | rfl
                    · skip
                      refine W.eq (g2 := F0 m 193 ls [.int 0]) rfl ?_
                      refine lv_if_eq (tgt := 266) hx hb d_MO_cut_193 (by decide) (fun hbr => ?_) (fun hbr => absurd (by decide) hbr)
                      refine lv_aload_n hx hb d_MO_cut_266 rfl (lv_at hl 3 rfl) ?_
                      refine lv_iconst (v := 1) hx hb d_MO_cut_267 (by decide) ?_
                      refine em_call (wr := [((f 1), .inl (cI, 101, .inl ki1)), ((f 2), .inl (cL, 101, .inr (.inl wh1))), ((f 0), .inl (cI, 240, .inl tx))]) (em_runV (As := [.int 1]) (rest := []) ⟨hx, hb, hml, hown, hG⟩ (mo_wrong l D cI cL cZ cC f h0 tn rm ln lx1 at_ bd1 fs dp on os bn df th tp mo_ ev ss so lk rs pt ot cl 1 _ (by decide) (by first | assumption | omega | exact Or.inl rfl) hnt) (cwV 1 hG (gd_V k_1388 k_1390 k_54 k_116 k_1391) rfl rfl rfl (by decide +kernel) ⟨Nat.le_of_ble_eq_true rfl, Nat.le_of_ble_eq_true rfl⟩) (tw_V (q0 := 0) hP hD hK hE hst hS rfl rfl [0] rfl (by decide)) rfl rfl hl.1 rfl (lv_room (Nat.le_of_ble_eq_true rfl)) d_MO_cut_268 ⟨Nat.le_of_ble_eq_true rfl, Nat.le_of_ble_eq_true rfl⟩) hP hD hS hA [0] [1, 2, 3] rfl rfl (by decide) (by decide) (fun v u H locs hok hP hD hS => ?_) (fun x C u H locs hbad hxx hP hD hS => ?_)
                      · skip
                        obtain ⟨bd_18, rfl⟩ : ∃ z, z = u := ⟨_, rfl⟩
                        obtain ⟨rfl, hp_20⟩ := hok
                        obtain ⟨hbn_21, hbo_22, hbx_23⟩ : (¬ bd_18 = 0) ∧ (bdo bd_18) ∧ (bd1 = 0 → bd_18 = (1 : Int32)) := hp_20
                        have hP : va_P D classes [((f 1), .inl (cI, 101, .inl ki1)), ((f 2), .inl (cL, 101, .inr (.inl wh1))), ((f 0), .inl (cI, 240, .inl tx)), (h0, .inr (8, mS f tn rm ln lx1 at_ bd_18 fs dp on os bn df th tp mo_ ev ss so lk rs pt ot cl))] H := hP
                        have hD : va_D A [((f 1), .inl (cI, 101, .inl ki1)), ((f 2), .inl (cL, 101, .inr (.inl wh1))), ((f 0), .inl (cI, 240, .inl tx)), (h0, .inr (8, mS f tn rm ln lx1 at_ bd_18 fs dp on os bn df th tp mo_ ev ss so lk rs pt ot cl))] := hD
                        refine W.eq (g2 := F0 m 271 ls []) rfl ?_
                        refine lv_goto (tgt := 7) hx hb d_MO_cut_271 (by decide) ?_
                        have hl := lv_sub (l' := [(0, .ref h0), (1, .int (nI i))]) hl [3, 4] rfl
                        have hP : va_P D classes [(h0, .inr (8, mS f tn rm ln lx1 at_ bd_18 fs dp on os bn df th tp mo_ ev ss so lk rs pt ot cl)), ((f 1), .inl (cI, 101, .inl ki1)), ((f 2), .inl (cL, 101, .inr (.inl wh1))), ((f 0), .inl (cI, 240, .inl tx))] _ := hP.sub [3, 0, 1, 2] (wp_fm rfl)
                        have hD : va_D A [(h0, .inr (8, mS f tn rm ln lx1 at_ bd_18 fs dp on os bn df th tp mo_ ev ss so lk rs pt ot cl)), ((f 1), .inl (cI, 101, .inl ki1)), ((f 2), .inl (cL, 101, .inr (.inl wh1))), ((f 0), .inl (cI, 240, .inl tx))] := hD.sub [3, 0, 1, 2] (by decide) rfl
                        exact ih_3 i (mz - 1) lx1 bd_18 ki1 wh1 _ _ _ (by omega) (by omega) (fun q => absurd q hbn_21) (by assumption) (by omega) (by first | assumption | exact (fun j hj => absurd hj (Nat.not_lt_zero _))) hl hP hD hS
                      · skip
                        exact hbad.elim
                    · skip
                      refine W.eq (g2 := F0 m 193 ls [.int 1]) rfl ?_
                      refine lv_if_eq (tgt := 266) hx hb d_MO_cut_193 (by decide) (fun hbr => absurd hbr (by decide)) (fun hbr => ?_)
                      refine lv_iload_n hx hb d_MO_cut_196 rfl (lv_at hl 2 rfl) ?_
                      refine lv_bipush (v := 61) hx hb d_MO_cut_197 (by decide) ?_
                      refine lv_icmp_ne (tgt := 229) hx hb d_MO_cut_199 (by decide) (fun hb_25 => ?_) (fun hb_25 => ?_)
                      · skip
                        refine lv_iconst (v := 0) hx hb d_MO_cut_229 (by decide) ?_
                        refine lv_istore (lv' := [(6, .int 0), (5, .int 0), (3, .long 0), (2, .int (tx i)), (0, .ref h0), (1, .int (nI i))]) hx hb d_MO_cut_230 hl (Nat.le_of_ble_eq_true rfl) rfl (fun ls hl => ?_)
                        refine lv_aload_n hx hb d_MO_cut_232 rfl (lv_at hl 4 rfl) ?_
                        refine lv_iconst (v := 2) hx hb d_MO_cut_233 (by decide) ?_
                        refine lv_iload hx hb d_MO_cut_234 (lv_at hl 0 rfl) ?_
                        refine lv_if_eq (tgt := 245) hx hb d_MO_cut_236 (by decide) (fun hbr => ?_) (fun hbr => absurd (by decide) hbr)
                        refine lv_iload_n hx hb d_MO_cut_245 rfl (lv_at hl 3 rfl) ?_
                        refine lv_i2l hx hb d_MO_cut_246 rfl ?_
                        refine em_call (wr := [((f 0), .inl (cI, 240, .inl tx))]) (em_runV (As := [.int 2, .long ((tx i).toInt64)]) (rest := []) ⟨hx, hb, hml, hown, hG⟩ (mo_lexeme l D cI cL cZ cC f h0 tn rm ln lx1 at_ bd1 fs dp on os bn df th tp mo_ ev ss so lk rs pt ot cl ki1 wh1 2 ((tx i).toInt64) _ (by first | assumption | omega | exact Or.inl rfl) (by first | assumption | omega | exact Or.inl rfl) (by decide) (by first | assumption | omega | exact Or.inl rfl) hnt) (cwV 2 hG (gd_V k_1384 k_1386 k_53 k_116 k_1387) rfl rfl rfl (by decide +kernel) ⟨Nat.le_of_ble_eq_true rfl, Nat.le_of_ble_eq_true rfl⟩) (tw_V (q0 := 0) hP hD hK hE hst hS rfl rfl [0, 1, 2] rfl (by decide)) rfl rfl hl.1 rfl (lv_room (Nat.le_of_ble_eq_true rfl)) d_MO_cut_247 ⟨Nat.le_of_ble_eq_true rfl, Nat.le_of_ble_eq_true rfl⟩) hP hD hS hA [0, 1, 2] [3] rfl rfl (by decide) (by decide) (fun v u H locs hok hP hD hS => ?_) (fun x C u H locs hbad hxx hP hD hS => ?_)
                        · skip
                          obtain ⟨lx_26, bd_27, ki_28, wh_29⟩ := u
                          obtain ⟨rfl, hp_31⟩ := hok
                          obtain ⟨hbo_32, hl1_33, hk3_34⟩ : (bdo bd_27) ∧ (lx_26 ≤ 100) ∧ (∀ j, j < lx_26 → ¬ ki_28 j = 3) := hp_31
                          have hP : va_P D classes [((f 0), .inl (cI, 240, .inl tx)), (h0, .inr (8, mS f tn rm ln lx_26 at_ bd_27 fs dp on os bn df th tp mo_ ev ss so lk rs pt ot cl)), ((f 1), .inl (cI, 101, .inl ki_28)), ((f 2), .inl (cL, 101, .inr (.inl wh_29)))] H := hP
                          have hD : va_D A [((f 0), .inl (cI, 240, .inl tx)), (h0, .inr (8, mS f tn rm ln lx_26 at_ bd_27 fs dp on os bn df th tp mo_ ev ss so lk rs pt ot cl)), ((f 1), .inl (cI, 101, .inl ki_28)), ((f 2), .inl (cL, 101, .inr (.inl wh_29)))] := hD
                          refine W.eq (g2 := F0 m 250 ls []) rfl ?_
                          refine lv_iload_n hx hb d_MO_cut_250 rfl (lv_at hl 5 rfl) ?_
                          refine lv_iload hx hb d_MO_cut_251 (lv_at hl 0 rfl) ?_
                          refine lv_if_eq (tgt := 260) hx hb d_MO_cut_253 (by decide) (fun hbr => ?_) (fun hbr => absurd (by decide) hbr)
                          refine lv_iconst (v := 1) hx hb d_MO_cut_260 (by decide) ?_
                          refine lw_iadd (a := i) (b := 1) hx hb d_MO_cut_261 ?_
                          refine lv_istore_n (lv' := [(1, .int (nI (i + 1))), (6, .int 0), (5, .int 0), (3, .long 0), (2, .int (tx i)), (0, .ref h0)]) hx hb d_MO_cut_262 rfl hl (Nat.le_of_ble_eq_true rfl) rfl (fun ls hl => ?_)
                          refine lv_goto (tgt := 271) hx hb d_MO_cut_263 (by decide) ?_
                          refine lv_goto (tgt := 7) hx hb d_MO_cut_271 (by decide) ?_
                          have hl := lv_sub (l' := [(0, .ref h0), (1, .int (nI (i + 1)))]) hl [5, 0] rfl
                          have hP : va_P D classes [(h0, .inr (8, mS f tn rm ln lx_26 at_ bd_27 fs dp on os bn df th tp mo_ ev ss so lk rs pt ot cl)), ((f 1), .inl (cI, 101, .inl ki_28)), ((f 2), .inl (cL, 101, .inr (.inl wh_29))), ((f 0), .inl (cI, 240, .inl tx))] _ := hP.sub [1, 2, 3, 0] (wp_fm rfl)
                          have hD : va_D A [(h0, .inr (8, mS f tn rm ln lx_26 at_ bd_27 fs dp on os bn df th tp mo_ ev ss so lk rs pt ot cl)), ((f 1), .inl (cI, 101, .inl ki_28)), ((f 2), .inl (cL, 101, .inr (.inl wh_29))), ((f 0), .inl (cI, 240, .inl tx))] := hD.sub [1, 2, 3, 0] (by decide) rfl
                          exact ih_3 (i + 1) (mz - 1) lx_26 bd_27 ki_28 wh_29 _ _ _ (by omega) (by omega) (fun _ => by omega) (by assumption) (by omega) (by first | assumption | exact (fun j hj => absurd hj (Nat.not_lt_zero _))) hl hP hD hS
                        · skip
                          exact hbad.elim
                      · skip
                        refine lv_iload_n hx hb d_MO_cut_202 rfl (lv_at hl 4 rfl) ?_
                        refine lv_iconst (v := 1) hx hb d_MO_cut_203 (by decide) ?_
                        refine lw_iadd (a := i) (b := 1) hx hb d_MO_cut_204 ?_
                        refine lv_aload_n hx hb d_MO_cut_205 rfl (lv_at hl 3 rfl) ?_
                        refine va_get (D := D) (ci := 8) (v := .int (nI ln)) (C := rn_MO) (T := fl_MO) (N := 55) hx hb hG in_MO hown hK hP 0 rfl rfl 2 (by decide) (hG _ k_1193) (fun _ h9 => h9) rfl d_MO_cut_206 ?_
                        refine lv_icmp_ge (tgt := 229) hx hb d_MO_cut_209 (by decide) (fun hb_36 => ?_) (fun hb_36 => ?_)
                        · skip
                          have hn_37 : ln ≤ (i + 1) := (nI_leI (a := ln) (b := i + 1) (by omega) (by omega)).mp hb_36
                          refine lv_iconst (v := 0) hx hb d_MO_cut_229 (by decide) ?_
                          refine lv_istore (lv' := [(6, .int 0), (5, .int 0), (3, .long 0), (2, .int (tx i)), (0, .ref h0), (1, .int (nI i))]) hx hb d_MO_cut_230 hl (Nat.le_of_ble_eq_true rfl) rfl (fun ls hl => ?_)
                          refine lv_aload_n hx hb d_MO_cut_232 rfl (lv_at hl 4 rfl) ?_
                          refine lv_iconst (v := 2) hx hb d_MO_cut_233 (by decide) ?_
                          refine lv_iload hx hb d_MO_cut_234 (lv_at hl 0 rfl) ?_
                          refine lv_if_eq (tgt := 245) hx hb d_MO_cut_236 (by decide) (fun hbr => ?_) (fun hbr => absurd (by decide) hbr)
                          refine lv_iload_n hx hb d_MO_cut_245 rfl (lv_at hl 3 rfl) ?_
                          refine lv_i2l hx hb d_MO_cut_246 rfl ?_
                          refine em_call (wr := [((f 0), .inl (cI, 240, .inl tx))]) (em_runV (As := [.int 2, .long ((tx i).toInt64)]) (rest := []) ⟨hx, hb, hml, hown, hG⟩ (mo_lexeme l D cI cL cZ cC f h0 tn rm ln lx1 at_ bd1 fs dp on os bn df th tp mo_ ev ss so lk rs pt ot cl ki1 wh1 2 ((tx i).toInt64) _ (by first | assumption | omega | exact Or.inl rfl) (by first | assumption | omega | exact Or.inl rfl) (by decide) (by first | assumption | omega | exact Or.inl rfl) hnt) (cwV 2 hG (gd_V k_1384 k_1386 k_53 k_116 k_1387) rfl rfl rfl (by decide +kernel) ⟨Nat.le_of_ble_eq_true rfl, Nat.le_of_ble_eq_true rfl⟩) (tw_V (q0 := 0) hP hD hK hE hst hS rfl rfl [0, 1, 2] rfl (by decide)) rfl rfl hl.1 rfl (lv_room (Nat.le_of_ble_eq_true rfl)) d_MO_cut_247 ⟨Nat.le_of_ble_eq_true rfl, Nat.le_of_ble_eq_true rfl⟩) hP hD hS hA [0, 1, 2] [3] rfl rfl (by decide) (by decide) (fun v u H locs hok hP hD hS => ?_) (fun x C u H locs hbad hxx hP hD hS => ?_)
                          · skip
                            obtain ⟨lx_38, bd_39, ki_40, wh_41⟩ := u
                            obtain ⟨rfl, hp_43⟩ := hok
                            obtain ⟨hbo_44, hl1_45, hk3_46⟩ : (bdo bd_39) ∧ (lx_38 ≤ 100) ∧ (∀ j, j < lx_38 → ¬ ki_40 j = 3) := hp_43
                            have hP : va_P D classes [((f 0), .inl (cI, 240, .inl tx)), (h0, .inr (8, mS f tn rm ln lx_38 at_ bd_39 fs dp on os bn df th tp mo_ ev ss so lk rs pt ot cl)), ((f 1), .inl (cI, 101, .inl ki_40)), ((f 2), .inl (cL, 101, .inr (.inl wh_41)))] H := hP
                            have hD : va_D A [((f 0), .inl (cI, 240, .inl tx)), (h0, .inr (8, mS f tn rm ln lx_38 at_ bd_39 fs dp on os bn df th tp mo_ ev ss so lk rs pt ot cl)), ((f 1), .inl (cI, 101, .inl ki_40)), ((f 2), .inl (cL, 101, .inr (.inl wh_41)))] := hD
                            refine W.eq (g2 := F0 m 250 ls []) rfl ?_
                            refine lv_iload_n hx hb d_MO_cut_250 rfl (lv_at hl 5 rfl) ?_
                            refine lv_iload hx hb d_MO_cut_251 (lv_at hl 0 rfl) ?_
                            refine lv_if_eq (tgt := 260) hx hb d_MO_cut_253 (by decide) (fun hbr => ?_) (fun hbr => absurd (by decide) hbr)
                            refine lv_iconst (v := 1) hx hb d_MO_cut_260 (by decide) ?_
                            refine lw_iadd (a := i) (b := 1) hx hb d_MO_cut_261 ?_
                            refine lv_istore_n (lv' := [(1, .int (nI (i + 1))), (6, .int 0), (5, .int 0), (3, .long 0), (2, .int (tx i)), (0, .ref h0)]) hx hb d_MO_cut_262 rfl hl (Nat.le_of_ble_eq_true rfl) rfl (fun ls hl => ?_)
                            refine lv_goto (tgt := 271) hx hb d_MO_cut_263 (by decide) ?_
                            refine lv_goto (tgt := 7) hx hb d_MO_cut_271 (by decide) ?_
                            have hl := lv_sub (l' := [(0, .ref h0), (1, .int (nI (i + 1)))]) hl [5, 0] rfl
                            have hP : va_P D classes [(h0, .inr (8, mS f tn rm ln lx_38 at_ bd_39 fs dp on os bn df th tp mo_ ev ss so lk rs pt ot cl)), ((f 1), .inl (cI, 101, .inl ki_40)), ((f 2), .inl (cL, 101, .inr (.inl wh_41))), ((f 0), .inl (cI, 240, .inl tx))] _ := hP.sub [1, 2, 3, 0] (wp_fm rfl)
                            have hD : va_D A [(h0, .inr (8, mS f tn rm ln lx_38 at_ bd_39 fs dp on os bn df th tp mo_ ev ss so lk rs pt ot cl)), ((f 1), .inl (cI, 101, .inl ki_40)), ((f 2), .inl (cL, 101, .inr (.inl wh_41))), ((f 0), .inl (cI, 240, .inl tx))] := hD.sub [1, 2, 3, 0] (by decide) rfl
                            exact ih_3 (i + 1) (mz - 1) lx_38 bd_39 ki_40 wh_41 _ _ _ (by omega) (by omega) (fun _ => by omega) (by assumption) (by omega) (by first | assumption | exact (fun j hj => absurd hj (Nat.not_lt_zero _))) hl hP hD hS
                          · skip
                            exact hbad.elim
                        · skip
                          have hn_48 : ¬ ln ≤ (i + 1) := fun h => hb_36 ((nI_leI (a := ln) (b := i + 1) (by omega) (by omega)).mpr h)
                          refine lv_aload_n hx hb d_MO_cut_212 rfl (lv_at hl 3 rfl) ?_
                          refine va_get (D := D) (ci := 8) (v := .ref (f 0)) (C := rn_MO) (T := fl_MO) (N := 55) hx hb hG in_MO hown hK hP 0 rfl rfl 3 (by decide) (hG _ k_1194) (fun _ h9 => h9) rfl d_MO_cut_213 ?_
                          refine lv_iload_n hx hb d_MO_cut_216 rfl (lv_at hl 4 rfl) ?_
                          refine lv_iconst (v := 1) hx hb d_MO_cut_217 (by decide) ?_
                          refine lw_iadd (a := i) (b := 1) hx hb d_MO_cut_218 ?_
                          refine va_iald hx hb hK hP 3 0 rfl rfl (vp_in_nI (n := i + 1) (N := 240) (by omega) (by omega)) d_MO_cut_219 ?_
                          refine W.eq (g2 := F0 m 220 ls [.int (tx (i + 1))]) (by rw [nI_clamp (n := i + 1) (by omega)]) ?_
                          refine lv_bipush (v := 61) hx hb d_MO_cut_220 (by decide) ?_
                          refine lv_icmp_ne (tgt := 229) hx hb d_MO_cut_222 (by decide) (fun hb_49 => ?_) (fun hb_49 => ?_)
                          · skip
                            refine lv_iconst (v := 0) hx hb d_MO_cut_229 (by decide) ?_
                            refine lv_istore (lv' := [(6, .int 0), (5, .int 0), (3, .long 0), (2, .int (tx i)), (0, .ref h0), (1, .int (nI i))]) hx hb d_MO_cut_230 hl (Nat.le_of_ble_eq_true rfl) rfl (fun ls hl => ?_)
                            refine lv_aload_n hx hb d_MO_cut_232 rfl (lv_at hl 4 rfl) ?_
                            refine lv_iconst (v := 2) hx hb d_MO_cut_233 (by decide) ?_
                            refine lv_iload hx hb d_MO_cut_234 (lv_at hl 0 rfl) ?_
                            refine lv_if_eq (tgt := 245) hx hb d_MO_cut_236 (by decide) (fun hbr => ?_) (fun hbr => absurd (by decide) hbr)
                            refine lv_iload_n hx hb d_MO_cut_245 rfl (lv_at hl 3 rfl) ?_
                            refine lv_i2l hx hb d_MO_cut_246 rfl ?_
                            refine em_call (wr := [((f 0), .inl (cI, 240, .inl tx))]) (em_runV (As := [.int 2, .long ((tx i).toInt64)]) (rest := []) ⟨hx, hb, hml, hown, hG⟩ (mo_lexeme l D cI cL cZ cC f h0 tn rm ln lx1 at_ bd1 fs dp on os bn df th tp mo_ ev ss so lk rs pt ot cl ki1 wh1 2 ((tx i).toInt64) _ (by first | assumption | omega | exact Or.inl rfl) (by first | assumption | omega | exact Or.inl rfl) (by decide) (by first | assumption | omega | exact Or.inl rfl) hnt) (cwV 2 hG (gd_V k_1384 k_1386 k_53 k_116 k_1387) rfl rfl rfl (by decide +kernel) ⟨Nat.le_of_ble_eq_true rfl, Nat.le_of_ble_eq_true rfl⟩) (tw_V (q0 := 0) hP hD hK hE hst hS rfl rfl [0, 1, 2] rfl (by decide)) rfl rfl hl.1 rfl (lv_room (Nat.le_of_ble_eq_true rfl)) d_MO_cut_247 ⟨Nat.le_of_ble_eq_true rfl, Nat.le_of_ble_eq_true rfl⟩) hP hD hS hA [0, 1, 2] [3] rfl rfl (by decide) (by decide) (fun v u H locs hok hP hD hS => ?_) (fun x C u H locs hbad hxx hP hD hS => ?_)
                            · skip
                              obtain ⟨lx_50, bd_51, ki_52, wh_53⟩ := u
                              obtain ⟨rfl, hp_55⟩ := hok
                              obtain ⟨hbo_56, hl1_57, hk3_58⟩ : (bdo bd_51) ∧ (lx_50 ≤ 100) ∧ (∀ j, j < lx_50 → ¬ ki_52 j = 3) := hp_55
                              have hP : va_P D classes [((f 0), .inl (cI, 240, .inl tx)), (h0, .inr (8, mS f tn rm ln lx_50 at_ bd_51 fs dp on os bn df th tp mo_ ev ss so lk rs pt ot cl)), ((f 1), .inl (cI, 101, .inl ki_52)), ((f 2), .inl (cL, 101, .inr (.inl wh_53)))] H := hP
                              have hD : va_D A [((f 0), .inl (cI, 240, .inl tx)), (h0, .inr (8, mS f tn rm ln lx_50 at_ bd_51 fs dp on os bn df th tp mo_ ev ss so lk rs pt ot cl)), ((f 1), .inl (cI, 101, .inl ki_52)), ((f 2), .inl (cL, 101, .inr (.inl wh_53)))] := hD
                              refine W.eq (g2 := F0 m 250 ls []) rfl ?_
                              refine lv_iload_n hx hb d_MO_cut_250 rfl (lv_at hl 5 rfl) ?_
                              refine lv_iload hx hb d_MO_cut_251 (lv_at hl 0 rfl) ?_
                              refine lv_if_eq (tgt := 260) hx hb d_MO_cut_253 (by decide) (fun hbr => ?_) (fun hbr => absurd (by decide) hbr)
                              refine lv_iconst (v := 1) hx hb d_MO_cut_260 (by decide) ?_
                              refine lw_iadd (a := i) (b := 1) hx hb d_MO_cut_261 ?_
                              refine lv_istore_n (lv' := [(1, .int (nI (i + 1))), (6, .int 0), (5, .int 0), (3, .long 0), (2, .int (tx i)), (0, .ref h0)]) hx hb d_MO_cut_262 rfl hl (Nat.le_of_ble_eq_true rfl) rfl (fun ls hl => ?_)
                              refine lv_goto (tgt := 271) hx hb d_MO_cut_263 (by decide) ?_
                              refine lv_goto (tgt := 7) hx hb d_MO_cut_271 (by decide) ?_
                              have hl := lv_sub (l' := [(0, .ref h0), (1, .int (nI (i + 1)))]) hl [5, 0] rfl
                              have hP : va_P D classes [(h0, .inr (8, mS f tn rm ln lx_50 at_ bd_51 fs dp on os bn df th tp mo_ ev ss so lk rs pt ot cl)), ((f 1), .inl (cI, 101, .inl ki_52)), ((f 2), .inl (cL, 101, .inr (.inl wh_53))), ((f 0), .inl (cI, 240, .inl tx))] _ := hP.sub [1, 2, 3, 0] (wp_fm rfl)
                              have hD : va_D A [(h0, .inr (8, mS f tn rm ln lx_50 at_ bd_51 fs dp on os bn df th tp mo_ ev ss so lk rs pt ot cl)), ((f 1), .inl (cI, 101, .inl ki_52)), ((f 2), .inl (cL, 101, .inr (.inl wh_53))), ((f 0), .inl (cI, 240, .inl tx))] := hD.sub [1, 2, 3, 0] (by decide) rfl
                              exact ih_3 (i + 1) (mz - 1) lx_50 bd_51 ki_52 wh_53 _ _ _ (by omega) (by omega) (fun _ => by omega) (by assumption) (by omega) (by first | assumption | exact (fun j hj => absurd hj (Nat.not_lt_zero _))) hl hP hD hS
                            · skip
                              exact hbad.elim
                          · skip
                            refine lv_iconst (v := 1) hx hb d_MO_cut_225 (by decide) ?_
                            refine lv_goto (tgt := 230) hx hb d_MO_cut_226 (by decide) ?_
                            refine lv_istore (lv' := [(6, .int 1), (5, .int 0), (3, .long 0), (2, .int (tx i)), (0, .ref h0), (1, .int (nI i))]) hx hb d_MO_cut_230 hl (Nat.le_of_ble_eq_true rfl) rfl (fun ls hl => ?_)
                            refine lv_aload_n hx hb d_MO_cut_232 rfl (lv_at hl 4 rfl) ?_
                            refine lv_iconst (v := 2) hx hb d_MO_cut_233 (by decide) ?_
                            refine lv_iload hx hb d_MO_cut_234 (lv_at hl 0 rfl) ?_
                            refine lv_if_eq (tgt := 245) hx hb d_MO_cut_236 (by decide) (fun hbr => absurd hbr (by decide)) (fun hbr => ?_)
                            refine lv_ldc2 (v := 15677) hx hb hown (hG _ k_1400) d_MO_cut_239 ?_
                            refine lv_goto (tgt := 247) hx hb d_MO_cut_242 (by decide) ?_
                            refine em_call (wr := [((f 0), .inl (cI, 240, .inl tx))]) (em_runV (As := [.int 2, .long 15677]) (rest := []) ⟨hx, hb, hml, hown, hG⟩ (mo_lexeme l D cI cL cZ cC f h0 tn rm ln lx1 at_ bd1 fs dp on os bn df th tp mo_ ev ss so lk rs pt ot cl ki1 wh1 2 15677 _ (by first | assumption | omega | exact Or.inl rfl) (by first | assumption | omega | exact Or.inl rfl) (by decide) (by first | assumption | omega | exact Or.inl rfl) hnt) (cwV 2 hG (gd_V k_1384 k_1386 k_53 k_116 k_1387) rfl rfl rfl (by decide +kernel) ⟨Nat.le_of_ble_eq_true rfl, Nat.le_of_ble_eq_true rfl⟩) (tw_V (q0 := 0) hP hD hK hE hst hS rfl rfl [0, 1, 2] rfl (by decide)) rfl rfl hl.1 rfl (lv_room (Nat.le_of_ble_eq_true rfl)) d_MO_cut_247 ⟨Nat.le_of_ble_eq_true rfl, Nat.le_of_ble_eq_true rfl⟩) hP hD hS hA [0, 1, 2] [3] rfl rfl (by decide) (by decide) (fun v u H locs hok hP hD hS => ?_) (fun x C u H locs hbad hxx hP hD hS => ?_)
                            · skip
                              obtain ⟨lx_60, bd_61, ki_62, wh_63⟩ := u
                              obtain ⟨rfl, hp_65⟩ := hok
                              obtain ⟨hbo_66, hl1_67, hk3_68⟩ : (bdo bd_61) ∧ (lx_60 ≤ 100) ∧ (∀ j, j < lx_60 → ¬ ki_62 j = 3) := hp_65
                              have hP : va_P D classes [((f 0), .inl (cI, 240, .inl tx)), (h0, .inr (8, mS f tn rm ln lx_60 at_ bd_61 fs dp on os bn df th tp mo_ ev ss so lk rs pt ot cl)), ((f 1), .inl (cI, 101, .inl ki_62)), ((f 2), .inl (cL, 101, .inr (.inl wh_63)))] H := hP
                              have hD : va_D A [((f 0), .inl (cI, 240, .inl tx)), (h0, .inr (8, mS f tn rm ln lx_60 at_ bd_61 fs dp on os bn df th tp mo_ ev ss so lk rs pt ot cl)), ((f 1), .inl (cI, 101, .inl ki_62)), ((f 2), .inl (cL, 101, .inr (.inl wh_63)))] := hD
                              refine W.eq (g2 := F0 m 250 ls []) rfl ?_
                              refine lv_iload_n hx hb d_MO_cut_250 rfl (lv_at hl 5 rfl) ?_
                              refine lv_iload hx hb d_MO_cut_251 (lv_at hl 0 rfl) ?_
                              refine lv_if_eq (tgt := 260) hx hb d_MO_cut_253 (by decide) (fun hbr => absurd hbr (by decide)) (fun hbr => ?_)
                              refine lv_iconst (v := 2) hx hb d_MO_cut_256 (by decide) ?_
                              refine lv_goto (tgt := 261) hx hb d_MO_cut_257 (by decide) ?_
                              refine lw_iadd (a := i) (b := 2) hx hb d_MO_cut_261 ?_
                              refine lv_istore_n (lv' := [(1, .int (nI (i + 2))), (6, .int 1), (5, .int 0), (3, .long 0), (2, .int (tx i)), (0, .ref h0)]) hx hb d_MO_cut_262 rfl hl (Nat.le_of_ble_eq_true rfl) rfl (fun ls hl => ?_)
                              refine lv_goto (tgt := 271) hx hb d_MO_cut_263 (by decide) ?_
                              refine lv_goto (tgt := 7) hx hb d_MO_cut_271 (by decide) ?_
                              have hl := lv_sub (l' := [(0, .ref h0), (1, .int (nI (i + 2)))]) hl [5, 0] rfl
                              have hP : va_P D classes [(h0, .inr (8, mS f tn rm ln lx_60 at_ bd_61 fs dp on os bn df th tp mo_ ev ss so lk rs pt ot cl)), ((f 1), .inl (cI, 101, .inl ki_62)), ((f 2), .inl (cL, 101, .inr (.inl wh_63))), ((f 0), .inl (cI, 240, .inl tx))] _ := hP.sub [1, 2, 3, 0] (wp_fm rfl)
                              have hD : va_D A [(h0, .inr (8, mS f tn rm ln lx_60 at_ bd_61 fs dp on os bn df th tp mo_ ev ss so lk rs pt ot cl)), ((f 1), .inl (cI, 101, .inl ki_62)), ((f 2), .inl (cL, 101, .inr (.inl wh_63))), ((f 0), .inl (cI, 240, .inl tx))] := hD.sub [1, 2, 3, 0] (by decide) rfl
                              exact ih_3 (i + 2) (mz - 1) lx_60 bd_61 ki_62 wh_63 _ _ _ (by omega) (by omega) (fun _ => by omega) (by assumption) (by omega) (by first | assumption | exact (fun j hj => absurd hj (Nat.not_lt_zero _))) hl hP hD hS
                            · skip
                              exact hbad.elim
                  · skip
                    exact hbad.elim
                · skip
                  refine lv_iinc (k := 4) (v := nI (i + 1)) (lv' := [(1, .int (nI (i + 1))), (5, .int 0), (3, .long 0), (2, .int (tx i)), (0, .ref h0)]) hx hb d_MO_cut_183 hl rfl (lw_inc i 1) (Nat.le_of_ble_eq_true rfl) rfl (fun ls hl => ?_)
                  refine lv_goto (tgt := 271) hx hb d_MO_cut_186 (by decide) ?_
                  refine lv_goto (tgt := 7) hx hb d_MO_cut_271 (by decide) ?_
                  have hl := lv_sub (l' := [(0, .ref h0), (1, .int (nI (i + 1)))]) hl [4, 0] rfl
                  exact ih_3 (i + 1) (mz - 1) lx1 bd1 ki1 wh1 _ _ _ (by omega) (by omega) (fun _ => by omega) (by assumption) (by omega) (by first | assumption | exact (fun j hj => absurd hj (Nat.not_lt_zero _))) hl hP hD hS
            · skip
              have loop_71 : ∀ (k_70 : Nat) (i2 : Nat) (v2 : Int64) (n2 : Nat) (H : Heap) (locs : List Loc) (ls : Array Slot), ln - i2 < k_70 → (i2 ≤ ln) → (i2 = i + n2) → lv_has ls 7 [(0, .ref h0), (1, .int (nI i2)), (3, .long v2), (5, .int (nI n2))] → va_P D classes [(h0, .inr (8, mS f tn rm ln lx1 at_ bd1 fs dp on os bn df th tp mo_ ev ss so lk rs pt ot cl)), ((f 1), .inl (cI, 101, .inl ki1)), ((f 2), .inl (cL, 101, .inr (.inl wh1))), ((f 0), .inl (cI, 240, .inl tx))] H → va_D A [(h0, .inr (8, mS f tn rm ln lx1 at_ bd1 fs dp on os bn df th tp mo_ ev ss so lk rs pt ot cl)), ((f 1), .inl (cI, 101, .inl ki1)), ((f 2), .inl (cL, 101, .inr (.inl wh1))), ((f 0), .inl (cI, 240, .inl tx))] → va_S A s.heap H locs → W p l e (headSpec (wz y_MO_cut b_MO_cut 7 none) ({ frames := 2, cells := 0, slots := 0, locals := 44 })).room s m ([.ref h0] : List Value).toArray below meth c H locs 0 0 (em_MQ below D (tys4 cI cL cZ cC) A (fun (u : Nat × Int32 × (Nat → Int32) × (Nat → Int64)) => [(h0, .inr (8, mS f tn rm ln u.1 at_ u.2.1 fs dp on os bn df th tp mo_ ev ss so lk rs pt ot cl)), ((f 1), .inl (cI, 101, .inl u.2.2.1)), ((f 2), .inl (cL, 101, .inr (.inl u.2.2.2))), ((f 0), .inl (cI, 240, .inl tx))]) (fun v (u : Nat × Int32 × (Nat → Int32) × (Nat → Int64)) => v = none ∧ ((bdo u.2.1) ∧ (u.1 ≤ 100) ∧ (∀ j, j < u.1 → ¬ u.2.2.1 j = 3) ∧ (u.2.2.1 u.1 = 3))) (fun C (u : Nat × Int32 × (Nat → Int32) × (Nat → Int64)) => False) s 0 0) (F0 m 108 ls []) := by
                intro k_70
                induction k_70 with
                | zero => intro i2 v2 n2 H locs ls hm; exact absurd hm (Nat.not_lt_zero _)
                | succ k_70 ih_72 =>
                  intro i2 v2 n2 H locs ls hm hi2 hin hl hP hD hS
                  refine lv_iload hx hb d_MO_cut_108 (lv_at hl 3 rfl) ?_
                  refine lv_bipush (v := 6) hx hb d_MO_cut_110 (by decide) ?_
                  refine lv_icmp_ge (tgt := 162) hx hb d_MO_cut_112 (by decide) (fun hb_73 => ?_) (fun hb_73 => ?_)
                  · skip
                    have hn_74 : 6 ≤ n2 := (nI_leI (a := 6) (b := n2) (by omega) (by omega)).mp hb_73
                    refine lv_aload_n hx hb d_MO_cut_162 rfl (lv_at hl 0 rfl) ?_
                    refine lv_iconst (v := 1) hx hb d_MO_cut_163 (by decide) ?_
                    refine lv_lload_n hx hb d_MO_cut_164 rfl (lv_at hl 2 rfl) ?_
                    refine em_call (wr := [((f 0), .inl (cI, 240, .inl tx))]) (em_runV (As := [.int 1, .long v2]) (rest := []) ⟨hx, hb, hml, hown, hG⟩ (mo_lexeme l D cI cL cZ cC f h0 tn rm ln lx1 at_ bd1 fs dp on os bn df th tp mo_ ev ss so lk rs pt ot cl ki1 wh1 1 v2 _ (by first | assumption | omega | exact Or.inl rfl) (by first | assumption | omega | exact Or.inl rfl) (by decide) (by first | assumption | omega | exact Or.inl rfl) hnt) (cwV 2 hG (gd_V k_1384 k_1386 k_53 k_116 k_1387) rfl rfl rfl (by decide +kernel) ⟨Nat.le_of_ble_eq_true rfl, Nat.le_of_ble_eq_true rfl⟩) (tw_V (q0 := 0) hP hD hK hE hst hS rfl rfl [0, 1, 2] rfl (by decide)) rfl rfl hl.1 rfl (lv_room (Nat.le_of_ble_eq_true rfl)) d_MO_cut_165 ⟨Nat.le_of_ble_eq_true rfl, Nat.le_of_ble_eq_true rfl⟩) hP hD hS hA [0, 1, 2] [3] rfl rfl (by decide) (by decide) (fun v u H locs hok hP hD hS => ?_) (fun x C u H locs hbad hxx hP hD hS => ?_)
                    · skip
                      obtain ⟨lx_75, bd_76, ki_77, wh_78⟩ := u
                      obtain ⟨rfl, hp_80⟩ := hok
                      obtain ⟨hbo_81, hl1_82, hk3_83⟩ : (bdo bd_76) ∧ (lx_75 ≤ 100) ∧ (∀ j, j < lx_75 → ¬ ki_77 j = 3) := hp_80
                      have hP : va_P D classes [((f 0), .inl (cI, 240, .inl tx)), (h0, .inr (8, mS f tn rm ln lx_75 at_ bd_76 fs dp on os bn df th tp mo_ ev ss so lk rs pt ot cl)), ((f 1), .inl (cI, 101, .inl ki_77)), ((f 2), .inl (cL, 101, .inr (.inl wh_78)))] H := hP
                      have hD : va_D A [((f 0), .inl (cI, 240, .inl tx)), (h0, .inr (8, mS f tn rm ln lx_75 at_ bd_76 fs dp on os bn df th tp mo_ ev ss so lk rs pt ot cl)), ((f 1), .inl (cI, 101, .inl ki_77)), ((f 2), .inl (cL, 101, .inr (.inl wh_78)))] := hD
                      refine W.eq (g2 := F0 m 168 ls []) rfl ?_
                      refine lv_goto (tgt := 271) hx hb d_MO_cut_168 (by decide) ?_
                      refine lv_goto (tgt := 7) hx hb d_MO_cut_271 (by decide) ?_
                      have hl := lv_sub (l' := [(0, .ref h0), (1, .int (nI i2))]) hl [0, 1] rfl
                      have hP : va_P D classes [(h0, .inr (8, mS f tn rm ln lx_75 at_ bd_76 fs dp on os bn df th tp mo_ ev ss so lk rs pt ot cl)), ((f 1), .inl (cI, 101, .inl ki_77)), ((f 2), .inl (cL, 101, .inr (.inl wh_78))), ((f 0), .inl (cI, 240, .inl tx))] _ := hP.sub [1, 2, 3, 0] (wp_fm rfl)
                      have hD : va_D A [(h0, .inr (8, mS f tn rm ln lx_75 at_ bd_76 fs dp on os bn df th tp mo_ ev ss so lk rs pt ot cl)), ((f 1), .inl (cI, 101, .inl ki_77)), ((f 2), .inl (cL, 101, .inr (.inl wh_78))), ((f 0), .inl (cI, 240, .inl tx))] := hD.sub [1, 2, 3, 0] (by decide) rfl
                      exact ih_3 i2 (mz - 1) lx_75 bd_76 ki_77 wh_78 _ _ _ (by omega) (by omega) (fun _ => by omega) (by assumption) (by omega) (by first | assumption | exact (fun j hj => absurd hj (Nat.not_lt_zero _))) hl hP hD hS
                    · skip
                      exact hbad.elim
                  · skip
                    have hn_85 : ¬ 6 ≤ n2 := fun h => hb_73 ((nI_leI (a := 6) (b := n2) (by omega) (by omega)).mpr h)
                    refine lv_iload_n hx hb d_MO_cut_115 rfl (lv_at hl 1 rfl) ?_
                    refine lv_aload_n hx hb d_MO_cut_116 rfl (lv_at hl 0 rfl) ?_
                    refine va_get (D := D) (ci := 8) (v := .int (nI ln)) (C := rn_MO) (T := fl_MO) (N := 55) hx hb hG in_MO hown hK hP 0 rfl rfl 2 (by decide) (hG _ k_1193) (fun _ h9 => h9) rfl d_MO_cut_117 ?_
                    refine lv_icmp_ge (tgt := 162) hx hb d_MO_cut_120 (by decide) (fun hb_86 => ?_) (fun hb_86 => ?_)
                    · skip
                      have hn_87 : ln ≤ i2 := (nI_leI (a := ln) (b := i2) (by omega) (by omega)).mp hb_86
                      refine lv_aload_n hx hb d_MO_cut_162 rfl (lv_at hl 0 rfl) ?_
                      refine lv_iconst (v := 1) hx hb d_MO_cut_163 (by decide) ?_
                      refine lv_lload_n hx hb d_MO_cut_164 rfl (lv_at hl 2 rfl) ?_
                      refine em_call (wr := [((f 0), .inl (cI, 240, .inl tx))]) (em_runV (As := [.int 1, .long v2]) (rest := []) ⟨hx, hb, hml, hown, hG⟩ (mo_lexeme l D cI cL cZ cC f h0 tn rm ln lx1 at_ bd1 fs dp on os bn df th tp mo_ ev ss so lk rs pt ot cl ki1 wh1 1 v2 _ (by first | assumption | omega | exact Or.inl rfl) (by first | assumption | omega | exact Or.inl rfl) (by decide) (by first | assumption | omega | exact Or.inl rfl) hnt) (cwV 2 hG (gd_V k_1384 k_1386 k_53 k_116 k_1387) rfl rfl rfl (by decide +kernel) ⟨Nat.le_of_ble_eq_true rfl, Nat.le_of_ble_eq_true rfl⟩) (tw_V (q0 := 0) hP hD hK hE hst hS rfl rfl [0, 1, 2] rfl (by decide)) rfl rfl hl.1 rfl (lv_room (Nat.le_of_ble_eq_true rfl)) d_MO_cut_165 ⟨Nat.le_of_ble_eq_true rfl, Nat.le_of_ble_eq_true rfl⟩) hP hD hS hA [0, 1, 2] [3] rfl rfl (by decide) (by decide) (fun v u H locs hok hP hD hS => ?_) (fun x C u H locs hbad hxx hP hD hS => ?_)
                      · skip
                        obtain ⟨lx_88, bd_89, ki_90, wh_91⟩ := u
                        obtain ⟨rfl, hp_93⟩ := hok
                        obtain ⟨hbo_94, hl1_95, hk3_96⟩ : (bdo bd_89) ∧ (lx_88 ≤ 100) ∧ (∀ j, j < lx_88 → ¬ ki_90 j = 3) := hp_93
                        have hP : va_P D classes [((f 0), .inl (cI, 240, .inl tx)), (h0, .inr (8, mS f tn rm ln lx_88 at_ bd_89 fs dp on os bn df th tp mo_ ev ss so lk rs pt ot cl)), ((f 1), .inl (cI, 101, .inl ki_90)), ((f 2), .inl (cL, 101, .inr (.inl wh_91)))] H := hP
                        have hD : va_D A [((f 0), .inl (cI, 240, .inl tx)), (h0, .inr (8, mS f tn rm ln lx_88 at_ bd_89 fs dp on os bn df th tp mo_ ev ss so lk rs pt ot cl)), ((f 1), .inl (cI, 101, .inl ki_90)), ((f 2), .inl (cL, 101, .inr (.inl wh_91)))] := hD
                        refine W.eq (g2 := F0 m 168 ls []) rfl ?_
                        refine lv_goto (tgt := 271) hx hb d_MO_cut_168 (by decide) ?_
                        refine lv_goto (tgt := 7) hx hb d_MO_cut_271 (by decide) ?_
                        have hl := lv_sub (l' := [(0, .ref h0), (1, .int (nI i2))]) hl [0, 1] rfl
                        have hP : va_P D classes [(h0, .inr (8, mS f tn rm ln lx_88 at_ bd_89 fs dp on os bn df th tp mo_ ev ss so lk rs pt ot cl)), ((f 1), .inl (cI, 101, .inl ki_90)), ((f 2), .inl (cL, 101, .inr (.inl wh_91))), ((f 0), .inl (cI, 240, .inl tx))] _ := hP.sub [1, 2, 3, 0] (wp_fm rfl)
                        have hD : va_D A [(h0, .inr (8, mS f tn rm ln lx_88 at_ bd_89 fs dp on os bn df th tp mo_ ev ss so lk rs pt ot cl)), ((f 1), .inl (cI, 101, .inl ki_90)), ((f 2), .inl (cL, 101, .inr (.inl wh_91))), ((f 0), .inl (cI, 240, .inl tx))] := hD.sub [1, 2, 3, 0] (by decide) rfl
                        exact ih_3 i2 (mz - 1) lx_88 bd_89 ki_90 wh_91 _ _ _ (by omega) (by omega) (fun _ => by omega) (by assumption) (by omega) (by first | assumption | exact (fun j hj => absurd hj (Nat.not_lt_zero _))) hl hP hD hS
                      · skip
                        exact hbad.elim
                    · skip
                      have hn_98 : ¬ ln ≤ i2 := fun h => hb_86 ((nI_leI (a := ln) (b := i2) (by omega) (by omega)).mpr h)
                      refine lv_aload_n hx hb d_MO_cut_123 rfl (lv_at hl 0 rfl) ?_
                      refine va_get (D := D) (ci := 8) (v := .ref (f 0)) (C := rn_MO) (T := fl_MO) (N := 55) hx hb hG in_MO hown hK hP 0 rfl rfl 3 (by decide) (hG _ k_1194) (fun _ h9 => h9) rfl d_MO_cut_124 ?_
                      refine lv_iload_n hx hb d_MO_cut_127 rfl (lv_at hl 1 rfl) ?_
                      refine va_iald hx hb hK hP 3 0 rfl rfl (vp_in_nI (n := i2) (N := 240) (by omega) (by omega)) d_MO_cut_128 ?_
                      refine W.eq (g2 := F0 m 129 ls [.int (tx i2)]) (by rw [nI_clamp (n := i2) (by omega)]) ?_
                      refine W.callR (W.runS (As := [.int (tx i2)]) (rest := []) ⟨hx, hb, hml, hown, hG⟩ (mo_digit l D cI cL cZ cC (tx i2) ) (cwS 1 hG (gd_S k_1392 k_1393 k_116 k_1394) rfl rfl rfl (by decide +kernel) ⟨Nat.le_of_ble_eq_true rfl, Nat.le_of_ble_eq_true rfl⟩) (wq_S hP hK [] rfl) rfl rfl hl.1 rfl (lv_room (Nat.le_of_ble_eq_true rfl)) d_MO_cut_129 ⟨Nat.le_of_ble_eq_true rfl, Nat.le_of_ble_eq_true rfl⟩) ?_
                      refine W.eq (g2 := F0 m 132 ls [.int (mwi (tx i2) 48 57)]) rfl ?_
                      refine lv_if_eq (tgt := 162) hx hb d_MO_cut_132 (by decide) (fun hb_99 => ?_) (fun hb_99 => ?_)
                      · skip
                        have hiq : i < i2 := by
                          rcases Nat.eq_zero_or_pos n2 with q | q
                          · exact absurd (show mwi (tx i) 48 57 = 0 by rw [show i = i2 by omega]; exact hb_99) hb_13
                          · omega
                        refine lv_aload_n hx hb d_MO_cut_162 rfl (lv_at hl 0 rfl) ?_
                        refine lv_iconst (v := 1) hx hb d_MO_cut_163 (by decide) ?_
                        refine lv_lload_n hx hb d_MO_cut_164 rfl (lv_at hl 2 rfl) ?_
                        refine em_call (wr := [((f 0), .inl (cI, 240, .inl tx))]) (em_runV (As := [.int 1, .long v2]) (rest := []) ⟨hx, hb, hml, hown, hG⟩ (mo_lexeme l D cI cL cZ cC f h0 tn rm ln lx1 at_ bd1 fs dp on os bn df th tp mo_ ev ss so lk rs pt ot cl ki1 wh1 1 v2 _ (by first | assumption | omega | exact Or.inl rfl) (by first | assumption | omega | exact Or.inl rfl) (by decide) (by first | assumption | omega | exact Or.inl rfl) hnt) (cwV 2 hG (gd_V k_1384 k_1386 k_53 k_116 k_1387) rfl rfl rfl (by decide +kernel) ⟨Nat.le_of_ble_eq_true rfl, Nat.le_of_ble_eq_true rfl⟩) (tw_V (q0 := 0) hP hD hK hE hst hS rfl rfl [0, 1, 2] rfl (by decide)) rfl rfl hl.1 rfl (lv_room (Nat.le_of_ble_eq_true rfl)) d_MO_cut_165 ⟨Nat.le_of_ble_eq_true rfl, Nat.le_of_ble_eq_true rfl⟩) hP hD hS hA [0, 1, 2] [3] rfl rfl (by decide) (by decide) (fun v u H locs hok hP hD hS => ?_) (fun x C u H locs hbad hxx hP hD hS => ?_)
                        · skip
                          obtain ⟨lx_100, bd_101, ki_102, wh_103⟩ := u
                          obtain ⟨rfl, hp_105⟩ := hok
                          obtain ⟨hbo_106, hl1_107, hk3_108⟩ : (bdo bd_101) ∧ (lx_100 ≤ 100) ∧ (∀ j, j < lx_100 → ¬ ki_102 j = 3) := hp_105
                          have hP : va_P D classes [((f 0), .inl (cI, 240, .inl tx)), (h0, .inr (8, mS f tn rm ln lx_100 at_ bd_101 fs dp on os bn df th tp mo_ ev ss so lk rs pt ot cl)), ((f 1), .inl (cI, 101, .inl ki_102)), ((f 2), .inl (cL, 101, .inr (.inl wh_103)))] H := hP
                          have hD : va_D A [((f 0), .inl (cI, 240, .inl tx)), (h0, .inr (8, mS f tn rm ln lx_100 at_ bd_101 fs dp on os bn df th tp mo_ ev ss so lk rs pt ot cl)), ((f 1), .inl (cI, 101, .inl ki_102)), ((f 2), .inl (cL, 101, .inr (.inl wh_103)))] := hD
                          refine W.eq (g2 := F0 m 168 ls []) rfl ?_
                          refine lv_goto (tgt := 271) hx hb d_MO_cut_168 (by decide) ?_
                          refine lv_goto (tgt := 7) hx hb d_MO_cut_271 (by decide) ?_
                          have hl := lv_sub (l' := [(0, .ref h0), (1, .int (nI i2))]) hl [0, 1] rfl
                          have hP : va_P D classes [(h0, .inr (8, mS f tn rm ln lx_100 at_ bd_101 fs dp on os bn df th tp mo_ ev ss so lk rs pt ot cl)), ((f 1), .inl (cI, 101, .inl ki_102)), ((f 2), .inl (cL, 101, .inr (.inl wh_103))), ((f 0), .inl (cI, 240, .inl tx))] _ := hP.sub [1, 2, 3, 0] (wp_fm rfl)
                          have hD : va_D A [(h0, .inr (8, mS f tn rm ln lx_100 at_ bd_101 fs dp on os bn df th tp mo_ ev ss so lk rs pt ot cl)), ((f 1), .inl (cI, 101, .inl ki_102)), ((f 2), .inl (cL, 101, .inr (.inl wh_103))), ((f 0), .inl (cI, 240, .inl tx))] := hD.sub [1, 2, 3, 0] (by decide) rfl
                          exact ih_3 i2 (mz - 1) lx_100 bd_101 ki_102 wh_103 _ _ _ (by omega) (by omega) (fun _ => by omega) (by assumption) (by omega) (by first | assumption | exact (fun j hj => absurd hj (Nat.not_lt_zero _))) hl hP hD hS
                        · skip
                          exact hbad.elim
                      · skip
                        refine lv_ldc2 (v := 10) hx hb hown (hG _ k_1395) d_MO_cut_135 ?_
                        refine lv_lload_n hx hb d_MO_cut_138 rfl (lv_at hl 2 rfl) ?_
                        refine lv_lmul hx hb d_MO_cut_139 ?_
                        refine lv_aload_n hx hb d_MO_cut_140 rfl (lv_at hl 0 rfl) ?_
                        refine va_get (D := D) (ci := 8) (v := .ref (f 0)) (C := rn_MO) (T := fl_MO) (N := 55) hx hb hG in_MO hown hK hP 0 rfl rfl 3 (by decide) (hG _ k_1194) (fun _ h9 => h9) rfl d_MO_cut_141 ?_
                        refine lv_iload_n hx hb d_MO_cut_144 rfl (lv_at hl 1 rfl) ?_
                        refine va_iald hx hb hK hP 3 0 rfl rfl (vp_in_nI (n := i2) (N := 240) (by omega) (by omega)) d_MO_cut_145 ?_
                        refine W.eq (g2 := F0 m 146 ls [.int (tx i2), .long (10 * v2)]) (by rw [nI_clamp (n := i2) (by omega)]) ?_
                        refine lv_i2l hx hb d_MO_cut_146 rfl ?_
                        refine lv_ladd hx hb d_MO_cut_147 ?_
                        refine lv_ldc2 (v := 48) hx hb hown (hG _ k_1396) d_MO_cut_148 ?_
                        refine lv_lsub hx hb d_MO_cut_151 ?_
                        refine lv_lstore_n (lv' := [(3, .long (((10 * v2) + ((tx i2).toInt64)) - 48)), (0, .ref h0), (1, .int (nI i2)), (5, .int (nI n2))]) hx hb d_MO_cut_152 rfl hl (Nat.le_of_ble_eq_true rfl) rfl (fun ls hl => ?_)
                        refine lv_iinc (k := 3) (v := nI (n2 + 1)) (lv' := [(5, .int (nI (n2 + 1))), (3, .long (((10 * v2) + ((tx i2).toInt64)) - 48)), (0, .ref h0), (1, .int (nI i2))]) hx hb d_MO_cut_153 hl rfl (lw_inc n2 1) (Nat.le_of_ble_eq_true rfl) rfl (fun ls hl => ?_)
                        refine lv_iinc (k := 3) (v := nI (i2 + 1)) (lv' := [(1, .int (nI (i2 + 1))), (5, .int (nI (n2 + 1))), (3, .long (((10 * v2) + ((tx i2).toInt64)) - 48)), (0, .ref h0)]) hx hb d_MO_cut_156 hl rfl (lw_inc i2 1) (Nat.le_of_ble_eq_true rfl) rfl (fun ls hl => ?_)
                        refine lv_goto (tgt := 108) hx hb d_MO_cut_159 (by decide) ?_
                        have hl := lv_sub (l' := [(0, .ref h0), (1, .int (nI (i2 + 1))), (3, .long (((10 * v2) + ((tx i2).toInt64)) - 48)), (5, .int (nI (n2 + 1)))]) hl [3, 0, 2, 1] rfl
                        exact ih_72 (i2 + 1) (((10 * v2) + ((tx i2).toInt64)) - 48) (n2 + 1) _ _ _ (by omega) (by omega) (by omega) hl hP hD hS
              have hl := lv_sub (l' := [(0, .ref h0), (1, .int (nI i)), (3, .long 0), (5, .int 0)]) hl [3, 4, 1, 0] rfl
              exact loop_71 _ i 0 0 _ _ _ (Nat.lt_succ_self _) (by omega) (by omega) hl hP hD hS
          · skip
            have loop_111 : ∀ (k_110 : Nat) (i2 : Nat) (v2 : Int64) (n2 : Nat) (H : Heap) (locs : List Loc) (ls : Array Slot), ln - i2 < k_110 → (i2 ≤ ln) → (i2 = i + n2) → lv_has ls 7 [(0, .ref h0), (1, .int (nI i2)), (3, .long v2), (5, .int (nI n2))] → va_P D classes [(h0, .inr (8, mS f tn rm ln lx1 at_ bd1 fs dp on os bn df th tp mo_ ev ss so lk rs pt ot cl)), ((f 1), .inl (cI, 101, .inl ki1)), ((f 2), .inl (cL, 101, .inr (.inl wh1))), ((f 0), .inl (cI, 240, .inl tx))] H → va_D A [(h0, .inr (8, mS f tn rm ln lx1 at_ bd1 fs dp on os bn df th tp mo_ ev ss so lk rs pt ot cl)), ((f 1), .inl (cI, 101, .inl ki1)), ((f 2), .inl (cL, 101, .inr (.inl wh1))), ((f 0), .inl (cI, 240, .inl tx))] → va_S A s.heap H locs → W p l e (headSpec (wz y_MO_cut b_MO_cut 7 none) ({ frames := 2, cells := 0, slots := 0, locals := 44 })).room s m ([.ref h0] : List Value).toArray below meth c H locs 0 0 (em_MQ below D (tys4 cI cL cZ cC) A (fun (u : Nat × Int32 × (Nat → Int32) × (Nat → Int64)) => [(h0, .inr (8, mS f tn rm ln u.1 at_ u.2.1 fs dp on os bn df th tp mo_ ev ss so lk rs pt ot cl)), ((f 1), .inl (cI, 101, .inl u.2.2.1)), ((f 2), .inl (cL, 101, .inr (.inl u.2.2.2))), ((f 0), .inl (cI, 240, .inl tx))]) (fun v (u : Nat × Int32 × (Nat → Int32) × (Nat → Int64)) => v = none ∧ ((bdo u.2.1) ∧ (u.1 ≤ 100) ∧ (∀ j, j < u.1 → ¬ u.2.2.1 j = 3) ∧ (u.2.2.1 u.1 = 3))) (fun C (u : Nat × Int32 × (Nat → Int32) × (Nat → Int64)) => False) s 0 0) (F0 m 41 ls []) := by
              intro k_110
              induction k_110 with
              | zero => intro i2 v2 n2 H locs ls hm; exact absurd hm (Nat.not_lt_zero _)
              | succ k_110 ih_112 =>
                intro i2 v2 n2 H locs ls hm hi2 hin hl hP hD hS
                refine lv_iload hx hb d_MO_cut_41 (lv_at hl 3 rfl) ?_
                refine lv_iconst (v := 4) hx hb d_MO_cut_43 (by decide) ?_
                refine lv_icmp_ge (tgt := 92) hx hb d_MO_cut_44 (by decide) (fun hb_113 => ?_) (fun hb_113 => ?_)
                · skip
                  have hn_114 : 4 ≤ n2 := (nI_leI (a := 4) (b := n2) (by omega) (by omega)).mp hb_113
                  refine lv_aload_n hx hb d_MO_cut_92 rfl (lv_at hl 0 rfl) ?_
                  refine lv_iconst (v := 0) hx hb d_MO_cut_93 (by decide) ?_
                  refine lv_lload_n hx hb d_MO_cut_94 rfl (lv_at hl 2 rfl) ?_
                  refine em_call (wr := [((f 0), .inl (cI, 240, .inl tx))]) (em_runV (As := [.int 0, .long v2]) (rest := []) ⟨hx, hb, hml, hown, hG⟩ (mo_lexeme l D cI cL cZ cC f h0 tn rm ln lx1 at_ bd1 fs dp on os bn df th tp mo_ ev ss so lk rs pt ot cl ki1 wh1 0 v2 _ (by first | assumption | omega | exact Or.inl rfl) (by first | assumption | omega | exact Or.inl rfl) (by decide) (by first | assumption | omega | exact Or.inl rfl) hnt) (cwV 2 hG (gd_V k_1384 k_1386 k_53 k_116 k_1387) rfl rfl rfl (by decide +kernel) ⟨Nat.le_of_ble_eq_true rfl, Nat.le_of_ble_eq_true rfl⟩) (tw_V (q0 := 0) hP hD hK hE hst hS rfl rfl [0, 1, 2] rfl (by decide)) rfl rfl hl.1 rfl (lv_room (Nat.le_of_ble_eq_true rfl)) d_MO_cut_95 ⟨Nat.le_of_ble_eq_true rfl, Nat.le_of_ble_eq_true rfl⟩) hP hD hS hA [0, 1, 2] [3] rfl rfl (by decide) (by decide) (fun v u H locs hok hP hD hS => ?_) (fun x C u H locs hbad hxx hP hD hS => ?_)
                  · skip
                    obtain ⟨lx_115, bd_116, ki_117, wh_118⟩ := u
                    obtain ⟨rfl, hp_120⟩ := hok
                    obtain ⟨hbo_121, hl1_122, hk3_123⟩ : (bdo bd_116) ∧ (lx_115 ≤ 100) ∧ (∀ j, j < lx_115 → ¬ ki_117 j = 3) := hp_120
                    have hP : va_P D classes [((f 0), .inl (cI, 240, .inl tx)), (h0, .inr (8, mS f tn rm ln lx_115 at_ bd_116 fs dp on os bn df th tp mo_ ev ss so lk rs pt ot cl)), ((f 1), .inl (cI, 101, .inl ki_117)), ((f 2), .inl (cL, 101, .inr (.inl wh_118)))] H := hP
                    have hD : va_D A [((f 0), .inl (cI, 240, .inl tx)), (h0, .inr (8, mS f tn rm ln lx_115 at_ bd_116 fs dp on os bn df th tp mo_ ev ss so lk rs pt ot cl)), ((f 1), .inl (cI, 101, .inl ki_117)), ((f 2), .inl (cL, 101, .inr (.inl wh_118)))] := hD
                    refine W.eq (g2 := F0 m 98 ls []) rfl ?_
                    refine lv_goto (tgt := 271) hx hb d_MO_cut_98 (by decide) ?_
                    refine lv_goto (tgt := 7) hx hb d_MO_cut_271 (by decide) ?_
                    have hl := lv_sub (l' := [(0, .ref h0), (1, .int (nI i2))]) hl [0, 1] rfl
                    have hP : va_P D classes [(h0, .inr (8, mS f tn rm ln lx_115 at_ bd_116 fs dp on os bn df th tp mo_ ev ss so lk rs pt ot cl)), ((f 1), .inl (cI, 101, .inl ki_117)), ((f 2), .inl (cL, 101, .inr (.inl wh_118))), ((f 0), .inl (cI, 240, .inl tx))] _ := hP.sub [1, 2, 3, 0] (wp_fm rfl)
                    have hD : va_D A [(h0, .inr (8, mS f tn rm ln lx_115 at_ bd_116 fs dp on os bn df th tp mo_ ev ss so lk rs pt ot cl)), ((f 1), .inl (cI, 101, .inl ki_117)), ((f 2), .inl (cL, 101, .inr (.inl wh_118))), ((f 0), .inl (cI, 240, .inl tx))] := hD.sub [1, 2, 3, 0] (by decide) rfl
                    exact ih_3 i2 (mz - 1) lx_115 bd_116 ki_117 wh_118 _ _ _ (by omega) (by omega) (fun _ => by omega) (by assumption) (by omega) (by first | assumption | exact (fun j hj => absurd hj (Nat.not_lt_zero _))) hl hP hD hS
                  · skip
                    exact hbad.elim
                · skip
                  have hn_125 : ¬ 4 ≤ n2 := fun h => hb_113 ((nI_leI (a := 4) (b := n2) (by omega) (by omega)).mpr h)
                  refine lv_iload_n hx hb d_MO_cut_47 rfl (lv_at hl 1 rfl) ?_
                  refine lv_aload_n hx hb d_MO_cut_48 rfl (lv_at hl 0 rfl) ?_
                  refine va_get (D := D) (ci := 8) (v := .int (nI ln)) (C := rn_MO) (T := fl_MO) (N := 55) hx hb hG in_MO hown hK hP 0 rfl rfl 2 (by decide) (hG _ k_1193) (fun _ h9 => h9) rfl d_MO_cut_49 ?_
                  refine lv_icmp_ge (tgt := 92) hx hb d_MO_cut_52 (by decide) (fun hb_126 => ?_) (fun hb_126 => ?_)
                  · skip
                    have hn_127 : ln ≤ i2 := (nI_leI (a := ln) (b := i2) (by omega) (by omega)).mp hb_126
                    refine lv_aload_n hx hb d_MO_cut_92 rfl (lv_at hl 0 rfl) ?_
                    refine lv_iconst (v := 0) hx hb d_MO_cut_93 (by decide) ?_
                    refine lv_lload_n hx hb d_MO_cut_94 rfl (lv_at hl 2 rfl) ?_
                    refine em_call (wr := [((f 0), .inl (cI, 240, .inl tx))]) (em_runV (As := [.int 0, .long v2]) (rest := []) ⟨hx, hb, hml, hown, hG⟩ (mo_lexeme l D cI cL cZ cC f h0 tn rm ln lx1 at_ bd1 fs dp on os bn df th tp mo_ ev ss so lk rs pt ot cl ki1 wh1 0 v2 _ (by first | assumption | omega | exact Or.inl rfl) (by first | assumption | omega | exact Or.inl rfl) (by decide) (by first | assumption | omega | exact Or.inl rfl) hnt) (cwV 2 hG (gd_V k_1384 k_1386 k_53 k_116 k_1387) rfl rfl rfl (by decide +kernel) ⟨Nat.le_of_ble_eq_true rfl, Nat.le_of_ble_eq_true rfl⟩) (tw_V (q0 := 0) hP hD hK hE hst hS rfl rfl [0, 1, 2] rfl (by decide)) rfl rfl hl.1 rfl (lv_room (Nat.le_of_ble_eq_true rfl)) d_MO_cut_95 ⟨Nat.le_of_ble_eq_true rfl, Nat.le_of_ble_eq_true rfl⟩) hP hD hS hA [0, 1, 2] [3] rfl rfl (by decide) (by decide) (fun v u H locs hok hP hD hS => ?_) (fun x C u H locs hbad hxx hP hD hS => ?_)
                    · skip
                      obtain ⟨lx_128, bd_129, ki_130, wh_131⟩ := u
                      obtain ⟨rfl, hp_133⟩ := hok
                      obtain ⟨hbo_134, hl1_135, hk3_136⟩ : (bdo bd_129) ∧ (lx_128 ≤ 100) ∧ (∀ j, j < lx_128 → ¬ ki_130 j = 3) := hp_133
                      have hP : va_P D classes [((f 0), .inl (cI, 240, .inl tx)), (h0, .inr (8, mS f tn rm ln lx_128 at_ bd_129 fs dp on os bn df th tp mo_ ev ss so lk rs pt ot cl)), ((f 1), .inl (cI, 101, .inl ki_130)), ((f 2), .inl (cL, 101, .inr (.inl wh_131)))] H := hP
                      have hD : va_D A [((f 0), .inl (cI, 240, .inl tx)), (h0, .inr (8, mS f tn rm ln lx_128 at_ bd_129 fs dp on os bn df th tp mo_ ev ss so lk rs pt ot cl)), ((f 1), .inl (cI, 101, .inl ki_130)), ((f 2), .inl (cL, 101, .inr (.inl wh_131)))] := hD
                      refine W.eq (g2 := F0 m 98 ls []) rfl ?_
                      refine lv_goto (tgt := 271) hx hb d_MO_cut_98 (by decide) ?_
                      refine lv_goto (tgt := 7) hx hb d_MO_cut_271 (by decide) ?_
                      have hl := lv_sub (l' := [(0, .ref h0), (1, .int (nI i2))]) hl [0, 1] rfl
                      have hP : va_P D classes [(h0, .inr (8, mS f tn rm ln lx_128 at_ bd_129 fs dp on os bn df th tp mo_ ev ss so lk rs pt ot cl)), ((f 1), .inl (cI, 101, .inl ki_130)), ((f 2), .inl (cL, 101, .inr (.inl wh_131))), ((f 0), .inl (cI, 240, .inl tx))] _ := hP.sub [1, 2, 3, 0] (wp_fm rfl)
                      have hD : va_D A [(h0, .inr (8, mS f tn rm ln lx_128 at_ bd_129 fs dp on os bn df th tp mo_ ev ss so lk rs pt ot cl)), ((f 1), .inl (cI, 101, .inl ki_130)), ((f 2), .inl (cL, 101, .inr (.inl wh_131))), ((f 0), .inl (cI, 240, .inl tx))] := hD.sub [1, 2, 3, 0] (by decide) rfl
                      exact ih_3 i2 (mz - 1) lx_128 bd_129 ki_130 wh_131 _ _ _ (by omega) (by omega) (fun _ => by omega) (by assumption) (by omega) (by first | assumption | exact (fun j hj => absurd hj (Nat.not_lt_zero _))) hl hP hD hS
                    · skip
                      exact hbad.elim
                  · skip
                    have hn_138 : ¬ ln ≤ i2 := fun h => hb_126 ((nI_leI (a := ln) (b := i2) (by omega) (by omega)).mpr h)
                    refine lv_aload_n hx hb d_MO_cut_55 rfl (lv_at hl 0 rfl) ?_
                    refine va_get (D := D) (ci := 8) (v := .ref (f 0)) (C := rn_MO) (T := fl_MO) (N := 55) hx hb hG in_MO hown hK hP 0 rfl rfl 3 (by decide) (hG _ k_1194) (fun _ h9 => h9) rfl d_MO_cut_56 ?_
                    refine lv_iload_n hx hb d_MO_cut_59 rfl (lv_at hl 1 rfl) ?_
                    refine va_iald hx hb hK hP 3 0 rfl rfl (vp_in_nI (n := i2) (N := 240) (by omega) (by omega)) d_MO_cut_60 ?_
                    refine W.eq (g2 := F0 m 61 ls [.int (tx i2)]) (by rw [nI_clamp (n := i2) (by omega)]) ?_
                    refine W.callR (W.runS (As := [.int (tx i2)]) (rest := []) ⟨hx, hb, hml, hown, hG⟩ (mo_isLetter l D cI cL cZ cC (tx i2) ) (cwS 1 hG (gd_S k_1381 k_1382 k_116 k_1383) rfl rfl rfl (by decide +kernel) ⟨Nat.le_of_ble_eq_true rfl, Nat.le_of_ble_eq_true rfl⟩) (wq_S hP hK [] rfl) rfl rfl hl.1 rfl (lv_room (Nat.le_of_ble_eq_true rfl)) d_MO_cut_61 ⟨Nat.le_of_ble_eq_true rfl, Nat.le_of_ble_eq_true rfl⟩) ?_
                    refine W.eq (g2 := F0 m 64 ls [.int (mwi (tx i2) 97 122)]) rfl ?_
                    refine lv_if_eq (tgt := 92) hx hb d_MO_cut_64 (by decide) (fun hb_139 => ?_) (fun hb_139 => ?_)
                    · skip
                      have hiq : i < i2 := by
                        rcases Nat.eq_zero_or_pos n2 with q | q
                        · exact absurd (show mwi (tx i) 97 122 = 0 by rw [show i = i2 by omega]; exact hb_139) hb_12
                        · omega
                      refine lv_aload_n hx hb d_MO_cut_92 rfl (lv_at hl 0 rfl) ?_
                      refine lv_iconst (v := 0) hx hb d_MO_cut_93 (by decide) ?_
                      refine lv_lload_n hx hb d_MO_cut_94 rfl (lv_at hl 2 rfl) ?_
                      refine em_call (wr := [((f 0), .inl (cI, 240, .inl tx))]) (em_runV (As := [.int 0, .long v2]) (rest := []) ⟨hx, hb, hml, hown, hG⟩ (mo_lexeme l D cI cL cZ cC f h0 tn rm ln lx1 at_ bd1 fs dp on os bn df th tp mo_ ev ss so lk rs pt ot cl ki1 wh1 0 v2 _ (by first | assumption | omega | exact Or.inl rfl) (by first | assumption | omega | exact Or.inl rfl) (by decide) (by first | assumption | omega | exact Or.inl rfl) hnt) (cwV 2 hG (gd_V k_1384 k_1386 k_53 k_116 k_1387) rfl rfl rfl (by decide +kernel) ⟨Nat.le_of_ble_eq_true rfl, Nat.le_of_ble_eq_true rfl⟩) (tw_V (q0 := 0) hP hD hK hE hst hS rfl rfl [0, 1, 2] rfl (by decide)) rfl rfl hl.1 rfl (lv_room (Nat.le_of_ble_eq_true rfl)) d_MO_cut_95 ⟨Nat.le_of_ble_eq_true rfl, Nat.le_of_ble_eq_true rfl⟩) hP hD hS hA [0, 1, 2] [3] rfl rfl (by decide) (by decide) (fun v u H locs hok hP hD hS => ?_) (fun x C u H locs hbad hxx hP hD hS => ?_)
                      · skip
                        obtain ⟨lx_140, bd_141, ki_142, wh_143⟩ := u
                        obtain ⟨rfl, hp_145⟩ := hok
                        obtain ⟨hbo_146, hl1_147, hk3_148⟩ : (bdo bd_141) ∧ (lx_140 ≤ 100) ∧ (∀ j, j < lx_140 → ¬ ki_142 j = 3) := hp_145
                        have hP : va_P D classes [((f 0), .inl (cI, 240, .inl tx)), (h0, .inr (8, mS f tn rm ln lx_140 at_ bd_141 fs dp on os bn df th tp mo_ ev ss so lk rs pt ot cl)), ((f 1), .inl (cI, 101, .inl ki_142)), ((f 2), .inl (cL, 101, .inr (.inl wh_143)))] H := hP
                        have hD : va_D A [((f 0), .inl (cI, 240, .inl tx)), (h0, .inr (8, mS f tn rm ln lx_140 at_ bd_141 fs dp on os bn df th tp mo_ ev ss so lk rs pt ot cl)), ((f 1), .inl (cI, 101, .inl ki_142)), ((f 2), .inl (cL, 101, .inr (.inl wh_143)))] := hD
                        refine W.eq (g2 := F0 m 98 ls []) rfl ?_
                        refine lv_goto (tgt := 271) hx hb d_MO_cut_98 (by decide) ?_
                        refine lv_goto (tgt := 7) hx hb d_MO_cut_271 (by decide) ?_
                        have hl := lv_sub (l' := [(0, .ref h0), (1, .int (nI i2))]) hl [0, 1] rfl
                        have hP : va_P D classes [(h0, .inr (8, mS f tn rm ln lx_140 at_ bd_141 fs dp on os bn df th tp mo_ ev ss so lk rs pt ot cl)), ((f 1), .inl (cI, 101, .inl ki_142)), ((f 2), .inl (cL, 101, .inr (.inl wh_143))), ((f 0), .inl (cI, 240, .inl tx))] _ := hP.sub [1, 2, 3, 0] (wp_fm rfl)
                        have hD : va_D A [(h0, .inr (8, mS f tn rm ln lx_140 at_ bd_141 fs dp on os bn df th tp mo_ ev ss so lk rs pt ot cl)), ((f 1), .inl (cI, 101, .inl ki_142)), ((f 2), .inl (cL, 101, .inr (.inl wh_143))), ((f 0), .inl (cI, 240, .inl tx))] := hD.sub [1, 2, 3, 0] (by decide) rfl
                        exact ih_3 i2 (mz - 1) lx_140 bd_141 ki_142 wh_143 _ _ _ (by omega) (by omega) (fun _ => by omega) (by assumption) (by omega) (by first | assumption | exact (fun j hj => absurd hj (Nat.not_lt_zero _))) hl hP hD hS
                      · skip
                        exact hbad.elim
                    · skip
                      refine lv_lload_n hx hb d_MO_cut_67 rfl (lv_at hl 2 rfl) ?_
                      refine lv_aload_n hx hb d_MO_cut_68 rfl (lv_at hl 0 rfl) ?_
                      refine va_get (D := D) (ci := 8) (v := .ref (f 0)) (C := rn_MO) (T := fl_MO) (N := 55) hx hb hG in_MO hown hK hP 0 rfl rfl 3 (by decide) (hG _ k_1194) (fun _ h9 => h9) rfl d_MO_cut_69 ?_
                      refine lv_iload_n hx hb d_MO_cut_72 rfl (lv_at hl 1 rfl) ?_
                      refine va_iald hx hb hK hP 3 0 rfl rfl (vp_in_nI (n := i2) (N := 240) (by omega) (by omega)) d_MO_cut_73 ?_
                      refine W.eq (g2 := F0 m 74 ls [.int (tx i2), .long v2]) (by rw [nI_clamp (n := i2) (by omega)]) ?_
                      refine lv_i2l hx hb d_MO_cut_74 rfl ?_
                      refine lv_bipush (v := 8) hx hb d_MO_cut_75 (by decide) ?_
                      refine lv_iload hx hb d_MO_cut_77 (lv_at hl 3 rfl) ?_
                      refine lw_imul (a := 8) (b := n2) hx hb d_MO_cut_79 ?_
                      refine lv_lshl hx hb d_MO_cut_80 rfl ?_
                      refine lv_lor hx hb d_MO_cut_81 ?_
                      refine lv_lstore_n (lv' := [(3, .long (v2 ||| (((tx i2).toInt64) <<< ((nI (8 * n2)).toInt64 &&& 63)))), (0, .ref h0), (1, .int (nI i2)), (5, .int (nI n2))]) hx hb d_MO_cut_82 rfl hl (Nat.le_of_ble_eq_true rfl) rfl (fun ls hl => ?_)
                      refine lv_iinc (k := 3) (v := nI (n2 + 1)) (lv' := [(5, .int (nI (n2 + 1))), (3, .long (v2 ||| (((tx i2).toInt64) <<< ((nI (8 * n2)).toInt64 &&& 63)))), (0, .ref h0), (1, .int (nI i2))]) hx hb d_MO_cut_83 hl rfl (lw_inc n2 1) (Nat.le_of_ble_eq_true rfl) rfl (fun ls hl => ?_)
                      refine lv_iinc (k := 3) (v := nI (i2 + 1)) (lv' := [(1, .int (nI (i2 + 1))), (5, .int (nI (n2 + 1))), (3, .long (v2 ||| (((tx i2).toInt64) <<< ((nI (8 * n2)).toInt64 &&& 63)))), (0, .ref h0)]) hx hb d_MO_cut_86 hl rfl (lw_inc i2 1) (Nat.le_of_ble_eq_true rfl) rfl (fun ls hl => ?_)
                      refine lv_goto (tgt := 41) hx hb d_MO_cut_89 (by decide) ?_
                      have hl := lv_sub (l' := [(0, .ref h0), (1, .int (nI (i2 + 1))), (3, .long (v2 ||| (((tx i2).toInt64) <<< ((nI (8 * n2)).toInt64 &&& 63)))), (5, .int (nI (n2 + 1)))]) hl [3, 0, 2, 1] rfl
                      exact ih_112 (i2 + 1) (v2 ||| (((tx i2).toInt64) <<< ((nI (8 * n2)).toInt64 &&& 63))) (n2 + 1) _ _ _ (by omega) (by omega) (by omega) hl hP hD hS
            have hl := lv_sub (l' := [(0, .ref h0), (1, .int (nI i)), (3, .long 0), (5, .int 0)]) hl [3, 4, 1, 0] rfl
            exact loop_111 _ i 0 0 _ _ _ (Nat.lt_succ_self _) (by omega) (by omega) hl hP hD hS
  refine lv_aload_n hx hb d_MO_cut_0 rfl (lv_at hl 0 rfl) ?_
  refine lv_iconst (v := 0) hx hb d_MO_cut_1 (by decide) ?_
  refine va_put (D := D) (ci := 8) (v := .int 0) (ty := .int) (C := rn_MO) (T := fl_MO) (N := 55) hx hb hG in_MO tt_MO tk_MO nn_MO hown hK hP hD hS 0 rfl rfl 4 (by decide) (hG _ k_1195) (fun _ h9 => h9) rfl (by decide +kernel) rfl rfl (Nat.le_of_ble_eq_true rfl) d_MO_cut_2 (fun H locs hP hD hS => ?_)
  have hP : va_P D classes [(h0, .inr (8, mS f tn rm ln 0 at_ bd fs dp on os bn df th tp mo_ ev ss so lk rs pt ot cl)), ((f 1), .inl (cI, 101, .inl ki)), ((f 2), .inl (cL, 101, .inr (.inl wh))), ((f 0), .inl (cI, 240, .inl tx))] H := hP
  have hD : va_D A [(h0, .inr (8, mS f tn rm ln 0 at_ bd fs dp on os bn df th tp mo_ ev ss so lk rs pt ot cl)), ((f 1), .inl (cI, 101, .inl ki)), ((f 2), .inl (cL, 101, .inr (.inl wh))), ((f 0), .inl (cI, 240, .inl tx))] := hD
  refine lv_iconst (v := 0) hx hb d_MO_cut_5 (by decide) ?_
  refine lv_istore_n (lv' := [(1, .int 0), (0, .ref h0)]) hx hb d_MO_cut_6 rfl hl (Nat.le_of_ble_eq_true rfl) rfl (fun ls hl => ?_)
  have hl := lv_sub (l' := [(0, .ref h0), (1, .int 0)]) hl [1, 0] rfl
  exact loop_2 _ 0 300 0 bd ki wh _ _ _ (Nat.lt_succ_self _) (by omega) (fun _ => by omega) (by assumption) (by omega) (by first | assumption | exact (fun j hj => absurd hj (Nat.not_lt_zero _))) hl hP hD hS
theorem dfo_mono {ki : Nat → Int32} {wh : Nat → Int64} {i j : Nat} (h : i ≤ j) : dfo ki wh i ≤ dfo ki wh j := by
  induction j with
  | zero => rw [show i = 0 by omega]; exact Nat.le_refl _
  | succ j ih =>
    rcases Nat.lt_or_ge j i with q | q
    · rw [show i = j + 1 by omega]; exact Nat.le_refl _
    · exact Nat.le_trans (ih q) (Nat.le_add_right _ _)
theorem dfo_1 {ki : Nat → Int32} {wh : Nat → Int64} {i : Nat} (h1 : ki i = 0) (h2 : wh i = 6710628) : dfo ki wh (i + 1) = dfo ki wh i + 1 := by show _ + _ = _; rw [if_pos ⟨h1, h2⟩]

set_option maxHeartbeats 8000000 in
set_option maxRecDepth 100000 in
theorem mo_collect (l : Launch) (D : va_G) (cI cL cZ cC : ClassId) (f : Nat → Nat) (h0 : Nat) (tn : Int32) (rm : Nat) (ln : Nat) (lx : Nat) (at_ : Nat) (bd : Int32) (fs : Nat) (dp : Nat) (on : Nat) (os : Nat) (bn : Nat) (df : Nat) (th : Int32) (tp : Nat) (mo_ : Int32) (ev : Nat) (ss : Int32) (so : Int32) (lk : Int64) (rs : Int64) (pt : Int32) (ot : Nat) (cl : Int32) (dfd : Nat → Int64) (ki : Nat → Int32) (wh : Nat → Int64) (sz : Nat) (hl1 : lx ≤ 100) (hnt : l.stackTraces = false) : em_Met l y_MO_collect (wz y_MO_collect b_MO_collect 2 none) ({ frames := 1, cells := 0, slots := 0, locals := 20 }) (va_Pc [.ref h0] (tw_pre D (tys4 cI cL cZ cC) [(h0, .inr (8, mS f tn rm ln lx at_ bd fs dp on os bn df th tp mo_ ev ss so lk rs pt ot cl)), ((f 17), .inl (cL, 8, .inr (.inl dfd))), ((f 1), .inl (cI, 101, .inl ki)), ((f 2), .inl (cL, 101, .inr (.inl wh)))] sz)) D (tys4 cI cL cZ cC) (va_A [(h0, .inr (8, mS f tn rm ln lx at_ bd fs dp on os bn df th tp mo_ ev ss so lk rs pt ot cl)), ((f 17), .inl (cL, 8, .inr (.inl dfd))), ((f 1), .inl (cI, 101, .inl ki)), ((f 2), .inl (cL, 101, .inr (.inl wh)))] sz) (fun (u : Nat × Nat × (Nat → Int64)) => [(h0, .inr (8, mS f tn rm ln lx u.2.1 bd fs dp on os bn u.1 th tp mo_ ev ss so lk rs pt ot cl)), ((f 17), .inl (cL, 8, .inr (.inl u.2.2))), ((f 1), .inl (cI, 101, .inl ki)), ((f 2), .inl (cL, 101, .inr (.inl wh)))]) (fun v (u : Nat × Nat × (Nat → Int64)) => v = none ∧ ((u.1 ≤ 8) ∧ (u.1 ≤ dfo ki wh lx))) (fun C (u : Nat × Nat × (Nat → Int64)) => False) 0 0 := by
  refine em_Met.ofW (cc := b_MO_collect) (maxL := 2) (ret := none) (by decide) rfl ?_
  intro p e s m args below meth c s₁ B hml hv hno
  obtain ⟨rfl, ⟨hsz, hP, hK, hD0⟩, hE⟩ := hv
  have hx := B.exec
  have hb := B.bytes
  have hr := B.returns
  have hts := atoms_spec (ws := wz y_MO_collect b_MO_collect 2 none) B.pre
  have hG := wz_G hts
  have hown : s.vm.findClass rn_MO = some m.cls := findClass_of_methodNamed B.named
  have hlocks := B.notSynchronized
  subst hsz
  have hD := hD0.self (sz := s.heap.size)
  have hst := tw_st hP
  generalize hAe : va_A [(h0, .inr (8, mS f tn rm ln lx at_ bd fs dp on os bn df th tp mo_ ev ss so lk rs pt ot cl)), ((f 17), .inl (cL, 8, .inr (.inl dfd))), ((f 1), .inl (cI, 101, .inl ki)), ((f 2), .inl (cL, 101, .inr (.inl wh)))] s.heap.size = A at hD hst ⊢
  have hA : ∀ q : Nat, s.heap.size ≤ q → A q := fun q h => by rw [← hAe]; exact Or.inr h
  have hS : va_S A s.heap s.heap [] := va_S.rf
  have hl := lv_entry ([.ref h0]) (n := 2) (Nat.le_of_ble_eq_true rfl)
  rw [lg_entry_eq]
  generalize (lg_sl ([.ref h0]) ++ List.replicate (2 - (lg_sl ([.ref h0])).length) Slot.unset).toArray = ls at hl ⊢
  have hl : lv_has ls 2 [(0, .ref h0)] := hl
  have loop_2 : ∀ (k_1 : Nat) (i : Nat) (df1 : Nat) (at_1 : Nat) (dfd1 : Nat → Int64) (H : Heap) (locs : List Loc) (ls : Array Slot), lx - i < k_1 → (i ≤ lx) → (df1 ≤ 8) → (df1 ≤ dfo ki wh i) → lv_has ls 2 [(0, .ref h0), (1, .int (nI i))] → va_P D classes [(h0, .inr (8, mS f tn rm ln lx at_1 bd fs dp on os bn df1 th tp mo_ ev ss so lk rs pt ot cl)), ((f 17), .inl (cL, 8, .inr (.inl dfd1))), ((f 1), .inl (cI, 101, .inl ki)), ((f 2), .inl (cL, 101, .inr (.inl wh)))] H → va_D A [(h0, .inr (8, mS f tn rm ln lx at_1 bd fs dp on os bn df1 th tp mo_ ev ss so lk rs pt ot cl)), ((f 17), .inl (cL, 8, .inr (.inl dfd1))), ((f 1), .inl (cI, 101, .inl ki)), ((f 2), .inl (cL, 101, .inr (.inl wh)))] → va_S A s.heap H locs → W p l e (headSpec (wz y_MO_collect b_MO_collect 2 none) ({ frames := 1, cells := 0, slots := 0, locals := 20 })).room s m ([.ref h0] : List Value).toArray below meth c H locs 0 0 (em_MQ below D (tys4 cI cL cZ cC) A (fun (u : Nat × Nat × (Nat → Int64)) => [(h0, .inr (8, mS f tn rm ln lx u.2.1 bd fs dp on os bn u.1 th tp mo_ ev ss so lk rs pt ot cl)), ((f 17), .inl (cL, 8, .inr (.inl u.2.2))), ((f 1), .inl (cI, 101, .inl ki)), ((f 2), .inl (cL, 101, .inr (.inl wh)))]) (fun v (u : Nat × Nat × (Nat → Int64)) => v = none ∧ ((u.1 ≤ 8) ∧ (u.1 ≤ dfo ki wh lx))) (fun C (u : Nat × Nat × (Nat → Int64)) => False) s 0 0) (F0 m 7 ls []) := by
    intro k_1
    induction k_1 with
    | zero => intro i df1 at_1 dfd1 H locs ls hm; exact absurd hm (Nat.not_lt_zero _)
    | succ k_1 ih_3 =>
      intro i df1 at_1 dfd1 H locs ls hm hi hd8 hd hl hP hD hS
      refine lv_iload_n hx hb d_MO_collect_7 rfl (lv_at hl 1 rfl) ?_
      refine lv_iconst (v := 1) hx hb d_MO_collect_8 (by decide) ?_
      refine lw_iadd (a := i) (b := 1) hx hb d_MO_collect_9 ?_
      refine lv_aload_n hx hb d_MO_collect_10 rfl (lv_at hl 0 rfl) ?_
      refine va_get (D := D) (ci := 8) (v := .int (nI lx)) (C := rn_MO) (T := fl_MO) (N := 55) hx hb hG in_MO hown hK hP 0 rfl rfl 4 (by decide) (hG _ k_1195) (fun _ h9 => h9) rfl d_MO_collect_11 ?_
      refine lv_icmp_ge (tgt := 96) hx hb d_MO_collect_14 (by decide) (fun hb_4 => ?_) (fun hb_4 => ?_)
      · skip
        have hn_5 : lx ≤ (i + 1) := (nI_leI (a := lx) (b := i + 1) (by omega) (by omega)).mp hb_4
        exact em_vret hx hb hr hlocks hP hD hK hS (df1, at_1, dfd1) [0, 1, 2, 3] (by decide) rfl ⟨rfl, ⟨(show df1 ≤ 8 from (by first | assumption | omega | exact Or.inl rfl)), (show df1 ≤ dfo ki wh lx from (Nat.le_trans hd (dfo_mono hi)))⟩⟩ d_MO_collect_96
      · skip
        have hn_6 : ¬ lx ≤ (i + 1) := fun h => hb_4 ((nI_leI (a := lx) (b := i + 1) (by omega) (by omega)).mpr h)
        refine lv_aload_n hx hb d_MO_collect_17 rfl (lv_at hl 0 rfl) ?_
        refine lv_iload_n hx hb d_MO_collect_18 rfl (lv_at hl 1 rfl) ?_
        refine lv_iconst (v := 1) hx hb d_MO_collect_19 (by decide) ?_
        refine lw_iadd (a := i) (b := 1) hx hb d_MO_collect_20 ?_
        refine va_put (D := D) (ci := 8) (v := .int (nI (i + 1))) (ty := .int) (C := rn_MO) (T := fl_MO) (N := 55) hx hb hG in_MO tt_MO tk_MO nn_MO hown hK hP hD hS 0 rfl rfl 5 (by decide) (hG _ k_1196) (fun _ h9 => h9) rfl (by decide +kernel) rfl rfl (Nat.le_of_ble_eq_true rfl) d_MO_collect_21 (fun H locs hP hD hS => ?_)
        have hP : va_P D classes [(h0, .inr (8, mS f tn rm ln lx (i + 1) bd fs dp on os bn df1 th tp mo_ ev ss so lk rs pt ot cl)), ((f 17), .inl (cL, 8, .inr (.inl dfd1))), ((f 1), .inl (cI, 101, .inl ki)), ((f 2), .inl (cL, 101, .inr (.inl wh)))] H := hP
        have hD : va_D A [(h0, .inr (8, mS f tn rm ln lx (i + 1) bd fs dp on os bn df1 th tp mo_ ev ss so lk rs pt ot cl)), ((f 17), .inl (cL, 8, .inr (.inl dfd1))), ((f 1), .inl (cI, 101, .inl ki)), ((f 2), .inl (cL, 101, .inr (.inl wh)))] := hD
        refine lv_aload_n hx hb d_MO_collect_24 rfl (lv_at hl 0 rfl) ?_
        refine va_get (D := D) (ci := 8) (v := .ref (f 1)) (C := rn_MO) (T := fl_MO) (N := 55) hx hb hG in_MO hown hK hP 0 rfl rfl 7 (by decide) (hG _ k_1198) (fun _ h9 => h9) rfl d_MO_collect_25 ?_
        refine lv_iload_n hx hb d_MO_collect_28 rfl (lv_at hl 1 rfl) ?_
        refine va_iald hx hb hK hP 2 0 rfl rfl (vp_in_nI (n := i) (N := 101) (by omega) (by omega)) d_MO_collect_29 ?_
        refine W.eq (g2 := F0 m 30 ls [.int (ki i)]) (by rw [nI_clamp (n := i) (by omega)]) ?_
        refine lv_if_ne (tgt := 90) hx hb d_MO_collect_30 (by decide) (fun hb_7 => ?_) (fun hb_7 => ?_)
        · skip
          refine lv_iinc (k := 1) (v := nI (i + 1)) (lv' := [(1, .int (nI (i + 1))), (0, .ref h0)]) hx hb d_MO_collect_90 hl rfl (lw_inc i 1) (Nat.le_of_ble_eq_true rfl) rfl (fun ls hl => ?_)
          refine lv_goto (tgt := 7) hx hb d_MO_collect_93 (by decide) ?_
          have hl := lv_sub (l' := [(0, .ref h0), (1, .int (nI (i + 1)))]) hl [1, 0] rfl
          exact ih_3 (i + 1) df1 (i + 1) dfd1 _ _ _ (by omega) (by omega) (by omega) (Nat.le_trans hd (dfo_mono (by omega))) hl hP hD hS
        · skip
          refine lv_aload_n hx hb d_MO_collect_33 rfl (lv_at hl 0 rfl) ?_
          refine va_get (D := D) (ci := 8) (v := .ref (f 2)) (C := rn_MO) (T := fl_MO) (N := 55) hx hb hG in_MO hown hK hP 0 rfl rfl 8 (by decide) (hG _ k_1199) (fun _ h9 => h9) rfl d_MO_collect_34 ?_
          refine lv_iload_n hx hb d_MO_collect_37 rfl (lv_at hl 1 rfl) ?_
          refine va_lald hx hb hK hP 3 1 rfl rfl (vp_in_nI (n := i) (N := 101) (by omega) (by omega)) d_MO_collect_38 ?_
          refine W.eq (g2 := F0 m 39 ls [.long (wh i)]) (by rw [nI_clamp (n := i) (by omega)]) ?_
          refine lv_ldc2 (v := 6710628) hx hb hown (hG _ k_1405) d_MO_collect_39 ?_
          refine W.lcmp hx hb d_MO_collect_42 ?_
          refine lv_if_ne (tgt := 90) hx hb d_MO_collect_43 (by decide) (fun hb_8 => ?_) (fun hb_8 => ?_)
          · skip
            have hq_9 : ¬ _ := fun h => hb_8 ((lg_cmp_eq _ _).mpr h)
            refine lv_iinc (k := 1) (v := nI (i + 1)) (lv' := [(1, .int (nI (i + 1))), (0, .ref h0)]) hx hb d_MO_collect_90 hl rfl (lw_inc i 1) (Nat.le_of_ble_eq_true rfl) rfl (fun ls hl => ?_)
            refine lv_goto (tgt := 7) hx hb d_MO_collect_93 (by decide) ?_
            have hl := lv_sub (l' := [(0, .ref h0), (1, .int (nI (i + 1)))]) hl [1, 0] rfl
            exact ih_3 (i + 1) df1 (i + 1) dfd1 _ _ _ (by omega) (by omega) (by omega) (Nat.le_trans hd (dfo_mono (by omega))) hl hP hD hS
          · skip
            have hq_10 := (lg_cmp_eq _ _).mp hb_8
            refine lv_aload_n hx hb d_MO_collect_46 rfl (lv_at hl 0 rfl) ?_
            refine em_call (wr := [((f 17), .inl (cL, 8, .inr (.inl dfd1)))]) (em_runV (As := []) (rest := []) ⟨hx, hb, hml, hown, hG⟩ (mo_isName l D cI cL cZ cC f h0 tn rm ln lx (i + 1) bd fs dp on os bn df1 th tp mo_ ev ss so lk rs pt ot cl ki wh _ (by first | assumption | omega | exact Or.inl rfl) hnt) (cwV 0 hG (gd_V k_1406 k_1408 k_56 k_116 k_1409) rfl rfl rfl (by decide +kernel) ⟨Nat.le_of_ble_eq_true rfl, Nat.le_of_ble_eq_true rfl⟩) (tw_V (q0 := 0) hP hD hK hE hst hS rfl rfl [0, 2, 3] rfl (by decide)) rfl rfl hl.1 rfl (lv_room (Nat.le_of_ble_eq_true rfl)) d_MO_collect_47 ⟨Nat.le_of_ble_eq_true rfl, Nat.le_of_ble_eq_true rfl⟩) hP hD hS hA [0, 2, 3] [1] rfl rfl (by decide) (by decide) (fun v u H locs hok hP hD hS => ?_) (fun x C u H locs hbad hxx hP hD hS => ?_)
            · skip
              obtain ⟨r_11, rfl, hp_12⟩ := hok
              have hres_13 : (((r_11 = 1 ∧ isNm ki wh (i + 1)) ∨ (r_11 = 0 ∧ ¬ isNm ki wh (i + 1)))) := hp_12
              have hP : va_P D classes [((f 17), .inl (cL, 8, .inr (.inl dfd1))), (h0, .inr (8, mS f tn rm ln lx (i + 1) bd fs dp on os bn df1 th tp mo_ ev ss so lk rs pt ot cl)), ((f 1), .inl (cI, 101, .inl ki)), ((f 2), .inl (cL, 101, .inr (.inl wh)))] H := hP
              have hD : va_D A [((f 17), .inl (cL, 8, .inr (.inl dfd1))), (h0, .inr (8, mS f tn rm ln lx (i + 1) bd fs dp on os bn df1 th tp mo_ ev ss so lk rs pt ot cl)), ((f 1), .inl (cI, 101, .inl ki)), ((f 2), .inl (cL, 101, .inr (.inl wh)))] := hD
              rcases hres_13 with ⟨rfl, hy_14⟩ | ⟨rfl, hy_14⟩
              · skip
                refine W.eq (g2 := F0 m 50 ls [.int 1]) rfl ?_
                refine lv_if_eq (tgt := 90) hx hb d_MO_collect_50 (by decide) (fun hbr => absurd hbr (by decide)) (fun hbr => ?_)
                refine lv_aload_n hx hb d_MO_collect_53 rfl (lv_at hl 0 rfl) ?_
                refine va_get (D := D) (ci := 8) (v := .int (nI df1)) (C := rn_MO) (T := fl_MO) (N := 55) hx hb hG in_MO hown hK hP 1 rfl rfl 28 (by decide) (hG _ k_1219) (fun _ h9 => h9) rfl d_MO_collect_54 ?_
                refine lv_bipush (v := 8) hx hb d_MO_collect_57 (by decide) ?_
                refine lv_icmp_ge (tgt := 90) hx hb d_MO_collect_59 (by decide) (fun hb_15 => ?_) (fun hb_15 => ?_)
                · skip
                  have hn_16 : 8 ≤ df1 := (nI_leI (a := 8) (b := df1) (by omega) (by omega)).mp hb_15
                  refine lv_iinc (k := 1) (v := nI (i + 1)) (lv' := [(1, .int (nI (i + 1))), (0, .ref h0)]) hx hb d_MO_collect_90 hl rfl (lw_inc i 1) (Nat.le_of_ble_eq_true rfl) rfl (fun ls hl => ?_)
                  refine lv_goto (tgt := 7) hx hb d_MO_collect_93 (by decide) ?_
                  have hl := lv_sub (l' := [(0, .ref h0), (1, .int (nI (i + 1)))]) hl [1, 0] rfl
                  have hP : va_P D classes [(h0, .inr (8, mS f tn rm ln lx (i + 1) bd fs dp on os bn df1 th tp mo_ ev ss so lk rs pt ot cl)), ((f 17), .inl (cL, 8, .inr (.inl dfd1))), ((f 1), .inl (cI, 101, .inl ki)), ((f 2), .inl (cL, 101, .inr (.inl wh)))] _ := hP.sub [1, 0, 2, 3] (wp_fm rfl)
                  have hD : va_D A [(h0, .inr (8, mS f tn rm ln lx (i + 1) bd fs dp on os bn df1 th tp mo_ ev ss so lk rs pt ot cl)), ((f 17), .inl (cL, 8, .inr (.inl dfd1))), ((f 1), .inl (cI, 101, .inl ki)), ((f 2), .inl (cL, 101, .inr (.inl wh)))] := hD.sub [1, 0, 2, 3] (by decide) rfl
                  exact ih_3 (i + 1) df1 (i + 1) dfd1 _ _ _ (by omega) (by omega) (by omega) (Nat.le_trans hd (dfo_mono (by omega))) hl hP hD hS
                · skip
                  have hn_17 : ¬ 8 ≤ df1 := fun h => hb_15 ((nI_leI (a := 8) (b := df1) (by omega) (by omega)).mpr h)
                  refine lv_aload_n hx hb d_MO_collect_62 rfl (lv_at hl 0 rfl) ?_
                  refine va_get (D := D) (ci := 8) (v := .ref (f 17)) (C := rn_MO) (T := fl_MO) (N := 55) hx hb hG in_MO hown hK hP 1 rfl rfl 29 (by decide) (hG _ k_1220) (fun _ h9 => h9) rfl d_MO_collect_63 ?_
                  refine lv_aload_n hx hb d_MO_collect_66 rfl (lv_at hl 0 rfl) ?_
                  refine va_get (D := D) (ci := 8) (v := .int (nI df1)) (C := rn_MO) (T := fl_MO) (N := 55) hx hb hG in_MO hown hK hP 1 rfl rfl 28 (by decide) (hG _ k_1219) (fun _ h9 => h9) rfl d_MO_collect_67 ?_
                  refine lv_aload_n hx hb d_MO_collect_70 rfl (lv_at hl 0 rfl) ?_
                  refine va_get (D := D) (ci := 8) (v := .ref (f 2)) (C := rn_MO) (T := fl_MO) (N := 55) hx hb hG in_MO hown hK hP 1 rfl rfl 8 (by decide) (hG _ k_1199) (fun _ h9 => h9) rfl d_MO_collect_71 ?_
                  refine lv_aload_n hx hb d_MO_collect_74 rfl (lv_at hl 0 rfl) ?_
                  refine va_get (D := D) (ci := 8) (v := .int (nI (i + 1))) (C := rn_MO) (T := fl_MO) (N := 55) hx hb hG in_MO hown hK hP 1 rfl rfl 5 (by decide) (hG _ k_1196) (fun _ h9 => h9) rfl d_MO_collect_75 ?_
                  refine va_lald hx hb hK hP 3 1 rfl rfl (vp_in_nI (n := i + 1) (N := 101) (by omega) (by omega)) d_MO_collect_78 ?_
                  refine W.eq (g2 := F0 m 79 ls [.long (wh (i + 1)), .int (nI df1), .ref (f 17)]) (by rw [nI_clamp (n := i + 1) (by omega)]) ?_
                  refine va_last hx hb hK hP hD hS 0 1 rfl rfl (vp_in_nI (n := df1) (N := 8) (by omega) (by omega)) d_MO_collect_79 (fun H locs hP hD hS => ?_)
                  have hP : va_P D classes [((f 17), .inl (cL, 8, .inr (.inl (vp_updL dfd1 (nI df1).toNatClampNeg (wh (i + 1)))))), (h0, .inr (8, mS f tn rm ln lx (i + 1) bd fs dp on os bn df1 th tp mo_ ev ss so lk rs pt ot cl)), ((f 1), .inl (cI, 101, .inl ki)), ((f 2), .inl (cL, 101, .inr (.inl wh)))] H := hP
                  have hD : va_D A [((f 17), .inl (cL, 8, .inr (.inl (vp_updL dfd1 (nI df1).toNatClampNeg (wh (i + 1)))))), (h0, .inr (8, mS f tn rm ln lx (i + 1) bd fs dp on os bn df1 th tp mo_ ev ss so lk rs pt ot cl)), ((f 1), .inl (cI, 101, .inl ki)), ((f 2), .inl (cL, 101, .inr (.inl wh)))] := hD
                  obtain ⟨g_18, eg_18⟩ : ∃ z, z = vp_updL dfd1 df1 (wh (i + 1)) := ⟨_, rfl⟩
                  rw [nI_clamp (n := df1) (by omega), ← eg_18] at hP hD
                  refine lv_aload_n hx hb d_MO_collect_80 rfl (lv_at hl 0 rfl) ?_
                  refine lv_dup hx hb d_MO_collect_81 rfl ?_
                  refine va_get (D := D) (ci := 8) (v := .int (nI df1)) (C := rn_MO) (T := fl_MO) (N := 55) hx hb hG in_MO hown hK hP 1 rfl rfl 28 (by decide) (hG _ k_1219) (fun _ h9 => h9) rfl d_MO_collect_82 ?_
                  refine lv_iconst (v := 1) hx hb d_MO_collect_85 (by decide) ?_
                  refine lw_iadd (a := df1) (b := 1) hx hb d_MO_collect_86 ?_
                  refine va_put (D := D) (ci := 8) (v := .int (nI (df1 + 1))) (ty := .int) (C := rn_MO) (T := fl_MO) (N := 55) hx hb hG in_MO tt_MO tk_MO nn_MO hown hK hP hD hS 1 rfl rfl 28 (by decide) (hG _ k_1219) (fun _ h9 => h9) rfl (by decide +kernel) rfl rfl (Nat.le_of_ble_eq_true rfl) d_MO_collect_87 (fun H locs hP hD hS => ?_)
                  have hP : va_P D classes [((f 17), .inl (cL, 8, .inr (.inl g_18))), (h0, .inr (8, mS f tn rm ln lx (i + 1) bd fs dp on os bn (df1 + 1) th tp mo_ ev ss so lk rs pt ot cl)), ((f 1), .inl (cI, 101, .inl ki)), ((f 2), .inl (cL, 101, .inr (.inl wh)))] H := hP
                  have hD : va_D A [((f 17), .inl (cL, 8, .inr (.inl g_18))), (h0, .inr (8, mS f tn rm ln lx (i + 1) bd fs dp on os bn (df1 + 1) th tp mo_ ev ss so lk rs pt ot cl)), ((f 1), .inl (cI, 101, .inl ki)), ((f 2), .inl (cL, 101, .inr (.inl wh)))] := hD
                  refine lv_iinc (k := 1) (v := nI (i + 1)) (lv' := [(1, .int (nI (i + 1))), (0, .ref h0)]) hx hb d_MO_collect_90 hl rfl (lw_inc i 1) (Nat.le_of_ble_eq_true rfl) rfl (fun ls hl => ?_)
                  refine lv_goto (tgt := 7) hx hb d_MO_collect_93 (by decide) ?_
                  have hl := lv_sub (l' := [(0, .ref h0), (1, .int (nI (i + 1)))]) hl [1, 0] rfl
                  have hP : va_P D classes [(h0, .inr (8, mS f tn rm ln lx (i + 1) bd fs dp on os bn (df1 + 1) th tp mo_ ev ss so lk rs pt ot cl)), ((f 17), .inl (cL, 8, .inr (.inl g_18))), ((f 1), .inl (cI, 101, .inl ki)), ((f 2), .inl (cL, 101, .inr (.inl wh)))] _ := hP.sub [1, 0, 2, 3] (wp_fm rfl)
                  have hD : va_D A [(h0, .inr (8, mS f tn rm ln lx (i + 1) bd fs dp on os bn (df1 + 1) th tp mo_ ev ss so lk rs pt ot cl)), ((f 17), .inl (cL, 8, .inr (.inl g_18))), ((f 1), .inl (cI, 101, .inl ki)), ((f 2), .inl (cL, 101, .inr (.inl wh)))] := hD.sub [1, 0, 2, 3] (by decide) rfl
                  exact ih_3 (i + 1) (df1 + 1) (i + 1) g_18 _ _ _ (by omega) (by omega) (by omega) (by rw [dfo_1 hb_7 hq_10]; omega) hl hP hD hS
              · skip
                refine W.eq (g2 := F0 m 50 ls [.int 0]) rfl ?_
                refine lv_if_eq (tgt := 90) hx hb d_MO_collect_50 (by decide) (fun hbr => ?_) (fun hbr => absurd (by decide) hbr)
                refine lv_iinc (k := 1) (v := nI (i + 1)) (lv' := [(1, .int (nI (i + 1))), (0, .ref h0)]) hx hb d_MO_collect_90 hl rfl (lw_inc i 1) (Nat.le_of_ble_eq_true rfl) rfl (fun ls hl => ?_)
                refine lv_goto (tgt := 7) hx hb d_MO_collect_93 (by decide) ?_
                have hl := lv_sub (l' := [(0, .ref h0), (1, .int (nI (i + 1)))]) hl [1, 0] rfl
                have hP : va_P D classes [(h0, .inr (8, mS f tn rm ln lx (i + 1) bd fs dp on os bn df1 th tp mo_ ev ss so lk rs pt ot cl)), ((f 17), .inl (cL, 8, .inr (.inl dfd1))), ((f 1), .inl (cI, 101, .inl ki)), ((f 2), .inl (cL, 101, .inr (.inl wh)))] _ := hP.sub [1, 0, 2, 3] (wp_fm rfl)
                have hD : va_D A [(h0, .inr (8, mS f tn rm ln lx (i + 1) bd fs dp on os bn df1 th tp mo_ ev ss so lk rs pt ot cl)), ((f 17), .inl (cL, 8, .inr (.inl dfd1))), ((f 1), .inl (cI, 101, .inl ki)), ((f 2), .inl (cL, 101, .inr (.inl wh)))] := hD.sub [1, 0, 2, 3] (by decide) rfl
                exact ih_3 (i + 1) df1 (i + 1) dfd1 _ _ _ (by omega) (by omega) (by omega) (Nat.le_trans hd (dfo_mono (by omega))) hl hP hD hS
            · skip
              exact hbad.elim
  refine lv_aload_n hx hb d_MO_collect_0 rfl (lv_at hl 0 rfl) ?_
  refine lv_iconst (v := 0) hx hb d_MO_collect_1 (by decide) ?_
  refine va_put (D := D) (ci := 8) (v := .int 0) (ty := .int) (C := rn_MO) (T := fl_MO) (N := 55) hx hb hG in_MO tt_MO tk_MO nn_MO hown hK hP hD hS 0 rfl rfl 28 (by decide) (hG _ k_1219) (fun _ h9 => h9) rfl (by decide +kernel) rfl rfl (Nat.le_of_ble_eq_true rfl) d_MO_collect_2 (fun H locs hP hD hS => ?_)
  have hP : va_P D classes [(h0, .inr (8, mS f tn rm ln lx at_ bd fs dp on os bn 0 th tp mo_ ev ss so lk rs pt ot cl)), ((f 17), .inl (cL, 8, .inr (.inl dfd))), ((f 1), .inl (cI, 101, .inl ki)), ((f 2), .inl (cL, 101, .inr (.inl wh)))] H := hP
  have hD : va_D A [(h0, .inr (8, mS f tn rm ln lx at_ bd fs dp on os bn 0 th tp mo_ ev ss so lk rs pt ot cl)), ((f 17), .inl (cL, 8, .inr (.inl dfd))), ((f 1), .inl (cI, 101, .inl ki)), ((f 2), .inl (cL, 101, .inr (.inl wh)))] := hD
  refine lv_iconst (v := 0) hx hb d_MO_collect_5 (by decide) ?_
  refine lv_istore_n (lv' := [(1, .int 0), (0, .ref h0)]) hx hb d_MO_collect_6 rfl hl (Nat.le_of_ble_eq_true rfl) rfl (fun ls hl => ?_)
  have hl := lv_sub (l' := [(0, .ref h0), (1, .int 0)]) hl [1, 0] rfl
  exact loop_2 _ 0 0 at_ dfd _ _ _ (Nat.lt_succ_self _) (by omega) (by omega) (Nat.zero_le _) hl hP hD hS
