/-! What the Statement says of the start. -/
section ST1
variable {args : Array Value} {s : State} {t : Term}
theorem st_len {n : Int32} (h : (Cond.eq (.length t) (.int n)).before args s = true) : ∃ (a : Nat) (cell : Cell), t.eval args s none [] s = some (.ref a) ∧ s.arrayAt? a = some cell ∧ cell.slots.size < 2 ^ 31 ∧ cell.slots.size.toInt32 = n := by
  cases ht : t.eval args s none [] s with
  | none => simp [Cond.before, Cond.holds, Cond.value, Term.eval, ht] at h
  | some w =>
    cases w with
    | ref a =>
      cases ha : s.arrayAt? a with
      | none => simp [Cond.before, Cond.holds, Cond.value, Term.eval, ht, ha] at h
      | some cell =>
        by_cases hz : cell.slots.size < 2 ^ 31
        · refine ⟨a, cell, rfl, ha, hz, ?_⟩
          simpa [Cond.before, Cond.holds, Cond.value, Term.eval, ht, ha, hz] using h
        · simp [Cond.before, Cond.holds, Cond.value, Term.eval, ht, ha, hz] at h
    | _ => simp [Cond.before, Cond.holds, Cond.value, Term.eval, ht] at h
theorem st_el {j v : Int32} {a : Nat} {cell : Cell} (h : (Cond.eq (.elem t (.int j)) (.int v)).before args s = true) (ht : t.eval args s none [] s = some (.ref a)) (ha : s.arrayAt? a = some cell) : cell.slots[j.toNatClampNeg]? = some (.int v) := by
  by_cases hj : j < 0
  · simp [Cond.before, Cond.holds, Cond.value, Term.eval, ht, ha, hj] at h
  · cases hc : cell.slots[j.toNatClampNeg]? with
    | none => simp [Cond.before, Cond.holds, Cond.value, Term.eval, ht, ha, hj, hc] at h
    | some w =>
      cases w with
      | int x =>
        have : x = v := by simpa [Cond.before, Cond.holds, Cond.value, Term.eval, ht, ha, hj, hc] using h
        rw [this]
      | _ => simp [Cond.before, Cond.holds, Cond.value, Term.eval, ht, ha, hj, hc] at h
theorem st_of {ty : FieldType} {a : Nat} {cell : Cell} (h : (Cond.arrayOf t ty).before args s = true) (ht : t.eval args s none [] s = some (.ref a)) (ha : s.arrayAt? a = some cell) : s.isArrayOf cell ty := by
  obtain ⟨h1, h2, h3, k, comp, ty2, h4, h5⟩ := State.arrayAt?_spec ha
  have h6 : ty2 = ty := by
    simp only [Cond.before, Cond.holds, Cond.value, ht, h1, h4, h5, Option.bind_eq_bind, Option.bind_some, Option.pure_def] at h
    split at h
    · simp at h
    · simp only [beq_iff_eq, Option.some.injEq, Bool.and_eq_true, decide_eq_true_eq] at h
      exact h.2
  exact ⟨(fun z hz => by rw [hz] at h3; cases h3), k, h4, comp, (by rw [h5, h6])⟩
theorem st_ex {C : String} (h : (Cond.exactly t C).before args s = true) : ∃ q : Nat, t.eval args s none [] s = some (.ref q) ∧ ∃ (c : ClassId) (ce : Cell) (k : Class), s.vm.findClass C = some c ∧ s.heap[q]? = some ce ∧ s.vm.classes[c]? = some k ∧ ce.vm.isStatics = false ∧ ce.cls = c ∧ (k.kind = .ordinary → ce.slots.size = k.instanceTypes.size) := by
  cases ht : t.eval args s none [] s with
  | none => simp [Cond.before, Cond.holds, Cond.value, ht] at h
  | some w =>
    cases hc : s.vm.findClass C with
    | none => cases w <;> simp [Cond.before, Cond.holds, Cond.value, ht, hc] at h
    | some c =>
      cases w with
      | ref q =>
        cases hq : s.heap[q]? with
        | none => simp [Cond.before, Cond.holds, Cond.value, ht, hc, hq] at h
        | some ce =>
          cases hk : s.vm.classes[c]? with
          | none => simp [Cond.before, Cond.holds, Cond.value, ht, hc, hq, hk] at h
          | some k =>
            simp only [Cond.before, Cond.holds, Cond.value, ht, hc, hq, hk, Option.bind_eq_bind, Option.bind_some, Option.pure_def, beq_iff_eq, Option.some.injEq, Bool.and_eq_true, Bool.not_eq_true'] at h
            refine ⟨q, rfl, c, ce, k, rfl, hq, hk, h.1.1, h.1.2, fun ho => ?_⟩
            have h2 := h.2
            rw [ho] at h2
            simpa using h2
      | _ => simp [Cond.before, Cond.holds, Cond.value, ht, hc] at h
theorem st_int {v : Int32} (h : (Cond.eq t (.int v)).before args s = true) : t.eval args s none [] s = some (.int v) := by
  cases ht : t.eval args s none [] s with
  | none => simp [Cond.before, Cond.holds, Cond.value, Term.eval, ht] at h
  | some w =>
    cases w with
    | int x =>
      have : x = v := by simpa [Cond.before, Cond.holds, Cond.value, Term.eval, ht] using h
      rw [this]
    | _ => simp [Cond.before, Cond.holds, Cond.value, Term.eval, ht] at h
theorem st_fld {n d : String} {q : Nat} {v : Value} (h : (Term.field t "java/lang/String" n d).eval args s none [] s = some v) (ht : t.eval args s none [] s = some (.ref q)) : RF s q n d v := by
  simp only [Term.eval, ht, Option.bind_eq_bind, Option.bind_some, State.fieldOf?, State.fieldNamed?, Option.bind_eq_some_iff] at h
  obtain ⟨ce, h1, ⟨c, k, sl⟩, ⟨⟨c2, k2, i2, f2⟩, h2, h3⟩, h4⟩ := h
  by_cases hf : f2.isStatic = false
  · simp only [hf, beq_self_eq_true, if_true, Option.pure_def, Option.some.injEq, Prod.mk.injEq] at h3
    obtain ⟨rfl, rfl, rfl⟩ := h3
    split at h4
    · cases h4
    · rename_i hn
      refine ⟨c2, k2, i2, f2, ce, h2, hf, h1, fun q => hn (Or.inl q), ?_, ?_, h4⟩
      · cases hz : ce.vm.isStatics with
        | false => rfl
        | true => exact absurd (Or.inr (Or.inl hz)) hn
      · cases hz : s.vm.assignable ce.cls c2 with
        | true => rfl
        | false => exact absurd (Or.inr (Or.inr hz)) hn
  · rw [Bool.not_eq_false] at hf
    simp [hf] at h3
theorem st_arr {ty : FieldType} (h : (Cond.arrayClass ty).before args s = true) : ∃ cA : ClassId, ArrOfT s cA ty ∧ s.vm.findClass ("[" ++ ty.toString) = some cA := by
  obtain ⟨c, k, comp, h1, h2, h3⟩ := Cond.arrayClass_spec h
  exact ⟨c, fun n z => ⟨fun k h => (by cases h), k, h2, comp, h3⟩, h1⟩
theorem st_el' {j v w : Int32} {i a : Nat} {cell : Cell} (h : (Cond.eq (.elem t (.int j)) (.int v)).before args s = true) (ht : t.eval args s none [] s = some (.ref a)) (ha : s.arrayAt? a = some cell) (hi : j.toNatClampNeg = i) (hv : v = w) : cell.slots[i]? = some (.int w) := by
  rw [← hi, ← hv]
  exact st_el h ht ha
theorem st_lit {own tx : String} {k : Nat} (h1 : (Cond.stringRef own k tx).before args s = true) (h2 : (Cond.exactly (.string own k) "java/lang/String").before args s = true) : ∃ q, vk_R own k tx q s := by
  obtain ⟨q, hq, -⟩ := st_ex h2
  exact ⟨q, vk_R.of h1 hq⟩
theorem st_lays {C n d : String} {a2 : Array Value} (h : (Cond.laysStatic C n d).before args s = true) : (Cond.laysStatic C n d).before a2 s = true := by
  obtain ⟨c, k, i, f, a, cell, hc, hi, hs, ha, hcell, hiss, hcls, hlt, hty⟩ := Cond.laysStatic_spec h
  exact Cond.laysStatic_of (s := s) hc hi hs ha hcell hiss hcls hlt hty
theorem st_rm (x : Int32) : ∃ r : Nat, 40 ≤ r ∧ r ≤ 400 ∧ (if 40 < (if x < 400 then x else 400) then (if x < 400 then x else 400) else 40) = nI r ∧ (¬ 40 ≤ x → nI r = 40) ∧ (40 ≤ x → ¬ x ≤ 400 → nI r = 400) ∧ (40 ≤ x → x ≤ 400 → nI r = x) := by
  by_cases h1 : 40 ≤ x
  · obtain ⟨k, hk, rfl⟩ := ge0_nI (Int32.le_trans (by decide) h1)
    have q1 : 40 ≤ k := (nI_leI (a := 40) (b := k) (by omega) (by omega)).mp h1
    by_cases h2 : nI k < 400
    · have q2 : k < 400 := (nI_ltI (a := k) (b := 400) (by omega) (by omega)).mp h2
      refine ⟨k, q1, by omega, ?_, fun h => absurd h1 h, fun _ h => absurd (Int32.le_of_lt h2) h, fun _ _ => rfl⟩
      rw [if_pos h2]
      by_cases h3 : 40 < nI k
      · rw [if_pos h3]
      · rw [if_neg h3]
        have : ¬ 40 < k := fun h => h3 ((nI_ltI (a := 40) (b := k) (by omega) (by omega)).mpr h)
        obtain rfl : k = 40 := by omega
        rfl
    · have q2 : 400 ≤ k := by
        rcases Nat.lt_or_ge k 400 with h | h
        · exact absurd ((nI_ltI (a := k) (b := 400) (by omega) (by omega)).mpr h) h2
        · exact h
      refine ⟨400, by omega, by omega, ?_, fun h => absurd h1 h, fun _ _ => rfl, fun _ h => ?_⟩
      · rw [if_neg h2, if_pos (by decide)]
        rfl
      · have := (nI_leI (a := k) (b := 400) (by omega) (by omega)).mp h
        obtain rfl : k = 400 := by omega
        rfl
  · have h2 : x < 40 := Int32.not_le.mp h1
    have h3 : x < 400 := Int32.lt_trans h2 (by decide)
    refine ⟨40, by omega, by omega, ?_, fun _ => rfl, fun h => absurd h h1, fun h => absurd h h1⟩
    rw [if_pos h3, if_neg (fun h => absurd (Int32.lt_trans h h2) (by decide))]
    rfl
end ST1

set_option maxHeartbeats 8000000 in
set_option maxRecDepth 100000 in
theorem lw_start {p : Program} {s : State} {m : MethodId} {meth : Method} {c : Code} (l : Launch) (hnt : l.stackTraces = false) {b L : Nat} {xs : Nat → Int32} (hL : L ≤ 2049) (C0 : lw_At p s m meth c b L xs) : ∃ (D : va_G) (cI cL cZ cC : ClassId) (A : Nat → Prop) (arc : Cell), lw_C p s m meth c l D cI cL cZ cC A b L xs arc := by
  obtain ⟨hx, hb, hr, hml, hown, hts, hX, hbl, hlocks, hgv⟩ := C0
  have hG : ∀ w ∈ G, w.before #[Value.ref b] s = true := fun w hw => hts w (G_tbl w hw)
  have hs := flat_of_before _ hgv
  clear hgv
  obtain ⟨cc0, ii0, hk0⟩ := u_known (C := rn_TH) (T := fl_TH) (N := 10) hG in_TH (hG _ k_131)
  obtain ⟨cc1, ii1, hk1⟩ := u_known (C := rn_LX) (T := fl_LX) (N := 3) hG in_LX (hG _ k_139)
  obtain ⟨cc2, ii2, hk2⟩ := u_known (C := rn_TM) (T := fl_TM) (N := 8) hG in_TM (hG _ k_157)
  obtain ⟨cc3, ii3, hk3⟩ := u_known (C := rn_RD) (T := fl_RD) (N := 12) hG in_RD (hG _ k_190)
  obtain ⟨cc4, ii4, hk4⟩ := u_known (C := rn_FM) (T := fl_FM) (N := 1) hG in_FM (hG _ k_233)
  obtain ⟨cc5, ii5, hk5⟩ := u_known (C := rn_HP) (T := fl_HP) (N := 12) hG in_HP (hG _ k_243)
  obtain ⟨cc6, ii6, hk6⟩ := u_known (C := rn_PP) (T := fl_PP) (N := 3) hG in_PP (hG _ k_292)
  obtain ⟨cc7, ii7, hk7⟩ := u_known (C := rn_MC) (T := fl_MC) (N := 18) hG in_MC (hG _ k_308)
  obtain ⟨cc8, ii8, hk8⟩ := u_known (C := rn_MO) (T := fl_MO) (N := 55) hG in_MO (hG _ k_1186)
  obtain ⟨cI, haI, hfI⟩ := st_arr (hG _ k_155)
  obtain ⟨cL, haL, hfL⟩ := st_arr (hG _ k_187)
  obtain ⟨cZ, haZ, hfZ⟩ := st_arr (hG _ k_188)
  obtain ⟨cC, haC, hfC⟩ := st_arr (hG _ k_154)
  obtain ⟨a0, t0, e0, g0, z0, n0⟩ := st_len (hs (.eq (.length (.static "TurnerHeap$Machine" "NEEDED" "[I")) (.int 23)) (by decide +kernel))
  have hsz0 : t0.slots.size = 23 := (nI_eq (a := t0.slots.size) (b := 23) (by omega) (by omega)).mp n0
  have hof0 : s.isArrayOf t0 .int := st_of (hs (.arrayOf (.static "TurnerHeap$Machine" "NEEDED" "[I") .int) (by decide +kernel)) e0 g0
  have x0_0 : t0.slots[0]? = some (.int (ndF 0)) := st_el' (j := 0) (v := 0) (hs (.eq (.elem (.static "TurnerHeap$Machine" "NEEDED" "[I") (.int 0)) (.int 0)) (by decide +kernel)) e0 g0 (by decide) (by decide)
  have x0_1 : t0.slots[1]? = some (.int (ndF 1)) := st_el' (j := 1) (v := 0) (hs (.eq (.elem (.static "TurnerHeap$Machine" "NEEDED" "[I") (.int 1)) (.int 0)) (by decide +kernel)) e0 g0 (by decide) (by decide)
  have x0_2 : t0.slots[2]? = some (.int (ndF 2)) := st_el' (j := 2) (v := 1) (hs (.eq (.elem (.static "TurnerHeap$Machine" "NEEDED" "[I") (.int 2)) (.int 1)) (by decide +kernel)) e0 g0 (by decide) (by decide)
  have x0_3 : t0.slots[3]? = some (.int (ndF 3)) := st_el' (j := 3) (v := 2) (hs (.eq (.elem (.static "TurnerHeap$Machine" "NEEDED" "[I") (.int 3)) (.int 2)) (by decide +kernel)) e0 g0 (by decide) (by decide)
  have x0_4 : t0.slots[4]? = some (.int (ndF 4)) := st_el' (j := 4) (v := 3) (hs (.eq (.elem (.static "TurnerHeap$Machine" "NEEDED" "[I") (.int 4)) (.int 3)) (by decide +kernel)) e0 g0 (by decide) (by decide)
  have x0_5 : t0.slots[5]? = some (.int (ndF 5)) := st_el' (j := 5) (v := 3) (hs (.eq (.elem (.static "TurnerHeap$Machine" "NEEDED" "[I") (.int 5)) (.int 3)) (by decide +kernel)) e0 g0 (by decide) (by decide)
  have x0_6 : t0.slots[6]? = some (.int (ndF 6)) := st_el' (j := 6) (v := 3) (hs (.eq (.elem (.static "TurnerHeap$Machine" "NEEDED" "[I") (.int 6)) (.int 3)) (by decide +kernel)) e0 g0 (by decide) (by decide)
  have x0_7 : t0.slots[7]? = some (.int (ndF 7)) := st_el' (j := 7) (v := 4) (hs (.eq (.elem (.static "TurnerHeap$Machine" "NEEDED" "[I") (.int 7)) (.int 4)) (by decide +kernel)) e0 g0 (by decide) (by decide)
  have x0_8 : t0.slots[8]? = some (.int (ndF 8)) := st_el' (j := 8) (v := 4) (hs (.eq (.elem (.static "TurnerHeap$Machine" "NEEDED" "[I") (.int 8)) (.int 4)) (by decide +kernel)) e0 g0 (by decide) (by decide)
  have x0_9 : t0.slots[9]? = some (.int (ndF 9)) := st_el' (j := 9) (v := 4) (hs (.eq (.elem (.static "TurnerHeap$Machine" "NEEDED" "[I") (.int 9)) (.int 4)) (by decide +kernel)) e0 g0 (by decide) (by decide)
  have x0_10 : t0.slots[10]? = some (.int (ndF 10)) := st_el' (j := 10) (v := 3) (hs (.eq (.elem (.static "TurnerHeap$Machine" "NEEDED" "[I") (.int 10)) (.int 3)) (by decide +kernel)) e0 g0 (by decide) (by decide)
  have x0_11 : t0.slots[11]? = some (.int (ndF 11)) := st_el' (j := 11) (v := 2) (hs (.eq (.elem (.static "TurnerHeap$Machine" "NEEDED" "[I") (.int 11)) (.int 2)) (by decide +kernel)) e0 g0 (by decide) (by decide)
  have x0_12 : t0.slots[12]? = some (.int (ndF 12)) := st_el' (j := 12) (v := 2) (hs (.eq (.elem (.static "TurnerHeap$Machine" "NEEDED" "[I") (.int 12)) (.int 2)) (by decide +kernel)) e0 g0 (by decide) (by decide)
  have x0_13 : t0.slots[13]? = some (.int (ndF 13)) := st_el' (j := 13) (v := 2) (hs (.eq (.elem (.static "TurnerHeap$Machine" "NEEDED" "[I") (.int 13)) (.int 2)) (by decide +kernel)) e0 g0 (by decide) (by decide)
  have x0_14 : t0.slots[14]? = some (.int (ndF 14)) := st_el' (j := 14) (v := 2) (hs (.eq (.elem (.static "TurnerHeap$Machine" "NEEDED" "[I") (.int 14)) (.int 2)) (by decide +kernel)) e0 g0 (by decide) (by decide)
  have x0_15 : t0.slots[15]? = some (.int (ndF 15)) := st_el' (j := 15) (v := 2) (hs (.eq (.elem (.static "TurnerHeap$Machine" "NEEDED" "[I") (.int 15)) (.int 2)) (by decide +kernel)) e0 g0 (by decide) (by decide)
  have x0_16 : t0.slots[16]? = some (.int (ndF 16)) := st_el' (j := 16) (v := 2) (hs (.eq (.elem (.static "TurnerHeap$Machine" "NEEDED" "[I") (.int 16)) (.int 2)) (by decide +kernel)) e0 g0 (by decide) (by decide)
  have x0_17 : t0.slots[17]? = some (.int (ndF 17)) := st_el' (j := 17) (v := 0) (hs (.eq (.elem (.static "TurnerHeap$Machine" "NEEDED" "[I") (.int 17)) (.int 0)) (by decide +kernel)) e0 g0 (by decide) (by decide)
  have x0_18 : t0.slots[18]? = some (.int (ndF 18)) := st_el' (j := 18) (v := 1) (hs (.eq (.elem (.static "TurnerHeap$Machine" "NEEDED" "[I") (.int 18)) (.int 1)) (by decide +kernel)) e0 g0 (by decide) (by decide)
  have x0_19 : t0.slots[19]? = some (.int (ndF 19)) := st_el' (j := 19) (v := 1) (hs (.eq (.elem (.static "TurnerHeap$Machine" "NEEDED" "[I") (.int 19)) (.int 1)) (by decide +kernel)) e0 g0 (by decide) (by decide)
  have x0_20 : t0.slots[20]? = some (.int (ndF 20)) := st_el' (j := 20) (v := 1) (hs (.eq (.elem (.static "TurnerHeap$Machine" "NEEDED" "[I") (.int 20)) (.int 1)) (by decide +kernel)) e0 g0 (by decide) (by decide)
  have x0_21 : t0.slots[21]? = some (.int (ndF 21)) := st_el' (j := 21) (v := 0) (hs (.eq (.elem (.static "TurnerHeap$Machine" "NEEDED" "[I") (.int 21)) (.int 0)) (by decide +kernel)) e0 g0 (by decide) (by decide)
  have x0_22 : t0.slots[22]? = some (.int (ndF 22)) := st_el' (j := 22) (v := 0) (hs (.eq (.elem (.static "TurnerHeap$Machine" "NEEDED" "[I") (.int 22)) (.int 0)) (by decide +kernel)) e0 g0 (by decide) (by decide)
  have hxs0 : va_X a0 23 ndF s s.heap := by
    obtain ⟨w1, w2, w3, -⟩ := State.arrayAt?_spec g0
    refine ⟨t0, w1, hof0, w2, hsz0, fun j hj => ?_⟩
    rcases (show j = 0 ∨ j = 1 ∨ j = 2 ∨ j = 3 ∨ j = 4 ∨ j = 5 ∨ j = 6 ∨ j = 7 ∨ j = 8 ∨ j = 9 ∨ j = 10 ∨ j = 11 ∨ j = 12 ∨ j = 13 ∨ j = 14 ∨ j = 15 ∨ j = 16 ∨ j = 17 ∨ j = 18 ∨ j = 19 ∨ j = 20 ∨ j = 21 ∨ j = 22 by omega) with rfl | rfl | rfl | rfl | rfl | rfl | rfl | rfl | rfl | rfl | rfl | rfl | rfl | rfl | rfl | rfl | rfl | rfl | rfl | rfl | rfl | rfl | rfl
    · exact x0_0
    · exact x0_1
    · exact x0_2
    · exact x0_3
    · exact x0_4
    · exact x0_5
    · exact x0_6
    · exact x0_7
    · exact x0_8
    · exact x0_9
    · exact x0_10
    · exact x0_11
    · exact x0_12
    · exact x0_13
    · exact x0_14
    · exact x0_15
    · exact x0_16
    · exact x0_17
    · exact x0_18
    · exact x0_19
    · exact x0_20
    · exact x0_21
    · exact x0_22
  have hZ0 : va_Z rn_MC "NEEDED" "[I" (.ref a0) (fun _ => False) s s.heap := va_Zref (hts (.laysStatic "TurnerHeap$Machine" "NEEDED" "[I") (by decide +kernel)) (hG _ k_115) e0 (fun _ _ h => h)
  obtain ⟨a1, t1, e1, g1, z1, n1⟩ := st_len (hs (.eq (.length (.static "TurnerHeap$Machine" "NEW_CELLS" "[I")) (.int 10)) (by decide +kernel))
  have hsz1 : t1.slots.size = 10 := (nI_eq (a := t1.slots.size) (b := 10) (by omega) (by omega)).mp n1
  have hof1 : s.isArrayOf t1 .int := st_of (hs (.arrayOf (.static "TurnerHeap$Machine" "NEW_CELLS" "[I") .int) (by decide +kernel)) e1 g1
  have x1_0 : t1.slots[0]? = some (.int (ncF 0)) := st_el' (j := 0) (v := 0) (hs (.eq (.elem (.static "TurnerHeap$Machine" "NEW_CELLS" "[I") (.int 0)) (.int 0)) (by decide +kernel)) e1 g1 (by decide) (by decide)
  have x1_1 : t1.slots[1]? = some (.int (ncF 1)) := st_el' (j := 1) (v := 0) (hs (.eq (.elem (.static "TurnerHeap$Machine" "NEW_CELLS" "[I") (.int 1)) (.int 0)) (by decide +kernel)) e1 g1 (by decide) (by decide)
  have x1_2 : t1.slots[2]? = some (.int (ncF 2)) := st_el' (j := 2) (v := 0) (hs (.eq (.elem (.static "TurnerHeap$Machine" "NEW_CELLS" "[I") (.int 2)) (.int 0)) (by decide +kernel)) e1 g1 (by decide) (by decide)
  have x1_3 : t1.slots[3]? = some (.int (ncF 3)) := st_el' (j := 3) (v := 0) (hs (.eq (.elem (.static "TurnerHeap$Machine" "NEW_CELLS" "[I") (.int 3)) (.int 0)) (by decide +kernel)) e1 g1 (by decide) (by decide)
  have x1_4 : t1.slots[4]? = some (.int (ncF 4)) := st_el' (j := 4) (v := 2) (hs (.eq (.elem (.static "TurnerHeap$Machine" "NEW_CELLS" "[I") (.int 4)) (.int 2)) (by decide +kernel)) e1 g1 (by decide) (by decide)
  have x1_5 : t1.slots[5]? = some (.int (ncF 5)) := st_el' (j := 5) (v := 1) (hs (.eq (.elem (.static "TurnerHeap$Machine" "NEW_CELLS" "[I") (.int 5)) (.int 1)) (by decide +kernel)) e1 g1 (by decide) (by decide)
  have x1_6 : t1.slots[6]? = some (.int (ncF 6)) := st_el' (j := 6) (v := 1) (hs (.eq (.elem (.static "TurnerHeap$Machine" "NEW_CELLS" "[I") (.int 6)) (.int 1)) (by decide +kernel)) e1 g1 (by decide) (by decide)
  have x1_7 : t1.slots[7]? = some (.int (ncF 7)) := st_el' (j := 7) (v := 3) (hs (.eq (.elem (.static "TurnerHeap$Machine" "NEW_CELLS" "[I") (.int 7)) (.int 3)) (by decide +kernel)) e1 g1 (by decide) (by decide)
  have x1_8 : t1.slots[8]? = some (.int (ncF 8)) := st_el' (j := 8) (v := 2) (hs (.eq (.elem (.static "TurnerHeap$Machine" "NEW_CELLS" "[I") (.int 8)) (.int 2)) (by decide +kernel)) e1 g1 (by decide) (by decide)
  have x1_9 : t1.slots[9]? = some (.int (ncF 9)) := st_el' (j := 9) (v := 2) (hs (.eq (.elem (.static "TurnerHeap$Machine" "NEW_CELLS" "[I") (.int 9)) (.int 2)) (by decide +kernel)) e1 g1 (by decide) (by decide)
  have hxs1 : va_X a1 10 ncF s s.heap := by
    obtain ⟨w1, w2, w3, -⟩ := State.arrayAt?_spec g1
    refine ⟨t1, w1, hof1, w2, hsz1, fun j hj => ?_⟩
    rcases (show j = 0 ∨ j = 1 ∨ j = 2 ∨ j = 3 ∨ j = 4 ∨ j = 5 ∨ j = 6 ∨ j = 7 ∨ j = 8 ∨ j = 9 by omega) with rfl | rfl | rfl | rfl | rfl | rfl | rfl | rfl | rfl | rfl
    · exact x1_0
    · exact x1_1
    · exact x1_2
    · exact x1_3
    · exact x1_4
    · exact x1_5
    · exact x1_6
    · exact x1_7
    · exact x1_8
    · exact x1_9
  have hZ1 : va_Z rn_MC "NEW_CELLS" "[I" (.ref a1) (fun _ => False) s s.heap := va_Zref (hts (.laysStatic "TurnerHeap$Machine" "NEW_CELLS" "[I") (by decide +kernel)) (hG _ k_115) e1 (fun _ _ h => h)
  obtain ⟨q, eq, hre⟩ := st_ex (hs (.exactly (.string "TurnerHeap$Lexemes" 48) "java/lang/String") (by decide +kernel))
  have hco := st_fld (st_int (hs (.eq (.field (.string "TurnerHeap$Lexemes" 48) "java/lang/String" "coder" "B") (.int 0)) (by decide +kernel))) eq
  obtain ⟨d, arc, ed, gd, zd, nd_⟩ := st_len (hs (.eq (.length (.field (.string "TurnerHeap$Lexemes" 48) "java/lang/String" "value" "[B")) (.int 14)) (by decide +kernel))
  have hva := st_fld ed eq
  have hszd : arc.slots.size = 14 := (nI_eq (a := arc.slots.size) (b := 14) (by omega) (by omega)).mp nd_
  have hofd : s.isArrayOf arc .byte := st_of (hs (.arrayOf (.field (.string "TurnerHeap$Lexemes" 48) "java/lang/String" "value" "[B") .byte) (by decide +kernel)) ed gd
  have xd_0 : arc.slots[0]? = some (.int 40) := st_el' (j := 0) (v := 40) (hs (.eq (.elem (.field (.string "TurnerHeap$Lexemes" 48) "java/lang/String" "value" "[B") (.int 0)) (.int 40)) (by decide +kernel)) ed gd (by decide) rfl
  have xd_1 : arc.slots[1]? = some (.int 41) := st_el' (j := 1) (v := 41) (hs (.eq (.elem (.field (.string "TurnerHeap$Lexemes" 48) "java/lang/String" "value" "[B") (.int 1)) (.int 41)) (by decide +kernel)) ed gd (by decide) rfl
  have xd_2 : arc.slots[2]? = some (.int 91) := st_el' (j := 2) (v := 91) (hs (.eq (.elem (.field (.string "TurnerHeap$Lexemes" 48) "java/lang/String" "value" "[B") (.int 2)) (.int 91)) (by decide +kernel)) ed gd (by decide) rfl
  have xd_3 : arc.slots[3]? = some (.int 93) := st_el' (j := 3) (v := 93) (hs (.eq (.elem (.field (.string "TurnerHeap$Lexemes" 48) "java/lang/String" "value" "[B") (.int 3)) (.int 93)) (by decide +kernel)) ed gd (by decide) rfl
  have xd_4 : arc.slots[4]? = some (.int 44) := st_el' (j := 4) (v := 44) (hs (.eq (.elem (.field (.string "TurnerHeap$Lexemes" 48) "java/lang/String" "value" "[B") (.int 4)) (.int 44)) (by decide +kernel)) ed gd (by decide) rfl
  have xd_5 : arc.slots[5]? = some (.int 58) := st_el' (j := 5) (v := 58) (hs (.eq (.elem (.field (.string "TurnerHeap$Lexemes" 48) "java/lang/String" "value" "[B") (.int 5)) (.int 58)) (by decide +kernel)) ed gd (by decide) rfl
  have xd_6 : arc.slots[6]? = some (.int 59) := st_el' (j := 6) (v := 59) (hs (.eq (.elem (.field (.string "TurnerHeap$Lexemes" 48) "java/lang/String" "value" "[B") (.int 6)) (.int 59)) (by decide +kernel)) ed gd (by decide) rfl
  have xd_7 : arc.slots[7]? = some (.int 46) := st_el' (j := 7) (v := 46) (hs (.eq (.elem (.field (.string "TurnerHeap$Lexemes" 48) "java/lang/String" "value" "[B") (.int 7)) (.int 46)) (by decide +kernel)) ed gd (by decide) rfl
  have xd_8 : arc.slots[8]? = some (.int 92) := st_el' (j := 8) (v := 92) (hs (.eq (.elem (.field (.string "TurnerHeap$Lexemes" 48) "java/lang/String" "value" "[B") (.int 8)) (.int 92)) (by decide +kernel)) ed gd (by decide) rfl
  have xd_9 : arc.slots[9]? = some (.int 43) := st_el' (j := 9) (v := 43) (hs (.eq (.elem (.field (.string "TurnerHeap$Lexemes" 48) "java/lang/String" "value" "[B") (.int 9)) (.int 43)) (by decide +kernel)) ed gd (by decide) rfl
  have xd_10 : arc.slots[10]? = some (.int 45) := st_el' (j := 10) (v := 45) (hs (.eq (.elem (.field (.string "TurnerHeap$Lexemes" 48) "java/lang/String" "value" "[B") (.int 10)) (.int 45)) (by decide +kernel)) ed gd (by decide) rfl
  have xd_11 : arc.slots[11]? = some (.int 42) := st_el' (j := 11) (v := 42) (hs (.eq (.elem (.field (.string "TurnerHeap$Lexemes" 48) "java/lang/String" "value" "[B") (.int 11)) (.int 42)) (by decide +kernel)) ed gd (by decide) rfl
  have xd_12 : arc.slots[12]? = some (.int 60) := st_el' (j := 12) (v := 60) (hs (.eq (.elem (.field (.string "TurnerHeap$Lexemes" 48) "java/lang/String" "value" "[B") (.int 12)) (.int 60)) (by decide +kernel)) ed gd (by decide) rfl
  have xd_13 : arc.slots[13]? = some (.int 61) := st_el' (j := 13) (v := 61) (hs (.eq (.elem (.field (.string "TurnerHeap$Lexemes" 48) "java/lang/String" "value" "[B") (.int 13)) (.int 61)) (by decide +kernel)) ed gd (by decide) rfl
  have hint : ∀ i, i < arc.slots.size → arc.slots[i]? = some (.int (Jvm.Lib.StringLatin1.equals.intAt arc i)) := by
    intro i hi
    rw [hszd] at hi
    apply Jvm.Lib.StringLatin1.equals.intAt_spec
    rcases (show i = 0 ∨ i = 1 ∨ i = 2 ∨ i = 3 ∨ i = 4 ∨ i = 5 ∨ i = 6 ∨ i = 7 ∨ i = 8 ∨ i = 9 ∨ i = 10 ∨ i = 11 ∨ i = 12 ∨ i = 13 by omega) with rfl | rfl | rfl | rfl | rfl | rfl | rfl | rfl | rfl | rfl | rfl | rfl | rfl | rfl
    · exact ⟨_, xd_0⟩
    · exact ⟨_, xd_1⟩
    · exact ⟨_, xd_2⟩
    · exact ⟨_, xd_3⟩
    · exact ⟨_, xd_4⟩
    · exact ⟨_, xd_5⟩
    · exact ⟨_, xd_6⟩
    · exact ⟨_, xd_7⟩
    · exact ⟨_, xd_8⟩
    · exact ⟨_, xd_9⟩
    · exact ⟨_, xd_10⟩
    · exact ⟨_, xd_11⟩
    · exact ⟨_, xd_12⟩
    · exact ⟨_, xd_13⟩
  have hcs : va_Z "java/lang/String" "COMPACT_STRINGS" "Z" (.int 1) (fun _ => False) s s.heap := va_Zof (hts (.laysStatic "java/lang/String" "COMPACT_STRINGS" "Z") (by decide +kernel)) (hG _ k_122) (st_int (hs (.eq (.static "java/lang/String" "COMPACT_STRINGS" "Z") (.int 1)) (by decide +kernel))) (fun _ _ h => h)
  have hlit : ∀ x ∈ LITS, ∃ q, vk_R x.1 x.2.1 x.2.2 q s := by
    unfold LITS
    exact List.forall_mem_cons.mpr ⟨st_lit (own := rn_TH) (k := 87) (tx := "not 1 to 8 characters") (hts (.stringRef rn_TH 87 "not 1 to 8 characters") (by decide +kernel)) (hs (.exactly (.string rn_TH 87) "java/lang/String") (by decide +kernel)), List.forall_mem_cons.mpr ⟨st_lit (own := rn_TH) (k := 100) (tx := "no character") (hts (.stringRef rn_TH 100 "no character") (by decide +kernel)) (hs (.exactly (.string rn_TH 100) "java/lang/String") (by decide +kernel)), List.forall_mem_cons.mpr ⟨st_lit (own := rn_TH) (k := 104) (tx := "the text is full") (hts (.stringRef rn_TH 104 "the text is full") (by decide +kernel)) (hs (.exactly (.string rn_TH 104) "java/lang/String") (by decide +kernel)), List.forall_mem_cons.mpr ⟨st_lit (own := rn_TH) (k := 142) (tx := "the terms are too big") (hts (.stringRef rn_TH 142 "the terms are too big") (by decide +kernel)) (hs (.exactly (.string rn_TH 142) "java/lang/String") (by decide +kernel)), List.forall_mem_cons.mpr ⟨st_lit (own := rn_TH) (k := 146) (tx := "not 1 to 500 steps") (hts (.stringRef rn_TH 146 "not 1 to 500 steps") (by decide +kernel)) (hs (.exactly (.string rn_TH 146) "java/lang/String") (by decide +kernel)), List.forall_mem_cons.mpr ⟨st_lit (own := rn_TH) (k := 151) (tx := "nothing goes") (hts (.stringRef rn_TH 151 "nothing goes") (by decide +kernel)) (hs (.exactly (.string rn_TH 151) "java/lang/String") (by decide +kernel)), List.forall_mem_cons.mpr ⟨st_lit (own := rn_TH) (k := 164) (tx := "no such character") (hts (.stringRef rn_TH 164 "no such character") (by decide +kernel)) (hs (.exactly (.string rn_TH 164) "java/lang/String") (by decide +kernel)), List.forall_mem_cons.mpr ⟨st_lit (own := rn_TH) (k := 171) (tx := "nothing is read") (hts (.stringRef rn_TH 171 "nothing is read") (by decide +kernel)) (hs (.exactly (.string rn_TH 171) "java/lang/String") (by decide +kernel)), List.forall_mem_cons.mpr ⟨st_lit (own := rn_TH) (k := 176) (tx := "no such count") (hts (.stringRef rn_TH 176 "no such count") (by decide +kernel)) (hs (.exactly (.string rn_TH 176) "java/lang/String") (by decide +kernel)), List.forall_mem_cons.mpr ⟨st_lit (own := rn_TH) (k := 190) (tx := "no such form") (hts (.stringRef rn_TH 190 "no such form") (by decide +kernel)) (hs (.exactly (.string rn_TH 190) "java/lang/String") (by decide +kernel)), List.forall_mem_cons.mpr ⟨st_lit (own := rn_LX) (k := 48) (tx := "()[],:;.\\+-*<=") (hts (.stringRef rn_LX 48 "()[],:;.\\+-*<=") (by decide +kernel)) (hs (.exactly (.string rn_LX 48) "java/lang/String") (by decide +kernel)), List.forall_mem_cons.mpr ⟨st_lit (own := rn_LX) (k := 58) (tx := "no lexeme") (hts (.stringRef rn_LX 58 "no lexeme") (by decide +kernel)) (hs (.exactly (.string rn_LX 58) "java/lang/String") (by decide +kernel)), List.forall_mem_cons.mpr ⟨st_lit (own := rn_LX) (k := 65) (tx := "too many lexemes") (hts (.stringRef rn_LX 65 "too many lexemes") (by decide +kernel)) (hs (.exactly (.string rn_LX 65) "java/lang/String") (by decide +kernel)), List.forall_mem_cons.mpr ⟨st_lit (own := rn_RD) (k := 93) (tx := "too many definitions") (hts (.stringRef rn_RD 93 "too many definitions") (by decide +kernel)) (hs (.exactly (.string rn_RD 93) "java/lang/String") (by decide +kernel)), List.forall_mem_cons.mpr ⟨st_lit (own := rn_RD) (k := 107) (tx := "too many parameters, or two alike") (hts (.stringRef rn_RD 107 "too many parameters, or two alike") (by decide +kernel)) (hs (.exactly (.string rn_RD 107) "java/lang/String") (by decide +kernel)), List.forall_mem_cons.mpr ⟨st_lit (own := rn_RD) (k := 110) (tx := "too deep") (hts (.stringRef rn_RD 110 "too deep") (by decide +kernel)) (hs (.exactly (.string rn_RD 110) "java/lang/String") (by decide +kernel)), List.forall_mem_cons.mpr ⟨st_lit (own := rn_RD) (k := 165) (tx := "no atom") (hts (.stringRef rn_RD 165 "no atom") (by decide +kernel)) (hs (.exactly (.string rn_RD 165) "java/lang/String") (by decide +kernel)), List.forall_mem_cons.mpr ⟨st_lit (own := rn_RD) (k := 180) (tx := "a name that means nothing") (hts (.stringRef rn_RD 180 "a name that means nothing") (by decide +kernel)) (hs (.exactly (.string rn_RD 180) "java/lang/String") (by decide +kernel)), List.forall_mem_cons.mpr ⟨st_lit (own := rn_RD) (k := 182) (tx := "another word is due") (hts (.stringRef rn_RD 182 "another word is due") (by decide +kernel)) (hs (.exactly (.string rn_RD 182) "java/lang/String") (by decide +kernel)), List.forall_mem_cons.mpr ⟨st_lit (own := rn_RD) (k := 184) (tx := "another lexeme is due") (hts (.stringRef rn_RD 184 "another lexeme is due") (by decide +kernel)) (hs (.exactly (.string rn_RD 184) "java/lang/String") (by decide +kernel)), fun _ h => absurd h List.not_mem_nil⟩⟩⟩⟩⟩⟩⟩⟩⟩⟩⟩⟩⟩⟩⟩⟩⟩⟩⟩⟩
  have hlU : (Cond.laysStatic Bundle.tN "UNASSIGNED_STACK" Bundle.steD).before #[Value.ref b] s = true := hts _ (by decide +kernel)
  have hqU : tw_Z0 "UNASSIGNED_STACK" Bundle.steD s s.heap := va_Zqof hlU (hG _ k_117) (hs (.isRef (.static Bundle.tN "UNASSIGNED_STACK" Bundle.steD)) (by decide +kernel)) (fun _ _ h => h)
  have hlS : (Cond.laysStatic Bundle.tN "SUPPRESSED_SENTINEL" Bundle.listD).before #[Value.ref b] s = true := hts _ (by decide +kernel)
  have hqS : tw_Z0 "SUPPRESSED_SENTINEL" Bundle.listD s s.heap := va_Zqof hlS (hG _ k_117) (hs (.isRef (.static Bundle.tN "SUPPRESSED_SENTINEL" Bundle.listD)) (by decide +kernel)) (fun _ _ h => h)
  have hcast : ∀ X ∈ XS, (Cond.castable X X).before #[] s = true := by
    unfold XS
    exact List.forall_mem_cons.mpr ⟨tw_cast (Vm.Alike.refl s.vm) (hts (.castable "java/lang/IllegalArgumentException" "java/lang/IllegalArgumentException") (by decide +kernel)), List.forall_mem_cons.mpr ⟨tw_cast (Vm.Alike.refl s.vm) (hts (.castable "java/lang/IllegalStateException" "java/lang/IllegalStateException") (by decide +kernel)), List.forall_mem_cons.mpr ⟨tw_cast (Vm.Alike.refl s.vm) (hts (.castable "java/lang/UnsupportedOperationException" "java/lang/UnsupportedOperationException") (by decide +kernel)), List.forall_mem_cons.mpr ⟨tw_cast (Vm.Alike.refl s.vm) (hts (.castable "java/lang/IndexOutOfBoundsException" "java/lang/IndexOutOfBoundsException") (by decide +kernel)), fun _ h => absurd h List.not_mem_nil⟩⟩⟩⟩
  have hnc : ∀ q ∈ NCP, va_Nc q.1 q.2 s := by
    unfold NCP
    exact List.forall_mem_cons.mpr ⟨va_Nc.of (hs (.not (.castable "java/lang/IllegalStateException" "java/lang/IllegalArgumentException")) (by decide +kernel)), List.forall_mem_cons.mpr ⟨va_Nc.of (hs (.not (.castable "java/lang/UnsupportedOperationException" "java/lang/IllegalArgumentException")) (by decide +kernel)), List.forall_mem_cons.mpr ⟨va_Nc.of (hs (.not (.castable "java/lang/UnsupportedOperationException" "java/lang/IllegalStateException")) (by decide +kernel)), fun _ h => absurd h List.not_mem_nil⟩⟩⟩
  have hvl := vk_R.of (hts (.stringRef rn_LX 48 "()[],:;.\\+-*<=") (by decide +kernel)) eq
  have hwd := State.arrayAt?_spec gd
  clear hs hts
  refine ⟨(fun k => match k with | 0 => cc0 | 1 => cc1 | 2 => cc2 | 3 => cc3 | 4 => cc4 | 5 => cc5 | 6 => cc6 | 7 => cc7 | 8 => cc8 | _ => cc0, fun k j => match k with | 0 => ii0 j | 1 => ii1 j | 2 => ii2 j | 3 => ii3 j | 4 => ii4 j | 5 => ii5 j | 6 => ii6 j | 7 => ii7 j | 8 => ii8 j | _ => match j with | 0 => a0 | 1 => a1 | 2 => q | _ => d), cI, cL, cZ, cC, (fun q => s.heap.size ≤ q), arc, ⟨hx, hb, hr, hml, hown, hG, hlocks⟩, ⟨hX, hL⟩, ⟨?_, ?_⟩, ?_, ?_, ?_, (fun _ h => h), (fun _ h => h), hnt⟩
  · intro k z hz
    have hk9 : k < 9 := (List.getElem?_eq_some_iff.mp hz).1
    rcases (show k = 0 ∨ k = 1 ∨ k = 2 ∨ k = 3 ∨ k = 4 ∨ k = 5 ∨ k = 6 ∨ k = 7 ∨ k = 8 by omega) with rfl | rfl | rfl | rfl | rfl | rfl | rfl | rfl | rfl
    · obtain rfl : (rn_TH, fl_TH, 10) = z := Option.some.inj hz
      exact hk0
    · obtain rfl : (rn_LX, fl_LX, 3) = z := Option.some.inj hz
      exact hk1
    · obtain rfl : (rn_TM, fl_TM, 8) = z := Option.some.inj hz
      exact hk2
    · obtain rfl : (rn_RD, fl_RD, 12) = z := Option.some.inj hz
      exact hk3
    · obtain rfl : (rn_FM, fl_FM, 1) = z := Option.some.inj hz
      exact hk4
    · obtain rfl : (rn_HP, fl_HP, 12) = z := Option.some.inj hz
      exact hk5
    · obtain rfl : (rn_PP, fl_PP, 3) = z := Option.some.inj hz
      exact hk6
    · obtain rfl : (rn_MC, fl_MC, 18) = z := Option.some.inj hz
      exact hk7
    · obtain rfl : (rn_MO, fl_MO, 55) = z := Option.some.inj hz
      exact hk8
  · intro k z hz
    have hk4 : k < 4 := (List.getElem?_eq_some_iff.mp hz).1
    rcases (show k = 0 ∨ k = 1 ∨ k = 2 ∨ k = 3 by omega) with rfl | rfl | rfl | rfl
    · obtain rfl : (cI, FieldType.int) = z := Option.some.inj hz
      exact ⟨haI, hfI⟩
    · obtain rfl : (cL, FieldType.long) = z := Option.some.inj hz
      exact ⟨haL, hfL⟩
    · obtain rfl : (cZ, FieldType.boolean) = z := Option.some.inj hz
      exact ⟨haZ, hfZ⟩
    · obtain rfl : (cC, FieldType.char) = z := Option.some.inj hz
      exact ⟨haC, hfC⟩
  · exact ⟨hlit, ⟨⟨hqU, hqS⟩, st_lays hlU, st_lays hlS⟩, hcast, hnc, hZ0, hZ1⟩
  · exact ⟨hvl, ⟨hre, hco, hva, ⟨hwd.1, hofd⟩, ⟨hwd.2.1, zd, hint⟩, hcs⟩, fun k e => ⟨(fun h => by cases h), (fun h => by cases h)⟩⟩
  · exact ⟨⟨hxs0, hxs1⟩, fun k e => ⟨(fun h => by cases h), (fun h => by cases h)⟩⟩
