/-! The reference's machine. -/
/-- the heap's cells and definitions -/
def HG (nd : Nat) (Gc : Nat → Prop) (trm one two : Nat → Int64) : Prop := (∀ c, Gc c → c < 400) ∧ nd ≤ 8 ∧ (∀ d, d < nd → okh nd Gc (trm d)) ∧ ∀ c, Gc c → okh nd Gc (one c) ∧ okh nd Gc (two c)
def MI (nd : Nat) (Gc : Nat → Prop) (trm one two : Nat → Int64) (spn : Nat → Int32) (tp : Nat) (lk rs : Int64) (pt : Int32) : Prop :=
  HG nd Gc trm one two ∧ okh nd Gc lk ∧ (pt = 2 → okh nd Gc rs) ∧ tp ≤ 150 ∧ ∀ k, k < tp → ∃ c : Nat, Gc c ∧ spn k = nI c
theorem okh_mono {nd : Nat} {G H : Nat → Prop} (h : ∀ c, G c → H c) {w : Int64} (q : okh nd G w) : okh nd H w := by
  rcases q with q | q | q | ⟨q1, c, q2, q3⟩
  · exact Or.inl q
  · exact Or.inr (Or.inl q)
  · exact Or.inr (Or.inr (Or.inl q))
  · exact Or.inr (Or.inr (Or.inr ⟨q1, c, h c q2, q3⟩))
theorem okh_con {nd : Nat} {G : Nat → Prop} (c : Nat) (h1 : 2 ≤ c) (h2 : c ≤ 22) : okh nd G (wof 2 (nI c)) := Or.inr (Or.inr (Or.inl ⟨wkind_of _ _, c, h1, h2, wnum_of _ _⟩))
theorem okh_num {nd : Nat} {G : Nat → Prop} (v : Int32) : okh nd G (wof 0 v) := Or.inl (wkind_of _ _)
theorem okh_3 {nd : Nat} {G : Nat → Prop} {w : Int64} (h : okh nd G w) (hk : wkind w = 3) : ∃ c : Nat, G c ∧ w.toInt32 = nI c := by
  rcases h with h | h | h | h
  · rw [hk] at h; exact absurd h (by decide)
  · rw [hk] at h; exact absurd h.1 (by decide)
  · rw [hk] at h; exact absurd h.1 (by decide)
  · exact h.2
theorem okh_1 {nd : Nat} {G : Nat → Prop} {w : Int64} (h : okh nd G w) (hk : wkind w = 1) : ∃ v : Nat, v < nd ∧ w.toInt32 = nI v := by
  rcases h with h | h | h | h
  · rw [hk] at h; exact absurd h (by decide)
  · exact h.2
  · rw [hk] at h; exact absurd h.1 (by decide)
  · rw [hk] at h; exact absurd h.1 (by decide)
theorem okh_2 {nd : Nat} {G : Nat → Prop} {w : Int64} (h : okh nd G w) (hk : wkind w = 2) : ∃ v : Nat, 2 ≤ v ∧ v ≤ 22 ∧ w.toInt32 = nI v := by
  rcases h with h | h | h | h
  · rw [hk] at h; exact absurd h (by decide)
  · rw [hk] at h; exact absurd h.1 (by decide)
  · exact h.2
  · rw [hk] at h; exact absurd h.1 (by decide)
theorem okh_k {nd : Nat} {G : Nat → Prop} {w : Int64} (h : okh nd G w) (h1 : ¬ wkind w = 1) (h2 : ¬ wkind w = 2) (h3 : ¬ wkind w = 3) : wkind w = 0 := by
  rcases h with h | h | h | h
  · exact h
  · exact absurd h.1 h1
  · exact absurd h.1 h2
  · exact absurd h.1 h3
theorem okh_0 {nd : Nat} {G : Nat → Prop} : okh nd G 0 := Or.inl (by decide)
/-- marks: as many as were counted, and where -/
def MK (Gc : Nat → Prop) (mrk wlk : Nat → Int32) (n : Nat) : Prop := sm (gn mrk) 400 = n ∧ ∀ i, i < n → ∃ c : Nat, Gc c ∧ wlk i = nI c
theorem gn_sm_le (g : Nat → Int32) (n : Nat) : sm (gn g) n ≤ n := sm_le (gn_le g) n
theorem gn_sm_up {g : Nat → Int32} {c : Nat} (hc : c < 400) (h : g c = 0) : sm (gn (upd g c 1)) 400 = sm (gn g) 400 + 1 := by
  have e : gn (upd g c 1) = fun d => gn g d + i1 d c := funext (fun d => gn_up (if_pos h) d)
  rw [e, sm_add, sm_i1, if_pos hc]
theorem MK.up {Gc : Nat → Prop} {mrk wlk : Nat → Int32} {n c : Nat} (h : MK Gc mrk wlk n) (hc : c < 400) (hg : Gc c) (h0 : mrk c = 0) : MK Gc (upd mrk c 1) (upd wlk n (nI c)) (n + 1) := by
  refine ⟨by rw [gn_sm_up hc h0, h.1], fun i hi => ?_⟩
  by_cases e : i = n
  · exact ⟨c, hg, upd_at e⟩
  · rw [upd_ne e]; exact h.2 i (by omega)
theorem gn_sm_0 {g : Nat → Int32} {n : Nat} (h : ∀ j, j < n → g j = 0) : sm (gn g) n = 0 := by
  induction n with
  | zero => rfl
  | succ n ih => show sm (gn g) n + gn g n = 0; rw [ih (fun j hj => h j (by omega)), show gn g n = 0 from if_pos (h n (by omega))]
theorem gn_sm_all {g : Nat → Int32} {n : Nat} (h : ∀ j, j < n → ¬ g j = 0) : sm (gn g) n = n := by
  induction n with
  | zero => rfl
  | succ n ih => show sm (gn g) n + gn g n = n + 1; rw [ih (fun j hj => h j (by omega)), show gn g n = 1 from if_neg (h n (by omega))]
theorem gn_free {g : Nat → Int32} {c : Nat} (h : sm (gn g) 400 < 400) (hc : ∀ j, j < c → ¬ g j = 0) : c < 400 := by
  rcases Nat.lt_or_ge c 400 with q | q
  · exact q
  · rw [gn_sm_all (fun j hj => hc j (by omega))] at h; omega
/-- a cell gets new sides -/
theorem HG.set {nd c : Nat} {Gc : Nat → Prop} {trm one two : Nat → Int64} {a b : Int64} (h : HG nd Gc trm one two) (hc : c < 400) (ha : okh nd Gc a) (hb : okh nd Gc b) : HG nd (fun d => Gc d ∨ d = c) trm (vp_updL one c a) (vp_updL two c b) := by
  obtain ⟨h1, h2, h3, h4⟩ := h
  have hm : ∀ d, Gc d → (Gc d ∨ d = c) := fun d q => Or.inl q
  refine ⟨fun d q => ?_, h2, fun d q => okh_mono hm (h3 d q), fun d q => ?_⟩
  · rcases q with q | q
    · exact h1 d q
    · omega
  · by_cases e : d = c
    · rw [vp_at e, vp_at e]; exact ⟨okh_mono hm ha, okh_mono hm hb⟩
    · rw [vp_ne e, vp_ne e]
      rcases q with q | q
      · exact ⟨okh_mono hm (h4 d q).1, okh_mono hm (h4 d q).2⟩
      · exact absurd q e
theorem HG.over {nd c : Nat} {Gc : Nat → Prop} {trm one two : Nat → Int64} {a b : Int64} (h : HG nd Gc trm one two) (hc : Gc c) (ha : okh nd Gc a) (hb : okh nd Gc b) : HG nd Gc trm (vp_updL one c a) (vp_updL two c b) := by
  obtain ⟨h1, h2, h3, h4⟩ := h
  refine ⟨h1, h2, h3, fun d q => ?_⟩
  by_cases e : d = c
  · rw [vp_at e, vp_at e]; exact ⟨ha, hb⟩
  · rw [vp_ne e, vp_ne e]; exact h4 d q
/-- the evaluations that wait -/
def me (bss wts : Nat → Int32) (ev tp c : Nat) : Prop := mg (fun k => if k = 0 then 0 else bss (k - 1)) (fun k => wts (k - 1)) ev tp c
theorem me.mono {bss wts : Nat → Int32} {ev tp c tp' c' : Nat} (h : me bss wts ev tp c) (h1 : tp + c' ≤ tp' + c) : me bss wts ev tp' c' := mg.mono h h1
theorem me.le {bss wts : Nat → Int32} {ev tp c : Nat} (h : me bss wts ev tp c) : c ≤ tp := mg.le h
theorem me.base {bss wts : Nat → Int32} {ev tp : Nat} (h : me bss wts ev tp 0) : ∃ m : Nat, m ≤ tp ∧ (ev = 0 → m = 0) ∧ (1 ≤ ev → bss (ev - 1) = nI m) ∧ me bss wts ev m 0 := by
  obtain ⟨b, a, h2, h3, h4, h5⟩ := h
  refine ⟨b ev, by omega, fun q => by rw [q]; exact h2, fun q => ?_, b, a, h2, h3, h4, by omega⟩
  have := h3 ev (Nat.le_refl _)
  have e : (if ev = 0 then 0 else bss (ev - 1)) = nI (b ev) := this
  rw [if_neg (by omega)] at e
  exact e
theorem me.pop {bss wts : Nat → Int32} {ev m : Nat} (h : me bss wts ev m 0) (hb : bss (ev - 1) = nI m) (hm : m < 2 ^ 31) (h1 : 1 ≤ ev) : ∃ a : Nat, wts (ev - 1) = nI a ∧ 10 ≤ a ∧ a ≤ 20 ∧ a ≠ 16 ∧ a ≠ 17 ∧ me bss wts (ev - 1) m (nd a) :=
  mg.pop h (by show (if ev = 0 then 0 else bss (ev - 1)) = nI m; rw [if_neg (by omega)]; exact hb) hm h1
theorem me.push {bss wts : Nat → Int32} {ev tp a : Nat} (h : me bss wts ev tp (nd a)) (h1 : 10 ≤ a) (h2 : a ≤ 20) (h3 : a ≠ 16) (h4 : a ≠ 17) : me (upd bss ev (nI tp)) (upd wts ev (nI a)) (ev + 1) tp 0 := by
  have q := mg.push (i := ev + 1) h h1 h2 h3 h4 rfl
  have e1 : (fun k => if k = 0 then (0 : Int32) else upd bss ev (nI tp) (k - 1)) = upd (fun k => if k = 0 then 0 else bss (k - 1)) (ev + 1) (nI tp) := by
    funext k
    by_cases e : k = ev + 1
    · rw [upd_at e]; show (if k = 0 then 0 else upd bss ev (nI tp) (k - 1)) = _; rw [if_neg (by omega), upd_at (by omega)]
    · rw [upd_ne e]
      show (if k = 0 then 0 else upd bss ev (nI tp) (k - 1)) = (if k = 0 then 0 else bss (k - 1))
      by_cases e0 : k = 0
      · rw [if_pos e0, if_pos e0]
      · rw [if_neg e0, if_neg e0, upd_ne (by omega)]
  have e2 : ∀ k, 1 ≤ k → (upd wts ev (nI a)) (k - 1) = upd (fun k => wts (k - 1)) (ev + 1) (nI a) k := by
    intro k hk
    by_cases e : k = ev + 1
    · rw [upd_at e, upd_at (by omega)]
    · rw [upd_ne e, upd_ne (by omega)]
  obtain ⟨b, c, g1, g2, g3, g4⟩ := q
  refine ⟨b, c, g1, fun k hk => ?_, fun k hk hk2 => ?_, g4⟩
  · have := g2 k hk
    rw [← e1] at this
    exact this
  · have := g3 k hk hk2
    rw [← e2 k hk] at this
    exact this
theorem me.zero {bss wts : Nat → Int32} : me bss wts 0 0 0 := ⟨fun _ => 0, fun _ => 0, rfl, fun k hk => by rw [show k = 0 by omega]; rfl, fun k h1 h2 => absurd h1 (by omega), Nat.le_refl _⟩
/-- evaluations whose second side hasn't been asked for -/
def fz (g : Nat → Int32) : Nat → Nat
  | 0 => 0
  | n + 1 => fz g n + (if g n = 0 then 1 else 0)
theorem fz_congr {g h : Nat → Int32} {n : Nat} (e : ∀ i, i < n → g i = h i) : fz g n = fz h n := by
  induction n with
  | zero => rfl
  | succ n ih => show fz g n + _ = fz h n + _; rw [ih (fun i hi => e i (by omega)), e n (by omega)]
theorem fz_up0 (g : Nat → Int32) (n : Nat) : fz (upd g n 0) (n + 1) = fz g n + 1 := by
  show fz (upd g n 0) n + (if upd g n 0 n = 0 then 1 else 0) = _
  rw [fz_congr (h := g) (fun i hi => upd_ne (by omega)), upd_at rfl, if_pos rfl]
theorem fz_up1 (g : Nat → Int32) (n : Nat) : fz (upd g n 1) (n + 1) = fz g n := by
  show fz (upd g n 1) n + (if upd g n 1 n = 0 then 1 else 0) = _
  rw [fz_congr (h := g) (fun i hi => upd_ne (by omega)), upd_at rfl, if_neg (by decide)]
  rfl
theorem fz_le (g : Nat → Int32) (n : Nat) : fz g n ≤ n := by
  induction n with
  | zero => exact Nat.le_refl _
  | succ n ih => show fz g n + _ ≤ _; split <;> omega
theorem fz_last {g : Nat → Int32} {n : Nat} (h : 1 ≤ n) (h0 : g (n - 1) = 0) : fz g n = fz g (n - 1) + 1 := by
  obtain ⟨k, rfl⟩ : ∃ k, n = k + 1 := ⟨n - 1, by omega⟩
  show fz g k + (if g k = 0 then 1 else 0) = fz g k + 1
  rw [if_pos (show g k = 0 from h0)]
/-- what is left until a step -/
def ptn (pt : Int32) : Nat := if pt = 2 then 0 else 1
def ms (pt : Int32) (ev : Nat) (snd : Nat → Int32) (tp : Nat) : Nat := ptn pt * 200 + (2 * (40 - ev) + fz snd ev) * 200 + (150 - tp)
def mneeds (o : Int32) : Int32 := if o = 2 ∨ ¬ o ≤ 17 then 1 else if o = 3 ∨ ¬ o ≤ 10 then 2 else if o < 7 ∨ o = 10 then 3 else 4
theorem sp_up {G H : Nat → Prop} {spn : Nat → Int32} {tp : Nat} (h : ∀ c, G c → H c) (q : ∀ k, k < tp → ∃ c : Nat, G c ∧ spn k = nI c) : ∀ k, k < tp → ∃ c : Nat, H c ∧ spn k = nI c := fun k hk => by
  obtain ⟨c, q1, q2⟩ := q k hk
  exact ⟨c, h c q1, q2⟩

set_option maxHeartbeats 8000000 in
set_option maxRecDepth 100000 in
theorem mo_reach (l : Launch) (D : va_G) (cI cL cZ cC : ClassId) (f : Nat → Nat) (h0 : Nat) (tn : Int32) (rm : Nat) (ln : Nat) (lx : Nat) (at_ : Nat) (bd : Int32) (fs : Nat) (dp : Nat) (on : Nat) (os : Nat) (bn : Nat) (df : Nat) (th : Int32) (tp : Nat) (mo_ : Int32) (ev : Nat) (ss : Int32) (so : Int32) (lk : Int64) (rs : Int64) (pt : Int32) (ot : Nat) (cl : Int32) (mrk : Nat → Int32) (wlk : Nat → Int32) (Gc : Nat → Prop) (t : Int64) (n : Nat) (sz : Nat) (hmrk : bln mrk) (hG4 : ∀ c, Gc c → c < 400) (hw : okh df Gc t) (hM : MK Gc mrk wlk n) (hnt : l.stackTraces = false) : em_Met l y_MO_reach (wz y_MO_reach b_MO_reach 4 (some .int)) ({ frames := 1, cells := 0, slots := 0, locals := 21 }) (va_Pc [.ref h0, .long t, .int (nI n)] (tw_pre D (tys4 cI cL cZ cC) [(h0, .inr (8, mS f tn rm ln lx at_ bd fs dp on os bn df th tp mo_ ev ss so lk rs pt ot cl)), ((f 22), .inl (cZ, 400, .inl mrk)), ((f 23), .inl (cI, 810, .inl wlk))] sz)) D (tys4 cI cL cZ cC) (va_A [(h0, .inr (8, mS f tn rm ln lx at_ bd fs dp on os bn df th tp mo_ ev ss so lk rs pt ot cl)), ((f 22), .inl (cZ, 400, .inl mrk)), ((f 23), .inl (cI, 810, .inl wlk))] sz) (fun (u : (Nat → Int32) × (Nat → Int32)) => [(h0, .inr (8, mS f tn rm ln lx at_ bd fs dp on os bn df th tp mo_ ev ss so lk rs pt ot cl)), ((f 22), .inl (cZ, 400, .inl u.1)), ((f 23), .inl (cI, 810, .inl u.2))]) (fun v (u : (Nat → Int32) × (Nat → Int32)) => ∃ r : Int32, v = some (.int r) ∧ ((bln u.1) ∧ (∃ n' : Nat, r = nI n' ∧ n ≤ n' ∧ n' ≤ n + 1 ∧ MK Gc u.1 u.2 n'))) (fun C (u : (Nat → Int32) × (Nat → Int32)) => False) 0 0 := by
  refine em_Met.ofW (cc := b_MO_reach) (maxL := 4) (ret := (some .int)) (by decide) rfl ?_
  intro p e s m args below meth c s₁ B hml hv hno
  obtain ⟨rfl, ⟨hsz, hP, hK, hD0⟩, hE⟩ := hv
  have hx := B.exec
  have hb := B.bytes
  have hr := B.returns
  have hts := atoms_spec (ws := wz y_MO_reach b_MO_reach 4 (some .int)) B.pre
  have hG := wz_G hts
  have hown : s.vm.findClass rn_MO = some m.cls := findClass_of_methodNamed B.named
  have hlocks := B.notSynchronized
  subst hsz
  have hD := hD0.self (sz := s.heap.size)
  have hst := tw_st hP
  generalize hAe : va_A [(h0, .inr (8, mS f tn rm ln lx at_ bd fs dp on os bn df th tp mo_ ev ss so lk rs pt ot cl)), ((f 22), .inl (cZ, 400, .inl mrk)), ((f 23), .inl (cI, 810, .inl wlk))] s.heap.size = A at hD hst ⊢
  have hA : ∀ q : Nat, s.heap.size ≤ q → A q := fun q h => by rw [← hAe]; exact Or.inr h
  have hS : va_S A s.heap s.heap [] := va_S.rf
  have hl := lv_entry ([.ref h0, .long t, .int (nI n)]) (n := 4) (Nat.le_of_ble_eq_true rfl)
  rw [lg_entry_eq]
  generalize (lg_sl ([.ref h0, .long t, .int (nI n)]) ++ List.replicate (4 - (lg_sl ([.ref h0, .long t, .int (nI n)])).length) Slot.unset).toArray = ls at hl ⊢
  have hl : lv_has ls 4 [(0, .ref h0), (1, .long t), (3, .int (nI n))] := hl
  have hn4 : n ≤ 400 := by rw [← hM.1]; exact gn_sm_le _ _
  refine lv_lload_n hx hb d_MO_reach_0 rfl (lv_at hl 1 rfl) ?_
  refine W.callR (W.runS (As := [.long t]) (rest := []) ⟨hx, hb, hml, hown, hG⟩ (mo_kindOf l D cI cL cZ cC t ) (cwS 1 hG (gd_S k_1519 k_1520 k_116 k_1521) rfl rfl rfl (by decide +kernel) ⟨Nat.le_of_ble_eq_true rfl, Nat.le_of_ble_eq_true rfl⟩) (wq_S hP hK [] rfl) rfl rfl hl.1 rfl (lv_room (Nat.le_of_ble_eq_true rfl)) d_MO_reach_1 ⟨Nat.le_of_ble_eq_true rfl, Nat.le_of_ble_eq_true rfl⟩) ?_
  refine W.eq (g2 := F0 m 4 ls [.int (wkind t)]) rfl ?_
  refine lv_iconst (v := 3) hx hb d_MO_reach_4 (by decide) ?_
  refine lv_icmp_ne (tgt := 20) hx hb d_MO_reach_5 (by decide) (fun hb_1 => ?_) (fun hb_1 => ?_)
  · skip
    refine lv_iload_n hx hb d_MO_reach_20 rfl (lv_at hl 2 rfl) ?_
    exact em_iret hx hb hr hlocks hP hD hK hS (mrk, wlk) [0, 1, 2] (by decide) rfl ⟨_, rfl, ⟨hmrk, (show ∃ n' : Nat, (nI n : Int32) = nI n' ∧ n ≤ n' ∧ n' ≤ n + 1 ∧ MK Gc mrk wlk n' from ⟨n, rfl, Nat.le_refl _, by omega, hM⟩)⟩⟩ d_MO_reach_21
  · skip
    obtain ⟨cc, hgc, ecc⟩ := okh_3 hw hb_1
    have hcc := hG4 cc hgc
    refine lv_aload_n hx hb d_MO_reach_8 rfl (lv_at hl 0 rfl) ?_
    refine va_get (D := D) (ci := 8) (v := .ref (f 22)) (C := rn_MO) (T := fl_MO) (N := 55) hx hb hG in_MO hown hK hP 0 rfl rfl 35 (by decide) (hG _ k_1226) (fun _ h9 => h9) rfl d_MO_reach_9 ?_
    refine lv_lload_n hx hb d_MO_reach_12 rfl (lv_at hl 1 rfl) ?_
    refine W.callR (W.runS (As := [.long t]) (rest := [.ref (f 22)]) ⟨hx, hb, hml, hown, hG⟩ (mo_valueOf l D cI cL cZ cC t ) (cwS 1 hG (gd_S k_1522 k_1523 k_116 k_1524) rfl rfl rfl (by decide +kernel) ⟨Nat.le_of_ble_eq_true rfl, Nat.le_of_ble_eq_true rfl⟩) (wq_S hP hK [] rfl) rfl rfl hl.1 rfl (lv_room (Nat.le_of_ble_eq_true rfl)) d_MO_reach_13 ⟨Nat.le_of_ble_eq_true rfl, Nat.le_of_ble_eq_true rfl⟩) ?_
    refine W.eq (g2 := F0 m 16 ls [.int t.toInt32, .ref (f 22)]) rfl ?_
    refine W.eq (g2 := F0 m 16 ls [.int (nI cc), .ref (f 22)]) (by rw [ecc]) ?_
    refine va_zald hx hb hK hP 1 2 rfl rfl (vp_in_nI (n := cc) (N := 400) (by omega) (by omega)) d_MO_reach_16 ?_
    refine W.eq (g2 := F0 m 17 ls [.int (mrk cc)]) (by rw [nI_clamp (n := cc) (by omega)]) ?_
    refine lv_if_eq (tgt := 22) hx hb d_MO_reach_17 (by decide) (fun hb_2 => ?_) (fun hb_2 => ?_)
    · skip
      refine lv_aload_n hx hb d_MO_reach_22 rfl (lv_at hl 0 rfl) ?_
      refine va_get (D := D) (ci := 8) (v := .ref (f 22)) (C := rn_MO) (T := fl_MO) (N := 55) hx hb hG in_MO hown hK hP 0 rfl rfl 35 (by decide) (hG _ k_1226) (fun _ h9 => h9) rfl d_MO_reach_23 ?_
      refine lv_lload_n hx hb d_MO_reach_26 rfl (lv_at hl 1 rfl) ?_
      refine W.callR (W.runS (As := [.long t]) (rest := [.ref (f 22)]) ⟨hx, hb, hml, hown, hG⟩ (mo_valueOf l D cI cL cZ cC t ) (cwS 1 hG (gd_S k_1522 k_1523 k_116 k_1524) rfl rfl rfl (by decide +kernel) ⟨Nat.le_of_ble_eq_true rfl, Nat.le_of_ble_eq_true rfl⟩) (wq_S hP hK [] rfl) rfl rfl hl.1 rfl (lv_room (Nat.le_of_ble_eq_true rfl)) d_MO_reach_27 ⟨Nat.le_of_ble_eq_true rfl, Nat.le_of_ble_eq_true rfl⟩) ?_
      refine W.eq (g2 := F0 m 30 ls [.int t.toInt32, .ref (f 22)]) rfl ?_
      refine W.eq (g2 := F0 m 30 ls [.int (nI cc), .ref (f 22)]) (by rw [ecc]) ?_
      refine lv_iconst (v := 1) hx hb d_MO_reach_30 (by decide) ?_
      refine va_zast hx hb hK hP hD hS 1 2 rfl rfl (vp_in_nI (n := cc) (N := 400) (by omega) (by omega)) d_MO_reach_31 (fun H locs hP hD hS => ?_)
      have hP : va_P D classes [(h0, .inr (8, mS f tn rm ln lx at_ bd fs dp on os bn df th tp mo_ ev ss so lk rs pt ot cl)), ((f 22), .inl (cZ, 400, .inl (upd mrk (nI cc).toNatClampNeg (vp_nar .boolean 1)))), ((f 23), .inl (cI, 810, .inl wlk))] H := hP
      have hD : va_D A [(h0, .inr (8, mS f tn rm ln lx at_ bd fs dp on os bn df th tp mo_ ev ss so lk rs pt ot cl)), ((f 22), .inl (cZ, 400, .inl (upd mrk (nI cc).toNatClampNeg (vp_nar .boolean 1)))), ((f 23), .inl (cI, 810, .inl wlk))] := hD
      obtain ⟨g_3, eg_3⟩ : ∃ z, z = upd mrk cc 1 := ⟨_, rfl⟩
      rw [nI_clamp (n := cc) (by omega), nar_b (Or.inr rfl), ← eg_3] at hP hD
      have hg_3 : bln g_3 := by rw [eg_3]; exact bln_ub hmrk (Or.inr rfl)
      refine lv_aload_n hx hb d_MO_reach_32 rfl (lv_at hl 0 rfl) ?_
      refine va_get (D := D) (ci := 8) (v := .ref (f 23)) (C := rn_MO) (T := fl_MO) (N := 55) hx hb hG in_MO hown hK hP 0 rfl rfl 36 (by decide) (hG _ k_1227) (fun _ h9 => h9) rfl d_MO_reach_33 ?_
      refine lv_iload_n hx hb d_MO_reach_36 rfl (lv_at hl 2 rfl) ?_
      refine lv_lload_n hx hb d_MO_reach_37 rfl (lv_at hl 1 rfl) ?_
      refine W.callR (W.runS (As := [.long t]) (rest := [.int (nI n), .ref (f 23)]) ⟨hx, hb, hml, hown, hG⟩ (mo_valueOf l D cI cL cZ cC t ) (cwS 1 hG (gd_S k_1522 k_1523 k_116 k_1524) rfl rfl rfl (by decide +kernel) ⟨Nat.le_of_ble_eq_true rfl, Nat.le_of_ble_eq_true rfl⟩) (wq_S hP hK [] rfl) rfl rfl hl.1 rfl (lv_room (Nat.le_of_ble_eq_true rfl)) d_MO_reach_38 ⟨Nat.le_of_ble_eq_true rfl, Nat.le_of_ble_eq_true rfl⟩) ?_
      refine W.eq (g2 := F0 m 41 ls [.int t.toInt32, .int (nI n), .ref (f 23)]) rfl ?_
      refine W.eq (g2 := F0 m 41 ls [.int (nI cc), .int (nI n), .ref (f 23)]) (by rw [ecc]) ?_
      refine va_iast hx hb hK hP hD hS 2 0 rfl rfl (vp_in_nI (n := n) (N := 810) (by omega) (by omega)) d_MO_reach_41 (fun H locs hP hD hS => ?_)
      have hP : va_P D classes [(h0, .inr (8, mS f tn rm ln lx at_ bd fs dp on os bn df th tp mo_ ev ss so lk rs pt ot cl)), ((f 22), .inl (cZ, 400, .inl g_3)), ((f 23), .inl (cI, 810, .inl (upd wlk (nI n).toNatClampNeg (nI cc))))] H := hP
      have hD : va_D A [(h0, .inr (8, mS f tn rm ln lx at_ bd fs dp on os bn df th tp mo_ ev ss so lk rs pt ot cl)), ((f 22), .inl (cZ, 400, .inl g_3)), ((f 23), .inl (cI, 810, .inl (upd wlk (nI n).toNatClampNeg (nI cc))))] := hD
      obtain ⟨g_4, eg_4⟩ : ∃ z, z = upd wlk n (nI cc) := ⟨_, rfl⟩
      rw [nI_clamp (n := n) (by omega), ← eg_4] at hP hD
      refine lv_iload_n hx hb d_MO_reach_42 rfl (lv_at hl 2 rfl) ?_
      refine lv_iconst (v := 1) hx hb d_MO_reach_43 (by decide) ?_
      refine lw_iadd (a := n) (b := 1) hx hb d_MO_reach_44 ?_
      exact em_iret hx hb hr hlocks hP hD hK hS (g_3, g_4) [0, 1, 2] (by decide) rfl ⟨_, rfl, ⟨hg_3, (show ∃ n' : Nat, (nI (n + 1) : Int32) = nI n' ∧ n ≤ n' ∧ n' ≤ n + 1 ∧ MK Gc g_3 g_4 n' from ⟨n + 1, rfl, by omega, by omega, by rw [eg_3, eg_4]; exact hM.up hcc hgc hb_2⟩)⟩⟩ d_MO_reach_45
    · skip
      refine lv_iload_n hx hb d_MO_reach_20 rfl (lv_at hl 2 rfl) ?_
      exact em_iret hx hb hr hlocks hP hD hK hS (mrk, wlk) [0, 1, 2] (by decide) rfl ⟨_, rfl, ⟨hmrk, (show ∃ n' : Nat, (nI n : Int32) = nI n' ∧ n ≤ n' ∧ n' ≤ n + 1 ∧ MK Gc mrk wlk n' from ⟨n, rfl, Nat.le_refl _, by omega, hM⟩)⟩⟩ d_MO_reach_21
set_option maxHeartbeats 8000000 in
set_option maxRecDepth 100000 in
theorem mo_reachedNow (l : Launch) (D : va_G) (cI cL cZ cC : ClassId) (f : Nat → Nat) (h0 : Nat) (tn : Int32) (rm : Nat) (ln : Nat) (lx : Nat) (at_ : Nat) (bd : Int32) (fs : Nat) (dp : Nat) (on : Nat) (os : Nat) (bn : Nat) (df : Nat) (th : Int32) (tp : Nat) (mo_ : Int32) (ev : Nat) (ss : Int32) (so : Int32) (lk : Int64) (rs : Int64) (pt : Int32) (ot : Nat) (cl : Int32) (mrk : Nat → Int32) (wlk : Nat → Int32) (trm : Nat → Int64) (one : Nat → Int64) (two : Nat → Int64) (spn : Nat → Int32) (Gc : Nat → Prop) (sz : Nat) (hmrk : bln mrk) (hHG : HG df Gc trm one two) (hlk : okh df Gc lk) (hrs : pt = 2 → okh df Gc rs) (htp : tp ≤ 150) (hsp : ∀ k, k < tp → ∃ c : Nat, Gc c ∧ spn k = nI c) (hnt : l.stackTraces = false) : em_Met l y_MO_reachedNow (wz y_MO_reachedNow b_MO_reachedNow 3 (some .int)) ({ frames := 2, cells := 0, slots := 0, locals := 44 }) (va_Pc [.ref h0] (tw_pre D (tys4 cI cL cZ cC) [(h0, .inr (8, mS f tn rm ln lx at_ bd fs dp on os bn df th tp mo_ ev ss so lk rs pt ot cl)), ((f 22), .inl (cZ, 400, .inl mrk)), ((f 23), .inl (cI, 810, .inl wlk)), ((f 18), .inl (cL, 9, .inr (.inl trm))), ((f 20), .inl (cL, 400, .inr (.inl one))), ((f 21), .inl (cL, 400, .inr (.inl two))), ((f 24), .inl (cI, 150, .inl spn))] sz)) D (tys4 cI cL cZ cC) (va_A [(h0, .inr (8, mS f tn rm ln lx at_ bd fs dp on os bn df th tp mo_ ev ss so lk rs pt ot cl)), ((f 22), .inl (cZ, 400, .inl mrk)), ((f 23), .inl (cI, 810, .inl wlk)), ((f 18), .inl (cL, 9, .inr (.inl trm))), ((f 20), .inl (cL, 400, .inr (.inl one))), ((f 21), .inl (cL, 400, .inr (.inl two))), ((f 24), .inl (cI, 150, .inl spn))] sz) (fun (u : (Nat → Int32) × (Nat → Int32)) => [(h0, .inr (8, mS f tn rm ln lx at_ bd fs dp on os bn df th tp mo_ ev ss so lk rs pt ot cl)), ((f 22), .inl (cZ, 400, .inl u.1)), ((f 23), .inl (cI, 810, .inl u.2)), ((f 18), .inl (cL, 9, .inr (.inl trm))), ((f 20), .inl (cL, 400, .inr (.inl one))), ((f 21), .inl (cL, 400, .inr (.inl two))), ((f 24), .inl (cI, 150, .inl spn))]) (fun v (u : (Nat → Int32) × (Nat → Int32)) => ∃ r : Int32, v = some (.int r) ∧ ((bln u.1) ∧ (∃ n' : Nat, r = nI n' ∧ n' ≤ 400 ∧ sm (gn u.1) 400 = n'))) (fun C (u : (Nat → Int32) × (Nat → Int32)) => False) 0 0 := by
  refine em_Met.ofW (cc := b_MO_reachedNow) (maxL := 3) (ret := (some .int)) (by decide) rfl ?_
  intro p e s m args below meth c s₁ B hml hv hno
  obtain ⟨rfl, ⟨hsz, hP, hK, hD0⟩, hE⟩ := hv
  have hx := B.exec
  have hb := B.bytes
  have hr := B.returns
  have hts := atoms_spec (ws := wz y_MO_reachedNow b_MO_reachedNow 3 (some .int)) B.pre
  have hG := wz_G hts
  have hown : s.vm.findClass rn_MO = some m.cls := findClass_of_methodNamed B.named
  have hlocks := B.notSynchronized
  subst hsz
  have hD := hD0.self (sz := s.heap.size)
  have hst := tw_st hP
  generalize hAe : va_A [(h0, .inr (8, mS f tn rm ln lx at_ bd fs dp on os bn df th tp mo_ ev ss so lk rs pt ot cl)), ((f 22), .inl (cZ, 400, .inl mrk)), ((f 23), .inl (cI, 810, .inl wlk)), ((f 18), .inl (cL, 9, .inr (.inl trm))), ((f 20), .inl (cL, 400, .inr (.inl one))), ((f 21), .inl (cL, 400, .inr (.inl two))), ((f 24), .inl (cI, 150, .inl spn))] s.heap.size = A at hD hst ⊢
  have hA : ∀ q : Nat, s.heap.size ≤ q → A q := fun q h => by rw [← hAe]; exact Or.inr h
  have hS : va_S A s.heap s.heap [] := va_S.rf
  have hl := lv_entry ([.ref h0]) (n := 3) (Nat.le_of_ble_eq_true rfl)
  rw [lg_entry_eq]
  generalize (lg_sl ([.ref h0]) ++ List.replicate (3 - (lg_sl ([.ref h0])).length) Slot.unset).toArray = ls at hl ⊢
  have hl : lv_has ls 3 [(0, .ref h0)] := hl
  obtain ⟨hG4, hdf8, htr, hcl⟩ := id hHG
  have loop_2 : ∀ (k_1 : Nat) (i : Nat) (mrk0 : Nat → Int32) (H : Heap) (locs : List Loc) (ls : Array Slot), 400 - i < k_1 → (i ≤ 400) → (∀ j, j < i → mrk0 j = 0) → (bln mrk0) → lv_has ls 3 [(0, .ref h0), (1, .int (nI i))] → va_P D classes [(h0, .inr (8, mS f tn rm ln lx at_ bd fs dp on os bn df th tp mo_ ev ss so lk rs pt ot cl)), ((f 22), .inl (cZ, 400, .inl mrk0)), ((f 23), .inl (cI, 810, .inl wlk)), ((f 18), .inl (cL, 9, .inr (.inl trm))), ((f 20), .inl (cL, 400, .inr (.inl one))), ((f 21), .inl (cL, 400, .inr (.inl two))), ((f 24), .inl (cI, 150, .inl spn))] H → va_D A [(h0, .inr (8, mS f tn rm ln lx at_ bd fs dp on os bn df th tp mo_ ev ss so lk rs pt ot cl)), ((f 22), .inl (cZ, 400, .inl mrk0)), ((f 23), .inl (cI, 810, .inl wlk)), ((f 18), .inl (cL, 9, .inr (.inl trm))), ((f 20), .inl (cL, 400, .inr (.inl one))), ((f 21), .inl (cL, 400, .inr (.inl two))), ((f 24), .inl (cI, 150, .inl spn))] → va_S A s.heap H locs → W p l e (headSpec (wz y_MO_reachedNow b_MO_reachedNow 3 (some .int)) ({ frames := 2, cells := 0, slots := 0, locals := 44 })).room s m ([.ref h0] : List Value).toArray below meth c H locs 0 0 (em_MQ below D (tys4 cI cL cZ cC) A (fun (u : (Nat → Int32) × (Nat → Int32)) => [(h0, .inr (8, mS f tn rm ln lx at_ bd fs dp on os bn df th tp mo_ ev ss so lk rs pt ot cl)), ((f 22), .inl (cZ, 400, .inl u.1)), ((f 23), .inl (cI, 810, .inl u.2)), ((f 18), .inl (cL, 9, .inr (.inl trm))), ((f 20), .inl (cL, 400, .inr (.inl one))), ((f 21), .inl (cL, 400, .inr (.inl two))), ((f 24), .inl (cI, 150, .inl spn))]) (fun v (u : (Nat → Int32) × (Nat → Int32)) => ∃ r : Int32, v = some (.int r) ∧ ((bln u.1) ∧ (∃ n' : Nat, r = nI n' ∧ n' ≤ 400 ∧ sm (gn u.1) 400 = n'))) (fun C (u : (Nat → Int32) × (Nat → Int32)) => False) s 0 0) (F0 m 2 ls []) := by
    intro k_1
    induction k_1 with
    | zero => intro i mrk0 H locs ls hm; exact absurd hm (Nat.not_lt_zero _)
    | succ k_1 ih_3 =>
      intro i mrk0 H locs ls hm hi hz0 hmrk0 hl hP hD hS
      refine lv_iload_n hx hb d_MO_reachedNow_2 rfl (lv_at hl 1 rfl) ?_
      refine lv_sipush (v := 400) hx hb d_MO_reachedNow_3 (by decide) ?_
      refine lv_icmp_ge (tgt := 22) hx hb d_MO_reachedNow_6 (by decide) (fun hb_4 => ?_) (fun hb_4 => ?_)
      · skip
        have hn_5 : 400 ≤ i := (nI_leI (a := 400) (b := i) (by omega) (by omega)).mp hb_4
        have loop_7 : ∀ (k_6 : Nat) (n5 : Nat) (k5 : Nat) (mrk5 : Nat → Int32) (wlk5 : Nat → Int32) (H : Heap) (locs : List Loc) (ls : Array Slot), 400 - k5 < k_6 → (k5 ≤ n5) → (n5 ≤ 400) → (MK Gc mrk5 wlk5 n5) → (bln mrk5) → lv_has ls 3 [(0, .ref h0), (1, .int (nI n5)), (2, .int (nI k5))] → va_P D classes [(h0, .inr (8, mS f tn rm ln lx at_ bd fs dp on os bn df th tp mo_ ev ss so lk rs pt ot cl)), ((f 22), .inl (cZ, 400, .inl mrk5)), ((f 23), .inl (cI, 810, .inl wlk5)), ((f 18), .inl (cL, 9, .inr (.inl trm))), ((f 20), .inl (cL, 400, .inr (.inl one))), ((f 21), .inl (cL, 400, .inr (.inl two))), ((f 24), .inl (cI, 150, .inl spn))] H → va_D A [(h0, .inr (8, mS f tn rm ln lx at_ bd fs dp on os bn df th tp mo_ ev ss so lk rs pt ot cl)), ((f 22), .inl (cZ, 400, .inl mrk5)), ((f 23), .inl (cI, 810, .inl wlk5)), ((f 18), .inl (cL, 9, .inr (.inl trm))), ((f 20), .inl (cL, 400, .inr (.inl one))), ((f 21), .inl (cL, 400, .inr (.inl two))), ((f 24), .inl (cI, 150, .inl spn))] → va_S A s.heap H locs → W p l e (headSpec (wz y_MO_reachedNow b_MO_reachedNow 3 (some .int)) ({ frames := 2, cells := 0, slots := 0, locals := 44 })).room s m ([.ref h0] : List Value).toArray below meth c H locs 0 0 (em_MQ below D (tys4 cI cL cZ cC) A (fun (u : (Nat → Int32) × (Nat → Int32)) => [(h0, .inr (8, mS f tn rm ln lx at_ bd fs dp on os bn df th tp mo_ ev ss so lk rs pt ot cl)), ((f 22), .inl (cZ, 400, .inl u.1)), ((f 23), .inl (cI, 810, .inl u.2)), ((f 18), .inl (cL, 9, .inr (.inl trm))), ((f 20), .inl (cL, 400, .inr (.inl one))), ((f 21), .inl (cL, 400, .inr (.inl two))), ((f 24), .inl (cI, 150, .inl spn))]) (fun v (u : (Nat → Int32) × (Nat → Int32)) => ∃ r : Int32, v = some (.int r) ∧ ((bln u.1) ∧ (∃ n' : Nat, r = nI n' ∧ n' ≤ 400 ∧ sm (gn u.1) 400 = n'))) (fun C (u : (Nat → Int32) × (Nat → Int32)) => False) s 0 0) (F0 m 112 ls []) := by
          intro k_6
          induction k_6 with
          | zero => intro n5 k5 mrk5 wlk5 H locs ls hm; exact absurd hm (Nat.not_lt_zero _)
          | succ k_6 ih_8 =>
            intro n5 k5 mrk5 wlk5 H locs ls hm hk5 hn5 hM5 hmrk5 hl hP hD hS
            refine lv_iload_n hx hb d_MO_reachedNow_112 rfl (lv_at hl 2 rfl) ?_
            refine lv_iload_n hx hb d_MO_reachedNow_113 rfl (lv_at hl 1 rfl) ?_
            refine lv_icmp_ge (tgt := 157) hx hb d_MO_reachedNow_114 (by decide) (fun hb_9 => ?_) (fun hb_9 => ?_)
            · skip
              have hn_10 : n5 ≤ k5 := (nI_leI (a := n5) (b := k5) (by omega) (by omega)).mp hb_9
              refine lv_iload_n hx hb d_MO_reachedNow_157 rfl (lv_at hl 1 rfl) ?_
              exact em_iret hx hb hr hlocks hP hD hK hS (mrk5, wlk5) [0, 1, 2, 3, 4, 5, 6] (by decide) rfl ⟨_, rfl, ⟨hmrk5, (show ∃ n' : Nat, (nI n5 : Int32) = nI n' ∧ n' ≤ 400 ∧ sm (gn mrk5) 400 = n' from ⟨n5, rfl, hn5, hM5.1⟩)⟩⟩ d_MO_reachedNow_158
            · skip
              have hn_11 : ¬ n5 ≤ k5 := fun h => hb_9 ((nI_leI (a := n5) (b := k5) (by omega) (by omega)).mpr h)
              obtain ⟨cw, hgw, ecw⟩ := hM5.2 k5 (by omega)
              have hcw := hG4 cw hgw
              refine lv_aload_n hx hb d_MO_reachedNow_117 rfl (lv_at hl 0 rfl) ?_
              refine lv_aload_n hx hb d_MO_reachedNow_118 rfl (lv_at hl 0 rfl) ?_
              refine va_get (D := D) (ci := 8) (v := .ref (f 20)) (C := rn_MO) (T := fl_MO) (N := 55) hx hb hG in_MO hown hK hP 0 rfl rfl 33 (by decide) (hG _ k_1224) (fun _ h9 => h9) rfl d_MO_reachedNow_119 ?_
              refine lv_aload_n hx hb d_MO_reachedNow_122 rfl (lv_at hl 0 rfl) ?_
              refine va_get (D := D) (ci := 8) (v := .ref (f 23)) (C := rn_MO) (T := fl_MO) (N := 55) hx hb hG in_MO hown hK hP 0 rfl rfl 36 (by decide) (hG _ k_1227) (fun _ h9 => h9) rfl d_MO_reachedNow_123 ?_
              refine lv_iload_n hx hb d_MO_reachedNow_126 rfl (lv_at hl 2 rfl) ?_
              refine va_iald hx hb hK hP 2 0 rfl rfl (vp_in_nI (n := k5) (N := 810) (by omega) (by omega)) d_MO_reachedNow_127 ?_
              refine W.eq (g2 := F0 m 128 ls [.int (nI cw), .ref (f 20), .ref h0]) (by rw [nI_clamp (n := k5) (by omega)]; rw [ecw]) ?_
              refine va_lald hx hb hK hP 4 1 rfl rfl (vp_in_nI (n := cw) (N := 400) (by omega) (by omega)) d_MO_reachedNow_128 ?_
              refine W.eq (g2 := F0 m 129 ls [.long (one cw), .ref h0]) (by rw [nI_clamp (n := cw) (by omega)]) ?_
              refine lv_iload_n hx hb d_MO_reachedNow_129 rfl (lv_at hl 1 rfl) ?_
              refine em_call (wr := [((f 18), .inl (cL, 9, .inr (.inl trm))), ((f 20), .inl (cL, 400, .inr (.inl one))), ((f 21), .inl (cL, 400, .inr (.inl two))), ((f 24), .inl (cI, 150, .inl spn))]) (em_runV (As := [.long (one cw), .int (nI n5)]) (rest := []) ⟨hx, hb, hml, hown, hG⟩ (mo_reach l D cI cL cZ cC f h0 tn rm ln lx at_ bd fs dp on os bn df th tp mo_ ev ss so lk rs pt ot cl mrk5 wlk5 Gc (one cw) n5 _ hmrk5 hG4 (hcl cw hgw).1 hM5 hnt) (cwV 2 hG (gd_V k_1636 k_1638 k_104 k_116 k_1639) rfl rfl rfl (by decide +kernel) ⟨Nat.le_of_ble_eq_true rfl, Nat.le_of_ble_eq_true rfl⟩) (tw_V (q0 := 0) hP hD hK hE hst hS rfl rfl [0, 1, 2] rfl (by decide)) rfl rfl hl.1 rfl (lv_room (Nat.le_of_ble_eq_true rfl)) d_MO_reachedNow_130 ⟨Nat.le_of_ble_eq_true rfl, Nat.le_of_ble_eq_true rfl⟩) hP hD hS hA [0, 1, 2] [3, 4, 5, 6] rfl rfl (by decide) (by decide) (fun v u H locs hok hP hD hS => ?_) (fun x C u H locs hbad hxx hP hD hS => ?_)
              · skip
                obtain ⟨mrk_12, wlk_13⟩ := u
                obtain ⟨r_14, rfl, hp_15⟩ := hok
                obtain ⟨hmrk_16, hres_17⟩ : (bln mrk_12) ∧ (∃ n' : Nat, r_14 = nI n' ∧ n5 ≤ n' ∧ n' ≤ n5 + 1 ∧ MK Gc mrk_12 wlk_13 n') := hp_15
                obtain ⟨n_18, rfl, hn_18a, hn_18b, hn_18c⟩ := hres_17
                have hn_18d : n_18 ≤ 400 := by rw [← hn_18c.1]; exact gn_sm_le _ _
                have hP : va_P D classes [((f 18), .inl (cL, 9, .inr (.inl trm))), ((f 20), .inl (cL, 400, .inr (.inl one))), ((f 21), .inl (cL, 400, .inr (.inl two))), ((f 24), .inl (cI, 150, .inl spn)), (h0, .inr (8, mS f tn rm ln lx at_ bd fs dp on os bn df th tp mo_ ev ss so lk rs pt ot cl)), ((f 22), .inl (cZ, 400, .inl mrk_12)), ((f 23), .inl (cI, 810, .inl wlk_13))] H := hP
                have hD : va_D A [((f 18), .inl (cL, 9, .inr (.inl trm))), ((f 20), .inl (cL, 400, .inr (.inl one))), ((f 21), .inl (cL, 400, .inr (.inl two))), ((f 24), .inl (cI, 150, .inl spn)), (h0, .inr (8, mS f tn rm ln lx at_ bd fs dp on os bn df th tp mo_ ev ss so lk rs pt ot cl)), ((f 22), .inl (cZ, 400, .inl mrk_12)), ((f 23), .inl (cI, 810, .inl wlk_13))] := hD
                refine W.eq (g2 := F0 m 133 ls [.int (nI n_18)]) rfl ?_
                refine lv_istore_n (lv' := [(1, .int (nI n_18)), (0, .ref h0), (2, .int (nI k5))]) hx hb d_MO_reachedNow_133 rfl hl (Nat.le_of_ble_eq_true rfl) rfl (fun ls hl => ?_)
                refine lv_aload_n hx hb d_MO_reachedNow_134 rfl (lv_at hl 1 rfl) ?_
                refine lv_aload_n hx hb d_MO_reachedNow_135 rfl (lv_at hl 1 rfl) ?_
                refine va_get (D := D) (ci := 8) (v := .ref (f 21)) (C := rn_MO) (T := fl_MO) (N := 55) hx hb hG in_MO hown hK hP 4 rfl rfl 34 (by decide) (hG _ k_1225) (fun _ h9 => h9) rfl d_MO_reachedNow_136 ?_
                refine lv_aload_n hx hb d_MO_reachedNow_139 rfl (lv_at hl 1 rfl) ?_
                refine va_get (D := D) (ci := 8) (v := .ref (f 23)) (C := rn_MO) (T := fl_MO) (N := 55) hx hb hG in_MO hown hK hP 4 rfl rfl 36 (by decide) (hG _ k_1227) (fun _ h9 => h9) rfl d_MO_reachedNow_140 ?_
                refine lv_iload_n hx hb d_MO_reachedNow_143 rfl (lv_at hl 2 rfl) ?_
                obtain ⟨cw2, hgw2, ecw2⟩ := hn_18c.2 k5 (by omega)
                have hcw2 := hG4 cw2 hgw2
                refine va_iald hx hb hK hP 6 0 rfl rfl (vp_in_nI (n := k5) (N := 810) (by omega) (by omega)) d_MO_reachedNow_144 ?_
                refine W.eq (g2 := F0 m 145 ls [.int (nI cw2), .ref (f 21), .ref h0]) (by rw [nI_clamp (n := k5) (by omega)]; rw [ecw2]) ?_
                refine va_lald hx hb hK hP 2 1 rfl rfl (vp_in_nI (n := cw2) (N := 400) (by omega) (by omega)) d_MO_reachedNow_145 ?_
                refine W.eq (g2 := F0 m 146 ls [.long (two cw2), .ref h0]) (by rw [nI_clamp (n := cw2) (by omega)]) ?_
                refine lv_iload_n hx hb d_MO_reachedNow_146 rfl (lv_at hl 0 rfl) ?_
                refine em_call (wr := [((f 18), .inl (cL, 9, .inr (.inl trm))), ((f 20), .inl (cL, 400, .inr (.inl one))), ((f 21), .inl (cL, 400, .inr (.inl two))), ((f 24), .inl (cI, 150, .inl spn))]) (em_runV (As := [.long (two cw2), .int (nI n_18)]) (rest := []) ⟨hx, hb, hml, hown, hG⟩ (mo_reach l D cI cL cZ cC f h0 tn rm ln lx at_ bd fs dp on os bn df th tp mo_ ev ss so lk rs pt ot cl mrk_12 wlk_13 Gc (two cw2) n_18 _ hmrk_16 hG4 (hcl cw2 hgw2).2 hn_18c hnt) (cwV 2 hG (gd_V k_1636 k_1638 k_104 k_116 k_1639) rfl rfl rfl (by decide +kernel) ⟨Nat.le_of_ble_eq_true rfl, Nat.le_of_ble_eq_true rfl⟩) (tw_V (q0 := 4) hP hD hK hE hst hS rfl rfl [4, 5, 6] rfl (by decide)) rfl rfl hl.1 rfl (lv_room (Nat.le_of_ble_eq_true rfl)) d_MO_reachedNow_147 ⟨Nat.le_of_ble_eq_true rfl, Nat.le_of_ble_eq_true rfl⟩) hP hD hS hA [4, 5, 6] [0, 1, 2, 3] rfl rfl (by decide) (by decide) (fun v u H locs hok hP hD hS => ?_) (fun x C u H locs hbad hxx hP hD hS => ?_)
                · skip
                  obtain ⟨mrk_19, wlk_20⟩ := u
                  obtain ⟨r_21, rfl, hp_22⟩ := hok
                  obtain ⟨hmrk_23, hres_24⟩ : (bln mrk_19) ∧ (∃ n' : Nat, r_21 = nI n' ∧ n_18 ≤ n' ∧ n' ≤ n_18 + 1 ∧ MK Gc mrk_19 wlk_20 n') := hp_22
                  obtain ⟨n_25, rfl, hn_25a, hn_25b, hn_25c⟩ := hres_24
                  have hn_25d : n_25 ≤ 400 := by rw [← hn_25c.1]; exact gn_sm_le _ _
                  have hP : va_P D classes [((f 18), .inl (cL, 9, .inr (.inl trm))), ((f 20), .inl (cL, 400, .inr (.inl one))), ((f 21), .inl (cL, 400, .inr (.inl two))), ((f 24), .inl (cI, 150, .inl spn)), (h0, .inr (8, mS f tn rm ln lx at_ bd fs dp on os bn df th tp mo_ ev ss so lk rs pt ot cl)), ((f 22), .inl (cZ, 400, .inl mrk_19)), ((f 23), .inl (cI, 810, .inl wlk_20))] H := hP
                  have hD : va_D A [((f 18), .inl (cL, 9, .inr (.inl trm))), ((f 20), .inl (cL, 400, .inr (.inl one))), ((f 21), .inl (cL, 400, .inr (.inl two))), ((f 24), .inl (cI, 150, .inl spn)), (h0, .inr (8, mS f tn rm ln lx at_ bd fs dp on os bn df th tp mo_ ev ss so lk rs pt ot cl)), ((f 22), .inl (cZ, 400, .inl mrk_19)), ((f 23), .inl (cI, 810, .inl wlk_20))] := hD
                  refine W.eq (g2 := F0 m 150 ls [.int (nI n_25)]) rfl ?_
                  refine lv_istore_n (lv' := [(1, .int (nI n_25)), (0, .ref h0), (2, .int (nI k5))]) hx hb d_MO_reachedNow_150 rfl hl (Nat.le_of_ble_eq_true rfl) rfl (fun ls hl => ?_)
                  refine lv_iinc (k := 2) (v := nI (k5 + 1)) (lv' := [(2, .int (nI (k5 + 1))), (1, .int (nI n_25)), (0, .ref h0)]) hx hb d_MO_reachedNow_151 hl rfl (lw_inc k5 1) (Nat.le_of_ble_eq_true rfl) rfl (fun ls hl => ?_)
                  refine lv_goto (tgt := 112) hx hb d_MO_reachedNow_154 (by decide) ?_
                  have hl := lv_sub (l' := [(0, .ref h0), (1, .int (nI n_25)), (2, .int (nI (k5 + 1)))]) hl [2, 1, 0] rfl
                  have hP : va_P D classes [(h0, .inr (8, mS f tn rm ln lx at_ bd fs dp on os bn df th tp mo_ ev ss so lk rs pt ot cl)), ((f 22), .inl (cZ, 400, .inl mrk_19)), ((f 23), .inl (cI, 810, .inl wlk_20)), ((f 18), .inl (cL, 9, .inr (.inl trm))), ((f 20), .inl (cL, 400, .inr (.inl one))), ((f 21), .inl (cL, 400, .inr (.inl two))), ((f 24), .inl (cI, 150, .inl spn))] _ := hP.sub [4, 5, 6, 0, 1, 2, 3] (wp_fm rfl)
                  have hD : va_D A [(h0, .inr (8, mS f tn rm ln lx at_ bd fs dp on os bn df th tp mo_ ev ss so lk rs pt ot cl)), ((f 22), .inl (cZ, 400, .inl mrk_19)), ((f 23), .inl (cI, 810, .inl wlk_20)), ((f 18), .inl (cL, 9, .inr (.inl trm))), ((f 20), .inl (cL, 400, .inr (.inl one))), ((f 21), .inl (cL, 400, .inr (.inl two))), ((f 24), .inl (cI, 150, .inl spn))] := hD.sub [4, 5, 6, 0, 1, 2, 3] (by decide) rfl
                  exact ih_8 n_25 (k5 + 1) mrk_19 wlk_20 _ _ _ (by omega) (by omega) (by omega) hn_25c hmrk_23 hl hP hD hS
                · skip
                  exact hbad.elim
              · skip
                exact hbad.elim
        have loop_27 : ∀ (k_26 : Nat) (n4 : Nat) (k4 : Nat) (mrk4 : Nat → Int32) (wlk4 : Nat → Int32) (H : Heap) (locs : List Loc) (ls : Array Slot), tp - k4 < k_26 → (k4 ≤ tp) → (n4 ≤ 400) → (MK Gc mrk4 wlk4 n4) → (bln mrk4) → lv_has ls 3 [(0, .ref h0), (1, .int (nI n4)), (2, .int (nI k4))] → va_P D classes [(h0, .inr (8, mS f tn rm ln lx at_ bd fs dp on os bn df th tp mo_ ev ss so lk rs pt ot cl)), ((f 22), .inl (cZ, 400, .inl mrk4)), ((f 23), .inl (cI, 810, .inl wlk4)), ((f 18), .inl (cL, 9, .inr (.inl trm))), ((f 20), .inl (cL, 400, .inr (.inl one))), ((f 21), .inl (cL, 400, .inr (.inl two))), ((f 24), .inl (cI, 150, .inl spn))] H → va_D A [(h0, .inr (8, mS f tn rm ln lx at_ bd fs dp on os bn df th tp mo_ ev ss so lk rs pt ot cl)), ((f 22), .inl (cZ, 400, .inl mrk4)), ((f 23), .inl (cI, 810, .inl wlk4)), ((f 18), .inl (cL, 9, .inr (.inl trm))), ((f 20), .inl (cL, 400, .inr (.inl one))), ((f 21), .inl (cL, 400, .inr (.inl two))), ((f 24), .inl (cI, 150, .inl spn))] → va_S A s.heap H locs → W p l e (headSpec (wz y_MO_reachedNow b_MO_reachedNow 3 (some .int)) ({ frames := 2, cells := 0, slots := 0, locals := 44 })).room s m ([.ref h0] : List Value).toArray below meth c H locs 0 0 (em_MQ below D (tys4 cI cL cZ cC) A (fun (u : (Nat → Int32) × (Nat → Int32)) => [(h0, .inr (8, mS f tn rm ln lx at_ bd fs dp on os bn df th tp mo_ ev ss so lk rs pt ot cl)), ((f 22), .inl (cZ, 400, .inl u.1)), ((f 23), .inl (cI, 810, .inl u.2)), ((f 18), .inl (cL, 9, .inr (.inl trm))), ((f 20), .inl (cL, 400, .inr (.inl one))), ((f 21), .inl (cL, 400, .inr (.inl two))), ((f 24), .inl (cI, 150, .inl spn))]) (fun v (u : (Nat → Int32) × (Nat → Int32)) => ∃ r : Int32, v = some (.int r) ∧ ((bln u.1) ∧ (∃ n' : Nat, r = nI n' ∧ n' ≤ 400 ∧ sm (gn u.1) 400 = n'))) (fun C (u : (Nat → Int32) × (Nat → Int32)) => False) s 0 0) (F0 m 62 ls []) := by
          intro k_26
          induction k_26 with
          | zero => intro n4 k4 mrk4 wlk4 H locs ls hm; exact absurd hm (Nat.not_lt_zero _)
          | succ k_26 ih_28 =>
            intro n4 k4 mrk4 wlk4 H locs ls hm hk4 hn4 hM4 hmrk4 hl hP hD hS
            refine lv_iload_n hx hb d_MO_reachedNow_62 rfl (lv_at hl 2 rfl) ?_
            refine lv_aload_n hx hb d_MO_reachedNow_63 rfl (lv_at hl 0 rfl) ?_
            refine va_get (D := D) (ci := 8) (v := .int (nI tp)) (C := rn_MO) (T := fl_MO) (N := 55) hx hb hG in_MO hown hK hP 0 rfl rfl 38 (by decide) (hG _ k_1229) (fun _ h9 => h9) rfl d_MO_reachedNow_64 ?_
            refine lv_icmp_ge (tgt := 92) hx hb d_MO_reachedNow_67 (by decide) (fun hb_29 => ?_) (fun hb_29 => ?_)
            · skip
              have hn_30 : tp ≤ k4 := (nI_leI (a := tp) (b := k4) (by omega) (by omega)).mp hb_29
              refine lv_aload_n hx hb d_MO_reachedNow_92 rfl (lv_at hl 0 rfl) ?_
              refine va_get (D := D) (ci := 8) (v := .int pt) (C := rn_MO) (T := fl_MO) (N := 55) hx hb hG in_MO hown hK hP 0 rfl rfl 49 (by decide) (hG _ k_1240) (fun _ h9 => h9) rfl d_MO_reachedNow_93 ?_
              refine lv_iconst (v := 2) hx hb d_MO_reachedNow_96 (by decide) ?_
              refine lv_icmp_ne (tgt := 110) hx hb d_MO_reachedNow_97 (by decide) (fun hb_31 => ?_) (fun hb_31 => ?_)
              · skip
                refine lv_iconst (v := 0) hx hb d_MO_reachedNow_110 (by decide) ?_
                refine lv_istore_n (lv' := [(2, .int 0), (0, .ref h0), (1, .int (nI n4))]) hx hb d_MO_reachedNow_111 rfl hl (Nat.le_of_ble_eq_true rfl) rfl (fun ls hl => ?_)
                have hl := lv_sub (l' := [(0, .ref h0), (1, .int (nI n4)), (2, .int 0)]) hl [1, 2, 0] rfl
                exact loop_7 _ n4 0 mrk4 wlk4 _ _ _ (Nat.lt_succ_self _) (by omega) (by omega) hM4 hmrk4 hl hP hD hS
              · skip
                refine lv_aload_n hx hb d_MO_reachedNow_100 rfl (lv_at hl 0 rfl) ?_
                refine lv_aload_n hx hb d_MO_reachedNow_101 rfl (lv_at hl 0 rfl) ?_
                refine va_get (D := D) (ci := 8) (v := .long rs) (C := rn_MO) (T := fl_MO) (N := 55) hx hb hG in_MO hown hK hP 0 rfl rfl 48 (by decide) (hG _ k_1239) (fun _ h9 => h9) rfl d_MO_reachedNow_102 ?_
                refine lv_iload_n hx hb d_MO_reachedNow_105 rfl (lv_at hl 1 rfl) ?_
                refine em_call (wr := [((f 18), .inl (cL, 9, .inr (.inl trm))), ((f 20), .inl (cL, 400, .inr (.inl one))), ((f 21), .inl (cL, 400, .inr (.inl two))), ((f 24), .inl (cI, 150, .inl spn))]) (em_runV (As := [.long rs, .int (nI n4)]) (rest := []) ⟨hx, hb, hml, hown, hG⟩ (mo_reach l D cI cL cZ cC f h0 tn rm ln lx at_ bd fs dp on os bn df th tp mo_ ev ss so lk rs pt ot cl mrk4 wlk4 Gc rs n4 _ hmrk4 hG4 (hrs hb_31) hM4 hnt) (cwV 2 hG (gd_V k_1636 k_1638 k_104 k_116 k_1639) rfl rfl rfl (by decide +kernel) ⟨Nat.le_of_ble_eq_true rfl, Nat.le_of_ble_eq_true rfl⟩) (tw_V (q0 := 0) hP hD hK hE hst hS rfl rfl [0, 1, 2] rfl (by decide)) rfl rfl hl.1 rfl (lv_room (Nat.le_of_ble_eq_true rfl)) d_MO_reachedNow_106 ⟨Nat.le_of_ble_eq_true rfl, Nat.le_of_ble_eq_true rfl⟩) hP hD hS hA [0, 1, 2] [3, 4, 5, 6] rfl rfl (by decide) (by decide) (fun v u H locs hok hP hD hS => ?_) (fun x C u H locs hbad hxx hP hD hS => ?_)
                · skip
                  obtain ⟨mrk_32, wlk_33⟩ := u
                  obtain ⟨r_34, rfl, hp_35⟩ := hok
                  obtain ⟨hmrk_36, hres_37⟩ : (bln mrk_32) ∧ (∃ n' : Nat, r_34 = nI n' ∧ n4 ≤ n' ∧ n' ≤ n4 + 1 ∧ MK Gc mrk_32 wlk_33 n') := hp_35
                  obtain ⟨n_38, rfl, hn_38a, hn_38b, hn_38c⟩ := hres_37
                  have hn_38d : n_38 ≤ 400 := by rw [← hn_38c.1]; exact gn_sm_le _ _
                  have hP : va_P D classes [((f 18), .inl (cL, 9, .inr (.inl trm))), ((f 20), .inl (cL, 400, .inr (.inl one))), ((f 21), .inl (cL, 400, .inr (.inl two))), ((f 24), .inl (cI, 150, .inl spn)), (h0, .inr (8, mS f tn rm ln lx at_ bd fs dp on os bn df th tp mo_ ev ss so lk rs pt ot cl)), ((f 22), .inl (cZ, 400, .inl mrk_32)), ((f 23), .inl (cI, 810, .inl wlk_33))] H := hP
                  have hD : va_D A [((f 18), .inl (cL, 9, .inr (.inl trm))), ((f 20), .inl (cL, 400, .inr (.inl one))), ((f 21), .inl (cL, 400, .inr (.inl two))), ((f 24), .inl (cI, 150, .inl spn)), (h0, .inr (8, mS f tn rm ln lx at_ bd fs dp on os bn df th tp mo_ ev ss so lk rs pt ot cl)), ((f 22), .inl (cZ, 400, .inl mrk_32)), ((f 23), .inl (cI, 810, .inl wlk_33))] := hD
                  refine W.eq (g2 := F0 m 109 ls [.int (nI n_38)]) rfl ?_
                  refine lv_istore_n (lv' := [(1, .int (nI n_38)), (0, .ref h0), (2, .int (nI k4))]) hx hb d_MO_reachedNow_109 rfl hl (Nat.le_of_ble_eq_true rfl) rfl (fun ls hl => ?_)
                  refine lv_iconst (v := 0) hx hb d_MO_reachedNow_110 (by decide) ?_
                  refine lv_istore_n (lv' := [(2, .int 0), (1, .int (nI n_38)), (0, .ref h0)]) hx hb d_MO_reachedNow_111 rfl hl (Nat.le_of_ble_eq_true rfl) rfl (fun ls hl => ?_)
                  have hl := lv_sub (l' := [(0, .ref h0), (1, .int (nI n_38)), (2, .int 0)]) hl [2, 1, 0] rfl
                  have hP : va_P D classes [(h0, .inr (8, mS f tn rm ln lx at_ bd fs dp on os bn df th tp mo_ ev ss so lk rs pt ot cl)), ((f 22), .inl (cZ, 400, .inl mrk_32)), ((f 23), .inl (cI, 810, .inl wlk_33)), ((f 18), .inl (cL, 9, .inr (.inl trm))), ((f 20), .inl (cL, 400, .inr (.inl one))), ((f 21), .inl (cL, 400, .inr (.inl two))), ((f 24), .inl (cI, 150, .inl spn))] _ := hP.sub [4, 5, 6, 0, 1, 2, 3] (wp_fm rfl)
                  have hD : va_D A [(h0, .inr (8, mS f tn rm ln lx at_ bd fs dp on os bn df th tp mo_ ev ss so lk rs pt ot cl)), ((f 22), .inl (cZ, 400, .inl mrk_32)), ((f 23), .inl (cI, 810, .inl wlk_33)), ((f 18), .inl (cL, 9, .inr (.inl trm))), ((f 20), .inl (cL, 400, .inr (.inl one))), ((f 21), .inl (cL, 400, .inr (.inl two))), ((f 24), .inl (cI, 150, .inl spn))] := hD.sub [4, 5, 6, 0, 1, 2, 3] (by decide) rfl
                  exact loop_7 _ n_38 0 mrk_32 wlk_33 _ _ _ (Nat.lt_succ_self _) (by omega) (by omega) hn_38c hmrk_36 hl hP hD hS
                · skip
                  exact hbad.elim
            · skip
              have hn_39 : ¬ tp ≤ k4 := fun h => hb_29 ((nI_leI (a := tp) (b := k4) (by omega) (by omega)).mpr h)
              obtain ⟨cs, hgs, ecs⟩ := hsp k4 (by omega)
              have hcs := hG4 cs hgs
              refine lv_aload_n hx hb d_MO_reachedNow_70 rfl (lv_at hl 0 rfl) ?_
              refine lv_iconst (v := 3) hx hb d_MO_reachedNow_71 (by decide) ?_
              refine lv_aload_n hx hb d_MO_reachedNow_72 rfl (lv_at hl 0 rfl) ?_
              refine va_get (D := D) (ci := 8) (v := .ref (f 24)) (C := rn_MO) (T := fl_MO) (N := 55) hx hb hG in_MO hown hK hP 0 rfl rfl 37 (by decide) (hG _ k_1228) (fun _ h9 => h9) rfl d_MO_reachedNow_73 ?_
              refine lv_iload_n hx hb d_MO_reachedNow_76 rfl (lv_at hl 2 rfl) ?_
              refine va_iald hx hb hK hP 6 0 rfl rfl (vp_in_nI (n := k4) (N := 150) (by omega) (by omega)) d_MO_reachedNow_77 ?_
              refine W.eq (g2 := F0 m 78 ls [.int (nI cs), .int 3, .ref h0]) (by rw [nI_clamp (n := k4) (by omega)]; rw [ecs]) ?_
              refine W.callRL (W.runS (As := [.int 3, .int (nI cs)]) (rest := [.ref h0]) ⟨hx, hb, hml, hown, hG⟩ (mo_term l D cI cL cZ cC 3 (nI cs) ) (cwS 2 hG (gd_S k_1445 k_1446 k_116 k_1447) rfl rfl rfl (by decide +kernel) ⟨Nat.le_of_ble_eq_true rfl, Nat.le_of_ble_eq_true rfl⟩) (wq_S hP hK [] rfl) rfl rfl hl.1 rfl (lv_room (Nat.le_of_ble_eq_true rfl)) d_MO_reachedNow_78 ⟨Nat.le_of_ble_eq_true rfl, Nat.le_of_ble_eq_true rfl⟩) ?_
              refine W.eq (g2 := F0 m 81 ls [.long (wof 3 (nI cs)), .ref h0]) rfl ?_
              refine lv_iload_n hx hb d_MO_reachedNow_81 rfl (lv_at hl 1 rfl) ?_
              refine em_call (wr := [((f 18), .inl (cL, 9, .inr (.inl trm))), ((f 20), .inl (cL, 400, .inr (.inl one))), ((f 21), .inl (cL, 400, .inr (.inl two))), ((f 24), .inl (cI, 150, .inl spn))]) (em_runV (As := [.long (wof 3 (nI cs)), .int (nI n4)]) (rest := []) ⟨hx, hb, hml, hown, hG⟩ (mo_reach l D cI cL cZ cC f h0 tn rm ln lx at_ bd fs dp on os bn df th tp mo_ ev ss so lk rs pt ot cl mrk4 wlk4 Gc (wof 3 (nI cs)) n4 _ hmrk4 hG4 (okh_cell hgs) hM4 hnt) (cwV 2 hG (gd_V k_1636 k_1638 k_104 k_116 k_1639) rfl rfl rfl (by decide +kernel) ⟨Nat.le_of_ble_eq_true rfl, Nat.le_of_ble_eq_true rfl⟩) (tw_V (q0 := 0) hP hD hK hE hst hS rfl rfl [0, 1, 2] rfl (by decide)) rfl rfl hl.1 rfl (lv_room (Nat.le_of_ble_eq_true rfl)) d_MO_reachedNow_82 ⟨Nat.le_of_ble_eq_true rfl, Nat.le_of_ble_eq_true rfl⟩) hP hD hS hA [0, 1, 2] [3, 4, 5, 6] rfl rfl (by decide) (by decide) (fun v u H locs hok hP hD hS => ?_) (fun x C u H locs hbad hxx hP hD hS => ?_)
              · skip
                obtain ⟨mrk_40, wlk_41⟩ := u
                obtain ⟨r_42, rfl, hp_43⟩ := hok
                obtain ⟨hmrk_44, hres_45⟩ : (bln mrk_40) ∧ (∃ n' : Nat, r_42 = nI n' ∧ n4 ≤ n' ∧ n' ≤ n4 + 1 ∧ MK Gc mrk_40 wlk_41 n') := hp_43
                obtain ⟨n_46, rfl, hn_46a, hn_46b, hn_46c⟩ := hres_45
                have hn_46d : n_46 ≤ 400 := by rw [← hn_46c.1]; exact gn_sm_le _ _
                have hP : va_P D classes [((f 18), .inl (cL, 9, .inr (.inl trm))), ((f 20), .inl (cL, 400, .inr (.inl one))), ((f 21), .inl (cL, 400, .inr (.inl two))), ((f 24), .inl (cI, 150, .inl spn)), (h0, .inr (8, mS f tn rm ln lx at_ bd fs dp on os bn df th tp mo_ ev ss so lk rs pt ot cl)), ((f 22), .inl (cZ, 400, .inl mrk_40)), ((f 23), .inl (cI, 810, .inl wlk_41))] H := hP
                have hD : va_D A [((f 18), .inl (cL, 9, .inr (.inl trm))), ((f 20), .inl (cL, 400, .inr (.inl one))), ((f 21), .inl (cL, 400, .inr (.inl two))), ((f 24), .inl (cI, 150, .inl spn)), (h0, .inr (8, mS f tn rm ln lx at_ bd fs dp on os bn df th tp mo_ ev ss so lk rs pt ot cl)), ((f 22), .inl (cZ, 400, .inl mrk_40)), ((f 23), .inl (cI, 810, .inl wlk_41))] := hD
                refine W.eq (g2 := F0 m 85 ls [.int (nI n_46)]) rfl ?_
                refine lv_istore_n (lv' := [(1, .int (nI n_46)), (0, .ref h0), (2, .int (nI k4))]) hx hb d_MO_reachedNow_85 rfl hl (Nat.le_of_ble_eq_true rfl) rfl (fun ls hl => ?_)
                refine lv_iinc (k := 2) (v := nI (k4 + 1)) (lv' := [(2, .int (nI (k4 + 1))), (1, .int (nI n_46)), (0, .ref h0)]) hx hb d_MO_reachedNow_86 hl rfl (lw_inc k4 1) (Nat.le_of_ble_eq_true rfl) rfl (fun ls hl => ?_)
                refine lv_goto (tgt := 62) hx hb d_MO_reachedNow_89 (by decide) ?_
                have hl := lv_sub (l' := [(0, .ref h0), (1, .int (nI n_46)), (2, .int (nI (k4 + 1)))]) hl [2, 1, 0] rfl
                have hP : va_P D classes [(h0, .inr (8, mS f tn rm ln lx at_ bd fs dp on os bn df th tp mo_ ev ss so lk rs pt ot cl)), ((f 22), .inl (cZ, 400, .inl mrk_40)), ((f 23), .inl (cI, 810, .inl wlk_41)), ((f 18), .inl (cL, 9, .inr (.inl trm))), ((f 20), .inl (cL, 400, .inr (.inl one))), ((f 21), .inl (cL, 400, .inr (.inl two))), ((f 24), .inl (cI, 150, .inl spn))] _ := hP.sub [4, 5, 6, 0, 1, 2, 3] (wp_fm rfl)
                have hD : va_D A [(h0, .inr (8, mS f tn rm ln lx at_ bd fs dp on os bn df th tp mo_ ev ss so lk rs pt ot cl)), ((f 22), .inl (cZ, 400, .inl mrk_40)), ((f 23), .inl (cI, 810, .inl wlk_41)), ((f 18), .inl (cL, 9, .inr (.inl trm))), ((f 20), .inl (cL, 400, .inr (.inl one))), ((f 21), .inl (cL, 400, .inr (.inl two))), ((f 24), .inl (cI, 150, .inl spn))] := hD.sub [4, 5, 6, 0, 1, 2, 3] (by decide) rfl
                exact ih_28 n_46 (k4 + 1) mrk_40 wlk_41 _ _ _ (by omega) (by omega) (by omega) hn_46c hmrk_44 hl hP hD hS
              · skip
                exact hbad.elim
        have loop_48 : ∀ (k_47 : Nat) (n3 : Nat) (d2 : Nat) (mrk3 : Nat → Int32) (wlk3 : Nat → Int32) (H : Heap) (locs : List Loc) (ls : Array Slot), df - d2 < k_47 → (d2 ≤ df) → (n3 ≤ 400) → (MK Gc mrk3 wlk3 n3) → (bln mrk3) → lv_has ls 3 [(0, .ref h0), (1, .int (nI n3)), (2, .int (nI d2))] → va_P D classes [(h0, .inr (8, mS f tn rm ln lx at_ bd fs dp on os bn df th tp mo_ ev ss so lk rs pt ot cl)), ((f 22), .inl (cZ, 400, .inl mrk3)), ((f 23), .inl (cI, 810, .inl wlk3)), ((f 18), .inl (cL, 9, .inr (.inl trm))), ((f 20), .inl (cL, 400, .inr (.inl one))), ((f 21), .inl (cL, 400, .inr (.inl two))), ((f 24), .inl (cI, 150, .inl spn))] H → va_D A [(h0, .inr (8, mS f tn rm ln lx at_ bd fs dp on os bn df th tp mo_ ev ss so lk rs pt ot cl)), ((f 22), .inl (cZ, 400, .inl mrk3)), ((f 23), .inl (cI, 810, .inl wlk3)), ((f 18), .inl (cL, 9, .inr (.inl trm))), ((f 20), .inl (cL, 400, .inr (.inl one))), ((f 21), .inl (cL, 400, .inr (.inl two))), ((f 24), .inl (cI, 150, .inl spn))] → va_S A s.heap H locs → W p l e (headSpec (wz y_MO_reachedNow b_MO_reachedNow 3 (some .int)) ({ frames := 2, cells := 0, slots := 0, locals := 44 })).room s m ([.ref h0] : List Value).toArray below meth c H locs 0 0 (em_MQ below D (tys4 cI cL cZ cC) A (fun (u : (Nat → Int32) × (Nat → Int32)) => [(h0, .inr (8, mS f tn rm ln lx at_ bd fs dp on os bn df th tp mo_ ev ss so lk rs pt ot cl)), ((f 22), .inl (cZ, 400, .inl u.1)), ((f 23), .inl (cI, 810, .inl u.2)), ((f 18), .inl (cL, 9, .inr (.inl trm))), ((f 20), .inl (cL, 400, .inr (.inl one))), ((f 21), .inl (cL, 400, .inr (.inl two))), ((f 24), .inl (cI, 150, .inl spn))]) (fun v (u : (Nat → Int32) × (Nat → Int32)) => ∃ r : Int32, v = some (.int r) ∧ ((bln u.1) ∧ (∃ n' : Nat, r = nI n' ∧ n' ≤ 400 ∧ sm (gn u.1) 400 = n'))) (fun C (u : (Nat → Int32) × (Nat → Int32)) => False) s 0 0) (F0 m 34 ls []) := by
          intro k_47
          induction k_47 with
          | zero => intro n3 d2 mrk3 wlk3 H locs ls hm; exact absurd hm (Nat.not_lt_zero _)
          | succ k_47 ih_49 =>
            intro n3 d2 mrk3 wlk3 H locs ls hm hd2 hn3 hM3 hmrk3 hl hP hD hS
            refine lv_iload_n hx hb d_MO_reachedNow_34 rfl (lv_at hl 2 rfl) ?_
            refine lv_aload_n hx hb d_MO_reachedNow_35 rfl (lv_at hl 0 rfl) ?_
            refine va_get (D := D) (ci := 8) (v := .int (nI df)) (C := rn_MO) (T := fl_MO) (N := 55) hx hb hG in_MO hown hK hP 0 rfl rfl 28 (by decide) (hG _ k_1219) (fun _ h9 => h9) rfl d_MO_reachedNow_36 ?_
            refine lv_icmp_ge (tgt := 60) hx hb d_MO_reachedNow_39 (by decide) (fun hb_50 => ?_) (fun hb_50 => ?_)
            · skip
              have hn_51 : df ≤ d2 := (nI_leI (a := df) (b := d2) (by omega) (by omega)).mp hb_50
              refine lv_iconst (v := 0) hx hb d_MO_reachedNow_60 (by decide) ?_
              refine lv_istore_n (lv' := [(2, .int 0), (0, .ref h0), (1, .int (nI n3))]) hx hb d_MO_reachedNow_61 rfl hl (Nat.le_of_ble_eq_true rfl) rfl (fun ls hl => ?_)
              have hl := lv_sub (l' := [(0, .ref h0), (1, .int (nI n3)), (2, .int 0)]) hl [1, 2, 0] rfl
              exact loop_27 _ n3 0 mrk3 wlk3 _ _ _ (Nat.lt_succ_self _) (by omega) (by omega) hM3 hmrk3 hl hP hD hS
            · skip
              have hn_52 : ¬ df ≤ d2 := fun h => hb_50 ((nI_leI (a := df) (b := d2) (by omega) (by omega)).mpr h)
              refine lv_aload_n hx hb d_MO_reachedNow_42 rfl (lv_at hl 0 rfl) ?_
              refine lv_aload_n hx hb d_MO_reachedNow_43 rfl (lv_at hl 0 rfl) ?_
              refine va_get (D := D) (ci := 8) (v := .ref (f 18)) (C := rn_MO) (T := fl_MO) (N := 55) hx hb hG in_MO hown hK hP 0 rfl rfl 30 (by decide) (hG _ k_1221) (fun _ h9 => h9) rfl d_MO_reachedNow_44 ?_
              refine lv_iload_n hx hb d_MO_reachedNow_47 rfl (lv_at hl 2 rfl) ?_
              refine va_lald hx hb hK hP 3 1 rfl rfl (vp_in_nI (n := d2) (N := 9) (by omega) (by omega)) d_MO_reachedNow_48 ?_
              refine W.eq (g2 := F0 m 49 ls [.long (trm d2), .ref h0]) (by rw [nI_clamp (n := d2) (by omega)]) ?_
              refine lv_iload_n hx hb d_MO_reachedNow_49 rfl (lv_at hl 1 rfl) ?_
              refine em_call (wr := [((f 18), .inl (cL, 9, .inr (.inl trm))), ((f 20), .inl (cL, 400, .inr (.inl one))), ((f 21), .inl (cL, 400, .inr (.inl two))), ((f 24), .inl (cI, 150, .inl spn))]) (em_runV (As := [.long (trm d2), .int (nI n3)]) (rest := []) ⟨hx, hb, hml, hown, hG⟩ (mo_reach l D cI cL cZ cC f h0 tn rm ln lx at_ bd fs dp on os bn df th tp mo_ ev ss so lk rs pt ot cl mrk3 wlk3 Gc (trm d2) n3 _ hmrk3 hG4 (htr d2 (by omega)) hM3 hnt) (cwV 2 hG (gd_V k_1636 k_1638 k_104 k_116 k_1639) rfl rfl rfl (by decide +kernel) ⟨Nat.le_of_ble_eq_true rfl, Nat.le_of_ble_eq_true rfl⟩) (tw_V (q0 := 0) hP hD hK hE hst hS rfl rfl [0, 1, 2] rfl (by decide)) rfl rfl hl.1 rfl (lv_room (Nat.le_of_ble_eq_true rfl)) d_MO_reachedNow_50 ⟨Nat.le_of_ble_eq_true rfl, Nat.le_of_ble_eq_true rfl⟩) hP hD hS hA [0, 1, 2] [3, 4, 5, 6] rfl rfl (by decide) (by decide) (fun v u H locs hok hP hD hS => ?_) (fun x C u H locs hbad hxx hP hD hS => ?_)
              · skip
                obtain ⟨mrk_53, wlk_54⟩ := u
                obtain ⟨r_55, rfl, hp_56⟩ := hok
                obtain ⟨hmrk_57, hres_58⟩ : (bln mrk_53) ∧ (∃ n' : Nat, r_55 = nI n' ∧ n3 ≤ n' ∧ n' ≤ n3 + 1 ∧ MK Gc mrk_53 wlk_54 n') := hp_56
                obtain ⟨n_59, rfl, hn_59a, hn_59b, hn_59c⟩ := hres_58
                have hn_59d : n_59 ≤ 400 := by rw [← hn_59c.1]; exact gn_sm_le _ _
                have hP : va_P D classes [((f 18), .inl (cL, 9, .inr (.inl trm))), ((f 20), .inl (cL, 400, .inr (.inl one))), ((f 21), .inl (cL, 400, .inr (.inl two))), ((f 24), .inl (cI, 150, .inl spn)), (h0, .inr (8, mS f tn rm ln lx at_ bd fs dp on os bn df th tp mo_ ev ss so lk rs pt ot cl)), ((f 22), .inl (cZ, 400, .inl mrk_53)), ((f 23), .inl (cI, 810, .inl wlk_54))] H := hP
                have hD : va_D A [((f 18), .inl (cL, 9, .inr (.inl trm))), ((f 20), .inl (cL, 400, .inr (.inl one))), ((f 21), .inl (cL, 400, .inr (.inl two))), ((f 24), .inl (cI, 150, .inl spn)), (h0, .inr (8, mS f tn rm ln lx at_ bd fs dp on os bn df th tp mo_ ev ss so lk rs pt ot cl)), ((f 22), .inl (cZ, 400, .inl mrk_53)), ((f 23), .inl (cI, 810, .inl wlk_54))] := hD
                refine W.eq (g2 := F0 m 53 ls [.int (nI n_59)]) rfl ?_
                refine lv_istore_n (lv' := [(1, .int (nI n_59)), (0, .ref h0), (2, .int (nI d2))]) hx hb d_MO_reachedNow_53 rfl hl (Nat.le_of_ble_eq_true rfl) rfl (fun ls hl => ?_)
                refine lv_iinc (k := 2) (v := nI (d2 + 1)) (lv' := [(2, .int (nI (d2 + 1))), (1, .int (nI n_59)), (0, .ref h0)]) hx hb d_MO_reachedNow_54 hl rfl (lw_inc d2 1) (Nat.le_of_ble_eq_true rfl) rfl (fun ls hl => ?_)
                refine lv_goto (tgt := 34) hx hb d_MO_reachedNow_57 (by decide) ?_
                have hl := lv_sub (l' := [(0, .ref h0), (1, .int (nI n_59)), (2, .int (nI (d2 + 1)))]) hl [2, 1, 0] rfl
                have hP : va_P D classes [(h0, .inr (8, mS f tn rm ln lx at_ bd fs dp on os bn df th tp mo_ ev ss so lk rs pt ot cl)), ((f 22), .inl (cZ, 400, .inl mrk_53)), ((f 23), .inl (cI, 810, .inl wlk_54)), ((f 18), .inl (cL, 9, .inr (.inl trm))), ((f 20), .inl (cL, 400, .inr (.inl one))), ((f 21), .inl (cL, 400, .inr (.inl two))), ((f 24), .inl (cI, 150, .inl spn))] _ := hP.sub [4, 5, 6, 0, 1, 2, 3] (wp_fm rfl)
                have hD : va_D A [(h0, .inr (8, mS f tn rm ln lx at_ bd fs dp on os bn df th tp mo_ ev ss so lk rs pt ot cl)), ((f 22), .inl (cZ, 400, .inl mrk_53)), ((f 23), .inl (cI, 810, .inl wlk_54)), ((f 18), .inl (cL, 9, .inr (.inl trm))), ((f 20), .inl (cL, 400, .inr (.inl one))), ((f 21), .inl (cL, 400, .inr (.inl two))), ((f 24), .inl (cI, 150, .inl spn))] := hD.sub [4, 5, 6, 0, 1, 2, 3] (by decide) rfl
                exact ih_49 n_59 (d2 + 1) mrk_53 wlk_54 _ _ _ (by omega) (by omega) (by omega) hn_59c hmrk_57 hl hP hD hS
              · skip
                exact hbad.elim
        refine lv_aload_n hx hb d_MO_reachedNow_22 rfl (lv_at hl 0 rfl) ?_
        refine lv_aload_n hx hb d_MO_reachedNow_23 rfl (lv_at hl 0 rfl) ?_
        refine va_get (D := D) (ci := 8) (v := .long lk) (C := rn_MO) (T := fl_MO) (N := 55) hx hb hG in_MO hown hK hP 0 rfl rfl 47 (by decide) (hG _ k_1238) (fun _ h9 => h9) rfl d_MO_reachedNow_24 ?_
        refine lv_iconst (v := 0) hx hb d_MO_reachedNow_27 (by decide) ?_
        refine em_call (wr := [((f 18), .inl (cL, 9, .inr (.inl trm))), ((f 20), .inl (cL, 400, .inr (.inl one))), ((f 21), .inl (cL, 400, .inr (.inl two))), ((f 24), .inl (cI, 150, .inl spn))]) (em_runV (As := [.long lk, .int (nI 0)]) (rest := []) ⟨hx, hb, hml, hown, hG⟩ (mo_reach l D cI cL cZ cC f h0 tn rm ln lx at_ bd fs dp on os bn df th tp mo_ ev ss so lk rs pt ot cl mrk0 wlk Gc lk 0 _ hmrk0 hG4 hlk (show MK Gc mrk0 wlk 0 from ⟨gn_sm_0 (fun j hj => hz0 j (by omega)), fun i hi => absurd hi (Nat.not_lt_zero _)⟩) hnt) (cwV 2 hG (gd_V k_1636 k_1638 k_104 k_116 k_1639) rfl rfl rfl (by decide +kernel) ⟨Nat.le_of_ble_eq_true rfl, Nat.le_of_ble_eq_true rfl⟩) (tw_V (q0 := 0) hP hD hK hE hst hS rfl rfl [0, 1, 2] rfl (by decide)) rfl rfl hl.1 rfl (lv_room (Nat.le_of_ble_eq_true rfl)) d_MO_reachedNow_28 ⟨Nat.le_of_ble_eq_true rfl, Nat.le_of_ble_eq_true rfl⟩) hP hD hS hA [0, 1, 2] [3, 4, 5, 6] rfl rfl (by decide) (by decide) (fun v u H locs hok hP hD hS => ?_) (fun x C u H locs hbad hxx hP hD hS => ?_)
        · skip
          obtain ⟨mrk_60, wlk_61⟩ := u
          obtain ⟨r_62, rfl, hp_63⟩ := hok
          obtain ⟨hmrk_64, hres_65⟩ : (bln mrk_60) ∧ (∃ n' : Nat, r_62 = nI n' ∧ 0 ≤ n' ∧ n' ≤ 0 + 1 ∧ MK Gc mrk_60 wlk_61 n') := hp_63
          obtain ⟨n_66, rfl, hn_66a, hn_66b, hn_66c⟩ := hres_65
          have hn_66d : n_66 ≤ 400 := by rw [← hn_66c.1]; exact gn_sm_le _ _
          have hP : va_P D classes [((f 18), .inl (cL, 9, .inr (.inl trm))), ((f 20), .inl (cL, 400, .inr (.inl one))), ((f 21), .inl (cL, 400, .inr (.inl two))), ((f 24), .inl (cI, 150, .inl spn)), (h0, .inr (8, mS f tn rm ln lx at_ bd fs dp on os bn df th tp mo_ ev ss so lk rs pt ot cl)), ((f 22), .inl (cZ, 400, .inl mrk_60)), ((f 23), .inl (cI, 810, .inl wlk_61))] H := hP
          have hD : va_D A [((f 18), .inl (cL, 9, .inr (.inl trm))), ((f 20), .inl (cL, 400, .inr (.inl one))), ((f 21), .inl (cL, 400, .inr (.inl two))), ((f 24), .inl (cI, 150, .inl spn)), (h0, .inr (8, mS f tn rm ln lx at_ bd fs dp on os bn df th tp mo_ ev ss so lk rs pt ot cl)), ((f 22), .inl (cZ, 400, .inl mrk_60)), ((f 23), .inl (cI, 810, .inl wlk_61))] := hD
          refine W.eq (g2 := F0 m 31 ls [.int (nI n_66)]) rfl ?_
          refine lv_istore_n (lv' := [(1, .int (nI n_66)), (0, .ref h0)]) hx hb d_MO_reachedNow_31 rfl hl (Nat.le_of_ble_eq_true rfl) rfl (fun ls hl => ?_)
          refine lv_iconst (v := 0) hx hb d_MO_reachedNow_32 (by decide) ?_
          refine lv_istore_n (lv' := [(2, .int 0), (1, .int (nI n_66)), (0, .ref h0)]) hx hb d_MO_reachedNow_33 rfl hl (Nat.le_of_ble_eq_true rfl) rfl (fun ls hl => ?_)
          have hl := lv_sub (l' := [(0, .ref h0), (1, .int (nI n_66)), (2, .int 0)]) hl [2, 1, 0] rfl
          have hP : va_P D classes [(h0, .inr (8, mS f tn rm ln lx at_ bd fs dp on os bn df th tp mo_ ev ss so lk rs pt ot cl)), ((f 22), .inl (cZ, 400, .inl mrk_60)), ((f 23), .inl (cI, 810, .inl wlk_61)), ((f 18), .inl (cL, 9, .inr (.inl trm))), ((f 20), .inl (cL, 400, .inr (.inl one))), ((f 21), .inl (cL, 400, .inr (.inl two))), ((f 24), .inl (cI, 150, .inl spn))] _ := hP.sub [4, 5, 6, 0, 1, 2, 3] (wp_fm rfl)
          have hD : va_D A [(h0, .inr (8, mS f tn rm ln lx at_ bd fs dp on os bn df th tp mo_ ev ss so lk rs pt ot cl)), ((f 22), .inl (cZ, 400, .inl mrk_60)), ((f 23), .inl (cI, 810, .inl wlk_61)), ((f 18), .inl (cL, 9, .inr (.inl trm))), ((f 20), .inl (cL, 400, .inr (.inl one))), ((f 21), .inl (cL, 400, .inr (.inl two))), ((f 24), .inl (cI, 150, .inl spn))] := hD.sub [4, 5, 6, 0, 1, 2, 3] (by decide) rfl
          exact loop_48 _ n_66 0 mrk_60 wlk_61 _ _ _ (Nat.lt_succ_self _) (by omega) (by omega) hn_66c hmrk_64 hl hP hD hS
        · skip
          exact hbad.elim
      · skip
        have hn_67 : ¬ 400 ≤ i := fun h => hb_4 ((nI_leI (a := 400) (b := i) (by omega) (by omega)).mpr h)
        refine lv_aload_n hx hb d_MO_reachedNow_9 rfl (lv_at hl 0 rfl) ?_
        refine va_get (D := D) (ci := 8) (v := .ref (f 22)) (C := rn_MO) (T := fl_MO) (N := 55) hx hb hG in_MO hown hK hP 0 rfl rfl 35 (by decide) (hG _ k_1226) (fun _ h9 => h9) rfl d_MO_reachedNow_10 ?_
        refine lv_iload_n hx hb d_MO_reachedNow_13 rfl (lv_at hl 1 rfl) ?_
        refine lv_iconst (v := 0) hx hb d_MO_reachedNow_14 (by decide) ?_
        refine va_zast hx hb hK hP hD hS 1 2 rfl rfl (vp_in_nI (n := i) (N := 400) (by omega) (by omega)) d_MO_reachedNow_15 (fun H locs hP hD hS => ?_)
        have hP : va_P D classes [(h0, .inr (8, mS f tn rm ln lx at_ bd fs dp on os bn df th tp mo_ ev ss so lk rs pt ot cl)), ((f 22), .inl (cZ, 400, .inl (upd mrk0 (nI i).toNatClampNeg (vp_nar .boolean 0)))), ((f 23), .inl (cI, 810, .inl wlk)), ((f 18), .inl (cL, 9, .inr (.inl trm))), ((f 20), .inl (cL, 400, .inr (.inl one))), ((f 21), .inl (cL, 400, .inr (.inl two))), ((f 24), .inl (cI, 150, .inl spn))] H := hP
        have hD : va_D A [(h0, .inr (8, mS f tn rm ln lx at_ bd fs dp on os bn df th tp mo_ ev ss so lk rs pt ot cl)), ((f 22), .inl (cZ, 400, .inl (upd mrk0 (nI i).toNatClampNeg (vp_nar .boolean 0)))), ((f 23), .inl (cI, 810, .inl wlk)), ((f 18), .inl (cL, 9, .inr (.inl trm))), ((f 20), .inl (cL, 400, .inr (.inl one))), ((f 21), .inl (cL, 400, .inr (.inl two))), ((f 24), .inl (cI, 150, .inl spn))] := hD
        obtain ⟨g_68, eg_68⟩ : ∃ z, z = upd mrk0 i 0 := ⟨_, rfl⟩
        rw [nI_clamp (n := i) (by omega), nar_b (Or.inl rfl), ← eg_68] at hP hD
        have hg_68 : bln g_68 := by rw [eg_68]; exact bln_ub hmrk0 (Or.inl rfl)
        refine lv_iinc (k := 1) (v := nI (i + 1)) (lv' := [(1, .int (nI (i + 1))), (0, .ref h0)]) hx hb d_MO_reachedNow_16 hl rfl (lw_inc i 1) (Nat.le_of_ble_eq_true rfl) rfl (fun ls hl => ?_)
        refine lv_goto (tgt := 2) hx hb d_MO_reachedNow_19 (by decide) ?_
        have hl := lv_sub (l' := [(0, .ref h0), (1, .int (nI (i + 1)))]) hl [1, 0] rfl
        exact ih_3 (i + 1) g_68 _ _ _ (by omega) (by omega) (fun j hj => by rw [eg_68]; by_cases e : j = i; rw [upd_at e]; rw [upd_ne e]; exact hz0 j (by omega)) hg_68 hl hP hD hS
  refine lv_iconst (v := 0) hx hb d_MO_reachedNow_0 (by decide) ?_
  refine lv_istore_n (lv' := [(1, .int 0), (0, .ref h0)]) hx hb d_MO_reachedNow_1 rfl hl (Nat.le_of_ble_eq_true rfl) rfl (fun ls hl => ?_)
  have hl := lv_sub (l' := [(0, .ref h0), (1, .int 0)]) hl [1, 0] rfl
  exact loop_2 _ 0 mrk _ _ _ (Nat.lt_succ_self _) (by omega) (fun j hj => absurd hj (Nat.not_lt_zero _)) hmrk hl hP hD hS
set_option maxHeartbeats 8000000 in
set_option maxRecDepth 100000 in
theorem mo_made (l : Launch) (D : va_G) (cI cL cZ cC : ClassId) (f : Nat → Nat) (h0 : Nat) (tn : Int32) (rm : Nat) (ln : Nat) (lx : Nat) (at_ : Nat) (bd : Int32) (fs : Nat) (dp : Nat) (on : Nat) (os : Nat) (bn : Nat) (df : Nat) (th : Int32) (tp : Nat) (mo_ : Int32) (ev : Nat) (ss : Int32) (so : Int32) (lk : Int64) (rs : Int64) (pt : Int32) (ot : Nat) (cl : Int32) (mrk : Nat → Int32) (one : Nat → Int64) (two : Nat → Int64) (trm : Nat → Int64) (Gc : Nat → Prop) (a : Int64) (b : Int64) (sz : Nat) (hmrk : bln mrk) (hHG : HG df Gc trm one two) (ha : okh df Gc a) (hb2 : okh df Gc b) (hcnt : sm (gn mrk) 400 < 400) (hnt : l.stackTraces = false) : em_Met l y_MO_made (wz y_MO_made b_MO_made 6 (some .long)) ({ frames := 1, cells := 0, slots := 0, locals := 21 }) (va_Pc [.ref h0, .long a, .long b] (tw_pre D (tys4 cI cL cZ cC) [(h0, .inr (8, mS f tn rm ln lx at_ bd fs dp on os bn df th tp mo_ ev ss so lk rs pt ot cl)), ((f 22), .inl (cZ, 400, .inl mrk)), ((f 20), .inl (cL, 400, .inr (.inl one))), ((f 21), .inl (cL, 400, .inr (.inl two))), ((f 18), .inl (cL, 9, .inr (.inl trm)))] sz)) D (tys4 cI cL cZ cC) (va_A [(h0, .inr (8, mS f tn rm ln lx at_ bd fs dp on os bn df th tp mo_ ev ss so lk rs pt ot cl)), ((f 22), .inl (cZ, 400, .inl mrk)), ((f 20), .inl (cL, 400, .inr (.inl one))), ((f 21), .inl (cL, 400, .inr (.inl two))), ((f 18), .inl (cL, 9, .inr (.inl trm)))] sz) (fun (u : (Nat → Int32) × (Nat → Int64) × (Nat → Int64)) => [(h0, .inr (8, mS f tn rm ln lx at_ bd fs dp on os bn df th tp mo_ ev ss so lk rs pt ot cl)), ((f 22), .inl (cZ, 400, .inl u.1)), ((f 20), .inl (cL, 400, .inr (.inl u.2.1))), ((f 21), .inl (cL, 400, .inr (.inl u.2.2))), ((f 18), .inl (cL, 9, .inr (.inl trm)))]) (fun v (u : (Nat → Int32) × (Nat → Int64) × (Nat → Int64)) => ∃ r : Int64, v = some (.long r) ∧ ((bln u.1) ∧ (∃ G' : Nat → Prop, (∀ c, Gc c → G' c) ∧ HG df G' trm u.2.1 u.2.2 ∧ okh df G' r ∧ sm (gn u.1) 400 = sm (gn mrk) 400 + 1))) (fun C (u : (Nat → Int32) × (Nat → Int64) × (Nat → Int64)) => False) 0 0 := by
  refine em_Met.ofW (cc := b_MO_made) (maxL := 6) (ret := (some .long)) (by decide) rfl ?_
  intro p e s m args below meth c s₁ B hml hv hno
  obtain ⟨rfl, ⟨hsz, hP, hK, hD0⟩, hE⟩ := hv
  have hx := B.exec
  have hb := B.bytes
  have hr := B.returns
  have hts := atoms_spec (ws := wz y_MO_made b_MO_made 6 (some .long)) B.pre
  have hG := wz_G hts
  have hown : s.vm.findClass rn_MO = some m.cls := findClass_of_methodNamed B.named
  have hlocks := B.notSynchronized
  subst hsz
  have hD := hD0.self (sz := s.heap.size)
  have hst := tw_st hP
  generalize hAe : va_A [(h0, .inr (8, mS f tn rm ln lx at_ bd fs dp on os bn df th tp mo_ ev ss so lk rs pt ot cl)), ((f 22), .inl (cZ, 400, .inl mrk)), ((f 20), .inl (cL, 400, .inr (.inl one))), ((f 21), .inl (cL, 400, .inr (.inl two))), ((f 18), .inl (cL, 9, .inr (.inl trm)))] s.heap.size = A at hD hst ⊢
  have hA : ∀ q : Nat, s.heap.size ≤ q → A q := fun q h => by rw [← hAe]; exact Or.inr h
  have hS : va_S A s.heap s.heap [] := va_S.rf
  have hl := lv_entry ([.ref h0, .long a, .long b]) (n := 6) (Nat.le_of_ble_eq_true rfl)
  rw [lg_entry_eq]
  generalize (lg_sl ([.ref h0, .long a, .long b]) ++ List.replicate (6 - (lg_sl ([.ref h0, .long a, .long b])).length) Slot.unset).toArray = ls at hl ⊢
  have hl : lv_has ls 6 [(0, .ref h0), (1, .long a), (3, .long b)] := hl
  have hfc := fun c (q : ∀ j, j < c → ¬ mrk j = 0) => gn_free hcnt q
  have loop_2 : ∀ (k_1 : Nat) (i : Nat) (H : Heap) (locs : List Loc) (ls : Array Slot), 400 - i < k_1 → (∀ j, j < i → ¬ mrk j = 0) → (i < 400) → lv_has ls 6 [(0, .ref h0), (1, .long a), (3, .long b), (5, .int (nI i))] → va_P D classes [(h0, .inr (8, mS f tn rm ln lx at_ bd fs dp on os bn df th tp mo_ ev ss so lk rs pt ot cl)), ((f 22), .inl (cZ, 400, .inl mrk)), ((f 20), .inl (cL, 400, .inr (.inl one))), ((f 21), .inl (cL, 400, .inr (.inl two))), ((f 18), .inl (cL, 9, .inr (.inl trm)))] H → va_D A [(h0, .inr (8, mS f tn rm ln lx at_ bd fs dp on os bn df th tp mo_ ev ss so lk rs pt ot cl)), ((f 22), .inl (cZ, 400, .inl mrk)), ((f 20), .inl (cL, 400, .inr (.inl one))), ((f 21), .inl (cL, 400, .inr (.inl two))), ((f 18), .inl (cL, 9, .inr (.inl trm)))] → va_S A s.heap H locs → W p l e (headSpec (wz y_MO_made b_MO_made 6 (some .long)) ({ frames := 1, cells := 0, slots := 0, locals := 21 })).room s m ([.ref h0, .long a, .long b] : List Value).toArray below meth c H locs 0 0 (em_MQ below D (tys4 cI cL cZ cC) A (fun (u : (Nat → Int32) × (Nat → Int64) × (Nat → Int64)) => [(h0, .inr (8, mS f tn rm ln lx at_ bd fs dp on os bn df th tp mo_ ev ss so lk rs pt ot cl)), ((f 22), .inl (cZ, 400, .inl u.1)), ((f 20), .inl (cL, 400, .inr (.inl u.2.1))), ((f 21), .inl (cL, 400, .inr (.inl u.2.2))), ((f 18), .inl (cL, 9, .inr (.inl trm)))]) (fun v (u : (Nat → Int32) × (Nat → Int64) × (Nat → Int64)) => ∃ r : Int64, v = some (.long r) ∧ ((bln u.1) ∧ (∃ G' : Nat → Prop, (∀ c, Gc c → G' c) ∧ HG df G' trm u.2.1 u.2.2 ∧ okh df G' r ∧ sm (gn u.1) 400 = sm (gn mrk) 400 + 1))) (fun C (u : (Nat → Int32) × (Nat → Int64) × (Nat → Int64)) => False) s 0 0) (F0 m 3 ls []) := by
    intro k_1
    induction k_1 with
    | zero => intro i H locs ls hm; exact absurd hm (Nat.not_lt_zero _)
    | succ k_1 ih_3 =>
      intro i H locs ls hm hz0 hi hl hP hD hS
      refine lv_aload_n hx hb d_MO_made_3 rfl (lv_at hl 0 rfl) ?_
      refine va_get (D := D) (ci := 8) (v := .ref (f 22)) (C := rn_MO) (T := fl_MO) (N := 55) hx hb hG in_MO hown hK hP 0 rfl rfl 35 (by decide) (hG _ k_1226) (fun _ h9 => h9) rfl d_MO_made_4 ?_
      refine lv_iload hx hb d_MO_made_7 (lv_at hl 3 rfl) ?_
      refine va_zald hx hb hK hP 1 2 rfl rfl (vp_in_nI (n := i) (N := 400) (by omega) (by omega)) d_MO_made_9 ?_
      refine W.eq (g2 := F0 m 10 ls [.int (mrk i)]) (by rw [nI_clamp (n := i) (by omega)]) ?_
      refine lv_if_eq (tgt := 19) hx hb d_MO_made_10 (by decide) (fun hb_4 => ?_) (fun hb_4 => ?_)
      · skip
        refine lv_aload_n hx hb d_MO_made_19 rfl (lv_at hl 0 rfl) ?_
        refine va_get (D := D) (ci := 8) (v := .ref (f 22)) (C := rn_MO) (T := fl_MO) (N := 55) hx hb hG in_MO hown hK hP 0 rfl rfl 35 (by decide) (hG _ k_1226) (fun _ h9 => h9) rfl d_MO_made_20 ?_
        refine lv_iload hx hb d_MO_made_23 (lv_at hl 3 rfl) ?_
        refine lv_iconst (v := 1) hx hb d_MO_made_25 (by decide) ?_
        refine va_zast hx hb hK hP hD hS 1 2 rfl rfl (vp_in_nI (n := i) (N := 400) (by omega) (by omega)) d_MO_made_26 (fun H locs hP hD hS => ?_)
        have hP : va_P D classes [(h0, .inr (8, mS f tn rm ln lx at_ bd fs dp on os bn df th tp mo_ ev ss so lk rs pt ot cl)), ((f 22), .inl (cZ, 400, .inl (upd mrk (nI i).toNatClampNeg (vp_nar .boolean 1)))), ((f 20), .inl (cL, 400, .inr (.inl one))), ((f 21), .inl (cL, 400, .inr (.inl two))), ((f 18), .inl (cL, 9, .inr (.inl trm)))] H := hP
        have hD : va_D A [(h0, .inr (8, mS f tn rm ln lx at_ bd fs dp on os bn df th tp mo_ ev ss so lk rs pt ot cl)), ((f 22), .inl (cZ, 400, .inl (upd mrk (nI i).toNatClampNeg (vp_nar .boolean 1)))), ((f 20), .inl (cL, 400, .inr (.inl one))), ((f 21), .inl (cL, 400, .inr (.inl two))), ((f 18), .inl (cL, 9, .inr (.inl trm)))] := hD
        obtain ⟨g_5, eg_5⟩ : ∃ z, z = upd mrk i 1 := ⟨_, rfl⟩
        rw [nI_clamp (n := i) (by omega), nar_b (Or.inr rfl), ← eg_5] at hP hD
        have hg_5 : bln g_5 := by rw [eg_5]; exact bln_ub hmrk (Or.inr rfl)
        refine lv_aload_n hx hb d_MO_made_27 rfl (lv_at hl 0 rfl) ?_
        refine va_get (D := D) (ci := 8) (v := .ref (f 20)) (C := rn_MO) (T := fl_MO) (N := 55) hx hb hG in_MO hown hK hP 0 rfl rfl 33 (by decide) (hG _ k_1224) (fun _ h9 => h9) rfl d_MO_made_28 ?_
        refine lv_iload hx hb d_MO_made_31 (lv_at hl 3 rfl) ?_
        refine lv_lload_n hx hb d_MO_made_33 rfl (lv_at hl 1 rfl) ?_
        refine va_last hx hb hK hP hD hS 2 1 rfl rfl (vp_in_nI (n := i) (N := 400) (by omega) (by omega)) d_MO_made_34 (fun H locs hP hD hS => ?_)
        have hP : va_P D classes [(h0, .inr (8, mS f tn rm ln lx at_ bd fs dp on os bn df th tp mo_ ev ss so lk rs pt ot cl)), ((f 22), .inl (cZ, 400, .inl g_5)), ((f 20), .inl (cL, 400, .inr (.inl (vp_updL one (nI i).toNatClampNeg a)))), ((f 21), .inl (cL, 400, .inr (.inl two))), ((f 18), .inl (cL, 9, .inr (.inl trm)))] H := hP
        have hD : va_D A [(h0, .inr (8, mS f tn rm ln lx at_ bd fs dp on os bn df th tp mo_ ev ss so lk rs pt ot cl)), ((f 22), .inl (cZ, 400, .inl g_5)), ((f 20), .inl (cL, 400, .inr (.inl (vp_updL one (nI i).toNatClampNeg a)))), ((f 21), .inl (cL, 400, .inr (.inl two))), ((f 18), .inl (cL, 9, .inr (.inl trm)))] := hD
        obtain ⟨g_6, eg_6⟩ : ∃ z, z = vp_updL one i a := ⟨_, rfl⟩
        rw [nI_clamp (n := i) (by omega), ← eg_6] at hP hD
        refine lv_aload_n hx hb d_MO_made_35 rfl (lv_at hl 0 rfl) ?_
        refine va_get (D := D) (ci := 8) (v := .ref (f 21)) (C := rn_MO) (T := fl_MO) (N := 55) hx hb hG in_MO hown hK hP 0 rfl rfl 34 (by decide) (hG _ k_1225) (fun _ h9 => h9) rfl d_MO_made_36 ?_
        refine lv_iload hx hb d_MO_made_39 (lv_at hl 3 rfl) ?_
        refine lv_lload_n hx hb d_MO_made_41 rfl (lv_at hl 2 rfl) ?_
        refine va_last hx hb hK hP hD hS 3 1 rfl rfl (vp_in_nI (n := i) (N := 400) (by omega) (by omega)) d_MO_made_42 (fun H locs hP hD hS => ?_)
        have hP : va_P D classes [(h0, .inr (8, mS f tn rm ln lx at_ bd fs dp on os bn df th tp mo_ ev ss so lk rs pt ot cl)), ((f 22), .inl (cZ, 400, .inl g_5)), ((f 20), .inl (cL, 400, .inr (.inl g_6))), ((f 21), .inl (cL, 400, .inr (.inl (vp_updL two (nI i).toNatClampNeg b)))), ((f 18), .inl (cL, 9, .inr (.inl trm)))] H := hP
        have hD : va_D A [(h0, .inr (8, mS f tn rm ln lx at_ bd fs dp on os bn df th tp mo_ ev ss so lk rs pt ot cl)), ((f 22), .inl (cZ, 400, .inl g_5)), ((f 20), .inl (cL, 400, .inr (.inl g_6))), ((f 21), .inl (cL, 400, .inr (.inl (vp_updL two (nI i).toNatClampNeg b)))), ((f 18), .inl (cL, 9, .inr (.inl trm)))] := hD
        obtain ⟨g_7, eg_7⟩ : ∃ z, z = vp_updL two i b := ⟨_, rfl⟩
        rw [nI_clamp (n := i) (by omega), ← eg_7] at hP hD
        refine lv_iconst (v := 3) hx hb d_MO_made_43 (by decide) ?_
        refine lv_iload hx hb d_MO_made_44 (lv_at hl 3 rfl) ?_
        refine W.callRL (W.runS (As := [.int 3, .int (nI i)]) (rest := []) ⟨hx, hb, hml, hown, hG⟩ (mo_term l D cI cL cZ cC 3 (nI i) ) (cwS 2 hG (gd_S k_1445 k_1446 k_116 k_1447) rfl rfl rfl (by decide +kernel) ⟨Nat.le_of_ble_eq_true rfl, Nat.le_of_ble_eq_true rfl⟩) (wq_S hP hK [] rfl) rfl rfl hl.1 rfl (lv_room (Nat.le_of_ble_eq_true rfl)) d_MO_made_46 ⟨Nat.le_of_ble_eq_true rfl, Nat.le_of_ble_eq_true rfl⟩) ?_
        refine W.eq (g2 := F0 m 49 ls [.long (wof 3 (nI i))]) rfl ?_
        exact em_lret hx hb hr hlocks hP hD hK hS (g_5, g_6, g_7) [0, 1, 2, 3, 4] (by decide) rfl ⟨_, rfl, ⟨hg_5, (show ∃ G' : Nat → Prop, (∀ c, Gc c → G' c) ∧ HG df G' trm g_6 g_7 ∧ okh df G' (wof 3 (nI i) : Int64) ∧ sm (gn g_5) 400 = sm (gn mrk) 400 + 1 from ⟨fun d => Gc d ∨ d = i, fun _ q => Or.inl q, (by rw [eg_6, eg_7]; exact hHG.set hi ha hb2), okh_cell (Or.inr rfl), (by rw [eg_5]; exact gn_sm_up hi hb_4)⟩)⟩⟩ d_MO_made_49
      · skip
        refine lv_iinc (k := 3) (v := nI (i + 1)) (lv' := [(5, .int (nI (i + 1))), (0, .ref h0), (1, .long a), (3, .long b)]) hx hb d_MO_made_13 hl rfl (lw_inc i 1) (Nat.le_of_ble_eq_true rfl) rfl (fun ls hl => ?_)
        refine lv_goto (tgt := 3) hx hb d_MO_made_16 (by decide) ?_
        have hl := lv_sub (l' := [(0, .ref h0), (1, .long a), (3, .long b), (5, .int (nI (i + 1)))]) hl [1, 2, 3, 0] rfl
        exact ih_3 (i + 1) _ _ _ (by omega) (fun j hj => by by_cases e : j = i; rw [e]; exact hb_4; exact hz0 j (by omega)) (hfc _ (fun j hj => by by_cases e : j = i; rw [e]; exact hb_4; exact hz0 j (by omega))) hl hP hD hS
  refine lv_iconst (v := 0) hx hb d_MO_made_0 (by decide) ?_
  refine lv_istore (lv' := [(5, .int 0), (0, .ref h0), (1, .long a), (3, .long b)]) hx hb d_MO_made_1 hl (Nat.le_of_ble_eq_true rfl) rfl (fun ls hl => ?_)
  have hl := lv_sub (l' := [(0, .ref h0), (1, .long a), (3, .long b), (5, .int 0)]) hl [1, 2, 3, 0] rfl
  exact loop_2 _ 0 _ _ _ (Nat.lt_succ_self _) (fun j hj => absurd hj (Nat.not_lt_zero _)) (hfc _ (fun j hj => absurd hj (Nat.not_lt_zero _))) hl hP hD hS
set_option maxHeartbeats 8000000 in
set_option maxRecDepth 100000 in
theorem mo_fits (l : Launch) (D : va_G) (cI cL cZ cC : ClassId) (f : Nat → Nat) (h0 : Nat) (tn : Int32) (rm : Nat) (ln : Nat) (lx : Nat) (at_ : Nat) (bd : Int32) (fs : Nat) (dp : Nat) (on : Nat) (os : Nat) (bn : Nat) (df : Nat) (th : Int32) (tp : Nat) (mo_ : Int32) (ev : Nat) (ss : Int32) (so : Int32) (lk : Int64) (rs : Int64) (pt : Int32) (ot : Nat) (cl : Int32) (mrk : Nat → Int32) (wlk : Nat → Int32) (trm : Nat → Int64) (one : Nat → Int64) (two : Nat → Int64) (spn : Nat → Int32) (Gc : Nat → Prop) (n : Nat) (sz : Nat) (hmrk : bln mrk) (hn : n ≤ 3) (hrm : rm ≤ 400) (hHG : HG df Gc trm one two) (hlk : okh df Gc lk) (hrs : pt = 2 → okh df Gc rs) (htp : tp ≤ 150) (hsp : ∀ k, k < tp → ∃ c : Nat, Gc c ∧ spn k = nI c) (hnt : l.stackTraces = false) : em_Met l y_MO_fits (wz y_MO_fits b_MO_fits 2 (some .boolean)) ({ frames := 3, cells := 0, slots := 0, locals := 66 }) (va_Pc [.ref h0, .int (nI n)] (tw_pre D (tys4 cI cL cZ cC) [(h0, .inr (8, mS f tn rm ln lx at_ bd fs dp on os bn df th tp mo_ ev ss so lk rs pt ot cl)), ((f 22), .inl (cZ, 400, .inl mrk)), ((f 23), .inl (cI, 810, .inl wlk)), ((f 18), .inl (cL, 9, .inr (.inl trm))), ((f 20), .inl (cL, 400, .inr (.inl one))), ((f 21), .inl (cL, 400, .inr (.inl two))), ((f 24), .inl (cI, 150, .inl spn))] sz)) D (tys4 cI cL cZ cC) (va_A [(h0, .inr (8, mS f tn rm ln lx at_ bd fs dp on os bn df th tp mo_ ev ss so lk rs pt ot cl)), ((f 22), .inl (cZ, 400, .inl mrk)), ((f 23), .inl (cI, 810, .inl wlk)), ((f 18), .inl (cL, 9, .inr (.inl trm))), ((f 20), .inl (cL, 400, .inr (.inl one))), ((f 21), .inl (cL, 400, .inr (.inl two))), ((f 24), .inl (cI, 150, .inl spn))] sz) (fun (u : Int32 × (Nat → Int32) × (Nat → Int32)) => [(h0, .inr (8, mS f tn rm ln lx at_ bd fs dp on os bn df th tp mo_ ev ss u.1 lk rs pt ot cl)), ((f 22), .inl (cZ, 400, .inl u.2.1)), ((f 23), .inl (cI, 810, .inl u.2.2)), ((f 18), .inl (cL, 9, .inr (.inl trm))), ((f 20), .inl (cL, 400, .inr (.inl one))), ((f 21), .inl (cL, 400, .inr (.inl two))), ((f 24), .inl (cI, 150, .inl spn))]) (fun v (u : Int32 × (Nat → Int32) × (Nat → Int32)) => ∃ r : Int32, v = some (.int r) ∧ ((bln u.2.1) ∧ (((r = 1 ∧ u.1 = so ∧ so = 0 ∧ sm (gn u.2.1) 400 + n ≤ rm) ∨ (r = 0 ∧ ¬ u.1 = 0))))) (fun C (u : Int32 × (Nat → Int32) × (Nat → Int32)) => False) 0 0 := by
  refine em_Met.ofW (cc := b_MO_fits) (maxL := 2) (ret := (some .boolean)) (by decide) rfl ?_
  intro p e s m args below meth c s₁ B hml hv hno
  obtain ⟨rfl, ⟨hsz, hP, hK, hD0⟩, hE⟩ := hv
  have hx := B.exec
  have hb := B.bytes
  have hr := B.returns
  have hts := atoms_spec (ws := wz y_MO_fits b_MO_fits 2 (some .boolean)) B.pre
  have hG := wz_G hts
  have hown : s.vm.findClass rn_MO = some m.cls := findClass_of_methodNamed B.named
  have hlocks := B.notSynchronized
  subst hsz
  have hD := hD0.self (sz := s.heap.size)
  have hst := tw_st hP
  generalize hAe : va_A [(h0, .inr (8, mS f tn rm ln lx at_ bd fs dp on os bn df th tp mo_ ev ss so lk rs pt ot cl)), ((f 22), .inl (cZ, 400, .inl mrk)), ((f 23), .inl (cI, 810, .inl wlk)), ((f 18), .inl (cL, 9, .inr (.inl trm))), ((f 20), .inl (cL, 400, .inr (.inl one))), ((f 21), .inl (cL, 400, .inr (.inl two))), ((f 24), .inl (cI, 150, .inl spn))] s.heap.size = A at hD hst ⊢
  have hA : ∀ q : Nat, s.heap.size ≤ q → A q := fun q h => by rw [← hAe]; exact Or.inr h
  have hS : va_S A s.heap s.heap [] := va_S.rf
  have hl := lv_entry ([.ref h0, .int (nI n)]) (n := 2) (Nat.le_of_ble_eq_true rfl)
  rw [lg_entry_eq]
  generalize (lg_sl ([.ref h0, .int (nI n)]) ++ List.replicate (2 - (lg_sl ([.ref h0, .int (nI n)])).length) Slot.unset).toArray = ls at hl ⊢
  have hl : lv_has ls 2 [(0, .ref h0), (1, .int (nI n))] := hl
  refine lv_aload_n hx hb d_MO_fits_0 rfl (lv_at hl 0 rfl) ?_
  refine em_call (wr := []) (em_runV (As := []) (rest := []) ⟨hx, hb, hml, hown, hG⟩ (mo_reachedNow l D cI cL cZ cC f h0 tn rm ln lx at_ bd fs dp on os bn df th tp mo_ ev ss so lk rs pt ot cl mrk wlk trm one two spn Gc _ hmrk (by first | assumption | omega | exact Or.inl rfl) (by first | assumption | omega | exact Or.inl rfl) (by first | assumption | omega | exact Or.inl rfl) (by first | assumption | omega | exact Or.inl rfl) (by first | assumption | omega | exact Or.inl rfl) hnt) (cwV 0 hG (gd_V k_1632 k_1634 k_103 k_116 k_1635) rfl rfl rfl (by decide +kernel) ⟨Nat.le_of_ble_eq_true rfl, Nat.le_of_ble_eq_true rfl⟩) (tw_V (q0 := 0) hP hD hK hE hst hS rfl rfl [0, 1, 2, 3, 4, 5, 6] rfl (by decide)) rfl rfl hl.1 rfl (lv_room (Nat.le_of_ble_eq_true rfl)) d_MO_fits_1 ⟨Nat.le_of_ble_eq_true rfl, Nat.le_of_ble_eq_true rfl⟩) hP hD hS hA [0, 1, 2, 3, 4, 5, 6] [] rfl rfl (by decide) (by decide) (fun v u H locs hok hP hD hS => ?_) (fun x C u H locs hbad hxx hP hD hS => ?_)
  · skip
    obtain ⟨mrk_1, wlk_2⟩ := u
    obtain ⟨r_3, rfl, hp_4⟩ := hok
    obtain ⟨hmrk_5, hres_6⟩ : (bln mrk_1) ∧ (∃ n' : Nat, r_3 = nI n' ∧ n' ≤ 400 ∧ sm (gn mrk_1) 400 = n') := hp_4
    obtain ⟨n_7, rfl, hn_7a, hn_7b⟩ := hres_6
    have hP : va_P D classes [(h0, .inr (8, mS f tn rm ln lx at_ bd fs dp on os bn df th tp mo_ ev ss so lk rs pt ot cl)), ((f 22), .inl (cZ, 400, .inl mrk_1)), ((f 23), .inl (cI, 810, .inl wlk_2)), ((f 18), .inl (cL, 9, .inr (.inl trm))), ((f 20), .inl (cL, 400, .inr (.inl one))), ((f 21), .inl (cL, 400, .inr (.inl two))), ((f 24), .inl (cI, 150, .inl spn))] H := hP
    have hD : va_D A [(h0, .inr (8, mS f tn rm ln lx at_ bd fs dp on os bn df th tp mo_ ev ss so lk rs pt ot cl)), ((f 22), .inl (cZ, 400, .inl mrk_1)), ((f 23), .inl (cI, 810, .inl wlk_2)), ((f 18), .inl (cL, 9, .inr (.inl trm))), ((f 20), .inl (cL, 400, .inr (.inl one))), ((f 21), .inl (cL, 400, .inr (.inl two))), ((f 24), .inl (cI, 150, .inl spn))] := hD
    refine W.eq (g2 := F0 m 4 ls [.int (nI n_7)]) rfl ?_
    refine lv_iload_n hx hb d_MO_fits_4 rfl (lv_at hl 1 rfl) ?_
    refine lw_iadd (a := n_7) (b := n) hx hb d_MO_fits_5 ?_
    refine lv_aload_n hx hb d_MO_fits_6 rfl (lv_at hl 0 rfl) ?_
    refine va_get (D := D) (ci := 8) (v := .int (nI rm)) (C := rn_MO) (T := fl_MO) (N := 55) hx hb hG in_MO hown hK hP 0 rfl rfl 1 (by decide) (hG _ k_1192) (fun _ h9 => h9) rfl d_MO_fits_7 ?_
    refine lv_icmp_le (tgt := 18) hx hb d_MO_fits_10 (by decide) (fun hb_8 => ?_) (fun hb_8 => ?_)
    · skip
      have hn_9 : (n_7 + n) ≤ rm := (nI_leI (a := n_7 + n) (b := rm) (by omega) (by omega)).mp hb_8
      refine lv_aload_n hx hb d_MO_fits_18 rfl (lv_at hl 0 rfl) ?_
      refine va_get (D := D) (ci := 8) (v := .int so) (C := rn_MO) (T := fl_MO) (N := 55) hx hb hG in_MO hown hK hP 0 rfl rfl 42 (by decide) (hG _ k_1233) (fun _ h9 => h9) rfl d_MO_fits_19 ?_
      refine lv_if_ne (tgt := 29) hx hb d_MO_fits_22 (by decide) (fun hb_10 => ?_) (fun hb_10 => ?_)
      · skip
        refine lv_iconst (v := 0) hx hb d_MO_fits_29 (by decide) ?_
        exact em_zret hx hb hr hlocks rfl hP hD hK hS (so, mrk_1, wlk_2) [0, 1, 2, 3, 4, 5, 6] (by decide) rfl ⟨_, rfl, ⟨hmrk_5, (show (((0 : Int32) = 1 ∧ so = so ∧ so = 0 ∧ sm (gn mrk_1) 400 + n ≤ rm) ∨ ((0 : Int32) = 0 ∧ ¬ so = 0)) from (Or.inr ⟨rfl, hb_10⟩))⟩⟩ d_MO_fits_30
      · skip
        refine lv_iconst (v := 1) hx hb d_MO_fits_25 (by decide) ?_
        refine lv_goto (tgt := 30) hx hb d_MO_fits_26 (by decide) ?_
        exact em_zret hx hb hr hlocks rfl hP hD hK hS (so, mrk_1, wlk_2) [0, 1, 2, 3, 4, 5, 6] (by decide) rfl ⟨_, rfl, ⟨hmrk_5, (show (((1 : Int32) = 1 ∧ so = so ∧ so = 0 ∧ sm (gn mrk_1) 400 + n ≤ rm) ∨ ((1 : Int32) = 0 ∧ ¬ so = 0)) from (Or.inl ⟨rfl, rfl, hb_10, by omega⟩))⟩⟩ d_MO_fits_30
    · skip
      have hn_11 : ¬ (n_7 + n) ≤ rm := fun h => hb_8 ((nI_leI (a := n_7 + n) (b := rm) (by omega) (by omega)).mpr h)
      refine lv_aload_n hx hb d_MO_fits_13 rfl (lv_at hl 0 rfl) ?_
      refine lv_iconst (v := 3) hx hb d_MO_fits_14 (by decide) ?_
      refine va_put (D := D) (ci := 8) (v := .int 3) (ty := .int) (C := rn_MO) (T := fl_MO) (N := 55) hx hb hG in_MO tt_MO tk_MO nn_MO hown hK hP hD hS 0 rfl rfl 42 (by decide) (hG _ k_1233) (fun _ h9 => h9) rfl (by decide +kernel) rfl rfl (Nat.le_of_ble_eq_true rfl) d_MO_fits_15 (fun H locs hP hD hS => ?_)
      have hP : va_P D classes [(h0, .inr (8, mS f tn rm ln lx at_ bd fs dp on os bn df th tp mo_ ev ss 3 lk rs pt ot cl)), ((f 22), .inl (cZ, 400, .inl mrk_1)), ((f 23), .inl (cI, 810, .inl wlk_2)), ((f 18), .inl (cL, 9, .inr (.inl trm))), ((f 20), .inl (cL, 400, .inr (.inl one))), ((f 21), .inl (cL, 400, .inr (.inl two))), ((f 24), .inl (cI, 150, .inl spn))] H := hP
      have hD : va_D A [(h0, .inr (8, mS f tn rm ln lx at_ bd fs dp on os bn df th tp mo_ ev ss 3 lk rs pt ot cl)), ((f 22), .inl (cZ, 400, .inl mrk_1)), ((f 23), .inl (cI, 810, .inl wlk_2)), ((f 18), .inl (cL, 9, .inr (.inl trm))), ((f 20), .inl (cL, 400, .inr (.inl one))), ((f 21), .inl (cL, 400, .inr (.inl two))), ((f 24), .inl (cI, 150, .inl spn))] := hD
      refine lv_aload_n hx hb d_MO_fits_18 rfl (lv_at hl 0 rfl) ?_
      refine va_get (D := D) (ci := 8) (v := .int 3) (C := rn_MO) (T := fl_MO) (N := 55) hx hb hG in_MO hown hK hP 0 rfl rfl 42 (by decide) (hG _ k_1233) (fun _ h9 => h9) rfl d_MO_fits_19 ?_
      refine lv_if_ne (tgt := 29) hx hb d_MO_fits_22 (by decide) (fun hb_12 => ?_) (fun hb_12 => ?_)
      · skip
        have hn_13 : ¬ 3 = 0 := fun h => hb_12 ((nI_eq (a := 3) (b := 0) (by omega) (by omega)).mpr h)
        refine lv_iconst (v := 0) hx hb d_MO_fits_29 (by decide) ?_
        exact em_zret hx hb hr hlocks rfl hP hD hK hS (3, mrk_1, wlk_2) [0, 1, 2, 3, 4, 5, 6] (by decide) rfl ⟨_, rfl, ⟨hmrk_5, (show (((0 : Int32) = 1 ∧ 3 = so ∧ so = 0 ∧ sm (gn mrk_1) 400 + n ≤ rm) ∨ ((0 : Int32) = 0 ∧ ¬ 3 = 0)) from (Or.inr ⟨rfl, hb_12⟩))⟩⟩ d_MO_fits_30
      · skip
        have hn_14 : 3 = 0 := (nI_eq (a := 3) (b := 0) (by omega) (by omega)).mp hb_12
        refine lv_iconst (v := 1) hx hb d_MO_fits_25 (by decide) ?_
        refine lv_goto (tgt := 30) hx hb d_MO_fits_26 (by decide) ?_
        exact em_zret hx hb hr hlocks rfl hP hD hK hS (3, mrk_1, wlk_2) [0, 1, 2, 3, 4, 5, 6] (by decide) rfl ⟨_, rfl, ⟨hmrk_5, (show (((1 : Int32) = 1 ∧ 3 = so ∧ so = 0 ∧ sm (gn mrk_1) 400 + n ≤ rm) ∨ ((1 : Int32) = 0 ∧ ¬ 3 = 0)) from (absurd hb_12 (by decide)))⟩⟩ d_MO_fits_30
  · skip
    exact hbad.elim
set_option maxHeartbeats 8000000 in
set_option maxRecDepth 100000 in
theorem mo_below (l : Launch) (D : va_G) (cI cL cZ cC : ClassId) (f : Nat → Nat) (h0 : Nat) (tn : Int32) (rm : Nat) (ln : Nat) (lx : Nat) (at_ : Nat) (bd : Int32) (fs : Nat) (dp : Nat) (on : Nat) (os : Nat) (bn : Nat) (df : Nat) (th : Int32) (tp : Nat) (mo_ : Int32) (ev : Nat) (ss : Int32) (so : Int32) (lk : Int64) (rs : Int64) (pt : Int32) (ot : Nat) (cl : Int32) (bss : Nat → Int32) (wts : Nat → Int32) (sz : Nat) (hme : me bss wts ev tp 0) (hev : ev ≤ 40) (hnt : l.stackTraces = false) : em_Met l y_MO_below (wz y_MO_below b_MO_below 1 (some .int)) ({ frames := 0, cells := 0, slots := 0, locals := 0 }) (va_Pc [.ref h0] (tw_pre D (tys4 cI cL cZ cC) [(h0, .inr (8, mS f tn rm ln lx at_ bd fs dp on os bn df th tp mo_ ev ss so lk rs pt ot cl)), ((f 25), .inl (cI, 41, .inl bss)), ((f 26), .inl (cI, 41, .inl wts))] sz)) D (tys4 cI cL cZ cC) (va_A [(h0, .inr (8, mS f tn rm ln lx at_ bd fs dp on os bn df th tp mo_ ev ss so lk rs pt ot cl)), ((f 25), .inl (cI, 41, .inl bss)), ((f 26), .inl (cI, 41, .inl wts))] sz) (fun (_ : Unit) => [(h0, .inr (8, mS f tn rm ln lx at_ bd fs dp on os bn df th tp mo_ ev ss so lk rs pt ot cl)), ((f 25), .inl (cI, 41, .inl bss)), ((f 26), .inl (cI, 41, .inl wts))]) (fun v (_ : Unit) => ∃ r : Int32, v = some (.int r) ∧ ((∃ mq : Nat, r = nI mq ∧ mq ≤ tp ∧ (ev = 0 → mq = 0) ∧ (1 ≤ ev → bss (ev - 1) = nI mq) ∧ me bss wts ev mq 0))) (fun C (_ : Unit) => False) 0 0 := by
  refine em_Met.ofW (cc := b_MO_below) (maxL := 1) (ret := (some .int)) (by decide) rfl ?_
  intro p e s m args below meth c s₁ B hml hv hno
  obtain ⟨rfl, ⟨hsz, hP, hK, hD0⟩, hE⟩ := hv
  have hx := B.exec
  have hb := B.bytes
  have hr := B.returns
  have hts := atoms_spec (ws := wz y_MO_below b_MO_below 1 (some .int)) B.pre
  have hG := wz_G hts
  have hown : s.vm.findClass rn_MO = some m.cls := findClass_of_methodNamed B.named
  have hlocks := B.notSynchronized
  subst hsz
  have hD := hD0.self (sz := s.heap.size)
  have hst := tw_st hP
  generalize hAe : va_A [(h0, .inr (8, mS f tn rm ln lx at_ bd fs dp on os bn df th tp mo_ ev ss so lk rs pt ot cl)), ((f 25), .inl (cI, 41, .inl bss)), ((f 26), .inl (cI, 41, .inl wts))] s.heap.size = A at hD hst ⊢
  have hA : ∀ q : Nat, s.heap.size ≤ q → A q := fun q h => by rw [← hAe]; exact Or.inr h
  have hS : va_S A s.heap s.heap [] := va_S.rf
  have hl := lv_entry ([.ref h0]) (n := 1) (Nat.le_of_ble_eq_true rfl)
  rw [lg_entry_eq]
  generalize (lg_sl ([.ref h0]) ++ List.replicate (1 - (lg_sl ([.ref h0])).length) Slot.unset).toArray = ls at hl ⊢
  have hl : lv_has ls 1 [(0, .ref h0)] := hl
  obtain ⟨mb, hm1, hm2, hm3, hm4⟩ := hme.base
  refine lv_aload_n hx hb d_MO_below_0 rfl (lv_at hl 0 rfl) ?_
  refine va_get (D := D) (ci := 8) (v := .int (nI ev)) (C := rn_MO) (T := fl_MO) (N := 55) hx hb hG in_MO hown hK hP 0 rfl rfl 40 (by decide) (hG _ k_1231) (fun _ h9 => h9) rfl d_MO_below_1 ?_
  refine lv_if_le (tgt := 21) hx hb d_MO_below_4 (by decide) (fun hb_1 => ?_) (fun hb_1 => ?_)
  · skip
    have hn_2 : ev ≤ 0 := (nI_leI (a := ev) (b := 0) (by omega) (by omega)).mp hb_1
    refine lv_iconst (v := 0) hx hb d_MO_below_21 (by decide) ?_
    exact em_iret hx hb hr hlocks hP hD hK hS () [0, 1, 2] (by decide) rfl ⟨_, rfl, (show ∃ mq : Nat, (0 : Int32) = nI mq ∧ mq ≤ tp ∧ (ev = 0 → mq = 0) ∧ (1 ≤ ev → bss (ev - 1) = nI mq) ∧ me bss wts ev mq 0 from ⟨mb, (by rw [hm2 (by omega)]; rfl), hm1, hm2, hm3, hm4⟩)⟩ d_MO_below_22
  · skip
    have hn_3 : ¬ ev ≤ 0 := fun h => hb_1 ((nI_leI (a := ev) (b := 0) (by omega) (by omega)).mpr h)
    refine lv_aload_n hx hb d_MO_below_7 rfl (lv_at hl 0 rfl) ?_
    refine va_get (D := D) (ci := 8) (v := .ref (f 25)) (C := rn_MO) (T := fl_MO) (N := 55) hx hb hG in_MO hown hK hP 0 rfl rfl 43 (by decide) (hG _ k_1234) (fun _ h9 => h9) rfl d_MO_below_8 ?_
    refine lv_aload_n hx hb d_MO_below_11 rfl (lv_at hl 0 rfl) ?_
    refine va_get (D := D) (ci := 8) (v := .int (nI ev)) (C := rn_MO) (T := fl_MO) (N := 55) hx hb hG in_MO hown hK hP 0 rfl rfl 40 (by decide) (hG _ k_1231) (fun _ h9 => h9) rfl d_MO_below_12 ?_
    refine lv_iconst (v := 1) hx hb d_MO_below_15 (by decide) ?_
    refine lw_isub (a := ev) (b := 1) hx hb d_MO_below_16 (by omega) ?_
    refine va_iald hx hb hK hP 1 0 rfl rfl (vp_in_nI (n := ev - 1) (N := 41) (by omega) (by omega)) d_MO_below_17 ?_
    refine W.eq (g2 := F0 m 18 ls [.int (nI mb)]) (by rw [nI_clamp (n := ev - 1) (by omega)]; rw [hm3 (by omega)]) ?_
    refine lv_goto (tgt := 22) hx hb d_MO_below_18 (by decide) ?_
    exact em_iret hx hb hr hlocks hP hD hK hS () [0, 1, 2] (by decide) rfl ⟨_, rfl, (show ∃ mq : Nat, (nI mb : Int32) = nI mq ∧ mq ≤ tp ∧ (ev = 0 → mq = 0) ∧ (1 ≤ ev → bss (ev - 1) = nI mq) ∧ me bss wts ev mq 0 from ⟨mb, rfl, hm1, hm2, hm3, hm4⟩)⟩ d_MO_below_22
set_option maxHeartbeats 8000000 in
set_option maxRecDepth 100000 in
theorem mo_needs (l : Launch) (D : va_G) (cI cL cZ cC : ClassId) (o : Int32) : Met l y_MO_needs (wz y_MO_needs b_MO_needs 1 (some .int)) ({ frames := 0, cells := 0, slots := 0, locals := 0 }) (va_Pc [.int o] (wq_pre D (tys4 cI cL cZ cC) [])) (QcRead (mneeds o)) 0 0 (fun _ => False) := by
  refine Met.ofW (cc := b_MO_needs) (maxL := 1) (ret := (some .int)) (by decide) rfl ?_
  intro p e s m args below meth c s₁ B hml hv
  obtain ⟨rfl, hP, hK⟩ := hv
  have hx := B.exec
  have hb := B.bytes
  have hr := B.returns
  have hts := atoms_spec (ws := wz y_MO_needs b_MO_needs 1 (some .int)) B.pre
  have hG := wz_G hts
  have hown : s.vm.findClass rn_MO = some m.cls := findClass_of_methodNamed B.named
  have hlocks := B.notSynchronized
  have hl := lv_entry ([.int o]) (n := 1) (Nat.le_of_ble_eq_true rfl)
  rw [lg_entry_eq]
  generalize (lg_sl ([.int o]) ++ List.replicate (1 - (lg_sl ([.int o])).length) Slot.unset).toArray = ls at hl ⊢
  have hl : lv_has ls 1 [(0, .int o)] := hl
  refine lv_iload_n hx hb d_MO_needs_0 rfl (lv_at hl 0 rfl) ?_
  refine lv_iconst (v := 2) hx hb d_MO_needs_1 (by decide) ?_
  refine lv_icmp_eq (tgt := 11) hx hb d_MO_needs_2 (by decide) (fun hb_1 => ?_) (fun hb_1 => ?_)
  · skip
    refine lv_iconst (v := 1) hx hb d_MO_needs_11 (by decide) ?_
    refine lv_goto (tgt := 47) hx hb d_MO_needs_12 (by decide) ?_
    exact W.iret hx hb hr (fun t ht hW => ⟨by rw [show mneeds o = 1 by simp [mneeds, *]], ht⟩) (fun q h => by cases h) d_MO_needs_47 hlocks
  · skip
    refine lv_iload_n hx hb d_MO_needs_5 rfl (lv_at hl 0 rfl) ?_
    refine lv_bipush (v := 17) hx hb d_MO_needs_6 (by decide) ?_
    refine lv_icmp_le (tgt := 15) hx hb d_MO_needs_8 (by decide) (fun hb_2 => ?_) (fun hb_2 => ?_)
    · skip
      refine lv_iload_n hx hb d_MO_needs_15 rfl (lv_at hl 0 rfl) ?_
      refine lv_iconst (v := 3) hx hb d_MO_needs_16 (by decide) ?_
      refine lv_icmp_eq (tgt := 26) hx hb d_MO_needs_17 (by decide) (fun hb_3 => ?_) (fun hb_3 => ?_)
      · skip
        refine lv_iconst (v := 2) hx hb d_MO_needs_26 (by decide) ?_
        refine lv_goto (tgt := 47) hx hb d_MO_needs_27 (by decide) ?_
        exact W.iret hx hb hr (fun t ht hW => ⟨by rw [show mneeds o = 2 by simp [mneeds, *]], ht⟩) (fun q h => by cases h) d_MO_needs_47 hlocks
      · skip
        refine lv_iload_n hx hb d_MO_needs_20 rfl (lv_at hl 0 rfl) ?_
        refine lv_bipush (v := 10) hx hb d_MO_needs_21 (by decide) ?_
        refine lv_icmp_le (tgt := 30) hx hb d_MO_needs_23 (by decide) (fun hb_4 => ?_) (fun hb_4 => ?_)
        · skip
          refine lv_iload_n hx hb d_MO_needs_30 rfl (lv_at hl 0 rfl) ?_
          refine lv_bipush (v := 7) hx hb d_MO_needs_31 (by decide) ?_
          refine lv_icmp_lt (tgt := 42) hx hb d_MO_needs_33 (by decide) (fun hb_5 => ?_) (fun hb_5 => ?_)
          · skip
            refine lv_iconst (v := 3) hx hb d_MO_needs_42 (by decide) ?_
            refine lv_goto (tgt := 47) hx hb d_MO_needs_43 (by decide) ?_
            exact W.iret hx hb hr (fun t ht hW => ⟨by rw [show mneeds o = 3 by simp [mneeds, *]], ht⟩) (fun q h => by cases h) d_MO_needs_47 hlocks
          · skip
            refine lv_iload_n hx hb d_MO_needs_36 rfl (lv_at hl 0 rfl) ?_
            refine lv_bipush (v := 10) hx hb d_MO_needs_37 (by decide) ?_
            refine lv_icmp_ne (tgt := 46) hx hb d_MO_needs_39 (by decide) (fun hb_6 => ?_) (fun hb_6 => ?_)
            · skip
              refine lv_iconst (v := 4) hx hb d_MO_needs_46 (by decide) ?_
              exact W.iret hx hb hr (fun t ht hW => ⟨by rw [show mneeds o = 4 by simp [mneeds, *]], ht⟩) (fun q h => by cases h) d_MO_needs_47 hlocks
            · skip
              refine lv_iconst (v := 3) hx hb d_MO_needs_42 (by decide) ?_
              refine lv_goto (tgt := 47) hx hb d_MO_needs_43 (by decide) ?_
              exact W.iret hx hb hr (fun t ht hW => ⟨by rw [show mneeds o = 3 by simp [mneeds, *]], ht⟩) (fun q h => by cases h) d_MO_needs_47 hlocks
        · skip
          refine lv_iconst (v := 2) hx hb d_MO_needs_26 (by decide) ?_
          refine lv_goto (tgt := 47) hx hb d_MO_needs_27 (by decide) ?_
          exact W.iret hx hb hr (fun t ht hW => ⟨by rw [show mneeds o = 2 by simp [mneeds, *]], ht⟩) (fun q h => by cases h) d_MO_needs_47 hlocks
    · skip
      refine lv_iconst (v := 1) hx hb d_MO_needs_11 (by decide) ?_
      refine lv_goto (tgt := 47) hx hb d_MO_needs_12 (by decide) ?_
      exact W.iret hx hb hr (fun t ht hW => ⟨by rw [show mneeds o = 1 by simp [mneeds, *]], ht⟩) (fun q h => by cases h) d_MO_needs_47 hlocks
set_option maxHeartbeats 8000000 in
set_option maxRecDepth 100000 in
theorem mo_argument (l : Launch) (D : va_G) (cI cL cZ cC : ClassId) (f : Nat → Nat) (h0 : Nat) (tn : Int32) (rm : Nat) (ln : Nat) (lx : Nat) (at_ : Nat) (bd : Int32) (fs : Nat) (dp : Nat) (on : Nat) (os : Nat) (bn : Nat) (df : Nat) (th : Int32) (tp : Nat) (mo_ : Int32) (ev : Nat) (ss : Int32) (so : Int32) (lk : Int64) (rs : Int64) (pt : Int32) (ot : Nat) (cl : Int32) (two : Nat → Int64) (spn : Nat → Int32) (trm : Nat → Int64) (one : Nat → Int64) (Gc : Nat → Prop) (k : Nat) (sz : Nat) (hk : k + 1 ≤ tp) (htp : tp ≤ 150) (hHG : HG df Gc trm one two) (hsp : ∀ k, k < tp → ∃ c : Nat, Gc c ∧ spn k = nI c) (hnt : l.stackTraces = false) : em_Met l y_MO_argument (wz y_MO_argument b_MO_argument 2 (some .long)) ({ frames := 0, cells := 0, slots := 0, locals := 0 }) (va_Pc [.ref h0, .int (nI k)] (tw_pre D (tys4 cI cL cZ cC) [(h0, .inr (8, mS f tn rm ln lx at_ bd fs dp on os bn df th tp mo_ ev ss so lk rs pt ot cl)), ((f 21), .inl (cL, 400, .inr (.inl two))), ((f 24), .inl (cI, 150, .inl spn)), ((f 18), .inl (cL, 9, .inr (.inl trm))), ((f 20), .inl (cL, 400, .inr (.inl one)))] sz)) D (tys4 cI cL cZ cC) (va_A [(h0, .inr (8, mS f tn rm ln lx at_ bd fs dp on os bn df th tp mo_ ev ss so lk rs pt ot cl)), ((f 21), .inl (cL, 400, .inr (.inl two))), ((f 24), .inl (cI, 150, .inl spn)), ((f 18), .inl (cL, 9, .inr (.inl trm))), ((f 20), .inl (cL, 400, .inr (.inl one)))] sz) (fun (_ : Unit) => [(h0, .inr (8, mS f tn rm ln lx at_ bd fs dp on os bn df th tp mo_ ev ss so lk rs pt ot cl)), ((f 21), .inl (cL, 400, .inr (.inl two))), ((f 24), .inl (cI, 150, .inl spn)), ((f 18), .inl (cL, 9, .inr (.inl trm))), ((f 20), .inl (cL, 400, .inr (.inl one)))]) (fun v (_ : Unit) => ∃ r : Int64, v = some (.long r) ∧ ((okh df Gc r))) (fun C (_ : Unit) => False) 0 0 := by
  refine em_Met.ofW (cc := b_MO_argument) (maxL := 2) (ret := (some .long)) (by decide) rfl ?_
  intro p e s m args below meth c s₁ B hml hv hno
  obtain ⟨rfl, ⟨hsz, hP, hK, hD0⟩, hE⟩ := hv
  have hx := B.exec
  have hb := B.bytes
  have hr := B.returns
  have hts := atoms_spec (ws := wz y_MO_argument b_MO_argument 2 (some .long)) B.pre
  have hG := wz_G hts
  have hown : s.vm.findClass rn_MO = some m.cls := findClass_of_methodNamed B.named
  have hlocks := B.notSynchronized
  subst hsz
  have hD := hD0.self (sz := s.heap.size)
  have hst := tw_st hP
  generalize hAe : va_A [(h0, .inr (8, mS f tn rm ln lx at_ bd fs dp on os bn df th tp mo_ ev ss so lk rs pt ot cl)), ((f 21), .inl (cL, 400, .inr (.inl two))), ((f 24), .inl (cI, 150, .inl spn)), ((f 18), .inl (cL, 9, .inr (.inl trm))), ((f 20), .inl (cL, 400, .inr (.inl one)))] s.heap.size = A at hD hst ⊢
  have hA : ∀ q : Nat, s.heap.size ≤ q → A q := fun q h => by rw [← hAe]; exact Or.inr h
  have hS : va_S A s.heap s.heap [] := va_S.rf
  have hl := lv_entry ([.ref h0, .int (nI k)]) (n := 2) (Nat.le_of_ble_eq_true rfl)
  rw [lg_entry_eq]
  generalize (lg_sl ([.ref h0, .int (nI k)]) ++ List.replicate (2 - (lg_sl ([.ref h0, .int (nI k)])).length) Slot.unset).toArray = ls at hl ⊢
  have hl : lv_has ls 2 [(0, .ref h0), (1, .int (nI k))] := hl
  obtain ⟨cs, hgs, ecs⟩ := hsp (tp - 1 - k) (by omega)
  have hcs := hHG.1 cs hgs
  refine lv_aload_n hx hb d_MO_argument_0 rfl (lv_at hl 0 rfl) ?_
  refine va_get (D := D) (ci := 8) (v := .ref (f 21)) (C := rn_MO) (T := fl_MO) (N := 55) hx hb hG in_MO hown hK hP 0 rfl rfl 34 (by decide) (hG _ k_1225) (fun _ h9 => h9) rfl d_MO_argument_1 ?_
  refine lv_aload_n hx hb d_MO_argument_4 rfl (lv_at hl 0 rfl) ?_
  refine va_get (D := D) (ci := 8) (v := .ref (f 24)) (C := rn_MO) (T := fl_MO) (N := 55) hx hb hG in_MO hown hK hP 0 rfl rfl 37 (by decide) (hG _ k_1228) (fun _ h9 => h9) rfl d_MO_argument_5 ?_
  refine lv_aload_n hx hb d_MO_argument_8 rfl (lv_at hl 0 rfl) ?_
  refine va_get (D := D) (ci := 8) (v := .int (nI tp)) (C := rn_MO) (T := fl_MO) (N := 55) hx hb hG in_MO hown hK hP 0 rfl rfl 38 (by decide) (hG _ k_1229) (fun _ h9 => h9) rfl d_MO_argument_9 ?_
  refine lv_iconst (v := 1) hx hb d_MO_argument_12 (by decide) ?_
  refine lw_isub (a := tp) (b := 1) hx hb d_MO_argument_13 (by omega) ?_
  refine lv_iload_n hx hb d_MO_argument_14 rfl (lv_at hl 1 rfl) ?_
  refine lw_isub (a := tp - 1) (b := k) hx hb d_MO_argument_15 (by omega) ?_
  refine va_iald hx hb hK hP 2 0 rfl rfl (vp_in_nI (n := (tp - 1) - k) (N := 150) (by omega) (by omega)) d_MO_argument_16 ?_
  refine W.eq (g2 := F0 m 17 ls [.int (nI cs), .ref (f 21)]) (by rw [nI_clamp (n := (tp - 1) - k) (by omega)]; rw [ecs]) ?_
  refine va_lald hx hb hK hP 1 1 rfl rfl (vp_in_nI (n := cs) (N := 400) (by omega) (by omega)) d_MO_argument_17 ?_
  refine W.eq (g2 := F0 m 18 ls [.long (two cs)]) (by rw [nI_clamp (n := cs) (by omega)]) ?_
  exact em_lret hx hb hr hlocks hP hD hK hS () [0, 1, 2, 3, 4] (by decide) rfl ⟨_, rfl, (show okh df Gc (two cs : Int64) from (hHG.2.2.2 cs hgs).2)⟩ d_MO_argument_18
set_option maxHeartbeats 8000000 in
set_option maxRecDepth 100000 in
theorem mo_overwrite (l : Launch) (D : va_G) (cI cL cZ cC : ClassId) (f : Nat → Nat) (h0 : Nat) (tn : Int32) (rm : Nat) (ln : Nat) (lx : Nat) (at_ : Nat) (bd : Int32) (fs : Nat) (dp : Nat) (on : Nat) (os : Nat) (bn : Nat) (df : Nat) (th : Int32) (tp : Nat) (mo_ : Int32) (ev : Nat) (ss : Int32) (so : Int32) (lk : Int64) (rs : Int64) (pt : Int32) (ot : Nat) (cl : Int32) (one : Nat → Int64) (two : Nat → Int64) (spn : Nat → Int32) (trm : Nat → Int64) (Gc : Nat → Prop) (n : Nat) (a : Int64) (b : Int64) (sz : Nat) (hn1 : 1 ≤ n) (hn2 : n ≤ tp) (htp : tp ≤ 150) (hHG : HG df Gc trm one two) (ha : okh df Gc a) (hb2 : okh df Gc b) (hsp : ∀ k, k < tp → ∃ c : Nat, Gc c ∧ spn k = nI c) (hnt : l.stackTraces = false) : em_Met l y_MO_overwrite (wz y_MO_overwrite b_MO_overwrite 7 none) ({ frames := 0, cells := 0, slots := 0, locals := 0 }) (va_Pc [.ref h0, .int (nI n), .long a, .long b] (tw_pre D (tys4 cI cL cZ cC) [(h0, .inr (8, mS f tn rm ln lx at_ bd fs dp on os bn df th tp mo_ ev ss so lk rs pt ot cl)), ((f 20), .inl (cL, 400, .inr (.inl one))), ((f 21), .inl (cL, 400, .inr (.inl two))), ((f 24), .inl (cI, 150, .inl spn)), ((f 18), .inl (cL, 9, .inr (.inl trm)))] sz)) D (tys4 cI cL cZ cC) (va_A [(h0, .inr (8, mS f tn rm ln lx at_ bd fs dp on os bn df th tp mo_ ev ss so lk rs pt ot cl)), ((f 20), .inl (cL, 400, .inr (.inl one))), ((f 21), .inl (cL, 400, .inr (.inl two))), ((f 24), .inl (cI, 150, .inl spn)), ((f 18), .inl (cL, 9, .inr (.inl trm)))] sz) (fun (u : Nat × Int64 × Int32 × (Nat → Int64) × (Nat → Int64)) => [(h0, .inr (8, mS f tn rm ln lx at_ bd fs dp on os bn df th u.1 mo_ ev u.2.2.1 so u.2.1 rs pt ot cl)), ((f 20), .inl (cL, 400, .inr (.inl u.2.2.2.1))), ((f 21), .inl (cL, 400, .inr (.inl u.2.2.2.2))), ((f 24), .inl (cI, 150, .inl spn)), ((f 18), .inl (cL, 9, .inr (.inl trm)))]) (fun v (u : Nat × Int64 × Int32 × (Nat → Int64) × (Nat → Int64)) => v = none ∧ ((HG df Gc trm u.2.2.2.1 u.2.2.2.2) ∧ (u.1 + n = tp + 1) ∧ (u.2.1 = a) ∧ (u.2.2.1 = ss + 1))) (fun C (u : Nat × Int64 × Int32 × (Nat → Int64) × (Nat → Int64)) => False) 0 0 := by
  refine em_Met.ofW (cc := b_MO_overwrite) (maxL := 7) (ret := none) (by decide) rfl ?_
  intro p e s m args below meth c s₁ B hml hv hno
  obtain ⟨rfl, ⟨hsz, hP, hK, hD0⟩, hE⟩ := hv
  have hx := B.exec
  have hb := B.bytes
  have hr := B.returns
  have hts := atoms_spec (ws := wz y_MO_overwrite b_MO_overwrite 7 none) B.pre
  have hG := wz_G hts
  have hown : s.vm.findClass rn_MO = some m.cls := findClass_of_methodNamed B.named
  have hlocks := B.notSynchronized
  subst hsz
  have hD := hD0.self (sz := s.heap.size)
  have hst := tw_st hP
  generalize hAe : va_A [(h0, .inr (8, mS f tn rm ln lx at_ bd fs dp on os bn df th tp mo_ ev ss so lk rs pt ot cl)), ((f 20), .inl (cL, 400, .inr (.inl one))), ((f 21), .inl (cL, 400, .inr (.inl two))), ((f 24), .inl (cI, 150, .inl spn)), ((f 18), .inl (cL, 9, .inr (.inl trm)))] s.heap.size = A at hD hst ⊢
  have hA : ∀ q : Nat, s.heap.size ≤ q → A q := fun q h => by rw [← hAe]; exact Or.inr h
  have hS : va_S A s.heap s.heap [] := va_S.rf
  have hl := lv_entry ([.ref h0, .int (nI n), .long a, .long b]) (n := 7) (Nat.le_of_ble_eq_true rfl)
  rw [lg_entry_eq]
  generalize (lg_sl ([.ref h0, .int (nI n), .long a, .long b]) ++ List.replicate (7 - (lg_sl ([.ref h0, .int (nI n), .long a, .long b])).length) Slot.unset).toArray = ls at hl ⊢
  have hl : lv_has ls 7 [(0, .ref h0), (1, .int (nI n)), (2, .long a), (4, .long b)] := hl
  obtain ⟨cs, hgs, ecs⟩ := hsp (tp - n) (by omega)
  have hcs := hHG.1 cs hgs
  refine lv_aload_n hx hb d_MO_overwrite_0 rfl (lv_at hl 0 rfl) ?_
  refine va_get (D := D) (ci := 8) (v := .ref (f 24)) (C := rn_MO) (T := fl_MO) (N := 55) hx hb hG in_MO hown hK hP 0 rfl rfl 37 (by decide) (hG _ k_1228) (fun _ h9 => h9) rfl d_MO_overwrite_1 ?_
  refine lv_aload_n hx hb d_MO_overwrite_4 rfl (lv_at hl 0 rfl) ?_
  refine va_get (D := D) (ci := 8) (v := .int (nI tp)) (C := rn_MO) (T := fl_MO) (N := 55) hx hb hG in_MO hown hK hP 0 rfl rfl 38 (by decide) (hG _ k_1229) (fun _ h9 => h9) rfl d_MO_overwrite_5 ?_
  refine lv_iload_n hx hb d_MO_overwrite_8 rfl (lv_at hl 1 rfl) ?_
  refine lw_isub (a := tp) (b := n) hx hb d_MO_overwrite_9 (by omega) ?_
  refine va_iald hx hb hK hP 3 0 rfl rfl (vp_in_nI (n := tp - n) (N := 150) (by omega) (by omega)) d_MO_overwrite_10 ?_
  refine W.eq (g2 := F0 m 11 ls [.int (nI cs)]) (by rw [nI_clamp (n := tp - n) (by omega)]; rw [ecs]) ?_
  refine lv_istore (lv' := [(6, .int (nI cs)), (0, .ref h0), (1, .int (nI n)), (2, .long a), (4, .long b)]) hx hb d_MO_overwrite_11 hl (Nat.le_of_ble_eq_true rfl) rfl (fun ls hl => ?_)
  refine lv_aload_n hx hb d_MO_overwrite_13 rfl (lv_at hl 1 rfl) ?_
  refine va_get (D := D) (ci := 8) (v := .ref (f 20)) (C := rn_MO) (T := fl_MO) (N := 55) hx hb hG in_MO hown hK hP 0 rfl rfl 33 (by decide) (hG _ k_1224) (fun _ h9 => h9) rfl d_MO_overwrite_14 ?_
  refine lv_iload hx hb d_MO_overwrite_17 (lv_at hl 0 rfl) ?_
  refine lv_lload_n hx hb d_MO_overwrite_19 rfl (lv_at hl 3 rfl) ?_
  refine va_last hx hb hK hP hD hS 1 1 rfl rfl (vp_in_nI (n := cs) (N := 400) (by omega) (by omega)) d_MO_overwrite_20 (fun H locs hP hD hS => ?_)
  have hP : va_P D classes [(h0, .inr (8, mS f tn rm ln lx at_ bd fs dp on os bn df th tp mo_ ev ss so lk rs pt ot cl)), ((f 20), .inl (cL, 400, .inr (.inl (vp_updL one (nI cs).toNatClampNeg a)))), ((f 21), .inl (cL, 400, .inr (.inl two))), ((f 24), .inl (cI, 150, .inl spn)), ((f 18), .inl (cL, 9, .inr (.inl trm)))] H := hP
  have hD : va_D A [(h0, .inr (8, mS f tn rm ln lx at_ bd fs dp on os bn df th tp mo_ ev ss so lk rs pt ot cl)), ((f 20), .inl (cL, 400, .inr (.inl (vp_updL one (nI cs).toNatClampNeg a)))), ((f 21), .inl (cL, 400, .inr (.inl two))), ((f 24), .inl (cI, 150, .inl spn)), ((f 18), .inl (cL, 9, .inr (.inl trm)))] := hD
  obtain ⟨g_1, eg_1⟩ : ∃ z, z = vp_updL one cs a := ⟨_, rfl⟩
  rw [nI_clamp (n := cs) (by omega), ← eg_1] at hP hD
  refine lv_aload_n hx hb d_MO_overwrite_21 rfl (lv_at hl 1 rfl) ?_
  refine va_get (D := D) (ci := 8) (v := .ref (f 21)) (C := rn_MO) (T := fl_MO) (N := 55) hx hb hG in_MO hown hK hP 0 rfl rfl 34 (by decide) (hG _ k_1225) (fun _ h9 => h9) rfl d_MO_overwrite_22 ?_
  refine lv_iload hx hb d_MO_overwrite_25 (lv_at hl 0 rfl) ?_
  refine lv_lload hx hb d_MO_overwrite_27 (lv_at hl 4 rfl) ?_
  refine va_last hx hb hK hP hD hS 2 1 rfl rfl (vp_in_nI (n := cs) (N := 400) (by omega) (by omega)) d_MO_overwrite_29 (fun H locs hP hD hS => ?_)
  have hP : va_P D classes [(h0, .inr (8, mS f tn rm ln lx at_ bd fs dp on os bn df th tp mo_ ev ss so lk rs pt ot cl)), ((f 20), .inl (cL, 400, .inr (.inl g_1))), ((f 21), .inl (cL, 400, .inr (.inl (vp_updL two (nI cs).toNatClampNeg b)))), ((f 24), .inl (cI, 150, .inl spn)), ((f 18), .inl (cL, 9, .inr (.inl trm)))] H := hP
  have hD : va_D A [(h0, .inr (8, mS f tn rm ln lx at_ bd fs dp on os bn df th tp mo_ ev ss so lk rs pt ot cl)), ((f 20), .inl (cL, 400, .inr (.inl g_1))), ((f 21), .inl (cL, 400, .inr (.inl (vp_updL two (nI cs).toNatClampNeg b)))), ((f 24), .inl (cI, 150, .inl spn)), ((f 18), .inl (cL, 9, .inr (.inl trm)))] := hD
  obtain ⟨g_2, eg_2⟩ : ∃ z, z = vp_updL two cs b := ⟨_, rfl⟩
  rw [nI_clamp (n := cs) (by omega), ← eg_2] at hP hD
  refine lv_aload_n hx hb d_MO_overwrite_30 rfl (lv_at hl 1 rfl) ?_
  refine lv_dup hx hb d_MO_overwrite_31 rfl ?_
  refine va_get (D := D) (ci := 8) (v := .int (nI tp)) (C := rn_MO) (T := fl_MO) (N := 55) hx hb hG in_MO hown hK hP 0 rfl rfl 38 (by decide) (hG _ k_1229) (fun _ h9 => h9) rfl d_MO_overwrite_32 ?_
  refine lv_iload_n hx hb d_MO_overwrite_35 rfl (lv_at hl 2 rfl) ?_
  refine lv_iconst (v := 1) hx hb d_MO_overwrite_36 (by decide) ?_
  refine lw_isub (a := n) (b := 1) hx hb d_MO_overwrite_37 (by omega) ?_
  refine lw_isub (a := tp) (b := n - 1) hx hb d_MO_overwrite_38 (by omega) ?_
  refine va_put (D := D) (ci := 8) (v := .int (nI (tp - (n - 1)))) (ty := .int) (C := rn_MO) (T := fl_MO) (N := 55) hx hb hG in_MO tt_MO tk_MO nn_MO hown hK hP hD hS 0 rfl rfl 38 (by decide) (hG _ k_1229) (fun _ h9 => h9) rfl (by decide +kernel) rfl rfl (Nat.le_of_ble_eq_true rfl) d_MO_overwrite_39 (fun H locs hP hD hS => ?_)
  have hP : va_P D classes [(h0, .inr (8, mS f tn rm ln lx at_ bd fs dp on os bn df th (tp - (n - 1)) mo_ ev ss so lk rs pt ot cl)), ((f 20), .inl (cL, 400, .inr (.inl g_1))), ((f 21), .inl (cL, 400, .inr (.inl g_2))), ((f 24), .inl (cI, 150, .inl spn)), ((f 18), .inl (cL, 9, .inr (.inl trm)))] H := hP
  have hD : va_D A [(h0, .inr (8, mS f tn rm ln lx at_ bd fs dp on os bn df th (tp - (n - 1)) mo_ ev ss so lk rs pt ot cl)), ((f 20), .inl (cL, 400, .inr (.inl g_1))), ((f 21), .inl (cL, 400, .inr (.inl g_2))), ((f 24), .inl (cI, 150, .inl spn)), ((f 18), .inl (cL, 9, .inr (.inl trm)))] := hD
  refine lv_aload_n hx hb d_MO_overwrite_42 rfl (lv_at hl 1 rfl) ?_
  refine lv_lload_n hx hb d_MO_overwrite_43 rfl (lv_at hl 3 rfl) ?_
  refine va_put (D := D) (ci := 8) (v := .long a) (ty := .long) (C := rn_MO) (T := fl_MO) (N := 55) hx hb hG in_MO tt_MO tk_MO nn_MO hown hK hP hD hS 0 rfl rfl 47 (by decide) (hG _ k_1238) (fun _ h9 => h9) rfl (by decide +kernel) rfl rfl (Nat.le_of_ble_eq_true rfl) d_MO_overwrite_44 (fun H locs hP hD hS => ?_)
  have hP : va_P D classes [(h0, .inr (8, mS f tn rm ln lx at_ bd fs dp on os bn df th (tp - (n - 1)) mo_ ev ss so a rs pt ot cl)), ((f 20), .inl (cL, 400, .inr (.inl g_1))), ((f 21), .inl (cL, 400, .inr (.inl g_2))), ((f 24), .inl (cI, 150, .inl spn)), ((f 18), .inl (cL, 9, .inr (.inl trm)))] H := hP
  have hD : va_D A [(h0, .inr (8, mS f tn rm ln lx at_ bd fs dp on os bn df th (tp - (n - 1)) mo_ ev ss so a rs pt ot cl)), ((f 20), .inl (cL, 400, .inr (.inl g_1))), ((f 21), .inl (cL, 400, .inr (.inl g_2))), ((f 24), .inl (cI, 150, .inl spn)), ((f 18), .inl (cL, 9, .inr (.inl trm)))] := hD
  refine lv_aload_n hx hb d_MO_overwrite_47 rfl (lv_at hl 1 rfl) ?_
  refine lv_dup hx hb d_MO_overwrite_48 rfl ?_
  refine va_get (D := D) (ci := 8) (v := .int ss) (C := rn_MO) (T := fl_MO) (N := 55) hx hb hG in_MO hown hK hP 0 rfl rfl 41 (by decide) (hG _ k_1232) (fun _ h9 => h9) rfl d_MO_overwrite_49 ?_
  refine lv_iconst (v := 1) hx hb d_MO_overwrite_52 (by decide) ?_
  refine lv_iadd hx hb d_MO_overwrite_53 ?_
  refine va_put (D := D) (ci := 8) (v := .int (ss + 1)) (ty := .int) (C := rn_MO) (T := fl_MO) (N := 55) hx hb hG in_MO tt_MO tk_MO nn_MO hown hK hP hD hS 0 rfl rfl 41 (by decide) (hG _ k_1232) (fun _ h9 => h9) rfl (by decide +kernel) rfl rfl (Nat.le_of_ble_eq_true rfl) d_MO_overwrite_54 (fun H locs hP hD hS => ?_)
  have hP : va_P D classes [(h0, .inr (8, mS f tn rm ln lx at_ bd fs dp on os bn df th (tp - (n - 1)) mo_ ev (ss + 1) so a rs pt ot cl)), ((f 20), .inl (cL, 400, .inr (.inl g_1))), ((f 21), .inl (cL, 400, .inr (.inl g_2))), ((f 24), .inl (cI, 150, .inl spn)), ((f 18), .inl (cL, 9, .inr (.inl trm)))] H := hP
  have hD : va_D A [(h0, .inr (8, mS f tn rm ln lx at_ bd fs dp on os bn df th (tp - (n - 1)) mo_ ev (ss + 1) so a rs pt ot cl)), ((f 20), .inl (cL, 400, .inr (.inl g_1))), ((f 21), .inl (cL, 400, .inr (.inl g_2))), ((f 24), .inl (cI, 150, .inl spn)), ((f 18), .inl (cL, 9, .inr (.inl trm)))] := hD
  exact em_vret hx hb hr hlocks hP hD hK hS (tp - (n - 1), a, ss + 1, g_1, g_2) [0, 1, 2, 3, 4] (by decide) rfl ⟨rfl, ⟨(show HG df Gc trm g_1 g_2 from (by rw [eg_1, eg_2]; exact hHG.over hgs ha hb2)), (show (tp - (n - 1)) + n = tp + 1 from (by first | assumption | omega | exact Or.inl rfl)), (show a = a from rfl), (show (ss + 1) = ss + 1 from rfl)⟩⟩ d_MO_overwrite_57
