/-! The reference's reader: levels of expressions, each with what is read of it. -/
def okw (nd b : Nat) (w : Int64) : Prop := wkind w = 0 ∨ (wkind w = 1 ∧ ∃ v : Nat, v < nd ∧ w.toInt32 = nI v) ∨ (wkind w = 2 ∧ ∃ v : Nat, 2 ≤ v ∧ v ≤ 22 ∧ w.toInt32 = nI v) ∨ (∃ v : Nat, v < b ∧ w = wof 4 (nI v))
theorem okw_mono {nd b b' : Nat} (h : b ≤ b') {w : Int64} (q : okw nd b w) : okw nd b' w := by
  rcases q with q | q | q | ⟨v, q1, q2⟩
  · exact Or.inl q
  · exact Or.inr (Or.inl q)
  · exact Or.inr (Or.inr (Or.inl q))
  · exact Or.inr (Or.inr (Or.inr ⟨v, by omega, q2⟩))
theorem okw_con {nd b : Nat} (c : Nat) (h1 : 2 ≤ c) (h2 : c ≤ 22) : okw nd b (wof 2 (nI c)) := Or.inr (Or.inr (Or.inl ⟨wkind_of _ _, c, h1, h2, wnum_of _ _⟩))
theorem okw_num {nd b : Nat} (v : Int32) : okw nd b (wof 0 v) := Or.inl (wkind_of _ _)
theorem okw_dn {nd b : Nat} {w : Int64} (q : okw nd (b + 1) w) : w = wof 4 (nI b) ∨ okw nd b w := by
  rcases q with q | q | q | ⟨v, q1, q2⟩
  · exact Or.inr (Or.inl q)
  · exact Or.inr (Or.inr (Or.inl q))
  · exact Or.inr (Or.inr (Or.inr (Or.inl q)))
  · by_cases e : v = b
    · subst e; exact Or.inl q2
    · exact Or.inr (Or.inr (Or.inr (Or.inr ⟨v, by omega, q2⟩)))
def Lv (srt bas fst rdy : Nat → Int32) (St : Nat → Tr) (Q : Nat → Int64 → Prop) (b0 : Nat) : Nat → Nat → Nat → Nat → Prop
  | 0, m, ob, b => m = 0 ∧ ob = 0 ∧ srt 0 = nI 0 ∧ bas 0 = nI 0 ∧ b = b0
  | d + 1, m, ob, b => ∃ s n' cc m' ob' r' b' : Nat, srt (d + 1) = nI s ∧ 1 ≤ s ∧ s ≤ 6 ∧ fst (d + 1) = nI n' ∧ bas (d + 1) = nI ob ∧ rdy d = nI r' ∧ r' ≤ 1 ∧ Lv srt bas fst rdy St Q b0 d m' ob' b' ∧ ob' ≤ ob ∧ n' = m' + (ob - ob') + r' ∧ (3 ≤ s → r' = 0) ∧ m = n' + cc ∧ (s = 1 ∨ s = 3 ∨ s = 6 → cc = 0) ∧ (s = 4 → cc = 1) ∧ (s = 5 → cc = 2) ∧ (s = 6 → b = b' + 1) ∧ (s ≠ 6 → b = b') ∧ (∀ i, n' ≤ i → i < m → okT (Q b) (St i)) ∧ (∀ i, m' ≤ i → i < n' → okT (Q b') (St i))
section PS
variable {srt bas fst rdy srt' bas' fst' rdy' : Nat → Int32} {St St' : Nat → Tr} {Q Q' : Nat → Int64 → Prop} {b0 d on os bn m ob r : Nat}
theorem Lv_fr : ∀ {d m ob b : Nat}, Lv srt bas fst rdy St Q b0 d m ob b → (∀ j, j ≤ d → srt' j = srt j ∧ bas' j = bas j ∧ fst' j = fst j) → (∀ j, j < d → rdy' j = rdy j) → (∀ i, i < m → St' i = St i) → Lv srt' bas' fst' rdy' St' Q b0 d m ob b
  | 0, m, ob, b, h, h1, h2, h3 => by
    obtain ⟨g1, g2, g3, g4, g5⟩ := h
    obtain ⟨q1, q2, q3⟩ := h1 0 (Nat.le_refl _)
    exact ⟨g1, g2, by rw [q1]; exact g3, by rw [q2]; exact g4, g5⟩
  | d + 1, m, ob, b, h, h1, h2, h3 => by
    obtain ⟨s, n', cc, m', ob', r', b', g1, g2, g3, g4, g5, g6, g7, g8, g9, g10, g11, g12, g13, g14, g15, g16, g17, g18, g19⟩ := h
    obtain ⟨q1, q2, q3⟩ := h1 (d + 1) (Nat.le_refl _)
    exact ⟨s, n', cc, m', ob', r', b', by rw [q1]; exact g1, g2, g3, by rw [q3]; exact g4, by rw [q2]; exact g5, by rw [h2 d (by omega)]; exact g6, g7, Lv_fr g8 (fun j hj => h1 j (by omega)) (fun j hj => h2 j (by omega)) (fun i hi => h3 i (by omega)), g9, g10, g11, g12, g13, g14, g15, g16, g17, fun i q q' => by rw [h3 i (by omega)]; exact g18 i q q', fun i q q' => by rw [h3 i (by omega)]; exact g19 i q q'⟩
/-- the reader inside level d: on operands, os operations, bn names; m operands and ob operations before the expression that is read; r: a term stands ready -/
def PS (srt bas fst rdy : Nat → Int32) (St : Nat → Tr) (Q : Nat → Int64 → Prop) (b0 d on os bn m ob r : Nat) : Prop := Lv srt bas fst rdy St Q b0 d m ob bn ∧ on = m + (os - ob) + r ∧ ob ≤ os ∧ rdy d = nI r ∧ r ≤ 1 ∧ (∀ i, m ≤ i → i < on → okT (Q bn) (St i))
theorem PS_bas (h : PS srt bas fst rdy St Q b0 d on os bn m ob r) : bas d = nI ob := by
  obtain ⟨h1, -⟩ := h
  cases d with
  | zero => rw [h1.2.1]; exact h1.2.2.2.1
  | succ d =>
    obtain ⟨s, n', cc, m', ob', r', b', g1, g2, g3, g4, g5, -⟩ := h1
    exact g5
theorem PS.atom (h : PS srt bas fst rdy St Q b0 d on os bn m ob r) (h1 : okT (Q bn) (St' (on - r))) (h2 : ∀ i, i < on - r → St' i = St i) : PS srt bas fst (upd rdy d 1) St' Q b0 d (on - r + 1) os bn m ob 1 := by
  obtain ⟨g1, g2, g3, g4, g5, g6⟩ := h
  refine ⟨Lv_fr g1 (fun _ _ => ⟨rfl, rfl, rfl⟩) (fun j hj => upd_ne (by omega)) (fun i hi => h2 i (by omega)), by omega, g3, upd_at rfl, Nat.le_refl _, fun i q q' => ?_⟩
  rcases Nat.lt_or_ge i (on - r) with e | e
  · rw [h2 i e]; exact g6 i q (by omega)
  · rw [show i = on - r by omega]; exact h1
theorem PS.reduce (h : PS srt bas fst rdy St Q b0 d on os bn m ob 1) (ho : ob < os) (h1 : okT (Q bn) (St' (on - 2))) (h2 : ∀ i, i < on - 2 → St' i = St i) : PS srt bas fst rdy St' Q b0 d (on - 1) (os - 1) bn m ob 1 := by
  obtain ⟨g1, g2, g3, g4, g5, g6⟩ := h
  refine ⟨Lv_fr g1 (fun _ _ => ⟨rfl, rfl, rfl⟩) (fun j hj => rfl) (fun i hi => h2 i (by omega)), by omega, by omega, g4, g5, fun i q q' => ?_⟩
  rcases Nat.lt_or_ge i (on - 2) with e | e
  · rw [h2 i e]; exact g6 i q (by omega)
  · rw [show i = on - 2 by omega]; exact h1
theorem PS.operator (h : PS srt bas fst rdy St Q b0 d on os bn m ob 1) : PS srt bas fst (upd rdy d 0) St Q b0 d on (os + 1) bn m ob 0 := by
  obtain ⟨g1, g2, g3, g4, g5, g6⟩ := h
  exact ⟨Lv_fr g1 (fun _ _ => ⟨rfl, rfl, rfl⟩) (fun j hj => upd_ne (by omega)) (fun i hi => rfl), by omega, by omega, upd_at rfl, by omega, g6⟩
theorem PS.opn (h : PS srt bas fst rdy St Q b0 d on os bn m ob r) {s b : Nat} (h1 : s = 1 ∨ s = 2 ∨ s = 3 ∨ s = 6) (h2 : 3 ≤ s → r = 0) (h3 : s = 6 → b = bn + 1) (h4 : s ≠ 6 → b = bn) :
    PS (upd srt (d + 1) (nI s)) (upd bas (d + 1) (nI os)) (upd fst (d + 1) (nI on)) (upd rdy (d + 1) 0) St Q b0 (d + 1) on os b on os 0 := by
  obtain ⟨g1, g2, g3, g4, g5, g6⟩ := h
  refine ⟨⟨s, on, 0, m, ob, r, bn, upd_at rfl, by omega, by omega, upd_at rfl, upd_at rfl, (upd_ne (by omega)).trans g4, g5, ?_, g3, g2, h2, rfl, fun _ => rfl, fun q => by omega, fun q => by omega, h3, h4, fun i q q' => by omega, g6⟩, by omega, Nat.le_refl _, upd_at rfl, by omega, fun i q q' => by omega⟩
  exact Lv_fr g1 (fun j hj => ⟨upd_ne (by omega), upd_ne (by omega), upd_ne (by omega)⟩) (fun j hj => upd_ne (by omega)) (fun i hi => rfl)
theorem PS.close (h : PS srt bas fst rdy St Q b0 (d + 1) on os bn m ob r) : ∃ s n' cc m' ob' r' b' : Nat, srt (d + 1) = nI s ∧ 1 ≤ s ∧ s ≤ 6 ∧ fst (d + 1) = nI n' ∧ m = n' + cc ∧ (s = 1 ∨ s = 3 ∨ s = 6 → cc = 0) ∧ (s = 4 → cc = 1) ∧ (s = 5 → cc = 2) ∧ (s = 6 → bn = b' + 1) ∧ (s ≠ 6 → bn = b') ∧ (3 ≤ s → r' = 0) ∧ PS srt bas fst rdy St Q b0 d n' ob b' m' ob' r' ∧ (∀ i, n' ≤ i → i < on → okT (Q bn) (St i)) := by
  obtain ⟨h1, g2, g3, g4, g5, g6⟩ := h
  obtain ⟨s, n', cc, m', ob', r', b', k1, k2, k3, k4, k5, k6, k7, k8, k9, k10, k11, k12, k13, k14, k15, k16, k17, k18, k19⟩ := h1
  refine ⟨s, n', cc, m', ob', r', b', k1, k2, k3, k4, k12, k13, k14, k15, k16, k17, k11, ⟨k8, k10, k9, k6, k7, k19⟩, fun i q q' => ?_⟩
  rcases Nat.lt_or_ge i m with e | e
  · exact k18 i q e
  · exact g6 i e q'
theorem PS.begin (h : PS srt bas fst rdy St Q b0 (d + 1) on ob bn m ob 1) {s s2 : Nat} (hs : srt (d + 1) = nI s) (hs0 : s < 2000) (h2 : (s = 2 ∧ s2 = 2) ∨ (s = 3 ∧ s2 = 4) ∨ (s = 4 ∧ s2 = 5)) (hx : ∀ j, j ≤ d → srt' j = srt j) (hy : srt' (d + 1) = nI s2) :
    PS srt' (upd bas (d + 1) (nI ob)) fst (upd rdy (d + 1) 0) St Q b0 (d + 1) on ob bn on ob 0 := by
  obtain ⟨h1, g2, g3, g4, g5, g6⟩ := h
  obtain ⟨s', n', cc, m', ob', r', b', k1, k2, k3, k4, k5, k6, k7, k8, k9, k10, k11, k12, k13, k14, k15, k16, k17, k18, k19⟩ := h1
  obtain rfl : s = s' := nI_injk hs0 (by omega) (hs.symm.trans k1)
  refine ⟨⟨s2, n', cc + 1, m', ob', r', b', hy, by omega, by omega, k4, upd_at rfl, (upd_ne (by omega)).trans k6, k7, ?_, k9, k10, fun q => k11 (by omega), by omega, fun q => by omega, fun q => by have := k13; omega, fun q => by have := k14; omega, fun q => by omega, fun q => k17 (by omega), fun i q q' => ?_, k19⟩, by omega, Nat.le_refl _, upd_at rfl, by omega, fun i q q' => by omega⟩
  · exact Lv_fr k8 (fun j hj => ⟨hx j hj, upd_ne (by omega), rfl⟩) (fun j hj => upd_ne (by omega)) (fun i hi => rfl)
  · rcases Nat.lt_or_ge i m with e | e
    · exact k18 i q e
    · exact g6 i e q'
theorem PS.init (h1 : srt 0 = nI 0) (h2 : bas 0 = nI 0) (h3 : rdy 0 = nI 0) : PS srt bas fst rdy St Q b0 0 0 0 b0 0 0 0 :=
  ⟨⟨rfl, rfl, h1, h2, rfl⟩, rfl, Nat.le_refl _, h3, by omega, fun i q q' => by omega⟩
/-- of the operands: each has its tree -/
def OT (le ri opd : Nat → Int64) (St : Nat → Tr) (on : Nat) : Prop := ∀ i, i < on → rep le ri (opd i) (St i)
theorem ws_upd {St : Nat → Tr} {n k : Nat} {T : Tr} (h : n ≤ k) (d : Nat) : ws (fun i => if i = k then T else St i) 0 n d = ws St 0 n d :=
  ws_congr (fun j hj => if_neg (by omega)) d
theorem ws_in {St : Nat → Tr} {n i : Nat} (h : i < n) (d : Nat) : (toc (St i)) d ≤ ws St 0 n d := by
  induction n with
  | zero => omega
  | succ n ih =>
    show _ ≤ ws St 0 n d + (toc (St (0 + n))) d
    rcases Nat.lt_or_ge i n with q | q
    · have := ih q; omega
    · rw [show i = 0 + n by omega]; omega
theorem ws_last {St : Nat → Tr} {n : Nat} (h : 1 ≤ n) (d : Nat) : ws St 0 n d = ws St 0 (n - 1) d + (toc (St (n - 1))) d := by
  obtain ⟨k, rfl⟩ : ∃ k, n = k + 1 := ⟨n - 1, by omega⟩
  show ws St 0 k d + (toc (St (0 + k))) d = _
  rw [Nat.zero_add]
  rfl
theorem Lv_w (hQ : ∀ b w, Q b w → Q' b w) : ∀ {d m ob b : Nat}, Lv srt bas fst rdy St Q b0 d m ob b → Lv srt bas fst rdy St Q' b0 d m ob b
  | 0, m, ob, b, h => h
  | d + 1, m, ob, b, h => by
    obtain ⟨s, n', cc, m', ob', r', b', g1, g2, g3, g4, g5, g6, g7, g8, g9, g10, g11, g12, g13, g14, g15, g16, g17, g18, g19⟩ := h
    exact ⟨s, n', cc, m', ob', r', b', g1, g2, g3, g4, g5, g6, g7, Lv_w hQ g8, g9, g10, g11, g12, g13, g14, g15, g16, g17, fun i q q' => okT_mono (hQ _) (g18 i q q'), fun i q q' => okT_mono (hQ _) (g19 i q q')⟩
theorem Lv_b : ∀ {d m ob b : Nat}, Lv srt bas fst rdy St Q b0 d m ob b → b ≤ b0 + d
  | 0, m, ob, b, h => by have := h.2.2.2.2; omega
  | d + 1, m, ob, b, h => by
    obtain ⟨s, n', cc, m', ob', r', b', g1, g2, g3, g4, g5, g6, g7, g8, g9, g10, g11, g12, g13, g14, g15, g16, g17, -⟩ := h
    have := Lv_b g8
    by_cases e : s = 6
    · have := g16 e; omega
    · have := g17 e; omega
theorem PS.weaken (h : PS srt bas fst rdy St Q b0 d on os bn m ob r) (hQ : ∀ b w, Q b w → Q' b w) : PS srt bas fst rdy St Q' b0 d on os bn m ob r := by
  obtain ⟨g1, g2, g3, g4, g5, g6⟩ := h
  exact ⟨Lv_w hQ g1, g2, g3, g4, g5, fun i q q' => okT_mono (hQ _) (g6 i q q')⟩
end PS

/-- the reader's state: the levels, the operands' trees, the operations -/
def RX (B : Nat → Nat) (le0 ri0 : Nat → Int64) (Q : Nat → Int64 → Prop) (b0 : Nat) (srt bas fst rdy opr : Nat → Int32) (opd le ri : Nat → Int64) (fr : Nat → Int32) (fs on os bn : Nat) (St : Nat → Tr) (d m ob r : Nat) : Prop :=
  PS srt bas fst rdy St Q b0 d on os bn m ob r ∧ OT le ri opd St on ∧ (∀ c, fo fr fs c + ws St 0 on c ≤ B c) ∧ (∀ c, B c = 0 → le c = le0 c ∧ ri c = ri0 c) ∧ (∀ i, i < os → ∃ v : Nat, 11 ≤ v ∧ v ≤ 16 ∧ opr i = nI v)
theorem vp_ne {g : Nat → Int64} {k j : Nat} {v : Int64} (h : j ≠ k) : vp_updL g k v j = g j := if_neg h
theorem vp_at {g : Nat → Int64} {k j : Nat} {v : Int64} (h : j = k) : vp_updL g k v j = v := if_pos h
/-- a new tree on the operands, made of what was above n0 or in hand (Y) -/
theorem OTput {B Y : Nat → Nat} {le ri le' ri' le0 ri0 opd : Nat → Int64} {fr fr' : Nat → Int32} {fs fs' on n0 : Nat} {St : Nat → Tr} {w : Int64} {T : Tr} (hB : ∀ c, B c ≤ 1) (h : OT le ri opd St on) (h0 : n0 ≤ on) (hY : ∀ c, fo fr fs c + ws St 0 n0 c + Y c ≤ B c) (h1 : ∀ c, fo fr' fs' c + (toc T) c ≤ fo fr fs c + Y c) (h2 : ∀ c, fo fr fs c + Y c = 0 → le' c = le c ∧ ri' c = ri c) (hr : rep le' ri' w T) (h3 : ∀ c, B c = 0 → le c = le0 c ∧ ri c = ri0 c) :
    OT le' ri' (vp_updL opd n0 w) (fun i => if i = n0 then T else St i) (n0 + 1) ∧ (∀ c, fo fr' fs' c + ws (fun i => if i = n0 then T else St i) 0 (n0 + 1) c ≤ B c) ∧ (∀ c, B c = 0 → le' c = le0 c ∧ ri' c = ri0 c) := by
  refine ⟨fun i hi => ?_, fun c => ?_, fun c hc => ?_⟩
  · by_cases e : i = n0
    · subst e
      show rep le' ri' (vp_updL opd i w i) (if i = i then T else St i)
      rw [vp_at rfl, if_pos rfl]; exact hr
    · show rep le' ri' (vp_updL opd n0 w i) (if i = n0 then T else St i)
      rw [vp_ne e, if_neg e]
      refine rep_fr (h i (by omega)) (fun d hd => h2 d ?_)
      have q1 := hY d
      have q2 := hB d
      have q3 := ws_in (St := St) (show i < n0 by omega) d
      omega
  · show fo fr' fs' c + (ws (fun i => if i = n0 then T else St i) 0 n0 c + (toc ((fun i => if i = n0 then T else St i) (0 + n0))) c) ≤ B c
    rw [ws_upd (Nat.le_refl _), show (fun i => if i = n0 then T else St i) (0 + n0) = T from if_pos (by omega)]
    have q1 := hY c
    have q2 := h1 c
    omega
  · have q1 := hY c
    have q2 := h2 c (by omega)
    have q3 := h3 c hc
    exact ⟨q2.1.trans q3.1, q2.2.trans q3.2⟩
/-- what the lexeme at i is -/
def sgn (ki : Nat → Int32) (wh : Nat → Int64) (i : Nat) (c : Int32) : Prop := ki i = 2 ∧ wh i = c.toInt64
def isNm (ki : Nat → Int32) (wh : Nat → Int64) (i : Nat) : Prop := ki i = 0 ∧ ¬ wh i = 6710628 ∧ ¬ wh i = 26217 ∧ ¬ wh i = 1852139636 ∧ ¬ wh i = 1702063205
def isWd (ki : Nat → Int32) (wh : Nat → Int64) (i : Nat) (w : Int64) : Prop := ki i = 0 ∧ wh i = w
def BA (ki : Nat → Int32) (wh : Nat → Int64) (i : Nat) : Prop := ki i = 1 ∨ isNm ki wh i ∨ sgn ki wh i 40 ∨ sgn ki wh i 91
def opA (k : Int32) (w : Int64) : Int32 := if k = 2 then (if w = 43 then 11 else if w = 45 then 12 else if w = 42 then 13 else if w = 60 then 14 else if w = 15677 then 15 else if w = 58 then 16 else -1) else -1
theorem opA_or {k : Int32} {w : Int64} (h : ¬ opA k w < 0) : k = 2 ∧ ∃ v : Nat, 11 ≤ v ∧ v ≤ 16 ∧ opA k w = nI v := by
  unfold opA at h ⊢
  by_cases hk : k = 2
  · rw [if_pos hk] at h ⊢
    refine ⟨hk, ?_⟩
    by_cases h1 : w = 43
    · rw [if_pos h1]; exact ⟨11, by decide, by decide, rfl⟩
    rw [if_neg h1] at h ⊢
    by_cases h2 : w = 45
    · rw [if_pos h2]; exact ⟨12, by decide, by decide, rfl⟩
    rw [if_neg h2] at h ⊢
    by_cases h3 : w = 42
    · rw [if_pos h3]; exact ⟨13, by decide, by decide, rfl⟩
    rw [if_neg h3] at h ⊢
    by_cases h4 : w = 60
    · rw [if_pos h4]; exact ⟨14, by decide, by decide, rfl⟩
    rw [if_neg h4] at h ⊢
    by_cases h5 : w = 15677
    · rw [if_pos h5]; exact ⟨15, by decide, by decide, rfl⟩
    rw [if_neg h5] at h ⊢
    by_cases h6 : w = 58
    · rw [if_pos h6]; exact ⟨16, by decide, by decide, rfl⟩
    rw [if_neg h6] at h
    exact absurd (by decide) h
  · rw [if_neg hk] at h
    exact absurd (by decide) h
/-- how many words 'def' stand before i -/
def dfo (ki : Nat → Int32) (wh : Nat → Int64) : Nat → Nat
  | 0 => 0
  | n + 1 => dfo ki wh n + (if ki n = 0 ∧ wh n = 6710628 then 1 else 0)
theorem dfo_k {ki : Nat → Int32} {wh : Nat → Int64} {i : Nat} (h : ¬ ki i = 0) : dfo ki wh (i + 1) = dfo ki wh i := by show _ + _ = _; rw [if_neg (fun q => h q.1)]; rfl
theorem dfo_w {ki : Nat → Int32} {wh : Nat → Int64} {i : Nat} (h : ¬ wh i = 6710628) : dfo ki wh (i + 1) = dfo ki wh i := by show _ + _ = _; rw [if_neg (fun q => h q.2)]; rfl

section RXL
variable {B : Nat → Nat} {le0 ri0 le ri le' ri' opd opd' : Nat → Int64} {Q : Nat → Int64 → Prop} {b0 fs fs' on os bn d m ob r n0 : Nat} {srt bas fst rdy opr fr fr' srt' : Nat → Int32} {St : Nat → Tr} {T T' : Tr} {t w : Int64}
theorem ws_mono (St : Nat → Tr) {n k : Nat} (h : n ≤ k) (c : Nat) : ws St 0 n c ≤ ws St 0 k c := by
  induction k with
  | zero => rw [show n = 0 by omega]; exact Nat.le_refl _
  | succ k ih =>
    rcases Nat.lt_or_ge k n with q | q
    · rw [show n = k + 1 by omega]; exact Nat.le_refl _
    · have := ih q
      show _ ≤ ws St 0 k c + _
      omega
theorem RX_put0 (hB : ∀ c, B c ≤ 1) (h : RX B le0 ri0 Q b0 srt bas fst rdy opr opd le ri fr fs on os bn St d m ob 0) (hT : rep le ri t T) (hk : okT (Q bn) T) (hX : ∀ c, fo fr fs c + ws St 0 on c + (toc T) c ≤ B c) :
    ∃ St', RX B le0 ri0 Q b0 srt bas fst (upd rdy d 1) opr (vp_updL opd on t) le ri fr fs (on + 1) os bn St' d m ob 1 := by
  obtain ⟨h1, h2, h3, h4, h5⟩ := h
  obtain ⟨q1, q2, q3⟩ := OTput (T := T) (w := t) (Y := (toc T)) hB h2 (Nat.le_refl on) hX (fun c => Nat.le_refl _) (fun c _ => ⟨rfl, rfl⟩) hT h4
  exact ⟨_, PS.atom (r := 0) h1 (by show okT _ (if on = on then _ else _); rw [if_pos rfl]; exact hk) (fun i hi => if_neg (by omega)), q1, q2, q3, h5⟩
theorem RX_put1 (hB : ∀ c, B c ≤ 1) (h : RX B le0 ri0 Q b0 srt bas fst rdy opr opd le ri fr fs on os bn St d m ob 1) (hX : ∀ c, fo fr fs c + ws St 0 on c + (toc T) c ≤ B c) (hr : rep le' ri' w T') (hk : okT (Q bn) T')
    (hf : ∀ c, fo fr fs' c + (toc T') c ≤ fo fr fs c + ((toc (St (on - 1))) c + (toc T) c)) (ha : ∀ c, fo fr fs c + ((toc (St (on - 1))) c + (toc T) c) = 0 → le' c = le c ∧ ri' c = ri c) :
    ∃ St', RX B le0 ri0 Q b0 srt bas fst (upd rdy d 1) opr (vp_updL opd (on - 1) w) le' ri' fr fs' (on - 1 + 1) os bn St' d m ob 1 := by
  obtain ⟨h1, h2, h3, h4, h5⟩ := h
  have hon : 1 ≤ on := by have := h1.2.1; omega
  obtain ⟨q1, q2, q3⟩ := OTput (T := T') (w := w) (fr' := fr) (fs' := fs') (n0 := on - 1) (Y := fun c => (toc (St (on - 1))) c + (toc T) c) hB h2 (by omega) (fun c => by have := hX c; rw [ws_last hon] at this; show _ + _ + (_ + _) ≤ _; omega) hf ha hr h4
  exact ⟨_, PS.atom (r := 1) h1 (by show okT _ (if on - 1 = on - 1 then _ else _); rw [if_pos rfl]; exact hk) (fun i hi => if_neg (by omega)), q1, q2, q3, h5⟩
theorem RX_red (hB : ∀ c, B c ≤ 1) (h : RX B le0 ri0 Q b0 srt bas fst rdy opr opd le ri fr fs on os bn St d m ob 1) (ho : ob < os) (hr : rep le' ri' w T') (hk : okT (Q bn) T')
    (hf : ∀ c, fo fr fs' c + (toc T') c ≤ fo fr fs c + ((toc (St (on - 2))) c + (toc (St (on - 1))) c)) (ha : ∀ c, fo fr fs c + ((toc (St (on - 2))) c + (toc (St (on - 1))) c) = 0 → le' c = le c ∧ ri' c = ri c) :
    ∃ St', RX B le0 ri0 Q b0 srt bas fst rdy opr (vp_updL opd (on - 2) w) le' ri' fr fs' (on - 1) (os - 1) bn St' d m ob 1 := by
  obtain ⟨h1, h2, h3, h4, h5⟩ := h
  have hon : 2 ≤ on := by have := h1.2.1; omega
  obtain ⟨q1, q2, q3⟩ := OTput (T := T') (w := w) (fr' := fr) (fs' := fs') (n0 := on - 2) (Y := fun c => (toc (St (on - 2))) c + (toc (St (on - 1))) c) hB h2 (by omega) (fun c => by
    have := h3 c; rw [ws_last (by omega), ws_last (n := on - 1) (by omega), show on - 1 - 1 = on - 2 by omega] at this; show _ + _ + (_ + _) ≤ _; omega) hf ha hr h4
  rw [show on - 2 + 1 = on - 1 by omega] at q1 q2
  exact ⟨_, PS.reduce h1 ho (by show okT _ (if on - 2 = on - 2 then _ else _); rw [if_pos rfl]; exact hk) (fun i hi => if_neg (by omega)), q1, q2, q3, fun i hi => h5 i (by omega)⟩
theorem RX_op (h : RX B le0 ri0 Q b0 srt bas fst rdy opr opd le ri fr fs on os bn St d m ob 1) {v : Nat} (h1 : 11 ≤ v) (h2 : v ≤ 16) : RX B le0 ri0 Q b0 srt bas fst (upd rdy d 0) (upd opr os (nI v)) opd le ri fr fs on (os + 1) bn St d m ob 0 := by
  obtain ⟨g1, g2, g3, g4, g5⟩ := h
  refine ⟨PS.operator g1, g2, g3, g4, fun i hi => ?_⟩
  by_cases e : i = os
  · subst e; exact ⟨v, h1, h2, upd_at rfl⟩
  · rw [upd_ne e]; exact g5 i (by omega)
theorem RX_open (h : RX B le0 ri0 Q b0 srt bas fst rdy opr opd le ri fr fs on os bn St d m ob r) {s b : Nat} (h1 : s = 1 ∨ s = 2 ∨ s = 3 ∨ s = 6) (h2 : 3 ≤ s → r = 0) (h3 : s = 6 → b = bn + 1) (h4 : s ≠ 6 → b = bn) :
    RX B le0 ri0 Q b0 (upd srt (d + 1) (nI s)) (upd bas (d + 1) (nI os)) (upd fst (d + 1) (nI on)) (upd rdy (d + 1) 0) opr opd le ri fr fs on os b St (d + 1) on os 0 := by
  obtain ⟨g1, g2, g3, g4, g5⟩ := h
  exact ⟨PS.opn g1 h1 h2 h3 h4, g2, g3, g4, g5⟩
theorem RX_begin (h : RX B le0 ri0 Q b0 srt bas fst rdy opr opd le ri fr fs on ob bn St (d + 1) m ob 1) {s s2 : Nat} (hs : srt (d + 1) = nI s) (hs0 : s < 2000) (h2 : (s = 2 ∧ s2 = 2) ∨ (s = 3 ∧ s2 = 4) ∨ (s = 4 ∧ s2 = 5)) (hx : ∀ j, j ≤ d → srt' j = srt j) (hy : srt' (d + 1) = nI s2) :
    RX B le0 ri0 Q b0 srt' (upd bas (d + 1) (nI ob)) fst (upd rdy (d + 1) 0) opr opd le ri fr fs on ob bn St (d + 1) on ob 0 := by
  obtain ⟨g1, g2, g3, g4, g5⟩ := h
  exact ⟨PS.begin g1 hs hs0 h2 hx hy, g2, g3, g4, g5⟩
theorem RX_close (h : RX B le0 ri0 Q b0 srt bas fst rdy opr opd le ri fr fs on ob bn St (d + 1) m ob r) : ∃ s n' cc m' ob' r' b' : Nat, srt (d + 1) = nI s ∧ 1 ≤ s ∧ s ≤ 6 ∧ fst (d + 1) = nI n' ∧ on = n' + cc + r ∧ (s = 1 ∨ s = 3 ∨ s = 6 → cc = 0) ∧ (s = 4 → cc = 1) ∧ (s = 5 → cc = 2) ∧ (s = 6 → bn = b' + 1) ∧ (s ≠ 6 → bn = b') ∧ (3 ≤ s → r' = 0) ∧ r' ≤ 1 ∧ RX B le0 ri0 Q b0 srt bas fst rdy opr opd le ri fr fs n' ob b' St d m' ob' r' ∧ (∀ i, n' ≤ i → i < on → okT (Q bn) (St i)) := by
  obtain ⟨g1, g2, g3, g4, g5⟩ := h
  obtain ⟨s, n', cc, m', ob', r', b', k1, k2, k3, k4, k5, k6, k7, k8, k9, k10, k11, k12, k13⟩ := PS.close g1
  have e := g1.2.1
  refine ⟨s, n', cc, m', ob', r', b', k1, k2, k3, k4, by omega, k6, k7, k8, k9, k10, k11, k12.2.2.2.2.1, ⟨k12, fun i hi => g2 i (by omega), fun c => ?_, g4, g5⟩, k13⟩
  have := g3 c
  have := ws_mono St (show n' ≤ on by omega) c
  omega
/-- trees in hand (Y) are worked on -/
theorem RX_fr {Y : Nat → Nat} (hB : ∀ c, B c ≤ 1) (h : RX B le0 ri0 Q b0 srt bas fst rdy opr opd le ri fr fs on os bn St d m ob r) (hY : ∀ c, fo fr fs c + ws St 0 on c + Y c ≤ B c) (h1 : ∀ c, fo fr' fs' c ≤ fo fr fs c + Y c) (h2 : ∀ c, fo fr fs c + Y c = 0 → le' c = le c ∧ ri' c = ri c) :
    RX B le0 ri0 Q b0 srt bas fst rdy opr opd le' ri' fr' fs' on os bn St d m ob r := by
  obtain ⟨g1, g2, g3, g4, g5⟩ := h
  refine ⟨g1, fun i hi => rep_fr (g2 i hi) (fun c hc => h2 c ?_), fun c => ?_, fun c hc => ?_, g5⟩
  · have q1 := hY c
    have q2 := hB c
    have q3 := ws_in (St := St) hi c
    omega
  · have q1 := hY c
    have q2 := h1 c
    omega
  · have q1 := hY c
    have q2 := h2 c (by omega)
    have q3 := g4 c hc
    exact ⟨q2.1.trans q3.1, q2.2.trans q3.2⟩
theorem RX_init (hac : ∀ c, fo fr fs c ≤ B c) (h0 : ∀ c, B c = 0 → le c = le0 c ∧ ri c = ri0 c) : RX B le0 ri0 Q b0 (upd srt 0 (nI 0)) (upd bas 0 (nI 0)) fst (upd rdy 0 0) opr opd le ri fr fs 0 0 b0 St 0 0 0 0 :=
  ⟨PS.init (upd_at rfl) (upd_at rfl) (upd_at rfl), fun i hi => absurd hi (Nat.not_lt_zero _), fun c => by have := hac c; show _ + 0 ≤ _; omega, h0, fun i hi => absurd hi (Nat.not_lt_zero _)⟩
theorem RX_w {Q' : Nat → Int64 → Prop} (h : RX B le0 ri0 Q b0 srt bas fst rdy opr opd le ri fr fs on os bn St d m ob r) (hQ : ∀ b w, Q b w → Q' b w) : RX B le0 ri0 Q' b0 srt bas fst rdy opr opd le ri fr fs on os bn St d m ob r :=
  ⟨h.1.weaken hQ, h.2⟩
end RXL

