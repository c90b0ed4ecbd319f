/-! The reference's terms while they are read: trees in the working cells. -/
def i1 (d c : Nat) : Nat := if d = c then 1 else 0
theorem i1_self (c : Nat) : i1 c c = 1 := if_pos rfl
theorem i1_ne {d c : Nat} (h : d ≠ c) : i1 d c = 0 := if_neg h
theorem i1_le (d c : Nat) : i1 d c ≤ 1 := by unfold i1; split <;> omega
def sm (f : Nat → Nat) : Nat → Nat
  | 0 => 0
  | n + 1 => sm f n + f n
theorem sm_add (f g : Nat → Nat) (n : Nat) : sm (fun d => f d + g d) n = sm f n + sm g n := by
  induction n with
  | zero => rfl
  | succ n ih => show sm (fun d => f d + g d) n + (f n + g n) = _; rw [ih]; show _ = sm f n + f n + (sm g n + g n); omega
theorem sm_le {f : Nat → Nat} (h : ∀ d, f d ≤ 1) (n : Nat) : sm f n ≤ n := by
  induction n with
  | zero => exact Nat.le_refl _
  | succ n ih => show sm f n + f n ≤ _; have := h n; omega
theorem sm_mono {f g : Nat → Nat} (h : ∀ d, f d ≤ g d) (n : Nat) : sm f n ≤ sm g n := by
  induction n with
  | zero => exact Nat.le_refl _
  | succ n ih => show sm f n + f n ≤ sm g n + g n; have := h n; omega
theorem sm_0 (n : Nat) : sm (fun _ => 0) n = 0 := by
  induction n with
  | zero => rfl
  | succ n ih => exact ih
theorem sm_i1 {c : Nat} (n : Nat) : sm (fun d => i1 d c) n = if c < n then 1 else 0 := by
  induction n with
  | zero => rfl
  | succ n ih =>
    show sm (fun d => i1 d c) n + i1 n c = _
    rw [ih]
    unfold i1
    by_cases h : n = c
    · subst h; simp
    · rw [if_neg h]
      by_cases h2 : c < n
      · rw [if_pos h2, if_pos (by omega)]
      · rw [if_neg h2, if_neg (by omega)]
/-- how often d stands in the first n of an array -/
def fo (g : Nat → Int32) : Nat → Nat → Nat
  | 0, _ => 0
  | n + 1, d => fo g n d + i1 d (g n).toNatClampNeg
theorem fo_congr {g h : Nat → Int32} {n : Nat} (e : ∀ i, i < n → g i = h i) (d : Nat) : fo g n d = fo h n d := by
  induction n with
  | zero => rfl
  | succ n ih => show fo g n d + _ = fo h n d + _; rw [ih (fun i hi => e i (by omega)), e n (by omega)]
theorem fo_upd (g : Nat → Int32) (n : Nat) (v : Int32) (d : Nat) : fo (upd g n v) (n + 1) d = fo g n d + i1 d v.toNatClampNeg := by
  show fo (upd g n v) n d + i1 d (upd g n v n).toNatClampNeg = _
  rw [fo_congr (g := upd g n v) (h := g) (fun i hi => if_neg (by omega)), show upd g n v n = v from if_pos rfl]
theorem fo_last (g : Nat → Int32) {n : Nat} (h : 1 ≤ n) (d : Nat) : fo g n d = fo g (n - 1) d + i1 d (g (n - 1)).toNatClampNeg := by
  obtain ⟨k, rfl⟩ : ∃ k, n = k + 1 := ⟨n - 1, by omega⟩
  rfl
theorem fo_mono (g : Nat → Int32) {n k : Nat} (h : k ≤ n) (d : Nat) : fo g k d ≤ fo g n d := by
  induction n with
  | zero => rw [show k = 0 by omega]; exact Nat.le_refl _
  | succ n ih =>
    rcases Nat.lt_or_ge n k with h1 | h1
    · rw [show k = n + 1 by omega]; exact Nat.le_refl _
    · exact Nat.le_trans (ih h1) (Nat.le_add_right _ _)
theorem fo_pos {g : Nat → Int32} {n i c : Nat} (h : i < n) (e : (g i).toNatClampNeg = c) : 1 ≤ fo g n c := by
  have h1 := fo_mono g (show i + 1 ≤ n by omega) c
  have h2 : fo g (i + 1) c = fo g i c + i1 c (g i).toNatClampNeg := rfl
  rw [e, i1_self] at h2
  omega
theorem fo_sm {g : Nat → Int32} {n : Nat} (h : ∀ i, i < n → ∃ j : Nat, j < 2000 ∧ g i = nI j) : sm (fo g n) 2000 = n := by
  induction n with
  | zero => exact sm_0 _
  | succ n ih =>
    have h1 : sm (fo g (n + 1)) 2000 = sm (fo g n) 2000 + sm (fun d => i1 d (g n).toNatClampNeg) 2000 := sm_add _ _ _
    obtain ⟨j, hj, e⟩ := h n (by omega)
    rw [h1, ih (fun i hi => h i (by omega)), sm_i1, e, nI_clamp (by omega), if_pos hj]
abbrev Tr := Lean.RArray Int64
def toc : Tr → Nat → Nat
  | .leaf _, _ => 0
  | .branch c a b, d => i1 d c + (toc a) d + (toc b) d
def tsz : Tr → Nat
  | .leaf _ => 0
  | .branch _ a b => 1 + (tsz a) + (tsz b)
def isn : Tr → Nat
  | .leaf _ => 0
  | .branch _ _ _ => 1
theorem Tr.occ_lf (w : Int64) (d : Nat) : (toc (Lean.RArray.leaf w)) d = 0 := rfl
theorem Tr.occ_nd (c : Nat) (a b : Tr) (d : Nat) : (toc (Lean.RArray.branch c a b)) d = i1 d c + (toc a) d + (toc b) d := rfl
def rep (le ri : Nat → Int64) : Int64 → Tr → Prop
  | w, .leaf u => w = u ∧ ¬ wkind u = 3
  | w, .branch c a b => wkind w = 3 ∧ w.toInt32 = nI c ∧ c < 2000 ∧ rep le ri (le c) a ∧ rep le ri (ri c) b
def okT (P : Int64 → Prop) : Tr → Prop
  | .leaf u => P u
  | .branch _ a b => okT P a ∧ okT P b
def cont (x : Int64) : Tr → Prop
  | .leaf u => u = x
  | .branch _ a b => cont x a ∨ cont x b
theorem okT_mono {P Q : Int64 → Prop} (h : ∀ w, P w → Q w) : ∀ {T : Tr}, okT P T → okT Q T
  | .leaf _, q => h _ q
  | .branch _ _ _, q => ⟨okT_mono h q.1, okT_mono h q.2⟩
theorem okT_no {P : Int64 → Prop} {x : Int64} : ∀ {T : Tr}, okT (fun w => w = x ∨ P w) T → ¬ cont x T → okT P T
  | .leaf _, q, n => q.resolve_left n
  | .branch _ _ _, q, n => ⟨okT_no q.1 (fun h => n (Or.inl h)), okT_no q.2 (fun h => n (Or.inr h))⟩
section TREE
variable {le ri le' ri' : Nat → Int64}
theorem rep_lf {w : Int64} (h : ¬ wkind w = 3) : rep le ri w (.leaf w) := ⟨rfl, h⟩
theorem rep_fr : ∀ {T : Tr} {w : Int64}, rep le ri w T → (∀ d, 1 ≤ (toc T) d → le' d = le d ∧ ri' d = ri d) → rep le' ri' w T
  | .leaf _, _, h, _ => h
  | .branch c a b, _, h, k => by
    obtain ⟨h1, h2, h3, h4, h5⟩ := h
    have hc := k c (by rw [Tr.occ_nd, i1_self]; omega)
    refine ⟨h1, h2, h3, ?_, ?_⟩
    · rw [hc.1]; exact rep_fr h4 (fun d hd => k d (by rw [Tr.occ_nd]; omega))
    · rw [hc.2]; exact rep_fr h5 (fun d hd => k d (by rw [Tr.occ_nd]; omega))
theorem rep_cell {T : Tr} {w : Int64} (h : rep le ri w T) (hk : wkind w = 3) : ∃ c a b, T = .branch c a b ∧ w.toInt32 = nI c ∧ c < 2000 ∧ rep le ri (le c) a ∧ rep le ri (ri c) b := by
  cases T with
  | leaf u => obtain ⟨rfl, q⟩ := h; exact absurd hk q
  | branch c a b => exact ⟨c, a, b, rfl, h.2.1, h.2.2.1, h.2.2.2.1, h.2.2.2.2⟩
theorem rep_leaf {T : Tr} {w : Int64} (h : rep le ri w T) (hk : ¬ wkind w = 3) : T = .leaf w := by
  cases T with
  | leaf u => obtain ⟨rfl, q⟩ := h; rfl
  | branch c a b => exact absurd h.1 hk
theorem rep_lt : ∀ {T : Tr} {w : Int64}, rep le ri w T → ∀ d, 1 ≤ (toc T) d → d < 2000
  | .leaf _, _, _, d, hd => absurd hd (by rw [Tr.occ_lf]; omega)
  | .branch c a b, _, h, d, hd => by
    obtain ⟨h1, h2, h3, h4, h5⟩ := h
    rw [Tr.occ_nd] at hd
    by_cases e : d = c
    · omega
    · rw [i1_ne e] at hd
      rcases (show 1 ≤ (toc a) d ∨ 1 ≤ (toc b) d by omega) with q | q
      · exact rep_lt h4 d q
      · exact rep_lt h5 d q
theorem rep_sm : ∀ {T : Tr} {w : Int64}, rep le ri w T → sm (toc T) 2000 = (tsz T)
  | .leaf _, _, _ => sm_0 _
  | .branch c a b, _, h => by
    obtain ⟨h1, h2, h3, h4, h5⟩ := h
    have e : sm (toc (Lean.RArray.branch c a b)) 2000 = sm (fun d => i1 d c) 2000 + sm (toc a) 2000 + sm (toc b) 2000 := by
      rw [← sm_add, ← sm_add]; rfl
    rw [e, rep_sm h4, rep_sm h5, sm_i1, if_pos h3]
    rfl
theorem rep_sz {T : Tr} {w : Int64} (h : rep le ri w T) (h1 : ∀ d, (toc T) d ≤ 1) : (tsz T) ≤ 2000 := by
  rw [← rep_sm h]; exact sm_le h1 _
theorem fo_le {g : Nat → Int32} {n : Nat} (hg : rng 2000 g) {own : Nat → Nat} (h : ∀ d, fo g n d + own d ≤ 1) : n + sm own 2000 ≤ 2000 := by
  have h1 := sm_le h 2000
  rw [sm_add, fo_sm (fun i _ => hg i)] at h1
  exact h1
theorem fo_lt {g : Nat → Int32} {n c : Nat} (hg : rng 2000 g) (hc : c < 2000) (h : ∀ d, fo g n d + i1 d c ≤ 1) : n < 2000 := by
  have := fo_le hg h
  rw [sm_i1, if_pos hc] at this
  omega
theorem tr_apply {n : Nat} {fr : Nat → Int32} {a b : Int64} {T1 T2 : Tr} {c : Nat} (hr : rng 2000 fr) (hn : 1 ≤ n) (h1 : rep le ri a T1) (h2 : rep le ri b T2) (ho : ∀ d, fo fr n d + (toc T1) d + (toc T2) d ≤ 1) (hc : c < 2000) (ec : fr (n - 1) = nI c) :
    rep (vp_updL le c a) (vp_updL ri c b) (wof 3 (nI c)) (.branch c T1 T2) ∧ (∀ d, fo fr (n - 1) d + (toc (Lean.RArray.branch c T1 T2)) d ≤ fo fr n d + ((toc T1) d + (toc T2) d)) ∧ (∀ d, fo fr n d + ((toc T1) d + (toc T2) d) = 0 → vp_updL le c a d = le d ∧ vp_updL ri c b d = ri d) := by
  have e1 : ∀ d, fo fr n d = fo fr (n - 1) d + i1 d c := fun d => by rw [fo_last fr hn d, ec, nI_clamp (by omega)]
  have hcc : 1 ≤ fo fr n c := by rw [e1, i1_self]; omega
  have hne : ∀ d, d ≠ c → vp_updL le c a d = le d ∧ vp_updL ri c b d = ri d := fun d h => ⟨if_neg h, if_neg h⟩
  refine ⟨⟨wkind_of _ _, wnum_of _ _, hc, ?_, ?_⟩, ?_, ?_⟩
  · rw [show vp_updL le c a c = a from if_pos rfl]
    exact rep_fr h1 (fun d hd => hne d (fun e => by subst e; have := ho d; omega))
  · rw [show vp_updL ri c b c = b from if_pos rfl]
    exact rep_fr h2 (fun d hd => hne d (fun e => by subst e; have := ho d; omega))
  · intro d
    rw [Tr.occ_nd, e1]
    omega
  · intro d hd
    exact hne d (fun e => by subst e; omega)
end TREE
theorem mkind_eq (w : Int64) : (w >>> ((32 : Int32).toInt64 &&& 63)).toInt32 = wkind w := by
  apply Int32.toBitVec_inj.mp
  rw [wkind_bits]
  have h : ((w >>> ((32 : Int32).toInt64 &&& 63)).toInt32).toBitVec = (w.toBitVec.sshiftRight' (((32 : Int32).toInt64 &&& 63).toBitVec.smod 64)).signExtend 32 := rfl
  rw [h, BitVec.signExtend_eq_setWidth_of_le _ (by decide), show ((32 : Int32).toInt64 &&& 63).toBitVec.smod 64 = 32#64 by decide]
  apply BitVec.eq_of_getLsbD_eq
  intro i hi
  have h1 : i < 64 := by omega
  have h2 : 32 + i < 64 := by omega
  have h3 : ¬ 64 ≤ i := by omega
  rw [BitVec.getLsbD_setWidth, BitVec.getLsbD_setWidth, BitVec.sshiftRight_eq', BitVec.getLsbD_sshiftRight, BitVec.getLsbD_ushiftRight]
  simp [hi, h2, h3]
theorem fs_le {g : Nat → Int32} {n : Nat} (hg : rng 2000 g) (h : ∀ d, fo g n d ≤ 1) : n ≤ 2000 := by
  have h1 := sm_le h 2000
  rw [fo_sm (fun i _ => hg i)] at h1
  exact h1
/-! The cells of a term, row by row. -/
def kids : Tr → Nat
  | .leaf _ => 0
  | .branch _ a b => isn a + isn b
def qf (q0 : Nat) (S : Nat → Tr) : Nat → Nat
  | 0 => q0
  | j + 1 => qf q0 S j + kids (S j)
def ws (S : Nat → Tr) (k : Nat) : Nat → Nat → Nat
  | 0, _ => 0
  | m + 1, d => ws S k m d + (toc (S (k + m))) d
theorem isn_le (T : Tr) : isn T ≤ 1 := by cases T <;> simp [isn]
theorem isn_or (T : Tr) : isn T = 0 ∨ isn T = 1 := by cases T <;> simp [isn]
theorem ws_front (S : Nat → Tr) (k m d : Nat) : ws S k (m + 1) d = (toc (S k)) d + ws S (k + 1) m d := by
  induction m with
  | zero => show 0 + (toc (S (k + 0))) d = _ + 0; rw [Nat.add_zero]; omega
  | succ m ih =>
    show ws S k (m + 1) d + (toc (S (k + (m + 1)))) d = (toc (S k)) d + (ws S (k + 1) m d + (toc (S (k + 1 + m))) d)
    rw [ih, show k + (m + 1) = k + 1 + m by omega]
    omega
theorem ws_congr {S S' : Nat → Tr} {k m : Nat} (h : ∀ j, j < m → S (k + j) = S' (k + j)) (d : Nat) : ws S k m d = ws S' k m d := by
  induction m with
  | zero => rfl
  | succ m ih => show ws S k m d + _ = ws S' k m d + _; rw [ih (fun j hj => h j (by omega)), h m (by omega)]
theorem qf_congr {q0 : Nat} {S S' : Nat → Tr} {k : Nat} (h : ∀ j, j < k → S j = S' j) : qf q0 S k = qf q0 S' k := by
  induction k with
  | zero => rfl
  | succ k ih => show qf q0 S k + _ = qf q0 S' k + _; rw [ih (fun j hj => h j (by omega)), h k (by omega)]
theorem qf_mono {q0 : Nat} {S : Nat → Tr} {j k : Nat} (h : j ≤ k) : qf q0 S j ≤ qf q0 S k := by
  induction k with
  | zero => rw [show j = 0 by omega]; exact Nat.le_refl _
  | succ k ih =>
    rcases Nat.lt_or_ge k j with h1 | h1
    · rw [show j = k + 1 by omega]; exact Nat.le_refl _
    · exact Nat.le_trans (ih h1) (Nat.le_add_right _ _)
section BFS
variable {le ri : Nat → Int64}
def At (le ri : Nat → Int64) (od : Nat → Int32) (S : Nat → Tr) (j : Nat) : Prop := ∃ c a b, S j = .branch c a b ∧ od j = nI c ∧ c < 2000 ∧ rep le ri (le c) a ∧ rep le ri (ri c) b
def Kid (q0 : Nat) (S : Nat → Tr) (j : Nat) : Prop := j < qf q0 S j ∧ ∀ c a b, S j = .branch c a b → (isn a = 1 → S (qf q0 S j) = a) ∧ (isn b = 1 → S (qf q0 S j + isn a) = b)
def BI (le ri : Nat → Int64) (od : Nat → Int32) (S : Nat → Tr) (T : Tr) (k n : Nat) : Prop :=
  (isn T = 1 → S 0 = T) ∧ qf (isn T) S k = n ∧ k ≤ n ∧ (∀ j, j < n → At le ri od S j) ∧ (∀ j, j < k → Kid (isn T) S j) ∧ (∀ d, fo od k d + ws S k (n - k) d = (toc T) d)
theorem At.szz {od : Nat → Int32} {S : Nat → Tr} {j : Nat} (h : At le ri od S j) : sm (toc (S j)) 2000 = (tsz (S j)) := by
  obtain ⟨c, a, b, e, -, hc, h1, h2⟩ := h
  rw [e]
  exact rep_sm (le := le) (ri := ri) (w := wof 3 (nI c)) ⟨wkind_of _ _, wnum_of _ _, hc, h1, h2⟩
theorem At.pos {od : Nat → Int32} {S : Nat → Tr} {j : Nat} (h : At le ri od S j) : 1 ≤ (tsz (S j)) := by
  obtain ⟨c, a, b, e, -⟩ := h
  rw [e]
  show 1 ≤ 1 + (tsz a) + (tsz b)
  omega
theorem ws_sm {od : Nat → Int32} {S : Nat → Tr} {k m : Nat} (h : ∀ j, j < m → At le ri od S (k + j)) : m ≤ sm (ws S k m) 2000 := by
  induction m with
  | zero => exact Nat.zero_le _
  | succ m ih =>
    have h1 : sm (ws S k (m + 1)) 2000 = sm (ws S k m) 2000 + sm (toc (S (k + m))) 2000 := sm_add _ _ _
    rw [h1, (h m (by omega)).szz]
    have := (h m (by omega)).pos
    have := ih (fun j hj => h j (by omega))
    omega
theorem sz_isn (T : Tr) : isn T ≤ (tsz T) := by
  cases T with
  | leaf w => exact Nat.le_refl _
  | branch c a b => show 1 ≤ 1 + (tsz a) + (tsz b); omega
theorem fo_sm' {od : Nat → Int32} {S : Nat → Tr} {k n : Nat} (h : ∀ j, j < n → At le ri od S j) (hk : k ≤ n) : sm (fo od k) 2000 = k :=
  fo_sm (fun i hi => by obtain ⟨c, a, b, -, e, hc, -⟩ := h i (by omega); exact ⟨c, hc, e⟩)
theorem BI.room {od : Nat → Int32} {S : Nat → Tr} {T : Tr} {w : Int64} {k n c : Nat} {a b : Tr} (hr : rep le ri w T) (ho : ∀ d, (toc T) d ≤ 1) (h : BI le ri od S T k n) (hk : k < n) (e : S k = .branch c a b) : n + isn a + isn b ≤ (tsz T) ∧ (tsz T) ≤ 2000 := by
  obtain ⟨h0, h1, h2, h3, h4, h5⟩ := h
  have e1 : sm (toc T) 2000 = sm (fo od k) 2000 + sm (ws S k (n - k)) 2000 := by
    rw [← sm_add]; congr 1; funext d; exact (h5 d).symm
  have e2 : sm (ws S k (n - k)) 2000 = sm (toc (S k)) 2000 + sm (ws S (k + 1) (n - k - 1)) 2000 := by
    rw [← sm_add]; congr 1; funext d; rw [← ws_front, show n - k - 1 + 1 = n - k by omega]
  rw [rep_sm hr, fo_sm' h3 h2, e2, (h3 k hk).szz, e] at e1
  have e3 := ws_sm (le := le) (ri := ri) (od := od) (S := S) (k := k + 1) (m := n - k - 1) (fun j hj => h3 _ (by omega))
  have e4 : (tsz (Lean.RArray.branch c a b)) = 1 + (tsz a) + (tsz b) := rfl
  have := sz_isn a
  have := sz_isn b
  exact ⟨by omega, rep_sz hr ho⟩
theorem BI.end {od : Nat → Int32} {S : Nat → Tr} {T : Tr} {w : Int64} {n : Nat} (hr : rep le ri w T) (h : BI le ri od S T n n) : n = (tsz T) := by
  obtain ⟨h0, h1, h2, h3, h4, h5⟩ := h
  have e1 : sm (toc T) 2000 = sm (fo od n) 2000 := by
    congr 1; funext d; rw [← h5 d, Nat.sub_self]; rfl
  rw [rep_sm hr, fo_sm' h3 h2] at e1
  exact e1.symm
theorem BI.step {od od' : Nat → Int32} {S : Nat → Tr} {T : Tr} {k n n' c : Nat} {a b : Tr} (h : BI le ri od S T k n) (hk : k < n) (e : S k = .branch c a b) (hn : n' = n + isn a + isn b) (g0 : ∀ j, j < n → od' j = od j)
    (ga : isn a = 1 → od' n = (le c).toInt32) (gb : isn b = 1 → od' (n + isn a) = (ri c).toInt32) : ∃ S', BI le ri od' S' T (k + 1) n' := by
  obtain ⟨h0, h1, h2, h3, h4, h5⟩ := h
  obtain ⟨c', a', b', e', hod, hc, hra, hrb⟩ := h3 k hk
  rw [e] at e'
  obtain ⟨rfl, rfl, rfl⟩ : c = c' ∧ a = a' ∧ b = b' := by injection e' with q1 q2 q3; exact ⟨q1, q2, q3⟩
  obtain ⟨S', eS'⟩ : ∃ z : Nat → Tr, z = fun j => if j < n then S j else if j < n + isn a then a else b := ⟨_, rfl⟩
  have s1 : ∀ j, j < n → S' j = S j := fun j hj => by rw [eS']; exact if_pos hj
  have s2 : isn a = 1 → S' n = a := fun q => by rw [eS']; show (if n < n then S n else if n < n + isn a then a else b) = a; rw [if_neg (by omega), if_pos (by omega)]
  have s3 : S' (n + isn a) = b := by rw [eS']; show (if n + isn a < n then _ else if n + isn a < n + isn a then a else b) = b; rw [if_neg (by omega), if_neg (by omega)]
  have ia := isn_le a
  have ib := isn_le b
  have q1 : ∀ j, j ≤ k → qf (isn T) S' j = qf (isn T) S j := fun j hj => qf_congr (fun i hi => s1 i (by omega))
  have ekids : kids (S k) = isn a + isn b := by rw [e]; rfl
  subst hn
  refine ⟨S', fun q => ?_, ?_, by omega, ?_, ?_, ?_⟩
  · have := h0 q
    rw [s1 0 (by omega)]; exact this
  · show qf (isn T) S' k + kids (S' k) = _
    rw [q1 k (Nat.le_refl _), h1, s1 k hk, ekids]
    omega
  · intro j hj
    rcases Nat.lt_or_ge j n with hjn | hjn
    · obtain ⟨c1, a1, b1, r1, r2, r3, r4, r5⟩ := h3 j hjn
      exact ⟨c1, a1, b1, by rw [s1 j hjn]; exact r1, by rw [g0 j hjn]; exact r2, r3, r4, r5⟩
    · by_cases hja : isn a = 1 ∧ j = n
      · obtain ⟨p1, rfl⟩ := hja
        cases ha : a with
        | leaf w => rw [ha] at p1; exact absurd (show (0 : Nat) = 1 from p1) (by decide)
        | branch c1 a1 b1 =>
          rw [ha] at hra
          obtain ⟨r1, r2, r3, r4, r5⟩ := hra
          exact ⟨c1, a1, b1, by rw [s2 p1, ha], by rw [ga p1]; exact r2, r3, r4, r5⟩
      · obtain ⟨p1, rfl⟩ : isn b = 1 ∧ j = n + isn a := by
          rcases isn_or a with p | p <;> rcases isn_or b with p' | p' <;> first | (constructor <;> omega) | (exfalso; apply hja; constructor <;> omega) | (exfalso; omega)
        cases hb : b with
        | leaf w => rw [hb] at p1; exact absurd (show (0 : Nat) = 1 from p1) (by decide)
        | branch c1 a1 b1 =>
          rw [hb] at hrb
          obtain ⟨r1, r2, r3, r4, r5⟩ := hrb
          exact ⟨c1, a1, b1, by rw [s3, hb], by rw [gb p1]; exact r2, r3, r4, r5⟩
  · intro j hj
    refine ⟨?_, fun c1 a1 b1 r => ?_⟩
    · rw [q1 j (by omega)]
      rcases Nat.lt_or_ge j k with hjk | hjk
      · exact (h4 j hjk).1
      · obtain rfl : j = k := by omega
        omega
    rcases Nat.lt_or_ge j k with hjk | hjk
    · rw [s1 j (by omega)] at r
      obtain ⟨t1, t2⟩ := (h4 j hjk).2 c1 a1 b1 r
      have m1 : qf (isn T) S (j + 1) ≤ qf (isn T) S k := qf_mono (by omega)
      have m2 : qf (isn T) S (j + 1) = qf (isn T) S j + (isn a1 + isn b1) := by show qf (isn T) S j + kids (S j) = _; rw [r]; rfl
      rw [q1 j (by omega)]
      refine ⟨fun p => ?_, fun p => ?_⟩
      · rw [s1 _ (by omega)]; exact t1 p
      · rw [s1 _ (by omega)]; exact t2 p
    · obtain rfl : j = k := by omega
      rw [s1 j hk, e] at r
      obtain ⟨rfl, rfl, rfl⟩ : c = c1 ∧ a = a1 ∧ b = b1 := by injection r with w1 w2 w3; exact ⟨w1, w2, w3⟩
      rw [q1 j (Nat.le_refl _), h1]
      exact ⟨s2, fun _ => s3⟩
  · intro d
    have t1 := h5 d
    have t2 : fo od' (k + 1) d = fo od k d + i1 d c := by
      show fo od' k d + i1 d (od' k).toNatClampNeg = _
      rw [fo_congr (h := od) (fun i hi => g0 i (by omega)), g0 k hk, hod, nI_clamp (by omega)]
    have t3 : ws S k (n - k) d = (toc (S k)) d + ws S (k + 1) (n - k - 1) d := by rw [← ws_front, show n - k - 1 + 1 = n - k by omega]
    have t4 : ws S' (k + 1) (n - k - 1) d = ws S (k + 1) (n - k - 1) d := ws_congr (fun j hj => s1 _ (by omega)) d
    have t5 : ws S' (k + 1) (n + isn a + isn b - (k + 1)) d = ws S (k + 1) (n - k - 1) d + (toc a) d + (toc b) d := by
      rcases isn_or a with p | p
      · have oa : (toc a) d = 0 := by cases a with | leaf w => rfl | branch _ _ _ => exact absurd (show (1 : Nat) = 0 from p) (by decide)
        rcases isn_or b with p' | p'
        · have ob : (toc b) d = 0 := by cases b with | leaf w => rfl | branch _ _ _ => exact absurd (show (1 : Nat) = 0 from p') (by decide)
          rw [show n + isn a + isn b - (k + 1) = n - k - 1 by omega, t4]; omega
        · rw [show n + isn a + isn b - (k + 1) = n - k - 1 + 1 by omega]
          show ws S' (k + 1) (n - k - 1) d + (toc (S' (k + 1 + (n - k - 1)))) d = _
          rw [t4, show k + 1 + (n - k - 1) = n + isn a by omega, s3]; omega
      · have u1 : ws S' (k + 1) (n - k - 1 + 1) d = ws S (k + 1) (n - k - 1) d + (toc a) d := by
          show ws S' (k + 1) (n - k - 1) d + (toc (S' (k + 1 + (n - k - 1)))) d = _
          rw [t4, show k + 1 + (n - k - 1) = n by omega, s2 p]
        rcases isn_or b with p' | p'
        · have ob : (toc b) d = 0 := by cases b with | leaf w => rfl | branch _ _ _ => exact absurd (show (1 : Nat) = 0 from p') (by decide)
          rw [show n + isn a + isn b - (k + 1) = n - k - 1 + 1 by omega, u1]; omega
        · rw [show n + isn a + isn b - (k + 1) = n - k - 1 + 1 + 1 by omega]
          show ws S' (k + 1) (n - k - 1 + 1) d + (toc (S' (k + 1 + (n - k - 1 + 1)))) d = _
          rw [u1, show k + 1 + (n - k - 1 + 1) = n + isn a by omega, s3]
    rw [e, Tr.occ_nd] at t3
    omega
theorem BI.init {od : Nat → Int32} {T : Tr} {w : Int64} (hr : rep le ri w T) (h0 : isn T = 1 → od 0 = w.toInt32) : ∃ S, BI le ri od S T 0 (isn T) := by
  refine ⟨fun _ => T, fun _ => rfl, rfl, Nat.zero_le _, ?_, fun j hj => absurd hj (Nat.not_lt_zero _), ?_⟩
  · intro j hj
    cases T with
    | leaf u => exact absurd hj (Nat.not_lt_zero _)
    | branch c a b =>
      obtain rfl : j = 0 := by have : j < 1 := hj; omega
      obtain ⟨r1, r2, r3, r4, r5⟩ := hr
      exact ⟨c, a, b, rfl, by rw [h0 rfl]; exact r2, r3, r4, r5⟩
  · intro d
    cases T with
    | leaf u => rfl
    | branch c a b => show 0 + (0 + (toc (Lean.RArray.branch c a b)) d) = _; omega
theorem isn_1 {T : Tr} {w : Int64} (h : rep le ri w T) (hk : wkind w = 3) : isn T = 1 := by
  obtain ⟨c, a, b, rfl, -⟩ := rep_cell h hk
  rfl
theorem isn_0 {T : Tr} {w : Int64} (h : rep le ri w T) (hk : ¬ wkind w = 3) : isn T = 0 := by
  rw [rep_leaf h hk]
  rfl
end BFS
/-! A name taken out of a term. -/
def gn (g : Nat → Int32) (d : Nat) : Nat := if g d = 0 then 0 else 1
theorem gn_le (g : Nat → Int32) (d : Nat) : gn g d ≤ 1 := by unfold gn; split <;> omega
section WI
variable {le ri le1 ri1 le2 ri2 be be1 : Nat → Int64} {od ha gon gon1 fr fr1 fr2 : Nat → Int32} {S W : Nat → Tr} {T : Tr} {n k fs fs1 fs2 : Nat} {x t : Int64} {Pk : Int64 → Prop}
theorem rep_word {w w' : Int64} {c : Nat} {a b : Tr} (h : rep le ri w (.branch c a b)) (h1 : wkind w' = 3) (h2 : w'.toInt32 = nI c) : rep le ri w' (.branch c a b) := ⟨h1, h2, h.2.2.1, h.2.2.2.1, h.2.2.2.2⟩
theorem Tr.nd_inj {c c' : Nat} {a a' b b' : Tr} (h : Lean.RArray.branch c a b = Lean.RArray.branch c' a' b') : c = c' ∧ a = a' ∧ b = b' := by injection h with w1 w2 w3; exact ⟨w1, w2, w3⟩
/-- where the children of the k-th cell stand -/
theorem BI.kid (h : BI le ri od S T n n) (hk : k < n) {c : Nat} {a b : Tr} (e : S k = .branch c a b) : od k = nI c ∧ c < 2000 ∧ rep le ri (le c) a ∧ rep le ri (ri c) b ∧ k < qf (isn T) S k ∧ qf (isn T) S (k + 1) = qf (isn T) S k + isn a + isn b ∧ qf (isn T) S k + isn a + isn b ≤ n ∧ (isn a = 1 → S (qf (isn T) S k) = a) ∧ (isn b = 1 → S (qf (isn T) S k + isn a) = b) := by
  obtain ⟨h0, h1, h2, h3, h4, h5⟩ := h
  obtain ⟨c', a', b', e', hod, hc, hra, hrb⟩ := h3 k hk
  rw [e] at e'
  obtain ⟨rfl, rfl, rfl⟩ := Tr.nd_inj e'
  obtain ⟨g1, g2⟩ := h4 k hk
  obtain ⟨g3, g4⟩ := g2 c a b e
  have m1 : qf (isn T) S (k + 1) = qf (isn T) S k + isn a + isn b := by show qf (isn T) S k + kids (S k) = _; rw [e]; show _ + (isn a + isn b) = _; omega
  have m2 : qf (isn T) S (k + 1) ≤ qf (isn T) S n := qf_mono hk
  exact ⟨hod, hc, hra, hrb, g1, m1, by omega, g3, g4⟩
theorem BI.at (h : BI le ri od S T n n) (hk : k < n) : ∃ c a b, S k = .branch c a b := by
  obtain ⟨c, a, b, e, -⟩ := h.2.2.2.1 k hk
  exact ⟨c, a, b, e⟩
theorem BI.ocw (h : BI le ri od S T n n) (d : Nat) : fo od n d = (toc T) d := by
  have := h.2.2.2.2.2 d
  rw [Nat.sub_self] at this
  exact this
theorem BI.inj (h : BI le ri od S T n n) (ho : ∀ d, (toc T) d ≤ 1) {i j c : Nat} {a b a' b' : Tr} (hi : i < j) (hj : j < n) (e1 : S i = .branch c a b) (e2 : S j = .branch c a' b') : False := by
  have g1 := (h.kid (by omega) e1).1
  have g2 := h.kid hj e2
  have f1 := fo_mono od (show j + 1 ≤ n by omega) c
  have f2 : fo od (j + 1) c = fo od j c + i1 c (od j).toNatClampNeg := rfl
  have f3 := fo_pos (g := od) (n := j) (c := c) hi (by rw [g1, nI_clamp (by omega)])
  rw [g2.1, nI_clamp (by omega), i1_self] at f2
  have f4 := h.ocw c
  have f5 := ho c
  omega
/-- what has[] says of the cells from the k-th on -/
def HI (ha : Nat → Int32) (S : Nat → Tr) (x : Int64) (k n : Nat) : Prop := ∀ j, k ≤ j → j < n → ∀ c a b, S j = .branch c a b → (ha c = 1 ∧ cont x (S j)) ∨ (ha c = 0 ∧ ¬ cont x (S j))
/-- what having() finds of a word: whether its tree has the name -/
def hvT (ha : Nat → Int32) (x w : Int64) : Prop := w = x ∨ (wkind w = 3 ∧ ∃ c : Nat, c < 2000 ∧ w.toInt32 = nI c ∧ ha c = 1)
def hvF (ha : Nat → Int32) (x w : Int64) : Prop := ¬ w = x ∧ (wkind w = 3 → ∃ c : Nat, c < 2000 ∧ w.toInt32 = nI c ∧ ha c = 0)
theorem nI_injk {i j : Nat} (hi : i < 2000) (hj : j < 2000) (h : nI i = nI j) : i = j := by
  have := congrArg Int32.toNatClampNeg h
  rwa [nI_clamp (by omega), nI_clamp (by omega)] at this
theorem hv_kid {w : Int64} {a : Tr} {q : Nat} (hx : ¬ wkind x = 3) (hr : rep le ri w a) (hH : HI ha S x k n) (hq : isn a = 1 → k ≤ q ∧ q < n ∧ S q = a) : (hvT ha x w → cont x a) ∧ (hvF ha x w → ¬ cont x a) := by
  cases a with
  | leaf u =>
    obtain ⟨rfl, hu⟩ := hr
    refine ⟨fun h => h.elim id (fun h => absurd h.1 hu), fun h => h.1⟩
  | branch c a b =>
    obtain ⟨q1, q2, q3⟩ := hq rfl
    have hH := hH q q1 q2 c a b q3
    rw [q3] at hH
    obtain ⟨r1, r2, r3, -⟩ := hr
    refine ⟨fun h => ?_, fun h => ?_⟩
    · rcases h with rfl | ⟨-, c', hc', e, h1⟩
      · exact absurd r1 hx
      · obtain rfl := nI_injk r3 hc' (r2.symm.trans e)
        rcases hH with h2 | h2
        · exact h2.2
        · rw [h1] at h2; exact absurd h2.1 (by decide)
    · obtain ⟨c', hc', e, h1⟩ := h.2 r1
      obtain rfl := nI_injk r3 hc' (r2.symm.trans e)
      rcases hH with h2 | h2
      · rw [h1] at h2; exact absurd h2.1 (by decide)
      · exact h2.2
theorem HI.up (h : BI le ri od S T n n) (ho : ∀ d, (toc T) d ≤ 1) (hk : k < n) (hH : HI ha S x (k + 1) n) {c : Nat} {a b : Tr} (e : S k = .branch c a b) {v : Int32} (hv : (v = 1 ∧ cont x (S k)) ∨ (v = 0 ∧ ¬ cont x (S k))) : HI (upd ha c v) S x k n := by
  intro j h1 h2 c' a' b' e'
  rcases Nat.lt_or_ge k j with h3 | h3
  · have hne : c' ≠ c := fun q => by subst q; exact h.inj ho h3 h2 e e'
    rw [show upd ha c v c' = ha c' from if_neg hne]
    exact hH j h3 h2 c' a' b' e'
  · obtain rfl : j = k := by omega
    rw [e] at e'
    obtain ⟨rfl, rfl, rfl⟩ := Tr.nd_inj e'
    rw [show upd ha c v c = v from if_pos rfl]
    exact hv
/-- a child's tree as it stands: the child at position q -/
def kw (W : Nat → Tr) (q : Nat) : Tr → Tr
  | .leaf u => .leaf u
  | .branch _ _ _ => W q
def sd (le ri be : Nat → Int64) (ha : Nat → Int32) (Pk : Int64 → Prop) (x t : Int64) (V : Tr) : Prop :=
  t = x ∨ (¬ t = x ∧ wkind t = 3 ∧ ∃ c : Nat, c < 2000 ∧ t.toInt32 = nI c ∧ ((ha c = 1 ∧ rep le ri (be c) V ∧ okT Pk V) ∨ (ha c = 0 ∧ rep le ri t V ∧ okT Pk V))) ∨ (¬ t = x ∧ ¬ wkind t = 3 ∧ V = .leaf t ∧ Pk t)
theorem sd_fr {V : Tr} (h : sd le ri be ha Pk x t V) (k : ∀ d, 1 ≤ (toc V) d → le1 d = le d ∧ ri1 d = ri d) : sd le1 ri1 be ha Pk x t V := by
  rcases h with h | ⟨h1, h2, c, h3, h4, h5⟩ | h
  · exact Or.inl h
  · refine Or.inr (Or.inl ⟨h1, h2, c, h3, h4, ?_⟩)
    rcases h5 with ⟨q1, q2, q3⟩ | ⟨q1, q2, q3⟩
    · exact Or.inl ⟨q1, rep_fr q2 k, q3⟩
    · exact Or.inr ⟨q1, rep_fr q2 k, q3⟩
  · exact Or.inr (Or.inr h)
/-- the terms from the k-th cell on are done: le ri fr fs as it began, le1 ri1 be1 gon1 fr1 fs1 as they stand -/
def WI (le ri : Nat → Int64) (fr : Nat → Int32) (fs : Nat) (od : Nat → Int32) (S : Nat → Tr) (T : Tr) (x : Int64) (Pk : Int64 → Prop) (n : Nat) (le1 ri1 be1 : Nat → Int64) (gon1 fr1 : Nat → Int32) (fs1 : Nat) (W : Nat → Tr) (k : Nat) : Prop :=
  (∀ j, j < k → ∀ c a b, S j = .branch c a b → le1 c = le c ∧ ri1 c = ri c)
  ∧ (∀ j, k ≤ j → j < qf (isn T) S k → ∀ c a b, S j = .branch c a b → (cont x (S j) ∧ rep le1 ri1 (be1 c) (W j) ∧ okT Pk (W j)) ∨ (¬ cont x (S j) ∧ W j = S j ∧ rep le1 ri1 (wof 3 (nI c)) (S j)))
  ∧ (∀ d, fo fr1 fs1 d + gn gon1 d + fo od k d + ws W k (qf (isn T) S k - k) d ≤ fo fr fs d + (toc T) d)
  ∧ (∀ d, fo fr fs d + (toc T) d = 0 → le1 d = le d ∧ ri1 d = ri d)
  ∧ (∀ d, gon1 d = 0 ∨ ∃ i, i < n ∧ (od i).toNatClampNeg = d)
theorem WI.init (h : BI le ri od S T n n) (hg : ∀ d, gon d = 0) : WI le ri fr fs od S T x Pk n le ri be gon fr fs W n := by
  obtain ⟨h0, h1, h2, h3, h4, h5⟩ := h
  refine ⟨fun _ _ _ _ _ _ => ⟨rfl, rfl⟩, fun j q1 q2 => by omega, fun d => ?_, fun _ _ => ⟨rfl, rfl⟩, fun d => Or.inl (hg d)⟩
  rw [h1, ← h5 d, Nat.sub_self, show gn gon d = 0 from if_pos (hg d)]
  show _ + 0 + _ + 0 ≤ _ + (_ + 0)
  omega
theorem kw_occ (W : Nat → Tr) (q : Nat) (a : Tr) (d : Nat) : (toc (kw W q a)) d = if isn a = 1 then (toc (W q)) d else 0 := by
  cases a with
  | leaf u => rfl
  | branch c a b => exact (if_pos rfl).symm
/-- the children's trees are the last that are there -/
theorem ws_kids (W : Nat → Tr) {k q : Nat} (a b : Tr) (hq : k ≤ q) (d : Nat) : ws W k (q + isn a + isn b - k) d = ws W k (q - k) d + (toc (kw W q a)) d + (toc (kw W (q + isn a) b)) d := by
  rw [kw_occ, kw_occ]
  rcases isn_or a with p | p <;> rcases isn_or b with p' | p' <;> rw [p, p']
  · rw [if_neg (by decide), if_neg (by decide), show q + 0 + 0 - k = q - k by omega]; rfl
  · rw [if_neg (by decide), if_pos rfl, show q + 0 + 1 - k = q - k + 1 by omega]
    show ws W k (q - k) d + (toc (W (k + (q - k)))) d = _
    rw [show k + (q - k) = q by omega, Nat.add_zero q]
    omega
  · rw [if_pos rfl, if_neg (by decide), show q + 1 + 0 - k = q - k + 1 by omega]
    show ws W k (q - k) d + (toc (W (k + (q - k)))) d = _
    rw [show k + (q - k) = q by omega]
    rfl
  · rw [if_pos rfl, if_pos rfl, show q + 1 + 1 - k = q - k + 1 + 1 by omega]
    show ws W k (q - k) d + (toc (W (k + (q - k)))) d + (toc (W (k + (q - k + 1)))) d = _
    rw [show k + (q - k) = q by omega, show k + (q - k + 1) = q + 1 by omega]
theorem okT_at (h : BI le ri od S T n n) (hok : okT Pk T) : ∀ j, j < n → okT Pk (S j) := by
  have hroot : ∀ j, j < n → j = 0 ∨ ∃ i c a b, i < j ∧ S i = .branch c a b ∧ (S j = a ∨ S j = b) := by
    intro j hj
    have hn := h.2.1
    -- the last i with qf i ≤ j
    have : ∀ m, m ≤ n → qf (isn T) S m ≤ j ∨ (∃ i, i < m ∧ qf (isn T) S i ≤ j ∧ j < qf (isn T) S (i + 1)) ∨ j < isn T := by
      intro m
      induction m with
      | zero => intro _; show isn T ≤ j ∨ _; rcases Nat.lt_or_ge j (isn T) with q | q
                · exact Or.inr (Or.inr q)
                · exact Or.inl q
      | succ m ih =>
        intro hm
        rcases ih (by omega) with q | ⟨i, q1, q2, q3⟩ | q
        · rcases Nat.lt_or_ge j (qf (isn T) S (m + 1)) with q' | q'
          · exact Or.inr (Or.inl ⟨m, by omega, q, q'⟩)
          · exact Or.inl q'
        · exact Or.inr (Or.inl ⟨i, by omega, q2, q3⟩)
        · exact Or.inr (Or.inr q)
    rcases this n (Nat.le_refl _) with q | ⟨i, q1, q2, q3⟩ | q
    · omega
    · obtain ⟨c, a, b, e⟩ := h.at q1
      obtain ⟨g1, g2, g3, g4, g5, g6, g7, g8, g9⟩ := h.kid q1 e
      refine Or.inr ⟨i, c, a, b, by omega, e, ?_⟩
      have ia := isn_le a
      have ib := isn_le b
      by_cases hj0 : j = qf (isn T) S i ∧ isn a = 1
      · left; rw [hj0.1]; exact g8 hj0.2
      · right
        have : j = qf (isn T) S i + isn a ∧ isn b = 1 := by
          rcases isn_or a with p | p <;> rcases isn_or b with p' | p'
          · omega
          · exact ⟨by omega, p'⟩
          · exfalso; apply hj0; exact ⟨by omega, p⟩
          · refine ⟨?_, p'⟩
            have : j ≠ qf (isn T) S i := fun q => hj0 ⟨q, p⟩
            omega
        rw [this.1]; exact g9 this.2
    · left; have := isn_le T; omega
  intro j
  induction j using Nat.strongRecOn with
  | _ j ih =>
    intro hj
    rcases hroot j hj with rfl | ⟨i, c, a, b, hi, e, q⟩
    · have hT : isn T = 1 := by
        rcases isn_or T with p | p
        · exfalso
          have h1 := h.2.1
          have h2 := (h.2.2.2.2.1 0 hj).1
          have h3 : qf (isn T) S 0 = isn T := rfl
          omega
        · exact p
      rw [h.1 hT]; exact hok
    · have := ih i hi (by omega)
      rw [e] at this
      rcases q with q | q
      · rw [q]; exact this.1
      · rw [q]; exact this.2
theorem WI.sub (h : BI le ri od S T n n) (hH : HI ha S x 0 n) (hok : okT (fun w => w = x ∨ Pk w) T) (hx : ¬ wkind x = 3)
    (hW : WI le ri fr fs od S T x Pk n le1 ri1 be1 gon1 fr1 fs1 W (k + 1)) (hk : k < n) {w : Int64} {a : Tr} {q : Nat} (hr : rep le ri w a) (ho : okT (fun w => w = x ∨ Pk w) a) (hq : isn a = 1 → k + 1 ≤ q ∧ q < qf (isn T) S (k + 1) ∧ S q = a) : sd le1 ri1 be1 ha Pk x w (kw W q a) := by
  cases a with
  | leaf u =>
    obtain ⟨rfl, hu⟩ := hr
    by_cases e : w = x
    · exact Or.inl e
    · exact Or.inr (Or.inr ⟨e, hu, rfl, ho.resolve_left e⟩)
  | branch c a b =>
    obtain ⟨q1, q2, q3⟩ := hq rfl
    obtain ⟨r1, r2, r3, r4, r5⟩ := hr
    have hne : ¬ w = x := fun q => hx (by rw [← q]; exact r1)
    have hqn : q < n := Nat.lt_of_lt_of_le q2 (by have := h.2.1; have := qf_mono (q0 := isn T) (S := S) (show k + 1 ≤ n by omega); omega)
    refine Or.inr (Or.inl ⟨hne, r1, c, r3, r2, ?_⟩)
    have hh := hH q (Nat.zero_le _) hqn c a b q3
    rcases hW.2.1 q q1 q2 c a b q3 with ⟨s1, s2, s3⟩ | ⟨s1, s2, s3⟩
    · left
      rcases hh with hh | hh
      · exact ⟨hh.1, s2, s3⟩
      · exact absurd s1 hh.2
    · right
      rcases hh with hh | hh
      · exact absurd hh.2 s1
      · show ha c = 0 ∧ rep le1 ri1 w (W q) ∧ okT Pk (W q)
        rw [s2]
        refine ⟨hh.1, ?_, ?_⟩
        · rw [q3]; rw [q3] at s3; exact rep_word s3 r1 r2
        · rw [q3]; rw [q3] at s1; exact okT_no ho s1
theorem WI.acc (h : BI le ri od S T n n) (hW : WI le ri fr fs od S T x Pk n le1 ri1 be1 gon1 fr1 fs1 W (k + 1)) (hk : k < n) {c : Nat} {a b : Tr} (e : S k = .branch c a b) (d : Nat) :
    fo fr1 fs1 d + gn gon1 d + (fo od k d + i1 d c) + (ws W (k + 1) (qf (isn T) S k - (k + 1)) d + (toc (kw W (qf (isn T) S k) a)) d + (toc (kw W (qf (isn T) S k + isn a) b)) d) ≤ fo fr fs d + (toc T) d := by
  obtain ⟨g1, g2, g3, g4, g5, g6, g7, g8, g9⟩ := h.kid hk e
  have h3 := hW.2.2.1 d
  rw [g6, ws_kids W a b (by omega)] at h3
  have e1 : fo od (k + 1) d = fo od k d + i1 d c := by
    show fo od k d + i1 d (od k).toNatClampNeg = _
    rw [g1, nI_clamp (by omega)]
  omega
theorem WI.skip (h : BI le ri od S T n n) (hW : WI le ri fr fs od S T x Pk n le1 ri1 be1 gon1 fr1 fs1 W (k + 1)) (hk : k < n) {c : Nat} {a b : Tr} (e : S k = .branch c a b) (hc : ¬ cont x (S k)) :
    WI le ri fr fs od S T x Pk n le1 ri1 be1 gon1 fr1 fs1 (fun j => if j = k then S k else W j) k := by
  obtain ⟨g1, g2, g3, g4, g5, g6, g7, g8, g9⟩ := h.kid hk e
  have hacc := WI.acc h hW hk e
  obtain ⟨w1, w2, w3, w4, w5⟩ := hW
  have ia := isn_le a
  have ib := isn_le b
  have hca : ¬ cont x a := fun q => hc (by rw [e]; exact Or.inl q)
  have hcb : ¬ cont x b := fun q => hc (by rw [e]; exact Or.inr q)
  have ra : rep le1 ri1 (le1 c) a ∧ kw W (qf (isn T) S k) a = a := by
    rw [(w1 k (by omega) c a b e).1]
    cases a with
    | leaf u => exact ⟨g3, rfl⟩
    | branch c1 a1 b1 =>
      have hs := g8 rfl
      have hi : isn (Lean.RArray.branch c1 a1 b1) = 1 := rfl
      rcases w2 (qf (isn T) S k) (by omega) (by omega) c1 a1 b1 hs with q | ⟨q1, q2, q3⟩
      · rw [hs] at q; exact absurd q.1 hca
      · rw [hs] at q2 q3
        exact ⟨rep_word q3 g3.1 g3.2.1, q2⟩
  have rb : rep le1 ri1 (ri1 c) b ∧ kw W (qf (isn T) S k + isn a) b = b := by
    rw [(w1 k (by omega) c a b e).2]
    cases b with
    | leaf u => exact ⟨g4, rfl⟩
    | branch c1 a1 b1 =>
      have hs := g9 rfl
      have hi : isn (Lean.RArray.branch c1 a1 b1) = 1 := rfl
      rcases w2 (qf (isn T) S k + isn a) (by omega) (by omega) c1 a1 b1 hs with q | ⟨q1, q2, q3⟩
      · rw [hs] at q; exact absurd q.1 hcb
      · rw [hs] at q2 q3
        exact ⟨rep_word q3 g4.1 g4.2.1, q2⟩
  refine ⟨fun j hj => w1 j (by omega), ?_, ?_, w4, w5⟩
  · intro j h1 h2 c1 a1 b1 e1
    by_cases hj : j = k
    · subst hj
      rw [e] at e1
      obtain ⟨rfl, rfl, rfl⟩ := Tr.nd_inj e1
      refine Or.inr ⟨hc, if_pos rfl, ?_⟩
      rw [e]
      exact ⟨wkind_of _ _, wnum_of _ _, g2, ra.1, rb.1⟩
    · show (_ ∧ rep le1 ri1 (be1 c1) (if j = k then S k else W j) ∧ okT Pk (if j = k then S k else W j)) ∨ (_ ∧ (if j = k then S k else W j) = S j ∧ _)
      rw [if_neg hj]
      exact w2 j (by omega) (by omega) c1 a1 b1 e1
  · intro d
    have h1 := hacc d
    rw [ra.2, rb.2] at h1
    have h2 : ws (fun j => if j = k then S k else W j) k (qf (isn T) S k - k) d = (toc (S k)) d + ws W (k + 1) (qf (isn T) S k - (k + 1)) d := by
      rw [show qf (isn T) S k - k = qf (isn T) S k - (k + 1) + 1 by omega, ws_front, show (if k = k then S k else W k) = S k from if_pos rfl]
      rw [ws_congr (S' := W) (fun j hj => if_neg (by omega))]
    rw [h2, e, Tr.occ_nd]
    omega
theorem gn_up {g : Nat → Int32} {c : Nat} (h : gn g c = 0) (d : Nat) : gn (upd g c 1) d = gn g d + i1 d c := by
  unfold gn
  by_cases e : d = c
  · subst e
    rw [show upd g d 1 d = 1 from if_pos rfl, i1_self, if_neg (by decide)]
    unfold gn at h
    omega
  · rw [show upd g c 1 d = g d from if_neg e, i1_ne e]
    rfl
theorem WI.has (h : BI le ri od S T n n) (hB : ∀ d, fo fr fs d + (toc T) d ≤ 1) (hW : WI le ri fr fs od S T x Pk n le1 ri1 be1 gon1 fr1 fs1 W (k + 1)) (hk : k < n) {c : Nat} {a b : Tr} (e : S k = .branch c a b) (hc : cont x (S k)) {w : Int64} {R : Tr}
    (hr : rep le2 ri2 w R) (hok : okT Pk R) (hfo : ∀ d, fo fr2 fs2 d + (toc R) d ≤ fo fr1 fs1 d + (toc (kw W (qf (isn T) S k) a)) d + (toc (kw W (qf (isn T) S k + isn a) b)) d)
    (hag : ∀ d, fo fr1 fs1 d + (toc (kw W (qf (isn T) S k) a)) d + (toc (kw W (qf (isn T) S k + isn a) b)) d = 0 → le2 d = le1 d ∧ ri2 d = ri1 d) :
    WI le ri fr fs od S T x Pk n le2 ri2 (vp_updL be1 c w) (upd gon1 c 1) fr2 fs2 (fun j => if j = k then R else W j) k := by
  obtain ⟨g1, g2, g3, g4, g5, g6, g7, g8, g9⟩ := h.kid hk e
  have hacc := WI.acc h hW hk e
  obtain ⟨w1, w2, w3, w4, w5⟩ := hW
  have ia := isn_le a
  have ib := isn_le b
  have hT : ∀ d, (toc T) d ≤ 1 := fun d => by have := hB d; omega
  have hcell : ∀ j, j < k → ∀ c1 a1 b1, S j = .branch c1 a1 b1 → 1 ≤ fo od k c1 := fun j hj c1 a1 b1 e1 => by
    have q := h.kid (show j < n by omega) e1
    exact fo_pos hj (by rw [q.1, nI_clamp (by omega)])
  refine ⟨?_, ?_, ?_, ?_, ?_⟩
  · intro j hj c1 a1 b1 e1
    have q1 := hcell j hj c1 a1 b1 e1
    have q2 := hacc c1
    have q3 := hB c1
    have q4 := hag c1 (by omega)
    have q5 := w1 j (by omega) c1 a1 b1 e1
    exact ⟨q4.1.trans q5.1, q4.2.trans q5.2⟩
  · intro j h1 h2 c1 a1 b1 e1
    by_cases hj : j = k
    · subst hj
      rw [e] at e1
      obtain ⟨rfl, rfl, rfl⟩ := Tr.nd_inj e1
      show (_ ∧ rep le2 ri2 (if c = c then w else be1 c) (if j = j then R else W j) ∧ okT Pk (if j = j then R else W j)) ∨ _
      rw [if_pos rfl, if_pos rfl]
      exact Or.inl ⟨hc, hr, hok⟩
    · have hne : c1 ≠ c := fun q => by subst q; exact h.inj hT (show k < j by omega) (by omega) e e1
      have hfrm : ∀ d, 1 ≤ (toc (W j)) d → le2 d = le1 d ∧ ri2 d = ri1 d := fun d hd => by
        have q2 := hacc d
        have q3 := hB d
        have q4 : (toc (W j)) d ≤ ws W (k + 1) (qf (isn T) S k - (k + 1)) d := by
          have key : ∀ m i, i < m → (toc (W (k + 1 + i))) d ≤ ws W (k + 1) m d := by
            intro m
            induction m with
            | zero => intro i hi; omega
            | succ m ih =>
              intro i hi
              show _ ≤ ws W (k + 1) m d + (toc (W (k + 1 + m))) d
              rcases Nat.lt_or_ge i m with q | q
              · have := ih i q; omega
              · rw [show i = m by omega]; omega
          have := key (qf (isn T) S k - (k + 1)) (j - (k + 1)) (by omega)
          rwa [show k + 1 + (j - (k + 1)) = j by omega] at this
        exact hag d (by omega)
      show (_ ∧ rep le2 ri2 (if c1 = c then w else be1 c1) (if j = k then R else W j) ∧ okT Pk (if j = k then R else W j)) ∨ (_ ∧ (if j = k then R else W j) = S j ∧ _)
      rw [if_neg hj, if_neg hne]
      rcases w2 j (by omega) (by omega) c1 a1 b1 e1 with ⟨q1, q2, q3⟩ | ⟨q1, q2, q3⟩
      · exact Or.inl ⟨q1, rep_fr q2 hfrm, q3⟩
      · exact Or.inr ⟨q1, q2, by rw [← q2] at q3 ⊢; exact rep_fr q3 hfrm⟩
  · intro d
    have h1 := hacc d
    have h0 : gn gon1 c = 0 := by
      have q2 := hacc c
      have q3 := hB c
      rw [i1_self] at q2
      omega
    have h2 : ws (fun j => if j = k then R else W j) k (qf (isn T) S k - k) d = (toc R) d + ws W (k + 1) (qf (isn T) S k - (k + 1)) d := by
      rw [show qf (isn T) S k - k = qf (isn T) S k - (k + 1) + 1 by omega, ws_front, show (if k = k then R else W k) = R from if_pos rfl]
      rw [ws_congr (S' := W) (fun j hj => if_neg (by omega))]
    have h3 := hfo d
    rw [h2, gn_up h0]
    omega
  · intro d hd
    have q2 := hacc d
    have q4 := hag d (by omega)
    have q5 := w4 d hd
    exact ⟨q4.1.trans q5.1, q4.2.trans q5.2⟩
  · intro d
    by_cases hd : d = c
    · subst hd
      exact Or.inr ⟨k, hk, by rw [g1, nI_clamp (by omega)]⟩
    · rw [show upd gon1 c 1 d = gon1 d from if_neg hd]
      exact w5 d
theorem WI.fin (hT : isn T = 1) (h0 : S 0 = T) (hc : cont x T) {c : Nat} {a b : Tr} (e : T = .branch c a b) (hW : WI le ri fr fs od S T x Pk n le1 ri1 be1 gon1 fr1 fs1 W 0) : rep le1 ri1 (be1 c) (W 0) ∧ okT Pk (W 0) ∧ ∀ d, fo fr1 fs1 d + gn gon1 d + (toc (W 0)) d ≤ fo fr fs d + (toc T) d := by
  obtain ⟨w1, w2, w3, w4, w5⟩ := hW
  have q0 : qf (isn T) S 0 = 1 := hT
  rcases w2 0 (Nat.le_refl _) (by rw [q0]; decide) c a b (by rw [h0]; exact e) with ⟨p1, p2, p3⟩ | ⟨p1, p2, p3⟩
  · refine ⟨p2, p3, fun d => ?_⟩
    have := w3 d
    rw [q0] at this
    have e1 : ws W 0 (1 - 0) d = 0 + (toc (W (0 + 0))) d := rfl
    have e2 : fo od 0 d = 0 := rfl
    rw [e1, e2, Nat.add_zero 0] at this
    omega
  · rw [h0] at p1; exact absurd hc p1
theorem WI.any (hW : WI le ri fr fs od S T x Pk n le1 ri1 be1 gon1 fr1 fs1 W k) (d : Nat) : fo fr1 fs1 d + gn gon1 d + (toc (Lean.RArray.leaf 0)) d ≤ fo fr fs d + (toc T) d := by
  have := hW.2.2.1 d
  rw [Tr.occ_lf]
  omega
theorem i1_gn {g : Nat → Int32} {c : Nat} (h : ¬ g c = 0) (d : Nat) : i1 d c ≤ gn g d := by
  by_cases e : d = c
  · subst e; unfold gn; rw [if_neg h, i1_self]; exact Nat.le_refl _
  · rw [i1_ne e]; exact Nat.zero_le _
theorem gn_dn {g : Nat → Int32} {c : Nat} (h : ¬ g c = 0) (d : Nat) : gn (upd g c 0) d + i1 d c = gn g d := by
  unfold gn
  by_cases e : d = c
  · subst e
    rw [show upd g d 0 d = 0 from if_pos rfl, i1_self, if_pos rfl, if_neg h]
  · rw [show upd g c 0 d = g d from if_neg e, i1_ne e]
    rfl
theorem gn_0 {g : Nat → Int32} (h : ∀ d, g d = 0) (d : Nat) : gn g d = 0 := if_pos (h d)
theorem gon_next {g : Nat → Int32} {i0 c : Nat} (h : ∀ d, g d = 0 ∨ ∃ i, i0 ≤ i ∧ i < n ∧ (od i).toNatClampNeg = d) (e : od i0 = nI c) (hc : c < 2000) (h0 : g c = 0) (d : Nat) : g d = 0 ∨ ∃ i, i0 + 1 ≤ i ∧ i < n ∧ (od i).toNatClampNeg = d := by
  rcases h d with q | ⟨i, q1, q2, q3⟩
  · exact Or.inl q
  · by_cases hi : i = i0
    · subst hi
      rw [e, nI_clamp (by omega)] at q3
      left; rw [← q3]; exact h0
    · exact Or.inr ⟨i, by omega, q2, q3⟩
theorem gon_clr {g : Nat → Int32} {i0 c : Nat} (h : ∀ d, g d = 0 ∨ ∃ i, i0 ≤ i ∧ i < n ∧ (od i).toNatClampNeg = d) (e : od i0 = nI c) (hc : c < 2000) (d : Nat) : upd g c 0 d = 0 ∨ ∃ i, i0 + 1 ≤ i ∧ i < n ∧ (od i).toNatClampNeg = d := by
  refine gon_next (fun d => ?_) e hc (if_pos rfl) d
  by_cases q : d = c
  · left; rw [q]; exact if_pos rfl
  · rw [show upd g c 0 d = g d from if_neg q]; exact h d
theorem rep_w {w : Int64} (h : rep le ri w T) (hk : wkind w = 3) : ∃ c : Nat, c < 2000 ∧ w.toInt32 = nI c := by
  obtain ⟨c, a, b, -, h1, h2, -⟩ := rep_cell h hk
  exact ⟨c, h2, h1⟩
theorem sd_w {V : Tr} (h : sd le ri be ha Pk x t V) (hn : ¬ t = x) (hk : wkind t = 3) : ∃ c : Nat, c < 2000 ∧ t.toInt32 = nI c := by
  rcases h with h | ⟨-, -, c, h3, h4, -⟩ | h
  · exact absurd h hn
  · exact ⟨c, h3, h4⟩
  · exact absurd hk h.2.1
theorem sd_T {V : Tr} (h : sd le ri be ha Pk x t V) (hn : ¬ t = x) (hv : hvT ha x t) : ∃ c : Nat, c < 2000 ∧ t.toInt32 = nI c ∧ rep le ri (be c) V ∧ okT Pk V := by
  rcases hv with hv | ⟨hk, c', hc', e', h1⟩
  · exact absurd hv hn
  rcases h with h | ⟨-, -, c, h3, h4, h5⟩ | h
  · exact absurd h hn
  · obtain rfl := nI_injk h3 hc' (h4.symm.trans e')
    rcases h5 with q | q
    · exact ⟨c, h3, h4, q.2.1, q.2.2⟩
    · rw [h1] at q; exact absurd q.1 (by decide)
  · exact absurd hk h.2.1
theorem sd_F {V : Tr} (h : sd le ri be ha Pk x t V) (hv : hvF ha x t) : rep le ri t V ∧ okT Pk V := by
  obtain ⟨hn, hv⟩ := hv
  rcases h with h | ⟨-, hk, c, h3, h4, h5⟩ | ⟨-, hk, rfl, hp⟩
  · exact absurd h hn
  · obtain ⟨c', hc', e', h1⟩ := hv hk
    obtain rfl := nI_injk h3 hc' (h4.symm.trans e')
    rcases h5 with q | q
    · rw [h1] at q; exact absurd q.1 (by decide)
    · exact q.2
  · exact ⟨rep_lf hk, hp⟩
theorem dn_lt {k : Nat} (hk : k < 2 ^ 31) (h : nI k - 1 < 0) : k = 0 := by
  rcases Nat.eq_zero_or_pos k with rfl | h1
  · rfl
  · rw [dn_eq h1] at h
    have := Int32.lt_iff_toInt_lt.mp h
    rw [show (nI (k - 1)) = Int32.ofNat (k - 1) from rfl, Int32.toInt_ofNat_of_lt (by omega)] at this
    have h0 : (0 : Int32).toInt = 0 := rfl
    omega
theorem upd_ne {g : Nat → Int32} {k j : Nat} {v : Int32} (h : j ≠ k) : upd g k v j = g j := if_neg h
theorem upd_at {g : Nat → Int32} {k j : Nat} {v : Int32} (h : j = k) : upd g k v j = v := if_pos h
end WI

abbrev mS (f : Nat → Nat) (tn : Int32) (rm : Nat) (ln : Nat) (lx : Nat) (at_ : Nat) (bd : Int32) (fs : Nat) (dp : Nat) (on : Nat) (os : Nat) (bn : Nat) (df : Nat) (th : Int32) (tp : Nat) (mo_ : Int32) (ev : Nat) (ss : Int32) (so : Int32) (lk : Int64) (rs : Int64) (pt : Int32) (ot : Nat) (cl : Int32) : List Value := [.int tn, .int (nI rm), .int (nI ln), .ref (f 0), .int (nI lx), .int (nI at_), .int bd, .ref (f 1), .ref (f 2), .ref (f 3), .ref (f 4), .int (nI fs), .ref (f 5), .ref (f 6), .ref (f 7), .ref (f 8), .int (nI dp), .int (nI on), .int (nI os), .int (nI bn), .ref (f 9), .ref (f 10), .ref (f 11), .ref (f 12), .ref (f 13), .ref (f 14), .ref (f 15), .ref (f 16), .int (nI df), .ref (f 17), .ref (f 18), .ref (f 19), .int th, .ref (f 20), .ref (f 21), .ref (f 22), .ref (f 23), .ref (f 24), .int (nI tp), .int mo_, .int (nI ev), .int ss, .int so, .ref (f 25), .ref (f 26), .ref (f 27), .ref (f 28), .long lk, .long rs, .int pt, .int (nI ot), .ref (f 29), .ref (f 30), .int cl, .ref (f 31)]
set_option maxHeartbeats 8000000 in
set_option maxRecDepth 100000 in
theorem mo_term (l : Launch) (D : va_G) (cI cL cZ cC : ClassId) (k : Int32) (v : Int32) : Met l y_MO_term (wz y_MO_term b_MO_term 2 (some .long)) ({ frames := 0, cells := 0, slots := 0, locals := 0 }) (va_Pc [.int k, .int v] (wq_pre D (tys4 cI cL cZ cC) [])) (QcReadL (wof k v)) 0 0 (fun _ => False) := by
  refine Met.ofW (cc := b_MO_term) (maxL := 2) (ret := (some .long)) (by decide) rfl ?_
  intro p e s m args below meth c s₁ B hml hv
  obtain ⟨rfl, hP, hK⟩ := hv
  have hx := B.exec
  have hb := B.bytes
  have hr := B.returns
  have hts := atoms_spec (ws := wz y_MO_term b_MO_term 2 (some .long)) B.pre
  have hG := wz_G hts
  have hown : s.vm.findClass rn_MO = some m.cls := findClass_of_methodNamed B.named
  have hlocks := B.notSynchronized
  have hl := lv_entry ([.int k, .int v]) (n := 2) (Nat.le_of_ble_eq_true rfl)
  rw [lg_entry_eq]
  generalize (lg_sl ([.int k, .int v]) ++ List.replicate (2 - (lg_sl ([.int k, .int v])).length) Slot.unset).toArray = ls at hl ⊢
  have hl : lv_has ls 2 [(0, .int k), (1, .int v)] := hl
  refine lv_iload_n hx hb d_MO_term_0 rfl (lv_at hl 0 rfl) ?_
  refine lv_i2l hx hb d_MO_term_1 rfl ?_
  refine lv_bipush (v := 32) hx hb d_MO_term_2 (by decide) ?_
  refine lv_lshl hx hb d_MO_term_4 rfl ?_
  refine lv_iload_n hx hb d_MO_term_5 rfl (lv_at hl 1 rfl) ?_
  refine lv_i2l hx hb d_MO_term_6 rfl ?_
  refine lv_ldc2 (v := 4294967295) hx hb hown (hG _ k_1448) d_MO_term_7 ?_
  refine lv_land hx hb d_MO_term_10 ?_
  refine lv_lor hx hb d_MO_term_11 ?_
  exact W.lret hx hb hr (fun t ht hW => ⟨rfl, ht⟩) (fun q h => by cases h) d_MO_term_12 hlocks
set_option maxHeartbeats 8000000 in
set_option maxRecDepth 100000 in
theorem mo_kindOf (l : Launch) (D : va_G) (cI cL cZ cC : ClassId) (w : Int64) : Met l y_MO_kindOf (wz y_MO_kindOf b_MO_kindOf 2 (some .int)) ({ frames := 0, cells := 0, slots := 0, locals := 0 }) (va_Pc [.long w] (wq_pre D (tys4 cI cL cZ cC) [])) (QcRead (wkind w)) 0 0 (fun _ => False) := by
  refine Met.ofW (cc := b_MO_kindOf) (maxL := 2) (ret := (some .int)) (by decide) rfl ?_
  intro p e s m args below meth c s₁ B hml hv
  obtain ⟨rfl, hP, hK⟩ := hv
  have hx := B.exec
  have hb := B.bytes
  have hr := B.returns
  have hts := atoms_spec (ws := wz y_MO_kindOf b_MO_kindOf 2 (some .int)) B.pre
  have hG := wz_G hts
  have hown : s.vm.findClass rn_MO = some m.cls := findClass_of_methodNamed B.named
  have hlocks := B.notSynchronized
  have hl := lv_entry ([.long w]) (n := 2) (Nat.le_of_ble_eq_true rfl)
  rw [lg_entry_eq]
  generalize (lg_sl ([.long w]) ++ List.replicate (2 - (lg_sl ([.long w])).length) Slot.unset).toArray = ls at hl ⊢
  have hl : lv_has ls 2 [(0, .long w)] := hl
  refine lv_lload_n hx hb d_MO_kindOf_0 rfl (lv_at hl 0 rfl) ?_
  refine lv_bipush (v := 32) hx hb d_MO_kindOf_1 (by decide) ?_
  refine lv_lshr hx hb d_MO_kindOf_3 rfl ?_
  refine lv_l2i hx hb d_MO_kindOf_4 rfl ?_
  exact W.iret hx hb hr (fun t ht hW => ⟨by rw [mkind_eq], ht⟩) (fun q h => by cases h) d_MO_kindOf_5 hlocks
set_option maxHeartbeats 8000000 in
set_option maxRecDepth 100000 in
theorem mo_valueOf (l : Launch) (D : va_G) (cI cL cZ cC : ClassId) (w : Int64) : Met l y_MO_valueOf (wz y_MO_valueOf b_MO_valueOf 2 (some .int)) ({ frames := 0, cells := 0, slots := 0, locals := 0 }) (va_Pc [.long w] (wq_pre D (tys4 cI cL cZ cC) [])) (QcRead w.toInt32) 0 0 (fun _ => False) := by
  refine Met.ofW (cc := b_MO_valueOf) (maxL := 2) (ret := (some .int)) (by decide) rfl ?_
  intro p e s m args below meth c s₁ B hml hv
  obtain ⟨rfl, hP, hK⟩ := hv
  have hx := B.exec
  have hb := B.bytes
  have hr := B.returns
  have hts := atoms_spec (ws := wz y_MO_valueOf b_MO_valueOf 2 (some .int)) B.pre
  have hG := wz_G hts
  have hown : s.vm.findClass rn_MO = some m.cls := findClass_of_methodNamed B.named
  have hlocks := B.notSynchronized
  have hl := lv_entry ([.long w]) (n := 2) (Nat.le_of_ble_eq_true rfl)
  rw [lg_entry_eq]
  generalize (lg_sl ([.long w]) ++ List.replicate (2 - (lg_sl ([.long w])).length) Slot.unset).toArray = ls at hl ⊢
  have hl : lv_has ls 2 [(0, .long w)] := hl
  refine lv_lload_n hx hb d_MO_valueOf_0 rfl (lv_at hl 0 rfl) ?_
  refine lv_l2i hx hb d_MO_valueOf_1 rfl ?_
  exact W.iret hx hb hr (fun t ht hW => ⟨rfl, ht⟩) (fun q h => by cases h) d_MO_valueOf_2 hlocks
set_option maxHeartbeats 8000000 in
set_option maxRecDepth 100000 in
theorem mo_constant (l : Launch) (D : va_G) (cI cL cZ cC : ClassId) (k : Int32) : Met l y_MO_constant (wz y_MO_constant b_MO_constant 1 (some .long)) ({ frames := 1, cells := 0, slots := 0, locals := 21 }) (va_Pc [.int k] (wq_pre D (tys4 cI cL cZ cC) [])) (QcReadL (wof 2 k)) 0 0 (fun _ => False) := by
  refine Met.ofW (cc := b_MO_constant) (maxL := 1) (ret := (some .long)) (by decide) rfl ?_
  intro p e s m args below meth c s₁ B hml hv
  obtain ⟨rfl, hP, hK⟩ := hv
  have hx := B.exec
  have hb := B.bytes
  have hr := B.returns
  have hts := atoms_spec (ws := wz y_MO_constant b_MO_constant 1 (some .long)) B.pre
  have hG := wz_G hts
  have hown : s.vm.findClass rn_MO = some m.cls := findClass_of_methodNamed B.named
  have hlocks := B.notSynchronized
  have hl := lv_entry ([.int k]) (n := 1) (Nat.le_of_ble_eq_true rfl)
  rw [lg_entry_eq]
  generalize (lg_sl ([.int k]) ++ List.replicate (1 - (lg_sl ([.int k])).length) Slot.unset).toArray = ls at hl ⊢
  have hl : lv_has ls 1 [(0, .int k)] := hl
  refine lv_iconst (v := 2) hx hb d_MO_constant_0 (by decide) ?_
  refine lv_iload_n hx hb d_MO_constant_1 rfl (lv_at hl 0 rfl) ?_
  refine W.callRL (W.runS (As := [.int 2, .int k]) (rest := []) ⟨hx, hb, hml, hown, hG⟩ (mo_term l D cI cL cZ cC 2 k ) (cwS 2 hG (gd_S k_1445 k_1446 k_116 k_1447) rfl rfl rfl (by decide +kernel) ⟨Nat.le_of_ble_eq_true rfl, Nat.le_of_ble_eq_true rfl⟩) (wq_S hP hK [] rfl) rfl rfl hl.1 rfl (lv_room (Nat.le_of_ble_eq_true rfl)) d_MO_constant_2 ⟨Nat.le_of_ble_eq_true rfl, Nat.le_of_ble_eq_true rfl⟩) ?_
  refine W.eq (g2 := F0 m 5 ls [.long (wof 2 k)]) rfl ?_
  exact W.lret hx hb hr (fun t ht hW => ⟨rfl, ht⟩) (fun q h => by cases h) d_MO_constant_5 hlocks
