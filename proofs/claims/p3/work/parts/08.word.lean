/-! The class's words: a kind above, a number below. -/
def wof (k v : Int32) : Int64 := (k.toInt64 <<< ((32 : Int32).toInt64 &&& 63)) ||| (v.toInt64 &&& 4294967295)
def wcon (k : Int32) : Int64 := k.toInt64 <<< ((32 : Int32).toInt64 &&& 63)
def wkind (w : Int64) : Int32 := (w.toUInt64 >>> ((32 : Int32).toInt64.toUInt64 &&& Int64.toUInt64 63)).toInt64.toInt32
def wcell (w : Int64) : Int32 := if wkind w = 23 then 1 else 0
theorem wd_mask {k : Nat} (hk : k < 64) : (4294967295#64).getLsbD k = decide (k < 32) := by
  have h : (4294967295#64) = BitVec.setWidth 64 (BitVec.allOnes 32) := by decide
  rw [h, BitVec.getLsbD_setWidth, BitVec.getLsbD_allOnes]
  simp [hk]
theorem wd_hi (X Y : BitVec 32) : (((X.signExtend 64 <<< 32) ||| (Y.signExtend 64 &&& 4294967295#64)) >>> 32).setWidth 32 = X := by
  apply BitVec.eq_of_getLsbD_eq
  intro i hi
  have h1 : ¬ 32 + i < 32 := by omega
  have h2 : 32 + i < 64 := by omega
  rw [BitVec.getLsbD_setWidth, BitVec.getLsbD_ushiftRight, BitVec.getLsbD_or, BitVec.getLsbD_and, wd_mask h2, BitVec.getLsbD_shiftLeft, BitVec.getLsbD_signExtend]
  have h3 : i < 64 := by omega
  simp [h1, h2, h3, hi]
theorem wd_lo (X Y : BitVec 32) : ((X.signExtend 64 <<< 32) ||| (Y.signExtend 64 &&& 4294967295#64)).setWidth 32 = Y := by
  apply BitVec.eq_of_getLsbD_eq
  intro i hi
  have h2 : i < 64 := by omega
  rw [BitVec.getLsbD_setWidth, BitVec.getLsbD_or, BitVec.getLsbD_and, wd_mask h2, BitVec.getLsbD_shiftLeft, BitVec.getLsbD_signExtend, BitVec.getLsbD_signExtend]
  simp [h2, hi]
theorem wof_bits (k v : Int32) : (wof k v).toBitVec = (k.toBitVec.signExtend 64 <<< 32) ||| (v.toBitVec.signExtend 64 &&& 4294967295#64) := by
  have h : (wof k v).toBitVec = (k.toBitVec.signExtend 64 <<< (((32 : Int32).toInt64 &&& 63).toBitVec.smod 64)) ||| (v.toBitVec.signExtend 64 &&& 4294967295#64) := rfl
  rw [h, show ((32 : Int32).toInt64 &&& 63).toBitVec.smod 64 = 32#64 by decide]
  rfl
theorem wkind_bits (w : Int64) : (wkind w).toBitVec = (w.toBitVec >>> 32).setWidth 32 := by
  have h : (wkind w).toBitVec = (w.toBitVec >>> (((32 : Int32).toInt64.toUInt64 &&& Int64.toUInt64 63).toBitVec % 64)).signExtend 32 := rfl
  rw [h, BitVec.signExtend_eq_setWidth_of_le _ (by decide), show ((32 : Int32).toInt64.toUInt64 &&& Int64.toUInt64 63).toBitVec % 64 = 32#64 by decide]
  rfl
theorem wkind_of (k v : Int32) : wkind (wof k v) = k := by
  apply Int32.toBitVec_inj.mp
  rw [wkind_bits, wof_bits]
  exact wd_hi _ _
theorem wnum_of (k v : Int32) : (wof k v).toInt32 = v := by
  apply Int32.toBitVec_inj.mp
  have h : ((wof k v).toInt32).toBitVec = (wof k v).toBitVec.signExtend 32 := rfl
  rw [h, BitVec.signExtend_eq_setWidth_of_le _ (by decide), wof_bits]
  exact wd_lo _ _
theorem wcon_of (k : Int32) : wcon k = wof k 0 := by
  apply Int64.toBitVec_inj.mp
  have h : (wof k 0).toBitVec = (wcon k).toBitVec ||| ((0 : Int32).toInt64 &&& 4294967295).toBitVec := rfl
  rw [h, show ((0 : Int32).toInt64 &&& 4294967295).toBitVec = 0#64 by decide, BitVec.or_zero]
theorem wkind_con (k : Int32) : wkind (wcon k) = k := by rw [wcon_of, wkind_of]
/-- a word that, if it is a cell's, names one below n -/
def wfw (n : Nat) (w : Int64) : Prop := wkind w = 23 → ∃ j : Nat, j < n ∧ w.toInt32 = nI j
theorem wfw_of {n : Nat} {k v : Int32} (h : ¬ k = 23) : wfw n (wof k v) := fun q => absurd ((wkind_of k v).symm.trans q) h
theorem wfw_con {n : Nat} {k : Int32} (h : ¬ k = 23) : wfw n (wcon k) := fun q => absurd ((wkind_con k).symm.trans q) h
theorem wfw_cell {n j : Nat} (h : j < n) : wfw n (wof 23 (nI j)) := fun _ => ⟨j, h, wnum_of _ _⟩
theorem wfw_0 {n : Nat} : wfw n 0 := fun h => absurd h (by decide)
/-- arrays of such words; arrays of numbers below n -/
def wfa (n : Nat) (g : Nat → Int64) : Prop := ∀ i, wfw n (g i)
def rng (n : Nat) (g : Nat → Int32) : Prop := ∀ i, ∃ j : Nat, j < n ∧ g i = nI j
theorem wfa_up {n k : Nat} {g : Nat → Int64} {w : Int64} (h : wfa n g) (hw : wfw n w) : wfa n (vp_updL g k w) := fun i => by
  unfold vp_updL
  split
  · exact hw
  · exact h i
theorem rng_up {n k j : Nat} {g : Nat → Int32} (h : rng n g) (hj : j < n) : rng n (upd g k (nI j)) := fun i => by
  unfold upd
  split
  · exact ⟨j, hj, rfl⟩
  · exact h i
theorem wfa_0 {n : Nat} : wfa n (fun _ => 0) := fun _ => wfw_0
theorem rng_0 {n : Nat} (h : 0 < n) : rng n (fun _ => 0) := fun _ => ⟨0, h, rfl⟩
theorem wcell_t {n : Nat} {w : Int64} (hw : wfw n w) (h : ¬ wcell w = 0) : ∃ j : Nat, j < n ∧ w.toInt32 = nI j := by
  unfold wcell at h
  split at h
  · exact hw (by assumption)
  · exact absurd rfl h
theorem wcell_or (w : Int64) : wcell w = 0 ∨ wcell w = 1 := by
  unfold wcell
  split
  · exact Or.inr rfl
  · exact Or.inl rfl
/-- methods that read, and answer a long -/
def QcReadL (r : Int64) : Array Value → State → Outcome → State → Prop := fun _ st o t => o = .returned (some (.long r)) ∧ t.heap = st.heap
theorem W.callRL {p : Program} {l : Launch} {e : Env} {R : Room} {s : State} {m : MethodId} {args : Array Value} {below : List Frame} {meth : Method} {c : Code} {H : Heap} {locs : List Loc} {cells slots : Nat} {Q : State → Prop} {g : JFrame} {rest : List Value} {a : Array Value} {r : Int64} (hr : CallRun p l e R s m args below meth c H locs cells slots 0 0 g rest (QcReadL r a) (fun _ => False)) (kk : W p l e R s m args below meth c H locs cells slots Q { g with pc := g.pc + 3, stack := .long r :: rest }) : W p l e R s m args below meth c H locs cells slots Q g := by
  intro T hT X
  obtain ⟨v, st₀, t, T', L, h0, X', hL, e1, ⟨hv, hh⟩, st⟩ := hr T hT X
  cases hv
  obtain ⟨t2, a1, b1⟩ := kk T' (by rw [e1, hh, h0]) (Stand.forget X' (fun q h => (hL q h).elim))
  exact ⟨t2, st t2 a1, b1⟩
