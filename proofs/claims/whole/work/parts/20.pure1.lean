/-! bits (the first rows: pasted from the kit's BITS family) -/
def bt (x : Int32) (i : Nat) : Bool := x.toBitVec.getLsbD i
theorem b_ext {x y : Int32} (h : ∀ i, i < 32 → bt x i = bt y i) : x = y := Int32.toBitVec_inj.mp (BitVec.eq_of_getLsbD_eq (fun i hi => h i hi))
theorem b_or (x y : Int32) (i : Nat) : bt (x ||| y) i = (bt x i || bt y i) := by unfold bt; rw [Int32.toBitVec_or, BitVec.getLsbD_or]
theorem b_and (x y : Int32) (i : Nat) : bt (x &&& y) i = (bt x i && bt y i) := by unfold bt; rw [Int32.toBitVec_and, BitVec.getLsbD_and]
theorem b_xor (x y : Int32) (i : Nat) : bt (x ^^^ y) i = (bt x i ^^ bt y i) := by unfold bt; rw [Int32.toBitVec_xor, BitVec.getLsbD_xor]
theorem b_big {x : Int32} {i : Nat} (h : 32 ≤ i) : bt x i = false := BitVec.getLsbD_of_ge _ _ h
theorem b_m1 : ∀ i, i < 32 → bt (-1) i = true := by decide +kernel
theorem b_0 (i : Nat) : bt 0 i = false := BitVec.getLsbD_zero
theorem b_1 : ∀ i, i < 32 → bt 1 i = decide (i = 0) := by decide +kernel
theorem s_l : ∀ n, n < 32 → ((nI n &&& 31).toBitVec.smod 32).toNat = n := by decide +kernel
theorem b_shl (n : Nat) (hn : n < 32) (x : Int32) {i : Nat} (hi : i < 32) : bt (x <<< (nI n &&& 31)) i = (decide (n ≤ i) && bt x (i - n)) := by
  unfold bt
  rw [Int32.toBitVec_shiftLeft]
  show (x.toBitVec <<< ((nI n &&& 31).toBitVec.smod 32).toNat).getLsbD i = _
  rw [s_l n hn, BitVec.getLsbD_shiftLeft]
  rcases Nat.lt_or_ge i n with h | h
  · simp [h, Nat.not_le.mpr h]
  · simp [hi, h, Nat.not_lt.mpr h]
theorem b_sshr (n : Nat) (hn : n < 32) (x : Int32) {i : Nat} (hi : i < 32) : bt (x >>> (nI n &&& 31)) i = if n + i < 32 then bt x (n + i) else bt x 31 := by
  unfold bt
  rw [Int32.toBitVec_shiftRight]
  show (x.toBitVec.sshiftRight ((nI n &&& 31).toBitVec.smod 32).toNat).getLsbD i = _
  rw [s_l n hn, BitVec.getLsbD_sshiftRight, BitVec.msb_eq_getLsbD_last]
  simp [hi]
/-! my own -/
theorem b_sh1 {i j : Nat} (hi : i < 32) (hj : j < 32) : bt ((1 : Int32) <<< (nI i &&& 31)) j = decide (i = j) := by
  rw [b_shl i hi 1 hj]
  rcases Nat.lt_or_ge j i with h | h
  · rw [decide_eq_false (Nat.not_le.mpr h), decide_eq_false (by omega)]; rfl
  · rw [decide_eq_true h, b_1 _ (by omega), Bool.true_and]
    exact decide_eq_decide.mpr (by omega)
theorem b_not (x : Int32) {i : Nat} (hi : i < 32) : bt (x ^^^ (-1)) i = !bt x i := by rw [b_xor, b_m1 i hi, Bool.xor_true]
theorem btI_iff {x : Int32} {j : Nat} (hj : j < 32) : btI x j = 1 ↔ bt x j = true := by
  have h : bt (btI x j) 0 = bt x j := by
    rw [btI, b_and, b_sshr j hj x (by omega), b_1 0 (by omega)]
    simp [hj]
  rcases bt01 (x >>> (nI j &&& 31)) with e | e
  · have e1 : btI x j = 0 := e
    rw [e1, b_0] at h
    rw [e1, ← h]
    exact ⟨fun q => absurd q (by decide), fun q => absurd q (by decide)⟩
  · have e1 : btI x j = 1 := e
    rw [e1, b_1 0 (by omega)] at h
    rw [e1, ← h]
    exact ⟨fun _ => rfl, fun _ => rfl⟩
theorem btI_0 {x : Int32} {j : Nat} (hj : j < 32) : btI x j = 0 ↔ bt x j = false := by
  rw [← Bool.not_eq_true, ← btI_iff hj]
  rcases bt01 (x >>> (nI j &&& 31)) with e | e
  · have e1 : btI x j = 0 := e
    rw [e1]; exact ⟨fun _ => by decide, fun _ => rfl⟩
  · have e1 : btI x j = 1 := e
    rw [e1]; exact ⟨fun q => absurd q (by decide), fun q => absurd rfl q⟩
/-- the set of those below i that have p -/
def orS (p : Nat → Bool) : Nat → Int32
  | 0 => 0
  | i + 1 => if p i = true then orS p i ||| ((1 : Int32) <<< (nI i &&& 31)) else orS p i
theorem b_orS (p : Nat → Bool) {j : Nat} (hj : j < 32) : ∀ {i : Nat}, i ≤ 32 → bt (orS p i) j = (decide (j < i) && p j) := by
  intro i
  induction i with
  | zero => intro _; rw [orS, b_0]; simp
  | succ i ih =>
    intro hi
    have h := ih (by omega)
    rw [orS]
    by_cases c : p i = true
    · rw [if_pos c, b_or, h, b_sh1 (by omega) hj]
      rcases Nat.lt_trichotomy j i with q | q | q
      · simp [q, Nat.lt_succ_of_lt q, show ¬ i = j by omega]
      · subst q; simp [c]
      · simp [show ¬ j < i by omega, show ¬ j < i + 1 by omega, show ¬ i = j by omega]
    · rw [if_neg c, h]
      have c' : p i = false := by simpa using c
      rcases Nat.lt_trichotomy j i with q | q | q
      · simp [q, Nat.lt_succ_of_lt q]
      · subst q; simp [c']
      · simp [show ¬ j < i by omega, show ¬ j < i + 1 by omega]
theorem or_0 (x : Int32) : x ||| 0 = x := b_ext (fun i _ => by rw [b_or, b_0, Bool.or_false])
/-- a loop over the things that gathers a set, by its step -/
theorem gather {n : Nat} (h7 : n ≤ 7) (p : Nat → Bool) (lp : Nat → Nat → Int32 → Int32) (fin : Int32 → Int32)
    (hs : ∀ k i acc, lp (k + 1) i acc = if nI n ≤ nI i then fin acc else lp k (i + 1) (if p i = true then acc ||| ((1 : Int32) <<< (nI i &&& 31)) else acc)) :
    lp (n + 1) 0 0 = fin (orS p n) := by
  have h : ∀ (k i : Nat), i ≤ n → n - i < k → lp k i (orS p i) = fin (orS p n) := by
    intro k
    induction k with
    | zero => intro i _ h; omega
    | succ k ih =>
      intro i hi hk
      rw [hs]
      by_cases c : nI n ≤ nI i
      · rw [if_pos c]
        have : i = n := by have := le_of c (by omega) (by omega); omega
        rw [this]
      · rw [if_neg c]
        have hlt := nlt_of c (by omega) (by omega)
        have e : (if p i = true then orS p i ||| ((1 : Int32) <<< (nI i &&& 31)) else orS p i) = orS p (i + 1) := by rw [orS]
        rw [e]
        exact ih (i + 1) (by omega) (by omega)
  exact h (n + 1) 0 (Nat.zero_le _) (by omega)
/-- whom words cover -/
def hav (tr : Nat → Int32) (w : Int32) (n : Nat) : Int32 := orS (fun t => decide (tr t &&& w = w)) n
def eag (ea : Nat → Int32) (n : Nat) : Int32 := orS (fun t => decide (¬ ea t ≤ 0)) n
theorem X0_having_eq {tr : Nat → Int32} {w : Int32} {n : Nat} (h7 : n ≤ 7) : d_X0_having tr w n = hav tr w n := by
  rw [d_X0_having, hav]
  refine gather h7 _ (lp_X0_having_4 tr w n) id (fun k i acc => ?_)
  rw [lp_X0_having_4]
  by_cases c : tr i &&& w = w
  · simp [c]
  · simp [c]
theorem X0_eagerOnes_eq {ea : Nat → Int32} {n : Nat} (h7 : n ≤ 7) : d_X0_eagerOnes ea n = eag ea n := by
  rw [d_X0_eagerOnes, eag]
  refine gather h7 _ (lp_X0_eagerOnes_4 ea n) id (fun k i acc => ?_)
  rw [lp_X0_eagerOnes_4]
  by_cases c : ea i ≤ 0
  · simp [c]
  · simp [c]
theorem X6_covered_eq {tr g : Nat → Int32} {n : Nat} (h7 : n ≤ 7) : d_X6_covered tr g n = hav tr (g 1) n &&& (g 4 ^^^ (-1)) := by
  rw [d_X6_covered, hav]
  refine gather h7 _ (lp_X6_covered_4 tr g n) (fun x => x &&& (g 4 ^^^ (-1))) (fun k i acc => ?_)
  rw [lp_X6_covered_4, d_X6_hasAll]
  by_cases c : tr i &&& g 1 = g 1
  · simp [c]
  · simp [c, or_0]
theorem X6_comers_eq {tr ea g : Nat → Int32} {n : Nat} (h7 : n ≤ 7) : d_X6_comers tr ea g n = ((eag ea n &&& (g 4 ^^^ (-1))) &&& (g 3 ^^^ (-1))) &&& ((g 2 &&& (hav tr (g 1) n &&& (g 4 ^^^ (-1)))) ^^^ (-1)) := by
  rw [d_X6_comers, eag, ← X6_covered_eq h7]
  refine gather h7 _ (lp_X6_comers_4 tr ea g n) (fun x => ((x &&& (g 4 ^^^ (-1))) &&& (g 3 ^^^ (-1))) &&& ((g 2 &&& d_X6_covered tr g n) ^^^ (-1))) (fun k i acc => ?_)
  rw [lp_X6_comers_4]
  by_cases c : ea i ≤ 0
  · simp [c, or_0]
  · simp [c]
