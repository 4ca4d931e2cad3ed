/-! searches over words -/
theorem gt31 (i : Nat) : (31 : Int32) < nI i ↔ (32 : Int32) ≤ nI i := by
  rw [Int32.lt_iff_toInt_lt, Int32.le_iff_toInt_le]
  have h1 : (31 : Int32).toInt = 31 := by decide
  have h2 : (32 : Int32).toInt = 32 := by decide
  omega
theorem small_and : ∀ x, x < 32 → ∀ j, j < 32 → 7 ≤ j → bt (nI x) j = false := by decide +kernel
theorem and_small {x : Nat} (hx : x ≤ 31) (w : Int32) : (nI x &&& w) = nI (nI x &&& w).toNatClampNeg ∧ (nI x &&& w).toNatClampNeg < 128 :=
  small7 (fun j h1 h2 => by rw [b_and, small_and x (by omega) j h2 h1, Bool.false_and])
theorem nI_small {i : Nat} (h : i < 128) : nI i = nI (nI i).toNatClampNeg ∧ (nI i).toNatClampNeg < 128 := by
  rw [nI_clamp (by omega)]; exact ⟨rfl, h⟩
theorem q_sense {F G : Nat → Nat → Int32} {n len dd um nx sk : Nat} (h : RLN F G n len dd um nx sk) (k : Int32) : d_X5_sense F k n = (d_X6_sense G k n).1 ∧ RLN F (d_X6_sense G k n).2 n len dd um nx sk := by
  refine ⟨?_, ?_⟩
  · obtain ⟨⟨_, _, h7, _, _, _, ht, _, _, _, _, _, hT⟩, _, ⟨⟨s0, s1, s2, s3, s4⟩, _, _⟩, _⟩ := h
    rw [d_X5_sense, d_X6_sense, d_X6_in]
    by_cases c : k < 0
    · rw [if_pos c, if_pos c, if_pos rfl]
    · rw [if_neg c, if_neg c]
      by_cases c2 : (5 : Int32) < k
      · rw [if_neg (lt_nle c2), if_pos c2, if_pos rfl]
      · rw [if_pos (Int32.not_lt.mp c2), if_neg c2, if_neg (by decide)]
        have e1 := gather h7 (fun i => decide (¬ d_J6_bitCount_0f7a4 (F 2 i &&& F 11 0) < k)) (lp_X5_sense_15 F k n) (fun x => x &&& (F 11 3 ^^^ (-1))) (fun k' i acc => by
          rw [lp_X5_sense_15]
          by_cases q : d_J6_bitCount_0f7a4 (F 2 i &&& F 11 0) < k <;> simp [q])
        have e2 := gather h7 (fun i => decide (¬ d_X6_ones (G 3 i &&& G 6 1) < k)) (fun k' i acc => (lp_X6_sense_20 G k n k' i acc).1) (fun x => x &&& (G 6 4 ^^^ (-1))) (fun k' i acc => by
          rw [lp_X6_sense_20]
          by_cases q0 : nI n ≤ nI i
          · rw [if_pos q0, if_pos q0]
          · rw [if_neg q0, if_neg q0]
            by_cases q : d_X6_ones (G 3 i &&& G 6 1) < k <;> simp [q, or_0])
        rw [e1]
        refine Eq.trans ?_ e2.symm
        rw [s4, orS_cg (fun j hj => ?_)]
        obtain ⟨x, hx, ex⟩ := hT j hj
        rw [ht j hj, s1, ex, bc_ones' (and_small hx _)]
  · unfold d_X6_sense
    split
    · exact h.t0
    · have : ∀ k' i acc, RLN F (lp_X6_sense_20 G k n k' i acc).2 n len dd um nx sk := by
        intro k'
        induction k' with
        | zero => intro i acc; exact h
        | succ k' ih =>
          intro i acc
          rw [lp_X6_sense_20]
          split
          · exact h.t0
          · split <;> exact ih _ _
      exact this _ _ _
theorem q_both {F G : Nat → Nat → Int32} {n len dd um nx sk : Nat} (h : RLN F G n len dd um nx sk) (words : Int32) : d_X5_both F words n = (d_X6_both G words n).1 ∧ RLN F (d_X6_both G words n).2 n len dd um nx sk := by
  refine ⟨?_, ?_⟩
  · rw [d_X5_both, d_X6_both, words_eq, h.cov]
    obtain ⟨⟨_, _, h7, _, _, _, ht, _, _, _, _, _, hT⟩, _, ⟨⟨s0, s1, s2, s3, s4⟩, _, _⟩, _⟩ := h
    split
    · rfl
    · rw [cov_eq (tr' := G 3) (w := words) (g := upd (d_X6_asNow (G 6) (G 7)) 1 words) h7 ht rfl s4]
  · unfold d_X6_both
    split
    · exact h.t0
    · exact h.t7 _
/-- a row that is the reference's standing but for one cell -/
def BUT (c : Nat) (g w : Nat → Int32) : Prop := ∀ k, k < 5 → ¬ k = c → w k = g k
theorem asNow_all (ss ww : Nat → Int32) : ∀ k, k < 5 → d_X6_asNow ss ww k = ss k := by
  intro k hk
  rcases (show k = 0 ∨ k = 1 ∨ k = 2 ∨ k = 3 ∨ k = 4 by omega) with rfl | rfl | rfl | rfl | rfl <;> rfl
theorem BUT.as (c : Nat) (ss ww : Nat → Int32) : BUT c ss (d_X6_asNow ss ww) := fun k hk _ => asNow_all ss ww k hk
theorem BUT.up {c : Nat} {g w : Nat → Int32} (h : BUT c g w) (x : Int32) : BUT c g (upd w c x) := fun k hk hc => by rw [pk_un hc]; exact h k hk hc
theorem q_means {F G : Nat → Nat → Int32} {n len dd um nx sk : Nat} (h : RLN F G n len dd um nx sk) (set : Int32) : d_X5_means F set n = (d_X6_means G set n).1 ∧ RLN F (d_X6_means G set n).2 n len dd um nx sk := by
  refine ⟨?_, ?_⟩
  · obtain ⟨⟨_, _, h7, _, _, _, ht, _, he, _, _, _, hT⟩, _, ⟨⟨s0, s1, s2, s3, s4⟩, _, _⟩, _⟩ := h
    rw [d_X5_means, d_X6_means, d_X6_in, everything_eq h7, sh_n h7]
    have hp := Nat.two_pow_pos n
    have hp2 : 2 ^ n ≤ 2 ^ 7 := Nat.pow_le_pow_right (by omega) h7
    by_cases c : set < 0
    · rw [if_pos c, if_pos c, if_pos rfl]
    · rw [if_neg c, if_neg c]
      obtain ⟨j, hj, ej⟩ := nI_of c
      have hiff : set < nI (2 ^ n) ↔ ¬ nI (2 ^ n - 1) < set := by
        rw [ej, nI_ltI hj (by omega), nI_ltI (by omega) hj]; omega
      by_cases c2 : set < nI (2 ^ n)
      · rw [if_pos c2, if_neg (hiff.mp c2), if_neg (by decide)]
        have hl : ∀ (k i : Nat) (best : Int32) (wv : Nat → Int32), i + k = 33 → (best = -9 ∨ best = nI best.toNatClampNeg ∧ best.toNatClampNeg < 128) → BUT 1 (G 6) wv → lp_X5_means_24 F set n k i best = (lp_X6_means_28 G set n k i best wv).1 := by
          intro k
          induction k with
          | zero => intro i best wv _ _ _; rfl
          | succ k ih =>
            intro i best wv hik hb hw
            have e1 : d_X0_coveredBy (F 2) (F 11) (nI i) n = d_X6_covered (G 3) (upd wv 1 (nI i)) n := cov_eq h7 ht rfl ((hw 4 (by decide) (by decide)).trans s4)
            have e2 : d_X0_ableBy (F 2) (F 4) (F 11) (nI i) n = d_X6_comers (G 3) (G 5) (upd wv 1 (nI i)) n := com_eq h7 ht he rfl ((hw 2 (by decide) (by decide)).trans s2) ((hw 3 (by decide) (by decide)).trans s3) ((hw 4 (by decide) (by decide)).trans s4)
            rw [lp_X5_means_24, lp_X6_means_28, e1, e2]
            have hi2 := nI_small (i := i) (by omega)
            by_cases q : (32 : Int32) ≤ nI i
            · rw [if_pos q, if_pos ((gt31 i).mpr q)]
            · rw [if_neg q, if_neg (fun z => q ((gt31 i).mp z))]
              by_cases q2 : d_X6_comers (G 3) (G 5) (upd wv 1 (nI i)) n &&& d_X6_covered (G 3) (upd wv 1 (nI i)) n = 0
              · rw [if_pos q2, if_pos q2]; exact ih _ _ _ (by omega) hb (hw.up _)
              · rw [if_neg q2, if_neg q2]
                by_cases q3 : d_X6_comers (G 3) (G 5) (upd wv 1 (nI i)) n &&& d_X6_covered (G 3) (upd wv 1 (nI i)) n &&& (set ^^^ (-1 : Int32)) = 0
                · rw [if_pos q3, if_pos q3, d_X5_fewerWords]
                  by_cases q4 : best = -9
                  · rw [if_pos q4, if_pos q4]; exact ih _ _ _ (by omega) (Or.inr hi2) (hw.up _)
                  · rw [if_neg q4, if_neg q4]
                    have hb2 := hb.resolve_left q4
                    rw [bc_ones' hb2, bc_ones' hi2]
                    split
                    · exact ih _ _ _ (by omega) hb (hw.up _)
                    · exact ih _ _ _ (by omega) (Or.inr hi2) (hw.up _)
                · rw [if_neg q3, if_neg q3]; exact ih _ _ _ (by omega) hb (hw.up _)
        exact hl 33 0 (-9) _ rfl (Or.inl rfl) (BUT.as 1 _ _)
      · rw [if_neg c2, if_pos (Classical.not_not.mp (fun z => c2 (hiff.mpr z))), if_pos rfl]
  · unfold d_X6_means
    split
    · exact h.t0
    · have : ∀ k i best wv, RLN F (lp_X6_means_28 G set n k i best wv).2 n len dd um nx sk := by
        intro k
        induction k with
        | zero => intro i best wv; exact h
        | succ k ih =>
          intro i best wv
          rw [lp_X6_means_28]
          (repeat' split) <;> first | exact h.t7 _ | exact ih _ _ _
      exact this _ _ _ _
theorem q_span {F G : Nat → Nat → Int32} {n len dd um nx sk : Nat} (h : RLN F G n len dd um nx sk) : d_X5_span F n = (d_X6_span G n).1 ∧ RLN F (d_X6_span G n).2 n len dd um nx sk := by
  refine ⟨?_, ?_⟩
  · obtain ⟨⟨_, _, h7, _, _, _, ht, _, he, _, _, _, hT⟩, _, ⟨⟨s0, s1, s2, s3, s4⟩, _, _⟩, _⟩ := h
    rw [d_X5_span, d_X6_span]
    have hl : ∀ (k i : Nat) (best : Int32) (wv : Nat → Int32), i + k = 33 → (best = -9 ∨ best = nI best.toNatClampNeg ∧ best.toNatClampNeg < 128) → BUT 1 (G 6) wv → lp_X5_span_5 F n k i best = (lp_X6_span_14 G n k i best wv).1 := by
      intro k
      induction k with
      | zero => intro i best wv _ _ _; rfl
      | succ k ih =>
        intro i best wv hik hb hw
        have e1 : d_X0_coveredBy (F 2) (F 11) (nI i) n = d_X6_covered (G 3) (upd wv 1 (nI i)) n := cov_eq h7 ht rfl ((hw 4 (by decide) (by decide)).trans s4)
        rw [lp_X5_span_5, lp_X6_span_14, e1, bc_ones' (cov_small h7)]
        have hi2 := nI_small (i := i) (by omega)
        by_cases q : (32 : Int32) ≤ nI i
        · rw [if_pos q, if_pos ((gt31 i).mpr q)]
        · rw [if_neg q, if_neg (fun z => q ((gt31 i).mp z))]
          by_cases q3 : d_X6_ones (d_X6_covered (G 3) (upd wv 1 (nI i)) n) = 1
          · rw [if_pos q3, if_pos q3, d_X5_fewerWords]
            by_cases q4 : best = -9
            · rw [if_pos q4, if_pos q4]; exact ih _ _ _ (by omega) (Or.inr hi2) (hw.up _)
            · rw [if_neg q4, if_neg q4]
              have hb2 := hb.resolve_left q4
              rw [bc_ones' hb2, bc_ones' hi2]
              split
              · exact ih _ _ _ (by omega) hb (hw.up _)
              · exact ih _ _ _ (by omega) (Or.inr hi2) (hw.up _)
          · rw [if_neg q3, if_neg q3]; exact ih _ _ _ (by omega) hb (hw.up _)
    exact hl 33 0 (-9) _ rfl (Or.inl rfl) (BUT.as 1 _ _)
  · unfold d_X6_span
    have : ∀ k i best wv, RLN F (lp_X6_span_14 G n k i best wv).2 n len dd um nx sk := by
      intro k
      induction k with
      | zero => intro i best wv; exact h
      | succ k ih =>
        intro i best wv
        rw [lp_X6_span_14]
        (repeat' split) <;> first | exact h.t7 _ | exact ih _ _ _
    exact this _ _ _ _
/-! which words fit what was seen -/
theorem hav_bit {tr tr' : Nat → Int32} {w : Int32} {n x : Nat} (h7 : n ≤ 7) (hx : x < n) (ht : ∀ j, j < n → tr j = tr' j) : d_X5_bitOf (d_X0_having tr w n) (nI x) = d_X6_hasAll tr' w x := by
  rw [X0_having_eq h7, d_X6_hasAll, hav]
  have e : bt (orS (fun t => decide (tr t &&& w = w)) n) x = decide (tr' x &&& w = w) := by
    rw [b_orS _ (by omega) (by omega), decide_eq_true hx, Bool.true_and, ht x hx]
  by_cases c : tr' x &&& w = w
  · rw [if_pos c]
    exact (btI_iff (by omega)).mpr (by rw [e, decide_eq_true c])
  · rw [if_neg c]
    exact (btI_0 (by omega)).mpr (by rw [e, decide_eq_false c])
theorem fit41_0 {G : Nat → Nat → Int32} {what : Int32} {sk i : Nat} : ∀ k e, lp_X6_fit_41 G what sk i k e 0 = 0 := by
  intro k
  induction k with
  | zero => intro e; rfl
  | succ k ih =>
    intro e
    rw [lp_X6_fit_41, if_pos (rfl : (0 : Int32) = 0)]
    split
    · rfl
    · exact ih _
theorem hasAll01 (tr : Nat → Int32) (w : Int32) (j : Nat) : d_X6_hasAll tr w j = 0 ∨ d_X6_hasAll tr w j = 1 := by
  rw [d_X6_hasAll]; split
  · exact Or.inr rfl
  · exact Or.inl rfl
theorem fit41 {F G : Nat → Nat → Int32} {n sk i : Nat} {what : Int32} (h7 : n ≤ 7) (ht : ∀ j, j < n → F 2 j = G 3 j) (h6 : sk ≤ 6) (hs : ∀ j, j < sk → F 30 j = G 11 j ∧ F 31 j = G 12 j ∧ (∃ x, x < n ∧ G 11 j = nI x) ∧ (G 12 j = 0 ∨ G 12 j = 1)) : ∀ k e, e ≤ sk → sk - e < k → lp_X2_isSoBy_2 (F 30) (F 31) (d_X0_having (F 2) (nI i) n) sk k e = lp_X6_fit_41 G what sk i k e 1 := by
  intro k
  induction k with
  | zero => intro e _ h; omega
  | succ k ih =>
    intro e he hk
    rw [lp_X2_isSoBy_2, lp_X6_fit_41, if_neg (show ¬ (1 : Int32) = 0 by decide)]
    by_cases c : nI sk ≤ nI e
    · rw [if_pos c, if_pos c]
    · rw [if_neg c, if_neg c]
      have hlt := nlt_of c (by omega) (by omega)
      obtain ⟨a1, a2, ⟨x, hx, a3⟩, a4⟩ := hs e hlt
      rw [a1, a2, a3, hav_bit h7 hx ht, nI_clamp (by omega)]
      rcases a4 with q | q
      · rw [q, if_neg (show ¬ (0 : Int32) = 1 by decide)]
        rcases hasAll01 (G 3) (nI i) x with z | z
        · rw [z, if_pos rfl, if_pos rfl]; exact ih _ (by omega) (by omega)
        · rw [z, if_neg (by decide), if_neg (by decide), fit41_0]
      · rw [q, if_pos (show (1 : Int32) = 1 from rfl)]
        rcases hasAll01 (G 3) (nI i) x with z | z
        · rw [z, if_neg (by decide), if_neg (by decide), fit41_0]
        · rw [z, if_pos rfl, if_pos rfl]; exact ih _ (by omega) (by omega)
theorem q_fit {F G : Nat → Nat → Int32} {n len dd um nx sk : Nat} (h : RLN F G n len dd um nx sk) (what : Int32) : d_X5_fit F what n sk = (d_X6_fit G what sk).1 ∧ RLN F (d_X6_fit G what sk).2 n len dd um nx sk := by
  refine ⟨?_, ?_⟩
  · obtain ⟨⟨_, _, h7, _, _, _, ht, _, he, _, _, _, hT⟩, _, _, _, _, ⟨_, _, h6, hs⟩⟩ := h
    rw [d_X5_fit, d_X6_fit, d_X6_in]
    by_cases c : what < 0
    · rw [if_pos c, if_pos c, if_pos rfl]
    · rw [if_neg c, if_neg c]
      by_cases c2 : (2 : Int32) < what
      · rw [if_neg (lt_nle c2), if_pos c2, if_pos rfl]
      · rw [if_pos (Int32.not_lt.mp c2), if_neg c2, if_neg (by decide)]
        have hl : ∀ (k i : Nat) (ft ls sh : Int32), lp_X5_fit_23 F what n sk k i ft ls sh = (lp_X6_fit_28 G what sk k i ft ls sh).1 := by
          intro k
          induction k with
          | zero => intro i ft ls sh; rfl
          | succ k ih =>
            intro i ft ls sh
            have e1 : d_X2_isSoBy (F 30) (F 31) (d_X0_having (F 2) (nI i) n) sk = lp_X6_fit_41 G what sk i (sk + 1) 0 1 := fit41 h7 ht h6 hs (sk + 1) 0 (by omega) (by omega)
            rw [lp_X5_fit_23, lp_X6_fit_28, e1]
            by_cases q : (32 : Int32) ≤ nI i
            · rw [if_pos q, if_pos ((gt31 i).mpr q)]
              split
              · rfl
              · split
                · rfl
                · split <;> rfl
            · rw [if_neg q, if_neg (fun z => q ((gt31 i).mp z))]
              split
              · exact ih _ _ _ _
              · split <;> exact ih _ _ _ _
        exact hl _ _ _ _ _
  · unfold d_X6_fit
    split
    · exact h.t0
    · have : ∀ k i ft ls sh, RLN F (lp_X6_fit_28 G what sk k i ft ls sh).2 n len dd um nx sk := by
        intro k
        induction k with
        | zero => intro i ft ls sh; exact h
        | succ k ih =>
          intro i ft ls sh
          rw [lp_X6_fit_28]
          (repeat' split) <;> first | exact h.t0 | exact ih _ _ _ _
      exact this _ _ _ _ _
