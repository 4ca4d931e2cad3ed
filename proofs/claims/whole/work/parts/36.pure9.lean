/-! whom to keep in for least harm -/
theorem cmp_lt {x y : Int32} : d_J6_compare_7cf53 x y < 0 ↔ ¬ y ≤ x := by
  rw [d_J6_compare_7cf53]
  by_cases c : y ≤ x
  · rw [if_pos c]
    constructor
    · intro q
      exfalso
      by_cases c2 : x = y
      · rw [if_pos c2] at q; exact absurd q (by decide)
      · rw [if_neg c2] at q; exact absurd q (by decide)
    · intro q; exact absurd c q
  · rw [if_neg c]; exact ⟨fun _ => c, fun _ => by decide⟩
theorem cmp_eq {x y : Int32} : d_J6_compare_7cf53 x y = 0 ↔ x = y := by
  rw [d_J6_compare_7cf53]
  by_cases c : y ≤ x
  · rw [if_pos c]
    by_cases c2 : x = y
    · rw [if_pos c2]; exact ⟨fun _ => c2, fun _ => rfl⟩
    · rw [if_neg c2]; exact ⟨fun q => absurd q (by decide), fun q => absurd q c2⟩
  · rw [if_neg c]
    exact ⟨fun q => absurd q (by decide), fun q => absurd (by rw [q]; exact Int32.le_refl y) c⟩
/-- the best so far: a set, its harm's two numbers -/
def BST (G : Nat → Nat → Int32) (n : Nat) (A C best bu bl : Int32) : Prop := (best = nI best.toNatClampNeg ∧ best.toNatClampNeg < 128) ∧ bu = nI (hU (G 4) (G 5) ((A &&& (best ^^^ (-1))) &&& C) n) ∧ bl = nI (mx (eS (G 5) (A &&& (best ^^^ (-1))) n))
theorem sub_of {x A : Int32} (h : x &&& (A ^^^ (-1)) = 0) : ∀ j, j < 32 → bt x j = true → bt A j = true := by
  intro j hj hb
  have e := congrArg (fun z => bt z j) h
  simp only [b_and, b_not _ hj, b_0, hb, Bool.true_and] at e
  cases c : bt A j with
  | true => rfl
  | false => rw [c] at e; exact absurd e (by decide)
theorem q_shut {F G : Nat → Nat → Int32} {n len dd um nx sk : Nat} (h : RLN F G n len dd um nx sk) (m_ what : Int32) : d_X5_shut F m_ what n = (d_X6_shut G m_ what n).1 ∧ RLN F (d_X6_shut G m_ what n).2 n len dd um nx sk := by
  refine ⟨?_, ?_⟩
  · have hcom := h.com
    have hcov := h.cov
    have hhu := h.hu
    have hshr := h.shr
    obtain ⟨⟨_, _, h7, _, _, _, ht, hd, he, hE, hD, _, _⟩, _⟩ := id h
    have hA := comers_small (tr := G 3) (ea := G 5) (g := G 6) h7
    have hAl : ∀ j, j < 32 → bt (d_X6_comers (G 3) (G 5) (G 6) n) j = true → j < n := fun j hj hb => com_lt h7 hj hb
    have hsh : ∀ (x : Int32) (w : Nat → Int32), w 1 = G 6 1 → w 2 = G 6 2 → w 4 = G 6 4 → w 3 = G 6 3 ||| x → d_X6_comers (G 3) (G 5) w n = d_X6_comers (G 3) (G 5) (G 6) n &&& (x ^^^ (-1)) ∧ d_X6_covered (G 3) w n = d_X6_covered (G 3) (G 6) n := fun x w e1 e2 e4 e3 => ⟨com_shut h7 e1 e2 e4 e3, cov_but h7 e1 e4⟩
    have h0 : d_X6_harms (upd (G 0) 0 0) (G 3) (G 4) (G 5) (G 6) n 25 = nI (hU (G 4) (G 5) (d_X6_comers (G 3) (G 5) (G 6) n &&& d_X6_covered (G 3) (G 6) n) n) ∧ d_X6_harms (upd (G 0) 0 0) (G 3) (G 4) (G 5) (G 6) n 24 = nI (mx (eS (G 5) (d_X6_comers (G 3) (G 5) (G 6) n) n)) := by
      obtain ⟨a1, _, a3, _, _⟩ := harms_ok (f := upd (G 0) 0 0) (tr := G 3) (g := G 6) hD hE h7
      exact ⟨a1, a3⟩
    have hw : ∀ (x : Int32) (w f : Nat → Int32), w 1 = G 6 1 → w 2 = G 6 2 → w 4 = G 6 4 → w 3 = G 6 3 ||| x → d_X6_harms f (G 3) (G 4) (G 5) w n 25 = nI (hU (G 4) (G 5) ((d_X6_comers (G 3) (G 5) (G 6) n &&& (x ^^^ (-1))) &&& d_X6_covered (G 3) (G 6) n) n) ∧ d_X6_harms f (G 3) (G 4) (G 5) w n 24 = nI (mx (eS (G 5) (d_X6_comers (G 3) (G 5) (G 6) n &&& (x ^^^ (-1))) n)) := fun x w f e1 e2 e4 e3 => by
      obtain ⟨a1, _, a3, _, _⟩ := harms_ok (f := f) (tr := G 3) (g := w) hD hE h7
      obtain ⟨b1, b2⟩ := hsh x w e1 e2 e4 e3
      rw [b1, b2] at a1
      rw [b1] at a3
      exact ⟨a1, a3⟩
    rw [d_X5_shut, d_X6_shut, d_X5_leastHarmful, hcom, hcov, h0.1, h0.2, d_X6_in, d_X6_in]
    by_cases c1 : m_ < 0
    · rw [if_pos c1, if_pos c1, if_pos rfl]
    · rw [if_neg c1, if_neg c1]
      by_cases c2 : (7 : Int32) < m_
      · rw [if_pos c2, if_pos c2, if_pos rfl]
      · rw [if_neg c2, if_neg c2, if_neg (show ¬ (1 : Int32) = 0 by decide)]
        by_cases c3 : what < 0
        · rw [if_pos c3, if_pos c3, if_pos rfl]
        · rw [if_neg c3, if_neg c3]
          by_cases c4 : (2 : Int32) < what
          · rw [if_neg (lt_nle c4), if_pos c4, if_pos rfl]
          · rw [if_pos (Int32.not_lt.mp c4), if_neg c4, if_neg (show ¬ (1 : Int32) = 0 by decide)]
            generalize hAe : d_X6_comers (G 3) (G 5) (G 6) n = A at *
            generalize hCe : d_X6_covered (G 3) (G 6) n = C at *
            obtain ⟨eA, hA128⟩ := hA
            have han : A.toNatClampNeg < 2 ^ n := bits_lt hA128 h7 (fun j hj hb => hAl j hj (by rw [eA]; exact hb))
            have hp2 : 2 ^ n ≤ 2 ^ 7 := Nat.pow_le_pow_right (by omega) h7
            have hnle : ∀ i, i < 128 → nI i &&& (A ^^^ (-1)) = 0 → i ≤ A.toNatClampNeg := fun i hi q => sub_le hi hA128 (fun j hj hb => by rw [← eA]; exact sub_of q j hj hb)
            have tail : ∀ (k i : Nat) (best bu bl : Int32), i ≤ 2 ^ n → 2 ^ n - i < k → A.toNatClampNeg < i → lp_X5_leastHarmful_37 F m_ n k i best bu bl = best := by
              intro k
              induction k with
              | zero => intro i best bu bl _ hk; omega
              | succ k ih =>
                intro i best bu bl hi hk hai
                rw [lp_X5_leastHarmful_37, hcom]
                by_cases q : nI (2 ^ n) ≤ nI i
                · rw [if_pos q]
                · rw [if_neg q]
                  have hlt := nlt_of q (by omega) (by omega)
                  rw [if_neg (fun z => by have := hnle i (by omega) z; omega)]
                  exact ih _ _ _ _ (by omega) (by omega) (by omega)
            have hU63 : ∀ X : Int32, hU (G 4) (G 5) X n ≤ 6237 := fun X => by
              have := hU_le hD hE X (Nat.le_refl n); omega
            have hE63 : ∀ X : Int32, 0 < mx (eS (G 5) X n) ∧ mx (eS (G 5) X n) ≤ 63 := fun X => by
              have := eS_le hE X (Nat.le_refl n)
              exact ⟨mx_pos _, mx_le (by omega)⟩
            have loop : ∀ (k2 k1 i : Nat) (best bu bl : Int32) (w f : Nat → Int32), i ≤ A.toNatClampNeg + 1 → A.toNatClampNeg + 1 - i < k2 → 2 ^ n - i < k1 → BUT 3 (G 6) w → BST G n A C best bu bl →
                ∃ best' bu' bl', lp_X5_leastHarmful_37 F m_ n k1 i best bu bl = best' ∧ (lp_X6_shut_65 G m_ what n k2 i best bu bl w f).1 = (if what = 0 then best' else d_X6_part bu' bl' (what - 1) bu'.toInt.natAbs bl'.toNatClampNeg) ∧ BST G n A C best' bu' bl' := by
              intro k2
              induction k2 with
              | zero => intro k1 i best bu bl w f _ hk; omega
              | succ k2 ih =>
                intro k1 i best bu bl w f hi hk2 hk1 hbut hb
                obtain ⟨k1, rfl⟩ : ∃ k', k1 = k' + 1 := ⟨k1 - 1, by omega⟩
                rw [lp_X6_shut_65, hAe]
                by_cases q : nI A.toNatClampNeg < nI i
                · rw [if_pos q]
                  rw [nI_ltI (by omega) (by omega)] at q
                  refine ⟨best, bu, bl, tail (k1 + 1) i best bu bl (by omega) hk1 q, ?_, hb⟩
                  split <;> rfl
                · rw [if_neg q]
                  rw [nI_ltI (by omega) (by omega)] at q
                  rw [lp_X5_leastHarmful_37, hcom, hcov, hhu, hshr, if_neg (nI_ge (show i < 2 ^ n by omega) (by omega)), dearOf_eq hD hE h7]
                  have hi2 := nI_small (i := i) (by omega)
                  by_cases q1 : nI i &&& (A ^^^ (-1 : Int32)) = 0
                  · rw [if_pos q1, if_pos q1, bc_ones' hi2]
                    by_cases q2 : m_ < d_X6_ones (nI i)
                    · rw [if_pos q2, if_neg (lt_nle q2)]
                      exact ih _ _ _ _ _ _ _ (by omega) (by omega) (by omega) hbut hb
                    · rw [if_neg q2, if_pos (Int32.not_lt.mp q2)]
                      obtain ⟨w25, w24⟩ := hw (nI i) (upd w 3 (G 6 3 ||| nI i)) f (hbut 1 (by omega) (by omega)) (hbut 2 (by omega) (by omega)) (hbut 4 (by omega) (by omega)) rfl
                      have hbut2 := hbut.up (G 6 3 ||| nI i)
                      obtain ⟨b1, b2, b3⟩ := id hb
                      rw [w25, w24, bc_ones' b1]
                      have n1 := hU63 ((A &&& (nI i ^^^ (-1))) &&& C)
                      have n2 := hU63 ((A &&& (best ^^^ (-1))) &&& C)
                      have n3 := hE63 (A &&& (nI i ^^^ (-1)))
                      have n4 := hE63 (A &&& (best ^^^ (-1)))
                      have hnew : BST G n A C (nI i) (nI (hU (G 4) (G 5) ((A &&& (nI i ^^^ (-1))) &&& C) n)) (nI (mx (eS (G 5) (A &&& (nI i ^^^ (-1))) n))) := ⟨hi2, rfl, rfl⟩
                      generalize hU (G 4) (G 5) ((A &&& (nI i ^^^ (-1))) &&& C) n = U1 at *
                      generalize mx (eS (G 5) (A &&& (nI i ^^^ (-1))) n) = L1 at *
                      generalize hU (G 4) (G 5) ((A &&& (best ^^^ (-1))) &&& C) n = U0 at *
                      generalize mx (eS (G 5) (A &&& (best ^^^ (-1))) n) = L0 at *
                      have e1 : bu * nI L1 = nI (U0 * L1) := by rw [b2, pk_mul]
                      have e2 : nI U1 * bl = nI (U1 * L0) := by rw [b3, pk_mul]
                      have m1 : U0 * L1 ≤ 6237 * 63 := Nat.mul_le_mul n2 n3.2
                      have m2 : U1 * L0 ≤ 6237 * 63 := Nat.mul_le_mul n1 n4.2
                      rw [e1, e2]
                      generalize U0 * L1 = x at *
                      generalize U1 * L0 = y at *
                      have z0 : (0 : Int32).toInt = 0 := by decide
                      have cmp1 : d_J6_compare_7cf53 (nI y) (nI x) < 0 ↔ (0 : Int32) < nI x - nI y := by
                        rw [cmp_lt, nI_leI (by omega) (by omega), Int32.lt_iff_toInt_lt, pk_sub_toInt (by omega) (by omega), z0]; omega
                      have cmp2 : d_J6_compare_7cf53 (nI y) (nI x) = 0 ↔ nI x - nI y = 0 := by
                        rw [cmp_eq, nI_eq (by omega) (by omega), ← Int32.toInt_inj, pk_sub_toInt (by omega) (by omega), z0]; omega
                      by_cases r1 : (0 : Int32) < nI x - nI y
                      · rw [if_pos r1, if_pos (cmp1.mpr r1)]
                        exact ih _ _ _ _ _ _ _ (by omega) (by omega) (by omega) hbut2 hnew
                      · rw [if_neg r1, if_neg (fun z => r1 (cmp1.mp z))]
                        by_cases r2 : nI x - nI y = 0
                        · rw [if_pos r2, if_pos (cmp2.mpr r2)]
                          by_cases r3 : d_X6_ones best ≤ d_X6_ones (nI i)
                          · rw [if_pos r3, if_pos r3]
                            exact ih _ _ _ _ _ _ _ (by omega) (by omega) (by omega) hbut2 hb
                          · rw [if_neg r3, if_neg r3]
                            exact ih _ _ _ _ _ _ _ (by omega) (by omega) (by omega) hbut2 hnew
                        · rw [if_neg r2, if_neg (fun z => r2 (cmp2.mp z))]
                          exact ih _ _ _ _ _ _ _ (by omega) (by omega) (by omega) hbut2 hb
                  · rw [if_neg q1, if_neg q1]
                    exact ih _ _ _ _ _ _ _ (by omega) (by omega) (by omega) hbut hb
            have hA0 : A &&& ((0 : Int32) ^^^ (-1)) = A := by
              apply b_ext
              intro j hj
              rw [b_and, b_not _ hj, b_0, Bool.not_false, Bool.and_true]
            have hb0 : BST G n A C 0 (nI (hU (G 4) (G 5) (A &&& C) n)) (nI (mx (eS (G 5) A n))) := ⟨by decide, by rw [hA0], by rw [hA0]⟩
            obtain ⟨best', bu', bl', r1, r2, b1, b2, b3⟩ := loop (A.toNatClampNeg + 2) (2 ^ n) 1 0 (nI (hU (G 4) (G 5) (A &&& C) n)) (nI (mx (eS (G 5) A n))) (d_X6_asNow (G 6) (G 7)) (d_X6_harms (upd (G 0) 0 0) (G 3) (G 4) (G 5) (G 6) n) (by omega) (by omega) (by have := Nat.two_pow_pos n; omega) (BUT.as 3 _ _) hb0
            rw [hhu A C, hshr A, dearOf_eq hD hE h7, r1, r2]
            by_cases w0 : what = 0
            · rw [if_pos w0, if_pos w0]
            · rw [if_neg w0, if_neg w0, hhu, hshr, dearOf_eq hD hE h7, ← b2, ← b3]
              have n2 := hU63 ((A &&& (best' ^^^ (-1))) &&& C)
              have n4 := hE63 (A &&& (best' ^^^ (-1)))
              exact part_eq b3 n4.1 (by omega) (part_n b2 (by omega))
  · unfold d_X6_shut
    have : ∀ (k i : Nat) (its up al : Int32) (w f : Nat → Int32), (∀ q, q = 3 ∨ q = 20 ∨ q = 23 → f q = G 0 q) → RLN F (lp_X6_shut_65 G m_ what n k i its up al w f).2 n len dd um nx sk := by
      intro k
      induction k with
      | zero => intro i its up al w f _; exact h
      | succ k ih =>
        intro i its up al w f hf
        rw [lp_X6_shut_65]
        have hf2 : ∀ (g : Nat → Int32) (q : Nat), q = 3 ∨ q = 20 ∨ q = 23 → d_X6_harms f (G 3) (G 4) (G 5) g n q = G 0 q := fun g q hq => by rw [hs_k hq]; exact hf q hq
        (repeat' split) <;> first | exact h.t7h hf _ | exact ih _ _ _ _ _ _ (hf2 _) | exact ih _ _ _ _ _ _ hf
    split
    · exact h.t0
    · split
      · exact h.t0
      · refine this _ _ _ _ _ _ _ (fun q hq => ?_)
        rw [hs_k hq]; rcases hq with rfl | rfl | rfl <;> rfl
