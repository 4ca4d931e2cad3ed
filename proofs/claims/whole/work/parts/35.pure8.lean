/-! whom to tell, whom to keep in -/
theorem bI {x : Int32} {j : Nat} (hj : j < 32) : btI x j = nI (bt x j).toNat := by
  by_cases c : bt x j = true
  · rw [(btI_iff hj).mpr c, c]; rfl
  · have c' : bt x j = false := by simpa using c
    rw [(btI_0 hj).mpr c', c']; rfl
def cnt (x : Int32) : Nat := 0 + (bt x 0).toNat + (bt x 1).toNat + (bt x 2).toNat + (bt x 3).toNat + (bt x 4).toNat + (bt x 5).toNat + (bt x 6).toNat
theorem ones_cnt (x : Int32) : d_X6_ones x = nI (cnt x) := by
  have e : d_X6_ones x = nI 0 + btI x 0 + btI x 1 + btI x 2 + btI x 3 + btI x 4 + btI x 5 + btI x 6 := rfl
  rw [e, bI (by omega), bI (by omega), bI (by omega), bI (by omega), bI (by omega), bI (by omega), bI (by omega), nI_add, nI_add, nI_add, nI_add, nI_add, nI_add, nI_add]
  rfl
theorem tn_le {a b : Bool} (h : a = true → b = true) : a.toNat ≤ b.toNat := by
  cases a <;> cases b <;> simp at h ⊢
theorem tn_1 (a : Bool) : a.toNat ≤ 1 := by cases a <;> decide
theorem cnt_le (x : Int32) : cnt x ≤ 7 := by
  have := tn_1 (bt x 0); have := tn_1 (bt x 1); have := tn_1 (bt x 2); have := tn_1 (bt x 3); have := tn_1 (bt x 4); have := tn_1 (bt x 5); have := tn_1 (bt x 6)
  rw [cnt]; omega
theorem ones_mono {x y : Int32} (h : ∀ j, j < 32 → bt x j = true → bt y j = true) : d_X6_ones x ≤ d_X6_ones y := by
  have h1 := cnt_le x
  have h2 := cnt_le y
  rw [ones_cnt, ones_cnt, nI_leI (by omega) (by omega)]
  have := tn_le (h 0 (by omega)); have := tn_le (h 1 (by omega)); have := tn_le (h 2 (by omega)); have := tn_le (h 3 (by omega)); have := tn_le (h 4 (by omega)); have := tn_le (h 5 (by omega)); have := tn_le (h 6 (by omega))
  rw [cnt, cnt]; omega
theorem sub_le {a b : Nat} (ha : a < 128) (hb : b < 128) (h : ∀ j, j < 32 → bt (nI a) j = true → bt (nI b) j = true) : a ≤ b := by
  have e : nI a &&& nI b = nI a := by
    apply b_ext
    intro i hi
    rw [b_and]
    cases c : bt (nI a) i with
    | false => rfl
    | true => rw [h i hi c]; rfl
  have e2 := congrArg (fun z : Int32 => z.toBitVec.toNat) e
  simp only [Int32.toBitVec_and, BitVec.toNat_and] at e2
  rw [pk_tn (by omega), pk_tn (by omega)] at e2
  have := Nat.and_le_right (n := a) (m := b)
  omega
theorem all_bits : ∀ n, n < 8 → ∀ j, j < 32 → bt (nI (2 ^ n - 1)) j = decide (j < n) := by decide +kernel
theorem bits_lt {a n : Nat} (ha : a < 128) (h7 : n ≤ 7) (h : ∀ j, j < 32 → bt (nI a) j = true → j < n) : a < 2 ^ n := by
  have hp := Nat.two_pow_pos n
  have hp2 : 2 ^ n ≤ 2 ^ 7 := Nat.pow_le_pow_right (by omega) h7
  have := sub_le (b := 2 ^ n - 1) ha (by omega) (fun j hj hb => by rw [all_bits n (by omega) j hj, decide_eq_true (h j hj hb)])
  omega
theorem small_ne9' : ∀ j, j < 128 → ¬ nI j = -9 := by decide +kernel
theorem gather2 {n : Nat} (h7 : n ≤ 7) (p : Nat → Bool) (lp : Nat → Nat → Int32 → Int32) (fin : Int32 → Int32) (h1 : ∀ k acc, lp (k + 1) n acc = fin acc)
    (h2 : ∀ k i acc, i < n → lp (k + 1) i acc = lp k (i + 1) (if p i = true then acc ||| ((1 : Int32) <<< (nI i &&& 31)) else acc)) : lp (n + 1) 0 0 = fin (orS p n) := by
  have h : ∀ (k i : Nat), i ≤ n → n - i < k → lp k i (orS p i) = fin (orS p n) := by
    intro k
    induction k with
    | zero => intro i _ h; omega
    | succ k ih =>
      intro i hi hk
      rcases Nat.lt_or_ge i n with q | q
      · rw [h2 k i _ q]
        exact ih (i + 1) (by omega) (by omega)
      · rw [show i = n by omega, h1]
  exact h (n + 1) 0 (Nat.zero_le _) (by omega)
def dOS (de : Nat → Int32) (among : Int32) (n : Nat) : Int32 := orS (fun i => decide (¬ de i ≤ 0) && bt among i) n
theorem dO_eq {de de' : Nat → Int32} {among : Int32} {n : Nat} (h7 : n ≤ 7) (hd : ∀ j, j < n → de j = de' j) : d_X0_dearOnes de among n = dOS de' among n := by
  rw [d_X0_dearOnes, dOS]
  refine gather2 h7 _ (lp_X0_dearOnes_4 de among n) id (fun k acc => ?_) (fun k i acc hi => ?_)
  · rw [lp_X0_dearOnes_4, if_pos (nI_le (Nat.le_refl n) (by omega))]; rfl
  · rw [lp_X0_dearOnes_4, if_neg (nI_ge hi (by omega)), hd i hi]
    by_cases c : de' i ≤ 0
    · rw [if_pos c, if_neg (by simp [c])]
    · rw [if_neg c]
      by_cases c2 : bt among i = true
      · rw [if_pos (by simp [c, c2])]
        congr 1
        apply b_ext
        intro j hj
        rw [b_or, b_or, b_and, b_sh1 (by omega) hj]
        by_cases q : i = j
        · subst q; rw [c2, Bool.true_and]
        · rw [decide_eq_false q, Bool.and_false]
      · rw [if_neg (by simp [c2])]
        congr 1
        apply b_ext
        intro j hj
        rw [b_or, b_and, b_sh1 (by omega) hj]
        by_cases q : i = j
        · subst q
          have : bt among i = false := by simpa using c2
          rw [this, Bool.false_and, Bool.or_false]
        · rw [decide_eq_false q, Bool.and_false, Bool.or_false]
theorem hU_zero {de ea : Nat → Int32} {S : Int32} : ∀ {n : Nat}, n ≤ 32 → (hU de ea S n = 0 ↔ ∀ j, j < n → bt S j = true → (de j).toNatClampNeg * (ea j).toNatClampNeg = 0) := by
  intro n
  induction n with
  | zero => intro _; exact ⟨fun _ j hj => by omega, fun _ => rfl⟩
  | succ n ih =>
    intro h
    have ih := ih (by omega)
    rw [hU]
    constructor
    · intro e j hj hb
      rcases Nat.lt_or_ge j n with q | q
      · exact ih.mp (by omega) j q hb
      · have ej : j = n := by omega
        subst ej
        rw [if_neg (fun z => by rw [(btI_iff (by omega)).mpr hb] at z; exact absurd z (by decide))] at e
        omega
    · intro e
      rw [ih.mpr (fun j hj => e j (by omega))]
      by_cases c : btI S n = 0
      · rw [if_pos c]
      · rw [if_neg c, e n (by omega) ((btI_iff (by omega)).mp (bt_1 c))]
theorem com_lt {tr ea g : Nat → Int32} {n j : Nat} (h7 : n ≤ 7) (hj : j < 32) (hb : bt (d_X6_comers tr ea g n) j = true) : j < n := by
  rw [X6_comers_eq h7, b_and, b_and, b_and, eag, b_orS _ hj (by omega)] at hb
  simp only [Bool.and_eq_true, decide_eq_true_eq] at hb
  exact hb.1.1.1.1
theorem cov_but {tr g w : Nat → Int32} {n : Nat} (h7 : n ≤ 7) (e1 : w 1 = g 1) (e4 : w 4 = g 4) : d_X6_covered tr w n = d_X6_covered tr g n := by
  rw [X6_covered_eq h7, X6_covered_eq h7, e1, e4]
theorem bool_t : ∀ E a b k i C : Bool, ((E && !a && !b && !((k || i) && C)) && C) = (((E && !a && !b && !(k && C)) && C) && !i) := by decide
theorem bool_s : ∀ E a b k i C : Bool, (E && !a && !(b || i) && !(k && C)) = ((E && !a && !b && !(k && C)) && !i) := by decide
theorem com_tell {tr ea g w : Nat → Int32} {n : Nat} {x : Int32} (h7 : n ≤ 7) (e1 : w 1 = g 1) (e3 : w 3 = g 3) (e4 : w 4 = g 4) (e2 : w 2 = g 2 ||| x) : d_X6_comers tr ea w n &&& d_X6_covered tr w n = (d_X6_comers tr ea g n &&& d_X6_covered tr g n) &&& (x ^^^ (-1)) := by
  rw [cov_but h7 e1 e4, X6_comers_eq h7, X6_comers_eq h7, e1, e2, e3, e4, ← X6_covered_eq h7]
  apply b_ext
  intro j hj
  simp only [b_and, b_or, b_not _ hj]
  exact bool_t _ _ _ _ _ _
theorem com_shut {tr ea g w : Nat → Int32} {n : Nat} {x : Int32} (h7 : n ≤ 7) (e1 : w 1 = g 1) (e2 : w 2 = g 2) (e4 : w 4 = g 4) (e3 : w 3 = g 3 ||| x) : d_X6_comers tr ea w n = d_X6_comers tr ea g n &&& (x ^^^ (-1)) := by
  rw [X6_comers_eq h7, X6_comers_eq h7, e1, e2, e3, e4, ← X6_covered_eq h7]
  apply b_ext
  intro j hj
  simp only [b_and, b_or, b_not _ hj]
  exact bool_s _ _ _ _ _ _
theorem nI0 {x : Int32} (hx : x = nI x.toNatClampNeg) (c : x ≤ 0) (h : x.toNatClampNeg < 2 ^ 31) : x.toNatClampNeg = 0 := by
  rw [hx, show (0 : Int32) = nI 0 from rfl, nI_leI h (by omega)] at c
  omega
theorem q_tell {F G : Nat → Nat → Int32} {n len dd um nx sk : Nat} (h : RLN F G n len dd um nx sk) : d_X5_tell F n = (d_X6_tell G n).1 ∧ RLN F (d_X6_tell G n).2 n len dd um nx sk := by
  refine ⟨?_, ?_⟩
  · rw [d_X5_tell, d_X6_tell, h.com, h.cov]
    obtain ⟨⟨_, _, h7, _, _, _, ht, hd, he, hE, hD, _, _⟩, _⟩ := id h
    rw [dO_eq h7 hd]
    have hDb : ∀ j, j < 32 → bt (dOS (G 4) (d_X6_comers (G 3) (G 5) (G 6) n &&& d_X6_covered (G 3) (G 6) n) n) j = (decide (j < n) && (decide (¬ G 4 j ≤ 0) && bt (d_X6_comers (G 3) (G 5) (G 6) n &&& d_X6_covered (G 3) (G 6) n) j)) := fun j hj => by rw [dOS, b_orS _ hj (by omega)]
    have hsm := small7 (x := dOS (G 4) (d_X6_comers (G 3) (G 5) (G 6) n &&& d_X6_covered (G 3) (G 6) n) n) (fun j h1 h2 => by rw [hDb j h2, decide_eq_false (by omega), Bool.false_and])
    generalize hDe : dOS (G 4) (d_X6_comers (G 3) (G 5) (G 6) n &&& d_X6_covered (G 3) (G 6) n) n = Dx at *
    obtain ⟨eD, hD128⟩ := hsm
    generalize Dx.toNatClampNeg = d at *
    subst eD
    have hdn : d < 2 ^ n := bits_lt hD128 h7 (fun j hj hb => by
      rw [hDb j hj] at hb
      simp only [Bool.and_eq_true, decide_eq_true_eq] at hb
      exact hb.1)
    have hp2 : 2 ^ n ≤ 2 ^ 7 := Nat.pow_le_pow_right (by omega) h7
    have hok : ∀ (i : Nat) (w f : Nat → Int32), w 1 = G 6 1 → w 3 = G 6 3 → w 4 = G 6 4 → w 2 = G 6 2 ||| nI i → (d_X6_harms f (G 3) (G 4) (G 5) w n 25 = 0 ↔ ∀ j, j < 32 → bt (nI d) j = true → bt (nI i) j = true) := by
      intro i w f e1 e3 e4 e2
      rw [hs_25, com_tell h7 e1 e3 e4 e2, dearOf_eq hD hE h7]
      have hle := hU_le hD hE ((d_X6_comers (G 3) (G 5) (G 6) n &&& d_X6_covered (G 3) (G 6) n) &&& (nI i ^^^ (-1))) (Nat.le_refl n)
      rw [show (0 : Int32) = nI 0 from rfl, nI_eq (by omega) (by omega), hU_zero (by omega)]
      constructor
      · intro e j hj hb
        rw [hDb j hj] at hb
        simp only [Bool.and_eq_true, decide_eq_true_eq] at hb
        obtain ⟨b1, b2, b3⟩ := hb
        cases c : bt (nI i) j with
        | true => rfl
        | false =>
          exfalso
          have q := e j b1 (by rw [b_and, b_not _ hj, b3, c]; rfl)
          have hA : bt (d_X6_comers (G 3) (G 5) (G 6) n) j = true := by
            rw [b_and] at b3
            simp only [Bool.and_eq_true] at b3
            exact b3.1
          have hpos := comers_ea h7 b1 hE ((btI_iff hj).mpr hA)
          have hd0 : 0 < (G 4 j).toNatClampNeg := by
            rcases Nat.eq_zero_or_pos (G 4 j).toNatClampNeg with z | z
            · exfalso; apply b2; rw [(hD j b1).1, z]; decide
            · exact z
          have := Nat.mul_pos hd0 hpos
          omega
      · intro e j hj hb
        rw [b_and, b_not _ (by omega)] at hb
        simp only [Bool.and_eq_true] at hb
        obtain ⟨b1, b2⟩ := hb
        have hnd : ¬ bt (nI d) j = true := fun z => by
          rw [e j (by omega) z] at b2
          exact absurd b2 (by decide)
        rw [hDb j (by omega), decide_eq_true hj, b1, Bool.true_and, Bool.and_true] at hnd
        have hc : G 4 j ≤ 0 := by
          by_cases z : G 4 j ≤ 0
          · exact z
          · exact absurd (decide_eq_true z) hnd
        rw [nI0 (hD j hj).1 hc (by have := (hD j hj).2; omega), Nat.zero_mul]
    have hl : ∀ (k i : Nat) (its : Int32) (w f : Nat → Int32), i ≤ 2 ^ n → 2 ^ n - i < k → BUT 2 (G 6) w → (i ≤ d → its = -9) → (d < i → its = nI d) → nI d = (lp_X6_tell_14 G n k i its w f).1 := by
      intro k
      induction k with
      | zero => intro i its w f _ hk; omega
      | succ k ih =>
        intro i its w f hi hk hw h1 h2
        rw [lp_X6_tell_14]
        by_cases c : nI (2 ^ n - 1) < nI i
        · rw [if_pos c]
          rw [nI_ltI (by omega) (by omega)] at c
          exact (h2 (by omega)).symm
        · rw [if_neg c]
          rw [nI_ltI (by omega) (by omega)] at c
          have hk1 := hok i (upd w 2 (G 6 2 ||| nI i)) f (hw 1 (by omega) (by omega)) (hw 3 (by omega) (by omega)) (hw 4 (by omega) (by omega)) rfl
          have hup := hw.up (G 6 2 ||| nI i)
          by_cases c1 : d_X6_harms f (G 3) (G 4) (G 5) (upd w 2 (G 6 2 ||| nI i)) n 25 = 0
          · rw [if_pos c1]
            have hb := hk1.mp c1
            have hle : d ≤ i := sub_le hD128 (by omega) hb
            rcases Nat.lt_or_ge d i with q | q
            · rw [h2 q, if_neg (small_ne9' d hD128), if_pos (ones_mono hb)]
              exact ih _ _ _ _ (by omega) (by omega) hup (fun z => by omega) (fun _ => rfl)
            · have ei : i = d := by omega
              rw [h1 (by omega), if_pos rfl]
              exact ih _ _ _ _ (by omega) (by omega) hup (fun z => by omega) (fun _ => by rw [ei])
          · rw [if_neg c1]
            have hne : ¬ i = d := fun z => c1 (hk1.mpr (fun j _ hb => by rw [z]; exact hb))
            exact ih _ _ _ _ (by omega) (by omega) hup (fun z => h1 (by omega)) (fun z => h2 (by omega))
    exact hl (2 ^ n + 1) 0 (-9) _ _ (by omega) (by omega) (BUT.as 2 _ _) (fun _ => rfl) (fun z => by omega)
  · unfold d_X6_tell
    have : ∀ (k i : Nat) (its : Int32) (w f : Nat → Int32), (∀ q, q = 3 ∨ q = 20 ∨ q = 23 → f q = G 0 q) → RLN F (lp_X6_tell_14 G n k i its w f).2 n len dd um nx sk := by
      intro k
      induction k with
      | zero => intro i its w f _; exact h
      | succ k ih =>
        intro i its w f hf
        rw [lp_X6_tell_14]
        have hf2 : ∀ (g : Nat → Int32) (q : Nat), q = 3 ∨ q = 20 ∨ q = 23 → d_X6_harms f (G 3) (G 4) (G 5) g n q = G 0 q := fun g q hq => by rw [hs_k hq]; exact hf q hq
        (repeat' split) <;> first | exact h.t7h hf _ | exact ih _ _ _ _ (hf2 _)
    exact this _ _ _ _ _ (fun q hq => by rcases hq with rfl | rfl | rfl <;> rfl)
