/-! pure: what class and reference share; the sums -/
def sm (tm : Nat → Int32) : Nat → Int32
  | 0 => 0
  | i + 1 => sm tm i + tm i
theorem sm_cg {f g : Nat → Int32} : ∀ {n : Nat}, (∀ j, j < n → f j = g j) → sm f n = sm g n := by
  intro n
  induction n with
  | zero => intro _; rfl
  | succ n ih => intro h; rw [sm, sm, ih (fun j hj => h j (by omega)), h n (by omega)]
theorem sumlp {n : Nat} (h7 : n ≤ 7) (tm : Nat → Int32) (lp : Nat → Nat → Int32 → Int32)
    (hs : ∀ k i acc, lp (k + 1) i acc = if nI n ≤ nI i then acc else lp k (i + 1) (acc + tm i)) :
    lp (n + 1) 0 0 = sm tm n := by
  have h : ∀ (k i : Nat), i ≤ n → n - i < k → lp k i (sm tm i) = sm tm n := by
    intro k
    induction k with
    | zero => intro i _ h; omega
    | succ k ih =>
      intro i hi hk
      rw [hs]
      by_cases c : nI n ≤ nI i
      · rw [if_pos c]
        have : i = n := by have := le_of c (by omega) (by omega); omega
        rw [this]
      · rw [if_neg c]
        have hlt := nlt_of c (by omega) (by omega)
        exact ih (i + 1) (by omega) (by omega)
  exact h (n + 1) 0 (Nat.zero_le _) (by omega)
theorem bit01 (x : Int32) (i : Nat) : d_X5_bitOf x (nI i) = 0 ∨ d_X5_bitOf x (nI i) = 1 := bt01 _
theorem eT_sm {ea : Nat → Int32} {set : Int32} {n : Nat} (h7 : n ≤ 7) : d_X0_eagerTogether ea set n = sm (fun i => d_X5_bitOf set (nI i) * ea i) n := by
  rw [d_X0_eagerTogether]
  exact sumlp h7 _ (lp_X0_eagerTogether_4 ea set n) (fun k i acc => by rw [lp_X0_eagerTogether_4])
theorem dT_sm {de : Nat → Int32} {set : Int32} {n : Nat} (h7 : n ≤ 7) : d_X0_dearTogether de set n = sm (fun i => d_X5_bitOf set (nI i) * de i) n := by
  rw [d_X0_dearTogether]
  exact sumlp h7 _ (lp_X0_dearTogether_4 de set n) (fun k i acc => by rw [lp_X0_dearTogether_4])
theorem hU_sm {de ea : Nat → Int32} {able cov : Int32} {n : Nat} (h7 : n ≤ 7) : d_X0_harmUpper de ea able cov n = sm (fun i => d_X5_bitOf (able &&& cov) (nI i) * de i * ea i) n := by
  rw [d_X0_harmUpper]
  exact sumlp h7 _ (lp_X0_harmUpper_5 de ea able cov n) (fun k i acc => by rw [lp_X0_harmUpper_5])
theorem eO_sm {ea : Nat → Int32} {set : Int32} {n : Nat} (h7 : n ≤ 7) : d_X6_eagerOf ea set n = sm (fun i => if d_X5_bitOf set (nI i) = 1 then ea i else 0) n := by
  rw [d_X6_eagerOf]
  refine sumlp h7 _ (lp_X6_eagerOf_4 ea set n) (fun k i acc => ?_)
  rw [lp_X6_eagerOf_4]
  by_cases c : nI n ≤ nI i
  · rw [if_pos c, if_pos c]
  · rw [if_neg c, if_neg c]
    by_cases c2 : (set >>> (nI i &&& 31)) &&& (1 : Int32) = 1
    · rw [if_pos c2]; try dsimp only
      rw [if_pos (show d_X5_bitOf set (nI i) = 1 from c2)]
    · rw [if_neg c2]; try dsimp only
      rw [if_neg (show ¬ d_X5_bitOf set (nI i) = 1 from c2)]
theorem dO_sm {de ea : Nat → Int32} {set : Int32} {n : Nat} (h7 : n ≤ 7) : d_X6_dearOf de ea set 1 n = sm (fun i => if d_X5_bitOf set (nI i) = 0 then 0 else de i * ea i) n := by
  rw [d_X6_dearOf]
  refine sumlp h7 _ (lp_X6_dearOf_5 de ea set 1 n) (fun k i acc => ?_)
  rw [lp_X6_dearOf_5]
  by_cases c : nI n ≤ nI i
  · rw [if_pos c, if_pos c]
  · rw [if_neg c, if_neg c, if_neg (show ¬ (1 : Int32) = 0 by decide)]
    by_cases c2 : (set >>> (nI i &&& 31)) &&& (1 : Int32) = 0
    · rw [if_pos c2]; try dsimp only
      rw [if_pos (show d_X5_bitOf set (nI i) = 0 from c2)]
    · rw [if_neg c2]; try dsimp only
      rw [if_neg (show ¬ d_X5_bitOf set (nI i) = 0 from c2)]
theorem dO0_sm {de ea : Nat → Int32} {set : Int32} {n : Nat} (h7 : n ≤ 7) : d_X6_dearOf de ea set 0 n = sm (fun i => if d_X5_bitOf set (nI i) = 0 then 0 else de i) n := by
  rw [d_X6_dearOf]
  refine sumlp h7 _ (lp_X6_dearOf_5 de ea set 0 n) (fun k i acc => ?_)
  rw [lp_X6_dearOf_5]
  by_cases c : nI n ≤ nI i
  · rw [if_pos c, if_pos c]
  · rw [if_neg c, if_neg c, if_pos (show (0 : Int32) = 0 from rfl)]
    by_cases c2 : (set >>> (nI i &&& 31)) &&& (1 : Int32) = 0
    · rw [if_pos c2]; try dsimp only
      rw [if_pos (show d_X5_bitOf set (nI i) = 0 from c2)]
    · rw [if_neg c2]; try dsimp only
      rw [if_neg (show ¬ d_X5_bitOf set (nI i) = 0 from c2)]
theorem eT_eq {ea ea' : Nat → Int32} {set : Int32} {n : Nat} (h7 : n ≤ 7) (he : ∀ j, j < n → ea j = ea' j) : d_X0_eagerTogether ea set n = d_X6_eagerOf ea' set n := by
  rw [eT_sm h7, eO_sm h7]
  refine sm_cg (fun j hj => ?_)
  rw [he j hj]
  rcases bit01 set j with c | c
  · rw [c, if_neg (by decide), Int32.zero_mul]
  · rw [c, if_pos rfl, Int32.one_mul]
theorem dT_eq {de de' ea' : Nat → Int32} {set : Int32} {n : Nat} (h7 : n ≤ 7) (hd : ∀ j, j < n → de j = de' j) : d_X0_dearTogether de set n = d_X6_dearOf de' ea' set 0 n := by
  rw [dT_sm h7, dO0_sm h7]
  refine sm_cg (fun j hj => ?_)
  rw [hd j hj]
  rcases bit01 set j with c | c
  · rw [c, if_pos rfl, Int32.zero_mul]
  · rw [c, if_neg (by decide), Int32.one_mul]
theorem hU_eq {de de' ea ea' : Nat → Int32} {able cov : Int32} {n : Nat} (h7 : n ≤ 7) (hd : ∀ j, j < n → de j = de' j) (he : ∀ j, j < n → ea j = ea' j) : d_X0_harmUpper de ea able cov n = d_X6_dearOf de' ea' (able &&& cov) 1 n := by
  rw [hU_sm h7, dO_sm h7]
  refine sm_cg (fun j hj => ?_)
  rw [hd j hj, he j hj]
  rcases bit01 (able &&& cov) j with c | c
  · rw [c, if_pos rfl, Int32.zero_mul, Int32.zero_mul]
  · rw [c, if_neg (by decide), Int32.one_mul]
theorem sh_eq {ea ea' : Nat → Int32} {able : Int32} {n : Nat} (h7 : n ≤ 7) (he : ∀ j, j < n → ea j = ea' j) (hE : EA ea' n) : d_X0_shares ea able n = nI (mx (eS ea' able n)) := by
  rw [d_X0_shares, eT_eq h7 he, eagerOf_eq hE h7]
  have h2 := eS_le hE able (Nat.le_refl n)
  generalize eS ea' able n = S at *
  rw [show (1 : Int32) = nI 1 from rfl, mx]
  by_cases c : nI 1 < nI S
  · rw [if_pos c]
    rw [nI_ltI (by omega) (by omega)] at c
    rw [if_neg (by omega)]
  · rw [if_neg c]
    rw [nI_ltI (by omega) (by omega)] at c
    rcases (show S = 0 ∨ S = 1 by omega) with rfl | rfl <;> rfl
/-! sets -/
theorem orS_cg {p q : Nat → Bool} : ∀ {n : Nat}, (∀ j, j < n → p j = q j) → orS p n = orS q n := by
  intro n
  induction n with
  | zero => intro _; rfl
  | succ n ih => intro h; rw [orS, orS, ih (fun j hj => h j (by omega)), h n (by omega)]
theorem hav_cg {tr tr' : Nat → Int32} {w : Int32} {n : Nat} (h : ∀ j, j < n → tr j = tr' j) : hav tr w n = hav tr' w n := orS_cg (fun j hj => by rw [h j hj])
theorem eag_cg {ea ea' : Nat → Int32} {n : Nat} (h : ∀ j, j < n → ea j = ea' j) : eag ea n = eag ea' n := orS_cg (fun j hj => by rw [h j hj])
theorem cov_eq {tr tr' u g : Nat → Int32} {w : Int32} {n : Nat} (h7 : n ≤ 7) (ht : ∀ j, j < n → tr j = tr' j) (h1 : g 1 = w) (h4 : g 4 = u 3) : d_X0_coveredBy tr u w n = d_X6_covered tr' g n := by
  rw [X6_covered_eq h7, d_X0_coveredBy, X0_having_eq h7, h1, h4, hav_cg ht]
theorem com_eq {tr tr' ea ea' u g : Nat → Int32} {w : Int32} {n : Nat} (h7 : n ≤ 7) (ht : ∀ j, j < n → tr j = tr' j) (he : ∀ j, j < n → ea j = ea' j) (h1 : g 1 = w) (h2 : g 2 = u 1) (h3 : g 3 = u 2) (h4 : g 4 = u 3) : d_X0_ableBy tr ea u w n = d_X6_comers tr' ea' g n := by
  rw [X6_comers_eq h7, d_X0_ableBy, d_X0_coveredBy, X0_having_eq h7, X0_eagerOnes_eq h7, h1, h2, h3, h4, hav_cg ht, eag_cg he]
theorem cov_small {tr g : Nat → Int32} {n : Nat} (h7 : n ≤ 7) : d_X6_covered tr g n = nI (d_X6_covered tr g n).toNatClampNeg ∧ (d_X6_covered tr g n).toNatClampNeg < 128 := by
  refine small7 (fun j h1 h2 => ?_)
  rw [X6_covered_eq h7, b_and, hav, b_orS _ h2 (by omega), decide_eq_false (by omega)]
  simp
theorem bc_ones : ∀ k, k < 128 → d_J6_bitCount_0f7a4 (nI k) = d_X6_ones (nI k) := by decide +kernel
theorem bc_ones' {x : Int32} (h : x = nI x.toNatClampNeg ∧ x.toNatClampNeg < 128) : d_J6_bitCount_0f7a4 x = d_X6_ones x := by
  rw [h.1]; exact bc_ones _ h.2
/-! small tests -/
theorem in01 (v a b : Int32) : d_X6_in v a b = 0 ∨ d_X6_in v a b = 1 := by
  rw [d_X6_in]; split
  · exact Or.inl rfl
  · split
    · exact Or.inl rfl
    · exact Or.inr rfl
theorem in_or {v : Int32} {m : Nat} (c : ¬ d_X6_in v 0 (nI m) = 0) (hm : m < 2 ^ 31) : ∃ j, j ≤ m ∧ v = nI j := by
  obtain ⟨c1, c2⟩ := in_ok c
  obtain ⟨h1, h2⟩ := ix_le c1 c2 hm
  exact ⟨_, h2, h1⟩
theorem words_eq (x : Int32) : d_X5_areWords x = d_X6_in x 0 31 := rfl
theorem isZ_eq (x : Int32) : d_X5_isZ x = d_X6_in x 0 9999 := rfl
theorem in1_or {x : Int32} (c : ¬ d_X6_in x 0 1 = 0) : x = 0 ∨ x = 1 := by
  obtain ⟨j, hj, e⟩ := in_or (m := 1) c (by omega)
  rcases (show j = 0 ∨ j = 1 by omega) with rfl | rfl
  · exact Or.inl e
  · exact Or.inr e
theorem yn_eq (x : Int32) : d_X5_isYesOrNo x = d_X6_in x 0 1 := by
  by_cases c : d_X6_in x 0 1 = 0
  · rw [c, d_X5_isYesOrNo, if_neg (fun e => by subst e; exact absurd c (by decide)), if_neg (fun e => by subst e; exact absurd c (by decide))]
  · rcases in1_or c with rfl | rfl <;> decide
theorem holds_eq {hf : Nat → Int32} {t : Int32} {n : Nat} (hn : hf 3 = nI n) (h7 : n ≤ 7) : d_X0_holds hf t = d_X6_isThing t n := by
  rw [d_X0_holds, d_X6_isThing, d_X6_in, hn]
  have e : (nI n - 1).toInt = (n : Int) - 1 := by
    rcases (show n = 0 ∨ n = 1 ∨ n = 2 ∨ n = 3 ∨ n = 4 ∨ n = 5 ∨ n = 6 ∨ n = 7 by omega) with rfl | rfl | rfl | rfl | rfl | rfl | rfl | rfl <;> decide +kernel
  by_cases c : t < 0
  · rw [if_pos c, if_pos c]
  · rw [if_neg c, if_neg c]
    have h : nI n ≤ t ↔ nI n - 1 < t := by
      rw [Int32.le_iff_toInt_le, Int32.lt_iff_toInt_lt, e, nI_toInt (by omega)]; omega
    by_cases c2 : nI n ≤ t
    · rw [if_pos c2, if_pos (h.mp c2)]
    · rw [if_neg c2, if_neg (fun q => c2 (h.mpr q))]
/-! fractions -/
theorem cd_lp (X Y : Int32) : ∀ (m x y i k : Nat), x < 2 ^ 31 → y < 2 ^ m → m ≤ 20 → i + 2 * m ≤ 49 → 50 - i < k → lp_X5_commonDivisor_7 X Y k i (nI x) (nI y) = nI (Nat.gcd x y) := by
  have h50 : ∀ {i : Nat}, i ≤ 49 → ¬ (50 : Int32) ≤ nI i := fun {i} h q => by
    have := le_of (a := i) (b := 50) q (by omega) (by omega)
    omega
  intro m
  induction m with
  | zero =>
    intro x y i k hx hy _ hi hk
    obtain ⟨k, rfl⟩ : ∃ k', k = k' + 1 := ⟨k - 1, by omega⟩
    have e : y = 0 := by omega
    subst e
    rw [lp_X5_commonDivisor_7, if_neg (h50 (by omega)), if_pos (show nI 0 = 0 from rfl), Nat.gcd_zero_right]
  | succ m ih =>
    intro x y i k hx hy hm hi hk
    have hp : (2 : Nat) ^ (m + 1) = 2 * 2 ^ m := by rw [Nat.pow_succ]; omega
    have hp2 : (2 : Nat) ^ m ≤ 2 ^ 19 := Nat.pow_le_pow_right (by omega) (by omega)
    obtain ⟨k, rfl⟩ : ∃ k', k = k' + 1 + 1 := ⟨k - 2, by omega⟩
    rw [lp_X5_commonDivisor_7, if_neg (h50 (by omega))]
    by_cases c : y = 0
    · subst c; rw [if_pos (show nI 0 = 0 from rfl), Nat.gcd_zero_right]
    · rw [if_neg (nI_ne0 (by omega) (by omega)), pk_rem hx (by omega) (by omega), lp_X5_commonDivisor_7, if_neg (h50 (by omega))]
      have hr := Nat.mod_lt x (show 0 < y by omega)
      have hg : Nat.gcd x y = Nat.gcd y (x % y) := by rw [Nat.gcd_comm y, ← Nat.gcd_rec, Nat.gcd_comm]
      generalize x % y = r at *
      by_cases c2 : r = 0
      · subst c2; rw [if_pos (show nI 0 = 0 from rfl), hg, Nat.gcd_zero_right]
      · rw [if_neg (nI_ne0 (by omega) (by omega)), pk_rem (by omega) (by omega) (by omega)]
        have hr2 := Nat.mod_lt y (show 0 < r by omega)
        have hd := Nat.div_add_mod y r
        have hq : 0 < y / r := Nat.div_pos (by omega) (by omega)
        have hq2 : r ≤ r * (y / r) := Nat.le_mul_of_pos_right r hq
        rw [ih r (y % r) (i + 1 + 1) k (by omega) (by omega) (by omega) (by omega) (by omega), hg, Nat.gcd_comm r, ← Nat.gcd_rec, Nat.gcd_comm]
theorem cd_eq {x y : Nat} (hx : x < 2 ^ 31) (hy : y < 2 ^ 20) : d_X5_commonDivisor (nI x) (nI y) = nI (Nat.gcd x y) := by
  rw [d_X5_commonDivisor]
  exact cd_lp _ _ 20 x y 0 51 hx hy (by omega) (by omega) (by omega)
theorem part_eq {up lo what : Int32} {b : Nat} (hlo : lo = nI b) (h0 : 0 < b) (hb : b < 2 ^ 20) (hup : -2147483648 < up.toInt) : d_X5_partOf up lo what = d_X6_part up lo what up.toInt.natAbs lo.toNatClampNeg := by
  obtain ⟨e1, e2⟩ := part_a hup
  rw [d_X5_partOf, d_X6_part, Int32.zero_sub, e1, hlo, nI_clamp (by omega), cd_eq e2 hb, gcd_eq e2 (by omega)]
  have h1 := Nat.gcd_pos_of_pos_right up.toInt.natAbs h0
  have h2 := Nat.gcd_le_right up.toInt.natAbs h0
  rw [if_neg (nI_ne0 h1 (by omega))]
