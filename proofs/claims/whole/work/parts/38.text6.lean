/-! the reference at a place -/
/-- the reference has looked at what stands at s -/
def LKs (tx : Nat → Int32) (len : Nat) (f : Nat → Int32) (s : Nat) : Prop := f 6 = nI s ∧
  (¬ s < len → f 5 = 0) ∧
  (s < len → d_X6_in (tx s) 48 57 = 1 → f 4 = nI (scn tx len (len + 1) s 0).1 ∧
    ((999 < (scn tx len (len + 1) s 0).2 ∨ (tx s = 48 ∧ s + 1 < (scn tx len (len + 1) s 0).1)) → f 5 = 4) ∧
    (¬ (999 < (scn tx len (len + 1) s 0).2 ∨ (tx s = 48 ∧ s + 1 < (scn tx len (len + 1) s 0).1)) → f 5 = 2 ∧ f 7 = nI (scn tx len (len + 1) s 0).2)) ∧
  (s < len → ¬ d_X6_in (tx s) 48 57 = 1 → f 4 = nI (s + 1) ∧ f 7 = tx s ∧
    (tx s = 59 → f 5 = 3) ∧ (tx s = 116 ∨ tx s = 118 ∨ tx s = 119 → f 5 = 1) ∧
    (¬ tx s = 59 → ¬ (tx s = 116 ∨ tx s = 118 ∨ tx s = 119) → f 5 = 4))
/-- the reference looks at what stands from p on -/
def LK (tx : Nat → Int32) (len : Nat) (f : Nat → Int32) (p : Nat) : Prop := f 3 = nI len ∧ PX f len ∧ p ≤ len ∧ len ≤ 200 ∧ LKs tx len f (skp tx len 201 p)
theorem la_in {tx : Nat → Int32} {len j : Nat} (hj : j < len) (hl : len ≤ 200) : d_X6_letterAt tx len j = tx j := by
  rw [d_X6_letterAt, if_neg (nI_ge hj (by omega))]
theorem la_out {tx : Nat → Int32} {len j : Nat} (hj : len ≤ j) (hl : j ≤ 200) : d_X6_letterAt tx len j = -1 := by
  rw [d_X6_letterAt, if_pos (nI_le hj (by omega))]
theorem scn_fuel {tx : Nat → Int32} {len : Nat} : ∀ k k' j v, len - j < k → len - j < k' → scn tx len k j v = scn tx len k' j v := by
  intro k
  induction k with
  | zero => intro k' j v h; omega
  | succ k ih =>
    intro k' j v h1 h2
    obtain ⟨k', rfl⟩ : ∃ k'', k' = k'' + 1 := ⟨k' - 1, by omega⟩
    rw [scn, scn]
    by_cases c : j < len ∧ d_X6_in (tx j) 48 57 = 1
    · rw [if_pos c, if_pos c]; exact ih _ _ _ (by omega) (by omega)
    · rw [if_neg c, if_neg c]
theorem adv71s {f0 tx : Nat → Int32} {len s : Nat} {cc : Int32} (h200 : len ≤ 200) : ∀ (k : Nat) (j v : Nat) (f : Nat → Int32) (w : Nat), len - j < k → j ≤ len → s ≤ j → f 4 = nI j → f 6 = nI s → f 7 = nI w → ((w ≤ 999 ∧ v = w) ∨ (1000 ≤ w ∧ w ≤ 9999 ∧ v = 1000)) →
    lp_X6_advances_71 f0 tx len k f cc 6 = nI s ∧ lp_X6_advances_71 f0 tx len k f cc 4 = nI (scn tx len k j v).1 ∧
    ((999 < (scn tx len k j v).2 ∨ (cc = 48 ∧ s + 1 < (scn tx len k j v).1)) → lp_X6_advances_71 f0 tx len k f cc 5 = 4) ∧
    (¬ (999 < (scn tx len k j v).2 ∨ (cc = 48 ∧ s + 1 < (scn tx len k j v).1)) → lp_X6_advances_71 f0 tx len k f cc 5 = 2 ∧ lp_X6_advances_71 f0 tx len k f cc 7 = nI (scn tx len k j v).2) := by
  intro k
  induction k with
  | zero => intro j v f w hk; omega
  | succ k ih =>
    intro j v f w hk hj hs f4 f6 f7 hv
    rw [lp_X6_advances_71, scn, f4, f6, f7, nI_clamp (by omega)]
    by_cases c : j < len ∧ d_X6_in (tx j) 48 57 = 1
    · obtain ⟨a1, a2, a3, a4, a5⟩ := in48 c.2
      rw [la_in c.1 h200, if_neg (show ¬ d_X6_in (tx j) 48 57 = 0 by rw [c.2]; decide), if_pos c]
      rcases hv with ⟨hw, rfl⟩ | ⟨hw, hw2, rfl⟩
      · have e : ((10 : Int32) * nI v + tx j) - (48 : Int32) = nI (10 * v + ((tx j).toNatClampNeg - 48)) := by
          rw [a1, show (10 : Int32) = nI 10 from rfl, show (48 : Int32) = nI 48 from rfl, pk_mul, nI_add, pk_sub (by omega), nI_clamp (by omega)]
          congr 1; omega
        rw [if_pos (show nI v ≤ 999 from nI_le (b := 999) hw (by omega)), e]
        refine ih (j + 1) _ _ (10 * v + ((tx j).toNatClampNeg - 48)) (by omega) (by omega) (by omega) (nI_1 j) f6 rfl ?_
        by_cases q : 1000 < 10 * v + ((tx j).toNatClampNeg - 48)
        · rw [if_pos q]; exact Or.inr ⟨by omega, by omega, rfl⟩
        · rw [if_neg q]
          rcases Nat.lt_or_ge (10 * v + ((tx j).toNatClampNeg - 48)) 1000 with z | z
          · exact Or.inl ⟨by omega, rfl⟩
          · exact Or.inr ⟨z, by omega, by omega⟩
      · rw [if_neg (show ¬ nI w ≤ 999 from nI_ge (a := 999) (by omega) (by omega))]
        refine ih (j + 1) _ _ w (by omega) (by omega) (by omega) (nI_1 j) f6 rfl ?_
        rw [if_pos (show 1000 < 10 * 1000 + ((tx j).toNatClampNeg - 48) by omega)]
        exact Or.inr ⟨hw, hw2, rfl⟩
    · have hin : d_X6_in (d_X6_letterAt tx len j) 48 57 = 0 := by
        rcases Nat.lt_or_ge j len with q | q
        · rw [la_in q h200]
          exact (in01 _ _ _).resolve_right (fun z => c ⟨q, z⟩)
        · rw [la_out q (by omega)]; decide
      rw [if_pos hin, if_neg c]
      dsimp only
      rcases hv with ⟨hw, rfl⟩ | ⟨hw, hw2, rfl⟩
      · rw [if_neg (show ¬ (999 : Int32) < nI v from nI_nlt (a := 999) hw (by omega)), pk_sub hs]
        by_cases q : cc = 48
        · rw [if_pos q]
          by_cases q2 : s + 1 < j
          · rw [if_neg (show ¬ nI (j - s) ≤ 1 from nI_ge (a := 1) (by omega) (by omega))]
            exact ⟨f6, f4, fun _ => rfl, fun z => absurd (Or.inr ⟨q, q2⟩) z⟩
          · rw [if_pos (show nI (j - s) ≤ 1 from nI_le (b := 1) (by omega) (by omega))]
            refine ⟨f6, f4, fun z => ?_, fun _ => ⟨rfl, f7⟩⟩
            rcases z with z | z
            · omega
            · exact absurd z.2 q2
        · rw [if_neg q]
          refine ⟨f6, f4, fun z => ?_, fun _ => ⟨rfl, f7⟩⟩
          rcases z with z | z
          · omega
          · exact absurd z.1 q
      · rw [if_pos (show (999 : Int32) < nI w from nI_lt (a := 999) (by omega) (by omega))]
        exact ⟨f6, f4, fun _ => rfl, fun z => absurd (Or.inl (by omega)) z⟩
/-- letters are 0 to 255 -/
def LT (tx : Nat → Int32) (len : Nat) : Prop := ∀ j, j < len → ∃ x, x ≤ 255 ∧ tx j = nI x
theorem in48_of {x : Int32} {y : Int32} (h : x = y) (hy : d_X6_in y 48 57 = 0) : ¬ d_X6_in x 48 57 = 1 := by rw [h, hy]; decide
theorem adv_LK {f tx : Nat → Int32} {len p : Nat} (hT : LT tx len) (h3 : f 3 = nI len) (h4 : f 4 = nI p) (hp : p ≤ len) (h200 : len ≤ 200) : LK tx len (d_X6_advances f tx len) p ∧ SAME f (d_X6_advances f tx len) := by
  obtain ⟨k1, k2, k3⟩ := adv_ok (f := f) (tx := tx) (len := len) ⟨h3, h200, p, hp, h4⟩
  refine ⟨⟨(k3 3 (by decide)).trans h3, k1, hp, h200, ?_⟩, k3⟩
  have hl : ∀ (k q : Nat) (g : Nat → Int32), q ≤ len → len - q < k → g 4 = nI q → LKs tx len (lp_X6_advances_0 f tx len k g) (skp tx len k q) := by
    intro k
    induction k with
    | zero => intro q g _ h; omega
    | succ k ih =>
      intro q g hq hk g4
      rw [lp_X6_advances_0, skp, g4, nI_clamp (by omega)]
      by_cases c : q < len ∧ tx q = 32
      · rw [la_in c.1 h200, if_pos c.2, if_pos c]
        exact ih (q + 1) _ (by omega) (by omega) (nI_1 q)
      · rw [if_neg c]
        rcases Nat.lt_or_ge q len with z | z
        · rw [la_in z h200, if_neg (fun e => c ⟨z, e⟩)]
          obtain ⟨x, hx, ex⟩ := hT q z
          rw [if_pos (show 0 ≤ tx q by rw [ex]; exact nI_pos' (by omega))]
          by_cases d : d_X6_in (tx q) 48 57 = 1
          · rw [if_neg (show ¬ d_X6_in (tx q) 48 57 = 0 by rw [d]; decide)]
            obtain ⟨r1, r2, r3, r4⟩ := adv71s (f0 := f) (tx := tx) (len := len) (s := q) (cc := tx q) h200 201 q 0 (upd (upd g 6 (nI q)) 7 0) 0 (by omega) hq (Nat.le_refl _) g4 rfl rfl (Or.inl ⟨by omega, rfl⟩)
            rw [scn_fuel 201 (len + 1) q 0 (by omega) (by omega)] at r2 r3 r4
            exact ⟨r1, fun y => absurd z y, fun _ _ => ⟨r2, r3, r4⟩, fun _ y => absurd d y⟩
          · rw [if_pos ((in01 _ _ _).resolve_right d)]
            refine ⟨?_, fun y => absurd z y, fun _ y => absurd y d, fun _ _ => ?_⟩
            · (repeat' split) <;> rfl
            · by_cases w1 : tx q = 59
              · rw [if_pos w1]
                refine ⟨nI_1 q, rfl, fun _ => rfl, fun y => ?_, fun y => absurd w1 y⟩
                rw [w1] at y
                exact absurd y (by decide)
              · rw [if_neg w1]
                by_cases w2 : tx q = 116
                · rw [if_pos w2]
                  exact ⟨nI_1 q, rfl, fun y => absurd y w1, fun _ => rfl, fun _ y => absurd (Or.inl w2) y⟩
                · rw [if_neg w2]
                  by_cases w3 : tx q = 118
                  · rw [if_pos w3]
                    exact ⟨nI_1 q, rfl, fun y => absurd y w1, fun _ => rfl, fun _ y => absurd (Or.inr (Or.inl w3)) y⟩
                  · rw [if_neg w3]
                    by_cases w4 : tx q = 119
                    · rw [if_pos w4]
                      exact ⟨nI_1 q, rfl, fun y => absurd y w1, fun _ => rfl, fun _ y => absurd (Or.inr (Or.inr w4)) y⟩
                    · rw [if_neg w4]
                      refine ⟨nI_1 q, rfl, fun y => absurd y w1, fun y => ?_, fun _ _ => rfl⟩
                      rcases y with y | y | y
                      · exact absurd y w2
                      · exact absurd y w3
                      · exact absurd y w4
        · rw [la_out z (by omega), if_neg (by decide), if_neg (by decide)]
          exact ⟨rfl, fun _ => rfl, fun y => absurd y (by omega), fun y => absurd y (by omega)⟩
  exact hl 201 p f hp (by omega) h4
/-- a fault stands -/
def FB (f g : Nat → Int32) (s : Nat) : Prop := g 8 = nI s ∧ s ≤ 200 ∧ ∀ k, k = 3 ∨ k = 20 ∨ k = 23 → g k = f k
theorem isWell_m1 {f : Nat → Int32} (h : f 8 = -1) : d_X6_isWell f = 1 := by rw [d_X6_isWell, h]; decide
theorem isWell_nI {f : Nat → Int32} {s : Nat} (h : f 8 = nI s) (hs : s ≤ 200) : d_X6_isWell f = 0 := by
  rw [d_X6_isWell, h, if_pos (nI_pos' (by omega))]
theorem skp_in {tx : Nat → Int32} {len p : Nat} (hp : p ≤ len) (h200 : len ≤ 200) : p ≤ skp tx len 201 p ∧ skp tx len 201 p ≤ len := by
  have := skp_ok (tx := tx) (len := len) 201 p hp (by omega)
  exact ⟨this.1, this.2.1⟩
theorem scn_dig {tx : Nat → Int32} {len s : Nat} : (scn tx len (len + 1) s 0).1 = s ∨ s < len ∧ d_X6_in (tx s) 48 57 = 1 := by
  rw [scn]
  by_cases c : s < len ∧ d_X6_in (tx s) 48 57 = 1
  · exact Or.inr c
  · rw [if_neg c]; exact Or.inl rfl
theorem scn_dig2 {tx : Nat → Int32} {len s : Nat} (h : s < len ∧ d_X6_in (tx s) 48 57 = 1) : s < (scn tx len (len + 1) s 0).1 := by
  rw [scn, if_pos h]
  have := scn_ok (tx := tx) (len := len) len (s + 1) (if 1000 < 10 * 0 + ((tx s).toNatClampNeg - 48) then 1000 else 10 * 0 + ((tx s).toNatClampNeg - 48)) (by omega) (by split <;> omega)
  omega
/-- a number, or a fault, at both -/
theorem NS {t f le tx : Nat → Int32} {len p M : Nat} (hT : LT tx len) (h : CT t len p) (hle : ∀ j, j < len → le j = tx j) (hL : LK tx len f p) (h8 : f 8 = -1) (hM : M ≤ 999) :
    (∃ v e, v ≤ M ∧ p < e ∧ (d_X4_readNumber t le (nI M) len).1 = nI v ∧ CT (d_X4_readNumber t le (nI M) len).2 len e ∧ KP t (d_X4_readNumber t le (nI M) len).2 ∧ (d_X6_number f tx 0 (nI M) len).1 = nI v ∧ LK tx len (d_X6_number f tx 0 (nI M) len).2 e ∧ SAME f (d_X6_number f tx 0 (nI M) len).2) ∨
    (∃ s, (d_X4_readNumber t le (nI M) len).1 = -1 ∧ CT (d_X4_readNumber t le (nI M) len).2 len s ∧ KP t (d_X4_readNumber t le (nI M) len).2 ∧ FB f (d_X6_number f tx 0 (nI M) len).2 s) := by
  obtain ⟨g1, g2⟩ := cs_num h hle hM
  obtain ⟨l1, l2, l3, l4, l5, l6, l7, l8⟩ := hL
  obtain ⟨k1, k2⟩ := skp_in (tx := tx) l3 l4
  have hw := isWell_m1 h8
  have hw0 : ¬ d_X6_isWell f = 0 := by rw [hw]; decide
  have bad : d_X6_number f tx 0 (nI M) len = (0, upd f 8 (f 6)) → BADN tx len (skp tx len 201 p) M → ∃ s, (d_X4_readNumber t le (nI M) len).1 = -1 ∧ CT (d_X4_readNumber t le (nI M) len).2 len s ∧ KP t (d_X4_readNumber t le (nI M) len).2 ∧ FB f (d_X6_number f tx 0 (nI M) len).2 s := fun e b => by
    obtain ⟨r1, r2, r3⟩ := g1 b
    refine ⟨_, r1, r2, r3, ?_⟩
    rw [e]
    exact ⟨l5, by omega, fun k hk => by rcases hk with rfl | rfl | rfl <;> rfl⟩
  have t0 : d_X6_takes f tx 0 len = (0, upd f 8 (f 6)) := by rw [d_X6_takes, if_neg hw0, if_pos rfl]
  have t1 : d_X6_takes f tx 1 len = (f 7, d_X6_advances f tx len) := by rw [d_X6_takes, if_neg hw0, if_neg (by decide)]
  rcases scn_dig (tx := tx) (len := len) (s := skp tx len 201 p) with q | q
  · right
    refine bad ?_ (Or.inl q)
    have h5 : ¬ f 5 = 2 := by
      rcases Nat.lt_or_ge (skp tx len 201 p) len with z | z
      · by_cases d : d_X6_in (tx (skp tx len 201 p)) 48 57 = 1
        · have := scn_dig2 ⟨z, d⟩; omega
        · obtain ⟨a1, a2, a3, a4, a5⟩ := l8 z d
          by_cases w1 : tx (skp tx len 201 p) = 59
          · rw [a3 w1]; decide
          · by_cases w2 : tx (skp tx len 201 p) = 116 ∨ tx (skp tx len 201 p) = 118 ∨ tx (skp tx len 201 p) = 119
            · rw [a4 w2]; decide
            · rw [a5 w1 w2]; decide
      · rw [l6 (by omega)]; decide
    rw [d_X6_number, if_neg h5, t0]
  · obtain ⟨a1, a2, a3⟩ := l7 q.1 q.2
    have hgt := scn_dig2 q
    obtain ⟨o1, o2, o3⟩ := scn_ok (tx := tx) (len := len) (len + 1) (skp tx len 201 p) 0 k2 (by omega)
    by_cases w : 999 < (scn tx len (len + 1) (skp tx len 201 p) 0).2 ∨ (tx (skp tx len 201 p) = 48 ∧ skp tx len 201 p + 1 < (scn tx len (len + 1) (skp tx len 201 p) 0).1)
    · right
      refine bad ?_ ?_
      · rw [d_X6_number, if_neg (by rw [a2 w]; decide), t0]
      · rcases w with w | w
        · exact Or.inr (Or.inr (by omega))
        · exact Or.inr (Or.inl ⟨w.2, w.1⟩)
    · obtain ⟨b1, b2⟩ := a3 w
      by_cases y : (scn tx len (len + 1) (skp tx len 201 p) 0).2 ≤ M
      · left
        have hnb : ¬ BADN tx len (skp tx len 201 p) M := fun z => by
          rcases z with z | z | z
          · omega
          · exact w (Or.inr ⟨z.2, z.1⟩)
          · omega
        obtain ⟨r1, r2, r3⟩ := g2 hnb
        have hn : d_X6_number f tx 0 (nI M) len = (f 7, d_X6_advances f tx len) := by
          rw [d_X6_number, if_pos b1, b2, d_X6_in, if_neg (nI_pos (by omega)), if_neg (nI_nlt y (by omega)), if_neg (by decide), t1, b2]
        rw [hn]
        obtain ⟨v1, v2⟩ := adv_LK (f := f) hT l1 a1 o2 l4
        exact ⟨_, _, y, by omega, r1, r2, r3, b2, v1, v2⟩
      · right
        refine bad ?_ (Or.inr (Or.inr (by omega)))
        rw [d_X6_number, if_pos b1, b2, d_X6_in, if_neg (nI_pos (by omega)), if_pos (nI_lt (by omega) (by omega)), if_pos rfl, t0]
/-- what the reference does at an item's end -/
def tkS (f tx : Nat → Int32) (len : Nat) : Nat → Int32 := if f 5 = 3 then (d_X6_takes f tx 1 len).2 else (d_X6_takes f tx 0 len).2
theorem ES {t f le tx : Nat → Int32} {len p : Nat} (hT : LT tx len) (h : CT t len p) (hle : ∀ j, j < len → le j = tx j) (hL : LK tx len f p) (h8 : f 8 = -1) :
    (∃ e, p < e ∧ (d_X4_readEnd t le).1 = 1 ∧ CT (d_X4_readEnd t le).2 len e ∧ KP t (d_X4_readEnd t le).2 ∧ LK tx len (tkS f tx len) e ∧ SAME f (tkS f tx len)) ∨
    (∃ s, (d_X4_readEnd t le).1 = 0 ∧ CT (d_X4_readEnd t le).2 len s ∧ KP t (d_X4_readEnd t le).2 ∧ FB f (tkS f tx len) s) := by
  obtain ⟨g1, g2⟩ := cs_end h hle
  obtain ⟨l1, l2, l3, l4, l5, l6, l7, l8⟩ := hL
  obtain ⟨k1, k2⟩ := skp_in (tx := tx) l3 l4
  have hw := isWell_m1 h8
  have hw0 : ¬ d_X6_isWell f = 0 := by rw [hw]; decide
  have t0 : d_X6_takes f tx 0 len = (0, upd f 8 (f 6)) := by rw [d_X6_takes, if_neg hw0, if_pos rfl]
  have t1 : d_X6_takes f tx 1 len = (f 7, d_X6_advances f tx len) := by rw [d_X6_takes, if_neg hw0, if_neg (by decide)]
  by_cases c : skp tx len 201 p < len ∧ tx (skp tx len 201 p) = 59
  · left
    obtain ⟨r1, r2, r3⟩ := g1 c
    obtain ⟨a1, a2, a3, a4, a5⟩ := l8 c.1 (in48_of c.2 (by decide))
    rw [tkS, if_pos (a3 c.2), t1]
    obtain ⟨v1, v2⟩ := adv_LK (f := f) (p := skp tx len 201 p + 1) hT l1 a1 (by omega) l4
    exact ⟨_, by omega, r1, r2, r3, v1, v2⟩
  · right
    obtain ⟨r1, r2, r3⟩ := g2 c
    have h5 : ¬ f 5 = 3 := by
      rcases Nat.lt_or_ge (skp tx len 201 p) len with z | z
      · by_cases d : d_X6_in (tx (skp tx len 201 p)) 48 57 = 1
        · obtain ⟨a1, a2, a3⟩ := l7 z d
          by_cases w : 999 < (scn tx len (len + 1) (skp tx len 201 p) 0).2 ∨ (tx (skp tx len 201 p) = 48 ∧ skp tx len 201 p + 1 < (scn tx len (len + 1) (skp tx len 201 p) 0).1)
          · rw [a2 w]; decide
          · rw [(a3 w).1]; decide
        · obtain ⟨a1, a2, a3, a4, a5⟩ := l8 z d
          have w1 : ¬ tx (skp tx len 201 p) = 59 := fun e => c ⟨z, e⟩
          by_cases w2 : tx (skp tx len 201 p) = 116 ∨ tx (skp tx len 201 p) = 118 ∨ tx (skp tx len 201 p) = 119
          · rw [a4 w2]; decide
          · rw [a5 w1 w2]; decide
      · rw [l6 (by omega)]; decide
    rw [tkS, if_neg h5, t0]
    exact ⟨_, r1, r2, r3, l5, by omega, fun k hk => by rcases hk with rfl | rfl | rfl <;> rfl⟩
theorem num_nw {f tx : Nat → Int32} {len s : Nat} {lo hi : Int32} (h : f 8 = nI s) (hs : s ≤ 200) : d_X6_number f tx lo hi len = (0, f) := by
  have h0 := isWell_nI h hs
  rw [d_X6_number, takes_nw h0, takes_nw h0]
  split
  · split <;> rfl
  · rfl
theorem tkS_nw {f tx : Nat → Int32} {len s : Nat} (h : f 8 = nI s) (hs : s ≤ 200) : tkS f tx len = f := by
  have h0 := isWell_nI h hs
  rw [tkS, takes_nw h0, takes_nw h0]
  split <;> rfl
