/-! items of the text -/
theorem LK.far {tx f : Nat → Int32} {len p k : Nat} (h : LK tx len f p) (hk : k = 10 ∨ k = 14) (x : Int32) : LK tx len (upd f k x) p := by
  obtain ⟨l1, l2, l3, l4, l5⟩ := h
  refine ⟨?_, l2.far hk x, l3, l4, ?_⟩
  · rcases hk with rfl | rfl <;> exact l1
  · rcases hk with rfl | rfl <;> exact l5
theorem CT.nx {t : Nat → Int32} {len s : Nat} (h : CT t len s) (hs : s < len) : CT (upd t 2 (t 2 + 1)) len (s + 1) := by
  obtain ⟨a, b, c, d⟩ := h
  exact ⟨a, by show t 2 + 1 = _; rw [b]; exact nI_1 s, by omega, d⟩
theorem nlt0 {v : Nat} (h : v < 2 ^ 31) : 0 ≤ nI v ∧ ¬ nI v < 0 := ⟨nI_pos' h, nI_pos h⟩
theorem m1lt : ¬ (0 : Int32) ≤ -1 ∧ (-1 : Int32) < 0 := by decide
theorem FB.tr {f g k : Nat → Int32} {s : Nat} (h1 : SAME f g) (h2 : FB g k s) : FB f k s := ⟨h2.1, h2.2.1, fun q hq => (h2.2.2 q hq).trans (h1 q (by omega))⟩
theorem rt_body {ts le hf tr de ea : Nat → Int32} {len kk : Nat} : d_X4_readThing ts le hf tr de ea len kk = if 0 ≤ ((d_X4_readNumber (upd ts 2 ((ts 2) + (1 : Int32))) le (nI 31) len).1) then if 0 ≤ ((d_X4_readNumber ((d_X4_readNumber (upd ts 2 ((ts 2) + (1 : Int32))) le (nI 31) len).2) le (nI 99) len).1) then if 0 ≤ ((d_X4_readNumber ((d_X4_readNumber ((d_X4_readNumber (upd ts 2 ((ts 2) + (1 : Int32))) le (nI 31) len).2) le (nI 99) len).2) le (nI 9) len).1) then if ((d_X4_readNumber ((d_X4_readNumber ((d_X4_readNumber ((d_X4_readNumber (upd ts 2 ((ts 2) + (1 : Int32))) le (nI 31) len).2) le (nI 99) len).2) le (nI 9) len).2) le (nI 1) len).1) < 0 then (0, ((d_X4_readNumber ((d_X4_readNumber ((d_X4_readNumber ((d_X4_readNumber (upd ts 2 ((ts 2) + (1 : Int32))) le (nI 31) len).2) le (nI 99) len).2) le (nI 9) len).2) le (nI 1) len).2), hf, tr, de, ea) else if ((d_X4_readEnd ((d_X4_readNumber ((d_X4_readNumber ((d_X4_readNumber ((d_X4_readNumber (upd ts 2 ((ts 2) + (1 : Int32))) le (nI 31) len).2) le (nI 99) len).2) le (nI 9) len).2) le (nI 1) len).2) le).1) = 0 then (0, ((d_X4_readEnd ((d_X4_readNumber ((d_X4_readNumber ((d_X4_readNumber ((d_X4_readNumber (upd ts 2 ((ts 2) + (1 : Int32))) le (nI 31) len).2) le (nI 99) len).2) le (nI 9) len).2) le (nI 1) len).2) le).2), hf, tr, de, ea) else (1, ((d_X4_readEnd ((d_X4_readNumber ((d_X4_readNumber ((d_X4_readNumber ((d_X4_readNumber (upd ts 2 ((ts 2) + (1 : Int32))) le (nI 31) len).2) le (nI 99) len).2) le (nI 9) len).2) le (nI 1) len).2) le).2), ((d_X0_add hf tr de ea ((d_X4_readNumber (upd ts 2 ((ts 2) + (1 : Int32))) le (nI 31) len).1) ((d_X4_readNumber ((d_X4_readNumber (upd ts 2 ((ts 2) + (1 : Int32))) le (nI 31) len).2) le (nI 99) len).1) ((d_X4_readNumber ((d_X4_readNumber ((d_X4_readNumber (upd ts 2 ((ts 2) + (1 : Int32))) le (nI 31) len).2) le (nI 99) len).2) le (nI 9) len).1) ((d_X4_readNumber ((d_X4_readNumber ((d_X4_readNumber ((d_X4_readNumber (upd ts 2 ((ts 2) + (1 : Int32))) le (nI 31) len).2) le (nI 99) len).2) le (nI 9) len).2) le (nI 1) len).1)  kk).1), ((d_X0_add hf tr de ea ((d_X4_readNumber (upd ts 2 ((ts 2) + (1 : Int32))) le (nI 31) len).1) ((d_X4_readNumber ((d_X4_readNumber (upd ts 2 ((ts 2) + (1 : Int32))) le (nI 31) len).2) le (nI 99) len).1) ((d_X4_readNumber ((d_X4_readNumber ((d_X4_readNumber (upd ts 2 ((ts 2) + (1 : Int32))) le (nI 31) len).2) le (nI 99) len).2) le (nI 9) len).1) ((d_X4_readNumber ((d_X4_readNumber ((d_X4_readNumber ((d_X4_readNumber (upd ts 2 ((ts 2) + (1 : Int32))) le (nI 31) len).2) le (nI 99) len).2) le (nI 9) len).2) le (nI 1) len).1)  kk).2.1), ((d_X0_add hf tr de ea ((d_X4_readNumber (upd ts 2 ((ts 2) + (1 : Int32))) le (nI 31) len).1) ((d_X4_readNumber ((d_X4_readNumber (upd ts 2 ((ts 2) + (1 : Int32))) le (nI 31) len).2) le (nI 99) len).1) ((d_X4_readNumber ((d_X4_readNumber ((d_X4_readNumber (upd ts 2 ((ts 2) + (1 : Int32))) le (nI 31) len).2) le (nI 99) len).2) le (nI 9) len).1) ((d_X4_readNumber ((d_X4_readNumber ((d_X4_readNumber ((d_X4_readNumber (upd ts 2 ((ts 2) + (1 : Int32))) le (nI 31) len).2) le (nI 99) len).2) le (nI 9) len).2) le (nI 1) len).1)  kk).2.2.1), ((d_X0_add hf tr de ea ((d_X4_readNumber (upd ts 2 ((ts 2) + (1 : Int32))) le (nI 31) len).1) ((d_X4_readNumber ((d_X4_readNumber (upd ts 2 ((ts 2) + (1 : Int32))) le (nI 31) len).2) le (nI 99) len).1) ((d_X4_readNumber ((d_X4_readNumber ((d_X4_readNumber (upd ts 2 ((ts 2) + (1 : Int32))) le (nI 31) len).2) le (nI 99) len).2) le (nI 9) len).1) ((d_X4_readNumber ((d_X4_readNumber ((d_X4_readNumber ((d_X4_readNumber (upd ts 2 ((ts 2) + (1 : Int32))) le (nI 31) len).2) le (nI 99) len).2) le (nI 9) len).2) le (nI 1) len).1)  kk).2.2.2)) else (0, ((d_X4_readNumber ((d_X4_readNumber ((d_X4_readNumber (upd ts 2 ((ts 2) + (1 : Int32))) le (nI 31) len).2) le (nI 99) len).2) le (nI 9) len).2), hf, tr, de, ea) else (0, ((d_X4_readNumber ((d_X4_readNumber (upd ts 2 ((ts 2) + (1 : Int32))) le (nI 31) len).2) le (nI 99) len).2), hf, tr, de, ea) else (0, ((d_X4_readNumber (upd ts 2 ((ts 2) + (1 : Int32))) le (nI 31) len).2), hf, tr, de, ea) := rfl
/-- a thing: told, or a fault -/
theorem RT {ts f1 le tx hf tr de ea : Nat → Int32} {G1 : Nat → Nat → Int32} {len s kk : Nat} (hT : LT tx len) (h : CT ts len s) (hs : s < len) (hle : ∀ j, j < len → le j = tx j) (hL : LK tx len f1 (s + 1)) (h8 : f1 8 = -1) (hn : hf 3 = nI kk) (hk7 : kk < 7) (e0 : G1 0 = f1) (e1 : G1 1 = tx) :
    (∃ x y z k e, x ≤ 31 ∧ y ≤ 99 ∧ z ≤ 9 ∧ s + 1 < e ∧ ∃ t', d_X4_readThing ts le hf tr de ea len kk = (1, t', upd (upd hf 4 (hf 4 ||| (nI k <<< (nI kk &&& 31)))) 3 (nI kk + 1), upd tr kk (nI x), upd de kk (nI y), upd ea kk (nI z)) ∧ CT t' len e ∧ KP ts t' ∧
      LK tx len (tkS (d_X6_readsItem G1 116 len kk 0) tx len) e ∧ (tkS (d_X6_readsItem G1 116 len kk 0) tx len) 8 = -1 ∧ (tkS (d_X6_readsItem G1 116 len kk 0) tx len) 14 = f1 14 ||| (nI k <<< (nI kk &&& 31)) ∧ (∀ q, q = 3 ∨ q = 10 ∨ q = 20 ∨ q = 23 → (tkS (d_X6_readsItem G1 116 len kk 0) tx len) q = f1 q) ∧
      d_X6_readsItem G1 116 len kk 3 = upd (G1 3) (7 + kk) (nI x) ∧ d_X6_readsItem G1 116 len kk 4 = upd (G1 4) (7 + kk) (nI y) ∧ d_X6_readsItem G1 116 len kk 5 = upd (G1 5) (7 + kk) (nI z)) ∨
    (∃ s', (d_X4_readThing ts le hf tr de ea len kk).1 = 0 ∧ CT (d_X4_readThing ts le hf tr de ea len kk).2.1 len s' ∧ KP ts (d_X4_readThing ts le hf tr de ea len kk).2.1 ∧ FB f1 (tkS (d_X6_readsItem G1 116 len kk 0) tx len) s') := by
  have hR : d_X6_readsItem G1 116 len kk 0 = upd ((d_X6_number ((d_X6_number ((d_X6_number ((d_X6_number f1 tx 0 (nI 31) len).2) tx 0 (nI 99) len).2) tx 0 (nI 9) len).2) tx 0 (nI 1) len).2) 14 ((((d_X6_number ((d_X6_number ((d_X6_number f1 tx 0 (nI 31) len).2) tx 0 (nI 99) len).2) tx 0 (nI 9) len).2) 14) ||| (((d_X6_number ((d_X6_number ((d_X6_number ((d_X6_number f1 tx 0 (nI 31) len).2) tx 0 (nI 99) len).2) tx 0 (nI 9) len).2) tx 0 (nI 1) len).1) <<< ((nI kk) &&& 31))) := by
    rw [d_X6_readsItem, if_pos rfl, e0, e1]; rfl
  have hR3 : d_X6_readsItem G1 116 len kk 3 = upd (G1 3) (7 + kk) (d_X6_number f1 tx 0 (nI 31) len).1 := by
    rw [d_X6_readsItem, if_pos rfl, e0, e1]; rfl
  have hR4 : d_X6_readsItem G1 116 len kk 4 = upd (G1 4) (7 + kk) (d_X6_number (d_X6_number f1 tx 0 (nI 31) len).2 tx 0 (nI 99) len).1 := by
    rw [d_X6_readsItem, if_pos rfl, e0, e1]; rfl
  have hR5 : d_X6_readsItem G1 116 len kk 5 = upd (G1 5) (7 + kk) (d_X6_number (d_X6_number (d_X6_number f1 tx 0 (nI 31) len).2 tx 0 (nI 99) len).2 tx 0 (nI 9) len).1 := by
    rw [d_X6_readsItem, if_pos rfl, e0, e1]; rfl
  rw [hR, hR3, hR4, hR5, rt_body]
  have h0 := h.nx hs
  have kp0 : KP ts (upd ts 2 (ts 2 + 1)) := KP.rf.up _
  generalize upd ts 2 (ts 2 + 1) = u0 at *
  -- a fault below
  have fin : ∀ (f9 : Nat → Int32) (s' : Nat), FB f1 f9 s' → ∀ x : Int32, FB f1 (tkS (upd f9 14 x) tx len) s' := fun f9 s' hf9 x => by
    have e8 : (upd f9 14 x) 8 = nI s' := hf9.1
    rw [tkS_nw e8 hf9.2.1]
    exact ⟨e8, hf9.2.1, fun q hq => by rcases hq with rfl | rfl | rfl <;> exact hf9.2.2 _ (by decide)⟩
  rcases NS (M := 31) hT h0 hle hL h8 (by omega) with ⟨x, p1, x1, x2, x3, x4, x5, x6, x7, x8⟩ | ⟨s', x3, x4, x5, x6⟩
  rotate_left
  · right
    rw [x3, if_neg m1lt.1]
    refine ⟨s', rfl, x4, kp0.tr x5, ?_⟩
    rw [num_nw (f := (d_X6_number f1 tx 0 (nI 31) len).2) x6.1 x6.2.1, num_nw (f := (d_X6_number f1 tx 0 (nI 31) len).2) x6.1 x6.2.1, num_nw (f := (d_X6_number f1 tx 0 (nI 31) len).2) x6.1 x6.2.1]
    exact fin _ _ x6 _
  · generalize hn1 : d_X6_number f1 tx 0 (nI 31) len = n1 at *
    generalize hr1 : d_X4_readNumber u0 le (nI 31) len = r1 at *
    rw [x3, if_pos (nlt0 (by omega)).1]
    have w8 : n1.2 8 = -1 := by rw [x8 8 (by decide)]; exact h8
    rcases NS (M := 99) hT x4 hle x7 w8 (by omega) with ⟨y, p2, y1, y2, y3, y4, y5, y6, y7, y8⟩ | ⟨s', y3, y4, y5, y6⟩
    rotate_left
    · right
      rw [y3, if_neg m1lt.1]
      refine ⟨s', rfl, y4, (kp0.tr x5).tr y5, ?_⟩
      rw [num_nw (f := (d_X6_number n1.2 tx 0 (nI 99) len).2) y6.1 y6.2.1, num_nw (f := (d_X6_number n1.2 tx 0 (nI 99) len).2) y6.1 y6.2.1]
      exact fin _ _ (FB.tr x8 y6) _
    · generalize hn2 : d_X6_number n1.2 tx 0 (nI 99) len = n2 at *
      generalize hr2 : d_X4_readNumber r1.2 le (nI 99) len = r2 at *
      rw [y3, if_pos (nlt0 (by omega)).1]
      have v8 : n2.2 8 = -1 := by rw [y8 8 (by decide)]; exact w8
      rcases NS (M := 9) hT y4 hle y7 v8 (by omega) with ⟨z, p3, z1, z2, z3, z4, z5, z6, z7, z8⟩ | ⟨s', z3, z4, z5, z6⟩
      rotate_left
      · right
        rw [z3, if_neg m1lt.1]
        refine ⟨s', rfl, z4, ((kp0.tr x5).tr y5).tr z5, ?_⟩
        rw [num_nw (f := (d_X6_number n2.2 tx 0 (nI 9) len).2) z6.1 z6.2.1]
        exact fin _ _ (FB.tr (x8.tr y8) z6) _
      · generalize hn3 : d_X6_number n2.2 tx 0 (nI 9) len = n3 at *
        generalize hr3 : d_X4_readNumber r2.2 le (nI 9) len = r3 at *
        rw [z3, if_pos (nlt0 (by omega)).1]
        have u8 : n3.2 8 = -1 := by rw [z8 8 (by decide)]; exact v8
        rcases NS (M := 1) hT z4 hle z7 u8 (by omega) with ⟨k, p4, k1, k2, k3, k4, k5, k6, k7, k8⟩ | ⟨s', k3, k4, k5, k6⟩
        rotate_left
        · right
          rw [k3, if_pos m1lt.2]
          refine ⟨s', rfl, k4, (((kp0.tr x5).tr y5).tr z5).tr k5, ?_⟩
          exact fin _ _ (FB.tr ((x8.tr y8).tr z8) k6) _
        · generalize hn4 : d_X6_number n3.2 tx 0 (nI 1) len = n4 at *
          generalize hr4 : d_X4_readNumber r3.2 le (nI 1) len = r4 at *
          rw [k3, if_neg (nlt0 (by omega)).2]
          have t8 : n4.2 8 = -1 := by rw [k8 8 (by decide)]; exact u8
          have hsm : SAME f1 n4.2 := ((x8.tr y8).tr z8).tr k8
          have e14 : n3.2 14 = f1 14 := ((x8.tr y8).tr z8) 14 (by decide)
          have hLu := k7.far (k := 14) (Or.inr rfl) (n3.2 14 ||| (n4.1 <<< (nI kk &&& 31)))
          have t8u : (upd n4.2 14 (n3.2 14 ||| (n4.1 <<< (nI kk &&& 31)))) 8 = -1 := t8
          rcases ES hT k4 hle hLu t8u with ⟨e, q1, q2, q3, q4, q5, q6⟩ | ⟨s', q2, q3, q4, q5⟩
          · left
            rw [q2, if_neg (by decide)]
            refine ⟨x, y, z, k, e, x1, y1, z1, by omega, (d_X4_readEnd r4.2 le).2, ?_, q3, ((((kp0.tr x5).tr y5).tr z5).tr k5).tr q4, q5, ?_, ?_, fun q hq => ?_, by rw [x6], by rw [y6], by rw [z6]⟩
            · have hroom : ¬ d_X0_hasRoom hf = 0 := by
                rw [d_X0_hasRoom, hn, if_neg (show ¬ (7 : Int32) ≤ nI kk from nI_ge (b := 7) hk7 (by omega))]; decide
              rw [d_X0_add, if_neg hroom]
            · rw [q6 8 (by decide)]; exact t8
            · rw [q6 14 (by decide)]
              show n3.2 14 ||| (n4.1 <<< (nI kk &&& 31)) = _
              rw [e14, k6]
            · rw [q6 q (by omega)]
              rcases hq with rfl | rfl | rfl | rfl <;> exact hsm _ (by decide)
          · right
            rw [q2, if_pos rfl]
            refine ⟨s', rfl, q3, ((((kp0.tr x5).tr y5).tr z5).tr k5).tr q4, q5.1, q5.2.1, fun q hq => ?_⟩
            rw [q5.2.2 q hq]
            rcases hq with rfl | rfl | rfl <;> exact hsm _ (by decide)
/-- the vow: told, or a fault -/
theorem RV {ts f1 le tx hf tr de ea : Nat → Int32} {G1 : Nat → Nat → Int32} {len s kk : Nat} (hT : LT tx len) (h : CT ts len s) (hs : s < len) (hle : ∀ j, j < len → le j = tx j) (hL : LK tx len f1 (s + 1)) (h8 : f1 8 = -1) (e0 : G1 0 = f1) (e1 : G1 1 = tx) :
    (∃ x e, x ≤ 31 ∧ s + 1 < e ∧ ∃ t', d_X4_readVow ts le hf tr de ea len = (1, t', upd hf 5 (nI x), tr, de, ea) ∧ CT t' len e ∧ KP (upd ts 3 1) t' ∧
      LK tx len (tkS (d_X6_readsItem G1 118 len kk 0) tx len) e ∧ (tkS (d_X6_readsItem G1 118 len kk 0) tx len) 8 = -1 ∧ (tkS (d_X6_readsItem G1 118 len kk 0) tx len) 10 = f1 10 ||| 1 ∧ (∀ q, q = 3 ∨ q = 14 ∨ q = 20 ∨ q = 23 → (tkS (d_X6_readsItem G1 118 len kk 0) tx len) q = f1 q) ∧
      d_X6_readsItem G1 118 len kk 2 = upd (G1 2) 9 (nI x)) ∨
    (∃ s', (d_X4_readVow ts le hf tr de ea len).1 = 0 ∧ CT (d_X4_readVow ts le hf tr de ea len).2.1 len s' ∧ FB f1 (tkS (d_X6_readsItem G1 118 len kk 0) tx len) s') := by
  have hR : d_X6_readsItem G1 118 len kk 0 = upd ((d_X6_number f1 tx 0 (nI 31) len).2) 10 ((((d_X6_number f1 tx 0 (nI 31) len).2) 10) ||| (1 : Int32)) := by
    rw [d_X6_readsItem, if_neg (by decide), if_pos rfl, e0, e1]; rfl
  have hR2 : d_X6_readsItem G1 118 len kk 2 = upd (G1 2) 9 (d_X6_number f1 tx 0 (nI 31) len).1 := by
    rw [d_X6_readsItem, if_neg (by decide), if_pos rfl, e0, e1]; rfl
  rw [hR, hR2, d_X4_readVow]
  rw [show (31 : Int32) = nI 31 from rfl]
  have h0 : CT (upd (upd ts 2 (ts 2 + 1)) 3 1) len (s + 1) := h.nx hs
  have kp0 : KP (upd ts 3 1) (upd (upd ts 2 (ts 2 + 1)) 3 1) := fun k hk => by
    by_cases q : k = 3
    · subst q; rfl
    · rw [pk_un q, pk_un q, pk_un hk]
  generalize upd (upd ts 2 (ts 2 + 1)) 3 1 = u0 at *
  have fin : ∀ (f9 : Nat → Int32) (s' : Nat), FB f1 f9 s' → ∀ x : Int32, FB f1 (tkS (upd f9 10 x) tx len) s' := fun f9 s' hf9 x => by
    have e8 : (upd f9 10 x) 8 = nI s' := hf9.1
    rw [tkS_nw e8 hf9.2.1]
    exact ⟨e8, hf9.2.1, fun q hq => by rcases hq with rfl | rfl | rfl <;> exact hf9.2.2 _ (by decide)⟩
  rcases NS (M := 31) hT h0 hle hL h8 (by omega) with ⟨x, p1, x1, x2, x3, x4, x5, x6, x7, x8⟩ | ⟨s', x3, x4, x5, x6⟩
  rotate_left
  · right
    rw [x3, if_pos m1lt.2]
    exact ⟨s', rfl, x4, fin _ _ x6 _⟩
  · generalize hn1 : d_X6_number f1 tx 0 (nI 31) len = n1 at *
    generalize hr1 : d_X4_readNumber u0 le (nI 31) len = r1 at *
    rw [x3, if_neg (nlt0 (by omega)).2]
    have t8 : n1.2 8 = -1 := by rw [x8 8 (by decide)]; exact h8
    have hLu := x7.far (k := 10) (Or.inl rfl) (n1.2 10 ||| (1 : Int32))
    have t8u : (upd n1.2 10 (n1.2 10 ||| (1 : Int32))) 8 = -1 := t8
    rcases ES hT x4 hle hLu t8u with ⟨e, q1, q2, q3, q4, q5, q6⟩ | ⟨s', q2, q3, q4, q5⟩
    · left
      rw [q2, if_neg (by decide)]
      refine ⟨x, e, x1, by omega, (d_X4_readEnd r1.2 le).2, rfl, q3, (kp0.tr x5).tr q4, q5, ?_, ?_, fun q hq => ?_, by rw [x6]⟩
      · rw [q6 8 (by decide)]; exact t8
      · rw [q6 10 (by decide)]
        show n1.2 10 ||| 1 = _
        rw [x8 10 (by decide)]
      · rw [q6 q (by omega)]
        rcases hq with rfl | rfl | rfl | rfl <;> exact x8 _ (by decide)
    · right
      rw [q2, if_pos rfl]
      refine ⟨s', rfl, q3, q5.1, q5.2.1, fun q hq => ?_⟩
      rw [q5.2.2 q hq]
      rcases hq with rfl | rfl | rfl <;> exact x8 _ (by decide)
/-- the war: told, or a fault -/
theorem RWr {ts f1 le tx hf tr de ea : Nat → Int32} {G1 : Nat → Nat → Int32} {len s kk : Nat} {what : Int32} (hT : LT tx len) (h : CT ts len s) (hs : s < len) (hle : ∀ j, j < len → le j = tx j) (hL : LK tx len f1 (s + 1)) (h8 : f1 8 = -1) (e0 : G1 0 = f1) (e1 : G1 1 = tx) (hw1 : ¬ what = 116) (hw2 : ¬ what = 118) :
    (∃ x y z e, x ≤ 10 ∧ y ≤ 10 ∧ z ≤ 999 ∧ s + 1 < e ∧ ∃ t', d_X4_readWar ts le hf tr de ea len = (1, t', upd (upd (upd hf 6 (nI x)) 7 (nI y)) 8 (nI z), tr, de, ea) ∧ CT t' len e ∧ KP (upd ts 4 1) t' ∧
      LK tx len (tkS (d_X6_readsItem G1 what len kk 0) tx len) e ∧ (tkS (d_X6_readsItem G1 what len kk 0) tx len) 8 = -1 ∧ (tkS (d_X6_readsItem G1 what len kk 0) tx len) 10 = f1 10 ||| 2 ∧ (∀ q, q = 3 ∨ q = 14 ∨ q = 20 ∨ q = 23 → (tkS (d_X6_readsItem G1 what len kk 0) tx len) q = f1 q) ∧
      d_X6_readsItem G1 what len kk 2 = upd (upd (upd (G1 2) 6 (nI x)) 7 (nI y)) 8 (nI z)) ∨
    (∃ s', (d_X4_readWar ts le hf tr de ea len).1 = 0 ∧ CT (d_X4_readWar ts le hf tr de ea len).2.1 len s' ∧ FB f1 (tkS (d_X6_readsItem G1 what len kk 0) tx len) s') := by
  have hR : d_X6_readsItem G1 what len kk 0 = upd ((d_X6_number ((d_X6_number ((d_X6_number f1 tx 0 (nI 10) len).2) tx 0 (nI 10 - (d_X6_number f1 tx 0 (nI 10) len).1) len).2) tx 0 (nI 999) len).2) 10 ((((d_X6_number ((d_X6_number ((d_X6_number f1 tx 0 (nI 10) len).2) tx 0 (nI 10 - (d_X6_number f1 tx 0 (nI 10) len).1) len).2) tx 0 (nI 999) len).2) 10) ||| (2 : Int32)) := by
    rw [d_X6_readsItem, if_neg hw1, if_neg hw2, e0, e1]; rfl
  have hR2 : d_X6_readsItem G1 what len kk 2 = upd (upd (upd (G1 2) 6 (d_X6_number f1 tx 0 (nI 10) len).1) 7 (d_X6_number (d_X6_number f1 tx 0 (nI 10) len).2 tx 0 (nI 10 - (d_X6_number f1 tx 0 (nI 10) len).1) len).1) 8 (d_X6_number (d_X6_number (d_X6_number f1 tx 0 (nI 10) len).2 tx 0 (nI 10 - (d_X6_number f1 tx 0 (nI 10) len).1) len).2 tx 0 (nI 999) len).1 := by
    rw [d_X6_readsItem, if_neg hw1, if_neg hw2, e0, e1]; rfl
  rw [hR, hR2, d_X4_readWar]
  rw [show (10 : Int32) = nI 10 from rfl, show (999 : Int32) = nI 999 from rfl]
  have h0 : CT (upd (upd ts 2 (ts 2 + 1)) 4 1) len (s + 1) := h.nx hs
  have kp0 : KP (upd ts 4 1) (upd (upd ts 2 (ts 2 + 1)) 4 1) := fun k hk => by
    by_cases q : k = 4
    · subst q; rfl
    · rw [pk_un q, pk_un q, pk_un hk]
  generalize upd (upd ts 2 (ts 2 + 1)) 4 1 = u0 at *
  have fin : ∀ (f9 : Nat → Int32) (s' : Nat), FB f1 f9 s' → ∀ x : Int32, FB f1 (tkS (upd f9 10 x) tx len) s' := fun f9 s' hf9 x => by
    have e8 : (upd f9 10 x) 8 = nI s' := hf9.1
    rw [tkS_nw e8 hf9.2.1]
    exact ⟨e8, hf9.2.1, fun q hq => by rcases hq with rfl | rfl | rfl <;> exact hf9.2.2 _ (by decide)⟩
  rcases NS (M := 10) hT h0 hle hL h8 (by omega) with ⟨x, p1, x1, x2, x3, x4, x5, x6, x7, x8⟩ | ⟨s', x3, x4, x5, x6⟩
  rotate_left
  · right
    rw [x3, if_neg m1lt.1]
    refine ⟨s', rfl, x4, ?_⟩
    rw [num_nw (f := (d_X6_number f1 tx 0 (nI 10) len).2) x6.1 x6.2.1, num_nw (f := (d_X6_number f1 tx 0 (nI 10) len).2) x6.1 x6.2.1]
    exact fin _ _ x6 _
  · generalize hn1 : d_X6_number f1 tx 0 (nI 10) len = n1 at *
    generalize hr1 : d_X4_readNumber u0 le (nI 10) len = r1 at *
    rw [x3, x6, if_pos (nlt0 (by omega)).1, pk_sub x1]
    have w8 : n1.2 8 = -1 := by rw [x8 8 (by decide)]; exact h8
    rcases NS (M := 10 - x) hT x4 hle x7 w8 (by omega) with ⟨y, p2, y1, y2, y3, y4, y5, y6, y7, y8⟩ | ⟨s', y3, y4, y5, y6⟩
    rotate_left
    · right
      rw [y3, if_neg m1lt.1]
      refine ⟨s', rfl, y4, ?_⟩
      rw [num_nw (f := (d_X6_number n1.2 tx 0 (nI (10 - x)) len).2) y6.1 y6.2.1]
      exact fin _ _ (FB.tr x8 y6) _
    · generalize hn2 : d_X6_number n1.2 tx 0 (nI (10 - x)) len = n2 at *
      generalize hr2 : d_X4_readNumber r1.2 le (nI (10 - x)) len = r2 at *
      rw [y3, if_pos (nlt0 (by omega)).1]
      have v8 : n2.2 8 = -1 := by rw [y8 8 (by decide)]; exact w8
      rcases NS (M := 999) hT y4 hle y7 v8 (by omega) with ⟨z, p3, z1, z2, z3, z4, z5, z6, z7, z8⟩ | ⟨s', z3, z4, z5, z6⟩
      rotate_left
      · right
        rw [z3, if_pos m1lt.2]
        refine ⟨s', rfl, z4, ?_⟩
        exact fin _ _ (FB.tr (x8.tr y8) z6) _
      · generalize hn3 : d_X6_number n2.2 tx 0 (nI 999) len = n3 at *
        generalize hr3 : d_X4_readNumber r2.2 le (nI 999) len = r3 at *
        rw [z3, if_neg (nlt0 (by omega)).2]
        have t8 : n3.2 8 = -1 := by rw [z8 8 (by decide)]; exact v8
        have hsm : SAME f1 n3.2 := (x8.tr y8).tr z8
        have hLu := z7.far (k := 10) (Or.inl rfl) (n3.2 10 ||| (2 : Int32))
        have t8u : (upd n3.2 10 (n3.2 10 ||| (2 : Int32))) 8 = -1 := t8
        rcases ES hT z4 hle hLu t8u with ⟨e, q1, q2, q3, q4, q5, q6⟩ | ⟨s', q2, q3, q4, q5⟩
        · left
          rw [q2, if_neg (by decide)]
          refine ⟨x, y, z, e, x1, by omega, z1, by omega, (d_X4_readEnd r3.2 le).2, rfl, q3, ((kp0.tr x5).tr y5).tr z5 |>.tr q4, q5, ?_, ?_, fun q hq => ?_, by rw [y6, z6]⟩
          · rw [q6 8 (by decide)]; exact t8
          · rw [q6 10 (by decide)]
            show n3.2 10 ||| 2 = _
            rw [hsm 10 (by decide)]
          · rw [q6 q (by omega)]
            rcases hq with rfl | rfl | rfl | rfl <;> exact hsm _ (by decide)
        · right
          rw [q2, if_pos rfl]
          refine ⟨s', rfl, q3, q5.1, q5.2.1, fun q hq => ?_⟩
          rw [q5.2.2 q hq]
          rcases hq with rfl | rfl | rfl <;> exact hsm _ (by decide)
