/-! house: class and reference -/
theorem MAIN {G : Nat → Nat → Int32} {tf le hf tr de ea : Nat → Int32} {len : Nat} (hT : LT (G 1) len) (hle : ∀ j, j < len → le j = G 1 j) :
    ∀ (k1 k2 i : Nat) (G' : Nat → Nat → Int32) (t h1 t1 d1 e1 : Nat → Int32) (p k a b : Nat), 101 ≤ i + k1 → k1 < k2 → IV G G' len i p k a b t h1 t1 d1 e1 →
    (∃ i' t' h' tr' de' ea' G2 k', i' ≤ 200 ∧ lp_X4_readInto_21 tf le hf tr de ea len k1 i t h1 t1 d1 e1 = (nI i', t', h', tr', de', ea') ∧ t' 1 = nI len ∧ lp_X6_house_25 G len k2 (nI i) G' = (nI i', d_X6_settles G2) ∧ DR h' tr' de' ea' G2 k' ∧ KG G G2) ∨
    (∃ s G2, s ≤ 200 ∧ (lp_X4_readInto_21 tf le hf tr de ea len k1 i t h1 t1 d1 e1).1 = -10 - nI s ∧ (lp_X4_readInto_21 tf le hf tr de ea len k1 i t h1 t1 d1 e1).2.1 1 = nI len ∧ lp_X6_house_25 G len k2 (nI i) G' = (-10 - nI s, G2) ∧ KG G G2) := by
  intro k1
  induction k1 with
  | zero =>
    intro k2 i G' t h1 t1 d1 e1 p k a b hi _ h
    obtain ⟨⟨_, _, c3, c4⟩, h2, _⟩ := h
    omega
  | succ k1 ih =>
    intro k2 i G' t h1 t1 d1 e1 p k a b hi hk h
    obtain ⟨k2, rfl⟩ : ∃ k', k2 = k' + 2 := ⟨k2 - 2, by omega⟩
    have hi100 : i ≤ 100 := by
      obtain ⟨⟨_, _, c3, c4⟩, h2, _⟩ := h
      omega
    obtain ⟨hC, h2i, hL, h8, h3, h4, ha, hb, h10, hDR, hKG⟩ := id h
    rcases STEP (tf := tf) (hf := hf) (tr := tr) (de := de) (ea := ea) (it := nI i) hT hle h k1 with ⟨t', r1, r2, r3⟩ | ⟨s, G2, z1, z2, z3, z4, z5⟩ | ⟨t', h', tr', de', ea', G2, p', k', a', b', r1, r2, r3⟩
    · left
      exact ⟨i, t', h1, t1, d1, e1, G', k, by omega, r1, r2, r3 (k2 + 1), hDR, hKG⟩
    · right
      exact ⟨s, G2, z1, z2, z3, z4 k2, z5⟩
    · rw [r1, r2 (k2 + 1), nI_1]
      exact ih (k2 + 1) (i + 1) G2 t' h' tr' de' ea' p' k' a' b' (by omega) (by omega) r3
/-! settles -/
theorem st_eq (G : Nat → Nat → Int32) : d_X6_settles G 0 3 = 0 ∧ d_X6_settles G 0 20 = 0 ∧ d_X6_settles G 0 23 = 0 ∧ (∀ j, j < 5 → d_X6_settles G 2 j = G 2 (5 + j)) ∧ (∀ j, j < 7 → d_X6_settles G 3 j = G 3 (7 + j) ∧ d_X6_settles G 4 j = G 4 (7 + j) ∧ d_X6_settles G 5 j = G 5 (7 + j)) ∧ (d_X6_settles G 6 0 = 0 ∧ d_X6_settles G 6 1 = G 2 9 ∧ d_X6_settles G 6 2 = G 0 14 ∧ d_X6_settles G 6 3 = 0 ∧ d_X6_settles G 6 4 = 0) ∧ d_X6_settles G 9 0 = 0 ∧ d_X6_settles G 9 1 = 0 := by
  have e : d_X6_settles G = lp_X6_settles_36 G 8 0 (G 3) (G 4) (G 5) (upd (upd (upd (upd (upd (G 2) 0 (G 2 5)) 1 (G 2 6)) 2 (G 2 7)) 3 (G 2 8)) 4 (G 2 9)) (upd (upd (upd (upd (upd (G 6) 0 0) 1 0) 2 0) 3 0) 4 0) := by
    rw [d_X6_settles, lp_X6_settles_2, if_neg (by decide), lp_X6_settles_2, if_neg (by decide), lp_X6_settles_2, if_neg (by decide), lp_X6_settles_2, if_neg (by decide), lp_X6_settles_2, if_neg (by decide), lp_X6_settles_2, if_pos (by decide)]
    rfl
  have e2 : ∀ (tv dv ev mv sv : Nat → Int32), lp_X6_settles_36 G 8 0 tv dv ev mv sv = (va_up (va_up (va_up (va_up (va_up (va_up (va_up G 0 (upd (upd (upd (G 0) 3 0) 23 0) 20 0)) 2 mv) 3 (upd (upd (upd (upd (upd (upd (upd tv 0 (tv 7)) 1 (tv 8)) 2 (tv 9)) 3 (tv 10)) 4 (tv 11)) 5 (tv 12)) 6 (tv 13))) 4 (upd (upd (upd (upd (upd (upd (upd dv 0 (dv 7)) 1 (dv 8)) 2 (dv 9)) 3 (dv 10)) 4 (dv 11)) 5 (dv 12)) 6 (dv 13))) 5 (upd (upd (upd (upd (upd (upd (upd ev 0 (ev 7)) 1 (ev 8)) 2 (ev 9)) 3 (ev 10)) 4 (ev 11)) 5 (ev 12)) 6 (ev 13))) 6 (upd (upd sv 1 (mv 4)) 2 (G 0 14))) 9 (upd (upd (G 9) 0 0) 1 0)) := by
    intro tv dv ev mv sv
    rw [lp_X6_settles_36, if_neg (by decide), lp_X6_settles_36, if_neg (by decide), lp_X6_settles_36, if_neg (by decide), lp_X6_settles_36, if_neg (by decide), lp_X6_settles_36, if_neg (by decide), lp_X6_settles_36, if_neg (by decide), lp_X6_settles_36, if_neg (by decide), lp_X6_settles_36, if_pos (by decide)]
    rfl
  rw [e, e2]
  refine ⟨rfl, rfl, rfl, fun j hj => ?_, fun j hj => ?_, ⟨rfl, rfl, rfl, rfl, rfl⟩, rfl, rfl⟩
  · rcases (show j = 0 ∨ j = 1 ∨ j = 2 ∨ j = 3 ∨ j = 4 by omega) with rfl | rfl | rfl | rfl | rfl <;> rfl
  · rcases (show j = 0 ∨ j = 1 ∨ j = 2 ∨ j = 3 ∨ j = 4 ∨ j = 5 ∨ j = 6 by omega) with rfl | rfl | rfl | rfl | rfl | rfl | rfl <;> exact ⟨rfl, rfl, rfl⟩
theorem q_house {F G : Nat → Nat → Int32} {n len dd um nx sk : Nat} (h : RLN F G n len dd um nx sk) : (d_X5_house F len).1 = (d_X6_house G len).1 ∧ RX (if 0 ≤ (d_X5_house F len).1 then swF (d_X5_house F len).2 else (d_X5_house F len).2) (d_X6_house G len).2 := by
  obtain ⟨h1, ⟨t1, t2, t3, t4⟩, h3, h4, h5, h6⟩ := id h
  have hT : LT (G 1) len := fun j hj => (t4 j hj).2
  have hle : ∀ j, j < len → F 10 j = G 1 j := fun j hj => (t4 j hj).1
  rw [d_X6_house]
  have e0 : (d_X6_begins (va_up G 0 (upd (upd (upd (G 0) 0 0) 8 (-1)) 4 0))) 0 = upd (upd (upd (upd (upd (G 0) 0 0) 8 (-1)) 4 0) 10 0) 14 0 := rfl
  have e1 : (d_X6_begins (va_up G 0 (upd (upd (upd (G 0) 0 0) 8 (-1)) 4 0))) 1 = G 1 := rfl
  rw [e0, e1]
  obtain ⟨v1, v2⟩ := adv_LK (f := upd (upd (upd (upd (upd (G 0) 0 0) 8 (-1)) 4 0) 10 0) 14 0) (p := 0) hT t2 rfl (by omega) t3
  refine opq (d_X6_advances (upd (upd (upd (upd (upd (G 0) 0 0) 8 (-1)) 4 0) 10 0) 14 0) (G 1) len) (fun fa hfa => ?_)
  rw [hfa] at v1 v2 ⊢
  have hIV : IV G (va_up (d_X6_begins (va_up G 0 (upd (upd (upd (G 0) 0 0) 8 (-1)) 4 0))) 0 fa) len 0 0 0 0 0 (upd (upd (upd (F 9) 2 0) 3 0) 4 0) (d_X0_setBare (F 5)) (F 6) (F 7) (F 8) := by
    refine ⟨⟨t1, rfl, by omega, t3⟩, by omega, v1, v2 8 (by decide), rfl, rfl, by omega, by omega, v2 10 (by decide), ⟨rfl, rfl, by omega, (v2 14 (by decide)).symm, rfl, rfl, rfl, rfl, ?_, ?_, ?_, fun j hj => by omega⟩, ⟨rfl, fun j hj => ?_, fun j hj => ⟨rfl, rfl, rfl⟩, fun k hk => ?_, fun k hk => ?_⟩⟩
    · exact NN.of (j := 5) rfl (by omega) (by omega)
    · exact NN.of (j := 0) rfl (by omega) (by omega)
    · exact NN.of (j := 100) rfl (by omega) (by omega)
    · show upd (upd (upd (upd (upd (G 2) 5 0) 6 5) 7 0) 8 100) 9 0 j = _
      rw [pk_un (by omega), pk_un (by omega), pk_un (by omega), pk_un (by omega), pk_un (by omega)]
    · rw [d_X6_begins, va_up_ne _ _ (by omega), va_up_ne _ _ (by omega), va_up_ne _ _ (by omega), va_up_ne _ _ (by omega)]
    · show fa k = _
      rw [v2 k (by rcases hk with rfl | rfl | rfl <;> decide)]
      rcases hk with rfl | rfl | rfl <;> rfl
  have hM := MAIN (tf := F 9) (le := F 10) (hf := F 5) (tr := F 6) (de := F 7) (ea := F 8) hT hle 201 202 0 _ _ _ _ _ _ _ _ _ _ (by omega) (by omega) hIV
  have er : d_X4_readInto (F 9) (F 10) (F 5) (F 6) (F 7) (F 8) len = lp_X4_readInto_21 (F 9) (F 10) (F 5) (F 6) (F 7) (F 8) len 201 0 (upd (upd (upd (F 9) 2 0) 3 0) 4 0) (d_X0_setBare (F 5)) (F 6) (F 7) (F 8) := rfl
  rw [← er] at hM
  rw [d_X5_house]
  rcases hM with ⟨i', t', h', tr', de', ea', G2, k', m1, m2, m3, m4, m5, m6⟩ | ⟨s, G2, m1, m2, m3, m4, m6⟩
  · have m4 : lp_X6_house_25 G len 202 0 (va_up (d_X6_begins (va_up G 0 (upd (upd (upd (G 0) 0 0) 8 (-1)) 4 0))) 0 fa) = (nI i', d_X6_settles G2) := m4
    rw [m2, m4]
    have hpos : 0 ≤ nI i' := nI_pos' (by omega)
    dsimp only
    rw [if_pos hpos]
    dsimp only
    rw [if_pos hpos]
    refine ⟨rfl, ?_⟩
    obtain ⟨s1, s2, s3, s4, s5, ⟨s60, s61, s62, s63, s64⟩, s90, s91⟩ := st_eq G2
    refine opq (d_X6_settles G2) (fun S hS => ?_)
    rw [hS] at s1 s2 s3 s4 s5 s60 s61 s62 s63 s64 s90 s91 ⊢
    obtain ⟨d1, d2, d3, d4, d5, d6, d7, d8, d9, d10, d11, d12⟩ := m5
    refine ⟨k', 0, 0, 0, nx, 0, ⟨d1, ?_, d3, ?_, ?_, ?_, fun j hj => ?_, fun j hj => ?_, fun j hj => ?_, fun j hj => ?_, fun j hj => ?_, ⟨?_, ?_, ?_⟩, fun j hj => ?_⟩, ⟨rfl, s1, by omega, fun j hj => by omega⟩, ⟨⟨s60, s61.trans d5.symm, s62.trans d4.symm, s63, s64⟩, rfl, by omega⟩, ⟨rfl, s2, by omega, h4.2.2.2.1, h4.2.2.2.2.1, fun j hj => by omega⟩, fun i hi => ?_, ⟨rfl, s3, by omega, fun j hj => by omega⟩⟩
    · rw [s4 0 (by omega)]; exact d2
    · exact d6.trans (s4 1 (by omega)).symm
    · exact d7.trans (s4 2 (by omega)).symm
    · exact d8.trans (s4 3 (by omega)).symm
    · exact (d12 j hj).1.1.trans (s5 j (by omega)).1.symm
    · exact (d12 j hj).2.1.1.trans (s5 j (by omega)).2.1.symm
    · exact (d12 j hj).2.2.1.trans (s5 j (by omega)).2.2.symm
    · rw [(s5 j (by omega)).2.2]; exact (d12 j hj).2.2.2
    · rw [(s5 j (by omega)).2.1]; exact (d12 j hj).2.1.2
    · rw [s4 1 (by omega)]; exact d9
    · rw [s4 2 (by omega)]; exact d10
    · rw [s4 3 (by omega)]; exact d11
    · rw [(s5 j (by omega)).1]; exact (d12 j hj).1.2
    · rcases (show i = 0 ∨ i = 1 by omega) with rfl | rfl
      · exact ⟨s90.symm, fun z => absurd rfl z⟩
      · exact ⟨s91.symm, fun z => absurd rfl z⟩
  · have m4 : lp_X6_house_25 G len 202 0 (va_up (d_X6_begins (va_up G 0 (upd (upd (upd (G 0) 0 0) 8 (-1)) 4 0))) 0 fa) = (-10 - nI s, G2) := m4
    rw [m4]
    have hneg : ¬ (0 : Int32) ≤ -10 - nI s := by
      rw [Int32.le_iff_toInt_le]
      have e2 : (-10 - nI s : Int32) = nI 0 - nI (10 + s) := by
        rw [show (-10 : Int32) = nI 0 - nI 10 from rfl, Int32.sub_sub, nI_add]
      rw [e2, pk_sub_toInt (by omega) (by omega)]
      have z0 : (0 : Int32).toInt = 0 := by decide
      omega
    rw [m2, if_neg hneg]
    dsimp only
    rw [if_neg hneg]
    refine ⟨rfl, ?_⟩
    obtain ⟨k1, k2, k3, k4, k5⟩ := m6
    refine opq (d_X4_readInto (F 9) (F 10) (F 5) (F 6) (F 7) (F 8) len) (fun rr hrr => ?_)
    rw [hrr] at m3 ⊢
    obtain ⟨n1, n2, n3, n4, n5, n6, n7, n8, n9, n10, n11, n12, n13⟩ := h1
    refine ⟨n, len, dd, um, nx, sk, ⟨n1, ?_, n3, ?_, ?_, ?_, fun j hj => ?_, fun j hj => ?_, fun j hj => ?_, fun j hj => ?_, fun j hj => ?_, ⟨?_, ?_, ?_⟩, fun j hj => ?_⟩, ⟨m3, ?_, t3, fun j hj => ?_⟩, h3.mv rfl (k4 6 (by omega)), h4.mv rfl (fun j hj => ?_) (k5 20 (by decide)) (k4 10 (by omega)), h5.mv rfl rfl rfl (k4 8 (by omega)) (k4 9 (by omega)), h6.mv rfl rfl rfl (k5 23 (by decide)) (k4 11 (by omega)) (k4 12 (by omega))⟩
    · rw [k2 0 (by omega)]; exact n2
    · rw [k2 1 (by omega)]; exact n4
    · rw [k2 2 (by omega)]; exact n5
    · rw [k2 3 (by omega)]; exact n6
    · rw [(k3 j (by omega)).1]; exact n7 j hj
    · rw [(k3 j (by omega)).2.1]; exact n8 j hj
    · rw [(k3 j (by omega)).2.2]; exact n9 j hj
    · rw [(k3 j (by omega)).2.2]; exact n10 j hj
    · rw [(k3 j (by omega)).2.1]; exact n11 j hj
    · rw [k2 1 (by omega)]; exact n12.1
    · rw [k2 2 (by omega)]; exact n12.2.1
    · rw [k2 3 (by omega)]; exact n12.2.2
    · rw [(k3 j (by omega)).1]; exact n13 j hj
    · rw [k5 3 (by decide)]; exact t2
    · rw [k1]; exact t4 j hj
    · show va_up (va_up (va_up (va_up (va_up F 5 _) 6 _) 7 _) 8 _) 9 _ (15 + j) = _
      rw [va_up_ne _ _ (by omega), va_up_ne _ _ (by omega), va_up_ne _ _ (by omega), va_up_ne _ _ (by omega), va_up_ne _ _ (by omega)]
