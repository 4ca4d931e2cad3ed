/-! the whole text, at both -/
def DR (hf tr de ea : Nat → Int32) (G : Nat → Nat → Int32) (k : Nat) : Prop := hf 3 = nI k ∧ G 2 5 = nI k ∧ k ≤ 7 ∧ hf 4 = G 0 14 ∧ hf 5 = G 2 9 ∧ hf 6 = G 2 6 ∧ hf 7 = G 2 7 ∧ hf 8 = G 2 8 ∧ NN (G 2 6) 10 ∧ NN (G 2 7) 10 ∧ NN (G 2 8) 999 ∧ ∀ j, j < k → (tr j = G 3 (7 + j) ∧ ∃ x, x ≤ 31 ∧ G 3 (7 + j) = nI x) ∧ (de j = G 4 (7 + j) ∧ NN (G 4 (7 + j)) 99) ∧ (ea j = G 5 (7 + j) ∧ NN (G 5 (7 + j)) 9)
def KG (G G' : Nat → Nat → Int32) : Prop := G' 1 = G 1 ∧ (∀ j, j < 5 → G' 2 j = G 2 j) ∧ (∀ j, j < 7 → G' 3 j = G 3 j ∧ G' 4 j = G 4 j ∧ G' 5 j = G 5 j) ∧ (∀ k, 6 ≤ k → G' k = G k) ∧ (∀ k, k = 3 ∨ k = 20 ∨ k = 23 → G' 0 k = G 0 k)
theorem KG.f {G G' : Nat → Nat → Int32} (h : KG G G') {f : Nat → Int32} (hf : ∀ k, k = 3 ∨ k = 20 ∨ k = 23 → f k = G' 0 k) : KG G (va_up G' 0 f) := by
  obtain ⟨a, b, c, d, e⟩ := h
  exact ⟨a, b, c, fun k hk => by rw [va_up_ne _ _ (by omega)]; exact d k hk, fun k hk => (hf k hk).trans (e k hk)⟩
theorem KG.r {G G' : Nat → Nat → Int32} (h : KG G G') (what : Int32) (len kk : Nat) (f1 f : Nat → Int32) (hf : ∀ k, k = 3 ∨ k = 20 ∨ k = 23 → f k = G' 0 k) : KG G (va_up (d_X6_readsItem (va_up G' 0 f1) what len kk) 0 f) := by
  obtain ⟨a, b, c, d, e⟩ := h
  have hf2 : ∀ k, k = 3 ∨ k = 20 ∨ k = 23 → f k = G 0 k := fun k hk => (hf k hk).trans (e k hk)
  rw [d_X6_readsItem]
  split
  · refine ⟨a, fun j hj => ?_, fun j hj => ⟨?_, ?_, ?_⟩, fun k hk => ?_, hf2⟩
    · show upd (G' 2) 5 _ j = _
      rw [pk_un (by omega)]; exact b j hj
    · show upd (G' 3) (7 + kk) _ j = _
      rw [pk_un (by omega)]; exact (c j hj).1
    · show upd (G' 4) (7 + kk) _ j = _
      rw [pk_un (by omega)]; exact (c j hj).2.1
    · show upd (G' 5) (7 + kk) _ j = _
      rw [pk_un (by omega)]; exact (c j hj).2.2
    · rw [va_up_ne _ _ (by omega), va_up_ne _ _ (by omega), va_up_ne _ _ (by omega), va_up_ne _ _ (by omega), va_up_ne _ _ (by omega), va_up_ne _ _ (by omega), va_up_ne _ _ (by omega)]
      exact d k hk
  · split
    · refine ⟨a, fun j hj => ?_, c, fun k hk => ?_, hf2⟩
      · show upd (G' 2) 9 _ j = _
        rw [pk_un (by omega)]; exact b j hj
      · rw [va_up_ne _ _ (by omega), va_up_ne _ _ (by omega), va_up_ne _ _ (by omega), va_up_ne _ _ (by omega)]
        exact d k hk
    · refine ⟨a, fun j hj => ?_, c, fun k hk => ?_, hf2⟩
      · show upd (upd (upd (G' 2) 6 _) 7 _) 8 _ j = _
        rw [pk_un (by omega), pk_un (by omega), pk_un (by omega)]; exact b j hj
      · rw [va_up_ne _ _ (by omega), va_up_ne _ _ (by omega), va_up_ne _ _ (by omega), va_up_ne _ _ (by omega)]
        exact d k hk
theorem hb_ {G G' : Nat → Nat → Int32} {len k : Nat} {it : Int32} (h8 : G' 0 8 = -1) (h5 : ¬ G' 0 5 = 0) (hbad : G' 0 5 = 1 → (G' 0 7 = 116 → (7 : Int32) ≤ G' 2 5) ∧ (G' 0 7 = 118 → ¬ G' 0 10 &&& 1 = 0) ∧ (¬ G' 0 7 = 116 → ¬ G' 0 7 = 118 → ¬ G' 0 10 &&& 2 = 0)) :
    lp_X6_house_25 G len (k + 1) it G' = lp_X6_house_25 G len k (it + 1) (va_up G' 0 (tkS (d_X6_takes (G' 0) (G' 1) 0 len).2 (G' 1) len)) := by
  have hw : ¬ d_X6_isWell (G' 0) = 0 := by rw [isWell_m1 h8]; decide
  have fin : (if ((d_X6_takes (G' 0) (G' 1) 0 len).2 5) = (3 : Int32) then lp_X6_house_25 G len k (it + 1) (va_up G' 0 ((d_X6_takes ((d_X6_takes (G' 0) (G' 1) 0 len).2) (G' 1) 1 len).2)) else lp_X6_house_25 G len k (it + 1) (va_up G' 0 ((d_X6_takes ((d_X6_takes (G' 0) (G' 1) 0 len).2) (G' 1) 0 len).2))) = lp_X6_house_25 G len k (it + 1) (va_up G' 0 (tkS (d_X6_takes (G' 0) (G' 1) 0 len).2 (G' 1) len)) := by
    rw [tkS]; split <;> rfl
  rw [lp_X6_house_25, if_neg hw, if_neg h5]
  by_cases c : G' 0 5 = 1
  · obtain ⟨b1, b2, b3⟩ := hbad c
    rw [if_pos c]
    by_cases c1 : G' 0 7 = 116
    · rw [if_pos c1, if_pos (b1 c1)]; exact fin
    · rw [if_neg c1]
      by_cases c2 : G' 0 7 = 118
      · rw [if_pos c2, if_neg (b2 c2)]; exact fin
      · rw [if_neg c2, if_neg (b3 c1 c2)]; exact fin
  · rw [if_neg c]; exact fin
theorem hg_ {G G' : Nat → Nat → Int32} {len k kk : Nat} {it : Int32} (h8 : G' 0 8 = -1) (h5 : G' 0 5 = 1) (hx : (d_X6_advances (G' 0) (G' 1) len) 8 = -1) (hkk : (G' 2 5).toNatClampNeg = kk) (hgood : (G' 0 7 = 116 → ¬ (7 : Int32) ≤ G' 2 5) ∧ (G' 0 7 = 118 → G' 0 10 &&& 1 = 0) ∧ (¬ G' 0 7 = 116 → ¬ G' 0 7 = 118 → G' 0 10 &&& 2 = 0)) :
    lp_X6_house_25 G len (k + 1) it G' = lp_X6_house_25 G len k (it + 1) (va_up (d_X6_readsItem (va_up G' 0 (d_X6_advances (G' 0) (G' 1) len)) (G' 0 7) len kk) 0 (tkS (d_X6_readsItem (va_up G' 0 (d_X6_advances (G' 0) (G' 1) len)) (G' 0 7) len kk 0) (d_X6_readsItem (va_up G' 0 (d_X6_advances (G' 0) (G' 1) len)) (G' 0 7) len kk 1) len)) := by
  have hw : ¬ d_X6_isWell (G' 0) = 0 := by rw [isWell_m1 h8]; decide
  have t1 : d_X6_takes (G' 0) (G' 1) 1 len = (G' 0 7, d_X6_advances (G' 0) (G' 1) len) := by rw [d_X6_takes, if_neg hw, if_neg (by decide)]
  have hw2 : ¬ d_X6_isWell (d_X6_advances (G' 0) (G' 1) len) = 0 := by rw [isWell_m1 hx]; decide
  rw [lp_X6_house_25, if_neg hw, if_neg (show ¬ G' 0 5 = 0 by rw [h5]; decide), if_pos h5, t1, hkk]
  dsimp only
  generalize hRe : d_X6_readsItem (va_up G' 0 (d_X6_advances (G' 0) (G' 1) len)) (G' 0 7) len kk = R
  have fin : (if (R 0 5) = (3 : Int32) then lp_X6_house_25 G len k (it + 1) (va_up R 0 ((d_X6_takes (R 0) (R 1) 1 len).2)) else lp_X6_house_25 G len k (it + 1) (va_up R 0 ((d_X6_takes (R 0) (R 1) 0 len).2))) = lp_X6_house_25 G len k (it + 1) (va_up R 0 (tkS (R 0) (R 1) len)) := by
    rw [tkS]; split <;> rfl
  obtain ⟨b1, b2, b3⟩ := hgood
  by_cases c1 : G' 0 7 = 116
  · rw [if_pos c1, if_neg (b1 c1), if_neg hw2]; exact fin
  · rw [if_neg c1]
    by_cases c2 : G' 0 7 = 118
    · rw [if_pos c2, if_pos (b2 c2), if_neg hw2]; exact fin
    · rw [if_neg c2, if_pos (b3 c1 c2), if_neg hw2]; exact fin
theorem hf_ {G G' : Nat → Nat → Int32} {len k s : Nat} {it : Int32} (h8 : G' 0 8 = nI s) (hs : s ≤ 200) : lp_X6_house_25 G len (k + 1) it G' = (-10 - nI s, G') := by
  rw [lp_X6_house_25, if_pos (isWell_nI h8 hs), if_pos (isWell_nI h8 hs), h8]
theorem he_ {G G' : Nat → Nat → Int32} {len k : Nat} {it : Int32} (h8 : G' 0 8 = -1) (h5 : G' 0 5 = 0) : lp_X6_house_25 G len (k + 1) it G' = (it, d_X6_settles G') := by
  have hw : ¬ d_X6_isWell (G' 0) = 0 := by rw [isWell_m1 h8]; decide
  rw [lp_X6_house_25, if_neg hw, if_pos h5, if_neg hw]
theorem r1_ {G' : Nat → Nat → Int32} {f1 : Nat → Int32} {what : Int32} {len kk : Nat} : d_X6_readsItem (va_up G' 0 f1) what len kk 1 = G' 1 := by
  rw [d_X6_readsItem]
  split
  · rfl
  · split <;> rfl
theorem r2_ {G' : Nat → Nat → Int32} {f1 : Nat → Int32} {len kk : Nat} : d_X6_readsItem (va_up G' 0 f1) 116 len kk 2 = upd (G' 2) 5 (nI kk + 1) := by
  rw [d_X6_readsItem, if_pos rfl]; rfl
theorem r345_ {G' : Nat → Nat → Int32} {f1 : Nat → Int32} {what : Int32} {len kk : Nat} (h : ¬ what = 116) : d_X6_readsItem (va_up G' 0 f1) what len kk 3 = G' 3 ∧ d_X6_readsItem (va_up G' 0 f1) what len kk 4 = G' 4 ∧ d_X6_readsItem (va_up G' 0 f1) what len kk 5 = G' 5 := by
  rw [d_X6_readsItem, if_neg h]
  split <;> exact ⟨rfl, rfl, rfl⟩
theorem ar1 {i p s e : Nat} (h1 : 2 * i ≤ p) (h2 : p ≤ s) (h3 : s + 1 < e) : 2 * (i + 1) ≤ e := by omega
theorem ar3 {j k : Nat} (h : j < k) : ¬ 7 + j = 7 + k := by omega
/-- between two items -/
def IV (G G' : Nat → Nat → Int32) (len i p k a b : Nat) (t h1 t1 d1 e1 : Nat → Int32) : Prop := CT t len p ∧ 2 * i ≤ p ∧ LK (G 1) len (G' 0) p ∧ G' 0 8 = -1 ∧ t 3 = nI a ∧ t 4 = nI b ∧ a ≤ 1 ∧ b ≤ 1 ∧ G' 0 10 = nI (a + 2 * b) ∧ DR h1 t1 d1 e1 G' k ∧ KG G G'
theorem told1 : ∀ a, a < 2 → ∀ b, b < 2 → (nI (a + 2 * b) &&& 1 = 0 ↔ a = 0) ∧ (nI (a + 2 * b) &&& 2 = 0 ↔ b = 0) ∧ (a = 0 → nI (a + 2 * b) ||| 1 = nI (1 + 2 * b)) ∧ (b = 0 → nI (a + 2 * b) ||| 2 = nI (a + 2 * 1)) := by decide +kernel
/-- an item at both: no more, a fault, or one more -/
theorem STEP {G G' : Nat → Nat → Int32} {tf le hf tr de ea t h1 t1 d1 e1 : Nat → Int32} {len i p k a b : Nat} {it : Int32} (hT : LT (G 1) len) (hle : ∀ j, j < len → le j = G 1 j) (h : IV G G' len i p k a b t h1 t1 d1 e1) (k1 : Nat) :
    (∃ t', lp_X4_readInto_21 tf le hf tr de ea len (k1 + 1) i t h1 t1 d1 e1 = (nI i, t', h1, t1, d1, e1) ∧ t' 1 = nI len ∧ ∀ k3, lp_X6_house_25 G len (k3 + 1) it G' = (it, d_X6_settles G')) ∨
    (∃ s G2, s ≤ 200 ∧ (lp_X4_readInto_21 tf le hf tr de ea len (k1 + 1) i t h1 t1 d1 e1).1 = -10 - nI s ∧ (lp_X4_readInto_21 tf le hf tr de ea len (k1 + 1) i t h1 t1 d1 e1).2.1 1 = nI len ∧ (∀ k3, lp_X6_house_25 G len (k3 + 2) it G' = (-10 - nI s, G2)) ∧ KG G G2) ∨
    (∃ t' h' tr' de' ea' G2 p' k' a' b', lp_X4_readInto_21 tf le hf tr de ea len (k1 + 1) i t h1 t1 d1 e1 = lp_X4_readInto_21 tf le hf tr de ea len k1 (i + 1) t' h' tr' de' ea' ∧ (∀ k3, lp_X6_house_25 G len (k3 + 1) it G' = lp_X6_house_25 G len k3 (it + 1) G2) ∧ IV G G2 len (i + 1) p' k' a' b' t' h' tr' de' ea') := by
  obtain ⟨hC, h2i, hL, h8, h3, h4, ha, hb, h10, hDR, hKG⟩ := h
  obtain ⟨hs, hkp⟩ := cs_skip hC hle
  have hi200 : ¬ (200 : Int32) ≤ nI i := by
    obtain ⟨_, _, c3, c4⟩ := hC
    exact nI_ge (b := 200) (by omega) (by omega)
  obtain ⟨l1, l2, l3, l4, l5, l6, l7, l8⟩ := hL
  have hsk := skp_in (tx := G 1) l3 l4
  have hdr := hDR
  obtain ⟨d1_, d2_, d3_, d4_, d5_, d6_, d7_, d8_, d9_, d10_, d11_, d12_⟩ := hdr
  have hk1 : (h1 3).toNatClampNeg = k := cl_nI d1_ (by omega)
  have hk2 : (G' 2 5).toNatClampNeg = k := cl_nI d2_ (by omega)
  have eG1 : G' 1 = G 1 := hKG.1
  rw [lp_X4_readInto_21, if_neg hi200, hk1]
  have ts3 : d_X4_skipBlanks t le 3 = nI a := (hkp 3 (by decide)).trans h3
  have ts4 : d_X4_skipBlanks t le 4 = nI b := (hkp 4 (by decide)).trans h4
  generalize d_X4_skipBlanks t le = ts at *
  generalize skp (G 1) len 201 p = s at *
  obtain ⟨s1, s2, s3, s4⟩ := id hs
  have f8 : (d_X6_advances (G' 0) (G' 1) len) 8 = -1 → True := fun _ => trivial
  by_cases c : s < len
  rotate_left
  · left
    rw [s1, s2, if_neg (show ¬ nI s < nI len from nI_nlt (by omega) (by omega))]
    exact ⟨ts, rfl, s1, fun k3 => he_ h8 (l6 c)⟩
  · right
    rw [if_pos (show ts 2 < ts 1 by rw [s1, s2]; exact nI_lt c (by omega))]
    have hh5 : ¬ G' 0 5 = 0 := by
      by_cases d : d_X6_in (G 1 s) 48 57 = 1
      · obtain ⟨a1, a2, a3⟩ := l7 c d
        by_cases w : 999 < (scn (G 1) len (len + 1) s 0).2 ∨ (G 1 s = 48 ∧ s + 1 < (scn (G 1) len (len + 1) s 0).1)
        · rw [a2 w]; decide
        · rw [(a3 w).1]; decide
      · obtain ⟨a1, a2, a3, a4, a5⟩ := l8 c d
        by_cases w1 : G 1 s = 59
        · rw [a3 w1]; decide
        · by_cases w2 : G 1 s = 116 ∨ G 1 s = 118 ∨ G 1 s = 119
          · rw [a4 w2]; decide
          · rw [a5 w1 w2]; decide
    -- a fault at the item's first letter
    have bad : (d_X4_readItem ts le h1 t1 d1 e1 len k) = (0, ts, h1, t1, d1, e1) → (G' 0 5 = 1 → (G' 0 7 = 116 → (7 : Int32) ≤ G' 2 5) ∧ (G' 0 7 = 118 → ¬ G' 0 10 &&& 1 = 0) ∧ (¬ G' 0 7 = 116 → ¬ G' 0 7 = 118 → ¬ G' 0 10 &&& 2 = 0)) → (∃ s' G2, s' ≤ 200 ∧ (-10 - nI s : Int32) = -10 - nI s' ∧ ts 1 = nI len ∧ (∀ k3, lp_X6_house_25 G len (k3 + 2) it G' = (-10 - nI s', G2)) ∧ KG G G2) := fun _ hb2 => by
      have hw : ¬ d_X6_isWell (G' 0) = 0 := by rw [isWell_m1 h8]; decide
      have t0 : d_X6_takes (G' 0) (G' 1) 0 len = (0, upd (G' 0) 8 (G' 0 6)) := by rw [d_X6_takes, if_neg hw, if_pos rfl]
      have e8 : (upd (G' 0) 8 (G' 0 6)) 8 = nI s := l5
      refine ⟨s, va_up G' 0 (upd (G' 0) 8 (G' 0 6)), by omega, rfl, s1, fun k3 => ?_, hKG.f (fun q hq => by rcases hq with rfl | rfl | rfl <;> rfl)⟩
      rw [hb_ h8 hh5 hb2, t0, tkS_nw e8 (by omega), hf_ (s := s) e8 (by omega)]
    have badc : (d_X4_readItem ts le h1 t1 d1 e1 len k) = (0, ts, h1, t1, d1, e1) → (if ((d_X4_readItem ts le h1 t1 d1 e1 len k).1) = 0 then ((-10 : Int32) - (((d_X4_readItem ts le h1 t1 d1 e1 len k).2.1) 2), ((d_X4_readItem ts le h1 t1 d1 e1 len k).2.1), ((d_X4_readItem ts le h1 t1 d1 e1 len k).2.2.1), ((d_X4_readItem ts le h1 t1 d1 e1 len k).2.2.2.1), ((d_X4_readItem ts le h1 t1 d1 e1 len k).2.2.2.2.1), ((d_X4_readItem ts le h1 t1 d1 e1 len k).2.2.2.2.2)) else lp_X4_readInto_21 tf le hf tr de ea len k1 (i + 1) ((d_X4_readItem ts le h1 t1 d1 e1 len k).2.1) ((d_X4_readItem ts le h1 t1 d1 e1 len k).2.2.1) ((d_X4_readItem ts le h1 t1 d1 e1 len k).2.2.2.1) ((d_X4_readItem ts le h1 t1 d1 e1 len k).2.2.2.2.1) ((d_X4_readItem ts le h1 t1 d1 e1 len k).2.2.2.2.2)) = (-10 - nI s, ts, h1, t1, d1, e1) := fun e => by
      rw [e, if_pos rfl]
      dsimp only
      rw [s2]
    have les : le ((ts 2).toNatClampNeg) = G 1 s := by rw [s2, nI_clamp (by omega)]; exact hle s c
    have six : ∀ (Q : Int32 × (Nat → Int32) × (Nat → Int32) × (Nat → Int32) × (Nat → Int32) × (Nat → Int32)), (Q.1 = 0 ∨ Q.1 = 1) → (if Q.1 = 0 then (0, Q.2.1, Q.2.2.1, Q.2.2.2.1, Q.2.2.2.2.1, Q.2.2.2.2.2) else (1, Q.2.1, Q.2.2.1, Q.2.2.2.1, Q.2.2.2.2.1, Q.2.2.2.2.2)) = Q := fun Q hQ => by
      rcases hQ with z | z
      · rw [if_pos z]; exact Prod.ext z.symm rfl
      · rw [if_neg (by rw [z]; decide)]; exact Prod.ext z.symm rfl
    by_cases w116 : G 1 s = 116
    · obtain ⟨a1, a2, a3, a4, a5⟩ := l8 c (in48_of w116 (by decide))
      have g5 : G' 0 5 = 1 := a4 (Or.inl w116)
      rw [w116] at a2
      by_cases hk7 : k = 7
      · left
        have e : d_X4_readItem ts le h1 t1 d1 e1 len k = (0, ts, h1, t1, d1, e1) := by
          rw [d_X4_readItem, les, if_pos w116, if_pos (by rw [d_X0_hasRoom, d1_, hk7]; decide)]
        rw [badc e]
        exact bad e (fun _ => ⟨fun _ => by rw [d2_, hk7]; decide, fun z => by rw [a2] at z; exact absurd z (by decide), fun z => absurd a2 z⟩)
      · have hk7' : k < 7 := by omega
        have hroom : ¬ d_X0_hasRoom h1 = 0 := by
          rw [d_X0_hasRoom, d1_, if_neg (show ¬ (7 : Int32) ≤ nI k from nI_ge (b := 7) hk7' (by omega))]; decide
        obtain ⟨v1, v2⟩ := adv_LK (f := G' 0) hT l1 a1 (by omega) l4
        have x8 : (d_X6_advances (G' 0) (G 1) len) 8 = -1 := by rw [v2 8 (by decide)]; exact h8
        have hgo := fun k3 => hg_ (G := G) (G' := G') (len := len) (k := k3) (kk := k) (it := it) h8 g5 (by rw [eG1]; exact x8) hk2 ⟨fun _ => by rw [d2_]; exact nI_ge (b := 7) hk7' (by omega), fun z => by rw [a2] at z; exact absurd z (by decide), fun z => absurd a2 z⟩
        rw [a2, eG1] at hgo
        simp only [r1_, eG1] at hgo
        have hRT := RT (ts := ts) (hf := h1) (tr := t1) (de := d1) (ea := e1) (G1 := va_up G' 0 (d_X6_advances (G' 0) (G 1) len)) (kk := k) hT hs c hle v1 x8 d1_ hk7' rfl eG1
        have hri : ∀ z, (d_X4_readThing ts le h1 t1 d1 e1 len k).1 = z → (z = 0 ∨ z = 1) → d_X4_readItem ts le h1 t1 d1 e1 len k = d_X4_readThing ts le h1 t1 d1 e1 len k := fun z hz hz2 => by
          rw [d_X4_readItem, les, if_pos w116, if_neg hroom]
          exact six _ (by rw [hz]; exact hz2)
        rcases hRT with ⟨x, y, z, kn, e, x1, y1, z1, he, t', r1, r2, r3, r4, r5, r6, r7, r8, r9, r10⟩ | ⟨s', r1, r2, r3, r4⟩
        · right
          have hri := hri 1 (by rw [r1]) (Or.inr rfl)
          rw [hri, r1]
          dsimp only
          rw [if_neg (show ¬ (1 : Int32) = 0 by decide)]
          have R2 := r2_ (G' := G') (f1 := d_X6_advances (G' 0) (G 1) len) (len := len) (kk := k)
          have KGr := hKG.r 116 len k (d_X6_advances (G' 0) (G 1) len) (tkS (d_X6_readsItem (va_up G' 0 (d_X6_advances (G' 0) (G 1) len)) 116 len k 0) (G 1) len) (fun q hq => by rw [r7 q (by rcases hq with rfl | rfl | rfl <;> decide), v2 q (by rcases hq with rfl | rfl | rfl <;> decide)])
          refine opq (d_X6_readsItem (va_up G' 0 (d_X6_advances (G' 0) (G 1) len)) 116 len k) (fun R hRq => ?_)
          rw [hRq] at hgo r4 r5 r6 r7 r8 r9 r10 R2 KGr
          refine opq (tkS (R 0) (G 1) len) (fun fz hfz => ?_)
          rw [hfz] at hgo r4 r5 r6 r7 KGr
          refine ⟨_, _, _, _, _, _, e, k + 1, a, b, rfl, hgo, r2, ar1 h2i hsk.1 he, r4, r5, (r3 3 (by decide)).trans ts3, (r3 4 (by decide)).trans ts4, ha, hb, ?_, ⟨nI_1 k, ?_, hk7', ?_, ?_, ?_, ?_, ?_, ?_, ?_, ?_, fun j hj => ?_⟩, KGr⟩
          · show fz 10 = _
            rw [r7 10 (by decide), v2 10 (by decide)]; exact h10
          · show R 2 5 = _
            rw [R2, pk_us]; exact nI_1 k
          · show h1 4 ||| _ = fz 14
            rw [r6, v2 14 (by decide), d4_]
          · show h1 5 = R 2 9
            rw [R2]; exact d5_
          · show h1 6 = R 2 6
            rw [R2]; exact d6_
          · show h1 7 = R 2 7
            rw [R2]; exact d7_
          · show h1 8 = R 2 8
            rw [R2]; exact d8_
          · show NN (R 2 6) 10
            rw [R2]; exact d9_
          · show NN (R 2 7) 10
            rw [R2]; exact d10_
          · show NN (R 2 8) 999
            rw [R2]; exact d11_
          · show (upd t1 k (nI x) j = R 3 (7 + j) ∧ ∃ x, x ≤ 31 ∧ R 3 (7 + j) = nI x) ∧ (upd d1 k (nI y) j = R 4 (7 + j) ∧ NN (R 4 (7 + j)) 99) ∧ (upd e1 k (nI z) j = R 5 (7 + j) ∧ NN (R 5 (7 + j)) 9)
            rw [r8, r9, r10]
            rcases Nat.lt_or_ge j k with q | q
            · rw [pk_un (Nat.ne_of_lt q), pk_un (Nat.ne_of_lt q), pk_un (Nat.ne_of_lt q), pk_un (ar3 q), pk_un (ar3 q), pk_un (ar3 q)]
              exact d12_ j q
            · have ej : j = k := Nat.le_antisymm (Nat.le_of_lt_succ hj) q
              subst ej
              rw [pk_us, pk_us, pk_us, pk_us, pk_us, pk_us]
              exact ⟨⟨rfl, x, x1, rfl⟩, ⟨rfl, NN.of rfl y1 (by omega)⟩, ⟨rfl, NN.of rfl z1 (by omega)⟩⟩
        · left
          have hri := hri 0 r1 (Or.inl rfl)
          rw [hri, r1, if_pos rfl]
          have KGr := hKG.r 116 len k (d_X6_advances (G' 0) (G 1) len) (tkS (d_X6_readsItem (va_up G' 0 (d_X6_advances (G' 0) (G 1) len)) 116 len k 0) (G 1) len) (fun q hq => (r4.2.2 q hq).trans (v2 q (by rcases hq with rfl | rfl | rfl <;> decide)))
          refine opq (d_X6_readsItem (va_up G' 0 (d_X6_advances (G' 0) (G 1) len)) 116 len k) (fun R hRq => ?_)
          rw [hRq] at hgo r4 KGr
          refine opq (tkS (R 0) (G 1) len) (fun fz hfz => ?_)
          rw [hfz] at hgo r4 KGr
          refine ⟨s', _, r4.2.1, ?_, r2.1, fun k3 => ?_, KGr⟩
          · show -10 - (d_X4_readThing ts le h1 t1 d1 e1 len k).2.1 2 = _
            rw [r2.2.1]
          · rw [hgo (k3 + 1), hf_ (s := s') r4.1 r4.2.1]
    · by_cases w118 : G 1 s = 118
      · obtain ⟨a1, a2, a3, a4, a5⟩ := l8 c (in48_of w118 (by decide))
        have g5 : G' 0 5 = 1 := a4 (Or.inr (Or.inl w118))
        rw [w118] at a2
        have htold := told1 a (by omega) b (by omega)
        by_cases ha0 : a = 0
        rotate_left
        · left
          have e : d_X4_readItem ts le h1 t1 d1 e1 len k = (0, ts, h1, t1, d1, e1) := by
            rw [d_X4_readItem, les, if_neg w116, if_neg (by rw [w118]; decide), if_pos w118, ts3, if_neg (nI_ne0 (by omega) (by omega))]
          rw [badc e]
          exact bad e (fun _ => ⟨fun z => by rw [a2] at z; exact absurd z (by decide), fun _ => by rw [h10]; exact fun z => ha0 (htold.1.mp z), fun _ z => absurd a2 z⟩)
        · obtain ⟨v1, v2⟩ := adv_LK (f := G' 0) hT l1 a1 (by omega) l4
          have x8 : (d_X6_advances (G' 0) (G 1) len) 8 = -1 := by rw [v2 8 (by decide)]; exact h8
          have hgo := fun k3 => hg_ (G := G) (G' := G') (len := len) (k := k3) (kk := k) (it := it) h8 g5 (by rw [eG1]; exact x8) hk2 ⟨fun z => by rw [a2] at z; exact absurd z (by decide), fun _ => by rw [h10]; exact htold.1.mpr ha0, fun _ z => absurd a2 z⟩
          rw [a2, eG1] at hgo
          simp only [r1_, eG1] at hgo
          have hRV := RV (ts := ts) (hf := h1) (tr := t1) (de := d1) (ea := e1) (G1 := va_up G' 0 (d_X6_advances (G' 0) (G 1) len)) (kk := k) hT hs c hle v1 x8 rfl eG1
          have hri : ∀ z, (d_X4_readVow ts le h1 t1 d1 e1 len).1 = z → (z = 0 ∨ z = 1) → d_X4_readItem ts le h1 t1 d1 e1 len k = d_X4_readVow ts le h1 t1 d1 e1 len := fun z hz hz2 => by
            rw [d_X4_readItem, les, if_neg w116, if_neg (by rw [w118]; decide), if_pos w118, ts3, if_pos (by rw [ha0]; decide)]
            exact six _ (by rw [hz]; exact hz2)
          obtain ⟨q3, q4, q5⟩ := r345_ (G' := G') (f1 := d_X6_advances (G' 0) (G 1) len) (what := 118) (len := len) (kk := k) (by decide)
          rcases hRV with ⟨x, e, x1, he, t', r1, r2, r3, r4, r5, r6, r7, r8⟩ | ⟨s', r1, r2, r4⟩
          · right
            have hri := hri 1 (by rw [r1]) (Or.inr rfl)
            rw [hri, r1]
            dsimp only
            rw [if_neg (show ¬ (1 : Int32) = 0 by decide)]
            have KGr := hKG.r 118 len k (d_X6_advances (G' 0) (G 1) len) (tkS (d_X6_readsItem (va_up G' 0 (d_X6_advances (G' 0) (G 1) len)) 118 len k 0) (G 1) len) (fun q hq => by rw [r7 q (by rcases hq with rfl | rfl | rfl <;> decide), v2 q (by rcases hq with rfl | rfl | rfl <;> decide)])
            refine opq (d_X6_readsItem (va_up G' 0 (d_X6_advances (G' 0) (G 1) len)) 118 len k) (fun R hRq => ?_)
            rw [hRq] at hgo r4 r5 r6 r7 r8 q3 q4 q5 KGr
            refine opq (tkS (R 0) (G 1) len) (fun fz hfz => ?_)
            rw [hfz] at hgo r4 r5 r6 r7 KGr
            refine ⟨_, _, _, _, _, _, e, k, 1, b, rfl, hgo, r2, ar1 h2i hsk.1 he, r4, r5, (r3 3 (by decide)), (r3 4 (by decide)).trans ts4, by omega, hb, ?_, ⟨d1_, ?_, d3_, ?_, ?_, ?_, ?_, ?_, ?_, ?_, ?_, fun j hj => ?_⟩, KGr⟩
            · show fz 10 = _
              rw [r6, v2 10 (by decide), h10]; exact htold.2.2.1 ha0
            · show R 2 5 = _
              rw [r8]; exact d2_
            · show h1 4 = fz 14
              rw [r7 14 (by decide), v2 14 (by decide)]; exact d4_
            · show nI x = R 2 9
              rw [r8, pk_us]
            · show h1 6 = R 2 6
              rw [r8]; exact d6_
            · show h1 7 = R 2 7
              rw [r8]; exact d7_
            · show h1 8 = R 2 8
              rw [r8]; exact d8_
            · show NN (R 2 6) 10
              rw [r8]; exact d9_
            · show NN (R 2 7) 10
              rw [r8]; exact d10_
            · show NN (R 2 8) 999
              rw [r8]; exact d11_
            · show (t1 j = R 3 (7 + j) ∧ ∃ x, x ≤ 31 ∧ R 3 (7 + j) = nI x) ∧ (d1 j = R 4 (7 + j) ∧ NN (R 4 (7 + j)) 99) ∧ (e1 j = R 5 (7 + j) ∧ NN (R 5 (7 + j)) 9)
              rw [q3, q4, q5]; exact d12_ j hj
          · left
            have hri := hri 0 r1 (Or.inl rfl)
            rw [hri, r1, if_pos rfl]
            have KGr := hKG.r 118 len k (d_X6_advances (G' 0) (G 1) len) (tkS (d_X6_readsItem (va_up G' 0 (d_X6_advances (G' 0) (G 1) len)) 118 len k 0) (G 1) len) (fun q hq => (r4.2.2 q hq).trans (v2 q (by rcases hq with rfl | rfl | rfl <;> decide)))
            refine opq (d_X6_readsItem (va_up G' 0 (d_X6_advances (G' 0) (G 1) len)) 118 len k) (fun R hRq => ?_)
            rw [hRq] at hgo r4 KGr
            refine opq (tkS (R 0) (G 1) len) (fun fz hfz => ?_)
            rw [hfz] at hgo r4 KGr
            refine ⟨s', _, r4.2.1, ?_, r2.1, fun k3 => ?_, KGr⟩
            · show -10 - (d_X4_readVow ts le h1 t1 d1 e1 len).2.1 2 = _
              rw [r2.2.1]
            · rw [hgo (k3 + 1), hf_ (s := s') r4.1 r4.2.1]
      · by_cases w119 : G 1 s = 119
        · obtain ⟨a1, a2, a3, a4, a5⟩ := l8 c (in48_of w119 (by decide))
          have g5 : G' 0 5 = 1 := a4 (Or.inr (Or.inr w119))
          rw [w119] at a2
          have htold := told1 a (by omega) b (by omega)
          by_cases hb0 : b = 0
          rotate_left
          · left
            have e : d_X4_readItem ts le h1 t1 d1 e1 len k = (0, ts, h1, t1, d1, e1) := by
              rw [d_X4_readItem, les, if_neg w116, if_neg (by rw [w119]; decide), if_neg w118, if_pos w119, ts4, if_neg (nI_ne0 (by omega) (by omega))]
            rw [badc e]
            exact bad e (fun _ => ⟨fun z => by rw [a2] at z; exact absurd z (by decide), fun z => by rw [a2] at z; exact absurd z (by decide), fun _ _ => by rw [h10]; exact fun z => hb0 (htold.2.1.mp z)⟩)
          · obtain ⟨v1, v2⟩ := adv_LK (f := G' 0) hT l1 a1 (by omega) l4
            have x8 : (d_X6_advances (G' 0) (G 1) len) 8 = -1 := by rw [v2 8 (by decide)]; exact h8
            have hgo := fun k3 => hg_ (G := G) (G' := G') (len := len) (k := k3) (kk := k) (it := it) h8 g5 (by rw [eG1]; exact x8) hk2 ⟨fun z => by rw [a2] at z; exact absurd z (by decide), fun z => by rw [a2] at z; exact absurd z (by decide), fun _ _ => by rw [h10]; exact htold.2.1.mpr hb0⟩
            rw [a2, eG1] at hgo
            simp only [r1_, eG1] at hgo
            have hRW := RWr (ts := ts) (hf := h1) (tr := t1) (de := d1) (ea := e1) (G1 := va_up G' 0 (d_X6_advances (G' 0) (G 1) len)) (kk := k) (what := 119) hT hs c hle v1 x8 rfl eG1 (by decide) (by decide)
            have hri : ∀ z, (d_X4_readWar ts le h1 t1 d1 e1 len).1 = z → (z = 0 ∨ z = 1) → d_X4_readItem ts le h1 t1 d1 e1 len k = d_X4_readWar ts le h1 t1 d1 e1 len := fun z hz hz2 => by
              rw [d_X4_readItem, les, if_neg w116, if_neg (by rw [w119]; decide), if_neg w118, if_pos w119, ts4, if_pos (by rw [hb0]; decide)]
              exact six _ (by rw [hz]; exact hz2)
            obtain ⟨q3, q4, q5⟩ := r345_ (G' := G') (f1 := d_X6_advances (G' 0) (G 1) len) (what := 119) (len := len) (kk := k) (by decide)
            rcases hRW with ⟨x, y, z, e, x1, y1, z1, he, t', r1, r2, r3, r4, r5, r6, r7, r8⟩ | ⟨s', r1, r2, r4⟩
            · right
              have hri := hri 1 (by rw [r1]) (Or.inr rfl)
              rw [hri, r1]
              dsimp only
              rw [if_neg (show ¬ (1 : Int32) = 0 by decide)]
              have KGr := hKG.r 119 len k (d_X6_advances (G' 0) (G 1) len) (tkS (d_X6_readsItem (va_up G' 0 (d_X6_advances (G' 0) (G 1) len)) 119 len k 0) (G 1) len) (fun q hq => by rw [r7 q (by rcases hq with rfl | rfl | rfl <;> decide), v2 q (by rcases hq with rfl | rfl | rfl <;> decide)])
              refine opq (d_X6_readsItem (va_up G' 0 (d_X6_advances (G' 0) (G 1) len)) 119 len k) (fun R hRq => ?_)
              rw [hRq] at hgo r4 r5 r6 r7 r8 q3 q4 q5 KGr
              refine opq (tkS (R 0) (G 1) len) (fun fz hfz => ?_)
              rw [hfz] at hgo r4 r5 r6 r7 KGr
              refine ⟨_, _, _, _, _, _, e, k, a, 1, rfl, hgo, r2, ar1 h2i hsk.1 he, r4, r5, (r3 3 (by decide)).trans ts3, (r3 4 (by decide)), ha, by omega, ?_, ⟨d1_, ?_, d3_, ?_, ?_, ?_, ?_, ?_, ?_, ?_, ?_, fun j hj => ?_⟩, KGr⟩
              · show fz 10 = _
                rw [r6, v2 10 (by decide), h10]; exact htold.2.2.2 hb0
              · show R 2 5 = _
                rw [r8]; exact d2_
              · show h1 4 = fz 14
                rw [r7 14 (by decide), v2 14 (by decide)]; exact d4_
              · show h1 5 = R 2 9
                rw [r8]; exact d5_
              · show nI x = R 2 6
                rw [r8]; rfl
              · show nI y = R 2 7
                rw [r8]; rfl
              · show nI z = R 2 8
                rw [r8]; rfl
              · show NN (R 2 6) 10
                rw [r8]; exact NN.of rfl x1 (by omega)
              · show NN (R 2 7) 10
                rw [r8]; exact NN.of rfl y1 (by omega)
              · show NN (R 2 8) 999
                rw [r8]; exact NN.of rfl z1 (by omega)
              · show (t1 j = R 3 (7 + j) ∧ ∃ x, x ≤ 31 ∧ R 3 (7 + j) = nI x) ∧ (d1 j = R 4 (7 + j) ∧ NN (R 4 (7 + j)) 99) ∧ (e1 j = R 5 (7 + j) ∧ NN (R 5 (7 + j)) 9)
                rw [q3, q4, q5]; exact d12_ j hj
            · left
              have hri := hri 0 r1 (Or.inl rfl)
              rw [hri, r1, if_pos rfl]
              have KGr := hKG.r 119 len k (d_X6_advances (G' 0) (G 1) len) (tkS (d_X6_readsItem (va_up G' 0 (d_X6_advances (G' 0) (G 1) len)) 119 len k 0) (G 1) len) (fun q hq => (r4.2.2 q hq).trans (v2 q (by rcases hq with rfl | rfl | rfl <;> decide)))
              refine opq (d_X6_readsItem (va_up G' 0 (d_X6_advances (G' 0) (G 1) len)) 119 len k) (fun R hRq => ?_)
              rw [hRq] at hgo r4 KGr
              refine opq (tkS (R 0) (G 1) len) (fun fz hfz => ?_)
              rw [hfz] at hgo r4 KGr
              refine ⟨s', _, r4.2.1, ?_, r2.1, fun k3 => ?_, KGr⟩
              · show -10 - (d_X4_readWar ts le h1 t1 d1 e1 len).2.1 2 = _
                rw [r2.2.1]
              · rw [hgo (k3 + 1), hf_ (s := s') r4.1 r4.2.1]
        · left
          have e : d_X4_readItem ts le h1 t1 d1 e1 len k = (0, ts, h1, t1, d1, e1) := by
            rw [d_X4_readItem, les, if_neg w116]
            split
            · rfl
            · rfl
          have h51 : ¬ G' 0 5 = 1 := by
            by_cases d : d_X6_in (G 1 s) 48 57 = 1
            · obtain ⟨a1, a2, a3⟩ := l7 c d
              by_cases w : 999 < (scn (G 1) len (len + 1) s 0).2 ∨ (G 1 s = 48 ∧ s + 1 < (scn (G 1) len (len + 1) s 0).1)
              · rw [a2 w]; decide
              · rw [(a3 w).1]; decide
            · obtain ⟨a1, a2, a3, a4, a5⟩ := l8 c d
              by_cases w1 : G 1 s = 59
              · rw [a3 w1]; decide
              · rw [a5 w1 (fun z => by rcases z with z | z | z; exact w116 z; exact w118 z; exact w119 z)]; decide
          rw [badc e]
          exact bad e (fun z => absurd z h51)
