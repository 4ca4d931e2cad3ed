/-! the relation between the class's cells F and the reference's cells G -/
def ST (u g : Nat → Int32) : Prop := g 0 = u 4 ∧ g 1 = u 0 ∧ g 2 = u 1 ∧ g 3 = u 2 ∧ g 4 = u 3
def HR (F G : Nat → Nat → Int32) (n : Nat) : Prop := F 1 3 = nI n ∧ G 2 0 = nI n ∧ n ≤ 7 ∧ F 1 6 = G 2 1 ∧ F 1 7 = G 2 2 ∧ F 1 8 = G 2 3 ∧ (∀ j, j < n → F 2 j = G 3 j) ∧ (∀ j, j < n → F 3 j = G 4 j) ∧ (∀ j, j < n → F 4 j = G 5 j) ∧ EA (G 5) n ∧ DE (G 4) n ∧ WR (G 2) ∧ (∀ j, j < n → ∃ x, x ≤ 31 ∧ G 3 j = nI x)
def TR (F G : Nat → Nat → Int32) (len : Nat) : Prop := F 9 1 = nI len ∧ G 0 3 = nI len ∧ len ≤ 200 ∧ ∀ j, j < len → F 10 j = G 1 j ∧ ∃ x, x ≤ 255 ∧ G 1 j = nI x
def CR (F G : Nat → Nat → Int32) (dd : Nat) : Prop := ST (F 11) (G 6) ∧ F 11 4 = nI dd ∧ dd ≤ 999
def UR (F G : Nat → Nat → Int32) (um nx : Nat) : Prop := F 13 2 = nI um ∧ G 0 20 = nI um ∧ um ≤ 10 ∧ F 13 1 = nI nx ∧ nx < 10 ∧ ∀ j, j < um → ST (F (15 + (nx + 10 - um + j) % 10)) (fun k => G 10 (5 * j + k)) ∧ ∃ d, d ≤ 999 ∧ F (15 + (nx + 10 - um + j) % 10) 4 = nI d
def IR (F G : Nat → Nat → Int32) : Prop := ∀ i, i < 2 → F 28 i = G 9 i ∧ (¬ F 28 i = 0 → ST (F (26 + i)) (fun k => G 8 (5 * i + k)) ∧ ∃ d, d ≤ 999 ∧ F (26 + i) 4 = nI d)
def SR (F G : Nat → Nat → Int32) (n sk : Nat) : Prop := F 29 2 = nI sk ∧ G 0 23 = nI sk ∧ sk ≤ 6 ∧ ∀ j, j < sk → F 30 j = G 11 j ∧ F 31 j = G 12 j ∧ (∃ x, x < n ∧ G 11 j = nI x) ∧ (G 12 j = 0 ∨ G 12 j = 1)
def RLN (F G : Nat → Nat → Int32) (n len dd um nx sk : Nat) : Prop := HR F G n ∧ TR F G len ∧ CR F G dd ∧ UR F G um nx ∧ IR F G ∧ SR F G n sk
/-- there are numbers by which they agree -/
def RX (F G : Nat → Nat → Int32) : Prop := ∃ n len dd um nx sk, RLN F G n len dd um nx sk
theorem HR.mv {F G F' G' : Nat → Nat → Int32} {n : Nat} (h : HR F G n) (f1 : F' 1 = F 1) (f2 : F' 2 = F 2) (f3 : F' 3 = F 3) (f4 : F' 4 = F 4) (g2 : G' 2 = G 2) (g3 : G' 3 = G 3) (g4 : G' 4 = G 4) (g5 : G' 5 = G 5) : HR F' G' n := by
  unfold HR at h ⊢; rw [f1, f2, f3, f4, g2, g3, g4, g5]; exact h
theorem TR.mv {F G F' G' : Nat → Nat → Int32} {len : Nat} (h : TR F G len) (f9 : F' 9 = F 9) (f10 : F' 10 = F 10) (g0 : G' 0 3 = G 0 3) (g1 : G' 1 = G 1) : TR F' G' len := by
  unfold TR at h ⊢; rw [f9, f10, g0, g1]; exact h
theorem CR.mv {F G F' G' : Nat → Nat → Int32} {dd : Nat} (h : CR F G dd) (f11 : F' 11 = F 11) (g6 : G' 6 = G 6) : CR F' G' dd := by
  unfold CR at h ⊢; rw [f11, g6]; exact h
theorem UR.mv {F G F' G' : Nat → Nat → Int32} {um nx : Nat} (h : UR F G um nx) (f13 : F' 13 = F 13) (fs : ∀ j, j < 10 → F' (15 + j) = F (15 + j)) (g0 : G' 0 20 = G 0 20) (g10 : G' 10 = G 10) : UR F' G' um nx := by
  obtain ⟨a, b, c, d, e, f⟩ := h
  refine ⟨by rw [f13]; exact a, by rw [g0]; exact b, c, by rw [f13]; exact d, e, fun j hj => ?_⟩
  rw [fs _ (Nat.mod_lt _ (by omega)), g10]; exact f j hj
theorem IR.mv {F G F' G' : Nat → Nat → Int32} (h : IR F G) (f28 : F' 28 = F 28) (f26 : F' 26 = F 26) (f27 : F' 27 = F 27) (g8 : G' 8 = G 8) (g9 : G' 9 = G 9) : IR F' G' := by
  intro i hi
  have fi : F' (26 + i) = F (26 + i) := by
    rcases (show i = 0 ∨ i = 1 by omega) with rfl | rfl
    · exact f26
    · exact f27
  rw [f28, fi, g8, g9]; exact h i hi
theorem SR.mv {F G F' G' : Nat → Nat → Int32} {n sk : Nat} (h : SR F G n sk) (f29 : F' 29 = F 29) (f30 : F' 30 = F 30) (f31 : F' 31 = F 31) (g0 : G' 0 23 = G 0 23) (g11 : G' 11 = G 11) (g12 : G' 12 = G 12) : SR F' G' n sk := by
  unfold SR at h ⊢; rw [f29, f30, f31, g0, g11, g12]; exact h
/-- what only reads: of the reference thrown, harmAll, eagerAll, w may change; of the class trial -/
theorem RLN.mv {F G F' G' : Nat → Nat → Int32} {n len dd um nx sk : Nat} (h : RLN F G n len dd um nx sk) (ef : ∀ k, ¬ k = 12 → F' k = F k) (e0 : ∀ k, k = 3 ∨ k = 20 ∨ k = 23 → G' 0 k = G 0 k) (eg : ∀ k, ¬ k = 0 → ¬ k = 7 → G' k = G k) : RLN F' G' n len dd um nx sk := by
  obtain ⟨h1, h2, h3, h4, h5, h6⟩ := h
  refine ⟨h1.mv (ef 1 (by decide)) (ef 2 (by decide)) (ef 3 (by decide)) (ef 4 (by decide)) (eg 2 (by decide) (by decide)) (eg 3 (by decide) (by decide)) (eg 4 (by decide) (by decide)) (eg 5 (by decide) (by decide)), h2.mv (ef 9 (by decide)) (ef 10 (by decide)) (e0 3 (by decide)) (eg 1 (by decide) (by decide)), h3.mv (ef 11 (by decide)) (eg 6 (by decide) (by decide)), h4.mv (ef 13 (by decide)) (fun j hj => ef _ (by omega)) (e0 20 (by decide)) (eg 10 (by decide) (by decide)), h5.mv (ef 28 (by decide)) (ef 26 (by decide)) (ef 27 (by decide)) (eg 8 (by decide) (by decide)) (eg 9 (by decide) (by decide)), h6.mv (ef 29 (by decide)) (ef 30 (by decide)) (ef 31 (by decide)) (e0 23 (by decide)) (eg 11 (by decide) (by decide)) (eg 12 (by decide) (by decide))⟩
theorem RLN.t0 {F G : Nat → Nat → Int32} {n len dd um nx sk : Nat} (h : RLN F G n len dd um nx sk) : RLN F (va_up G 0 (upd (G 0) 0 0)) n len dd um nx sk :=
  h.mv (fun _ _ => rfl) (fun k hk => by rcases hk with rfl | rfl | rfl <;> rfl) (fun k hk _ => va_up_ne _ _ hk)
theorem RLN.t7 {F G : Nat → Nat → Int32} {n len dd um nx sk : Nat} (h : RLN F G n len dd um nx sk) (w : Nat → Int32) : RLN F (va_up (va_up G 0 (upd (G 0) 0 0)) 7 w) n len dd um nx sk :=
  h.t0.mv (fun _ _ => rfl) (fun k hk => rfl) (fun k _ hk => va_up_ne _ _ hk)
theorem RLN.th {F G : Nat → Nat → Int32} {n len dd um nx sk : Nat} (h : RLN F G n len dd um nx sk) {f : Nat → Int32} (hf : ∀ k, k = 3 ∨ k = 20 ∨ k = 23 → f k = G 0 k) : RLN F (va_up G 0 f) n len dd um nx sk :=
  h.mv (fun _ _ => rfl) (fun k hk => hf k hk) (fun k hk _ => va_up_ne _ _ hk)
theorem RLN.t7h {F G : Nat → Nat → Int32} {n len dd um nx sk : Nat} (h : RLN F G n len dd um nx sk) {f : Nat → Int32} (hf : ∀ k, k = 3 ∨ k = 20 ∨ k = 23 → f k = G 0 k) (w : Nat → Int32) : RLN F (va_up (va_up G 0 f) 7 w) n len dd um nx sk :=
  (h.th hf).mv (fun _ _ => rfl) (fun k hk => rfl) (fun k _ hk => va_up_ne _ _ hk)
/-- the relation's parts, as they are used -/
theorem RLN.cov {F G : Nat → Nat → Int32} {n len dd um nx sk : Nat} (h : RLN F G n len dd um nx sk) : d_X5_coveredNow (F 2) (F 11) n = d_X6_covered (G 3) (G 6) n := by
  obtain ⟨⟨_, _, h7, _, _, _, ht, _, _, _, _, _, _⟩, _, ⟨⟨s0, s1, s2, s3, s4⟩, _, _⟩, _⟩ := h
  exact cov_eq h7 ht s1 s4
theorem RLN.com {F G : Nat → Nat → Int32} {n len dd um nx sk : Nat} (h : RLN F G n len dd um nx sk) : d_X5_ableNow (F 2) (F 4) (F 11) n = d_X6_comers (G 3) (G 5) (G 6) n := by
  obtain ⟨⟨_, _, h7, _, _, _, ht, _, he, _, _, _, _⟩, _, ⟨⟨s0, s1, s2, s3, s4⟩, _, _⟩, _⟩ := h
  exact com_eq h7 ht he s1 s2 s3 s4
theorem RLN.hold {F G : Nat → Nat → Int32} {n len dd um nx sk : Nat} (h : RLN F G n len dd um nx sk) (t : Int32) : d_X0_holds (F 1) t = d_X6_isThing t n := holds_eq h.1.1 h.1.2.2.1
/-- harm's two numbers -/
theorem RLN.hu {F G : Nat → Nat → Int32} {n len dd um nx sk : Nat} (h : RLN F G n len dd um nx sk) (able cov : Int32) : d_X0_harmUpper (F 3) (F 4) able cov n = d_X6_dearOf (G 4) (G 5) (able &&& cov) 1 n := by
  obtain ⟨⟨_, _, h7, _, _, _, _, hd, he, _, _, _, _⟩, _⟩ := h
  exact hU_eq h7 hd he
theorem RLN.shr {F G : Nat → Nat → Int32} {n len dd um nx sk : Nat} (h : RLN F G n len dd um nx sk) (able : Int32) : d_X0_shares (F 4) able n = nI (mx (eS (G 5) able n)) := by
  obtain ⟨⟨_, _, h7, _, _, _, _, hd, he, hE, _, _, _⟩, _⟩ := h
  exact sh_eq h7 he hE
theorem q_thing {F G : Nat → Nat → Int32} {n len dd um nx sk : Nat} (h : RLN F G n len dd um nx sk) (t what : Int32) : d_X5_thing F t what n = (d_X6_thing G t what n).1 ∧ RLN F (d_X6_thing G t what n).2 n len dd um nx sk := by
  refine ⟨?_, ?_⟩
  · rw [d_X5_thing, d_X6_thing, h.hold, h.cov, h.com]
    have h7 : n ≤ 7 := h.1.2.2.1
    obtain ⟨⟨_, _, _, _, _, _, ht, hd, he, _, _, _, _⟩, _, ⟨⟨s0, s1, s2, s3, s4⟩, _, _⟩, _⟩ := h
    by_cases c : d_X6_isThing t n = 0
    · rw [if_pos c, if_pos c]
    · rw [if_neg c, if_neg c]
      obtain ⟨e1, e2⟩ := isThing_ok (mn := fun _ => 0) c h7
      by_cases c2 : d_X6_in what 0 7 = 0
      · rw [if_pos c2]
        rw [if_neg (fun e => by subst e; exact absurd c2 (by decide)), if_neg (fun e => by subst e; exact absurd c2 (by decide)), if_neg (fun e => by subst e; exact absurd c2 (by decide)), if_neg (fun e => by subst e; exact absurd c2 (by decide)), if_neg (fun e => by subst e; exact absurd c2 (by decide)), if_neg (fun e => by subst e; exact absurd c2 (by decide)), if_neg (fun e => by subst e; exact absurd c2 (by decide)), if_neg (fun e => by subst e; exact absurd c2 (by decide))]
      · rw [if_neg c2]
        obtain ⟨j, hj, e⟩ := in_or (m := 7) c2 (by omega)
        clear c2
        rcases (show j = 0 ∨ j = 1 ∨ j = 2 ∨ j = 3 ∨ j = 4 ∨ j = 5 ∨ j = 6 ∨ j = 7 by omega) with rfl | rfl | rfl | rfl | rfl | rfl | rfl | rfl
        · have e : what = 0 := e
          subst e; simp [ht _ e2]
        · have e : what = 1 := e
          subst e; simp [hd _ e2]
        · have e : what = 2 := e
          subst e; simp [he _ e2]
        · have e : what = 3 := e
          subst e; simp [d_X5_bitOf, show ((3 : Int32) - 1).toNatClampNeg = 2 by decide, s2]
        · have e : what = 4 := e
          subst e; simp [d_X5_bitOf, show ((4 : Int32) - 1).toNatClampNeg = 3 by decide, s3]
        · have e : what = 5 := e
          subst e; simp [d_X5_bitOf, show ((5 : Int32) - 1).toNatClampNeg = 4 by decide, s4]
        · have e : what = 6 := e
          subst e; simp [d_X5_bitOf]
        · have e : what = 7 := e
          subst e; simp [d_X5_bitOf]
  · unfold d_X6_thing; (repeat' split) <;> exact h.t0
theorem q_now {F G : Nat → Nat → Int32} {n len dd um nx sk : Nat} (h : RLN F G n len dd um nx sk) (what : Int32) : d_X5_now F what n = (d_X6_now G what n).1 ∧ RLN F (d_X6_now G what n).2 n len dd um nx sk := by
  refine ⟨?_, ?_⟩
  · rw [d_X5_now, d_X6_now, h.cov, h.com]
    have h7 : n ≤ 7 := h.1.2.2.1
    obtain ⟨⟨_, _, _, _, _, _, ht, hd, he, _, _, _, _⟩, _, ⟨⟨s0, s1, s2, s3, s4⟩, _, _⟩, ⟨u1, u2, _⟩, _⟩ := h
    by_cases c2 : d_X6_in what 0 6 = 0
    · rw [if_pos c2]
      rw [if_neg (fun e => by subst e; exact absurd c2 (by decide)), if_neg (fun e => by subst e; exact absurd c2 (by decide)), if_neg (fun e => by subst e; exact absurd c2 (by decide)), if_neg (fun e => by subst e; exact absurd c2 (by decide)), if_neg (fun e => by subst e; exact absurd c2 (by decide)), if_neg (fun e => by subst e; exact absurd c2 (by decide)), if_neg (fun e => by subst e; exact absurd c2 (by decide))]
    · rw [if_neg c2]
      obtain ⟨j, hj, e⟩ := in_or (m := 6) c2 (by omega)
      clear c2
      rcases (show j = 0 ∨ j = 1 ∨ j = 2 ∨ j = 3 ∨ j = 4 ∨ j = 5 ∨ j = 6 by omega) with rfl | rfl | rfl | rfl | rfl | rfl | rfl
      · have e : what = 0 := e
        subst e; simp [s0]
      · have e : what = 1 := e
        subst e; simp [show (1 : Int32).toNatClampNeg = 1 by decide, s1]
      · have e : what = 2 := e
        subst e; simp
      · have e : what = 3 := e
        subst e; simp
      · have e : what = 4 := e
        subst e; simp [s4]
      · have e : what = 5 := e
        subst e; simp [s4, dT_eq (ea' := G 5) h7 hd]
      · have e : what = 6 := e
        subst e; simp [u1, u2]
  · unfold d_X6_now; (repeat' split) <;> exact h.t0
theorem q_count {F G : Nat → Nat → Int32} {n len dd um nx sk : Nat} (h : RLN F G n len dd um nx sk) (what : Int32) : d_X5_count F what = (d_X6_count G what).1 ∧ RLN F (d_X6_count G what).2 n len dd um nx sk := by
  refine ⟨?_, ?_⟩
  · rw [d_X5_count, d_X6_count]
    obtain ⟨⟨n1, n2, _, m1, m2, m3, _⟩, ⟨t1, t2, _⟩, _, _, _, ⟨k1, k2, _⟩⟩ := h
    by_cases c2 : d_X6_in what 0 3 = 0
    · rw [if_pos c2]
      rw [if_neg (fun e => by subst e; exact absurd c2 (by decide)), if_neg (fun e => by subst e; exact absurd c2 (by decide)), if_neg (fun e => by subst e; exact absurd c2 (by decide)), if_neg (fun e => by subst e; exact absurd c2 (by decide))]
      split
      · rw [k1, k2]
      · split
        · rw [t1, t2]
        · rfl
    · rw [if_neg c2]
      obtain ⟨j, hj, e⟩ := in_or (m := 3) c2 (by omega)
      clear c2
      rcases (show j = 0 ∨ j = 1 ∨ j = 2 ∨ j = 3 by omega) with rfl | rfl | rfl | rfl
      · have e : what = 0 := e
        subst e; simp [n1, n2]
      · have e : what = 1 := e
        subst e; simp [show (1 : Int32).toNatClampNeg = 1 by decide, m1]
      · have e : what = 2 := e
        subst e; simp [show (2 : Int32).toNatClampNeg = 2 by decide, m2]
      · have e : what = 3 := e
        subst e; simp [show (3 : Int32).toNatClampNeg = 3 by decide, m3]
  · unfold d_X6_count; (repeat' split) <;> exact h.t0
theorem hs_k {f tr de ea g : Nat → Int32} {n k : Nat} (hk : k = 3 ∨ k = 20 ∨ k = 23) : d_X6_harms f tr de ea g n k = f k := by
  unfold d_X6_harms; rcases hk with rfl | rfl | rfl <;> split <;> rfl
theorem hs_25 {f tr de ea g : Nat → Int32} {n : Nat} : d_X6_harms f tr de ea g n 25 = d_X6_dearOf de ea (d_X6_comers tr ea g n &&& d_X6_covered tr g n) 1 n := by
  unfold d_X6_harms; split <;> rfl
theorem q_harm {F G : Nat → Nat → Int32} {n len dd um nx sk : Nat} (h : RLN F G n len dd um nx sk) (what : Int32) : d_X5_harm F what n = (d_X6_harm G what n).1 ∧ RLN F (d_X6_harm G what n).2 n len dd um nx sk := by
  refine ⟨?_, ?_⟩
  · rw [d_X5_harm, d_X6_harm, yn_eq, h.cov, h.com, h.hu, h.shr]
    obtain ⟨⟨_, _, h7, _, _, _, _, _, _, hE, hD, _⟩, _⟩ := h
    by_cases c : d_X6_in what 0 1 = 0
    · rw [if_pos c, if_pos c]
    · rw [if_neg c, if_neg c]
      obtain ⟨a1, a2, a3, a4, a5⟩ := harms_ok (f := upd (G 0) 0 0) (tr := G 3) (g := G 6) hD hE h7
      rw [← hs_25 (f := upd (G 0) 0 0), ← a3]
      exact part_eq a3 a4 (by omega) (part_n a1 (by omega))
  · unfold d_X6_harm; split
    · exact h.t0
    · exact h.th (fun k hk => by rw [hs_k hk]; rcases hk with rfl | rfl | rfl <;> rfl)
theorem q_odds {F G : Nat → Nat → Int32} {n len dd um nx sk : Nat} (h : RLN F G n len dd um nx sk) (t what : Int32) : d_X5_odds F t what n = (d_X6_odds G t what n).1 ∧ RLN F (d_X6_odds G t what n).2 n len dd um nx sk := by
  refine ⟨?_, ?_⟩
  · rw [d_X5_odds, d_X6_odds, yn_eq, h.hold, h.com, h.shr]
    obtain ⟨⟨_, _, h7, _, _, _, _, _, he, hE, hD, _⟩, _⟩ := h
    by_cases c : d_X6_isThing t n = 0
    · rw [if_pos c, if_pos c]
    · rw [if_neg c, if_neg c]
      obtain ⟨e1, e2⟩ := isThing_ok (mn := fun _ => 0) c h7
      by_cases c2 : d_X6_in what 0 1 = 0
      · rw [if_pos c2, if_pos c2]
      · rw [if_neg c2, if_neg c2]
        have hS := eS_le hE (d_X6_comers (G 3) (G 5) (G 6) n) (Nat.le_refl n)
        by_cases c3 : (d_X6_comers (G 3) (G 5) (G 6) n >>> (t &&& 31)) &&& (1 : Int32) = 1
        · have hp := odds_pos h7 hE ⟨e1, e2⟩ c3
          have hm : nI (mx (eS (G 5) (d_X6_comers (G 3) (G 5) (G 6) n) n)) = d_X6_eagerOf (G 5) (d_X6_comers (G 3) (G 5) (G 6) n) n := by
            rw [mx, if_neg (by omega), eagerOf_eq hE h7]
          rw [if_pos c3]
          have c3' : d_X5_bitOf (d_X6_comers (G 3) (G 5) (G 6) n) t = 1 := c3
          rw [if_pos c3', hm, he _ e2]
          have hb := (hE _ e2).2
          refine part_eq (b := eS (G 5) (d_X6_comers (G 3) (G 5) (G 6) n) n) (eagerOf_eq hE h7 _) hp (by omega) (part_n (hE _ e2).1 (by omega))
        · rw [if_neg c3]
          have c3' : ¬ d_X5_bitOf (d_X6_comers (G 3) (G 5) (G 6) n) t = 1 := c3
          rw [if_neg c3']
          have hmp := mx_pos (eS (G 5) (d_X6_comers (G 3) (G 5) (G 6) n) n)
          have hml := mx_le (S := eS (G 5) (d_X6_comers (G 3) (G 5) (G 6) n) n) (by omega)
          generalize mx (eS (G 5) (d_X6_comers (G 3) (G 5) (G 6) n) n) = b at *
          rw [part_eq rfl hmp (by omega) (by decide), d_X6_part, nI_clamp (by omega), show ((0 : Int32).toInt.natAbs) = 0 by decide, gcd_eq (by omega) (by omega), Nat.gcd_zero_left]
          rcases in1_or c2 with rfl | rfl
          · rw [if_pos rfl, show (0 : Int32) = nI 0 from rfl, pk_div (by omega) hmp (by omega), Nat.zero_div]
          · rw [if_neg (by decide), pk_div (by omega) hmp (by omega), Nat.div_self hmp]; rfl
  · unfold d_X6_odds; (repeat' split) <;> exact h.t0
theorem q_swear {F G : Nat → Nat → Int32} {n len dd um nx sk : Nat} (h : RLN F G n len dd um nx sk) (what : Int32) : d_X5_swear F what n = (d_X6_swear G what n).1 ∧ RLN F (d_X6_swear G what n).2 n len dd um nx sk := by
  refine ⟨?_, ?_⟩
  · rw [d_X5_swear, d_X6_swear, yn_eq, h.cov, h.com, h.hu, h.shr]
    obtain ⟨⟨_, _, h7, m1, m2, m3, _, _, _, hE, hD, hW, _⟩, _⟩ := h
    by_cases c : d_X6_in what 0 1 = 0
    · rw [if_pos c, if_pos c]
    · rw [if_neg c, if_neg c]
      obtain ⟨a1, a2, a3, a4, a5⟩ := harms_ok (f := upd (G 0) 0 0) (tr := G 3) (g := G 6) hD hE h7
      rw [← hs_25 (f := upd (G 0) 0 0), ← a3, m1, m2, m3]
      exact part_eq (ten_eq a3) (by omega) (by omega) (sw_lb hW a3 a5 a1 a2)
  · unfold d_X6_swear; split
    · exact h.t0
    · exact h.th (fun k hk => by rw [hs_k hk]; rcases hk with rfl | rfl | rfl <;> rfl)
theorem q_trace {F G : Nat → Nat → Int32} {n len dd um nx sk : Nat} (h : RLN F G n len dd um nx sk) (tc : Int64) : d_X5_trace tc = (d_X6_trace G tc).1 ∧ RLN F (d_X6_trace G tc).2 n len dd um nx sk := ⟨rfl, h.t0⟩
