/-! days -/
theorem dw_eq {z d S : Nat} (hz : z ≤ 9999) (hd : d ≤ 1100) (hS : 0 < S) (hS2 : S ≤ 63) : d_X5_drawn (nI z) (nI d) (nI S) = nI (dr z d S) := by
  rw [d_X5_drawn, if_neg (nI_nle hS (by omega))]
  exact dr_eq hz hd hS hS2 rfl rfl
theorem eS_0 {ea : Nat → Int32} : ∀ n, n ≤ 32 → eS ea 0 n = 0 := by
  intro n
  induction n with
  | zero => intro _; rfl
  | succ n ih =>
    intro h
    rw [eS, ih (by omega), if_neg (by rw [(btI_0 (x := 0) (j := n) (by omega)).mpr (b_0 n)]; decide)]
theorem com_pos {tr ea g : Nat → Int32} {n : Nat} (h7 : n ≤ 7) (hE : EA ea n) (c : ¬ d_X6_comers tr ea g n = 0) : 0 < eS ea (d_X6_comers tr ea g n) n := by
  rcases Nat.eq_zero_or_pos (eS ea (d_X6_comers tr ea g n) n) with q | q
  · exfalso
    apply c
    apply b_ext
    intro i hi
    rw [b_0]
    rcases Nat.lt_or_ge i n with hin | hin
    · have : ¬ btI (d_X6_comers tr ea g n) i = 1 := fun hb => by
        have := eS_pos hin hb (comers_ea h7 hin hE hb)
        omega
      rw [btI_iff hi] at this
      simpa using this
    · rw [X6_comers_eq h7, b_and, b_and, b_and, eag, b_orS _ hi (by omega), decide_eq_false (by omega)]
      simp
  · exact q
theorem cb_spec {tr ea ea0 g : Nat → Int32} {n zz dd : Nat} (h7 : n ≤ 7) (hE : EA ea n) (he : ∀ j, j < n → ea0 j = ea j) (P : Int32) : ∀ (k i L : Nat), i ≤ n → n - i < k → L ≤ 63 → L + eS ea (d_X6_comers tr ea g n) i < eS ea (d_X6_comers tr ea g n) n →
    lp_X0_countedOff_5 ea0 (d_X6_comers tr ea g n) P n k i (nI L) = lp_X6_comesBy_63 tr ea g n zz dd k i L ∧ ∃ j, j < n ∧ lp_X6_comesBy_63 tr ea g n zz dd k i L = nI j ∧ eS ea (d_X6_comers tr ea g n) j ≤ L + eS ea (d_X6_comers tr ea g n) i ∧ L + eS ea (d_X6_comers tr ea g n) i < eS ea (d_X6_comers tr ea g n) (j + 1) := by
  intro k
  induction k with
  | zero => intro i L _ h; omega
  | succ k ih =>
    intro i L hi hk hL h
    have hlt : i < n := eS_lt hi h
    rw [lp_X0_countedOff_5, lp_X6_comesBy_63, if_neg (nI_ge hlt (by omega)), he i hlt]
    have h9 := (hE i hlt).2
    by_cases c : btI (d_X6_comers tr ea g n) i = 0
    · have c1 : d_X5_bitOf (d_X6_comers tr ea g n) (nI i) = 0 := c
      rw [c1, Int32.zero_mul, if_pos (nI_pos' (by omega)), if_pos c, Int32.sub_zero]
      have e : eS ea (d_X6_comers tr ea g n) (i + 1) = eS ea (d_X6_comers tr ea g n) i := by rw [eS, if_neg (by rw [c]; decide)]; rfl
      have r := ih (i + 1) L (by omega) (by omega) hL (by rw [e]; exact h)
      rw [e] at r
      exact r
    · have cb := bt_1 c
      have c1 : d_X5_bitOf (d_X6_comers tr ea g n) (nI i) = 1 := cb
      rw [c1, Int32.one_mul, if_neg c]
      have e : eS ea (d_X6_comers tr ea g n) (i + 1) = eS ea (d_X6_comers tr ea g n) i + (ea i).toNatClampNeg := by rw [eS, if_pos cb]
      by_cases c2 : nI L < ea i
      · rw [if_pos c2, if_neg (lt_nle c2)]
        refine ⟨rfl, i, hlt, rfl, by omega, ?_⟩
        rw [(hE i hlt).1, nI_ltI (by omega) (by omega)] at c2
        rw [e]; omega
      · rw [if_neg c2, if_pos (Int32.not_lt.mp c2)]
        have hle := nlt_ea hE hlt (by omega) c2
        rw [sub_ea hE hlt hle]
        have r := ih (i + 1) (L - (ea i).toNatClampNeg) (by omega) (by omega) (by omega) (by rw [e]; omega)
        rw [e, show L - (ea i).toNatClampNeg + (eS ea (d_X6_comers tr ea g n) i + (ea i).toNatClampNeg) = L + eS ea (d_X6_comers tr ea g n) i by omega] at r
        exact r
theorem small_ne9 {j : Nat} (h : j < 7) : ¬ nI j = -9 := by
  rcases (show j = 0 ∨ j = 1 ∨ j = 2 ∨ j = 3 ∨ j = 4 ∨ j = 5 ∨ j = 6 by omega) with rfl | rfl | rfl | rfl | rfl | rfl | rfl <;> decide
theorem pd_eq {tr tr' ea ea' u g : Nat → Int32} {n z dd : Nat} (h7 : n ≤ 7) (ht : ∀ j, j < n → tr j = tr' j) (he : ∀ j, j < n → ea j = ea' j) (hE : EA ea' n) (hs : ST u g) (hd : u 4 = nI dd) (hd9 : dd ≤ 1100) (hz : z ≤ 9999) :
    (d_X5_passDay tr ea u (nI z) n).1 = (d_X6_goes tr' ea' g n z dd).1 ∧ ST (d_X5_passDay tr ea u (nI z) n).2 (d_X6_goes tr' ea' g n z dd).2 ∧ (d_X5_passDay tr ea u (nI z) n).2 4 = nI (dd + 1) := by
  obtain ⟨s0, s1, s2, s3, s4⟩ := hs
  rw [d_X5_passDay, com_eq (tr' := tr') (ea' := ea') (g := g) h7 ht he s1 s2 s3 s4, cov_eq (tr' := tr') (g := g) h7 ht s1 s4, eT_eq h7 he, eagerOf_eq hE h7, hd, d_X6_goes, d_X6_comesBy]
  have hS := eS_le hE (d_X6_comers tr' ea' g n) (Nat.le_refl n)
  by_cases c : d_X6_comers tr' ea' g n = 0
  · rw [if_pos c]
    have e0 : eS ea' (d_X6_comers tr' ea' g n) n = 0 := by rw [c]; exact eS_0 n (by omega)
    rw [if_pos (show nI (eS ea' (d_X6_comers tr' ea' g n) n) = 0 by rw [e0]; rfl), if_pos rfl]
    refine ⟨rfl, ⟨?_, s1, s2, s3, ?_⟩, ?_⟩
    · exact (hd ▸ rfl)
    · show g 4 ||| 0 = _; rw [or_0, s4]; rfl
    · show nI dd + 1 = _; exact nI_1 dd
  · rw [if_neg c]
    have hp := com_pos h7 hE c
    rw [if_neg (show ¬ nI (eS ea' (d_X6_comers tr' ea' g n) n) = 0 from nI_ne0 hp (by omega)), dw_eq hz hd9 hp (by omega)]
    have hL := dr_lt (z := z) (d := dd) hp
    obtain ⟨r1, j, hj, r2, _, _⟩ := cb_spec (tr := tr') (g := g) (zz := z) (dd := dd) h7 hE he (nI (dr z dd (eS ea' (d_X6_comers tr' ea' g n) n))) (n + 1) 0 (dr z dd (eS ea' (d_X6_comers tr' ea' g n) n)) (by omega) (by omega) (by omega) hL
    rw [d_X0_countedOff, r1, r2, if_neg (small_ne9 (by omega)), if_neg (small_ne9 (by omega))]
    refine ⟨rfl, ⟨?_, s1, s2, s3, ?_⟩, ?_⟩
    · rfl
    · show g 4 ||| _ = u 3 ||| _; rw [s4]
    · show nI dd + 1 = _; exact nI_1 dd
theorem q_lost {F G : Nat → Nat → Int32} {n len dd um nx sk : Nat} (h : RLN F G n len dd um nx sk) (z m_ : Int32) : (d_X5_lost F z m_ n).1 = (d_X6_lost G z m_ n dd).1 ∧ RLN (d_X5_lost F z m_ n).2 (d_X6_lost G z m_ n dd).2 n len dd um nx sk := by
  have hF : ∀ u, RLN (va_up F 12 u) G n len dd um nx sk := fun u => h.mv (fun k hk => va_up_ne _ _ hk) (fun _ _ => rfl) (fun _ _ _ => rfl)
  obtain ⟨⟨_, _, h7, _, _, _, ht, _, he, hE, _, _, _⟩, _, ⟨hst, hdd, h9⟩, _⟩ := id h
  rw [d_X5_lost, d_X6_lost, isZ_eq]
  by_cases c : d_X6_in z 0 9999 = 0
  · rw [if_pos c, if_pos c]; exact ⟨rfl, h.t0⟩
  · rw [if_neg c, if_neg c]
    obtain ⟨zz, hzz, ez⟩ := in_or (m := 9999) c (by omega)
    subst ez
    rw [d_X6_in]
    by_cases c1 : m_ < 0
    · rw [if_pos c1, if_pos c1, if_pos rfl]; exact ⟨rfl, h.t0⟩
    · rw [if_neg c1, if_neg c1]
      by_cases c2 : (7 : Int32) < m_
      · rw [if_neg (lt_nle c2), if_pos c2, if_pos rfl]; exact ⟨rfl, h.t0⟩
      · rw [if_pos (Int32.not_lt.mp c2), if_neg c2, if_neg (by decide)]
        obtain ⟨hm1, hm2⟩ := ix_le (N := 7) c1 (Int32.not_lt.mp c2) (by omega)
        generalize m_.toNatClampNeg = M at *
        have hl : ∀ (k i : Nat) (u w : Nat → Int32), i ≤ M → M - i < k → ST u w → u 4 = nI (dd + i) → (lp_X5_lost_32 F (nI zz) m_ n k i u).1 = (lp_X6_lost_34 G (nI zz) m_ n dd k i w).1 ∧ RLN (lp_X5_lost_32 F (nI zz) m_ n k i u).2 (lp_X6_lost_34 G (nI zz) m_ n dd k i w).2 n len dd um nx sk := by
          intro k
          induction k with
          | zero => intro i u w _ hk; omega
          | succ k ih =>
            intro i u w hi hk hs hd
            rw [lp_X5_lost_32, lp_X6_lost_34, cl_nI hm1 (by omega)]
            by_cases q : nI M ≤ nI i
            · rw [if_pos q, if_pos q]
              exact ⟨hs.2.2.2.2.symm, (hF u).t7 w⟩
            · rw [if_neg q, if_neg q]
              have hlt := nlt_of q (by omega) (by omega)
              have e1 : (nI zz + nI i) - (nI zz + nI i) / (10000 : Int32) * (10000 : Int32) = nI ((zz + i) % 10000) := by
                rw [nI_add, show (10000 : Int32) = nI 10000 from rfl, pk_rem (by omega) (by omega) (by omega)]
              rw [e1, nI_clamp (by omega)]
              have hmod := Nat.mod_lt (zz + i) (show 0 < 10000 by omega)
              obtain ⟨r1, r2, r3⟩ := pd_eq (z := (zz + i) % 10000) h7 ht he hE hs hd (by omega) (by omega)
              have hk2 : M - (i + 1) < k := by omega
              exact ih (i + 1) _ _ (by omega) hk2 r2 (by rw [r3, Nat.add_assoc])
        refine hl (M + 1) 0 _ _ (by omega) (by omega) ?_ ?_
        · obtain ⟨s0, s1, s2, s3, s4⟩ := hst
          exact ⟨s0, s1, s2, s3, s4⟩
        · exact hdd
/-! which draw a day was -/
theorem low_bits : ∀ t, t < 8 → ∀ i, i < 32 → bt (((1 : Int32) <<< (nI t &&& 31)) - 1) i = decide (i < t) := by decide +kernel
theorem eS_below {ea : Nat → Int32} {A : Int32} {t : Nat} (ht : t < 7) : ∀ n, n ≤ 7 → eS ea (A &&& (((1 : Int32) <<< (nI t &&& 31)) - 1)) n = eS ea A (if n ≤ t then n else t) := by
  intro n
  induction n with
  | zero => intro _; rw [if_pos (Nat.zero_le _)]; rfl
  | succ n ih =>
    intro h
    have hb : bt (A &&& (((1 : Int32) <<< (nI t &&& 31)) - 1)) n = (bt A n && decide (n < t)) := by rw [b_and, low_bits t (by omega) n (by omega)]
    rw [eS, ih (by omega)]
    rcases Nat.lt_or_ge n t with q | q
    · rw [if_pos (show n ≤ t by omega), if_pos (show n + 1 ≤ t by omega)]
      show _ = eS ea A n + (if btI A n = 1 then (ea n).toNatClampNeg else 0)
      congr 1
      rw [decide_eq_true q, Bool.and_true] at hb
      by_cases z : bt A n = true
      · rw [if_pos ((btI_iff (by omega)).mpr (by rw [hb]; exact z)), if_pos ((btI_iff (by omega)).mpr z)]
      · rw [if_neg (fun y => z (by rw [← hb]; exact (btI_iff (by omega)).mp y)), if_neg (fun y => z ((btI_iff (by omega)).mp y))]
    · have hz : ¬ btI (A &&& (((1 : Int32) <<< (nI t &&& 31)) - 1)) n = 1 := fun y => by
        have := (btI_iff (by omega)).mp y
        rw [hb, decide_eq_false (by omega), Bool.and_false] at this
        cases this
      rw [if_neg hz, Nat.add_zero]
      by_cases z : n ≤ t
      · rw [if_pos z, if_neg (show ¬ n + 1 ≤ t by omega), show n = t by omega]
      · rw [if_neg z, if_neg (show ¬ n + 1 ≤ t by omega)]
theorem q_draw {F G : Nat → Nat → Int32} {n len dd um nx sk : Nat} (h : RLN F G n len dd um nx sk) (t what : Int32) : d_X5_draw F t what n = (d_X6_draw G t what n dd).1 ∧ RLN F (d_X6_draw G t what n dd).2 n len dd um nx sk := by
  refine ⟨?_, ?_⟩
  · rw [d_X5_draw, d_X6_draw, yn_eq, h.hold, h.com]
    have hcom := h.com
    have hshr := h.shr
    obtain ⟨⟨_, _, h7, _, _, _, ht, _, he, hE, _, _, _⟩, _, ⟨hst, hdd, h9⟩, _⟩ := id h
    by_cases c : d_X6_isThing t n = 0
    · rw [if_pos c, if_pos c]
    · rw [if_neg c, if_neg c]
      obtain ⟨e1, e2⟩ := isThing_ok (mn := fun _ => 0) c h7
      by_cases c2 : d_X6_in what 0 1 = 0
      · rw [if_pos c2, if_pos c2]
      · rw [if_neg c2, if_neg c2]
        generalize t.toNatClampNeg = tt at *
        subst e1
        have hS := eS_le hE (d_X6_comers (G 3) (G 5) (G 6) n) (Nat.le_refl n)
        have hSt := eS_le hE (d_X6_comers (G 3) (G 5) (G 6) n) (i := tt) (by omega)
        have ha : d_X0_eagerTogether (F 4) (d_X6_comers (G 3) (G 5) (G 6) n &&& (((1 : Int32) <<< (nI tt &&& 31)) - 1)) n = nI (eS (G 5) (d_X6_comers (G 3) (G 5) (G 6) n) tt) := by
          rw [eT_eq h7 he, eagerOf_eq hE h7, eS_below (by omega) n h7, if_neg (by omega)]
        have key : ∀ (mine : Nat), eS (G 5) (d_X6_comers (G 3) (G 5) (G 6) n) (tt + 1) = eS (G 5) (d_X6_comers (G 3) (G 5) (G 6) n) tt + mine → mine ≤ 9 → jn_X5_draw_49 F (nI tt) what n (nI mine) = (lp_X6_draw_33 G (nI tt) what n dd 501 0 0 (-9)).1 := by
          intro mine hm hm9
          rw [jn_X5_draw_49]
          have hl : ∀ (k i : Nat) (tm lst : Int32), i + k = 501 → lp_X5_draw_85 F (nI tt) what n k i tm lst (nI mine) = (lp_X6_draw_33 G (nI tt) what n dd k i tm lst).1 := by
            intro k
            induction k with
            | zero => intro i tm lst _; rfl
            | succ k ih =>
              intro i tm lst hik
              rw [lp_X5_draw_85, lp_X6_draw_33, hcom, ha, hshr, hdd]
              by_cases q : (500 : Int32) ≤ nI i
              · rw [if_pos q, if_pos q]; split <;> rfl
              · rw [if_neg q, if_neg q]
                have hi5 : i < 500 := nlt_of (b := 500) q (by omega) (by omega)
                have iff1 : (¬ d_X5_drawn (nI i) (nI dd) (nI (mx (eS (G 5) (d_X6_comers (G 3) (G 5) (G 6) n) n))) < nI (eS (G 5) (d_X6_comers (G 3) (G 5) (G 6) n) tt) ∧ ¬ nI (eS (G 5) (d_X6_comers (G 3) (G 5) (G 6) n) tt) + nI mine ≤ d_X5_drawn (nI i) (nI dd) (nI (mx (eS (G 5) (d_X6_comers (G 3) (G 5) (G 6) n) n)))) ↔ d_X6_comesBy (G 3) (G 5) (G 6) n i dd = nI tt := by
                  rw [d_X6_comesBy]
                  rcases Nat.eq_zero_or_pos (eS (G 5) (d_X6_comers (G 3) (G 5) (G 6) n) n) with z | z
                  · have hmono := eS_mono (G 5) (d_X6_comers (G 3) (G 5) (G 6) n) (i := tt + 1) (n := n) (by omega)
                    rw [z, if_pos (show nI 0 = 0 from rfl), show eS (G 5) (d_X6_comers (G 3) (G 5) (G 6) n) tt = 0 by omega, show mine = 0 by omega, nI_add]
                    constructor
                    · intro ⟨y1, y2⟩
                      exact absurd (Int32.not_lt.mp y1) y2
                    · intro y
                      exact absurd y.symm (small_ne9 (by omega))
                  · rw [if_neg (nI_ne0 z (by omega)), mx, if_neg (by omega), dw_eq (by omega) (by omega) z (by omega), nI_add]
                    have hL := dr_lt (z := i) (d := dd) z
                    obtain ⟨_, j, hj, r2, r3, r4⟩ := cb_spec (ea0 := G 5) (tr := G 3) (g := G 6) (zz := i) (dd := dd) h7 hE (fun _ _ => rfl) 0 (n + 1) 0 (dr i dd (eS (G 5) (d_X6_comers (G 3) (G 5) (G 6) n) n)) (by omega) (by omega) (by omega) hL
                    rw [r2]
                    generalize dr i dd (eS (G 5) (d_X6_comers (G 3) (G 5) (G 6) n) n) = L at *
                    have r3 : eS (G 5) (d_X6_comers (G 3) (G 5) (G 6) n) j ≤ L := r3
                    have r4 : L < eS (G 5) (d_X6_comers (G 3) (G 5) (G 6) n) (j + 1) := r4
                    rw [nI_ltI (by omega) (by omega), nI_leI (by omega) (by omega), nI_eq (by omega) (by omega)]
                    constructor
                    · intro ⟨y1, y2⟩
                      rcases Nat.lt_trichotomy j tt with w | w | w
                      · have := eS_mono (G 5) (d_X6_comers (G 3) (G 5) (G 6) n) (i := j + 1) (n := tt) (by omega)
                        omega
                      · exact w
                      · have := eS_mono (G 5) (d_X6_comers (G 3) (G 5) (G 6) n) (i := tt + 1) (n := j) (by omega)
                        omega
                    · intro w
                      subst w
                      omega
                by_cases y : d_X6_comesBy (G 3) (G 5) (G 6) n i dd = nI tt
                · obtain ⟨y1, y2⟩ := iff1.mpr y
                  rw [if_neg y1, if_neg y2, if_pos y]
                  split <;> exact ih _ _ _ (by omega)
                · rw [if_neg y]
                  by_cases y1 : d_X5_drawn (nI i) (nI dd) (nI (mx (eS (G 5) (d_X6_comers (G 3) (G 5) (G 6) n) n))) < nI (eS (G 5) (d_X6_comers (G 3) (G 5) (G 6) n) tt)
                  · rw [if_pos y1]; exact ih _ _ _ (by omega)
                  · rw [if_neg y1]
                    by_cases y2 : nI (eS (G 5) (d_X6_comers (G 3) (G 5) (G 6) n) tt) + nI mine ≤ d_X5_drawn (nI i) (nI dd) (nI (mx (eS (G 5) (d_X6_comers (G 3) (G 5) (G 6) n) n)))
                    · rw [if_pos y2]; exact ih _ _ _ (by omega)
                    · exact absurd (iff1.mp ⟨y1, y2⟩) y
          exact hl _ _ _ _ rfl
        by_cases c3 : btI (d_X6_comers (G 3) (G 5) (G 6) n) tt = 1
        · rw [if_pos (show d_X5_bitOf (d_X6_comers (G 3) (G 5) (G 6) n) (nI tt) = 1 from c3), he _ e2, (hE _ e2).1]
          exact key _ (by rw [eS, if_pos c3]) (hE _ e2).2
        · rw [if_neg (show ¬ d_X5_bitOf (d_X6_comers (G 3) (G 5) (G 6) n) (nI tt) = 1 from c3)]
          exact key 0 (by rw [eS, if_neg c3]) (by omega)
  · unfold d_X6_draw
    split
    · exact h.t0
    · split
      · exact h.t0
      · have : ∀ k i tm lst, RLN F (lp_X6_draw_33 G t what n dd k i tm lst).2 n len dd um nx sk := by
          intro k
          induction k with
          | zero => intro i tm lst; exact h
          | succ k ih =>
            intro i tm lst
            rw [lp_X6_draw_33]
            (repeat' split) <;> first | exact h.t0 | exact ih _ _ _
        exact this _ _ _ _
