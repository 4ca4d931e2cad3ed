/-! the text: what class and reference read at a place -/
def skp (tx : Nat → Int32) (len : Nat) : Nat → Nat → Nat
  | 0, p => p
  | k + 1, p => if p < len ∧ tx p = 32 then skp tx len k (p + 1) else p
def dig (x : Int32) : Prop := ¬ x < 48 ∧ ¬ 57 < x
def scn (tx : Nat → Int32) (len : Nat) : Nat → Nat → Nat → Nat × Nat
  | 0, j, v => (j, v)
  | k + 1, j, v => if j < len ∧ d_X6_in (tx j) 48 57 = 1 then scn tx len k (j + 1) (if 1000 < 10 * v + ((tx j).toNatClampNeg - 48) then 1000 else 10 * v + ((tx j).toNatClampNeg - 48)) else (j, v)
theorem skp_ok {tx : Nat → Int32} {len : Nat} : ∀ k p, p ≤ len → len - p < k → p ≤ skp tx len k p ∧ skp tx len k p ≤ len ∧ (skp tx len k p < len → ¬ tx (skp tx len k p) = 32) := by
  intro k
  induction k with
  | zero => intro p _ h; omega
  | succ k ih =>
    intro p hp hk
    rw [skp]
    by_cases c : p < len ∧ tx p = 32
    · rw [if_pos c]
      have r := ih (p + 1) (by omega) (by omega)
      exact ⟨by omega, r.2⟩
    · rw [if_neg c]
      exact ⟨Nat.le_refl _, hp, fun h e => c ⟨h, e⟩⟩
theorem scn_ok {tx : Nat → Int32} {len : Nat} : ∀ k j v, j ≤ len → v ≤ 1000 → j ≤ (scn tx len k j v).1 ∧ (scn tx len k j v).1 ≤ len ∧ (scn tx len k j v).2 ≤ 1000 := by
  intro k
  induction k with
  | zero => intro j v hj hv; exact ⟨Nat.le_refl _, hj, hv⟩
  | succ k ih =>
    intro j v hj hv
    rw [scn]
    by_cases c : j < len ∧ d_X6_in (tx j) 48 57 = 1
    · rw [if_pos c]
      have r := ih (j + 1) (if 1000 < 10 * v + ((tx j).toNatClampNeg - 48) then 1000 else 10 * v + ((tx j).toNatClampNeg - 48)) (by omega) (by split <;> omega)
      exact ⟨by omega, r.2⟩
    · rw [if_neg c]; exact ⟨Nat.le_refl _, hj, hv⟩
theorem in48 {x : Int32} (h : d_X6_in x 48 57 = 1) : x = nI x.toNatClampNeg ∧ 48 ≤ x.toNatClampNeg ∧ x.toNatClampNeg ≤ 57 ∧ ¬ x < 48 ∧ ¬ 57 < x := by
  have c : ¬ d_X6_in x 48 57 = 0 := by rw [h]; decide
  obtain ⟨c1, c2⟩ := in_ok c
  have c0 : ¬ x < 0 := fun q => c1 (by
    rw [Int32.lt_iff_toInt_lt] at q ⊢
    have a : (48 : Int32).toInt = 48 := by decide
    have b : (0 : Int32).toInt = 0 := by decide
    omega)
  obtain ⟨h1, h2⟩ := ix_le (N := 57) c0 c2 (by omega)
  refine ⟨h1, ?_, h2, c1, fun q => absurd c2 (lt_nle q)⟩
  rw [h1] at c1
  have := nI_nlt (a := 47) (b := 48) 
  rcases Nat.lt_or_ge x.toNatClampNeg 48 with q | q
  · exact absurd (nI_lt (b := 48) q (by omega)) c1
  · exact q
theorem in48n {x : Int32} (h : ¬ d_X6_in x 48 57 = 1) : x < 48 ∨ 57 < x := by
  rw [d_X6_in] at h
  by_cases c : x < 48
  · exact Or.inl c
  · rw [if_neg c] at h
    by_cases c2 : (57 : Int32) < x
    · exact Or.inr c2
    · rw [if_neg c2] at h; exact absurd rfl h
/-- the class at a place -/
def CT (t : Nat → Int32) (len p : Nat) : Prop := t 1 = nI len ∧ t 2 = nI p ∧ p ≤ len ∧ len ≤ 200
/-- but for the place -/
def KP (t t' : Nat → Int32) : Prop := ∀ k, ¬ k = 2 → t' k = t k
theorem KP.rf {t : Nat → Int32} : KP t t := fun _ _ => rfl
theorem KP.tr {a b c : Nat → Int32} (h1 : KP a b) (h2 : KP b c) : KP a c := fun k hk => (h2 k hk).trans (h1 k hk)
theorem KP.up {t t' : Nat → Int32} (h : KP t t') (x : Int32) : KP t (upd t' 2 x) := fun k hk => by rw [pk_un hk]; exact h k hk
theorem cs_skip {t le tx : Nat → Int32} {len p : Nat} (h : CT t len p) (hle : ∀ j, j < len → le j = tx j) : CT (d_X4_skipBlanks t le) len (skp tx len 201 p) ∧ KP t (d_X4_skipBlanks t le) := by
  obtain ⟨h1, h2, h3, h4⟩ := h
  have hl : ∀ k p (u : Nat → Int32), u 1 = nI len → u 2 = nI p → p ≤ len → len - p < k → (lp_X4_skipBlanks_0 t le k u) 2 = nI (skp tx len k p) ∧ KP u (lp_X4_skipBlanks_0 t le k u) := by
    intro k
    induction k with
    | zero => intro p u _ _ _ hk; omega
    | succ k ih =>
      intro p u u1 u2 hp hk
      rw [lp_X4_skipBlanks_0, skp, u1, u2, nI_clamp (by omega)]
      by_cases c : nI len ≤ nI p
      · have hge := le_of c (by omega) (by omega)
        rw [if_pos c, if_neg (show ¬ (p < len ∧ tx p = 32) from fun q => by omega)]
        exact ⟨u2, KP.rf⟩
      · have hlt := nlt_of c (by omega) (by omega)
        rw [if_neg c, hle p hlt]
        by_cases c2 : tx p = 32
        · rw [if_pos c2, if_pos ⟨hlt, c2⟩]
          obtain ⟨r1, r2⟩ := ih (p + 1) (upd u 2 (nI p + 1)) u1 (nI_1 p) (by omega) (by omega)
          exact ⟨r1, (KP.rf.up _).tr r2⟩
        · rw [if_neg c2, if_neg (show ¬ (p < len ∧ tx p = 32) from fun q => c2 q.2)]
          exact ⟨u2, KP.rf⟩
  obtain ⟨r1, r2⟩ := hl 201 p t h1 h2 h3 (by omega)
  have hs := skp_ok (tx := tx) 201 p h3 (by omega)
  exact ⟨⟨by rw [d_X4_skipBlanks, r2 1 (by omega)]; exact h1, r1, hs.2.1, h4⟩, r2⟩
/-- what is no number here -/
def BADN (tx : Nat → Int32) (len s M : Nat) : Prop := (scn tx len (len + 1) s 0).1 = s ∨ (s + 1 < (scn tx len (len + 1) s 0).1 ∧ tx s = 48) ∨ M < (scn tx len (len + 1) s 0).2
theorem cs_num {t le tx : Nat → Int32} {len p M : Nat} (h : CT t len p) (hle : ∀ j, j < len → le j = tx j) (hM : M ≤ 999) :
    (BADN tx len (skp tx len 201 p) M → (d_X4_readNumber t le (nI M) len).1 = -1 ∧ CT (d_X4_readNumber t le (nI M) len).2 len (skp tx len 201 p) ∧ KP t (d_X4_readNumber t le (nI M) len).2) ∧
    (¬ BADN tx len (skp tx len 201 p) M → (d_X4_readNumber t le (nI M) len).1 = nI (scn tx len (len + 1) (skp tx len 201 p) 0).2 ∧ CT (d_X4_readNumber t le (nI M) len).2 len (scn tx len (len + 1) (skp tx len 201 p) 0).1 ∧ KP t (d_X4_readNumber t le (nI M) len).2) := by
  obtain ⟨hs, hk⟩ := cs_skip h hle
  obtain ⟨s1, s2, s3, s4⟩ := id hs
  rw [d_X4_readNumber, BADN]
  have hS : (d_X4_skipBlanks t le 2).toNatClampNeg = skp tx len 201 p := cl_nI s2 (by omega)
  rw [hS]
  generalize skp tx len 201 p = s at *
  have hl : ∀ k j v, s ≤ j → j ≤ len → len - j < k → v ≤ 1000 → lp_X4_readNumber_11 t le (nI M) len k j (nI v) = jn_X4_readNumber_68 t le (nI M) len (scn tx len k j v).1 (nI (scn tx len k j v).2) := by
    intro k
    induction k with
    | zero => intro j v _ _ hk; omega
    | succ k ih =>
      intro j v hsj hj hk hv
      rw [lp_X4_readNumber_11, scn]
      by_cases c : nI len ≤ nI j
      · have hge := le_of c (by omega) (by omega)
        rw [if_pos c, if_neg (show ¬ (j < len ∧ d_X6_in (tx j) 48 57 = 1) from fun q => by omega)]
      · have hlt := nlt_of c (by omega) (by omega)
        rw [if_neg c, hle j hlt]
        by_cases c2 : d_X6_in (tx j) 48 57 = 1
        · obtain ⟨a1, a2, a3, a4, a5⟩ := in48 c2
          rw [if_neg a4, if_neg a5, if_pos (show j < len ∧ d_X6_in (tx j) 48 57 = 1 from ⟨hlt, c2⟩)]
          have e : (nI v * (10 : Int32) + tx j) - (48 : Int32) = nI (10 * v + ((tx j).toNatClampNeg - 48)) := by
            rw [a1, show (10 : Int32) = nI 10 from rfl, show (48 : Int32) = nI 48 from rfl, pk_mul, nI_add, pk_sub (by omega), nI_clamp (by omega)]
            congr 1; omega
          rw [e]
          have e2 : (if (1000 : Int32) < nI (10 * v + ((tx j).toNatClampNeg - 48)) then (1000 : Int32) else nI (10 * v + ((tx j).toNatClampNeg - 48))) = nI (if 1000 < 10 * v + ((tx j).toNatClampNeg - 48) then 1000 else 10 * v + ((tx j).toNatClampNeg - 48)) := by
            by_cases q : 1000 < 10 * v + ((tx j).toNatClampNeg - 48)
            · rw [if_pos q, if_pos (show (1000 : Int32) < _ from nI_lt (a := 1000) q (by omega))]; rfl
            · rw [if_neg q, if_neg (show ¬ (1000 : Int32) < _ from nI_nlt (a := 1000) (by omega) (by omega))]
          rw [e2]
          exact ih (j + 1) _ (by omega) (by omega) (by omega) (by split <;> omega)
        · rw [if_neg (show ¬ (j < len ∧ d_X6_in (tx j) 48 57 = 1) from fun q => c2 q.2)]
          rcases in48n c2 with q | q
          · rw [if_pos q]
          · by_cases q2 : tx j < 48
            · rw [if_pos q2]
            · rw [if_neg q2, if_pos q]
  have e0 := hl (len + 1) s 0 (Nat.le_refl _) s3 (by omega) (by omega)
  have e0 : lp_X4_readNumber_11 t le (nI M) len (len + 1) s 0 = jn_X4_readNumber_68 t le (nI M) len (scn tx len (len + 1) s 0).1 (nI (scn tx len (len + 1) s 0).2) := e0
  rw [e0]
  obtain ⟨o1, o2, o3⟩ := scn_ok (tx := tx) (len + 1) s 0 s3 (by omega)
  generalize (scn tx len (len + 1) s 0).1 = e at *
  generalize (scn tx len (len + 1) s 0).2 = v at *
  rw [jn_X4_readNumber_68, s2, nI_clamp (by omega), pk_sub o1]
  have q1 : nI (e - s) ≤ (1 : Int32) ↔ e - s ≤ 1 := nI_leI (b := 1) (by omega) (by omega)
  have q2 : nI e = nI s ↔ e = s := nI_eq (by omega) (by omega)
  have q3 : nI v ≤ nI M ↔ v ≤ M := nI_leI (by omega) (by omega)
  have hupd : CT (upd (d_X4_skipBlanks t le) 2 (nI e)) len e ∧ KP t (upd (d_X4_skipBlanks t le) 2 (nI e)) := ⟨⟨s1, rfl, o2, s4⟩, hk.up _⟩
  by_cases c1 : e = s
  · rw [if_pos (q1.mpr (by omega)), if_pos (q2.mpr c1)]
    exact ⟨fun _ => ⟨rfl, hs, hk⟩, fun z => absurd (Or.inl c1) z⟩
  · by_cases c2 : e - s ≤ 1
    · rw [if_pos (q1.mpr c2), if_neg (fun z => c1 (q2.mp z))]
      by_cases c3 : v ≤ M
      · rw [if_pos (q3.mpr c3)]
        refine ⟨fun z => ?_, fun _ => ⟨rfl, hupd⟩⟩
        rcases z with z | z | z
        · exact absurd z c1
        · omega
        · omega
      · rw [if_neg (fun z => c3 (q3.mp z))]
        exact ⟨fun _ => ⟨rfl, hs, hk⟩, fun z => absurd (Or.inr (Or.inr (by omega))) z⟩
    · rw [if_neg (fun z => c2 (q1.mp z)), hle s (by omega)]
      by_cases c4 : tx s = 48
      · rw [if_pos c4, if_neg (fun z => c1 (q2.mp z))]
        exact ⟨fun _ => ⟨rfl, hs, hk⟩, fun z => absurd (Or.inr (Or.inl ⟨by omega, c4⟩)) z⟩
      · rw [if_neg c4, if_neg (fun z => c1 (q2.mp z))]
        by_cases c3 : v ≤ M
        · rw [if_pos (q3.mpr c3)]
          refine ⟨fun z => ?_, fun _ => ⟨rfl, hupd⟩⟩
          rcases z with z | z | z
          · exact absurd z c1
          · exact absurd z.2 c4
          · omega
        · rw [if_neg (fun z => c3 (q3.mp z))]
          exact ⟨fun _ => ⟨rfl, hs, hk⟩, fun z => absurd (Or.inr (Or.inr (by omega))) z⟩
theorem cs_end {t le tx : Nat → Int32} {len p : Nat} (h : CT t len p) (hle : ∀ j, j < len → le j = tx j) :
    ((skp tx len 201 p < len ∧ tx (skp tx len 201 p) = 59) → (d_X4_readEnd t le).1 = 1 ∧ CT (d_X4_readEnd t le).2 len (skp tx len 201 p + 1) ∧ KP t (d_X4_readEnd t le).2) ∧
    (¬ (skp tx len 201 p < len ∧ tx (skp tx len 201 p) = 59) → (d_X4_readEnd t le).1 = 0 ∧ CT (d_X4_readEnd t le).2 len (skp tx len 201 p) ∧ KP t (d_X4_readEnd t le).2) := by
  obtain ⟨hs, hk⟩ := cs_skip h hle
  obtain ⟨s1, s2, s3, s4⟩ := id hs
  rw [d_X4_readEnd, s1, s2, nI_clamp (by omega)]
  generalize skp tx len 201 p = s at *
  by_cases c : nI len ≤ nI s
  · have hge := le_of c (by omega) (by omega)
    rw [if_pos c]
    exact ⟨fun z => by omega, fun _ => ⟨rfl, hs, hk⟩⟩
  · have hlt := nlt_of c (by omega) (by omega)
    rw [if_neg c, hle s hlt]
    by_cases c2 : tx s = 59
    · rw [if_pos c2]
      exact ⟨fun _ => ⟨rfl, ⟨s1, nI_1 s, by omega, s4⟩, hk.up _⟩, fun z => absurd ⟨hlt, c2⟩ z⟩
    · rw [if_neg c2]
      exact ⟨fun z => absurd z.2 c2, fun _ => ⟨rfl, hs, hk⟩⟩
