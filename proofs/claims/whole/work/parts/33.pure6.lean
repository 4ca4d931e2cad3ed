/-! the ring of the past, and what is done -/
theorem putP_at {F : Nat → Nat → Int32} {X Y : Nat → Int32} {c : Nat} (hc : c < 10) (k : Nat) : putP F (va_up (va_up (pF F) 0 X) (2 + c) Y) k = if k = 13 then X else if k = 15 + c then Y else F k := by
  show (if k = 11 then (if 12 = 2 + c then Y else if 12 = 0 then X else if 12 = 12 then F 11 else F (13 + 12)) else if 13 ≤ k ∧ k < 25 then (if k - 13 = 2 + c then Y else if k - 13 = 0 then X else if k - 13 = 12 then F 11 else F (13 + (k - 13))) else F k) = _
  by_cases h11 : k = 11
  · rw [if_pos h11, if_neg (by omega), if_neg (by omega), if_pos rfl, if_neg (by omega), if_neg (by omega), h11]
  · rw [if_neg h11]
    by_cases h13 : k = 13
    · rw [if_pos (by omega), if_neg (by omega), if_pos (by omega), if_pos h13]
    · rw [if_neg h13]
      by_cases hcc : k = 15 + c
      · rw [if_pos (by omega), if_pos (by omega), if_pos hcc]
      · rw [if_neg hcc]
        by_cases hr : 13 ≤ k ∧ k < 25
        · rw [if_pos hr, if_neg (by omega), if_neg (by omega), if_neg (by omega), show 13 + (k - 13) = k by omega]
        · rw [if_neg hr]
theorem putQ_at {F : Nat → Nat → Int32} {X Y : Nat → Int32} (k : Nat) : putP F (va_up (va_up (pF F) 0 X) 12 Y) k = if k = 13 then X else if k = 11 then Y else F k := by
  show (if k = 11 then (if 12 = 12 then Y else if 12 = 0 then X else if 12 = 12 then F 11 else F (13 + 12)) else if 13 ≤ k ∧ k < 25 then (if k - 13 = 12 then Y else if k - 13 = 0 then X else if k - 13 = 12 then F 11 else F (13 + (k - 13))) else F k) = _
  by_cases h11 : k = 11
  · rw [if_pos h11, if_pos rfl, if_neg (by omega), if_pos h11]
  · rw [if_neg h11]
    by_cases h13 : k = 13
    · rw [if_pos (by omega), if_neg (by omega), if_pos (by omega), if_pos h13]
    · rw [if_neg h13, if_neg h11]
      by_cases hr : 13 ≤ k ∧ k < 25
      · rw [if_pos hr, if_neg (by omega), if_neg (by omega), if_neg (by omega), show 13 + (k - 13) = k by omega]
      · rw [if_neg hr]
theorem push_eq {G : Nat → Nat → Int32} {nx : Nat} (h : G 0 1 = nI nx) (hx : nx < 10) : d_X1_push G = va_up (va_up G 0 (upd (upd (G 0) 1 ((nI nx + (1 : Int32)) - (nI nx + (1 : Int32)) / (10 : Int32) * (10 : Int32))) 2 (if (10 : Int32) < ((G 0 2) + (1 : Int32)) then (10 : Int32) else ((G 0 2) + (1 : Int32))))) (2 + nx) (d_X3_become (G (2 + nx)) (G 12)) := by
  rw [d_X1_push, h]
  rcases (show nx = 0 ∨ nx = 1 ∨ nx = 2 ∨ nx = 3 ∨ nx = 4 ∨ nx = 5 ∨ nx = 6 ∨ nx = 7 ∨ nx = 8 ∨ nx = 9 by omega) with rfl | rfl | rfl | rfl | rfl | rfl | rfl | rfl | rfl | rfl
  · rw [if_pos (by decide)]
  · rw [if_neg (by decide), if_pos (by decide)]
  · rw [if_neg (by decide), if_neg (by decide), if_pos (by decide)]
  · rw [if_neg (by decide), if_neg (by decide), if_neg (by decide), if_pos (by decide)]
  · rw [if_neg (by decide), if_neg (by decide), if_neg (by decide), if_neg (by decide), if_pos (by decide)]
  · rw [if_neg (by decide), if_neg (by decide), if_neg (by decide), if_neg (by decide), if_neg (by decide), if_pos (by decide)]
  · rw [if_neg (by decide), if_neg (by decide), if_neg (by decide), if_neg (by decide), if_neg (by decide), if_neg (by decide), if_pos (by decide)]
  · rw [if_neg (by decide), if_neg (by decide), if_neg (by decide), if_neg (by decide), if_neg (by decide), if_neg (by decide), if_neg (by decide), if_pos (by decide)]
  · rw [if_neg (by decide), if_neg (by decide), if_neg (by decide), if_neg (by decide), if_neg (by decide), if_neg (by decide), if_neg (by decide), if_neg (by decide), if_pos (by decide)]
  · rw [if_neg (by decide), if_neg (by decide), if_neg (by decide), if_neg (by decide), if_neg (by decide), if_neg (by decide), if_neg (by decide), if_neg (by decide), if_neg (by decide)]
theorem pop_eq {G : Nat → Nat → Int32} {nx : Nat} (h : G 0 1 = nI nx) (hx : nx < 10) : d_X1_pop G = va_up (va_up G 0 (upd (upd (G 0) 1 (((nI nx + (10 : Int32)) - (1 : Int32)) - ((nI nx + (10 : Int32)) - (1 : Int32)) / (10 : Int32) * (10 : Int32))) 2 ((G 0 2) - (1 : Int32)))) 12 (d_X3_become (G 12) (G (2 + (nx + 9) % 10))) := by
  rw [d_X1_pop, h]
  rcases (show nx = 0 ∨ nx = 1 ∨ nx = 2 ∨ nx = 3 ∨ nx = 4 ∨ nx = 5 ∨ nx = 6 ∨ nx = 7 ∨ nx = 8 ∨ nx = 9 by omega) with rfl | rfl | rfl | rfl | rfl | rfl | rfl | rfl | rfl | rfl
  · rw [if_pos (by decide)]
  · rw [if_neg (by decide), if_pos (by decide)]
  · rw [if_neg (by decide), if_neg (by decide), if_pos (by decide)]
  · rw [if_neg (by decide), if_neg (by decide), if_neg (by decide), if_pos (by decide)]
  · rw [if_neg (by decide), if_neg (by decide), if_neg (by decide), if_neg (by decide), if_pos (by decide)]
  · rw [if_neg (by decide), if_neg (by decide), if_neg (by decide), if_neg (by decide), if_neg (by decide), if_pos (by decide)]
  · rw [if_neg (by decide), if_neg (by decide), if_neg (by decide), if_neg (by decide), if_neg (by decide), if_neg (by decide), if_pos (by decide)]
  · rw [if_neg (by decide), if_neg (by decide), if_neg (by decide), if_neg (by decide), if_neg (by decide), if_neg (by decide), if_neg (by decide), if_pos (by decide)]
  · rw [if_neg (by decide), if_neg (by decide), if_neg (by decide), if_neg (by decide), if_neg (by decide), if_neg (by decide), if_neg (by decide), if_neg (by decide), if_pos (by decide)]
  · rw [if_neg (by decide), if_neg (by decide), if_neg (by decide), if_neg (by decide), if_neg (by decide), if_neg (by decide), if_neg (by decide), if_neg (by decide), if_neg (by decide)]
def up10 (um : Nat) : Nat := if um = 10 then 10 else um + 1
theorem up10_le {um : Nat} (h : um ≤ 10) : up10 um ≤ 10 ∧ 0 < up10 um := by rw [up10]; split <;> omega
theorem pp_at {F : Nat → Nat → Int32} {nx um : Nat} (h1 : F 13 1 = nI nx) (hx : nx < 10) (h2 : F 13 2 = nI um) (hu : um ≤ 10) (k : Nat) : putP F (d_X1_push (pF F)) k = if k = 13 then upd (upd (F 13) 1 (nI ((nx + 1) % 10))) 2 (nI (up10 um)) else if k = 15 + nx then d_X3_become (F (15 + nx)) (F 11) else F k := by
  rw [push_eq (G := pF F) (nx := nx) h1 hx, putP_at hx]
  have e0 : pF F 0 = F 13 := rfl
  have e12 : pF F 12 = F 11 := rfl
  have e2 : pF F (2 + nx) = F (15 + nx) := by rw [pF, if_neg (by omega), show 13 + (2 + nx) = 15 + nx by omega]
  rw [e0, e12, e2, h2]
  have x1 : (nI nx + (1 : Int32)) - (nI nx + (1 : Int32)) / (10 : Int32) * (10 : Int32) = nI ((nx + 1) % 10) := by
    rw [nI_1, show (10 : Int32) = nI 10 from rfl, pk_rem (by omega) (by omega) (by omega)]
  have x2 : (if (10 : Int32) < (nI um + (1 : Int32)) then (10 : Int32) else (nI um + (1 : Int32))) = nI (up10 um) := by
    rw [nI_1, show (10 : Int32) = nI 10 from rfl, up10]
    by_cases c : um = 10
    · subst c; rfl
    · rw [if_neg c, if_neg (nI_nlt (by omega) (by omega))]
  rw [x1, x2]
theorem pq_at {F : Nat → Nat → Int32} {nx um : Nat} (h1 : F 13 1 = nI nx) (hx : nx < 10) (h2 : F 13 2 = nI um) (hu : um ≤ 10) (h0 : 0 < um) (k : Nat) : putP F (d_X1_pop (pF F)) k = if k = 13 then upd (upd (F 13) 1 (nI ((nx + 9) % 10))) 2 (nI (um - 1)) else if k = 11 then d_X3_become (F 11) (F (15 + (nx + 9) % 10)) else F k := by
  rw [pop_eq (G := pF F) (nx := nx) h1 hx, putQ_at]
  have e0 : pF F 0 = F 13 := rfl
  have e12 : pF F 12 = F 11 := rfl
  have hm := Nat.mod_lt (nx + 9) (show 0 < 10 by omega)
  have e2 : pF F (2 + (nx + 9) % 10) = F (15 + (nx + 9) % 10) := by rw [pF, if_neg (by omega), show 13 + (2 + (nx + 9) % 10) = 15 + (nx + 9) % 10 by omega]
  rw [e0, e12, e2, h2]
  have x1 : ((nI nx + (10 : Int32)) - (1 : Int32)) - ((nI nx + (10 : Int32)) - (1 : Int32)) / (10 : Int32) * (10 : Int32) = nI ((nx + 9) % 10) := by
    rw [show (10 : Int32) = nI 10 from rfl, show (1 : Int32) = nI 1 from rfl, nI_add, pk_sub (by omega), pk_rem (by omega) (by omega) (by omega), show nx + 10 - 1 = nx + 9 by omega]
  have x2 : nI um - (1 : Int32) = nI (um - 1) := by rw [show (1 : Int32) = nI 1 from rfl, pk_sub (by omega)]
  rw [x1, x2]
theorem become_at (u v : Nat → Int32) : d_X3_become u v 0 = v 0 ∧ d_X3_become u v 1 = v 1 ∧ d_X3_become u v 2 = v 2 ∧ d_X3_become u v 3 = v 3 ∧ d_X3_become u v 4 = v 4 := ⟨rfl, rfl, rfl, rfl, rfl⟩
theorem ST.bec {u v g : Nat → Int32} (h : ST v g) : ST (d_X3_become u v) g := h
theorem ST.cg {u g g' : Nat → Int32} (h : ST u g) (e : ∀ k, k < 5 → g' k = g k) : ST u g' := by
  obtain ⟨a, b, c, d, f⟩ := h
  exact ⟨by rw [e 0 (by omega)]; exact a, by rw [e 1 (by omega)]; exact b, by rw [e 2 (by omega)]; exact c, by rw [e 3 (by omega)]; exact d, by rw [e 4 (by omega)]; exact f⟩
/-! the reference's notes -/
theorem n45 {f ss un uv ff : Nat → Int32} {um u2 : Nat} : lp_X6_notes_45 f ss un um 6 0 uv ff u2 = (upd ff 20 (nI u2 + 1), upd (upd (upd (upd (upd uv (5 * u2 + 0) (ss 0)) (5 * u2 + 1) (ss 1)) (5 * u2 + 2) (ss 2)) (5 * u2 + 3) (ss 3)) (5 * u2 + 4) (ss 4)) := by
  rw [lp_X6_notes_45, if_neg (by decide), lp_X6_notes_45, if_neg (by decide), lp_X6_notes_45, if_neg (by decide), lp_X6_notes_45, if_neg (by decide), lp_X6_notes_45, if_neg (by decide), lp_X6_notes_45, if_pos (by decide)]
def n5 (uv ss : Nat → Int32) (u2 : Nat) : Nat → Int32 := upd (upd (upd (upd (upd uv (5 * u2 + 0) (ss 0)) (5 * u2 + 1) (ss 1)) (5 * u2 + 2) (ss 2)) (5 * u2 + 3) (ss 3)) (5 * u2 + 4) (ss 4)
theorem n5_in {uv ss : Nat → Int32} {u2 k : Nat} (hk : k < 5) : n5 uv ss u2 (5 * u2 + k) = ss k := by
  unfold n5
  rcases (show k = 0 ∨ k = 1 ∨ k = 2 ∨ k = 3 ∨ k = 4 by omega) with rfl | rfl | rfl | rfl | rfl
  · rw [pk_un (by omega), pk_un (by omega), pk_un (by omega), pk_un (by omega), pk_us]
  · rw [pk_un (by omega), pk_un (by omega), pk_un (by omega), pk_us]
  · rw [pk_un (by omega), pk_un (by omega), pk_us]
  · rw [pk_un (by omega), pk_us]
  · rw [pk_us]
theorem n5_out {uv ss : Nat → Int32} {u2 j : Nat} (hj : j < 5 * u2 ∨ 5 * u2 + 5 ≤ j) : n5 uv ss u2 j = uv j := by
  unfold n5
  rw [pk_un (by omega), pk_un (by omega), pk_un (by omega), pk_un (by omega), pk_un (by omega)]
theorem n11 {f ss un : Nat → Int32} {um : Nat} : ∀ (k i : Nat) (uv : Nat → Int32), i + k = 46 → (∀ j, j < i → uv j = un (j + 5)) → (∀ j, i ≤ j → uv j = un j) → 0 < k → ∃ uv', lp_X6_notes_11 f ss un um k i uv = (upd (upd f 20 9) 20 (nI 9 + 1), n5 uv' ss 9) ∧ ∀ j, j < 45 → uv' j = un (j + 5) := by
  intro k
  induction k with
  | zero => intro i uv _ _ _ h; omega
  | succ k ih =>
    intro i uv hik h1 h2 _
    rw [lp_X6_notes_11]
    by_cases c : (45 : Int32) ≤ nI i
    · rw [if_pos c, jn_X6_notes_43, n45]
      have : i = 45 := by have := le_of (a := i) (b := 45) c (by omega) (by omega); omega
      exact ⟨uv, rfl, fun j hj => h1 j (by omega)⟩
    · rw [if_neg c]
      have hlt := nlt_of (a := i) (b := 45) c (by omega) (by omega)
      refine ih (i + 1) _ (by omega) (fun j hj => ?_) (fun j hj => ?_) (by omega)
      · rcases Nat.lt_or_ge j i with q | q
        · rw [pk_un (by omega)]; exact h1 j q
        · rw [show j = i by omega, pk_us]; exact h2 _ (by omega)
      · rw [pk_un (by omega)]; exact h2 j (by omega)
theorem nt {f ss un : Nat → Int32} {um : Nat} (hu : um ≤ 10) : (∀ k, ¬ k = 20 → (d_X6_notes f ss un um).1 k = f k) ∧ (d_X6_notes f ss un um).1 20 = nI (up10 um) ∧ (∀ j k, j < up10 um → k < 5 → (d_X6_notes f ss un um).2 (5 * j + k) = if j + 1 = up10 um then ss k else if um = 10 then un (5 * (j + 1) + k) else un (5 * j + k)) := by
  rw [d_X6_notes, up10]
  by_cases c : um = 10
  · subst c
    rw [if_pos (show nI 10 = 10 from rfl), if_pos rfl]
    obtain ⟨uv', e1, e2⟩ := n11 (f := f) (ss := ss) (un := un) (um := 10) 46 0 un (by omega) (fun j hj => by omega) (fun j _ => rfl) (by omega)
    rw [e1]
    refine ⟨fun k hk => ?_, rfl, fun j k hj hk => ?_⟩
    · show upd (upd f 20 9) 20 (nI 9 + 1) k = f k
      rw [pk_un hk, pk_un hk]
    · show n5 uv' ss 9 (5 * j + k) = _
      by_cases q : j + 1 = 10
      · rw [if_pos q, show j = 9 by omega]; exact n5_in hk
      · rw [if_neg q, if_pos rfl, n5_out (by omega), e2 _ (by omega), show 5 * j + k + 5 = 5 * (j + 1) + k by omega]
  · rw [if_neg (show ¬ nI um = 10 from fun e => c ((nI_eq (b := 10) (by omega) (by omega)).mp e)), if_neg c, jn_X6_notes_43, n45]
    refine ⟨fun k hk => pk_un hk, ?_, fun j k hj hk => ?_⟩
    · show upd f 20 (nI um + 1) 20 = _
      rw [pk_us, nI_1]
    · show n5 un ss um (5 * j + k) = _
      by_cases q : j + 1 = um + 1
      · rw [if_pos q, show j = um by omega]; exact n5_in hk
      · rw [if_neg q, if_neg c, n5_out (by omega)]
theorem ur_push {F G F' G' : Nat → Nat → Int32} {um nx dd : Nat} (h : UR F G um nx) (hc : CR F G dd) (f : Nat → Int32) (e13 : F' 13 = putP F (d_X1_push (pF F)) 13) (es : ∀ j, j < 10 → F' (15 + j) = putP F (d_X1_push (pF F)) (15 + j)) (g0 : G' 0 20 = (d_X6_notes f (G 6) (G 10) um).1 20) (g10 : G' 10 = (d_X6_notes f (G 6) (G 10) um).2) : UR F' G' (up10 um) ((nx + 1) % 10) := by
  obtain ⟨h1, h2, h3, h4, h5, h6⟩ := h
  obtain ⟨hst, hd, hd9⟩ := hc
  obtain ⟨t1, t2, t3⟩ := nt (f := f) (ss := G 6) (un := G 10) h3
  obtain ⟨u1, u2⟩ := up10_le h3
  have hm := Nat.mod_lt (nx + 1) (show 0 < 10 by omega)
  refine ⟨?_, by rw [g0]; exact t2, u1, ?_, hm, fun j hj => ?_⟩
  · rw [e13, pp_at h4 h5 h1 h3, if_pos rfl]; rfl
  · rw [e13, pp_at h4 h5 h1 h3, if_pos rfl]; rfl
  · have hm2 := Nat.mod_lt ((nx + 1) % 10 + 10 - up10 um + j) (show 0 < 10 by omega)
    rw [es _ hm2, pp_at h4 h5 h1 h3, if_neg (by omega), g10]
    by_cases q : j + 1 = up10 um
    · have e : ((nx + 1) % 10 + 10 - up10 um + j) % 10 = nx := by omega
      rw [if_pos (by rw [e])]
      refine ⟨(ST.bec hst).cg (fun k hk => ?_), dd, hd9, hd⟩
      show (d_X6_notes f (G 6) (G 10) um).2 (5 * j + k) = _
      rw [t3 j k hj hk, if_pos q]
    · by_cases c : um = 10
      · have eu : up10 um = 10 := by rw [up10, if_pos c]
        have e : ((nx + 1) % 10 + 10 - up10 um + j) % 10 = (nx + 10 - um + (j + 1)) % 10 := by rw [eu, c]; omega
        rw [if_neg (by rw [e, c]; omega), e]
        obtain ⟨r1, d, r2, r3⟩ := h6 (j + 1) (by omega)
        refine ⟨r1.cg (fun k hk => ?_), d, r2, r3⟩
        show (d_X6_notes f (G 6) (G 10) um).2 (5 * j + k) = _
        rw [t3 j k hj hk, if_neg q, if_pos c]
      · have eu : up10 um = um + 1 := by rw [up10, if_neg c]
        have e : ((nx + 1) % 10 + 10 - up10 um + j) % 10 = (nx + 10 - um + j) % 10 := by rw [eu]; omega
        rw [if_neg (by rw [e]; omega), e]
        obtain ⟨r1, d, r2, r3⟩ := h6 j (by omega)
        refine ⟨r1.cg (fun k hk => ?_), d, r2, r3⟩
        show (d_X6_notes f (G 6) (G 10) um).2 (5 * j + k) = _
        rw [t3 j k hj hk, if_neg q, if_neg c]
/-- a step is noted, and then the standing becomes u', g' -/
theorem rl_push {F G F' G' : Nat → Nat → Int32} {n len dd um nx sk d' : Nat} (h : RLN F G n len dd um nx sk) (f : Nat → Int32) (hf : ∀ k, k = 3 ∨ k = 23 → f k = G 0 k) (eF : ∀ k, ¬ k = 11 → F' k = putP F (d_X1_push (pF F)) k) (hst : ST (F' 11) (G' 6)) (hd : F' 11 4 = nI d') (hd9 : d' ≤ 999)
    (g0 : G' 0 = (d_X6_notes f (G 6) (G 10) um).1) (g10 : G' 10 = (d_X6_notes f (G 6) (G 10) um).2) (gk : ∀ k, ¬ k = 0 → ¬ k = 6 → ¬ k = 10 → G' k = G k) : RX F' G' := by
  obtain ⟨h1, h2, h3, h4, h5, h6⟩ := h
  have hu := h4
  obtain ⟨u1, u2, u3, u4, u5, u6⟩ := hu
  obtain ⟨t1, t2, t3⟩ := nt (f := f) (ss := G 6) (un := G 10) u3
  have ek : ∀ k, ¬ k = 11 → ¬ k = 13 → (k < 15 ∨ 25 ≤ k) → F' k = F k := fun k a b c => by rw [eF k a, pp_at u4 u5 u1 u3, if_neg b, if_neg (by omega)]
  refine ⟨n, len, d', up10 um, (nx + 1) % 10, sk, ?_, ?_, ⟨hst, hd, hd9⟩, ?_, ?_, ?_⟩
  · exact h1.mv (ek 1 (by decide) (by decide) (by decide)) (ek 2 (by decide) (by decide) (by decide)) (ek 3 (by decide) (by decide) (by decide)) (ek 4 (by decide) (by decide) (by decide)) (gk 2 (by decide) (by decide) (by decide)) (gk 3 (by decide) (by decide) (by decide)) (gk 4 (by decide) (by decide) (by decide)) (gk 5 (by decide) (by decide) (by decide))
  · exact h2.mv (ek 9 (by decide) (by decide) (by decide)) (ek 10 (by decide) (by decide) (by decide)) (by rw [g0, t1 3 (by decide)]; exact hf 3 (by decide)) (gk 1 (by decide) (by decide) (by decide))
  · exact ur_push h4 h3 f (eF 13 (by decide)) (fun j hj => eF _ (by omega)) (by rw [g0]) g10
  · exact h5.mv (ek 28 (by decide) (by decide) (by decide)) (ek 26 (by decide) (by decide) (by decide)) (ek 27 (by decide) (by decide) (by decide)) (gk 8 (by decide) (by decide) (by decide)) (gk 9 (by decide) (by decide) (by decide))
  · exact h6.mv (ek 29 (by decide) (by decide) (by decide)) (ek 30 (by decide) (by decide) (by decide)) (ek 31 (by decide) (by decide) (by decide)) (by rw [g0, t1 23 (by decide)]; exact hf 23 (by decide)) (gk 11 (by decide) (by decide) (by decide)) (gk 12 (by decide) (by decide) (by decide))
theorem RLN.x {F G : Nat → Nat → Int32} {n len dd um nx sk : Nat} (h : RLN F G n len dd um nx sk) : RX F G := ⟨n, len, dd, um, nx, sk, h⟩
