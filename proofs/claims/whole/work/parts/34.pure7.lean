/-! what is done: answers and states -/
theorem pp_11 {F G : Nat → Nat → Int32} {um nx : Nat} (h : UR F G um nx) : putP F (d_X1_push (pF F)) 11 = F 11 := by
  obtain ⟨u1, u2, u3, u4, u5, u6⟩ := h
  rw [pp_at u4 u5 u1 u3, if_neg (by omega), if_neg (by omega)]
theorem pp_lo {F G : Nat → Nat → Int32} {um nx k : Nat} (h : UR F G um nx) (hk : k < 11) : putP F (d_X1_push (pF F)) k = F k := by
  obtain ⟨u1, u2, u3, u4, u5, u6⟩ := h
  rw [pp_at u4 u5 u1 u3, if_neg (by omega), if_neg (by omega)]
theorem q_swears {F G : Nat → Nat → Int32} {n len dd um nx sk : Nat} (h : RLN F G n len dd um nx sk) (words : Int32) : (d_X5_swears F words n).1 = (d_X6_swears G words n um).1 ∧ RX (d_X5_swears F words n).2 (d_X6_swears G words n um).2 := by
  have hU := h.2.2.2.1
  obtain ⟨⟨_, _, h7, _, _, _, ht, _, he, hE, _, _, _⟩, _, ⟨⟨s0, s1, s2, s3, s4⟩, hdd, h9⟩, _⟩ := id h
  rw [d_X5_swears, d_X6_swears, words_eq]
  by_cases c : d_X6_in words 0 31 = 0
  · rw [if_pos c, if_pos c]; exact ⟨rfl, h.t0.x⟩
  · rw [if_neg c, if_neg c]
    refine ⟨?_, ?_⟩
    · show d_J6_bitCount_0f7a4 (d_X0_coveredBy _ _ words n) = _
      rw [pp_11 hU, pp_lo hU (by omega), cov_eq (tr' := G 3) (w := words) (g := upd (G 6) 1 words) (u := upd (F 11) 0 words) h7 ht rfl s4]
      exact bc_ones' (cov_small h7)
    · refine rl_push h (upd (G 0) 0 0) (fun k hk => by rcases hk with rfl | rfl <;> rfl) (fun k hk => va_up_ne _ _ hk) ?_ (d' := dd) ?_ h9 rfl rfl (fun k a b c => ?_)
      · show ST (upd (putP F (d_X1_push (pF F)) 11) 0 words) (upd (G 6) 1 words)
        rw [pp_11 hU]
        exact ⟨s0, rfl, s2, s3, s4⟩
      · show upd (putP F (d_X1_push (pF F)) 11) 0 words 4 = _
        rw [pp_11 hU]; exact hdd
      · dsimp only
        rw [va_up_ne _ _ c, va_up_ne _ _ b, va_up_ne _ _ a]
theorem wb_eq {x : Int32} {t : Nat} {is : Int32} (ht : t < 32) (his : is = 0 ∨ is = 1) : d_X5_withBit x (nI t) is = (x &&& (((1 : Int32) <<< (nI t &&& 31)) ^^^ (-1 : Int32))) ||| (is <<< (nI t &&& 31)) := by
  rw [d_X5_withBit]
  rcases his with rfl | rfl
  · rw [if_neg (by decide)]
    apply b_ext
    intro i hi
    rw [b_or, b_shl t ht 0 hi, b_0, Bool.and_false, Bool.or_false]
  · rw [if_pos rfl]
    apply b_ext
    intro i hi
    rw [b_or, b_or, b_and, b_not _ hi, b_sh1 ht hi]
    by_cases q : t = i
    · rw [decide_eq_true q]; simp
    · rw [decide_eq_false q]; simp
theorem q_keepsIn {F G : Nat → Nat → Int32} {n len dd um nx sk : Nat} (h : RLN F G n len dd um nx sk) (t is : Int32) : (d_X5_keepsIn F t is).1 = (d_X6_keepsIn G t is n um).1 ∧ RX (d_X5_keepsIn F t is).2 (d_X6_keepsIn G t is n um).2 := by
  have hU := h.2.2.2.1
  have hh := h.hold t
  obtain ⟨⟨_, _, h7, _, _, _, ht, _, he, hE, _, _, _⟩, _, ⟨⟨s0, s1, s2, s3, s4⟩, hdd, h9⟩, _⟩ := id h
  rw [d_X5_keepsIn, d_X6_keepsIn, d_X6_becomes, yn_eq, hh]
  by_cases c : d_X6_isThing t n = 0
  · rw [if_pos c, if_pos c]; exact ⟨rfl, h.t0.x⟩
  · rw [if_neg c, if_neg c]
    obtain ⟨e1, e2⟩ := isThing_ok (mn := fun _ => 0) c h7
    by_cases c2 : d_X6_in is 0 1 = 0
    · rw [if_pos c2, if_pos c2]; exact ⟨rfl, h.t0.x⟩
    · rw [if_neg c2, if_neg c2]
      have ew : d_X5_withBit (F 11 2) t is = ((G 6 3) &&& (((1 : Int32) <<< (t &&& 31)) ^^^ (-1 : Int32))) ||| (is <<< (t &&& 31)) := by
        rw [s3, e1, wb_eq (by omega) (in1_or c2)]
      refine ⟨?_, ?_⟩
      · show d_X5_bitOf (putP F (d_X1_push (pF F)) 11 2) t = (G 6 3 >>> (t &&& 31)) &&& 1
        rw [pp_11 hU, s3]; rfl
      · refine rl_push h (upd (G 0) 0 0) (fun k hk => by rcases hk with rfl | rfl <;> rfl) (fun k hk => va_up_ne _ _ hk) ?_ (d' := dd) ?_ h9 rfl rfl (fun k a b c => ?_)
        · show ST (upd (putP F (d_X1_push (pF F)) 11) 2 (d_X5_withBit (putP F (d_X1_push (pF F)) 11 2) t is)) (upd (G 6) 3 (((G 6 3) &&& (((1 : Int32) <<< (t &&& 31)) ^^^ (-1 : Int32))) ||| (is <<< (t &&& 31))))
          rw [pp_11 hU, ← ew]
          exact ⟨s0, s1, s2, rfl, s4⟩
        · show putP F (d_X1_push (pF F)) 11 4 = _
          rw [pp_11 hU]; exact hdd
        · show va_up (va_up (va_up (va_up G 0 (upd (G 0) 0 0)) 0 _) 6 _) 10 _ k = _
          rw [va_up_ne _ _ c, va_up_ne _ _ b, va_up_ne _ _ a, va_up_ne _ _ a]
theorem q_tells {F G : Nat → Nat → Int32} {n len dd um nx sk : Nat} (h : RLN F G n len dd um nx sk) (t is : Int32) : (d_X5_tells F t is).1 = (d_X6_tells G t is n um).1 ∧ RX (d_X5_tells F t is).2 (d_X6_tells G t is n um).2 := by
  have hU := h.2.2.2.1
  have hh := h.hold t
  obtain ⟨⟨_, _, h7, _, _, _, ht, _, he, hE, _, _, _⟩, _, ⟨⟨s0, s1, s2, s3, s4⟩, hdd, h9⟩, _⟩ := id h
  rw [d_X5_tells, d_X6_tells, d_X6_becomes, yn_eq, hh]
  by_cases c : d_X6_isThing t n = 0
  · rw [if_pos c, if_pos c]; exact ⟨rfl, h.t0.x⟩
  · rw [if_neg c, if_neg c]
    obtain ⟨e1, e2⟩ := isThing_ok (mn := fun _ => 0) c h7
    by_cases c2 : d_X6_in is 0 1 = 0
    · rw [if_pos c2, if_pos c2]; exact ⟨rfl, h.t0.x⟩
    · rw [if_neg c2, if_neg c2]
      have ew : d_X5_withBit (F 11 1) t is = ((G 6 2) &&& (((1 : Int32) <<< (t &&& 31)) ^^^ (-1 : Int32))) ||| (is <<< (t &&& 31)) := by
        rw [s2, e1, wb_eq (by omega) (in1_or c2)]
      refine ⟨?_, ?_⟩
      · show d_X5_bitOf (putP F (d_X1_push (pF F)) 11 1) t = (G 6 2 >>> (t &&& 31)) &&& 1
        rw [pp_11 hU, s2]; rfl
      · refine rl_push h (upd (G 0) 0 0) (fun k hk => by rcases hk with rfl | rfl <;> rfl) (fun k hk => va_up_ne _ _ hk) ?_ (d' := dd) ?_ h9 rfl rfl (fun k a b c => ?_)
        · show ST (upd (putP F (d_X1_push (pF F)) 11) 1 (d_X5_withBit (putP F (d_X1_push (pF F)) 11 1) t is)) (upd (G 6) 2 (((G 6 2) &&& (((1 : Int32) <<< (t &&& 31)) ^^^ (-1 : Int32))) ||| (is <<< (t &&& 31))))
          rw [pp_11 hU, ← ew]
          exact ⟨s0, s1, rfl, s3, s4⟩
        · show putP F (d_X1_push (pF F)) 11 4 = _
          rw [pp_11 hU]; exact hdd
        · show va_up (va_up (va_up (va_up G 0 (upd (G 0) 0 0)) 0 _) 6 _) 10 _ k = _
          rw [va_up_ne _ _ c, va_up_ne _ _ b, va_up_ne _ _ a, va_up_ne _ _ a]
theorem q_day {F G : Nat → Nat → Int32} {n len dd um nx sk : Nat} (h : RLN F G n len dd um nx sk) (z : Int32) : (d_X5_day F z n).1 = (d_X6_day G z n um dd).1 ∧ RX (d_X5_day F z n).2 (d_X6_day G z n um dd).2 := by
  have hU := h.2.2.2.1
  obtain ⟨⟨_, _, h7, _, _, _, ht, _, he, hE, _, _, _⟩, _, ⟨hst, hdd, h9⟩, _⟩ := id h
  have s0 : G 6 0 = F 11 4 := hst.1
  rw [d_X5_day, d_X6_day, isZ_eq]
  by_cases c : d_X6_in z 0 9999 = 0
  · rw [if_pos c, if_pos c]; exact ⟨rfl, h.t0.x⟩
  · rw [if_neg c, if_neg c, s0, hdd]
    obtain ⟨zz, hzz, ez⟩ := in_or (m := 9999) c (by omega)
    by_cases c2 : dd = 999
    · subst c2
      rw [if_neg (by decide), if_pos (by decide)]; exact ⟨rfl, h.t0.x⟩
    · rw [if_pos (show nI dd < 999 from nI_lt (b := 999) (by omega) (by omega)), if_neg (show ¬ nI dd = 999 from fun e => c2 ((nI_eq (b := 999) (by omega) (by omega)).mp e))]
      rw [ez, nI_clamp (by omega)]
      obtain ⟨r1, r2, r3⟩ := pd_eq (z := zz) h7 ht he hE hst hdd (by omega) hzz
      rw [pp_11 hU, pp_lo (k := 2) hU (by omega), pp_lo (k := 4) hU (by omega)]
      refine ⟨r1, ?_⟩
      refine rl_push h (upd (G 0) 0 0) (fun k hk => by rcases hk with rfl | rfl <;> rfl) (fun k hk => va_up_ne _ _ hk) ?_ (d' := dd + 1) ?_ (by omega) rfl rfl (fun k a b c => ?_)
      · exact r2
      · exact r3
      · dsimp only
        rw [va_up_ne _ _ c, va_up_ne _ _ b, va_up_ne _ _ a]
theorem u27 {G : Nat → Nat → Int32} {um : Nat} : lp_X6_undo_27 G um 6 0 (G 6) = (nI (um - 1), va_up (va_up G 0 (upd (upd (G 0) 0 0) 20 (nI (um - 1)))) 6 (upd (upd (upd (upd (upd (G 6) 0 (G 10 (5 * (um - 1) + 0))) 1 (G 10 (5 * (um - 1) + 1))) 2 (G 10 (5 * (um - 1) + 2))) 3 (G 10 (5 * (um - 1) + 3))) 4 (G 10 (5 * (um - 1) + 4)))) := by
  rw [lp_X6_undo_27, if_neg (by decide), lp_X6_undo_27, if_neg (by decide), lp_X6_undo_27, if_neg (by decide), lp_X6_undo_27, if_neg (by decide), lp_X6_undo_27, if_neg (by decide), lp_X6_undo_27, if_pos (by decide)]
theorem q_undo {F G : Nat → Nat → Int32} {n len dd um nx sk : Nat} (h : RLN F G n len dd um nx sk) : (d_X5_undo F).1 = (d_X6_undo G um).1 ∧ RX (d_X5_undo F).2 (d_X6_undo G um).2 := by
  obtain ⟨h1, h2, h3, ⟨u1, u2, u3, u4, u5, u6⟩, h5, h6⟩ := id h
  rw [d_X5_undo, d_X6_undo, u1]
  by_cases c : nI um = 0
  · rw [if_pos c, if_pos c]; exact ⟨rfl, h.t0.x⟩
  · rw [if_neg c, if_neg c, u27]
    have h0 : 0 < um := Nat.pos_of_ne_zero (fun e => c (by rw [e]; rfl))
    have hm := Nat.mod_lt (nx + 9) (show 0 < 10 by omega)
    have pk : ∀ k, ¬ k = 13 → ¬ k = 11 → putP F (d_X1_pop (pF F)) k = F k := fun k a b => by rw [pq_at u4 u5 u1 u3 h0, if_neg a, if_neg b]
    have p13 : putP F (d_X1_pop (pF F)) 13 = upd (upd (F 13) 1 (nI ((nx + 9) % 10))) 2 (nI (um - 1)) := by rw [pq_at u4 u5 u1 u3 h0, if_pos rfl]
    have p11 : putP F (d_X1_pop (pF F)) 11 = d_X3_become (F 11) (F (15 + (nx + 9) % 10)) := by rw [pq_at u4 u5 u1 u3 h0, if_neg (by omega), if_pos rfl]
    refine ⟨?_, ?_⟩
    · show putP F (d_X1_pop (pF F)) 13 2 = nI (um - 1)
      rw [p13]; rfl
    · obtain ⟨r1, d, r2, r3⟩ := u6 (um - 1) (by omega)
      have ei : (nx + 10 - um + (um - 1)) % 10 = (nx + 9) % 10 := by congr 1; omega
      rw [ei] at r1 r3
      refine ⟨n, len, d, um - 1, (nx + 9) % 10, sk, ?_, ?_, ⟨?_, ?_, r2⟩, ⟨?_, rfl, by omega, ?_, hm, fun j hj => ?_⟩, ?_, ?_⟩
      · exact h1.mv (pk 1 (by decide) (by decide)) (pk 2 (by decide) (by decide)) (pk 3 (by decide) (by decide)) (pk 4 (by decide) (by decide)) rfl rfl rfl rfl
      · exact h2.mv (pk 9 (by decide) (by decide)) (pk 10 (by decide) (by decide)) rfl rfl
      · show ST (putP F (d_X1_pop (pF F)) 11) _
        rw [p11]
        obtain ⟨a, b, c, d, e⟩ := r1
        exact ⟨a, b, c, d, e⟩
      · show putP F (d_X1_pop (pF F)) 11 4 = _
        rw [p11]; exact r3
      · show putP F (d_X1_pop (pF F)) 13 2 = _
        rw [p13]; rfl
      · show putP F (d_X1_pop (pF F)) 13 1 = _
        rw [p13]; rfl
      · have ej : ((nx + 9) % 10 + 10 - (um - 1) + j) % 10 = (nx + 10 - um + j) % 10 := by omega
        show ST (putP F (d_X1_pop (pF F)) (15 + ((nx + 9) % 10 + 10 - (um - 1) + j) % 10)) (fun k => G 10 (5 * j + k)) ∧ ∃ d, d ≤ 999 ∧ putP F (d_X1_pop (pF F)) (15 + ((nx + 9) % 10 + 10 - (um - 1) + j) % 10) 4 = nI d
        rw [ej, pk _ (by omega) (by omega)]
        exact u6 j (by omega)
      · exact h5.mv (pk 28 (by decide) (by decide)) (pk 26 (by decide) (by decide)) (pk 27 (by decide) (by decide)) rfl rfl
      · exact h6.mv (pk 29 (by decide) (by decide)) (pk 30 (by decide) (by decide)) (pk 31 (by decide) (by decide)) rfl rfl rfl
theorem char_id : ∀ j, j < 256 → ((nI j).toUInt32 % 65536).toInt32 = nI j := by decide +kernel
theorem q_type {F G : Nat → Nat → Int32} {n len dd um nx sk : Nat} (h : RLN F G n len dd um nx sk) (letter : Int32) : (d_X5_type F letter len).1 = (d_X6_type G letter len).1 ∧ RX (d_X5_type F letter len).2 (d_X6_type G letter len).2 := by
  obtain ⟨h1, ⟨t1, t2, t3, t4⟩, h3, h4, h5, h6⟩ := id h
  rw [d_X5_type, d_X6_type, d_X6_in]
  by_cases c : letter < 0
  · rw [if_pos c, if_pos c, if_pos rfl]; exact ⟨rfl, h.t0.x⟩
  · rw [if_neg c, if_neg c]
    by_cases c2 : (255 : Int32) < letter
    · rw [if_neg (lt_nle c2), if_pos c2, if_pos rfl]; exact ⟨rfl, h.t0.x⟩
    · rw [if_pos (Int32.not_lt.mp c2), if_neg c2, if_neg (show ¬ (1 : Int32) = 0 by decide)]
      obtain ⟨e1, e2⟩ := ix_le (N := 255) c (Int32.not_lt.mp c2) (by omega)
      generalize letter.toNatClampNeg = x at *
      subst e1
      rw [d_X4_add]
      by_cases c3 : len = 200
      · subst c3
        rw [if_neg (show ¬ nI 200 < 200 by decide), if_pos rfl, if_pos (show nI 200 = 200 from rfl)]
        refine ⟨rfl, 
          n, 200, dd, um, nx, sk, h1.mv rfl rfl rfl rfl rfl rfl rfl rfl, TR.mv ⟨t1, t2, t3, t4⟩ rfl rfl rfl rfl, h3.mv rfl rfl, h4.mv rfl (fun j hj => ?_) rfl rfl, h5.mv rfl rfl rfl rfl rfl, h6.mv rfl rfl rfl rfl rfl rfl⟩
        show va_up (va_up F 9 _) 10 _ (15 + j) = _
        rw [va_up_ne _ _ (by omega), va_up_ne _ _ (by omega)]
      · rw [if_pos (show nI len < 200 from nI_lt (b := 200) (by omega) (by omega)), if_neg (show ¬ (1 : Int32) = 0 by decide), if_neg (show ¬ nI len = 200 from fun e => c3 ((nI_eq (b := 200) (by omega) (by omega)).mp e))]
        refine ⟨rfl, n, len + 1, dd, um, nx, sk, h1.mv rfl rfl rfl rfl rfl rfl rfl rfl, ⟨nI_1 len, nI_1 len, by omega, fun j hj => ?_⟩, h3.mv rfl rfl, h4.mv rfl (fun j hj => ?_) rfl rfl, h5.mv rfl rfl rfl rfl rfl, h6.mv rfl rfl rfl rfl rfl rfl⟩
        · show upd (F 10) len ((nI x).toUInt32 % 65536).toInt32 j = upd (G 1) len (nI x) j ∧ _
          rw [char_id x (by omega)]
          show _ ∧ ∃ y, y ≤ 255 ∧ upd (G 1) len (nI x) j = nI y
          rcases Nat.lt_or_ge j len with q | q
          · rw [pk_un (by omega), pk_un (by omega)]; exact t4 j q
          · rw [show j = len by omega, pk_us, pk_us]; exact ⟨rfl, x, e2, rfl⟩
        · show va_up (va_up F 9 _) 10 _ (15 + j) = _
          rw [va_up_ne _ _ (by omega), va_up_ne _ _ (by omega)]
theorem q_clear {F G : Nat → Nat → Int32} {n len dd um nx sk : Nat} (h : RLN F G n len dd um nx sk) : (d_X5_clear F).1 = (d_X6_clear G).1 ∧ RX (d_X5_clear F).2 (d_X6_clear G).2 := by
  obtain ⟨h1, ⟨t1, t2, t3, t4⟩, h3, h4, h5, h6⟩ := id h
  rw [d_X5_clear, d_X6_clear]
  refine ⟨by rw [t1, t2], n, 0, dd, um, nx, sk, h1.mv rfl rfl rfl rfl rfl rfl rfl rfl, ⟨rfl, rfl, by omega, fun j hj => by omega⟩, h3.mv rfl rfl, h4.mv rfl (fun j hj => va_up_ne _ _ (by omega)) rfl rfl, h5.mv rfl rfl rfl rfl rfl, h6.mv rfl rfl rfl rfl rfl rfl⟩
theorem q_forget {F G : Nat → Nat → Int32} {n len dd um nx sk : Nat} (h : RLN F G n len dd um nx sk) : (d_X5_forget F).1 = (d_X6_forget G).1 ∧ RX (d_X5_forget F).2 (d_X6_forget G).2 := by
  obtain ⟨h1, h2, h3, h4, h5, ⟨k1, k2, k3, k4⟩⟩ := id h
  rw [d_X5_forget, d_X6_forget]
  refine ⟨by rw [k1, k2], n, len, dd, um, nx, 0, h1.mv rfl rfl rfl rfl rfl rfl rfl rfl, h2.mv rfl rfl rfl rfl, h3.mv rfl rfl, h4.mv rfl (fun j hj => va_up_ne _ _ (by omega)) rfl rfl, h5.mv rfl rfl rfl rfl rfl, ⟨rfl, rfl, by omega, fun j hj => by omega⟩⟩
theorem q_saw {F G : Nat → Nat → Int32} {n len dd um nx sk : Nat} (h : RLN F G n len dd um nx sk) (t given : Int32) : (d_X5_saw F t given sk).1 = (d_X6_saw G t given n sk).1 ∧ RX (d_X5_saw F t given sk).2 (d_X6_saw G t given n sk).2 := by
  have hh := h.hold t
  obtain ⟨h1, h2, h3, h4, h5, ⟨k1, k2, k3, k4⟩⟩ := id h
  have h7 : n ≤ 7 := h1.2.2.1
  rw [d_X5_saw, d_X6_saw, yn_eq, hh]
  by_cases c : d_X6_isThing t n = 0
  · rw [if_pos c, if_pos c]; exact ⟨rfl, h.t0.x⟩
  · rw [if_neg c, if_neg c]
    obtain ⟨e1, e2⟩ := isThing_ok (mn := fun _ => 0) c h7
    by_cases c2 : d_X6_in given 0 1 = 0
    · rw [if_pos c2, if_pos c2]; exact ⟨rfl, h.t0.x⟩
    · rw [if_neg c2, if_neg c2, d_X2_add]
      have hg := in1_or c2
      have hv : ∀ (a b c : Nat → Int32) (j : Nat), j < 10 → va_up (va_up (va_up F 29 a) 30 b) 31 c (15 + j) = F (15 + j) := fun a b c j hj => by rw [va_up_ne _ _ (by omega), va_up_ne _ _ (by omega), va_up_ne _ _ (by omega)]
      by_cases c3 : sk = 6
      · subst c3
        rw [if_neg (show ¬ nI 6 < 6 by decide), if_pos rfl, if_pos (show nI 6 = 6 from rfl)]
        exact ⟨rfl, n, len, dd, um, nx, 6, h1.mv rfl rfl rfl rfl rfl rfl rfl rfl, h2.mv rfl rfl rfl rfl, h3.mv rfl rfl, h4.mv rfl (hv _ _ _) rfl rfl, h5.mv rfl rfl rfl rfl rfl, SR.mv ⟨k1, k2, k3, k4⟩ rfl rfl rfl rfl rfl rfl⟩
      · rw [if_pos (show nI sk < 6 from nI_lt (b := 6) (by omega) (by omega)), if_neg (show ¬ (1 : Int32) = 0 by decide), if_neg (show ¬ nI sk = 6 from fun e => c3 ((nI_eq (b := 6) (by omega) (by omega)).mp e))]
        refine ⟨rfl, n, len, dd, um, nx, sk + 1, h1.mv rfl rfl rfl rfl rfl rfl rfl rfl, h2.mv rfl rfl rfl rfl, h3.mv rfl rfl, h4.mv rfl (hv _ _ _) rfl rfl, h5.mv rfl rfl rfl rfl rfl, ⟨nI_1 sk, nI_1 sk, by omega, fun j hj => ?_⟩⟩
        show upd (F 30) sk t j = upd (G 11) sk t j ∧ upd (F 31) sk given j = upd (G 12) sk given j ∧ (∃ x, x < n ∧ upd (G 11) sk t j = nI x) ∧ (upd (G 12) sk given j = 0 ∨ upd (G 12) sk given j = 1)
        rcases Nat.lt_or_ge j sk with q | q
        · rw [pk_un (by omega), pk_un (by omega), pk_un (by omega), pk_un (by omega)]; exact k4 j q
        · rw [show j = sk by omega, pk_us, pk_us, pk_us, pk_us]; exact ⟨rfl, rfl, ⟨_, e2, e1⟩, hg⟩
theorem k18 {G : Nat → Nat → Int32} {image : Int32} : lp_X6_keep_18 G image 6 0 (G 8) = (G 6 0, va_up (va_up (va_up G 0 (upd (G 0) 0 0)) 8 (n5 (G 8) (G 6) image.toNatClampNeg)) 9 (upd (G 9) image.toNatClampNeg 1)) := by
  rw [lp_X6_keep_18, if_neg (by decide), lp_X6_keep_18, if_neg (by decide), lp_X6_keep_18, if_neg (by decide), lp_X6_keep_18, if_neg (by decide), lp_X6_keep_18, if_neg (by decide), lp_X6_keep_18, if_pos (by decide)]
  rfl
theorem q_keep {F G : Nat → Nat → Int32} {n len dd um nx sk : Nat} (h : RLN F G n len dd um nx sk) (image : Int32) : (d_X5_keep F image).1 = (d_X6_keep G image).1 ∧ RX (d_X5_keep F image).2 (d_X6_keep G image).2 := by
  obtain ⟨h1, h2, h3, h4, h5, h6⟩ := id h
  have s0 : G 6 0 = F 11 4 := h3.1.1
  rw [d_X5_keep, d_X6_keep]
  by_cases c : d_X6_in image 0 1 = 0
  · rw [if_pos c]
    rw [d_X6_in] at c
    by_cases c1 : image < 0
    · rw [if_pos c1]; exact ⟨rfl, h.t0.x⟩
    · rw [if_neg c1] at c ⊢
      have c2 : ¬ image < 2 := fun q => by
        have : ¬ (1 : Int32) < image := fun z => by
          rw [Int32.lt_iff_toInt_lt] at q z
          have a1 : (2 : Int32).toInt = 2 := by decide
          have a2 : (1 : Int32).toInt = 1 := by decide
          omega
        rw [if_neg this] at c
        exact absurd c (by decide)
      rw [if_neg c2]; exact ⟨rfl, h.t0.x⟩
  · rw [if_neg c, k18]
    have hv : ∀ (a b : Nat → Int32) (c j : Nat), j < 10 → (c = 26 ∨ c = 27) → va_up (va_up F c a) 28 b (15 + j) = F (15 + j) := fun a b c j hj hc => by rw [va_up_ne _ _ (by omega), va_up_ne _ _ (by omega)]
    rcases in1_or c with rfl | rfl
    · rw [if_neg (by decide), if_pos (by decide), if_pos rfl, show (0 : Int32).toNatClampNeg = 0 by decide]
      refine ⟨s0.symm, n, len, dd, um, nx, sk, h1.mv rfl rfl rfl rfl rfl rfl rfl rfl, h2.mv rfl rfl rfl rfl, h3.mv rfl rfl, h4.mv rfl (fun j hj => hv _ _ 26 j hj (by omega)) rfl rfl, fun i hi => ?_, h6.mv rfl rfl rfl rfl rfl rfl⟩
      rcases (show i = 0 ∨ i = 1 by omega) with rfl | rfl
      · refine ⟨rfl, fun _ => ⟨(ST.bec h3.1).cg (fun k hk => n5_in (u2 := 0) hk), dd, h3.2.2, h3.2.1⟩⟩
      · obtain ⟨a1, a2⟩ := h5 1 (by omega)
        refine ⟨a1, fun z => ?_⟩
        obtain ⟨b1, d, b2, b3⟩ := a2 z
        exact ⟨b1.cg (fun k hk => n5_out (u2 := 0) (by omega)), d, b2, b3⟩
    · rw [if_neg (by decide), if_pos (by decide), if_neg (by decide), show (1 : Int32).toNatClampNeg = 1 by decide]
      refine ⟨s0.symm, n, len, dd, um, nx, sk, h1.mv rfl rfl rfl rfl rfl rfl rfl rfl, h2.mv rfl rfl rfl rfl, h3.mv rfl rfl, h4.mv rfl (fun j hj => hv _ _ 27 j hj (by omega)) rfl rfl, fun i hi => ?_, h6.mv rfl rfl rfl rfl rfl rfl⟩
      rcases (show i = 0 ∨ i = 1 by omega) with rfl | rfl
      · obtain ⟨a1, a2⟩ := h5 0 (by omega)
        refine ⟨a1, fun z => ?_⟩
        obtain ⟨b1, d, b2, b3⟩ := a2 z
        exact ⟨b1.cg (fun k hk => n5_out (u2 := 1) (by omega)), d, b2, b3⟩
      · refine ⟨rfl, fun _ => ⟨(ST.bec h3.1).cg (fun k hk => n5_in (u2 := 1) hk), dd, h3.2.2, h3.2.1⟩⟩
theorem b30 {G : Nat → Nat → Int32} {image : Int32} : lp_X6_back_30 G image 6 0 (G 6) = (G 8 (5 * image.toNatClampNeg + 0), va_up (va_up G 0 (upd (upd (G 0) 0 0) 20 0)) 6 (upd (upd (upd (upd (upd (G 6) 0 (G 8 (5 * image.toNatClampNeg + 0))) 1 (G 8 (5 * image.toNatClampNeg + 1))) 2 (G 8 (5 * image.toNatClampNeg + 2))) 3 (G 8 (5 * image.toNatClampNeg + 3))) 4 (G 8 (5 * image.toNatClampNeg + 4)))) := by
  rw [lp_X6_back_30, if_neg (by decide), lp_X6_back_30, if_neg (by decide), lp_X6_back_30, if_neg (by decide), lp_X6_back_30, if_neg (by decide), lp_X6_back_30, if_neg (by decide), lp_X6_back_30, if_pos (by decide)]
  rfl
theorem bk_rl {F G : Nat → Nat → Int32} {n len dd um nx sk d i : Nat} (h : RLN F G n len dd um nx sk) (hi : i < 2) (hs : ST (F (26 + i)) (fun k => G 8 (5 * i + k))) (hd : d ≤ 999) (hd2 : F (26 + i) 4 = nI d) : RX (va_up (va_up F 11 (d_X3_become (F 11) (F (26 + i)))) 13 (upd (F 13) 2 0)) (va_up (va_up G 0 (upd (upd (G 0) 0 0) 20 0)) 6 (upd (upd (upd (upd (upd (G 6) 0 (G 8 (5 * i + 0))) 1 (G 8 (5 * i + 1))) 2 (G 8 (5 * i + 2))) 3 (G 8 (5 * i + 3))) 4 (G 8 (5 * i + 4)))) := by
  obtain ⟨h1, h2, h3, ⟨u1, u2, u3, u4, u5, u6⟩, h5, h6⟩ := id h
  obtain ⟨a, b, c, e, f⟩ := hs
  exact ⟨n, len, d, 0, nx, sk, h1.mv rfl rfl rfl rfl rfl rfl rfl rfl, h2.mv rfl rfl rfl rfl, ⟨⟨a, b, c, e, f⟩, hd2, hd⟩, ⟨rfl, rfl, by omega, u4, u5, fun j hj => by omega⟩, h5.mv rfl rfl rfl rfl rfl, h6.mv rfl rfl rfl rfl rfl rfl⟩
theorem q_back {F G : Nat → Nat → Int32} {n len dd um nx sk : Nat} (h : RLN F G n len dd um nx sk) (image : Int32) : (d_X5_back F image).1 = (d_X6_back G image).1 ∧ RX (d_X5_back F image).2 (d_X6_back G image).2 := by
  have h5 := h.2.2.2.2.1
  rw [d_X5_back, d_X6_back]
  by_cases c : d_X6_in image 0 1 = 0
  · rw [if_pos c]
    rw [d_X6_in] at c
    by_cases c1 : image < 0
    · rw [if_pos c1]; exact ⟨rfl, h.t0.x⟩
    · rw [if_neg c1] at c ⊢
      have c2 : ¬ image < 2 := fun q => by
        have : ¬ (1 : Int32) < image := fun z => by
          rw [Int32.lt_iff_toInt_lt] at q z
          have a1 : (2 : Int32).toInt = 2 := by decide
          have a2 : (1 : Int32).toInt = 1 := by decide
          omega
        rw [if_neg this] at c
        exact absurd c (by decide)
      rw [if_neg c2]; exact ⟨rfl, h.t0.x⟩
  · rw [if_neg c, b30]
    rcases in1_or c with rfl | rfl
    · rw [if_neg (by decide), if_pos (by decide), if_pos rfl, show (0 : Int32).toNatClampNeg = 0 by decide]
      obtain ⟨a1, a2⟩ := h5 0 (by omega)
      rw [← a1]
      by_cases z : F 28 0 = 0
      · rw [if_pos z, if_pos z]; exact ⟨rfl, h.t0.x⟩
      · rw [if_neg z, if_neg z]
        obtain ⟨b1, d, b2, b3⟩ := a2 z
        exact ⟨b1.1.symm, bk_rl (i := 0) h (by omega) b1 b2 b3⟩
    · rw [if_neg (by decide), if_pos (by decide), if_neg (by decide), show (1 : Int32).toNatClampNeg = 1 by decide]
      obtain ⟨a1, a2⟩ := h5 1 (by omega)
      rw [← a1]
      by_cases z : F 28 1 = 0
      · rw [if_pos z, if_pos z]; exact ⟨rfl, h.t0.x⟩
      · rw [if_neg z, if_neg z]
        obtain ⟨b1, d, b2, b3⟩ := a2 z
        exact ⟨b1.1.symm, bk_rl (i := 1) h (by omega) b1 b2 b3⟩
theorem q_rate {F G : Nat → Nat → Int32} {n len dd um nx sk : Nat} (h : RLN F G n len dd um nx sk) (tc : Int64) (kind t : Int32) : (d_X5_rate F tc kind t).1 = (d_X6_rate G tc kind t n).1 ∧ RX (d_X5_rate F tc kind t).2.1 (d_X6_rate G tc kind t n).2.1 ∧ (d_X5_rate F tc kind t).2.2 = (d_X6_rate G tc kind t n).2.2 := by
  have hh := h.hold t
  obtain ⟨⟨_, _, h7, _, _, _, ht, hd, he, hE, _, _, hT⟩, _, ⟨hst, hdd, h9⟩, _⟩ := id h
  have s0 : G 6 0 = F 11 4 := hst.1
  rw [d_X5_rate, d_X6_rate, hh]
  by_cases c : d_X6_in kind 0 5 = 0
  · rw [if_pos c]
    rw [d_X6_in] at c
    by_cases c1 : kind < 0
    · rw [if_pos c1]; exact ⟨rfl, h.t0.x, rfl⟩
    · rw [if_neg c1] at c ⊢
      have c2 : (6 : Int32) ≤ kind := by
        by_cases z : (5 : Int32) < kind
        · rw [Int32.lt_iff_toInt_lt] at z
          rw [Int32.le_iff_toInt_le]
          have a1 : (5 : Int32).toInt = 5 := by decide
          have a2 : (6 : Int32).toInt = 6 := by decide
          omega
        · rw [if_neg z] at c; exact absurd c (by decide)
      rw [if_pos c2]; exact ⟨rfl, h.t0.x, rfl⟩
  · rw [if_neg c]
    obtain ⟨j, hj, e⟩ := in_or (m := 5) c (by omega)
    have n1 : ¬ kind < 0 := by rw [e]; exact nI_pos (by omega)
    have n2 : ¬ (6 : Int32) ≤ kind := by rw [e]; exact nI_ge (b := 6) (by omega) (by omega)
    rw [if_neg n1, if_neg n2]
    by_cases c2 : d_X6_isThing t n = 0
    · rw [if_pos c2, if_pos c2]; exact ⟨rfl, h.t0.x, rfl⟩
    · rw [if_neg c2, if_neg c2]
      obtain ⟨e1, e2⟩ := isThing_ok (mn := fun _ => 0) c2 h7
      clear c n1 n2
      have hdt := hd _ e2
      have het := he _ e2
      have hb : d_J6_bitCount_0f7a4 (F 2 t.toNatClampNeg) = d_X6_ones (G 3 t.toNatClampNeg) := by
        obtain ⟨x, hx, ex⟩ := hT _ e2
        rw [ht _ e2, ex]; exact bc_ones x (by omega)
      have a11 : tc + 10 + 1 = tc + 11 := by rw [Int64.add_assoc]; rfl
      have a101 : tc + 100 + 1 = tc + 101 := by rw [Int64.add_assoc]; rfl
      have a1011 : tc + 1000 + 10 + 1 = tc + 1011 := by rw [Int64.add_assoc, Int64.add_assoc]; rfl
      have a10101 : tc + 10000 + 100 + 1 = tc + 10101 := by rw [Int64.add_assoc, Int64.add_assoc]; rfl
      have a100001 : tc + 100000 + 1 = tc + 100001 := by rw [Int64.add_assoc]; rfl
      rcases (show j = 0 ∨ j = 1 ∨ j = 2 ∨ j = 3 ∨ j = 4 ∨ j = 5 by omega) with rfl | rfl | rfl | rfl | rfl | rfl
      · have e : kind = 0 := e
        subst e
        rw [if_neg (by decide), if_neg (by decide), if_neg (by decide), if_neg (by decide), if_neg (by decide), if_pos rfl, jn_X6_rate_117, if_pos rfl]
        exact ⟨hdt, h.t0.x, rfl⟩
      · have e : kind = 1 := e
        subst e
        rw [if_pos (by decide), if_neg (by decide), if_pos rfl, jn_X6_rate_117, if_neg (by decide), if_pos rfl]
        refine ⟨?_, h.t0.x, a11⟩
        show F 3 _ + F 4 _ = _; rw [hdt, het]
      · have e : kind = 2 := e
        subst e
        rw [if_neg (by decide), if_pos (by decide), if_neg (by decide), if_neg (by decide), if_pos rfl, jn_X6_rate_117, if_neg (by decide), if_neg (by decide), if_pos rfl]
        refine ⟨?_, h.t0.x, a101⟩
        show F 3 _ - d_J6_bitCount_0f7a4 (F 2 _) = _; rw [hdt, hb]
      · have e : kind = 3 := e
        subst e
        rw [if_neg (by decide), if_neg (by decide), if_pos (by decide), if_neg (by decide), if_neg (by decide), if_neg (by decide), if_pos rfl, jn_X6_rate_117, if_neg (by decide), if_neg (by decide), if_neg (by decide), if_pos rfl]
        refine ⟨?_, h.t0.x, a1011⟩
        show 2 * (F 3 _ + F 4 _) = _; rw [hdt, het]
      · have e : kind = 4 := e
        subst e
        rw [if_neg (by decide), if_neg (by decide), if_neg (by decide), if_pos (by decide), if_neg (by decide), if_neg (by decide), if_neg (by decide), if_neg (by decide), if_pos rfl, jn_X6_rate_117, if_neg (by decide), if_neg (by decide), if_neg (by decide), if_neg (by decide), if_pos rfl]
        refine ⟨?_, h.t0.x, a10101⟩
        show F 3 _ - d_J6_bitCount_0f7a4 (F 2 _) + t = _; rw [hdt, hb]
      · have e : kind = 5 := e
        subst e
        rw [if_neg (by decide), if_neg (by decide), if_neg (by decide), if_neg (by decide), if_pos (by decide), if_neg (by decide), if_neg (by decide), if_neg (by decide), if_neg (by decide), if_neg (by decide), jn_X6_rate_117, if_neg (by decide), if_neg (by decide), if_neg (by decide), if_neg (by decide), if_neg (by decide)]
        refine ⟨?_, h.t0.x, a100001⟩
        show F 3 _ + F 11 4 = _; rw [hdt, s0]
