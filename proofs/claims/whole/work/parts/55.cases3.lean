theorem lc_16 {p : Program} {e : Env} {s : State} {m : MethodId} {below : List Frame} {meth : Method} {c : Code} (l : Launch) {b0 L : Nat} {xs : Nat → Int32} (C0 : lw_At p s m meth c b0 L xs) {D : va_G} {cI cC cZ cS : ClassId} (hE : EN D cI cC cZ cS s) {a b a2 : Nat → Nat} {F G : Nat → Nat → Int32} {tc : Int64} {H : Heap} {locs : List Loc} {i : Nat} {ls : Array Slot} (hi : i + 2 < L) (hL : L ≤ 192) (hs : LSt D cI cC cZ cS s H locs a b a2 F G tc) (hl : lv_has ls 4 [(0, .ref b0), (1, .ref (a 0)), (2, .ref (a2 0)), (3, .int (nI i))])
    (kb : ∀ (a' : Nat → Nat) (F' G' : Nat → Nat → Int32) (tc' : Int64) (H' : Heap) (locs' : List Loc), a' 0 = a 0 → LSt D cI cC cZ cS s H' locs' a' b a2 F' G' tc' → W p l e room_1 s m #[Value.ref b0] below meth c H' locs' 100 2000 (lw_Z below #[Value.ref b0] s) (F0 m 852 ls [])) : W p l e room_1 s m #[Value.ref b0] below meth c H locs 100 2000 (lw_Z below #[Value.ref b0] s) (F0 m 542 ls []) := by
  obtain ⟨hx, hb, hr, hml, hown, hts0, hX, hbl, hlocks, hgv⟩ := C0
  have hts : ∀ w ∈ wsL_law, w.before #[Value.ref b0] s = true := fun w h => hts0 w (wsL_law_in w h)
  have hbA : ¬ (fun q : Nat => s.heap.size ≤ q) b0 := Nat.not_le.mpr hbl
  obtain ⟨hP, hD, hS, n, len, dd, um, nx, sk, hR⟩ := hs
  have hK := hE.1
  refine lv_aload_n hx hb dL_law_542 rfl (lv_at hl 1 rfl) ?_
  obtain ⟨r5, hr5, hMr5⟩ : ∃ r : Int32, r = d_X5_span F n ∧ Met l yX5_span wsX5_span { frames := 2, cells := 0, slots := 0, locals := 45 } (PcE D cI cC cZ cS [.ref (a 0)] (wF cI cC cZ cS a b F tc)) (QcR (some (.int r))) 0 0 (fun _ => False) := ⟨_, rfl, c_X5_span l D cI cC cZ cS a b F tc n hR.1.1 hR.1.2.2.1⟩
  refine lcR (W.runV (As := []) (rest := []) ⟨hx, hb, hml, hown, hts⟩ hMr5 (cwV 0 hts gL_law_X5_span rfl rfl rfl (by decide +kernel) ⟨Nat.le_of_ble_eq_true rfl, Nat.le_of_ble_eq_true rfl⟩) (preV_of (LPF hP) (LDF hD) hE (va_recv hK (LPF hP) (ci := 5) (q0 := 0) rfl rfl)) rfl rfl hl.1 rfl (lv_room (Nat.le_of_ble_eq_true rfl)) dL_law_543 ⟨Nat.le_of_ble_eq_true rfl, Nat.le_of_ble_eq_true rfl⟩) ?_
  refine lv_aload_n hx hb dL_law_546 rfl (lv_at hl 2 rfl) ?_
  obtain ⟨r6, hr6, hMr6⟩ : ∃ r : Int32 × (Nat → Nat → Int32), r = d_X6_span G n ∧ Met l yX6_span wsX6_span { frames := 2, cells := 0, slots := 0, locals := 45 } (PcE D cI cC cZ cS [.ref (a2 0)] (wM cI cC cZ cS a2 G tc)) (QcM (some (.int r.1)) D (wM cI cC cZ cS a2 G tc) (wM cI cC cZ cS a2 r.2 tc)) 0 0 (inW (wM cI cC cZ cS a2 G tc)) := ⟨_, rfl, c_X6_span l D cI cC cZ cS a2 G tc n hR.1.2.1 hR.1.2.2.1⟩
  refine lcM (W.runV (As := []) (rest := [.int r5]) ⟨hx, hb, hml, hown, hts⟩ hMr6 (cwV 0 hts gL_law_X6_span rfl rfl rfl (by decide +kernel) ⟨Nat.le_of_ble_eq_true rfl, Nat.le_of_ble_eq_true rfl⟩) (preV_of (LPM hP) (LDM hD) hE (va_recv hK (LPM hP) (ci := 6) (q0 := 0) rfl rfl)) rfl rfl hl.1 rfl (lv_room (Nat.le_of_ble_eq_true rfl)) dL_law_547 ⟨Nat.le_of_ble_eq_true rfl, Nat.le_of_ble_eq_true rfl⟩) hP hD hS (fun H locs hP hD hS => ?_)
  obtain ⟨q1, q2⟩ := q_span hR 
  rw [← hr5, ← hr6] at q1
  rw [← hr6] at q2
  refine lv_icmp_eq (tgt := 852) hx hb dL_law_550 (by decide) (fun _ => ?_) (fun c_ => ?_)
  · exact kb a F r6.2 tc H locs rfl ⟨hP, hD, hS, q2.x⟩
  · exact absurd q1 c_
theorem lc_17 {p : Program} {e : Env} {s : State} {m : MethodId} {below : List Frame} {meth : Method} {c : Code} (l : Launch) {b0 L : Nat} {xs : Nat → Int32} (C0 : lw_At p s m meth c b0 L xs) {D : va_G} {cI cC cZ cS : ClassId} (hE : EN D cI cC cZ cS s) {a b a2 : Nat → Nat} {F G : Nat → Nat → Int32} {tc : Int64} {H : Heap} {locs : List Loc} {i : Nat} {ls : Array Slot} (hi : i + 2 < L) (hL : L ≤ 192) (hs : LSt D cI cC cZ cS s H locs a b a2 F G tc) (hl : lv_has ls 4 [(0, .ref b0), (1, .ref (a 0)), (2, .ref (a2 0)), (3, .int (nI i))])
    (kb : ∀ (a' : Nat → Nat) (F' G' : Nat → Nat → Int32) (tc' : Int64) (H' : Heap) (locs' : List Loc), a' 0 = a 0 → LSt D cI cC cZ cS s H' locs' a' b a2 F' G' tc' → W p l e room_1 s m #[Value.ref b0] below meth c H' locs' 100 2000 (lw_Z below #[Value.ref b0] s) (F0 m 852 ls [])) : W p l e room_1 s m #[Value.ref b0] below meth c H locs 100 2000 (lw_Z below #[Value.ref b0] s) (F0 m 555 ls []) := by
  obtain ⟨hx, hb, hr, hml, hown, hts0, hX, hbl, hlocks, hgv⟩ := C0
  have hts : ∀ w ∈ wsL_law, w.before #[Value.ref b0] s = true := fun w h => hts0 w (wsL_law_in w h)
  have hbA : ¬ (fun q : Nat => s.heap.size ≤ q) b0 := Nat.not_le.mpr hbl
  obtain ⟨hP, hD, hS, n, len, dd, um, nx, sk, hR⟩ := hs
  have hK := hE.1
  refine lv_aload_n hx hb dL_law_555 rfl (lv_at hl 1 rfl) ?_
  refine lv_aload_n hx hb dL_law_556 rfl (lv_at hl 0 rfl) ?_
  refine lv_iload_n hx hb dL_law_557 rfl (lv_at hl 3 rfl) ?_
  refine lv_iconst (v := 1) hx hb dL_law_558 (by decide) ?_
  refine lv_iadd hx hb dL_law_559 ?_
  refine m_sld hx hb hX hbl hbA hS (i + 1) (nI_1 i) (by omega) (by omega) dL_law_560 ?_
  refine lv_aload_n hx hb dL_law_561 rfl (lv_at hl 0 rfl) ?_
  refine lv_iload_n hx hb dL_law_562 rfl (lv_at hl 3 rfl) ?_
  refine lv_iconst (v := 2) hx hb dL_law_563 (by decide) ?_
  refine lv_iadd hx hb dL_law_564 ?_
  refine m_sld hx hb hX hbl hbA hS (i + 2) (nI_2 i) (by omega) (by omega) dL_law_565 ?_
  obtain ⟨r5, hr5, hMr5⟩ : ∃ r : Int32, r = d_X5_shut F (xs (i + 1)) (xs (i + 2)) n ∧ Met l yX5_shut wsX5_shut { frames := 5, cells := 0, slots := 0, locals := 118 } (PcE D cI cC cZ cS [.ref (a 0), .int (xs (i + 1)), .int (xs (i + 2))] (wF cI cC cZ cS a b F tc)) (QcR (some (.int r))) 0 0 (fun _ => False) := ⟨_, rfl, c_X5_shut l D cI cC cZ cS a b F tc (xs (i + 1)) (xs (i + 2)) n hR.1.1 hR.1.2.2.1⟩
  refine lcR (W.runV (As := [.int (xs (i + 1)), .int (xs (i + 2))]) (rest := []) ⟨hx, hb, hml, hown, hts⟩ hMr5 (cwV 2 hts gL_law_X5_shut rfl rfl rfl (by decide +kernel) ⟨Nat.le_of_ble_eq_true rfl, Nat.le_of_ble_eq_true rfl⟩) (preV_of (LPF hP) (LDF hD) hE (va_recv hK (LPF hP) (ci := 5) (q0 := 0) rfl rfl)) rfl rfl hl.1 rfl (lv_room (Nat.le_of_ble_eq_true rfl)) dL_law_566 ⟨Nat.le_of_ble_eq_true rfl, Nat.le_of_ble_eq_true rfl⟩) ?_
  refine lv_aload_n hx hb dL_law_569 rfl (lv_at hl 2 rfl) ?_
  refine lv_aload_n hx hb dL_law_570 rfl (lv_at hl 0 rfl) ?_
  refine lv_iload_n hx hb dL_law_571 rfl (lv_at hl 3 rfl) ?_
  refine lv_iconst (v := 1) hx hb dL_law_572 (by decide) ?_
  refine lv_iadd hx hb dL_law_573 ?_
  refine m_sld hx hb hX hbl hbA hS (i + 1) (nI_1 i) (by omega) (by omega) dL_law_574 ?_
  refine lv_aload_n hx hb dL_law_575 rfl (lv_at hl 0 rfl) ?_
  refine lv_iload_n hx hb dL_law_576 rfl (lv_at hl 3 rfl) ?_
  refine lv_iconst (v := 2) hx hb dL_law_577 (by decide) ?_
  refine lv_iadd hx hb dL_law_578 ?_
  refine m_sld hx hb hX hbl hbA hS (i + 2) (nI_2 i) (by omega) (by omega) dL_law_579 ?_
  obtain ⟨r6, hr6, hMr6⟩ : ∃ r : Int32 × (Nat → Nat → Int32), r = d_X6_shut G (xs (i + 1)) (xs (i + 2)) n ∧ Met l yX6_shut wsX6_shut { frames := 4, cells := 0, slots := 0, locals := 89 } (PcE D cI cC cZ cS [.ref (a2 0), .int (xs (i + 1)), .int (xs (i + 2))] (wM cI cC cZ cS a2 G tc)) (QcM (some (.int r.1)) D (wM cI cC cZ cS a2 G tc) (wM cI cC cZ cS a2 r.2 tc)) 0 0 (inW (wM cI cC cZ cS a2 G tc)) := ⟨_, rfl, c_X6_shut l D cI cC cZ cS a2 G tc (xs (i + 1)) (xs (i + 2)) n hR.1.2.1 hR.1.2.2.1 hR.1.2.2.2.2.2.2.2.2.2.1 hR.1.2.2.2.2.2.2.2.2.2.2.1⟩
  refine lcM (W.runV (As := [.int (xs (i + 1)), .int (xs (i + 2))]) (rest := [.int r5]) ⟨hx, hb, hml, hown, hts⟩ hMr6 (cwV 2 hts gL_law_X6_shut rfl rfl rfl (by decide +kernel) ⟨Nat.le_of_ble_eq_true rfl, Nat.le_of_ble_eq_true rfl⟩) (preV_of (LPM hP) (LDM hD) hE (va_recv hK (LPM hP) (ci := 6) (q0 := 0) rfl rfl)) rfl rfl hl.1 rfl (lv_room (Nat.le_of_ble_eq_true rfl)) dL_law_580 ⟨Nat.le_of_ble_eq_true rfl, Nat.le_of_ble_eq_true rfl⟩) hP hD hS (fun H locs hP hD hS => ?_)
  obtain ⟨q1, q2⟩ := q_shut hR (xs (i + 1)) (xs (i + 2))
  rw [← hr5, ← hr6] at q1
  rw [← hr6] at q2
  refine lv_icmp_eq (tgt := 852) hx hb dL_law_583 (by decide) (fun _ => ?_) (fun c_ => ?_)
  · exact kb a F r6.2 tc H locs rfl ⟨hP, hD, hS, q2.x⟩
  · exact absurd q1 c_
theorem lc_18 {p : Program} {e : Env} {s : State} {m : MethodId} {below : List Frame} {meth : Method} {c : Code} (l : Launch) {b0 L : Nat} {xs : Nat → Int32} (C0 : lw_At p s m meth c b0 L xs) {D : va_G} {cI cC cZ cS : ClassId} (hE : EN D cI cC cZ cS s) {a b a2 : Nat → Nat} {F G : Nat → Nat → Int32} {tc : Int64} {H : Heap} {locs : List Loc} {i : Nat} {ls : Array Slot} (hi : i + 2 < L) (hL : L ≤ 192) (hs : LSt D cI cC cZ cS s H locs a b a2 F G tc) (hl : lv_has ls 4 [(0, .ref b0), (1, .ref (a 0)), (2, .ref (a2 0)), (3, .int (nI i))])
    (kb : ∀ (a' : Nat → Nat) (F' G' : Nat → Nat → Int32) (tc' : Int64) (H' : Heap) (locs' : List Loc), a' 0 = a 0 → LSt D cI cC cZ cS s H' locs' a' b a2 F' G' tc' → W p l e room_1 s m #[Value.ref b0] below meth c H' locs' 100 2000 (lw_Z below #[Value.ref b0] s) (F0 m 852 ls [])) : W p l e room_1 s m #[Value.ref b0] below meth c H locs 100 2000 (lw_Z below #[Value.ref b0] s) (F0 m 588 ls []) := by
  obtain ⟨hx, hb, hr, hml, hown, hts0, hX, hbl, hlocks, hgv⟩ := C0
  have hts : ∀ w ∈ wsL_law, w.before #[Value.ref b0] s = true := fun w h => hts0 w (wsL_law_in w h)
  have hbA : ¬ (fun q : Nat => s.heap.size ≤ q) b0 := Nat.not_le.mpr hbl
  obtain ⟨hP, hD, hS, n, len, dd, um, nx, sk, hR⟩ := hs
  have hK := hE.1
  refine lv_aload_n hx hb dL_law_588 rfl (lv_at hl 1 rfl) ?_
  obtain ⟨r5, hr5, hMr5⟩ : ∃ r : Int32, r = d_X5_tell F n ∧ Met l yX5_tell wsX5_tell { frames := 4, cells := 0, slots := 0, locals := 88 } (PcE D cI cC cZ cS [.ref (a 0)] (wF cI cC cZ cS a b F tc)) (QcR (some (.int r))) 0 0 (fun _ => False) := ⟨_, rfl, c_X5_tell l D cI cC cZ cS a b F tc n hR.1.1 hR.1.2.2.1⟩
  refine lcR (W.runV (As := []) (rest := []) ⟨hx, hb, hml, hown, hts⟩ hMr5 (cwV 0 hts gL_law_X5_tell rfl rfl rfl (by decide +kernel) ⟨Nat.le_of_ble_eq_true rfl, Nat.le_of_ble_eq_true rfl⟩) (preV_of (LPF hP) (LDF hD) hE (va_recv hK (LPF hP) (ci := 5) (q0 := 0) rfl rfl)) rfl rfl hl.1 rfl (lv_room (Nat.le_of_ble_eq_true rfl)) dL_law_589 ⟨Nat.le_of_ble_eq_true rfl, Nat.le_of_ble_eq_true rfl⟩) ?_
  refine lv_aload_n hx hb dL_law_592 rfl (lv_at hl 2 rfl) ?_
  obtain ⟨r6, hr6, hMr6⟩ : ∃ r : Int32 × (Nat → Nat → Int32), r = d_X6_tell G n ∧ Met l yX6_tell wsX6_tell { frames := 4, cells := 0, slots := 0, locals := 89 } (PcE D cI cC cZ cS [.ref (a2 0)] (wM cI cC cZ cS a2 G tc)) (QcM (some (.int r.1)) D (wM cI cC cZ cS a2 G tc) (wM cI cC cZ cS a2 r.2 tc)) 0 0 (inW (wM cI cC cZ cS a2 G tc)) := ⟨_, rfl, c_X6_tell l D cI cC cZ cS a2 G tc n hR.1.2.1 hR.1.2.2.1 hR.1.2.2.2.2.2.2.2.2.2.1 hR.1.2.2.2.2.2.2.2.2.2.2.1⟩
  refine lcM (W.runV (As := []) (rest := [.int r5]) ⟨hx, hb, hml, hown, hts⟩ hMr6 (cwV 0 hts gL_law_X6_tell rfl rfl rfl (by decide +kernel) ⟨Nat.le_of_ble_eq_true rfl, Nat.le_of_ble_eq_true rfl⟩) (preV_of (LPM hP) (LDM hD) hE (va_recv hK (LPM hP) (ci := 6) (q0 := 0) rfl rfl)) rfl rfl hl.1 rfl (lv_room (Nat.le_of_ble_eq_true rfl)) dL_law_593 ⟨Nat.le_of_ble_eq_true rfl, Nat.le_of_ble_eq_true rfl⟩) hP hD hS (fun H locs hP hD hS => ?_)
  obtain ⟨q1, q2⟩ := q_tell hR 
  rw [← hr5, ← hr6] at q1
  rw [← hr6] at q2
  refine lv_icmp_eq (tgt := 852) hx hb dL_law_596 (by decide) (fun _ => ?_) (fun c_ => ?_)
  · exact kb a F r6.2 tc H locs rfl ⟨hP, hD, hS, q2.x⟩
  · exact absurd q1 c_
theorem lc_19 {p : Program} {e : Env} {s : State} {m : MethodId} {below : List Frame} {meth : Method} {c : Code} (l : Launch) {b0 L : Nat} {xs : Nat → Int32} (C0 : lw_At p s m meth c b0 L xs) {D : va_G} {cI cC cZ cS : ClassId} (hE : EN D cI cC cZ cS s) {a b a2 : Nat → Nat} {F G : Nat → Nat → Int32} {tc : Int64} {H : Heap} {locs : List Loc} {i : Nat} {ls : Array Slot} (hi : i + 2 < L) (hL : L ≤ 192) (hs : LSt D cI cC cZ cS s H locs a b a2 F G tc) (hl : lv_has ls 4 [(0, .ref b0), (1, .ref (a 0)), (2, .ref (a2 0)), (3, .int (nI i))])
    (kb : ∀ (a' : Nat → Nat) (F' G' : Nat → Nat → Int32) (tc' : Int64) (H' : Heap) (locs' : List Loc), a' 0 = a 0 → LSt D cI cC cZ cS s H' locs' a' b a2 F' G' tc' → W p l e room_1 s m #[Value.ref b0] below meth c H' locs' 100 2000 (lw_Z below #[Value.ref b0] s) (F0 m 852 ls [])) : W p l e room_1 s m #[Value.ref b0] below meth c H locs 100 2000 (lw_Z below #[Value.ref b0] s) (F0 m 601 ls []) := by
  obtain ⟨hx, hb, hr, hml, hown, hts0, hX, hbl, hlocks, hgv⟩ := C0
  have hts : ∀ w ∈ wsL_law, w.before #[Value.ref b0] s = true := fun w h => hts0 w (wsL_law_in w h)
  have hbA : ¬ (fun q : Nat => s.heap.size ≤ q) b0 := Nat.not_le.mpr hbl
  obtain ⟨hP, hD, hS, n, len, dd, um, nx, sk, hR⟩ := hs
  have hK := hE.1
  refine lv_aload_n hx hb dL_law_601 rfl (lv_at hl 1 rfl) ?_
  refine lv_aload_n hx hb dL_law_602 rfl (lv_at hl 0 rfl) ?_
  refine lv_iload_n hx hb dL_law_603 rfl (lv_at hl 3 rfl) ?_
  refine lv_iconst (v := 1) hx hb dL_law_604 (by decide) ?_
  refine lv_iadd hx hb dL_law_605 ?_
  refine m_sld hx hb hX hbl hbA hS (i + 1) (nI_1 i) (by omega) (by omega) dL_law_606 ?_
  refine lv_aload_n hx hb dL_law_607 rfl (lv_at hl 0 rfl) ?_
  refine lv_iload_n hx hb dL_law_608 rfl (lv_at hl 3 rfl) ?_
  refine lv_iconst (v := 2) hx hb dL_law_609 (by decide) ?_
  refine lv_iadd hx hb dL_law_610 ?_
  refine m_sld hx hb hX hbl hbA hS (i + 2) (nI_2 i) (by omega) (by omega) dL_law_611 ?_
  obtain ⟨r5, hr5, hMr5⟩ : ∃ r : Int32 × (Nat → Nat → Int32), r = d_X5_saw F (xs (i + 1)) (xs (i + 2)) sk ∧ Met l yX5_saw wsX5_saw { frames := 1, cells := 0, slots := 0, locals := 22 } (PcE D cI cC cZ cS [.ref (a 0), .int (xs (i + 1)), .int (xs (i + 2))] (wF cI cC cZ cS a b F tc)) (QcM (some (.int r.1)) D (wF cI cC cZ cS a b F tc) (wF cI cC cZ cS a b r.2 tc)) 0 0 (inW (wF cI cC cZ cS a b F tc)) := ⟨_, rfl, c_X5_saw l D cI cC cZ cS a b F tc (xs (i + 1)) (xs (i + 2)) n sk hR.1.1 hR.1.2.2.1 hR.2.2.2.2.2.1 hR.2.2.2.2.2.2.2.1⟩
  refine lcF (W.runV (As := [.int (xs (i + 1)), .int (xs (i + 2))]) (rest := []) ⟨hx, hb, hml, hown, hts⟩ hMr5 (cwV 2 hts gL_law_X5_saw rfl rfl rfl (by decide +kernel) ⟨Nat.le_of_ble_eq_true rfl, Nat.le_of_ble_eq_true rfl⟩) (preV_of (LPF hP) (LDF hD) hE (va_recv hK (LPF hP) (ci := 5) (q0 := 0) rfl rfl)) rfl rfl hl.1 rfl (lv_room (Nat.le_of_ble_eq_true rfl)) dL_law_612 ⟨Nat.le_of_ble_eq_true rfl, Nat.le_of_ble_eq_true rfl⟩) hP hD hS (fun H locs hP hD hS => ?_)
  refine lv_aload_n hx hb dL_law_615 rfl (lv_at hl 2 rfl) ?_
  refine lv_aload_n hx hb dL_law_616 rfl (lv_at hl 0 rfl) ?_
  refine lv_iload_n hx hb dL_law_617 rfl (lv_at hl 3 rfl) ?_
  refine lv_iconst (v := 1) hx hb dL_law_618 (by decide) ?_
  refine lv_iadd hx hb dL_law_619 ?_
  refine m_sld hx hb hX hbl hbA hS (i + 1) (nI_1 i) (by omega) (by omega) dL_law_620 ?_
  refine lv_aload_n hx hb dL_law_621 rfl (lv_at hl 0 rfl) ?_
  refine lv_iload_n hx hb dL_law_622 rfl (lv_at hl 3 rfl) ?_
  refine lv_iconst (v := 2) hx hb dL_law_623 (by decide) ?_
  refine lv_iadd hx hb dL_law_624 ?_
  refine m_sld hx hb hX hbl hbA hS (i + 2) (nI_2 i) (by omega) (by omega) dL_law_625 ?_
  obtain ⟨r6, hr6, hMr6⟩ : ∃ r : Int32 × (Nat → Nat → Int32), r = d_X6_saw G (xs (i + 1)) (xs (i + 2)) n sk ∧ Met l yX6_saw wsX6_saw { frames := 2, cells := 0, slots := 0, locals := 43 } (PcE D cI cC cZ cS [.ref (a2 0), .int (xs (i + 1)), .int (xs (i + 2))] (wM cI cC cZ cS a2 G tc)) (QcM (some (.int r.1)) D (wM cI cC cZ cS a2 G tc) (wM cI cC cZ cS a2 r.2 tc)) 0 0 (inW (wM cI cC cZ cS a2 G tc)) := ⟨_, rfl, c_X6_saw l D cI cC cZ cS a2 G tc (xs (i + 1)) (xs (i + 2)) n sk hR.1.2.1 hR.1.2.2.1 hR.2.2.2.2.2.2.1 hR.2.2.2.2.2.2.2.1⟩
  refine lcM (W.runV (As := [.int (xs (i + 1)), .int (xs (i + 2))]) (rest := [.int r5.1]) ⟨hx, hb, hml, hown, hts⟩ hMr6 (cwV 2 hts gL_law_X6_saw rfl rfl rfl (by decide +kernel) ⟨Nat.le_of_ble_eq_true rfl, Nat.le_of_ble_eq_true rfl⟩) (preV_of (LPM hP) (LDM hD) hE (va_recv hK (LPM hP) (ci := 6) (q0 := 0) rfl rfl)) rfl rfl hl.1 rfl (lv_room (Nat.le_of_ble_eq_true rfl)) dL_law_626 ⟨Nat.le_of_ble_eq_true rfl, Nat.le_of_ble_eq_true rfl⟩) hP hD hS (fun H locs hP hD hS => ?_)
  obtain ⟨q1, q2⟩ := q_saw hR (xs (i + 1)) (xs (i + 2))
  rw [← hr5, ← hr6] at q1
  rw [← hr5, ← hr6] at q2
  refine lv_icmp_eq (tgt := 852) hx hb dL_law_629 (by decide) (fun _ => ?_) (fun c_ => ?_)
  · exact kb a r5.2 r6.2 tc H locs rfl ⟨hP, hD, hS, q2⟩
  · exact absurd q1 c_
theorem lc_20 {p : Program} {e : Env} {s : State} {m : MethodId} {below : List Frame} {meth : Method} {c : Code} (l : Launch) {b0 L : Nat} {xs : Nat → Int32} (C0 : lw_At p s m meth c b0 L xs) {D : va_G} {cI cC cZ cS : ClassId} (hE : EN D cI cC cZ cS s) {a b a2 : Nat → Nat} {F G : Nat → Nat → Int32} {tc : Int64} {H : Heap} {locs : List Loc} {i : Nat} {ls : Array Slot} (hi : i + 2 < L) (hL : L ≤ 192) (hs : LSt D cI cC cZ cS s H locs a b a2 F G tc) (hl : lv_has ls 4 [(0, .ref b0), (1, .ref (a 0)), (2, .ref (a2 0)), (3, .int (nI i))])
    (kb : ∀ (a' : Nat → Nat) (F' G' : Nat → Nat → Int32) (tc' : Int64) (H' : Heap) (locs' : List Loc), a' 0 = a 0 → LSt D cI cC cZ cS s H' locs' a' b a2 F' G' tc' → W p l e room_1 s m #[Value.ref b0] below meth c H' locs' 100 2000 (lw_Z below #[Value.ref b0] s) (F0 m 852 ls [])) : W p l e room_1 s m #[Value.ref b0] below meth c H locs 100 2000 (lw_Z below #[Value.ref b0] s) (F0 m 634 ls []) := by
  obtain ⟨hx, hb, hr, hml, hown, hts0, hX, hbl, hlocks, hgv⟩ := C0
  have hts : ∀ w ∈ wsL_law, w.before #[Value.ref b0] s = true := fun w h => hts0 w (wsL_law_in w h)
  have hbA : ¬ (fun q : Nat => s.heap.size ≤ q) b0 := Nat.not_le.mpr hbl
  obtain ⟨hP, hD, hS, n, len, dd, um, nx, sk, hR⟩ := hs
  have hK := hE.1
  refine lv_aload_n hx hb dL_law_634 rfl (lv_at hl 1 rfl) ?_
  obtain ⟨r5, hr5, hMr5⟩ : ∃ r : Int32 × (Nat → Nat → Int32), r = d_X5_forget F ∧ Met l yX5_forget wsX5_forget { frames := 0, cells := 0, slots := 0, locals := 0 } (PcE D cI cC cZ cS [.ref (a 0)] (wF cI cC cZ cS a b F tc)) (QcM (some (.int r.1)) D (wF cI cC cZ cS a b F tc) (wF cI cC cZ cS a b r.2 tc)) 0 0 (inW (wF cI cC cZ cS a b F tc)) := ⟨_, rfl, c_X5_forget l D cI cC cZ cS a b F tc⟩
  refine lcF (W.runV (As := []) (rest := []) ⟨hx, hb, hml, hown, hts⟩ hMr5 (cwV 0 hts gL_law_X5_forget rfl rfl rfl (by decide +kernel) ⟨Nat.le_of_ble_eq_true rfl, Nat.le_of_ble_eq_true rfl⟩) (preV_of (LPF hP) (LDF hD) hE (va_recv hK (LPF hP) (ci := 5) (q0 := 0) rfl rfl)) rfl rfl hl.1 rfl (lv_room (Nat.le_of_ble_eq_true rfl)) dL_law_635 ⟨Nat.le_of_ble_eq_true rfl, Nat.le_of_ble_eq_true rfl⟩) hP hD hS (fun H locs hP hD hS => ?_)
  refine lv_aload_n hx hb dL_law_638 rfl (lv_at hl 2 rfl) ?_
  obtain ⟨r6, hr6, hMr6⟩ : ∃ r : Int32 × (Nat → Nat → Int32), r = d_X6_forget G ∧ Met l yX6_forget wsX6_forget { frames := 0, cells := 0, slots := 0, locals := 0 } (PcE D cI cC cZ cS [.ref (a2 0)] (wM cI cC cZ cS a2 G tc)) (QcM (some (.int r.1)) D (wM cI cC cZ cS a2 G tc) (wM cI cC cZ cS a2 r.2 tc)) 0 0 (inW (wM cI cC cZ cS a2 G tc)) := ⟨_, rfl, c_X6_forget l D cI cC cZ cS a2 G tc⟩
  refine lcM (W.runV (As := []) (rest := [.int r5.1]) ⟨hx, hb, hml, hown, hts⟩ hMr6 (cwV 0 hts gL_law_X6_forget rfl rfl rfl (by decide +kernel) ⟨Nat.le_of_ble_eq_true rfl, Nat.le_of_ble_eq_true rfl⟩) (preV_of (LPM hP) (LDM hD) hE (va_recv hK (LPM hP) (ci := 6) (q0 := 0) rfl rfl)) rfl rfl hl.1 rfl (lv_room (Nat.le_of_ble_eq_true rfl)) dL_law_639 ⟨Nat.le_of_ble_eq_true rfl, Nat.le_of_ble_eq_true rfl⟩) hP hD hS (fun H locs hP hD hS => ?_)
  obtain ⟨q1, q2⟩ := q_forget hR 
  rw [← hr5, ← hr6] at q1
  rw [← hr5, ← hr6] at q2
  refine lv_icmp_eq (tgt := 852) hx hb dL_law_642 (by decide) (fun _ => ?_) (fun c_ => ?_)
  · exact kb a r5.2 r6.2 tc H locs rfl ⟨hP, hD, hS, q2⟩
  · exact absurd q1 c_
theorem lc_21 {p : Program} {e : Env} {s : State} {m : MethodId} {below : List Frame} {meth : Method} {c : Code} (l : Launch) {b0 L : Nat} {xs : Nat → Int32} (C0 : lw_At p s m meth c b0 L xs) {D : va_G} {cI cC cZ cS : ClassId} (hE : EN D cI cC cZ cS s) {a b a2 : Nat → Nat} {F G : Nat → Nat → Int32} {tc : Int64} {H : Heap} {locs : List Loc} {i : Nat} {ls : Array Slot} (hi : i + 2 < L) (hL : L ≤ 192) (hs : LSt D cI cC cZ cS s H locs a b a2 F G tc) (hl : lv_has ls 4 [(0, .ref b0), (1, .ref (a 0)), (2, .ref (a2 0)), (3, .int (nI i))])
    (kb : ∀ (a' : Nat → Nat) (F' G' : Nat → Nat → Int32) (tc' : Int64) (H' : Heap) (locs' : List Loc), a' 0 = a 0 → LSt D cI cC cZ cS s H' locs' a' b a2 F' G' tc' → W p l e room_1 s m #[Value.ref b0] below meth c H' locs' 100 2000 (lw_Z below #[Value.ref b0] s) (F0 m 852 ls [])) : W p l e room_1 s m #[Value.ref b0] below meth c H locs 100 2000 (lw_Z below #[Value.ref b0] s) (F0 m 647 ls []) := by
  obtain ⟨hx, hb, hr, hml, hown, hts0, hX, hbl, hlocks, hgv⟩ := C0
  have hts : ∀ w ∈ wsL_law, w.before #[Value.ref b0] s = true := fun w h => hts0 w (wsL_law_in w h)
  have hbA : ¬ (fun q : Nat => s.heap.size ≤ q) b0 := Nat.not_le.mpr hbl
  obtain ⟨hP, hD, hS, n, len, dd, um, nx, sk, hR⟩ := hs
  have hK := hE.1
  refine lv_aload_n hx hb dL_law_647 rfl (lv_at hl 1 rfl) ?_
  refine lv_aload_n hx hb dL_law_648 rfl (lv_at hl 0 rfl) ?_
  refine lv_iload_n hx hb dL_law_649 rfl (lv_at hl 3 rfl) ?_
  refine lv_iconst (v := 1) hx hb dL_law_650 (by decide) ?_
  refine lv_iadd hx hb dL_law_651 ?_
  refine m_sld hx hb hX hbl hbA hS (i + 1) (nI_1 i) (by omega) (by omega) dL_law_652 ?_
  obtain ⟨r5, hr5, hMr5⟩ : ∃ r : Int32, r = d_X5_fit F (xs (i + 1)) n sk ∧ Met l yX5_fit wsX5_fit { frames := 2, cells := 0, slots := 0, locals := 43 } (PcE D cI cC cZ cS [.ref (a 0), .int (xs (i + 1))] (wF cI cC cZ cS a b F tc)) (QcR (some (.int r))) 0 0 (fun _ => False) := ⟨_, rfl, c_X5_fit l D cI cC cZ cS a b F tc (xs (i + 1)) n sk hR.1.1 hR.1.2.2.1 hR.2.2.2.2.2.1 hR.2.2.2.2.2.2.2.1⟩
  refine lcR (W.runV (As := [.int (xs (i + 1))]) (rest := []) ⟨hx, hb, hml, hown, hts⟩ hMr5 (cwV 1 hts gL_law_X5_fit rfl rfl rfl (by decide +kernel) ⟨Nat.le_of_ble_eq_true rfl, Nat.le_of_ble_eq_true rfl⟩) (preV_of (LPF hP) (LDF hD) hE (va_recv hK (LPF hP) (ci := 5) (q0 := 0) rfl rfl)) rfl rfl hl.1 rfl (lv_room (Nat.le_of_ble_eq_true rfl)) dL_law_653 ⟨Nat.le_of_ble_eq_true rfl, Nat.le_of_ble_eq_true rfl⟩) ?_
  refine lv_aload_n hx hb dL_law_656 rfl (lv_at hl 2 rfl) ?_
  refine lv_aload_n hx hb dL_law_657 rfl (lv_at hl 0 rfl) ?_
  refine lv_iload_n hx hb dL_law_658 rfl (lv_at hl 3 rfl) ?_
  refine lv_iconst (v := 1) hx hb dL_law_659 (by decide) ?_
  refine lv_iadd hx hb dL_law_660 ?_
  refine m_sld hx hb hX hbl hbA hS (i + 1) (nI_1 i) (by omega) (by omega) dL_law_661 ?_
  obtain ⟨r6, hr6, hMr6⟩ : ∃ r : Int32 × (Nat → Nat → Int32), r = d_X6_fit G (xs (i + 1)) sk ∧ Met l yX6_fit wsX6_fit { frames := 1, cells := 0, slots := 0, locals := 22 } (PcE D cI cC cZ cS [.ref (a2 0), .int (xs (i + 1))] (wM cI cC cZ cS a2 G tc)) (QcM (some (.int r.1)) D (wM cI cC cZ cS a2 G tc) (wM cI cC cZ cS a2 r.2 tc)) 0 0 (inW (wM cI cC cZ cS a2 G tc)) := ⟨_, rfl, c_X6_fit l D cI cC cZ cS a2 G tc (xs (i + 1)) n sk hR.1.2.1 hR.1.2.2.1 hR.2.2.2.2.2.2.1 hR.2.2.2.2.2.2.2.1 (so_ok hR)⟩
  refine lcM (W.runV (As := [.int (xs (i + 1))]) (rest := [.int r5]) ⟨hx, hb, hml, hown, hts⟩ hMr6 (cwV 1 hts gL_law_X6_fit rfl rfl rfl (by decide +kernel) ⟨Nat.le_of_ble_eq_true rfl, Nat.le_of_ble_eq_true rfl⟩) (preV_of (LPM hP) (LDM hD) hE (va_recv hK (LPM hP) (ci := 6) (q0 := 0) rfl rfl)) rfl rfl hl.1 rfl (lv_room (Nat.le_of_ble_eq_true rfl)) dL_law_662 ⟨Nat.le_of_ble_eq_true rfl, Nat.le_of_ble_eq_true rfl⟩) hP hD hS (fun H locs hP hD hS => ?_)
  obtain ⟨q1, q2⟩ := q_fit hR (xs (i + 1))
  rw [← hr5, ← hr6] at q1
  rw [← hr6] at q2
  refine lv_icmp_eq (tgt := 852) hx hb dL_law_665 (by decide) (fun _ => ?_) (fun c_ => ?_)
  · exact kb a F r6.2 tc H locs rfl ⟨hP, hD, hS, q2.x⟩
  · exact absurd q1 c_
theorem lc_22 {p : Program} {e : Env} {s : State} {m : MethodId} {below : List Frame} {meth : Method} {c : Code} (l : Launch) {b0 L : Nat} {xs : Nat → Int32} (C0 : lw_At p s m meth c b0 L xs) {D : va_G} {cI cC cZ cS : ClassId} (hE : EN D cI cC cZ cS s) {a b a2 : Nat → Nat} {F G : Nat → Nat → Int32} {tc : Int64} {H : Heap} {locs : List Loc} {i : Nat} {ls : Array Slot} (hi : i + 2 < L) (hL : L ≤ 192) (hs : LSt D cI cC cZ cS s H locs a b a2 F G tc) (hl : lv_has ls 4 [(0, .ref b0), (1, .ref (a 0)), (2, .ref (a2 0)), (3, .int (nI i))])
    (kb : ∀ (a' : Nat → Nat) (F' G' : Nat → Nat → Int32) (tc' : Int64) (H' : Heap) (locs' : List Loc), a' 0 = a 0 → LSt D cI cC cZ cS s H' locs' a' b a2 F' G' tc' → W p l e room_1 s m #[Value.ref b0] below meth c H' locs' 100 2000 (lw_Z below #[Value.ref b0] s) (F0 m 852 ls [])) : W p l e room_1 s m #[Value.ref b0] below meth c H locs 100 2000 (lw_Z below #[Value.ref b0] s) (F0 m 670 ls []) := by
  obtain ⟨hx, hb, hr, hml, hown, hts0, hX, hbl, hlocks, hgv⟩ := C0
  have hts : ∀ w ∈ wsL_law, w.before #[Value.ref b0] s = true := fun w h => hts0 w (wsL_law_in w h)
  have hbA : ¬ (fun q : Nat => s.heap.size ≤ q) b0 := Nat.not_le.mpr hbl
  obtain ⟨hP, hD, hS, n, len, dd, um, nx, sk, hR⟩ := hs
  have hK := hE.1
  refine lv_aload_n hx hb dL_law_670 rfl (lv_at hl 1 rfl) ?_
  refine lv_aload_n hx hb dL_law_671 rfl (lv_at hl 0 rfl) ?_
  refine lv_iload_n hx hb dL_law_672 rfl (lv_at hl 3 rfl) ?_
  refine lv_iconst (v := 1) hx hb dL_law_673 (by decide) ?_
  refine lv_iadd hx hb dL_law_674 ?_
  refine m_sld hx hb hX hbl hbA hS (i + 1) (nI_1 i) (by omega) (by omega) dL_law_675 ?_
  refine lv_aload_n hx hb dL_law_676 rfl (lv_at hl 0 rfl) ?_
  refine lv_iload_n hx hb dL_law_677 rfl (lv_at hl 3 rfl) ?_
  refine lv_iconst (v := 2) hx hb dL_law_678 (by decide) ?_
  refine lv_iadd hx hb dL_law_679 ?_
  refine m_sld hx hb hX hbl hbA hS (i + 2) (nI_2 i) (by omega) (by omega) dL_law_680 ?_
  obtain ⟨r5, hr5, hMr5⟩ : ∃ r : Int32 × (Nat → Nat → Int32), r = d_X5_lost F (xs (i + 1)) (xs (i + 2)) n ∧ Met l yX5_lost wsX5_lost { frames := 4, cells := 0, slots := 0, locals := 92 } (PcE D cI cC cZ cS [.ref (a 0), .int (xs (i + 1)), .int (xs (i + 2))] (wF cI cC cZ cS a b F tc)) (QcM (some (.int r.1)) D (wF cI cC cZ cS a b F tc) (wF cI cC cZ cS a b r.2 tc)) 0 0 (inW (wF cI cC cZ cS a b F tc)) := ⟨_, rfl, c_X5_lost l D cI cC cZ cS a b F tc (xs (i + 1)) (xs (i + 2)) n hR.1.1 hR.1.2.2.1⟩
  refine lcF (W.runV (As := [.int (xs (i + 1)), .int (xs (i + 2))]) (rest := []) ⟨hx, hb, hml, hown, hts⟩ hMr5 (cwV 2 hts gL_law_X5_lost rfl rfl rfl (by decide +kernel) ⟨Nat.le_of_ble_eq_true rfl, Nat.le_of_ble_eq_true rfl⟩) (preV_of (LPF hP) (LDF hD) hE (va_recv hK (LPF hP) (ci := 5) (q0 := 0) rfl rfl)) rfl rfl hl.1 rfl (lv_room (Nat.le_of_ble_eq_true rfl)) dL_law_681 ⟨Nat.le_of_ble_eq_true rfl, Nat.le_of_ble_eq_true rfl⟩) hP hD hS (fun H locs hP hD hS => ?_)
  refine lv_aload_n hx hb dL_law_684 rfl (lv_at hl 2 rfl) ?_
  refine lv_aload_n hx hb dL_law_685 rfl (lv_at hl 0 rfl) ?_
  refine lv_iload_n hx hb dL_law_686 rfl (lv_at hl 3 rfl) ?_
  refine lv_iconst (v := 1) hx hb dL_law_687 (by decide) ?_
  refine lv_iadd hx hb dL_law_688 ?_
  refine m_sld hx hb hX hbl hbA hS (i + 1) (nI_1 i) (by omega) (by omega) dL_law_689 ?_
  refine lv_aload_n hx hb dL_law_690 rfl (lv_at hl 0 rfl) ?_
  refine lv_iload_n hx hb dL_law_691 rfl (lv_at hl 3 rfl) ?_
  refine lv_iconst (v := 2) hx hb dL_law_692 (by decide) ?_
  refine lv_iadd hx hb dL_law_693 ?_
  refine m_sld hx hb hX hbl hbA hS (i + 2) (nI_2 i) (by omega) (by omega) dL_law_694 ?_
  obtain ⟨r6, hr6, hMr6⟩ : ∃ r : Int32 × (Nat → Nat → Int32), r = d_X6_lost G (xs (i + 1)) (xs (i + 2)) n dd ∧ Met l yX6_lost wsX6_lost { frames := 5, cells := 0, slots := 0, locals := 119 } (PcE D cI cC cZ cS [.ref (a2 0), .int (xs (i + 1)), .int (xs (i + 2))] (wM cI cC cZ cS a2 G tc)) (QcM (some (.int r.1)) D (wM cI cC cZ cS a2 G tc) (wM cI cC cZ cS a2 r.2 tc)) 0 0 (inW (wM cI cC cZ cS a2 G tc)) := ⟨_, rfl, c_X6_lost l D cI cC cZ cS a2 G tc (xs (i + 1)) (xs (i + 2)) n dd hR.1.2.1 hR.1.2.2.1 hR.1.2.2.2.2.2.2.2.2.2.1 (hR.2.2.1.1.1.trans hR.2.2.1.2.1) hR.2.2.1.2.2⟩
  refine lcM (W.runV (As := [.int (xs (i + 1)), .int (xs (i + 2))]) (rest := [.int r5.1]) ⟨hx, hb, hml, hown, hts⟩ hMr6 (cwV 2 hts gL_law_X6_lost rfl rfl rfl (by decide +kernel) ⟨Nat.le_of_ble_eq_true rfl, Nat.le_of_ble_eq_true rfl⟩) (preV_of (LPM hP) (LDM hD) hE (va_recv hK (LPM hP) (ci := 6) (q0 := 0) rfl rfl)) rfl rfl hl.1 rfl (lv_room (Nat.le_of_ble_eq_true rfl)) dL_law_695 ⟨Nat.le_of_ble_eq_true rfl, Nat.le_of_ble_eq_true rfl⟩) hP hD hS (fun H locs hP hD hS => ?_)
  obtain ⟨q1, q2⟩ := q_lost hR (xs (i + 1)) (xs (i + 2))
  rw [← hr5, ← hr6] at q1
  rw [← hr5, ← hr6] at q2
  refine lv_icmp_eq (tgt := 852) hx hb dL_law_698 (by decide) (fun _ => ?_) (fun c_ => ?_)
  · exact kb a r5.2 r6.2 tc H locs rfl ⟨hP, hD, hS, q2.x⟩
  · exact absurd q1 c_
theorem lc_23 {p : Program} {e : Env} {s : State} {m : MethodId} {below : List Frame} {meth : Method} {c : Code} (l : Launch) {b0 L : Nat} {xs : Nat → Int32} (C0 : lw_At p s m meth c b0 L xs) {D : va_G} {cI cC cZ cS : ClassId} (hE : EN D cI cC cZ cS s) {a b a2 : Nat → Nat} {F G : Nat → Nat → Int32} {tc : Int64} {H : Heap} {locs : List Loc} {i : Nat} {ls : Array Slot} (hi : i + 2 < L) (hL : L ≤ 192) (hs : LSt D cI cC cZ cS s H locs a b a2 F G tc) (hl : lv_has ls 4 [(0, .ref b0), (1, .ref (a 0)), (2, .ref (a2 0)), (3, .int (nI i))])
    (kb : ∀ (a' : Nat → Nat) (F' G' : Nat → Nat → Int32) (tc' : Int64) (H' : Heap) (locs' : List Loc), a' 0 = a 0 → LSt D cI cC cZ cS s H' locs' a' b a2 F' G' tc' → W p l e room_1 s m #[Value.ref b0] below meth c H' locs' 100 2000 (lw_Z below #[Value.ref b0] s) (F0 m 852 ls [])) : W p l e room_1 s m #[Value.ref b0] below meth c H locs 100 2000 (lw_Z below #[Value.ref b0] s) (F0 m 703 ls []) := by
  obtain ⟨hx, hb, hr, hml, hown, hts0, hX, hbl, hlocks, hgv⟩ := C0
  have hts : ∀ w ∈ wsL_law, w.before #[Value.ref b0] s = true := fun w h => hts0 w (wsL_law_in w h)
  have hbA : ¬ (fun q : Nat => s.heap.size ≤ q) b0 := Nat.not_le.mpr hbl
  obtain ⟨hP, hD, hS, n, len, dd, um, nx, sk, hR⟩ := hs
  have hK := hE.1
  refine lv_aload_n hx hb dL_law_703 rfl (lv_at hl 1 rfl) ?_
  refine lv_aload_n hx hb dL_law_704 rfl (lv_at hl 0 rfl) ?_
  refine lv_iload_n hx hb dL_law_705 rfl (lv_at hl 3 rfl) ?_
  refine lv_iconst (v := 1) hx hb dL_law_706 (by decide) ?_
  refine lv_iadd hx hb dL_law_707 ?_
  refine m_sld hx hb hX hbl hbA hS (i + 1) (nI_1 i) (by omega) (by omega) dL_law_708 ?_
  refine lv_aload_n hx hb dL_law_709 rfl (lv_at hl 0 rfl) ?_
  refine lv_iload_n hx hb dL_law_710 rfl (lv_at hl 3 rfl) ?_
  refine lv_iconst (v := 2) hx hb dL_law_711 (by decide) ?_
  refine lv_iadd hx hb dL_law_712 ?_
  refine m_sld hx hb hX hbl hbA hS (i + 2) (nI_2 i) (by omega) (by omega) dL_law_713 ?_
  obtain ⟨r5, hr5, hMr5⟩ : ∃ r : Int32, r = d_X5_draw F (xs (i + 1)) (xs (i + 2)) n ∧ Met l yX5_draw wsX5_draw { frames := 4, cells := 0, slots := 0, locals := 88 } (PcE D cI cC cZ cS [.ref (a 0), .int (xs (i + 1)), .int (xs (i + 2))] (wF cI cC cZ cS a b F tc)) (QcR (some (.int r))) 0 0 (fun _ => False) := ⟨_, rfl, c_X5_draw l D cI cC cZ cS a b F tc (xs (i + 1)) (xs (i + 2)) n hR.1.1 hR.1.2.2.1⟩
  refine lcR (W.runV (As := [.int (xs (i + 1)), .int (xs (i + 2))]) (rest := []) ⟨hx, hb, hml, hown, hts⟩ hMr5 (cwV 2 hts gL_law_X5_draw rfl rfl rfl (by decide +kernel) ⟨Nat.le_of_ble_eq_true rfl, Nat.le_of_ble_eq_true rfl⟩) (preV_of (LPF hP) (LDF hD) hE (va_recv hK (LPF hP) (ci := 5) (q0 := 0) rfl rfl)) rfl rfl hl.1 rfl (lv_room (Nat.le_of_ble_eq_true rfl)) dL_law_714 ⟨Nat.le_of_ble_eq_true rfl, Nat.le_of_ble_eq_true rfl⟩) ?_
  refine lv_aload_n hx hb dL_law_717 rfl (lv_at hl 2 rfl) ?_
  refine lv_aload_n hx hb dL_law_718 rfl (lv_at hl 0 rfl) ?_
  refine lv_iload_n hx hb dL_law_719 rfl (lv_at hl 3 rfl) ?_
  refine lv_iconst (v := 1) hx hb dL_law_720 (by decide) ?_
  refine lv_iadd hx hb dL_law_721 ?_
  refine m_sld hx hb hX hbl hbA hS (i + 1) (nI_1 i) (by omega) (by omega) dL_law_722 ?_
  refine lv_aload_n hx hb dL_law_723 rfl (lv_at hl 0 rfl) ?_
  refine lv_iload_n hx hb dL_law_724 rfl (lv_at hl 3 rfl) ?_
  refine lv_iconst (v := 2) hx hb dL_law_725 (by decide) ?_
  refine lv_iadd hx hb dL_law_726 ?_
  refine m_sld hx hb hX hbl hbA hS (i + 2) (nI_2 i) (by omega) (by omega) dL_law_727 ?_
  obtain ⟨r6, hr6, hMr6⟩ : ∃ r : Int32 × (Nat → Nat → Int32), r = d_X6_draw G (xs (i + 1)) (xs (i + 2)) n dd ∧ Met l yX6_draw wsX6_draw { frames := 4, cells := 0, slots := 0, locals := 96 } (PcE D cI cC cZ cS [.ref (a2 0), .int (xs (i + 1)), .int (xs (i + 2))] (wM cI cC cZ cS a2 G tc)) (QcM (some (.int r.1)) D (wM cI cC cZ cS a2 G tc) (wM cI cC cZ cS a2 r.2 tc)) 0 0 (inW (wM cI cC cZ cS a2 G tc)) := ⟨_, rfl, c_X6_draw l D cI cC cZ cS a2 G tc (xs (i + 1)) (xs (i + 2)) n dd hR.1.2.1 hR.1.2.2.1 hR.1.2.2.2.2.2.2.2.2.2.1 (hR.2.2.1.1.1.trans hR.2.2.1.2.1) hR.2.2.1.2.2⟩
  refine lcM (W.runV (As := [.int (xs (i + 1)), .int (xs (i + 2))]) (rest := [.int r5]) ⟨hx, hb, hml, hown, hts⟩ hMr6 (cwV 2 hts gL_law_X6_draw rfl rfl rfl (by decide +kernel) ⟨Nat.le_of_ble_eq_true rfl, Nat.le_of_ble_eq_true rfl⟩) (preV_of (LPM hP) (LDM hD) hE (va_recv hK (LPM hP) (ci := 6) (q0 := 0) rfl rfl)) rfl rfl hl.1 rfl (lv_room (Nat.le_of_ble_eq_true rfl)) dL_law_728 ⟨Nat.le_of_ble_eq_true rfl, Nat.le_of_ble_eq_true rfl⟩) hP hD hS (fun H locs hP hD hS => ?_)
  obtain ⟨q1, q2⟩ := q_draw hR (xs (i + 1)) (xs (i + 2))
  rw [← hr5, ← hr6] at q1
  rw [← hr6] at q2
  refine lv_icmp_eq (tgt := 852) hx hb dL_law_731 (by decide) (fun _ => ?_) (fun c_ => ?_)
  · exact kb a F r6.2 tc H locs rfl ⟨hP, hD, hS, q2.x⟩
  · exact absurd q1 c_
theorem lc_24 {p : Program} {e : Env} {s : State} {m : MethodId} {below : List Frame} {meth : Method} {c : Code} (l : Launch) {b0 L : Nat} {xs : Nat → Int32} (C0 : lw_At p s m meth c b0 L xs) {D : va_G} {cI cC cZ cS : ClassId} (hE : EN D cI cC cZ cS s) {a b a2 : Nat → Nat} {F G : Nat → Nat → Int32} {tc : Int64} {H : Heap} {locs : List Loc} {i : Nat} {ls : Array Slot} (hi : i + 2 < L) (hL : L ≤ 192) (hs : LSt D cI cC cZ cS s H locs a b a2 F G tc) (hl : lv_has ls 4 [(0, .ref b0), (1, .ref (a 0)), (2, .ref (a2 0)), (3, .int (nI i))])
    (kb : ∀ (a' : Nat → Nat) (F' G' : Nat → Nat → Int32) (tc' : Int64) (H' : Heap) (locs' : List Loc), a' 0 = a 0 → LSt D cI cC cZ cS s H' locs' a' b a2 F' G' tc' → W p l e room_1 s m #[Value.ref b0] below meth c H' locs' 100 2000 (lw_Z below #[Value.ref b0] s) (F0 m 852 ls [])) : W p l e room_1 s m #[Value.ref b0] below meth c H locs 100 2000 (lw_Z below #[Value.ref b0] s) (F0 m 736 ls []) := by
  obtain ⟨hx, hb, hr, hml, hown, hts0, hX, hbl, hlocks, hgv⟩ := C0
  have hts : ∀ w ∈ wsL_law, w.before #[Value.ref b0] s = true := fun w h => hts0 w (wsL_law_in w h)
  have hbA : ¬ (fun q : Nat => s.heap.size ≤ q) b0 := Nat.not_le.mpr hbl
  obtain ⟨hP, hD, hS, n, len, dd, um, nx, sk, hR⟩ := hs
  have hK := hE.1
  refine lv_aload_n hx hb dL_law_736 rfl (lv_at hl 1 rfl) ?_
  refine lv_aload_n hx hb dL_law_737 rfl (lv_at hl 0 rfl) ?_
  refine lv_iload_n hx hb dL_law_738 rfl (lv_at hl 3 rfl) ?_
  refine lv_iconst (v := 1) hx hb dL_law_739 (by decide) ?_
  refine lv_iadd hx hb dL_law_740 ?_
  refine m_sld hx hb hX hbl hbA hS (i + 1) (nI_1 i) (by omega) (by omega) dL_law_741 ?_
  refine lv_aload_n hx hb dL_law_742 rfl (lv_at hl 0 rfl) ?_
  refine lv_iload_n hx hb dL_law_743 rfl (lv_at hl 3 rfl) ?_
  refine lv_iconst (v := 2) hx hb dL_law_744 (by decide) ?_
  refine lv_iadd hx hb dL_law_745 ?_
  refine m_sld hx hb hX hbl hbA hS (i + 2) (nI_2 i) (by omega) (by omega) dL_law_746 ?_
  obtain ⟨r5, hr5, hMr5⟩ : ∃ r : Int32 × (Nat → Nat → Int32) × Int64, r = d_X5_rate F tc (xs (i + 1)) (xs (i + 2)) ∧ Met l yX5_rate wsX5_rate { frames := 3, cells := 0, slots := 0, locals := 63 } (PcE D cI cC cZ cS [.ref (a 0), .int (xs (i + 1)), .int (xs (i + 2))] (wF cI cC cZ cS a b F tc)) (QcM (some (.int r.1)) D (wF cI cC cZ cS a b F tc) (wF cI cC cZ cS a b r.2.1 r.2.2)) 0 0 (inW (wF cI cC cZ cS a b F tc)) := ⟨_, rfl, c_X5_rate l D cI cC cZ cS a b F tc (xs (i + 1)) (xs (i + 2)) n hR.1.1 hR.1.2.2.1⟩
  refine lcF (W.runV (As := [.int (xs (i + 1)), .int (xs (i + 2))]) (rest := []) ⟨hx, hb, hml, hown, hts⟩ hMr5 (cwV 2 hts gL_law_X5_rate rfl rfl rfl (by decide +kernel) ⟨Nat.le_of_ble_eq_true rfl, Nat.le_of_ble_eq_true rfl⟩) (preV_of (LPF hP) (LDF hD) hE (va_recv hK (LPF hP) (ci := 5) (q0 := 0) rfl rfl)) rfl rfl hl.1 rfl (lv_room (Nat.le_of_ble_eq_true rfl)) dL_law_747 ⟨Nat.le_of_ble_eq_true rfl, Nat.le_of_ble_eq_true rfl⟩) hP hD hS (fun H locs hP hD hS => ?_)
  refine lv_aload_n hx hb dL_law_750 rfl (lv_at hl 2 rfl) ?_
  refine lv_aload_n hx hb dL_law_751 rfl (lv_at hl 0 rfl) ?_
  refine lv_iload_n hx hb dL_law_752 rfl (lv_at hl 3 rfl) ?_
  refine lv_iconst (v := 1) hx hb dL_law_753 (by decide) ?_
  refine lv_iadd hx hb dL_law_754 ?_
  refine m_sld hx hb hX hbl hbA hS (i + 1) (nI_1 i) (by omega) (by omega) dL_law_755 ?_
  refine lv_aload_n hx hb dL_law_756 rfl (lv_at hl 0 rfl) ?_
  refine lv_iload_n hx hb dL_law_757 rfl (lv_at hl 3 rfl) ?_
  refine lv_iconst (v := 2) hx hb dL_law_758 (by decide) ?_
  refine lv_iadd hx hb dL_law_759 ?_
  refine m_sld hx hb hX hbl hbA hS (i + 2) (nI_2 i) (by omega) (by omega) dL_law_760 ?_
  obtain ⟨r6, hr6, hMr6⟩ : ∃ r : Int32 × (Nat → Nat → Int32) × Int64, r = d_X6_rate G tc (xs (i + 1)) (xs (i + 2)) n ∧ Met l yX6_rate wsX6_rate { frames := 2, cells := 0, slots := 0, locals := 43 } (PcE D cI cC cZ cS [.ref (a2 0), .int (xs (i + 1)), .int (xs (i + 2))] (wM cI cC cZ cS a2 G tc)) (QcM (some (.int r.1)) D (wM cI cC cZ cS a2 G tc) (wM cI cC cZ cS a2 r.2.1 r.2.2)) 0 0 (inW (wM cI cC cZ cS a2 G tc)) := ⟨_, rfl, c_X6_rate l D cI cC cZ cS a2 G tc (xs (i + 1)) (xs (i + 2)) n hR.1.2.1 hR.1.2.2.1⟩
  refine lcM (W.runV (As := [.int (xs (i + 1)), .int (xs (i + 2))]) (rest := [.int r5.1]) ⟨hx, hb, hml, hown, hts⟩ hMr6 (cwV 2 hts gL_law_X6_rate rfl rfl rfl (by decide +kernel) ⟨Nat.le_of_ble_eq_true rfl, Nat.le_of_ble_eq_true rfl⟩) (preV_of (LPM hP) (LDM hD) hE (va_recv hK (LPM hP) (ci := 6) (q0 := 0) rfl rfl)) rfl rfl hl.1 rfl (lv_room (Nat.le_of_ble_eq_true rfl)) dL_law_761 ⟨Nat.le_of_ble_eq_true rfl, Nat.le_of_ble_eq_true rfl⟩) hP hD hS (fun H locs hP hD hS => ?_)
  obtain ⟨q1, q2, q3⟩ := q_rate hR tc (xs (i + 1)) (xs (i + 2))
  rw [← hr5, ← hr6] at q1 q2 q3
  refine lv_icmp_eq (tgt := 852) hx hb dL_law_764 (by decide) (fun _ => ?_) (fun c_ => ?_)
  · rw [← q3] at hP hD
    exact kb a r5.2.1 r6.2.1 r5.2.2 H locs rfl ⟨hP, hD, hS, q2⟩
  · exact absurd q1 c_
theorem lc_25 {p : Program} {e : Env} {s : State} {m : MethodId} {below : List Frame} {meth : Method} {c : Code} (l : Launch) {b0 L : Nat} {xs : Nat → Int32} (C0 : lw_At p s m meth c b0 L xs) {D : va_G} {cI cC cZ cS : ClassId} (hE : EN D cI cC cZ cS s) {a b a2 : Nat → Nat} {F G : Nat → Nat → Int32} {tc : Int64} {H : Heap} {locs : List Loc} {i : Nat} {ls : Array Slot} (hi : i + 2 < L) (hL : L ≤ 192) (hs : LSt D cI cC cZ cS s H locs a b a2 F G tc) (hl : lv_has ls 4 [(0, .ref b0), (1, .ref (a 0)), (2, .ref (a2 0)), (3, .int (nI i))])
    (kb : ∀ (a' : Nat → Nat) (F' G' : Nat → Nat → Int32) (tc' : Int64) (H' : Heap) (locs' : List Loc), a' 0 = a 0 → LSt D cI cC cZ cS s H' locs' a' b a2 F' G' tc' → W p l e room_1 s m #[Value.ref b0] below meth c H' locs' 100 2000 (lw_Z below #[Value.ref b0] s) (F0 m 852 ls [])) : W p l e room_1 s m #[Value.ref b0] below meth c H locs 100 2000 (lw_Z below #[Value.ref b0] s) (F0 m 769 ls []) := by
  obtain ⟨hx, hb, hr, hml, hown, hts0, hX, hbl, hlocks, hgv⟩ := C0
  have hts : ∀ w ∈ wsL_law, w.before #[Value.ref b0] s = true := fun w h => hts0 w (wsL_law_in w h)
  have hbA : ¬ (fun q : Nat => s.heap.size ≤ q) b0 := Nat.not_le.mpr hbl
  obtain ⟨hP, hD, hS, n, len, dd, um, nx, sk, hR⟩ := hs
  have hK := hE.1
  refine lv_aload_n hx hb dL_law_769 rfl (lv_at hl 1 rfl) ?_
  refine lv_aload_n hx hb dL_law_770 rfl (lv_at hl 0 rfl) ?_
  refine lv_iload_n hx hb dL_law_771 rfl (lv_at hl 3 rfl) ?_
  refine lv_iconst (v := 1) hx hb dL_law_772 (by decide) ?_
  refine lv_iadd hx hb dL_law_773 ?_
  refine m_sld hx hb hX hbl hbA hS (i + 1) (nI_1 i) (by omega) (by omega) dL_law_774 ?_
  obtain ⟨r5, hr5, hMr5⟩ : ∃ r : Int32 × (Nat → Nat → Int32), r = d_X5_keep F (xs (i + 1)) ∧ Met l yX5_keep wsX5_keep { frames := 1, cells := 0, slots := 0, locals := 21 } (PcE D cI cC cZ cS [.ref (a 0), .int (xs (i + 1))] (wF cI cC cZ cS a b F tc)) (QcM (some (.int r.1)) D (wF cI cC cZ cS a b F tc) (wF cI cC cZ cS a b r.2 tc)) 0 0 (inW (wF cI cC cZ cS a b F tc)) := ⟨_, rfl, c_X5_keep l D cI cC cZ cS a b F tc (xs (i + 1))⟩
  refine lcF (W.runV (As := [.int (xs (i + 1))]) (rest := []) ⟨hx, hb, hml, hown, hts⟩ hMr5 (cwV 1 hts gL_law_X5_keep rfl rfl rfl (by decide +kernel) ⟨Nat.le_of_ble_eq_true rfl, Nat.le_of_ble_eq_true rfl⟩) (preV_of (LPF hP) (LDF hD) hE (va_recv hK (LPF hP) (ci := 5) (q0 := 0) rfl rfl)) rfl rfl hl.1 rfl (lv_room (Nat.le_of_ble_eq_true rfl)) dL_law_775 ⟨Nat.le_of_ble_eq_true rfl, Nat.le_of_ble_eq_true rfl⟩) hP hD hS (fun H locs hP hD hS => ?_)
  refine lv_aload_n hx hb dL_law_778 rfl (lv_at hl 2 rfl) ?_
  refine lv_aload_n hx hb dL_law_779 rfl (lv_at hl 0 rfl) ?_
  refine lv_iload_n hx hb dL_law_780 rfl (lv_at hl 3 rfl) ?_
  refine lv_iconst (v := 1) hx hb dL_law_781 (by decide) ?_
  refine lv_iadd hx hb dL_law_782 ?_
  refine m_sld hx hb hX hbl hbA hS (i + 1) (nI_1 i) (by omega) (by omega) dL_law_783 ?_
  obtain ⟨r6, hr6, hMr6⟩ : ∃ r : Int32 × (Nat → Nat → Int32), r = d_X6_keep G (xs (i + 1)) ∧ Met l yX6_keep wsX6_keep { frames := 1, cells := 0, slots := 0, locals := 22 } (PcE D cI cC cZ cS [.ref (a2 0), .int (xs (i + 1))] (wM cI cC cZ cS a2 G tc)) (QcM (some (.int r.1)) D (wM cI cC cZ cS a2 G tc) (wM cI cC cZ cS a2 r.2 tc)) 0 0 (inW (wM cI cC cZ cS a2 G tc)) := ⟨_, rfl, c_X6_keep l D cI cC cZ cS a2 G tc (xs (i + 1))⟩
  refine lcM (W.runV (As := [.int (xs (i + 1))]) (rest := [.int r5.1]) ⟨hx, hb, hml, hown, hts⟩ hMr6 (cwV 1 hts gL_law_X6_keep rfl rfl rfl (by decide +kernel) ⟨Nat.le_of_ble_eq_true rfl, Nat.le_of_ble_eq_true rfl⟩) (preV_of (LPM hP) (LDM hD) hE (va_recv hK (LPM hP) (ci := 6) (q0 := 0) rfl rfl)) rfl rfl hl.1 rfl (lv_room (Nat.le_of_ble_eq_true rfl)) dL_law_784 ⟨Nat.le_of_ble_eq_true rfl, Nat.le_of_ble_eq_true rfl⟩) hP hD hS (fun H locs hP hD hS => ?_)
  obtain ⟨q1, q2⟩ := q_keep hR (xs (i + 1))
  rw [← hr5, ← hr6] at q1
  rw [← hr5, ← hr6] at q2
  refine lv_icmp_eq (tgt := 852) hx hb dL_law_787 (by decide) (fun _ => ?_) (fun c_ => ?_)
  · exact kb a r5.2 r6.2 tc H locs rfl ⟨hP, hD, hS, q2⟩
  · exact absurd q1 c_
theorem lc_26 {p : Program} {e : Env} {s : State} {m : MethodId} {below : List Frame} {meth : Method} {c : Code} (l : Launch) {b0 L : Nat} {xs : Nat → Int32} (C0 : lw_At p s m meth c b0 L xs) {D : va_G} {cI cC cZ cS : ClassId} (hE : EN D cI cC cZ cS s) {a b a2 : Nat → Nat} {F G : Nat → Nat → Int32} {tc : Int64} {H : Heap} {locs : List Loc} {i : Nat} {ls : Array Slot} (hi : i + 2 < L) (hL : L ≤ 192) (hs : LSt D cI cC cZ cS s H locs a b a2 F G tc) (hl : lv_has ls 4 [(0, .ref b0), (1, .ref (a 0)), (2, .ref (a2 0)), (3, .int (nI i))])
    (kb : ∀ (a' : Nat → Nat) (F' G' : Nat → Nat → Int32) (tc' : Int64) (H' : Heap) (locs' : List Loc), a' 0 = a 0 → LSt D cI cC cZ cS s H' locs' a' b a2 F' G' tc' → W p l e room_1 s m #[Value.ref b0] below meth c H' locs' 100 2000 (lw_Z below #[Value.ref b0] s) (F0 m 852 ls [])) : W p l e room_1 s m #[Value.ref b0] below meth c H locs 100 2000 (lw_Z below #[Value.ref b0] s) (F0 m 792 ls []) := by
  obtain ⟨hx, hb, hr, hml, hown, hts0, hX, hbl, hlocks, hgv⟩ := C0
  have hts : ∀ w ∈ wsL_law, w.before #[Value.ref b0] s = true := fun w h => hts0 w (wsL_law_in w h)
  have hbA : ¬ (fun q : Nat => s.heap.size ≤ q) b0 := Nat.not_le.mpr hbl
  obtain ⟨hP, hD, hS, n, len, dd, um, nx, sk, hR⟩ := hs
  have hK := hE.1
  refine lv_aload_n hx hb dL_law_792 rfl (lv_at hl 1 rfl) ?_
  refine lv_aload_n hx hb dL_law_793 rfl (lv_at hl 0 rfl) ?_
  refine lv_iload_n hx hb dL_law_794 rfl (lv_at hl 3 rfl) ?_
  refine lv_iconst (v := 1) hx hb dL_law_795 (by decide) ?_
  refine lv_iadd hx hb dL_law_796 ?_
  refine m_sld hx hb hX hbl hbA hS (i + 1) (nI_1 i) (by omega) (by omega) dL_law_797 ?_
  obtain ⟨r5, hr5, hMr5⟩ : ∃ r : Int32 × (Nat → Nat → Int32), r = d_X5_back F (xs (i + 1)) ∧ Met l yX5_back wsX5_back { frames := 1, cells := 0, slots := 0, locals := 21 } (PcE D cI cC cZ cS [.ref (a 0), .int (xs (i + 1))] (wF cI cC cZ cS a b F tc)) (QcM (some (.int r.1)) D (wF cI cC cZ cS a b F tc) (wF cI cC cZ cS a b r.2 tc)) 0 0 (inW (wF cI cC cZ cS a b F tc)) := ⟨_, rfl, c_X5_back l D cI cC cZ cS a b F tc (xs (i + 1))⟩
  refine lcF (W.runV (As := [.int (xs (i + 1))]) (rest := []) ⟨hx, hb, hml, hown, hts⟩ hMr5 (cwV 1 hts gL_law_X5_back rfl rfl rfl (by decide +kernel) ⟨Nat.le_of_ble_eq_true rfl, Nat.le_of_ble_eq_true rfl⟩) (preV_of (LPF hP) (LDF hD) hE (va_recv hK (LPF hP) (ci := 5) (q0 := 0) rfl rfl)) rfl rfl hl.1 rfl (lv_room (Nat.le_of_ble_eq_true rfl)) dL_law_798 ⟨Nat.le_of_ble_eq_true rfl, Nat.le_of_ble_eq_true rfl⟩) hP hD hS (fun H locs hP hD hS => ?_)
  refine lv_aload_n hx hb dL_law_801 rfl (lv_at hl 2 rfl) ?_
  refine lv_aload_n hx hb dL_law_802 rfl (lv_at hl 0 rfl) ?_
  refine lv_iload_n hx hb dL_law_803 rfl (lv_at hl 3 rfl) ?_
  refine lv_iconst (v := 1) hx hb dL_law_804 (by decide) ?_
  refine lv_iadd hx hb dL_law_805 ?_
  refine m_sld hx hb hX hbl hbA hS (i + 1) (nI_1 i) (by omega) (by omega) dL_law_806 ?_
  obtain ⟨r6, hr6, hMr6⟩ : ∃ r : Int32 × (Nat → Nat → Int32), r = d_X6_back G (xs (i + 1)) ∧ Met l yX6_back wsX6_back { frames := 1, cells := 0, slots := 0, locals := 22 } (PcE D cI cC cZ cS [.ref (a2 0), .int (xs (i + 1))] (wM cI cC cZ cS a2 G tc)) (QcM (some (.int r.1)) D (wM cI cC cZ cS a2 G tc) (wM cI cC cZ cS a2 r.2 tc)) 0 0 (inW (wM cI cC cZ cS a2 G tc)) := ⟨_, rfl, c_X6_back l D cI cC cZ cS a2 G tc (xs (i + 1))⟩
  refine lcM (W.runV (As := [.int (xs (i + 1))]) (rest := [.int r5.1]) ⟨hx, hb, hml, hown, hts⟩ hMr6 (cwV 1 hts gL_law_X6_back rfl rfl rfl (by decide +kernel) ⟨Nat.le_of_ble_eq_true rfl, Nat.le_of_ble_eq_true rfl⟩) (preV_of (LPM hP) (LDM hD) hE (va_recv hK (LPM hP) (ci := 6) (q0 := 0) rfl rfl)) rfl rfl hl.1 rfl (lv_room (Nat.le_of_ble_eq_true rfl)) dL_law_807 ⟨Nat.le_of_ble_eq_true rfl, Nat.le_of_ble_eq_true rfl⟩) hP hD hS (fun H locs hP hD hS => ?_)
  obtain ⟨q1, q2⟩ := q_back hR (xs (i + 1))
  rw [← hr5, ← hr6] at q1
  rw [← hr5, ← hr6] at q2
  refine lv_icmp_eq (tgt := 852) hx hb dL_law_810 (by decide) (fun _ => ?_) (fun c_ => ?_)
  · exact kb a r5.2 r6.2 tc H locs rfl ⟨hP, hD, hS, q2⟩
  · exact absurd q1 c_
theorem lc_27 {p : Program} {e : Env} {s : State} {m : MethodId} {below : List Frame} {meth : Method} {c : Code} (l : Launch) {b0 L : Nat} {xs : Nat → Int32} (C0 : lw_At p s m meth c b0 L xs) {D : va_G} {cI cC cZ cS : ClassId} (hE : EN D cI cC cZ cS s) {a b a2 : Nat → Nat} {F G : Nat → Nat → Int32} {tc : Int64} {H : Heap} {locs : List Loc} {i : Nat} {ls : Array Slot} (hi : i + 2 < L) (hL : L ≤ 192) (hs : LSt D cI cC cZ cS s H locs a b a2 F G tc) (hl : lv_has ls 4 [(0, .ref b0), (1, .ref (a 0)), (2, .ref (a2 0)), (3, .int (nI i))])
    (kb : ∀ (a' : Nat → Nat) (F' G' : Nat → Nat → Int32) (tc' : Int64) (H' : Heap) (locs' : List Loc), a' 0 = a 0 → LSt D cI cC cZ cS s H' locs' a' b a2 F' G' tc' → W p l e room_1 s m #[Value.ref b0] below meth c H' locs' 100 2000 (lw_Z below #[Value.ref b0] s) (F0 m 852 ls [])) : W p l e room_1 s m #[Value.ref b0] below meth c H locs 100 2000 (lw_Z below #[Value.ref b0] s) (F0 m 815 ls []) := by
  obtain ⟨hx, hb, hr, hml, hown, hts0, hX, hbl, hlocks, hgv⟩ := C0
  have hts : ∀ w ∈ wsL_law, w.before #[Value.ref b0] s = true := fun w h => hts0 w (wsL_law_in w h)
  have hbA : ¬ (fun q : Nat => s.heap.size ≤ q) b0 := Nat.not_le.mpr hbl
  obtain ⟨hP, hD, hS, n, len, dd, um, nx, sk, hR⟩ := hs
  have hK := hE.1
  refine lv_aload_n hx hb dL_law_815 rfl (lv_at hl 1 rfl) ?_
  refine lv_aload_n hx hb dL_law_816 rfl (lv_at hl 0 rfl) ?_
  refine lv_iload_n hx hb dL_law_817 rfl (lv_at hl 3 rfl) ?_
  refine lv_iconst (v := 1) hx hb dL_law_818 (by decide) ?_
  refine lv_iadd hx hb dL_law_819 ?_
  refine m_sld hx hb hX hbl hbA hS (i + 1) (nI_1 i) (by omega) (by omega) dL_law_820 ?_
  obtain ⟨r5, hr5, hMr5⟩ : ∃ r : Int32, r = d_X5_count F (xs (i + 1)) ∧ Met l yX5_count wsX5_count { frames := 0, cells := 0, slots := 0, locals := 0 } (PcE D cI cC cZ cS [.ref (a 0), .int (xs (i + 1))] (wF cI cC cZ cS a b F tc)) (QcR (some (.int r))) 0 0 (fun _ => False) := ⟨_, rfl, c_X5_count l D cI cC cZ cS a b F tc (xs (i + 1)) n hR.1.1 hR.1.2.2.1⟩
  refine lcR (W.runV (As := [.int (xs (i + 1))]) (rest := []) ⟨hx, hb, hml, hown, hts⟩ hMr5 (cwV 1 hts gL_law_X5_count rfl rfl rfl (by decide +kernel) ⟨Nat.le_of_ble_eq_true rfl, Nat.le_of_ble_eq_true rfl⟩) (preV_of (LPF hP) (LDF hD) hE (va_recv hK (LPF hP) (ci := 5) (q0 := 0) rfl rfl)) rfl rfl hl.1 rfl (lv_room (Nat.le_of_ble_eq_true rfl)) dL_law_821 ⟨Nat.le_of_ble_eq_true rfl, Nat.le_of_ble_eq_true rfl⟩) ?_
  refine lv_aload_n hx hb dL_law_824 rfl (lv_at hl 2 rfl) ?_
  refine lv_aload_n hx hb dL_law_825 rfl (lv_at hl 0 rfl) ?_
  refine lv_iload_n hx hb dL_law_826 rfl (lv_at hl 3 rfl) ?_
  refine lv_iconst (v := 1) hx hb dL_law_827 (by decide) ?_
  refine lv_iadd hx hb dL_law_828 ?_
  refine m_sld hx hb hX hbl hbA hS (i + 1) (nI_1 i) (by omega) (by omega) dL_law_829 ?_
  obtain ⟨r6, hr6, hMr6⟩ : ∃ r : Int32 × (Nat → Nat → Int32), r = d_X6_count G (xs (i + 1)) ∧ Met l yX6_count wsX6_count { frames := 1, cells := 0, slots := 0, locals := 22 } (PcE D cI cC cZ cS [.ref (a2 0), .int (xs (i + 1))] (wM cI cC cZ cS a2 G tc)) (QcM (some (.int r.1)) D (wM cI cC cZ cS a2 G tc) (wM cI cC cZ cS a2 r.2 tc)) 0 0 (inW (wM cI cC cZ cS a2 G tc)) := ⟨_, rfl, c_X6_count l D cI cC cZ cS a2 G tc (xs (i + 1))⟩
  refine lcM (W.runV (As := [.int (xs (i + 1))]) (rest := [.int r5]) ⟨hx, hb, hml, hown, hts⟩ hMr6 (cwV 1 hts gL_law_X6_count rfl rfl rfl (by decide +kernel) ⟨Nat.le_of_ble_eq_true rfl, Nat.le_of_ble_eq_true rfl⟩) (preV_of (LPM hP) (LDM hD) hE (va_recv hK (LPM hP) (ci := 6) (q0 := 0) rfl rfl)) rfl rfl hl.1 rfl (lv_room (Nat.le_of_ble_eq_true rfl)) dL_law_830 ⟨Nat.le_of_ble_eq_true rfl, Nat.le_of_ble_eq_true rfl⟩) hP hD hS (fun H locs hP hD hS => ?_)
  obtain ⟨q1, q2⟩ := q_count hR (xs (i + 1))
  rw [← hr5, ← hr6] at q1
  rw [← hr6] at q2
  refine lv_icmp_eq (tgt := 852) hx hb dL_law_833 (by decide) (fun _ => ?_) (fun c_ => ?_)
  · exact kb a F r6.2 tc H locs rfl ⟨hP, hD, hS, q2.x⟩
  · exact absurd q1 c_
theorem lc_28 {p : Program} {e : Env} {s : State} {m : MethodId} {below : List Frame} {meth : Method} {c : Code} (l : Launch) {b0 L : Nat} {xs : Nat → Int32} (C0 : lw_At p s m meth c b0 L xs) {D : va_G} {cI cC cZ cS : ClassId} (hE : EN D cI cC cZ cS s) {a b a2 : Nat → Nat} {F G : Nat → Nat → Int32} {tc : Int64} {H : Heap} {locs : List Loc} {i : Nat} {ls : Array Slot} (hi : i + 2 < L) (hL : L ≤ 192) (hs : LSt D cI cC cZ cS s H locs a b a2 F G tc) (hl : lv_has ls 4 [(0, .ref b0), (1, .ref (a 0)), (2, .ref (a2 0)), (3, .int (nI i))])
    (kb : ∀ (a' : Nat → Nat) (F' G' : Nat → Nat → Int32) (tc' : Int64) (H' : Heap) (locs' : List Loc), a' 0 = a 0 → LSt D cI cC cZ cS s H' locs' a' b a2 F' G' tc' → W p l e room_1 s m #[Value.ref b0] below meth c H' locs' 100 2000 (lw_Z below #[Value.ref b0] s) (F0 m 852 ls [])) : W p l e room_1 s m #[Value.ref b0] below meth c H locs 100 2000 (lw_Z below #[Value.ref b0] s) (F0 m 838 ls []) := by
  obtain ⟨hx, hb, hr, hml, hown, hts0, hX, hbl, hlocks, hgv⟩ := C0
  have hts : ∀ w ∈ wsL_law, w.before #[Value.ref b0] s = true := fun w h => hts0 w (wsL_law_in w h)
  have hbA : ¬ (fun q : Nat => s.heap.size ≤ q) b0 := Nat.not_le.mpr hbl
  obtain ⟨hP, hD, hS, n, len, dd, um, nx, sk, hR⟩ := hs
  have hK := hE.1
  refine lv_aload_n hx hb dL_law_838 rfl (lv_at hl 1 rfl) ?_
  obtain ⟨r5, hr5, hMr5⟩ : ∃ r : Int64, r = d_X5_trace tc ∧ Met l yX5_trace wsX5_trace { frames := 0, cells := 0, slots := 0, locals := 0 } (PcE D cI cC cZ cS [.ref (a 0)] (wF cI cC cZ cS a b F tc)) (QcR (some (.long r))) 0 0 (fun _ => False) := ⟨_, rfl, c_X5_trace l D cI cC cZ cS a b F tc⟩
  refine lcR (W.runV (As := []) (rest := []) ⟨hx, hb, hml, hown, hts⟩ hMr5 (cwV 0 hts gL_law_X5_trace rfl rfl rfl (by decide +kernel) ⟨Nat.le_of_ble_eq_true rfl, Nat.le_of_ble_eq_true rfl⟩) (preV_of (LPF hP) (LDF hD) hE (va_recv hK (LPF hP) (ci := 5) (q0 := 0) rfl rfl)) rfl rfl hl.1 rfl (lv_room (Nat.le_of_ble_eq_true rfl)) dL_law_839 ⟨Nat.le_of_ble_eq_true rfl, Nat.le_of_ble_eq_true rfl⟩) ?_
  refine lv_aload_n hx hb dL_law_842 rfl (lv_at hl 2 rfl) ?_
  obtain ⟨r6, hr6, hMr6⟩ : ∃ r : Int64 × (Nat → Nat → Int32), r = d_X6_trace G tc ∧ Met l yX6_trace wsX6_trace { frames := 0, cells := 0, slots := 0, locals := 0 } (PcE D cI cC cZ cS [.ref (a2 0)] (wM cI cC cZ cS a2 G tc)) (QcM (some (.long r.1)) D (wM cI cC cZ cS a2 G tc) (wM cI cC cZ cS a2 r.2 tc)) 0 0 (inW (wM cI cC cZ cS a2 G tc)) := ⟨_, rfl, c_X6_trace l D cI cC cZ cS a2 G tc⟩
  refine lcM (W.runV (As := []) (rest := [.long r5]) ⟨hx, hb, hml, hown, hts⟩ hMr6 (cwV 0 hts gL_law_X6_trace rfl rfl rfl (by decide +kernel) ⟨Nat.le_of_ble_eq_true rfl, Nat.le_of_ble_eq_true rfl⟩) (preV_of (LPM hP) (LDM hD) hE (va_recv hK (LPM hP) (ci := 6) (q0 := 0) rfl rfl)) rfl rfl hl.1 rfl (lv_room (Nat.le_of_ble_eq_true rfl)) dL_law_843 ⟨Nat.le_of_ble_eq_true rfl, Nat.le_of_ble_eq_true rfl⟩) hP hD hS (fun H locs hP hD hS => ?_)
  obtain ⟨q1, q2⟩ := q_trace hR tc
  rw [← hr5, ← hr6] at q1
  rw [← hr6] at q2
  refine W.lcmp hx hb dL_law_846 ?_
  refine lv_if_eq (tgt := 852) hx hb dL_law_847 (by decide) (fun _ => ?_) (fun c_ => ?_)
  · exact kb a F r6.2 tc H locs rfl ⟨hP, hD, hS, q2.x⟩
  · exact absurd (by rw [q1]; exact cmp_self _) c_
