theorem lc_4 {p : Program} {e : Env} {s : State} {m : MethodId} {below : List Frame} {meth : Method} {c : Code} (l : Launch) {b0 L : Nat} {xs : Nat → Int32} (C0 : lw_At p s m meth c b0 L xs) {D : va_G} {cI cC cZ cS : ClassId} (hE : EN D cI cC cZ cS s) {a b a2 : Nat → Nat} {F G : Nat → Nat → Int32} {tc : Int64} {H : Heap} {locs : List Loc} {i : Nat} {ls : Array Slot} (hi : i + 2 < L) (hL : L ≤ 192) (hs : LSt D cI cC cZ cS s H locs a b a2 F G tc) (hl : lv_has ls 4 [(0, .ref b0), (1, .ref (a 0)), (2, .ref (a2 0)), (3, .int (nI i))])
    (kb : ∀ (a' : Nat → Nat) (F' G' : Nat → Nat → Int32) (tc' : Int64) (H' : Heap) (locs' : List Loc), a' 0 = a 0 → LSt D cI cC cZ cS s H' locs' a' b a2 F' G' tc' → W p l e room_1 s m #[Value.ref b0] below meth c H' locs' 100 2000 (lw_Z below #[Value.ref b0] s) (F0 m 852 ls [])) : W p l e room_1 s m #[Value.ref b0] below meth c H locs 100 2000 (lw_Z below #[Value.ref b0] s) (F0 m 246 ls []) := by
  obtain ⟨hx, hb, hr, hml, hown, hts0, hX, hbl, hlocks, hgv⟩ := C0
  have hts : ∀ w ∈ wsL_law, w.before #[Value.ref b0] s = true := fun w h => hts0 w (wsL_law_in w h)
  have hbA : ¬ (fun q : Nat => s.heap.size ≤ q) b0 := Nat.not_le.mpr hbl
  obtain ⟨hP, hD, hS, n, len, dd, um, nx, sk, hR⟩ := hs
  have hK := hE.1
  refine lv_aload_n hx hb dL_law_246 rfl (lv_at hl 1 rfl) ?_
  refine lv_aload_n hx hb dL_law_247 rfl (lv_at hl 0 rfl) ?_
  refine lv_iload_n hx hb dL_law_248 rfl (lv_at hl 3 rfl) ?_
  refine lv_iconst (v := 1) hx hb dL_law_249 (by decide) ?_
  refine lv_iadd hx hb dL_law_250 ?_
  refine m_sld hx hb hX hbl hbA hS (i + 1) (nI_1 i) (by omega) (by omega) dL_law_251 ?_
  obtain ⟨r5, hr5, hMr5⟩ : ∃ r : Int32, r = d_X5_now F (xs (i + 1)) n ∧ Met l yX5_now wsX5_now { frames := 4, cells := 0, slots := 0, locals := 88 } (PcE D cI cC cZ cS [.ref (a 0), .int (xs (i + 1))] (wF cI cC cZ cS a b F tc)) (QcR (some (.int r))) 0 0 (fun _ => False) := ⟨_, rfl, c_X5_now l D cI cC cZ cS a b F tc (xs (i + 1)) n hR.1.1 hR.1.2.2.1⟩
  refine lcR (W.runV (As := [.int (xs (i + 1))]) (rest := []) ⟨hx, hb, hml, hown, hts⟩ hMr5 (cwV 1 hts gL_law_X5_now rfl rfl rfl (by decide +kernel) ⟨Nat.le_of_ble_eq_true rfl, Nat.le_of_ble_eq_true rfl⟩) (preV_of (LPF hP) (LDF hD) hE (va_recv hK (LPF hP) (ci := 5) (q0 := 0) rfl rfl)) rfl rfl hl.1 rfl (lv_room (Nat.le_of_ble_eq_true rfl)) dL_law_252 ⟨Nat.le_of_ble_eq_true rfl, Nat.le_of_ble_eq_true rfl⟩) ?_
  refine lv_aload_n hx hb dL_law_255 rfl (lv_at hl 2 rfl) ?_
  refine lv_aload_n hx hb dL_law_256 rfl (lv_at hl 0 rfl) ?_
  refine lv_iload_n hx hb dL_law_257 rfl (lv_at hl 3 rfl) ?_
  refine lv_iconst (v := 1) hx hb dL_law_258 (by decide) ?_
  refine lv_iadd hx hb dL_law_259 ?_
  refine m_sld hx hb hX hbl hbA hS (i + 1) (nI_1 i) (by omega) (by omega) dL_law_260 ?_
  obtain ⟨r6, hr6, hMr6⟩ : ∃ r : Int32 × (Nat → Nat → Int32), r = d_X6_now G (xs (i + 1)) n ∧ Met l yX6_now wsX6_now { frames := 3, cells := 0, slots := 0, locals := 68 } (PcE D cI cC cZ cS [.ref (a2 0), .int (xs (i + 1))] (wM cI cC cZ cS a2 G tc)) (QcM (some (.int r.1)) D (wM cI cC cZ cS a2 G tc) (wM cI cC cZ cS a2 r.2 tc)) 0 0 (inW (wM cI cC cZ cS a2 G tc)) := ⟨_, rfl, c_X6_now l D cI cC cZ cS a2 G tc (xs (i + 1)) n hR.1.2.1 hR.1.2.2.1⟩
  refine lcM (W.runV (As := [.int (xs (i + 1))]) (rest := [.int r5]) ⟨hx, hb, hml, hown, hts⟩ hMr6 (cwV 1 hts gL_law_X6_now rfl rfl rfl (by decide +kernel) ⟨Nat.le_of_ble_eq_true rfl, Nat.le_of_ble_eq_true rfl⟩) (preV_of (LPM hP) (LDM hD) hE (va_recv hK (LPM hP) (ci := 6) (q0 := 0) rfl rfl)) rfl rfl hl.1 rfl (lv_room (Nat.le_of_ble_eq_true rfl)) dL_law_261 ⟨Nat.le_of_ble_eq_true rfl, Nat.le_of_ble_eq_true rfl⟩) hP hD hS (fun H locs hP hD hS => ?_)
  obtain ⟨q1, q2⟩ := q_now hR (xs (i + 1))
  rw [← hr5, ← hr6] at q1
  rw [← hr6] at q2
  refine lv_icmp_eq (tgt := 852) hx hb dL_law_264 (by decide) (fun _ => ?_) (fun c_ => ?_)
  · exact kb a F r6.2 tc H locs rfl ⟨hP, hD, hS, q2.x⟩
  · exact absurd q1 c_
theorem lc_5 {p : Program} {e : Env} {s : State} {m : MethodId} {below : List Frame} {meth : Method} {c : Code} (l : Launch) {b0 L : Nat} {xs : Nat → Int32} (C0 : lw_At p s m meth c b0 L xs) {D : va_G} {cI cC cZ cS : ClassId} (hE : EN D cI cC cZ cS s) {a b a2 : Nat → Nat} {F G : Nat → Nat → Int32} {tc : Int64} {H : Heap} {locs : List Loc} {i : Nat} {ls : Array Slot} (hi : i + 2 < L) (hL : L ≤ 192) (hs : LSt D cI cC cZ cS s H locs a b a2 F G tc) (hl : lv_has ls 4 [(0, .ref b0), (1, .ref (a 0)), (2, .ref (a2 0)), (3, .int (nI i))])
    (kb : ∀ (a' : Nat → Nat) (F' G' : Nat → Nat → Int32) (tc' : Int64) (H' : Heap) (locs' : List Loc), a' 0 = a 0 → LSt D cI cC cZ cS s H' locs' a' b a2 F' G' tc' → W p l e room_1 s m #[Value.ref b0] below meth c H' locs' 100 2000 (lw_Z below #[Value.ref b0] s) (F0 m 852 ls [])) : W p l e room_1 s m #[Value.ref b0] below meth c H locs 100 2000 (lw_Z below #[Value.ref b0] s) (F0 m 269 ls []) := by
  obtain ⟨hx, hb, hr, hml, hown, hts0, hX, hbl, hlocks, hgv⟩ := C0
  have hts : ∀ w ∈ wsL_law, w.before #[Value.ref b0] s = true := fun w h => hts0 w (wsL_law_in w h)
  have hbA : ¬ (fun q : Nat => s.heap.size ≤ q) b0 := Nat.not_le.mpr hbl
  obtain ⟨hP, hD, hS, n, len, dd, um, nx, sk, hR⟩ := hs
  have hK := hE.1
  refine lv_aload_n hx hb dL_law_269 rfl (lv_at hl 1 rfl) ?_
  refine lv_aload_n hx hb dL_law_270 rfl (lv_at hl 0 rfl) ?_
  refine lv_iload_n hx hb dL_law_271 rfl (lv_at hl 3 rfl) ?_
  refine lv_iconst (v := 1) hx hb dL_law_272 (by decide) ?_
  refine lv_iadd hx hb dL_law_273 ?_
  refine m_sld hx hb hX hbl hbA hS (i + 1) (nI_1 i) (by omega) (by omega) dL_law_274 ?_
  obtain ⟨r5, hr5, hMr5⟩ : ∃ r : Int32 × (Nat → Nat → Int32), r = d_X5_swears F (xs (i + 1)) n ∧ Met l yX5_swears wsX5_swears { frames := 3, cells := 0, slots := 0, locals := 65 } (PcE D cI cC cZ cS [.ref (a 0), .int (xs (i + 1))] (wF cI cC cZ cS a b F tc)) (QcM (some (.int r.1)) D (wF cI cC cZ cS a b F tc) (wF cI cC cZ cS a b r.2 tc)) 0 0 (inW (wF cI cC cZ cS a b F tc)) := ⟨_, rfl, c_X5_swears l D cI cC cZ cS a b F tc (xs (i + 1)) n nx hR.1.1 hR.1.2.2.1 hR.2.2.2.1.2.2.2.1 hR.2.2.2.1.2.2.2.2.1⟩
  refine lcF (W.runV (As := [.int (xs (i + 1))]) (rest := []) ⟨hx, hb, hml, hown, hts⟩ hMr5 (cwV 1 hts gL_law_X5_swears rfl rfl rfl (by decide +kernel) ⟨Nat.le_of_ble_eq_true rfl, Nat.le_of_ble_eq_true rfl⟩) (preV_of (LPF hP) (LDF hD) hE (va_recv hK (LPF hP) (ci := 5) (q0 := 0) rfl rfl)) rfl rfl hl.1 rfl (lv_room (Nat.le_of_ble_eq_true rfl)) dL_law_275 ⟨Nat.le_of_ble_eq_true rfl, Nat.le_of_ble_eq_true rfl⟩) hP hD hS (fun H locs hP hD hS => ?_)
  refine lv_aload_n hx hb dL_law_278 rfl (lv_at hl 2 rfl) ?_
  refine lv_aload_n hx hb dL_law_279 rfl (lv_at hl 0 rfl) ?_
  refine lv_iload_n hx hb dL_law_280 rfl (lv_at hl 3 rfl) ?_
  refine lv_iconst (v := 1) hx hb dL_law_281 (by decide) ?_
  refine lv_iadd hx hb dL_law_282 ?_
  refine m_sld hx hb hX hbl hbA hS (i + 1) (nI_1 i) (by omega) (by omega) dL_law_283 ?_
  obtain ⟨r6, hr6, hMr6⟩ : ∃ r : Int32 × (Nat → Nat → Int32), r = d_X6_swears G (xs (i + 1)) n um ∧ Met l yX6_swears wsX6_swears { frames := 2, cells := 0, slots := 0, locals := 45 } (PcE D cI cC cZ cS [.ref (a2 0), .int (xs (i + 1))] (wM cI cC cZ cS a2 G tc)) (QcM (some (.int r.1)) D (wM cI cC cZ cS a2 G tc) (wM cI cC cZ cS a2 r.2 tc)) 0 0 (inW (wM cI cC cZ cS a2 G tc)) := ⟨_, rfl, c_X6_swears l D cI cC cZ cS a2 G tc (xs (i + 1)) n um hR.1.2.1 hR.1.2.2.1 hR.2.2.2.1.2.1 hR.2.2.2.1.2.2.1⟩
  refine lcM (W.runV (As := [.int (xs (i + 1))]) (rest := [.int r5.1]) ⟨hx, hb, hml, hown, hts⟩ hMr6 (cwV 1 hts gL_law_X6_swears rfl rfl rfl (by decide +kernel) ⟨Nat.le_of_ble_eq_true rfl, Nat.le_of_ble_eq_true rfl⟩) (preV_of (LPM hP) (LDM hD) hE (va_recv hK (LPM hP) (ci := 6) (q0 := 0) rfl rfl)) rfl rfl hl.1 rfl (lv_room (Nat.le_of_ble_eq_true rfl)) dL_law_284 ⟨Nat.le_of_ble_eq_true rfl, Nat.le_of_ble_eq_true rfl⟩) hP hD hS (fun H locs hP hD hS => ?_)
  obtain ⟨q1, q2⟩ := q_swears hR (xs (i + 1))
  rw [← hr5, ← hr6] at q1
  rw [← hr5, ← hr6] at q2
  refine lv_icmp_eq (tgt := 852) hx hb dL_law_287 (by decide) (fun _ => ?_) (fun c_ => ?_)
  · exact kb a r5.2 r6.2 tc H locs rfl ⟨hP, hD, hS, q2⟩
  · exact absurd q1 c_
theorem lc_6 {p : Program} {e : Env} {s : State} {m : MethodId} {below : List Frame} {meth : Method} {c : Code} (l : Launch) {b0 L : Nat} {xs : Nat → Int32} (C0 : lw_At p s m meth c b0 L xs) {D : va_G} {cI cC cZ cS : ClassId} (hE : EN D cI cC cZ cS s) {a b a2 : Nat → Nat} {F G : Nat → Nat → Int32} {tc : Int64} {H : Heap} {locs : List Loc} {i : Nat} {ls : Array Slot} (hi : i + 2 < L) (hL : L ≤ 192) (hs : LSt D cI cC cZ cS s H locs a b a2 F G tc) (hl : lv_has ls 4 [(0, .ref b0), (1, .ref (a 0)), (2, .ref (a2 0)), (3, .int (nI i))])
    (kb : ∀ (a' : Nat → Nat) (F' G' : Nat → Nat → Int32) (tc' : Int64) (H' : Heap) (locs' : List Loc), a' 0 = a 0 → LSt D cI cC cZ cS s H' locs' a' b a2 F' G' tc' → W p l e room_1 s m #[Value.ref b0] below meth c H' locs' 100 2000 (lw_Z below #[Value.ref b0] s) (F0 m 852 ls [])) : W p l e room_1 s m #[Value.ref b0] below meth c H locs 100 2000 (lw_Z below #[Value.ref b0] s) (F0 m 292 ls []) := by
  obtain ⟨hx, hb, hr, hml, hown, hts0, hX, hbl, hlocks, hgv⟩ := C0
  have hts : ∀ w ∈ wsL_law, w.before #[Value.ref b0] s = true := fun w h => hts0 w (wsL_law_in w h)
  have hbA : ¬ (fun q : Nat => s.heap.size ≤ q) b0 := Nat.not_le.mpr hbl
  obtain ⟨hP, hD, hS, n, len, dd, um, nx, sk, hR⟩ := hs
  have hK := hE.1
  refine lv_aload_n hx hb dL_law_292 rfl (lv_at hl 1 rfl) ?_
  refine lv_aload_n hx hb dL_law_293 rfl (lv_at hl 0 rfl) ?_
  refine lv_iload_n hx hb dL_law_294 rfl (lv_at hl 3 rfl) ?_
  refine lv_iconst (v := 1) hx hb dL_law_295 (by decide) ?_
  refine lv_iadd hx hb dL_law_296 ?_
  refine m_sld hx hb hX hbl hbA hS (i + 1) (nI_1 i) (by omega) (by omega) dL_law_297 ?_
  refine lv_aload_n hx hb dL_law_298 rfl (lv_at hl 0 rfl) ?_
  refine lv_iload_n hx hb dL_law_299 rfl (lv_at hl 3 rfl) ?_
  refine lv_iconst (v := 2) hx hb dL_law_300 (by decide) ?_
  refine lv_iadd hx hb dL_law_301 ?_
  refine m_sld hx hb hX hbl hbA hS (i + 2) (nI_2 i) (by omega) (by omega) dL_law_302 ?_
  obtain ⟨r5, hr5, hMr5⟩ : ∃ r : Int32 × (Nat → Nat → Int32), r = d_X5_keepsIn F (xs (i + 1)) (xs (i + 2)) ∧ Met l yX5_keepsIn wsX5_keepsIn { frames := 2, cells := 0, slots := 0, locals := 42 } (PcE D cI cC cZ cS [.ref (a 0), .int (xs (i + 1)), .int (xs (i + 2))] (wF cI cC cZ cS a b F tc)) (QcM (some (.int r.1)) D (wF cI cC cZ cS a b F tc) (wF cI cC cZ cS a b r.2 tc)) 0 0 (inW (wF cI cC cZ cS a b F tc)) := ⟨_, rfl, c_X5_keepsIn l D cI cC cZ cS a b F tc (xs (i + 1)) (xs (i + 2)) n nx hR.1.1 hR.1.2.2.1 hR.2.2.2.1.2.2.2.1 hR.2.2.2.1.2.2.2.2.1⟩
  refine lcF (W.runV (As := [.int (xs (i + 1)), .int (xs (i + 2))]) (rest := []) ⟨hx, hb, hml, hown, hts⟩ hMr5 (cwV 2 hts gL_law_X5_keepsIn rfl rfl rfl (by decide +kernel) ⟨Nat.le_of_ble_eq_true rfl, Nat.le_of_ble_eq_true rfl⟩) (preV_of (LPF hP) (LDF hD) hE (va_recv hK (LPF hP) (ci := 5) (q0 := 0) rfl rfl)) rfl rfl hl.1 rfl (lv_room (Nat.le_of_ble_eq_true rfl)) dL_law_303 ⟨Nat.le_of_ble_eq_true rfl, Nat.le_of_ble_eq_true rfl⟩) hP hD hS (fun H locs hP hD hS => ?_)
  refine lv_aload_n hx hb dL_law_306 rfl (lv_at hl 2 rfl) ?_
  refine lv_aload_n hx hb dL_law_307 rfl (lv_at hl 0 rfl) ?_
  refine lv_iload_n hx hb dL_law_308 rfl (lv_at hl 3 rfl) ?_
  refine lv_iconst (v := 1) hx hb dL_law_309 (by decide) ?_
  refine lv_iadd hx hb dL_law_310 ?_
  refine m_sld hx hb hX hbl hbA hS (i + 1) (nI_1 i) (by omega) (by omega) dL_law_311 ?_
  refine lv_aload_n hx hb dL_law_312 rfl (lv_at hl 0 rfl) ?_
  refine lv_iload_n hx hb dL_law_313 rfl (lv_at hl 3 rfl) ?_
  refine lv_iconst (v := 2) hx hb dL_law_314 (by decide) ?_
  refine lv_iadd hx hb dL_law_315 ?_
  refine m_sld hx hb hX hbl hbA hS (i + 2) (nI_2 i) (by omega) (by omega) dL_law_316 ?_
  obtain ⟨r6, hr6, hMr6⟩ : ∃ r : Int32 × (Nat → Nat → Int32), r = d_X6_keepsIn G (xs (i + 1)) (xs (i + 2)) n um ∧ Met l yX6_keepsIn wsX6_keepsIn { frames := 3, cells := 0, slots := 0, locals := 67 } (PcE D cI cC cZ cS [.ref (a2 0), .int (xs (i + 1)), .int (xs (i + 2))] (wM cI cC cZ cS a2 G tc)) (QcM (some (.int r.1)) D (wM cI cC cZ cS a2 G tc) (wM cI cC cZ cS a2 r.2 tc)) 0 0 (inW (wM cI cC cZ cS a2 G tc)) := ⟨_, rfl, c_X6_keepsIn l D cI cC cZ cS a2 G tc (xs (i + 1)) (xs (i + 2)) n um hR.1.2.1 hR.1.2.2.1 hR.2.2.2.1.2.1 hR.2.2.2.1.2.2.1⟩
  refine lcM (W.runV (As := [.int (xs (i + 1)), .int (xs (i + 2))]) (rest := [.int r5.1]) ⟨hx, hb, hml, hown, hts⟩ hMr6 (cwV 2 hts gL_law_X6_keepsIn rfl rfl rfl (by decide +kernel) ⟨Nat.le_of_ble_eq_true rfl, Nat.le_of_ble_eq_true rfl⟩) (preV_of (LPM hP) (LDM hD) hE (va_recv hK (LPM hP) (ci := 6) (q0 := 0) rfl rfl)) rfl rfl hl.1 rfl (lv_room (Nat.le_of_ble_eq_true rfl)) dL_law_317 ⟨Nat.le_of_ble_eq_true rfl, Nat.le_of_ble_eq_true rfl⟩) hP hD hS (fun H locs hP hD hS => ?_)
  obtain ⟨q1, q2⟩ := q_keepsIn hR (xs (i + 1)) (xs (i + 2))
  rw [← hr5, ← hr6] at q1
  rw [← hr5, ← hr6] at q2
  refine lv_icmp_eq (tgt := 852) hx hb dL_law_320 (by decide) (fun _ => ?_) (fun c_ => ?_)
  · exact kb a r5.2 r6.2 tc H locs rfl ⟨hP, hD, hS, q2⟩
  · exact absurd q1 c_
theorem lc_7 {p : Program} {e : Env} {s : State} {m : MethodId} {below : List Frame} {meth : Method} {c : Code} (l : Launch) {b0 L : Nat} {xs : Nat → Int32} (C0 : lw_At p s m meth c b0 L xs) {D : va_G} {cI cC cZ cS : ClassId} (hE : EN D cI cC cZ cS s) {a b a2 : Nat → Nat} {F G : Nat → Nat → Int32} {tc : Int64} {H : Heap} {locs : List Loc} {i : Nat} {ls : Array Slot} (hi : i + 2 < L) (hL : L ≤ 192) (hs : LSt D cI cC cZ cS s H locs a b a2 F G tc) (hl : lv_has ls 4 [(0, .ref b0), (1, .ref (a 0)), (2, .ref (a2 0)), (3, .int (nI i))])
    (kb : ∀ (a' : Nat → Nat) (F' G' : Nat → Nat → Int32) (tc' : Int64) (H' : Heap) (locs' : List Loc), a' 0 = a 0 → LSt D cI cC cZ cS s H' locs' a' b a2 F' G' tc' → W p l e room_1 s m #[Value.ref b0] below meth c H' locs' 100 2000 (lw_Z below #[Value.ref b0] s) (F0 m 852 ls [])) : W p l e room_1 s m #[Value.ref b0] below meth c H locs 100 2000 (lw_Z below #[Value.ref b0] s) (F0 m 325 ls []) := by
  obtain ⟨hx, hb, hr, hml, hown, hts0, hX, hbl, hlocks, hgv⟩ := C0
  have hts : ∀ w ∈ wsL_law, w.before #[Value.ref b0] s = true := fun w h => hts0 w (wsL_law_in w h)
  have hbA : ¬ (fun q : Nat => s.heap.size ≤ q) b0 := Nat.not_le.mpr hbl
  obtain ⟨hP, hD, hS, n, len, dd, um, nx, sk, hR⟩ := hs
  have hK := hE.1
  refine lv_aload_n hx hb dL_law_325 rfl (lv_at hl 1 rfl) ?_
  refine lv_aload_n hx hb dL_law_326 rfl (lv_at hl 0 rfl) ?_
  refine lv_iload_n hx hb dL_law_327 rfl (lv_at hl 3 rfl) ?_
  refine lv_iconst (v := 1) hx hb dL_law_328 (by decide) ?_
  refine lv_iadd hx hb dL_law_329 ?_
  refine m_sld hx hb hX hbl hbA hS (i + 1) (nI_1 i) (by omega) (by omega) dL_law_330 ?_
  refine lv_aload_n hx hb dL_law_331 rfl (lv_at hl 0 rfl) ?_
  refine lv_iload_n hx hb dL_law_332 rfl (lv_at hl 3 rfl) ?_
  refine lv_iconst (v := 2) hx hb dL_law_333 (by decide) ?_
  refine lv_iadd hx hb dL_law_334 ?_
  refine m_sld hx hb hX hbl hbA hS (i + 2) (nI_2 i) (by omega) (by omega) dL_law_335 ?_
  obtain ⟨r5, hr5, hMr5⟩ : ∃ r : Int32 × (Nat → Nat → Int32), r = d_X5_tells F (xs (i + 1)) (xs (i + 2)) ∧ Met l yX5_tells wsX5_tells { frames := 2, cells := 0, slots := 0, locals := 42 } (PcE D cI cC cZ cS [.ref (a 0), .int (xs (i + 1)), .int (xs (i + 2))] (wF cI cC cZ cS a b F tc)) (QcM (some (.int r.1)) D (wF cI cC cZ cS a b F tc) (wF cI cC cZ cS a b r.2 tc)) 0 0 (inW (wF cI cC cZ cS a b F tc)) := ⟨_, rfl, c_X5_tells l D cI cC cZ cS a b F tc (xs (i + 1)) (xs (i + 2)) n nx hR.1.1 hR.1.2.2.1 hR.2.2.2.1.2.2.2.1 hR.2.2.2.1.2.2.2.2.1⟩
  refine lcF (W.runV (As := [.int (xs (i + 1)), .int (xs (i + 2))]) (rest := []) ⟨hx, hb, hml, hown, hts⟩ hMr5 (cwV 2 hts gL_law_X5_tells rfl rfl rfl (by decide +kernel) ⟨Nat.le_of_ble_eq_true rfl, Nat.le_of_ble_eq_true rfl⟩) (preV_of (LPF hP) (LDF hD) hE (va_recv hK (LPF hP) (ci := 5) (q0 := 0) rfl rfl)) rfl rfl hl.1 rfl (lv_room (Nat.le_of_ble_eq_true rfl)) dL_law_336 ⟨Nat.le_of_ble_eq_true rfl, Nat.le_of_ble_eq_true rfl⟩) hP hD hS (fun H locs hP hD hS => ?_)
  refine lv_aload_n hx hb dL_law_339 rfl (lv_at hl 2 rfl) ?_
  refine lv_aload_n hx hb dL_law_340 rfl (lv_at hl 0 rfl) ?_
  refine lv_iload_n hx hb dL_law_341 rfl (lv_at hl 3 rfl) ?_
  refine lv_iconst (v := 1) hx hb dL_law_342 (by decide) ?_
  refine lv_iadd hx hb dL_law_343 ?_
  refine m_sld hx hb hX hbl hbA hS (i + 1) (nI_1 i) (by omega) (by omega) dL_law_344 ?_
  refine lv_aload_n hx hb dL_law_345 rfl (lv_at hl 0 rfl) ?_
  refine lv_iload_n hx hb dL_law_346 rfl (lv_at hl 3 rfl) ?_
  refine lv_iconst (v := 2) hx hb dL_law_347 (by decide) ?_
  refine lv_iadd hx hb dL_law_348 ?_
  refine m_sld hx hb hX hbl hbA hS (i + 2) (nI_2 i) (by omega) (by omega) dL_law_349 ?_
  obtain ⟨r6, hr6, hMr6⟩ : ∃ r : Int32 × (Nat → Nat → Int32), r = d_X6_tells G (xs (i + 1)) (xs (i + 2)) n um ∧ Met l yX6_tells wsX6_tells { frames := 3, cells := 0, slots := 0, locals := 67 } (PcE D cI cC cZ cS [.ref (a2 0), .int (xs (i + 1)), .int (xs (i + 2))] (wM cI cC cZ cS a2 G tc)) (QcM (some (.int r.1)) D (wM cI cC cZ cS a2 G tc) (wM cI cC cZ cS a2 r.2 tc)) 0 0 (inW (wM cI cC cZ cS a2 G tc)) := ⟨_, rfl, c_X6_tells l D cI cC cZ cS a2 G tc (xs (i + 1)) (xs (i + 2)) n um hR.1.2.1 hR.1.2.2.1 hR.2.2.2.1.2.1 hR.2.2.2.1.2.2.1⟩
  refine lcM (W.runV (As := [.int (xs (i + 1)), .int (xs (i + 2))]) (rest := [.int r5.1]) ⟨hx, hb, hml, hown, hts⟩ hMr6 (cwV 2 hts gL_law_X6_tells rfl rfl rfl (by decide +kernel) ⟨Nat.le_of_ble_eq_true rfl, Nat.le_of_ble_eq_true rfl⟩) (preV_of (LPM hP) (LDM hD) hE (va_recv hK (LPM hP) (ci := 6) (q0 := 0) rfl rfl)) rfl rfl hl.1 rfl (lv_room (Nat.le_of_ble_eq_true rfl)) dL_law_350 ⟨Nat.le_of_ble_eq_true rfl, Nat.le_of_ble_eq_true rfl⟩) hP hD hS (fun H locs hP hD hS => ?_)
  obtain ⟨q1, q2⟩ := q_tells hR (xs (i + 1)) (xs (i + 2))
  rw [← hr5, ← hr6] at q1
  rw [← hr5, ← hr6] at q2
  refine lv_icmp_eq (tgt := 852) hx hb dL_law_353 (by decide) (fun _ => ?_) (fun c_ => ?_)
  · exact kb a r5.2 r6.2 tc H locs rfl ⟨hP, hD, hS, q2⟩
  · exact absurd q1 c_
theorem lc_8 {p : Program} {e : Env} {s : State} {m : MethodId} {below : List Frame} {meth : Method} {c : Code} (l : Launch) {b0 L : Nat} {xs : Nat → Int32} (C0 : lw_At p s m meth c b0 L xs) {D : va_G} {cI cC cZ cS : ClassId} (hE : EN D cI cC cZ cS s) {a b a2 : Nat → Nat} {F G : Nat → Nat → Int32} {tc : Int64} {H : Heap} {locs : List Loc} {i : Nat} {ls : Array Slot} (hi : i + 2 < L) (hL : L ≤ 192) (hs : LSt D cI cC cZ cS s H locs a b a2 F G tc) (hl : lv_has ls 4 [(0, .ref b0), (1, .ref (a 0)), (2, .ref (a2 0)), (3, .int (nI i))])
    (kb : ∀ (a' : Nat → Nat) (F' G' : Nat → Nat → Int32) (tc' : Int64) (H' : Heap) (locs' : List Loc), a' 0 = a 0 → LSt D cI cC cZ cS s H' locs' a' b a2 F' G' tc' → W p l e room_1 s m #[Value.ref b0] below meth c H' locs' 100 2000 (lw_Z below #[Value.ref b0] s) (F0 m 852 ls [])) : W p l e room_1 s m #[Value.ref b0] below meth c H locs 100 2000 (lw_Z below #[Value.ref b0] s) (F0 m 358 ls []) := by
  obtain ⟨hx, hb, hr, hml, hown, hts0, hX, hbl, hlocks, hgv⟩ := C0
  have hts : ∀ w ∈ wsL_law, w.before #[Value.ref b0] s = true := fun w h => hts0 w (wsL_law_in w h)
  have hbA : ¬ (fun q : Nat => s.heap.size ≤ q) b0 := Nat.not_le.mpr hbl
  obtain ⟨hP, hD, hS, n, len, dd, um, nx, sk, hR⟩ := hs
  have hK := hE.1
  refine lv_aload_n hx hb dL_law_358 rfl (lv_at hl 1 rfl) ?_
  refine lv_aload_n hx hb dL_law_359 rfl (lv_at hl 0 rfl) ?_
  refine lv_iload_n hx hb dL_law_360 rfl (lv_at hl 3 rfl) ?_
  refine lv_iconst (v := 1) hx hb dL_law_361 (by decide) ?_
  refine lv_iadd hx hb dL_law_362 ?_
  refine m_sld hx hb hX hbl hbA hS (i + 1) (nI_1 i) (by omega) (by omega) dL_law_363 ?_
  obtain ⟨r5, hr5, hMr5⟩ : ∃ r : Int32 × (Nat → Nat → Int32), r = d_X5_day F (xs (i + 1)) n ∧ Met l yX5_day wsX5_day { frames := 4, cells := 0, slots := 0, locals := 92 } (PcE D cI cC cZ cS [.ref (a 0), .int (xs (i + 1))] (wF cI cC cZ cS a b F tc)) (QcM (some (.int r.1)) D (wF cI cC cZ cS a b F tc) (wF cI cC cZ cS a b r.2 tc)) 0 0 (inW (wF cI cC cZ cS a b F tc)) := ⟨_, rfl, c_X5_day l D cI cC cZ cS a b F tc (xs (i + 1)) n nx hR.1.1 hR.1.2.2.1 hR.2.2.2.1.2.2.2.1 hR.2.2.2.1.2.2.2.2.1⟩
  refine lcF (W.runV (As := [.int (xs (i + 1))]) (rest := []) ⟨hx, hb, hml, hown, hts⟩ hMr5 (cwV 1 hts gL_law_X5_day rfl rfl rfl (by decide +kernel) ⟨Nat.le_of_ble_eq_true rfl, Nat.le_of_ble_eq_true rfl⟩) (preV_of (LPF hP) (LDF hD) hE (va_recv hK (LPF hP) (ci := 5) (q0 := 0) rfl rfl)) rfl rfl hl.1 rfl (lv_room (Nat.le_of_ble_eq_true rfl)) dL_law_364 ⟨Nat.le_of_ble_eq_true rfl, Nat.le_of_ble_eq_true rfl⟩) hP hD hS (fun H locs hP hD hS => ?_)
  refine lv_aload_n hx hb dL_law_367 rfl (lv_at hl 2 rfl) ?_
  refine lv_aload_n hx hb dL_law_368 rfl (lv_at hl 0 rfl) ?_
  refine lv_iload_n hx hb dL_law_369 rfl (lv_at hl 3 rfl) ?_
  refine lv_iconst (v := 1) hx hb dL_law_370 (by decide) ?_
  refine lv_iadd hx hb dL_law_371 ?_
  refine m_sld hx hb hX hbl hbA hS (i + 1) (nI_1 i) (by omega) (by omega) dL_law_372 ?_
  obtain ⟨r6, hr6, hMr6⟩ : ∃ r : Int32 × (Nat → Nat → Int32), r = d_X6_day G (xs (i + 1)) n um dd ∧ Met l yX6_day wsX6_day { frames := 5, cells := 0, slots := 0, locals := 119 } (PcE D cI cC cZ cS [.ref (a2 0), .int (xs (i + 1))] (wM cI cC cZ cS a2 G tc)) (QcM (some (.int r.1)) D (wM cI cC cZ cS a2 G tc) (wM cI cC cZ cS a2 r.2 tc)) 0 0 (inW (wM cI cC cZ cS a2 G tc)) := ⟨_, rfl, c_X6_day l D cI cC cZ cS a2 G tc (xs (i + 1)) n um dd hR.1.2.1 hR.1.2.2.1 hR.2.2.2.1.2.1 hR.2.2.2.1.2.2.1 hR.1.2.2.2.2.2.2.2.2.2.1 (hR.2.2.1.1.1.trans hR.2.2.1.2.1) hR.2.2.1.2.2⟩
  refine lcM (W.runV (As := [.int (xs (i + 1))]) (rest := [.int r5.1]) ⟨hx, hb, hml, hown, hts⟩ hMr6 (cwV 1 hts gL_law_X6_day rfl rfl rfl (by decide +kernel) ⟨Nat.le_of_ble_eq_true rfl, Nat.le_of_ble_eq_true rfl⟩) (preV_of (LPM hP) (LDM hD) hE (va_recv hK (LPM hP) (ci := 6) (q0 := 0) rfl rfl)) rfl rfl hl.1 rfl (lv_room (Nat.le_of_ble_eq_true rfl)) dL_law_373 ⟨Nat.le_of_ble_eq_true rfl, Nat.le_of_ble_eq_true rfl⟩) hP hD hS (fun H locs hP hD hS => ?_)
  obtain ⟨q1, q2⟩ := q_day hR (xs (i + 1))
  rw [← hr5, ← hr6] at q1
  rw [← hr5, ← hr6] at q2
  refine lv_icmp_eq (tgt := 852) hx hb dL_law_376 (by decide) (fun _ => ?_) (fun c_ => ?_)
  · exact kb a r5.2 r6.2 tc H locs rfl ⟨hP, hD, hS, q2⟩
  · exact absurd q1 c_
theorem lc_9 {p : Program} {e : Env} {s : State} {m : MethodId} {below : List Frame} {meth : Method} {c : Code} (l : Launch) {b0 L : Nat} {xs : Nat → Int32} (C0 : lw_At p s m meth c b0 L xs) {D : va_G} {cI cC cZ cS : ClassId} (hE : EN D cI cC cZ cS s) {a b a2 : Nat → Nat} {F G : Nat → Nat → Int32} {tc : Int64} {H : Heap} {locs : List Loc} {i : Nat} {ls : Array Slot} (hi : i + 2 < L) (hL : L ≤ 192) (hs : LSt D cI cC cZ cS s H locs a b a2 F G tc) (hl : lv_has ls 4 [(0, .ref b0), (1, .ref (a 0)), (2, .ref (a2 0)), (3, .int (nI i))])
    (kb : ∀ (a' : Nat → Nat) (F' G' : Nat → Nat → Int32) (tc' : Int64) (H' : Heap) (locs' : List Loc), a' 0 = a 0 → LSt D cI cC cZ cS s H' locs' a' b a2 F' G' tc' → W p l e room_1 s m #[Value.ref b0] below meth c H' locs' 100 2000 (lw_Z below #[Value.ref b0] s) (F0 m 852 ls [])) : W p l e room_1 s m #[Value.ref b0] below meth c H locs 100 2000 (lw_Z below #[Value.ref b0] s) (F0 m 381 ls []) := by
  obtain ⟨hx, hb, hr, hml, hown, hts0, hX, hbl, hlocks, hgv⟩ := C0
  have hts : ∀ w ∈ wsL_law, w.before #[Value.ref b0] s = true := fun w h => hts0 w (wsL_law_in w h)
  have hbA : ¬ (fun q : Nat => s.heap.size ≤ q) b0 := Nat.not_le.mpr hbl
  obtain ⟨hP, hD, hS, n, len, dd, um, nx, sk, hR⟩ := hs
  have hK := hE.1
  refine lv_aload_n hx hb dL_law_381 rfl (lv_at hl 1 rfl) ?_
  obtain ⟨r5, hr5, hMr5⟩ : ∃ r : Int32 × (Nat → Nat → Int32), r = d_X5_undo F ∧ Met l yX5_undo wsX5_undo { frames := 2, cells := 0, slots := 0, locals := 42 } (PcE D cI cC cZ cS [.ref (a 0)] (wF cI cC cZ cS a b F tc)) (QcM (some (.int r.1)) D (wF cI cC cZ cS a b F tc) (wF cI cC cZ cS a b r.2 tc)) 0 0 (inW (wF cI cC cZ cS a b F tc)) := ⟨_, rfl, c_X5_undo l D cI cC cZ cS a b F tc nx hR.2.2.2.1.2.2.2.1 hR.2.2.2.1.2.2.2.2.1⟩
  refine lcF (W.runV (As := []) (rest := []) ⟨hx, hb, hml, hown, hts⟩ hMr5 (cwV 0 hts gL_law_X5_undo rfl rfl rfl (by decide +kernel) ⟨Nat.le_of_ble_eq_true rfl, Nat.le_of_ble_eq_true rfl⟩) (preV_of (LPF hP) (LDF hD) hE (va_recv hK (LPF hP) (ci := 5) (q0 := 0) rfl rfl)) rfl rfl hl.1 rfl (lv_room (Nat.le_of_ble_eq_true rfl)) dL_law_382 ⟨Nat.le_of_ble_eq_true rfl, Nat.le_of_ble_eq_true rfl⟩) hP hD hS (fun H locs hP hD hS => ?_)
  refine lv_aload_n hx hb dL_law_385 rfl (lv_at hl 2 rfl) ?_
  obtain ⟨r6, hr6, hMr6⟩ : ∃ r : Int32 × (Nat → Nat → Int32), r = d_X6_undo G um ∧ Met l yX6_undo wsX6_undo { frames := 0, cells := 0, slots := 0, locals := 0 } (PcE D cI cC cZ cS [.ref (a2 0)] (wM cI cC cZ cS a2 G tc)) (QcM (some (.int r.1)) D (wM cI cC cZ cS a2 G tc) (wM cI cC cZ cS a2 r.2 tc)) 0 0 (inW (wM cI cC cZ cS a2 G tc)) := ⟨_, rfl, c_X6_undo l D cI cC cZ cS a2 G tc um hR.2.2.2.1.2.1 hR.2.2.2.1.2.2.1⟩
  refine lcM (W.runV (As := []) (rest := [.int r5.1]) ⟨hx, hb, hml, hown, hts⟩ hMr6 (cwV 0 hts gL_law_X6_undo rfl rfl rfl (by decide +kernel) ⟨Nat.le_of_ble_eq_true rfl, Nat.le_of_ble_eq_true rfl⟩) (preV_of (LPM hP) (LDM hD) hE (va_recv hK (LPM hP) (ci := 6) (q0 := 0) rfl rfl)) rfl rfl hl.1 rfl (lv_room (Nat.le_of_ble_eq_true rfl)) dL_law_386 ⟨Nat.le_of_ble_eq_true rfl, Nat.le_of_ble_eq_true rfl⟩) hP hD hS (fun H locs hP hD hS => ?_)
  obtain ⟨q1, q2⟩ := q_undo hR 
  rw [← hr5, ← hr6] at q1
  rw [← hr5, ← hr6] at q2
  refine lv_icmp_eq (tgt := 852) hx hb dL_law_389 (by decide) (fun _ => ?_) (fun c_ => ?_)
  · exact kb a r5.2 r6.2 tc H locs rfl ⟨hP, hD, hS, q2⟩
  · exact absurd q1 c_
theorem lc_10 {p : Program} {e : Env} {s : State} {m : MethodId} {below : List Frame} {meth : Method} {c : Code} (l : Launch) {b0 L : Nat} {xs : Nat → Int32} (C0 : lw_At p s m meth c b0 L xs) {D : va_G} {cI cC cZ cS : ClassId} (hE : EN D cI cC cZ cS s) {a b a2 : Nat → Nat} {F G : Nat → Nat → Int32} {tc : Int64} {H : Heap} {locs : List Loc} {i : Nat} {ls : Array Slot} (hi : i + 2 < L) (hL : L ≤ 192) (hs : LSt D cI cC cZ cS s H locs a b a2 F G tc) (hl : lv_has ls 4 [(0, .ref b0), (1, .ref (a 0)), (2, .ref (a2 0)), (3, .int (nI i))])
    (kb : ∀ (a' : Nat → Nat) (F' G' : Nat → Nat → Int32) (tc' : Int64) (H' : Heap) (locs' : List Loc), a' 0 = a 0 → LSt D cI cC cZ cS s H' locs' a' b a2 F' G' tc' → W p l e room_1 s m #[Value.ref b0] below meth c H' locs' 100 2000 (lw_Z below #[Value.ref b0] s) (F0 m 852 ls [])) : W p l e room_1 s m #[Value.ref b0] below meth c H locs 100 2000 (lw_Z below #[Value.ref b0] s) (F0 m 394 ls []) := by
  obtain ⟨hx, hb, hr, hml, hown, hts0, hX, hbl, hlocks, hgv⟩ := C0
  have hts : ∀ w ∈ wsL_law, w.before #[Value.ref b0] s = true := fun w h => hts0 w (wsL_law_in w h)
  have hbA : ¬ (fun q : Nat => s.heap.size ≤ q) b0 := Nat.not_le.mpr hbl
  obtain ⟨hP, hD, hS, n, len, dd, um, nx, sk, hR⟩ := hs
  have hK := hE.1
  refine lv_aload_n hx hb dL_law_394 rfl (lv_at hl 1 rfl) ?_
  refine lv_aload_n hx hb dL_law_395 rfl (lv_at hl 0 rfl) ?_
  refine lv_iload_n hx hb dL_law_396 rfl (lv_at hl 3 rfl) ?_
  refine lv_iconst (v := 1) hx hb dL_law_397 (by decide) ?_
  refine lv_iadd hx hb dL_law_398 ?_
  refine m_sld hx hb hX hbl hbA hS (i + 1) (nI_1 i) (by omega) (by omega) dL_law_399 ?_
  obtain ⟨r5, hr5, hMr5⟩ : ∃ r : Int32, r = d_X5_harm F (xs (i + 1)) n ∧ Met l yX5_harm wsX5_harm { frames := 4, cells := 0, slots := 0, locals := 88 } (PcE D cI cC cZ cS [.ref (a 0), .int (xs (i + 1))] (wF cI cC cZ cS a b F tc)) (QcR (some (.int r))) 0 0 (fun _ => False) := ⟨_, rfl, c_X5_harm l D cI cC cZ cS a b F tc (xs (i + 1)) n hR.1.1 hR.1.2.2.1⟩
  refine lcR (W.runV (As := [.int (xs (i + 1))]) (rest := []) ⟨hx, hb, hml, hown, hts⟩ hMr5 (cwV 1 hts gL_law_X5_harm rfl rfl rfl (by decide +kernel) ⟨Nat.le_of_ble_eq_true rfl, Nat.le_of_ble_eq_true rfl⟩) (preV_of (LPF hP) (LDF hD) hE (va_recv hK (LPF hP) (ci := 5) (q0 := 0) rfl rfl)) rfl rfl hl.1 rfl (lv_room (Nat.le_of_ble_eq_true rfl)) dL_law_400 ⟨Nat.le_of_ble_eq_true rfl, Nat.le_of_ble_eq_true rfl⟩) ?_
  refine lv_aload_n hx hb dL_law_403 rfl (lv_at hl 2 rfl) ?_
  refine lv_aload_n hx hb dL_law_404 rfl (lv_at hl 0 rfl) ?_
  refine lv_iload_n hx hb dL_law_405 rfl (lv_at hl 3 rfl) ?_
  refine lv_iconst (v := 1) hx hb dL_law_406 (by decide) ?_
  refine lv_iadd hx hb dL_law_407 ?_
  refine m_sld hx hb hX hbl hbA hS (i + 1) (nI_1 i) (by omega) (by omega) dL_law_408 ?_
  obtain ⟨r6, hr6, hMr6⟩ : ∃ r : Int32 × (Nat → Nat → Int32), r = d_X6_harm G (xs (i + 1)) n ∧ Met l yX6_harm wsX6_harm { frames := 4, cells := 0, slots := 0, locals := 89 } (PcE D cI cC cZ cS [.ref (a2 0), .int (xs (i + 1))] (wM cI cC cZ cS a2 G tc)) (QcM (some (.int r.1)) D (wM cI cC cZ cS a2 G tc) (wM cI cC cZ cS a2 r.2 tc)) 0 0 (inW (wM cI cC cZ cS a2 G tc)) := ⟨_, rfl, c_X6_harm l D cI cC cZ cS a2 G tc (xs (i + 1)) n hR.1.2.1 hR.1.2.2.1 hR.1.2.2.2.2.2.2.2.2.2.1 hR.1.2.2.2.2.2.2.2.2.2.2.1⟩
  refine lcM (W.runV (As := [.int (xs (i + 1))]) (rest := [.int r5]) ⟨hx, hb, hml, hown, hts⟩ hMr6 (cwV 1 hts gL_law_X6_harm rfl rfl rfl (by decide +kernel) ⟨Nat.le_of_ble_eq_true rfl, Nat.le_of_ble_eq_true rfl⟩) (preV_of (LPM hP) (LDM hD) hE (va_recv hK (LPM hP) (ci := 6) (q0 := 0) rfl rfl)) rfl rfl hl.1 rfl (lv_room (Nat.le_of_ble_eq_true rfl)) dL_law_409 ⟨Nat.le_of_ble_eq_true rfl, Nat.le_of_ble_eq_true rfl⟩) hP hD hS (fun H locs hP hD hS => ?_)
  obtain ⟨q1, q2⟩ := q_harm hR (xs (i + 1))
  rw [← hr5, ← hr6] at q1
  rw [← hr6] at q2
  refine lv_icmp_eq (tgt := 852) hx hb dL_law_412 (by decide) (fun _ => ?_) (fun c_ => ?_)
  · exact kb a F r6.2 tc H locs rfl ⟨hP, hD, hS, q2.x⟩
  · exact absurd q1 c_
theorem lc_11 {p : Program} {e : Env} {s : State} {m : MethodId} {below : List Frame} {meth : Method} {c : Code} (l : Launch) {b0 L : Nat} {xs : Nat → Int32} (C0 : lw_At p s m meth c b0 L xs) {D : va_G} {cI cC cZ cS : ClassId} (hE : EN D cI cC cZ cS s) {a b a2 : Nat → Nat} {F G : Nat → Nat → Int32} {tc : Int64} {H : Heap} {locs : List Loc} {i : Nat} {ls : Array Slot} (hi : i + 2 < L) (hL : L ≤ 192) (hs : LSt D cI cC cZ cS s H locs a b a2 F G tc) (hl : lv_has ls 4 [(0, .ref b0), (1, .ref (a 0)), (2, .ref (a2 0)), (3, .int (nI i))])
    (kb : ∀ (a' : Nat → Nat) (F' G' : Nat → Nat → Int32) (tc' : Int64) (H' : Heap) (locs' : List Loc), a' 0 = a 0 → LSt D cI cC cZ cS s H' locs' a' b a2 F' G' tc' → W p l e room_1 s m #[Value.ref b0] below meth c H' locs' 100 2000 (lw_Z below #[Value.ref b0] s) (F0 m 852 ls [])) : W p l e room_1 s m #[Value.ref b0] below meth c H locs 100 2000 (lw_Z below #[Value.ref b0] s) (F0 m 417 ls []) := by
  obtain ⟨hx, hb, hr, hml, hown, hts0, hX, hbl, hlocks, hgv⟩ := C0
  have hts : ∀ w ∈ wsL_law, w.before #[Value.ref b0] s = true := fun w h => hts0 w (wsL_law_in w h)
  have hbA : ¬ (fun q : Nat => s.heap.size ≤ q) b0 := Nat.not_le.mpr hbl
  obtain ⟨hP, hD, hS, n, len, dd, um, nx, sk, hR⟩ := hs
  have hK := hE.1
  refine lv_aload_n hx hb dL_law_417 rfl (lv_at hl 1 rfl) ?_
  refine lv_aload_n hx hb dL_law_418 rfl (lv_at hl 0 rfl) ?_
  refine lv_iload_n hx hb dL_law_419 rfl (lv_at hl 3 rfl) ?_
  refine lv_iconst (v := 1) hx hb dL_law_420 (by decide) ?_
  refine lv_iadd hx hb dL_law_421 ?_
  refine m_sld hx hb hX hbl hbA hS (i + 1) (nI_1 i) (by omega) (by omega) dL_law_422 ?_
  refine lv_aload_n hx hb dL_law_423 rfl (lv_at hl 0 rfl) ?_
  refine lv_iload_n hx hb dL_law_424 rfl (lv_at hl 3 rfl) ?_
  refine lv_iconst (v := 2) hx hb dL_law_425 (by decide) ?_
  refine lv_iadd hx hb dL_law_426 ?_
  refine m_sld hx hb hX hbl hbA hS (i + 2) (nI_2 i) (by omega) (by omega) dL_law_427 ?_
  obtain ⟨r5, hr5, hMr5⟩ : ∃ r : Int32, r = d_X5_odds F (xs (i + 1)) (xs (i + 2)) n ∧ Met l yX5_odds wsX5_odds { frames := 4, cells := 0, slots := 0, locals := 88 } (PcE D cI cC cZ cS [.ref (a 0), .int (xs (i + 1)), .int (xs (i + 2))] (wF cI cC cZ cS a b F tc)) (QcR (some (.int r))) 0 0 (fun _ => False) := ⟨_, rfl, c_X5_odds l D cI cC cZ cS a b F tc (xs (i + 1)) (xs (i + 2)) n hR.1.1 hR.1.2.2.1⟩
  refine lcR (W.runV (As := [.int (xs (i + 1)), .int (xs (i + 2))]) (rest := []) ⟨hx, hb, hml, hown, hts⟩ hMr5 (cwV 2 hts gL_law_X5_odds rfl rfl rfl (by decide +kernel) ⟨Nat.le_of_ble_eq_true rfl, Nat.le_of_ble_eq_true rfl⟩) (preV_of (LPF hP) (LDF hD) hE (va_recv hK (LPF hP) (ci := 5) (q0 := 0) rfl rfl)) rfl rfl hl.1 rfl (lv_room (Nat.le_of_ble_eq_true rfl)) dL_law_428 ⟨Nat.le_of_ble_eq_true rfl, Nat.le_of_ble_eq_true rfl⟩) ?_
  refine lv_aload_n hx hb dL_law_431 rfl (lv_at hl 2 rfl) ?_
  refine lv_aload_n hx hb dL_law_432 rfl (lv_at hl 0 rfl) ?_
  refine lv_iload_n hx hb dL_law_433 rfl (lv_at hl 3 rfl) ?_
  refine lv_iconst (v := 1) hx hb dL_law_434 (by decide) ?_
  refine lv_iadd hx hb dL_law_435 ?_
  refine m_sld hx hb hX hbl hbA hS (i + 1) (nI_1 i) (by omega) (by omega) dL_law_436 ?_
  refine lv_aload_n hx hb dL_law_437 rfl (lv_at hl 0 rfl) ?_
  refine lv_iload_n hx hb dL_law_438 rfl (lv_at hl 3 rfl) ?_
  refine lv_iconst (v := 2) hx hb dL_law_439 (by decide) ?_
  refine lv_iadd hx hb dL_law_440 ?_
  refine m_sld hx hb hX hbl hbA hS (i + 2) (nI_2 i) (by omega) (by omega) dL_law_441 ?_
  obtain ⟨r6, hr6, hMr6⟩ : ∃ r : Int32 × (Nat → Nat → Int32), r = d_X6_odds G (xs (i + 1)) (xs (i + 2)) n ∧ Met l yX6_odds wsX6_odds { frames := 3, cells := 0, slots := 0, locals := 68 } (PcE D cI cC cZ cS [.ref (a2 0), .int (xs (i + 1)), .int (xs (i + 2))] (wM cI cC cZ cS a2 G tc)) (QcM (some (.int r.1)) D (wM cI cC cZ cS a2 G tc) (wM cI cC cZ cS a2 r.2 tc)) 0 0 (inW (wM cI cC cZ cS a2 G tc)) := ⟨_, rfl, c_X6_odds l D cI cC cZ cS a2 G tc (xs (i + 1)) (xs (i + 2)) n hR.1.2.1 hR.1.2.2.1 hR.1.2.2.2.2.2.2.2.2.2.1⟩
  refine lcM (W.runV (As := [.int (xs (i + 1)), .int (xs (i + 2))]) (rest := [.int r5]) ⟨hx, hb, hml, hown, hts⟩ hMr6 (cwV 2 hts gL_law_X6_odds rfl rfl rfl (by decide +kernel) ⟨Nat.le_of_ble_eq_true rfl, Nat.le_of_ble_eq_true rfl⟩) (preV_of (LPM hP) (LDM hD) hE (va_recv hK (LPM hP) (ci := 6) (q0 := 0) rfl rfl)) rfl rfl hl.1 rfl (lv_room (Nat.le_of_ble_eq_true rfl)) dL_law_442 ⟨Nat.le_of_ble_eq_true rfl, Nat.le_of_ble_eq_true rfl⟩) hP hD hS (fun H locs hP hD hS => ?_)
  obtain ⟨q1, q2⟩ := q_odds hR (xs (i + 1)) (xs (i + 2))
  rw [← hr5, ← hr6] at q1
  rw [← hr6] at q2
  refine lv_icmp_eq (tgt := 852) hx hb dL_law_445 (by decide) (fun _ => ?_) (fun c_ => ?_)
  · exact kb a F r6.2 tc H locs rfl ⟨hP, hD, hS, q2.x⟩
  · exact absurd q1 c_
theorem lc_12 {p : Program} {e : Env} {s : State} {m : MethodId} {below : List Frame} {meth : Method} {c : Code} (l : Launch) {b0 L : Nat} {xs : Nat → Int32} (C0 : lw_At p s m meth c b0 L xs) {D : va_G} {cI cC cZ cS : ClassId} (hE : EN D cI cC cZ cS s) {a b a2 : Nat → Nat} {F G : Nat → Nat → Int32} {tc : Int64} {H : Heap} {locs : List Loc} {i : Nat} {ls : Array Slot} (hi : i + 2 < L) (hL : L ≤ 192) (hs : LSt D cI cC cZ cS s H locs a b a2 F G tc) (hl : lv_has ls 4 [(0, .ref b0), (1, .ref (a 0)), (2, .ref (a2 0)), (3, .int (nI i))])
    (kb : ∀ (a' : Nat → Nat) (F' G' : Nat → Nat → Int32) (tc' : Int64) (H' : Heap) (locs' : List Loc), a' 0 = a 0 → LSt D cI cC cZ cS s H' locs' a' b a2 F' G' tc' → W p l e room_1 s m #[Value.ref b0] below meth c H' locs' 100 2000 (lw_Z below #[Value.ref b0] s) (F0 m 852 ls [])) : W p l e room_1 s m #[Value.ref b0] below meth c H locs 100 2000 (lw_Z below #[Value.ref b0] s) (F0 m 450 ls []) := by
  obtain ⟨hx, hb, hr, hml, hown, hts0, hX, hbl, hlocks, hgv⟩ := C0
  have hts : ∀ w ∈ wsL_law, w.before #[Value.ref b0] s = true := fun w h => hts0 w (wsL_law_in w h)
  have hbA : ¬ (fun q : Nat => s.heap.size ≤ q) b0 := Nat.not_le.mpr hbl
  obtain ⟨hP, hD, hS, n, len, dd, um, nx, sk, hR⟩ := hs
  have hK := hE.1
  refine lv_aload_n hx hb dL_law_450 rfl (lv_at hl 1 rfl) ?_
  refine lv_aload_n hx hb dL_law_451 rfl (lv_at hl 0 rfl) ?_
  refine lv_iload_n hx hb dL_law_452 rfl (lv_at hl 3 rfl) ?_
  refine lv_iconst (v := 1) hx hb dL_law_453 (by decide) ?_
  refine lv_iadd hx hb dL_law_454 ?_
  refine m_sld hx hb hX hbl hbA hS (i + 1) (nI_1 i) (by omega) (by omega) dL_law_455 ?_
  obtain ⟨r5, hr5, hMr5⟩ : ∃ r : Int32, r = d_X5_swear F (xs (i + 1)) n ∧ Met l yX5_swear wsX5_swear { frames := 4, cells := 0, slots := 0, locals := 88 } (PcE D cI cC cZ cS [.ref (a 0), .int (xs (i + 1))] (wF cI cC cZ cS a b F tc)) (QcR (some (.int r))) 0 0 (fun _ => False) := ⟨_, rfl, c_X5_swear l D cI cC cZ cS a b F tc (xs (i + 1)) n hR.1.1 hR.1.2.2.1⟩
  refine lcR (W.runV (As := [.int (xs (i + 1))]) (rest := []) ⟨hx, hb, hml, hown, hts⟩ hMr5 (cwV 1 hts gL_law_X5_swear rfl rfl rfl (by decide +kernel) ⟨Nat.le_of_ble_eq_true rfl, Nat.le_of_ble_eq_true rfl⟩) (preV_of (LPF hP) (LDF hD) hE (va_recv hK (LPF hP) (ci := 5) (q0 := 0) rfl rfl)) rfl rfl hl.1 rfl (lv_room (Nat.le_of_ble_eq_true rfl)) dL_law_456 ⟨Nat.le_of_ble_eq_true rfl, Nat.le_of_ble_eq_true rfl⟩) ?_
  refine lv_aload_n hx hb dL_law_459 rfl (lv_at hl 2 rfl) ?_
  refine lv_aload_n hx hb dL_law_460 rfl (lv_at hl 0 rfl) ?_
  refine lv_iload_n hx hb dL_law_461 rfl (lv_at hl 3 rfl) ?_
  refine lv_iconst (v := 1) hx hb dL_law_462 (by decide) ?_
  refine lv_iadd hx hb dL_law_463 ?_
  refine m_sld hx hb hX hbl hbA hS (i + 1) (nI_1 i) (by omega) (by omega) dL_law_464 ?_
  obtain ⟨r6, hr6, hMr6⟩ : ∃ r : Int32 × (Nat → Nat → Int32), r = d_X6_swear G (xs (i + 1)) n ∧ Met l yX6_swear wsX6_swear { frames := 4, cells := 0, slots := 0, locals := 89 } (PcE D cI cC cZ cS [.ref (a2 0), .int (xs (i + 1))] (wM cI cC cZ cS a2 G tc)) (QcM (some (.int r.1)) D (wM cI cC cZ cS a2 G tc) (wM cI cC cZ cS a2 r.2 tc)) 0 0 (inW (wM cI cC cZ cS a2 G tc)) := ⟨_, rfl, c_X6_swear l D cI cC cZ cS a2 G tc (xs (i + 1)) n hR.1.2.1 hR.1.2.2.1 hR.1.2.2.2.2.2.2.2.2.2.1 hR.1.2.2.2.2.2.2.2.2.2.2.1 hR.1.2.2.2.2.2.2.2.2.2.2.2.1⟩
  refine lcM (W.runV (As := [.int (xs (i + 1))]) (rest := [.int r5]) ⟨hx, hb, hml, hown, hts⟩ hMr6 (cwV 1 hts gL_law_X6_swear rfl rfl rfl (by decide +kernel) ⟨Nat.le_of_ble_eq_true rfl, Nat.le_of_ble_eq_true rfl⟩) (preV_of (LPM hP) (LDM hD) hE (va_recv hK (LPM hP) (ci := 6) (q0 := 0) rfl rfl)) rfl rfl hl.1 rfl (lv_room (Nat.le_of_ble_eq_true rfl)) dL_law_465 ⟨Nat.le_of_ble_eq_true rfl, Nat.le_of_ble_eq_true rfl⟩) hP hD hS (fun H locs hP hD hS => ?_)
  obtain ⟨q1, q2⟩ := q_swear hR (xs (i + 1))
  rw [← hr5, ← hr6] at q1
  rw [← hr6] at q2
  refine lv_icmp_eq (tgt := 852) hx hb dL_law_468 (by decide) (fun _ => ?_) (fun c_ => ?_)
  · exact kb a F r6.2 tc H locs rfl ⟨hP, hD, hS, q2.x⟩
  · exact absurd q1 c_
theorem lc_13 {p : Program} {e : Env} {s : State} {m : MethodId} {below : List Frame} {meth : Method} {c : Code} (l : Launch) {b0 L : Nat} {xs : Nat → Int32} (C0 : lw_At p s m meth c b0 L xs) {D : va_G} {cI cC cZ cS : ClassId} (hE : EN D cI cC cZ cS s) {a b a2 : Nat → Nat} {F G : Nat → Nat → Int32} {tc : Int64} {H : Heap} {locs : List Loc} {i : Nat} {ls : Array Slot} (hi : i + 2 < L) (hL : L ≤ 192) (hs : LSt D cI cC cZ cS s H locs a b a2 F G tc) (hl : lv_has ls 4 [(0, .ref b0), (1, .ref (a 0)), (2, .ref (a2 0)), (3, .int (nI i))])
    (kb : ∀ (a' : Nat → Nat) (F' G' : Nat → Nat → Int32) (tc' : Int64) (H' : Heap) (locs' : List Loc), a' 0 = a 0 → LSt D cI cC cZ cS s H' locs' a' b a2 F' G' tc' → W p l e room_1 s m #[Value.ref b0] below meth c H' locs' 100 2000 (lw_Z below #[Value.ref b0] s) (F0 m 852 ls [])) : W p l e room_1 s m #[Value.ref b0] below meth c H locs 100 2000 (lw_Z below #[Value.ref b0] s) (F0 m 473 ls []) := by
  obtain ⟨hx, hb, hr, hml, hown, hts0, hX, hbl, hlocks, hgv⟩ := C0
  have hts : ∀ w ∈ wsL_law, w.before #[Value.ref b0] s = true := fun w h => hts0 w (wsL_law_in w h)
  have hbA : ¬ (fun q : Nat => s.heap.size ≤ q) b0 := Nat.not_le.mpr hbl
  obtain ⟨hP, hD, hS, n, len, dd, um, nx, sk, hR⟩ := hs
  have hK := hE.1
  refine lv_aload_n hx hb dL_law_473 rfl (lv_at hl 1 rfl) ?_
  refine lv_aload_n hx hb dL_law_474 rfl (lv_at hl 0 rfl) ?_
  refine lv_iload_n hx hb dL_law_475 rfl (lv_at hl 3 rfl) ?_
  refine lv_iconst (v := 1) hx hb dL_law_476 (by decide) ?_
  refine lv_iadd hx hb dL_law_477 ?_
  refine m_sld hx hb hX hbl hbA hS (i + 1) (nI_1 i) (by omega) (by omega) dL_law_478 ?_
  obtain ⟨r5, hr5, hMr5⟩ : ∃ r : Int32, r = d_X5_sense F (xs (i + 1)) n ∧ Met l yX5_sense wsX5_sense { frames := 1, cells := 0, slots := 0, locals := 20 } (PcE D cI cC cZ cS [.ref (a 0), .int (xs (i + 1))] (wF cI cC cZ cS a b F tc)) (QcR (some (.int r))) 0 0 (fun _ => False) := ⟨_, rfl, c_X5_sense l D cI cC cZ cS a b F tc (xs (i + 1)) n hR.1.1 hR.1.2.2.1⟩
  refine lcR (W.runV (As := [.int (xs (i + 1))]) (rest := []) ⟨hx, hb, hml, hown, hts⟩ hMr5 (cwV 1 hts gL_law_X5_sense rfl rfl rfl (by decide +kernel) ⟨Nat.le_of_ble_eq_true rfl, Nat.le_of_ble_eq_true rfl⟩) (preV_of (LPF hP) (LDF hD) hE (va_recv hK (LPF hP) (ci := 5) (q0 := 0) rfl rfl)) rfl rfl hl.1 rfl (lv_room (Nat.le_of_ble_eq_true rfl)) dL_law_479 ⟨Nat.le_of_ble_eq_true rfl, Nat.le_of_ble_eq_true rfl⟩) ?_
  refine lv_aload_n hx hb dL_law_482 rfl (lv_at hl 2 rfl) ?_
  refine lv_aload_n hx hb dL_law_483 rfl (lv_at hl 0 rfl) ?_
  refine lv_iload_n hx hb dL_law_484 rfl (lv_at hl 3 rfl) ?_
  refine lv_iconst (v := 1) hx hb dL_law_485 (by decide) ?_
  refine lv_iadd hx hb dL_law_486 ?_
  refine m_sld hx hb hX hbl hbA hS (i + 1) (nI_1 i) (by omega) (by omega) dL_law_487 ?_
  obtain ⟨r6, hr6, hMr6⟩ : ∃ r : Int32 × (Nat → Nat → Int32), r = d_X6_sense G (xs (i + 1)) n ∧ Met l yX6_sense wsX6_sense { frames := 1, cells := 0, slots := 0, locals := 22 } (PcE D cI cC cZ cS [.ref (a2 0), .int (xs (i + 1))] (wM cI cC cZ cS a2 G tc)) (QcM (some (.int r.1)) D (wM cI cC cZ cS a2 G tc) (wM cI cC cZ cS a2 r.2 tc)) 0 0 (inW (wM cI cC cZ cS a2 G tc)) := ⟨_, rfl, c_X6_sense l D cI cC cZ cS a2 G tc (xs (i + 1)) n hR.1.2.1 hR.1.2.2.1⟩
  refine lcM (W.runV (As := [.int (xs (i + 1))]) (rest := [.int r5]) ⟨hx, hb, hml, hown, hts⟩ hMr6 (cwV 1 hts gL_law_X6_sense rfl rfl rfl (by decide +kernel) ⟨Nat.le_of_ble_eq_true rfl, Nat.le_of_ble_eq_true rfl⟩) (preV_of (LPM hP) (LDM hD) hE (va_recv hK (LPM hP) (ci := 6) (q0 := 0) rfl rfl)) rfl rfl hl.1 rfl (lv_room (Nat.le_of_ble_eq_true rfl)) dL_law_488 ⟨Nat.le_of_ble_eq_true rfl, Nat.le_of_ble_eq_true rfl⟩) hP hD hS (fun H locs hP hD hS => ?_)
  obtain ⟨q1, q2⟩ := q_sense hR (xs (i + 1))
  rw [← hr5, ← hr6] at q1
  rw [← hr6] at q2
  refine lv_icmp_eq (tgt := 852) hx hb dL_law_491 (by decide) (fun _ => ?_) (fun c_ => ?_)
  · exact kb a F r6.2 tc H locs rfl ⟨hP, hD, hS, q2.x⟩
  · exact absurd q1 c_
theorem lc_14 {p : Program} {e : Env} {s : State} {m : MethodId} {below : List Frame} {meth : Method} {c : Code} (l : Launch) {b0 L : Nat} {xs : Nat → Int32} (C0 : lw_At p s m meth c b0 L xs) {D : va_G} {cI cC cZ cS : ClassId} (hE : EN D cI cC cZ cS s) {a b a2 : Nat → Nat} {F G : Nat → Nat → Int32} {tc : Int64} {H : Heap} {locs : List Loc} {i : Nat} {ls : Array Slot} (hi : i + 2 < L) (hL : L ≤ 192) (hs : LSt D cI cC cZ cS s H locs a b a2 F G tc) (hl : lv_has ls 4 [(0, .ref b0), (1, .ref (a 0)), (2, .ref (a2 0)), (3, .int (nI i))])
    (kb : ∀ (a' : Nat → Nat) (F' G' : Nat → Nat → Int32) (tc' : Int64) (H' : Heap) (locs' : List Loc), a' 0 = a 0 → LSt D cI cC cZ cS s H' locs' a' b a2 F' G' tc' → W p l e room_1 s m #[Value.ref b0] below meth c H' locs' 100 2000 (lw_Z below #[Value.ref b0] s) (F0 m 852 ls [])) : W p l e room_1 s m #[Value.ref b0] below meth c H locs 100 2000 (lw_Z below #[Value.ref b0] s) (F0 m 496 ls []) := by
  obtain ⟨hx, hb, hr, hml, hown, hts0, hX, hbl, hlocks, hgv⟩ := C0
  have hts : ∀ w ∈ wsL_law, w.before #[Value.ref b0] s = true := fun w h => hts0 w (wsL_law_in w h)
  have hbA : ¬ (fun q : Nat => s.heap.size ≤ q) b0 := Nat.not_le.mpr hbl
  obtain ⟨hP, hD, hS, n, len, dd, um, nx, sk, hR⟩ := hs
  have hK := hE.1
  refine lv_aload_n hx hb dL_law_496 rfl (lv_at hl 1 rfl) ?_
  refine lv_aload_n hx hb dL_law_497 rfl (lv_at hl 0 rfl) ?_
  refine lv_iload_n hx hb dL_law_498 rfl (lv_at hl 3 rfl) ?_
  refine lv_iconst (v := 1) hx hb dL_law_499 (by decide) ?_
  refine lv_iadd hx hb dL_law_500 ?_
  refine m_sld hx hb hX hbl hbA hS (i + 1) (nI_1 i) (by omega) (by omega) dL_law_501 ?_
  obtain ⟨r5, hr5, hMr5⟩ : ∃ r : Int32, r = d_X5_both F (xs (i + 1)) n ∧ Met l yX5_both wsX5_both { frames := 3, cells := 0, slots := 0, locals := 65 } (PcE D cI cC cZ cS [.ref (a 0), .int (xs (i + 1))] (wF cI cC cZ cS a b F tc)) (QcR (some (.int r))) 0 0 (fun _ => False) := ⟨_, rfl, c_X5_both l D cI cC cZ cS a b F tc (xs (i + 1)) n hR.1.1 hR.1.2.2.1⟩
  refine lcR (W.runV (As := [.int (xs (i + 1))]) (rest := []) ⟨hx, hb, hml, hown, hts⟩ hMr5 (cwV 1 hts gL_law_X5_both rfl rfl rfl (by decide +kernel) ⟨Nat.le_of_ble_eq_true rfl, Nat.le_of_ble_eq_true rfl⟩) (preV_of (LPF hP) (LDF hD) hE (va_recv hK (LPF hP) (ci := 5) (q0 := 0) rfl rfl)) rfl rfl hl.1 rfl (lv_room (Nat.le_of_ble_eq_true rfl)) dL_law_502 ⟨Nat.le_of_ble_eq_true rfl, Nat.le_of_ble_eq_true rfl⟩) ?_
  refine lv_aload_n hx hb dL_law_505 rfl (lv_at hl 2 rfl) ?_
  refine lv_aload_n hx hb dL_law_506 rfl (lv_at hl 0 rfl) ?_
  refine lv_iload_n hx hb dL_law_507 rfl (lv_at hl 3 rfl) ?_
  refine lv_iconst (v := 1) hx hb dL_law_508 (by decide) ?_
  refine lv_iadd hx hb dL_law_509 ?_
  refine m_sld hx hb hX hbl hbA hS (i + 1) (nI_1 i) (by omega) (by omega) dL_law_510 ?_
  obtain ⟨r6, hr6, hMr6⟩ : ∃ r : Int32 × (Nat → Nat → Int32), r = d_X6_both G (xs (i + 1)) n ∧ Met l yX6_both wsX6_both { frames := 2, cells := 0, slots := 0, locals := 45 } (PcE D cI cC cZ cS [.ref (a2 0), .int (xs (i + 1))] (wM cI cC cZ cS a2 G tc)) (QcM (some (.int r.1)) D (wM cI cC cZ cS a2 G tc) (wM cI cC cZ cS a2 r.2 tc)) 0 0 (inW (wM cI cC cZ cS a2 G tc)) := ⟨_, rfl, c_X6_both l D cI cC cZ cS a2 G tc (xs (i + 1)) n hR.1.2.1 hR.1.2.2.1⟩
  refine lcM (W.runV (As := [.int (xs (i + 1))]) (rest := [.int r5]) ⟨hx, hb, hml, hown, hts⟩ hMr6 (cwV 1 hts gL_law_X6_both rfl rfl rfl (by decide +kernel) ⟨Nat.le_of_ble_eq_true rfl, Nat.le_of_ble_eq_true rfl⟩) (preV_of (LPM hP) (LDM hD) hE (va_recv hK (LPM hP) (ci := 6) (q0 := 0) rfl rfl)) rfl rfl hl.1 rfl (lv_room (Nat.le_of_ble_eq_true rfl)) dL_law_511 ⟨Nat.le_of_ble_eq_true rfl, Nat.le_of_ble_eq_true rfl⟩) hP hD hS (fun H locs hP hD hS => ?_)
  obtain ⟨q1, q2⟩ := q_both hR (xs (i + 1))
  rw [← hr5, ← hr6] at q1
  rw [← hr6] at q2
  refine lv_icmp_eq (tgt := 852) hx hb dL_law_514 (by decide) (fun _ => ?_) (fun c_ => ?_)
  · exact kb a F r6.2 tc H locs rfl ⟨hP, hD, hS, q2.x⟩
  · exact absurd q1 c_
theorem lc_15 {p : Program} {e : Env} {s : State} {m : MethodId} {below : List Frame} {meth : Method} {c : Code} (l : Launch) {b0 L : Nat} {xs : Nat → Int32} (C0 : lw_At p s m meth c b0 L xs) {D : va_G} {cI cC cZ cS : ClassId} (hE : EN D cI cC cZ cS s) {a b a2 : Nat → Nat} {F G : Nat → Nat → Int32} {tc : Int64} {H : Heap} {locs : List Loc} {i : Nat} {ls : Array Slot} (hi : i + 2 < L) (hL : L ≤ 192) (hs : LSt D cI cC cZ cS s H locs a b a2 F G tc) (hl : lv_has ls 4 [(0, .ref b0), (1, .ref (a 0)), (2, .ref (a2 0)), (3, .int (nI i))])
    (kb : ∀ (a' : Nat → Nat) (F' G' : Nat → Nat → Int32) (tc' : Int64) (H' : Heap) (locs' : List Loc), a' 0 = a 0 → LSt D cI cC cZ cS s H' locs' a' b a2 F' G' tc' → W p l e room_1 s m #[Value.ref b0] below meth c H' locs' 100 2000 (lw_Z below #[Value.ref b0] s) (F0 m 852 ls [])) : W p l e room_1 s m #[Value.ref b0] below meth c H locs 100 2000 (lw_Z below #[Value.ref b0] s) (F0 m 519 ls []) := by
  obtain ⟨hx, hb, hr, hml, hown, hts0, hX, hbl, hlocks, hgv⟩ := C0
  have hts : ∀ w ∈ wsL_law, w.before #[Value.ref b0] s = true := fun w h => hts0 w (wsL_law_in w h)
  have hbA : ¬ (fun q : Nat => s.heap.size ≤ q) b0 := Nat.not_le.mpr hbl
  obtain ⟨hP, hD, hS, n, len, dd, um, nx, sk, hR⟩ := hs
  have hK := hE.1
  refine lv_aload_n hx hb dL_law_519 rfl (lv_at hl 1 rfl) ?_
  refine lv_aload_n hx hb dL_law_520 rfl (lv_at hl 0 rfl) ?_
  refine lv_iload_n hx hb dL_law_521 rfl (lv_at hl 3 rfl) ?_
  refine lv_iconst (v := 1) hx hb dL_law_522 (by decide) ?_
  refine lv_iadd hx hb dL_law_523 ?_
  refine m_sld hx hb hX hbl hbA hS (i + 1) (nI_1 i) (by omega) (by omega) dL_law_524 ?_
  obtain ⟨r5, hr5, hMr5⟩ : ∃ r : Int32, r = d_X5_means F (xs (i + 1)) n ∧ Met l yX5_means wsX5_means { frames := 3, cells := 0, slots := 0, locals := 68 } (PcE D cI cC cZ cS [.ref (a 0), .int (xs (i + 1))] (wF cI cC cZ cS a b F tc)) (QcR (some (.int r))) 0 0 (fun _ => False) := ⟨_, rfl, c_X5_means l D cI cC cZ cS a b F tc (xs (i + 1)) n hR.1.1 hR.1.2.2.1⟩
  refine lcR (W.runV (As := [.int (xs (i + 1))]) (rest := []) ⟨hx, hb, hml, hown, hts⟩ hMr5 (cwV 1 hts gL_law_X5_means rfl rfl rfl (by decide +kernel) ⟨Nat.le_of_ble_eq_true rfl, Nat.le_of_ble_eq_true rfl⟩) (preV_of (LPF hP) (LDF hD) hE (va_recv hK (LPF hP) (ci := 5) (q0 := 0) rfl rfl)) rfl rfl hl.1 rfl (lv_room (Nat.le_of_ble_eq_true rfl)) dL_law_525 ⟨Nat.le_of_ble_eq_true rfl, Nat.le_of_ble_eq_true rfl⟩) ?_
  refine lv_aload_n hx hb dL_law_528 rfl (lv_at hl 2 rfl) ?_
  refine lv_aload_n hx hb dL_law_529 rfl (lv_at hl 0 rfl) ?_
  refine lv_iload_n hx hb dL_law_530 rfl (lv_at hl 3 rfl) ?_
  refine lv_iconst (v := 1) hx hb dL_law_531 (by decide) ?_
  refine lv_iadd hx hb dL_law_532 ?_
  refine m_sld hx hb hX hbl hbA hS (i + 1) (nI_1 i) (by omega) (by omega) dL_law_533 ?_
  obtain ⟨r6, hr6, hMr6⟩ : ∃ r : Int32 × (Nat → Nat → Int32), r = d_X6_means G (xs (i + 1)) n ∧ Met l yX6_means wsX6_means { frames := 3, cells := 0, slots := 0, locals := 68 } (PcE D cI cC cZ cS [.ref (a2 0), .int (xs (i + 1))] (wM cI cC cZ cS a2 G tc)) (QcM (some (.int r.1)) D (wM cI cC cZ cS a2 G tc) (wM cI cC cZ cS a2 r.2 tc)) 0 0 (inW (wM cI cC cZ cS a2 G tc)) := ⟨_, rfl, c_X6_means l D cI cC cZ cS a2 G tc (xs (i + 1)) n hR.1.2.1 hR.1.2.2.1⟩
  refine lcM (W.runV (As := [.int (xs (i + 1))]) (rest := [.int r5]) ⟨hx, hb, hml, hown, hts⟩ hMr6 (cwV 1 hts gL_law_X6_means rfl rfl rfl (by decide +kernel) ⟨Nat.le_of_ble_eq_true rfl, Nat.le_of_ble_eq_true rfl⟩) (preV_of (LPM hP) (LDM hD) hE (va_recv hK (LPM hP) (ci := 6) (q0 := 0) rfl rfl)) rfl rfl hl.1 rfl (lv_room (Nat.le_of_ble_eq_true rfl)) dL_law_534 ⟨Nat.le_of_ble_eq_true rfl, Nat.le_of_ble_eq_true rfl⟩) hP hD hS (fun H locs hP hD hS => ?_)
  obtain ⟨q1, q2⟩ := q_means hR (xs (i + 1))
  rw [← hr5, ← hr6] at q1
  rw [← hr6] at q2
  refine lv_icmp_eq (tgt := 852) hx hb dL_law_537 (by decide) (fun _ => ?_) (fun c_ => ?_)
  · exact kb a F r6.2 tc H locs rfl ⟨hP, hD, hS, q2.x⟩
  · exact absurd q1 c_
