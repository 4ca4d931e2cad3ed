theorem lc_0 {p : Program} {e : Env} {s : State} {m : MethodId} {below : List Frame} {meth : Method} {c : Code} (l : Launch) {b0 L : Nat} {xs : Nat → Int32} (C0 : lw_At p s m meth c b0 L xs) {D : va_G} {cI cC cZ cS : ClassId} (hE : EN D cI cC cZ cS s) {a b a2 : Nat → Nat} {F G : Nat → Nat → Int32} {tc : Int64} {H : Heap} {locs : List Loc} {i : Nat} {ls : Array Slot} (hi : i + 2 < L) (hL : L ≤ 192) (hs : LSt D cI cC cZ cS s H locs a b a2 F G tc) (hl : lv_has ls 4 [(0, .ref b0), (1, .ref (a 0)), (2, .ref (a2 0)), (3, .int (nI i))])
    (kb : ∀ (a' : Nat → Nat) (F' G' : Nat → Nat → Int32) (tc' : Int64) (H' : Heap) (locs' : List Loc), a' 0 = a 0 → LSt D cI cC cZ cS s H' locs' a' b a2 F' G' tc' → W p l e room_1 s m #[Value.ref b0] below meth c H' locs' 100 2000 (lw_Z below #[Value.ref b0] s) (F0 m 852 ls [])) : W p l e room_1 s m #[Value.ref b0] below meth c H locs 100 2000 (lw_Z below #[Value.ref b0] s) (F0 m 164 ls []) := by
  obtain ⟨hx, hb, hr, hml, hown, hts0, hX, hbl, hlocks, hgv⟩ := C0
  have hts : ∀ w ∈ wsL_law, w.before #[Value.ref b0] s = true := fun w h => hts0 w (wsL_law_in w h)
  have hbA : ¬ (fun q : Nat => s.heap.size ≤ q) b0 := Nat.not_le.mpr hbl
  obtain ⟨hP, hD, hS, n, len, dd, um, nx, sk, hR⟩ := hs
  have hK := hE.1
  refine lv_aload_n hx hb dL_law_164 rfl (lv_at hl 1 rfl) ?_
  refine lv_aload_n hx hb dL_law_165 rfl (lv_at hl 0 rfl) ?_
  refine lv_iload_n hx hb dL_law_166 rfl (lv_at hl 3 rfl) ?_
  refine lv_iconst (v := 1) hx hb dL_law_167 (by decide) ?_
  refine lv_iadd hx hb dL_law_168 ?_
  refine m_sld hx hb hX hbl hbA hS (i + 1) (nI_1 i) (by omega) (by omega) dL_law_169 ?_
  obtain ⟨r5, hr5, hMr5⟩ : ∃ r : Int32 × (Nat → Nat → Int32), r = d_X5_type F (xs (i + 1)) len ∧ Met l yX5_type wsX5_type { frames := 1, cells := 0, slots := 0, locals := 21 } (PcE D cI cC cZ cS [.ref (a 0), .int (xs (i + 1))] (wF cI cC cZ cS a b F tc)) (QcM (some (.int r.1)) D (wF cI cC cZ cS a b F tc) (wF cI cC cZ cS a b r.2 tc)) 0 0 (inW (wF cI cC cZ cS a b F tc)) := ⟨_, rfl, c_X5_type l D cI cC cZ cS a b F tc (xs (i + 1)) len hR.2.1.1 hR.2.1.2.2.1⟩
  refine lcF (W.runV (As := [.int (xs (i + 1))]) (rest := []) ⟨hx, hb, hml, hown, hts⟩ hMr5 (cwV 1 hts gL_law_X5_type rfl rfl rfl (by decide +kernel) ⟨Nat.le_of_ble_eq_true rfl, Nat.le_of_ble_eq_true rfl⟩) (preV_of (LPF hP) (LDF hD) hE (va_recv hK (LPF hP) (ci := 5) (q0 := 0) rfl rfl)) rfl rfl hl.1 rfl (lv_room (Nat.le_of_ble_eq_true rfl)) dL_law_170 ⟨Nat.le_of_ble_eq_true rfl, Nat.le_of_ble_eq_true rfl⟩) hP hD hS (fun H locs hP hD hS => ?_)
  refine lv_aload_n hx hb dL_law_173 rfl (lv_at hl 2 rfl) ?_
  refine lv_aload_n hx hb dL_law_174 rfl (lv_at hl 0 rfl) ?_
  refine lv_iload_n hx hb dL_law_175 rfl (lv_at hl 3 rfl) ?_
  refine lv_iconst (v := 1) hx hb dL_law_176 (by decide) ?_
  refine lv_iadd hx hb dL_law_177 ?_
  refine m_sld hx hb hX hbl hbA hS (i + 1) (nI_1 i) (by omega) (by omega) dL_law_178 ?_
  obtain ⟨r6, hr6, hMr6⟩ : ∃ r : Int32 × (Nat → Nat → Int32), r = d_X6_type G (xs (i + 1)) len ∧ Met l yX6_type wsX6_type { frames := 1, cells := 0, slots := 0, locals := 22 } (PcE D cI cC cZ cS [.ref (a2 0), .int (xs (i + 1))] (wM cI cC cZ cS a2 G tc)) (QcM (some (.int r.1)) D (wM cI cC cZ cS a2 G tc) (wM cI cC cZ cS a2 r.2 tc)) 0 0 (inW (wM cI cC cZ cS a2 G tc)) := ⟨_, rfl, c_X6_type l D cI cC cZ cS a2 G tc (xs (i + 1)) len hR.2.1.2.1 hR.2.1.2.2.1⟩
  refine lcM (W.runV (As := [.int (xs (i + 1))]) (rest := [.int r5.1]) ⟨hx, hb, hml, hown, hts⟩ hMr6 (cwV 1 hts gL_law_X6_type rfl rfl rfl (by decide +kernel) ⟨Nat.le_of_ble_eq_true rfl, Nat.le_of_ble_eq_true rfl⟩) (preV_of (LPM hP) (LDM hD) hE (va_recv hK (LPM hP) (ci := 6) (q0 := 0) rfl rfl)) rfl rfl hl.1 rfl (lv_room (Nat.le_of_ble_eq_true rfl)) dL_law_179 ⟨Nat.le_of_ble_eq_true rfl, Nat.le_of_ble_eq_true rfl⟩) hP hD hS (fun H locs hP hD hS => ?_)
  obtain ⟨q1, q2⟩ := q_type hR (xs (i + 1))
  rw [← hr5, ← hr6] at q1
  rw [← hr5, ← hr6] at q2
  refine lv_icmp_eq (tgt := 852) hx hb dL_law_182 (by decide) (fun _ => ?_) (fun c_ => ?_)
  · exact kb a r5.2 r6.2 tc H locs rfl ⟨hP, hD, hS, q2⟩
  · exact absurd q1 c_
theorem lc_1 {p : Program} {e : Env} {s : State} {m : MethodId} {below : List Frame} {meth : Method} {c : Code} (l : Launch) {b0 L : Nat} {xs : Nat → Int32} (C0 : lw_At p s m meth c b0 L xs) {D : va_G} {cI cC cZ cS : ClassId} (hE : EN D cI cC cZ cS s) {a b a2 : Nat → Nat} {F G : Nat → Nat → Int32} {tc : Int64} {H : Heap} {locs : List Loc} {i : Nat} {ls : Array Slot} (hi : i + 2 < L) (hL : L ≤ 192) (hs : LSt D cI cC cZ cS s H locs a b a2 F G tc) (hl : lv_has ls 4 [(0, .ref b0), (1, .ref (a 0)), (2, .ref (a2 0)), (3, .int (nI i))])
    (kb : ∀ (a' : Nat → Nat) (F' G' : Nat → Nat → Int32) (tc' : Int64) (H' : Heap) (locs' : List Loc), a' 0 = a 0 → LSt D cI cC cZ cS s H' locs' a' b a2 F' G' tc' → W p l e room_1 s m #[Value.ref b0] below meth c H' locs' 100 2000 (lw_Z below #[Value.ref b0] s) (F0 m 852 ls [])) : W p l e room_1 s m #[Value.ref b0] below meth c H locs 100 2000 (lw_Z below #[Value.ref b0] s) (F0 m 187 ls []) := by
  obtain ⟨hx, hb, hr, hml, hown, hts0, hX, hbl, hlocks, hgv⟩ := C0
  have hts : ∀ w ∈ wsL_law, w.before #[Value.ref b0] s = true := fun w h => hts0 w (wsL_law_in w h)
  have hbA : ¬ (fun q : Nat => s.heap.size ≤ q) b0 := Nat.not_le.mpr hbl
  obtain ⟨hP, hD, hS, n, len, dd, um, nx, sk, hR⟩ := hs
  have hK := hE.1
  refine lv_aload_n hx hb dL_law_187 rfl (lv_at hl 1 rfl) ?_
  obtain ⟨r5, hr5, hMr5⟩ : ∃ r : Int32 × (Nat → Nat → Int32), r = d_X5_clear F ∧ Met l yX5_clear wsX5_clear { frames := 0, cells := 0, slots := 0, locals := 0 } (PcE D cI cC cZ cS [.ref (a 0)] (wF cI cC cZ cS a b F tc)) (QcM (some (.int r.1)) D (wF cI cC cZ cS a b F tc) (wF cI cC cZ cS a b r.2 tc)) 0 0 (inW (wF cI cC cZ cS a b F tc)) := ⟨_, rfl, c_X5_clear l D cI cC cZ cS a b F tc⟩
  refine lcF (W.runV (As := []) (rest := []) ⟨hx, hb, hml, hown, hts⟩ hMr5 (cwV 0 hts gL_law_X5_clear rfl rfl rfl (by decide +kernel) ⟨Nat.le_of_ble_eq_true rfl, Nat.le_of_ble_eq_true rfl⟩) (preV_of (LPF hP) (LDF hD) hE (va_recv hK (LPF hP) (ci := 5) (q0 := 0) rfl rfl)) rfl rfl hl.1 rfl (lv_room (Nat.le_of_ble_eq_true rfl)) dL_law_188 ⟨Nat.le_of_ble_eq_true rfl, Nat.le_of_ble_eq_true rfl⟩) hP hD hS (fun H locs hP hD hS => ?_)
  refine lv_aload_n hx hb dL_law_191 rfl (lv_at hl 2 rfl) ?_
  obtain ⟨r6, hr6, hMr6⟩ : ∃ r : Int32 × (Nat → Nat → Int32), r = d_X6_clear G ∧ Met l yX6_clear wsX6_clear { frames := 0, cells := 0, slots := 0, locals := 0 } (PcE D cI cC cZ cS [.ref (a2 0)] (wM cI cC cZ cS a2 G tc)) (QcM (some (.int r.1)) D (wM cI cC cZ cS a2 G tc) (wM cI cC cZ cS a2 r.2 tc)) 0 0 (inW (wM cI cC cZ cS a2 G tc)) := ⟨_, rfl, c_X6_clear l D cI cC cZ cS a2 G tc⟩
  refine lcM (W.runV (As := []) (rest := [.int r5.1]) ⟨hx, hb, hml, hown, hts⟩ hMr6 (cwV 0 hts gL_law_X6_clear rfl rfl rfl (by decide +kernel) ⟨Nat.le_of_ble_eq_true rfl, Nat.le_of_ble_eq_true rfl⟩) (preV_of (LPM hP) (LDM hD) hE (va_recv hK (LPM hP) (ci := 6) (q0 := 0) rfl rfl)) rfl rfl hl.1 rfl (lv_room (Nat.le_of_ble_eq_true rfl)) dL_law_192 ⟨Nat.le_of_ble_eq_true rfl, Nat.le_of_ble_eq_true rfl⟩) hP hD hS (fun H locs hP hD hS => ?_)
  obtain ⟨q1, q2⟩ := q_clear hR 
  rw [← hr5, ← hr6] at q1
  rw [← hr5, ← hr6] at q2
  refine lv_icmp_eq (tgt := 852) hx hb dL_law_195 (by decide) (fun _ => ?_) (fun c_ => ?_)
  · exact kb a r5.2 r6.2 tc H locs rfl ⟨hP, hD, hS, q2⟩
  · exact absurd q1 c_
theorem lc_2 {p : Program} {e : Env} {s : State} {m : MethodId} {below : List Frame} {meth : Method} {c : Code} (l : Launch) {b0 L : Nat} {xs : Nat → Int32} (C0 : lw_At p s m meth c b0 L xs) {D : va_G} {cI cC cZ cS : ClassId} (hE : EN D cI cC cZ cS s) {a b a2 : Nat → Nat} {F G : Nat → Nat → Int32} {tc : Int64} {H : Heap} {locs : List Loc} {i : Nat} {ls : Array Slot} (hi : i + 2 < L) (hL : L ≤ 192) (hs : LSt D cI cC cZ cS s H locs a b a2 F G tc) (hl : lv_has ls 4 [(0, .ref b0), (1, .ref (a 0)), (2, .ref (a2 0)), (3, .int (nI i))])
    (kb : ∀ (a' : Nat → Nat) (F' G' : Nat → Nat → Int32) (tc' : Int64) (H' : Heap) (locs' : List Loc), a' 0 = a 0 → LSt D cI cC cZ cS s H' locs' a' b a2 F' G' tc' → W p l e room_1 s m #[Value.ref b0] below meth c H' locs' 100 2000 (lw_Z below #[Value.ref b0] s) (F0 m 852 ls [])) : W p l e room_1 s m #[Value.ref b0] below meth c H locs 100 2000 (lw_Z below #[Value.ref b0] s) (F0 m 200 ls []) := by
  obtain ⟨hx, hb, hr, hml, hown, hts0, hX, hbl, hlocks, hgv⟩ := C0
  have hts : ∀ w ∈ wsL_law, w.before #[Value.ref b0] s = true := fun w h => hts0 w (wsL_law_in w h)
  have hbA : ¬ (fun q : Nat => s.heap.size ≤ q) b0 := Nat.not_le.mpr hbl
  obtain ⟨hP, hD, hS, n, len, dd, um, nx, sk, hR⟩ := hs
  have hK := hE.1
  refine lv_aload_n hx hb dL_law_200 rfl (lv_at hl 1 rfl) ?_
  have hPx : va_P D vwCl (wFx cI cC cZ cS a b F tc (a 1) (a 5)) H := LPF hP
  have hDx : va_D (fun q : Nat => s.heap.size ≤ q) (wFx cI cC cZ cS a b F tc (a 1) (a 5)) := LDF hD
  obtain ⟨r5, hr5, hMr5⟩ : ∃ r : Int32 × (Nat → Nat → Int32), r = d_X5_house F len ∧ Met l yX5_house wsX5_house { frames := 5, cells := 0, slots := 0, locals := 112 } (PcE D cI cC cZ cS [.ref (a 0)] (wFx cI cC cZ cS a b F tc (a 1) (a 5))) (QcM (some (.int r.1)) D (wFx cI cC cZ cS a b F tc (a 1) (a 5)) (wFx cI cC cZ cS a b r.2 tc (if 0 ≤ r.1 then a 5 else a 1) (if 0 ≤ r.1 then a 1 else a 5))) 0 0 (inW (wFx cI cC cZ cS a b F tc (a 1) (a 5))) := ⟨_, rfl, c_X5_house l D cI cC cZ cS a b F tc len hR.2.1.1 hR.2.1.2.2.1⟩
  refine lcX (W.runV (As := []) (rest := []) ⟨hx, hb, hml, hown, hts⟩ hMr5 (cwV 0 hts gL_law_X5_house rfl rfl rfl (by decide +kernel) ⟨Nat.le_of_ble_eq_true rfl, Nat.le_of_ble_eq_true rfl⟩) (preV_of hPx hDx hE (va_recv hK hPx (ci := 5) (q0 := 0) rfl rfl)) rfl rfl hl.1 rfl (lv_room (Nat.le_of_ble_eq_true rfl)) dL_law_201 ⟨Nat.le_of_ble_eq_true rfl, Nat.le_of_ble_eq_true rfl⟩) hP hD hS (fun H locs hP hD hS => ?_)
  have hP := lcX_P hP
  have hD := lcX_D hD
  refine lv_aload_n hx hb dL_law_204 rfl (lv_at hl 2 rfl) ?_
  obtain ⟨r6, hr6, hMr6⟩ : ∃ r : Int32 × (Nat → Nat → Int32), r = d_X6_house G len ∧ Met l yX6_house wsX6_house { frames := 5, cells := 0, slots := 0, locals := 109 } (PcE D cI cC cZ cS [.ref (a2 0)] (wM cI cC cZ cS a2 G tc)) (QcM (some (.int r.1)) D (wM cI cC cZ cS a2 G tc) (wM cI cC cZ cS a2 r.2 tc)) 0 0 (inW (wM cI cC cZ cS a2 G tc)) := ⟨_, rfl, c_X6_house l D cI cC cZ cS a2 G tc len hR.2.1.2.1 hR.2.1.2.2.1⟩
  refine lcM (W.runV (As := []) (rest := [.int r5.1]) ⟨hx, hb, hml, hown, hts⟩ hMr6 (cwV 0 hts gL_law_X6_house rfl rfl rfl (by decide +kernel) ⟨Nat.le_of_ble_eq_true rfl, Nat.le_of_ble_eq_true rfl⟩) (preV_of (LPM hP) (LDM hD) hE (va_recv hK (LPM hP) (ci := 6) (q0 := 0) rfl rfl)) rfl rfl hl.1 rfl (lv_room (Nat.le_of_ble_eq_true rfl)) dL_law_205 ⟨Nat.le_of_ble_eq_true rfl, Nat.le_of_ble_eq_true rfl⟩) hP hD hS (fun H locs hP hD hS => ?_)
  obtain ⟨q1, q2⟩ := q_house hR 
  rw [← hr5, ← hr6] at q1
  rw [← hr5, ← hr6] at q2
  refine lv_icmp_eq (tgt := 852) hx hb dL_law_208 (by decide) (fun _ => ?_) (fun c_ => ?_)
  · exact kb (if 0 ≤ r5.1 then swA a else a) (if 0 ≤ r5.1 then swF r5.2 else r5.2) r6.2 tc H locs (by split <;> rfl) ⟨hP, hD, hS, q2⟩
  · exact absurd q1 c_
theorem lc_3 {p : Program} {e : Env} {s : State} {m : MethodId} {below : List Frame} {meth : Method} {c : Code} (l : Launch) {b0 L : Nat} {xs : Nat → Int32} (C0 : lw_At p s m meth c b0 L xs) {D : va_G} {cI cC cZ cS : ClassId} (hE : EN D cI cC cZ cS s) {a b a2 : Nat → Nat} {F G : Nat → Nat → Int32} {tc : Int64} {H : Heap} {locs : List Loc} {i : Nat} {ls : Array Slot} (hi : i + 2 < L) (hL : L ≤ 192) (hs : LSt D cI cC cZ cS s H locs a b a2 F G tc) (hl : lv_has ls 4 [(0, .ref b0), (1, .ref (a 0)), (2, .ref (a2 0)), (3, .int (nI i))])
    (kb : ∀ (a' : Nat → Nat) (F' G' : Nat → Nat → Int32) (tc' : Int64) (H' : Heap) (locs' : List Loc), a' 0 = a 0 → LSt D cI cC cZ cS s H' locs' a' b a2 F' G' tc' → W p l e room_1 s m #[Value.ref b0] below meth c H' locs' 100 2000 (lw_Z below #[Value.ref b0] s) (F0 m 852 ls [])) : W p l e room_1 s m #[Value.ref b0] below meth c H locs 100 2000 (lw_Z below #[Value.ref b0] s) (F0 m 213 ls []) := by
  obtain ⟨hx, hb, hr, hml, hown, hts0, hX, hbl, hlocks, hgv⟩ := C0
  have hts : ∀ w ∈ wsL_law, w.before #[Value.ref b0] s = true := fun w h => hts0 w (wsL_law_in w h)
  have hbA : ¬ (fun q : Nat => s.heap.size ≤ q) b0 := Nat.not_le.mpr hbl
  obtain ⟨hP, hD, hS, n, len, dd, um, nx, sk, hR⟩ := hs
  have hK := hE.1
  refine lv_aload_n hx hb dL_law_213 rfl (lv_at hl 1 rfl) ?_
  refine lv_aload_n hx hb dL_law_214 rfl (lv_at hl 0 rfl) ?_
  refine lv_iload_n hx hb dL_law_215 rfl (lv_at hl 3 rfl) ?_
  refine lv_iconst (v := 1) hx hb dL_law_216 (by decide) ?_
  refine lv_iadd hx hb dL_law_217 ?_
  refine m_sld hx hb hX hbl hbA hS (i + 1) (nI_1 i) (by omega) (by omega) dL_law_218 ?_
  refine lv_aload_n hx hb dL_law_219 rfl (lv_at hl 0 rfl) ?_
  refine lv_iload_n hx hb dL_law_220 rfl (lv_at hl 3 rfl) ?_
  refine lv_iconst (v := 2) hx hb dL_law_221 (by decide) ?_
  refine lv_iadd hx hb dL_law_222 ?_
  refine m_sld hx hb hX hbl hbA hS (i + 2) (nI_2 i) (by omega) (by omega) dL_law_223 ?_
  obtain ⟨r5, hr5, hMr5⟩ : ∃ r : Int32, r = d_X5_thing F (xs (i + 1)) (xs (i + 2)) n ∧ Met l yX5_thing wsX5_thing { frames := 4, cells := 0, slots := 0, locals := 88 } (PcE D cI cC cZ cS [.ref (a 0), .int (xs (i + 1)), .int (xs (i + 2))] (wF cI cC cZ cS a b F tc)) (QcR (some (.int r))) 0 0 (fun _ => False) := ⟨_, rfl, c_X5_thing l D cI cC cZ cS a b F tc (xs (i + 1)) (xs (i + 2)) n hR.1.1 hR.1.2.2.1⟩
  refine lcR (W.runV (As := [.int (xs (i + 1)), .int (xs (i + 2))]) (rest := []) ⟨hx, hb, hml, hown, hts⟩ hMr5 (cwV 2 hts gL_law_X5_thing rfl rfl rfl (by decide +kernel) ⟨Nat.le_of_ble_eq_true rfl, Nat.le_of_ble_eq_true rfl⟩) (preV_of (LPF hP) (LDF hD) hE (va_recv hK (LPF hP) (ci := 5) (q0 := 0) rfl rfl)) rfl rfl hl.1 rfl (lv_room (Nat.le_of_ble_eq_true rfl)) dL_law_224 ⟨Nat.le_of_ble_eq_true rfl, Nat.le_of_ble_eq_true rfl⟩) ?_
  refine lv_aload_n hx hb dL_law_227 rfl (lv_at hl 2 rfl) ?_
  refine lv_aload_n hx hb dL_law_228 rfl (lv_at hl 0 rfl) ?_
  refine lv_iload_n hx hb dL_law_229 rfl (lv_at hl 3 rfl) ?_
  refine lv_iconst (v := 1) hx hb dL_law_230 (by decide) ?_
  refine lv_iadd hx hb dL_law_231 ?_
  refine m_sld hx hb hX hbl hbA hS (i + 1) (nI_1 i) (by omega) (by omega) dL_law_232 ?_
  refine lv_aload_n hx hb dL_law_233 rfl (lv_at hl 0 rfl) ?_
  refine lv_iload_n hx hb dL_law_234 rfl (lv_at hl 3 rfl) ?_
  refine lv_iconst (v := 2) hx hb dL_law_235 (by decide) ?_
  refine lv_iadd hx hb dL_law_236 ?_
  refine m_sld hx hb hX hbl hbA hS (i + 2) (nI_2 i) (by omega) (by omega) dL_law_237 ?_
  obtain ⟨r6, hr6, hMr6⟩ : ∃ r : Int32 × (Nat → Nat → Int32), r = d_X6_thing G (xs (i + 1)) (xs (i + 2)) n ∧ Met l yX6_thing wsX6_thing { frames := 3, cells := 0, slots := 0, locals := 68 } (PcE D cI cC cZ cS [.ref (a2 0), .int (xs (i + 1)), .int (xs (i + 2))] (wM cI cC cZ cS a2 G tc)) (QcM (some (.int r.1)) D (wM cI cC cZ cS a2 G tc) (wM cI cC cZ cS a2 r.2 tc)) 0 0 (inW (wM cI cC cZ cS a2 G tc)) := ⟨_, rfl, c_X6_thing l D cI cC cZ cS a2 G tc (xs (i + 1)) (xs (i + 2)) n hR.1.2.1 hR.1.2.2.1⟩
  refine lcM (W.runV (As := [.int (xs (i + 1)), .int (xs (i + 2))]) (rest := [.int r5]) ⟨hx, hb, hml, hown, hts⟩ hMr6 (cwV 2 hts gL_law_X6_thing rfl rfl rfl (by decide +kernel) ⟨Nat.le_of_ble_eq_true rfl, Nat.le_of_ble_eq_true rfl⟩) (preV_of (LPM hP) (LDM hD) hE (va_recv hK (LPM hP) (ci := 6) (q0 := 0) rfl rfl)) rfl rfl hl.1 rfl (lv_room (Nat.le_of_ble_eq_true rfl)) dL_law_238 ⟨Nat.le_of_ble_eq_true rfl, Nat.le_of_ble_eq_true rfl⟩) hP hD hS (fun H locs hP hD hS => ?_)
  obtain ⟨q1, q2⟩ := q_thing hR (xs (i + 1)) (xs (i + 2))
  rw [← hr5, ← hr6] at q1
  rw [← hr6] at q2
  refine lv_icmp_eq (tgt := 852) hx hb dL_law_241 (by decide) (fun _ => ?_) (fun c_ => ?_)
  · exact kb a F r6.2 tc H locs rfl ⟨hP, hD, hS, q2.x⟩
  · exact absurd q1 c_
