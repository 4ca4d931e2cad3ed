set_option maxHeartbeats 8000000 in
set_option maxRecDepth 100000 in
theorem en_start {s : State} {args : Array Value} (hts : ∀ w ∈ lw_tbl, w.before args s = true) : ∃ (D : va_G) (cI cC cZ cS : ClassId), EN D cI cC cZ cS s := by
  obtain ⟨c0, i0, k0⟩ := u_known (C := RX0) (T := TX0) (N := 9) (n := 9) hts inX0d (hts (.instantiable RX0 9) (by decide +kernel))
  obtain ⟨c1, i1, k1⟩ := u_known (C := RX1) (T := TX1) (N := 3) (n := 3) hts inX1d (hts (.instantiable RX1 3) (by decide +kernel))
  obtain ⟨c2, i2, k2⟩ := u_known (C := RX2) (T := TX2) (N := 3) (n := 3) hts inX2d (hts (.instantiable RX2 3) (by decide +kernel))
  obtain ⟨c3, i3, k3⟩ := u_known (C := RX3) (T := TX3) (N := 5) (n := 5) hts inX3d (hts (.instantiable RX3 5) (by decide +kernel))
  obtain ⟨c4, i4, k4⟩ := u_known (C := RX4) (T := TX4) (N := 5) (n := 5) hts inX4d (hts (.instantiable RX4 5) (by decide +kernel))
  obtain ⟨c5, i5, k5⟩ := u_known (C := RX5) (T := TX5) (N := 10) (n := 10) hts inX5d (hts (.instantiable RX5 10) (by decide +kernel))
  obtain ⟨c6, i6, k6⟩ := u_known (C := RX6) (T := TX6) (N := 26) (n := 26) hts inX6d (hts (.instantiable RX6 26) (by decide +kernel))
  obtain ⟨cI, kI, pI, aI1, aI2, aI3⟩ := Cond.arrayClass_spec (hts (.arrayClass .int) (by decide +kernel))
  obtain ⟨cC, kC, pC, aC1, aC2, aC3⟩ := Cond.arrayClass_spec (hts (.arrayClass .char) (by decide +kernel))
  obtain ⟨cZ, kZ, pZ, aZ1, aZ2, aZ3⟩ := Cond.arrayClass_spec (hts (.arrayClass .boolean) (by decide +kernel))
  obtain ⟨comp, cS, kS, o1, o2, o3, o4, o5⟩ := Cond.arrayOver_spec (hts (.arrayOver (.object "FirstOut$Standing")) (by decide +kernel))
  refine ⟨(fun k => if k = 0 then c0 else if k = 1 then c1 else if k = 2 then c2 else if k = 3 then c3 else if k = 4 then c4 else if k = 5 then c5 else c6, fun k => if k = 0 then i0 else if k = 1 then i1 else if k = 2 then i2 else if k = 3 then i3 else if k = 4 then i4 else if k = 5 then i5 else i6), cI, cC, cZ, cS, ⟨?_, ?_⟩, va_Nw.of rfl (hts (.methodLinkNest RX0 68 yX5_bitOf "FirstOut") (by decide +kernel)), va_Nw.of rfl (hts (.methodLinkNest RX2 22 yX5_bitOf "FirstOut") (by decide +kernel)), va_Nw.of rfl (hts (.methodLinkNest RX1 17 yX3_init "FirstOut") (by decide +kernel)), va_Nw.of rfl (hts (.methodLinkNest RX5 21 yX4_init "FirstOut") (by decide +kernel)), va_Nw.of rfl (hts (.methodLinkNest RX5 28 yX3_init "FirstOut") (by decide +kernel)), va_Nw.of rfl (hts (.methodLinkNest RX5 53 yX2_init "FirstOut") (by decide +kernel)), va_AO.of (hts (.arrayOver (.object "FirstOut$Standing")) (by decide +kernel))⟩
  · intro k q hq
    match k, hq with
    | 0, hq => cases hq; exact k0
    | 1, hq => cases hq; exact k1
    | 2, hq => cases hq; exact k2
    | 3, hq => cases hq; exact k3
    | 4, hq => cases hq; exact k4
    | 5, hq => cases hq; exact k5
    | 6, hq => cases hq; exact k6
    | k + 7, hq => simp [vwCl] at hq
  · intro k q hq
    match k, hq with
    | 0, hq => cases hq; exact ⟨fun n z => ⟨fun k h => (by cases h), kI, aI2, pI, aI3⟩, aI1⟩
    | 1, hq => cases hq; exact ⟨fun n z => ⟨fun k h => (by cases h), kC, aC2, pC, aC3⟩, aC1⟩
    | 2, hq => cases hq; exact ⟨fun n z => ⟨fun k h => (by cases h), kZ, aZ2, pZ, aZ3⟩, aZ1⟩
    | 3, hq => cases hq; exact ⟨fun n z => ⟨fun k h => (by cases h), kS, o3, comp, o4⟩, kS, comp, o3, o4, o1, o5⟩
    | k + 4, hq => simp at hq
set_option maxHeartbeats 8000000 in
set_option maxRecDepth 100000 in
theorem law_loop {p : Program} {e : Env} {s : State} {m : MethodId} {below : List Frame} {meth : Method} {c : Code} (l : Launch) {b0 L : Nat} {xs : Nat → Int32} (hL : L ≤ 192) (C0 : lw_At p s m meth c b0 L xs) {D : va_G} {cI cC cZ cS : ClassId} (hE : EN D cI cC cZ cS s) {b a2 : Nat → Nat} : ∀ (k i : Nat) (a : Nat → Nat) (F G : Nat → Nat → Int32) (tc : Int64) (H : Heap) (locs : List Loc) (ls : Array Slot), L + 3 - i < k → i ≤ L + 2 → LSt D cI cC cZ cS s H locs a b a2 F G tc → lv_has ls 4 [(0, .ref b0), (1, .ref (a 0)), (2, .ref (a2 0)), (3, .int (nI i))] → W p l e room_1 s m #[Value.ref b0] below meth c H locs 100 2000 (lw_Z below #[Value.ref b0] s) (F0 m 18 ls []) := by
  intro k
  induction k with
  | zero => intro i a F G tc H locs ls h; omega
  | succ k ih =>
    intro i a F G tc H locs ls hk hi hs hl
    obtain ⟨hx, hb, hr, hml, hown, hts0, hX, hbl, hlocks, hgv⟩ := id C0
    have hbA : ¬ (fun q : Nat => s.heap.size ≤ q) b0 := Nat.not_le.mpr hbl
    have hS := hs.2.2.1
    refine lv_iload_n hx hb dL_law_18 rfl (lv_at hl 3 rfl) ?_
    refine lv_aload_n hx hb dL_law_19 rfl (lv_at hl 0 rfl) ?_
    refine va_slen hx hb hX hbl hbA hS dL_law_20 ?_
    refine lv_iconst (v := 3) hx hb dL_law_21 (by decide) ?_
    refine lv_isub hx hb dL_law_22 ?_
    have hsub : (Int32.ofNat L - 3).toInt = (L : Int) - 3 := pk_sub_toInt (a := L) (b := 3) (by omega) (by omega)
    refine lv_icmp_gt (tgt := 858) hx hb dL_law_23 (by decide) (fun c_ => ?_) (fun c_ => ?_)
    · refine lv_iconst (v := 1) hx hb dL_law_858 (by decide) ?_
      refine va_forget hS.2.2 ?_
      refine W.widen (k := 600000) (n := 7302250) (by omega) (by omega) ?_
      exact lw_ret hx hb hr hlocks dL_law_859
    · have hi3 : i + 3 ≤ L := by
        rw [Int32.lt_iff_toInt_lt, hsub, nI_toInt (by omega)] at c_
        omega
      refine lv_aload_n hx hb dL_law_26 rfl (lv_at hl 0 rfl) ?_
      refine lv_iload_n hx hb dL_law_27 rfl (lv_at hl 3 rfl) ?_
      refine m_sld hx hb hX hbl hbA hS i rfl (by omega) (by omega) dL_law_28 ?_
      refine lv_bipush (v := 31) hx hb dL_law_29 (by decide) ?_
      refine lv_iand hx hb dL_law_31 ?_
      obtain ⟨j, hj, ej⟩ := pk_andE (xs i) (m := 31) 5 rfl
      refine lv_to ej ?_
      have kb : ∀ (a' : Nat → Nat) (F' G' : Nat → Nat → Int32) (tc' : Int64) (H' : Heap) (locs' : List Loc), a' 0 = a 0 → LSt D cI cC cZ cS s H' locs' a' b a2 F' G' tc' → W p l e room_1 s m #[Value.ref b0] below meth c H' locs' 100 2000 (lw_Z below #[Value.ref b0] s) (F0 m 852 ls []) := by
        intro a' F' G' tc' H' locs' ha hs'
        refine lv_iinc (v := nI (i + 3)) (lv' := [(3, .int (nI (i + 3))), (0, .ref b0), (1, .ref (a 0)), (2, .ref (a2 0))]) hx hb dL_law_852 hl (k := 3) rfl (by rw [show Int32.ofInt 3 = nI 3 by decide, nI_add]) (by decide) rfl (fun ls hl => ?_)
        refine lv_goto (tgt := 18) hx hb dL_law_855 (by decide) ?_
        exact ih (i + 3) a' F' G' tc' H' locs' ls (by omega) (by omega) hs' (by rw [ha]; exact lv_sub hl [1, 2, 3, 0] rfl)
      have hi2 : i + 2 < L := by omega
      rcases (show j = 0 ∨ j = 1 ∨ j = 2 ∨ j = 3 ∨ j = 4 ∨ j = 5 ∨ j = 6 ∨ j = 7 ∨ j = 8 ∨ j = 9 ∨ j = 10 ∨ j = 11 ∨ j = 12 ∨ j = 13 ∨ j = 14 ∨ j = 15 ∨ j = 16 ∨ j = 17 ∨ j = 18 ∨ j = 19 ∨ j = 20 ∨ j = 21 ∨ j = 22 ∨ j = 23 ∨ j = 24 ∨ j = 25 ∨ j = 26 ∨ j = 27 ∨ j = 28 ∨ 28 < j by omega) with rfl | rfl | rfl | rfl | rfl | rfl | rfl | rfl | rfl | rfl | rfl | rfl | rfl | rfl | rfl | rfl | rfl | rfl | rfl | rfl | rfl | rfl | rfl | rfl | rfl | rfl | rfl | rfl | rfl | hj2
      · refine lv_tableIn (off := 132) (tgt := 164) hx hb dL_law_32 (by decide) (by decide) (by decide +kernel) (by decide) ?_
        exact lc_0 l C0 hE hi2 hL hs hl kb
      · refine lv_tableIn (off := 155) (tgt := 187) hx hb dL_law_32 (by decide) (by decide) (by decide +kernel) (by decide) ?_
        exact lc_1 l C0 hE hi2 hL hs hl kb
      · refine lv_tableIn (off := 168) (tgt := 200) hx hb dL_law_32 (by decide) (by decide) (by decide +kernel) (by decide) ?_
        exact lc_2 l C0 hE hi2 hL hs hl kb
      · refine lv_tableIn (off := 181) (tgt := 213) hx hb dL_law_32 (by decide) (by decide) (by decide +kernel) (by decide) ?_
        exact lc_3 l C0 hE hi2 hL hs hl kb
      · refine lv_tableIn (off := 214) (tgt := 246) hx hb dL_law_32 (by decide) (by decide) (by decide +kernel) (by decide) ?_
        exact lc_4 l C0 hE hi2 hL hs hl kb
      · refine lv_tableIn (off := 237) (tgt := 269) hx hb dL_law_32 (by decide) (by decide) (by decide +kernel) (by decide) ?_
        exact lc_5 l C0 hE hi2 hL hs hl kb
      · refine lv_tableIn (off := 260) (tgt := 292) hx hb dL_law_32 (by decide) (by decide) (by decide +kernel) (by decide) ?_
        exact lc_6 l C0 hE hi2 hL hs hl kb
      · refine lv_tableIn (off := 293) (tgt := 325) hx hb dL_law_32 (by decide) (by decide) (by decide +kernel) (by decide) ?_
        exact lc_7 l C0 hE hi2 hL hs hl kb
      · refine lv_tableIn (off := 326) (tgt := 358) hx hb dL_law_32 (by decide) (by decide) (by decide +kernel) (by decide) ?_
        exact lc_8 l C0 hE hi2 hL hs hl kb
      · refine lv_tableIn (off := 349) (tgt := 381) hx hb dL_law_32 (by decide) (by decide) (by decide +kernel) (by decide) ?_
        exact lc_9 l C0 hE hi2 hL hs hl kb
      · refine lv_tableIn (off := 362) (tgt := 394) hx hb dL_law_32 (by decide) (by decide) (by decide +kernel) (by decide) ?_
        exact lc_10 l C0 hE hi2 hL hs hl kb
      · refine lv_tableIn (off := 385) (tgt := 417) hx hb dL_law_32 (by decide) (by decide) (by decide +kernel) (by decide) ?_
        exact lc_11 l C0 hE hi2 hL hs hl kb
      · refine lv_tableIn (off := 418) (tgt := 450) hx hb dL_law_32 (by decide) (by decide) (by decide +kernel) (by decide) ?_
        exact lc_12 l C0 hE hi2 hL hs hl kb
      · refine lv_tableIn (off := 441) (tgt := 473) hx hb dL_law_32 (by decide) (by decide) (by decide +kernel) (by decide) ?_
        exact lc_13 l C0 hE hi2 hL hs hl kb
      · refine lv_tableIn (off := 464) (tgt := 496) hx hb dL_law_32 (by decide) (by decide) (by decide +kernel) (by decide) ?_
        exact lc_14 l C0 hE hi2 hL hs hl kb
      · refine lv_tableIn (off := 487) (tgt := 519) hx hb dL_law_32 (by decide) (by decide) (by decide +kernel) (by decide) ?_
        exact lc_15 l C0 hE hi2 hL hs hl kb
      · refine lv_tableIn (off := 510) (tgt := 542) hx hb dL_law_32 (by decide) (by decide) (by decide +kernel) (by decide) ?_
        exact lc_16 l C0 hE hi2 hL hs hl kb
      · refine lv_tableIn (off := 523) (tgt := 555) hx hb dL_law_32 (by decide) (by decide) (by decide +kernel) (by decide) ?_
        exact lc_17 l C0 hE hi2 hL hs hl kb
      · refine lv_tableIn (off := 556) (tgt := 588) hx hb dL_law_32 (by decide) (by decide) (by decide +kernel) (by decide) ?_
        exact lc_18 l C0 hE hi2 hL hs hl kb
      · refine lv_tableIn (off := 569) (tgt := 601) hx hb dL_law_32 (by decide) (by decide) (by decide +kernel) (by decide) ?_
        exact lc_19 l C0 hE hi2 hL hs hl kb
      · refine lv_tableIn (off := 602) (tgt := 634) hx hb dL_law_32 (by decide) (by decide) (by decide +kernel) (by decide) ?_
        exact lc_20 l C0 hE hi2 hL hs hl kb
      · refine lv_tableIn (off := 615) (tgt := 647) hx hb dL_law_32 (by decide) (by decide) (by decide +kernel) (by decide) ?_
        exact lc_21 l C0 hE hi2 hL hs hl kb
      · refine lv_tableIn (off := 638) (tgt := 670) hx hb dL_law_32 (by decide) (by decide) (by decide +kernel) (by decide) ?_
        exact lc_22 l C0 hE hi2 hL hs hl kb
      · refine lv_tableIn (off := 671) (tgt := 703) hx hb dL_law_32 (by decide) (by decide) (by decide +kernel) (by decide) ?_
        exact lc_23 l C0 hE hi2 hL hs hl kb
      · refine lv_tableIn (off := 704) (tgt := 736) hx hb dL_law_32 (by decide) (by decide) (by decide +kernel) (by decide) ?_
        exact lc_24 l C0 hE hi2 hL hs hl kb
      · refine lv_tableIn (off := 737) (tgt := 769) hx hb dL_law_32 (by decide) (by decide) (by decide +kernel) (by decide) ?_
        exact lc_25 l C0 hE hi2 hL hs hl kb
      · refine lv_tableIn (off := 760) (tgt := 792) hx hb dL_law_32 (by decide) (by decide) (by decide +kernel) (by decide) ?_
        exact lc_26 l C0 hE hi2 hL hs hl kb
      · refine lv_tableIn (off := 783) (tgt := 815) hx hb dL_law_32 (by decide) (by decide) (by decide +kernel) (by decide) ?_
        exact lc_27 l C0 hE hi2 hL hs hl kb
      · refine lv_tableIn (off := 806) (tgt := 838) hx hb dL_law_32 (by decide) (by decide) (by decide +kernel) (by decide) ?_
        exact lc_28 l C0 hE hi2 hL hs hl kb
      · refine lv_tableOut (tgt := 852) hx hb dL_law_32 (Or.inr ?_) (by decide) (kb a F G tc H locs rfl hs)
        rw [nI_toInt (by omega)]; omega
