theorem pos64 {x : Int32} (h : ¬ x ≤ 0) : ¬ x.toInt64 = 0 := by
  intro e
  apply h
  have h1 := congrArg Int64.toInt e
  rw [Int32.toInt_toInt64] at h1
  have h0 : (0 : Int64).toInt = 0 := rfl
  rw [Int32.le_iff_toInt_le, h1, h0]
  exact Int.le_refl 0

def d_J6_compare_7cf53 (x : Int32) (y : Int32) : Int32 :=
  if y ≤ x then
      if x = y then
        0
      else
        1
    else
      (-1)
set_option maxHeartbeats 4000000 in
set_option maxRecDepth 100000 in
theorem c_J6_compare_7cf53 (l : Launch) (D : va_G) (cI cC cZ cS : ClassId) (x : Int32) (y : Int32) : Met l yJ6_compare_7cf53 wsJ6_compare_7cf53 { frames := 0, cells := 0, slots := 0, locals := 0 } (PcE D cI cC cZ cS [.int x, .int y] []) (QcR (some (.int (d_J6_compare_7cf53 x y)))) 0 0 (fun _ => False) := by
  refine Met.ofW (cc := cJ6_compare_7cf53) (maxL := 2) (ret := (some .int)) (by decide) rfl ?_
  intro p e s m args below meth c s₁ B hml hv
  obtain ⟨rfl, hP, hD, hE⟩ := hv
  have hK := hE.1
  have hx := B.exec
  have hb := B.bytes
  have hr := B.returns
  have hts := atoms_spec (ws := wsJ6_compare_7cf53) B.pre
  have hown : s.vm.findClass RJ6 = some m.cls := findClass_of_methodNamed B.named
  have hlocks := B.notSynchronized
  refine opq (d_J6_compare_7cf53 x y) (fun R hres => ?_)
  rw [hres]
  replace hres := hres.symm
  rw [d_J6_compare_7cf53] at hres
  have hl := lv_entry ([.int x, .int y]) (n := 2) (Nat.le_of_ble_eq_true rfl)
  rw [lg_entry_eq]
  generalize (lg_sl ([.int x, .int y]) ++ List.replicate (2 - (lg_sl ([.int x, .int y])).length) Slot.unset).toArray = ls at hl ⊢
  have hl : lv_has ls 2 [(0, .int x), (1, .int y)] := hl
  refine lv_iload_n hx hb dJ6_compare_7cf53_0 rfl (lv_at hl 0 rfl) ?_
  refine lv_iload_n hx hb dJ6_compare_7cf53_1 rfl (lv_at hl 1 rfl) ?_
  refine lv_icmp_ge (tgt := 9) hx hb dJ6_compare_7cf53_2 (by decide) (fun c_1 => ?_) (fun c_1 => ?_)
  · skip
    rw [if_pos c_1] at hres
    refine lv_iload_n hx hb dJ6_compare_7cf53_9 rfl (lv_at hl 0 rfl) ?_
    refine lv_iload_n hx hb dJ6_compare_7cf53_10 rfl (lv_at hl 1 rfl) ?_
    refine lv_icmp_ne (tgt := 18) hx hb dJ6_compare_7cf53_11 (by decide) (fun c_2 => ?_) (fun c_2 => ?_)
    · skip
      rw [if_neg c_2] at hres
      refine lv_iconst (v := 1) hx hb dJ6_compare_7cf53_18 (by decide) ?_
      rw [hres]
      exact W.iret (v := 1) hx hb hr (fun t ht hW => ⟨rfl, ht⟩) (fun _ h => by cases h) dJ6_compare_7cf53_19
    · skip
      rw [if_pos c_2] at hres
      refine lv_iconst (v := 0) hx hb dJ6_compare_7cf53_14 (by decide) ?_
      refine lv_goto (tgt := 19) hx hb dJ6_compare_7cf53_15 (by decide) ?_
      rw [hres]
      exact W.iret (v := 0) hx hb hr (fun t ht hW => ⟨rfl, ht⟩) (fun _ h => by cases h) dJ6_compare_7cf53_19
  · skip
    rw [if_neg c_1] at hres
    refine lv_iconst (v := (-1)) hx hb dJ6_compare_7cf53_5 (by decide) ?_
    refine lv_goto (tgt := 19) hx hb dJ6_compare_7cf53_6 (by decide) ?_
    rw [hres]
    exact W.iret (v := (-1)) hx hb hr (fun t ht hW => ⟨rfl, ht⟩) (fun _ h => by cases h) dJ6_compare_7cf53_19
def d_J6_bitCount_0f7a4 (x : Int32) : Int32 :=
  (((((((x - (((Int32.toUInt32 x >>> (Int32.toUInt32 (1 : Int32) &&& Int32.toUInt32 31)).toInt32) &&& (1431655765 : Int32))) &&& (858993459 : Int32)) + (((Int32.toUInt32 (x - (((Int32.toUInt32 x >>> (Int32.toUInt32 (1 : Int32) &&& Int32.toUInt32 31)).toInt32) &&& (1431655765 : Int32))) >>> (Int32.toUInt32 (2 : Int32) &&& Int32.toUInt32 31)).toInt32) &&& (858993459 : Int32))) + ((Int32.toUInt32 (((x - (((Int32.toUInt32 x >>> (Int32.toUInt32 (1 : Int32) &&& Int32.toUInt32 31)).toInt32) &&& (1431655765 : Int32))) &&& (858993459 : Int32)) + (((Int32.toUInt32 (x - (((Int32.toUInt32 x >>> (Int32.toUInt32 (1 : Int32) &&& Int32.toUInt32 31)).toInt32) &&& (1431655765 : Int32))) >>> (Int32.toUInt32 (2 : Int32) &&& Int32.toUInt32 31)).toInt32) &&& (858993459 : Int32))) >>> (Int32.toUInt32 (4 : Int32) &&& Int32.toUInt32 31)).toInt32)) &&& (252645135 : Int32)) + ((Int32.toUInt32 (((((x - (((Int32.toUInt32 x >>> (Int32.toUInt32 (1 : Int32) &&& Int32.toUInt32 31)).toInt32) &&& (1431655765 : Int32))) &&& (858993459 : Int32)) + (((Int32.toUInt32 (x - (((Int32.toUInt32 x >>> (Int32.toUInt32 (1 : Int32) &&& Int32.toUInt32 31)).toInt32) &&& (1431655765 : Int32))) >>> (Int32.toUInt32 (2 : Int32) &&& Int32.toUInt32 31)).toInt32) &&& (858993459 : Int32))) + ((Int32.toUInt32 (((x - (((Int32.toUInt32 x >>> (Int32.toUInt32 (1 : Int32) &&& Int32.toUInt32 31)).toInt32) &&& (1431655765 : Int32))) &&& (858993459 : Int32)) + (((Int32.toUInt32 (x - (((Int32.toUInt32 x >>> (Int32.toUInt32 (1 : Int32) &&& Int32.toUInt32 31)).toInt32) &&& (1431655765 : Int32))) >>> (Int32.toUInt32 (2 : Int32) &&& Int32.toUInt32 31)).toInt32) &&& (858993459 : Int32))) >>> (Int32.toUInt32 (4 : Int32) &&& Int32.toUInt32 31)).toInt32)) &&& (252645135 : Int32)) >>> (Int32.toUInt32 (8 : Int32) &&& Int32.toUInt32 31)).toInt32)) + ((Int32.toUInt32 ((((((x - (((Int32.toUInt32 x >>> (Int32.toUInt32 (1 : Int32) &&& Int32.toUInt32 31)).toInt32) &&& (1431655765 : Int32))) &&& (858993459 : Int32)) + (((Int32.toUInt32 (x - (((Int32.toUInt32 x >>> (Int32.toUInt32 (1 : Int32) &&& Int32.toUInt32 31)).toInt32) &&& (1431655765 : Int32))) >>> (Int32.toUInt32 (2 : Int32) &&& Int32.toUInt32 31)).toInt32) &&& (858993459 : Int32))) + ((Int32.toUInt32 (((x - (((Int32.toUInt32 x >>> (Int32.toUInt32 (1 : Int32) &&& Int32.toUInt32 31)).toInt32) &&& (1431655765 : Int32))) &&& (858993459 : Int32)) + (((Int32.toUInt32 (x - (((Int32.toUInt32 x >>> (Int32.toUInt32 (1 : Int32) &&& Int32.toUInt32 31)).toInt32) &&& (1431655765 : Int32))) >>> (Int32.toUInt32 (2 : Int32) &&& Int32.toUInt32 31)).toInt32) &&& (858993459 : Int32))) >>> (Int32.toUInt32 (4 : Int32) &&& Int32.toUInt32 31)).toInt32)) &&& (252645135 : Int32)) + ((Int32.toUInt32 (((((x - (((Int32.toUInt32 x >>> (Int32.toUInt32 (1 : Int32) &&& Int32.toUInt32 31)).toInt32) &&& (1431655765 : Int32))) &&& (858993459 : Int32)) + (((Int32.toUInt32 (x - (((Int32.toUInt32 x >>> (Int32.toUInt32 (1 : Int32) &&& Int32.toUInt32 31)).toInt32) &&& (1431655765 : Int32))) >>> (Int32.toUInt32 (2 : Int32) &&& Int32.toUInt32 31)).toInt32) &&& (858993459 : Int32))) + ((Int32.toUInt32 (((x - (((Int32.toUInt32 x >>> (Int32.toUInt32 (1 : Int32) &&& Int32.toUInt32 31)).toInt32) &&& (1431655765 : Int32))) &&& (858993459 : Int32)) + (((Int32.toUInt32 (x - (((Int32.toUInt32 x >>> (Int32.toUInt32 (1 : Int32) &&& Int32.toUInt32 31)).toInt32) &&& (1431655765 : Int32))) >>> (Int32.toUInt32 (2 : Int32) &&& Int32.toUInt32 31)).toInt32) &&& (858993459 : Int32))) >>> (Int32.toUInt32 (4 : Int32) &&& Int32.toUInt32 31)).toInt32)) &&& (252645135 : Int32)) >>> (Int32.toUInt32 (8 : Int32) &&& Int32.toUInt32 31)).toInt32)) >>> (Int32.toUInt32 (16 : Int32) &&& Int32.toUInt32 31)).toInt32)) &&& (63 : Int32)
set_option maxHeartbeats 4000000 in
set_option maxRecDepth 100000 in
theorem c_J6_bitCount_0f7a4 (l : Launch) (D : va_G) (cI cC cZ cS : ClassId) (x : Int32) : Met l yJ6_bitCount_0f7a4 wsJ6_bitCount_0f7a4 { frames := 0, cells := 0, slots := 0, locals := 0 } (PcE D cI cC cZ cS [.int x] []) (QcR (some (.int (d_J6_bitCount_0f7a4 x)))) 0 0 (fun _ => False) := by
  refine Met.ofW (cc := cJ6_bitCount_0f7a4) (maxL := 1) (ret := (some .int)) (by decide) rfl ?_
  intro p e s m args below meth c s₁ B hml hv
  obtain ⟨rfl, hP, hD, hE⟩ := hv
  have hK := hE.1
  have hx := B.exec
  have hb := B.bytes
  have hr := B.returns
  have hts := atoms_spec (ws := wsJ6_bitCount_0f7a4) B.pre
  have hown : s.vm.findClass RJ6 = some m.cls := findClass_of_methodNamed B.named
  have hlocks := B.notSynchronized
  refine opq (d_J6_bitCount_0f7a4 x) (fun R hres => ?_)
  rw [hres]
  replace hres := hres.symm
  rw [d_J6_bitCount_0f7a4] at hres
  have hl := lv_entry ([.int x]) (n := 1) (Nat.le_of_ble_eq_true rfl)
  rw [lg_entry_eq]
  generalize (lg_sl ([.int x]) ++ List.replicate (1 - (lg_sl ([.int x])).length) Slot.unset).toArray = ls at hl ⊢
  have hl : lv_has ls 1 [(0, .int x)] := hl
  refine lv_iload_n hx hb dJ6_bitCount_0f7a4_0 rfl (lv_at hl 0 rfl) ?_
  refine lv_iload_n hx hb dJ6_bitCount_0f7a4_1 rfl (lv_at hl 0 rfl) ?_
  refine lv_iconst (v := 1) hx hb dJ6_bitCount_0f7a4_2 (by decide) ?_
  refine lv_iushr (v := (Int32.toUInt32 x >>> (Int32.toUInt32 (1 : Int32) &&& Int32.toUInt32 31)).toInt32) hx hb dJ6_bitCount_0f7a4_3 rfl ?_
  refine lv_ldcw hx hb hown (hts (.constant RJ6 265 (1431655765)) (by decide +kernel)) dJ6_bitCount_0f7a4_4 ?_
  refine lv_iand hx hb dJ6_bitCount_0f7a4_7 ?_
  refine lv_isub hx hb dJ6_bitCount_0f7a4_8 ?_
  refine lv_istore_n (lv' := [(0, .int (x - (((Int32.toUInt32 x >>> (Int32.toUInt32 (1 : Int32) &&& Int32.toUInt32 31)).toInt32) &&& (1431655765 : Int32))))]) hx hb dJ6_bitCount_0f7a4_9 rfl hl (by decide) rfl (fun ls hl => ?_)
  refine lv_iload_n hx hb dJ6_bitCount_0f7a4_10 rfl (lv_at hl 0 rfl) ?_
  refine lv_ldcw hx hb hown (hts (.constant RJ6 266 (858993459)) (by decide +kernel)) dJ6_bitCount_0f7a4_11 ?_
  refine lv_iand hx hb dJ6_bitCount_0f7a4_14 ?_
  refine lv_iload_n hx hb dJ6_bitCount_0f7a4_15 rfl (lv_at hl 0 rfl) ?_
  refine lv_iconst (v := 2) hx hb dJ6_bitCount_0f7a4_16 (by decide) ?_
  refine lv_iushr (v := (Int32.toUInt32 (x - (((Int32.toUInt32 x >>> (Int32.toUInt32 (1 : Int32) &&& Int32.toUInt32 31)).toInt32) &&& (1431655765 : Int32))) >>> (Int32.toUInt32 (2 : Int32) &&& Int32.toUInt32 31)).toInt32) hx hb dJ6_bitCount_0f7a4_17 rfl ?_
  refine lv_ldcw hx hb hown (hts (.constant RJ6 266 (858993459)) (by decide +kernel)) dJ6_bitCount_0f7a4_18 ?_
  refine lv_iand hx hb dJ6_bitCount_0f7a4_21 ?_
  refine lv_iadd hx hb dJ6_bitCount_0f7a4_22 ?_
  refine lv_istore_n (lv' := [(0, .int (((x - (((Int32.toUInt32 x >>> (Int32.toUInt32 (1 : Int32) &&& Int32.toUInt32 31)).toInt32) &&& (1431655765 : Int32))) &&& (858993459 : Int32)) + (((Int32.toUInt32 (x - (((Int32.toUInt32 x >>> (Int32.toUInt32 (1 : Int32) &&& Int32.toUInt32 31)).toInt32) &&& (1431655765 : Int32))) >>> (Int32.toUInt32 (2 : Int32) &&& Int32.toUInt32 31)).toInt32) &&& (858993459 : Int32))))]) hx hb dJ6_bitCount_0f7a4_23 rfl hl (by decide) rfl (fun ls hl => ?_)
  refine lv_iload_n hx hb dJ6_bitCount_0f7a4_24 rfl (lv_at hl 0 rfl) ?_
  refine lv_iload_n hx hb dJ6_bitCount_0f7a4_25 rfl (lv_at hl 0 rfl) ?_
  refine lv_iconst (v := 4) hx hb dJ6_bitCount_0f7a4_26 (by decide) ?_
  refine lv_iushr (v := (Int32.toUInt32 (((x - (((Int32.toUInt32 x >>> (Int32.toUInt32 (1 : Int32) &&& Int32.toUInt32 31)).toInt32) &&& (1431655765 : Int32))) &&& (858993459 : Int32)) + (((Int32.toUInt32 (x - (((Int32.toUInt32 x >>> (Int32.toUInt32 (1 : Int32) &&& Int32.toUInt32 31)).toInt32) &&& (1431655765 : Int32))) >>> (Int32.toUInt32 (2 : Int32) &&& Int32.toUInt32 31)).toInt32) &&& (858993459 : Int32))) >>> (Int32.toUInt32 (4 : Int32) &&& Int32.toUInt32 31)).toInt32) hx hb dJ6_bitCount_0f7a4_27 rfl ?_
  refine lv_iadd hx hb dJ6_bitCount_0f7a4_28 ?_
  refine lv_ldcw hx hb hown (hts (.constant RJ6 267 (252645135)) (by decide +kernel)) dJ6_bitCount_0f7a4_29 ?_
  refine lv_iand hx hb dJ6_bitCount_0f7a4_32 ?_
  refine lv_istore_n (lv' := [(0, .int (((((x - (((Int32.toUInt32 x >>> (Int32.toUInt32 (1 : Int32) &&& Int32.toUInt32 31)).toInt32) &&& (1431655765 : Int32))) &&& (858993459 : Int32)) + (((Int32.toUInt32 (x - (((Int32.toUInt32 x >>> (Int32.toUInt32 (1 : Int32) &&& Int32.toUInt32 31)).toInt32) &&& (1431655765 : Int32))) >>> (Int32.toUInt32 (2 : Int32) &&& Int32.toUInt32 31)).toInt32) &&& (858993459 : Int32))) + ((Int32.toUInt32 (((x - (((Int32.toUInt32 x >>> (Int32.toUInt32 (1 : Int32) &&& Int32.toUInt32 31)).toInt32) &&& (1431655765 : Int32))) &&& (858993459 : Int32)) + (((Int32.toUInt32 (x - (((Int32.toUInt32 x >>> (Int32.toUInt32 (1 : Int32) &&& Int32.toUInt32 31)).toInt32) &&& (1431655765 : Int32))) >>> (Int32.toUInt32 (2 : Int32) &&& Int32.toUInt32 31)).toInt32) &&& (858993459 : Int32))) >>> (Int32.toUInt32 (4 : Int32) &&& Int32.toUInt32 31)).toInt32)) &&& (252645135 : Int32)))]) hx hb dJ6_bitCount_0f7a4_33 rfl hl (by decide) rfl (fun ls hl => ?_)
  refine lv_iload_n hx hb dJ6_bitCount_0f7a4_34 rfl (lv_at hl 0 rfl) ?_
  refine lv_iload_n hx hb dJ6_bitCount_0f7a4_35 rfl (lv_at hl 0 rfl) ?_
  refine lv_bipush (v := 8) hx hb dJ6_bitCount_0f7a4_36 (by decide) ?_
  refine lv_iushr (v := (Int32.toUInt32 (((((x - (((Int32.toUInt32 x >>> (Int32.toUInt32 (1 : Int32) &&& Int32.toUInt32 31)).toInt32) &&& (1431655765 : Int32))) &&& (858993459 : Int32)) + (((Int32.toUInt32 (x - (((Int32.toUInt32 x >>> (Int32.toUInt32 (1 : Int32) &&& Int32.toUInt32 31)).toInt32) &&& (1431655765 : Int32))) >>> (Int32.toUInt32 (2 : Int32) &&& Int32.toUInt32 31)).toInt32) &&& (858993459 : Int32))) + ((Int32.toUInt32 (((x - (((Int32.toUInt32 x >>> (Int32.toUInt32 (1 : Int32) &&& Int32.toUInt32 31)).toInt32) &&& (1431655765 : Int32))) &&& (858993459 : Int32)) + (((Int32.toUInt32 (x - (((Int32.toUInt32 x >>> (Int32.toUInt32 (1 : Int32) &&& Int32.toUInt32 31)).toInt32) &&& (1431655765 : Int32))) >>> (Int32.toUInt32 (2 : Int32) &&& Int32.toUInt32 31)).toInt32) &&& (858993459 : Int32))) >>> (Int32.toUInt32 (4 : Int32) &&& Int32.toUInt32 31)).toInt32)) &&& (252645135 : Int32)) >>> (Int32.toUInt32 (8 : Int32) &&& Int32.toUInt32 31)).toInt32) hx hb dJ6_bitCount_0f7a4_38 rfl ?_
  refine lv_iadd hx hb dJ6_bitCount_0f7a4_39 ?_
  refine lv_istore_n (lv' := [(0, .int ((((((x - (((Int32.toUInt32 x >>> (Int32.toUInt32 (1 : Int32) &&& Int32.toUInt32 31)).toInt32) &&& (1431655765 : Int32))) &&& (858993459 : Int32)) + (((Int32.toUInt32 (x - (((Int32.toUInt32 x >>> (Int32.toUInt32 (1 : Int32) &&& Int32.toUInt32 31)).toInt32) &&& (1431655765 : Int32))) >>> (Int32.toUInt32 (2 : Int32) &&& Int32.toUInt32 31)).toInt32) &&& (858993459 : Int32))) + ((Int32.toUInt32 (((x - (((Int32.toUInt32 x >>> (Int32.toUInt32 (1 : Int32) &&& Int32.toUInt32 31)).toInt32) &&& (1431655765 : Int32))) &&& (858993459 : Int32)) + (((Int32.toUInt32 (x - (((Int32.toUInt32 x >>> (Int32.toUInt32 (1 : Int32) &&& Int32.toUInt32 31)).toInt32) &&& (1431655765 : Int32))) >>> (Int32.toUInt32 (2 : Int32) &&& Int32.toUInt32 31)).toInt32) &&& (858993459 : Int32))) >>> (Int32.toUInt32 (4 : Int32) &&& Int32.toUInt32 31)).toInt32)) &&& (252645135 : Int32)) + ((Int32.toUInt32 (((((x - (((Int32.toUInt32 x >>> (Int32.toUInt32 (1 : Int32) &&& Int32.toUInt32 31)).toInt32) &&& (1431655765 : Int32))) &&& (858993459 : Int32)) + (((Int32.toUInt32 (x - (((Int32.toUInt32 x >>> (Int32.toUInt32 (1 : Int32) &&& Int32.toUInt32 31)).toInt32) &&& (1431655765 : Int32))) >>> (Int32.toUInt32 (2 : Int32) &&& Int32.toUInt32 31)).toInt32) &&& (858993459 : Int32))) + ((Int32.toUInt32 (((x - (((Int32.toUInt32 x >>> (Int32.toUInt32 (1 : Int32) &&& Int32.toUInt32 31)).toInt32) &&& (1431655765 : Int32))) &&& (858993459 : Int32)) + (((Int32.toUInt32 (x - (((Int32.toUInt32 x >>> (Int32.toUInt32 (1 : Int32) &&& Int32.toUInt32 31)).toInt32) &&& (1431655765 : Int32))) >>> (Int32.toUInt32 (2 : Int32) &&& Int32.toUInt32 31)).toInt32) &&& (858993459 : Int32))) >>> (Int32.toUInt32 (4 : Int32) &&& Int32.toUInt32 31)).toInt32)) &&& (252645135 : Int32)) >>> (Int32.toUInt32 (8 : Int32) &&& Int32.toUInt32 31)).toInt32)))]) hx hb dJ6_bitCount_0f7a4_40 rfl hl (by decide) rfl (fun ls hl => ?_)
  refine lv_iload_n hx hb dJ6_bitCount_0f7a4_41 rfl (lv_at hl 0 rfl) ?_
  refine lv_iload_n hx hb dJ6_bitCount_0f7a4_42 rfl (lv_at hl 0 rfl) ?_
  refine lv_bipush (v := 16) hx hb dJ6_bitCount_0f7a4_43 (by decide) ?_
  refine lv_iushr (v := (Int32.toUInt32 ((((((x - (((Int32.toUInt32 x >>> (Int32.toUInt32 (1 : Int32) &&& Int32.toUInt32 31)).toInt32) &&& (1431655765 : Int32))) &&& (858993459 : Int32)) + (((Int32.toUInt32 (x - (((Int32.toUInt32 x >>> (Int32.toUInt32 (1 : Int32) &&& Int32.toUInt32 31)).toInt32) &&& (1431655765 : Int32))) >>> (Int32.toUInt32 (2 : Int32) &&& Int32.toUInt32 31)).toInt32) &&& (858993459 : Int32))) + ((Int32.toUInt32 (((x - (((Int32.toUInt32 x >>> (Int32.toUInt32 (1 : Int32) &&& Int32.toUInt32 31)).toInt32) &&& (1431655765 : Int32))) &&& (858993459 : Int32)) + (((Int32.toUInt32 (x - (((Int32.toUInt32 x >>> (Int32.toUInt32 (1 : Int32) &&& Int32.toUInt32 31)).toInt32) &&& (1431655765 : Int32))) >>> (Int32.toUInt32 (2 : Int32) &&& Int32.toUInt32 31)).toInt32) &&& (858993459 : Int32))) >>> (Int32.toUInt32 (4 : Int32) &&& Int32.toUInt32 31)).toInt32)) &&& (252645135 : Int32)) + ((Int32.toUInt32 (((((x - (((Int32.toUInt32 x >>> (Int32.toUInt32 (1 : Int32) &&& Int32.toUInt32 31)).toInt32) &&& (1431655765 : Int32))) &&& (858993459 : Int32)) + (((Int32.toUInt32 (x - (((Int32.toUInt32 x >>> (Int32.toUInt32 (1 : Int32) &&& Int32.toUInt32 31)).toInt32) &&& (1431655765 : Int32))) >>> (Int32.toUInt32 (2 : Int32) &&& Int32.toUInt32 31)).toInt32) &&& (858993459 : Int32))) + ((Int32.toUInt32 (((x - (((Int32.toUInt32 x >>> (Int32.toUInt32 (1 : Int32) &&& Int32.toUInt32 31)).toInt32) &&& (1431655765 : Int32))) &&& (858993459 : Int32)) + (((Int32.toUInt32 (x - (((Int32.toUInt32 x >>> (Int32.toUInt32 (1 : Int32) &&& Int32.toUInt32 31)).toInt32) &&& (1431655765 : Int32))) >>> (Int32.toUInt32 (2 : Int32) &&& Int32.toUInt32 31)).toInt32) &&& (858993459 : Int32))) >>> (Int32.toUInt32 (4 : Int32) &&& Int32.toUInt32 31)).toInt32)) &&& (252645135 : Int32)) >>> (Int32.toUInt32 (8 : Int32) &&& Int32.toUInt32 31)).toInt32)) >>> (Int32.toUInt32 (16 : Int32) &&& Int32.toUInt32 31)).toInt32) hx hb dJ6_bitCount_0f7a4_45 rfl ?_
  refine lv_iadd hx hb dJ6_bitCount_0f7a4_46 ?_
  refine lv_istore_n (lv' := [(0, .int (((((((x - (((Int32.toUInt32 x >>> (Int32.toUInt32 (1 : Int32) &&& Int32.toUInt32 31)).toInt32) &&& (1431655765 : Int32))) &&& (858993459 : Int32)) + (((Int32.toUInt32 (x - (((Int32.toUInt32 x >>> (Int32.toUInt32 (1 : Int32) &&& Int32.toUInt32 31)).toInt32) &&& (1431655765 : Int32))) >>> (Int32.toUInt32 (2 : Int32) &&& Int32.toUInt32 31)).toInt32) &&& (858993459 : Int32))) + ((Int32.toUInt32 (((x - (((Int32.toUInt32 x >>> (Int32.toUInt32 (1 : Int32) &&& Int32.toUInt32 31)).toInt32) &&& (1431655765 : Int32))) &&& (858993459 : Int32)) + (((Int32.toUInt32 (x - (((Int32.toUInt32 x >>> (Int32.toUInt32 (1 : Int32) &&& Int32.toUInt32 31)).toInt32) &&& (1431655765 : Int32))) >>> (Int32.toUInt32 (2 : Int32) &&& Int32.toUInt32 31)).toInt32) &&& (858993459 : Int32))) >>> (Int32.toUInt32 (4 : Int32) &&& Int32.toUInt32 31)).toInt32)) &&& (252645135 : Int32)) + ((Int32.toUInt32 (((((x - (((Int32.toUInt32 x >>> (Int32.toUInt32 (1 : Int32) &&& Int32.toUInt32 31)).toInt32) &&& (1431655765 : Int32))) &&& (858993459 : Int32)) + (((Int32.toUInt32 (x - (((Int32.toUInt32 x >>> (Int32.toUInt32 (1 : Int32) &&& Int32.toUInt32 31)).toInt32) &&& (1431655765 : Int32))) >>> (Int32.toUInt32 (2 : Int32) &&& Int32.toUInt32 31)).toInt32) &&& (858993459 : Int32))) + ((Int32.toUInt32 (((x - (((Int32.toUInt32 x >>> (Int32.toUInt32 (1 : Int32) &&& Int32.toUInt32 31)).toInt32) &&& (1431655765 : Int32))) &&& (858993459 : Int32)) + (((Int32.toUInt32 (x - (((Int32.toUInt32 x >>> (Int32.toUInt32 (1 : Int32) &&& Int32.toUInt32 31)).toInt32) &&& (1431655765 : Int32))) >>> (Int32.toUInt32 (2 : Int32) &&& Int32.toUInt32 31)).toInt32) &&& (858993459 : Int32))) >>> (Int32.toUInt32 (4 : Int32) &&& Int32.toUInt32 31)).toInt32)) &&& (252645135 : Int32)) >>> (Int32.toUInt32 (8 : Int32) &&& Int32.toUInt32 31)).toInt32)) + ((Int32.toUInt32 ((((((x - (((Int32.toUInt32 x >>> (Int32.toUInt32 (1 : Int32) &&& Int32.toUInt32 31)).toInt32) &&& (1431655765 : Int32))) &&& (858993459 : Int32)) + (((Int32.toUInt32 (x - (((Int32.toUInt32 x >>> (Int32.toUInt32 (1 : Int32) &&& Int32.toUInt32 31)).toInt32) &&& (1431655765 : Int32))) >>> (Int32.toUInt32 (2 : Int32) &&& Int32.toUInt32 31)).toInt32) &&& (858993459 : Int32))) + ((Int32.toUInt32 (((x - (((Int32.toUInt32 x >>> (Int32.toUInt32 (1 : Int32) &&& Int32.toUInt32 31)).toInt32) &&& (1431655765 : Int32))) &&& (858993459 : Int32)) + (((Int32.toUInt32 (x - (((Int32.toUInt32 x >>> (Int32.toUInt32 (1 : Int32) &&& Int32.toUInt32 31)).toInt32) &&& (1431655765 : Int32))) >>> (Int32.toUInt32 (2 : Int32) &&& Int32.toUInt32 31)).toInt32) &&& (858993459 : Int32))) >>> (Int32.toUInt32 (4 : Int32) &&& Int32.toUInt32 31)).toInt32)) &&& (252645135 : Int32)) + ((Int32.toUInt32 (((((x - (((Int32.toUInt32 x >>> (Int32.toUInt32 (1 : Int32) &&& Int32.toUInt32 31)).toInt32) &&& (1431655765 : Int32))) &&& (858993459 : Int32)) + (((Int32.toUInt32 (x - (((Int32.toUInt32 x >>> (Int32.toUInt32 (1 : Int32) &&& Int32.toUInt32 31)).toInt32) &&& (1431655765 : Int32))) >>> (Int32.toUInt32 (2 : Int32) &&& Int32.toUInt32 31)).toInt32) &&& (858993459 : Int32))) + ((Int32.toUInt32 (((x - (((Int32.toUInt32 x >>> (Int32.toUInt32 (1 : Int32) &&& Int32.toUInt32 31)).toInt32) &&& (1431655765 : Int32))) &&& (858993459 : Int32)) + (((Int32.toUInt32 (x - (((Int32.toUInt32 x >>> (Int32.toUInt32 (1 : Int32) &&& Int32.toUInt32 31)).toInt32) &&& (1431655765 : Int32))) >>> (Int32.toUInt32 (2 : Int32) &&& Int32.toUInt32 31)).toInt32) &&& (858993459 : Int32))) >>> (Int32.toUInt32 (4 : Int32) &&& Int32.toUInt32 31)).toInt32)) &&& (252645135 : Int32)) >>> (Int32.toUInt32 (8 : Int32) &&& Int32.toUInt32 31)).toInt32)) >>> (Int32.toUInt32 (16 : Int32) &&& Int32.toUInt32 31)).toInt32)))]) hx hb dJ6_bitCount_0f7a4_47 rfl hl (by decide) rfl (fun ls hl => ?_)
  refine lv_iload_n hx hb dJ6_bitCount_0f7a4_48 rfl (lv_at hl 0 rfl) ?_
  refine lv_bipush (v := 63) hx hb dJ6_bitCount_0f7a4_49 (by decide) ?_
  refine lv_iand hx hb dJ6_bitCount_0f7a4_51 ?_
  rw [hres]
  exact W.iret (v := (((((((x - (((Int32.toUInt32 x >>> (Int32.toUInt32 (1 : Int32) &&& Int32.toUInt32 31)).toInt32) &&& (1431655765 : Int32))) &&& (858993459 : Int32)) + (((Int32.toUInt32 (x - (((Int32.toUInt32 x >>> (Int32.toUInt32 (1 : Int32) &&& Int32.toUInt32 31)).toInt32) &&& (1431655765 : Int32))) >>> (Int32.toUInt32 (2 : Int32) &&& Int32.toUInt32 31)).toInt32) &&& (858993459 : Int32))) + ((Int32.toUInt32 (((x - (((Int32.toUInt32 x >>> (Int32.toUInt32 (1 : Int32) &&& Int32.toUInt32 31)).toInt32) &&& (1431655765 : Int32))) &&& (858993459 : Int32)) + (((Int32.toUInt32 (x - (((Int32.toUInt32 x >>> (Int32.toUInt32 (1 : Int32) &&& Int32.toUInt32 31)).toInt32) &&& (1431655765 : Int32))) >>> (Int32.toUInt32 (2 : Int32) &&& Int32.toUInt32 31)).toInt32) &&& (858993459 : Int32))) >>> (Int32.toUInt32 (4 : Int32) &&& Int32.toUInt32 31)).toInt32)) &&& (252645135 : Int32)) + ((Int32.toUInt32 (((((x - (((Int32.toUInt32 x >>> (Int32.toUInt32 (1 : Int32) &&& Int32.toUInt32 31)).toInt32) &&& (1431655765 : Int32))) &&& (858993459 : Int32)) + (((Int32.toUInt32 (x - (((Int32.toUInt32 x >>> (Int32.toUInt32 (1 : Int32) &&& Int32.toUInt32 31)).toInt32) &&& (1431655765 : Int32))) >>> (Int32.toUInt32 (2 : Int32) &&& Int32.toUInt32 31)).toInt32) &&& (858993459 : Int32))) + ((Int32.toUInt32 (((x - (((Int32.toUInt32 x >>> (Int32.toUInt32 (1 : Int32) &&& Int32.toUInt32 31)).toInt32) &&& (1431655765 : Int32))) &&& (858993459 : Int32)) + (((Int32.toUInt32 (x - (((Int32.toUInt32 x >>> (Int32.toUInt32 (1 : Int32) &&& Int32.toUInt32 31)).toInt32) &&& (1431655765 : Int32))) >>> (Int32.toUInt32 (2 : Int32) &&& Int32.toUInt32 31)).toInt32) &&& (858993459 : Int32))) >>> (Int32.toUInt32 (4 : Int32) &&& Int32.toUInt32 31)).toInt32)) &&& (252645135 : Int32)) >>> (Int32.toUInt32 (8 : Int32) &&& Int32.toUInt32 31)).toInt32)) + ((Int32.toUInt32 ((((((x - (((Int32.toUInt32 x >>> (Int32.toUInt32 (1 : Int32) &&& Int32.toUInt32 31)).toInt32) &&& (1431655765 : Int32))) &&& (858993459 : Int32)) + (((Int32.toUInt32 (x - (((Int32.toUInt32 x >>> (Int32.toUInt32 (1 : Int32) &&& Int32.toUInt32 31)).toInt32) &&& (1431655765 : Int32))) >>> (Int32.toUInt32 (2 : Int32) &&& Int32.toUInt32 31)).toInt32) &&& (858993459 : Int32))) + ((Int32.toUInt32 (((x - (((Int32.toUInt32 x >>> (Int32.toUInt32 (1 : Int32) &&& Int32.toUInt32 31)).toInt32) &&& (1431655765 : Int32))) &&& (858993459 : Int32)) + (((Int32.toUInt32 (x - (((Int32.toUInt32 x >>> (Int32.toUInt32 (1 : Int32) &&& Int32.toUInt32 31)).toInt32) &&& (1431655765 : Int32))) >>> (Int32.toUInt32 (2 : Int32) &&& Int32.toUInt32 31)).toInt32) &&& (858993459 : Int32))) >>> (Int32.toUInt32 (4 : Int32) &&& Int32.toUInt32 31)).toInt32)) &&& (252645135 : Int32)) + ((Int32.toUInt32 (((((x - (((Int32.toUInt32 x >>> (Int32.toUInt32 (1 : Int32) &&& Int32.toUInt32 31)).toInt32) &&& (1431655765 : Int32))) &&& (858993459 : Int32)) + (((Int32.toUInt32 (x - (((Int32.toUInt32 x >>> (Int32.toUInt32 (1 : Int32) &&& Int32.toUInt32 31)).toInt32) &&& (1431655765 : Int32))) >>> (Int32.toUInt32 (2 : Int32) &&& Int32.toUInt32 31)).toInt32) &&& (858993459 : Int32))) + ((Int32.toUInt32 (((x - (((Int32.toUInt32 x >>> (Int32.toUInt32 (1 : Int32) &&& Int32.toUInt32 31)).toInt32) &&& (1431655765 : Int32))) &&& (858993459 : Int32)) + (((Int32.toUInt32 (x - (((Int32.toUInt32 x >>> (Int32.toUInt32 (1 : Int32) &&& Int32.toUInt32 31)).toInt32) &&& (1431655765 : Int32))) >>> (Int32.toUInt32 (2 : Int32) &&& Int32.toUInt32 31)).toInt32) &&& (858993459 : Int32))) >>> (Int32.toUInt32 (4 : Int32) &&& Int32.toUInt32 31)).toInt32)) &&& (252645135 : Int32)) >>> (Int32.toUInt32 (8 : Int32) &&& Int32.toUInt32 31)).toInt32)) >>> (Int32.toUInt32 (16 : Int32) &&& Int32.toUInt32 31)).toInt32)) &&& (63 : Int32)) hx hb hr (fun t ht hW => ⟨rfl, ht⟩) (fun _ h => by cases h) dJ6_bitCount_0f7a4_52
def lp_X5_commonDivisor_7 (x : Int32) (y : Int32) : Nat → Nat → Int32 → Int32 → Int32
  | 0, _, _, _ => 0
  | k7 + 1, i, la, sm => if (50 : Int32) ≤ (nI i) then
      la
    else
      if sm = 0 then
        la
      else
        lp_X5_commonDivisor_7 x y k7 (i + 1) sm (la - la / sm * sm)
def d_X5_commonDivisor (x : Int32) (y : Int32) : Int32 :=
  lp_X5_commonDivisor_7 x y 51 0 x y
set_option maxHeartbeats 4000000 in
set_option maxRecDepth 100000 in
theorem c_X5_commonDivisor (l : Launch) (D : va_G) (cI cC cZ cS : ClassId) (x : Int32) (y : Int32) : Met l yX5_commonDivisor wsX5_commonDivisor { frames := 0, cells := 0, slots := 0, locals := 0 } (PcE D cI cC cZ cS [.int x, .int y] []) (QcR (some (.int (d_X5_commonDivisor x y)))) 0 0 (fun _ => False) := by
  refine Met.ofW (cc := cX5_commonDivisor) (maxL := 6) (ret := (some .int)) (by decide) rfl ?_
  intro p e s m args below meth c s₁ B hml hv
  obtain ⟨rfl, hP, hD, hE⟩ := hv
  have hK := hE.1
  have hx := B.exec
  have hb := B.bytes
  have hr := B.returns
  have hts := atoms_spec (ws := wsX5_commonDivisor) B.pre
  have hown : s.vm.findClass RX5 = some m.cls := findClass_of_methodNamed B.named
  have hlocks := B.notSynchronized
  refine opq (d_X5_commonDivisor x y) (fun R hres => ?_)
  rw [hres]
  replace hres := hres.symm
  rw [d_X5_commonDivisor] at hres
  have hl := lv_entry ([.int x, .int y]) (n := 6) (Nat.le_of_ble_eq_true rfl)
  rw [lg_entry_eq]
  generalize (lg_sl ([.int x, .int y]) ++ List.replicate (6 - (lg_sl ([.int x, .int y])).length) Slot.unset).toArray = ls at hl ⊢
  have hl : lv_has ls 6 [(0, .int x), (1, .int y)] := hl
  refine lv_iload_n hx hb dX5_commonDivisor_0 rfl (lv_at hl 0 rfl) ?_
  refine lv_istore_n (lv' := [(2, .int x), (0, .int x), (1, .int y)]) hx hb dX5_commonDivisor_1 rfl hl (by decide) rfl (fun ls hl => ?_)
  refine lv_iload_n hx hb dX5_commonDivisor_2 rfl (lv_at hl 2 rfl) ?_
  refine lv_istore_n (lv' := [(3, .int y), (2, .int x), (0, .int x), (1, .int y)]) hx hb dX5_commonDivisor_3 rfl hl (by decide) rfl (fun ls hl => ?_)
  refine lv_iconst (v := 0) hx hb dX5_commonDivisor_4 (by decide) ?_
  refine lv_istore (lv' := [(4, .int 0), (3, .int y), (2, .int x), (0, .int x), (1, .int y)]) hx hb dX5_commonDivisor_5 hl (by decide) rfl (fun ls hl => ?_)
  have loop7 : ∀ (k7 : Nat) (i : Nat) (la : Int32) (sm : Int32), 50 - i < k7 → i ≤ 50 → R = lp_X5_commonDivisor_7 x y k7 i la sm → ∀ ls : Array Slot, lv_has ls 6 [(0, .int x), (1, .int y), (2, .int la), (3, .int sm), (4, .int (nI i))] → W p l e (headSpec wsX5_commonDivisor { frames := 0, cells := 0, slots := 0, locals := 0 }).room s m (([.int x, .int y] : List Value).toArray) below meth c s.heap [] 0 0 (MQ below (QcR (some (.int R))) (([.int x, .int y] : List Value).toArray) s 0 0 (fun _ => False)) (F0 m 7 ls []) := by
    intro k7
    induction k7 with
    | zero => intro i la sm hk; exact absurd hk (Nat.not_lt_zero _)
    | succ k7 ih7 =>
      intro i la sm hk7 hi hres ls hl
      rw [lp_X5_commonDivisor_7] at hres
      refine lv_iload hx hb dX5_commonDivisor_7 (lv_at hl 4 rfl) ?_
      refine lv_bipush (v := 50) hx hb dX5_commonDivisor_9 (by decide) ?_
      refine lv_icmp_ge (tgt := 34) hx hb dX5_commonDivisor_11 (by decide) (fun c_1 => ?_) (fun c_1 => ?_)
      · skip
        rw [if_pos c_1] at hres
        refine lv_iload_n hx hb dX5_commonDivisor_34 rfl (lv_at hl 2 rfl) ?_
        rw [hres]
        exact W.iret (v := la) hx hb hr (fun t ht hW => ⟨rfl, ht⟩) (fun _ h => by cases h) dX5_commonDivisor_35
      · skip
        rw [if_neg c_1] at hres
        have hlt : i < 50 := nlt_of (b := 50) c_1 (by omega) (by omega)
        refine lv_iload_n hx hb dX5_commonDivisor_14 rfl (lv_at hl 3 rfl) ?_
        refine lv_if_eq (tgt := 34) hx hb dX5_commonDivisor_15 (by decide) (fun c_2 => ?_) (fun c_2 => ?_)
        · skip
          rw [if_pos c_2] at hres
          refine lv_iload_n hx hb dX5_commonDivisor_34 rfl (lv_at hl 2 rfl) ?_
          rw [hres]
          exact W.iret (v := la) hx hb hr (fun t ht hW => ⟨rfl, ht⟩) (fun _ h => by cases h) dX5_commonDivisor_35
        · skip
          rw [if_neg c_2] at hres
          have hz := c_2
          refine lv_iload_n hx hb dX5_commonDivisor_18 rfl (lv_at hl 2 rfl) ?_
          refine lv_iload_n hx hb dX5_commonDivisor_19 rfl (lv_at hl 3 rfl) ?_
          refine lv_irem hx hb dX5_commonDivisor_20 hz ?_
          refine lv_istore (lv' := [(5, .int (la - la / sm * sm)), (0, .int x), (1, .int y), (2, .int la), (3, .int sm), (4, .int (nI i))]) hx hb dX5_commonDivisor_21 hl (by decide) rfl (fun ls hl => ?_)
          refine lv_iload_n hx hb dX5_commonDivisor_23 rfl (lv_at hl 4 rfl) ?_
          refine lv_istore_n (lv' := [(2, .int sm), (5, .int (la - la / sm * sm)), (0, .int x), (1, .int y), (3, .int sm), (4, .int (nI i))]) hx hb dX5_commonDivisor_24 rfl hl (by decide) rfl (fun ls hl => ?_)
          refine lv_iload hx hb dX5_commonDivisor_25 (lv_at hl 1 rfl) ?_
          refine lv_istore_n (lv' := [(3, .int (la - la / sm * sm)), (2, .int sm), (5, .int (la - la / sm * sm)), (0, .int x), (1, .int y), (4, .int (nI i))]) hx hb dX5_commonDivisor_27 rfl hl (by decide) rfl (fun ls hl => ?_)
          refine lv_iinc (v := nI (i + 1)) (lv' := [(4, .int (nI (i + 1))), (3, .int (la - la / sm * sm)), (2, .int sm), (5, .int (la - la / sm * sm)), (0, .int x), (1, .int y)]) hx hb dX5_commonDivisor_28 hl (k := 5) rfl ((nI_add i 1)) (by decide) rfl (fun ls hl => ?_)
          refine lv_goto (tgt := 7) hx hb dX5_commonDivisor_31 (by decide) ?_
          exact ih7 (i + 1) sm (la - la / sm * sm) (by omega) (by omega) hres ls (lv_sub hl [4, 5, 2, 1, 0] rfl)
  exact loop7 51 0 x y (by omega) (Nat.zero_le _) hres ls (lv_sub hl [3, 4, 2, 1, 0] rfl)
def d_X5_partOf (up : Int32) (lo : Int32) (what : Int32) : Int32 :=
  if (d_X5_commonDivisor (if 0 ≤ up then up else 0 - up) lo) = 0 then
      0
    else
      if what = 0 then
        up / (d_X5_commonDivisor (if 0 ≤ up then up else 0 - up) lo)
      else
        lo / (d_X5_commonDivisor (if 0 ≤ up then up else 0 - up) lo)
set_option maxHeartbeats 4000000 in
set_option maxRecDepth 100000 in
theorem c_X5_partOf (l : Launch) (D : va_G) (cI cC cZ cS : ClassId) (up : Int32) (lo : Int32) (what : Int32) : Met l yX5_partOf wsX5_partOf { frames := 1, cells := 0, slots := 0, locals := 25 } (PcE D cI cC cZ cS [.int up, .int lo, .int what] []) (QcR (some (.int (d_X5_partOf up lo what)))) 0 0 (fun _ => False) := by
  refine Met.ofW (cc := cX5_partOf) (maxL := 4) (ret := (some .int)) (by decide) rfl ?_
  intro p e s m args below meth c s₁ B hml hv
  obtain ⟨rfl, hP, hD, hE⟩ := hv
  have hK := hE.1
  have hx := B.exec
  have hb := B.bytes
  have hr := B.returns
  have hts := atoms_spec (ws := wsX5_partOf) B.pre
  have hown : s.vm.findClass RX5 = some m.cls := findClass_of_methodNamed B.named
  have hlocks := B.notSynchronized
  refine opq (d_X5_partOf up lo what) (fun R hres => ?_)
  rw [hres]
  replace hres := hres.symm
  rw [d_X5_partOf] at hres
  have hl := lv_entry ([.int up, .int lo, .int what]) (n := 4) (Nat.le_of_ble_eq_true rfl)
  rw [lg_entry_eq]
  generalize (lg_sl ([.int up, .int lo, .int what]) ++ List.replicate (4 - (lg_sl ([.int up, .int lo, .int what])).length) Slot.unset).toArray = ls at hl ⊢
  have hl : lv_has ls 4 [(0, .int up), (1, .int lo), (2, .int what)] := hl
  refine lv_iload_n hx hb dX5_partOf_0 rfl (lv_at hl 0 rfl) ?_
  refine va_mabs hx hb (by rw [hml]; exact hl.1.symm) hown (hts (.methodLink RX5 253 Lib.Math.abs.name) (by decide +kernel)) (hts (.static Lib.Math.abs.name) (by decide +kernel)) (hts (.initialized "java/lang/Math") (by decide +kernel)) (hts (.code Lib.Math.abs.name Lib.Math.abs.code 1 (some .int)) (by decide +kernel)) (Nat.le_of_ble_eq_true rfl) (Nat.le_of_ble_eq_true rfl) (Nat.zero_le _) (Nat.zero_le _) dX5_partOf_1 ?_
  refine lv_iload_n hx hb dX5_partOf_4 rfl (lv_at hl 1 rfl) ?_
  have hPc := hP.sub (ws' := []) [] rfl
  have hDc := hD.sub (ws' := []) [] (by decide) rfl
  refine m_callR (W.runS (As := [.int (if 0 ≤ up then up else 0 - up), .int lo]) (rest := []) ⟨hx, hb, hml, hown, hts⟩ (c_X5_commonDivisor l D cI cC cZ cS (if 0 ≤ up then up else 0 - up) lo) (va_cwS 2 hts gX5_partOf_X5_commonDivisor rfl rfl rfl (by decide +kernel) ⟨Nat.le_of_ble_eq_true rfl, Nat.le_of_ble_eq_true rfl⟩) (preS_of hPc hDc hE) rfl rfl hl.1 rfl (lv_room (Nat.le_of_ble_eq_true rfl)) dX5_partOf_5 ⟨Nat.zero_le _, Nat.zero_le _⟩) ?_
  refine W.eq (g2 := F0 m 8 ls [.int (d_X5_commonDivisor (if 0 ≤ up then up else 0 - up) lo)]) rfl ?_
  refine lv_istore_n (lv' := [(3, .int (d_X5_commonDivisor (if 0 ≤ up then up else 0 - up) lo)), (0, .int up), (1, .int lo), (2, .int what)]) hx hb dX5_partOf_8 rfl hl (by decide) rfl (fun ls hl => ?_)
  refine lv_iload_n hx hb dX5_partOf_9 rfl (lv_at hl 0 rfl) ?_
  refine lv_if_ne (tgt := 15) hx hb dX5_partOf_10 (by decide) (fun c_1 => ?_) (fun c_1 => ?_)
  · skip
    rw [if_neg c_1] at hres
    have hz := c_1
    refine lv_iload_n hx hb dX5_partOf_15 rfl (lv_at hl 3 rfl) ?_
    refine lv_if_ne (tgt := 23) hx hb dX5_partOf_16 (by decide) (fun c_2 => ?_) (fun c_2 => ?_)
    · skip
      rw [if_neg c_2] at hres
      refine lv_iload_n hx hb dX5_partOf_23 rfl (lv_at hl 2 rfl) ?_
      refine lv_iload_n hx hb dX5_partOf_24 rfl (lv_at hl 0 rfl) ?_
      refine lv_idiv hx hb dX5_partOf_25 hz ?_
      rw [hres]
      exact W.iret (v := lo / (d_X5_commonDivisor (if 0 ≤ up then up else 0 - up) lo)) hx hb hr (fun t ht hW => ⟨rfl, ht⟩) (fun _ h => by cases h) dX5_partOf_26
    · skip
      rw [if_pos c_2] at hres
      refine lv_iload_n hx hb dX5_partOf_19 rfl (lv_at hl 1 rfl) ?_
      refine lv_goto (tgt := 24) hx hb dX5_partOf_20 (by decide) ?_
      refine lv_iload_n hx hb dX5_partOf_24 rfl (lv_at hl 0 rfl) ?_
      refine lv_idiv hx hb dX5_partOf_25 hz ?_
      rw [hres]
      exact W.iret (v := up / (d_X5_commonDivisor (if 0 ≤ up then up else 0 - up) lo)) hx hb hr (fun t ht hW => ⟨rfl, ht⟩) (fun _ h => by cases h) dX5_partOf_26
  · skip
    rw [if_pos c_1] at hres
    refine lv_iconst (v := 0) hx hb dX5_partOf_13 (by decide) ?_
    rw [hres]
    exact W.iret (v := 0) hx hb hr (fun t ht hW => ⟨rfl, ht⟩) (fun _ h => by cases h) dX5_partOf_14
def d_X5_fewerWords (best : Int32) (words : Int32) : Int32 :=
  if best = (-9 : Int32) then
      words
    else
      if (d_J6_bitCount_0f7a4 best) ≤ (d_J6_bitCount_0f7a4 words) then
        best
      else
        words
set_option maxHeartbeats 4000000 in
set_option maxRecDepth 100000 in
theorem c_X5_fewerWords (l : Launch) (D : va_G) (cI cC cZ cS : ClassId) (best : Int32) (words : Int32) : Met l yX5_fewerWords wsX5_fewerWords { frames := 1, cells := 0, slots := 0, locals := 20 } (PcE D cI cC cZ cS [.int best, .int words] []) (QcR (some (.int (d_X5_fewerWords best words)))) 0 0 (fun _ => False) := by
  refine Met.ofW (cc := cX5_fewerWords) (maxL := 2) (ret := (some .int)) (by decide) rfl ?_
  intro p e s m args below meth c s₁ B hml hv
  obtain ⟨rfl, hP, hD, hE⟩ := hv
  have hK := hE.1
  have hx := B.exec
  have hb := B.bytes
  have hr := B.returns
  have hts := atoms_spec (ws := wsX5_fewerWords) B.pre
  have hown : s.vm.findClass RX5 = some m.cls := findClass_of_methodNamed B.named
  have hlocks := B.notSynchronized
  refine opq (d_X5_fewerWords best words) (fun R hres => ?_)
  rw [hres]
  replace hres := hres.symm
  rw [d_X5_fewerWords] at hres
  have hl := lv_entry ([.int best, .int words]) (n := 2) (Nat.le_of_ble_eq_true rfl)
  rw [lg_entry_eq]
  generalize (lg_sl ([.int best, .int words]) ++ List.replicate (2 - (lg_sl ([.int best, .int words])).length) Slot.unset).toArray = ls at hl ⊢
  have hl : lv_has ls 2 [(0, .int best), (1, .int words)] := hl
  refine lv_iload_n hx hb dX5_fewerWords_0 rfl (lv_at hl 0 rfl) ?_
  refine lv_bipush (v := (-9)) hx hb dX5_fewerWords_1 (by decide) ?_
  refine lv_icmp_eq (tgt := 17) hx hb dX5_fewerWords_3 (by decide) (fun c_1 => ?_) (fun c_1 => ?_)
  · skip
    rw [if_pos c_1] at hres
    refine lv_iload_n hx hb dX5_fewerWords_17 rfl (lv_at hl 1 rfl) ?_
    refine lv_goto (tgt := 22) hx hb dX5_fewerWords_18 (by decide) ?_
    rw [hres]
    exact W.iret (v := words) hx hb hr (fun t ht hW => ⟨rfl, ht⟩) (fun _ h => by cases h) dX5_fewerWords_22
  · skip
    rw [if_neg c_1] at hres
    refine lv_iload_n hx hb dX5_fewerWords_6 rfl (lv_at hl 1 rfl) ?_
    have hPc := hP.sub (ws' := []) [] rfl
    have hDc := hD.sub (ws' := []) [] (by decide) rfl
    refine m_callR (W.runS (As := [.int words]) (rest := []) ⟨hx, hb, hml, hown, hts⟩ (c_J6_bitCount_0f7a4 l D cI cC cZ cS words) (va_cwS 1 hts gX5_fewerWords_J6_bitCount_0f7a4 rfl rfl rfl (by decide +kernel) ⟨Nat.le_of_ble_eq_true rfl, Nat.le_of_ble_eq_true rfl⟩) (preS_of hPc hDc hE) rfl rfl hl.1 rfl (lv_room (Nat.le_of_ble_eq_true rfl)) dX5_fewerWords_7 ⟨Nat.zero_le _, Nat.zero_le _⟩) ?_
    refine W.eq (g2 := F0 m 10 ls [.int (d_J6_bitCount_0f7a4 words)]) rfl ?_
    refine lv_iload_n hx hb dX5_fewerWords_10 rfl (lv_at hl 0 rfl) ?_
    have hPc := hP.sub (ws' := []) [] rfl
    have hDc := hD.sub (ws' := []) [] (by decide) rfl
    refine m_callR (W.runS (As := [.int best]) (rest := [.int (d_J6_bitCount_0f7a4 words)]) ⟨hx, hb, hml, hown, hts⟩ (c_J6_bitCount_0f7a4 l D cI cC cZ cS best) (va_cwS 1 hts gX5_fewerWords_J6_bitCount_0f7a4 rfl rfl rfl (by decide +kernel) ⟨Nat.le_of_ble_eq_true rfl, Nat.le_of_ble_eq_true rfl⟩) (preS_of hPc hDc hE) rfl rfl hl.1 rfl (lv_room (Nat.le_of_ble_eq_true rfl)) dX5_fewerWords_11 ⟨Nat.zero_le _, Nat.zero_le _⟩) ?_
    refine W.eq (g2 := F0 m 14 ls [.int (d_J6_bitCount_0f7a4 best), .int (d_J6_bitCount_0f7a4 words)]) rfl ?_
    refine lv_icmp_ge (tgt := 21) hx hb dX5_fewerWords_14 (by decide) (fun c_2 => ?_) (fun c_2 => ?_)
    · skip
      rw [if_pos c_2] at hres
      refine lv_iload_n hx hb dX5_fewerWords_21 rfl (lv_at hl 0 rfl) ?_
      rw [hres]
      exact W.iret (v := best) hx hb hr (fun t ht hW => ⟨rfl, ht⟩) (fun _ h => by cases h) dX5_fewerWords_22
    · skip
      rw [if_neg c_2] at hres
      refine lv_iload_n hx hb dX5_fewerWords_17 rfl (lv_at hl 1 rfl) ?_
      refine lv_goto (tgt := 22) hx hb dX5_fewerWords_18 (by decide) ?_
      rw [hres]
      exact W.iret (v := words) hx hb hr (fun t ht hW => ⟨rfl, ht⟩) (fun _ h => by cases h) dX5_fewerWords_22
def d_X5_drawn (z : Int32) (date : Int32) (tog : Int32) : Int32 :=
  if tog ≤ 0 then
      0
    else
      ((((((((7919 : Int64) * ((z).toInt64)) + ((4253 : Int64) * ((date).toInt64))) + (1 : Int64)) * ((((7919 : Int64) * ((z).toInt64)) + ((4253 : Int64) * ((date).toInt64))) + (1 : Int64))) - (((((7919 : Int64) * ((z).toInt64)) + ((4253 : Int64) * ((date).toInt64))) + (1 : Int64)) * ((((7919 : Int64) * ((z).toInt64)) + ((4253 : Int64) * ((date).toInt64))) + (1 : Int64))) / (65521 : Int64) * (65521 : Int64)) / (8 : Int64)) - (((((((7919 : Int64) * ((z).toInt64)) + ((4253 : Int64) * ((date).toInt64))) + (1 : Int64)) * ((((7919 : Int64) * ((z).toInt64)) + ((4253 : Int64) * ((date).toInt64))) + (1 : Int64))) - (((((7919 : Int64) * ((z).toInt64)) + ((4253 : Int64) * ((date).toInt64))) + (1 : Int64)) * ((((7919 : Int64) * ((z).toInt64)) + ((4253 : Int64) * ((date).toInt64))) + (1 : Int64))) / (65521 : Int64) * (65521 : Int64)) / (8 : Int64)) / ((tog).toInt64) * ((tog).toInt64)).toInt32
set_option maxHeartbeats 4000000 in
set_option maxRecDepth 100000 in
theorem c_X5_drawn (l : Launch) (D : va_G) (cI cC cZ cS : ClassId) (z : Int32) (date : Int32) (tog : Int32) : Met l yX5_drawn wsX5_drawn { frames := 0, cells := 0, slots := 0, locals := 0 } (PcE D cI cC cZ cS [.int z, .int date, .int tog] []) (QcR (some (.int (d_X5_drawn z date tog)))) 0 0 (fun _ => False) := by
  refine Met.ofW (cc := cX5_drawn) (maxL := 7) (ret := (some .int)) (by decide) rfl ?_
  intro p e s m args below meth c s₁ B hml hv
  obtain ⟨rfl, hP, hD, hE⟩ := hv
  have hK := hE.1
  have hx := B.exec
  have hb := B.bytes
  have hr := B.returns
  have hts := atoms_spec (ws := wsX5_drawn) B.pre
  have hown : s.vm.findClass RX5 = some m.cls := findClass_of_methodNamed B.named
  have hlocks := B.notSynchronized
  refine opq (d_X5_drawn z date tog) (fun R hres => ?_)
  rw [hres]
  replace hres := hres.symm
  rw [d_X5_drawn] at hres
  have hl := lv_entry ([.int z, .int date, .int tog]) (n := 7) (Nat.le_of_ble_eq_true rfl)
  rw [lg_entry_eq]
  generalize (lg_sl ([.int z, .int date, .int tog]) ++ List.replicate (7 - (lg_sl ([.int z, .int date, .int tog])).length) Slot.unset).toArray = ls at hl ⊢
  have hl : lv_has ls 7 [(0, .int z), (1, .int date), (2, .int tog)] := hl
  refine lv_ldc2 hx hb hown (hts (.constantLong RX5 245 (7919)) (by decide +kernel)) dX5_drawn_0 ?_
  refine lv_iload_n hx hb dX5_drawn_3 rfl (lv_at hl 0 rfl) ?_
  refine lv_i2l (v := (z).toInt64) hx hb dX5_drawn_4 rfl ?_
  refine lv_lmul hx hb dX5_drawn_5 ?_
  refine lv_ldc2 hx hb hown (hts (.constantLong RX5 247 (4253)) (by decide +kernel)) dX5_drawn_6 ?_
  refine lv_iload_n hx hb dX5_drawn_9 rfl (lv_at hl 1 rfl) ?_
  refine lv_i2l (v := (date).toInt64) hx hb dX5_drawn_10 rfl ?_
  refine lv_lmul hx hb dX5_drawn_11 ?_
  refine lv_ladd hx hb dX5_drawn_12 ?_
  refine lv_lconst (v := 1) hx hb dX5_drawn_13 (by decide) ?_
  refine lv_ladd hx hb dX5_drawn_14 ?_
  refine lv_lstore_n (lv' := [(3, .long ((((7919 : Int64) * ((z).toInt64)) + ((4253 : Int64) * ((date).toInt64))) + (1 : Int64))), (0, .int z), (1, .int date), (2, .int tog)]) hx hb dX5_drawn_15 rfl hl (by decide) rfl (fun ls hl => ?_)
  refine lv_lload_n hx hb dX5_drawn_16 rfl (lv_at hl 0 rfl) ?_
  refine lv_lload_n hx hb dX5_drawn_17 rfl (lv_at hl 0 rfl) ?_
  refine lv_lmul hx hb dX5_drawn_18 ?_
  refine lv_ldc2 hx hb hown (hts (.constantLong RX5 249 (65521)) (by decide +kernel)) dX5_drawn_19 ?_
  refine lv_lrem hx hb dX5_drawn_22 (by decide) ?_
  refine lv_ldc2 hx hb hown (hts (.constantLong RX5 251 (8)) (by decide +kernel)) dX5_drawn_23 ?_
  refine lv_ldiv hx hb dX5_drawn_26 (by decide) ?_
  refine lv_lstore (lv' := [(5, .long (((((((7919 : Int64) * ((z).toInt64)) + ((4253 : Int64) * ((date).toInt64))) + (1 : Int64)) * ((((7919 : Int64) * ((z).toInt64)) + ((4253 : Int64) * ((date).toInt64))) + (1 : Int64))) - (((((7919 : Int64) * ((z).toInt64)) + ((4253 : Int64) * ((date).toInt64))) + (1 : Int64)) * ((((7919 : Int64) * ((z).toInt64)) + ((4253 : Int64) * ((date).toInt64))) + (1 : Int64))) / (65521 : Int64) * (65521 : Int64)) / (8 : Int64))), (3, .long ((((7919 : Int64) * ((z).toInt64)) + ((4253 : Int64) * ((date).toInt64))) + (1 : Int64))), (0, .int z), (1, .int date), (2, .int tog)]) hx hb dX5_drawn_27 hl (by decide) rfl (fun ls hl => ?_)
  refine lv_iload_n hx hb dX5_drawn_29 rfl (lv_at hl 4 rfl) ?_
  refine lv_if_le (tgt := 42) hx hb dX5_drawn_30 (by decide) (fun c_1 => ?_) (fun c_1 => ?_)
  · skip
    rw [if_pos c_1] at hres
    refine lv_iconst (v := 0) hx hb dX5_drawn_42 (by decide) ?_
    rw [hres]
    exact W.iret (v := 0) hx hb hr (fun t ht hW => ⟨rfl, ht⟩) (fun _ h => by cases h) dX5_drawn_43
  · skip
    rw [if_neg c_1] at hres
    have hz := pos64 c_1
    refine lv_lload hx hb dX5_drawn_33 (lv_at hl 0 rfl) ?_
    refine lv_iload_n hx hb dX5_drawn_35 rfl (lv_at hl 4 rfl) ?_
    refine lv_i2l (v := (tog).toInt64) hx hb dX5_drawn_36 rfl ?_
    refine lv_lrem hx hb dX5_drawn_37 hz ?_
    refine lv_l2i (v := ((((((((7919 : Int64) * ((z).toInt64)) + ((4253 : Int64) * ((date).toInt64))) + (1 : Int64)) * ((((7919 : Int64) * ((z).toInt64)) + ((4253 : Int64) * ((date).toInt64))) + (1 : Int64))) - (((((7919 : Int64) * ((z).toInt64)) + ((4253 : Int64) * ((date).toInt64))) + (1 : Int64)) * ((((7919 : Int64) * ((z).toInt64)) + ((4253 : Int64) * ((date).toInt64))) + (1 : Int64))) / (65521 : Int64) * (65521 : Int64)) / (8 : Int64)) - (((((((7919 : Int64) * ((z).toInt64)) + ((4253 : Int64) * ((date).toInt64))) + (1 : Int64)) * ((((7919 : Int64) * ((z).toInt64)) + ((4253 : Int64) * ((date).toInt64))) + (1 : Int64))) - (((((7919 : Int64) * ((z).toInt64)) + ((4253 : Int64) * ((date).toInt64))) + (1 : Int64)) * ((((7919 : Int64) * ((z).toInt64)) + ((4253 : Int64) * ((date).toInt64))) + (1 : Int64))) / (65521 : Int64) * (65521 : Int64)) / (8 : Int64)) / ((tog).toInt64) * ((tog).toInt64)).toInt32) hx hb dX5_drawn_38 rfl ?_
    refine lv_goto (tgt := 43) hx hb dX5_drawn_39 (by decide) ?_
    rw [hres]
    exact W.iret (v := ((((((((7919 : Int64) * ((z).toInt64)) + ((4253 : Int64) * ((date).toInt64))) + (1 : Int64)) * ((((7919 : Int64) * ((z).toInt64)) + ((4253 : Int64) * ((date).toInt64))) + (1 : Int64))) - (((((7919 : Int64) * ((z).toInt64)) + ((4253 : Int64) * ((date).toInt64))) + (1 : Int64)) * ((((7919 : Int64) * ((z).toInt64)) + ((4253 : Int64) * ((date).toInt64))) + (1 : Int64))) / (65521 : Int64) * (65521 : Int64)) / (8 : Int64)) - (((((((7919 : Int64) * ((z).toInt64)) + ((4253 : Int64) * ((date).toInt64))) + (1 : Int64)) * ((((7919 : Int64) * ((z).toInt64)) + ((4253 : Int64) * ((date).toInt64))) + (1 : Int64))) - (((((7919 : Int64) * ((z).toInt64)) + ((4253 : Int64) * ((date).toInt64))) + (1 : Int64)) * ((((7919 : Int64) * ((z).toInt64)) + ((4253 : Int64) * ((date).toInt64))) + (1 : Int64))) / (65521 : Int64) * (65521 : Int64)) / (8 : Int64)) / ((tog).toInt64) * ((tog).toInt64)).toInt32) hx hb hr (fun t ht hW => ⟨rfl, ht⟩) (fun _ h => by cases h) dX5_drawn_43
