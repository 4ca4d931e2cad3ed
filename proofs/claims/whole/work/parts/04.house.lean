def wH (cI cC cZ cS : ClassId) (h : Nat) (tA : Nat) (dA : Nat) (eA : Nat) (hf : Nat → Int32) (tr : Nat → Int32) (de : Nat → Int32) (ea : Nat → Int32) : va_W := [(h, .inr (0, [.ref tA, .ref dA, .ref eA, .int (hf 3), .int (hf 4), .int (hf 5), .int (hf 6), .int (hf 7), .int (hf 8)])), (tA, .inl (cI, 7, .inl tr)), (dA, .inl (cI, 7, .inl de)), (eA, .inl (cI, 7, .inl ea))]
theorem wH_ad {cI cC cZ cS : ClassId} {h : Nat} {tA : Nat} {dA : Nat} {eA : Nat} {hf1 : Nat → Int32} {tr1 : Nat → Int32} {de1 : Nat → Int32} {ea1 : Nat → Int32} {hf2 : Nat → Int32} {tr2 : Nat → Int32} {de2 : Nat → Int32} {ea2 : Nat → Int32} : (wH cI cC cZ cS h tA dA eA hf1 tr1 de1 ea1).map Prod.fst = (wH cI cC cZ cS h tA dA eA hf2 tr2 de2 ea2).map Prod.fst := rfl
def wHS (cI cC cZ cS : ClassId) (h : Nat) (tA : Nat) (dA : Nat) (eA : Nat) (sA : Nat) (hf : Nat → Int32) (tr : Nat → Int32) (de : Nat → Int32) (ea : Nat → Int32) (u : Nat → Int32) : va_W := [(h, .inr (0, [.ref tA, .ref dA, .ref eA, .int (hf 3), .int (hf 4), .int (hf 5), .int (hf 6), .int (hf 7), .int (hf 8)])), (tA, .inl (cI, 7, .inl tr)), (dA, .inl (cI, 7, .inl de)), (eA, .inl (cI, 7, .inl ea)), (sA, .inr (3, [.int (u 0), .int (u 1), .int (u 2), .int (u 3), .int (u 4)]))]
theorem wHS_ad {cI cC cZ cS : ClassId} {h : Nat} {tA : Nat} {dA : Nat} {eA : Nat} {sA : Nat} {hf1 : Nat → Int32} {tr1 : Nat → Int32} {de1 : Nat → Int32} {ea1 : Nat → Int32} {u1 : Nat → Int32} {hf2 : Nat → Int32} {tr2 : Nat → Int32} {de2 : Nat → Int32} {ea2 : Nat → Int32} {u2 : Nat → Int32} : (wHS cI cC cZ cS h tA dA eA sA hf1 tr1 de1 ea1 u1).map Prod.fst = (wHS cI cC cZ cS h tA dA eA sA hf2 tr2 de2 ea2 u2).map Prod.fst := rfl
def d_X5_bitOf (x : Int32) (t : Int32) : Int32 :=
  (x >>> (t &&& 31)) &&& (1 : Int32)
set_option maxHeartbeats 4000000 in
set_option maxRecDepth 100000 in
theorem c_X5_bitOf (l : Launch) (D : va_G) (cI cC cZ cS : ClassId) (x : Int32) (t : Int32) : Met l yX5_bitOf wsX5_bitOf { frames := 0, cells := 0, slots := 0, locals := 0 } (PcE D cI cC cZ cS [.int x, .int t] []) (QcR (some (.int (d_X5_bitOf x t)))) 0 0 (fun _ => False) := by
  refine Met.ofW (cc := cX5_bitOf) (maxL := 2) (ret := (some .int)) (by decide) rfl ?_
  intro p e s m args below meth c s₁ B hml hv
  obtain ⟨rfl, hP, hD, hE⟩ := hv
  have hK := hE.1
  have hx := B.exec
  have hb := B.bytes
  have hr := B.returns
  have hts := atoms_spec (ws := wsX5_bitOf) B.pre
  have hown : s.vm.findClass RX5 = some m.cls := findClass_of_methodNamed B.named
  have hlocks := B.notSynchronized
  refine opq (d_X5_bitOf x t) (fun R hres => ?_)
  rw [hres]
  replace hres := hres.symm
  rw [d_X5_bitOf] at hres
  have hl := lv_entry ([.int x, .int t]) (n := 2) (Nat.le_of_ble_eq_true rfl)
  rw [lg_entry_eq]
  generalize (lg_sl ([.int x, .int t]) ++ List.replicate (2 - (lg_sl ([.int x, .int t])).length) Slot.unset).toArray = ls at hl ⊢
  have hl : lv_has ls 2 [(0, .int x), (1, .int t)] := hl
  refine lv_iload_n hx hb dX5_bitOf_0 rfl (lv_at hl 0 rfl) ?_
  refine lv_iload_n hx hb dX5_bitOf_1 rfl (lv_at hl 1 rfl) ?_
  refine lv_ishr hx hb dX5_bitOf_2 ?_
  refine lv_iconst (v := 1) hx hb dX5_bitOf_3 (by decide) ?_
  refine lv_iand hx hb dX5_bitOf_4 ?_
  rw [hres]
  exact W.iret (v := (x >>> (t &&& 31)) &&& (1 : Int32)) hx hb hr (fun t ht hW => ⟨rfl, ht⟩) (fun _ h => by cases h) dX5_bitOf_5
def d_X5_areWords (x : Int32) : Int32 :=
  if x < 0 then
      0
    else
      if (31 : Int32) < x then
        0
      else
        1
set_option maxHeartbeats 4000000 in
set_option maxRecDepth 100000 in
theorem c_X5_areWords (l : Launch) (D : va_G) (cI cC cZ cS : ClassId) (x : Int32) : Met l yX5_areWords wsX5_areWords { frames := 0, cells := 0, slots := 0, locals := 0 } (PcE D cI cC cZ cS [.int x] []) (QcR (some (.int (d_X5_areWords x)))) 0 0 (fun _ => False) := by
  refine Met.ofW (cc := cX5_areWords) (maxL := 1) (ret := (some .boolean)) (by decide) rfl ?_
  intro p e s m args below meth c s₁ B hml hv
  obtain ⟨rfl, hP, hD, hE⟩ := hv
  have hK := hE.1
  have hx := B.exec
  have hb := B.bytes
  have hr := B.returns
  have hts := atoms_spec (ws := wsX5_areWords) B.pre
  have hown : s.vm.findClass RX5 = some m.cls := findClass_of_methodNamed B.named
  have hlocks := B.notSynchronized
  refine opq (d_X5_areWords x) (fun R hres => ?_)
  rw [hres]
  replace hres := hres.symm
  rw [d_X5_areWords] at hres
  have hl := lv_entry ([.int x]) (n := 1) (Nat.le_of_ble_eq_true rfl)
  rw [lg_entry_eq]
  generalize (lg_sl ([.int x]) ++ List.replicate (1 - (lg_sl ([.int x])).length) Slot.unset).toArray = ls at hl ⊢
  have hl : lv_has ls 1 [(0, .int x)] := hl
  refine lv_iload_n hx hb dX5_areWords_0 rfl (lv_at hl 0 rfl) ?_
  refine lv_if_lt (tgt := 14) hx hb dX5_areWords_1 (by decide) (fun c_1 => ?_) (fun c_1 => ?_)
  · skip
    rw [if_pos c_1] at hres
    refine lv_iconst (v := 0) hx hb dX5_areWords_14 (by decide) ?_
    rw [hres]
    exact W.zret (v := 0) hx hb hr rfl (fun t ht hW => ⟨rfl, ht⟩) (fun _ h => by cases h) dX5_areWords_15
  · skip
    rw [if_neg c_1] at hres
    refine lv_iload_n hx hb dX5_areWords_4 rfl (lv_at hl 0 rfl) ?_
    refine lv_bipush (v := 31) hx hb dX5_areWords_5 (by decide) ?_
    refine lv_icmp_gt (tgt := 14) hx hb dX5_areWords_7 (by decide) (fun c_2 => ?_) (fun c_2 => ?_)
    · skip
      rw [if_pos c_2] at hres
      refine lv_iconst (v := 0) hx hb dX5_areWords_14 (by decide) ?_
      rw [hres]
      exact W.zret (v := 0) hx hb hr rfl (fun t ht hW => ⟨rfl, ht⟩) (fun _ h => by cases h) dX5_areWords_15
    · skip
      rw [if_neg c_2] at hres
      refine lv_iconst (v := 1) hx hb dX5_areWords_10 (by decide) ?_
      refine lv_goto (tgt := 15) hx hb dX5_areWords_11 (by decide) ?_
      rw [hres]
      exact W.zret (v := 1) hx hb hr rfl (fun t ht hW => ⟨rfl, ht⟩) (fun _ h => by cases h) dX5_areWords_15
def d_X5_isZ (x : Int32) : Int32 :=
  if x < 0 then
      0
    else
      if (9999 : Int32) < x then
        0
      else
        1
set_option maxHeartbeats 4000000 in
set_option maxRecDepth 100000 in
theorem c_X5_isZ (l : Launch) (D : va_G) (cI cC cZ cS : ClassId) (x : Int32) : Met l yX5_isZ wsX5_isZ { frames := 0, cells := 0, slots := 0, locals := 0 } (PcE D cI cC cZ cS [.int x] []) (QcR (some (.int (d_X5_isZ x)))) 0 0 (fun _ => False) := by
  refine Met.ofW (cc := cX5_isZ) (maxL := 1) (ret := (some .boolean)) (by decide) rfl ?_
  intro p e s m args below meth c s₁ B hml hv
  obtain ⟨rfl, hP, hD, hE⟩ := hv
  have hK := hE.1
  have hx := B.exec
  have hb := B.bytes
  have hr := B.returns
  have hts := atoms_spec (ws := wsX5_isZ) B.pre
  have hown : s.vm.findClass RX5 = some m.cls := findClass_of_methodNamed B.named
  have hlocks := B.notSynchronized
  refine opq (d_X5_isZ x) (fun R hres => ?_)
  rw [hres]
  replace hres := hres.symm
  rw [d_X5_isZ] at hres
  have hl := lv_entry ([.int x]) (n := 1) (Nat.le_of_ble_eq_true rfl)
  rw [lg_entry_eq]
  generalize (lg_sl ([.int x]) ++ List.replicate (1 - (lg_sl ([.int x])).length) Slot.unset).toArray = ls at hl ⊢
  have hl : lv_has ls 1 [(0, .int x)] := hl
  refine lv_iload_n hx hb dX5_isZ_0 rfl (lv_at hl 0 rfl) ?_
  refine lv_if_lt (tgt := 15) hx hb dX5_isZ_1 (by decide) (fun c_1 => ?_) (fun c_1 => ?_)
  · skip
    rw [if_pos c_1] at hres
    refine lv_iconst (v := 0) hx hb dX5_isZ_15 (by decide) ?_
    rw [hres]
    exact W.zret (v := 0) hx hb hr rfl (fun t ht hW => ⟨rfl, ht⟩) (fun _ h => by cases h) dX5_isZ_16
  · skip
    rw [if_neg c_1] at hres
    refine lv_iload_n hx hb dX5_isZ_4 rfl (lv_at hl 0 rfl) ?_
    refine lv_sipush (v := 9999) hx hb dX5_isZ_5 (by decide) ?_
    refine lv_icmp_gt (tgt := 15) hx hb dX5_isZ_8 (by decide) (fun c_2 => ?_) (fun c_2 => ?_)
    · skip
      rw [if_pos c_2] at hres
      refine lv_iconst (v := 0) hx hb dX5_isZ_15 (by decide) ?_
      rw [hres]
      exact W.zret (v := 0) hx hb hr rfl (fun t ht hW => ⟨rfl, ht⟩) (fun _ h => by cases h) dX5_isZ_16
    · skip
      rw [if_neg c_2] at hres
      refine lv_iconst (v := 1) hx hb dX5_isZ_11 (by decide) ?_
      refine lv_goto (tgt := 16) hx hb dX5_isZ_12 (by decide) ?_
      rw [hres]
      exact W.zret (v := 1) hx hb hr rfl (fun t ht hW => ⟨rfl, ht⟩) (fun _ h => by cases h) dX5_isZ_16
def d_X5_isYesOrNo (x : Int32) : Int32 :=
  if x = 0 then
      1
    else
      if x = (1 : Int32) then
        1
      else
        0
set_option maxHeartbeats 4000000 in
set_option maxRecDepth 100000 in
theorem c_X5_isYesOrNo (l : Launch) (D : va_G) (cI cC cZ cS : ClassId) (x : Int32) : Met l yX5_isYesOrNo wsX5_isYesOrNo { frames := 0, cells := 0, slots := 0, locals := 0 } (PcE D cI cC cZ cS [.int x] []) (QcR (some (.int (d_X5_isYesOrNo x)))) 0 0 (fun _ => False) := by
  refine Met.ofW (cc := cX5_isYesOrNo) (maxL := 1) (ret := (some .boolean)) (by decide) rfl ?_
  intro p e s m args below meth c s₁ B hml hv
  obtain ⟨rfl, hP, hD, hE⟩ := hv
  have hK := hE.1
  have hx := B.exec
  have hb := B.bytes
  have hr := B.returns
  have hts := atoms_spec (ws := wsX5_isYesOrNo) B.pre
  have hown : s.vm.findClass RX5 = some m.cls := findClass_of_methodNamed B.named
  have hlocks := B.notSynchronized
  refine opq (d_X5_isYesOrNo x) (fun R hres => ?_)
  rw [hres]
  replace hres := hres.symm
  rw [d_X5_isYesOrNo] at hres
  have hl := lv_entry ([.int x]) (n := 1) (Nat.le_of_ble_eq_true rfl)
  rw [lg_entry_eq]
  generalize (lg_sl ([.int x]) ++ List.replicate (1 - (lg_sl ([.int x])).length) Slot.unset).toArray = ls at hl ⊢
  have hl : lv_has ls 1 [(0, .int x)] := hl
  refine lv_iload_n hx hb dX5_isYesOrNo_0 rfl (lv_at hl 0 rfl) ?_
  refine lv_if_eq (tgt := 9) hx hb dX5_isYesOrNo_1 (by decide) (fun c_1 => ?_) (fun c_1 => ?_)
  · skip
    rw [if_pos c_1] at hres
    refine lv_iconst (v := 1) hx hb dX5_isYesOrNo_9 (by decide) ?_
    refine lv_goto (tgt := 14) hx hb dX5_isYesOrNo_10 (by decide) ?_
    rw [hres]
    exact W.zret (v := 1) hx hb hr rfl (fun t ht hW => ⟨rfl, ht⟩) (fun _ h => by cases h) dX5_isYesOrNo_14
  · skip
    rw [if_neg c_1] at hres
    refine lv_iload_n hx hb dX5_isYesOrNo_4 rfl (lv_at hl 0 rfl) ?_
    refine lv_iconst (v := 1) hx hb dX5_isYesOrNo_5 (by decide) ?_
    refine lv_icmp_ne (tgt := 13) hx hb dX5_isYesOrNo_6 (by decide) (fun c_2 => ?_) (fun c_2 => ?_)
    · skip
      rw [if_neg c_2] at hres
      refine lv_iconst (v := 0) hx hb dX5_isYesOrNo_13 (by decide) ?_
      rw [hres]
      exact W.zret (v := 0) hx hb hr rfl (fun t ht hW => ⟨rfl, ht⟩) (fun _ h => by cases h) dX5_isYesOrNo_14
    · skip
      rw [if_pos c_2] at hres
      refine lv_iconst (v := 1) hx hb dX5_isYesOrNo_9 (by decide) ?_
      refine lv_goto (tgt := 14) hx hb dX5_isYesOrNo_10 (by decide) ?_
      rw [hres]
      exact W.zret (v := 1) hx hb hr rfl (fun t ht hW => ⟨rfl, ht⟩) (fun _ h => by cases h) dX5_isYesOrNo_14
def d_X5_withBit (x : Int32) (t : Int32) (is : Int32) : Int32 :=
  if is = (1 : Int32) then
      x ||| ((1 : Int32) <<< (t &&& 31))
    else
      x &&& (((1 : Int32) <<< (t &&& 31)) ^^^ (-1 : Int32))
set_option maxHeartbeats 4000000 in
set_option maxRecDepth 100000 in
theorem c_X5_withBit (l : Launch) (D : va_G) (cI cC cZ cS : ClassId) (x : Int32) (t : Int32) (is : Int32) : Met l yX5_withBit wsX5_withBit { frames := 0, cells := 0, slots := 0, locals := 0 } (PcE D cI cC cZ cS [.int x, .int t, .int is] []) (QcR (some (.int (d_X5_withBit x t is)))) 0 0 (fun _ => False) := by
  refine Met.ofW (cc := cX5_withBit) (maxL := 3) (ret := (some .int)) (by decide) rfl ?_
  intro p e s m args below meth c s₁ B hml hv
  obtain ⟨rfl, hP, hD, hE⟩ := hv
  have hK := hE.1
  have hx := B.exec
  have hb := B.bytes
  have hr := B.returns
  have hts := atoms_spec (ws := wsX5_withBit) B.pre
  have hown : s.vm.findClass RX5 = some m.cls := findClass_of_methodNamed B.named
  have hlocks := B.notSynchronized
  refine opq (d_X5_withBit x t is) (fun R hres => ?_)
  rw [hres]
  replace hres := hres.symm
  rw [d_X5_withBit] at hres
  have hl := lv_entry ([.int x, .int t, .int is]) (n := 3) (Nat.le_of_ble_eq_true rfl)
  rw [lg_entry_eq]
  generalize (lg_sl ([.int x, .int t, .int is]) ++ List.replicate (3 - (lg_sl ([.int x, .int t, .int is])).length) Slot.unset).toArray = ls at hl ⊢
  have hl : lv_has ls 3 [(0, .int x), (1, .int t), (2, .int is)] := hl
  refine lv_iload_n hx hb dX5_withBit_0 rfl (lv_at hl 2 rfl) ?_
  refine lv_iconst (v := 1) hx hb dX5_withBit_1 (by decide) ?_
  refine lv_icmp_ne (tgt := 13) hx hb dX5_withBit_2 (by decide) (fun c_1 => ?_) (fun c_1 => ?_)
  · skip
    rw [if_neg c_1] at hres
    refine lv_iload_n hx hb dX5_withBit_13 rfl (lv_at hl 0 rfl) ?_
    refine lv_iconst (v := 1) hx hb dX5_withBit_14 (by decide) ?_
    refine lv_iload_n hx hb dX5_withBit_15 rfl (lv_at hl 1 rfl) ?_
    refine lv_ishl hx hb dX5_withBit_16 ?_
    refine lv_iconst (v := (-1)) hx hb dX5_withBit_17 (by decide) ?_
    refine lv_ixor hx hb dX5_withBit_18 ?_
    refine lv_iand hx hb dX5_withBit_19 ?_
    rw [hres]
    exact W.iret (v := x &&& (((1 : Int32) <<< (t &&& 31)) ^^^ (-1 : Int32))) hx hb hr (fun t ht hW => ⟨rfl, ht⟩) (fun _ h => by cases h) dX5_withBit_20
  · skip
    rw [if_pos c_1] at hres
    refine lv_iload_n hx hb dX5_withBit_5 rfl (lv_at hl 0 rfl) ?_
    refine lv_iconst (v := 1) hx hb dX5_withBit_6 (by decide) ?_
    refine lv_iload_n hx hb dX5_withBit_7 rfl (lv_at hl 1 rfl) ?_
    refine lv_ishl hx hb dX5_withBit_8 ?_
    refine lv_ior hx hb dX5_withBit_9 ?_
    refine lv_goto (tgt := 20) hx hb dX5_withBit_10 (by decide) ?_
    rw [hres]
    exact W.iret (v := x ||| ((1 : Int32) <<< (t &&& 31))) hx hb hr (fun t ht hW => ⟨rfl, ht⟩) (fun _ h => by cases h) dX5_withBit_20
def d_X0_hasRoom (hf : Nat → Int32) : Int32 :=
  if (7 : Int32) ≤ (hf 3) then
      0
    else
      1
set_option maxHeartbeats 4000000 in
set_option maxRecDepth 100000 in
theorem c_X0_hasRoom (l : Launch) (D : va_G) (cI cC cZ cS : ClassId) (h : Nat) (tA : Nat) (dA : Nat) (eA : Nat) (hf : Nat → Int32) (tr : Nat → Int32) (de : Nat → Int32) (ea : Nat → Int32) : Met l yX0_hasRoom wsX0_hasRoom { frames := 0, cells := 0, slots := 0, locals := 0 } (PcE D cI cC cZ cS [.ref h] (wH cI cC cZ cS h tA dA eA hf tr de ea)) (QcR (some (.int (d_X0_hasRoom hf)))) 0 0 (fun _ => False) := by
  refine Met.ofW (cc := cX0_hasRoom) (maxL := 1) (ret := (some .boolean)) (by decide) rfl ?_
  intro p e s m args below meth c s₁ B hml hv
  obtain ⟨rfl, hP, hD, hE⟩ := hv
  have hK := hE.1
  have hx := B.exec
  have hb := B.bytes
  have hr := B.returns
  have hts := atoms_spec (ws := wsX0_hasRoom) B.pre
  have hown : s.vm.findClass RX0 = some m.cls := findClass_of_methodNamed B.named
  have hlocks := B.notSynchronized
  have hinX0 : ∀ w ∈ wsX00, w ∈ wsX0_hasRoom := by decide +kernel
  refine opq (d_X0_hasRoom hf) (fun R hres => ?_)
  rw [hres]
  replace hres := hres.symm
  rw [d_X0_hasRoom] at hres
  have hl := lv_entry ([.ref h]) (n := 1) (Nat.le_of_ble_eq_true rfl)
  rw [lg_entry_eq]
  generalize (lg_sl ([.ref h]) ++ List.replicate (1 - (lg_sl ([.ref h])).length) Slot.unset).toArray = ls at hl ⊢
  have hl : lv_has ls 1 [(0, .ref h)] := hl
  refine lv_aload_n hx hb dX0_hasRoom_0 rfl (lv_at hl 0 rfl) ?_
  refine va_get (D := D) (ci := 0) (v := .int (hf 3)) (C := RX0) (T := TX0) (N := 9) hx hb hts hinX0 hown hK hP 0 rfl rfl 3 (by decide) (hts (.fieldLink RX0 24 "FirstOut$House" "things" "I") (by decide +kernel)) (fun _ h9 => h9) rfl dX0_hasRoom_1 ?_
  refine lv_bipush (v := 7) hx hb dX0_hasRoom_4 (by decide) ?_
  refine lv_icmp_ge (tgt := 13) hx hb dX0_hasRoom_6 (by decide) (fun c_1 => ?_) (fun c_1 => ?_)
  · skip
    rw [if_pos c_1] at hres
    refine lv_iconst (v := 0) hx hb dX0_hasRoom_13 (by decide) ?_
    rw [hres]
    exact W.zret (v := 0) hx hb hr rfl (fun t ht hW => ⟨rfl, ht⟩) (fun _ h => by cases h) dX0_hasRoom_14
  · skip
    rw [if_neg c_1] at hres
    refine lv_iconst (v := 1) hx hb dX0_hasRoom_9 (by decide) ?_
    refine lv_goto (tgt := 14) hx hb dX0_hasRoom_10 (by decide) ?_
    rw [hres]
    exact W.zret (v := 1) hx hb hr rfl (fun t ht hW => ⟨rfl, ht⟩) (fun _ h => by cases h) dX0_hasRoom_14
def d_X0_holds (hf : Nat → Int32) (t : Int32) : Int32 :=
  if t < 0 then
      0
    else
      if (hf 3) ≤ t then
        0
      else
        1
set_option maxHeartbeats 4000000 in
set_option maxRecDepth 100000 in
theorem c_X0_holds (l : Launch) (D : va_G) (cI cC cZ cS : ClassId) (h : Nat) (tA : Nat) (dA : Nat) (eA : Nat) (hf : Nat → Int32) (tr : Nat → Int32) (de : Nat → Int32) (ea : Nat → Int32) (t : Int32) : Met l yX0_holds wsX0_holds { frames := 0, cells := 0, slots := 0, locals := 0 } (PcE D cI cC cZ cS [.ref h, .int t] (wH cI cC cZ cS h tA dA eA hf tr de ea)) (QcR (some (.int (d_X0_holds hf t)))) 0 0 (fun _ => False) := by
  refine Met.ofW (cc := cX0_holds) (maxL := 2) (ret := (some .boolean)) (by decide) rfl ?_
  intro p e s m args below meth c s₁ B hml hv
  obtain ⟨rfl, hP, hD, hE⟩ := hv
  have hK := hE.1
  have hx := B.exec
  have hb := B.bytes
  have hr := B.returns
  have hts := atoms_spec (ws := wsX0_holds) B.pre
  have hown : s.vm.findClass RX0 = some m.cls := findClass_of_methodNamed B.named
  have hlocks := B.notSynchronized
  have hinX0 : ∀ w ∈ wsX00, w ∈ wsX0_holds := by decide +kernel
  refine opq (d_X0_holds hf t) (fun R hres => ?_)
  rw [hres]
  replace hres := hres.symm
  rw [d_X0_holds] at hres
  have hl := lv_entry ([.ref h, .int t]) (n := 2) (Nat.le_of_ble_eq_true rfl)
  rw [lg_entry_eq]
  generalize (lg_sl ([.ref h, .int t]) ++ List.replicate (2 - (lg_sl ([.ref h, .int t])).length) Slot.unset).toArray = ls at hl ⊢
  have hl : lv_has ls 2 [(0, .ref h), (1, .int t)] := hl
  refine lv_iload_n hx hb dX0_holds_0 rfl (lv_at hl 1 rfl) ?_
  refine lv_if_lt (tgt := 16) hx hb dX0_holds_1 (by decide) (fun c_1 => ?_) (fun c_1 => ?_)
  · skip
    rw [if_pos c_1] at hres
    refine lv_iconst (v := 0) hx hb dX0_holds_16 (by decide) ?_
    rw [hres]
    exact W.zret (v := 0) hx hb hr rfl (fun t ht hW => ⟨rfl, ht⟩) (fun _ h => by cases h) dX0_holds_17
  · skip
    rw [if_neg c_1] at hres
    refine lv_iload_n hx hb dX0_holds_4 rfl (lv_at hl 1 rfl) ?_
    refine lv_aload_n hx hb dX0_holds_5 rfl (lv_at hl 0 rfl) ?_
    refine va_get (D := D) (ci := 0) (v := .int (hf 3)) (C := RX0) (T := TX0) (N := 9) hx hb hts hinX0 hown hK hP 0 rfl rfl 3 (by decide) (hts (.fieldLink RX0 24 "FirstOut$House" "things" "I") (by decide +kernel)) (fun _ h9 => h9) rfl dX0_holds_6 ?_
    refine lv_icmp_ge (tgt := 16) hx hb dX0_holds_9 (by decide) (fun c_2 => ?_) (fun c_2 => ?_)
    · skip
      rw [if_pos c_2] at hres
      refine lv_iconst (v := 0) hx hb dX0_holds_16 (by decide) ?_
      rw [hres]
      exact W.zret (v := 0) hx hb hr rfl (fun t ht hW => ⟨rfl, ht⟩) (fun _ h => by cases h) dX0_holds_17
    · skip
      rw [if_neg c_2] at hres
      refine lv_iconst (v := 1) hx hb dX0_holds_12 (by decide) ?_
      refine lv_goto (tgt := 17) hx hb dX0_holds_13 (by decide) ?_
      rw [hres]
      exact W.zret (v := 1) hx hb hr rfl (fun t ht hW => ⟨rfl, ht⟩) (fun _ h => by cases h) dX0_holds_17
def lp_X0_having_4 (tr : Nat → Int32) (w : Int32) (n : Nat) : Nat → Nat → Int32 → Int32
  | 0, _, _ => 0
  | k4 + 1, i, acc => if (nI n) ≤ (nI i) then
      acc
    else
      if ((tr i) &&& w) = w then
        lp_X0_having_4 tr w n k4 (i + 1) (acc ||| ((1 : Int32) <<< ((nI i) &&& 31)))
      else
        lp_X0_having_4 tr w n k4 (i + 1) acc
def d_X0_having (tr : Nat → Int32) (w : Int32) (n : Nat) : Int32 :=
  lp_X0_having_4 tr w n (n + 1) 0 0
set_option maxHeartbeats 4000000 in
set_option maxRecDepth 100000 in
theorem c_X0_having (l : Launch) (D : va_G) (cI cC cZ cS : ClassId) (h : Nat) (tA : Nat) (dA : Nat) (eA : Nat) (hf : Nat → Int32) (tr : Nat → Int32) (de : Nat → Int32) (ea : Nat → Int32) (w : Int32) (n : Nat) (hn : hf 3 = nI n) (h7 : n ≤ 7) : Met l yX0_having wsX0_having { frames := 0, cells := 0, slots := 0, locals := 0 } (PcE D cI cC cZ cS [.ref h, .int w] (wH cI cC cZ cS h tA dA eA hf tr de ea)) (QcR (some (.int (d_X0_having tr w n)))) 0 0 (fun _ => False) := by
  refine Met.ofW (cc := cX0_having) (maxL := 4) (ret := (some .int)) (by decide) rfl ?_
  intro p e s m args below meth c s₁ B hml hv
  obtain ⟨rfl, hP, hD, hE⟩ := hv
  have hK := hE.1
  have hx := B.exec
  have hb := B.bytes
  have hr := B.returns
  have hts := atoms_spec (ws := wsX0_having) B.pre
  have hown : s.vm.findClass RX0 = some m.cls := findClass_of_methodNamed B.named
  have hlocks := B.notSynchronized
  have hinX0 : ∀ w ∈ wsX00, w ∈ wsX0_having := by decide +kernel
  refine opq (d_X0_having tr w n) (fun R hres => ?_)
  rw [hres]
  replace hres := hres.symm
  rw [d_X0_having] at hres
  have hl := lv_entry ([.ref h, .int w]) (n := 4) (Nat.le_of_ble_eq_true rfl)
  rw [lg_entry_eq]
  generalize (lg_sl ([.ref h, .int w]) ++ List.replicate (4 - (lg_sl ([.ref h, .int w])).length) Slot.unset).toArray = ls at hl ⊢
  have hl : lv_has ls 4 [(0, .ref h), (1, .int w)] := hl
  refine lv_iconst (v := 0) hx hb dX0_having_0 (by decide) ?_
  refine lv_istore_n (lv' := [(2, .int 0), (0, .ref h), (1, .int w)]) hx hb dX0_having_1 rfl hl (by decide) rfl (fun ls hl => ?_)
  refine lv_iconst (v := 0) hx hb dX0_having_2 (by decide) ?_
  refine lv_istore_n (lv' := [(3, .int 0), (2, .int 0), (0, .ref h), (1, .int w)]) hx hb dX0_having_3 rfl hl (by decide) rfl (fun ls hl => ?_)
  have loop4 : ∀ (k4 : Nat) (i : Nat) (acc : Int32), n - i < k4 → i ≤ n → R = lp_X0_having_4 tr w n k4 i acc → ∀ ls : Array Slot, lv_has ls 4 [(0, .ref h), (1, .int w), (2, .int acc), (3, .int (nI i))] → W p l e (headSpec wsX0_having { frames := 0, cells := 0, slots := 0, locals := 0 }).room s m (([.ref h, .int w] : List Value).toArray) below meth c s.heap [] 0 0 (MQ below (QcR (some (.int R))) (([.ref h, .int w] : List Value).toArray) s 0 0 (fun _ => False)) (F0 m 4 ls []) := by
    intro k4
    induction k4 with
    | zero => intro i acc hk; exact absurd hk (Nat.not_lt_zero _)
    | succ k4 ih4 =>
      intro i acc hk4 hi hres ls hl
      rw [lp_X0_having_4] at hres
      refine lv_iload_n hx hb dX0_having_4 rfl (lv_at hl 3 rfl) ?_
      refine lv_aload_n hx hb dX0_having_5 rfl (lv_at hl 0 rfl) ?_
      refine va_get (D := D) (ci := 0) (v := .int (hf 3)) (C := RX0) (T := TX0) (N := 9) hx hb hts hinX0 hown hK hP 0 rfl rfl 3 (by decide) (hts (.fieldLink RX0 24 "FirstOut$House" "things" "I") (by decide +kernel)) (fun _ h9 => h9) rfl dX0_having_6 ?_
      refine lv_to (show (hf 3) = nI n from hn) ?_
      refine lv_icmp_ge (tgt := 36) hx hb dX0_having_9 (by decide) (fun c_1 => ?_) (fun c_1 => ?_)
      · skip
        rw [if_pos c_1] at hres
        refine lv_iload_n hx hb dX0_having_36 rfl (lv_at hl 2 rfl) ?_
        rw [hres]
        exact W.iret (v := acc) hx hb hr (fun t ht hW => ⟨rfl, ht⟩) (fun _ h => by cases h) dX0_having_37
      · skip
        rw [if_neg c_1] at hres
        have hlt : i < n := nlt_of c_1 (by omega) (by omega)
        refine lv_aload_n hx hb dX0_having_12 rfl (lv_at hl 0 rfl) ?_
        refine va_get (D := D) (ci := 0) (v := .ref tA) (C := RX0) (T := TX0) (N := 9) hx hb hts hinX0 hown hK hP 0 rfl rfl 0 (by decide) (hts (.fieldLink RX0 9 "FirstOut$House" "traits" "[I") (by decide +kernel)) (fun _ h9 => h9) rfl dX0_having_13 ?_
        refine lv_iload_n hx hb dX0_having_16 rfl (lv_at hl 3 rfl) ?_
        refine m_iald hx hb hK hP 1 0 rfl rfl i rfl (by omega) (by decide) dX0_having_17 ?_
        refine lv_to (show _ = (tr i) from rfl) ?_
        refine lv_iload_n hx hb dX0_having_18 rfl (lv_at hl 1 rfl) ?_
        refine lv_iand hx hb dX0_having_19 ?_
        refine lv_iload_n hx hb dX0_having_20 rfl (lv_at hl 1 rfl) ?_
        refine lv_icmp_ne (tgt := 30) hx hb dX0_having_21 (by decide) (fun c_2 => ?_) (fun c_2 => ?_)
        · skip
          rw [if_neg c_2] at hres
          refine lv_iinc (v := nI (i + 1)) (lv' := [(3, .int (nI (i + 1))), (0, .ref h), (1, .int w), (2, .int acc)]) hx hb dX0_having_30 hl (k := 3) rfl ((nI_add i 1)) (by decide) rfl (fun ls hl => ?_)
          refine lv_goto (tgt := 4) hx hb dX0_having_33 (by decide) ?_
          exact ih4 (i + 1) acc (by omega) (by omega) hres ls (lv_sub hl [1, 2, 3, 0] rfl)
        · skip
          rw [if_pos c_2] at hres
          refine lv_iload_n hx hb dX0_having_24 rfl (lv_at hl 2 rfl) ?_
          refine lv_iconst (v := 1) hx hb dX0_having_25 (by decide) ?_
          refine lv_iload_n hx hb dX0_having_26 rfl (lv_at hl 3 rfl) ?_
          refine lv_ishl hx hb dX0_having_27 ?_
          refine lv_ior hx hb dX0_having_28 ?_
          refine lv_istore_n (lv' := [(2, .int (acc ||| ((1 : Int32) <<< ((nI i) &&& 31)))), (0, .ref h), (1, .int w), (3, .int (nI i))]) hx hb dX0_having_29 rfl hl (by decide) rfl (fun ls hl => ?_)
          refine lv_iinc (v := nI (i + 1)) (lv' := [(3, .int (nI (i + 1))), (2, .int (acc ||| ((1 : Int32) <<< ((nI i) &&& 31)))), (0, .ref h), (1, .int w)]) hx hb dX0_having_30 hl (k := 3) rfl ((nI_add i 1)) (by decide) rfl (fun ls hl => ?_)
          refine lv_goto (tgt := 4) hx hb dX0_having_33 (by decide) ?_
          exact ih4 (i + 1) (acc ||| ((1 : Int32) <<< ((nI i) &&& 31))) (by omega) (by omega) hres ls (lv_sub hl [2, 3, 1, 0] rfl)
  exact loop4 (n + 1) 0 0 (by omega) (Nat.zero_le _) hres ls (lv_sub hl [2, 3, 1, 0] rfl)
def lp_X0_eagerOnes_4 (ea : Nat → Int32) (n : Nat) : Nat → Nat → Int32 → Int32
  | 0, _, _ => 0
  | k4 + 1, i, acc => if (nI n) ≤ (nI i) then
      acc
    else
      if (ea i) ≤ 0 then
        lp_X0_eagerOnes_4 ea n k4 (i + 1) acc
      else
        lp_X0_eagerOnes_4 ea n k4 (i + 1) (acc ||| ((1 : Int32) <<< ((nI i) &&& 31)))
def d_X0_eagerOnes (ea : Nat → Int32) (n : Nat) : Int32 :=
  lp_X0_eagerOnes_4 ea n (n + 1) 0 0
set_option maxHeartbeats 4000000 in
set_option maxRecDepth 100000 in
theorem c_X0_eagerOnes (l : Launch) (D : va_G) (cI cC cZ cS : ClassId) (h : Nat) (tA : Nat) (dA : Nat) (eA : Nat) (hf : Nat → Int32) (tr : Nat → Int32) (de : Nat → Int32) (ea : Nat → Int32) (n : Nat) (hn : hf 3 = nI n) (h7 : n ≤ 7) : Met l yX0_eagerOnes wsX0_eagerOnes { frames := 0, cells := 0, slots := 0, locals := 0 } (PcE D cI cC cZ cS [.ref h] (wH cI cC cZ cS h tA dA eA hf tr de ea)) (QcR (some (.int (d_X0_eagerOnes ea n)))) 0 0 (fun _ => False) := by
  refine Met.ofW (cc := cX0_eagerOnes) (maxL := 3) (ret := (some .int)) (by decide) rfl ?_
  intro p e s m args below meth c s₁ B hml hv
  obtain ⟨rfl, hP, hD, hE⟩ := hv
  have hK := hE.1
  have hx := B.exec
  have hb := B.bytes
  have hr := B.returns
  have hts := atoms_spec (ws := wsX0_eagerOnes) B.pre
  have hown : s.vm.findClass RX0 = some m.cls := findClass_of_methodNamed B.named
  have hlocks := B.notSynchronized
  have hinX0 : ∀ w ∈ wsX00, w ∈ wsX0_eagerOnes := by decide +kernel
  refine opq (d_X0_eagerOnes ea n) (fun R hres => ?_)
  rw [hres]
  replace hres := hres.symm
  rw [d_X0_eagerOnes] at hres
  have hl := lv_entry ([.ref h]) (n := 3) (Nat.le_of_ble_eq_true rfl)
  rw [lg_entry_eq]
  generalize (lg_sl ([.ref h]) ++ List.replicate (3 - (lg_sl ([.ref h])).length) Slot.unset).toArray = ls at hl ⊢
  have hl : lv_has ls 3 [(0, .ref h)] := hl
  refine lv_iconst (v := 0) hx hb dX0_eagerOnes_0 (by decide) ?_
  refine lv_istore_n (lv' := [(1, .int 0), (0, .ref h)]) hx hb dX0_eagerOnes_1 rfl hl (by decide) rfl (fun ls hl => ?_)
  refine lv_iconst (v := 0) hx hb dX0_eagerOnes_2 (by decide) ?_
  refine lv_istore_n (lv' := [(2, .int 0), (1, .int 0), (0, .ref h)]) hx hb dX0_eagerOnes_3 rfl hl (by decide) rfl (fun ls hl => ?_)
  have loop4 : ∀ (k4 : Nat) (i : Nat) (acc : Int32), n - i < k4 → i ≤ n → R = lp_X0_eagerOnes_4 ea n k4 i acc → ∀ ls : Array Slot, lv_has ls 3 [(0, .ref h), (1, .int acc), (2, .int (nI i))] → W p l e (headSpec wsX0_eagerOnes { frames := 0, cells := 0, slots := 0, locals := 0 }).room s m (([.ref h] : List Value).toArray) below meth c s.heap [] 0 0 (MQ below (QcR (some (.int R))) (([.ref h] : List Value).toArray) s 0 0 (fun _ => False)) (F0 m 4 ls []) := by
    intro k4
    induction k4 with
    | zero => intro i acc hk; exact absurd hk (Nat.not_lt_zero _)
    | succ k4 ih4 =>
      intro i acc hk4 hi hres ls hl
      rw [lp_X0_eagerOnes_4] at hres
      refine lv_iload_n hx hb dX0_eagerOnes_4 rfl (lv_at hl 2 rfl) ?_
      refine lv_aload_n hx hb dX0_eagerOnes_5 rfl (lv_at hl 0 rfl) ?_
      refine va_get (D := D) (ci := 0) (v := .int (hf 3)) (C := RX0) (T := TX0) (N := 9) hx hb hts hinX0 hown hK hP 0 rfl rfl 3 (by decide) (hts (.fieldLink RX0 24 "FirstOut$House" "things" "I") (by decide +kernel)) (fun _ h9 => h9) rfl dX0_eagerOnes_6 ?_
      refine lv_to (show (hf 3) = nI n from hn) ?_
      refine lv_icmp_ge (tgt := 33) hx hb dX0_eagerOnes_9 (by decide) (fun c_1 => ?_) (fun c_1 => ?_)
      · skip
        rw [if_pos c_1] at hres
        refine lv_iload_n hx hb dX0_eagerOnes_33 rfl (lv_at hl 1 rfl) ?_
        rw [hres]
        exact W.iret (v := acc) hx hb hr (fun t ht hW => ⟨rfl, ht⟩) (fun _ h => by cases h) dX0_eagerOnes_34
      · skip
        rw [if_neg c_1] at hres
        have hlt : i < n := nlt_of c_1 (by omega) (by omega)
        refine lv_aload_n hx hb dX0_eagerOnes_12 rfl (lv_at hl 0 rfl) ?_
        refine va_get (D := D) (ci := 0) (v := .ref eA) (C := RX0) (T := TX0) (N := 9) hx hb hts hinX0 hown hK hP 0 rfl rfl 2 (by decide) (hts (.fieldLink RX0 18 "FirstOut$House" "eager" "[I") (by decide +kernel)) (fun _ h9 => h9) rfl dX0_eagerOnes_13 ?_
        refine lv_iload_n hx hb dX0_eagerOnes_16 rfl (lv_at hl 2 rfl) ?_
        refine m_iald hx hb hK hP 3 0 rfl rfl i rfl (by omega) (by decide) dX0_eagerOnes_17 ?_
        refine lv_to (show _ = (ea i) from rfl) ?_
        refine lv_if_le (tgt := 27) hx hb dX0_eagerOnes_18 (by decide) (fun c_2 => ?_) (fun c_2 => ?_)
        · skip
          rw [if_pos c_2] at hres
          refine lv_iinc (v := nI (i + 1)) (lv' := [(2, .int (nI (i + 1))), (0, .ref h), (1, .int acc)]) hx hb dX0_eagerOnes_27 hl (k := 2) rfl ((nI_add i 1)) (by decide) rfl (fun ls hl => ?_)
          refine lv_goto (tgt := 4) hx hb dX0_eagerOnes_30 (by decide) ?_
          exact ih4 (i + 1) acc (by omega) (by omega) hres ls (lv_sub hl [1, 2, 0] rfl)
        · skip
          rw [if_neg c_2] at hres
          refine lv_iload_n hx hb dX0_eagerOnes_21 rfl (lv_at hl 1 rfl) ?_
          refine lv_iconst (v := 1) hx hb dX0_eagerOnes_22 (by decide) ?_
          refine lv_iload_n hx hb dX0_eagerOnes_23 rfl (lv_at hl 2 rfl) ?_
          refine lv_ishl hx hb dX0_eagerOnes_24 ?_
          refine lv_ior hx hb dX0_eagerOnes_25 ?_
          refine lv_istore_n (lv' := [(1, .int (acc ||| ((1 : Int32) <<< ((nI i) &&& 31)))), (0, .ref h), (2, .int (nI i))]) hx hb dX0_eagerOnes_26 rfl hl (by decide) rfl (fun ls hl => ?_)
          refine lv_iinc (v := nI (i + 1)) (lv' := [(2, .int (nI (i + 1))), (1, .int (acc ||| ((1 : Int32) <<< ((nI i) &&& 31)))), (0, .ref h)]) hx hb dX0_eagerOnes_27 hl (k := 2) rfl ((nI_add i 1)) (by decide) rfl (fun ls hl => ?_)
          refine lv_goto (tgt := 4) hx hb dX0_eagerOnes_30 (by decide) ?_
          exact ih4 (i + 1) (acc ||| ((1 : Int32) <<< ((nI i) &&& 31))) (by omega) (by omega) hres ls (lv_sub hl [2, 1, 0] rfl)
  exact loop4 (n + 1) 0 0 (by omega) (Nat.zero_le _) hres ls (lv_sub hl [2, 1, 0] rfl)
def lp_X0_dearOnes_4 (de : Nat → Int32) (among : Int32) (n : Nat) : Nat → Nat → Int32 → Int32
  | 0, _, _ => 0
  | k4 + 1, i, acc => if (nI n) ≤ (nI i) then
      acc
    else
      if (de i) ≤ 0 then
        lp_X0_dearOnes_4 de among n k4 (i + 1) acc
      else
        lp_X0_dearOnes_4 de among n k4 (i + 1) (acc ||| (among &&& ((1 : Int32) <<< ((nI i) &&& 31))))
def d_X0_dearOnes (de : Nat → Int32) (among : Int32) (n : Nat) : Int32 :=
  lp_X0_dearOnes_4 de among n (n + 1) 0 0
set_option maxHeartbeats 4000000 in
set_option maxRecDepth 100000 in
theorem c_X0_dearOnes (l : Launch) (D : va_G) (cI cC cZ cS : ClassId) (h : Nat) (tA : Nat) (dA : Nat) (eA : Nat) (hf : Nat → Int32) (tr : Nat → Int32) (de : Nat → Int32) (ea : Nat → Int32) (among : Int32) (n : Nat) (hn : hf 3 = nI n) (h7 : n ≤ 7) : Met l yX0_dearOnes wsX0_dearOnes { frames := 0, cells := 0, slots := 0, locals := 0 } (PcE D cI cC cZ cS [.ref h, .int among] (wH cI cC cZ cS h tA dA eA hf tr de ea)) (QcR (some (.int (d_X0_dearOnes de among n)))) 0 0 (fun _ => False) := by
  refine Met.ofW (cc := cX0_dearOnes) (maxL := 4) (ret := (some .int)) (by decide) rfl ?_
  intro p e s m args below meth c s₁ B hml hv
  obtain ⟨rfl, hP, hD, hE⟩ := hv
  have hK := hE.1
  have hx := B.exec
  have hb := B.bytes
  have hr := B.returns
  have hts := atoms_spec (ws := wsX0_dearOnes) B.pre
  have hown : s.vm.findClass RX0 = some m.cls := findClass_of_methodNamed B.named
  have hlocks := B.notSynchronized
  have hinX0 : ∀ w ∈ wsX00, w ∈ wsX0_dearOnes := by decide +kernel
  refine opq (d_X0_dearOnes de among n) (fun R hres => ?_)
  rw [hres]
  replace hres := hres.symm
  rw [d_X0_dearOnes] at hres
  have hl := lv_entry ([.ref h, .int among]) (n := 4) (Nat.le_of_ble_eq_true rfl)
  rw [lg_entry_eq]
  generalize (lg_sl ([.ref h, .int among]) ++ List.replicate (4 - (lg_sl ([.ref h, .int among])).length) Slot.unset).toArray = ls at hl ⊢
  have hl : lv_has ls 4 [(0, .ref h), (1, .int among)] := hl
  refine lv_iconst (v := 0) hx hb dX0_dearOnes_0 (by decide) ?_
  refine lv_istore_n (lv' := [(2, .int 0), (0, .ref h), (1, .int among)]) hx hb dX0_dearOnes_1 rfl hl (by decide) rfl (fun ls hl => ?_)
  refine lv_iconst (v := 0) hx hb dX0_dearOnes_2 (by decide) ?_
  refine lv_istore_n (lv' := [(3, .int 0), (2, .int 0), (0, .ref h), (1, .int among)]) hx hb dX0_dearOnes_3 rfl hl (by decide) rfl (fun ls hl => ?_)
  have loop4 : ∀ (k4 : Nat) (i : Nat) (acc : Int32), n - i < k4 → i ≤ n → R = lp_X0_dearOnes_4 de among n k4 i acc → ∀ ls : Array Slot, lv_has ls 4 [(0, .ref h), (1, .int among), (2, .int acc), (3, .int (nI i))] → W p l e (headSpec wsX0_dearOnes { frames := 0, cells := 0, slots := 0, locals := 0 }).room s m (([.ref h, .int among] : List Value).toArray) below meth c s.heap [] 0 0 (MQ below (QcR (some (.int R))) (([.ref h, .int among] : List Value).toArray) s 0 0 (fun _ => False)) (F0 m 4 ls []) := by
    intro k4
    induction k4 with
    | zero => intro i acc hk; exact absurd hk (Nat.not_lt_zero _)
    | succ k4 ih4 =>
      intro i acc hk4 hi hres ls hl
      rw [lp_X0_dearOnes_4] at hres
      refine lv_iload_n hx hb dX0_dearOnes_4 rfl (lv_at hl 3 rfl) ?_
      refine lv_aload_n hx hb dX0_dearOnes_5 rfl (lv_at hl 0 rfl) ?_
      refine va_get (D := D) (ci := 0) (v := .int (hf 3)) (C := RX0) (T := TX0) (N := 9) hx hb hts hinX0 hown hK hP 0 rfl rfl 3 (by decide) (hts (.fieldLink RX0 24 "FirstOut$House" "things" "I") (by decide +kernel)) (fun _ h9 => h9) rfl dX0_dearOnes_6 ?_
      refine lv_to (show (hf 3) = nI n from hn) ?_
      refine lv_icmp_ge (tgt := 35) hx hb dX0_dearOnes_9 (by decide) (fun c_1 => ?_) (fun c_1 => ?_)
      · skip
        rw [if_pos c_1] at hres
        refine lv_iload_n hx hb dX0_dearOnes_35 rfl (lv_at hl 2 rfl) ?_
        rw [hres]
        exact W.iret (v := acc) hx hb hr (fun t ht hW => ⟨rfl, ht⟩) (fun _ h => by cases h) dX0_dearOnes_36
      · skip
        rw [if_neg c_1] at hres
        have hlt : i < n := nlt_of c_1 (by omega) (by omega)
        refine lv_aload_n hx hb dX0_dearOnes_12 rfl (lv_at hl 0 rfl) ?_
        refine va_get (D := D) (ci := 0) (v := .ref dA) (C := RX0) (T := TX0) (N := 9) hx hb hts hinX0 hown hK hP 0 rfl rfl 1 (by decide) (hts (.fieldLink RX0 15 "FirstOut$House" "dear" "[I") (by decide +kernel)) (fun _ h9 => h9) rfl dX0_dearOnes_13 ?_
        refine lv_iload_n hx hb dX0_dearOnes_16 rfl (lv_at hl 3 rfl) ?_
        refine m_iald hx hb hK hP 2 0 rfl rfl i rfl (by omega) (by decide) dX0_dearOnes_17 ?_
        refine lv_to (show _ = (de i) from rfl) ?_
        refine lv_if_le (tgt := 29) hx hb dX0_dearOnes_18 (by decide) (fun c_2 => ?_) (fun c_2 => ?_)
        · skip
          rw [if_pos c_2] at hres
          refine lv_iinc (v := nI (i + 1)) (lv' := [(3, .int (nI (i + 1))), (0, .ref h), (1, .int among), (2, .int acc)]) hx hb dX0_dearOnes_29 hl (k := 3) rfl ((nI_add i 1)) (by decide) rfl (fun ls hl => ?_)
          refine lv_goto (tgt := 4) hx hb dX0_dearOnes_32 (by decide) ?_
          exact ih4 (i + 1) acc (by omega) (by omega) hres ls (lv_sub hl [1, 2, 3, 0] rfl)
        · skip
          rw [if_neg c_2] at hres
          refine lv_iload_n hx hb dX0_dearOnes_21 rfl (lv_at hl 2 rfl) ?_
          refine lv_iload_n hx hb dX0_dearOnes_22 rfl (lv_at hl 1 rfl) ?_
          refine lv_iconst (v := 1) hx hb dX0_dearOnes_23 (by decide) ?_
          refine lv_iload_n hx hb dX0_dearOnes_24 rfl (lv_at hl 3 rfl) ?_
          refine lv_ishl hx hb dX0_dearOnes_25 ?_
          refine lv_iand hx hb dX0_dearOnes_26 ?_
          refine lv_ior hx hb dX0_dearOnes_27 ?_
          refine lv_istore_n (lv' := [(2, .int (acc ||| (among &&& ((1 : Int32) <<< ((nI i) &&& 31))))), (0, .ref h), (1, .int among), (3, .int (nI i))]) hx hb dX0_dearOnes_28 rfl hl (by decide) rfl (fun ls hl => ?_)
          refine lv_iinc (v := nI (i + 1)) (lv' := [(3, .int (nI (i + 1))), (2, .int (acc ||| (among &&& ((1 : Int32) <<< ((nI i) &&& 31))))), (0, .ref h), (1, .int among)]) hx hb dX0_dearOnes_29 hl (k := 3) rfl ((nI_add i 1)) (by decide) rfl (fun ls hl => ?_)
          refine lv_goto (tgt := 4) hx hb dX0_dearOnes_32 (by decide) ?_
          exact ih4 (i + 1) (acc ||| (among &&& ((1 : Int32) <<< ((nI i) &&& 31)))) (by omega) (by omega) hres ls (lv_sub hl [2, 3, 1, 0] rfl)
  exact loop4 (n + 1) 0 0 (by omega) (Nat.zero_le _) hres ls (lv_sub hl [2, 3, 1, 0] rfl)
def lp_X0_eagerTogether_4 (ea : Nat → Int32) (set : Int32) (n : Nat) : Nat → Nat → Int32 → Int32
  | 0, _, _ => 0
  | k4 + 1, i, acc => if (nI n) ≤ (nI i) then
      acc
    else
      lp_X0_eagerTogether_4 ea set n k4 (i + 1) (acc + ((d_X5_bitOf set (nI i)) * (ea i)))
def d_X0_eagerTogether (ea : Nat → Int32) (set : Int32) (n : Nat) : Int32 :=
  lp_X0_eagerTogether_4 ea set n (n + 1) 0 0
set_option maxHeartbeats 4000000 in
set_option maxRecDepth 100000 in
theorem c_X0_eagerTogether (l : Launch) (D : va_G) (cI cC cZ cS : ClassId) (h : Nat) (tA : Nat) (dA : Nat) (eA : Nat) (hf : Nat → Int32) (tr : Nat → Int32) (de : Nat → Int32) (ea : Nat → Int32) (set : Int32) (n : Nat) (hn : hf 3 = nI n) (h7 : n ≤ 7) : Met l yX0_eagerTogether wsX0_eagerTogether { frames := 1, cells := 0, slots := 0, locals := 21 } (PcE D cI cC cZ cS [.ref h, .int set] (wH cI cC cZ cS h tA dA eA hf tr de ea)) (QcR (some (.int (d_X0_eagerTogether ea set n)))) 0 0 (fun _ => False) := by
  refine Met.ofW (cc := cX0_eagerTogether) (maxL := 4) (ret := (some .int)) (by decide) rfl ?_
  intro p e s m args below meth c s₁ B hml hv
  obtain ⟨rfl, hP, hD, hE⟩ := hv
  have hK := hE.1
  have hx := B.exec
  have hb := B.bytes
  have hr := B.returns
  have hts := atoms_spec (ws := wsX0_eagerTogether) B.pre
  have hown : s.vm.findClass RX0 = some m.cls := findClass_of_methodNamed B.named
  have hlocks := B.notSynchronized
  have hinX0 : ∀ w ∈ wsX00, w ∈ wsX0_eagerTogether := by decide +kernel
  refine opq (d_X0_eagerTogether ea set n) (fun R hres => ?_)
  rw [hres]
  replace hres := hres.symm
  rw [d_X0_eagerTogether] at hres
  have hl := lv_entry ([.ref h, .int set]) (n := 4) (Nat.le_of_ble_eq_true rfl)
  rw [lg_entry_eq]
  generalize (lg_sl ([.ref h, .int set]) ++ List.replicate (4 - (lg_sl ([.ref h, .int set])).length) Slot.unset).toArray = ls at hl ⊢
  have hl : lv_has ls 4 [(0, .ref h), (1, .int set)] := hl
  refine lv_iconst (v := 0) hx hb dX0_eagerTogether_0 (by decide) ?_
  refine lv_istore_n (lv' := [(2, .int 0), (0, .ref h), (1, .int set)]) hx hb dX0_eagerTogether_1 rfl hl (by decide) rfl (fun ls hl => ?_)
  refine lv_iconst (v := 0) hx hb dX0_eagerTogether_2 (by decide) ?_
  refine lv_istore_n (lv' := [(3, .int 0), (2, .int 0), (0, .ref h), (1, .int set)]) hx hb dX0_eagerTogether_3 rfl hl (by decide) rfl (fun ls hl => ?_)
  have loop4 : ∀ (k4 : Nat) (i : Nat) (acc : Int32), n - i < k4 → i ≤ n → R = lp_X0_eagerTogether_4 ea set n k4 i acc → ∀ ls : Array Slot, lv_has ls 4 [(0, .ref h), (1, .int set), (2, .int acc), (3, .int (nI i))] → W p l e (headSpec wsX0_eagerTogether { frames := 1, cells := 0, slots := 0, locals := 21 }).room s m (([.ref h, .int set] : List Value).toArray) below meth c s.heap [] 0 0 (MQ below (QcR (some (.int R))) (([.ref h, .int set] : List Value).toArray) s 0 0 (fun _ => False)) (F0 m 4 ls []) := by
    intro k4
    induction k4 with
    | zero => intro i acc hk; exact absurd hk (Nat.not_lt_zero _)
    | succ k4 ih4 =>
      intro i acc hk4 hi hres ls hl
      rw [lp_X0_eagerTogether_4] at hres
      refine lv_iload_n hx hb dX0_eagerTogether_4 rfl (lv_at hl 3 rfl) ?_
      refine lv_aload_n hx hb dX0_eagerTogether_5 rfl (lv_at hl 0 rfl) ?_
      refine va_get (D := D) (ci := 0) (v := .int (hf 3)) (C := RX0) (T := TX0) (N := 9) hx hb hts hinX0 hown hK hP 0 rfl rfl 3 (by decide) (hts (.fieldLink RX0 24 "FirstOut$House" "things" "I") (by decide +kernel)) (fun _ h9 => h9) rfl dX0_eagerTogether_6 ?_
      refine lv_to (show (hf 3) = nI n from hn) ?_
      refine lv_icmp_ge (tgt := 33) hx hb dX0_eagerTogether_9 (by decide) (fun c_1 => ?_) (fun c_1 => ?_)
      · skip
        rw [if_pos c_1] at hres
        refine lv_iload_n hx hb dX0_eagerTogether_33 rfl (lv_at hl 2 rfl) ?_
        rw [hres]
        exact W.iret (v := acc) hx hb hr (fun t ht hW => ⟨rfl, ht⟩) (fun _ h => by cases h) dX0_eagerTogether_34
      · skip
        rw [if_neg c_1] at hres
        have hlt : i < n := nlt_of c_1 (by omega) (by omega)
        refine lv_iload_n hx hb dX0_eagerTogether_12 rfl (lv_at hl 2 rfl) ?_
        refine lv_iload_n hx hb dX0_eagerTogether_13 rfl (lv_at hl 1 rfl) ?_
        refine lv_iload_n hx hb dX0_eagerTogether_14 rfl (lv_at hl 3 rfl) ?_
        have hPc := hP.sub (ws' := []) [] rfl
        have hDc := hD.sub (ws' := []) [] (by decide) rfl
        refine m_callR (cr_of (va_runSN (As := [.int set, .int (nI i)]) (rest := [.int acc]) ⟨hx, hb, hml, hown, hts⟩ (c_X5_bitOf l D cI cC cZ cS set (nI i)) ⟨va_cnB 2 hts gX0_eagerTogether_X5_bitOf_n68 rfl rfl rfl hE.2.1 (hts (.initialized RX5) (by decide +kernel)) (by decide +kernel) ⟨Nat.le_of_ble_eq_true rfl, Nat.le_of_ble_eq_true rfl⟩, hts (.static yX5_bitOf) (by decide +kernel), trivial⟩ (preS_of hPc hDc hE) rfl rfl hl.1 rfl (lv_room (Nat.le_of_ble_eq_true rfl)) dX0_eagerTogether_15 ⟨Nat.zero_le _, Nat.zero_le _⟩)) ?_
        refine W.eq (g2 := F0 m 18 ls [.int (d_X5_bitOf set (nI i)), .int acc]) rfl ?_
        refine lv_aload_n hx hb dX0_eagerTogether_18 rfl (lv_at hl 0 rfl) ?_
        refine va_get (D := D) (ci := 0) (v := .ref eA) (C := RX0) (T := TX0) (N := 9) hx hb hts hinX0 hown hK hP 0 rfl rfl 2 (by decide) (hts (.fieldLink RX0 18 "FirstOut$House" "eager" "[I") (by decide +kernel)) (fun _ h9 => h9) rfl dX0_eagerTogether_19 ?_
        refine lv_iload_n hx hb dX0_eagerTogether_22 rfl (lv_at hl 3 rfl) ?_
        refine m_iald hx hb hK hP 3 0 rfl rfl i rfl (by omega) (by decide) dX0_eagerTogether_23 ?_
        refine lv_to (show _ = (ea i) from rfl) ?_
        refine lv_imul hx hb dX0_eagerTogether_24 ?_
        refine lv_iadd hx hb dX0_eagerTogether_25 ?_
        refine lv_istore_n (lv' := [(2, .int (acc + ((d_X5_bitOf set (nI i)) * (ea i)))), (0, .ref h), (1, .int set), (3, .int (nI i))]) hx hb dX0_eagerTogether_26 rfl hl (by decide) rfl (fun ls hl => ?_)
        refine lv_iinc (v := nI (i + 1)) (lv' := [(3, .int (nI (i + 1))), (2, .int (acc + ((d_X5_bitOf set (nI i)) * (ea i)))), (0, .ref h), (1, .int set)]) hx hb dX0_eagerTogether_27 hl (k := 3) rfl ((nI_add i 1)) (by decide) rfl (fun ls hl => ?_)
        refine lv_goto (tgt := 4) hx hb dX0_eagerTogether_30 (by decide) ?_
        exact ih4 (i + 1) (acc + ((d_X5_bitOf set (nI i)) * (ea i))) (by omega) (by omega) hres ls (lv_sub hl [2, 3, 1, 0] rfl)
  exact loop4 (n + 1) 0 0 (by omega) (Nat.zero_le _) hres ls (lv_sub hl [2, 3, 1, 0] rfl)
def lp_X0_dearTogether_4 (de : Nat → Int32) (set : Int32) (n : Nat) : Nat → Nat → Int32 → Int32
  | 0, _, _ => 0
  | k4 + 1, i, acc => if (nI n) ≤ (nI i) then
      acc
    else
      lp_X0_dearTogether_4 de set n k4 (i + 1) (acc + ((d_X5_bitOf set (nI i)) * (de i)))
def d_X0_dearTogether (de : Nat → Int32) (set : Int32) (n : Nat) : Int32 :=
  lp_X0_dearTogether_4 de set n (n + 1) 0 0
set_option maxHeartbeats 4000000 in
set_option maxRecDepth 100000 in
theorem c_X0_dearTogether (l : Launch) (D : va_G) (cI cC cZ cS : ClassId) (h : Nat) (tA : Nat) (dA : Nat) (eA : Nat) (hf : Nat → Int32) (tr : Nat → Int32) (de : Nat → Int32) (ea : Nat → Int32) (set : Int32) (n : Nat) (hn : hf 3 = nI n) (h7 : n ≤ 7) : Met l yX0_dearTogether wsX0_dearTogether { frames := 1, cells := 0, slots := 0, locals := 21 } (PcE D cI cC cZ cS [.ref h, .int set] (wH cI cC cZ cS h tA dA eA hf tr de ea)) (QcR (some (.int (d_X0_dearTogether de set n)))) 0 0 (fun _ => False) := by
  refine Met.ofW (cc := cX0_dearTogether) (maxL := 4) (ret := (some .int)) (by decide) rfl ?_
  intro p e s m args below meth c s₁ B hml hv
  obtain ⟨rfl, hP, hD, hE⟩ := hv
  have hK := hE.1
  have hx := B.exec
  have hb := B.bytes
  have hr := B.returns
  have hts := atoms_spec (ws := wsX0_dearTogether) B.pre
  have hown : s.vm.findClass RX0 = some m.cls := findClass_of_methodNamed B.named
  have hlocks := B.notSynchronized
  have hinX0 : ∀ w ∈ wsX00, w ∈ wsX0_dearTogether := by decide +kernel
  refine opq (d_X0_dearTogether de set n) (fun R hres => ?_)
  rw [hres]
  replace hres := hres.symm
  rw [d_X0_dearTogether] at hres
  have hl := lv_entry ([.ref h, .int set]) (n := 4) (Nat.le_of_ble_eq_true rfl)
  rw [lg_entry_eq]
  generalize (lg_sl ([.ref h, .int set]) ++ List.replicate (4 - (lg_sl ([.ref h, .int set])).length) Slot.unset).toArray = ls at hl ⊢
  have hl : lv_has ls 4 [(0, .ref h), (1, .int set)] := hl
  refine lv_iconst (v := 0) hx hb dX0_dearTogether_0 (by decide) ?_
  refine lv_istore_n (lv' := [(2, .int 0), (0, .ref h), (1, .int set)]) hx hb dX0_dearTogether_1 rfl hl (by decide) rfl (fun ls hl => ?_)
  refine lv_iconst (v := 0) hx hb dX0_dearTogether_2 (by decide) ?_
  refine lv_istore_n (lv' := [(3, .int 0), (2, .int 0), (0, .ref h), (1, .int set)]) hx hb dX0_dearTogether_3 rfl hl (by decide) rfl (fun ls hl => ?_)
  have loop4 : ∀ (k4 : Nat) (i : Nat) (acc : Int32), n - i < k4 → i ≤ n → R = lp_X0_dearTogether_4 de set n k4 i acc → ∀ ls : Array Slot, lv_has ls 4 [(0, .ref h), (1, .int set), (2, .int acc), (3, .int (nI i))] → W p l e (headSpec wsX0_dearTogether { frames := 1, cells := 0, slots := 0, locals := 21 }).room s m (([.ref h, .int set] : List Value).toArray) below meth c s.heap [] 0 0 (MQ below (QcR (some (.int R))) (([.ref h, .int set] : List Value).toArray) s 0 0 (fun _ => False)) (F0 m 4 ls []) := by
    intro k4
    induction k4 with
    | zero => intro i acc hk; exact absurd hk (Nat.not_lt_zero _)
    | succ k4 ih4 =>
      intro i acc hk4 hi hres ls hl
      rw [lp_X0_dearTogether_4] at hres
      refine lv_iload_n hx hb dX0_dearTogether_4 rfl (lv_at hl 3 rfl) ?_
      refine lv_aload_n hx hb dX0_dearTogether_5 rfl (lv_at hl 0 rfl) ?_
      refine va_get (D := D) (ci := 0) (v := .int (hf 3)) (C := RX0) (T := TX0) (N := 9) hx hb hts hinX0 hown hK hP 0 rfl rfl 3 (by decide) (hts (.fieldLink RX0 24 "FirstOut$House" "things" "I") (by decide +kernel)) (fun _ h9 => h9) rfl dX0_dearTogether_6 ?_
      refine lv_to (show (hf 3) = nI n from hn) ?_
      refine lv_icmp_ge (tgt := 33) hx hb dX0_dearTogether_9 (by decide) (fun c_1 => ?_) (fun c_1 => ?_)
      · skip
        rw [if_pos c_1] at hres
        refine lv_iload_n hx hb dX0_dearTogether_33 rfl (lv_at hl 2 rfl) ?_
        rw [hres]
        exact W.iret (v := acc) hx hb hr (fun t ht hW => ⟨rfl, ht⟩) (fun _ h => by cases h) dX0_dearTogether_34
      · skip
        rw [if_neg c_1] at hres
        have hlt : i < n := nlt_of c_1 (by omega) (by omega)
        refine lv_iload_n hx hb dX0_dearTogether_12 rfl (lv_at hl 2 rfl) ?_
        refine lv_iload_n hx hb dX0_dearTogether_13 rfl (lv_at hl 1 rfl) ?_
        refine lv_iload_n hx hb dX0_dearTogether_14 rfl (lv_at hl 3 rfl) ?_
        have hPc := hP.sub (ws' := []) [] rfl
        have hDc := hD.sub (ws' := []) [] (by decide) rfl
        refine m_callR (cr_of (va_runSN (As := [.int set, .int (nI i)]) (rest := [.int acc]) ⟨hx, hb, hml, hown, hts⟩ (c_X5_bitOf l D cI cC cZ cS set (nI i)) ⟨va_cnB 2 hts gX0_dearTogether_X5_bitOf_n68 rfl rfl rfl hE.2.1 (hts (.initialized RX5) (by decide +kernel)) (by decide +kernel) ⟨Nat.le_of_ble_eq_true rfl, Nat.le_of_ble_eq_true rfl⟩, hts (.static yX5_bitOf) (by decide +kernel), trivial⟩ (preS_of hPc hDc hE) rfl rfl hl.1 rfl (lv_room (Nat.le_of_ble_eq_true rfl)) dX0_dearTogether_15 ⟨Nat.zero_le _, Nat.zero_le _⟩)) ?_
        refine W.eq (g2 := F0 m 18 ls [.int (d_X5_bitOf set (nI i)), .int acc]) rfl ?_
        refine lv_aload_n hx hb dX0_dearTogether_18 rfl (lv_at hl 0 rfl) ?_
        refine va_get (D := D) (ci := 0) (v := .ref dA) (C := RX0) (T := TX0) (N := 9) hx hb hts hinX0 hown hK hP 0 rfl rfl 1 (by decide) (hts (.fieldLink RX0 15 "FirstOut$House" "dear" "[I") (by decide +kernel)) (fun _ h9 => h9) rfl dX0_dearTogether_19 ?_
        refine lv_iload_n hx hb dX0_dearTogether_22 rfl (lv_at hl 3 rfl) ?_
        refine m_iald hx hb hK hP 2 0 rfl rfl i rfl (by omega) (by decide) dX0_dearTogether_23 ?_
        refine lv_to (show _ = (de i) from rfl) ?_
        refine lv_imul hx hb dX0_dearTogether_24 ?_
        refine lv_iadd hx hb dX0_dearTogether_25 ?_
        refine lv_istore_n (lv' := [(2, .int (acc + ((d_X5_bitOf set (nI i)) * (de i)))), (0, .ref h), (1, .int set), (3, .int (nI i))]) hx hb dX0_dearTogether_26 rfl hl (by decide) rfl (fun ls hl => ?_)
        refine lv_iinc (v := nI (i + 1)) (lv' := [(3, .int (nI (i + 1))), (2, .int (acc + ((d_X5_bitOf set (nI i)) * (de i)))), (0, .ref h), (1, .int set)]) hx hb dX0_dearTogether_27 hl (k := 3) rfl ((nI_add i 1)) (by decide) rfl (fun ls hl => ?_)
        refine lv_goto (tgt := 4) hx hb dX0_dearTogether_30 (by decide) ?_
        exact ih4 (i + 1) (acc + ((d_X5_bitOf set (nI i)) * (de i))) (by omega) (by omega) hres ls (lv_sub hl [2, 3, 1, 0] rfl)
  exact loop4 (n + 1) 0 0 (by omega) (Nat.zero_le _) hres ls (lv_sub hl [2, 3, 1, 0] rfl)
def lp_X0_harmUpper_5 (de : Nat → Int32) (ea : Nat → Int32) (able : Int32) (cov : Int32) (n : Nat) : Nat → Nat → Int32 → Int32
  | 0, _, _ => 0
  | k5 + 1, i, acc => if (nI n) ≤ (nI i) then
      acc
    else
      lp_X0_harmUpper_5 de ea able cov n k5 (i + 1) (acc + (((d_X5_bitOf (able &&& cov) (nI i)) * (de i)) * (ea i)))
def d_X0_harmUpper (de : Nat → Int32) (ea : Nat → Int32) (able : Int32) (cov : Int32) (n : Nat) : Int32 :=
  lp_X0_harmUpper_5 de ea able cov n (n + 1) 0 0
set_option maxHeartbeats 4000000 in
set_option maxRecDepth 100000 in
theorem c_X0_harmUpper (l : Launch) (D : va_G) (cI cC cZ cS : ClassId) (h : Nat) (tA : Nat) (dA : Nat) (eA : Nat) (hf : Nat → Int32) (tr : Nat → Int32) (de : Nat → Int32) (ea : Nat → Int32) (able : Int32) (cov : Int32) (n : Nat) (hn : hf 3 = nI n) (h7 : n ≤ 7) : Met l yX0_harmUpper wsX0_harmUpper { frames := 1, cells := 0, slots := 0, locals := 21 } (PcE D cI cC cZ cS [.ref h, .int able, .int cov] (wH cI cC cZ cS h tA dA eA hf tr de ea)) (QcR (some (.int (d_X0_harmUpper de ea able cov n)))) 0 0 (fun _ => False) := by
  refine Met.ofW (cc := cX0_harmUpper) (maxL := 5) (ret := (some .int)) (by decide) rfl ?_
  intro p e s m args below meth c s₁ B hml hv
  obtain ⟨rfl, hP, hD, hE⟩ := hv
  have hK := hE.1
  have hx := B.exec
  have hb := B.bytes
  have hr := B.returns
  have hts := atoms_spec (ws := wsX0_harmUpper) B.pre
  have hown : s.vm.findClass RX0 = some m.cls := findClass_of_methodNamed B.named
  have hlocks := B.notSynchronized
  have hinX0 : ∀ w ∈ wsX00, w ∈ wsX0_harmUpper := by decide +kernel
  refine opq (d_X0_harmUpper de ea able cov n) (fun R hres => ?_)
  rw [hres]
  replace hres := hres.symm
  rw [d_X0_harmUpper] at hres
  have hl := lv_entry ([.ref h, .int able, .int cov]) (n := 5) (Nat.le_of_ble_eq_true rfl)
  rw [lg_entry_eq]
  generalize (lg_sl ([.ref h, .int able, .int cov]) ++ List.replicate (5 - (lg_sl ([.ref h, .int able, .int cov])).length) Slot.unset).toArray = ls at hl ⊢
  have hl : lv_has ls 5 [(0, .ref h), (1, .int able), (2, .int cov)] := hl
  refine lv_iconst (v := 0) hx hb dX0_harmUpper_0 (by decide) ?_
  refine lv_istore_n (lv' := [(3, .int 0), (0, .ref h), (1, .int able), (2, .int cov)]) hx hb dX0_harmUpper_1 rfl hl (by decide) rfl (fun ls hl => ?_)
  refine lv_iconst (v := 0) hx hb dX0_harmUpper_2 (by decide) ?_
  refine lv_istore (lv' := [(4, .int 0), (3, .int 0), (0, .ref h), (1, .int able), (2, .int cov)]) hx hb dX0_harmUpper_3 hl (by decide) rfl (fun ls hl => ?_)
  have loop5 : ∀ (k5 : Nat) (i : Nat) (acc : Int32), n - i < k5 → i ≤ n → R = lp_X0_harmUpper_5 de ea able cov n k5 i acc → ∀ ls : Array Slot, lv_has ls 5 [(0, .ref h), (1, .int able), (2, .int cov), (3, .int acc), (4, .int (nI i))] → W p l e (headSpec wsX0_harmUpper { frames := 1, cells := 0, slots := 0, locals := 21 }).room s m (([.ref h, .int able, .int cov] : List Value).toArray) below meth c s.heap [] 0 0 (MQ below (QcR (some (.int R))) (([.ref h, .int able, .int cov] : List Value).toArray) s 0 0 (fun _ => False)) (F0 m 5 ls []) := by
    intro k5
    induction k5 with
    | zero => intro i acc hk; exact absurd hk (Nat.not_lt_zero _)
    | succ k5 ih5 =>
      intro i acc hk5 hi hres ls hl
      rw [lp_X0_harmUpper_5] at hres
      refine lv_iload hx hb dX0_harmUpper_5 (lv_at hl 4 rfl) ?_
      refine lv_aload_n hx hb dX0_harmUpper_7 rfl (lv_at hl 0 rfl) ?_
      refine va_get (D := D) (ci := 0) (v := .int (hf 3)) (C := RX0) (T := TX0) (N := 9) hx hb hts hinX0 hown hK hP 0 rfl rfl 3 (by decide) (hts (.fieldLink RX0 24 "FirstOut$House" "things" "I") (by decide +kernel)) (fun _ h9 => h9) rfl dX0_harmUpper_8 ?_
      refine lv_to (show (hf 3) = nI n from hn) ?_
      refine lv_icmp_ge (tgt := 47) hx hb dX0_harmUpper_11 (by decide) (fun c_1 => ?_) (fun c_1 => ?_)
      · skip
        rw [if_pos c_1] at hres
        refine lv_iload_n hx hb dX0_harmUpper_47 rfl (lv_at hl 3 rfl) ?_
        rw [hres]
        exact W.iret (v := acc) hx hb hr (fun t ht hW => ⟨rfl, ht⟩) (fun _ h => by cases h) dX0_harmUpper_48
      · skip
        rw [if_neg c_1] at hres
        have hlt : i < n := nlt_of c_1 (by omega) (by omega)
        refine lv_iload_n hx hb dX0_harmUpper_14 rfl (lv_at hl 3 rfl) ?_
        refine lv_iload_n hx hb dX0_harmUpper_15 rfl (lv_at hl 1 rfl) ?_
        refine lv_iload_n hx hb dX0_harmUpper_16 rfl (lv_at hl 2 rfl) ?_
        refine lv_iand hx hb dX0_harmUpper_17 ?_
        refine lv_iload hx hb dX0_harmUpper_18 (lv_at hl 4 rfl) ?_
        have hPc := hP.sub (ws' := []) [] rfl
        have hDc := hD.sub (ws' := []) [] (by decide) rfl
        refine m_callR (cr_of (va_runSN (As := [.int (able &&& cov), .int (nI i)]) (rest := [.int acc]) ⟨hx, hb, hml, hown, hts⟩ (c_X5_bitOf l D cI cC cZ cS (able &&& cov) (nI i)) ⟨va_cnB 2 hts gX0_harmUpper_X5_bitOf_n68 rfl rfl rfl hE.2.1 (hts (.initialized RX5) (by decide +kernel)) (by decide +kernel) ⟨Nat.le_of_ble_eq_true rfl, Nat.le_of_ble_eq_true rfl⟩, hts (.static yX5_bitOf) (by decide +kernel), trivial⟩ (preS_of hPc hDc hE) rfl rfl hl.1 rfl (lv_room (Nat.le_of_ble_eq_true rfl)) dX0_harmUpper_20 ⟨Nat.zero_le _, Nat.zero_le _⟩)) ?_
        refine W.eq (g2 := F0 m 23 ls [.int (d_X5_bitOf (able &&& cov) (nI i)), .int acc]) rfl ?_
        refine lv_aload_n hx hb dX0_harmUpper_23 rfl (lv_at hl 0 rfl) ?_
        refine va_get (D := D) (ci := 0) (v := .ref dA) (C := RX0) (T := TX0) (N := 9) hx hb hts hinX0 hown hK hP 0 rfl rfl 1 (by decide) (hts (.fieldLink RX0 15 "FirstOut$House" "dear" "[I") (by decide +kernel)) (fun _ h9 => h9) rfl dX0_harmUpper_24 ?_
        refine lv_iload hx hb dX0_harmUpper_27 (lv_at hl 4 rfl) ?_
        refine m_iald hx hb hK hP 2 0 rfl rfl i rfl (by omega) (by decide) dX0_harmUpper_29 ?_
        refine lv_to (show _ = (de i) from rfl) ?_
        refine lv_imul hx hb dX0_harmUpper_30 ?_
        refine lv_aload_n hx hb dX0_harmUpper_31 rfl (lv_at hl 0 rfl) ?_
        refine va_get (D := D) (ci := 0) (v := .ref eA) (C := RX0) (T := TX0) (N := 9) hx hb hts hinX0 hown hK hP 0 rfl rfl 2 (by decide) (hts (.fieldLink RX0 18 "FirstOut$House" "eager" "[I") (by decide +kernel)) (fun _ h9 => h9) rfl dX0_harmUpper_32 ?_
        refine lv_iload hx hb dX0_harmUpper_35 (lv_at hl 4 rfl) ?_
        refine m_iald hx hb hK hP 3 0 rfl rfl i rfl (by omega) (by decide) dX0_harmUpper_37 ?_
        refine lv_to (show _ = (ea i) from rfl) ?_
        refine lv_imul hx hb dX0_harmUpper_38 ?_
        refine lv_iadd hx hb dX0_harmUpper_39 ?_
        refine lv_istore_n (lv' := [(3, .int (acc + (((d_X5_bitOf (able &&& cov) (nI i)) * (de i)) * (ea i)))), (0, .ref h), (1, .int able), (2, .int cov), (4, .int (nI i))]) hx hb dX0_harmUpper_40 rfl hl (by decide) rfl (fun ls hl => ?_)
        refine lv_iinc (v := nI (i + 1)) (lv' := [(4, .int (nI (i + 1))), (3, .int (acc + (((d_X5_bitOf (able &&& cov) (nI i)) * (de i)) * (ea i)))), (0, .ref h), (1, .int able), (2, .int cov)]) hx hb dX0_harmUpper_41 hl (k := 4) rfl ((nI_add i 1)) (by decide) rfl (fun ls hl => ?_)
        refine lv_goto (tgt := 5) hx hb dX0_harmUpper_44 (by decide) ?_
        exact ih5 (i + 1) (acc + (((d_X5_bitOf (able &&& cov) (nI i)) * (de i)) * (ea i))) (by omega) (by omega) hres ls (lv_sub hl [2, 3, 4, 1, 0] rfl)
  exact loop5 (n + 1) 0 0 (by omega) (Nat.zero_le _) hres ls (lv_sub hl [2, 3, 4, 1, 0] rfl)
def d_X0_shares (ea : Nat → Int32) (able : Int32) (n : Nat) : Int32 :=
  if (1 : Int32) < (d_X0_eagerTogether ea able n) then (d_X0_eagerTogether ea able n) else (1 : Int32)
set_option maxHeartbeats 4000000 in
set_option maxRecDepth 100000 in
theorem c_X0_shares (l : Launch) (D : va_G) (cI cC cZ cS : ClassId) (h : Nat) (tA : Nat) (dA : Nat) (eA : Nat) (hf : Nat → Int32) (tr : Nat → Int32) (de : Nat → Int32) (ea : Nat → Int32) (able : Int32) (n : Nat) (hn : hf 3 = nI n) (h7 : n ≤ 7) : Met l yX0_shares wsX0_shares { frames := 2, cells := 0, slots := 0, locals := 44 } (PcE D cI cC cZ cS [.ref h, .int able] (wH cI cC cZ cS h tA dA eA hf tr de ea)) (QcR (some (.int (d_X0_shares ea able n)))) 0 0 (fun _ => False) := by
  refine Met.ofW (cc := cX0_shares) (maxL := 2) (ret := (some .int)) (by decide) rfl ?_
  intro p e s m args below meth c s₁ B hml hv
  obtain ⟨rfl, hP, hD, hE⟩ := hv
  have hK := hE.1
  have hx := B.exec
  have hb := B.bytes
  have hr := B.returns
  have hts := atoms_spec (ws := wsX0_shares) B.pre
  have hown : s.vm.findClass RX0 = some m.cls := findClass_of_methodNamed B.named
  have hlocks := B.notSynchronized
  refine opq (d_X0_shares ea able n) (fun R hres => ?_)
  rw [hres]
  replace hres := hres.symm
  rw [d_X0_shares] at hres
  have hl := lv_entry ([.ref h, .int able]) (n := 2) (Nat.le_of_ble_eq_true rfl)
  rw [lg_entry_eq]
  generalize (lg_sl ([.ref h, .int able]) ++ List.replicate (2 - (lg_sl ([.ref h, .int able])).length) Slot.unset).toArray = ls at hl ⊢
  have hl : lv_has ls 2 [(0, .ref h), (1, .int able)] := hl
  refine lv_iconst (v := 1) hx hb dX0_shares_0 (by decide) ?_
  refine lv_aload_n hx hb dX0_shares_1 rfl (lv_at hl 0 rfl) ?_
  refine lv_iload_n hx hb dX0_shares_2 rfl (lv_at hl 1 rfl) ?_
  have hPc := hP.sub (ws' := (wH cI cC cZ cS h tA dA eA hf tr de ea)) [0, 1, 2, 3] rfl
  have hDc := hD.sub (ws' := (wH cI cC cZ cS h tA dA eA hf tr de ea)) [0, 1, 2, 3] (by decide) rfl
  refine m_callR (W.runV (As := [.int able]) (rest := [.int 1]) ⟨hx, hb, hml, hown, hts⟩ (c_X0_eagerTogether l D cI cC cZ cS h tA dA eA hf tr de ea able n hn h7) (cwV 1 hts gX0_shares_X0_eagerTogether rfl rfl rfl (by decide +kernel) ⟨Nat.le_of_ble_eq_true rfl, Nat.le_of_ble_eq_true rfl⟩) (preV_of hPc hDc hE (va_recv hK hPc (ci := 0) (q0 := 0) rfl rfl)) rfl rfl hl.1 rfl (lv_room (Nat.le_of_ble_eq_true rfl)) dX0_shares_3 ⟨Nat.zero_le _, Nat.zero_le _⟩) ?_
  refine W.eq (g2 := F0 m 6 ls [.int (d_X0_eagerTogether ea able n), .int 1]) rfl ?_
  refine va_mmax hx hb (by rw [hml]; exact hl.1.symm) hown (hts (.methodLink RX0 75 Lib.Math.max.name) (by decide +kernel)) (hts (.static Lib.Math.max.name) (by decide +kernel)) (hts (.initialized "java/lang/Math") (by decide +kernel)) (hts (.code Lib.Math.max.name Lib.Math.max.code 2 (some .int)) (by decide +kernel)) (Nat.le_of_ble_eq_true rfl) (Nat.le_of_ble_eq_true rfl) (Nat.zero_le _) (Nat.zero_le _) dX0_shares_6 ?_
  rw [hres]
  exact W.iret (v := if (1 : Int32) < (d_X0_eagerTogether ea able n) then (d_X0_eagerTogether ea able n) else (1 : Int32)) hx hb hr (fun t ht hW => ⟨rfl, ht⟩) (fun _ h => by cases h) dX0_shares_9
def lp_X0_countedOff_5 (ea : Nat → Int32) (able : Int32) (place : Int32) (n : Nat) : Nat → Nat → Int32 → Int32
  | 0, _, _ => 0
  | k5 + 1, i, acc => if (nI n) ≤ (nI i) then
      (-9)
    else
      if ((d_X5_bitOf able (nI i)) * (ea i)) ≤ acc then
        lp_X0_countedOff_5 ea able place n k5 (i + 1) (acc - ((d_X5_bitOf able (nI i)) * (ea i)))
      else
        nI i
def d_X0_countedOff (ea : Nat → Int32) (able : Int32) (place : Int32) (n : Nat) : Int32 :=
  lp_X0_countedOff_5 ea able place n (n + 1) 0 place
set_option maxHeartbeats 4000000 in
set_option maxRecDepth 100000 in
theorem c_X0_countedOff (l : Launch) (D : va_G) (cI cC cZ cS : ClassId) (h : Nat) (tA : Nat) (dA : Nat) (eA : Nat) (hf : Nat → Int32) (tr : Nat → Int32) (de : Nat → Int32) (ea : Nat → Int32) (able : Int32) (place : Int32) (n : Nat) (hn : hf 3 = nI n) (h7 : n ≤ 7) : Met l yX0_countedOff wsX0_countedOff { frames := 1, cells := 0, slots := 0, locals := 21 } (PcE D cI cC cZ cS [.ref h, .int able, .int place] (wH cI cC cZ cS h tA dA eA hf tr de ea)) (QcR (some (.int (d_X0_countedOff ea able place n)))) 0 0 (fun _ => False) := by
  refine Met.ofW (cc := cX0_countedOff) (maxL := 6) (ret := (some .int)) (by decide) rfl ?_
  intro p e s m args below meth c s₁ B hml hv
  obtain ⟨rfl, hP, hD, hE⟩ := hv
  have hK := hE.1
  have hx := B.exec
  have hb := B.bytes
  have hr := B.returns
  have hts := atoms_spec (ws := wsX0_countedOff) B.pre
  have hown : s.vm.findClass RX0 = some m.cls := findClass_of_methodNamed B.named
  have hlocks := B.notSynchronized
  have hinX0 : ∀ w ∈ wsX00, w ∈ wsX0_countedOff := by decide +kernel
  refine opq (d_X0_countedOff ea able place n) (fun R hres => ?_)
  rw [hres]
  replace hres := hres.symm
  rw [d_X0_countedOff] at hres
  have hl := lv_entry ([.ref h, .int able, .int place]) (n := 6) (Nat.le_of_ble_eq_true rfl)
  rw [lg_entry_eq]
  generalize (lg_sl ([.ref h, .int able, .int place]) ++ List.replicate (6 - (lg_sl ([.ref h, .int able, .int place])).length) Slot.unset).toArray = ls at hl ⊢
  have hl : lv_has ls 6 [(0, .ref h), (1, .int able), (2, .int place)] := hl
  refine lv_iload_n hx hb dX0_countedOff_0 rfl (lv_at hl 2 rfl) ?_
  refine lv_istore_n (lv' := [(3, .int place), (0, .ref h), (1, .int able), (2, .int place)]) hx hb dX0_countedOff_1 rfl hl (by decide) rfl (fun ls hl => ?_)
  refine lv_iconst (v := 0) hx hb dX0_countedOff_2 (by decide) ?_
  refine lv_istore (lv' := [(4, .int 0), (3, .int place), (0, .ref h), (1, .int able), (2, .int place)]) hx hb dX0_countedOff_3 hl (by decide) rfl (fun ls hl => ?_)
  have loop5 : ∀ (k5 : Nat) (i : Nat) (acc : Int32), n - i < k5 → i ≤ n → R = lp_X0_countedOff_5 ea able place n k5 i acc → ∀ ls : Array Slot, lv_has ls 6 [(0, .ref h), (1, .int able), (2, .int place), (3, .int acc), (4, .int (nI i))] → W p l e (headSpec wsX0_countedOff { frames := 1, cells := 0, slots := 0, locals := 21 }).room s m (([.ref h, .int able, .int place] : List Value).toArray) below meth c s.heap [] 0 0 (MQ below (QcR (some (.int R))) (([.ref h, .int able, .int place] : List Value).toArray) s 0 0 (fun _ => False)) (F0 m 5 ls []) := by
    intro k5
    induction k5 with
    | zero => intro i acc hk; exact absurd hk (Nat.not_lt_zero _)
    | succ k5 ih5 =>
      intro i acc hk5 hi hres ls hl
      rw [lp_X0_countedOff_5] at hres
      refine lv_iload hx hb dX0_countedOff_5 (lv_at hl 4 rfl) ?_
      refine lv_aload_n hx hb dX0_countedOff_7 rfl (lv_at hl 0 rfl) ?_
      refine va_get (D := D) (ci := 0) (v := .int (hf 3)) (C := RX0) (T := TX0) (N := 9) hx hb hts hinX0 hown hK hP 0 rfl rfl 3 (by decide) (hts (.fieldLink RX0 24 "FirstOut$House" "things" "I") (by decide +kernel)) (fun _ h9 => h9) rfl dX0_countedOff_8 ?_
      refine lv_to (show (hf 3) = nI n from hn) ?_
      refine lv_icmp_ge (tgt := 50) hx hb dX0_countedOff_11 (by decide) (fun c_1 => ?_) (fun c_1 => ?_)
      · skip
        rw [if_pos c_1] at hres
        refine lv_bipush (v := (-9)) hx hb dX0_countedOff_50 (by decide) ?_
        rw [hres]
        exact W.iret (v := (-9)) hx hb hr (fun t ht hW => ⟨rfl, ht⟩) (fun _ h => by cases h) dX0_countedOff_52
      · skip
        rw [if_neg c_1] at hres
        have hlt : i < n := nlt_of c_1 (by omega) (by omega)
        refine lv_iload_n hx hb dX0_countedOff_14 rfl (lv_at hl 1 rfl) ?_
        refine lv_iload hx hb dX0_countedOff_15 (lv_at hl 4 rfl) ?_
        have hPc := hP.sub (ws' := []) [] rfl
        have hDc := hD.sub (ws' := []) [] (by decide) rfl
        refine m_callR (cr_of (va_runSN (As := [.int able, .int (nI i)]) (rest := []) ⟨hx, hb, hml, hown, hts⟩ (c_X5_bitOf l D cI cC cZ cS able (nI i)) ⟨va_cnB 2 hts gX0_countedOff_X5_bitOf_n68 rfl rfl rfl hE.2.1 (hts (.initialized RX5) (by decide +kernel)) (by decide +kernel) ⟨Nat.le_of_ble_eq_true rfl, Nat.le_of_ble_eq_true rfl⟩, hts (.static yX5_bitOf) (by decide +kernel), trivial⟩ (preS_of hPc hDc hE) rfl rfl hl.1 rfl (lv_room (Nat.le_of_ble_eq_true rfl)) dX0_countedOff_17 ⟨Nat.zero_le _, Nat.zero_le _⟩)) ?_
        refine W.eq (g2 := F0 m 20 ls [.int (d_X5_bitOf able (nI i))]) rfl ?_
        refine lv_aload_n hx hb dX0_countedOff_20 rfl (lv_at hl 0 rfl) ?_
        refine va_get (D := D) (ci := 0) (v := .ref eA) (C := RX0) (T := TX0) (N := 9) hx hb hts hinX0 hown hK hP 0 rfl rfl 2 (by decide) (hts (.fieldLink RX0 18 "FirstOut$House" "eager" "[I") (by decide +kernel)) (fun _ h9 => h9) rfl dX0_countedOff_21 ?_
        refine lv_iload hx hb dX0_countedOff_24 (lv_at hl 4 rfl) ?_
        refine m_iald hx hb hK hP 3 0 rfl rfl i rfl (by omega) (by decide) dX0_countedOff_26 ?_
        refine lv_to (show _ = (ea i) from rfl) ?_
        refine lv_imul hx hb dX0_countedOff_27 ?_
        refine lv_istore (lv' := [(5, .int ((d_X5_bitOf able (nI i)) * (ea i))), (0, .ref h), (1, .int able), (2, .int place), (3, .int acc), (4, .int (nI i))]) hx hb dX0_countedOff_28 hl (by decide) rfl (fun ls hl => ?_)
        refine lv_iload_n hx hb dX0_countedOff_30 rfl (lv_at hl 4 rfl) ?_
        refine lv_iload hx hb dX0_countedOff_31 (lv_at hl 0 rfl) ?_
        refine lv_icmp_ge (tgt := 39) hx hb dX0_countedOff_33 (by decide) (fun c_2 => ?_) (fun c_2 => ?_)
        · skip
          rw [if_pos c_2] at hres
          refine lv_iload_n hx hb dX0_countedOff_39 rfl (lv_at hl 4 rfl) ?_
          refine lv_iload hx hb dX0_countedOff_40 (lv_at hl 0 rfl) ?_
          refine lv_isub hx hb dX0_countedOff_42 ?_
          refine lv_istore_n (lv' := [(3, .int (acc - ((d_X5_bitOf able (nI i)) * (ea i)))), (5, .int ((d_X5_bitOf able (nI i)) * (ea i))), (0, .ref h), (1, .int able), (2, .int place), (4, .int (nI i))]) hx hb dX0_countedOff_43 rfl hl (by decide) rfl (fun ls hl => ?_)
          refine lv_iinc (v := nI (i + 1)) (lv' := [(4, .int (nI (i + 1))), (3, .int (acc - ((d_X5_bitOf able (nI i)) * (ea i)))), (5, .int ((d_X5_bitOf able (nI i)) * (ea i))), (0, .ref h), (1, .int able), (2, .int place)]) hx hb dX0_countedOff_44 hl (k := 5) rfl ((nI_add i 1)) (by decide) rfl (fun ls hl => ?_)
          refine lv_goto (tgt := 5) hx hb dX0_countedOff_47 (by decide) ?_
          exact ih5 (i + 1) (acc - ((d_X5_bitOf able (nI i)) * (ea i))) (by omega) (by omega) hres ls (lv_sub hl [3, 4, 5, 1, 0] rfl)
        · skip
          rw [if_neg c_2] at hres
          refine lv_iload hx hb dX0_countedOff_36 (lv_at hl 5 rfl) ?_
          rw [hres]
          exact W.iret (v := nI i) hx hb hr (fun t ht hW => ⟨rfl, ht⟩) (fun _ h => by cases h) dX0_countedOff_38
  exact loop5 (n + 1) 0 place (by omega) (Nat.zero_le _) hres ls (lv_sub hl [2, 3, 4, 1, 0] rfl)
def d_X0_coveredBy (tr : Nat → Int32) (u : Nat → Int32) (w : Int32) (n : Nat) : Int32 :=
  (d_X0_having tr w n) &&& ((u 3) ^^^ (-1 : Int32))
set_option maxHeartbeats 4000000 in
set_option maxRecDepth 100000 in
theorem c_X0_coveredBy (l : Launch) (D : va_G) (cI cC cZ cS : ClassId) (h : Nat) (tA : Nat) (dA : Nat) (eA : Nat) (sA : Nat) (hf : Nat → Int32) (tr : Nat → Int32) (de : Nat → Int32) (ea : Nat → Int32) (u : Nat → Int32) (w : Int32) (n : Nat) (hn : hf 3 = nI n) (h7 : n ≤ 7) : Met l yX0_coveredBy wsX0_coveredBy { frames := 1, cells := 0, slots := 0, locals := 23 } (PcE D cI cC cZ cS [.ref h, .int w, .ref sA] (wHS cI cC cZ cS h tA dA eA sA hf tr de ea u)) (QcR (some (.int (d_X0_coveredBy tr u w n)))) 0 0 (fun _ => False) := by
  refine Met.ofW (cc := cX0_coveredBy) (maxL := 3) (ret := (some .int)) (by decide) rfl ?_
  intro p e s m args below meth c s₁ B hml hv
  obtain ⟨rfl, hP, hD, hE⟩ := hv
  have hK := hE.1
  have hx := B.exec
  have hb := B.bytes
  have hr := B.returns
  have hts := atoms_spec (ws := wsX0_coveredBy) B.pre
  have hown : s.vm.findClass RX0 = some m.cls := findClass_of_methodNamed B.named
  have hlocks := B.notSynchronized
  have hinX3 : ∀ w ∈ wsX30, w ∈ wsX0_coveredBy := by decide +kernel
  refine opq (d_X0_coveredBy tr u w n) (fun R hres => ?_)
  rw [hres]
  replace hres := hres.symm
  rw [d_X0_coveredBy] at hres
  have hl := lv_entry ([.ref h, .int w, .ref sA]) (n := 3) (Nat.le_of_ble_eq_true rfl)
  rw [lg_entry_eq]
  generalize (lg_sl ([.ref h, .int w, .ref sA]) ++ List.replicate (3 - (lg_sl ([.ref h, .int w, .ref sA])).length) Slot.unset).toArray = ls at hl ⊢
  have hl : lv_has ls 3 [(0, .ref h), (1, .int w), (2, .ref sA)] := hl
  refine lv_aload_n hx hb dX0_coveredBy_0 rfl (lv_at hl 0 rfl) ?_
  refine lv_iload_n hx hb dX0_coveredBy_1 rfl (lv_at hl 1 rfl) ?_
  have hPc := hP.sub (ws' := (wH cI cC cZ cS h tA dA eA hf tr de ea)) [0, 1, 2, 3] rfl
  have hDc := hD.sub (ws' := (wH cI cC cZ cS h tA dA eA hf tr de ea)) [0, 1, 2, 3] (by decide) rfl
  refine m_callR (W.runV (As := [.int w]) (rest := []) ⟨hx, hb, hml, hown, hts⟩ (c_X0_having l D cI cC cZ cS h tA dA eA hf tr de ea w n hn h7) (cwV 1 hts gX0_coveredBy_X0_having rfl rfl rfl (by decide +kernel) ⟨Nat.le_of_ble_eq_true rfl, Nat.le_of_ble_eq_true rfl⟩) (preV_of hPc hDc hE (va_recv hK hPc (ci := 0) (q0 := 0) rfl rfl)) rfl rfl hl.1 rfl (lv_room (Nat.le_of_ble_eq_true rfl)) dX0_coveredBy_2 ⟨Nat.zero_le _, Nat.zero_le _⟩) ?_
  refine W.eq (g2 := F0 m 5 ls [.int (d_X0_having tr w n)]) rfl ?_
  refine lv_aload_n hx hb dX0_coveredBy_5 rfl (lv_at hl 2 rfl) ?_
  refine va_get (D := D) (ci := 3) (v := .int (u 3)) (C := RX3) (T := TX3) (N := 5) hx hb hts hinX3 hown hK hP 4 rfl rfl 3 (by decide) (hts (.fieldLink RX0 51 "FirstOut$Standing" "given" "I") (by decide +kernel)) (fun _ h9 => h9) rfl dX0_coveredBy_6 ?_
  refine lv_iconst (v := (-1)) hx hb dX0_coveredBy_9 (by decide) ?_
  refine lv_ixor hx hb dX0_coveredBy_10 ?_
  refine lv_iand hx hb dX0_coveredBy_11 ?_
  rw [hres]
  exact W.iret (v := (d_X0_having tr w n) &&& ((u 3) ^^^ (-1 : Int32))) hx hb hr (fun t ht hW => ⟨rfl, ht⟩) (fun _ h => by cases h) dX0_coveredBy_12
def d_X0_ableBy (tr : Nat → Int32) (ea : Nat → Int32) (u : Nat → Int32) (w : Int32) (n : Nat) : Int32 :=
  (((d_X0_eagerOnes ea n) &&& ((u 3) ^^^ (-1 : Int32))) &&& ((u 2) ^^^ (-1 : Int32))) &&& (((u 1) &&& (d_X0_coveredBy tr u w n)) ^^^ (-1 : Int32))
set_option maxHeartbeats 4000000 in
set_option maxRecDepth 100000 in
theorem c_X0_ableBy (l : Launch) (D : va_G) (cI cC cZ cS : ClassId) (h : Nat) (tA : Nat) (dA : Nat) (eA : Nat) (sA : Nat) (hf : Nat → Int32) (tr : Nat → Int32) (de : Nat → Int32) (ea : Nat → Int32) (u : Nat → Int32) (w : Int32) (n : Nat) (hn : hf 3 = nI n) (h7 : n ≤ 7) : Met l yX0_ableBy wsX0_ableBy { frames := 2, cells := 0, slots := 0, locals := 45 } (PcE D cI cC cZ cS [.ref h, .int w, .ref sA] (wHS cI cC cZ cS h tA dA eA sA hf tr de ea u)) (QcR (some (.int (d_X0_ableBy tr ea u w n)))) 0 0 (fun _ => False) := by
  refine Met.ofW (cc := cX0_ableBy) (maxL := 4) (ret := (some .int)) (by decide) rfl ?_
  intro p e s m args below meth c s₁ B hml hv
  obtain ⟨rfl, hP, hD, hE⟩ := hv
  have hK := hE.1
  have hx := B.exec
  have hb := B.bytes
  have hr := B.returns
  have hts := atoms_spec (ws := wsX0_ableBy) B.pre
  have hown : s.vm.findClass RX0 = some m.cls := findClass_of_methodNamed B.named
  have hlocks := B.notSynchronized
  have hinX3 : ∀ w ∈ wsX30, w ∈ wsX0_ableBy := by decide +kernel
  refine opq (d_X0_ableBy tr ea u w n) (fun R hres => ?_)
  rw [hres]
  replace hres := hres.symm
  rw [d_X0_ableBy] at hres
  have hl := lv_entry ([.ref h, .int w, .ref sA]) (n := 4) (Nat.le_of_ble_eq_true rfl)
  rw [lg_entry_eq]
  generalize (lg_sl ([.ref h, .int w, .ref sA]) ++ List.replicate (4 - (lg_sl ([.ref h, .int w, .ref sA])).length) Slot.unset).toArray = ls at hl ⊢
  have hl : lv_has ls 4 [(0, .ref h), (1, .int w), (2, .ref sA)] := hl
  refine lv_aload_n hx hb dX0_ableBy_0 rfl (lv_at hl 2 rfl) ?_
  refine va_get (D := D) (ci := 3) (v := .int (u 1)) (C := RX3) (T := TX3) (N := 5) hx hb hts hinX3 hown hK hP 4 rfl rfl 1 (by decide) (hts (.fieldLink RX0 56 "FirstOut$Standing" "knowing" "I") (by decide +kernel)) (fun _ h9 => h9) rfl dX0_ableBy_1 ?_
  refine lv_aload_n hx hb dX0_ableBy_4 rfl (lv_at hl 0 rfl) ?_
  refine lv_iload_n hx hb dX0_ableBy_5 rfl (lv_at hl 1 rfl) ?_
  refine lv_aload_n hx hb dX0_ableBy_6 rfl (lv_at hl 2 rfl) ?_
  have hPc := hP.sub (ws' := (wHS cI cC cZ cS h tA dA eA sA hf tr de ea u)) [0, 1, 2, 3, 4] rfl
  have hDc := hD.sub (ws' := (wHS cI cC cZ cS h tA dA eA sA hf tr de ea u)) [0, 1, 2, 3, 4] (by decide) rfl
  refine m_callR (W.runV (As := [.int w, .ref sA]) (rest := [.int (u 1)]) ⟨hx, hb, hml, hown, hts⟩ (c_X0_coveredBy l D cI cC cZ cS h tA dA eA sA hf tr de ea u w n hn h7) (cwV 2 hts gX0_ableBy_X0_coveredBy rfl rfl rfl (by decide +kernel) ⟨Nat.le_of_ble_eq_true rfl, Nat.le_of_ble_eq_true rfl⟩) (preV_of hPc hDc hE (va_recv hK hPc (ci := 0) (q0 := 0) rfl rfl)) rfl rfl hl.1 rfl (lv_room (Nat.le_of_ble_eq_true rfl)) dX0_ableBy_7 ⟨Nat.zero_le _, Nat.zero_le _⟩) ?_
  refine W.eq (g2 := F0 m 10 ls [.int (d_X0_coveredBy tr u w n), .int (u 1)]) rfl ?_
  refine lv_iand hx hb dX0_ableBy_10 ?_
  refine lv_istore_n (lv' := [(3, .int ((u 1) &&& (d_X0_coveredBy tr u w n))), (0, .ref h), (1, .int w), (2, .ref sA)]) hx hb dX0_ableBy_11 rfl hl (by decide) rfl (fun ls hl => ?_)
  refine lv_aload_n hx hb dX0_ableBy_12 rfl (lv_at hl 1 rfl) ?_
  have hPc := hP.sub (ws' := (wH cI cC cZ cS h tA dA eA hf tr de ea)) [0, 1, 2, 3] rfl
  have hDc := hD.sub (ws' := (wH cI cC cZ cS h tA dA eA hf tr de ea)) [0, 1, 2, 3] (by decide) rfl
  refine m_callR (W.runV (As := []) (rest := []) ⟨hx, hb, hml, hown, hts⟩ (c_X0_eagerOnes l D cI cC cZ cS h tA dA eA hf tr de ea n hn h7) (cwV 0 hts gX0_ableBy_X0_eagerOnes rfl rfl rfl (by decide +kernel) ⟨Nat.le_of_ble_eq_true rfl, Nat.le_of_ble_eq_true rfl⟩) (preV_of hPc hDc hE (va_recv hK hPc (ci := 0) (q0 := 0) rfl rfl)) rfl rfl hl.1 rfl (lv_room (Nat.le_of_ble_eq_true rfl)) dX0_ableBy_13 ⟨Nat.zero_le _, Nat.zero_le _⟩) ?_
  refine W.eq (g2 := F0 m 16 ls [.int (d_X0_eagerOnes ea n)]) rfl ?_
  refine lv_aload_n hx hb dX0_ableBy_16 rfl (lv_at hl 3 rfl) ?_
  refine va_get (D := D) (ci := 3) (v := .int (u 3)) (C := RX3) (T := TX3) (N := 5) hx hb hts hinX3 hown hK hP 4 rfl rfl 3 (by decide) (hts (.fieldLink RX0 51 "FirstOut$Standing" "given" "I") (by decide +kernel)) (fun _ h9 => h9) rfl dX0_ableBy_17 ?_
  refine lv_iconst (v := (-1)) hx hb dX0_ableBy_20 (by decide) ?_
  refine lv_ixor hx hb dX0_ableBy_21 ?_
  refine lv_iand hx hb dX0_ableBy_22 ?_
  refine lv_aload_n hx hb dX0_ableBy_23 rfl (lv_at hl 3 rfl) ?_
  refine va_get (D := D) (ci := 3) (v := .int (u 2)) (C := RX3) (T := TX3) (N := 5) hx hb hts hinX3 hown hK hP 4 rfl rfl 2 (by decide) (hts (.fieldLink RX0 65 "FirstOut$Standing" "kept" "I") (by decide +kernel)) (fun _ h9 => h9) rfl dX0_ableBy_24 ?_
  refine lv_iconst (v := (-1)) hx hb dX0_ableBy_27 (by decide) ?_
  refine lv_ixor hx hb dX0_ableBy_28 ?_
  refine lv_iand hx hb dX0_ableBy_29 ?_
  refine lv_iload_n hx hb dX0_ableBy_30 rfl (lv_at hl 0 rfl) ?_
  refine lv_iconst (v := (-1)) hx hb dX0_ableBy_31 (by decide) ?_
  refine lv_ixor hx hb dX0_ableBy_32 ?_
  refine lv_iand hx hb dX0_ableBy_33 ?_
  rw [hres]
  exact W.iret (v := (((d_X0_eagerOnes ea n) &&& ((u 3) ^^^ (-1 : Int32))) &&& ((u 2) ^^^ (-1 : Int32))) &&& (((u 1) &&& (d_X0_coveredBy tr u w n)) ^^^ (-1 : Int32))) hx hb hr (fun t ht hW => ⟨rfl, ht⟩) (fun _ h => by cases h) dX0_ableBy_34
