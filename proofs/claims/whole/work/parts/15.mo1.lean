def w5 (cI cC cZ cS : ClassId) (a : Nat → Nat) (f : Nat → Int32) (mn : Nat → Int32) (tr : Nat → Int32) (de : Nat → Int32) (ea : Nat → Int32) (tc : Int64) : va_W := [((a 0), .inr (6, [.int (f 0), .long tc, .ref (a 1), .int (f 3), .int (f 4), .int (f 5), .int (f 6), .int (f 7), .int (f 8), .ref (a 2), .int (f 10), .ref (a 3), .ref (a 4), .ref (a 5), .int (f 14), .ref (a 6), .ref (a 7), .ref (a 8), .ref (a 9), .ref (a 10), .int (f 20), .ref (a 11), .ref (a 12), .int (f 23), .int (f 24), .int (f 25)])), ((a 2), .inl (cI, 10, .inl mn)), ((a 3), .inl (cI, 14, .inl tr)), ((a 4), .inl (cI, 14, .inl de)), ((a 5), .inl (cI, 14, .inl ea))]
theorem w5_ad {cI cC cZ cS : ClassId} {a : Nat → Nat} {f1 : Nat → Int32} {mn1 : Nat → Int32} {tr1 : Nat → Int32} {de1 : Nat → Int32} {ea1 : Nat → Int32} {tc1 : Int64} {f2 : Nat → Int32} {mn2 : Nat → Int32} {tr2 : Nat → Int32} {de2 : Nat → Int32} {ea2 : Nat → Int32} {tc2 : Int64} : (w5 cI cC cZ cS a f1 mn1 tr1 de1 ea1 tc1).map Prod.fst = (w5 cI cC cZ cS a f2 mn2 tr2 de2 ea2 tc2).map Prod.fst := rfl
def w5r (cI cC cZ cS : ClassId) (a : Nat → Nat) (f : Nat → Int32) (mn : Nat → Int32) (tr : Nat → Int32) (de : Nat → Int32) (ea : Nat → Int32) (rA : Nat) (g : Nat → Int32) (tc : Int64) : va_W := [((a 0), .inr (6, [.int (f 0), .long tc, .ref (a 1), .int (f 3), .int (f 4), .int (f 5), .int (f 6), .int (f 7), .int (f 8), .ref (a 2), .int (f 10), .ref (a 3), .ref (a 4), .ref (a 5), .int (f 14), .ref (a 6), .ref (a 7), .ref (a 8), .ref (a 9), .ref (a 10), .int (f 20), .ref (a 11), .ref (a 12), .int (f 23), .int (f 24), .int (f 25)])), ((a 2), .inl (cI, 10, .inl mn)), ((a 3), .inl (cI, 14, .inl tr)), ((a 4), .inl (cI, 14, .inl de)), ((a 5), .inl (cI, 14, .inl ea)), (rA, .inl (cI, 5, .inl g))]
theorem w5r_ad {cI cC cZ cS : ClassId} {a : Nat → Nat} {rA : Nat} {f1 : Nat → Int32} {mn1 : Nat → Int32} {tr1 : Nat → Int32} {de1 : Nat → Int32} {ea1 : Nat → Int32} {g1 : Nat → Int32} {tc1 : Int64} {f2 : Nat → Int32} {mn2 : Nat → Int32} {tr2 : Nat → Int32} {de2 : Nat → Int32} {ea2 : Nat → Int32} {g2 : Nat → Int32} {tc2 : Int64} : (w5r cI cC cZ cS a f1 mn1 tr1 de1 ea1 rA g1 tc1).map Prod.fst = (w5r cI cC cZ cS a f2 mn2 tr2 de2 ea2 rA g2 tc2).map Prod.fst := rfl
def wMt (cI cC cZ cS : ClassId) (a : Nat → Nat) (f : Nat → Int32) (tx : Nat → Int32) (tc : Int64) : va_W := [((a 0), .inr (6, [.int (f 0), .long tc, .ref (a 1), .int (f 3), .int (f 4), .int (f 5), .int (f 6), .int (f 7), .int (f 8), .ref (a 2), .int (f 10), .ref (a 3), .ref (a 4), .ref (a 5), .int (f 14), .ref (a 6), .ref (a 7), .ref (a 8), .ref (a 9), .ref (a 10), .int (f 20), .ref (a 11), .ref (a 12), .int (f 23), .int (f 24), .int (f 25)])), ((a 1), .inl (cI, 200, .inl tx))]
theorem wMt_ad {cI cC cZ cS : ClassId} {a : Nat → Nat} {f1 : Nat → Int32} {tx1 : Nat → Int32} {tc1 : Int64} {f2 : Nat → Int32} {tx2 : Nat → Int32} {tc2 : Int64} : (wMt cI cC cZ cS a f1 tx1 tc1).map Prod.fst = (wMt cI cC cZ cS a f2 tx2 tc2).map Prod.fst := rfl
def wMn (cI cC cZ cS : ClassId) (a : Nat → Nat) (f : Nat → Int32) (ss : Nat → Int32) (un : Nat → Int32) (tc : Int64) : va_W := [((a 0), .inr (6, [.int (f 0), .long tc, .ref (a 1), .int (f 3), .int (f 4), .int (f 5), .int (f 6), .int (f 7), .int (f 8), .ref (a 2), .int (f 10), .ref (a 3), .ref (a 4), .ref (a 5), .int (f 14), .ref (a 6), .ref (a 7), .ref (a 8), .ref (a 9), .ref (a 10), .int (f 20), .ref (a 11), .ref (a 12), .int (f 23), .int (f 24), .int (f 25)])), ((a 6), .inl (cI, 5, .inl ss)), ((a 10), .inl (cI, 50, .inl un))]
theorem wMn_ad {cI cC cZ cS : ClassId} {a : Nat → Nat} {f1 : Nat → Int32} {ss1 : Nat → Int32} {un1 : Nat → Int32} {tc1 : Int64} {f2 : Nat → Int32} {ss2 : Nat → Int32} {un2 : Nat → Int32} {tc2 : Int64} : (wMn cI cC cZ cS a f1 ss1 un1 tc1).map Prod.fst = (wMn cI cC cZ cS a f2 ss2 un2 tc2).map Prod.fst := rfl
def wMw (cI cC cZ cS : ClassId) (a : Nat → Nat) (f : Nat → Int32) (ss : Nat → Int32) (ww : Nat → Int32) (tc : Int64) : va_W := [((a 0), .inr (6, [.int (f 0), .long tc, .ref (a 1), .int (f 3), .int (f 4), .int (f 5), .int (f 6), .int (f 7), .int (f 8), .ref (a 2), .int (f 10), .ref (a 3), .ref (a 4), .ref (a 5), .int (f 14), .ref (a 6), .ref (a 7), .ref (a 8), .ref (a 9), .ref (a 10), .int (f 20), .ref (a 11), .ref (a 12), .int (f 23), .int (f 24), .int (f 25)])), ((a 6), .inl (cI, 5, .inl ss)), ((a 7), .inl (cI, 5, .inl ww))]
theorem wMw_ad {cI cC cZ cS : ClassId} {a : Nat → Nat} {f1 : Nat → Int32} {ss1 : Nat → Int32} {ww1 : Nat → Int32} {tc1 : Int64} {f2 : Nat → Int32} {ss2 : Nat → Int32} {ww2 : Nat → Int32} {tc2 : Int64} : (wMw cI cC cZ cS a f1 ss1 ww1 tc1).map Prod.fst = (wMw cI cC cZ cS a f2 ss2 ww2 tc2).map Prod.fst := rfl
def wM (cI cC cZ cS : ClassId) (a : Nat → Nat) (F : Nat → Nat → Int32) (tc : Int64) : va_W := [((a 0), .inr (6, [.int ((F 0) 0), .long tc, .ref (a 1), .int ((F 0) 3), .int ((F 0) 4), .int ((F 0) 5), .int ((F 0) 6), .int ((F 0) 7), .int ((F 0) 8), .ref (a 2), .int ((F 0) 10), .ref (a 3), .ref (a 4), .ref (a 5), .int ((F 0) 14), .ref (a 6), .ref (a 7), .ref (a 8), .ref (a 9), .ref (a 10), .int ((F 0) 20), .ref (a 11), .ref (a 12), .int ((F 0) 23), .int ((F 0) 24), .int ((F 0) 25)])), ((a 1), .inl (cI, 200, .inl (F 1))), ((a 2), .inl (cI, 10, .inl (F 2))), ((a 3), .inl (cI, 14, .inl (F 3))), ((a 4), .inl (cI, 14, .inl (F 4))), ((a 5), .inl (cI, 14, .inl (F 5))), ((a 6), .inl (cI, 5, .inl (F 6))), ((a 7), .inl (cI, 5, .inl (F 7))), ((a 8), .inl (cI, 10, .inl (F 8))), ((a 9), .inl (cZ, 2, .inl (F 9))), ((a 10), .inl (cI, 50, .inl (F 10))), ((a 11), .inl (cI, 6, .inl (F 11))), ((a 12), .inl (cI, 6, .inl (F 12)))]
theorem wM_ad {cI cC cZ cS : ClassId} {a : Nat → Nat} {F1 : Nat → Nat → Int32} {tc1 : Int64} {F2 : Nat → Nat → Int32} {tc2 : Int64} : (wM cI cC cZ cS a F1 tc1).map Prod.fst = (wM cI cC cZ cS a F2 tc2).map Prod.fst := rfl
def d_X6_in (v : Int32) (lo : Int32) (hi : Int32) : Int32 :=
  if v < lo then
      0
    else
      if hi < v then
        0
      else
        1
set_option maxHeartbeats 4000000 in
set_option maxRecDepth 100000 in
theorem c_X6_in (l : Launch) (D : va_G) (cI cC cZ cS : ClassId) (v : Int32) (lo : Int32) (hi : Int32) : Met l yX6_in wsX6_in { frames := 0, cells := 0, slots := 0, locals := 0 } (PcE D cI cC cZ cS [.int v, .int lo, .int hi] []) (QcR (some (.int (d_X6_in v lo hi)))) 0 0 (fun _ => False) := by
  refine Met.ofW (cc := cX6_in) (maxL := 3) (ret := (some .boolean)) (by decide) rfl ?_
  intro p e s m args below meth c s₁ B hml hv
  obtain ⟨rfl, hP, hD, hE⟩ := hv
  have hK := hE.1
  have hx := B.exec
  have hb := B.bytes
  have hr := B.returns
  have hts := atoms_spec (ws := wsX6_in) B.pre
  have hown : s.vm.findClass RX6 = some m.cls := findClass_of_methodNamed B.named
  have hlocks := B.notSynchronized
  refine opq (d_X6_in v lo hi) (fun R hres => ?_)
  rw [hres]
  replace hres := hres.symm
  rw [d_X6_in] at hres
  have hl := lv_entry ([.int v, .int lo, .int hi]) (n := 3) (Nat.le_of_ble_eq_true rfl)
  rw [lg_entry_eq]
  generalize (lg_sl ([.int v, .int lo, .int hi]) ++ List.replicate (3 - (lg_sl ([.int v, .int lo, .int hi])).length) Slot.unset).toArray = ls at hl ⊢
  have hl : lv_has ls 3 [(0, .int v), (1, .int lo), (2, .int hi)] := hl
  refine lv_iload_n hx hb dX6_in_0 rfl (lv_at hl 0 rfl) ?_
  refine lv_iload_n hx hb dX6_in_1 rfl (lv_at hl 1 rfl) ?_
  refine lv_icmp_lt (tgt := 14) hx hb dX6_in_2 (by decide) (fun c_1 => ?_) (fun c_1 => ?_)
  · skip
    rw [if_pos c_1] at hres
    refine lv_iconst (v := 0) hx hb dX6_in_14 (by decide) ?_
    rw [hres]
    exact W.zret (v := 0) hx hb hr rfl (fun t ht hW => ⟨rfl, ht⟩) (fun _ h => by cases h) dX6_in_15
  · skip
    rw [if_neg c_1] at hres
    refine lv_iload_n hx hb dX6_in_5 rfl (lv_at hl 0 rfl) ?_
    refine lv_iload_n hx hb dX6_in_6 rfl (lv_at hl 2 rfl) ?_
    refine lv_icmp_gt (tgt := 14) hx hb dX6_in_7 (by decide) (fun c_2 => ?_) (fun c_2 => ?_)
    · skip
      rw [if_pos c_2] at hres
      refine lv_iconst (v := 0) hx hb dX6_in_14 (by decide) ?_
      rw [hres]
      exact W.zret (v := 0) hx hb hr rfl (fun t ht hW => ⟨rfl, ht⟩) (fun _ h => by cases h) dX6_in_15
    · skip
      rw [if_neg c_2] at hres
      refine lv_iconst (v := 1) hx hb dX6_in_10 (by decide) ?_
      refine lv_goto (tgt := 15) hx hb dX6_in_11 (by decide) ?_
      rw [hres]
      exact W.zret (v := 1) hx hb hr rfl (fun t ht hW => ⟨rfl, ht⟩) (fun _ h => by cases h) dX6_in_15

theorem in_nar {x y z : Int32} : narrow .boolean (.int (d_X6_in x y z)) = .int (d_X6_in x y z) := by
  rw [d_X6_in]
  split
  · rfl
  · split <;> rfl

def d_X6_ones (set : Int32) : Int32 :=
  (((((((0 : Int32) + ((set >>> ((0 : Int32) &&& 31)) &&& (1 : Int32))) + ((set >>> ((1 : Int32) &&& 31)) &&& (1 : Int32))) + ((set >>> ((2 : Int32) &&& 31)) &&& (1 : Int32))) + ((set >>> ((3 : Int32) &&& 31)) &&& (1 : Int32))) + ((set >>> ((4 : Int32) &&& 31)) &&& (1 : Int32))) + ((set >>> ((5 : Int32) &&& 31)) &&& (1 : Int32))) + ((set >>> ((6 : Int32) &&& 31)) &&& (1 : Int32))
set_option maxHeartbeats 4000000 in
set_option maxRecDepth 100000 in
theorem c_X6_ones (l : Launch) (D : va_G) (cI cC cZ cS : ClassId) (set : Int32) : Met l yX6_ones wsX6_ones { frames := 0, cells := 0, slots := 0, locals := 0 } (PcE D cI cC cZ cS [.int set] []) (QcR (some (.int (d_X6_ones set)))) 0 0 (fun _ => False) := by
  refine Met.ofW (cc := cX6_ones) (maxL := 3) (ret := (some .int)) (by decide) rfl ?_
  intro p e s m args below meth c s₁ B hml hv
  obtain ⟨rfl, hP, hD, hE⟩ := hv
  have hK := hE.1
  have hx := B.exec
  have hb := B.bytes
  have hr := B.returns
  have hts := atoms_spec (ws := wsX6_ones) B.pre
  have hown : s.vm.findClass RX6 = some m.cls := findClass_of_methodNamed B.named
  have hlocks := B.notSynchronized
  refine opq (d_X6_ones set) (fun R hres => ?_)
  rw [hres]
  replace hres := hres.symm
  rw [d_X6_ones] at hres
  have hl := lv_entry ([.int set]) (n := 3) (Nat.le_of_ble_eq_true rfl)
  rw [lg_entry_eq]
  generalize (lg_sl ([.int set]) ++ List.replicate (3 - (lg_sl ([.int set])).length) Slot.unset).toArray = ls at hl ⊢
  have hl : lv_has ls 3 [(0, .int set)] := hl
  refine lv_iconst (v := 0) hx hb dX6_ones_0 (by decide) ?_
  refine lv_istore_n (lv' := [(1, .int 0), (0, .int set)]) hx hb dX6_ones_1 rfl hl (by decide) rfl (fun ls hl => ?_)
  refine lv_iconst (v := 0) hx hb dX6_ones_2 (by decide) ?_
  refine lv_istore_n (lv' := [(2, .int 0), (1, .int 0), (0, .int set)]) hx hb dX6_ones_3 rfl hl (by decide) rfl (fun ls hl => ?_)
  refine lv_iload_n hx hb dX6_ones_4 rfl (lv_at hl 0 rfl) ?_
  refine lv_bipush (v := 7) hx hb dX6_ones_5 (by decide) ?_
  refine lv_icmp_ge (tgt := 24) hx hb dX6_ones_7 (by decide) (fun c_1 => ?_) (fun c_1 => ?_)
  · exact absurd c_1 (by decide)
  · skip
    refine lv_iload_n hx hb dX6_ones_10 rfl (lv_at hl 1 rfl) ?_
    refine lv_iload_n hx hb dX6_ones_11 rfl (lv_at hl 2 rfl) ?_
    refine lv_iload_n hx hb dX6_ones_12 rfl (lv_at hl 0 rfl) ?_
    refine lv_ishr hx hb dX6_ones_13 ?_
    refine lv_iconst (v := 1) hx hb dX6_ones_14 (by decide) ?_
    refine lv_iand hx hb dX6_ones_15 ?_
    refine lv_iadd hx hb dX6_ones_16 ?_
    refine lv_istore_n (lv' := [(1, .int ((0 : Int32) + ((set >>> ((0 : Int32) &&& 31)) &&& (1 : Int32)))), (2, .int 0), (0, .int set)]) hx hb dX6_ones_17 rfl hl (by decide) rfl (fun ls hl => ?_)
    refine lv_iinc (v := 1) (lv' := [(2, .int 1), (1, .int ((0 : Int32) + ((set >>> ((0 : Int32) &&& 31)) &&& (1 : Int32)))), (0, .int set)]) hx hb dX6_ones_18 hl (k := 1) rfl (by rfl) (by decide) rfl (fun ls hl => ?_)
    refine lv_goto (tgt := 4) hx hb dX6_ones_21 (by decide) ?_
    refine lv_iload_n hx hb dX6_ones_4 rfl (lv_at hl 0 rfl) ?_
    refine lv_bipush (v := 7) hx hb dX6_ones_5 (by decide) ?_
    refine lv_icmp_ge (tgt := 24) hx hb dX6_ones_7 (by decide) (fun c_2 => ?_) (fun c_2 => ?_)
    · exact absurd c_2 (by decide)
    · skip
      refine lv_iload_n hx hb dX6_ones_10 rfl (lv_at hl 1 rfl) ?_
      refine lv_iload_n hx hb dX6_ones_11 rfl (lv_at hl 2 rfl) ?_
      refine lv_iload_n hx hb dX6_ones_12 rfl (lv_at hl 0 rfl) ?_
      refine lv_ishr hx hb dX6_ones_13 ?_
      refine lv_iconst (v := 1) hx hb dX6_ones_14 (by decide) ?_
      refine lv_iand hx hb dX6_ones_15 ?_
      refine lv_iadd hx hb dX6_ones_16 ?_
      refine lv_istore_n (lv' := [(1, .int (((0 : Int32) + ((set >>> ((0 : Int32) &&& 31)) &&& (1 : Int32))) + ((set >>> ((1 : Int32) &&& 31)) &&& (1 : Int32)))), (2, .int 1), (0, .int set)]) hx hb dX6_ones_17 rfl hl (by decide) rfl (fun ls hl => ?_)
      refine lv_iinc (v := 2) (lv' := [(2, .int 2), (1, .int (((0 : Int32) + ((set >>> ((0 : Int32) &&& 31)) &&& (1 : Int32))) + ((set >>> ((1 : Int32) &&& 31)) &&& (1 : Int32)))), (0, .int set)]) hx hb dX6_ones_18 hl (k := 1) rfl (by rfl) (by decide) rfl (fun ls hl => ?_)
      refine lv_goto (tgt := 4) hx hb dX6_ones_21 (by decide) ?_
      refine lv_iload_n hx hb dX6_ones_4 rfl (lv_at hl 0 rfl) ?_
      refine lv_bipush (v := 7) hx hb dX6_ones_5 (by decide) ?_
      refine lv_icmp_ge (tgt := 24) hx hb dX6_ones_7 (by decide) (fun c_3 => ?_) (fun c_3 => ?_)
      · exact absurd c_3 (by decide)
      · skip
        refine lv_iload_n hx hb dX6_ones_10 rfl (lv_at hl 1 rfl) ?_
        refine lv_iload_n hx hb dX6_ones_11 rfl (lv_at hl 2 rfl) ?_
        refine lv_iload_n hx hb dX6_ones_12 rfl (lv_at hl 0 rfl) ?_
        refine lv_ishr hx hb dX6_ones_13 ?_
        refine lv_iconst (v := 1) hx hb dX6_ones_14 (by decide) ?_
        refine lv_iand hx hb dX6_ones_15 ?_
        refine lv_iadd hx hb dX6_ones_16 ?_
        refine lv_istore_n (lv' := [(1, .int ((((0 : Int32) + ((set >>> ((0 : Int32) &&& 31)) &&& (1 : Int32))) + ((set >>> ((1 : Int32) &&& 31)) &&& (1 : Int32))) + ((set >>> ((2 : Int32) &&& 31)) &&& (1 : Int32)))), (2, .int 2), (0, .int set)]) hx hb dX6_ones_17 rfl hl (by decide) rfl (fun ls hl => ?_)
        refine lv_iinc (v := 3) (lv' := [(2, .int 3), (1, .int ((((0 : Int32) + ((set >>> ((0 : Int32) &&& 31)) &&& (1 : Int32))) + ((set >>> ((1 : Int32) &&& 31)) &&& (1 : Int32))) + ((set >>> ((2 : Int32) &&& 31)) &&& (1 : Int32)))), (0, .int set)]) hx hb dX6_ones_18 hl (k := 1) rfl (by rfl) (by decide) rfl (fun ls hl => ?_)
        refine lv_goto (tgt := 4) hx hb dX6_ones_21 (by decide) ?_
        refine lv_iload_n hx hb dX6_ones_4 rfl (lv_at hl 0 rfl) ?_
        refine lv_bipush (v := 7) hx hb dX6_ones_5 (by decide) ?_
        refine lv_icmp_ge (tgt := 24) hx hb dX6_ones_7 (by decide) (fun c_4 => ?_) (fun c_4 => ?_)
        · exact absurd c_4 (by decide)
        · skip
          refine lv_iload_n hx hb dX6_ones_10 rfl (lv_at hl 1 rfl) ?_
          refine lv_iload_n hx hb dX6_ones_11 rfl (lv_at hl 2 rfl) ?_
          refine lv_iload_n hx hb dX6_ones_12 rfl (lv_at hl 0 rfl) ?_
          refine lv_ishr hx hb dX6_ones_13 ?_
          refine lv_iconst (v := 1) hx hb dX6_ones_14 (by decide) ?_
          refine lv_iand hx hb dX6_ones_15 ?_
          refine lv_iadd hx hb dX6_ones_16 ?_
          refine lv_istore_n (lv' := [(1, .int (((((0 : Int32) + ((set >>> ((0 : Int32) &&& 31)) &&& (1 : Int32))) + ((set >>> ((1 : Int32) &&& 31)) &&& (1 : Int32))) + ((set >>> ((2 : Int32) &&& 31)) &&& (1 : Int32))) + ((set >>> ((3 : Int32) &&& 31)) &&& (1 : Int32)))), (2, .int 3), (0, .int set)]) hx hb dX6_ones_17 rfl hl (by decide) rfl (fun ls hl => ?_)
          refine lv_iinc (v := 4) (lv' := [(2, .int 4), (1, .int (((((0 : Int32) + ((set >>> ((0 : Int32) &&& 31)) &&& (1 : Int32))) + ((set >>> ((1 : Int32) &&& 31)) &&& (1 : Int32))) + ((set >>> ((2 : Int32) &&& 31)) &&& (1 : Int32))) + ((set >>> ((3 : Int32) &&& 31)) &&& (1 : Int32)))), (0, .int set)]) hx hb dX6_ones_18 hl (k := 1) rfl (by rfl) (by decide) rfl (fun ls hl => ?_)
          refine lv_goto (tgt := 4) hx hb dX6_ones_21 (by decide) ?_
          refine lv_iload_n hx hb dX6_ones_4 rfl (lv_at hl 0 rfl) ?_
          refine lv_bipush (v := 7) hx hb dX6_ones_5 (by decide) ?_
          refine lv_icmp_ge (tgt := 24) hx hb dX6_ones_7 (by decide) (fun c_5 => ?_) (fun c_5 => ?_)
          · exact absurd c_5 (by decide)
          · skip
            refine lv_iload_n hx hb dX6_ones_10 rfl (lv_at hl 1 rfl) ?_
            refine lv_iload_n hx hb dX6_ones_11 rfl (lv_at hl 2 rfl) ?_
            refine lv_iload_n hx hb dX6_ones_12 rfl (lv_at hl 0 rfl) ?_
            refine lv_ishr hx hb dX6_ones_13 ?_
            refine lv_iconst (v := 1) hx hb dX6_ones_14 (by decide) ?_
            refine lv_iand hx hb dX6_ones_15 ?_
            refine lv_iadd hx hb dX6_ones_16 ?_
            refine lv_istore_n (lv' := [(1, .int ((((((0 : Int32) + ((set >>> ((0 : Int32) &&& 31)) &&& (1 : Int32))) + ((set >>> ((1 : Int32) &&& 31)) &&& (1 : Int32))) + ((set >>> ((2 : Int32) &&& 31)) &&& (1 : Int32))) + ((set >>> ((3 : Int32) &&& 31)) &&& (1 : Int32))) + ((set >>> ((4 : Int32) &&& 31)) &&& (1 : Int32)))), (2, .int 4), (0, .int set)]) hx hb dX6_ones_17 rfl hl (by decide) rfl (fun ls hl => ?_)
            refine lv_iinc (v := 5) (lv' := [(2, .int 5), (1, .int ((((((0 : Int32) + ((set >>> ((0 : Int32) &&& 31)) &&& (1 : Int32))) + ((set >>> ((1 : Int32) &&& 31)) &&& (1 : Int32))) + ((set >>> ((2 : Int32) &&& 31)) &&& (1 : Int32))) + ((set >>> ((3 : Int32) &&& 31)) &&& (1 : Int32))) + ((set >>> ((4 : Int32) &&& 31)) &&& (1 : Int32)))), (0, .int set)]) hx hb dX6_ones_18 hl (k := 1) rfl (by rfl) (by decide) rfl (fun ls hl => ?_)
            refine lv_goto (tgt := 4) hx hb dX6_ones_21 (by decide) ?_
            refine lv_iload_n hx hb dX6_ones_4 rfl (lv_at hl 0 rfl) ?_
            refine lv_bipush (v := 7) hx hb dX6_ones_5 (by decide) ?_
            refine lv_icmp_ge (tgt := 24) hx hb dX6_ones_7 (by decide) (fun c_6 => ?_) (fun c_6 => ?_)
            · exact absurd c_6 (by decide)
            · skip
              refine lv_iload_n hx hb dX6_ones_10 rfl (lv_at hl 1 rfl) ?_
              refine lv_iload_n hx hb dX6_ones_11 rfl (lv_at hl 2 rfl) ?_
              refine lv_iload_n hx hb dX6_ones_12 rfl (lv_at hl 0 rfl) ?_
              refine lv_ishr hx hb dX6_ones_13 ?_
              refine lv_iconst (v := 1) hx hb dX6_ones_14 (by decide) ?_
              refine lv_iand hx hb dX6_ones_15 ?_
              refine lv_iadd hx hb dX6_ones_16 ?_
              refine lv_istore_n (lv' := [(1, .int (((((((0 : Int32) + ((set >>> ((0 : Int32) &&& 31)) &&& (1 : Int32))) + ((set >>> ((1 : Int32) &&& 31)) &&& (1 : Int32))) + ((set >>> ((2 : Int32) &&& 31)) &&& (1 : Int32))) + ((set >>> ((3 : Int32) &&& 31)) &&& (1 : Int32))) + ((set >>> ((4 : Int32) &&& 31)) &&& (1 : Int32))) + ((set >>> ((5 : Int32) &&& 31)) &&& (1 : Int32)))), (2, .int 5), (0, .int set)]) hx hb dX6_ones_17 rfl hl (by decide) rfl (fun ls hl => ?_)
              refine lv_iinc (v := 6) (lv' := [(2, .int 6), (1, .int (((((((0 : Int32) + ((set >>> ((0 : Int32) &&& 31)) &&& (1 : Int32))) + ((set >>> ((1 : Int32) &&& 31)) &&& (1 : Int32))) + ((set >>> ((2 : Int32) &&& 31)) &&& (1 : Int32))) + ((set >>> ((3 : Int32) &&& 31)) &&& (1 : Int32))) + ((set >>> ((4 : Int32) &&& 31)) &&& (1 : Int32))) + ((set >>> ((5 : Int32) &&& 31)) &&& (1 : Int32)))), (0, .int set)]) hx hb dX6_ones_18 hl (k := 1) rfl (by rfl) (by decide) rfl (fun ls hl => ?_)
              refine lv_goto (tgt := 4) hx hb dX6_ones_21 (by decide) ?_
              refine lv_iload_n hx hb dX6_ones_4 rfl (lv_at hl 0 rfl) ?_
              refine lv_bipush (v := 7) hx hb dX6_ones_5 (by decide) ?_
              refine lv_icmp_ge (tgt := 24) hx hb dX6_ones_7 (by decide) (fun c_7 => ?_) (fun c_7 => ?_)
              · exact absurd c_7 (by decide)
              · skip
                refine lv_iload_n hx hb dX6_ones_10 rfl (lv_at hl 1 rfl) ?_
                refine lv_iload_n hx hb dX6_ones_11 rfl (lv_at hl 2 rfl) ?_
                refine lv_iload_n hx hb dX6_ones_12 rfl (lv_at hl 0 rfl) ?_
                refine lv_ishr hx hb dX6_ones_13 ?_
                refine lv_iconst (v := 1) hx hb dX6_ones_14 (by decide) ?_
                refine lv_iand hx hb dX6_ones_15 ?_
                refine lv_iadd hx hb dX6_ones_16 ?_
                refine lv_istore_n (lv' := [(1, .int ((((((((0 : Int32) + ((set >>> ((0 : Int32) &&& 31)) &&& (1 : Int32))) + ((set >>> ((1 : Int32) &&& 31)) &&& (1 : Int32))) + ((set >>> ((2 : Int32) &&& 31)) &&& (1 : Int32))) + ((set >>> ((3 : Int32) &&& 31)) &&& (1 : Int32))) + ((set >>> ((4 : Int32) &&& 31)) &&& (1 : Int32))) + ((set >>> ((5 : Int32) &&& 31)) &&& (1 : Int32))) + ((set >>> ((6 : Int32) &&& 31)) &&& (1 : Int32)))), (2, .int 6), (0, .int set)]) hx hb dX6_ones_17 rfl hl (by decide) rfl (fun ls hl => ?_)
                refine lv_iinc (v := 7) (lv' := [(2, .int 7), (1, .int ((((((((0 : Int32) + ((set >>> ((0 : Int32) &&& 31)) &&& (1 : Int32))) + ((set >>> ((1 : Int32) &&& 31)) &&& (1 : Int32))) + ((set >>> ((2 : Int32) &&& 31)) &&& (1 : Int32))) + ((set >>> ((3 : Int32) &&& 31)) &&& (1 : Int32))) + ((set >>> ((4 : Int32) &&& 31)) &&& (1 : Int32))) + ((set >>> ((5 : Int32) &&& 31)) &&& (1 : Int32))) + ((set >>> ((6 : Int32) &&& 31)) &&& (1 : Int32)))), (0, .int set)]) hx hb dX6_ones_18 hl (k := 1) rfl (by rfl) (by decide) rfl (fun ls hl => ?_)
                refine lv_goto (tgt := 4) hx hb dX6_ones_21 (by decide) ?_
                refine lv_iload_n hx hb dX6_ones_4 rfl (lv_at hl 0 rfl) ?_
                refine lv_bipush (v := 7) hx hb dX6_ones_5 (by decide) ?_
                refine lv_icmp_ge (tgt := 24) hx hb dX6_ones_7 (by decide) (fun c_8 => ?_) (fun c_8 => ?_)
                · skip
                  refine lv_iload_n hx hb dX6_ones_24 rfl (lv_at hl 1 rfl) ?_
                  rw [hres]
                  exact W.iret (v := (((((((0 : Int32) + ((set >>> ((0 : Int32) &&& 31)) &&& (1 : Int32))) + ((set >>> ((1 : Int32) &&& 31)) &&& (1 : Int32))) + ((set >>> ((2 : Int32) &&& 31)) &&& (1 : Int32))) + ((set >>> ((3 : Int32) &&& 31)) &&& (1 : Int32))) + ((set >>> ((4 : Int32) &&& 31)) &&& (1 : Int32))) + ((set >>> ((5 : Int32) &&& 31)) &&& (1 : Int32))) + ((set >>> ((6 : Int32) &&& 31)) &&& (1 : Int32))) hx hb hr (fun t ht hW => ⟨rfl, ht⟩) (fun _ h => by cases h) dX6_ones_25
                · exact absurd c_8 (by decide)
def d_X6_isWell (f : Nat → Int32) : Int32 :=
  if 0 ≤ (f 8) then
      0
    else
      1
set_option maxHeartbeats 4000000 in
set_option maxRecDepth 100000 in
theorem c_X6_isWell (l : Launch) (D : va_G) (cI cC cZ cS : ClassId) (a : Nat → Nat) (f : Nat → Int32) (tx : Nat → Int32) (tc : Int64) : Met l yX6_isWell wsX6_isWell { frames := 0, cells := 0, slots := 0, locals := 0 } (PcE D cI cC cZ cS [.ref (a 0)] (wMt cI cC cZ cS a f tx tc)) (QcR (some (.int (d_X6_isWell f)))) 0 0 (fun _ => False) := by
  refine Met.ofW (cc := cX6_isWell) (maxL := 1) (ret := (some .boolean)) (by decide) rfl ?_
  intro p e s m args below meth c s₁ B hml hv
  obtain ⟨rfl, hP, hD, hE⟩ := hv
  have hK := hE.1
  have hx := B.exec
  have hb := B.bytes
  have hr := B.returns
  have hts := atoms_spec (ws := wsX6_isWell) B.pre
  have hown : s.vm.findClass RX6 = some m.cls := findClass_of_methodNamed B.named
  have hlocks := B.notSynchronized
  have hinX6 : ∀ w ∈ wsX60, w ∈ wsX6_isWell := by decide +kernel
  refine opq (d_X6_isWell f) (fun R hres => ?_)
  rw [hres]
  replace hres := hres.symm
  rw [d_X6_isWell] at hres
  have hl := lv_entry ([.ref (a 0)]) (n := 1) (Nat.le_of_ble_eq_true rfl)
  rw [lg_entry_eq]
  generalize (lg_sl ([.ref (a 0)]) ++ List.replicate (1 - (lg_sl ([.ref (a 0)])).length) Slot.unset).toArray = ls at hl ⊢
  have hl : lv_has ls 1 [(0, .ref (a 0))] := hl
  refine lv_aload_n hx hb dX6_isWell_0 rfl (lv_at hl 0 rfl) ?_
  refine va_get (D := D) (ci := 6) (v := .int (f 8)) (C := RX6) (T := TX6) (N := 26) hx hb hts hinX6 hown hK hP 0 rfl rfl 8 (by decide) (hts (.fieldLink RX6 80 "FirstOutModel" "fault" "I") (by decide +kernel)) (fun _ h9 => h9) rfl dX6_isWell_1 ?_
  refine lv_if_ge (tgt := 11) hx hb dX6_isWell_4 (by decide) (fun c_1 => ?_) (fun c_1 => ?_)
  · skip
    rw [if_pos c_1] at hres
    refine lv_iconst (v := 0) hx hb dX6_isWell_11 (by decide) ?_
    rw [hres]
    exact W.zret (v := 0) hx hb hr rfl (fun t ht hW => ⟨rfl, ht⟩) (fun _ h => by cases h) dX6_isWell_12
  · skip
    rw [if_neg c_1] at hres
    refine lv_iconst (v := 1) hx hb dX6_isWell_7 (by decide) ?_
    refine lv_goto (tgt := 12) hx hb dX6_isWell_8 (by decide) ?_
    rw [hres]
    exact W.zret (v := 1) hx hb hr rfl (fun t ht hW => ⟨rfl, ht⟩) (fun _ h => by cases h) dX6_isWell_12
def d_X6_isThing (t : Int32) (n : Nat) : Int32 :=
  d_X6_in t 0 ((nI n) - (1 : Int32))
set_option maxHeartbeats 4000000 in
set_option maxRecDepth 100000 in
theorem c_X6_isThing (l : Launch) (D : va_G) (cI cC cZ cS : ClassId) (a : Nat → Nat) (f : Nat → Int32) (mn : Nat → Int32) (tr : Nat → Int32) (de : Nat → Int32) (ea : Nat → Int32) (tc : Int64) (t : Int32) (n : Nat) (hn : mn 0 = nI n) (h7 : n ≤ 7) : Met l yX6_isThing wsX6_isThing { frames := 1, cells := 0, slots := 0, locals := 22 } (PcE D cI cC cZ cS [.ref (a 0), .int t] (w5 cI cC cZ cS a f mn tr de ea tc)) (QcR (some (.int (d_X6_isThing t n)))) 0 0 (fun _ => False) := by
  refine Met.ofW (cc := cX6_isThing) (maxL := 2) (ret := (some .boolean)) (by decide) rfl ?_
  intro p e s m args below meth c s₁ B hml hv
  obtain ⟨rfl, hP, hD, hE⟩ := hv
  have hK := hE.1
  have hx := B.exec
  have hb := B.bytes
  have hr := B.returns
  have hts := atoms_spec (ws := wsX6_isThing) B.pre
  have hown : s.vm.findClass RX6 = some m.cls := findClass_of_methodNamed B.named
  have hlocks := B.notSynchronized
  have hinX6 : ∀ w ∈ wsX60, w ∈ wsX6_isThing := by decide +kernel
  refine opq (d_X6_isThing t n) (fun R hres => ?_)
  rw [hres]
  replace hres := hres.symm
  rw [d_X6_isThing] at hres
  have hl := lv_entry ([.ref (a 0), .int t]) (n := 2) (Nat.le_of_ble_eq_true rfl)
  rw [lg_entry_eq]
  generalize (lg_sl ([.ref (a 0), .int t]) ++ List.replicate (2 - (lg_sl ([.ref (a 0), .int t])).length) Slot.unset).toArray = ls at hl ⊢
  have hl : lv_has ls 2 [(0, .ref (a 0)), (1, .int t)] := hl
  refine lv_iload_n hx hb dX6_isThing_0 rfl (lv_at hl 1 rfl) ?_
  refine lv_iconst (v := 0) hx hb dX6_isThing_1 (by decide) ?_
  refine lv_aload_n hx hb dX6_isThing_2 rfl (lv_at hl 0 rfl) ?_
  refine va_get (D := D) (ci := 6) (v := .ref (a 2)) (C := RX6) (T := TX6) (N := 26) hx hb hts hinX6 hown hK hP 0 rfl rfl 9 (by decide) (hts (.fieldLink RX6 13 "FirstOutModel" "many" "[I") (by decide +kernel)) (fun _ h9 => h9) rfl dX6_isThing_3 ?_
  refine lv_iconst (v := 0) hx hb dX6_isThing_6 (by decide) ?_
  refine m_iald hx hb hK hP 1 0 rfl rfl 0 rfl (by decide) (by decide) dX6_isThing_7 ?_
  refine lv_to (show _ = (mn 0) from rfl) ?_
  refine lv_to (show (mn 0) = nI n from hn) ?_
  refine lv_iconst (v := 1) hx hb dX6_isThing_8 (by decide) ?_
  refine lv_isub hx hb dX6_isThing_9 ?_
  have hPc := hP.sub (ws' := []) [] rfl
  have hDc := hD.sub (ws' := []) [] (by decide) rfl
  refine m_callR (W.runS (As := [.int t, .int 0, .int ((nI n) - (1 : Int32))]) (rest := []) ⟨hx, hb, hml, hown, hts⟩ (c_X6_in l D cI cC cZ cS t 0 ((nI n) - (1 : Int32))) (va_cwS 3 hts gX6_isThing_X6_in rfl rfl rfl (by decide +kernel) ⟨Nat.le_of_ble_eq_true rfl, Nat.le_of_ble_eq_true rfl⟩) (preS_of hPc hDc hE) rfl rfl hl.1 rfl (lv_room (Nat.le_of_ble_eq_true rfl)) dX6_isThing_10 ⟨Nat.zero_le _, Nat.zero_le _⟩) ?_
  refine W.eq (g2 := F0 m 13 ls [.int (d_X6_in t 0 ((nI n) - (1 : Int32)))]) rfl ?_
  rw [hres]
  exact W.zret (v := d_X6_in t 0 ((nI n) - (1 : Int32))) hx hb hr in_nar (fun t ht hW => ⟨rfl, ht⟩) (fun _ h => by cases h) dX6_isThing_13
def d_X6_everything (n : Nat) : Int32 :=
  ((1 : Int32) <<< ((nI n) &&& 31)) - (1 : Int32)
set_option maxHeartbeats 4000000 in
set_option maxRecDepth 100000 in
theorem c_X6_everything (l : Launch) (D : va_G) (cI cC cZ cS : ClassId) (a : Nat → Nat) (f : Nat → Int32) (mn : Nat → Int32) (tr : Nat → Int32) (de : Nat → Int32) (ea : Nat → Int32) (tc : Int64) (n : Nat) (hn : mn 0 = nI n) (h7 : n ≤ 7) : Met l yX6_everything wsX6_everything { frames := 0, cells := 0, slots := 0, locals := 0 } (PcE D cI cC cZ cS [.ref (a 0)] (w5 cI cC cZ cS a f mn tr de ea tc)) (QcR (some (.int (d_X6_everything n)))) 0 0 (fun _ => False) := by
  refine Met.ofW (cc := cX6_everything) (maxL := 1) (ret := (some .int)) (by decide) rfl ?_
  intro p e s m args below meth c s₁ B hml hv
  obtain ⟨rfl, hP, hD, hE⟩ := hv
  have hK := hE.1
  have hx := B.exec
  have hb := B.bytes
  have hr := B.returns
  have hts := atoms_spec (ws := wsX6_everything) B.pre
  have hown : s.vm.findClass RX6 = some m.cls := findClass_of_methodNamed B.named
  have hlocks := B.notSynchronized
  have hinX6 : ∀ w ∈ wsX60, w ∈ wsX6_everything := by decide +kernel
  refine opq (d_X6_everything n) (fun R hres => ?_)
  rw [hres]
  replace hres := hres.symm
  rw [d_X6_everything] at hres
  have hl := lv_entry ([.ref (a 0)]) (n := 1) (Nat.le_of_ble_eq_true rfl)
  rw [lg_entry_eq]
  generalize (lg_sl ([.ref (a 0)]) ++ List.replicate (1 - (lg_sl ([.ref (a 0)])).length) Slot.unset).toArray = ls at hl ⊢
  have hl : lv_has ls 1 [(0, .ref (a 0))] := hl
  refine lv_iconst (v := 1) hx hb dX6_everything_0 (by decide) ?_
  refine lv_aload_n hx hb dX6_everything_1 rfl (lv_at hl 0 rfl) ?_
  refine va_get (D := D) (ci := 6) (v := .ref (a 2)) (C := RX6) (T := TX6) (N := 26) hx hb hts hinX6 hown hK hP 0 rfl rfl 9 (by decide) (hts (.fieldLink RX6 13 "FirstOutModel" "many" "[I") (by decide +kernel)) (fun _ h9 => h9) rfl dX6_everything_2 ?_
  refine lv_iconst (v := 0) hx hb dX6_everything_5 (by decide) ?_
  refine m_iald hx hb hK hP 1 0 rfl rfl 0 rfl (by decide) (by decide) dX6_everything_6 ?_
  refine lv_to (show _ = (mn 0) from rfl) ?_
  refine lv_to (show (mn 0) = nI n from hn) ?_
  refine lv_ishl hx hb dX6_everything_7 ?_
  refine lv_iconst (v := 1) hx hb dX6_everything_8 (by decide) ?_
  refine lv_isub hx hb dX6_everything_9 ?_
  rw [hres]
  exact W.iret (v := ((1 : Int32) <<< ((nI n) &&& 31)) - (1 : Int32)) hx hb hr (fun t ht hW => ⟨rfl, ht⟩) (fun _ h => by cases h) dX6_everything_10
def d_X6_hasAll (tr : Nat → Int32) (words : Int32) (j : Nat) : Int32 :=
  if ((tr j) &&& words) = words then
      1
    else
      0
set_option maxHeartbeats 4000000 in
set_option maxRecDepth 100000 in
theorem c_X6_hasAll (l : Launch) (D : va_G) (cI cC cZ cS : ClassId) (a : Nat → Nat) (f : Nat → Int32) (mn : Nat → Int32) (tr : Nat → Int32) (de : Nat → Int32) (ea : Nat → Int32) (tc : Int64) (t : Int32) (words : Int32) (j : Nat) (hj : t = nI j) (hj14 : j < 14) : Met l yX6_hasAll wsX6_hasAll { frames := 0, cells := 0, slots := 0, locals := 0 } (PcE D cI cC cZ cS [.ref (a 0), .int t, .int words] (w5 cI cC cZ cS a f mn tr de ea tc)) (QcR (some (.int (d_X6_hasAll tr words j)))) 0 0 (fun _ => False) := by
  refine Met.ofW (cc := cX6_hasAll) (maxL := 3) (ret := (some .boolean)) (by decide) rfl ?_
  intro p e s m args below meth c s₁ B hml hv
  obtain ⟨rfl, hP, hD, hE⟩ := hv
  have hK := hE.1
  have hx := B.exec
  have hb := B.bytes
  have hr := B.returns
  have hts := atoms_spec (ws := wsX6_hasAll) B.pre
  have hown : s.vm.findClass RX6 = some m.cls := findClass_of_methodNamed B.named
  have hlocks := B.notSynchronized
  have hinX6 : ∀ w ∈ wsX60, w ∈ wsX6_hasAll := by decide +kernel
  refine opq (d_X6_hasAll tr words j) (fun R hres => ?_)
  rw [hres]
  replace hres := hres.symm
  rw [d_X6_hasAll] at hres
  have hl := lv_entry ([.ref (a 0), .int t, .int words]) (n := 3) (Nat.le_of_ble_eq_true rfl)
  rw [lg_entry_eq]
  generalize (lg_sl ([.ref (a 0), .int t, .int words]) ++ List.replicate (3 - (lg_sl ([.ref (a 0), .int t, .int words])).length) Slot.unset).toArray = ls at hl ⊢
  have hl : lv_has ls 3 [(0, .ref (a 0)), (1, .int t), (2, .int words)] := hl
  refine lv_aload_n hx hb dX6_hasAll_0 rfl (lv_at hl 0 rfl) ?_
  refine va_get (D := D) (ci := 6) (v := .ref (a 3)) (C := RX6) (T := TX6) (N := 26) hx hb hts hinX6 hown hK hP 0 rfl rfl 11 (by decide) (hts (.fieldLink RX6 16 "FirstOutModel" "traits" "[I") (by decide +kernel)) (fun _ h9 => h9) rfl dX6_hasAll_1 ?_
  refine lv_iload_n hx hb dX6_hasAll_4 rfl (lv_at hl 1 rfl) ?_
  refine m_iald hx hb hK hP 2 0 rfl rfl j hj hj14 (by decide) dX6_hasAll_5 ?_
  refine lv_to (show _ = (tr j) from rfl) ?_
  refine lv_iload_n hx hb dX6_hasAll_6 rfl (lv_at hl 2 rfl) ?_
  refine lv_iand hx hb dX6_hasAll_7 ?_
  refine lv_iload_n hx hb dX6_hasAll_8 rfl (lv_at hl 2 rfl) ?_
  refine lv_icmp_ne (tgt := 16) hx hb dX6_hasAll_9 (by decide) (fun c_1 => ?_) (fun c_1 => ?_)
  · skip
    rw [if_neg c_1] at hres
    refine lv_iconst (v := 0) hx hb dX6_hasAll_16 (by decide) ?_
    rw [hres]
    exact W.zret (v := 0) hx hb hr rfl (fun t ht hW => ⟨rfl, ht⟩) (fun _ h => by cases h) dX6_hasAll_17
  · skip
    rw [if_pos c_1] at hres
    refine lv_iconst (v := 1) hx hb dX6_hasAll_12 (by decide) ?_
    refine lv_goto (tgt := 17) hx hb dX6_hasAll_13 (by decide) ?_
    rw [hres]
    exact W.zret (v := 1) hx hb hr rfl (fun t ht hW => ⟨rfl, ht⟩) (fun _ h => by cases h) dX6_hasAll_17
def lp_X6_covered_4 (tr : Nat → Int32) (g : Nat → Int32) (n : Nat) : Nat → Nat → Int32 → Int32
  | 0, _, _ => 0
  | k4 + 1, i, acc => if (nI n) ≤ (nI i) then
      acc &&& ((g 4) ^^^ (-1 : Int32))
    else
      if (d_X6_hasAll tr (g 1) i) = 0 then
        lp_X6_covered_4 tr g n k4 (i + 1) (acc ||| (0 : Int32))
      else
        lp_X6_covered_4 tr g n k4 (i + 1) (acc ||| ((1 : Int32) <<< ((nI i) &&& 31)))
def d_X6_covered (tr : Nat → Int32) (g : Nat → Int32) (n : Nat) : Int32 :=
  lp_X6_covered_4 tr g n (n + 1) 0 0
set_option maxHeartbeats 4000000 in
set_option maxRecDepth 100000 in
theorem c_X6_covered (l : Launch) (D : va_G) (cI cC cZ cS : ClassId) (a : Nat → Nat) (f : Nat → Int32) (mn : Nat → Int32) (tr : Nat → Int32) (de : Nat → Int32) (ea : Nat → Int32) (rA : Nat) (g : Nat → Int32) (tc : Int64) (n : Nat) (hn : mn 0 = nI n) (h7 : n ≤ 7) : Met l yX6_covered wsX6_covered { frames := 1, cells := 0, slots := 0, locals := 22 } (PcE D cI cC cZ cS [.ref (a 0), .ref rA] (w5r cI cC cZ cS a f mn tr de ea rA g tc)) (QcR (some (.int (d_X6_covered tr g n)))) 0 0 (fun _ => False) := by
  refine Met.ofW (cc := cX6_covered) (maxL := 4) (ret := (some .int)) (by decide) rfl ?_
  intro p e s m args below meth c s₁ B hml hv
  obtain ⟨rfl, hP, hD, hE⟩ := hv
  have hK := hE.1
  have hx := B.exec
  have hb := B.bytes
  have hr := B.returns
  have hts := atoms_spec (ws := wsX6_covered) B.pre
  have hown : s.vm.findClass RX6 = some m.cls := findClass_of_methodNamed B.named
  have hlocks := B.notSynchronized
  have hinX6 : ∀ w ∈ wsX60, w ∈ wsX6_covered := by decide +kernel
  refine opq (d_X6_covered tr g n) (fun R hres => ?_)
  rw [hres]
  replace hres := hres.symm
  rw [d_X6_covered] at hres
  have hl := lv_entry ([.ref (a 0), .ref rA]) (n := 4) (Nat.le_of_ble_eq_true rfl)
  rw [lg_entry_eq]
  generalize (lg_sl ([.ref (a 0), .ref rA]) ++ List.replicate (4 - (lg_sl ([.ref (a 0), .ref rA])).length) Slot.unset).toArray = ls at hl ⊢
  have hl : lv_has ls 4 [(0, .ref (a 0)), (1, .ref rA)] := hl
  refine lv_iconst (v := 0) hx hb dX6_covered_0 (by decide) ?_
  refine lv_istore_n (lv' := [(2, .int 0), (0, .ref (a 0)), (1, .ref rA)]) hx hb dX6_covered_1 rfl hl (by decide) rfl (fun ls hl => ?_)
  refine lv_iconst (v := 0) hx hb dX6_covered_2 (by decide) ?_
  refine lv_istore_n (lv' := [(3, .int 0), (2, .int 0), (0, .ref (a 0)), (1, .ref rA)]) hx hb dX6_covered_3 rfl hl (by decide) rfl (fun ls hl => ?_)
  have loop4 : ∀ (k4 : Nat) (i : Nat) (acc : Int32), n - i < k4 → i ≤ n → R = lp_X6_covered_4 tr g n k4 i acc → ∀ ls : Array Slot, lv_has ls 4 [(0, .ref (a 0)), (1, .ref rA), (2, .int acc), (3, .int (nI i))] → W p l e (headSpec wsX6_covered { frames := 1, cells := 0, slots := 0, locals := 22 }).room s m (([.ref (a 0), .ref rA] : List Value).toArray) below meth c s.heap [] 0 0 (MQ below (QcR (some (.int R))) (([.ref (a 0), .ref rA] : List Value).toArray) s 0 0 (fun _ => False)) (F0 m 4 ls []) := by
    intro k4
    induction k4 with
    | zero => intro i acc hk; exact absurd hk (Nat.not_lt_zero _)
    | succ k4 ih4 =>
      intro i acc hk4 hi hres ls hl
      rw [lp_X6_covered_4] at hres
      refine lv_iload_n hx hb dX6_covered_4 rfl (lv_at hl 3 rfl) ?_
      refine lv_aload_n hx hb dX6_covered_5 rfl (lv_at hl 0 rfl) ?_
      refine va_get (D := D) (ci := 6) (v := .ref (a 2)) (C := RX6) (T := TX6) (N := 26) hx hb hts hinX6 hown hK hP 0 rfl rfl 9 (by decide) (hts (.fieldLink RX6 13 "FirstOutModel" "many" "[I") (by decide +kernel)) (fun _ h9 => h9) rfl dX6_covered_6 ?_
      refine lv_iconst (v := 0) hx hb dX6_covered_9 (by decide) ?_
      refine m_iald hx hb hK hP 1 0 rfl rfl 0 rfl (by decide) (by decide) dX6_covered_10 ?_
      refine lv_to (show _ = (mn 0) from rfl) ?_
      refine lv_to (show (mn 0) = nI n from hn) ?_
      refine lv_icmp_ge (tgt := 41) hx hb dX6_covered_11 (by decide) (fun c_1 => ?_) (fun c_1 => ?_)
      · skip
        rw [if_pos c_1] at hres
        refine lv_iload_n hx hb dX6_covered_41 rfl (lv_at hl 2 rfl) ?_
        refine lv_aload_n hx hb dX6_covered_42 rfl (lv_at hl 1 rfl) ?_
        refine lv_iconst (v := 4) hx hb dX6_covered_43 (by decide) ?_
        refine m_iald hx hb hK hP 5 0 rfl rfl 4 rfl (by decide) (by decide) dX6_covered_44 ?_
        refine lv_to (show _ = (g 4) from rfl) ?_
        refine lv_iconst (v := (-1)) hx hb dX6_covered_45 (by decide) ?_
        refine lv_ixor hx hb dX6_covered_46 ?_
        refine lv_iand hx hb dX6_covered_47 ?_
        rw [hres]
        exact W.iret (v := acc &&& ((g 4) ^^^ (-1 : Int32))) hx hb hr (fun t ht hW => ⟨rfl, ht⟩) (fun _ h => by cases h) dX6_covered_48
      · skip
        rw [if_neg c_1] at hres
        have hlt : i < n := nlt_of c_1 (by omega) (by omega)
        refine lv_iload_n hx hb dX6_covered_14 rfl (lv_at hl 2 rfl) ?_
        refine lv_aload_n hx hb dX6_covered_15 rfl (lv_at hl 0 rfl) ?_
        refine lv_iload_n hx hb dX6_covered_16 rfl (lv_at hl 3 rfl) ?_
        refine lv_aload_n hx hb dX6_covered_17 rfl (lv_at hl 1 rfl) ?_
        refine lv_iconst (v := 1) hx hb dX6_covered_18 (by decide) ?_
        refine m_iald hx hb hK hP 5 0 rfl rfl 1 rfl (by decide) (by decide) dX6_covered_19 ?_
        refine lv_to (show _ = (g 1) from rfl) ?_
        have hPc := hP.sub (ws' := (w5 cI cC cZ cS a f mn tr de ea tc)) [0, 1, 2, 3, 4] rfl
        have hDc := hD.sub (ws' := (w5 cI cC cZ cS a f mn tr de ea tc)) [0, 1, 2, 3, 4] (by decide) rfl
        refine m_callR (W.runV (As := [.int (nI i), .int (g 1)]) (rest := [.int acc]) ⟨hx, hb, hml, hown, hts⟩ (c_X6_hasAll l D cI cC cZ cS a f mn tr de ea tc (nI i) (g 1) i rfl (by omega)) (cwV 2 hts gX6_covered_X6_hasAll rfl rfl rfl (by decide +kernel) ⟨Nat.le_of_ble_eq_true rfl, Nat.le_of_ble_eq_true rfl⟩) (preV_of hPc hDc hE (va_recv hK hPc (ci := 6) (q0 := 0) rfl rfl)) rfl rfl hl.1 rfl (lv_room (Nat.le_of_ble_eq_true rfl)) dX6_covered_20 ⟨Nat.zero_le _, Nat.zero_le _⟩) ?_
        refine W.eq (g2 := F0 m 23 ls [.int (d_X6_hasAll tr (g 1) i), .int acc]) rfl ?_
        refine lv_if_eq (tgt := 32) hx hb dX6_covered_23 (by decide) (fun c_2 => ?_) (fun c_2 => ?_)
        · skip
          rw [if_pos c_2] at hres
          refine lv_iconst (v := 0) hx hb dX6_covered_32 (by decide) ?_
          refine lv_ior hx hb dX6_covered_33 ?_
          refine lv_istore_n (lv' := [(2, .int (acc ||| (0 : Int32))), (0, .ref (a 0)), (1, .ref rA), (3, .int (nI i))]) hx hb dX6_covered_34 rfl hl (by decide) rfl (fun ls hl => ?_)
          refine lv_iinc (v := nI (i + 1)) (lv' := [(3, .int (nI (i + 1))), (2, .int (acc ||| (0 : Int32))), (0, .ref (a 0)), (1, .ref rA)]) hx hb dX6_covered_35 hl (k := 3) rfl ((nI_add i 1)) (by decide) rfl (fun ls hl => ?_)
          refine lv_goto (tgt := 4) hx hb dX6_covered_38 (by decide) ?_
          exact ih4 (i + 1) (acc ||| (0 : Int32)) (by omega) (by omega) hres ls (lv_sub hl [2, 3, 1, 0] rfl)
        · skip
          rw [if_neg c_2] at hres
          refine lv_iconst (v := 1) hx hb dX6_covered_26 (by decide) ?_
          refine lv_iload_n hx hb dX6_covered_27 rfl (lv_at hl 3 rfl) ?_
          refine lv_ishl hx hb dX6_covered_28 ?_
          refine lv_goto (tgt := 33) hx hb dX6_covered_29 (by decide) ?_
          refine lv_ior hx hb dX6_covered_33 ?_
          refine lv_istore_n (lv' := [(2, .int (acc ||| ((1 : Int32) <<< ((nI i) &&& 31)))), (0, .ref (a 0)), (1, .ref rA), (3, .int (nI i))]) hx hb dX6_covered_34 rfl hl (by decide) rfl (fun ls hl => ?_)
          refine lv_iinc (v := nI (i + 1)) (lv' := [(3, .int (nI (i + 1))), (2, .int (acc ||| ((1 : Int32) <<< ((nI i) &&& 31)))), (0, .ref (a 0)), (1, .ref rA)]) hx hb dX6_covered_35 hl (k := 3) rfl ((nI_add i 1)) (by decide) rfl (fun ls hl => ?_)
          refine lv_goto (tgt := 4) hx hb dX6_covered_38 (by decide) ?_
          exact ih4 (i + 1) (acc ||| ((1 : Int32) <<< ((nI i) &&& 31))) (by omega) (by omega) hres ls (lv_sub hl [2, 3, 1, 0] rfl)
  exact loop4 (n + 1) 0 0 (by omega) (Nat.zero_le _) hres ls (lv_sub hl [2, 3, 1, 0] rfl)
def lp_X6_comers_4 (tr : Nat → Int32) (ea : Nat → Int32) (g : Nat → Int32) (n : Nat) : Nat → Nat → Int32 → Int32
  | 0, _, _ => 0
  | k4 + 1, i, acc => if (nI n) ≤ (nI i) then
      ((acc &&& ((g 4) ^^^ (-1 : Int32))) &&& ((g 3) ^^^ (-1 : Int32))) &&& (((g 2) &&& (d_X6_covered tr g n)) ^^^ (-1 : Int32))
    else
      if (ea i) ≤ 0 then
        lp_X6_comers_4 tr ea g n k4 (i + 1) (acc ||| (0 : Int32))
      else
        lp_X6_comers_4 tr ea g n k4 (i + 1) (acc ||| ((1 : Int32) <<< ((nI i) &&& 31)))
def d_X6_comers (tr : Nat → Int32) (ea : Nat → Int32) (g : Nat → Int32) (n : Nat) : Int32 :=
  lp_X6_comers_4 tr ea g n (n + 1) 0 0
set_option maxHeartbeats 4000000 in
set_option maxRecDepth 100000 in
theorem c_X6_comers (l : Launch) (D : va_G) (cI cC cZ cS : ClassId) (a : Nat → Nat) (f : Nat → Int32) (mn : Nat → Int32) (tr : Nat → Int32) (de : Nat → Int32) (ea : Nat → Int32) (rA : Nat) (g : Nat → Int32) (tc : Int64) (n : Nat) (hn : mn 0 = nI n) (h7 : n ≤ 7) : Met l yX6_comers wsX6_comers { frames := 2, cells := 0, slots := 0, locals := 45 } (PcE D cI cC cZ cS [.ref (a 0), .ref rA] (w5r cI cC cZ cS a f mn tr de ea rA g tc)) (QcR (some (.int (d_X6_comers tr ea g n)))) 0 0 (fun _ => False) := by
  refine Met.ofW (cc := cX6_comers) (maxL := 4) (ret := (some .int)) (by decide) rfl ?_
  intro p e s m args below meth c s₁ B hml hv
  obtain ⟨rfl, hP, hD, hE⟩ := hv
  have hK := hE.1
  have hx := B.exec
  have hb := B.bytes
  have hr := B.returns
  have hts := atoms_spec (ws := wsX6_comers) B.pre
  have hown : s.vm.findClass RX6 = some m.cls := findClass_of_methodNamed B.named
  have hlocks := B.notSynchronized
  have hinX6 : ∀ w ∈ wsX60, w ∈ wsX6_comers := by decide +kernel
  refine opq (d_X6_comers tr ea g n) (fun R hres => ?_)
  rw [hres]
  replace hres := hres.symm
  rw [d_X6_comers] at hres
  have hl := lv_entry ([.ref (a 0), .ref rA]) (n := 4) (Nat.le_of_ble_eq_true rfl)
  rw [lg_entry_eq]
  generalize (lg_sl ([.ref (a 0), .ref rA]) ++ List.replicate (4 - (lg_sl ([.ref (a 0), .ref rA])).length) Slot.unset).toArray = ls at hl ⊢
  have hl : lv_has ls 4 [(0, .ref (a 0)), (1, .ref rA)] := hl
  refine lv_iconst (v := 0) hx hb dX6_comers_0 (by decide) ?_
  refine lv_istore_n (lv' := [(2, .int 0), (0, .ref (a 0)), (1, .ref rA)]) hx hb dX6_comers_1 rfl hl (by decide) rfl (fun ls hl => ?_)
  refine lv_iconst (v := 0) hx hb dX6_comers_2 (by decide) ?_
  refine lv_istore_n (lv' := [(3, .int 0), (2, .int 0), (0, .ref (a 0)), (1, .ref rA)]) hx hb dX6_comers_3 rfl hl (by decide) rfl (fun ls hl => ?_)
  have loop4 : ∀ (k4 : Nat) (i : Nat) (acc : Int32), n - i < k4 → i ≤ n → R = lp_X6_comers_4 tr ea g n k4 i acc → ∀ ls : Array Slot, lv_has ls 4 [(0, .ref (a 0)), (1, .ref rA), (2, .int acc), (3, .int (nI i))] → W p l e (headSpec wsX6_comers { frames := 2, cells := 0, slots := 0, locals := 45 }).room s m (([.ref (a 0), .ref rA] : List Value).toArray) below meth c s.heap [] 0 0 (MQ below (QcR (some (.int R))) (([.ref (a 0), .ref rA] : List Value).toArray) s 0 0 (fun _ => False)) (F0 m 4 ls []) := by
    intro k4
    induction k4 with
    | zero => intro i acc hk; exact absurd hk (Nat.not_lt_zero _)
    | succ k4 ih4 =>
      intro i acc hk4 hi hres ls hl
      rw [lp_X6_comers_4] at hres
      refine lv_iload_n hx hb dX6_comers_4 rfl (lv_at hl 3 rfl) ?_
      refine lv_aload_n hx hb dX6_comers_5 rfl (lv_at hl 0 rfl) ?_
      refine va_get (D := D) (ci := 6) (v := .ref (a 2)) (C := RX6) (T := TX6) (N := 26) hx hb hts hinX6 hown hK hP 0 rfl rfl 9 (by decide) (hts (.fieldLink RX6 13 "FirstOutModel" "many" "[I") (by decide +kernel)) (fun _ h9 => h9) rfl dX6_comers_6 ?_
      refine lv_iconst (v := 0) hx hb dX6_comers_9 (by decide) ?_
      refine m_iald hx hb hK hP 1 0 rfl rfl 0 rfl (by decide) (by decide) dX6_comers_10 ?_
      refine lv_to (show _ = (mn 0) from rfl) ?_
      refine lv_to (show (mn 0) = nI n from hn) ?_
      refine lv_icmp_ge (tgt := 39) hx hb dX6_comers_11 (by decide) (fun c_1 => ?_) (fun c_1 => ?_)
      · skip
        rw [if_pos c_1] at hres
        refine lv_iload_n hx hb dX6_comers_39 rfl (lv_at hl 2 rfl) ?_
        refine lv_aload_n hx hb dX6_comers_40 rfl (lv_at hl 1 rfl) ?_
        refine lv_iconst (v := 4) hx hb dX6_comers_41 (by decide) ?_
        refine m_iald hx hb hK hP 5 0 rfl rfl 4 rfl (by decide) (by decide) dX6_comers_42 ?_
        refine lv_to (show _ = (g 4) from rfl) ?_
        refine lv_iconst (v := (-1)) hx hb dX6_comers_43 (by decide) ?_
        refine lv_ixor hx hb dX6_comers_44 ?_
        refine lv_iand hx hb dX6_comers_45 ?_
        refine lv_aload_n hx hb dX6_comers_46 rfl (lv_at hl 1 rfl) ?_
        refine lv_iconst (v := 3) hx hb dX6_comers_47 (by decide) ?_
        refine m_iald hx hb hK hP 5 0 rfl rfl 3 rfl (by decide) (by decide) dX6_comers_48 ?_
        refine lv_to (show _ = (g 3) from rfl) ?_
        refine lv_iconst (v := (-1)) hx hb dX6_comers_49 (by decide) ?_
        refine lv_ixor hx hb dX6_comers_50 ?_
        refine lv_iand hx hb dX6_comers_51 ?_
        refine lv_aload_n hx hb dX6_comers_52 rfl (lv_at hl 1 rfl) ?_
        refine lv_iconst (v := 2) hx hb dX6_comers_53 (by decide) ?_
        refine m_iald hx hb hK hP 5 0 rfl rfl 2 rfl (by decide) (by decide) dX6_comers_54 ?_
        refine lv_to (show _ = (g 2) from rfl) ?_
        refine lv_aload_n hx hb dX6_comers_55 rfl (lv_at hl 0 rfl) ?_
        refine lv_aload_n hx hb dX6_comers_56 rfl (lv_at hl 1 rfl) ?_
        have hPc := hP.sub (ws' := (w5r cI cC cZ cS a f mn tr de ea rA g tc)) [0, 1, 2, 3, 4, 5] rfl
        have hDc := hD.sub (ws' := (w5r cI cC cZ cS a f mn tr de ea rA g tc)) [0, 1, 2, 3, 4, 5] (by decide) rfl
        refine m_callR (W.runV (As := [.ref rA]) (rest := [.int (g 2), .int ((acc &&& ((g 4) ^^^ (-1 : Int32))) &&& ((g 3) ^^^ (-1 : Int32)))]) ⟨hx, hb, hml, hown, hts⟩ (c_X6_covered l D cI cC cZ cS a f mn tr de ea rA g tc n hn h7) (cwV 1 hts gX6_comers_X6_covered rfl rfl rfl (by decide +kernel) ⟨Nat.le_of_ble_eq_true rfl, Nat.le_of_ble_eq_true rfl⟩) (preV_of hPc hDc hE (va_recv hK hPc (ci := 6) (q0 := 0) rfl rfl)) rfl rfl hl.1 rfl (lv_room (Nat.le_of_ble_eq_true rfl)) dX6_comers_57 ⟨Nat.zero_le _, Nat.zero_le _⟩) ?_
        refine W.eq (g2 := F0 m 60 ls [.int (d_X6_covered tr g n), .int (g 2), .int ((acc &&& ((g 4) ^^^ (-1 : Int32))) &&& ((g 3) ^^^ (-1 : Int32)))]) rfl ?_
        refine lv_iand hx hb dX6_comers_60 ?_
        refine lv_iconst (v := (-1)) hx hb dX6_comers_61 (by decide) ?_
        refine lv_ixor hx hb dX6_comers_62 ?_
        refine lv_iand hx hb dX6_comers_63 ?_
        rw [hres]
        exact W.iret (v := ((acc &&& ((g 4) ^^^ (-1 : Int32))) &&& ((g 3) ^^^ (-1 : Int32))) &&& (((g 2) &&& (d_X6_covered tr g n)) ^^^ (-1 : Int32))) hx hb hr (fun t ht hW => ⟨rfl, ht⟩) (fun _ h => by cases h) dX6_comers_64
      · skip
        rw [if_neg c_1] at hres
        have hlt : i < n := nlt_of c_1 (by omega) (by omega)
        refine lv_iload_n hx hb dX6_comers_14 rfl (lv_at hl 2 rfl) ?_
        refine lv_aload_n hx hb dX6_comers_15 rfl (lv_at hl 0 rfl) ?_
        refine va_get (D := D) (ci := 6) (v := .ref (a 5)) (C := RX6) (T := TX6) (N := 26) hx hb hts hinX6 hown hK hP 0 rfl rfl 13 (by decide) (hts (.fieldLink RX6 22 "FirstOutModel" "eager" "[I") (by decide +kernel)) (fun _ h9 => h9) rfl dX6_comers_16 ?_
        refine lv_iload_n hx hb dX6_comers_19 rfl (lv_at hl 3 rfl) ?_
        refine m_iald hx hb hK hP 4 0 rfl rfl i rfl (by omega) (by decide) dX6_comers_20 ?_
        refine lv_to (show _ = (ea i) from rfl) ?_
        refine lv_if_le (tgt := 30) hx hb dX6_comers_21 (by decide) (fun c_2 => ?_) (fun c_2 => ?_)
        · skip
          rw [if_pos c_2] at hres
          refine lv_iconst (v := 0) hx hb dX6_comers_30 (by decide) ?_
          refine lv_ior hx hb dX6_comers_31 ?_
          refine lv_istore_n (lv' := [(2, .int (acc ||| (0 : Int32))), (0, .ref (a 0)), (1, .ref rA), (3, .int (nI i))]) hx hb dX6_comers_32 rfl hl (by decide) rfl (fun ls hl => ?_)
          refine lv_iinc (v := nI (i + 1)) (lv' := [(3, .int (nI (i + 1))), (2, .int (acc ||| (0 : Int32))), (0, .ref (a 0)), (1, .ref rA)]) hx hb dX6_comers_33 hl (k := 3) rfl ((nI_add i 1)) (by decide) rfl (fun ls hl => ?_)
          refine lv_goto (tgt := 4) hx hb dX6_comers_36 (by decide) ?_
          exact ih4 (i + 1) (acc ||| (0 : Int32)) (by omega) (by omega) hres ls (lv_sub hl [2, 3, 1, 0] rfl)
        · skip
          rw [if_neg c_2] at hres
          refine lv_iconst (v := 1) hx hb dX6_comers_24 (by decide) ?_
          refine lv_iload_n hx hb dX6_comers_25 rfl (lv_at hl 3 rfl) ?_
          refine lv_ishl hx hb dX6_comers_26 ?_
          refine lv_goto (tgt := 31) hx hb dX6_comers_27 (by decide) ?_
          refine lv_ior hx hb dX6_comers_31 ?_
          refine lv_istore_n (lv' := [(2, .int (acc ||| ((1 : Int32) <<< ((nI i) &&& 31)))), (0, .ref (a 0)), (1, .ref rA), (3, .int (nI i))]) hx hb dX6_comers_32 rfl hl (by decide) rfl (fun ls hl => ?_)
          refine lv_iinc (v := nI (i + 1)) (lv' := [(3, .int (nI (i + 1))), (2, .int (acc ||| ((1 : Int32) <<< ((nI i) &&& 31)))), (0, .ref (a 0)), (1, .ref rA)]) hx hb dX6_comers_33 hl (k := 3) rfl ((nI_add i 1)) (by decide) rfl (fun ls hl => ?_)
          refine lv_goto (tgt := 4) hx hb dX6_comers_36 (by decide) ?_
          exact ih4 (i + 1) (acc ||| ((1 : Int32) <<< ((nI i) &&& 31))) (by omega) (by omega) hres ls (lv_sub hl [2, 3, 1, 0] rfl)
  exact loop4 (n + 1) 0 0 (by omega) (Nat.zero_le _) hres ls (lv_sub hl [2, 3, 1, 0] rfl)
def lp_X6_eagerOf_4 (ea : Nat → Int32) (set : Int32) (n : Nat) : Nat → Nat → Int32 → Int32
  | 0, _, _ => 0
  | k4 + 1, i, acc => if (nI n) ≤ (nI i) then
      acc
    else
      if ((set >>> ((nI i) &&& 31)) &&& (1 : Int32)) = (1 : Int32) then
        lp_X6_eagerOf_4 ea set n k4 (i + 1) (acc + (ea i))
      else
        lp_X6_eagerOf_4 ea set n k4 (i + 1) (acc + (0 : Int32))
def d_X6_eagerOf (ea : Nat → Int32) (set : Int32) (n : Nat) : Int32 :=
  lp_X6_eagerOf_4 ea set n (n + 1) 0 0
set_option maxHeartbeats 4000000 in
set_option maxRecDepth 100000 in
theorem c_X6_eagerOf (l : Launch) (D : va_G) (cI cC cZ cS : ClassId) (a : Nat → Nat) (f : Nat → Int32) (mn : Nat → Int32) (tr : Nat → Int32) (de : Nat → Int32) (ea : Nat → Int32) (tc : Int64) (set : Int32) (n : Nat) (hn : mn 0 = nI n) (h7 : n ≤ 7) : Met l yX6_eagerOf wsX6_eagerOf { frames := 0, cells := 0, slots := 0, locals := 0 } (PcE D cI cC cZ cS [.ref (a 0), .int set] (w5 cI cC cZ cS a f mn tr de ea tc)) (QcR (some (.int (d_X6_eagerOf ea set n)))) 0 0 (fun _ => False) := by
  refine Met.ofW (cc := cX6_eagerOf) (maxL := 4) (ret := (some .int)) (by decide) rfl ?_
  intro p e s m args below meth c s₁ B hml hv
  obtain ⟨rfl, hP, hD, hE⟩ := hv
  have hK := hE.1
  have hx := B.exec
  have hb := B.bytes
  have hr := B.returns
  have hts := atoms_spec (ws := wsX6_eagerOf) B.pre
  have hown : s.vm.findClass RX6 = some m.cls := findClass_of_methodNamed B.named
  have hlocks := B.notSynchronized
  have hinX6 : ∀ w ∈ wsX60, w ∈ wsX6_eagerOf := by decide +kernel
  refine opq (d_X6_eagerOf ea set n) (fun R hres => ?_)
  rw [hres]
  replace hres := hres.symm
  rw [d_X6_eagerOf] at hres
  have hl := lv_entry ([.ref (a 0), .int set]) (n := 4) (Nat.le_of_ble_eq_true rfl)
  rw [lg_entry_eq]
  generalize (lg_sl ([.ref (a 0), .int set]) ++ List.replicate (4 - (lg_sl ([.ref (a 0), .int set])).length) Slot.unset).toArray = ls at hl ⊢
  have hl : lv_has ls 4 [(0, .ref (a 0)), (1, .int set)] := hl
  refine lv_iconst (v := 0) hx hb dX6_eagerOf_0 (by decide) ?_
  refine lv_istore_n (lv' := [(2, .int 0), (0, .ref (a 0)), (1, .int set)]) hx hb dX6_eagerOf_1 rfl hl (by decide) rfl (fun ls hl => ?_)
  refine lv_iconst (v := 0) hx hb dX6_eagerOf_2 (by decide) ?_
  refine lv_istore_n (lv' := [(3, .int 0), (2, .int 0), (0, .ref (a 0)), (1, .int set)]) hx hb dX6_eagerOf_3 rfl hl (by decide) rfl (fun ls hl => ?_)
  have loop4 : ∀ (k4 : Nat) (i : Nat) (acc : Int32), n - i < k4 → i ≤ n → R = lp_X6_eagerOf_4 ea set n k4 i acc → ∀ ls : Array Slot, lv_has ls 4 [(0, .ref (a 0)), (1, .int set), (2, .int acc), (3, .int (nI i))] → W p l e (headSpec wsX6_eagerOf { frames := 0, cells := 0, slots := 0, locals := 0 }).room s m (([.ref (a 0), .int set] : List Value).toArray) below meth c s.heap [] 0 0 (MQ below (QcR (some (.int R))) (([.ref (a 0), .int set] : List Value).toArray) s 0 0 (fun _ => False)) (F0 m 4 ls []) := by
    intro k4
    induction k4 with
    | zero => intro i acc hk; exact absurd hk (Nat.not_lt_zero _)
    | succ k4 ih4 =>
      intro i acc hk4 hi hres ls hl
      rw [lp_X6_eagerOf_4] at hres
      refine lv_iload_n hx hb dX6_eagerOf_4 rfl (lv_at hl 3 rfl) ?_
      refine lv_aload_n hx hb dX6_eagerOf_5 rfl (lv_at hl 0 rfl) ?_
      refine va_get (D := D) (ci := 6) (v := .ref (a 2)) (C := RX6) (T := TX6) (N := 26) hx hb hts hinX6 hown hK hP 0 rfl rfl 9 (by decide) (hts (.fieldLink RX6 13 "FirstOutModel" "many" "[I") (by decide +kernel)) (fun _ h9 => h9) rfl dX6_eagerOf_6 ?_
      refine lv_iconst (v := 0) hx hb dX6_eagerOf_9 (by decide) ?_
      refine m_iald hx hb hK hP 1 0 rfl rfl 0 rfl (by decide) (by decide) dX6_eagerOf_10 ?_
      refine lv_to (show _ = (mn 0) from rfl) ?_
      refine lv_to (show (mn 0) = nI n from hn) ?_
      refine lv_icmp_ge (tgt := 42) hx hb dX6_eagerOf_11 (by decide) (fun c_1 => ?_) (fun c_1 => ?_)
      · skip
        rw [if_pos c_1] at hres
        refine lv_iload_n hx hb dX6_eagerOf_42 rfl (lv_at hl 2 rfl) ?_
        rw [hres]
        exact W.iret (v := acc) hx hb hr (fun t ht hW => ⟨rfl, ht⟩) (fun _ h => by cases h) dX6_eagerOf_43
      · skip
        rw [if_neg c_1] at hres
        have hlt : i < n := nlt_of c_1 (by omega) (by omega)
        refine lv_iload_n hx hb dX6_eagerOf_14 rfl (lv_at hl 2 rfl) ?_
        refine lv_iload_n hx hb dX6_eagerOf_15 rfl (lv_at hl 1 rfl) ?_
        refine lv_iload_n hx hb dX6_eagerOf_16 rfl (lv_at hl 3 rfl) ?_
        refine lv_ishr hx hb dX6_eagerOf_17 ?_
        refine lv_iconst (v := 1) hx hb dX6_eagerOf_18 (by decide) ?_
        refine lv_iand hx hb dX6_eagerOf_19 ?_
        refine lv_iconst (v := 1) hx hb dX6_eagerOf_20 (by decide) ?_
        refine lv_icmp_ne (tgt := 33) hx hb dX6_eagerOf_21 (by decide) (fun c_2 => ?_) (fun c_2 => ?_)
        · skip
          rw [if_neg c_2] at hres
          refine lv_iconst (v := 0) hx hb dX6_eagerOf_33 (by decide) ?_
          refine lv_iadd hx hb dX6_eagerOf_34 ?_
          refine lv_istore_n (lv' := [(2, .int (acc + (0 : Int32))), (0, .ref (a 0)), (1, .int set), (3, .int (nI i))]) hx hb dX6_eagerOf_35 rfl hl (by decide) rfl (fun ls hl => ?_)
          refine lv_iinc (v := nI (i + 1)) (lv' := [(3, .int (nI (i + 1))), (2, .int (acc + (0 : Int32))), (0, .ref (a 0)), (1, .int set)]) hx hb dX6_eagerOf_36 hl (k := 3) rfl ((nI_add i 1)) (by decide) rfl (fun ls hl => ?_)
          refine lv_goto (tgt := 4) hx hb dX6_eagerOf_39 (by decide) ?_
          exact ih4 (i + 1) (acc + (0 : Int32)) (by omega) (by omega) hres ls (lv_sub hl [2, 3, 1, 0] rfl)
        · skip
          rw [if_pos c_2] at hres
          refine lv_aload_n hx hb dX6_eagerOf_24 rfl (lv_at hl 0 rfl) ?_
          refine va_get (D := D) (ci := 6) (v := .ref (a 5)) (C := RX6) (T := TX6) (N := 26) hx hb hts hinX6 hown hK hP 0 rfl rfl 13 (by decide) (hts (.fieldLink RX6 22 "FirstOutModel" "eager" "[I") (by decide +kernel)) (fun _ h9 => h9) rfl dX6_eagerOf_25 ?_
          refine lv_iload_n hx hb dX6_eagerOf_28 rfl (lv_at hl 3 rfl) ?_
          refine m_iald hx hb hK hP 4 0 rfl rfl i rfl (by omega) (by decide) dX6_eagerOf_29 ?_
          refine lv_to (show _ = (ea i) from rfl) ?_
          refine lv_goto (tgt := 34) hx hb dX6_eagerOf_30 (by decide) ?_
          refine lv_iadd hx hb dX6_eagerOf_34 ?_
          refine lv_istore_n (lv' := [(2, .int (acc + (ea i))), (0, .ref (a 0)), (1, .int set), (3, .int (nI i))]) hx hb dX6_eagerOf_35 rfl hl (by decide) rfl (fun ls hl => ?_)
          refine lv_iinc (v := nI (i + 1)) (lv' := [(3, .int (nI (i + 1))), (2, .int (acc + (ea i))), (0, .ref (a 0)), (1, .int set)]) hx hb dX6_eagerOf_36 hl (k := 3) rfl ((nI_add i 1)) (by decide) rfl (fun ls hl => ?_)
          refine lv_goto (tgt := 4) hx hb dX6_eagerOf_39 (by decide) ?_
          exact ih4 (i + 1) (acc + (ea i)) (by omega) (by omega) hres ls (lv_sub hl [2, 3, 1, 0] rfl)
  exact loop4 (n + 1) 0 0 (by omega) (Nat.zero_le _) hres ls (lv_sub hl [2, 3, 1, 0] rfl)
def lp_X6_dearOf_5 (de : Nat → Int32) (ea : Nat → Int32) (set : Int32) (by_ : Int32) (n : Nat) : Nat → Nat → Int32 → Int32
  | 0, _, _ => 0
  | k5 + 1, i, acc => if (nI n) ≤ (nI i) then
      acc
    else
      if ((set >>> ((nI i) &&& 31)) &&& (1 : Int32)) = 0 then
        lp_X6_dearOf_5 de ea set by_ n k5 (i + 1) (acc + (0 : Int32))
      else
        if by_ = 0 then
          lp_X6_dearOf_5 de ea set by_ n k5 (i + 1) (acc + (de i))
        else
          lp_X6_dearOf_5 de ea set by_ n k5 (i + 1) (acc + ((de i) * (ea i)))
def d_X6_dearOf (de : Nat → Int32) (ea : Nat → Int32) (set : Int32) (by_ : Int32) (n : Nat) : Int32 :=
  lp_X6_dearOf_5 de ea set by_ n (n + 1) 0 0
set_option maxHeartbeats 4000000 in
set_option maxRecDepth 100000 in
theorem c_X6_dearOf (l : Launch) (D : va_G) (cI cC cZ cS : ClassId) (a : Nat → Nat) (f : Nat → Int32) (mn : Nat → Int32) (tr : Nat → Int32) (de : Nat → Int32) (ea : Nat → Int32) (tc : Int64) (set : Int32) (by_ : Int32) (n : Nat) (hn : mn 0 = nI n) (h7 : n ≤ 7) : Met l yX6_dearOf wsX6_dearOf { frames := 0, cells := 0, slots := 0, locals := 0 } (PcE D cI cC cZ cS [.ref (a 0), .int set, .int by_] (w5 cI cC cZ cS a f mn tr de ea tc)) (QcR (some (.int (d_X6_dearOf de ea set by_ n)))) 0 0 (fun _ => False) := by
  refine Met.ofW (cc := cX6_dearOf) (maxL := 5) (ret := (some .int)) (by decide) rfl ?_
  intro p e s m args below meth c s₁ B hml hv
  obtain ⟨rfl, hP, hD, hE⟩ := hv
  have hK := hE.1
  have hx := B.exec
  have hb := B.bytes
  have hr := B.returns
  have hts := atoms_spec (ws := wsX6_dearOf) B.pre
  have hown : s.vm.findClass RX6 = some m.cls := findClass_of_methodNamed B.named
  have hlocks := B.notSynchronized
  have hinX6 : ∀ w ∈ wsX60, w ∈ wsX6_dearOf := by decide +kernel
  refine opq (d_X6_dearOf de ea set by_ n) (fun R hres => ?_)
  rw [hres]
  replace hres := hres.symm
  rw [d_X6_dearOf] at hres
  have hl := lv_entry ([.ref (a 0), .int set, .int by_]) (n := 5) (Nat.le_of_ble_eq_true rfl)
  rw [lg_entry_eq]
  generalize (lg_sl ([.ref (a 0), .int set, .int by_]) ++ List.replicate (5 - (lg_sl ([.ref (a 0), .int set, .int by_])).length) Slot.unset).toArray = ls at hl ⊢
  have hl : lv_has ls 5 [(0, .ref (a 0)), (1, .int set), (2, .int by_)] := hl
  refine lv_iconst (v := 0) hx hb dX6_dearOf_0 (by decide) ?_
  refine lv_istore_n (lv' := [(3, .int 0), (0, .ref (a 0)), (1, .int set), (2, .int by_)]) hx hb dX6_dearOf_1 rfl hl (by decide) rfl (fun ls hl => ?_)
  refine lv_iconst (v := 0) hx hb dX6_dearOf_2 (by decide) ?_
  refine lv_istore (lv' := [(4, .int 0), (3, .int 0), (0, .ref (a 0)), (1, .int set), (2, .int by_)]) hx hb dX6_dearOf_3 hl (by decide) rfl (fun ls hl => ?_)
  have loop5 : ∀ (k5 : Nat) (i : Nat) (acc : Int32), n - i < k5 → i ≤ n → R = lp_X6_dearOf_5 de ea set by_ n k5 i acc → ∀ ls : Array Slot, lv_has ls 5 [(0, .ref (a 0)), (1, .int set), (2, .int by_), (3, .int acc), (4, .int (nI i))] → W p l e (headSpec wsX6_dearOf { frames := 0, cells := 0, slots := 0, locals := 0 }).room s m (([.ref (a 0), .int set, .int by_] : List Value).toArray) below meth c s.heap [] 0 0 (MQ below (QcR (some (.int R))) (([.ref (a 0), .int set, .int by_] : List Value).toArray) s 0 0 (fun _ => False)) (F0 m 5 ls []) := by
    intro k5
    induction k5 with
    | zero => intro i acc hk; exact absurd hk (Nat.not_lt_zero _)
    | succ k5 ih5 =>
      intro i acc hk5 hi hres ls hl
      rw [lp_X6_dearOf_5] at hres
      refine lv_iload hx hb dX6_dearOf_5 (lv_at hl 4 rfl) ?_
      refine lv_aload_n hx hb dX6_dearOf_7 rfl (lv_at hl 0 rfl) ?_
      refine va_get (D := D) (ci := 6) (v := .ref (a 2)) (C := RX6) (T := TX6) (N := 26) hx hb hts hinX6 hown hK hP 0 rfl rfl 9 (by decide) (hts (.fieldLink RX6 13 "FirstOutModel" "many" "[I") (by decide +kernel)) (fun _ h9 => h9) rfl dX6_dearOf_8 ?_
      refine lv_iconst (v := 0) hx hb dX6_dearOf_11 (by decide) ?_
      refine m_iald hx hb hK hP 1 0 rfl rfl 0 rfl (by decide) (by decide) dX6_dearOf_12 ?_
      refine lv_to (show _ = (mn 0) from rfl) ?_
      refine lv_to (show (mn 0) = nI n from hn) ?_
      refine lv_icmp_ge (tgt := 67) hx hb dX6_dearOf_13 (by decide) (fun c_1 => ?_) (fun c_1 => ?_)
      · skip
        rw [if_pos c_1] at hres
        refine lv_iload_n hx hb dX6_dearOf_67 rfl (lv_at hl 3 rfl) ?_
        rw [hres]
        exact W.iret (v := acc) hx hb hr (fun t ht hW => ⟨rfl, ht⟩) (fun _ h => by cases h) dX6_dearOf_68
      · skip
        rw [if_neg c_1] at hres
        have hlt : i < n := nlt_of c_1 (by omega) (by omega)
        refine lv_iload_n hx hb dX6_dearOf_16 rfl (lv_at hl 3 rfl) ?_
        refine lv_iload_n hx hb dX6_dearOf_17 rfl (lv_at hl 1 rfl) ?_
        refine lv_iload hx hb dX6_dearOf_18 (lv_at hl 4 rfl) ?_
        refine lv_ishr hx hb dX6_dearOf_20 ?_
        refine lv_iconst (v := 1) hx hb dX6_dearOf_21 (by decide) ?_
        refine lv_iand hx hb dX6_dearOf_22 ?_
        refine lv_if_ne (tgt := 30) hx hb dX6_dearOf_23 (by decide) (fun c_2 => ?_) (fun c_2 => ?_)
        · skip
          rw [if_neg c_2] at hres
          refine lv_iload_n hx hb dX6_dearOf_30 rfl (lv_at hl 2 rfl) ?_
          refine lv_if_eq (tgt := 52) hx hb dX6_dearOf_31 (by decide) (fun c_3 => ?_) (fun c_3 => ?_)
          · skip
            rw [if_pos c_3] at hres
            refine lv_aload_n hx hb dX6_dearOf_52 rfl (lv_at hl 0 rfl) ?_
            refine va_get (D := D) (ci := 6) (v := .ref (a 4)) (C := RX6) (T := TX6) (N := 26) hx hb hts hinX6 hown hK hP 0 rfl rfl 12 (by decide) (hts (.fieldLink RX6 19 "FirstOutModel" "dear" "[I") (by decide +kernel)) (fun _ h9 => h9) rfl dX6_dearOf_53 ?_
            refine lv_iload hx hb dX6_dearOf_56 (lv_at hl 4 rfl) ?_
            refine m_iald hx hb hK hP 3 0 rfl rfl i rfl (by omega) (by decide) dX6_dearOf_58 ?_
            refine lv_to (show _ = (de i) from rfl) ?_
            refine lv_iadd hx hb dX6_dearOf_59 ?_
            refine lv_istore_n (lv' := [(3, .int (acc + (de i))), (0, .ref (a 0)), (1, .int set), (2, .int by_), (4, .int (nI i))]) hx hb dX6_dearOf_60 rfl hl (by decide) rfl (fun ls hl => ?_)
            refine lv_iinc (v := nI (i + 1)) (lv' := [(4, .int (nI (i + 1))), (3, .int (acc + (de i))), (0, .ref (a 0)), (1, .int set), (2, .int by_)]) hx hb dX6_dearOf_61 hl (k := 4) rfl ((nI_add i 1)) (by decide) rfl (fun ls hl => ?_)
            refine lv_goto (tgt := 5) hx hb dX6_dearOf_64 (by decide) ?_
            exact ih5 (i + 1) (acc + (de i)) (by omega) (by omega) hres ls (lv_sub hl [2, 3, 4, 1, 0] rfl)
          · skip
            rw [if_neg c_3] at hres
            refine lv_aload_n hx hb dX6_dearOf_34 rfl (lv_at hl 0 rfl) ?_
            refine va_get (D := D) (ci := 6) (v := .ref (a 4)) (C := RX6) (T := TX6) (N := 26) hx hb hts hinX6 hown hK hP 0 rfl rfl 12 (by decide) (hts (.fieldLink RX6 19 "FirstOutModel" "dear" "[I") (by decide +kernel)) (fun _ h9 => h9) rfl dX6_dearOf_35 ?_
            refine lv_iload hx hb dX6_dearOf_38 (lv_at hl 4 rfl) ?_
            refine m_iald hx hb hK hP 3 0 rfl rfl i rfl (by omega) (by decide) dX6_dearOf_40 ?_
            refine lv_to (show _ = (de i) from rfl) ?_
            refine lv_aload_n hx hb dX6_dearOf_41 rfl (lv_at hl 0 rfl) ?_
            refine va_get (D := D) (ci := 6) (v := .ref (a 5)) (C := RX6) (T := TX6) (N := 26) hx hb hts hinX6 hown hK hP 0 rfl rfl 13 (by decide) (hts (.fieldLink RX6 22 "FirstOutModel" "eager" "[I") (by decide +kernel)) (fun _ h9 => h9) rfl dX6_dearOf_42 ?_
            refine lv_iload hx hb dX6_dearOf_45 (lv_at hl 4 rfl) ?_
            refine m_iald hx hb hK hP 4 0 rfl rfl i rfl (by omega) (by decide) dX6_dearOf_47 ?_
            refine lv_to (show _ = (ea i) from rfl) ?_
            refine lv_imul hx hb dX6_dearOf_48 ?_
            refine lv_goto (tgt := 59) hx hb dX6_dearOf_49 (by decide) ?_
            refine lv_iadd hx hb dX6_dearOf_59 ?_
            refine lv_istore_n (lv' := [(3, .int (acc + ((de i) * (ea i)))), (0, .ref (a 0)), (1, .int set), (2, .int by_), (4, .int (nI i))]) hx hb dX6_dearOf_60 rfl hl (by decide) rfl (fun ls hl => ?_)
            refine lv_iinc (v := nI (i + 1)) (lv' := [(4, .int (nI (i + 1))), (3, .int (acc + ((de i) * (ea i)))), (0, .ref (a 0)), (1, .int set), (2, .int by_)]) hx hb dX6_dearOf_61 hl (k := 4) rfl ((nI_add i 1)) (by decide) rfl (fun ls hl => ?_)
            refine lv_goto (tgt := 5) hx hb dX6_dearOf_64 (by decide) ?_
            exact ih5 (i + 1) (acc + ((de i) * (ea i))) (by omega) (by omega) hres ls (lv_sub hl [2, 3, 4, 1, 0] rfl)
        · skip
          rw [if_pos c_2] at hres
          refine lv_iconst (v := 0) hx hb dX6_dearOf_26 (by decide) ?_
          refine lv_goto (tgt := 59) hx hb dX6_dearOf_27 (by decide) ?_
          refine lv_iadd hx hb dX6_dearOf_59 ?_
          refine lv_istore_n (lv' := [(3, .int (acc + (0 : Int32))), (0, .ref (a 0)), (1, .int set), (2, .int by_), (4, .int (nI i))]) hx hb dX6_dearOf_60 rfl hl (by decide) rfl (fun ls hl => ?_)
          refine lv_iinc (v := nI (i + 1)) (lv' := [(4, .int (nI (i + 1))), (3, .int (acc + (0 : Int32))), (0, .ref (a 0)), (1, .int set), (2, .int by_)]) hx hb dX6_dearOf_61 hl (k := 4) rfl ((nI_add i 1)) (by decide) rfl (fun ls hl => ?_)
          refine lv_goto (tgt := 5) hx hb dX6_dearOf_64 (by decide) ?_
          exact ih5 (i + 1) (acc + (0 : Int32)) (by omega) (by omega) hres ls (lv_sub hl [2, 3, 4, 1, 0] rfl)
  exact loop5 (n + 1) 0 0 (by omega) (Nat.zero_le _) hres ls (lv_sub hl [2, 3, 4, 1, 0] rfl)
def d_X6_harms (f : Nat → Int32) (tr : Nat → Int32) (de : Nat → Int32) (ea : Nat → Int32) (g : Nat → Int32) (n : Nat) : (Nat → Int32) :=
  if (d_X6_eagerOf ea (d_X6_comers tr ea g n) n) = 0 then
      (upd (upd f 25 (d_X6_dearOf de ea ((d_X6_comers tr ea g n) &&& (d_X6_covered tr g n)) 1 n)) 24 1)
    else
      (upd (upd f 25 (d_X6_dearOf de ea ((d_X6_comers tr ea g n) &&& (d_X6_covered tr g n)) 1 n)) 24 (d_X6_eagerOf ea (d_X6_comers tr ea g n) n))
set_option maxHeartbeats 4000000 in
set_option maxRecDepth 100000 in
theorem c_X6_harms (l : Launch) (D : va_G) (cI cC cZ cS : ClassId) (a : Nat → Nat) (f : Nat → Int32) (mn : Nat → Int32) (tr : Nat → Int32) (de : Nat → Int32) (ea : Nat → Int32) (rA : Nat) (g : Nat → Int32) (tc : Int64) (n : Nat) (hn : mn 0 = nI n) (h7 : n ≤ 7) : Met l yX6_harms wsX6_harms { frames := 3, cells := 0, slots := 0, locals := 68 } (PcE D cI cC cZ cS [.ref (a 0), .ref rA] (w5r cI cC cZ cS a f mn tr de ea rA g tc)) (QcM none D (w5r cI cC cZ cS a f mn tr de ea rA g tc) (w5r cI cC cZ cS a (d_X6_harms f tr de ea g n) mn tr de ea rA g tc)) 0 0 (inW (w5r cI cC cZ cS a f mn tr de ea rA g tc)) := by
  refine Met.ofW (cc := cX6_harms) (maxL := 2) (ret := none) (by decide) rfl ?_
  intro p e s m args below meth c s₁ B hml hv
  obtain ⟨rfl, hP, hD, hE⟩ := hv
  have hK := hE.1
  have hx := B.exec
  have hb := B.bytes
  have hr := B.returns
  have hts := atoms_spec (ws := wsX6_harms) B.pre
  have hown : s.vm.findClass RX6 = some m.cls := findClass_of_methodNamed B.named
  have hlocks := B.notSynchronized
  have hinX6 : ∀ w ∈ wsX60, w ∈ wsX6_harms := by decide +kernel
  have hD := inW_self hD
  have hS : va_S (inW (w5r cI cC cZ cS a f mn tr de ea rA g tc)) s.heap s.heap [] := va_S.rf
  generalize hA : inW (w5r cI cC cZ cS a f mn tr de ea rA g tc) = A at hD hS ⊢
  refine opq (d_X6_harms f tr de ea g n) (fun R hres => ?_)
  rw [hres]
  replace hres := hres.symm
  rw [d_X6_harms] at hres
  have hl := lv_entry ([.ref (a 0), .ref rA]) (n := 2) (Nat.le_of_ble_eq_true rfl)
  rw [lg_entry_eq]
  generalize (lg_sl ([.ref (a 0), .ref rA]) ++ List.replicate (2 - (lg_sl ([.ref (a 0), .ref rA])).length) Slot.unset).toArray = ls at hl ⊢
  have hl : lv_has ls 2 [(0, .ref (a 0)), (1, .ref rA)] := hl
  refine lv_aload_n hx hb dX6_harms_0 rfl (lv_at hl 0 rfl) ?_
  refine lv_aload_n hx hb dX6_harms_1 rfl (lv_at hl 0 rfl) ?_
  refine lv_aload_n hx hb dX6_harms_2 rfl (lv_at hl 0 rfl) ?_
  refine lv_aload_n hx hb dX6_harms_3 rfl (lv_at hl 1 rfl) ?_
  have hPc := hP.sub (ws' := (w5r cI cC cZ cS a f mn tr de ea rA g tc)) [0, 1, 2, 3, 4, 5] rfl
  have hDc := hD.sub (ws' := (w5r cI cC cZ cS a f mn tr de ea rA g tc)) [0, 1, 2, 3, 4, 5] (by decide) rfl
  refine m_callR (W.runV (As := [.ref rA]) (rest := [.ref (a 0), .ref (a 0)]) ⟨hx, hb, hml, hown, hts⟩ (c_X6_comers l D cI cC cZ cS a f mn tr de ea rA g tc n hn h7) (cwV 1 hts gX6_harms_X6_comers rfl rfl rfl (by decide +kernel) ⟨Nat.le_of_ble_eq_true rfl, Nat.le_of_ble_eq_true rfl⟩) (preV_of hPc hDc hE (va_recv hK hPc (ci := 6) (q0 := 0) rfl rfl)) rfl rfl hl.1 rfl (lv_room (Nat.le_of_ble_eq_true rfl)) dX6_harms_4 ⟨Nat.zero_le _, Nat.zero_le _⟩) ?_
  refine W.eq (g2 := F0 m 7 ls [.int (d_X6_comers tr ea g n), .ref (a 0), .ref (a 0)]) rfl ?_
  refine opq (d_X6_comers tr ea g n) (fun r_1 hr_1 => ?_)
  try rw [hr_1] at hres
  rw [hr_1]
  refine lv_aload_n hx hb dX6_harms_7 rfl (lv_at hl 0 rfl) ?_
  refine lv_aload_n hx hb dX6_harms_8 rfl (lv_at hl 1 rfl) ?_
  have hPc := hP.sub (ws' := (w5r cI cC cZ cS a f mn tr de ea rA g tc)) [0, 1, 2, 3, 4, 5] rfl
  have hDc := hD.sub (ws' := (w5r cI cC cZ cS a f mn tr de ea rA g tc)) [0, 1, 2, 3, 4, 5] (by decide) rfl
  refine m_callR (W.runV (As := [.ref rA]) (rest := [.int r_1, .ref (a 0), .ref (a 0)]) ⟨hx, hb, hml, hown, hts⟩ (c_X6_covered l D cI cC cZ cS a f mn tr de ea rA g tc n hn h7) (cwV 1 hts gX6_harms_X6_covered rfl rfl rfl (by decide +kernel) ⟨Nat.le_of_ble_eq_true rfl, Nat.le_of_ble_eq_true rfl⟩) (preV_of hPc hDc hE (va_recv hK hPc (ci := 6) (q0 := 0) rfl rfl)) rfl rfl hl.1 rfl (lv_room (Nat.le_of_ble_eq_true rfl)) dX6_harms_9 ⟨Nat.zero_le _, Nat.zero_le _⟩) ?_
  refine W.eq (g2 := F0 m 12 ls [.int (d_X6_covered tr g n), .int r_1, .ref (a 0), .ref (a 0)]) rfl ?_
  refine opq (d_X6_covered tr g n) (fun r_2 hr_2 => ?_)
  try rw [hr_2] at hres
  rw [hr_2]
  refine lv_iand hx hb dX6_harms_12 ?_
  refine lv_iconst (v := 1) hx hb dX6_harms_13 (by decide) ?_
  have hPc := hP.sub (ws' := (w5 cI cC cZ cS a f mn tr de ea tc)) [0, 1, 2, 3, 4] rfl
  have hDc := hD.sub (ws' := (w5 cI cC cZ cS a f mn tr de ea tc)) [0, 1, 2, 3, 4] (by decide) rfl
  refine m_callR (W.runV (As := [.int (r_1 &&& r_2), .int 1]) (rest := [.ref (a 0)]) ⟨hx, hb, hml, hown, hts⟩ (c_X6_dearOf l D cI cC cZ cS a f mn tr de ea tc (r_1 &&& r_2) 1 n hn h7) (cwV 2 hts gX6_harms_X6_dearOf rfl rfl rfl (by decide +kernel) ⟨Nat.le_of_ble_eq_true rfl, Nat.le_of_ble_eq_true rfl⟩) (preV_of hPc hDc hE (va_recv hK hPc (ci := 6) (q0 := 0) rfl rfl)) rfl rfl hl.1 rfl (lv_room (Nat.le_of_ble_eq_true rfl)) dX6_harms_14 ⟨Nat.zero_le _, Nat.zero_le _⟩) ?_
  refine W.eq (g2 := F0 m 17 ls [.int (d_X6_dearOf de ea (r_1 &&& r_2) 1 n), .ref (a 0)]) rfl ?_
  refine opq (d_X6_dearOf de ea (r_1 &&& r_2) 1 n) (fun r_3 hr_3 => ?_)
  try rw [hr_3] at hres
  rw [hr_3]
  refine va_put (D := D) (ci := 6) (v := .int r_3) (ty := .int) (C := RX6) (T := TX6) (N := 26) hx hb hts hinX6 tyX6 tyX6_ok nmX6 hown hK hP hD hS 0 rfl rfl 25 (by decide) (hts (.fieldLink RX6 129 "FirstOutModel" "harmAll" "I") (by decide +kernel)) (fun _ h9 => h9) rfl (by decide +kernel) rfl rfl (Nat.le_of_ble_eq_true rfl) dX6_harms_17 (fun H locs hP hD hS => ?_)
  have hP : va_P D vwCl (w5r cI cC cZ cS a (upd f 25 r_3) mn tr de ea rA g tc) H := hP
  have hD : va_D A (w5r cI cC cZ cS a (upd f 25 r_3) mn tr de ea rA g tc) := hD
  refine lv_aload_n hx hb dX6_harms_20 rfl (lv_at hl 0 rfl) ?_
  refine lv_aload_n hx hb dX6_harms_21 rfl (lv_at hl 0 rfl) ?_
  refine lv_aload_n hx hb dX6_harms_22 rfl (lv_at hl 0 rfl) ?_
  refine lv_aload_n hx hb dX6_harms_23 rfl (lv_at hl 1 rfl) ?_
  have hPc := hP.sub (ws' := (w5r cI cC cZ cS a (upd f 25 r_3) mn tr de ea rA g tc)) [0, 1, 2, 3, 4, 5] rfl
  have hDc := hD.sub (ws' := (w5r cI cC cZ cS a (upd f 25 r_3) mn tr de ea rA g tc)) [0, 1, 2, 3, 4, 5] (by decide) rfl
  refine m_callR (W.runV (As := [.ref rA]) (rest := [.ref (a 0), .ref (a 0)]) ⟨hx, hb, hml, hown, hts⟩ (c_X6_comers l D cI cC cZ cS a (upd f 25 r_3) mn tr de ea rA g tc n hn h7) (cwV 1 hts gX6_harms_X6_comers rfl rfl rfl (by decide +kernel) ⟨Nat.le_of_ble_eq_true rfl, Nat.le_of_ble_eq_true rfl⟩) (preV_of hPc hDc hE (va_recv hK hPc (ci := 6) (q0 := 0) rfl rfl)) rfl rfl hl.1 rfl (lv_room (Nat.le_of_ble_eq_true rfl)) dX6_harms_24 ⟨Nat.zero_le _, Nat.zero_le _⟩) ?_
  refine W.eq (g2 := F0 m 27 ls [.int (d_X6_comers tr ea g n), .ref (a 0), .ref (a 0)]) rfl ?_
  rw [hr_1]
  have hPc := hP.sub (ws' := (w5 cI cC cZ cS a (upd f 25 r_3) mn tr de ea tc)) [0, 1, 2, 3, 4] rfl
  have hDc := hD.sub (ws' := (w5 cI cC cZ cS a (upd f 25 r_3) mn tr de ea tc)) [0, 1, 2, 3, 4] (by decide) rfl
  refine m_callR (W.runV (As := [.int r_1]) (rest := [.ref (a 0)]) ⟨hx, hb, hml, hown, hts⟩ (c_X6_eagerOf l D cI cC cZ cS a (upd f 25 r_3) mn tr de ea tc r_1 n hn h7) (cwV 1 hts gX6_harms_X6_eagerOf rfl rfl rfl (by decide +kernel) ⟨Nat.le_of_ble_eq_true rfl, Nat.le_of_ble_eq_true rfl⟩) (preV_of hPc hDc hE (va_recv hK hPc (ci := 6) (q0 := 0) rfl rfl)) rfl rfl hl.1 rfl (lv_room (Nat.le_of_ble_eq_true rfl)) dX6_harms_27 ⟨Nat.zero_le _, Nat.zero_le _⟩) ?_
  refine W.eq (g2 := F0 m 30 ls [.int (d_X6_eagerOf ea r_1 n), .ref (a 0)]) rfl ?_
  refine opq (d_X6_eagerOf ea r_1 n) (fun r_4 hr_4 => ?_)
  try rw [hr_4] at hres
  rw [hr_4]
  refine va_put (D := D) (ci := 6) (v := .int r_4) (ty := .int) (C := RX6) (T := TX6) (N := 26) hx hb hts hinX6 tyX6 tyX6_ok nmX6 hown hK hP hD hS 0 rfl rfl 24 (by decide) (hts (.fieldLink RX6 135 "FirstOutModel" "eagerAll" "I") (by decide +kernel)) (fun _ h9 => h9) rfl (by decide +kernel) rfl rfl (Nat.le_of_ble_eq_true rfl) dX6_harms_30 (fun H locs hP hD hS => ?_)
  have hP : va_P D vwCl (w5r cI cC cZ cS a (upd (upd f 25 r_3) 24 r_4) mn tr de ea rA g tc) H := hP
  have hD : va_D A (w5r cI cC cZ cS a (upd (upd f 25 r_3) 24 r_4) mn tr de ea rA g tc) := hD
  refine lv_aload_n hx hb dX6_harms_33 rfl (lv_at hl 0 rfl) ?_
  refine lv_aload_n hx hb dX6_harms_34 rfl (lv_at hl 0 rfl) ?_
  refine va_get (D := D) (ci := 6) (v := .int r_4) (C := RX6) (T := TX6) (N := 26) hx hb hts hinX6 hown hK hP 0 rfl rfl 24 (by decide) (hts (.fieldLink RX6 135 "FirstOutModel" "eagerAll" "I") (by decide +kernel)) (fun _ h9 => h9) rfl dX6_harms_35 ?_
  refine lv_if_ne (tgt := 45) hx hb dX6_harms_38 (by decide) (fun c_5 => ?_) (fun c_5 => ?_)
  · skip
    rw [if_neg c_5] at hres
    refine lv_aload_n hx hb dX6_harms_45 rfl (lv_at hl 0 rfl) ?_
    refine va_get (D := D) (ci := 6) (v := .int r_4) (C := RX6) (T := TX6) (N := 26) hx hb hts hinX6 hown hK hP 0 rfl rfl 24 (by decide) (hts (.fieldLink RX6 135 "FirstOutModel" "eagerAll" "I") (by decide +kernel)) (fun _ h9 => h9) rfl dX6_harms_46 ?_
    refine va_put (D := D) (ci := 6) (v := .int r_4) (ty := .int) (C := RX6) (T := TX6) (N := 26) hx hb hts hinX6 tyX6 tyX6_ok nmX6 hown hK hP hD hS 0 rfl rfl 24 (by decide) (hts (.fieldLink RX6 135 "FirstOutModel" "eagerAll" "I") (by decide +kernel)) (fun _ h9 => h9) rfl (by decide +kernel) rfl rfl (Nat.le_of_ble_eq_true rfl) dX6_harms_49 (fun H locs hP hD hS => ?_)
    have hP : va_P D vwCl (w5r cI cC cZ cS a (upd (upd f 25 r_3) 24 r_4) mn tr de ea rA g tc) H := hP
    have hD : va_D A (w5r cI cC cZ cS a (upd (upd f 25 r_3) 24 r_4) mn tr de ea rA g tc) := hD
    rw [hres]
    exact W.vret hx hb hr (fun t ht hW => ⟨rfl, by rw [ht]; exact hP, by rw [hA]; exact hS.F ht⟩) hS.2.2 dX6_harms_52
  · skip
    rw [if_pos c_5] at hres
    refine lv_iconst (v := 1) hx hb dX6_harms_41 (by decide) ?_
    refine lv_goto (tgt := 49) hx hb dX6_harms_42 (by decide) ?_
    refine va_put (D := D) (ci := 6) (v := .int 1) (ty := .int) (C := RX6) (T := TX6) (N := 26) hx hb hts hinX6 tyX6 tyX6_ok nmX6 hown hK hP hD hS 0 rfl rfl 24 (by decide) (hts (.fieldLink RX6 135 "FirstOutModel" "eagerAll" "I") (by decide +kernel)) (fun _ h9 => h9) rfl (by decide +kernel) rfl rfl (Nat.le_of_ble_eq_true rfl) dX6_harms_49 (fun H locs hP hD hS => ?_)
    have hP : va_P D vwCl (w5r cI cC cZ cS a (upd (upd f 25 r_3) 24 1) mn tr de ea rA g tc) H := hP
    have hD : va_D A (w5r cI cC cZ cS a (upd (upd f 25 r_3) 24 1) mn tr de ea rA g tc) := hD
    rw [hres]
    exact W.vret hx hb hr (fun t ht hW => ⟨rfl, by rw [ht]; exact hP, by rw [hA]; exact hS.F ht⟩) hS.2.2 dX6_harms_52
def lp_X6_gcd_13 (x : Int32) (aa : Nat) (bb : Nat) : Nat → Nat → Nat → Int32
  | 0, _, _ => 0
  | k13 + 1, xx, yy => if (nI yy) = 0 then
      nI xx
    else
      lp_X6_gcd_13 x aa bb k13 yy (xx % yy)
def jn_X6_gcd_10 (x : Int32) (aa : Nat) (bb : Nat) (x1 : Int32) : Int32 :=
  lp_X6_gcd_13 x aa bb (bb + 1) aa bb
def d_X6_gcd (x : Int32) (aa : Nat) (bb : Nat) : Int32 :=
  if 0 ≤ x then
      jn_X6_gcd_10 x aa bb x
    else
      jn_X6_gcd_10 x aa bb (-x)
set_option maxHeartbeats 4000000 in
set_option maxRecDepth 100000 in
theorem c_X6_gcd (l : Launch) (D : va_G) (cI cC cZ cS : ClassId) (x : Int32) (y : Int32) (aa : Nat) (bb : Nat) (haa : (if 0 ≤ x then x else -x) = nI aa) (ha31 : aa < 2 ^ 31) (hbb : y = nI bb) (hb31 : bb < 2 ^ 31) : Met l yX6_gcd wsX6_gcd { frames := 0, cells := 0, slots := 0, locals := 0 } (PcE D cI cC cZ cS [.int x, .int y] []) (QcR (some (.int (d_X6_gcd x aa bb)))) 0 0 (fun _ => False) := by
  refine Met.ofW (cc := cX6_gcd) (maxL := 5) (ret := (some .int)) (by decide) rfl ?_
  intro p e s m args below meth c s₁ B hml hv
  obtain ⟨rfl, hP, hD, hE⟩ := hv
  have hK := hE.1
  have hx := B.exec
  have hb := B.bytes
  have hr := B.returns
  have hts := atoms_spec (ws := wsX6_gcd) B.pre
  have hown : s.vm.findClass RX6 = some m.cls := findClass_of_methodNamed B.named
  have hlocks := B.notSynchronized
  refine opq (d_X6_gcd x aa bb) (fun R hres => ?_)
  rw [hres]
  replace hres := hres.symm
  rw [d_X6_gcd] at hres
  have hl := lv_entry ([.int x, .int y]) (n := 5) (Nat.le_of_ble_eq_true rfl)
  rw [lg_entry_eq]
  generalize (lg_sl ([.int x, .int y]) ++ List.replicate (5 - (lg_sl ([.int x, .int y])).length) Slot.unset).toArray = ls at hl ⊢
  have hl : lv_has ls 5 [(0, .int x), (1, .int y)] := hl
  have join10 : ∀ (x1 : Int32), x1 = nI aa → R = jn_X6_gcd_10 x aa bb x1 → ∀ ls : Array Slot, lv_has ls 5 [(0, .int x), (1, .int y)] → W p l e (headSpec wsX6_gcd { frames := 0, cells := 0, slots := 0, locals := 0 }).room s m (([.int x, .int y] : List Value).toArray) below meth c s.heap [] 0 0 (MQ below (QcR (some (.int R))) (([.int x, .int y] : List Value).toArray) s 0 0 (fun _ => False)) (F0 m 10 ls [.int x1]) := by
    intro x1 hx1 hres ls hl
    rw [jn_X6_gcd_10] at hres
    refine lv_to hx1 ?_
    refine lv_istore_n (lv' := [(2, .int (nI aa)), (0, .int x), (1, .int y)]) hx hb dX6_gcd_10 rfl hl (by decide) rfl (fun ls hl => ?_)
    refine lv_iload_n hx hb dX6_gcd_11 rfl (lv_at hl 2 rfl) ?_
    refine lv_to (show y = nI bb from hbb) ?_
    refine lv_istore_n (lv' := [(3, .int (nI bb)), (2, .int (nI aa)), (0, .int x), (1, .int y)]) hx hb dX6_gcd_12 rfl hl (by decide) rfl (fun ls hl => ?_)
    have loop13 : ∀ (k13 : Nat) (xx : Nat) (yy : Nat), yy < k13 → xx < 2 ^ 31 → yy < 2 ^ 31 → R = lp_X6_gcd_13 x aa bb k13 xx yy → ∀ ls : Array Slot, lv_has ls 5 [(0, .int x), (1, .int y), (2, .int (nI xx)), (3, .int (nI yy))] → W p l e (headSpec wsX6_gcd { frames := 0, cells := 0, slots := 0, locals := 0 }).room s m (([.int x, .int y] : List Value).toArray) below meth c s.heap [] 0 0 (MQ below (QcR (some (.int R))) (([.int x, .int y] : List Value).toArray) s 0 0 (fun _ => False)) (F0 m 13 ls []) := by
      intro k13
      induction k13 with
      | zero => intro xx yy hk; exact absurd hk (Nat.not_lt_zero _)
      | succ k13 ih13 =>
        intro xx yy hk13 hx31 hy31 hres ls hl
        rw [lp_X6_gcd_13] at hres
        refine lv_iload_n hx hb dX6_gcd_13 rfl (lv_at hl 3 rfl) ?_
        refine lv_if_eq (tgt := 30) hx hb dX6_gcd_14 (by decide) (fun c_1 => ?_) (fun c_1 => ?_)
        · skip
          rw [if_pos c_1] at hres
          refine lv_iload_n hx hb dX6_gcd_30 rfl (lv_at hl 2 rfl) ?_
          rw [hres]
          exact W.iret (v := nI xx) hx hb hr (fun t ht hW => ⟨rfl, ht⟩) (fun _ h => by cases h) dX6_gcd_31
        · skip
          rw [if_neg c_1] at hres
          have hy0 : 0 < yy := Nat.pos_of_ne_zero (fun q => c_1 (by rw [q]; rfl))
          have hmod : xx % yy < yy := Nat.mod_lt _ hy0
          have hlt31 : xx % yy < 2 ^ 31 := by omega
          refine lv_iload_n hx hb dX6_gcd_17 rfl (lv_at hl 2 rfl) ?_
          refine lv_iload_n hx hb dX6_gcd_18 rfl (lv_at hl 3 rfl) ?_
          refine lv_irem hx hb dX6_gcd_19 (nI_ne0 hy0 hy31) ?_
          refine lv_to (show ((nI xx) - (nI xx) / (nI yy) * (nI yy)) = nI (xx % yy) from (pk_rem hx31 hy0 hy31)) ?_
          refine lv_istore (lv' := [(4, .int (nI (xx % yy))), (0, .int x), (1, .int y), (2, .int (nI xx)), (3, .int (nI yy))]) hx hb dX6_gcd_20 hl (by decide) rfl (fun ls hl => ?_)
          refine lv_iload_n hx hb dX6_gcd_22 rfl (lv_at hl 4 rfl) ?_
          refine lv_istore_n (lv' := [(2, .int (nI yy)), (4, .int (nI (xx % yy))), (0, .int x), (1, .int y), (3, .int (nI yy))]) hx hb dX6_gcd_23 rfl hl (by decide) rfl (fun ls hl => ?_)
          refine lv_iload hx hb dX6_gcd_24 (lv_at hl 1 rfl) ?_
          refine lv_istore_n (lv' := [(3, .int (nI (xx % yy))), (2, .int (nI yy)), (4, .int (nI (xx % yy))), (0, .int x), (1, .int y)]) hx hb dX6_gcd_26 rfl hl (by decide) rfl (fun ls hl => ?_)
          refine lv_goto (tgt := 13) hx hb dX6_gcd_27 (by decide) ?_
          exact ih13 yy (xx % yy) (by have := hmod; omega) hy31 hlt31 hres ls (lv_sub hl [3, 4, 1, 0] rfl)
    exact loop13 (bb + 1) aa bb (by omega) ha31 hb31 hres ls (lv_sub hl [2, 3, 1, 0] rfl)
  refine lv_iload_n hx hb dX6_gcd_0 rfl (lv_at hl 0 rfl) ?_
  refine lv_if_ge (tgt := 9) hx hb dX6_gcd_1 (by decide) (fun c_2 => ?_) (fun c_2 => ?_)
  · skip
    rw [if_pos c_2] at hres
    have hxa : x = nI aa := by rw [if_pos c_2] at haa; exact haa
    refine lv_iload_n hx hb dX6_gcd_9 rfl (lv_at hl 0 rfl) ?_
    exact join10 x hxa hres ls (lv_sub hl [0, 1] rfl)
  · skip
    rw [if_neg c_2] at hres
    have hxa : -x = nI aa := by rw [if_neg c_2] at haa; exact haa
    refine lv_iload_n hx hb dX6_gcd_4 rfl (lv_at hl 0 rfl) ?_
    refine lv_ineg hx hb dX6_gcd_5 ?_
    refine lv_goto (tgt := 10) hx hb dX6_gcd_6 (by decide) ?_
    exact join10 (-x) hxa hres ls (lv_sub hl [0, 1] rfl)
def d_X6_part (up : Int32) (all : Int32) (what : Int32) (aa : Nat) (bb : Nat) : Int32 :=
  if what = 0 then
      up / (d_X6_gcd up aa bb)
    else
      all / (d_X6_gcd up aa bb)
set_option maxHeartbeats 4000000 in
set_option maxRecDepth 100000 in
theorem c_X6_part (l : Launch) (D : va_G) (cI cC cZ cS : ClassId) (up : Int32) (all : Int32) (what : Int32) (aa : Nat) (bb : Nat) (haa : (if 0 ≤ up then up else -up) = nI aa) (ha31 : aa < 2 ^ 31) (hbb : all = nI bb) (hb31 : bb < 2 ^ 31) (hg0 : ¬ d_X6_gcd up aa bb = 0) : Met l yX6_part wsX6_part { frames := 1, cells := 0, slots := 0, locals := 24 } (PcE D cI cC cZ cS [.int up, .int all, .int what] []) (QcR (some (.int (d_X6_part up all what aa bb)))) 0 0 (fun _ => False) := by
  refine Met.ofW (cc := cX6_part) (maxL := 4) (ret := (some .int)) (by decide) rfl ?_
  intro p e s m args below meth c s₁ B hml hv
  obtain ⟨rfl, hP, hD, hE⟩ := hv
  have hK := hE.1
  have hx := B.exec
  have hb := B.bytes
  have hr := B.returns
  have hts := atoms_spec (ws := wsX6_part) B.pre
  have hown : s.vm.findClass RX6 = some m.cls := findClass_of_methodNamed B.named
  have hlocks := B.notSynchronized
  refine opq (d_X6_part up all what aa bb) (fun R hres => ?_)
  rw [hres]
  replace hres := hres.symm
  rw [d_X6_part] at hres
  have hl := lv_entry ([.int up, .int all, .int what]) (n := 4) (Nat.le_of_ble_eq_true rfl)
  rw [lg_entry_eq]
  generalize (lg_sl ([.int up, .int all, .int what]) ++ List.replicate (4 - (lg_sl ([.int up, .int all, .int what])).length) Slot.unset).toArray = ls at hl ⊢
  have hl : lv_has ls 4 [(0, .int up), (1, .int all), (2, .int what)] := hl
  refine lv_iload_n hx hb dX6_part_0 rfl (lv_at hl 0 rfl) ?_
  refine lv_iload_n hx hb dX6_part_1 rfl (lv_at hl 1 rfl) ?_
  have hPc := hP.sub (ws' := []) [] rfl
  have hDc := hD.sub (ws' := []) [] (by decide) rfl
  refine m_callR (W.runS (As := [.int up, .int all]) (rest := []) ⟨hx, hb, hml, hown, hts⟩ (c_X6_gcd l D cI cC cZ cS up all aa bb haa ha31 hbb hb31) (va_cwS 2 hts gX6_part_X6_gcd rfl rfl rfl (by decide +kernel) ⟨Nat.le_of_ble_eq_true rfl, Nat.le_of_ble_eq_true rfl⟩) (preS_of hPc hDc hE) rfl rfl hl.1 rfl (lv_room (Nat.le_of_ble_eq_true rfl)) dX6_part_2 ⟨Nat.zero_le _, Nat.zero_le _⟩) ?_
  refine W.eq (g2 := F0 m 5 ls [.int (d_X6_gcd up aa bb)]) rfl ?_
  refine lv_istore_n (lv' := [(3, .int (d_X6_gcd up aa bb)), (0, .int up), (1, .int all), (2, .int what)]) hx hb dX6_part_5 rfl hl (by decide) rfl (fun ls hl => ?_)
  refine lv_iload_n hx hb dX6_part_6 rfl (lv_at hl 3 rfl) ?_
  refine lv_if_ne (tgt := 16) hx hb dX6_part_7 (by decide) (fun c_1 => ?_) (fun c_1 => ?_)
  · skip
    rw [if_neg c_1] at hres
    refine lv_iload_n hx hb dX6_part_16 rfl (lv_at hl 2 rfl) ?_
    refine lv_iload_n hx hb dX6_part_17 rfl (lv_at hl 0 rfl) ?_
    refine lv_idiv hx hb dX6_part_18 hg0 ?_
    rw [hres]
    exact W.iret (v := all / (d_X6_gcd up aa bb)) hx hb hr (fun t ht hW => ⟨rfl, ht⟩) (fun _ h => by cases h) dX6_part_19
  · skip
    rw [if_pos c_1] at hres
    refine lv_iload_n hx hb dX6_part_10 rfl (lv_at hl 1 rfl) ?_
    refine lv_iload_n hx hb dX6_part_11 rfl (lv_at hl 0 rfl) ?_
    refine lv_idiv hx hb dX6_part_12 hg0 ?_
    refine lv_goto (tgt := 19) hx hb dX6_part_13 (by decide) ?_
    rw [hres]
    exact W.iret (v := up / (d_X6_gcd up aa bb)) hx hb hr (fun t ht hW => ⟨rfl, ht⟩) (fun _ h => by cases h) dX6_part_19
