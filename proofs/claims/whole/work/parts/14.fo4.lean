def swA (a : Nat → Nat) : Nat → Nat := fun j => if 1 ≤ j ∧ j ≤ 4 then a (j + 4) else if 5 ≤ j ∧ j ≤ 8 then a (j - 4) else a j
def swF (F : Nat → Nat → Int32) : Nat → Nat → Int32 := fun j => if 1 ≤ j ∧ j ≤ 4 then F (j + 4) else if 5 ≤ j ∧ j ≤ 8 then F (j - 4) else F j

def wB (cI cC cZ cS : ClassId) (a : Nat → Nat) (b : Nat → Nat) (ox : Nat) (oy : Nat) (tA : Nat) (dA : Nat) (eA : Nat) (hf : Nat → Int32) (u : Nat → Int32) (pf : Nat → Int32) (sf : Nat → Int32) (ik : Nat → Int32) (tc : Int64) : va_W := [((a 0), .inr (5, [.ref ox, .ref oy, .ref (a 9), .ref (b 12), .ref (a 12), .ref (b 0), .ref (a 25), .ref (a 28), .ref (a 29), .long tc])), (ox, .inr (0, [.ref tA, .ref dA, .ref eA, .int (hf 3), .int (hf 4), .int (hf 5), .int (hf 6), .int (hf 7), .int (hf 8)])), ((b 12), .inr (3, [.int (u 0), .int (u 1), .int (u 2), .int (u 3), .int (u 4)])), ((b 0), .inr (1, [.ref (b 1), .int (pf 1), .int (pf 2)])), ((a 29), .inr (2, [.ref (a 30), .ref (a 31), .int (sf 2)])), ((a 28), .inl (cZ, 2, .inl ik))]
theorem wB_ad {cI cC cZ cS : ClassId} {a : Nat → Nat} {b : Nat → Nat} {ox : Nat} {oy : Nat} {tA : Nat} {dA : Nat} {eA : Nat} {hf1 : Nat → Int32} {u1 : Nat → Int32} {pf1 : Nat → Int32} {sf1 : Nat → Int32} {ik1 : Nat → Int32} {tc1 : Int64} {hf2 : Nat → Int32} {u2 : Nat → Int32} {pf2 : Nat → Int32} {sf2 : Nat → Int32} {ik2 : Nat → Int32} {tc2 : Int64} : (wB cI cC cZ cS a b ox oy tA dA eA hf1 u1 pf1 sf1 ik1 tc1).map Prod.fst = (wB cI cC cZ cS a b ox oy tA dA eA hf2 u2 pf2 sf2 ik2 tc2).map Prod.fst := rfl
def wFx (cI cC cZ cS : ClassId) (a : Nat → Nat) (b : Nat → Nat) (F : Nat → Nat → Int32) (tc : Int64) (ox : Nat) (oy : Nat) : va_W := [((a 0), .inr (5, [.ref ox, .ref oy, .ref (a 9), .ref (b 12), .ref (a 12), .ref (b 0), .ref (a 25), .ref (a 28), .ref (a 29), .long tc])), ((a 1), .inr (0, [.ref (a 2), .ref (a 3), .ref (a 4), .int ((F 1) 3), .int ((F 1) 4), .int ((F 1) 5), .int ((F 1) 6), .int ((F 1) 7), .int ((F 1) 8)])), ((a 2), .inl (cI, 7, .inl (F 2))), ((a 3), .inl (cI, 7, .inl (F 3))), ((a 4), .inl (cI, 7, .inl (F 4))), ((a 5), .inr (0, [.ref (a 6), .ref (a 7), .ref (a 8), .int ((F 5) 3), .int ((F 5) 4), .int ((F 5) 5), .int ((F 5) 6), .int ((F 5) 7), .int ((F 5) 8)])), ((a 6), .inl (cI, 7, .inl (F 6))), ((a 7), .inl (cI, 7, .inl (F 7))), ((a 8), .inl (cI, 7, .inl (F 8))), ((a 9), .inr (4, [.ref (a 10), .int ((F 9) 1), .int ((F 9) 2), .int ((F 9) 3), .int ((F 9) 4)])), ((a 10), .inl (cC, 200, .inl (F 10))), ((b 12), .inr (3, [.int ((F 11) 0), .int ((F 11) 1), .int ((F 11) 2), .int ((F 11) 3), .int ((F 11) 4)])), ((a 12), .inr (3, [.int ((F 12) 0), .int ((F 12) 1), .int ((F 12) 2), .int ((F 12) 3), .int ((F 12) 4)])), ((b 0), .inr (1, [.ref (b 1), .int ((F 13) 1), .int ((F 13) 2)])), ((b 1), .inl (cS, 10, .inr (.inr (.inr (.inr (fun j => some (b (2 + j)))))))), ((b 2), .inr (3, [.int ((F 15) 0), .int ((F 15) 1), .int ((F 15) 2), .int ((F 15) 3), .int ((F 15) 4)])), ((b 3), .inr (3, [.int ((F 16) 0), .int ((F 16) 1), .int ((F 16) 2), .int ((F 16) 3), .int ((F 16) 4)])), ((b 4), .inr (3, [.int ((F 17) 0), .int ((F 17) 1), .int ((F 17) 2), .int ((F 17) 3), .int ((F 17) 4)])), ((b 5), .inr (3, [.int ((F 18) 0), .int ((F 18) 1), .int ((F 18) 2), .int ((F 18) 3), .int ((F 18) 4)])), ((b 6), .inr (3, [.int ((F 19) 0), .int ((F 19) 1), .int ((F 19) 2), .int ((F 19) 3), .int ((F 19) 4)])), ((b 7), .inr (3, [.int ((F 20) 0), .int ((F 20) 1), .int ((F 20) 2), .int ((F 20) 3), .int ((F 20) 4)])), ((b 8), .inr (3, [.int ((F 21) 0), .int ((F 21) 1), .int ((F 21) 2), .int ((F 21) 3), .int ((F 21) 4)])), ((b 9), .inr (3, [.int ((F 22) 0), .int ((F 22) 1), .int ((F 22) 2), .int ((F 22) 3), .int ((F 22) 4)])), ((b 10), .inr (3, [.int ((F 23) 0), .int ((F 23) 1), .int ((F 23) 2), .int ((F 23) 3), .int ((F 23) 4)])), ((b 11), .inr (3, [.int ((F 24) 0), .int ((F 24) 1), .int ((F 24) 2), .int ((F 24) 3), .int ((F 24) 4)])), ((a 25), .inl (cS, 2, .inr (.inr (.inr (.inr (fun j => some (b (13 + j)))))))), ((b 13), .inr (3, [.int ((F 26) 0), .int ((F 26) 1), .int ((F 26) 2), .int ((F 26) 3), .int ((F 26) 4)])), ((b 14), .inr (3, [.int ((F 27) 0), .int ((F 27) 1), .int ((F 27) 2), .int ((F 27) 3), .int ((F 27) 4)])), ((a 28), .inl (cZ, 2, .inl (F 28))), ((a 29), .inr (2, [.ref (a 30), .ref (a 31), .int ((F 29) 2)])), ((a 30), .inl (cI, 6, .inl (F 30))), ((a 31), .inl (cI, 6, .inl (F 31)))]
theorem wFx_ad {cI cC cZ cS : ClassId} {a : Nat → Nat} {b : Nat → Nat} {ox : Nat} {oy : Nat} {F1 : Nat → Nat → Int32} {tc1 : Int64} {F2 : Nat → Nat → Int32} {tc2 : Int64} : (wFx cI cC cZ cS a b F1 tc1 ox oy).map Prod.fst = (wFx cI cC cZ cS a b F2 tc2 ox oy).map Prod.fst := rfl
def d_X5_beginAnew (hf : Nat → Int32) (u : Nat → Int32) (pf : Nat → Int32) (sf : Nat → Int32) (ik : Nat → Int32) : (Nat → Int32) × (Nat → Int32) × (Nat → Int32) × (Nat → Int32) :=
  ((upd (upd (upd (upd (upd u 0 (hf 5)) 1 (hf 4)) 2 0) 3 0) 4 0), (upd pf 2 0), (upd sf 2 0), (upd (upd ik 0 0) 1 0))
set_option maxHeartbeats 4000000 in
set_option maxRecDepth 100000 in
theorem c_X5_beginAnew (l : Launch) (D : va_G) (cI cC cZ cS : ClassId) (a : Nat → Nat) (b : Nat → Nat) (ox : Nat) (oy : Nat) (tA : Nat) (dA : Nat) (eA : Nat) (hf : Nat → Int32) (u : Nat → Int32) (pf : Nat → Int32) (sf : Nat → Int32) (ik : Nat → Int32) (tc : Int64) : Met l yX5_beginAnew wsX5_beginAnew { frames := 0, cells := 0, slots := 0, locals := 0 } (PcE D cI cC cZ cS [.ref (a 0)] (wB cI cC cZ cS a b ox oy tA dA eA hf u pf sf ik tc)) (QcM none D (wB cI cC cZ cS a b ox oy tA dA eA hf u pf sf ik tc) (wB cI cC cZ cS a b ox oy tA dA eA hf ((d_X5_beginAnew hf u pf sf ik).1) ((d_X5_beginAnew hf u pf sf ik).2.1) ((d_X5_beginAnew hf u pf sf ik).2.2.1) ((d_X5_beginAnew hf u pf sf ik).2.2.2) tc)) 0 0 (inW (wB cI cC cZ cS a b ox oy tA dA eA hf u pf sf ik tc)) := by
  refine Met.ofW (cc := cX5_beginAnew) (maxL := 2) (ret := none) (by decide) rfl ?_
  intro p e s m args below meth c s₁ B hml hv
  obtain ⟨rfl, hP, hD, hE⟩ := hv
  have hK := hE.1
  have hx := B.exec
  have hb := B.bytes
  have hr := B.returns
  have hts := atoms_spec (ws := wsX5_beginAnew) B.pre
  have hown : s.vm.findClass RX5 = some m.cls := findClass_of_methodNamed B.named
  have hlocks := B.notSynchronized
  have hinX5 : ∀ w ∈ wsX50, w ∈ wsX5_beginAnew := by decide +kernel
  have hinX0 : ∀ w ∈ wsX00, w ∈ wsX5_beginAnew := by decide +kernel
  have hinX3 : ∀ w ∈ wsX30, w ∈ wsX5_beginAnew := by decide +kernel
  have hinX1 : ∀ w ∈ wsX10, w ∈ wsX5_beginAnew := by decide +kernel
  have hinX2 : ∀ w ∈ wsX20, w ∈ wsX5_beginAnew := by decide +kernel
  have hD := inW_self hD
  have hS : va_S (inW (wB cI cC cZ cS a b ox oy tA dA eA hf u pf sf ik tc)) s.heap s.heap [] := va_S.rf
  generalize hA : inW (wB cI cC cZ cS a b ox oy tA dA eA hf u pf sf ik tc) = A at hD hS ⊢
  refine opq (d_X5_beginAnew hf u pf sf ik) (fun R hres => ?_)
  rw [hres]
  replace hres := hres.symm
  rw [d_X5_beginAnew] at hres
  have hl := lv_entry ([.ref (a 0)]) (n := 2) (Nat.le_of_ble_eq_true rfl)
  rw [lg_entry_eq]
  generalize (lg_sl ([.ref (a 0)]) ++ List.replicate (2 - (lg_sl ([.ref (a 0)])).length) Slot.unset).toArray = ls at hl ⊢
  have hl : lv_has ls 2 [(0, .ref (a 0))] := hl
  refine lv_aload_n hx hb dX5_beginAnew_0 rfl (lv_at hl 0 rfl) ?_
  refine va_get (D := D) (ci := 5) (v := .ref (b 12)) (C := RX5) (T := TX5) (N := 10) hx hb hts hinX5 hown hK hP 0 rfl rfl 3 (by decide) (hts (.fieldLink RX5 29 "FirstOut" "current" "LFirstOut$Standing;") (by decide +kernel)) (fun _ h9 => h9) rfl dX5_beginAnew_1 ?_
  refine lv_aload_n hx hb dX5_beginAnew_4 rfl (lv_at hl 0 rfl) ?_
  refine va_get (D := D) (ci := 5) (v := .ref ox) (C := RX5) (T := TX5) (N := 10) hx hb hts hinX5 hown hK hP 0 rfl rfl 0 (by decide) (hts (.fieldLink RX5 10 "FirstOut" "home" "LFirstOut$House;") (by decide +kernel)) (fun _ h9 => h9) rfl dX5_beginAnew_5 ?_
  refine va_get (D := D) (ci := 0) (v := .int (hf 5)) (C := RX0) (T := TX0) (N := 9) hx hb hts hinX0 hown hK hP 1 rfl rfl 5 (by decide) (hts (.fieldLink RX5 227 "FirstOut$House" "words" "I") (by decide +kernel)) (fun _ h9 => h9) rfl dX5_beginAnew_8 ?_
  refine va_put (D := D) (ci := 3) (v := .int (hf 5)) (ty := .int) (C := RX3) (T := TX3) (N := 5) hx hb hts hinX3 tyX3 tyX3_ok nmX3 hown hK hP hD hS 2 rfl rfl 0 (by decide) (hts (.fieldLink RX5 113 "FirstOut$Standing" "words" "I") (by decide +kernel)) (fun _ h9 => h9) rfl (by decide +kernel) rfl rfl (Nat.le_of_ble_eq_true rfl) dX5_beginAnew_11 (fun H locs hP hD hS => ?_)
  have hP : va_P D vwCl (wB cI cC cZ cS a b ox oy tA dA eA hf (upd u 0 (hf 5)) pf sf ik tc) H := hP
  have hD : va_D A (wB cI cC cZ cS a b ox oy tA dA eA hf (upd u 0 (hf 5)) pf sf ik tc) := hD
  refine lv_aload_n hx hb dX5_beginAnew_14 rfl (lv_at hl 0 rfl) ?_
  refine va_get (D := D) (ci := 5) (v := .ref (b 12)) (C := RX5) (T := TX5) (N := 10) hx hb hts hinX5 hown hK hP 0 rfl rfl 3 (by decide) (hts (.fieldLink RX5 29 "FirstOut" "current" "LFirstOut$Standing;") (by decide +kernel)) (fun _ h9 => h9) rfl dX5_beginAnew_15 ?_
  refine lv_aload_n hx hb dX5_beginAnew_18 rfl (lv_at hl 0 rfl) ?_
  refine va_get (D := D) (ci := 5) (v := .ref ox) (C := RX5) (T := TX5) (N := 10) hx hb hts hinX5 hown hK hP 0 rfl rfl 0 (by decide) (hts (.fieldLink RX5 10 "FirstOut" "home" "LFirstOut$House;") (by decide +kernel)) (fun _ h9 => h9) rfl dX5_beginAnew_19 ?_
  refine va_get (D := D) (ci := 0) (v := .int (hf 4)) (C := RX0) (T := TX0) (N := 9) hx hb hts hinX0 hown hK hP 1 rfl rfl 4 (by decide) (hts (.fieldLink RX5 228 "FirstOut$House" "knowing" "I") (by decide +kernel)) (fun _ h9 => h9) rfl dX5_beginAnew_22 ?_
  refine va_put (D := D) (ci := 3) (v := .int (hf 4)) (ty := .int) (C := RX3) (T := TX3) (N := 5) hx hb hts hinX3 tyX3 tyX3_ok nmX3 hown hK hP hD hS 2 rfl rfl 1 (by decide) (hts (.fieldLink RX5 90 "FirstOut$Standing" "knowing" "I") (by decide +kernel)) (fun _ h9 => h9) rfl (by decide +kernel) rfl rfl (Nat.le_of_ble_eq_true rfl) dX5_beginAnew_25 (fun H locs hP hD hS => ?_)
  have hP : va_P D vwCl (wB cI cC cZ cS a b ox oy tA dA eA hf (upd (upd u 0 (hf 5)) 1 (hf 4)) pf sf ik tc) H := hP
  have hD : va_D A (wB cI cC cZ cS a b ox oy tA dA eA hf (upd (upd u 0 (hf 5)) 1 (hf 4)) pf sf ik tc) := hD
  refine lv_aload_n hx hb dX5_beginAnew_28 rfl (lv_at hl 0 rfl) ?_
  refine va_get (D := D) (ci := 5) (v := .ref (b 12)) (C := RX5) (T := TX5) (N := 10) hx hb hts hinX5 hown hK hP 0 rfl rfl 3 (by decide) (hts (.fieldLink RX5 29 "FirstOut" "current" "LFirstOut$Standing;") (by decide +kernel)) (fun _ h9 => h9) rfl dX5_beginAnew_29 ?_
  refine lv_iconst (v := 0) hx hb dX5_beginAnew_32 (by decide) ?_
  refine va_put (D := D) (ci := 3) (v := .int 0) (ty := .int) (C := RX3) (T := TX3) (N := 5) hx hb hts hinX3 tyX3 tyX3_ok nmX3 hown hK hP hD hS 2 rfl rfl 2 (by decide) (hts (.fieldLink RX5 97 "FirstOut$Standing" "kept" "I") (by decide +kernel)) (fun _ h9 => h9) rfl (by decide +kernel) rfl rfl (Nat.le_of_ble_eq_true rfl) dX5_beginAnew_33 (fun H locs hP hD hS => ?_)
  have hP : va_P D vwCl (wB cI cC cZ cS a b ox oy tA dA eA hf (upd (upd (upd u 0 (hf 5)) 1 (hf 4)) 2 0) pf sf ik tc) H := hP
  have hD : va_D A (wB cI cC cZ cS a b ox oy tA dA eA hf (upd (upd (upd u 0 (hf 5)) 1 (hf 4)) 2 0) pf sf ik tc) := hD
  refine lv_aload_n hx hb dX5_beginAnew_36 rfl (lv_at hl 0 rfl) ?_
  refine va_get (D := D) (ci := 5) (v := .ref (b 12)) (C := RX5) (T := TX5) (N := 10) hx hb hts hinX5 hown hK hP 0 rfl rfl 3 (by decide) (hts (.fieldLink RX5 29 "FirstOut" "current" "LFirstOut$Standing;") (by decide +kernel)) (fun _ h9 => h9) rfl dX5_beginAnew_37 ?_
  refine lv_iconst (v := 0) hx hb dX5_beginAnew_40 (by decide) ?_
  refine va_put (D := D) (ci := 3) (v := .int 0) (ty := .int) (C := RX3) (T := TX3) (N := 5) hx hb hts hinX3 tyX3 tyX3_ok nmX3 hown hK hP hD hS 2 rfl rfl 3 (by decide) (hts (.fieldLink RX5 100 "FirstOut$Standing" "given" "I") (by decide +kernel)) (fun _ h9 => h9) rfl (by decide +kernel) rfl rfl (Nat.le_of_ble_eq_true rfl) dX5_beginAnew_41 (fun H locs hP hD hS => ?_)
  have hP : va_P D vwCl (wB cI cC cZ cS a b ox oy tA dA eA hf (upd (upd (upd (upd u 0 (hf 5)) 1 (hf 4)) 2 0) 3 0) pf sf ik tc) H := hP
  have hD : va_D A (wB cI cC cZ cS a b ox oy tA dA eA hf (upd (upd (upd (upd u 0 (hf 5)) 1 (hf 4)) 2 0) 3 0) pf sf ik tc) := hD
  refine lv_aload_n hx hb dX5_beginAnew_44 rfl (lv_at hl 0 rfl) ?_
  refine va_get (D := D) (ci := 5) (v := .ref (b 12)) (C := RX5) (T := TX5) (N := 10) hx hb hts hinX5 hown hK hP 0 rfl rfl 3 (by decide) (hts (.fieldLink RX5 29 "FirstOut" "current" "LFirstOut$Standing;") (by decide +kernel)) (fun _ h9 => h9) rfl dX5_beginAnew_45 ?_
  refine lv_iconst (v := 0) hx hb dX5_beginAnew_48 (by decide) ?_
  refine va_put (D := D) (ci := 3) (v := .int 0) (ty := .int) (C := RX3) (T := TX3) (N := 5) hx hb hts hinX3 tyX3 tyX3_ok nmX3 hown hK hP hD hS 2 rfl rfl 4 (by decide) (hts (.fieldLink RX5 110 "FirstOut$Standing" "date" "I") (by decide +kernel)) (fun _ h9 => h9) rfl (by decide +kernel) rfl rfl (Nat.le_of_ble_eq_true rfl) dX5_beginAnew_49 (fun H locs hP hD hS => ?_)
  have hP : va_P D vwCl (wB cI cC cZ cS a b ox oy tA dA eA hf (upd (upd (upd (upd (upd u 0 (hf 5)) 1 (hf 4)) 2 0) 3 0) 4 0) pf sf ik tc) H := hP
  have hD : va_D A (wB cI cC cZ cS a b ox oy tA dA eA hf (upd (upd (upd (upd (upd u 0 (hf 5)) 1 (hf 4)) 2 0) 3 0) 4 0) pf sf ik tc) := hD
  refine lv_aload_n hx hb dX5_beginAnew_52 rfl (lv_at hl 0 rfl) ?_
  refine va_get (D := D) (ci := 5) (v := .ref (b 0)) (C := RX5) (T := TX5) (N := 10) hx hb hts hinX5 hown hK hP 0 rfl rfl 5 (by decide) (hts (.fieldLink RX5 39 "FirstOut" "past" "LFirstOut$Past;") (by decide +kernel)) (fun _ h9 => h9) rfl dX5_beginAnew_53 ?_
  refine lv_iconst (v := 0) hx hb dX5_beginAnew_56 (by decide) ?_
  refine va_put (D := D) (ci := 1) (v := .int 0) (ty := .int) (C := RX1) (T := TX1) (N := 3) hx hb hts hinX1 tyX1 tyX1_ok nmX1 hown hK hP hD hS 3 rfl rfl 2 (by decide) (hts (.fieldLink RX5 120 "FirstOut$Past" "known" "I") (by decide +kernel)) (fun _ h9 => h9) rfl (by decide +kernel) rfl rfl (Nat.le_of_ble_eq_true rfl) dX5_beginAnew_57 (fun H locs hP hD hS => ?_)
  have hP : va_P D vwCl (wB cI cC cZ cS a b ox oy tA dA eA hf (upd (upd (upd (upd (upd u 0 (hf 5)) 1 (hf 4)) 2 0) 3 0) 4 0) (upd pf 2 0) sf ik tc) H := hP
  have hD : va_D A (wB cI cC cZ cS a b ox oy tA dA eA hf (upd (upd (upd (upd (upd u 0 (hf 5)) 1 (hf 4)) 2 0) 3 0) 4 0) (upd pf 2 0) sf ik tc) := hD
  refine lv_aload_n hx hb dX5_beginAnew_60 rfl (lv_at hl 0 rfl) ?_
  refine va_get (D := D) (ci := 5) (v := .ref (a 29)) (C := RX5) (T := TX5) (N := 10) hx hb hts hinX5 hown hK hP 0 rfl rfl 8 (by decide) (hts (.fieldLink RX5 54 "FirstOut" "seen" "LFirstOut$Seen;") (by decide +kernel)) (fun _ h9 => h9) rfl dX5_beginAnew_61 ?_
  refine lv_iconst (v := 0) hx hb dX5_beginAnew_64 (by decide) ?_
  refine va_put (D := D) (ci := 2) (v := .int 0) (ty := .int) (C := RX2) (T := TX2) (N := 3) hx hb hts hinX2 tyX2 tyX2_ok nmX2 hown hK hP hD hS 4 rfl rfl 2 (by decide) (hts (.fieldLink RX5 193 "FirstOut$Seen" "known" "I") (by decide +kernel)) (fun _ h9 => h9) rfl (by decide +kernel) rfl rfl (Nat.le_of_ble_eq_true rfl) dX5_beginAnew_65 (fun H locs hP hD hS => ?_)
  have hP : va_P D vwCl (wB cI cC cZ cS a b ox oy tA dA eA hf (upd (upd (upd (upd (upd u 0 (hf 5)) 1 (hf 4)) 2 0) 3 0) 4 0) (upd pf 2 0) (upd sf 2 0) ik tc) H := hP
  have hD : va_D A (wB cI cC cZ cS a b ox oy tA dA eA hf (upd (upd (upd (upd (upd u 0 (hf 5)) 1 (hf 4)) 2 0) 3 0) 4 0) (upd pf 2 0) (upd sf 2 0) ik tc) := hD
  refine lv_iconst (v := 0) hx hb dX5_beginAnew_68 (by decide) ?_
  refine lv_istore_n (lv' := [(1, .int 0), (0, .ref (a 0))]) hx hb dX5_beginAnew_69 rfl hl (by decide) rfl (fun ls hl => ?_)
  refine lv_iload_n hx hb dX5_beginAnew_70 rfl (lv_at hl 0 rfl) ?_
  refine lv_iconst (v := 2) hx hb dX5_beginAnew_71 (by decide) ?_
  refine lv_icmp_ge (tgt := 88) hx hb dX5_beginAnew_72 (by decide) (fun c_1 => ?_) (fun c_1 => ?_)
  · exact absurd c_1 (by decide)
  · skip
    refine lv_aload_n hx hb dX5_beginAnew_75 rfl (lv_at hl 1 rfl) ?_
    refine va_get (D := D) (ci := 5) (v := .ref (a 28)) (C := RX5) (T := TX5) (N := 10) hx hb hts hinX5 hown hK hP 0 rfl rfl 7 (by decide) (hts (.fieldLink RX5 47 "FirstOut" "imageKept" "[Z") (by decide +kernel)) (fun _ h9 => h9) rfl dX5_beginAnew_76 ?_
    refine lv_iload_n hx hb dX5_beginAnew_79 rfl (lv_at hl 0 rfl) ?_
    refine lv_iconst (v := 0) hx hb dX5_beginAnew_80 (by decide) ?_
    refine m_zast (y := 0) hx hb hK hP hD hS 5 2 rfl rfl 0 rfl (by decide) (by decide) rfl dX5_beginAnew_81 (fun H locs hP hD hS => ?_)
    have hP : va_P D vwCl (wB cI cC cZ cS a b ox oy tA dA eA hf (upd (upd (upd (upd (upd u 0 (hf 5)) 1 (hf 4)) 2 0) 3 0) 4 0) (upd pf 2 0) (upd sf 2 0) (upd ik 0 0) tc) H := hP
    have hD : va_D A (wB cI cC cZ cS a b ox oy tA dA eA hf (upd (upd (upd (upd (upd u 0 (hf 5)) 1 (hf 4)) 2 0) 3 0) 4 0) (upd pf 2 0) (upd sf 2 0) (upd ik 0 0) tc) := hD
    refine lv_iinc (v := 1) (lv' := [(1, .int 1), (0, .ref (a 0))]) hx hb dX5_beginAnew_82 hl (k := 0) rfl (by rfl) (by decide) rfl (fun ls hl => ?_)
    refine lv_goto (tgt := 70) hx hb dX5_beginAnew_85 (by decide) ?_
    refine lv_iload_n hx hb dX5_beginAnew_70 rfl (lv_at hl 0 rfl) ?_
    refine lv_iconst (v := 2) hx hb dX5_beginAnew_71 (by decide) ?_
    refine lv_icmp_ge (tgt := 88) hx hb dX5_beginAnew_72 (by decide) (fun c_2 => ?_) (fun c_2 => ?_)
    · exact absurd c_2 (by decide)
    · skip
      refine lv_aload_n hx hb dX5_beginAnew_75 rfl (lv_at hl 1 rfl) ?_
      refine va_get (D := D) (ci := 5) (v := .ref (a 28)) (C := RX5) (T := TX5) (N := 10) hx hb hts hinX5 hown hK hP 0 rfl rfl 7 (by decide) (hts (.fieldLink RX5 47 "FirstOut" "imageKept" "[Z") (by decide +kernel)) (fun _ h9 => h9) rfl dX5_beginAnew_76 ?_
      refine lv_iload_n hx hb dX5_beginAnew_79 rfl (lv_at hl 0 rfl) ?_
      refine lv_iconst (v := 0) hx hb dX5_beginAnew_80 (by decide) ?_
      refine m_zast (y := 0) hx hb hK hP hD hS 5 2 rfl rfl 1 rfl (by decide) (by decide) rfl dX5_beginAnew_81 (fun H locs hP hD hS => ?_)
      have hP : va_P D vwCl (wB cI cC cZ cS a b ox oy tA dA eA hf (upd (upd (upd (upd (upd u 0 (hf 5)) 1 (hf 4)) 2 0) 3 0) 4 0) (upd pf 2 0) (upd sf 2 0) (upd (upd ik 0 0) 1 0) tc) H := hP
      have hD : va_D A (wB cI cC cZ cS a b ox oy tA dA eA hf (upd (upd (upd (upd (upd u 0 (hf 5)) 1 (hf 4)) 2 0) 3 0) 4 0) (upd pf 2 0) (upd sf 2 0) (upd (upd ik 0 0) 1 0) tc) := hD
      refine lv_iinc (v := 2) (lv' := [(1, .int 2), (0, .ref (a 0))]) hx hb dX5_beginAnew_82 hl (k := 0) rfl (by rfl) (by decide) rfl (fun ls hl => ?_)
      refine lv_goto (tgt := 70) hx hb dX5_beginAnew_85 (by decide) ?_
      refine lv_iload_n hx hb dX5_beginAnew_70 rfl (lv_at hl 0 rfl) ?_
      refine lv_iconst (v := 2) hx hb dX5_beginAnew_71 (by decide) ?_
      refine lv_icmp_ge (tgt := 88) hx hb dX5_beginAnew_72 (by decide) (fun c_3 => ?_) (fun c_3 => ?_)
      · skip
        rw [hres]
        exact W.vret hx hb hr (fun t ht hW => ⟨rfl, by rw [ht]; exact hP, by rw [hA]; exact hS.F ht⟩) hS.2.2 dX5_beginAnew_88
      · exact absurd c_3 (by decide)
def d_X5_house (F : Nat → Nat → Int32) (len : Nat) : Int32 × (Nat → Nat → Int32) :=
  if 0 ≤ ((d_X4_readInto (F 9) (F 10) (F 5) (F 6) (F 7) (F 8) len).1) then
      ((d_X4_readInto (F 9) (F 10) (F 5) (F 6) (F 7) (F 8) len).1, (va_up (va_up (va_up (va_up (va_up (va_up (va_up (va_up (va_up F 5 ((d_X4_readInto (F 9) (F 10) (F 5) (F 6) (F 7) (F 8) len).2.2.1)) 6 ((d_X4_readInto (F 9) (F 10) (F 5) (F 6) (F 7) (F 8) len).2.2.2.1)) 7 ((d_X4_readInto (F 9) (F 10) (F 5) (F 6) (F 7) (F 8) len).2.2.2.2.1)) 8 ((d_X4_readInto (F 9) (F 10) (F 5) (F 6) (F 7) (F 8) len).2.2.2.2.2)) 9 (upd ((d_X4_readInto (F 9) (F 10) (F 5) (F 6) (F 7) (F 8) len).2.1) 1 0)) 11 ((d_X5_beginAnew ((d_X4_readInto (F 9) (F 10) (F 5) (F 6) (F 7) (F 8) len).2.2.1) (F 11) (F 13) (F 29) (F 28)).1)) 13 ((d_X5_beginAnew ((d_X4_readInto (F 9) (F 10) (F 5) (F 6) (F 7) (F 8) len).2.2.1) (F 11) (F 13) (F 29) (F 28)).2.1)) 28 ((d_X5_beginAnew ((d_X4_readInto (F 9) (F 10) (F 5) (F 6) (F 7) (F 8) len).2.2.1) (F 11) (F 13) (F 29) (F 28)).2.2.2)) 29 ((d_X5_beginAnew ((d_X4_readInto (F 9) (F 10) (F 5) (F 6) (F 7) (F 8) len).2.2.1) (F 11) (F 13) (F 29) (F 28)).2.2.1)))
    else
      ((d_X4_readInto (F 9) (F 10) (F 5) (F 6) (F 7) (F 8) len).1, (va_up (va_up (va_up (va_up (va_up F 5 ((d_X4_readInto (F 9) (F 10) (F 5) (F 6) (F 7) (F 8) len).2.2.1)) 6 ((d_X4_readInto (F 9) (F 10) (F 5) (F 6) (F 7) (F 8) len).2.2.2.1)) 7 ((d_X4_readInto (F 9) (F 10) (F 5) (F 6) (F 7) (F 8) len).2.2.2.2.1)) 8 ((d_X4_readInto (F 9) (F 10) (F 5) (F 6) (F 7) (F 8) len).2.2.2.2.2)) 9 ((d_X4_readInto (F 9) (F 10) (F 5) (F 6) (F 7) (F 8) len).2.1)))
set_option maxHeartbeats 4000000 in
set_option maxRecDepth 100000 in
theorem c_X5_house (l : Launch) (D : va_G) (cI cC cZ cS : ClassId) (a : Nat → Nat) (b : Nat → Nat) (F : Nat → Nat → Int32) (tc : Int64) (len : Nat) (hle : F 9 1 = nI len) (h200 : len ≤ 200) : Met l yX5_house wsX5_house { frames := 5, cells := 0, slots := 0, locals := 112 } (PcE D cI cC cZ cS [.ref (a 0)] (wFx cI cC cZ cS a b F tc (a 1) (a 5))) (QcM (some (.int ((d_X5_house F len).1))) D (wFx cI cC cZ cS a b F tc (a 1) (a 5)) (wFx cI cC cZ cS a b ((d_X5_house F len).2) tc (if 0 ≤ (d_X5_house F len).1 then a 5 else a 1) (if 0 ≤ (d_X5_house F len).1 then a 1 else a 5))) 0 0 (inW (wFx cI cC cZ cS a b F tc (a 1) (a 5))) := by
  refine Met.ofW (cc := cX5_house) (maxL := 3) (ret := (some .int)) (by decide) rfl ?_
  intro p e s m args below meth c s₁ B hml hv
  obtain ⟨rfl, hP, hD, hE⟩ := hv
  have hK := hE.1
  have hx := B.exec
  have hb := B.bytes
  have hr := B.returns
  have hts := atoms_spec (ws := wsX5_house) B.pre
  have hown : s.vm.findClass RX5 = some m.cls := findClass_of_methodNamed B.named
  have hlocks := B.notSynchronized
  have hinX5 : ∀ w ∈ wsX50, w ∈ wsX5_house := by decide +kernel
  have hinX4 : ∀ w ∈ wsX40, w ∈ wsX5_house := by decide +kernel
  have hD := inW_self hD
  have hS : va_S (inW (wFx cI cC cZ cS a b F tc (a 1) (a 5))) s.heap s.heap [] := va_S.rf
  generalize hA : inW (wFx cI cC cZ cS a b F tc (a 1) (a 5)) = A at hD hS ⊢
  refine opq (d_X5_house F len) (fun R hres => ?_)
  rw [hres]
  replace hres := hres.symm
  rw [d_X5_house] at hres
  have hl := lv_entry ([.ref (a 0)]) (n := 3) (Nat.le_of_ble_eq_true rfl)
  rw [lg_entry_eq]
  generalize (lg_sl ([.ref (a 0)]) ++ List.replicate (3 - (lg_sl ([.ref (a 0)])).length) Slot.unset).toArray = ls at hl ⊢
  have hl : lv_has ls 3 [(0, .ref (a 0))] := hl
  refine lv_aload_n hx hb dX5_house_0 rfl (lv_at hl 0 rfl) ?_
  refine va_get (D := D) (ci := 5) (v := .ref (a 9)) (C := RX5) (T := TX5) (N := 10) hx hb hts hinX5 hown hK hP 0 rfl rfl 2 (by decide) (hts (.fieldLink RX5 22 "FirstOut" "text" "LFirstOut$Text;") (by decide +kernel)) (fun _ h9 => h9) rfl dX5_house_1 ?_
  refine lv_aload_n hx hb dX5_house_4 rfl (lv_at hl 0 rfl) ?_
  refine va_get (D := D) (ci := 5) (v := .ref (a 5)) (C := RX5) (T := TX5) (N := 10) hx hb hts hinX5 hown hK hP 0 rfl rfl 1 (by decide) (hts (.fieldLink RX5 16 "FirstOut" "draft" "LFirstOut$House;") (by decide +kernel)) (fun _ h9 => h9) rfl dX5_house_5 ?_
  have hPc := hP.sub (ws' := (wTH cI cC cZ cS (a 9) (a 10) (a 5) (a 6) (a 7) (a 8) (F 9) (F 10) (F 5) (F 6) (F 7) (F 8))) [9, 10, 5, 6, 7, 8] rfl
  have hDc := hD.sub (ws' := (wTH cI cC cZ cS (a 9) (a 10) (a 5) (a 6) (a 7) (a 8) (F 9) (F 10) (F 5) (F 6) (F 7) (F 8))) [9, 10, 5, 6, 7, 8] (by decide) rfl
  refine m_callM (W.runV (As := [.ref (a 5)]) (rest := []) ⟨hx, hb, hml, hown, hts⟩ (c_X4_readInto l D cI cC cZ cS (a 9) (a 10) (a 5) (a 6) (a 7) (a 8) (F 9) (F 10) (F 5) (F 6) (F 7) (F 8) len hle h200) (cwV 1 hts gX5_house_X4_readInto rfl rfl rfl (by decide +kernel) ⟨Nat.le_of_ble_eq_true rfl, Nat.le_of_ble_eq_true rfl⟩) (preV_of hPc hDc hE (va_recv hK hPc (ci := 4) (q0 := 0) rfl rfl)) rfl rfl hl.1 rfl (lv_room (Nat.le_of_ble_eq_true rfl)) dX5_house_8 ⟨Nat.zero_le _, Nat.zero_le _⟩) hP hD hS [9, 10, 5, 6, 7, 8] rfl wTH_ad (fun H locs hP hD hS => ?_)
  have hP : va_P D vwCl (wFx cI cC cZ cS a b (va_up (va_up (va_up (va_up (va_up F 5 ((d_X4_readInto (F 9) (F 10) (F 5) (F 6) (F 7) (F 8) len).2.2.1)) 6 ((d_X4_readInto (F 9) (F 10) (F 5) (F 6) (F 7) (F 8) len).2.2.2.1)) 7 ((d_X4_readInto (F 9) (F 10) (F 5) (F 6) (F 7) (F 8) len).2.2.2.2.1)) 8 ((d_X4_readInto (F 9) (F 10) (F 5) (F 6) (F 7) (F 8) len).2.2.2.2.2)) 9 ((d_X4_readInto (F 9) (F 10) (F 5) (F 6) (F 7) (F 8) len).2.1)) tc (a 1) (a 5)) H := hP
  have hD : va_D A (wFx cI cC cZ cS a b (va_up (va_up (va_up (va_up (va_up F 5 ((d_X4_readInto (F 9) (F 10) (F 5) (F 6) (F 7) (F 8) len).2.2.1)) 6 ((d_X4_readInto (F 9) (F 10) (F 5) (F 6) (F 7) (F 8) len).2.2.2.1)) 7 ((d_X4_readInto (F 9) (F 10) (F 5) (F 6) (F 7) (F 8) len).2.2.2.2.1)) 8 ((d_X4_readInto (F 9) (F 10) (F 5) (F 6) (F 7) (F 8) len).2.2.2.2.2)) 9 ((d_X4_readInto (F 9) (F 10) (F 5) (F 6) (F 7) (F 8) len).2.1)) tc (a 1) (a 5)) := hD
  refine W.eq (g2 := F0 m 11 ls [.int ((d_X4_readInto (F 9) (F 10) (F 5) (F 6) (F 7) (F 8) len).1)]) rfl ?_
  refine opq (d_X4_readInto (F 9) (F 10) (F 5) (F 6) (F 7) (F 8) len) (fun r_1 hr_1 => ?_)
  try rw [hr_1] at hP
  try rw [hr_1] at hD
  try rw [hr_1] at hres
  try rw [hr_1]
  refine lv_istore_n (lv' := [(1, .int r_1.1), (0, .ref (a 0))]) hx hb dX5_house_11 rfl hl (by decide) rfl (fun ls hl => ?_)
  refine lv_iload_n hx hb dX5_house_12 rfl (lv_at hl 0 rfl) ?_
  refine lv_if_ge (tgt := 18) hx hb dX5_house_13 (by decide) (fun c_2 => ?_) (fun c_2 => ?_)
  · skip
    rw [if_pos c_2] at hres
    have hc := c_2
    refine lv_aload_n hx hb dX5_house_18 rfl (lv_at hl 1 rfl) ?_
    refine va_get (D := D) (ci := 5) (v := .ref (a 1)) (C := RX5) (T := TX5) (N := 10) hx hb hts hinX5 hown hK hP 0 rfl rfl 0 (by decide) (hts (.fieldLink RX5 10 "FirstOut" "home" "LFirstOut$House;") (by decide +kernel)) (fun _ h9 => h9) rfl dX5_house_19 ?_
    refine lv_astore_n (lv' := [(2, .ref (a 1)), (1, .int r_1.1), (0, .ref (a 0))]) hx hb dX5_house_22 rfl hl (by decide) rfl (fun ls hl => ?_)
    refine lv_aload_n hx hb dX5_house_23 rfl (lv_at hl 2 rfl) ?_
    refine lv_aload_n hx hb dX5_house_24 rfl (lv_at hl 2 rfl) ?_
    refine va_get (D := D) (ci := 5) (v := .ref (a 5)) (C := RX5) (T := TX5) (N := 10) hx hb hts hinX5 hown hK hP 0 rfl rfl 1 (by decide) (hts (.fieldLink RX5 16 "FirstOut" "draft" "LFirstOut$House;") (by decide +kernel)) (fun _ h9 => h9) rfl dX5_house_25 ?_
    refine va_put (D := D) (ci := 5) (v := .ref (a 5)) (ty := .object "FirstOut$House") (C := RX5) (T := TX5) (N := 10) hx hb hts hinX5 tyX5 tyX5_ok nmX5 hown hK hP hD hS 0 rfl rfl 0 (by decide) (hts (.fieldLink RX5 10 "FirstOut" "home" "LFirstOut$House;") (by decide +kernel)) (fun _ h9 => h9) rfl (by decide +kernel) rfl rfl (Nat.le_of_ble_eq_true rfl) dX5_house_28 (fun H locs hP hD hS => ?_)
    have hP : va_P D vwCl (wFx cI cC cZ cS a b (va_up (va_up (va_up (va_up (va_up F 5 r_1.2.2.1) 6 r_1.2.2.2.1) 7 r_1.2.2.2.2.1) 8 r_1.2.2.2.2.2) 9 r_1.2.1) tc (a 5) (a 5)) H := hP
    have hD : va_D A (wFx cI cC cZ cS a b (va_up (va_up (va_up (va_up (va_up F 5 r_1.2.2.1) 6 r_1.2.2.2.1) 7 r_1.2.2.2.2.1) 8 r_1.2.2.2.2.2) 9 r_1.2.1) tc (a 5) (a 5)) := hD
    refine lv_aload_n hx hb dX5_house_31 rfl (lv_at hl 2 rfl) ?_
    refine lv_aload_n hx hb dX5_house_32 rfl (lv_at hl 0 rfl) ?_
    refine va_put (D := D) (ci := 5) (v := .ref (a 1)) (ty := .object "FirstOut$House") (C := RX5) (T := TX5) (N := 10) hx hb hts hinX5 tyX5 tyX5_ok nmX5 hown hK hP hD hS 0 rfl rfl 1 (by decide) (hts (.fieldLink RX5 16 "FirstOut" "draft" "LFirstOut$House;") (by decide +kernel)) (fun _ h9 => h9) rfl (by decide +kernel) rfl rfl (Nat.le_of_ble_eq_true rfl) dX5_house_33 (fun H locs hP hD hS => ?_)
    have hP : va_P D vwCl (wFx cI cC cZ cS a b (va_up (va_up (va_up (va_up (va_up F 5 r_1.2.2.1) 6 r_1.2.2.2.1) 7 r_1.2.2.2.2.1) 8 r_1.2.2.2.2.2) 9 r_1.2.1) tc (a 5) (a 1)) H := hP
    have hD : va_D A (wFx cI cC cZ cS a b (va_up (va_up (va_up (va_up (va_up F 5 r_1.2.2.1) 6 r_1.2.2.2.1) 7 r_1.2.2.2.2.1) 8 r_1.2.2.2.2.2) 9 r_1.2.1) tc (a 5) (a 1)) := hD
    refine lv_aload_n hx hb dX5_house_36 rfl (lv_at hl 2 rfl) ?_
    refine va_get (D := D) (ci := 5) (v := .ref (a 9)) (C := RX5) (T := TX5) (N := 10) hx hb hts hinX5 hown hK hP 0 rfl rfl 2 (by decide) (hts (.fieldLink RX5 22 "FirstOut" "text" "LFirstOut$Text;") (by decide +kernel)) (fun _ h9 => h9) rfl dX5_house_37 ?_
    refine lv_iconst (v := 0) hx hb dX5_house_40 (by decide) ?_
    refine va_put (D := D) (ci := 4) (v := .int 0) (ty := .int) (C := RX4) (T := TX4) (N := 5) hx hb hts hinX4 tyX4 tyX4_ok nmX4 hown hK hP hD hS 9 rfl rfl 1 (by decide) (hts (.fieldLink RX5 66 "FirstOut$Text" "length" "I") (by decide +kernel)) (fun _ h9 => h9) rfl (by decide +kernel) rfl rfl (Nat.le_of_ble_eq_true rfl) dX5_house_41 (fun H locs hP hD hS => ?_)
    have hP : va_P D vwCl (wFx cI cC cZ cS a b (va_up (va_up (va_up (va_up (va_up F 5 r_1.2.2.1) 6 r_1.2.2.2.1) 7 r_1.2.2.2.2.1) 8 r_1.2.2.2.2.2) 9 (upd r_1.2.1 1 0)) tc (a 5) (a 1)) H := hP
    have hD : va_D A (wFx cI cC cZ cS a b (va_up (va_up (va_up (va_up (va_up F 5 r_1.2.2.1) 6 r_1.2.2.2.1) 7 r_1.2.2.2.2.1) 8 r_1.2.2.2.2.2) 9 (upd r_1.2.1 1 0)) tc (a 5) (a 1)) := hD
    refine lv_aload_n hx hb dX5_house_44 rfl (lv_at hl 2 rfl) ?_
    have hPc := hP.sub (ws' := (wB cI cC cZ cS a b (a 5) (a 1) (a 6) (a 7) (a 8) r_1.2.2.1 (F 11) (F 13) (F 29) (F 28) tc)) [0, 5, 11, 13, 29, 28] rfl
    have hDc := hD.sub (ws' := (wB cI cC cZ cS a b (a 5) (a 1) (a 6) (a 7) (a 8) r_1.2.2.1 (F 11) (F 13) (F 29) (F 28) tc)) [0, 5, 11, 13, 29, 28] (by decide) rfl
    refine m_callM (W.runV (As := []) (rest := []) ⟨hx, hb, hml, hown, hts⟩ (c_X5_beginAnew l D cI cC cZ cS a b (a 5) (a 1) (a 6) (a 7) (a 8) r_1.2.2.1 (F 11) (F 13) (F 29) (F 28) tc) (cwV 0 hts gX5_house_X5_beginAnew rfl rfl rfl (by decide +kernel) ⟨Nat.le_of_ble_eq_true rfl, Nat.le_of_ble_eq_true rfl⟩) (preV_of hPc hDc hE (va_recv hK hPc (ci := 5) (q0 := 0) rfl rfl)) rfl rfl hl.1 rfl (lv_room (Nat.le_of_ble_eq_true rfl)) dX5_house_45 ⟨Nat.zero_le _, Nat.zero_le _⟩) hP hD hS [0, 5, 11, 13, 29, 28] rfl wB_ad (fun H locs hP hD hS => ?_)
    have hP : va_P D vwCl (wFx cI cC cZ cS a b (va_up (va_up (va_up (va_up (va_up (va_up (va_up (va_up (va_up F 5 r_1.2.2.1) 6 r_1.2.2.2.1) 7 r_1.2.2.2.2.1) 8 r_1.2.2.2.2.2) 9 (upd r_1.2.1 1 0)) 11 ((d_X5_beginAnew r_1.2.2.1 (F 11) (F 13) (F 29) (F 28)).1)) 13 ((d_X5_beginAnew r_1.2.2.1 (F 11) (F 13) (F 29) (F 28)).2.1)) 28 ((d_X5_beginAnew r_1.2.2.1 (F 11) (F 13) (F 29) (F 28)).2.2.2)) 29 ((d_X5_beginAnew r_1.2.2.1 (F 11) (F 13) (F 29) (F 28)).2.2.1)) tc (a 5) (a 1)) H := hP
    have hD : va_D A (wFx cI cC cZ cS a b (va_up (va_up (va_up (va_up (va_up (va_up (va_up (va_up (va_up F 5 r_1.2.2.1) 6 r_1.2.2.2.1) 7 r_1.2.2.2.2.1) 8 r_1.2.2.2.2.2) 9 (upd r_1.2.1 1 0)) 11 ((d_X5_beginAnew r_1.2.2.1 (F 11) (F 13) (F 29) (F 28)).1)) 13 ((d_X5_beginAnew r_1.2.2.1 (F 11) (F 13) (F 29) (F 28)).2.1)) 28 ((d_X5_beginAnew r_1.2.2.1 (F 11) (F 13) (F 29) (F 28)).2.2.2)) 29 ((d_X5_beginAnew r_1.2.2.1 (F 11) (F 13) (F 29) (F 28)).2.2.1)) tc (a 5) (a 1)) := hD
    refine W.eq (g2 := F0 m 48 ls []) rfl ?_
    refine opq (d_X5_beginAnew r_1.2.2.1 (F 11) (F 13) (F 29) (F 28)) (fun r_3 hr_3 => ?_)
    try rw [hr_3] at hP
    try rw [hr_3] at hD
    try rw [hr_3] at hres
    try rw [hr_3]
    refine lv_iload_n hx hb dX5_house_48 rfl (lv_at hl 1 rfl) ?_
    rw [hres]
    exact W.iret (v := r_1.1) hx hb hr (fun t ht hW => ⟨rfl, by rw [ht]; dsimp only; rw [if_pos hc]; rw [if_pos hc]; exact hP, by rw [hA]; exact hS.F ht⟩) hS.2.2 dX5_house_49
  · skip
    rw [if_neg c_2] at hres
    have hc := c_2
    refine lv_iload_n hx hb dX5_house_16 rfl (lv_at hl 0 rfl) ?_
    rw [hres]
    exact W.iret (v := r_1.1) hx hb hr (fun t ht hW => ⟨rfl, by rw [ht]; dsimp only; rw [if_neg hc]; rw [if_neg hc]; exact hP, by rw [hA]; exact hS.F ht⟩) hS.2.2 dX5_house_17
