theorem hasRoom_lt {hf : Nat → Int32} {n : Nat} (c : ¬ d_X0_hasRoom hf = 0) (hn : hf 3 = nI n) (h7 : n ≤ 7) : n < 7 := by
  rcases Nat.lt_or_ge n 7 with q | q
  · exact q
  · exact absurd (by rw [d_X0_hasRoom, hn, if_pos (show (7 : Int32) ≤ nI n from nI_le (a := 7) q (by omega))]) c
theorem last9 {x : Int32} {nx : Nat} (h : x = nI nx) (h10 : nx < 10) (c0 : ¬ x = 0) (c1 : ¬ x = 1) (c2 : ¬ x = 2) (c3 : ¬ x = 3) (c4 : ¬ x = 4) (c5 : ¬ x = 5) (c6 : ¬ x = 6) (c7 : ¬ x = 7) (c8 : ¬ x = 8) : x = 9 := by
  subst h
  match nx, h10 with
  | 0, _ => exact absurd rfl c0
  | 1, _ => exact absurd rfl c1
  | 2, _ => exact absurd rfl c2
  | 3, _ => exact absurd rfl c3
  | 4, _ => exact absurd rfl c4
  | 5, _ => exact absurd rfl c5
  | 6, _ => exact absurd rfl c6
  | 7, _ => exact absurd rfl c7
  | 8, _ => exact absurd rfl c8
  | 9, _ => rfl
  | k + 10, h => omega

def wS2 (cI cC cZ cS : ClassId) (sA : Nat) (oA : Nat) (u : Nat → Int32) (v : Nat → Int32) : va_W := [(sA, .inr (3, [.int (u 0), .int (u 1), .int (u 2), .int (u 3), .int (u 4)])), (oA, .inr (3, [.int (v 0), .int (v 1), .int (v 2), .int (v 3), .int (v 4)]))]
theorem wS2_ad {cI cC cZ cS : ClassId} {sA : Nat} {oA : Nat} {u1 : Nat → Int32} {v1 : Nat → Int32} {u2 : Nat → Int32} {v2 : Nat → Int32} : (wS2 cI cC cZ cS sA oA u1 v1).map Prod.fst = (wS2 cI cC cZ cS sA oA u2 v2).map Prod.fst := rfl
def wN (cI cC cZ cS : ClassId) (nA : Nat) (wA : Nat) (gA : Nat) (sf : Nat → Int32) (wh : Nat → Int32) (gv : Nat → Int32) : va_W := [(nA, .inr (2, [.ref wA, .ref gA, .int (sf 2)])), (wA, .inl (cI, 6, .inl wh)), (gA, .inl (cI, 6, .inl gv))]
theorem wN_ad {cI cC cZ cS : ClassId} {nA : Nat} {wA : Nat} {gA : Nat} {sf1 : Nat → Int32} {wh1 : Nat → Int32} {gv1 : Nat → Int32} {sf2 : Nat → Int32} {wh2 : Nat → Int32} {gv2 : Nat → Int32} : (wN cI cC cZ cS nA wA gA sf1 wh1 gv1).map Prod.fst = (wN cI cC cZ cS nA wA gA sf2 wh2 gv2).map Prod.fst := rfl
def wP (cI cC cZ cS : ClassId) (b : Nat → Nat) (G : Nat → Nat → Int32) : va_W := [((b 0), .inr (1, [.ref (b 1), .int ((G 0) 1), .int ((G 0) 2)])), ((b 1), .inl (cS, 10, .inr (.inr (.inr (.inr (fun j => some (b (2 + j)))))))), ((b 2), .inr (3, [.int ((G 2) 0), .int ((G 2) 1), .int ((G 2) 2), .int ((G 2) 3), .int ((G 2) 4)])), ((b 3), .inr (3, [.int ((G 3) 0), .int ((G 3) 1), .int ((G 3) 2), .int ((G 3) 3), .int ((G 3) 4)])), ((b 4), .inr (3, [.int ((G 4) 0), .int ((G 4) 1), .int ((G 4) 2), .int ((G 4) 3), .int ((G 4) 4)])), ((b 5), .inr (3, [.int ((G 5) 0), .int ((G 5) 1), .int ((G 5) 2), .int ((G 5) 3), .int ((G 5) 4)])), ((b 6), .inr (3, [.int ((G 6) 0), .int ((G 6) 1), .int ((G 6) 2), .int ((G 6) 3), .int ((G 6) 4)])), ((b 7), .inr (3, [.int ((G 7) 0), .int ((G 7) 1), .int ((G 7) 2), .int ((G 7) 3), .int ((G 7) 4)])), ((b 8), .inr (3, [.int ((G 8) 0), .int ((G 8) 1), .int ((G 8) 2), .int ((G 8) 3), .int ((G 8) 4)])), ((b 9), .inr (3, [.int ((G 9) 0), .int ((G 9) 1), .int ((G 9) 2), .int ((G 9) 3), .int ((G 9) 4)])), ((b 10), .inr (3, [.int ((G 10) 0), .int ((G 10) 1), .int ((G 10) 2), .int ((G 10) 3), .int ((G 10) 4)])), ((b 11), .inr (3, [.int ((G 11) 0), .int ((G 11) 1), .int ((G 11) 2), .int ((G 11) 3), .int ((G 11) 4)])), ((b 12), .inr (3, [.int ((G 12) 0), .int ((G 12) 1), .int ((G 12) 2), .int ((G 12) 3), .int ((G 12) 4)]))]
theorem wP_ad {cI cC cZ cS : ClassId} {b : Nat → Nat} {G1 : Nat → Nat → Int32} {G2 : Nat → Nat → Int32} : (wP cI cC cZ cS b G1).map Prod.fst = (wP cI cC cZ cS b G2).map Prod.fst := rfl
def d_X0_setBare (hf : Nat → Int32) : (Nat → Int32) :=
  (upd (upd (upd (upd (upd (upd hf 3 0) 4 0) 5 0) 6 5) 7 0) 8 100)
set_option maxHeartbeats 4000000 in
set_option maxRecDepth 100000 in
theorem c_X0_setBare (l : Launch) (D : va_G) (cI cC cZ cS : ClassId) (h : Nat) (tA : Nat) (dA : Nat) (eA : Nat) (hf : Nat → Int32) (tr : Nat → Int32) (de : Nat → Int32) (ea : Nat → Int32) : Met l yX0_setBare wsX0_setBare { frames := 0, cells := 0, slots := 0, locals := 0 } (PcE D cI cC cZ cS [.ref h] (wH cI cC cZ cS h tA dA eA hf tr de ea)) (QcM none D (wH cI cC cZ cS h tA dA eA hf tr de ea) (wH cI cC cZ cS h tA dA eA (d_X0_setBare hf) tr de ea)) 0 0 (inW (wH cI cC cZ cS h tA dA eA hf tr de ea)) := by
  refine Met.ofW (cc := cX0_setBare) (maxL := 1) (ret := none) (by decide) rfl ?_
  intro p e s m args below meth c s₁ B hml hv
  obtain ⟨rfl, hP, hD, hE⟩ := hv
  have hK := hE.1
  have hx := B.exec
  have hb := B.bytes
  have hr := B.returns
  have hts := atoms_spec (ws := wsX0_setBare) B.pre
  have hown : s.vm.findClass RX0 = some m.cls := findClass_of_methodNamed B.named
  have hlocks := B.notSynchronized
  have hinX0 : ∀ w ∈ wsX00, w ∈ wsX0_setBare := by decide +kernel
  have hD := inW_self hD
  have hS : va_S (inW (wH cI cC cZ cS h tA dA eA hf tr de ea)) s.heap s.heap [] := va_S.rf
  generalize hA : inW (wH cI cC cZ cS h tA dA eA hf tr de ea) = A at hD hS ⊢
  refine opq (d_X0_setBare hf) (fun R hres => ?_)
  rw [hres]
  replace hres := hres.symm
  rw [d_X0_setBare] at hres
  have hl := lv_entry ([.ref h]) (n := 1) (Nat.le_of_ble_eq_true rfl)
  rw [lg_entry_eq]
  generalize (lg_sl ([.ref h]) ++ List.replicate (1 - (lg_sl ([.ref h])).length) Slot.unset).toArray = ls at hl ⊢
  have hl : lv_has ls 1 [(0, .ref h)] := hl
  refine lv_aload_n hx hb dX0_setBare_0 rfl (lv_at hl 0 rfl) ?_
  refine lv_iconst (v := 0) hx hb dX0_setBare_1 (by decide) ?_
  refine va_put (D := D) (ci := 0) (v := .int 0) (ty := .int) (C := RX0) (T := TX0) (N := 9) hx hb hts hinX0 tyX0 tyX0_ok nmX0 hown hK hP hD hS 0 rfl rfl 3 (by decide) (hts (.fieldLink RX0 24 "FirstOut$House" "things" "I") (by decide +kernel)) (fun _ h9 => h9) rfl (by decide +kernel) rfl rfl (Nat.le_of_ble_eq_true rfl) dX0_setBare_2 (fun H locs hP hD hS => ?_)
  have hP : va_P D vwCl (wH cI cC cZ cS h tA dA eA (upd hf 3 0) tr de ea) H := hP
  have hD : va_D A (wH cI cC cZ cS h tA dA eA (upd hf 3 0) tr de ea) := hD
  refine lv_aload_n hx hb dX0_setBare_5 rfl (lv_at hl 0 rfl) ?_
  refine lv_iconst (v := 0) hx hb dX0_setBare_6 (by decide) ?_
  refine va_put (D := D) (ci := 0) (v := .int 0) (ty := .int) (C := RX0) (T := TX0) (N := 9) hx hb hts hinX0 tyX0 tyX0_ok nmX0 hown hK hP hD hS 0 rfl rfl 4 (by decide) (hts (.fieldLink RX0 28 "FirstOut$House" "knowing" "I") (by decide +kernel)) (fun _ h9 => h9) rfl (by decide +kernel) rfl rfl (Nat.le_of_ble_eq_true rfl) dX0_setBare_7 (fun H locs hP hD hS => ?_)
  have hP : va_P D vwCl (wH cI cC cZ cS h tA dA eA (upd (upd hf 3 0) 4 0) tr de ea) H := hP
  have hD : va_D A (wH cI cC cZ cS h tA dA eA (upd (upd hf 3 0) 4 0) tr de ea) := hD
  refine lv_aload_n hx hb dX0_setBare_10 rfl (lv_at hl 0 rfl) ?_
  refine lv_iconst (v := 0) hx hb dX0_setBare_11 (by decide) ?_
  refine va_put (D := D) (ci := 0) (v := .int 0) (ty := .int) (C := RX0) (T := TX0) (N := 9) hx hb hts hinX0 tyX0 tyX0_ok nmX0 hown hK hP hD hS 0 rfl rfl 5 (by decide) (hts (.fieldLink RX0 31 "FirstOut$House" "words" "I") (by decide +kernel)) (fun _ h9 => h9) rfl (by decide +kernel) rfl rfl (Nat.le_of_ble_eq_true rfl) dX0_setBare_12 (fun H locs hP hD hS => ?_)
  have hP : va_P D vwCl (wH cI cC cZ cS h tA dA eA (upd (upd (upd hf 3 0) 4 0) 5 0) tr de ea) H := hP
  have hD : va_D A (wH cI cC cZ cS h tA dA eA (upd (upd (upd hf 3 0) 4 0) 5 0) tr de ea) := hD
  refine lv_aload_n hx hb dX0_setBare_15 rfl (lv_at hl 0 rfl) ?_
  refine lv_iconst (v := 5) hx hb dX0_setBare_16 (by decide) ?_
  refine va_put (D := D) (ci := 0) (v := .int 5) (ty := .int) (C := RX0) (T := TX0) (N := 9) hx hb hts hinX0 tyX0 tyX0_ok nmX0 hown hK hP hD hS 0 rfl rfl 6 (by decide) (hts (.fieldLink RX0 34 "FirstOut$House" "chance" "I") (by decide +kernel)) (fun _ h9 => h9) rfl (by decide +kernel) rfl rfl (Nat.le_of_ble_eq_true rfl) dX0_setBare_17 (fun H locs hP hD hS => ?_)
  have hP : va_P D vwCl (wH cI cC cZ cS h tA dA eA (upd (upd (upd (upd hf 3 0) 4 0) 5 0) 6 5) tr de ea) H := hP
  have hD : va_D A (wH cI cC cZ cS h tA dA eA (upd (upd (upd (upd hf 3 0) 4 0) 5 0) 6 5) tr de ea) := hD
  refine lv_aload_n hx hb dX0_setBare_20 rfl (lv_at hl 0 rfl) ?_
  refine lv_iconst (v := 0) hx hb dX0_setBare_21 (by decide) ?_
  refine va_put (D := D) (ci := 0) (v := .int 0) (ty := .int) (C := RX0) (T := TX0) (N := 9) hx hb hts hinX0 tyX0 tyX0_ok nmX0 hown hK hP hD hS 0 rfl rfl 7 (by decide) (hts (.fieldLink RX0 37 "FirstOut$House" "help" "I") (by decide +kernel)) (fun _ h9 => h9) rfl (by decide +kernel) rfl rfl (Nat.le_of_ble_eq_true rfl) dX0_setBare_22 (fun H locs hP hD hS => ?_)
  have hP : va_P D vwCl (wH cI cC cZ cS h tA dA eA (upd (upd (upd (upd (upd hf 3 0) 4 0) 5 0) 6 5) 7 0) tr de ea) H := hP
  have hD : va_D A (wH cI cC cZ cS h tA dA eA (upd (upd (upd (upd (upd hf 3 0) 4 0) 5 0) 6 5) 7 0) tr de ea) := hD
  refine lv_aload_n hx hb dX0_setBare_25 rfl (lv_at hl 0 rfl) ?_
  refine lv_bipush (v := 100) hx hb dX0_setBare_26 (by decide) ?_
  refine va_put (D := D) (ci := 0) (v := .int 100) (ty := .int) (C := RX0) (T := TX0) (N := 9) hx hb hts hinX0 tyX0 tyX0_ok nmX0 hown hK hP hD hS 0 rfl rfl 8 (by decide) (hts (.fieldLink RX0 40 "FirstOut$House" "worth" "I") (by decide +kernel)) (fun _ h9 => h9) rfl (by decide +kernel) rfl rfl (Nat.le_of_ble_eq_true rfl) dX0_setBare_28 (fun H locs hP hD hS => ?_)
  have hP : va_P D vwCl (wH cI cC cZ cS h tA dA eA (upd (upd (upd (upd (upd (upd hf 3 0) 4 0) 5 0) 6 5) 7 0) 8 100) tr de ea) H := hP
  have hD : va_D A (wH cI cC cZ cS h tA dA eA (upd (upd (upd (upd (upd (upd hf 3 0) 4 0) 5 0) 6 5) 7 0) 8 100) tr de ea) := hD
  rw [hres]
  exact W.vret hx hb hr (fun t ht hW => ⟨rfl, by rw [ht]; exact hP, by rw [hA]; exact hS.F ht⟩) hS.2.2 dX0_setBare_31
def d_X0_add (hf : Nat → Int32) (tr : Nat → Int32) (de : Nat → Int32) (ea : Nat → Int32) (x : Int32) (y : Int32) (z : Int32) (kn : Int32) (n : Nat) : (Nat → Int32) × (Nat → Int32) × (Nat → Int32) × (Nat → Int32) :=
  if (d_X0_hasRoom hf) = 0 then
      (hf, tr, de, ea)
    else
      ((upd (upd hf 4 ((hf 4) ||| (kn <<< ((nI n) &&& 31)))) 3 ((nI n) + (1 : Int32))), (upd tr n x), (upd de n y), (upd ea n z))
set_option maxHeartbeats 4000000 in
set_option maxRecDepth 100000 in
theorem c_X0_add (l : Launch) (D : va_G) (cI cC cZ cS : ClassId) (h : Nat) (tA : Nat) (dA : Nat) (eA : Nat) (hf : Nat → Int32) (tr : Nat → Int32) (de : Nat → Int32) (ea : Nat → Int32) (x : Int32) (y : Int32) (z : Int32) (kn : Int32) (n : Nat) (hn : hf 3 = nI n) (h7 : n ≤ 7) : Met l yX0_add wsX0_add { frames := 1, cells := 0, slots := 0, locals := 20 } (PcE D cI cC cZ cS [.ref h, .int x, .int y, .int z, .int kn] (wH cI cC cZ cS h tA dA eA hf tr de ea)) (QcM none D (wH cI cC cZ cS h tA dA eA hf tr de ea) (wH cI cC cZ cS h tA dA eA ((d_X0_add hf tr de ea x y z kn n).1) ((d_X0_add hf tr de ea x y z kn n).2.1) ((d_X0_add hf tr de ea x y z kn n).2.2.1) ((d_X0_add hf tr de ea x y z kn n).2.2.2))) 0 0 (inW (wH cI cC cZ cS h tA dA eA hf tr de ea)) := by
  refine Met.ofW (cc := cX0_add) (maxL := 5) (ret := none) (by decide) rfl ?_
  intro p e s m args below meth c s₁ B hml hv
  obtain ⟨rfl, hP, hD, hE⟩ := hv
  have hK := hE.1
  have hx := B.exec
  have hb := B.bytes
  have hr := B.returns
  have hts := atoms_spec (ws := wsX0_add) B.pre
  have hown : s.vm.findClass RX0 = some m.cls := findClass_of_methodNamed B.named
  have hlocks := B.notSynchronized
  have hinX0 : ∀ w ∈ wsX00, w ∈ wsX0_add := by decide +kernel
  have hD := inW_self hD
  have hS : va_S (inW (wH cI cC cZ cS h tA dA eA hf tr de ea)) s.heap s.heap [] := va_S.rf
  generalize hA : inW (wH cI cC cZ cS h tA dA eA hf tr de ea) = A at hD hS ⊢
  refine opq (d_X0_add hf tr de ea x y z kn n) (fun R hres => ?_)
  rw [hres]
  replace hres := hres.symm
  rw [d_X0_add] at hres
  have hl := lv_entry ([.ref h, .int x, .int y, .int z, .int kn]) (n := 5) (Nat.le_of_ble_eq_true rfl)
  rw [lg_entry_eq]
  generalize (lg_sl ([.ref h, .int x, .int y, .int z, .int kn]) ++ List.replicate (5 - (lg_sl ([.ref h, .int x, .int y, .int z, .int kn])).length) Slot.unset).toArray = ls at hl ⊢
  have hl : lv_has ls 5 [(0, .ref h), (1, .int x), (2, .int y), (3, .int z), (4, .int kn)] := hl
  refine lv_aload_n hx hb dX0_add_0 rfl (lv_at hl 0 rfl) ?_
  have hPc := hP.sub (ws' := (wH cI cC cZ cS h tA dA eA hf tr de ea)) [0, 1, 2, 3] rfl
  have hDc := hD.sub (ws' := (wH cI cC cZ cS h tA dA eA hf tr de ea)) [0, 1, 2, 3] (by decide) rfl
  refine m_callR (W.runV (As := []) (rest := []) ⟨hx, hb, hml, hown, hts⟩ (c_X0_hasRoom l D cI cC cZ cS h tA dA eA hf tr de ea) (cwV 0 hts gX0_add_X0_hasRoom rfl rfl rfl (by decide +kernel) ⟨Nat.le_of_ble_eq_true rfl, Nat.le_of_ble_eq_true rfl⟩) (preV_of hPc hDc hE (va_recv hK hPc (ci := 0) (q0 := 0) rfl rfl)) rfl rfl hl.1 rfl (lv_room (Nat.le_of_ble_eq_true rfl)) dX0_add_1 ⟨Nat.zero_le _, Nat.zero_le _⟩) ?_
  refine W.eq (g2 := F0 m 4 ls [.int (d_X0_hasRoom hf)]) rfl ?_
  refine lv_if_ne (tgt := 8) hx hb dX0_add_4 (by decide) (fun c_1 => ?_) (fun c_1 => ?_)
  · skip
    rw [if_neg c_1] at hres
    have hlt : n < 7 := hasRoom_lt c_1 hn h7
    refine lv_aload_n hx hb dX0_add_8 rfl (lv_at hl 0 rfl) ?_
    refine va_get (D := D) (ci := 0) (v := .ref tA) (C := RX0) (T := TX0) (N := 9) hx hb hts hinX0 hown hK hP 0 rfl rfl 0 (by decide) (hts (.fieldLink RX0 9 "FirstOut$House" "traits" "[I") (by decide +kernel)) (fun _ h9 => h9) rfl dX0_add_9 ?_
    refine lv_aload_n hx hb dX0_add_12 rfl (lv_at hl 0 rfl) ?_
    refine va_get (D := D) (ci := 0) (v := .int (hf 3)) (C := RX0) (T := TX0) (N := 9) hx hb hts hinX0 hown hK hP 0 rfl rfl 3 (by decide) (hts (.fieldLink RX0 24 "FirstOut$House" "things" "I") (by decide +kernel)) (fun _ h9 => h9) rfl dX0_add_13 ?_
    refine lv_to (show (hf 3) = nI n from hn) ?_
    refine lv_iload_n hx hb dX0_add_16 rfl (lv_at hl 1 rfl) ?_
    refine m_iast hx hb hK hP hD hS 1 0 rfl rfl n rfl (by omega) (by decide) dX0_add_17 (fun H locs hP hD hS => ?_)
    have hP : va_P D vwCl (wH cI cC cZ cS h tA dA eA hf (upd tr n x) de ea) H := hP
    have hD : va_D A (wH cI cC cZ cS h tA dA eA hf (upd tr n x) de ea) := hD
    refine lv_aload_n hx hb dX0_add_18 rfl (lv_at hl 0 rfl) ?_
    refine va_get (D := D) (ci := 0) (v := .ref dA) (C := RX0) (T := TX0) (N := 9) hx hb hts hinX0 hown hK hP 0 rfl rfl 1 (by decide) (hts (.fieldLink RX0 15 "FirstOut$House" "dear" "[I") (by decide +kernel)) (fun _ h9 => h9) rfl dX0_add_19 ?_
    refine lv_aload_n hx hb dX0_add_22 rfl (lv_at hl 0 rfl) ?_
    refine va_get (D := D) (ci := 0) (v := .int (hf 3)) (C := RX0) (T := TX0) (N := 9) hx hb hts hinX0 hown hK hP 0 rfl rfl 3 (by decide) (hts (.fieldLink RX0 24 "FirstOut$House" "things" "I") (by decide +kernel)) (fun _ h9 => h9) rfl dX0_add_23 ?_
    refine lv_to (show (hf 3) = nI n from hn) ?_
    refine lv_iload_n hx hb dX0_add_26 rfl (lv_at hl 2 rfl) ?_
    refine m_iast hx hb hK hP hD hS 2 0 rfl rfl n rfl (by omega) (by decide) dX0_add_27 (fun H locs hP hD hS => ?_)
    have hP : va_P D vwCl (wH cI cC cZ cS h tA dA eA hf (upd tr n x) (upd de n y) ea) H := hP
    have hD : va_D A (wH cI cC cZ cS h tA dA eA hf (upd tr n x) (upd de n y) ea) := hD
    refine lv_aload_n hx hb dX0_add_28 rfl (lv_at hl 0 rfl) ?_
    refine va_get (D := D) (ci := 0) (v := .ref eA) (C := RX0) (T := TX0) (N := 9) hx hb hts hinX0 hown hK hP 0 rfl rfl 2 (by decide) (hts (.fieldLink RX0 18 "FirstOut$House" "eager" "[I") (by decide +kernel)) (fun _ h9 => h9) rfl dX0_add_29 ?_
    refine lv_aload_n hx hb dX0_add_32 rfl (lv_at hl 0 rfl) ?_
    refine va_get (D := D) (ci := 0) (v := .int (hf 3)) (C := RX0) (T := TX0) (N := 9) hx hb hts hinX0 hown hK hP 0 rfl rfl 3 (by decide) (hts (.fieldLink RX0 24 "FirstOut$House" "things" "I") (by decide +kernel)) (fun _ h9 => h9) rfl dX0_add_33 ?_
    refine lv_to (show (hf 3) = nI n from hn) ?_
    refine lv_iload_n hx hb dX0_add_36 rfl (lv_at hl 3 rfl) ?_
    refine m_iast hx hb hK hP hD hS 3 0 rfl rfl n rfl (by omega) (by decide) dX0_add_37 (fun H locs hP hD hS => ?_)
    have hP : va_P D vwCl (wH cI cC cZ cS h tA dA eA hf (upd tr n x) (upd de n y) (upd ea n z)) H := hP
    have hD : va_D A (wH cI cC cZ cS h tA dA eA hf (upd tr n x) (upd de n y) (upd ea n z)) := hD
    refine lv_aload_n hx hb dX0_add_38 rfl (lv_at hl 0 rfl) ?_
    refine lv_dup hx hb dX0_add_39 rfl ?_
    refine va_get (D := D) (ci := 0) (v := .int (hf 4)) (C := RX0) (T := TX0) (N := 9) hx hb hts hinX0 hown hK hP 0 rfl rfl 4 (by decide) (hts (.fieldLink RX0 28 "FirstOut$House" "knowing" "I") (by decide +kernel)) (fun _ h9 => h9) rfl dX0_add_40 ?_
    refine lv_iload hx hb dX0_add_43 (lv_at hl 4 rfl) ?_
    refine lv_aload_n hx hb dX0_add_45 rfl (lv_at hl 0 rfl) ?_
    refine va_get (D := D) (ci := 0) (v := .int (hf 3)) (C := RX0) (T := TX0) (N := 9) hx hb hts hinX0 hown hK hP 0 rfl rfl 3 (by decide) (hts (.fieldLink RX0 24 "FirstOut$House" "things" "I") (by decide +kernel)) (fun _ h9 => h9) rfl dX0_add_46 ?_
    refine lv_to (show (hf 3) = nI n from hn) ?_
    refine lv_ishl hx hb dX0_add_49 ?_
    refine lv_ior hx hb dX0_add_50 ?_
    refine va_put (D := D) (ci := 0) (v := .int ((hf 4) ||| (kn <<< ((nI n) &&& 31)))) (ty := .int) (C := RX0) (T := TX0) (N := 9) hx hb hts hinX0 tyX0 tyX0_ok nmX0 hown hK hP hD hS 0 rfl rfl 4 (by decide) (hts (.fieldLink RX0 28 "FirstOut$House" "knowing" "I") (by decide +kernel)) (fun _ h9 => h9) rfl (by decide +kernel) rfl rfl (Nat.le_of_ble_eq_true rfl) dX0_add_51 (fun H locs hP hD hS => ?_)
    have hP : va_P D vwCl (wH cI cC cZ cS h tA dA eA (upd hf 4 ((hf 4) ||| (kn <<< ((nI n) &&& 31)))) (upd tr n x) (upd de n y) (upd ea n z)) H := hP
    have hD : va_D A (wH cI cC cZ cS h tA dA eA (upd hf 4 ((hf 4) ||| (kn <<< ((nI n) &&& 31)))) (upd tr n x) (upd de n y) (upd ea n z)) := hD
    refine lv_aload_n hx hb dX0_add_54 rfl (lv_at hl 0 rfl) ?_
    refine lv_dup hx hb dX0_add_55 rfl ?_
    refine va_get (D := D) (ci := 0) (v := .int (hf 3)) (C := RX0) (T := TX0) (N := 9) hx hb hts hinX0 hown hK hP 0 rfl rfl 3 (by decide) (hts (.fieldLink RX0 24 "FirstOut$House" "things" "I") (by decide +kernel)) (fun _ h9 => h9) rfl dX0_add_56 ?_
    refine lv_to (show (hf 3) = nI n from hn) ?_
    refine lv_iconst (v := 1) hx hb dX0_add_59 (by decide) ?_
    refine lv_iadd hx hb dX0_add_60 ?_
    refine va_put (D := D) (ci := 0) (v := .int ((nI n) + (1 : Int32))) (ty := .int) (C := RX0) (T := TX0) (N := 9) hx hb hts hinX0 tyX0 tyX0_ok nmX0 hown hK hP hD hS 0 rfl rfl 3 (by decide) (hts (.fieldLink RX0 24 "FirstOut$House" "things" "I") (by decide +kernel)) (fun _ h9 => h9) rfl (by decide +kernel) rfl rfl (Nat.le_of_ble_eq_true rfl) dX0_add_61 (fun H locs hP hD hS => ?_)
    have hP : va_P D vwCl (wH cI cC cZ cS h tA dA eA (upd (upd hf 4 ((hf 4) ||| (kn <<< ((nI n) &&& 31)))) 3 ((nI n) + (1 : Int32))) (upd tr n x) (upd de n y) (upd ea n z)) H := hP
    have hD : va_D A (wH cI cC cZ cS h tA dA eA (upd (upd hf 4 ((hf 4) ||| (kn <<< ((nI n) &&& 31)))) 3 ((nI n) + (1 : Int32))) (upd tr n x) (upd de n y) (upd ea n z)) := hD
    rw [hres]
    exact W.vret hx hb hr (fun t ht hW => ⟨rfl, by rw [ht]; exact hP, by rw [hA]; exact hS.F ht⟩) hS.2.2 dX0_add_64
  · skip
    rw [if_pos c_1] at hres
    rw [hres]
    exact W.vret hx hb hr (fun t ht hW => ⟨rfl, by rw [ht]; exact hP, by rw [hA]; exact hS.F ht⟩) hS.2.2 dX0_add_7
def d_X3_become (u : Nat → Int32) (v : Nat → Int32) : (Nat → Int32) :=
  (upd (upd (upd (upd (upd u 0 (v 0)) 1 (v 1)) 2 (v 2)) 3 (v 3)) 4 (v 4))
set_option maxHeartbeats 4000000 in
set_option maxRecDepth 100000 in
theorem c_X3_become (l : Launch) (D : va_G) (cI cC cZ cS : ClassId) (sA : Nat) (oA : Nat) (u : Nat → Int32) (v : Nat → Int32) : Met l yX3_become wsX3_become { frames := 0, cells := 0, slots := 0, locals := 0 } (PcE D cI cC cZ cS [.ref sA, .ref oA] (wS2 cI cC cZ cS sA oA u v)) (QcM none D (wS2 cI cC cZ cS sA oA u v) (wS2 cI cC cZ cS sA oA (d_X3_become u v) v)) 0 0 (inW (wS2 cI cC cZ cS sA oA u v)) := by
  refine Met.ofW (cc := cX3_become) (maxL := 2) (ret := none) (by decide) rfl ?_
  intro p e s m args below meth c s₁ B hml hv
  obtain ⟨rfl, hP, hD, hE⟩ := hv
  have hK := hE.1
  have hx := B.exec
  have hb := B.bytes
  have hr := B.returns
  have hts := atoms_spec (ws := wsX3_become) B.pre
  have hown : s.vm.findClass RX3 = some m.cls := findClass_of_methodNamed B.named
  have hlocks := B.notSynchronized
  have hinX3 : ∀ w ∈ wsX30, w ∈ wsX3_become := by decide +kernel
  have hD := inW_self hD
  have hS : va_S (inW (wS2 cI cC cZ cS sA oA u v)) s.heap s.heap [] := va_S.rf
  generalize hA : inW (wS2 cI cC cZ cS sA oA u v) = A at hD hS ⊢
  refine opq (d_X3_become u v) (fun R hres => ?_)
  rw [hres]
  replace hres := hres.symm
  rw [d_X3_become] at hres
  have hl := lv_entry ([.ref sA, .ref oA]) (n := 2) (Nat.le_of_ble_eq_true rfl)
  rw [lg_entry_eq]
  generalize (lg_sl ([.ref sA, .ref oA]) ++ List.replicate (2 - (lg_sl ([.ref sA, .ref oA])).length) Slot.unset).toArray = ls at hl ⊢
  have hl : lv_has ls 2 [(0, .ref sA), (1, .ref oA)] := hl
  refine lv_aload_n hx hb dX3_become_0 rfl (lv_at hl 0 rfl) ?_
  refine lv_aload_n hx hb dX3_become_1 rfl (lv_at hl 1 rfl) ?_
  refine va_get (D := D) (ci := 3) (v := .int (v 0)) (C := RX3) (T := TX3) (N := 5) hx hb hts hinX3 hown hK hP 1 rfl rfl 0 (by decide) (hts (.fieldLink RX3 7 "FirstOut$Standing" "words" "I") (by decide +kernel)) (fun _ h9 => h9) rfl dX3_become_2 ?_
  refine va_put (D := D) (ci := 3) (v := .int (v 0)) (ty := .int) (C := RX3) (T := TX3) (N := 5) hx hb hts hinX3 tyX3 tyX3_ok nmX3 hown hK hP hD hS 0 rfl rfl 0 (by decide) (hts (.fieldLink RX3 7 "FirstOut$Standing" "words" "I") (by decide +kernel)) (fun _ h9 => h9) rfl (by decide +kernel) rfl rfl (Nat.le_of_ble_eq_true rfl) dX3_become_5 (fun H locs hP hD hS => ?_)
  have hP : va_P D vwCl (wS2 cI cC cZ cS sA oA (upd u 0 (v 0)) v) H := hP
  have hD : va_D A (wS2 cI cC cZ cS sA oA (upd u 0 (v 0)) v) := hD
  refine lv_aload_n hx hb dX3_become_8 rfl (lv_at hl 0 rfl) ?_
  refine lv_aload_n hx hb dX3_become_9 rfl (lv_at hl 1 rfl) ?_
  refine va_get (D := D) (ci := 3) (v := .int (v 1)) (C := RX3) (T := TX3) (N := 5) hx hb hts hinX3 hown hK hP 1 rfl rfl 1 (by decide) (hts (.fieldLink RX3 13 "FirstOut$Standing" "knowing" "I") (by decide +kernel)) (fun _ h9 => h9) rfl dX3_become_10 ?_
  refine va_put (D := D) (ci := 3) (v := .int (v 1)) (ty := .int) (C := RX3) (T := TX3) (N := 5) hx hb hts hinX3 tyX3 tyX3_ok nmX3 hown hK hP hD hS 0 rfl rfl 1 (by decide) (hts (.fieldLink RX3 13 "FirstOut$Standing" "knowing" "I") (by decide +kernel)) (fun _ h9 => h9) rfl (by decide +kernel) rfl rfl (Nat.le_of_ble_eq_true rfl) dX3_become_13 (fun H locs hP hD hS => ?_)
  have hP : va_P D vwCl (wS2 cI cC cZ cS sA oA (upd (upd u 0 (v 0)) 1 (v 1)) v) H := hP
  have hD : va_D A (wS2 cI cC cZ cS sA oA (upd (upd u 0 (v 0)) 1 (v 1)) v) := hD
  refine lv_aload_n hx hb dX3_become_16 rfl (lv_at hl 0 rfl) ?_
  refine lv_aload_n hx hb dX3_become_17 rfl (lv_at hl 1 rfl) ?_
  refine va_get (D := D) (ci := 3) (v := .int (v 2)) (C := RX3) (T := TX3) (N := 5) hx hb hts hinX3 hown hK hP 1 rfl rfl 2 (by decide) (hts (.fieldLink RX3 16 "FirstOut$Standing" "kept" "I") (by decide +kernel)) (fun _ h9 => h9) rfl dX3_become_18 ?_
  refine va_put (D := D) (ci := 3) (v := .int (v 2)) (ty := .int) (C := RX3) (T := TX3) (N := 5) hx hb hts hinX3 tyX3 tyX3_ok nmX3 hown hK hP hD hS 0 rfl rfl 2 (by decide) (hts (.fieldLink RX3 16 "FirstOut$Standing" "kept" "I") (by decide +kernel)) (fun _ h9 => h9) rfl (by decide +kernel) rfl rfl (Nat.le_of_ble_eq_true rfl) dX3_become_21 (fun H locs hP hD hS => ?_)
  have hP : va_P D vwCl (wS2 cI cC cZ cS sA oA (upd (upd (upd u 0 (v 0)) 1 (v 1)) 2 (v 2)) v) H := hP
  have hD : va_D A (wS2 cI cC cZ cS sA oA (upd (upd (upd u 0 (v 0)) 1 (v 1)) 2 (v 2)) v) := hD
  refine lv_aload_n hx hb dX3_become_24 rfl (lv_at hl 0 rfl) ?_
  refine lv_aload_n hx hb dX3_become_25 rfl (lv_at hl 1 rfl) ?_
  refine va_get (D := D) (ci := 3) (v := .int (v 3)) (C := RX3) (T := TX3) (N := 5) hx hb hts hinX3 hown hK hP 1 rfl rfl 3 (by decide) (hts (.fieldLink RX3 19 "FirstOut$Standing" "given" "I") (by decide +kernel)) (fun _ h9 => h9) rfl dX3_become_26 ?_
  refine va_put (D := D) (ci := 3) (v := .int (v 3)) (ty := .int) (C := RX3) (T := TX3) (N := 5) hx hb hts hinX3 tyX3 tyX3_ok nmX3 hown hK hP hD hS 0 rfl rfl 3 (by decide) (hts (.fieldLink RX3 19 "FirstOut$Standing" "given" "I") (by decide +kernel)) (fun _ h9 => h9) rfl (by decide +kernel) rfl rfl (Nat.le_of_ble_eq_true rfl) dX3_become_29 (fun H locs hP hD hS => ?_)
  have hP : va_P D vwCl (wS2 cI cC cZ cS sA oA (upd (upd (upd (upd u 0 (v 0)) 1 (v 1)) 2 (v 2)) 3 (v 3)) v) H := hP
  have hD : va_D A (wS2 cI cC cZ cS sA oA (upd (upd (upd (upd u 0 (v 0)) 1 (v 1)) 2 (v 2)) 3 (v 3)) v) := hD
  refine lv_aload_n hx hb dX3_become_32 rfl (lv_at hl 0 rfl) ?_
  refine lv_aload_n hx hb dX3_become_33 rfl (lv_at hl 1 rfl) ?_
  refine va_get (D := D) (ci := 3) (v := .int (v 4)) (C := RX3) (T := TX3) (N := 5) hx hb hts hinX3 hown hK hP 1 rfl rfl 4 (by decide) (hts (.fieldLink RX3 22 "FirstOut$Standing" "date" "I") (by decide +kernel)) (fun _ h9 => h9) rfl dX3_become_34 ?_
  refine va_put (D := D) (ci := 3) (v := .int (v 4)) (ty := .int) (C := RX3) (T := TX3) (N := 5) hx hb hts hinX3 tyX3 tyX3_ok nmX3 hown hK hP hD hS 0 rfl rfl 4 (by decide) (hts (.fieldLink RX3 22 "FirstOut$Standing" "date" "I") (by decide +kernel)) (fun _ h9 => h9) rfl (by decide +kernel) rfl rfl (Nat.le_of_ble_eq_true rfl) dX3_become_37 (fun H locs hP hD hS => ?_)
  have hP : va_P D vwCl (wS2 cI cC cZ cS sA oA (upd (upd (upd (upd (upd u 0 (v 0)) 1 (v 1)) 2 (v 2)) 3 (v 3)) 4 (v 4)) v) H := hP
  have hD : va_D A (wS2 cI cC cZ cS sA oA (upd (upd (upd (upd (upd u 0 (v 0)) 1 (v 1)) 2 (v 2)) 3 (v 3)) 4 (v 4)) v) := hD
  rw [hres]
  exact W.vret hx hb hr (fun t ht hW => ⟨rfl, by rw [ht]; exact hP, by rw [hA]; exact hS.F ht⟩) hS.2.2 dX3_become_40
def d_X2_add (sf : Nat → Int32) (wh : Nat → Int32) (gv : Nat → Int32) (t : Int32) (g : Int32) (sk : Nat) : Int32 × (Nat → Int32) × (Nat → Int32) × (Nat → Int32) :=
  if (nI sk) < (6 : Int32) then
      (1, (upd sf 2 ((nI sk) + (1 : Int32))), (upd wh sk t), (upd gv sk g))
    else
      (0, sf, wh, gv)
set_option maxHeartbeats 4000000 in
set_option maxRecDepth 100000 in
theorem c_X2_add (l : Launch) (D : va_G) (cI cC cZ cS : ClassId) (nA : Nat) (wA : Nat) (gA : Nat) (sf : Nat → Int32) (wh : Nat → Int32) (gv : Nat → Int32) (t : Int32) (g : Int32) (sk : Nat) (hsk : sf 2 = nI sk) (hs6 : sk ≤ 6) : Met l yX2_add wsX2_add { frames := 0, cells := 0, slots := 0, locals := 0 } (PcE D cI cC cZ cS [.ref nA, .int t, .int g] (wN cI cC cZ cS nA wA gA sf wh gv)) (QcM (some (.int ((d_X2_add sf wh gv t g sk).1))) D (wN cI cC cZ cS nA wA gA sf wh gv) (wN cI cC cZ cS nA wA gA ((d_X2_add sf wh gv t g sk).2.1) ((d_X2_add sf wh gv t g sk).2.2.1) ((d_X2_add sf wh gv t g sk).2.2.2))) 0 0 (inW (wN cI cC cZ cS nA wA gA sf wh gv)) := by
  refine Met.ofW (cc := cX2_add) (maxL := 3) (ret := (some .boolean)) (by decide) rfl ?_
  intro p e s m args below meth c s₁ B hml hv
  obtain ⟨rfl, hP, hD, hE⟩ := hv
  have hK := hE.1
  have hx := B.exec
  have hb := B.bytes
  have hr := B.returns
  have hts := atoms_spec (ws := wsX2_add) B.pre
  have hown : s.vm.findClass RX2 = some m.cls := findClass_of_methodNamed B.named
  have hlocks := B.notSynchronized
  have hinX2 : ∀ w ∈ wsX20, w ∈ wsX2_add := by decide +kernel
  have hD := inW_self hD
  have hS : va_S (inW (wN cI cC cZ cS nA wA gA sf wh gv)) s.heap s.heap [] := va_S.rf
  generalize hA : inW (wN cI cC cZ cS nA wA gA sf wh gv) = A at hD hS ⊢
  refine opq (d_X2_add sf wh gv t g sk) (fun R hres => ?_)
  rw [hres]
  replace hres := hres.symm
  rw [d_X2_add] at hres
  have hl := lv_entry ([.ref nA, .int t, .int g]) (n := 3) (Nat.le_of_ble_eq_true rfl)
  rw [lg_entry_eq]
  generalize (lg_sl ([.ref nA, .int t, .int g]) ++ List.replicate (3 - (lg_sl ([.ref nA, .int t, .int g])).length) Slot.unset).toArray = ls at hl ⊢
  have hl : lv_has ls 3 [(0, .ref nA), (1, .int t), (2, .int g)] := hl
  refine lv_aload_n hx hb dX2_add_0 rfl (lv_at hl 0 rfl) ?_
  refine va_get (D := D) (ci := 2) (v := .int (sf 2)) (C := RX2) (T := TX2) (N := 3) hx hb hts hinX2 hown hK hP 0 rfl rfl 2 (by decide) (hts (.fieldLink RX2 18 "FirstOut$Seen" "known" "I") (by decide +kernel)) (fun _ h9 => h9) rfl dX2_add_1 ?_
  refine lv_to (show (sf 2) = nI sk from hsk) ?_
  refine lv_bipush (v := 6) hx hb dX2_add_4 (by decide) ?_
  refine lv_icmp_lt (tgt := 11) hx hb dX2_add_6 (by decide) (fun c_1 => ?_) (fun c_1 => ?_)
  · skip
    rw [if_pos c_1] at hres
    have hlt : sk < 6 := (nI_ltI (b := 6) (by omega) (by omega)).mp c_1
    refine lv_aload_n hx hb dX2_add_11 rfl (lv_at hl 0 rfl) ?_
    refine va_get (D := D) (ci := 2) (v := .ref wA) (C := RX2) (T := TX2) (N := 3) hx hb hts hinX2 hown hK hP 0 rfl rfl 0 (by decide) (hts (.fieldLink RX2 9 "FirstOut$Seen" "who" "[I") (by decide +kernel)) (fun _ h9 => h9) rfl dX2_add_12 ?_
    refine lv_aload_n hx hb dX2_add_15 rfl (lv_at hl 0 rfl) ?_
    refine va_get (D := D) (ci := 2) (v := .int (sf 2)) (C := RX2) (T := TX2) (N := 3) hx hb hts hinX2 hown hK hP 0 rfl rfl 2 (by decide) (hts (.fieldLink RX2 18 "FirstOut$Seen" "known" "I") (by decide +kernel)) (fun _ h9 => h9) rfl dX2_add_16 ?_
    refine lv_to (show (sf 2) = nI sk from hsk) ?_
    refine lv_iload_n hx hb dX2_add_19 rfl (lv_at hl 1 rfl) ?_
    refine m_iast hx hb hK hP hD hS 1 0 rfl rfl sk rfl (by omega) (by decide) dX2_add_20 (fun H locs hP hD hS => ?_)
    have hP : va_P D vwCl (wN cI cC cZ cS nA wA gA sf (upd wh sk t) gv) H := hP
    have hD : va_D A (wN cI cC cZ cS nA wA gA sf (upd wh sk t) gv) := hD
    refine lv_aload_n hx hb dX2_add_21 rfl (lv_at hl 0 rfl) ?_
    refine va_get (D := D) (ci := 2) (v := .ref gA) (C := RX2) (T := TX2) (N := 3) hx hb hts hinX2 hown hK hP 0 rfl rfl 1 (by decide) (hts (.fieldLink RX2 15 "FirstOut$Seen" "wasGiven" "[I") (by decide +kernel)) (fun _ h9 => h9) rfl dX2_add_22 ?_
    refine lv_aload_n hx hb dX2_add_25 rfl (lv_at hl 0 rfl) ?_
    refine va_get (D := D) (ci := 2) (v := .int (sf 2)) (C := RX2) (T := TX2) (N := 3) hx hb hts hinX2 hown hK hP 0 rfl rfl 2 (by decide) (hts (.fieldLink RX2 18 "FirstOut$Seen" "known" "I") (by decide +kernel)) (fun _ h9 => h9) rfl dX2_add_26 ?_
    refine lv_to (show (sf 2) = nI sk from hsk) ?_
    refine lv_iload_n hx hb dX2_add_29 rfl (lv_at hl 2 rfl) ?_
    refine m_iast hx hb hK hP hD hS 2 0 rfl rfl sk rfl (by omega) (by decide) dX2_add_30 (fun H locs hP hD hS => ?_)
    have hP : va_P D vwCl (wN cI cC cZ cS nA wA gA sf (upd wh sk t) (upd gv sk g)) H := hP
    have hD : va_D A (wN cI cC cZ cS nA wA gA sf (upd wh sk t) (upd gv sk g)) := hD
    refine lv_aload_n hx hb dX2_add_31 rfl (lv_at hl 0 rfl) ?_
    refine lv_dup hx hb dX2_add_32 rfl ?_
    refine va_get (D := D) (ci := 2) (v := .int (sf 2)) (C := RX2) (T := TX2) (N := 3) hx hb hts hinX2 hown hK hP 0 rfl rfl 2 (by decide) (hts (.fieldLink RX2 18 "FirstOut$Seen" "known" "I") (by decide +kernel)) (fun _ h9 => h9) rfl dX2_add_33 ?_
    refine lv_to (show (sf 2) = nI sk from hsk) ?_
    refine lv_iconst (v := 1) hx hb dX2_add_36 (by decide) ?_
    refine lv_iadd hx hb dX2_add_37 ?_
    refine va_put (D := D) (ci := 2) (v := .int ((nI sk) + (1 : Int32))) (ty := .int) (C := RX2) (T := TX2) (N := 3) hx hb hts hinX2 tyX2 tyX2_ok nmX2 hown hK hP hD hS 0 rfl rfl 2 (by decide) (hts (.fieldLink RX2 18 "FirstOut$Seen" "known" "I") (by decide +kernel)) (fun _ h9 => h9) rfl (by decide +kernel) rfl rfl (Nat.le_of_ble_eq_true rfl) dX2_add_38 (fun H locs hP hD hS => ?_)
    have hP : va_P D vwCl (wN cI cC cZ cS nA wA gA (upd sf 2 ((nI sk) + (1 : Int32))) (upd wh sk t) (upd gv sk g)) H := hP
    have hD : va_D A (wN cI cC cZ cS nA wA gA (upd sf 2 ((nI sk) + (1 : Int32))) (upd wh sk t) (upd gv sk g)) := hD
    refine lv_iconst (v := 1) hx hb dX2_add_41 (by decide) ?_
    rw [hres]
    exact W.zret (v := 1) hx hb hr rfl (fun t ht hW => ⟨rfl, by rw [ht]; exact hP, by rw [hA]; exact hS.F ht⟩) hS.2.2 dX2_add_42
  · skip
    rw [if_neg c_1] at hres
    refine lv_iconst (v := 0) hx hb dX2_add_9 (by decide) ?_
    rw [hres]
    exact W.zret (v := 0) hx hb hr rfl (fun t ht hW => ⟨rfl, by rw [ht]; exact hP, by rw [hA]; exact hS.F ht⟩) hS.2.2 dX2_add_10
def lp_X2_isSoBy_2 (wh : Nat → Int32) (gv : Nat → Int32) (hav : Int32) (sk : Nat) : Nat → Nat → Int32
  | 0, _ => 0
  | k2 + 1, i => if (nI sk) ≤ (nI i) then
      1
    else
      if (d_X5_bitOf hav (wh i)) = (gv i) then
        lp_X2_isSoBy_2 wh gv hav sk k2 (i + 1)
      else
        0
def d_X2_isSoBy (wh : Nat → Int32) (gv : Nat → Int32) (hav : Int32) (sk : Nat) : Int32 :=
  lp_X2_isSoBy_2 wh gv hav sk (sk + 1) 0
set_option maxHeartbeats 4000000 in
set_option maxRecDepth 100000 in
theorem c_X2_isSoBy (l : Launch) (D : va_G) (cI cC cZ cS : ClassId) (nA : Nat) (wA : Nat) (gA : Nat) (sf : Nat → Int32) (wh : Nat → Int32) (gv : Nat → Int32) (hav : Int32) (sk : Nat) (hsk : sf 2 = nI sk) (hs6 : sk ≤ 6) : Met l yX2_isSoBy wsX2_isSoBy { frames := 1, cells := 0, slots := 0, locals := 21 } (PcE D cI cC cZ cS [.ref nA, .int hav] (wN cI cC cZ cS nA wA gA sf wh gv)) (QcR (some (.int (d_X2_isSoBy wh gv hav sk)))) 0 0 (fun _ => False) := by
  refine Met.ofW (cc := cX2_isSoBy) (maxL := 3) (ret := (some .boolean)) (by decide) rfl ?_
  intro p e s m args below meth c s₁ B hml hv
  obtain ⟨rfl, hP, hD, hE⟩ := hv
  have hK := hE.1
  have hx := B.exec
  have hb := B.bytes
  have hr := B.returns
  have hts := atoms_spec (ws := wsX2_isSoBy) B.pre
  have hown : s.vm.findClass RX2 = some m.cls := findClass_of_methodNamed B.named
  have hlocks := B.notSynchronized
  have hinX2 : ∀ w ∈ wsX20, w ∈ wsX2_isSoBy := by decide +kernel
  refine opq (d_X2_isSoBy wh gv hav sk) (fun R hres => ?_)
  rw [hres]
  replace hres := hres.symm
  rw [d_X2_isSoBy] at hres
  have hl := lv_entry ([.ref nA, .int hav]) (n := 3) (Nat.le_of_ble_eq_true rfl)
  rw [lg_entry_eq]
  generalize (lg_sl ([.ref nA, .int hav]) ++ List.replicate (3 - (lg_sl ([.ref nA, .int hav])).length) Slot.unset).toArray = ls at hl ⊢
  have hl : lv_has ls 3 [(0, .ref nA), (1, .int hav)] := hl
  refine lv_iconst (v := 0) hx hb dX2_isSoBy_0 (by decide) ?_
  refine lv_istore_n (lv' := [(2, .int 0), (0, .ref nA), (1, .int hav)]) hx hb dX2_isSoBy_1 rfl hl (by decide) rfl (fun ls hl => ?_)
  have loop2 : ∀ (k2 : Nat) (i : Nat), sk - i < k2 → i ≤ sk → R = lp_X2_isSoBy_2 wh gv hav sk k2 i → ∀ ls : Array Slot, lv_has ls 3 [(0, .ref nA), (1, .int hav), (2, .int (nI i))] → W p l e (headSpec wsX2_isSoBy { frames := 1, cells := 0, slots := 0, locals := 21 }).room s m (([.ref nA, .int hav] : List Value).toArray) below meth c s.heap [] 0 0 (MQ below (QcR (some (.int R))) (([.ref nA, .int hav] : List Value).toArray) s 0 0 (fun _ => False)) (F0 m 2 ls []) := by
    intro k2
    induction k2 with
    | zero => intro i hk; exact absurd hk (Nat.not_lt_zero _)
    | succ k2 ih2 =>
      intro i hk2 hi hres ls hl
      rw [lp_X2_isSoBy_2] at hres
      refine lv_iload_n hx hb dX2_isSoBy_2 rfl (lv_at hl 2 rfl) ?_
      refine lv_aload_n hx hb dX2_isSoBy_3 rfl (lv_at hl 0 rfl) ?_
      refine va_get (D := D) (ci := 2) (v := .int (sf 2)) (C := RX2) (T := TX2) (N := 3) hx hb hts hinX2 hown hK hP 0 rfl rfl 2 (by decide) (hts (.fieldLink RX2 18 "FirstOut$Seen" "known" "I") (by decide +kernel)) (fun _ h9 => h9) rfl dX2_isSoBy_4 ?_
      refine lv_to (show (sf 2) = nI sk from hsk) ?_
      refine lv_icmp_ge (tgt := 37) hx hb dX2_isSoBy_7 (by decide) (fun c_1 => ?_) (fun c_1 => ?_)
      · skip
        rw [if_pos c_1] at hres
        refine lv_iconst (v := 1) hx hb dX2_isSoBy_37 (by decide) ?_
        rw [hres]
        exact W.zret (v := 1) hx hb hr rfl (fun t ht hW => ⟨rfl, ht⟩) (fun _ h => by cases h) dX2_isSoBy_38
      · skip
        rw [if_neg c_1] at hres
        have hlt : i < sk := nlt_of c_1 (by omega) (by omega)
        refine lv_iload_n hx hb dX2_isSoBy_10 rfl (lv_at hl 1 rfl) ?_
        refine lv_aload_n hx hb dX2_isSoBy_11 rfl (lv_at hl 0 rfl) ?_
        refine va_get (D := D) (ci := 2) (v := .ref wA) (C := RX2) (T := TX2) (N := 3) hx hb hts hinX2 hown hK hP 0 rfl rfl 0 (by decide) (hts (.fieldLink RX2 9 "FirstOut$Seen" "who" "[I") (by decide +kernel)) (fun _ h9 => h9) rfl dX2_isSoBy_12 ?_
        refine lv_iload_n hx hb dX2_isSoBy_15 rfl (lv_at hl 2 rfl) ?_
        refine m_iald hx hb hK hP 1 0 rfl rfl i rfl (by omega) (by decide) dX2_isSoBy_16 ?_
        refine lv_to (show _ = (wh i) from rfl) ?_
        have hPc := hP.sub (ws' := []) [] rfl
        have hDc := hD.sub (ws' := []) [] (by decide) rfl
        refine m_callR (cr_of (va_runSN (As := [.int hav, .int (wh i)]) (rest := []) ⟨hx, hb, hml, hown, hts⟩ (c_X5_bitOf l D cI cC cZ cS hav (wh i)) ⟨va_cnB 2 hts gX2_isSoBy_X5_bitOf_n22 rfl rfl rfl hE.2.2.1 (hts (.initialized RX5) (by decide +kernel)) (by decide +kernel) ⟨Nat.le_of_ble_eq_true rfl, Nat.le_of_ble_eq_true rfl⟩, hts (.static yX5_bitOf) (by decide +kernel), trivial⟩ (preS_of hPc hDc hE) rfl rfl hl.1 rfl (lv_room (Nat.le_of_ble_eq_true rfl)) dX2_isSoBy_17 ⟨Nat.zero_le _, Nat.zero_le _⟩)) ?_
        refine W.eq (g2 := F0 m 20 ls [.int (d_X5_bitOf hav (wh i))]) rfl ?_
        refine lv_aload_n hx hb dX2_isSoBy_20 rfl (lv_at hl 0 rfl) ?_
        refine va_get (D := D) (ci := 2) (v := .ref gA) (C := RX2) (T := TX2) (N := 3) hx hb hts hinX2 hown hK hP 0 rfl rfl 1 (by decide) (hts (.fieldLink RX2 15 "FirstOut$Seen" "wasGiven" "[I") (by decide +kernel)) (fun _ h9 => h9) rfl dX2_isSoBy_21 ?_
        refine lv_iload_n hx hb dX2_isSoBy_24 rfl (lv_at hl 2 rfl) ?_
        refine m_iald hx hb hK hP 2 0 rfl rfl i rfl (by omega) (by decide) dX2_isSoBy_25 ?_
        refine lv_to (show _ = (gv i) from rfl) ?_
        refine lv_icmp_eq (tgt := 31) hx hb dX2_isSoBy_26 (by decide) (fun c_2 => ?_) (fun c_2 => ?_)
        · skip
          rw [if_pos c_2] at hres
          refine lv_iinc (v := nI (i + 1)) (lv' := [(2, .int (nI (i + 1))), (0, .ref nA), (1, .int hav)]) hx hb dX2_isSoBy_31 hl (k := 2) rfl ((nI_add i 1)) (by decide) rfl (fun ls hl => ?_)
          refine lv_goto (tgt := 2) hx hb dX2_isSoBy_34 (by decide) ?_
          exact ih2 (i + 1) (by omega) (by omega) hres ls (lv_sub hl [1, 2, 0] rfl)
        · skip
          rw [if_neg c_2] at hres
          refine lv_iconst (v := 0) hx hb dX2_isSoBy_29 (by decide) ?_
          rw [hres]
          exact W.zret (v := 0) hx hb hr rfl (fun t ht hW => ⟨rfl, ht⟩) (fun _ h => by cases h) dX2_isSoBy_30
  exact loop2 (sk + 1) 0 (by omega) (Nat.zero_le _) hres ls (lv_sub hl [1, 2, 0] rfl)
def d_X1_push (G : Nat → Nat → Int32) : (Nat → Nat → Int32) :=
  if (G 0 1) = 0 then
      (va_up (va_up G 0 (upd (upd (G 0) 1 (((G 0 1) + (1 : Int32)) - ((G 0 1) + (1 : Int32)) / (10 : Int32) * (10 : Int32))) 2 (if (10 : Int32) < ((G 0 2) + (1 : Int32)) then (10 : Int32) else ((G 0 2) + (1 : Int32))))) 2 (d_X3_become (G 2) (G 12)))
    else
      if (G 0 1) = 1 then
        (va_up (va_up G 0 (upd (upd (G 0) 1 (((G 0 1) + (1 : Int32)) - ((G 0 1) + (1 : Int32)) / (10 : Int32) * (10 : Int32))) 2 (if (10 : Int32) < ((G 0 2) + (1 : Int32)) then (10 : Int32) else ((G 0 2) + (1 : Int32))))) 3 (d_X3_become (G 3) (G 12)))
      else
        if (G 0 1) = 2 then
          (va_up (va_up G 0 (upd (upd (G 0) 1 (((G 0 1) + (1 : Int32)) - ((G 0 1) + (1 : Int32)) / (10 : Int32) * (10 : Int32))) 2 (if (10 : Int32) < ((G 0 2) + (1 : Int32)) then (10 : Int32) else ((G 0 2) + (1 : Int32))))) 4 (d_X3_become (G 4) (G 12)))
        else
          if (G 0 1) = 3 then
            (va_up (va_up G 0 (upd (upd (G 0) 1 (((G 0 1) + (1 : Int32)) - ((G 0 1) + (1 : Int32)) / (10 : Int32) * (10 : Int32))) 2 (if (10 : Int32) < ((G 0 2) + (1 : Int32)) then (10 : Int32) else ((G 0 2) + (1 : Int32))))) 5 (d_X3_become (G 5) (G 12)))
          else
            if (G 0 1) = 4 then
              (va_up (va_up G 0 (upd (upd (G 0) 1 (((G 0 1) + (1 : Int32)) - ((G 0 1) + (1 : Int32)) / (10 : Int32) * (10 : Int32))) 2 (if (10 : Int32) < ((G 0 2) + (1 : Int32)) then (10 : Int32) else ((G 0 2) + (1 : Int32))))) 6 (d_X3_become (G 6) (G 12)))
            else
              if (G 0 1) = 5 then
                (va_up (va_up G 0 (upd (upd (G 0) 1 (((G 0 1) + (1 : Int32)) - ((G 0 1) + (1 : Int32)) / (10 : Int32) * (10 : Int32))) 2 (if (10 : Int32) < ((G 0 2) + (1 : Int32)) then (10 : Int32) else ((G 0 2) + (1 : Int32))))) 7 (d_X3_become (G 7) (G 12)))
              else
                if (G 0 1) = 6 then
                  (va_up (va_up G 0 (upd (upd (G 0) 1 (((G 0 1) + (1 : Int32)) - ((G 0 1) + (1 : Int32)) / (10 : Int32) * (10 : Int32))) 2 (if (10 : Int32) < ((G 0 2) + (1 : Int32)) then (10 : Int32) else ((G 0 2) + (1 : Int32))))) 8 (d_X3_become (G 8) (G 12)))
                else
                  if (G 0 1) = 7 then
                    (va_up (va_up G 0 (upd (upd (G 0) 1 (((G 0 1) + (1 : Int32)) - ((G 0 1) + (1 : Int32)) / (10 : Int32) * (10 : Int32))) 2 (if (10 : Int32) < ((G 0 2) + (1 : Int32)) then (10 : Int32) else ((G 0 2) + (1 : Int32))))) 9 (d_X3_become (G 9) (G 12)))
                  else
                    if (G 0 1) = 8 then
                      (va_up (va_up G 0 (upd (upd (G 0) 1 (((G 0 1) + (1 : Int32)) - ((G 0 1) + (1 : Int32)) / (10 : Int32) * (10 : Int32))) 2 (if (10 : Int32) < ((G 0 2) + (1 : Int32)) then (10 : Int32) else ((G 0 2) + (1 : Int32))))) 10 (d_X3_become (G 10) (G 12)))
                    else
                      (va_up (va_up G 0 (upd (upd (G 0) 1 (((G 0 1) + (1 : Int32)) - ((G 0 1) + (1 : Int32)) / (10 : Int32) * (10 : Int32))) 2 (if (10 : Int32) < ((G 0 2) + (1 : Int32)) then (10 : Int32) else ((G 0 2) + (1 : Int32))))) 11 (d_X3_become (G 11) (G 12)))
set_option maxHeartbeats 4000000 in
set_option maxRecDepth 100000 in
theorem c_X1_push (l : Launch) (D : va_G) (cI cC cZ cS : ClassId) (b : Nat → Nat) (G : Nat → Nat → Int32) (nx : Nat) (hnx : G 0 1 = nI nx) (hx10 : nx < 10) : Met l yX1_push wsX1_push { frames := 1, cells := 0, slots := 0, locals := 21 } (PcE D cI cC cZ cS [.ref (b 0), .ref (b 12)] (wP cI cC cZ cS b G)) (QcM none D (wP cI cC cZ cS b G) (wP cI cC cZ cS b (d_X1_push G))) 0 0 (inW (wP cI cC cZ cS b G)) := by
  refine Met.ofW (cc := cX1_push) (maxL := 2) (ret := none) (by decide) rfl ?_
  intro p e s m args below meth c s₁ B hml hv
  obtain ⟨rfl, hP, hD, hE⟩ := hv
  have hK := hE.1
  have hx := B.exec
  have hb := B.bytes
  have hr := B.returns
  have hts := atoms_spec (ws := wsX1_push) B.pre
  have hown : s.vm.findClass RX1 = some m.cls := findClass_of_methodNamed B.named
  have hlocks := B.notSynchronized
  have hinX1 : ∀ w ∈ wsX10, w ∈ wsX1_push := by decide +kernel
  have hD := inW_self hD
  have hS : va_S (inW (wP cI cC cZ cS b G)) s.heap s.heap [] := va_S.rf
  generalize hA : inW (wP cI cC cZ cS b G) = A at hD hS ⊢
  refine opq (d_X1_push G) (fun R hres => ?_)
  rw [hres]
  replace hres := hres.symm
  rw [d_X1_push] at hres
  have hl := lv_entry ([.ref (b 0), .ref (b 12)]) (n := 2) (Nat.le_of_ble_eq_true rfl)
  rw [lg_entry_eq]
  generalize (lg_sl ([.ref (b 0), .ref (b 12)]) ++ List.replicate (2 - (lg_sl ([.ref (b 0), .ref (b 12)])).length) Slot.unset).toArray = ls at hl ⊢
  have hl : lv_has ls 2 [(0, .ref (b 0)), (1, .ref (b 12))] := hl
  by_cases c_1 : (G 0 1) = 0
  · rw [if_pos c_1] at hres
    refine lv_aload_n hx hb dX1_push_0 rfl (lv_at hl 0 rfl) ?_
    refine va_get (D := D) (ci := 1) (v := .ref (b 1)) (C := RX1) (T := TX1) (N := 3) hx hb hts hinX1 hown hK hP 0 rfl rfl 0 (by decide) (hts (.fieldLink RX1 11 "FirstOut$Past" "steps" "[LFirstOut$Standing;") (by decide +kernel)) (fun _ h9 => h9) rfl dX1_push_1 ?_
    refine lv_aload_n hx hb dX1_push_4 rfl (lv_at hl 0 rfl) ?_
    refine va_get (D := D) (ci := 1) (v := .int (G 0 1)) (C := RX1) (T := TX1) (N := 3) hx hb hts hinX1 hown hK hP 0 rfl rfl 1 (by decide) (hts (.fieldLink RX1 18 "FirstOut$Past" "next" "I") (by decide +kernel)) (fun _ h9 => h9) rfl dX1_push_5 ?_
    refine m_aald hx hb hK hP 1 3 rfl rfl 0 c_1 (by decide) (by decide) (r := (b 2)) rfl dX1_push_8 ?_
    refine lv_aload_n hx hb dX1_push_9 rfl (lv_at hl 1 rfl) ?_
    have hPc := hP.sub (ws' := (wS2 cI cC cZ cS (b 2) (b 12) (G 2) (G 12))) [2, 12] rfl
    have hDc := hD.sub (ws' := (wS2 cI cC cZ cS (b 2) (b 12) (G 2) (G 12))) [2, 12] (by decide) rfl
    refine m_callM (W.runV (As := [.ref (b 12)]) (rest := []) ⟨hx, hb, hml, hown, hts⟩ (c_X3_become l D cI cC cZ cS (b 2) (b 12) (G 2) (G 12)) (cwV 1 hts gX1_push_X3_become rfl rfl rfl (by decide +kernel) ⟨Nat.le_of_ble_eq_true rfl, Nat.le_of_ble_eq_true rfl⟩) (preV_of hPc hDc hE (va_recv hK hPc (ci := 3) (q0 := 0) rfl rfl)) rfl rfl hl.1 rfl (lv_room (Nat.le_of_ble_eq_true rfl)) dX1_push_10 ⟨Nat.zero_le _, Nat.zero_le _⟩) hP hD hS [2, 12] rfl wS2_ad (fun H locs hP hD hS => ?_)
    have hP : va_P D vwCl (wP cI cC cZ cS b (va_up G 2 (d_X3_become (G 2) (G 12)))) H := hP
    have hD : va_D A (wP cI cC cZ cS b (va_up G 2 (d_X3_become (G 2) (G 12)))) := hD
    refine W.eq (g2 := F0 m 13 ls []) rfl ?_
    refine lv_aload_n hx hb dX1_push_13 rfl (lv_at hl 0 rfl) ?_
    refine lv_aload_n hx hb dX1_push_14 rfl (lv_at hl 0 rfl) ?_
    refine va_get (D := D) (ci := 1) (v := .int (G 0 1)) (C := RX1) (T := TX1) (N := 3) hx hb hts hinX1 hown hK hP 0 rfl rfl 1 (by decide) (hts (.fieldLink RX1 18 "FirstOut$Past" "next" "I") (by decide +kernel)) (fun _ h9 => h9) rfl dX1_push_15 ?_
    refine lv_iconst (v := 1) hx hb dX1_push_18 (by decide) ?_
    refine lv_iadd hx hb dX1_push_19 ?_
    refine lv_bipush (v := 10) hx hb dX1_push_20 (by decide) ?_
    refine lv_irem hx hb dX1_push_22 (by decide) ?_
    refine va_put (D := D) (ci := 1) (v := .int (((G 0 1) + (1 : Int32)) - ((G 0 1) + (1 : Int32)) / (10 : Int32) * (10 : Int32))) (ty := .int) (C := RX1) (T := TX1) (N := 3) hx hb hts hinX1 tyX1 tyX1_ok nmX1 hown hK hP hD hS 0 rfl rfl 1 (by decide) (hts (.fieldLink RX1 18 "FirstOut$Past" "next" "I") (by decide +kernel)) (fun _ h9 => h9) rfl (by decide +kernel) rfl rfl (Nat.le_of_ble_eq_true rfl) dX1_push_23 (fun H locs hP hD hS => ?_)
    have hP : va_P D vwCl (wP cI cC cZ cS b (va_up (va_up G 0 (upd (G 0) 1 (((G 0 1) + (1 : Int32)) - ((G 0 1) + (1 : Int32)) / (10 : Int32) * (10 : Int32)))) 2 (d_X3_become (G 2) (G 12)))) H := hP
    have hD : va_D A (wP cI cC cZ cS b (va_up (va_up G 0 (upd (G 0) 1 (((G 0 1) + (1 : Int32)) - ((G 0 1) + (1 : Int32)) / (10 : Int32) * (10 : Int32)))) 2 (d_X3_become (G 2) (G 12)))) := hD
    refine lv_aload_n hx hb dX1_push_26 rfl (lv_at hl 0 rfl) ?_
    refine lv_aload_n hx hb dX1_push_27 rfl (lv_at hl 0 rfl) ?_
    refine va_get (D := D) (ci := 1) (v := .int (G 0 2)) (C := RX1) (T := TX1) (N := 3) hx hb hts hinX1 hown hK hP 0 rfl rfl 2 (by decide) (hts (.fieldLink RX1 26 "FirstOut$Past" "known" "I") (by decide +kernel)) (fun _ h9 => h9) rfl dX1_push_28 ?_
    refine lv_iconst (v := 1) hx hb dX1_push_31 (by decide) ?_
    refine lv_iadd hx hb dX1_push_32 ?_
    refine lv_bipush (v := 10) hx hb dX1_push_33 (by decide) ?_
    refine va_mmin hx hb (by rw [hml]; exact hl.1.symm) hown (hts (.methodLink RX1 29 Lib.Math.min.name) (by decide +kernel)) (hts (.static Lib.Math.min.name) (by decide +kernel)) (hts (.initialized "java/lang/Math") (by decide +kernel)) (hts (.code Lib.Math.min.name Lib.Math.min.code 2 (some .int)) (by decide +kernel)) (Nat.le_of_ble_eq_true rfl) (Nat.le_of_ble_eq_true rfl) (Nat.zero_le _) (Nat.zero_le _) dX1_push_35 ?_
    refine va_put (D := D) (ci := 1) (v := .int (if (10 : Int32) < ((G 0 2) + (1 : Int32)) then (10 : Int32) else ((G 0 2) + (1 : Int32)))) (ty := .int) (C := RX1) (T := TX1) (N := 3) hx hb hts hinX1 tyX1 tyX1_ok nmX1 hown hK hP hD hS 0 rfl rfl 2 (by decide) (hts (.fieldLink RX1 26 "FirstOut$Past" "known" "I") (by decide +kernel)) (fun _ h9 => h9) rfl (by decide +kernel) rfl rfl (Nat.le_of_ble_eq_true rfl) dX1_push_38 (fun H locs hP hD hS => ?_)
    have hP : va_P D vwCl (wP cI cC cZ cS b (va_up (va_up G 0 (upd (upd (G 0) 1 (((G 0 1) + (1 : Int32)) - ((G 0 1) + (1 : Int32)) / (10 : Int32) * (10 : Int32))) 2 (if (10 : Int32) < ((G 0 2) + (1 : Int32)) then (10 : Int32) else ((G 0 2) + (1 : Int32))))) 2 (d_X3_become (G 2) (G 12)))) H := hP
    have hD : va_D A (wP cI cC cZ cS b (va_up (va_up G 0 (upd (upd (G 0) 1 (((G 0 1) + (1 : Int32)) - ((G 0 1) + (1 : Int32)) / (10 : Int32) * (10 : Int32))) 2 (if (10 : Int32) < ((G 0 2) + (1 : Int32)) then (10 : Int32) else ((G 0 2) + (1 : Int32))))) 2 (d_X3_become (G 2) (G 12)))) := hD
    rw [hres]
    exact W.vret hx hb hr (fun t ht hW => ⟨rfl, by rw [ht]; exact hP, by rw [hA]; exact hS.F ht⟩) hS.2.2 dX1_push_41
  · rw [if_neg c_1] at hres
    by_cases c_2 : (G 0 1) = 1
    · rw [if_pos c_2] at hres
      refine lv_aload_n hx hb dX1_push_0 rfl (lv_at hl 0 rfl) ?_
      refine va_get (D := D) (ci := 1) (v := .ref (b 1)) (C := RX1) (T := TX1) (N := 3) hx hb hts hinX1 hown hK hP 0 rfl rfl 0 (by decide) (hts (.fieldLink RX1 11 "FirstOut$Past" "steps" "[LFirstOut$Standing;") (by decide +kernel)) (fun _ h9 => h9) rfl dX1_push_1 ?_
      refine lv_aload_n hx hb dX1_push_4 rfl (lv_at hl 0 rfl) ?_
      refine va_get (D := D) (ci := 1) (v := .int (G 0 1)) (C := RX1) (T := TX1) (N := 3) hx hb hts hinX1 hown hK hP 0 rfl rfl 1 (by decide) (hts (.fieldLink RX1 18 "FirstOut$Past" "next" "I") (by decide +kernel)) (fun _ h9 => h9) rfl dX1_push_5 ?_
      refine m_aald hx hb hK hP 1 3 rfl rfl 1 c_2 (by decide) (by decide) (r := (b 3)) rfl dX1_push_8 ?_
      refine lv_aload_n hx hb dX1_push_9 rfl (lv_at hl 1 rfl) ?_
      have hPc := hP.sub (ws' := (wS2 cI cC cZ cS (b 3) (b 12) (G 3) (G 12))) [3, 12] rfl
      have hDc := hD.sub (ws' := (wS2 cI cC cZ cS (b 3) (b 12) (G 3) (G 12))) [3, 12] (by decide) rfl
      refine m_callM (W.runV (As := [.ref (b 12)]) (rest := []) ⟨hx, hb, hml, hown, hts⟩ (c_X3_become l D cI cC cZ cS (b 3) (b 12) (G 3) (G 12)) (cwV 1 hts gX1_push_X3_become rfl rfl rfl (by decide +kernel) ⟨Nat.le_of_ble_eq_true rfl, Nat.le_of_ble_eq_true rfl⟩) (preV_of hPc hDc hE (va_recv hK hPc (ci := 3) (q0 := 0) rfl rfl)) rfl rfl hl.1 rfl (lv_room (Nat.le_of_ble_eq_true rfl)) dX1_push_10 ⟨Nat.zero_le _, Nat.zero_le _⟩) hP hD hS [3, 12] rfl wS2_ad (fun H locs hP hD hS => ?_)
      have hP : va_P D vwCl (wP cI cC cZ cS b (va_up G 3 (d_X3_become (G 3) (G 12)))) H := hP
      have hD : va_D A (wP cI cC cZ cS b (va_up G 3 (d_X3_become (G 3) (G 12)))) := hD
      refine W.eq (g2 := F0 m 13 ls []) rfl ?_
      refine lv_aload_n hx hb dX1_push_13 rfl (lv_at hl 0 rfl) ?_
      refine lv_aload_n hx hb dX1_push_14 rfl (lv_at hl 0 rfl) ?_
      refine va_get (D := D) (ci := 1) (v := .int (G 0 1)) (C := RX1) (T := TX1) (N := 3) hx hb hts hinX1 hown hK hP 0 rfl rfl 1 (by decide) (hts (.fieldLink RX1 18 "FirstOut$Past" "next" "I") (by decide +kernel)) (fun _ h9 => h9) rfl dX1_push_15 ?_
      refine lv_iconst (v := 1) hx hb dX1_push_18 (by decide) ?_
      refine lv_iadd hx hb dX1_push_19 ?_
      refine lv_bipush (v := 10) hx hb dX1_push_20 (by decide) ?_
      refine lv_irem hx hb dX1_push_22 (by decide) ?_
      refine va_put (D := D) (ci := 1) (v := .int (((G 0 1) + (1 : Int32)) - ((G 0 1) + (1 : Int32)) / (10 : Int32) * (10 : Int32))) (ty := .int) (C := RX1) (T := TX1) (N := 3) hx hb hts hinX1 tyX1 tyX1_ok nmX1 hown hK hP hD hS 0 rfl rfl 1 (by decide) (hts (.fieldLink RX1 18 "FirstOut$Past" "next" "I") (by decide +kernel)) (fun _ h9 => h9) rfl (by decide +kernel) rfl rfl (Nat.le_of_ble_eq_true rfl) dX1_push_23 (fun H locs hP hD hS => ?_)
      have hP : va_P D vwCl (wP cI cC cZ cS b (va_up (va_up G 0 (upd (G 0) 1 (((G 0 1) + (1 : Int32)) - ((G 0 1) + (1 : Int32)) / (10 : Int32) * (10 : Int32)))) 3 (d_X3_become (G 3) (G 12)))) H := hP
      have hD : va_D A (wP cI cC cZ cS b (va_up (va_up G 0 (upd (G 0) 1 (((G 0 1) + (1 : Int32)) - ((G 0 1) + (1 : Int32)) / (10 : Int32) * (10 : Int32)))) 3 (d_X3_become (G 3) (G 12)))) := hD
      refine lv_aload_n hx hb dX1_push_26 rfl (lv_at hl 0 rfl) ?_
      refine lv_aload_n hx hb dX1_push_27 rfl (lv_at hl 0 rfl) ?_
      refine va_get (D := D) (ci := 1) (v := .int (G 0 2)) (C := RX1) (T := TX1) (N := 3) hx hb hts hinX1 hown hK hP 0 rfl rfl 2 (by decide) (hts (.fieldLink RX1 26 "FirstOut$Past" "known" "I") (by decide +kernel)) (fun _ h9 => h9) rfl dX1_push_28 ?_
      refine lv_iconst (v := 1) hx hb dX1_push_31 (by decide) ?_
      refine lv_iadd hx hb dX1_push_32 ?_
      refine lv_bipush (v := 10) hx hb dX1_push_33 (by decide) ?_
      refine va_mmin hx hb (by rw [hml]; exact hl.1.symm) hown (hts (.methodLink RX1 29 Lib.Math.min.name) (by decide +kernel)) (hts (.static Lib.Math.min.name) (by decide +kernel)) (hts (.initialized "java/lang/Math") (by decide +kernel)) (hts (.code Lib.Math.min.name Lib.Math.min.code 2 (some .int)) (by decide +kernel)) (Nat.le_of_ble_eq_true rfl) (Nat.le_of_ble_eq_true rfl) (Nat.zero_le _) (Nat.zero_le _) dX1_push_35 ?_
      refine va_put (D := D) (ci := 1) (v := .int (if (10 : Int32) < ((G 0 2) + (1 : Int32)) then (10 : Int32) else ((G 0 2) + (1 : Int32)))) (ty := .int) (C := RX1) (T := TX1) (N := 3) hx hb hts hinX1 tyX1 tyX1_ok nmX1 hown hK hP hD hS 0 rfl rfl 2 (by decide) (hts (.fieldLink RX1 26 "FirstOut$Past" "known" "I") (by decide +kernel)) (fun _ h9 => h9) rfl (by decide +kernel) rfl rfl (Nat.le_of_ble_eq_true rfl) dX1_push_38 (fun H locs hP hD hS => ?_)
      have hP : va_P D vwCl (wP cI cC cZ cS b (va_up (va_up G 0 (upd (upd (G 0) 1 (((G 0 1) + (1 : Int32)) - ((G 0 1) + (1 : Int32)) / (10 : Int32) * (10 : Int32))) 2 (if (10 : Int32) < ((G 0 2) + (1 : Int32)) then (10 : Int32) else ((G 0 2) + (1 : Int32))))) 3 (d_X3_become (G 3) (G 12)))) H := hP
      have hD : va_D A (wP cI cC cZ cS b (va_up (va_up G 0 (upd (upd (G 0) 1 (((G 0 1) + (1 : Int32)) - ((G 0 1) + (1 : Int32)) / (10 : Int32) * (10 : Int32))) 2 (if (10 : Int32) < ((G 0 2) + (1 : Int32)) then (10 : Int32) else ((G 0 2) + (1 : Int32))))) 3 (d_X3_become (G 3) (G 12)))) := hD
      rw [hres]
      exact W.vret hx hb hr (fun t ht hW => ⟨rfl, by rw [ht]; exact hP, by rw [hA]; exact hS.F ht⟩) hS.2.2 dX1_push_41
    · rw [if_neg c_2] at hres
      by_cases c_3 : (G 0 1) = 2
      · rw [if_pos c_3] at hres
        refine lv_aload_n hx hb dX1_push_0 rfl (lv_at hl 0 rfl) ?_
        refine va_get (D := D) (ci := 1) (v := .ref (b 1)) (C := RX1) (T := TX1) (N := 3) hx hb hts hinX1 hown hK hP 0 rfl rfl 0 (by decide) (hts (.fieldLink RX1 11 "FirstOut$Past" "steps" "[LFirstOut$Standing;") (by decide +kernel)) (fun _ h9 => h9) rfl dX1_push_1 ?_
        refine lv_aload_n hx hb dX1_push_4 rfl (lv_at hl 0 rfl) ?_
        refine va_get (D := D) (ci := 1) (v := .int (G 0 1)) (C := RX1) (T := TX1) (N := 3) hx hb hts hinX1 hown hK hP 0 rfl rfl 1 (by decide) (hts (.fieldLink RX1 18 "FirstOut$Past" "next" "I") (by decide +kernel)) (fun _ h9 => h9) rfl dX1_push_5 ?_
        refine m_aald hx hb hK hP 1 3 rfl rfl 2 c_3 (by decide) (by decide) (r := (b 4)) rfl dX1_push_8 ?_
        refine lv_aload_n hx hb dX1_push_9 rfl (lv_at hl 1 rfl) ?_
        have hPc := hP.sub (ws' := (wS2 cI cC cZ cS (b 4) (b 12) (G 4) (G 12))) [4, 12] rfl
        have hDc := hD.sub (ws' := (wS2 cI cC cZ cS (b 4) (b 12) (G 4) (G 12))) [4, 12] (by decide) rfl
        refine m_callM (W.runV (As := [.ref (b 12)]) (rest := []) ⟨hx, hb, hml, hown, hts⟩ (c_X3_become l D cI cC cZ cS (b 4) (b 12) (G 4) (G 12)) (cwV 1 hts gX1_push_X3_become rfl rfl rfl (by decide +kernel) ⟨Nat.le_of_ble_eq_true rfl, Nat.le_of_ble_eq_true rfl⟩) (preV_of hPc hDc hE (va_recv hK hPc (ci := 3) (q0 := 0) rfl rfl)) rfl rfl hl.1 rfl (lv_room (Nat.le_of_ble_eq_true rfl)) dX1_push_10 ⟨Nat.zero_le _, Nat.zero_le _⟩) hP hD hS [4, 12] rfl wS2_ad (fun H locs hP hD hS => ?_)
        have hP : va_P D vwCl (wP cI cC cZ cS b (va_up G 4 (d_X3_become (G 4) (G 12)))) H := hP
        have hD : va_D A (wP cI cC cZ cS b (va_up G 4 (d_X3_become (G 4) (G 12)))) := hD
        refine W.eq (g2 := F0 m 13 ls []) rfl ?_
        refine lv_aload_n hx hb dX1_push_13 rfl (lv_at hl 0 rfl) ?_
        refine lv_aload_n hx hb dX1_push_14 rfl (lv_at hl 0 rfl) ?_
        refine va_get (D := D) (ci := 1) (v := .int (G 0 1)) (C := RX1) (T := TX1) (N := 3) hx hb hts hinX1 hown hK hP 0 rfl rfl 1 (by decide) (hts (.fieldLink RX1 18 "FirstOut$Past" "next" "I") (by decide +kernel)) (fun _ h9 => h9) rfl dX1_push_15 ?_
        refine lv_iconst (v := 1) hx hb dX1_push_18 (by decide) ?_
        refine lv_iadd hx hb dX1_push_19 ?_
        refine lv_bipush (v := 10) hx hb dX1_push_20 (by decide) ?_
        refine lv_irem hx hb dX1_push_22 (by decide) ?_
        refine va_put (D := D) (ci := 1) (v := .int (((G 0 1) + (1 : Int32)) - ((G 0 1) + (1 : Int32)) / (10 : Int32) * (10 : Int32))) (ty := .int) (C := RX1) (T := TX1) (N := 3) hx hb hts hinX1 tyX1 tyX1_ok nmX1 hown hK hP hD hS 0 rfl rfl 1 (by decide) (hts (.fieldLink RX1 18 "FirstOut$Past" "next" "I") (by decide +kernel)) (fun _ h9 => h9) rfl (by decide +kernel) rfl rfl (Nat.le_of_ble_eq_true rfl) dX1_push_23 (fun H locs hP hD hS => ?_)
        have hP : va_P D vwCl (wP cI cC cZ cS b (va_up (va_up G 0 (upd (G 0) 1 (((G 0 1) + (1 : Int32)) - ((G 0 1) + (1 : Int32)) / (10 : Int32) * (10 : Int32)))) 4 (d_X3_become (G 4) (G 12)))) H := hP
        have hD : va_D A (wP cI cC cZ cS b (va_up (va_up G 0 (upd (G 0) 1 (((G 0 1) + (1 : Int32)) - ((G 0 1) + (1 : Int32)) / (10 : Int32) * (10 : Int32)))) 4 (d_X3_become (G 4) (G 12)))) := hD
        refine lv_aload_n hx hb dX1_push_26 rfl (lv_at hl 0 rfl) ?_
        refine lv_aload_n hx hb dX1_push_27 rfl (lv_at hl 0 rfl) ?_
        refine va_get (D := D) (ci := 1) (v := .int (G 0 2)) (C := RX1) (T := TX1) (N := 3) hx hb hts hinX1 hown hK hP 0 rfl rfl 2 (by decide) (hts (.fieldLink RX1 26 "FirstOut$Past" "known" "I") (by decide +kernel)) (fun _ h9 => h9) rfl dX1_push_28 ?_
        refine lv_iconst (v := 1) hx hb dX1_push_31 (by decide) ?_
        refine lv_iadd hx hb dX1_push_32 ?_
        refine lv_bipush (v := 10) hx hb dX1_push_33 (by decide) ?_
        refine va_mmin hx hb (by rw [hml]; exact hl.1.symm) hown (hts (.methodLink RX1 29 Lib.Math.min.name) (by decide +kernel)) (hts (.static Lib.Math.min.name) (by decide +kernel)) (hts (.initialized "java/lang/Math") (by decide +kernel)) (hts (.code Lib.Math.min.name Lib.Math.min.code 2 (some .int)) (by decide +kernel)) (Nat.le_of_ble_eq_true rfl) (Nat.le_of_ble_eq_true rfl) (Nat.zero_le _) (Nat.zero_le _) dX1_push_35 ?_
        refine va_put (D := D) (ci := 1) (v := .int (if (10 : Int32) < ((G 0 2) + (1 : Int32)) then (10 : Int32) else ((G 0 2) + (1 : Int32)))) (ty := .int) (C := RX1) (T := TX1) (N := 3) hx hb hts hinX1 tyX1 tyX1_ok nmX1 hown hK hP hD hS 0 rfl rfl 2 (by decide) (hts (.fieldLink RX1 26 "FirstOut$Past" "known" "I") (by decide +kernel)) (fun _ h9 => h9) rfl (by decide +kernel) rfl rfl (Nat.le_of_ble_eq_true rfl) dX1_push_38 (fun H locs hP hD hS => ?_)
        have hP : va_P D vwCl (wP cI cC cZ cS b (va_up (va_up G 0 (upd (upd (G 0) 1 (((G 0 1) + (1 : Int32)) - ((G 0 1) + (1 : Int32)) / (10 : Int32) * (10 : Int32))) 2 (if (10 : Int32) < ((G 0 2) + (1 : Int32)) then (10 : Int32) else ((G 0 2) + (1 : Int32))))) 4 (d_X3_become (G 4) (G 12)))) H := hP
        have hD : va_D A (wP cI cC cZ cS b (va_up (va_up G 0 (upd (upd (G 0) 1 (((G 0 1) + (1 : Int32)) - ((G 0 1) + (1 : Int32)) / (10 : Int32) * (10 : Int32))) 2 (if (10 : Int32) < ((G 0 2) + (1 : Int32)) then (10 : Int32) else ((G 0 2) + (1 : Int32))))) 4 (d_X3_become (G 4) (G 12)))) := hD
        rw [hres]
        exact W.vret hx hb hr (fun t ht hW => ⟨rfl, by rw [ht]; exact hP, by rw [hA]; exact hS.F ht⟩) hS.2.2 dX1_push_41
      · rw [if_neg c_3] at hres
        by_cases c_4 : (G 0 1) = 3
        · rw [if_pos c_4] at hres
          refine lv_aload_n hx hb dX1_push_0 rfl (lv_at hl 0 rfl) ?_
          refine va_get (D := D) (ci := 1) (v := .ref (b 1)) (C := RX1) (T := TX1) (N := 3) hx hb hts hinX1 hown hK hP 0 rfl rfl 0 (by decide) (hts (.fieldLink RX1 11 "FirstOut$Past" "steps" "[LFirstOut$Standing;") (by decide +kernel)) (fun _ h9 => h9) rfl dX1_push_1 ?_
          refine lv_aload_n hx hb dX1_push_4 rfl (lv_at hl 0 rfl) ?_
          refine va_get (D := D) (ci := 1) (v := .int (G 0 1)) (C := RX1) (T := TX1) (N := 3) hx hb hts hinX1 hown hK hP 0 rfl rfl 1 (by decide) (hts (.fieldLink RX1 18 "FirstOut$Past" "next" "I") (by decide +kernel)) (fun _ h9 => h9) rfl dX1_push_5 ?_
          refine m_aald hx hb hK hP 1 3 rfl rfl 3 c_4 (by decide) (by decide) (r := (b 5)) rfl dX1_push_8 ?_
          refine lv_aload_n hx hb dX1_push_9 rfl (lv_at hl 1 rfl) ?_
          have hPc := hP.sub (ws' := (wS2 cI cC cZ cS (b 5) (b 12) (G 5) (G 12))) [5, 12] rfl
          have hDc := hD.sub (ws' := (wS2 cI cC cZ cS (b 5) (b 12) (G 5) (G 12))) [5, 12] (by decide) rfl
          refine m_callM (W.runV (As := [.ref (b 12)]) (rest := []) ⟨hx, hb, hml, hown, hts⟩ (c_X3_become l D cI cC cZ cS (b 5) (b 12) (G 5) (G 12)) (cwV 1 hts gX1_push_X3_become rfl rfl rfl (by decide +kernel) ⟨Nat.le_of_ble_eq_true rfl, Nat.le_of_ble_eq_true rfl⟩) (preV_of hPc hDc hE (va_recv hK hPc (ci := 3) (q0 := 0) rfl rfl)) rfl rfl hl.1 rfl (lv_room (Nat.le_of_ble_eq_true rfl)) dX1_push_10 ⟨Nat.zero_le _, Nat.zero_le _⟩) hP hD hS [5, 12] rfl wS2_ad (fun H locs hP hD hS => ?_)
          have hP : va_P D vwCl (wP cI cC cZ cS b (va_up G 5 (d_X3_become (G 5) (G 12)))) H := hP
          have hD : va_D A (wP cI cC cZ cS b (va_up G 5 (d_X3_become (G 5) (G 12)))) := hD
          refine W.eq (g2 := F0 m 13 ls []) rfl ?_
          refine lv_aload_n hx hb dX1_push_13 rfl (lv_at hl 0 rfl) ?_
          refine lv_aload_n hx hb dX1_push_14 rfl (lv_at hl 0 rfl) ?_
          refine va_get (D := D) (ci := 1) (v := .int (G 0 1)) (C := RX1) (T := TX1) (N := 3) hx hb hts hinX1 hown hK hP 0 rfl rfl 1 (by decide) (hts (.fieldLink RX1 18 "FirstOut$Past" "next" "I") (by decide +kernel)) (fun _ h9 => h9) rfl dX1_push_15 ?_
          refine lv_iconst (v := 1) hx hb dX1_push_18 (by decide) ?_
          refine lv_iadd hx hb dX1_push_19 ?_
          refine lv_bipush (v := 10) hx hb dX1_push_20 (by decide) ?_
          refine lv_irem hx hb dX1_push_22 (by decide) ?_
          refine va_put (D := D) (ci := 1) (v := .int (((G 0 1) + (1 : Int32)) - ((G 0 1) + (1 : Int32)) / (10 : Int32) * (10 : Int32))) (ty := .int) (C := RX1) (T := TX1) (N := 3) hx hb hts hinX1 tyX1 tyX1_ok nmX1 hown hK hP hD hS 0 rfl rfl 1 (by decide) (hts (.fieldLink RX1 18 "FirstOut$Past" "next" "I") (by decide +kernel)) (fun _ h9 => h9) rfl (by decide +kernel) rfl rfl (Nat.le_of_ble_eq_true rfl) dX1_push_23 (fun H locs hP hD hS => ?_)
          have hP : va_P D vwCl (wP cI cC cZ cS b (va_up (va_up G 0 (upd (G 0) 1 (((G 0 1) + (1 : Int32)) - ((G 0 1) + (1 : Int32)) / (10 : Int32) * (10 : Int32)))) 5 (d_X3_become (G 5) (G 12)))) H := hP
          have hD : va_D A (wP cI cC cZ cS b (va_up (va_up G 0 (upd (G 0) 1 (((G 0 1) + (1 : Int32)) - ((G 0 1) + (1 : Int32)) / (10 : Int32) * (10 : Int32)))) 5 (d_X3_become (G 5) (G 12)))) := hD
          refine lv_aload_n hx hb dX1_push_26 rfl (lv_at hl 0 rfl) ?_
          refine lv_aload_n hx hb dX1_push_27 rfl (lv_at hl 0 rfl) ?_
          refine va_get (D := D) (ci := 1) (v := .int (G 0 2)) (C := RX1) (T := TX1) (N := 3) hx hb hts hinX1 hown hK hP 0 rfl rfl 2 (by decide) (hts (.fieldLink RX1 26 "FirstOut$Past" "known" "I") (by decide +kernel)) (fun _ h9 => h9) rfl dX1_push_28 ?_
          refine lv_iconst (v := 1) hx hb dX1_push_31 (by decide) ?_
          refine lv_iadd hx hb dX1_push_32 ?_
          refine lv_bipush (v := 10) hx hb dX1_push_33 (by decide) ?_
          refine va_mmin hx hb (by rw [hml]; exact hl.1.symm) hown (hts (.methodLink RX1 29 Lib.Math.min.name) (by decide +kernel)) (hts (.static Lib.Math.min.name) (by decide +kernel)) (hts (.initialized "java/lang/Math") (by decide +kernel)) (hts (.code Lib.Math.min.name Lib.Math.min.code 2 (some .int)) (by decide +kernel)) (Nat.le_of_ble_eq_true rfl) (Nat.le_of_ble_eq_true rfl) (Nat.zero_le _) (Nat.zero_le _) dX1_push_35 ?_
          refine va_put (D := D) (ci := 1) (v := .int (if (10 : Int32) < ((G 0 2) + (1 : Int32)) then (10 : Int32) else ((G 0 2) + (1 : Int32)))) (ty := .int) (C := RX1) (T := TX1) (N := 3) hx hb hts hinX1 tyX1 tyX1_ok nmX1 hown hK hP hD hS 0 rfl rfl 2 (by decide) (hts (.fieldLink RX1 26 "FirstOut$Past" "known" "I") (by decide +kernel)) (fun _ h9 => h9) rfl (by decide +kernel) rfl rfl (Nat.le_of_ble_eq_true rfl) dX1_push_38 (fun H locs hP hD hS => ?_)
          have hP : va_P D vwCl (wP cI cC cZ cS b (va_up (va_up G 0 (upd (upd (G 0) 1 (((G 0 1) + (1 : Int32)) - ((G 0 1) + (1 : Int32)) / (10 : Int32) * (10 : Int32))) 2 (if (10 : Int32) < ((G 0 2) + (1 : Int32)) then (10 : Int32) else ((G 0 2) + (1 : Int32))))) 5 (d_X3_become (G 5) (G 12)))) H := hP
          have hD : va_D A (wP cI cC cZ cS b (va_up (va_up G 0 (upd (upd (G 0) 1 (((G 0 1) + (1 : Int32)) - ((G 0 1) + (1 : Int32)) / (10 : Int32) * (10 : Int32))) 2 (if (10 : Int32) < ((G 0 2) + (1 : Int32)) then (10 : Int32) else ((G 0 2) + (1 : Int32))))) 5 (d_X3_become (G 5) (G 12)))) := hD
          rw [hres]
          exact W.vret hx hb hr (fun t ht hW => ⟨rfl, by rw [ht]; exact hP, by rw [hA]; exact hS.F ht⟩) hS.2.2 dX1_push_41
        · rw [if_neg c_4] at hres
          by_cases c_5 : (G 0 1) = 4
          · rw [if_pos c_5] at hres
            refine lv_aload_n hx hb dX1_push_0 rfl (lv_at hl 0 rfl) ?_
            refine va_get (D := D) (ci := 1) (v := .ref (b 1)) (C := RX1) (T := TX1) (N := 3) hx hb hts hinX1 hown hK hP 0 rfl rfl 0 (by decide) (hts (.fieldLink RX1 11 "FirstOut$Past" "steps" "[LFirstOut$Standing;") (by decide +kernel)) (fun _ h9 => h9) rfl dX1_push_1 ?_
            refine lv_aload_n hx hb dX1_push_4 rfl (lv_at hl 0 rfl) ?_
            refine va_get (D := D) (ci := 1) (v := .int (G 0 1)) (C := RX1) (T := TX1) (N := 3) hx hb hts hinX1 hown hK hP 0 rfl rfl 1 (by decide) (hts (.fieldLink RX1 18 "FirstOut$Past" "next" "I") (by decide +kernel)) (fun _ h9 => h9) rfl dX1_push_5 ?_
            refine m_aald hx hb hK hP 1 3 rfl rfl 4 c_5 (by decide) (by decide) (r := (b 6)) rfl dX1_push_8 ?_
            refine lv_aload_n hx hb dX1_push_9 rfl (lv_at hl 1 rfl) ?_
            have hPc := hP.sub (ws' := (wS2 cI cC cZ cS (b 6) (b 12) (G 6) (G 12))) [6, 12] rfl
            have hDc := hD.sub (ws' := (wS2 cI cC cZ cS (b 6) (b 12) (G 6) (G 12))) [6, 12] (by decide) rfl
            refine m_callM (W.runV (As := [.ref (b 12)]) (rest := []) ⟨hx, hb, hml, hown, hts⟩ (c_X3_become l D cI cC cZ cS (b 6) (b 12) (G 6) (G 12)) (cwV 1 hts gX1_push_X3_become rfl rfl rfl (by decide +kernel) ⟨Nat.le_of_ble_eq_true rfl, Nat.le_of_ble_eq_true rfl⟩) (preV_of hPc hDc hE (va_recv hK hPc (ci := 3) (q0 := 0) rfl rfl)) rfl rfl hl.1 rfl (lv_room (Nat.le_of_ble_eq_true rfl)) dX1_push_10 ⟨Nat.zero_le _, Nat.zero_le _⟩) hP hD hS [6, 12] rfl wS2_ad (fun H locs hP hD hS => ?_)
            have hP : va_P D vwCl (wP cI cC cZ cS b (va_up G 6 (d_X3_become (G 6) (G 12)))) H := hP
            have hD : va_D A (wP cI cC cZ cS b (va_up G 6 (d_X3_become (G 6) (G 12)))) := hD
            refine W.eq (g2 := F0 m 13 ls []) rfl ?_
            refine lv_aload_n hx hb dX1_push_13 rfl (lv_at hl 0 rfl) ?_
            refine lv_aload_n hx hb dX1_push_14 rfl (lv_at hl 0 rfl) ?_
            refine va_get (D := D) (ci := 1) (v := .int (G 0 1)) (C := RX1) (T := TX1) (N := 3) hx hb hts hinX1 hown hK hP 0 rfl rfl 1 (by decide) (hts (.fieldLink RX1 18 "FirstOut$Past" "next" "I") (by decide +kernel)) (fun _ h9 => h9) rfl dX1_push_15 ?_
            refine lv_iconst (v := 1) hx hb dX1_push_18 (by decide) ?_
            refine lv_iadd hx hb dX1_push_19 ?_
            refine lv_bipush (v := 10) hx hb dX1_push_20 (by decide) ?_
            refine lv_irem hx hb dX1_push_22 (by decide) ?_
            refine va_put (D := D) (ci := 1) (v := .int (((G 0 1) + (1 : Int32)) - ((G 0 1) + (1 : Int32)) / (10 : Int32) * (10 : Int32))) (ty := .int) (C := RX1) (T := TX1) (N := 3) hx hb hts hinX1 tyX1 tyX1_ok nmX1 hown hK hP hD hS 0 rfl rfl 1 (by decide) (hts (.fieldLink RX1 18 "FirstOut$Past" "next" "I") (by decide +kernel)) (fun _ h9 => h9) rfl (by decide +kernel) rfl rfl (Nat.le_of_ble_eq_true rfl) dX1_push_23 (fun H locs hP hD hS => ?_)
            have hP : va_P D vwCl (wP cI cC cZ cS b (va_up (va_up G 0 (upd (G 0) 1 (((G 0 1) + (1 : Int32)) - ((G 0 1) + (1 : Int32)) / (10 : Int32) * (10 : Int32)))) 6 (d_X3_become (G 6) (G 12)))) H := hP
            have hD : va_D A (wP cI cC cZ cS b (va_up (va_up G 0 (upd (G 0) 1 (((G 0 1) + (1 : Int32)) - ((G 0 1) + (1 : Int32)) / (10 : Int32) * (10 : Int32)))) 6 (d_X3_become (G 6) (G 12)))) := hD
            refine lv_aload_n hx hb dX1_push_26 rfl (lv_at hl 0 rfl) ?_
            refine lv_aload_n hx hb dX1_push_27 rfl (lv_at hl 0 rfl) ?_
            refine va_get (D := D) (ci := 1) (v := .int (G 0 2)) (C := RX1) (T := TX1) (N := 3) hx hb hts hinX1 hown hK hP 0 rfl rfl 2 (by decide) (hts (.fieldLink RX1 26 "FirstOut$Past" "known" "I") (by decide +kernel)) (fun _ h9 => h9) rfl dX1_push_28 ?_
            refine lv_iconst (v := 1) hx hb dX1_push_31 (by decide) ?_
            refine lv_iadd hx hb dX1_push_32 ?_
            refine lv_bipush (v := 10) hx hb dX1_push_33 (by decide) ?_
            refine va_mmin hx hb (by rw [hml]; exact hl.1.symm) hown (hts (.methodLink RX1 29 Lib.Math.min.name) (by decide +kernel)) (hts (.static Lib.Math.min.name) (by decide +kernel)) (hts (.initialized "java/lang/Math") (by decide +kernel)) (hts (.code Lib.Math.min.name Lib.Math.min.code 2 (some .int)) (by decide +kernel)) (Nat.le_of_ble_eq_true rfl) (Nat.le_of_ble_eq_true rfl) (Nat.zero_le _) (Nat.zero_le _) dX1_push_35 ?_
            refine va_put (D := D) (ci := 1) (v := .int (if (10 : Int32) < ((G 0 2) + (1 : Int32)) then (10 : Int32) else ((G 0 2) + (1 : Int32)))) (ty := .int) (C := RX1) (T := TX1) (N := 3) hx hb hts hinX1 tyX1 tyX1_ok nmX1 hown hK hP hD hS 0 rfl rfl 2 (by decide) (hts (.fieldLink RX1 26 "FirstOut$Past" "known" "I") (by decide +kernel)) (fun _ h9 => h9) rfl (by decide +kernel) rfl rfl (Nat.le_of_ble_eq_true rfl) dX1_push_38 (fun H locs hP hD hS => ?_)
            have hP : va_P D vwCl (wP cI cC cZ cS b (va_up (va_up G 0 (upd (upd (G 0) 1 (((G 0 1) + (1 : Int32)) - ((G 0 1) + (1 : Int32)) / (10 : Int32) * (10 : Int32))) 2 (if (10 : Int32) < ((G 0 2) + (1 : Int32)) then (10 : Int32) else ((G 0 2) + (1 : Int32))))) 6 (d_X3_become (G 6) (G 12)))) H := hP
            have hD : va_D A (wP cI cC cZ cS b (va_up (va_up G 0 (upd (upd (G 0) 1 (((G 0 1) + (1 : Int32)) - ((G 0 1) + (1 : Int32)) / (10 : Int32) * (10 : Int32))) 2 (if (10 : Int32) < ((G 0 2) + (1 : Int32)) then (10 : Int32) else ((G 0 2) + (1 : Int32))))) 6 (d_X3_become (G 6) (G 12)))) := hD
            rw [hres]
            exact W.vret hx hb hr (fun t ht hW => ⟨rfl, by rw [ht]; exact hP, by rw [hA]; exact hS.F ht⟩) hS.2.2 dX1_push_41
          · rw [if_neg c_5] at hres
            by_cases c_6 : (G 0 1) = 5
            · rw [if_pos c_6] at hres
              refine lv_aload_n hx hb dX1_push_0 rfl (lv_at hl 0 rfl) ?_
              refine va_get (D := D) (ci := 1) (v := .ref (b 1)) (C := RX1) (T := TX1) (N := 3) hx hb hts hinX1 hown hK hP 0 rfl rfl 0 (by decide) (hts (.fieldLink RX1 11 "FirstOut$Past" "steps" "[LFirstOut$Standing;") (by decide +kernel)) (fun _ h9 => h9) rfl dX1_push_1 ?_
              refine lv_aload_n hx hb dX1_push_4 rfl (lv_at hl 0 rfl) ?_
              refine va_get (D := D) (ci := 1) (v := .int (G 0 1)) (C := RX1) (T := TX1) (N := 3) hx hb hts hinX1 hown hK hP 0 rfl rfl 1 (by decide) (hts (.fieldLink RX1 18 "FirstOut$Past" "next" "I") (by decide +kernel)) (fun _ h9 => h9) rfl dX1_push_5 ?_
              refine m_aald hx hb hK hP 1 3 rfl rfl 5 c_6 (by decide) (by decide) (r := (b 7)) rfl dX1_push_8 ?_
              refine lv_aload_n hx hb dX1_push_9 rfl (lv_at hl 1 rfl) ?_
              have hPc := hP.sub (ws' := (wS2 cI cC cZ cS (b 7) (b 12) (G 7) (G 12))) [7, 12] rfl
              have hDc := hD.sub (ws' := (wS2 cI cC cZ cS (b 7) (b 12) (G 7) (G 12))) [7, 12] (by decide) rfl
              refine m_callM (W.runV (As := [.ref (b 12)]) (rest := []) ⟨hx, hb, hml, hown, hts⟩ (c_X3_become l D cI cC cZ cS (b 7) (b 12) (G 7) (G 12)) (cwV 1 hts gX1_push_X3_become rfl rfl rfl (by decide +kernel) ⟨Nat.le_of_ble_eq_true rfl, Nat.le_of_ble_eq_true rfl⟩) (preV_of hPc hDc hE (va_recv hK hPc (ci := 3) (q0 := 0) rfl rfl)) rfl rfl hl.1 rfl (lv_room (Nat.le_of_ble_eq_true rfl)) dX1_push_10 ⟨Nat.zero_le _, Nat.zero_le _⟩) hP hD hS [7, 12] rfl wS2_ad (fun H locs hP hD hS => ?_)
              have hP : va_P D vwCl (wP cI cC cZ cS b (va_up G 7 (d_X3_become (G 7) (G 12)))) H := hP
              have hD : va_D A (wP cI cC cZ cS b (va_up G 7 (d_X3_become (G 7) (G 12)))) := hD
              refine W.eq (g2 := F0 m 13 ls []) rfl ?_
              refine lv_aload_n hx hb dX1_push_13 rfl (lv_at hl 0 rfl) ?_
              refine lv_aload_n hx hb dX1_push_14 rfl (lv_at hl 0 rfl) ?_
              refine va_get (D := D) (ci := 1) (v := .int (G 0 1)) (C := RX1) (T := TX1) (N := 3) hx hb hts hinX1 hown hK hP 0 rfl rfl 1 (by decide) (hts (.fieldLink RX1 18 "FirstOut$Past" "next" "I") (by decide +kernel)) (fun _ h9 => h9) rfl dX1_push_15 ?_
              refine lv_iconst (v := 1) hx hb dX1_push_18 (by decide) ?_
              refine lv_iadd hx hb dX1_push_19 ?_
              refine lv_bipush (v := 10) hx hb dX1_push_20 (by decide) ?_
              refine lv_irem hx hb dX1_push_22 (by decide) ?_
              refine va_put (D := D) (ci := 1) (v := .int (((G 0 1) + (1 : Int32)) - ((G 0 1) + (1 : Int32)) / (10 : Int32) * (10 : Int32))) (ty := .int) (C := RX1) (T := TX1) (N := 3) hx hb hts hinX1 tyX1 tyX1_ok nmX1 hown hK hP hD hS 0 rfl rfl 1 (by decide) (hts (.fieldLink RX1 18 "FirstOut$Past" "next" "I") (by decide +kernel)) (fun _ h9 => h9) rfl (by decide +kernel) rfl rfl (Nat.le_of_ble_eq_true rfl) dX1_push_23 (fun H locs hP hD hS => ?_)
              have hP : va_P D vwCl (wP cI cC cZ cS b (va_up (va_up G 0 (upd (G 0) 1 (((G 0 1) + (1 : Int32)) - ((G 0 1) + (1 : Int32)) / (10 : Int32) * (10 : Int32)))) 7 (d_X3_become (G 7) (G 12)))) H := hP
              have hD : va_D A (wP cI cC cZ cS b (va_up (va_up G 0 (upd (G 0) 1 (((G 0 1) + (1 : Int32)) - ((G 0 1) + (1 : Int32)) / (10 : Int32) * (10 : Int32)))) 7 (d_X3_become (G 7) (G 12)))) := hD
              refine lv_aload_n hx hb dX1_push_26 rfl (lv_at hl 0 rfl) ?_
              refine lv_aload_n hx hb dX1_push_27 rfl (lv_at hl 0 rfl) ?_
              refine va_get (D := D) (ci := 1) (v := .int (G 0 2)) (C := RX1) (T := TX1) (N := 3) hx hb hts hinX1 hown hK hP 0 rfl rfl 2 (by decide) (hts (.fieldLink RX1 26 "FirstOut$Past" "known" "I") (by decide +kernel)) (fun _ h9 => h9) rfl dX1_push_28 ?_
              refine lv_iconst (v := 1) hx hb dX1_push_31 (by decide) ?_
              refine lv_iadd hx hb dX1_push_32 ?_
              refine lv_bipush (v := 10) hx hb dX1_push_33 (by decide) ?_
              refine va_mmin hx hb (by rw [hml]; exact hl.1.symm) hown (hts (.methodLink RX1 29 Lib.Math.min.name) (by decide +kernel)) (hts (.static Lib.Math.min.name) (by decide +kernel)) (hts (.initialized "java/lang/Math") (by decide +kernel)) (hts (.code Lib.Math.min.name Lib.Math.min.code 2 (some .int)) (by decide +kernel)) (Nat.le_of_ble_eq_true rfl) (Nat.le_of_ble_eq_true rfl) (Nat.zero_le _) (Nat.zero_le _) dX1_push_35 ?_
              refine va_put (D := D) (ci := 1) (v := .int (if (10 : Int32) < ((G 0 2) + (1 : Int32)) then (10 : Int32) else ((G 0 2) + (1 : Int32)))) (ty := .int) (C := RX1) (T := TX1) (N := 3) hx hb hts hinX1 tyX1 tyX1_ok nmX1 hown hK hP hD hS 0 rfl rfl 2 (by decide) (hts (.fieldLink RX1 26 "FirstOut$Past" "known" "I") (by decide +kernel)) (fun _ h9 => h9) rfl (by decide +kernel) rfl rfl (Nat.le_of_ble_eq_true rfl) dX1_push_38 (fun H locs hP hD hS => ?_)
              have hP : va_P D vwCl (wP cI cC cZ cS b (va_up (va_up G 0 (upd (upd (G 0) 1 (((G 0 1) + (1 : Int32)) - ((G 0 1) + (1 : Int32)) / (10 : Int32) * (10 : Int32))) 2 (if (10 : Int32) < ((G 0 2) + (1 : Int32)) then (10 : Int32) else ((G 0 2) + (1 : Int32))))) 7 (d_X3_become (G 7) (G 12)))) H := hP
              have hD : va_D A (wP cI cC cZ cS b (va_up (va_up G 0 (upd (upd (G 0) 1 (((G 0 1) + (1 : Int32)) - ((G 0 1) + (1 : Int32)) / (10 : Int32) * (10 : Int32))) 2 (if (10 : Int32) < ((G 0 2) + (1 : Int32)) then (10 : Int32) else ((G 0 2) + (1 : Int32))))) 7 (d_X3_become (G 7) (G 12)))) := hD
              rw [hres]
              exact W.vret hx hb hr (fun t ht hW => ⟨rfl, by rw [ht]; exact hP, by rw [hA]; exact hS.F ht⟩) hS.2.2 dX1_push_41
            · rw [if_neg c_6] at hres
              by_cases c_7 : (G 0 1) = 6
              · rw [if_pos c_7] at hres
                refine lv_aload_n hx hb dX1_push_0 rfl (lv_at hl 0 rfl) ?_
                refine va_get (D := D) (ci := 1) (v := .ref (b 1)) (C := RX1) (T := TX1) (N := 3) hx hb hts hinX1 hown hK hP 0 rfl rfl 0 (by decide) (hts (.fieldLink RX1 11 "FirstOut$Past" "steps" "[LFirstOut$Standing;") (by decide +kernel)) (fun _ h9 => h9) rfl dX1_push_1 ?_
                refine lv_aload_n hx hb dX1_push_4 rfl (lv_at hl 0 rfl) ?_
                refine va_get (D := D) (ci := 1) (v := .int (G 0 1)) (C := RX1) (T := TX1) (N := 3) hx hb hts hinX1 hown hK hP 0 rfl rfl 1 (by decide) (hts (.fieldLink RX1 18 "FirstOut$Past" "next" "I") (by decide +kernel)) (fun _ h9 => h9) rfl dX1_push_5 ?_
                refine m_aald hx hb hK hP 1 3 rfl rfl 6 c_7 (by decide) (by decide) (r := (b 8)) rfl dX1_push_8 ?_
                refine lv_aload_n hx hb dX1_push_9 rfl (lv_at hl 1 rfl) ?_
                have hPc := hP.sub (ws' := (wS2 cI cC cZ cS (b 8) (b 12) (G 8) (G 12))) [8, 12] rfl
                have hDc := hD.sub (ws' := (wS2 cI cC cZ cS (b 8) (b 12) (G 8) (G 12))) [8, 12] (by decide) rfl
                refine m_callM (W.runV (As := [.ref (b 12)]) (rest := []) ⟨hx, hb, hml, hown, hts⟩ (c_X3_become l D cI cC cZ cS (b 8) (b 12) (G 8) (G 12)) (cwV 1 hts gX1_push_X3_become rfl rfl rfl (by decide +kernel) ⟨Nat.le_of_ble_eq_true rfl, Nat.le_of_ble_eq_true rfl⟩) (preV_of hPc hDc hE (va_recv hK hPc (ci := 3) (q0 := 0) rfl rfl)) rfl rfl hl.1 rfl (lv_room (Nat.le_of_ble_eq_true rfl)) dX1_push_10 ⟨Nat.zero_le _, Nat.zero_le _⟩) hP hD hS [8, 12] rfl wS2_ad (fun H locs hP hD hS => ?_)
                have hP : va_P D vwCl (wP cI cC cZ cS b (va_up G 8 (d_X3_become (G 8) (G 12)))) H := hP
                have hD : va_D A (wP cI cC cZ cS b (va_up G 8 (d_X3_become (G 8) (G 12)))) := hD
                refine W.eq (g2 := F0 m 13 ls []) rfl ?_
                refine lv_aload_n hx hb dX1_push_13 rfl (lv_at hl 0 rfl) ?_
                refine lv_aload_n hx hb dX1_push_14 rfl (lv_at hl 0 rfl) ?_
                refine va_get (D := D) (ci := 1) (v := .int (G 0 1)) (C := RX1) (T := TX1) (N := 3) hx hb hts hinX1 hown hK hP 0 rfl rfl 1 (by decide) (hts (.fieldLink RX1 18 "FirstOut$Past" "next" "I") (by decide +kernel)) (fun _ h9 => h9) rfl dX1_push_15 ?_
                refine lv_iconst (v := 1) hx hb dX1_push_18 (by decide) ?_
                refine lv_iadd hx hb dX1_push_19 ?_
                refine lv_bipush (v := 10) hx hb dX1_push_20 (by decide) ?_
                refine lv_irem hx hb dX1_push_22 (by decide) ?_
                refine va_put (D := D) (ci := 1) (v := .int (((G 0 1) + (1 : Int32)) - ((G 0 1) + (1 : Int32)) / (10 : Int32) * (10 : Int32))) (ty := .int) (C := RX1) (T := TX1) (N := 3) hx hb hts hinX1 tyX1 tyX1_ok nmX1 hown hK hP hD hS 0 rfl rfl 1 (by decide) (hts (.fieldLink RX1 18 "FirstOut$Past" "next" "I") (by decide +kernel)) (fun _ h9 => h9) rfl (by decide +kernel) rfl rfl (Nat.le_of_ble_eq_true rfl) dX1_push_23 (fun H locs hP hD hS => ?_)
                have hP : va_P D vwCl (wP cI cC cZ cS b (va_up (va_up G 0 (upd (G 0) 1 (((G 0 1) + (1 : Int32)) - ((G 0 1) + (1 : Int32)) / (10 : Int32) * (10 : Int32)))) 8 (d_X3_become (G 8) (G 12)))) H := hP
                have hD : va_D A (wP cI cC cZ cS b (va_up (va_up G 0 (upd (G 0) 1 (((G 0 1) + (1 : Int32)) - ((G 0 1) + (1 : Int32)) / (10 : Int32) * (10 : Int32)))) 8 (d_X3_become (G 8) (G 12)))) := hD
                refine lv_aload_n hx hb dX1_push_26 rfl (lv_at hl 0 rfl) ?_
                refine lv_aload_n hx hb dX1_push_27 rfl (lv_at hl 0 rfl) ?_
                refine va_get (D := D) (ci := 1) (v := .int (G 0 2)) (C := RX1) (T := TX1) (N := 3) hx hb hts hinX1 hown hK hP 0 rfl rfl 2 (by decide) (hts (.fieldLink RX1 26 "FirstOut$Past" "known" "I") (by decide +kernel)) (fun _ h9 => h9) rfl dX1_push_28 ?_
                refine lv_iconst (v := 1) hx hb dX1_push_31 (by decide) ?_
                refine lv_iadd hx hb dX1_push_32 ?_
                refine lv_bipush (v := 10) hx hb dX1_push_33 (by decide) ?_
                refine va_mmin hx hb (by rw [hml]; exact hl.1.symm) hown (hts (.methodLink RX1 29 Lib.Math.min.name) (by decide +kernel)) (hts (.static Lib.Math.min.name) (by decide +kernel)) (hts (.initialized "java/lang/Math") (by decide +kernel)) (hts (.code Lib.Math.min.name Lib.Math.min.code 2 (some .int)) (by decide +kernel)) (Nat.le_of_ble_eq_true rfl) (Nat.le_of_ble_eq_true rfl) (Nat.zero_le _) (Nat.zero_le _) dX1_push_35 ?_
                refine va_put (D := D) (ci := 1) (v := .int (if (10 : Int32) < ((G 0 2) + (1 : Int32)) then (10 : Int32) else ((G 0 2) + (1 : Int32)))) (ty := .int) (C := RX1) (T := TX1) (N := 3) hx hb hts hinX1 tyX1 tyX1_ok nmX1 hown hK hP hD hS 0 rfl rfl 2 (by decide) (hts (.fieldLink RX1 26 "FirstOut$Past" "known" "I") (by decide +kernel)) (fun _ h9 => h9) rfl (by decide +kernel) rfl rfl (Nat.le_of_ble_eq_true rfl) dX1_push_38 (fun H locs hP hD hS => ?_)
                have hP : va_P D vwCl (wP cI cC cZ cS b (va_up (va_up G 0 (upd (upd (G 0) 1 (((G 0 1) + (1 : Int32)) - ((G 0 1) + (1 : Int32)) / (10 : Int32) * (10 : Int32))) 2 (if (10 : Int32) < ((G 0 2) + (1 : Int32)) then (10 : Int32) else ((G 0 2) + (1 : Int32))))) 8 (d_X3_become (G 8) (G 12)))) H := hP
                have hD : va_D A (wP cI cC cZ cS b (va_up (va_up G 0 (upd (upd (G 0) 1 (((G 0 1) + (1 : Int32)) - ((G 0 1) + (1 : Int32)) / (10 : Int32) * (10 : Int32))) 2 (if (10 : Int32) < ((G 0 2) + (1 : Int32)) then (10 : Int32) else ((G 0 2) + (1 : Int32))))) 8 (d_X3_become (G 8) (G 12)))) := hD
                rw [hres]
                exact W.vret hx hb hr (fun t ht hW => ⟨rfl, by rw [ht]; exact hP, by rw [hA]; exact hS.F ht⟩) hS.2.2 dX1_push_41
              · rw [if_neg c_7] at hres
                by_cases c_8 : (G 0 1) = 7
                · rw [if_pos c_8] at hres
                  refine lv_aload_n hx hb dX1_push_0 rfl (lv_at hl 0 rfl) ?_
                  refine va_get (D := D) (ci := 1) (v := .ref (b 1)) (C := RX1) (T := TX1) (N := 3) hx hb hts hinX1 hown hK hP 0 rfl rfl 0 (by decide) (hts (.fieldLink RX1 11 "FirstOut$Past" "steps" "[LFirstOut$Standing;") (by decide +kernel)) (fun _ h9 => h9) rfl dX1_push_1 ?_
                  refine lv_aload_n hx hb dX1_push_4 rfl (lv_at hl 0 rfl) ?_
                  refine va_get (D := D) (ci := 1) (v := .int (G 0 1)) (C := RX1) (T := TX1) (N := 3) hx hb hts hinX1 hown hK hP 0 rfl rfl 1 (by decide) (hts (.fieldLink RX1 18 "FirstOut$Past" "next" "I") (by decide +kernel)) (fun _ h9 => h9) rfl dX1_push_5 ?_
                  refine m_aald hx hb hK hP 1 3 rfl rfl 7 c_8 (by decide) (by decide) (r := (b 9)) rfl dX1_push_8 ?_
                  refine lv_aload_n hx hb dX1_push_9 rfl (lv_at hl 1 rfl) ?_
                  have hPc := hP.sub (ws' := (wS2 cI cC cZ cS (b 9) (b 12) (G 9) (G 12))) [9, 12] rfl
                  have hDc := hD.sub (ws' := (wS2 cI cC cZ cS (b 9) (b 12) (G 9) (G 12))) [9, 12] (by decide) rfl
                  refine m_callM (W.runV (As := [.ref (b 12)]) (rest := []) ⟨hx, hb, hml, hown, hts⟩ (c_X3_become l D cI cC cZ cS (b 9) (b 12) (G 9) (G 12)) (cwV 1 hts gX1_push_X3_become rfl rfl rfl (by decide +kernel) ⟨Nat.le_of_ble_eq_true rfl, Nat.le_of_ble_eq_true rfl⟩) (preV_of hPc hDc hE (va_recv hK hPc (ci := 3) (q0 := 0) rfl rfl)) rfl rfl hl.1 rfl (lv_room (Nat.le_of_ble_eq_true rfl)) dX1_push_10 ⟨Nat.zero_le _, Nat.zero_le _⟩) hP hD hS [9, 12] rfl wS2_ad (fun H locs hP hD hS => ?_)
                  have hP : va_P D vwCl (wP cI cC cZ cS b (va_up G 9 (d_X3_become (G 9) (G 12)))) H := hP
                  have hD : va_D A (wP cI cC cZ cS b (va_up G 9 (d_X3_become (G 9) (G 12)))) := hD
                  refine W.eq (g2 := F0 m 13 ls []) rfl ?_
                  refine lv_aload_n hx hb dX1_push_13 rfl (lv_at hl 0 rfl) ?_
                  refine lv_aload_n hx hb dX1_push_14 rfl (lv_at hl 0 rfl) ?_
                  refine va_get (D := D) (ci := 1) (v := .int (G 0 1)) (C := RX1) (T := TX1) (N := 3) hx hb hts hinX1 hown hK hP 0 rfl rfl 1 (by decide) (hts (.fieldLink RX1 18 "FirstOut$Past" "next" "I") (by decide +kernel)) (fun _ h9 => h9) rfl dX1_push_15 ?_
                  refine lv_iconst (v := 1) hx hb dX1_push_18 (by decide) ?_
                  refine lv_iadd hx hb dX1_push_19 ?_
                  refine lv_bipush (v := 10) hx hb dX1_push_20 (by decide) ?_
                  refine lv_irem hx hb dX1_push_22 (by decide) ?_
                  refine va_put (D := D) (ci := 1) (v := .int (((G 0 1) + (1 : Int32)) - ((G 0 1) + (1 : Int32)) / (10 : Int32) * (10 : Int32))) (ty := .int) (C := RX1) (T := TX1) (N := 3) hx hb hts hinX1 tyX1 tyX1_ok nmX1 hown hK hP hD hS 0 rfl rfl 1 (by decide) (hts (.fieldLink RX1 18 "FirstOut$Past" "next" "I") (by decide +kernel)) (fun _ h9 => h9) rfl (by decide +kernel) rfl rfl (Nat.le_of_ble_eq_true rfl) dX1_push_23 (fun H locs hP hD hS => ?_)
                  have hP : va_P D vwCl (wP cI cC cZ cS b (va_up (va_up G 0 (upd (G 0) 1 (((G 0 1) + (1 : Int32)) - ((G 0 1) + (1 : Int32)) / (10 : Int32) * (10 : Int32)))) 9 (d_X3_become (G 9) (G 12)))) H := hP
                  have hD : va_D A (wP cI cC cZ cS b (va_up (va_up G 0 (upd (G 0) 1 (((G 0 1) + (1 : Int32)) - ((G 0 1) + (1 : Int32)) / (10 : Int32) * (10 : Int32)))) 9 (d_X3_become (G 9) (G 12)))) := hD
                  refine lv_aload_n hx hb dX1_push_26 rfl (lv_at hl 0 rfl) ?_
                  refine lv_aload_n hx hb dX1_push_27 rfl (lv_at hl 0 rfl) ?_
                  refine va_get (D := D) (ci := 1) (v := .int (G 0 2)) (C := RX1) (T := TX1) (N := 3) hx hb hts hinX1 hown hK hP 0 rfl rfl 2 (by decide) (hts (.fieldLink RX1 26 "FirstOut$Past" "known" "I") (by decide +kernel)) (fun _ h9 => h9) rfl dX1_push_28 ?_
                  refine lv_iconst (v := 1) hx hb dX1_push_31 (by decide) ?_
                  refine lv_iadd hx hb dX1_push_32 ?_
                  refine lv_bipush (v := 10) hx hb dX1_push_33 (by decide) ?_
                  refine va_mmin hx hb (by rw [hml]; exact hl.1.symm) hown (hts (.methodLink RX1 29 Lib.Math.min.name) (by decide +kernel)) (hts (.static Lib.Math.min.name) (by decide +kernel)) (hts (.initialized "java/lang/Math") (by decide +kernel)) (hts (.code Lib.Math.min.name Lib.Math.min.code 2 (some .int)) (by decide +kernel)) (Nat.le_of_ble_eq_true rfl) (Nat.le_of_ble_eq_true rfl) (Nat.zero_le _) (Nat.zero_le _) dX1_push_35 ?_
                  refine va_put (D := D) (ci := 1) (v := .int (if (10 : Int32) < ((G 0 2) + (1 : Int32)) then (10 : Int32) else ((G 0 2) + (1 : Int32)))) (ty := .int) (C := RX1) (T := TX1) (N := 3) hx hb hts hinX1 tyX1 tyX1_ok nmX1 hown hK hP hD hS 0 rfl rfl 2 (by decide) (hts (.fieldLink RX1 26 "FirstOut$Past" "known" "I") (by decide +kernel)) (fun _ h9 => h9) rfl (by decide +kernel) rfl rfl (Nat.le_of_ble_eq_true rfl) dX1_push_38 (fun H locs hP hD hS => ?_)
                  have hP : va_P D vwCl (wP cI cC cZ cS b (va_up (va_up G 0 (upd (upd (G 0) 1 (((G 0 1) + (1 : Int32)) - ((G 0 1) + (1 : Int32)) / (10 : Int32) * (10 : Int32))) 2 (if (10 : Int32) < ((G 0 2) + (1 : Int32)) then (10 : Int32) else ((G 0 2) + (1 : Int32))))) 9 (d_X3_become (G 9) (G 12)))) H := hP
                  have hD : va_D A (wP cI cC cZ cS b (va_up (va_up G 0 (upd (upd (G 0) 1 (((G 0 1) + (1 : Int32)) - ((G 0 1) + (1 : Int32)) / (10 : Int32) * (10 : Int32))) 2 (if (10 : Int32) < ((G 0 2) + (1 : Int32)) then (10 : Int32) else ((G 0 2) + (1 : Int32))))) 9 (d_X3_become (G 9) (G 12)))) := hD
                  rw [hres]
                  exact W.vret hx hb hr (fun t ht hW => ⟨rfl, by rw [ht]; exact hP, by rw [hA]; exact hS.F ht⟩) hS.2.2 dX1_push_41
                · rw [if_neg c_8] at hres
                  by_cases c_9 : (G 0 1) = 8
                  · rw [if_pos c_9] at hres
                    refine lv_aload_n hx hb dX1_push_0 rfl (lv_at hl 0 rfl) ?_
                    refine va_get (D := D) (ci := 1) (v := .ref (b 1)) (C := RX1) (T := TX1) (N := 3) hx hb hts hinX1 hown hK hP 0 rfl rfl 0 (by decide) (hts (.fieldLink RX1 11 "FirstOut$Past" "steps" "[LFirstOut$Standing;") (by decide +kernel)) (fun _ h9 => h9) rfl dX1_push_1 ?_
                    refine lv_aload_n hx hb dX1_push_4 rfl (lv_at hl 0 rfl) ?_
                    refine va_get (D := D) (ci := 1) (v := .int (G 0 1)) (C := RX1) (T := TX1) (N := 3) hx hb hts hinX1 hown hK hP 0 rfl rfl 1 (by decide) (hts (.fieldLink RX1 18 "FirstOut$Past" "next" "I") (by decide +kernel)) (fun _ h9 => h9) rfl dX1_push_5 ?_
                    refine m_aald hx hb hK hP 1 3 rfl rfl 8 c_9 (by decide) (by decide) (r := (b 10)) rfl dX1_push_8 ?_
                    refine lv_aload_n hx hb dX1_push_9 rfl (lv_at hl 1 rfl) ?_
                    have hPc := hP.sub (ws' := (wS2 cI cC cZ cS (b 10) (b 12) (G 10) (G 12))) [10, 12] rfl
                    have hDc := hD.sub (ws' := (wS2 cI cC cZ cS (b 10) (b 12) (G 10) (G 12))) [10, 12] (by decide) rfl
                    refine m_callM (W.runV (As := [.ref (b 12)]) (rest := []) ⟨hx, hb, hml, hown, hts⟩ (c_X3_become l D cI cC cZ cS (b 10) (b 12) (G 10) (G 12)) (cwV 1 hts gX1_push_X3_become rfl rfl rfl (by decide +kernel) ⟨Nat.le_of_ble_eq_true rfl, Nat.le_of_ble_eq_true rfl⟩) (preV_of hPc hDc hE (va_recv hK hPc (ci := 3) (q0 := 0) rfl rfl)) rfl rfl hl.1 rfl (lv_room (Nat.le_of_ble_eq_true rfl)) dX1_push_10 ⟨Nat.zero_le _, Nat.zero_le _⟩) hP hD hS [10, 12] rfl wS2_ad (fun H locs hP hD hS => ?_)
                    have hP : va_P D vwCl (wP cI cC cZ cS b (va_up G 10 (d_X3_become (G 10) (G 12)))) H := hP
                    have hD : va_D A (wP cI cC cZ cS b (va_up G 10 (d_X3_become (G 10) (G 12)))) := hD
                    refine W.eq (g2 := F0 m 13 ls []) rfl ?_
                    refine lv_aload_n hx hb dX1_push_13 rfl (lv_at hl 0 rfl) ?_
                    refine lv_aload_n hx hb dX1_push_14 rfl (lv_at hl 0 rfl) ?_
                    refine va_get (D := D) (ci := 1) (v := .int (G 0 1)) (C := RX1) (T := TX1) (N := 3) hx hb hts hinX1 hown hK hP 0 rfl rfl 1 (by decide) (hts (.fieldLink RX1 18 "FirstOut$Past" "next" "I") (by decide +kernel)) (fun _ h9 => h9) rfl dX1_push_15 ?_
                    refine lv_iconst (v := 1) hx hb dX1_push_18 (by decide) ?_
                    refine lv_iadd hx hb dX1_push_19 ?_
                    refine lv_bipush (v := 10) hx hb dX1_push_20 (by decide) ?_
                    refine lv_irem hx hb dX1_push_22 (by decide) ?_
                    refine va_put (D := D) (ci := 1) (v := .int (((G 0 1) + (1 : Int32)) - ((G 0 1) + (1 : Int32)) / (10 : Int32) * (10 : Int32))) (ty := .int) (C := RX1) (T := TX1) (N := 3) hx hb hts hinX1 tyX1 tyX1_ok nmX1 hown hK hP hD hS 0 rfl rfl 1 (by decide) (hts (.fieldLink RX1 18 "FirstOut$Past" "next" "I") (by decide +kernel)) (fun _ h9 => h9) rfl (by decide +kernel) rfl rfl (Nat.le_of_ble_eq_true rfl) dX1_push_23 (fun H locs hP hD hS => ?_)
                    have hP : va_P D vwCl (wP cI cC cZ cS b (va_up (va_up G 0 (upd (G 0) 1 (((G 0 1) + (1 : Int32)) - ((G 0 1) + (1 : Int32)) / (10 : Int32) * (10 : Int32)))) 10 (d_X3_become (G 10) (G 12)))) H := hP
                    have hD : va_D A (wP cI cC cZ cS b (va_up (va_up G 0 (upd (G 0) 1 (((G 0 1) + (1 : Int32)) - ((G 0 1) + (1 : Int32)) / (10 : Int32) * (10 : Int32)))) 10 (d_X3_become (G 10) (G 12)))) := hD
                    refine lv_aload_n hx hb dX1_push_26 rfl (lv_at hl 0 rfl) ?_
                    refine lv_aload_n hx hb dX1_push_27 rfl (lv_at hl 0 rfl) ?_
                    refine va_get (D := D) (ci := 1) (v := .int (G 0 2)) (C := RX1) (T := TX1) (N := 3) hx hb hts hinX1 hown hK hP 0 rfl rfl 2 (by decide) (hts (.fieldLink RX1 26 "FirstOut$Past" "known" "I") (by decide +kernel)) (fun _ h9 => h9) rfl dX1_push_28 ?_
                    refine lv_iconst (v := 1) hx hb dX1_push_31 (by decide) ?_
                    refine lv_iadd hx hb dX1_push_32 ?_
                    refine lv_bipush (v := 10) hx hb dX1_push_33 (by decide) ?_
                    refine va_mmin hx hb (by rw [hml]; exact hl.1.symm) hown (hts (.methodLink RX1 29 Lib.Math.min.name) (by decide +kernel)) (hts (.static Lib.Math.min.name) (by decide +kernel)) (hts (.initialized "java/lang/Math") (by decide +kernel)) (hts (.code Lib.Math.min.name Lib.Math.min.code 2 (some .int)) (by decide +kernel)) (Nat.le_of_ble_eq_true rfl) (Nat.le_of_ble_eq_true rfl) (Nat.zero_le _) (Nat.zero_le _) dX1_push_35 ?_
                    refine va_put (D := D) (ci := 1) (v := .int (if (10 : Int32) < ((G 0 2) + (1 : Int32)) then (10 : Int32) else ((G 0 2) + (1 : Int32)))) (ty := .int) (C := RX1) (T := TX1) (N := 3) hx hb hts hinX1 tyX1 tyX1_ok nmX1 hown hK hP hD hS 0 rfl rfl 2 (by decide) (hts (.fieldLink RX1 26 "FirstOut$Past" "known" "I") (by decide +kernel)) (fun _ h9 => h9) rfl (by decide +kernel) rfl rfl (Nat.le_of_ble_eq_true rfl) dX1_push_38 (fun H locs hP hD hS => ?_)
                    have hP : va_P D vwCl (wP cI cC cZ cS b (va_up (va_up G 0 (upd (upd (G 0) 1 (((G 0 1) + (1 : Int32)) - ((G 0 1) + (1 : Int32)) / (10 : Int32) * (10 : Int32))) 2 (if (10 : Int32) < ((G 0 2) + (1 : Int32)) then (10 : Int32) else ((G 0 2) + (1 : Int32))))) 10 (d_X3_become (G 10) (G 12)))) H := hP
                    have hD : va_D A (wP cI cC cZ cS b (va_up (va_up G 0 (upd (upd (G 0) 1 (((G 0 1) + (1 : Int32)) - ((G 0 1) + (1 : Int32)) / (10 : Int32) * (10 : Int32))) 2 (if (10 : Int32) < ((G 0 2) + (1 : Int32)) then (10 : Int32) else ((G 0 2) + (1 : Int32))))) 10 (d_X3_become (G 10) (G 12)))) := hD
                    rw [hres]
                    exact W.vret hx hb hr (fun t ht hW => ⟨rfl, by rw [ht]; exact hP, by rw [hA]; exact hS.F ht⟩) hS.2.2 dX1_push_41
                  · rw [if_neg c_9] at hres
                    have c_10 : (G 0 1) = 9 := last9 hnx hx10 c_1 c_2 c_3 c_4 c_5 c_6 c_7 c_8 c_9
                    refine lv_aload_n hx hb dX1_push_0 rfl (lv_at hl 0 rfl) ?_
                    refine va_get (D := D) (ci := 1) (v := .ref (b 1)) (C := RX1) (T := TX1) (N := 3) hx hb hts hinX1 hown hK hP 0 rfl rfl 0 (by decide) (hts (.fieldLink RX1 11 "FirstOut$Past" "steps" "[LFirstOut$Standing;") (by decide +kernel)) (fun _ h9 => h9) rfl dX1_push_1 ?_
                    refine lv_aload_n hx hb dX1_push_4 rfl (lv_at hl 0 rfl) ?_
                    refine va_get (D := D) (ci := 1) (v := .int (G 0 1)) (C := RX1) (T := TX1) (N := 3) hx hb hts hinX1 hown hK hP 0 rfl rfl 1 (by decide) (hts (.fieldLink RX1 18 "FirstOut$Past" "next" "I") (by decide +kernel)) (fun _ h9 => h9) rfl dX1_push_5 ?_
                    refine m_aald hx hb hK hP 1 3 rfl rfl 9 c_10 (by decide) (by decide) (r := (b 11)) rfl dX1_push_8 ?_
                    refine lv_aload_n hx hb dX1_push_9 rfl (lv_at hl 1 rfl) ?_
                    have hPc := hP.sub (ws' := (wS2 cI cC cZ cS (b 11) (b 12) (G 11) (G 12))) [11, 12] rfl
                    have hDc := hD.sub (ws' := (wS2 cI cC cZ cS (b 11) (b 12) (G 11) (G 12))) [11, 12] (by decide) rfl
                    refine m_callM (W.runV (As := [.ref (b 12)]) (rest := []) ⟨hx, hb, hml, hown, hts⟩ (c_X3_become l D cI cC cZ cS (b 11) (b 12) (G 11) (G 12)) (cwV 1 hts gX1_push_X3_become rfl rfl rfl (by decide +kernel) ⟨Nat.le_of_ble_eq_true rfl, Nat.le_of_ble_eq_true rfl⟩) (preV_of hPc hDc hE (va_recv hK hPc (ci := 3) (q0 := 0) rfl rfl)) rfl rfl hl.1 rfl (lv_room (Nat.le_of_ble_eq_true rfl)) dX1_push_10 ⟨Nat.zero_le _, Nat.zero_le _⟩) hP hD hS [11, 12] rfl wS2_ad (fun H locs hP hD hS => ?_)
                    have hP : va_P D vwCl (wP cI cC cZ cS b (va_up G 11 (d_X3_become (G 11) (G 12)))) H := hP
                    have hD : va_D A (wP cI cC cZ cS b (va_up G 11 (d_X3_become (G 11) (G 12)))) := hD
                    refine W.eq (g2 := F0 m 13 ls []) rfl ?_
                    refine lv_aload_n hx hb dX1_push_13 rfl (lv_at hl 0 rfl) ?_
                    refine lv_aload_n hx hb dX1_push_14 rfl (lv_at hl 0 rfl) ?_
                    refine va_get (D := D) (ci := 1) (v := .int (G 0 1)) (C := RX1) (T := TX1) (N := 3) hx hb hts hinX1 hown hK hP 0 rfl rfl 1 (by decide) (hts (.fieldLink RX1 18 "FirstOut$Past" "next" "I") (by decide +kernel)) (fun _ h9 => h9) rfl dX1_push_15 ?_
                    refine lv_iconst (v := 1) hx hb dX1_push_18 (by decide) ?_
                    refine lv_iadd hx hb dX1_push_19 ?_
                    refine lv_bipush (v := 10) hx hb dX1_push_20 (by decide) ?_
                    refine lv_irem hx hb dX1_push_22 (by decide) ?_
                    refine va_put (D := D) (ci := 1) (v := .int (((G 0 1) + (1 : Int32)) - ((G 0 1) + (1 : Int32)) / (10 : Int32) * (10 : Int32))) (ty := .int) (C := RX1) (T := TX1) (N := 3) hx hb hts hinX1 tyX1 tyX1_ok nmX1 hown hK hP hD hS 0 rfl rfl 1 (by decide) (hts (.fieldLink RX1 18 "FirstOut$Past" "next" "I") (by decide +kernel)) (fun _ h9 => h9) rfl (by decide +kernel) rfl rfl (Nat.le_of_ble_eq_true rfl) dX1_push_23 (fun H locs hP hD hS => ?_)
                    have hP : va_P D vwCl (wP cI cC cZ cS b (va_up (va_up G 0 (upd (G 0) 1 (((G 0 1) + (1 : Int32)) - ((G 0 1) + (1 : Int32)) / (10 : Int32) * (10 : Int32)))) 11 (d_X3_become (G 11) (G 12)))) H := hP
                    have hD : va_D A (wP cI cC cZ cS b (va_up (va_up G 0 (upd (G 0) 1 (((G 0 1) + (1 : Int32)) - ((G 0 1) + (1 : Int32)) / (10 : Int32) * (10 : Int32)))) 11 (d_X3_become (G 11) (G 12)))) := hD
                    refine lv_aload_n hx hb dX1_push_26 rfl (lv_at hl 0 rfl) ?_
                    refine lv_aload_n hx hb dX1_push_27 rfl (lv_at hl 0 rfl) ?_
                    refine va_get (D := D) (ci := 1) (v := .int (G 0 2)) (C := RX1) (T := TX1) (N := 3) hx hb hts hinX1 hown hK hP 0 rfl rfl 2 (by decide) (hts (.fieldLink RX1 26 "FirstOut$Past" "known" "I") (by decide +kernel)) (fun _ h9 => h9) rfl dX1_push_28 ?_
                    refine lv_iconst (v := 1) hx hb dX1_push_31 (by decide) ?_
                    refine lv_iadd hx hb dX1_push_32 ?_
                    refine lv_bipush (v := 10) hx hb dX1_push_33 (by decide) ?_
                    refine va_mmin hx hb (by rw [hml]; exact hl.1.symm) hown (hts (.methodLink RX1 29 Lib.Math.min.name) (by decide +kernel)) (hts (.static Lib.Math.min.name) (by decide +kernel)) (hts (.initialized "java/lang/Math") (by decide +kernel)) (hts (.code Lib.Math.min.name Lib.Math.min.code 2 (some .int)) (by decide +kernel)) (Nat.le_of_ble_eq_true rfl) (Nat.le_of_ble_eq_true rfl) (Nat.zero_le _) (Nat.zero_le _) dX1_push_35 ?_
                    refine va_put (D := D) (ci := 1) (v := .int (if (10 : Int32) < ((G 0 2) + (1 : Int32)) then (10 : Int32) else ((G 0 2) + (1 : Int32)))) (ty := .int) (C := RX1) (T := TX1) (N := 3) hx hb hts hinX1 tyX1 tyX1_ok nmX1 hown hK hP hD hS 0 rfl rfl 2 (by decide) (hts (.fieldLink RX1 26 "FirstOut$Past" "known" "I") (by decide +kernel)) (fun _ h9 => h9) rfl (by decide +kernel) rfl rfl (Nat.le_of_ble_eq_true rfl) dX1_push_38 (fun H locs hP hD hS => ?_)
                    have hP : va_P D vwCl (wP cI cC cZ cS b (va_up (va_up G 0 (upd (upd (G 0) 1 (((G 0 1) + (1 : Int32)) - ((G 0 1) + (1 : Int32)) / (10 : Int32) * (10 : Int32))) 2 (if (10 : Int32) < ((G 0 2) + (1 : Int32)) then (10 : Int32) else ((G 0 2) + (1 : Int32))))) 11 (d_X3_become (G 11) (G 12)))) H := hP
                    have hD : va_D A (wP cI cC cZ cS b (va_up (va_up G 0 (upd (upd (G 0) 1 (((G 0 1) + (1 : Int32)) - ((G 0 1) + (1 : Int32)) / (10 : Int32) * (10 : Int32))) 2 (if (10 : Int32) < ((G 0 2) + (1 : Int32)) then (10 : Int32) else ((G 0 2) + (1 : Int32))))) 11 (d_X3_become (G 11) (G 12)))) := hD
                    rw [hres]
                    exact W.vret hx hb hr (fun t ht hW => ⟨rfl, by rw [ht]; exact hP, by rw [hA]; exact hS.F ht⟩) hS.2.2 dX1_push_41
def d_X1_pop (G : Nat → Nat → Int32) : (Nat → Nat → Int32) :=
  if (G 0 1) = 0 then
      (va_up (va_up G 0 (upd (upd (G 0) 1 ((((G 0 1) + (10 : Int32)) - (1 : Int32)) - (((G 0 1) + (10 : Int32)) - (1 : Int32)) / (10 : Int32) * (10 : Int32))) 2 ((G 0 2) - (1 : Int32)))) 12 (d_X3_become (G 12) (G 11)))
    else
      if (G 0 1) = 1 then
        (va_up (va_up G 0 (upd (upd (G 0) 1 ((((G 0 1) + (10 : Int32)) - (1 : Int32)) - (((G 0 1) + (10 : Int32)) - (1 : Int32)) / (10 : Int32) * (10 : Int32))) 2 ((G 0 2) - (1 : Int32)))) 12 (d_X3_become (G 12) (G 2)))
      else
        if (G 0 1) = 2 then
          (va_up (va_up G 0 (upd (upd (G 0) 1 ((((G 0 1) + (10 : Int32)) - (1 : Int32)) - (((G 0 1) + (10 : Int32)) - (1 : Int32)) / (10 : Int32) * (10 : Int32))) 2 ((G 0 2) - (1 : Int32)))) 12 (d_X3_become (G 12) (G 3)))
        else
          if (G 0 1) = 3 then
            (va_up (va_up G 0 (upd (upd (G 0) 1 ((((G 0 1) + (10 : Int32)) - (1 : Int32)) - (((G 0 1) + (10 : Int32)) - (1 : Int32)) / (10 : Int32) * (10 : Int32))) 2 ((G 0 2) - (1 : Int32)))) 12 (d_X3_become (G 12) (G 4)))
          else
            if (G 0 1) = 4 then
              (va_up (va_up G 0 (upd (upd (G 0) 1 ((((G 0 1) + (10 : Int32)) - (1 : Int32)) - (((G 0 1) + (10 : Int32)) - (1 : Int32)) / (10 : Int32) * (10 : Int32))) 2 ((G 0 2) - (1 : Int32)))) 12 (d_X3_become (G 12) (G 5)))
            else
              if (G 0 1) = 5 then
                (va_up (va_up G 0 (upd (upd (G 0) 1 ((((G 0 1) + (10 : Int32)) - (1 : Int32)) - (((G 0 1) + (10 : Int32)) - (1 : Int32)) / (10 : Int32) * (10 : Int32))) 2 ((G 0 2) - (1 : Int32)))) 12 (d_X3_become (G 12) (G 6)))
              else
                if (G 0 1) = 6 then
                  (va_up (va_up G 0 (upd (upd (G 0) 1 ((((G 0 1) + (10 : Int32)) - (1 : Int32)) - (((G 0 1) + (10 : Int32)) - (1 : Int32)) / (10 : Int32) * (10 : Int32))) 2 ((G 0 2) - (1 : Int32)))) 12 (d_X3_become (G 12) (G 7)))
                else
                  if (G 0 1) = 7 then
                    (va_up (va_up G 0 (upd (upd (G 0) 1 ((((G 0 1) + (10 : Int32)) - (1 : Int32)) - (((G 0 1) + (10 : Int32)) - (1 : Int32)) / (10 : Int32) * (10 : Int32))) 2 ((G 0 2) - (1 : Int32)))) 12 (d_X3_become (G 12) (G 8)))
                  else
                    if (G 0 1) = 8 then
                      (va_up (va_up G 0 (upd (upd (G 0) 1 ((((G 0 1) + (10 : Int32)) - (1 : Int32)) - (((G 0 1) + (10 : Int32)) - (1 : Int32)) / (10 : Int32) * (10 : Int32))) 2 ((G 0 2) - (1 : Int32)))) 12 (d_X3_become (G 12) (G 9)))
                    else
                      (va_up (va_up G 0 (upd (upd (G 0) 1 ((((G 0 1) + (10 : Int32)) - (1 : Int32)) - (((G 0 1) + (10 : Int32)) - (1 : Int32)) / (10 : Int32) * (10 : Int32))) 2 ((G 0 2) - (1 : Int32)))) 12 (d_X3_become (G 12) (G 10)))
set_option maxHeartbeats 4000000 in
set_option maxRecDepth 100000 in
theorem c_X1_pop (l : Launch) (D : va_G) (cI cC cZ cS : ClassId) (b : Nat → Nat) (G : Nat → Nat → Int32) (nx : Nat) (hnx : G 0 1 = nI nx) (hx10 : nx < 10) : Met l yX1_pop wsX1_pop { frames := 1, cells := 0, slots := 0, locals := 21 } (PcE D cI cC cZ cS [.ref (b 0), .ref (b 12)] (wP cI cC cZ cS b G)) (QcM none D (wP cI cC cZ cS b G) (wP cI cC cZ cS b (d_X1_pop G))) 0 0 (inW (wP cI cC cZ cS b G)) := by
  refine Met.ofW (cc := cX1_pop) (maxL := 2) (ret := none) (by decide) rfl ?_
  intro p e s m args below meth c s₁ B hml hv
  obtain ⟨rfl, hP, hD, hE⟩ := hv
  have hK := hE.1
  have hx := B.exec
  have hb := B.bytes
  have hr := B.returns
  have hts := atoms_spec (ws := wsX1_pop) B.pre
  have hown : s.vm.findClass RX1 = some m.cls := findClass_of_methodNamed B.named
  have hlocks := B.notSynchronized
  have hinX1 : ∀ w ∈ wsX10, w ∈ wsX1_pop := by decide +kernel
  have hD := inW_self hD
  have hS : va_S (inW (wP cI cC cZ cS b G)) s.heap s.heap [] := va_S.rf
  generalize hA : inW (wP cI cC cZ cS b G) = A at hD hS ⊢
  refine opq (d_X1_pop G) (fun R hres => ?_)
  rw [hres]
  replace hres := hres.symm
  rw [d_X1_pop] at hres
  have hl := lv_entry ([.ref (b 0), .ref (b 12)]) (n := 2) (Nat.le_of_ble_eq_true rfl)
  rw [lg_entry_eq]
  generalize (lg_sl ([.ref (b 0), .ref (b 12)]) ++ List.replicate (2 - (lg_sl ([.ref (b 0), .ref (b 12)])).length) Slot.unset).toArray = ls at hl ⊢
  have hl : lv_has ls 2 [(0, .ref (b 0)), (1, .ref (b 12))] := hl
  by_cases c_1 : (G 0 1) = 0
  · rw [if_pos c_1] at hres
    refine lv_aload_n hx hb dX1_pop_0 rfl (lv_at hl 0 rfl) ?_
    refine lv_aload_n hx hb dX1_pop_1 rfl (lv_at hl 0 rfl) ?_
    refine va_get (D := D) (ci := 1) (v := .int (G 0 1)) (C := RX1) (T := TX1) (N := 3) hx hb hts hinX1 hown hK hP 0 rfl rfl 1 (by decide) (hts (.fieldLink RX1 18 "FirstOut$Past" "next" "I") (by decide +kernel)) (fun _ h9 => h9) rfl dX1_pop_2 ?_
    refine lv_bipush (v := 10) hx hb dX1_pop_5 (by decide) ?_
    refine lv_iadd hx hb dX1_pop_7 ?_
    refine lv_iconst (v := 1) hx hb dX1_pop_8 (by decide) ?_
    refine lv_isub hx hb dX1_pop_9 ?_
    refine lv_bipush (v := 10) hx hb dX1_pop_10 (by decide) ?_
    refine lv_irem hx hb dX1_pop_12 (by decide) ?_
    refine va_put (D := D) (ci := 1) (v := .int ((((G 0 1) + (10 : Int32)) - (1 : Int32)) - (((G 0 1) + (10 : Int32)) - (1 : Int32)) / (10 : Int32) * (10 : Int32))) (ty := .int) (C := RX1) (T := TX1) (N := 3) hx hb hts hinX1 tyX1 tyX1_ok nmX1 hown hK hP hD hS 0 rfl rfl 1 (by decide) (hts (.fieldLink RX1 18 "FirstOut$Past" "next" "I") (by decide +kernel)) (fun _ h9 => h9) rfl (by decide +kernel) rfl rfl (Nat.le_of_ble_eq_true rfl) dX1_pop_13 (fun H locs hP hD hS => ?_)
    have hP : va_P D vwCl (wP cI cC cZ cS b (va_up G 0 (upd (G 0) 1 ((((G 0 1) + (10 : Int32)) - (1 : Int32)) - (((G 0 1) + (10 : Int32)) - (1 : Int32)) / (10 : Int32) * (10 : Int32))))) H := hP
    have hD : va_D A (wP cI cC cZ cS b (va_up G 0 (upd (G 0) 1 ((((G 0 1) + (10 : Int32)) - (1 : Int32)) - (((G 0 1) + (10 : Int32)) - (1 : Int32)) / (10 : Int32) * (10 : Int32))))) := hD
    refine lv_aload_n hx hb dX1_pop_16 rfl (lv_at hl 0 rfl) ?_
    refine lv_dup hx hb dX1_pop_17 rfl ?_
    refine va_get (D := D) (ci := 1) (v := .int (G 0 2)) (C := RX1) (T := TX1) (N := 3) hx hb hts hinX1 hown hK hP 0 rfl rfl 2 (by decide) (hts (.fieldLink RX1 26 "FirstOut$Past" "known" "I") (by decide +kernel)) (fun _ h9 => h9) rfl dX1_pop_18 ?_
    refine lv_iconst (v := 1) hx hb dX1_pop_21 (by decide) ?_
    refine lv_isub hx hb dX1_pop_22 ?_
    refine va_put (D := D) (ci := 1) (v := .int ((G 0 2) - (1 : Int32))) (ty := .int) (C := RX1) (T := TX1) (N := 3) hx hb hts hinX1 tyX1 tyX1_ok nmX1 hown hK hP hD hS 0 rfl rfl 2 (by decide) (hts (.fieldLink RX1 26 "FirstOut$Past" "known" "I") (by decide +kernel)) (fun _ h9 => h9) rfl (by decide +kernel) rfl rfl (Nat.le_of_ble_eq_true rfl) dX1_pop_23 (fun H locs hP hD hS => ?_)
    have hP : va_P D vwCl (wP cI cC cZ cS b (va_up G 0 (upd (upd (G 0) 1 ((((G 0 1) + (10 : Int32)) - (1 : Int32)) - (((G 0 1) + (10 : Int32)) - (1 : Int32)) / (10 : Int32) * (10 : Int32))) 2 ((G 0 2) - (1 : Int32))))) H := hP
    have hD : va_D A (wP cI cC cZ cS b (va_up G 0 (upd (upd (G 0) 1 ((((G 0 1) + (10 : Int32)) - (1 : Int32)) - (((G 0 1) + (10 : Int32)) - (1 : Int32)) / (10 : Int32) * (10 : Int32))) 2 ((G 0 2) - (1 : Int32))))) := hD
    refine lv_aload_n hx hb dX1_pop_26 rfl (lv_at hl 1 rfl) ?_
    refine lv_aload_n hx hb dX1_pop_27 rfl (lv_at hl 0 rfl) ?_
    refine va_get (D := D) (ci := 1) (v := .ref (b 1)) (C := RX1) (T := TX1) (N := 3) hx hb hts hinX1 hown hK hP 0 rfl rfl 0 (by decide) (hts (.fieldLink RX1 11 "FirstOut$Past" "steps" "[LFirstOut$Standing;") (by decide +kernel)) (fun _ h9 => h9) rfl dX1_pop_28 ?_
    refine lv_aload_n hx hb dX1_pop_31 rfl (lv_at hl 0 rfl) ?_
    refine va_get (D := D) (ci := 1) (v := .int ((((G 0 1) + (10 : Int32)) - (1 : Int32)) - (((G 0 1) + (10 : Int32)) - (1 : Int32)) / (10 : Int32) * (10 : Int32))) (C := RX1) (T := TX1) (N := 3) hx hb hts hinX1 hown hK hP 0 rfl rfl 1 (by decide) (hts (.fieldLink RX1 18 "FirstOut$Past" "next" "I") (by decide +kernel)) (fun _ h9 => h9) rfl dX1_pop_32 ?_
    refine m_aald hx hb hK hP 1 3 rfl rfl 9 (by rw [c_1]; decide) (by decide) (by decide) (r := (b 11)) rfl dX1_pop_35 ?_
    have hPc := hP.sub (ws' := (wS2 cI cC cZ cS (b 12) (b 11) (G 12) (G 11))) [12, 11] rfl
    have hDc := hD.sub (ws' := (wS2 cI cC cZ cS (b 12) (b 11) (G 12) (G 11))) [12, 11] (by decide) rfl
    refine m_callM (W.runV (As := [.ref (b 11)]) (rest := []) ⟨hx, hb, hml, hown, hts⟩ (c_X3_become l D cI cC cZ cS (b 12) (b 11) (G 12) (G 11)) (cwV 1 hts gX1_pop_X3_become rfl rfl rfl (by decide +kernel) ⟨Nat.le_of_ble_eq_true rfl, Nat.le_of_ble_eq_true rfl⟩) (preV_of hPc hDc hE (va_recv hK hPc (ci := 3) (q0 := 0) rfl rfl)) rfl rfl hl.1 rfl (lv_room (Nat.le_of_ble_eq_true rfl)) dX1_pop_36 ⟨Nat.zero_le _, Nat.zero_le _⟩) hP hD hS [12, 11] rfl wS2_ad (fun H locs hP hD hS => ?_)
    have hP : va_P D vwCl (wP cI cC cZ cS b (va_up (va_up G 0 (upd (upd (G 0) 1 ((((G 0 1) + (10 : Int32)) - (1 : Int32)) - (((G 0 1) + (10 : Int32)) - (1 : Int32)) / (10 : Int32) * (10 : Int32))) 2 ((G 0 2) - (1 : Int32)))) 12 (d_X3_become (G 12) (G 11)))) H := hP
    have hD : va_D A (wP cI cC cZ cS b (va_up (va_up G 0 (upd (upd (G 0) 1 ((((G 0 1) + (10 : Int32)) - (1 : Int32)) - (((G 0 1) + (10 : Int32)) - (1 : Int32)) / (10 : Int32) * (10 : Int32))) 2 ((G 0 2) - (1 : Int32)))) 12 (d_X3_become (G 12) (G 11)))) := hD
    refine W.eq (g2 := F0 m 39 ls []) rfl ?_
    rw [hres]
    exact W.vret hx hb hr (fun t ht hW => ⟨rfl, by rw [ht]; exact hP, by rw [hA]; exact hS.F ht⟩) hS.2.2 dX1_pop_39
  · rw [if_neg c_1] at hres
    by_cases c_2 : (G 0 1) = 1
    · rw [if_pos c_2] at hres
      refine lv_aload_n hx hb dX1_pop_0 rfl (lv_at hl 0 rfl) ?_
      refine lv_aload_n hx hb dX1_pop_1 rfl (lv_at hl 0 rfl) ?_
      refine va_get (D := D) (ci := 1) (v := .int (G 0 1)) (C := RX1) (T := TX1) (N := 3) hx hb hts hinX1 hown hK hP 0 rfl rfl 1 (by decide) (hts (.fieldLink RX1 18 "FirstOut$Past" "next" "I") (by decide +kernel)) (fun _ h9 => h9) rfl dX1_pop_2 ?_
      refine lv_bipush (v := 10) hx hb dX1_pop_5 (by decide) ?_
      refine lv_iadd hx hb dX1_pop_7 ?_
      refine lv_iconst (v := 1) hx hb dX1_pop_8 (by decide) ?_
      refine lv_isub hx hb dX1_pop_9 ?_
      refine lv_bipush (v := 10) hx hb dX1_pop_10 (by decide) ?_
      refine lv_irem hx hb dX1_pop_12 (by decide) ?_
      refine va_put (D := D) (ci := 1) (v := .int ((((G 0 1) + (10 : Int32)) - (1 : Int32)) - (((G 0 1) + (10 : Int32)) - (1 : Int32)) / (10 : Int32) * (10 : Int32))) (ty := .int) (C := RX1) (T := TX1) (N := 3) hx hb hts hinX1 tyX1 tyX1_ok nmX1 hown hK hP hD hS 0 rfl rfl 1 (by decide) (hts (.fieldLink RX1 18 "FirstOut$Past" "next" "I") (by decide +kernel)) (fun _ h9 => h9) rfl (by decide +kernel) rfl rfl (Nat.le_of_ble_eq_true rfl) dX1_pop_13 (fun H locs hP hD hS => ?_)
      have hP : va_P D vwCl (wP cI cC cZ cS b (va_up G 0 (upd (G 0) 1 ((((G 0 1) + (10 : Int32)) - (1 : Int32)) - (((G 0 1) + (10 : Int32)) - (1 : Int32)) / (10 : Int32) * (10 : Int32))))) H := hP
      have hD : va_D A (wP cI cC cZ cS b (va_up G 0 (upd (G 0) 1 ((((G 0 1) + (10 : Int32)) - (1 : Int32)) - (((G 0 1) + (10 : Int32)) - (1 : Int32)) / (10 : Int32) * (10 : Int32))))) := hD
      refine lv_aload_n hx hb dX1_pop_16 rfl (lv_at hl 0 rfl) ?_
      refine lv_dup hx hb dX1_pop_17 rfl ?_
      refine va_get (D := D) (ci := 1) (v := .int (G 0 2)) (C := RX1) (T := TX1) (N := 3) hx hb hts hinX1 hown hK hP 0 rfl rfl 2 (by decide) (hts (.fieldLink RX1 26 "FirstOut$Past" "known" "I") (by decide +kernel)) (fun _ h9 => h9) rfl dX1_pop_18 ?_
      refine lv_iconst (v := 1) hx hb dX1_pop_21 (by decide) ?_
      refine lv_isub hx hb dX1_pop_22 ?_
      refine va_put (D := D) (ci := 1) (v := .int ((G 0 2) - (1 : Int32))) (ty := .int) (C := RX1) (T := TX1) (N := 3) hx hb hts hinX1 tyX1 tyX1_ok nmX1 hown hK hP hD hS 0 rfl rfl 2 (by decide) (hts (.fieldLink RX1 26 "FirstOut$Past" "known" "I") (by decide +kernel)) (fun _ h9 => h9) rfl (by decide +kernel) rfl rfl (Nat.le_of_ble_eq_true rfl) dX1_pop_23 (fun H locs hP hD hS => ?_)
      have hP : va_P D vwCl (wP cI cC cZ cS b (va_up G 0 (upd (upd (G 0) 1 ((((G 0 1) + (10 : Int32)) - (1 : Int32)) - (((G 0 1) + (10 : Int32)) - (1 : Int32)) / (10 : Int32) * (10 : Int32))) 2 ((G 0 2) - (1 : Int32))))) H := hP
      have hD : va_D A (wP cI cC cZ cS b (va_up G 0 (upd (upd (G 0) 1 ((((G 0 1) + (10 : Int32)) - (1 : Int32)) - (((G 0 1) + (10 : Int32)) - (1 : Int32)) / (10 : Int32) * (10 : Int32))) 2 ((G 0 2) - (1 : Int32))))) := hD
      refine lv_aload_n hx hb dX1_pop_26 rfl (lv_at hl 1 rfl) ?_
      refine lv_aload_n hx hb dX1_pop_27 rfl (lv_at hl 0 rfl) ?_
      refine va_get (D := D) (ci := 1) (v := .ref (b 1)) (C := RX1) (T := TX1) (N := 3) hx hb hts hinX1 hown hK hP 0 rfl rfl 0 (by decide) (hts (.fieldLink RX1 11 "FirstOut$Past" "steps" "[LFirstOut$Standing;") (by decide +kernel)) (fun _ h9 => h9) rfl dX1_pop_28 ?_
      refine lv_aload_n hx hb dX1_pop_31 rfl (lv_at hl 0 rfl) ?_
      refine va_get (D := D) (ci := 1) (v := .int ((((G 0 1) + (10 : Int32)) - (1 : Int32)) - (((G 0 1) + (10 : Int32)) - (1 : Int32)) / (10 : Int32) * (10 : Int32))) (C := RX1) (T := TX1) (N := 3) hx hb hts hinX1 hown hK hP 0 rfl rfl 1 (by decide) (hts (.fieldLink RX1 18 "FirstOut$Past" "next" "I") (by decide +kernel)) (fun _ h9 => h9) rfl dX1_pop_32 ?_
      refine m_aald hx hb hK hP 1 3 rfl rfl 0 (by rw [c_2]; decide) (by decide) (by decide) (r := (b 2)) rfl dX1_pop_35 ?_
      have hPc := hP.sub (ws' := (wS2 cI cC cZ cS (b 12) (b 2) (G 12) (G 2))) [12, 2] rfl
      have hDc := hD.sub (ws' := (wS2 cI cC cZ cS (b 12) (b 2) (G 12) (G 2))) [12, 2] (by decide) rfl
      refine m_callM (W.runV (As := [.ref (b 2)]) (rest := []) ⟨hx, hb, hml, hown, hts⟩ (c_X3_become l D cI cC cZ cS (b 12) (b 2) (G 12) (G 2)) (cwV 1 hts gX1_pop_X3_become rfl rfl rfl (by decide +kernel) ⟨Nat.le_of_ble_eq_true rfl, Nat.le_of_ble_eq_true rfl⟩) (preV_of hPc hDc hE (va_recv hK hPc (ci := 3) (q0 := 0) rfl rfl)) rfl rfl hl.1 rfl (lv_room (Nat.le_of_ble_eq_true rfl)) dX1_pop_36 ⟨Nat.zero_le _, Nat.zero_le _⟩) hP hD hS [12, 2] rfl wS2_ad (fun H locs hP hD hS => ?_)
      have hP : va_P D vwCl (wP cI cC cZ cS b (va_up (va_up G 0 (upd (upd (G 0) 1 ((((G 0 1) + (10 : Int32)) - (1 : Int32)) - (((G 0 1) + (10 : Int32)) - (1 : Int32)) / (10 : Int32) * (10 : Int32))) 2 ((G 0 2) - (1 : Int32)))) 12 (d_X3_become (G 12) (G 2)))) H := hP
      have hD : va_D A (wP cI cC cZ cS b (va_up (va_up G 0 (upd (upd (G 0) 1 ((((G 0 1) + (10 : Int32)) - (1 : Int32)) - (((G 0 1) + (10 : Int32)) - (1 : Int32)) / (10 : Int32) * (10 : Int32))) 2 ((G 0 2) - (1 : Int32)))) 12 (d_X3_become (G 12) (G 2)))) := hD
      refine W.eq (g2 := F0 m 39 ls []) rfl ?_
      rw [hres]
      exact W.vret hx hb hr (fun t ht hW => ⟨rfl, by rw [ht]; exact hP, by rw [hA]; exact hS.F ht⟩) hS.2.2 dX1_pop_39
    · rw [if_neg c_2] at hres
      by_cases c_3 : (G 0 1) = 2
      · rw [if_pos c_3] at hres
        refine lv_aload_n hx hb dX1_pop_0 rfl (lv_at hl 0 rfl) ?_
        refine lv_aload_n hx hb dX1_pop_1 rfl (lv_at hl 0 rfl) ?_
        refine va_get (D := D) (ci := 1) (v := .int (G 0 1)) (C := RX1) (T := TX1) (N := 3) hx hb hts hinX1 hown hK hP 0 rfl rfl 1 (by decide) (hts (.fieldLink RX1 18 "FirstOut$Past" "next" "I") (by decide +kernel)) (fun _ h9 => h9) rfl dX1_pop_2 ?_
        refine lv_bipush (v := 10) hx hb dX1_pop_5 (by decide) ?_
        refine lv_iadd hx hb dX1_pop_7 ?_
        refine lv_iconst (v := 1) hx hb dX1_pop_8 (by decide) ?_
        refine lv_isub hx hb dX1_pop_9 ?_
        refine lv_bipush (v := 10) hx hb dX1_pop_10 (by decide) ?_
        refine lv_irem hx hb dX1_pop_12 (by decide) ?_
        refine va_put (D := D) (ci := 1) (v := .int ((((G 0 1) + (10 : Int32)) - (1 : Int32)) - (((G 0 1) + (10 : Int32)) - (1 : Int32)) / (10 : Int32) * (10 : Int32))) (ty := .int) (C := RX1) (T := TX1) (N := 3) hx hb hts hinX1 tyX1 tyX1_ok nmX1 hown hK hP hD hS 0 rfl rfl 1 (by decide) (hts (.fieldLink RX1 18 "FirstOut$Past" "next" "I") (by decide +kernel)) (fun _ h9 => h9) rfl (by decide +kernel) rfl rfl (Nat.le_of_ble_eq_true rfl) dX1_pop_13 (fun H locs hP hD hS => ?_)
        have hP : va_P D vwCl (wP cI cC cZ cS b (va_up G 0 (upd (G 0) 1 ((((G 0 1) + (10 : Int32)) - (1 : Int32)) - (((G 0 1) + (10 : Int32)) - (1 : Int32)) / (10 : Int32) * (10 : Int32))))) H := hP
        have hD : va_D A (wP cI cC cZ cS b (va_up G 0 (upd (G 0) 1 ((((G 0 1) + (10 : Int32)) - (1 : Int32)) - (((G 0 1) + (10 : Int32)) - (1 : Int32)) / (10 : Int32) * (10 : Int32))))) := hD
        refine lv_aload_n hx hb dX1_pop_16 rfl (lv_at hl 0 rfl) ?_
        refine lv_dup hx hb dX1_pop_17 rfl ?_
        refine va_get (D := D) (ci := 1) (v := .int (G 0 2)) (C := RX1) (T := TX1) (N := 3) hx hb hts hinX1 hown hK hP 0 rfl rfl 2 (by decide) (hts (.fieldLink RX1 26 "FirstOut$Past" "known" "I") (by decide +kernel)) (fun _ h9 => h9) rfl dX1_pop_18 ?_
        refine lv_iconst (v := 1) hx hb dX1_pop_21 (by decide) ?_
        refine lv_isub hx hb dX1_pop_22 ?_
        refine va_put (D := D) (ci := 1) (v := .int ((G 0 2) - (1 : Int32))) (ty := .int) (C := RX1) (T := TX1) (N := 3) hx hb hts hinX1 tyX1 tyX1_ok nmX1 hown hK hP hD hS 0 rfl rfl 2 (by decide) (hts (.fieldLink RX1 26 "FirstOut$Past" "known" "I") (by decide +kernel)) (fun _ h9 => h9) rfl (by decide +kernel) rfl rfl (Nat.le_of_ble_eq_true rfl) dX1_pop_23 (fun H locs hP hD hS => ?_)
        have hP : va_P D vwCl (wP cI cC cZ cS b (va_up G 0 (upd (upd (G 0) 1 ((((G 0 1) + (10 : Int32)) - (1 : Int32)) - (((G 0 1) + (10 : Int32)) - (1 : Int32)) / (10 : Int32) * (10 : Int32))) 2 ((G 0 2) - (1 : Int32))))) H := hP
        have hD : va_D A (wP cI cC cZ cS b (va_up G 0 (upd (upd (G 0) 1 ((((G 0 1) + (10 : Int32)) - (1 : Int32)) - (((G 0 1) + (10 : Int32)) - (1 : Int32)) / (10 : Int32) * (10 : Int32))) 2 ((G 0 2) - (1 : Int32))))) := hD
        refine lv_aload_n hx hb dX1_pop_26 rfl (lv_at hl 1 rfl) ?_
        refine lv_aload_n hx hb dX1_pop_27 rfl (lv_at hl 0 rfl) ?_
        refine va_get (D := D) (ci := 1) (v := .ref (b 1)) (C := RX1) (T := TX1) (N := 3) hx hb hts hinX1 hown hK hP 0 rfl rfl 0 (by decide) (hts (.fieldLink RX1 11 "FirstOut$Past" "steps" "[LFirstOut$Standing;") (by decide +kernel)) (fun _ h9 => h9) rfl dX1_pop_28 ?_
        refine lv_aload_n hx hb dX1_pop_31 rfl (lv_at hl 0 rfl) ?_
        refine va_get (D := D) (ci := 1) (v := .int ((((G 0 1) + (10 : Int32)) - (1 : Int32)) - (((G 0 1) + (10 : Int32)) - (1 : Int32)) / (10 : Int32) * (10 : Int32))) (C := RX1) (T := TX1) (N := 3) hx hb hts hinX1 hown hK hP 0 rfl rfl 1 (by decide) (hts (.fieldLink RX1 18 "FirstOut$Past" "next" "I") (by decide +kernel)) (fun _ h9 => h9) rfl dX1_pop_32 ?_
        refine m_aald hx hb hK hP 1 3 rfl rfl 1 (by rw [c_3]; decide) (by decide) (by decide) (r := (b 3)) rfl dX1_pop_35 ?_
        have hPc := hP.sub (ws' := (wS2 cI cC cZ cS (b 12) (b 3) (G 12) (G 3))) [12, 3] rfl
        have hDc := hD.sub (ws' := (wS2 cI cC cZ cS (b 12) (b 3) (G 12) (G 3))) [12, 3] (by decide) rfl
        refine m_callM (W.runV (As := [.ref (b 3)]) (rest := []) ⟨hx, hb, hml, hown, hts⟩ (c_X3_become l D cI cC cZ cS (b 12) (b 3) (G 12) (G 3)) (cwV 1 hts gX1_pop_X3_become rfl rfl rfl (by decide +kernel) ⟨Nat.le_of_ble_eq_true rfl, Nat.le_of_ble_eq_true rfl⟩) (preV_of hPc hDc hE (va_recv hK hPc (ci := 3) (q0 := 0) rfl rfl)) rfl rfl hl.1 rfl (lv_room (Nat.le_of_ble_eq_true rfl)) dX1_pop_36 ⟨Nat.zero_le _, Nat.zero_le _⟩) hP hD hS [12, 3] rfl wS2_ad (fun H locs hP hD hS => ?_)
        have hP : va_P D vwCl (wP cI cC cZ cS b (va_up (va_up G 0 (upd (upd (G 0) 1 ((((G 0 1) + (10 : Int32)) - (1 : Int32)) - (((G 0 1) + (10 : Int32)) - (1 : Int32)) / (10 : Int32) * (10 : Int32))) 2 ((G 0 2) - (1 : Int32)))) 12 (d_X3_become (G 12) (G 3)))) H := hP
        have hD : va_D A (wP cI cC cZ cS b (va_up (va_up G 0 (upd (upd (G 0) 1 ((((G 0 1) + (10 : Int32)) - (1 : Int32)) - (((G 0 1) + (10 : Int32)) - (1 : Int32)) / (10 : Int32) * (10 : Int32))) 2 ((G 0 2) - (1 : Int32)))) 12 (d_X3_become (G 12) (G 3)))) := hD
        refine W.eq (g2 := F0 m 39 ls []) rfl ?_
        rw [hres]
        exact W.vret hx hb hr (fun t ht hW => ⟨rfl, by rw [ht]; exact hP, by rw [hA]; exact hS.F ht⟩) hS.2.2 dX1_pop_39
      · rw [if_neg c_3] at hres
        by_cases c_4 : (G 0 1) = 3
        · rw [if_pos c_4] at hres
          refine lv_aload_n hx hb dX1_pop_0 rfl (lv_at hl 0 rfl) ?_
          refine lv_aload_n hx hb dX1_pop_1 rfl (lv_at hl 0 rfl) ?_
          refine va_get (D := D) (ci := 1) (v := .int (G 0 1)) (C := RX1) (T := TX1) (N := 3) hx hb hts hinX1 hown hK hP 0 rfl rfl 1 (by decide) (hts (.fieldLink RX1 18 "FirstOut$Past" "next" "I") (by decide +kernel)) (fun _ h9 => h9) rfl dX1_pop_2 ?_
          refine lv_bipush (v := 10) hx hb dX1_pop_5 (by decide) ?_
          refine lv_iadd hx hb dX1_pop_7 ?_
          refine lv_iconst (v := 1) hx hb dX1_pop_8 (by decide) ?_
          refine lv_isub hx hb dX1_pop_9 ?_
          refine lv_bipush (v := 10) hx hb dX1_pop_10 (by decide) ?_
          refine lv_irem hx hb dX1_pop_12 (by decide) ?_
          refine va_put (D := D) (ci := 1) (v := .int ((((G 0 1) + (10 : Int32)) - (1 : Int32)) - (((G 0 1) + (10 : Int32)) - (1 : Int32)) / (10 : Int32) * (10 : Int32))) (ty := .int) (C := RX1) (T := TX1) (N := 3) hx hb hts hinX1 tyX1 tyX1_ok nmX1 hown hK hP hD hS 0 rfl rfl 1 (by decide) (hts (.fieldLink RX1 18 "FirstOut$Past" "next" "I") (by decide +kernel)) (fun _ h9 => h9) rfl (by decide +kernel) rfl rfl (Nat.le_of_ble_eq_true rfl) dX1_pop_13 (fun H locs hP hD hS => ?_)
          have hP : va_P D vwCl (wP cI cC cZ cS b (va_up G 0 (upd (G 0) 1 ((((G 0 1) + (10 : Int32)) - (1 : Int32)) - (((G 0 1) + (10 : Int32)) - (1 : Int32)) / (10 : Int32) * (10 : Int32))))) H := hP
          have hD : va_D A (wP cI cC cZ cS b (va_up G 0 (upd (G 0) 1 ((((G 0 1) + (10 : Int32)) - (1 : Int32)) - (((G 0 1) + (10 : Int32)) - (1 : Int32)) / (10 : Int32) * (10 : Int32))))) := hD
          refine lv_aload_n hx hb dX1_pop_16 rfl (lv_at hl 0 rfl) ?_
          refine lv_dup hx hb dX1_pop_17 rfl ?_
          refine va_get (D := D) (ci := 1) (v := .int (G 0 2)) (C := RX1) (T := TX1) (N := 3) hx hb hts hinX1 hown hK hP 0 rfl rfl 2 (by decide) (hts (.fieldLink RX1 26 "FirstOut$Past" "known" "I") (by decide +kernel)) (fun _ h9 => h9) rfl dX1_pop_18 ?_
          refine lv_iconst (v := 1) hx hb dX1_pop_21 (by decide) ?_
          refine lv_isub hx hb dX1_pop_22 ?_
          refine va_put (D := D) (ci := 1) (v := .int ((G 0 2) - (1 : Int32))) (ty := .int) (C := RX1) (T := TX1) (N := 3) hx hb hts hinX1 tyX1 tyX1_ok nmX1 hown hK hP hD hS 0 rfl rfl 2 (by decide) (hts (.fieldLink RX1 26 "FirstOut$Past" "known" "I") (by decide +kernel)) (fun _ h9 => h9) rfl (by decide +kernel) rfl rfl (Nat.le_of_ble_eq_true rfl) dX1_pop_23 (fun H locs hP hD hS => ?_)
          have hP : va_P D vwCl (wP cI cC cZ cS b (va_up G 0 (upd (upd (G 0) 1 ((((G 0 1) + (10 : Int32)) - (1 : Int32)) - (((G 0 1) + (10 : Int32)) - (1 : Int32)) / (10 : Int32) * (10 : Int32))) 2 ((G 0 2) - (1 : Int32))))) H := hP
          have hD : va_D A (wP cI cC cZ cS b (va_up G 0 (upd (upd (G 0) 1 ((((G 0 1) + (10 : Int32)) - (1 : Int32)) - (((G 0 1) + (10 : Int32)) - (1 : Int32)) / (10 : Int32) * (10 : Int32))) 2 ((G 0 2) - (1 : Int32))))) := hD
          refine lv_aload_n hx hb dX1_pop_26 rfl (lv_at hl 1 rfl) ?_
          refine lv_aload_n hx hb dX1_pop_27 rfl (lv_at hl 0 rfl) ?_
          refine va_get (D := D) (ci := 1) (v := .ref (b 1)) (C := RX1) (T := TX1) (N := 3) hx hb hts hinX1 hown hK hP 0 rfl rfl 0 (by decide) (hts (.fieldLink RX1 11 "FirstOut$Past" "steps" "[LFirstOut$Standing;") (by decide +kernel)) (fun _ h9 => h9) rfl dX1_pop_28 ?_
          refine lv_aload_n hx hb dX1_pop_31 rfl (lv_at hl 0 rfl) ?_
          refine va_get (D := D) (ci := 1) (v := .int ((((G 0 1) + (10 : Int32)) - (1 : Int32)) - (((G 0 1) + (10 : Int32)) - (1 : Int32)) / (10 : Int32) * (10 : Int32))) (C := RX1) (T := TX1) (N := 3) hx hb hts hinX1 hown hK hP 0 rfl rfl 1 (by decide) (hts (.fieldLink RX1 18 "FirstOut$Past" "next" "I") (by decide +kernel)) (fun _ h9 => h9) rfl dX1_pop_32 ?_
          refine m_aald hx hb hK hP 1 3 rfl rfl 2 (by rw [c_4]; decide) (by decide) (by decide) (r := (b 4)) rfl dX1_pop_35 ?_
          have hPc := hP.sub (ws' := (wS2 cI cC cZ cS (b 12) (b 4) (G 12) (G 4))) [12, 4] rfl
          have hDc := hD.sub (ws' := (wS2 cI cC cZ cS (b 12) (b 4) (G 12) (G 4))) [12, 4] (by decide) rfl
          refine m_callM (W.runV (As := [.ref (b 4)]) (rest := []) ⟨hx, hb, hml, hown, hts⟩ (c_X3_become l D cI cC cZ cS (b 12) (b 4) (G 12) (G 4)) (cwV 1 hts gX1_pop_X3_become rfl rfl rfl (by decide +kernel) ⟨Nat.le_of_ble_eq_true rfl, Nat.le_of_ble_eq_true rfl⟩) (preV_of hPc hDc hE (va_recv hK hPc (ci := 3) (q0 := 0) rfl rfl)) rfl rfl hl.1 rfl (lv_room (Nat.le_of_ble_eq_true rfl)) dX1_pop_36 ⟨Nat.zero_le _, Nat.zero_le _⟩) hP hD hS [12, 4] rfl wS2_ad (fun H locs hP hD hS => ?_)
          have hP : va_P D vwCl (wP cI cC cZ cS b (va_up (va_up G 0 (upd (upd (G 0) 1 ((((G 0 1) + (10 : Int32)) - (1 : Int32)) - (((G 0 1) + (10 : Int32)) - (1 : Int32)) / (10 : Int32) * (10 : Int32))) 2 ((G 0 2) - (1 : Int32)))) 12 (d_X3_become (G 12) (G 4)))) H := hP
          have hD : va_D A (wP cI cC cZ cS b (va_up (va_up G 0 (upd (upd (G 0) 1 ((((G 0 1) + (10 : Int32)) - (1 : Int32)) - (((G 0 1) + (10 : Int32)) - (1 : Int32)) / (10 : Int32) * (10 : Int32))) 2 ((G 0 2) - (1 : Int32)))) 12 (d_X3_become (G 12) (G 4)))) := hD
          refine W.eq (g2 := F0 m 39 ls []) rfl ?_
          rw [hres]
          exact W.vret hx hb hr (fun t ht hW => ⟨rfl, by rw [ht]; exact hP, by rw [hA]; exact hS.F ht⟩) hS.2.2 dX1_pop_39
        · rw [if_neg c_4] at hres
          by_cases c_5 : (G 0 1) = 4
          · rw [if_pos c_5] at hres
            refine lv_aload_n hx hb dX1_pop_0 rfl (lv_at hl 0 rfl) ?_
            refine lv_aload_n hx hb dX1_pop_1 rfl (lv_at hl 0 rfl) ?_
            refine va_get (D := D) (ci := 1) (v := .int (G 0 1)) (C := RX1) (T := TX1) (N := 3) hx hb hts hinX1 hown hK hP 0 rfl rfl 1 (by decide) (hts (.fieldLink RX1 18 "FirstOut$Past" "next" "I") (by decide +kernel)) (fun _ h9 => h9) rfl dX1_pop_2 ?_
            refine lv_bipush (v := 10) hx hb dX1_pop_5 (by decide) ?_
            refine lv_iadd hx hb dX1_pop_7 ?_
            refine lv_iconst (v := 1) hx hb dX1_pop_8 (by decide) ?_
            refine lv_isub hx hb dX1_pop_9 ?_
            refine lv_bipush (v := 10) hx hb dX1_pop_10 (by decide) ?_
            refine lv_irem hx hb dX1_pop_12 (by decide) ?_
            refine va_put (D := D) (ci := 1) (v := .int ((((G 0 1) + (10 : Int32)) - (1 : Int32)) - (((G 0 1) + (10 : Int32)) - (1 : Int32)) / (10 : Int32) * (10 : Int32))) (ty := .int) (C := RX1) (T := TX1) (N := 3) hx hb hts hinX1 tyX1 tyX1_ok nmX1 hown hK hP hD hS 0 rfl rfl 1 (by decide) (hts (.fieldLink RX1 18 "FirstOut$Past" "next" "I") (by decide +kernel)) (fun _ h9 => h9) rfl (by decide +kernel) rfl rfl (Nat.le_of_ble_eq_true rfl) dX1_pop_13 (fun H locs hP hD hS => ?_)
            have hP : va_P D vwCl (wP cI cC cZ cS b (va_up G 0 (upd (G 0) 1 ((((G 0 1) + (10 : Int32)) - (1 : Int32)) - (((G 0 1) + (10 : Int32)) - (1 : Int32)) / (10 : Int32) * (10 : Int32))))) H := hP
            have hD : va_D A (wP cI cC cZ cS b (va_up G 0 (upd (G 0) 1 ((((G 0 1) + (10 : Int32)) - (1 : Int32)) - (((G 0 1) + (10 : Int32)) - (1 : Int32)) / (10 : Int32) * (10 : Int32))))) := hD
            refine lv_aload_n hx hb dX1_pop_16 rfl (lv_at hl 0 rfl) ?_
            refine lv_dup hx hb dX1_pop_17 rfl ?_
            refine va_get (D := D) (ci := 1) (v := .int (G 0 2)) (C := RX1) (T := TX1) (N := 3) hx hb hts hinX1 hown hK hP 0 rfl rfl 2 (by decide) (hts (.fieldLink RX1 26 "FirstOut$Past" "known" "I") (by decide +kernel)) (fun _ h9 => h9) rfl dX1_pop_18 ?_
            refine lv_iconst (v := 1) hx hb dX1_pop_21 (by decide) ?_
            refine lv_isub hx hb dX1_pop_22 ?_
            refine va_put (D := D) (ci := 1) (v := .int ((G 0 2) - (1 : Int32))) (ty := .int) (C := RX1) (T := TX1) (N := 3) hx hb hts hinX1 tyX1 tyX1_ok nmX1 hown hK hP hD hS 0 rfl rfl 2 (by decide) (hts (.fieldLink RX1 26 "FirstOut$Past" "known" "I") (by decide +kernel)) (fun _ h9 => h9) rfl (by decide +kernel) rfl rfl (Nat.le_of_ble_eq_true rfl) dX1_pop_23 (fun H locs hP hD hS => ?_)
            have hP : va_P D vwCl (wP cI cC cZ cS b (va_up G 0 (upd (upd (G 0) 1 ((((G 0 1) + (10 : Int32)) - (1 : Int32)) - (((G 0 1) + (10 : Int32)) - (1 : Int32)) / (10 : Int32) * (10 : Int32))) 2 ((G 0 2) - (1 : Int32))))) H := hP
            have hD : va_D A (wP cI cC cZ cS b (va_up G 0 (upd (upd (G 0) 1 ((((G 0 1) + (10 : Int32)) - (1 : Int32)) - (((G 0 1) + (10 : Int32)) - (1 : Int32)) / (10 : Int32) * (10 : Int32))) 2 ((G 0 2) - (1 : Int32))))) := hD
            refine lv_aload_n hx hb dX1_pop_26 rfl (lv_at hl 1 rfl) ?_
            refine lv_aload_n hx hb dX1_pop_27 rfl (lv_at hl 0 rfl) ?_
            refine va_get (D := D) (ci := 1) (v := .ref (b 1)) (C := RX1) (T := TX1) (N := 3) hx hb hts hinX1 hown hK hP 0 rfl rfl 0 (by decide) (hts (.fieldLink RX1 11 "FirstOut$Past" "steps" "[LFirstOut$Standing;") (by decide +kernel)) (fun _ h9 => h9) rfl dX1_pop_28 ?_
            refine lv_aload_n hx hb dX1_pop_31 rfl (lv_at hl 0 rfl) ?_
            refine va_get (D := D) (ci := 1) (v := .int ((((G 0 1) + (10 : Int32)) - (1 : Int32)) - (((G 0 1) + (10 : Int32)) - (1 : Int32)) / (10 : Int32) * (10 : Int32))) (C := RX1) (T := TX1) (N := 3) hx hb hts hinX1 hown hK hP 0 rfl rfl 1 (by decide) (hts (.fieldLink RX1 18 "FirstOut$Past" "next" "I") (by decide +kernel)) (fun _ h9 => h9) rfl dX1_pop_32 ?_
            refine m_aald hx hb hK hP 1 3 rfl rfl 3 (by rw [c_5]; decide) (by decide) (by decide) (r := (b 5)) rfl dX1_pop_35 ?_
            have hPc := hP.sub (ws' := (wS2 cI cC cZ cS (b 12) (b 5) (G 12) (G 5))) [12, 5] rfl
            have hDc := hD.sub (ws' := (wS2 cI cC cZ cS (b 12) (b 5) (G 12) (G 5))) [12, 5] (by decide) rfl
            refine m_callM (W.runV (As := [.ref (b 5)]) (rest := []) ⟨hx, hb, hml, hown, hts⟩ (c_X3_become l D cI cC cZ cS (b 12) (b 5) (G 12) (G 5)) (cwV 1 hts gX1_pop_X3_become rfl rfl rfl (by decide +kernel) ⟨Nat.le_of_ble_eq_true rfl, Nat.le_of_ble_eq_true rfl⟩) (preV_of hPc hDc hE (va_recv hK hPc (ci := 3) (q0 := 0) rfl rfl)) rfl rfl hl.1 rfl (lv_room (Nat.le_of_ble_eq_true rfl)) dX1_pop_36 ⟨Nat.zero_le _, Nat.zero_le _⟩) hP hD hS [12, 5] rfl wS2_ad (fun H locs hP hD hS => ?_)
            have hP : va_P D vwCl (wP cI cC cZ cS b (va_up (va_up G 0 (upd (upd (G 0) 1 ((((G 0 1) + (10 : Int32)) - (1 : Int32)) - (((G 0 1) + (10 : Int32)) - (1 : Int32)) / (10 : Int32) * (10 : Int32))) 2 ((G 0 2) - (1 : Int32)))) 12 (d_X3_become (G 12) (G 5)))) H := hP
            have hD : va_D A (wP cI cC cZ cS b (va_up (va_up G 0 (upd (upd (G 0) 1 ((((G 0 1) + (10 : Int32)) - (1 : Int32)) - (((G 0 1) + (10 : Int32)) - (1 : Int32)) / (10 : Int32) * (10 : Int32))) 2 ((G 0 2) - (1 : Int32)))) 12 (d_X3_become (G 12) (G 5)))) := hD
            refine W.eq (g2 := F0 m 39 ls []) rfl ?_
            rw [hres]
            exact W.vret hx hb hr (fun t ht hW => ⟨rfl, by rw [ht]; exact hP, by rw [hA]; exact hS.F ht⟩) hS.2.2 dX1_pop_39
          · rw [if_neg c_5] at hres
            by_cases c_6 : (G 0 1) = 5
            · rw [if_pos c_6] at hres
              refine lv_aload_n hx hb dX1_pop_0 rfl (lv_at hl 0 rfl) ?_
              refine lv_aload_n hx hb dX1_pop_1 rfl (lv_at hl 0 rfl) ?_
              refine va_get (D := D) (ci := 1) (v := .int (G 0 1)) (C := RX1) (T := TX1) (N := 3) hx hb hts hinX1 hown hK hP 0 rfl rfl 1 (by decide) (hts (.fieldLink RX1 18 "FirstOut$Past" "next" "I") (by decide +kernel)) (fun _ h9 => h9) rfl dX1_pop_2 ?_
              refine lv_bipush (v := 10) hx hb dX1_pop_5 (by decide) ?_
              refine lv_iadd hx hb dX1_pop_7 ?_
              refine lv_iconst (v := 1) hx hb dX1_pop_8 (by decide) ?_
              refine lv_isub hx hb dX1_pop_9 ?_
              refine lv_bipush (v := 10) hx hb dX1_pop_10 (by decide) ?_
              refine lv_irem hx hb dX1_pop_12 (by decide) ?_
              refine va_put (D := D) (ci := 1) (v := .int ((((G 0 1) + (10 : Int32)) - (1 : Int32)) - (((G 0 1) + (10 : Int32)) - (1 : Int32)) / (10 : Int32) * (10 : Int32))) (ty := .int) (C := RX1) (T := TX1) (N := 3) hx hb hts hinX1 tyX1 tyX1_ok nmX1 hown hK hP hD hS 0 rfl rfl 1 (by decide) (hts (.fieldLink RX1 18 "FirstOut$Past" "next" "I") (by decide +kernel)) (fun _ h9 => h9) rfl (by decide +kernel) rfl rfl (Nat.le_of_ble_eq_true rfl) dX1_pop_13 (fun H locs hP hD hS => ?_)
              have hP : va_P D vwCl (wP cI cC cZ cS b (va_up G 0 (upd (G 0) 1 ((((G 0 1) + (10 : Int32)) - (1 : Int32)) - (((G 0 1) + (10 : Int32)) - (1 : Int32)) / (10 : Int32) * (10 : Int32))))) H := hP
              have hD : va_D A (wP cI cC cZ cS b (va_up G 0 (upd (G 0) 1 ((((G 0 1) + (10 : Int32)) - (1 : Int32)) - (((G 0 1) + (10 : Int32)) - (1 : Int32)) / (10 : Int32) * (10 : Int32))))) := hD
              refine lv_aload_n hx hb dX1_pop_16 rfl (lv_at hl 0 rfl) ?_
              refine lv_dup hx hb dX1_pop_17 rfl ?_
              refine va_get (D := D) (ci := 1) (v := .int (G 0 2)) (C := RX1) (T := TX1) (N := 3) hx hb hts hinX1 hown hK hP 0 rfl rfl 2 (by decide) (hts (.fieldLink RX1 26 "FirstOut$Past" "known" "I") (by decide +kernel)) (fun _ h9 => h9) rfl dX1_pop_18 ?_
              refine lv_iconst (v := 1) hx hb dX1_pop_21 (by decide) ?_
              refine lv_isub hx hb dX1_pop_22 ?_
              refine va_put (D := D) (ci := 1) (v := .int ((G 0 2) - (1 : Int32))) (ty := .int) (C := RX1) (T := TX1) (N := 3) hx hb hts hinX1 tyX1 tyX1_ok nmX1 hown hK hP hD hS 0 rfl rfl 2 (by decide) (hts (.fieldLink RX1 26 "FirstOut$Past" "known" "I") (by decide +kernel)) (fun _ h9 => h9) rfl (by decide +kernel) rfl rfl (Nat.le_of_ble_eq_true rfl) dX1_pop_23 (fun H locs hP hD hS => ?_)
              have hP : va_P D vwCl (wP cI cC cZ cS b (va_up G 0 (upd (upd (G 0) 1 ((((G 0 1) + (10 : Int32)) - (1 : Int32)) - (((G 0 1) + (10 : Int32)) - (1 : Int32)) / (10 : Int32) * (10 : Int32))) 2 ((G 0 2) - (1 : Int32))))) H := hP
              have hD : va_D A (wP cI cC cZ cS b (va_up G 0 (upd (upd (G 0) 1 ((((G 0 1) + (10 : Int32)) - (1 : Int32)) - (((G 0 1) + (10 : Int32)) - (1 : Int32)) / (10 : Int32) * (10 : Int32))) 2 ((G 0 2) - (1 : Int32))))) := hD
              refine lv_aload_n hx hb dX1_pop_26 rfl (lv_at hl 1 rfl) ?_
              refine lv_aload_n hx hb dX1_pop_27 rfl (lv_at hl 0 rfl) ?_
              refine va_get (D := D) (ci := 1) (v := .ref (b 1)) (C := RX1) (T := TX1) (N := 3) hx hb hts hinX1 hown hK hP 0 rfl rfl 0 (by decide) (hts (.fieldLink RX1 11 "FirstOut$Past" "steps" "[LFirstOut$Standing;") (by decide +kernel)) (fun _ h9 => h9) rfl dX1_pop_28 ?_
              refine lv_aload_n hx hb dX1_pop_31 rfl (lv_at hl 0 rfl) ?_
              refine va_get (D := D) (ci := 1) (v := .int ((((G 0 1) + (10 : Int32)) - (1 : Int32)) - (((G 0 1) + (10 : Int32)) - (1 : Int32)) / (10 : Int32) * (10 : Int32))) (C := RX1) (T := TX1) (N := 3) hx hb hts hinX1 hown hK hP 0 rfl rfl 1 (by decide) (hts (.fieldLink RX1 18 "FirstOut$Past" "next" "I") (by decide +kernel)) (fun _ h9 => h9) rfl dX1_pop_32 ?_
              refine m_aald hx hb hK hP 1 3 rfl rfl 4 (by rw [c_6]; decide) (by decide) (by decide) (r := (b 6)) rfl dX1_pop_35 ?_
              have hPc := hP.sub (ws' := (wS2 cI cC cZ cS (b 12) (b 6) (G 12) (G 6))) [12, 6] rfl
              have hDc := hD.sub (ws' := (wS2 cI cC cZ cS (b 12) (b 6) (G 12) (G 6))) [12, 6] (by decide) rfl
              refine m_callM (W.runV (As := [.ref (b 6)]) (rest := []) ⟨hx, hb, hml, hown, hts⟩ (c_X3_become l D cI cC cZ cS (b 12) (b 6) (G 12) (G 6)) (cwV 1 hts gX1_pop_X3_become rfl rfl rfl (by decide +kernel) ⟨Nat.le_of_ble_eq_true rfl, Nat.le_of_ble_eq_true rfl⟩) (preV_of hPc hDc hE (va_recv hK hPc (ci := 3) (q0 := 0) rfl rfl)) rfl rfl hl.1 rfl (lv_room (Nat.le_of_ble_eq_true rfl)) dX1_pop_36 ⟨Nat.zero_le _, Nat.zero_le _⟩) hP hD hS [12, 6] rfl wS2_ad (fun H locs hP hD hS => ?_)
              have hP : va_P D vwCl (wP cI cC cZ cS b (va_up (va_up G 0 (upd (upd (G 0) 1 ((((G 0 1) + (10 : Int32)) - (1 : Int32)) - (((G 0 1) + (10 : Int32)) - (1 : Int32)) / (10 : Int32) * (10 : Int32))) 2 ((G 0 2) - (1 : Int32)))) 12 (d_X3_become (G 12) (G 6)))) H := hP
              have hD : va_D A (wP cI cC cZ cS b (va_up (va_up G 0 (upd (upd (G 0) 1 ((((G 0 1) + (10 : Int32)) - (1 : Int32)) - (((G 0 1) + (10 : Int32)) - (1 : Int32)) / (10 : Int32) * (10 : Int32))) 2 ((G 0 2) - (1 : Int32)))) 12 (d_X3_become (G 12) (G 6)))) := hD
              refine W.eq (g2 := F0 m 39 ls []) rfl ?_
              rw [hres]
              exact W.vret hx hb hr (fun t ht hW => ⟨rfl, by rw [ht]; exact hP, by rw [hA]; exact hS.F ht⟩) hS.2.2 dX1_pop_39
            · rw [if_neg c_6] at hres
              by_cases c_7 : (G 0 1) = 6
              · rw [if_pos c_7] at hres
                refine lv_aload_n hx hb dX1_pop_0 rfl (lv_at hl 0 rfl) ?_
                refine lv_aload_n hx hb dX1_pop_1 rfl (lv_at hl 0 rfl) ?_
                refine va_get (D := D) (ci := 1) (v := .int (G 0 1)) (C := RX1) (T := TX1) (N := 3) hx hb hts hinX1 hown hK hP 0 rfl rfl 1 (by decide) (hts (.fieldLink RX1 18 "FirstOut$Past" "next" "I") (by decide +kernel)) (fun _ h9 => h9) rfl dX1_pop_2 ?_
                refine lv_bipush (v := 10) hx hb dX1_pop_5 (by decide) ?_
                refine lv_iadd hx hb dX1_pop_7 ?_
                refine lv_iconst (v := 1) hx hb dX1_pop_8 (by decide) ?_
                refine lv_isub hx hb dX1_pop_9 ?_
                refine lv_bipush (v := 10) hx hb dX1_pop_10 (by decide) ?_
                refine lv_irem hx hb dX1_pop_12 (by decide) ?_
                refine va_put (D := D) (ci := 1) (v := .int ((((G 0 1) + (10 : Int32)) - (1 : Int32)) - (((G 0 1) + (10 : Int32)) - (1 : Int32)) / (10 : Int32) * (10 : Int32))) (ty := .int) (C := RX1) (T := TX1) (N := 3) hx hb hts hinX1 tyX1 tyX1_ok nmX1 hown hK hP hD hS 0 rfl rfl 1 (by decide) (hts (.fieldLink RX1 18 "FirstOut$Past" "next" "I") (by decide +kernel)) (fun _ h9 => h9) rfl (by decide +kernel) rfl rfl (Nat.le_of_ble_eq_true rfl) dX1_pop_13 (fun H locs hP hD hS => ?_)
                have hP : va_P D vwCl (wP cI cC cZ cS b (va_up G 0 (upd (G 0) 1 ((((G 0 1) + (10 : Int32)) - (1 : Int32)) - (((G 0 1) + (10 : Int32)) - (1 : Int32)) / (10 : Int32) * (10 : Int32))))) H := hP
                have hD : va_D A (wP cI cC cZ cS b (va_up G 0 (upd (G 0) 1 ((((G 0 1) + (10 : Int32)) - (1 : Int32)) - (((G 0 1) + (10 : Int32)) - (1 : Int32)) / (10 : Int32) * (10 : Int32))))) := hD
                refine lv_aload_n hx hb dX1_pop_16 rfl (lv_at hl 0 rfl) ?_
                refine lv_dup hx hb dX1_pop_17 rfl ?_
                refine va_get (D := D) (ci := 1) (v := .int (G 0 2)) (C := RX1) (T := TX1) (N := 3) hx hb hts hinX1 hown hK hP 0 rfl rfl 2 (by decide) (hts (.fieldLink RX1 26 "FirstOut$Past" "known" "I") (by decide +kernel)) (fun _ h9 => h9) rfl dX1_pop_18 ?_
                refine lv_iconst (v := 1) hx hb dX1_pop_21 (by decide) ?_
                refine lv_isub hx hb dX1_pop_22 ?_
                refine va_put (D := D) (ci := 1) (v := .int ((G 0 2) - (1 : Int32))) (ty := .int) (C := RX1) (T := TX1) (N := 3) hx hb hts hinX1 tyX1 tyX1_ok nmX1 hown hK hP hD hS 0 rfl rfl 2 (by decide) (hts (.fieldLink RX1 26 "FirstOut$Past" "known" "I") (by decide +kernel)) (fun _ h9 => h9) rfl (by decide +kernel) rfl rfl (Nat.le_of_ble_eq_true rfl) dX1_pop_23 (fun H locs hP hD hS => ?_)
                have hP : va_P D vwCl (wP cI cC cZ cS b (va_up G 0 (upd (upd (G 0) 1 ((((G 0 1) + (10 : Int32)) - (1 : Int32)) - (((G 0 1) + (10 : Int32)) - (1 : Int32)) / (10 : Int32) * (10 : Int32))) 2 ((G 0 2) - (1 : Int32))))) H := hP
                have hD : va_D A (wP cI cC cZ cS b (va_up G 0 (upd (upd (G 0) 1 ((((G 0 1) + (10 : Int32)) - (1 : Int32)) - (((G 0 1) + (10 : Int32)) - (1 : Int32)) / (10 : Int32) * (10 : Int32))) 2 ((G 0 2) - (1 : Int32))))) := hD
                refine lv_aload_n hx hb dX1_pop_26 rfl (lv_at hl 1 rfl) ?_
                refine lv_aload_n hx hb dX1_pop_27 rfl (lv_at hl 0 rfl) ?_
                refine va_get (D := D) (ci := 1) (v := .ref (b 1)) (C := RX1) (T := TX1) (N := 3) hx hb hts hinX1 hown hK hP 0 rfl rfl 0 (by decide) (hts (.fieldLink RX1 11 "FirstOut$Past" "steps" "[LFirstOut$Standing;") (by decide +kernel)) (fun _ h9 => h9) rfl dX1_pop_28 ?_
                refine lv_aload_n hx hb dX1_pop_31 rfl (lv_at hl 0 rfl) ?_
                refine va_get (D := D) (ci := 1) (v := .int ((((G 0 1) + (10 : Int32)) - (1 : Int32)) - (((G 0 1) + (10 : Int32)) - (1 : Int32)) / (10 : Int32) * (10 : Int32))) (C := RX1) (T := TX1) (N := 3) hx hb hts hinX1 hown hK hP 0 rfl rfl 1 (by decide) (hts (.fieldLink RX1 18 "FirstOut$Past" "next" "I") (by decide +kernel)) (fun _ h9 => h9) rfl dX1_pop_32 ?_
                refine m_aald hx hb hK hP 1 3 rfl rfl 5 (by rw [c_7]; decide) (by decide) (by decide) (r := (b 7)) rfl dX1_pop_35 ?_
                have hPc := hP.sub (ws' := (wS2 cI cC cZ cS (b 12) (b 7) (G 12) (G 7))) [12, 7] rfl
                have hDc := hD.sub (ws' := (wS2 cI cC cZ cS (b 12) (b 7) (G 12) (G 7))) [12, 7] (by decide) rfl
                refine m_callM (W.runV (As := [.ref (b 7)]) (rest := []) ⟨hx, hb, hml, hown, hts⟩ (c_X3_become l D cI cC cZ cS (b 12) (b 7) (G 12) (G 7)) (cwV 1 hts gX1_pop_X3_become rfl rfl rfl (by decide +kernel) ⟨Nat.le_of_ble_eq_true rfl, Nat.le_of_ble_eq_true rfl⟩) (preV_of hPc hDc hE (va_recv hK hPc (ci := 3) (q0 := 0) rfl rfl)) rfl rfl hl.1 rfl (lv_room (Nat.le_of_ble_eq_true rfl)) dX1_pop_36 ⟨Nat.zero_le _, Nat.zero_le _⟩) hP hD hS [12, 7] rfl wS2_ad (fun H locs hP hD hS => ?_)
                have hP : va_P D vwCl (wP cI cC cZ cS b (va_up (va_up G 0 (upd (upd (G 0) 1 ((((G 0 1) + (10 : Int32)) - (1 : Int32)) - (((G 0 1) + (10 : Int32)) - (1 : Int32)) / (10 : Int32) * (10 : Int32))) 2 ((G 0 2) - (1 : Int32)))) 12 (d_X3_become (G 12) (G 7)))) H := hP
                have hD : va_D A (wP cI cC cZ cS b (va_up (va_up G 0 (upd (upd (G 0) 1 ((((G 0 1) + (10 : Int32)) - (1 : Int32)) - (((G 0 1) + (10 : Int32)) - (1 : Int32)) / (10 : Int32) * (10 : Int32))) 2 ((G 0 2) - (1 : Int32)))) 12 (d_X3_become (G 12) (G 7)))) := hD
                refine W.eq (g2 := F0 m 39 ls []) rfl ?_
                rw [hres]
                exact W.vret hx hb hr (fun t ht hW => ⟨rfl, by rw [ht]; exact hP, by rw [hA]; exact hS.F ht⟩) hS.2.2 dX1_pop_39
              · rw [if_neg c_7] at hres
                by_cases c_8 : (G 0 1) = 7
                · rw [if_pos c_8] at hres
                  refine lv_aload_n hx hb dX1_pop_0 rfl (lv_at hl 0 rfl) ?_
                  refine lv_aload_n hx hb dX1_pop_1 rfl (lv_at hl 0 rfl) ?_
                  refine va_get (D := D) (ci := 1) (v := .int (G 0 1)) (C := RX1) (T := TX1) (N := 3) hx hb hts hinX1 hown hK hP 0 rfl rfl 1 (by decide) (hts (.fieldLink RX1 18 "FirstOut$Past" "next" "I") (by decide +kernel)) (fun _ h9 => h9) rfl dX1_pop_2 ?_
                  refine lv_bipush (v := 10) hx hb dX1_pop_5 (by decide) ?_
                  refine lv_iadd hx hb dX1_pop_7 ?_
                  refine lv_iconst (v := 1) hx hb dX1_pop_8 (by decide) ?_
                  refine lv_isub hx hb dX1_pop_9 ?_
                  refine lv_bipush (v := 10) hx hb dX1_pop_10 (by decide) ?_
                  refine lv_irem hx hb dX1_pop_12 (by decide) ?_
                  refine va_put (D := D) (ci := 1) (v := .int ((((G 0 1) + (10 : Int32)) - (1 : Int32)) - (((G 0 1) + (10 : Int32)) - (1 : Int32)) / (10 : Int32) * (10 : Int32))) (ty := .int) (C := RX1) (T := TX1) (N := 3) hx hb hts hinX1 tyX1 tyX1_ok nmX1 hown hK hP hD hS 0 rfl rfl 1 (by decide) (hts (.fieldLink RX1 18 "FirstOut$Past" "next" "I") (by decide +kernel)) (fun _ h9 => h9) rfl (by decide +kernel) rfl rfl (Nat.le_of_ble_eq_true rfl) dX1_pop_13 (fun H locs hP hD hS => ?_)
                  have hP : va_P D vwCl (wP cI cC cZ cS b (va_up G 0 (upd (G 0) 1 ((((G 0 1) + (10 : Int32)) - (1 : Int32)) - (((G 0 1) + (10 : Int32)) - (1 : Int32)) / (10 : Int32) * (10 : Int32))))) H := hP
                  have hD : va_D A (wP cI cC cZ cS b (va_up G 0 (upd (G 0) 1 ((((G 0 1) + (10 : Int32)) - (1 : Int32)) - (((G 0 1) + (10 : Int32)) - (1 : Int32)) / (10 : Int32) * (10 : Int32))))) := hD
                  refine lv_aload_n hx hb dX1_pop_16 rfl (lv_at hl 0 rfl) ?_
                  refine lv_dup hx hb dX1_pop_17 rfl ?_
                  refine va_get (D := D) (ci := 1) (v := .int (G 0 2)) (C := RX1) (T := TX1) (N := 3) hx hb hts hinX1 hown hK hP 0 rfl rfl 2 (by decide) (hts (.fieldLink RX1 26 "FirstOut$Past" "known" "I") (by decide +kernel)) (fun _ h9 => h9) rfl dX1_pop_18 ?_
                  refine lv_iconst (v := 1) hx hb dX1_pop_21 (by decide) ?_
                  refine lv_isub hx hb dX1_pop_22 ?_
                  refine va_put (D := D) (ci := 1) (v := .int ((G 0 2) - (1 : Int32))) (ty := .int) (C := RX1) (T := TX1) (N := 3) hx hb hts hinX1 tyX1 tyX1_ok nmX1 hown hK hP hD hS 0 rfl rfl 2 (by decide) (hts (.fieldLink RX1 26 "FirstOut$Past" "known" "I") (by decide +kernel)) (fun _ h9 => h9) rfl (by decide +kernel) rfl rfl (Nat.le_of_ble_eq_true rfl) dX1_pop_23 (fun H locs hP hD hS => ?_)
                  have hP : va_P D vwCl (wP cI cC cZ cS b (va_up G 0 (upd (upd (G 0) 1 ((((G 0 1) + (10 : Int32)) - (1 : Int32)) - (((G 0 1) + (10 : Int32)) - (1 : Int32)) / (10 : Int32) * (10 : Int32))) 2 ((G 0 2) - (1 : Int32))))) H := hP
                  have hD : va_D A (wP cI cC cZ cS b (va_up G 0 (upd (upd (G 0) 1 ((((G 0 1) + (10 : Int32)) - (1 : Int32)) - (((G 0 1) + (10 : Int32)) - (1 : Int32)) / (10 : Int32) * (10 : Int32))) 2 ((G 0 2) - (1 : Int32))))) := hD
                  refine lv_aload_n hx hb dX1_pop_26 rfl (lv_at hl 1 rfl) ?_
                  refine lv_aload_n hx hb dX1_pop_27 rfl (lv_at hl 0 rfl) ?_
                  refine va_get (D := D) (ci := 1) (v := .ref (b 1)) (C := RX1) (T := TX1) (N := 3) hx hb hts hinX1 hown hK hP 0 rfl rfl 0 (by decide) (hts (.fieldLink RX1 11 "FirstOut$Past" "steps" "[LFirstOut$Standing;") (by decide +kernel)) (fun _ h9 => h9) rfl dX1_pop_28 ?_
                  refine lv_aload_n hx hb dX1_pop_31 rfl (lv_at hl 0 rfl) ?_
                  refine va_get (D := D) (ci := 1) (v := .int ((((G 0 1) + (10 : Int32)) - (1 : Int32)) - (((G 0 1) + (10 : Int32)) - (1 : Int32)) / (10 : Int32) * (10 : Int32))) (C := RX1) (T := TX1) (N := 3) hx hb hts hinX1 hown hK hP 0 rfl rfl 1 (by decide) (hts (.fieldLink RX1 18 "FirstOut$Past" "next" "I") (by decide +kernel)) (fun _ h9 => h9) rfl dX1_pop_32 ?_
                  refine m_aald hx hb hK hP 1 3 rfl rfl 6 (by rw [c_8]; decide) (by decide) (by decide) (r := (b 8)) rfl dX1_pop_35 ?_
                  have hPc := hP.sub (ws' := (wS2 cI cC cZ cS (b 12) (b 8) (G 12) (G 8))) [12, 8] rfl
                  have hDc := hD.sub (ws' := (wS2 cI cC cZ cS (b 12) (b 8) (G 12) (G 8))) [12, 8] (by decide) rfl
                  refine m_callM (W.runV (As := [.ref (b 8)]) (rest := []) ⟨hx, hb, hml, hown, hts⟩ (c_X3_become l D cI cC cZ cS (b 12) (b 8) (G 12) (G 8)) (cwV 1 hts gX1_pop_X3_become rfl rfl rfl (by decide +kernel) ⟨Nat.le_of_ble_eq_true rfl, Nat.le_of_ble_eq_true rfl⟩) (preV_of hPc hDc hE (va_recv hK hPc (ci := 3) (q0 := 0) rfl rfl)) rfl rfl hl.1 rfl (lv_room (Nat.le_of_ble_eq_true rfl)) dX1_pop_36 ⟨Nat.zero_le _, Nat.zero_le _⟩) hP hD hS [12, 8] rfl wS2_ad (fun H locs hP hD hS => ?_)
                  have hP : va_P D vwCl (wP cI cC cZ cS b (va_up (va_up G 0 (upd (upd (G 0) 1 ((((G 0 1) + (10 : Int32)) - (1 : Int32)) - (((G 0 1) + (10 : Int32)) - (1 : Int32)) / (10 : Int32) * (10 : Int32))) 2 ((G 0 2) - (1 : Int32)))) 12 (d_X3_become (G 12) (G 8)))) H := hP
                  have hD : va_D A (wP cI cC cZ cS b (va_up (va_up G 0 (upd (upd (G 0) 1 ((((G 0 1) + (10 : Int32)) - (1 : Int32)) - (((G 0 1) + (10 : Int32)) - (1 : Int32)) / (10 : Int32) * (10 : Int32))) 2 ((G 0 2) - (1 : Int32)))) 12 (d_X3_become (G 12) (G 8)))) := hD
                  refine W.eq (g2 := F0 m 39 ls []) rfl ?_
                  rw [hres]
                  exact W.vret hx hb hr (fun t ht hW => ⟨rfl, by rw [ht]; exact hP, by rw [hA]; exact hS.F ht⟩) hS.2.2 dX1_pop_39
                · rw [if_neg c_8] at hres
                  by_cases c_9 : (G 0 1) = 8
                  · rw [if_pos c_9] at hres
                    refine lv_aload_n hx hb dX1_pop_0 rfl (lv_at hl 0 rfl) ?_
                    refine lv_aload_n hx hb dX1_pop_1 rfl (lv_at hl 0 rfl) ?_
                    refine va_get (D := D) (ci := 1) (v := .int (G 0 1)) (C := RX1) (T := TX1) (N := 3) hx hb hts hinX1 hown hK hP 0 rfl rfl 1 (by decide) (hts (.fieldLink RX1 18 "FirstOut$Past" "next" "I") (by decide +kernel)) (fun _ h9 => h9) rfl dX1_pop_2 ?_
                    refine lv_bipush (v := 10) hx hb dX1_pop_5 (by decide) ?_
                    refine lv_iadd hx hb dX1_pop_7 ?_
                    refine lv_iconst (v := 1) hx hb dX1_pop_8 (by decide) ?_
                    refine lv_isub hx hb dX1_pop_9 ?_
                    refine lv_bipush (v := 10) hx hb dX1_pop_10 (by decide) ?_
                    refine lv_irem hx hb dX1_pop_12 (by decide) ?_
                    refine va_put (D := D) (ci := 1) (v := .int ((((G 0 1) + (10 : Int32)) - (1 : Int32)) - (((G 0 1) + (10 : Int32)) - (1 : Int32)) / (10 : Int32) * (10 : Int32))) (ty := .int) (C := RX1) (T := TX1) (N := 3) hx hb hts hinX1 tyX1 tyX1_ok nmX1 hown hK hP hD hS 0 rfl rfl 1 (by decide) (hts (.fieldLink RX1 18 "FirstOut$Past" "next" "I") (by decide +kernel)) (fun _ h9 => h9) rfl (by decide +kernel) rfl rfl (Nat.le_of_ble_eq_true rfl) dX1_pop_13 (fun H locs hP hD hS => ?_)
                    have hP : va_P D vwCl (wP cI cC cZ cS b (va_up G 0 (upd (G 0) 1 ((((G 0 1) + (10 : Int32)) - (1 : Int32)) - (((G 0 1) + (10 : Int32)) - (1 : Int32)) / (10 : Int32) * (10 : Int32))))) H := hP
                    have hD : va_D A (wP cI cC cZ cS b (va_up G 0 (upd (G 0) 1 ((((G 0 1) + (10 : Int32)) - (1 : Int32)) - (((G 0 1) + (10 : Int32)) - (1 : Int32)) / (10 : Int32) * (10 : Int32))))) := hD
                    refine lv_aload_n hx hb dX1_pop_16 rfl (lv_at hl 0 rfl) ?_
                    refine lv_dup hx hb dX1_pop_17 rfl ?_
                    refine va_get (D := D) (ci := 1) (v := .int (G 0 2)) (C := RX1) (T := TX1) (N := 3) hx hb hts hinX1 hown hK hP 0 rfl rfl 2 (by decide) (hts (.fieldLink RX1 26 "FirstOut$Past" "known" "I") (by decide +kernel)) (fun _ h9 => h9) rfl dX1_pop_18 ?_
                    refine lv_iconst (v := 1) hx hb dX1_pop_21 (by decide) ?_
                    refine lv_isub hx hb dX1_pop_22 ?_
                    refine va_put (D := D) (ci := 1) (v := .int ((G 0 2) - (1 : Int32))) (ty := .int) (C := RX1) (T := TX1) (N := 3) hx hb hts hinX1 tyX1 tyX1_ok nmX1 hown hK hP hD hS 0 rfl rfl 2 (by decide) (hts (.fieldLink RX1 26 "FirstOut$Past" "known" "I") (by decide +kernel)) (fun _ h9 => h9) rfl (by decide +kernel) rfl rfl (Nat.le_of_ble_eq_true rfl) dX1_pop_23 (fun H locs hP hD hS => ?_)
                    have hP : va_P D vwCl (wP cI cC cZ cS b (va_up G 0 (upd (upd (G 0) 1 ((((G 0 1) + (10 : Int32)) - (1 : Int32)) - (((G 0 1) + (10 : Int32)) - (1 : Int32)) / (10 : Int32) * (10 : Int32))) 2 ((G 0 2) - (1 : Int32))))) H := hP
                    have hD : va_D A (wP cI cC cZ cS b (va_up G 0 (upd (upd (G 0) 1 ((((G 0 1) + (10 : Int32)) - (1 : Int32)) - (((G 0 1) + (10 : Int32)) - (1 : Int32)) / (10 : Int32) * (10 : Int32))) 2 ((G 0 2) - (1 : Int32))))) := hD
                    refine lv_aload_n hx hb dX1_pop_26 rfl (lv_at hl 1 rfl) ?_
                    refine lv_aload_n hx hb dX1_pop_27 rfl (lv_at hl 0 rfl) ?_
                    refine va_get (D := D) (ci := 1) (v := .ref (b 1)) (C := RX1) (T := TX1) (N := 3) hx hb hts hinX1 hown hK hP 0 rfl rfl 0 (by decide) (hts (.fieldLink RX1 11 "FirstOut$Past" "steps" "[LFirstOut$Standing;") (by decide +kernel)) (fun _ h9 => h9) rfl dX1_pop_28 ?_
                    refine lv_aload_n hx hb dX1_pop_31 rfl (lv_at hl 0 rfl) ?_
                    refine va_get (D := D) (ci := 1) (v := .int ((((G 0 1) + (10 : Int32)) - (1 : Int32)) - (((G 0 1) + (10 : Int32)) - (1 : Int32)) / (10 : Int32) * (10 : Int32))) (C := RX1) (T := TX1) (N := 3) hx hb hts hinX1 hown hK hP 0 rfl rfl 1 (by decide) (hts (.fieldLink RX1 18 "FirstOut$Past" "next" "I") (by decide +kernel)) (fun _ h9 => h9) rfl dX1_pop_32 ?_
                    refine m_aald hx hb hK hP 1 3 rfl rfl 7 (by rw [c_9]; decide) (by decide) (by decide) (r := (b 9)) rfl dX1_pop_35 ?_
                    have hPc := hP.sub (ws' := (wS2 cI cC cZ cS (b 12) (b 9) (G 12) (G 9))) [12, 9] rfl
                    have hDc := hD.sub (ws' := (wS2 cI cC cZ cS (b 12) (b 9) (G 12) (G 9))) [12, 9] (by decide) rfl
                    refine m_callM (W.runV (As := [.ref (b 9)]) (rest := []) ⟨hx, hb, hml, hown, hts⟩ (c_X3_become l D cI cC cZ cS (b 12) (b 9) (G 12) (G 9)) (cwV 1 hts gX1_pop_X3_become rfl rfl rfl (by decide +kernel) ⟨Nat.le_of_ble_eq_true rfl, Nat.le_of_ble_eq_true rfl⟩) (preV_of hPc hDc hE (va_recv hK hPc (ci := 3) (q0 := 0) rfl rfl)) rfl rfl hl.1 rfl (lv_room (Nat.le_of_ble_eq_true rfl)) dX1_pop_36 ⟨Nat.zero_le _, Nat.zero_le _⟩) hP hD hS [12, 9] rfl wS2_ad (fun H locs hP hD hS => ?_)
                    have hP : va_P D vwCl (wP cI cC cZ cS b (va_up (va_up G 0 (upd (upd (G 0) 1 ((((G 0 1) + (10 : Int32)) - (1 : Int32)) - (((G 0 1) + (10 : Int32)) - (1 : Int32)) / (10 : Int32) * (10 : Int32))) 2 ((G 0 2) - (1 : Int32)))) 12 (d_X3_become (G 12) (G 9)))) H := hP
                    have hD : va_D A (wP cI cC cZ cS b (va_up (va_up G 0 (upd (upd (G 0) 1 ((((G 0 1) + (10 : Int32)) - (1 : Int32)) - (((G 0 1) + (10 : Int32)) - (1 : Int32)) / (10 : Int32) * (10 : Int32))) 2 ((G 0 2) - (1 : Int32)))) 12 (d_X3_become (G 12) (G 9)))) := hD
                    refine W.eq (g2 := F0 m 39 ls []) rfl ?_
                    rw [hres]
                    exact W.vret hx hb hr (fun t ht hW => ⟨rfl, by rw [ht]; exact hP, by rw [hA]; exact hS.F ht⟩) hS.2.2 dX1_pop_39
                  · rw [if_neg c_9] at hres
                    have c_10 : (G 0 1) = 9 := last9 hnx hx10 c_1 c_2 c_3 c_4 c_5 c_6 c_7 c_8 c_9
                    refine lv_aload_n hx hb dX1_pop_0 rfl (lv_at hl 0 rfl) ?_
                    refine lv_aload_n hx hb dX1_pop_1 rfl (lv_at hl 0 rfl) ?_
                    refine va_get (D := D) (ci := 1) (v := .int (G 0 1)) (C := RX1) (T := TX1) (N := 3) hx hb hts hinX1 hown hK hP 0 rfl rfl 1 (by decide) (hts (.fieldLink RX1 18 "FirstOut$Past" "next" "I") (by decide +kernel)) (fun _ h9 => h9) rfl dX1_pop_2 ?_
                    refine lv_bipush (v := 10) hx hb dX1_pop_5 (by decide) ?_
                    refine lv_iadd hx hb dX1_pop_7 ?_
                    refine lv_iconst (v := 1) hx hb dX1_pop_8 (by decide) ?_
                    refine lv_isub hx hb dX1_pop_9 ?_
                    refine lv_bipush (v := 10) hx hb dX1_pop_10 (by decide) ?_
                    refine lv_irem hx hb dX1_pop_12 (by decide) ?_
                    refine va_put (D := D) (ci := 1) (v := .int ((((G 0 1) + (10 : Int32)) - (1 : Int32)) - (((G 0 1) + (10 : Int32)) - (1 : Int32)) / (10 : Int32) * (10 : Int32))) (ty := .int) (C := RX1) (T := TX1) (N := 3) hx hb hts hinX1 tyX1 tyX1_ok nmX1 hown hK hP hD hS 0 rfl rfl 1 (by decide) (hts (.fieldLink RX1 18 "FirstOut$Past" "next" "I") (by decide +kernel)) (fun _ h9 => h9) rfl (by decide +kernel) rfl rfl (Nat.le_of_ble_eq_true rfl) dX1_pop_13 (fun H locs hP hD hS => ?_)
                    have hP : va_P D vwCl (wP cI cC cZ cS b (va_up G 0 (upd (G 0) 1 ((((G 0 1) + (10 : Int32)) - (1 : Int32)) - (((G 0 1) + (10 : Int32)) - (1 : Int32)) / (10 : Int32) * (10 : Int32))))) H := hP
                    have hD : va_D A (wP cI cC cZ cS b (va_up G 0 (upd (G 0) 1 ((((G 0 1) + (10 : Int32)) - (1 : Int32)) - (((G 0 1) + (10 : Int32)) - (1 : Int32)) / (10 : Int32) * (10 : Int32))))) := hD
                    refine lv_aload_n hx hb dX1_pop_16 rfl (lv_at hl 0 rfl) ?_
                    refine lv_dup hx hb dX1_pop_17 rfl ?_
                    refine va_get (D := D) (ci := 1) (v := .int (G 0 2)) (C := RX1) (T := TX1) (N := 3) hx hb hts hinX1 hown hK hP 0 rfl rfl 2 (by decide) (hts (.fieldLink RX1 26 "FirstOut$Past" "known" "I") (by decide +kernel)) (fun _ h9 => h9) rfl dX1_pop_18 ?_
                    refine lv_iconst (v := 1) hx hb dX1_pop_21 (by decide) ?_
                    refine lv_isub hx hb dX1_pop_22 ?_
                    refine va_put (D := D) (ci := 1) (v := .int ((G 0 2) - (1 : Int32))) (ty := .int) (C := RX1) (T := TX1) (N := 3) hx hb hts hinX1 tyX1 tyX1_ok nmX1 hown hK hP hD hS 0 rfl rfl 2 (by decide) (hts (.fieldLink RX1 26 "FirstOut$Past" "known" "I") (by decide +kernel)) (fun _ h9 => h9) rfl (by decide +kernel) rfl rfl (Nat.le_of_ble_eq_true rfl) dX1_pop_23 (fun H locs hP hD hS => ?_)
                    have hP : va_P D vwCl (wP cI cC cZ cS b (va_up G 0 (upd (upd (G 0) 1 ((((G 0 1) + (10 : Int32)) - (1 : Int32)) - (((G 0 1) + (10 : Int32)) - (1 : Int32)) / (10 : Int32) * (10 : Int32))) 2 ((G 0 2) - (1 : Int32))))) H := hP
                    have hD : va_D A (wP cI cC cZ cS b (va_up G 0 (upd (upd (G 0) 1 ((((G 0 1) + (10 : Int32)) - (1 : Int32)) - (((G 0 1) + (10 : Int32)) - (1 : Int32)) / (10 : Int32) * (10 : Int32))) 2 ((G 0 2) - (1 : Int32))))) := hD
                    refine lv_aload_n hx hb dX1_pop_26 rfl (lv_at hl 1 rfl) ?_
                    refine lv_aload_n hx hb dX1_pop_27 rfl (lv_at hl 0 rfl) ?_
                    refine va_get (D := D) (ci := 1) (v := .ref (b 1)) (C := RX1) (T := TX1) (N := 3) hx hb hts hinX1 hown hK hP 0 rfl rfl 0 (by decide) (hts (.fieldLink RX1 11 "FirstOut$Past" "steps" "[LFirstOut$Standing;") (by decide +kernel)) (fun _ h9 => h9) rfl dX1_pop_28 ?_
                    refine lv_aload_n hx hb dX1_pop_31 rfl (lv_at hl 0 rfl) ?_
                    refine va_get (D := D) (ci := 1) (v := .int ((((G 0 1) + (10 : Int32)) - (1 : Int32)) - (((G 0 1) + (10 : Int32)) - (1 : Int32)) / (10 : Int32) * (10 : Int32))) (C := RX1) (T := TX1) (N := 3) hx hb hts hinX1 hown hK hP 0 rfl rfl 1 (by decide) (hts (.fieldLink RX1 18 "FirstOut$Past" "next" "I") (by decide +kernel)) (fun _ h9 => h9) rfl dX1_pop_32 ?_
                    refine m_aald hx hb hK hP 1 3 rfl rfl 8 (by rw [c_10]; decide) (by decide) (by decide) (r := (b 10)) rfl dX1_pop_35 ?_
                    have hPc := hP.sub (ws' := (wS2 cI cC cZ cS (b 12) (b 10) (G 12) (G 10))) [12, 10] rfl
                    have hDc := hD.sub (ws' := (wS2 cI cC cZ cS (b 12) (b 10) (G 12) (G 10))) [12, 10] (by decide) rfl
                    refine m_callM (W.runV (As := [.ref (b 10)]) (rest := []) ⟨hx, hb, hml, hown, hts⟩ (c_X3_become l D cI cC cZ cS (b 12) (b 10) (G 12) (G 10)) (cwV 1 hts gX1_pop_X3_become rfl rfl rfl (by decide +kernel) ⟨Nat.le_of_ble_eq_true rfl, Nat.le_of_ble_eq_true rfl⟩) (preV_of hPc hDc hE (va_recv hK hPc (ci := 3) (q0 := 0) rfl rfl)) rfl rfl hl.1 rfl (lv_room (Nat.le_of_ble_eq_true rfl)) dX1_pop_36 ⟨Nat.zero_le _, Nat.zero_le _⟩) hP hD hS [12, 10] rfl wS2_ad (fun H locs hP hD hS => ?_)
                    have hP : va_P D vwCl (wP cI cC cZ cS b (va_up (va_up G 0 (upd (upd (G 0) 1 ((((G 0 1) + (10 : Int32)) - (1 : Int32)) - (((G 0 1) + (10 : Int32)) - (1 : Int32)) / (10 : Int32) * (10 : Int32))) 2 ((G 0 2) - (1 : Int32)))) 12 (d_X3_become (G 12) (G 10)))) H := hP
                    have hD : va_D A (wP cI cC cZ cS b (va_up (va_up G 0 (upd (upd (G 0) 1 ((((G 0 1) + (10 : Int32)) - (1 : Int32)) - (((G 0 1) + (10 : Int32)) - (1 : Int32)) / (10 : Int32) * (10 : Int32))) 2 ((G 0 2) - (1 : Int32)))) 12 (d_X3_become (G 12) (G 10)))) := hD
                    refine W.eq (g2 := F0 m 39 ls []) rfl ?_
                    rw [hres]
                    exact W.vret hx hb hr (fun t ht hW => ⟨rfl, by rw [ht]; exact hP, by rw [hA]; exact hS.F ht⟩) hS.2.2 dX1_pop_39
