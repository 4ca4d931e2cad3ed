def pF (F : Nat → Nat → Int32) : Nat → Nat → Int32 := fun j => if j = 12 then F 11 else F (13 + j)
def putP (F G : Nat → Nat → Int32) : Nat → Nat → Int32 := fun k => if k = 11 then G 12 else if 13 ≤ k ∧ k < 25 then G (k - 13) else F k
theorem holds_ok {hf : Nat → Int32} {t : Int32} {n : Nat} (c : ¬ d_X0_holds hf t = 0) (hn : hf 3 = nI n) (h7 : n ≤ 7) : t = nI t.toNatClampNeg ∧ t.toNatClampNeg < n := by
  rw [d_X0_holds] at c
  by_cases c1 : t < 0
  · rw [if_pos c1] at c; exact absurd rfl c
  · rw [if_neg c1] at c
    by_cases c2 : hf 3 ≤ t
    · rw [if_pos c2] at c; exact absurd rfl c
    · obtain ⟨j, hj, rfl⟩ := nI_of c1
      rw [hn] at c2
      have h := nlt_of c2 hj (by omega)
      rw [nI_clamp hj]
      exact ⟨rfl, h⟩

def wXC (cI cC cZ cS : ClassId) (a : Nat → Nat) (b : Nat → Nat) (hf : Nat → Int32) (tr : Nat → Int32) (de : Nat → Int32) (ea : Nat → Int32) (u : Nat → Int32) (tc : Int64) : va_W := [((a 0), .inr (5, [.ref (a 1), .ref (a 5), .ref (a 9), .ref (b 12), .ref (a 12), .ref (b 0), .ref (a 25), .ref (a 28), .ref (a 29), .long tc])), ((a 1), .inr (0, [.ref (a 2), .ref (a 3), .ref (a 4), .int (hf 3), .int (hf 4), .int (hf 5), .int (hf 6), .int (hf 7), .int (hf 8)])), ((a 2), .inl (cI, 7, .inl tr)), ((a 3), .inl (cI, 7, .inl de)), ((a 4), .inl (cI, 7, .inl ea)), ((b 12), .inr (3, [.int (u 0), .int (u 1), .int (u 2), .int (u 3), .int (u 4)]))]
theorem wXC_ad {cI cC cZ cS : ClassId} {a : Nat → Nat} {b : Nat → Nat} {hf1 : Nat → Int32} {tr1 : Nat → Int32} {de1 : Nat → Int32} {ea1 : Nat → Int32} {u1 : Nat → Int32} {tc1 : Int64} {hf2 : Nat → Int32} {tr2 : Nat → Int32} {de2 : Nat → Int32} {ea2 : Nat → Int32} {u2 : Nat → Int32} {tc2 : Int64} : (wXC cI cC cZ cS a b hf1 tr1 de1 ea1 u1 tc1).map Prod.fst = (wXC cI cC cZ cS a b hf2 tr2 de2 ea2 u2 tc2).map Prod.fst := rfl
def wXS (cI cC cZ cS : ClassId) (a : Nat → Nat) (b : Nat → Nat) (sA : Nat) (hf : Nat → Int32) (tr : Nat → Int32) (de : Nat → Int32) (ea : Nat → Int32) (u : Nat → Int32) (tc : Int64) : va_W := [((a 0), .inr (5, [.ref (a 1), .ref (a 5), .ref (a 9), .ref (b 12), .ref (a 12), .ref (b 0), .ref (a 25), .ref (a 28), .ref (a 29), .long tc])), ((a 1), .inr (0, [.ref (a 2), .ref (a 3), .ref (a 4), .int (hf 3), .int (hf 4), .int (hf 5), .int (hf 6), .int (hf 7), .int (hf 8)])), ((a 2), .inl (cI, 7, .inl tr)), ((a 3), .inl (cI, 7, .inl de)), ((a 4), .inl (cI, 7, .inl ea)), (sA, .inr (3, [.int (u 0), .int (u 1), .int (u 2), .int (u 3), .int (u 4)]))]
theorem wXS_ad {cI cC cZ cS : ClassId} {a : Nat → Nat} {b : Nat → Nat} {sA : Nat} {hf1 : Nat → Int32} {tr1 : Nat → Int32} {de1 : Nat → Int32} {ea1 : Nat → Int32} {u1 : Nat → Int32} {tc1 : Int64} {hf2 : Nat → Int32} {tr2 : Nat → Int32} {de2 : Nat → Int32} {ea2 : Nat → Int32} {u2 : Nat → Int32} {tc2 : Int64} : (wXS cI cC cZ cS a b sA hf1 tr1 de1 ea1 u1 tc1).map Prod.fst = (wXS cI cC cZ cS a b sA hf2 tr2 de2 ea2 u2 tc2).map Prod.fst := rfl
def wF (cI cC cZ cS : ClassId) (a : Nat → Nat) (b : Nat → Nat) (F : Nat → Nat → Int32) (tc : Int64) : va_W := [((a 0), .inr (5, [.ref (a 1), .ref (a 5), .ref (a 9), .ref (b 12), .ref (a 12), .ref (b 0), .ref (a 25), .ref (a 28), .ref (a 29), .long tc])), ((a 1), .inr (0, [.ref (a 2), .ref (a 3), .ref (a 4), .int ((F 1) 3), .int ((F 1) 4), .int ((F 1) 5), .int ((F 1) 6), .int ((F 1) 7), .int ((F 1) 8)])), ((a 2), .inl (cI, 7, .inl (F 2))), ((a 3), .inl (cI, 7, .inl (F 3))), ((a 4), .inl (cI, 7, .inl (F 4))), ((a 5), .inr (0, [.ref (a 6), .ref (a 7), .ref (a 8), .int ((F 5) 3), .int ((F 5) 4), .int ((F 5) 5), .int ((F 5) 6), .int ((F 5) 7), .int ((F 5) 8)])), ((a 6), .inl (cI, 7, .inl (F 6))), ((a 7), .inl (cI, 7, .inl (F 7))), ((a 8), .inl (cI, 7, .inl (F 8))), ((a 9), .inr (4, [.ref (a 10), .int ((F 9) 1), .int ((F 9) 2), .int ((F 9) 3), .int ((F 9) 4)])), ((a 10), .inl (cC, 200, .inl (F 10))), ((b 12), .inr (3, [.int ((F 11) 0), .int ((F 11) 1), .int ((F 11) 2), .int ((F 11) 3), .int ((F 11) 4)])), ((a 12), .inr (3, [.int ((F 12) 0), .int ((F 12) 1), .int ((F 12) 2), .int ((F 12) 3), .int ((F 12) 4)])), ((b 0), .inr (1, [.ref (b 1), .int ((F 13) 1), .int ((F 13) 2)])), ((b 1), .inl (cS, 10, .inr (.inr (.inr (.inr (fun j => some (b (2 + j)))))))), ((b 2), .inr (3, [.int ((F 15) 0), .int ((F 15) 1), .int ((F 15) 2), .int ((F 15) 3), .int ((F 15) 4)])), ((b 3), .inr (3, [.int ((F 16) 0), .int ((F 16) 1), .int ((F 16) 2), .int ((F 16) 3), .int ((F 16) 4)])), ((b 4), .inr (3, [.int ((F 17) 0), .int ((F 17) 1), .int ((F 17) 2), .int ((F 17) 3), .int ((F 17) 4)])), ((b 5), .inr (3, [.int ((F 18) 0), .int ((F 18) 1), .int ((F 18) 2), .int ((F 18) 3), .int ((F 18) 4)])), ((b 6), .inr (3, [.int ((F 19) 0), .int ((F 19) 1), .int ((F 19) 2), .int ((F 19) 3), .int ((F 19) 4)])), ((b 7), .inr (3, [.int ((F 20) 0), .int ((F 20) 1), .int ((F 20) 2), .int ((F 20) 3), .int ((F 20) 4)])), ((b 8), .inr (3, [.int ((F 21) 0), .int ((F 21) 1), .int ((F 21) 2), .int ((F 21) 3), .int ((F 21) 4)])), ((b 9), .inr (3, [.int ((F 22) 0), .int ((F 22) 1), .int ((F 22) 2), .int ((F 22) 3), .int ((F 22) 4)])), ((b 10), .inr (3, [.int ((F 23) 0), .int ((F 23) 1), .int ((F 23) 2), .int ((F 23) 3), .int ((F 23) 4)])), ((b 11), .inr (3, [.int ((F 24) 0), .int ((F 24) 1), .int ((F 24) 2), .int ((F 24) 3), .int ((F 24) 4)])), ((a 25), .inl (cS, 2, .inr (.inr (.inr (.inr (fun j => some (b (13 + j)))))))), ((b 13), .inr (3, [.int ((F 26) 0), .int ((F 26) 1), .int ((F 26) 2), .int ((F 26) 3), .int ((F 26) 4)])), ((b 14), .inr (3, [.int ((F 27) 0), .int ((F 27) 1), .int ((F 27) 2), .int ((F 27) 3), .int ((F 27) 4)])), ((a 28), .inl (cZ, 2, .inl (F 28))), ((a 29), .inr (2, [.ref (a 30), .ref (a 31), .int ((F 29) 2)])), ((a 30), .inl (cI, 6, .inl (F 30))), ((a 31), .inl (cI, 6, .inl (F 31)))]
theorem wF_ad {cI cC cZ cS : ClassId} {a : Nat → Nat} {b : Nat → Nat} {F1 : Nat → Nat → Int32} {tc1 : Int64} {F2 : Nat → Nat → Int32} {tc2 : Int64} : (wF cI cC cZ cS a b F1 tc1).map Prod.fst = (wF cI cC cZ cS a b F2 tc2).map Prod.fst := rfl
def d_X5_coveredNow (tr : Nat → Int32) (u : Nat → Int32) (n : Nat) : Int32 :=
  d_X0_coveredBy tr u (u 0) n
set_option maxHeartbeats 4000000 in
set_option maxRecDepth 100000 in
theorem c_X5_coveredNow (l : Launch) (D : va_G) (cI cC cZ cS : ClassId) (a : Nat → Nat) (b : Nat → Nat) (hf : Nat → Int32) (tr : Nat → Int32) (de : Nat → Int32) (ea : Nat → Int32) (u : Nat → Int32) (tc : Int64) (n : Nat) (hn : hf 3 = nI n) (h7 : n ≤ 7) : Met l yX5_coveredNow wsX5_coveredNow { frames := 2, cells := 0, slots := 0, locals := 45 } (PcE D cI cC cZ cS [.ref (a 0)] (wXC cI cC cZ cS a b hf tr de ea u tc)) (QcR (some (.int (d_X5_coveredNow tr u n)))) 0 0 (fun _ => False) := by
  refine Met.ofW (cc := cX5_coveredNow) (maxL := 1) (ret := (some .int)) (by decide) rfl ?_
  intro p e s m args below meth c s₁ B hml hv
  obtain ⟨rfl, hP, hD, hE⟩ := hv
  have hK := hE.1
  have hx := B.exec
  have hb := B.bytes
  have hr := B.returns
  have hts := atoms_spec (ws := wsX5_coveredNow) B.pre
  have hown : s.vm.findClass RX5 = some m.cls := findClass_of_methodNamed B.named
  have hlocks := B.notSynchronized
  have hinX5 : ∀ w ∈ wsX50, w ∈ wsX5_coveredNow := by decide +kernel
  have hinX3 : ∀ w ∈ wsX30, w ∈ wsX5_coveredNow := by decide +kernel
  refine opq (d_X5_coveredNow tr u n) (fun R hres => ?_)
  rw [hres]
  replace hres := hres.symm
  rw [d_X5_coveredNow] at hres
  have hl := lv_entry ([.ref (a 0)]) (n := 1) (Nat.le_of_ble_eq_true rfl)
  rw [lg_entry_eq]
  generalize (lg_sl ([.ref (a 0)]) ++ List.replicate (1 - (lg_sl ([.ref (a 0)])).length) Slot.unset).toArray = ls at hl ⊢
  have hl : lv_has ls 1 [(0, .ref (a 0))] := hl
  refine lv_aload_n hx hb dX5_coveredNow_0 rfl (lv_at hl 0 rfl) ?_
  refine va_get (D := D) (ci := 5) (v := .ref (a 1)) (C := RX5) (T := TX5) (N := 10) hx hb hts hinX5 hown hK hP 0 rfl rfl 0 (by decide) (hts (.fieldLink RX5 10 "FirstOut" "home" "LFirstOut$House;") (by decide +kernel)) (fun _ h9 => h9) rfl dX5_coveredNow_1 ?_
  refine lv_aload_n hx hb dX5_coveredNow_4 rfl (lv_at hl 0 rfl) ?_
  refine va_get (D := D) (ci := 5) (v := .ref (b 12)) (C := RX5) (T := TX5) (N := 10) hx hb hts hinX5 hown hK hP 0 rfl rfl 3 (by decide) (hts (.fieldLink RX5 29 "FirstOut" "current" "LFirstOut$Standing;") (by decide +kernel)) (fun _ h9 => h9) rfl dX5_coveredNow_5 ?_
  refine va_get (D := D) (ci := 3) (v := .int (u 0)) (C := RX3) (T := TX3) (N := 5) hx hb hts hinX3 hown hK hP 5 rfl rfl 0 (by decide) (hts (.fieldLink RX5 113 "FirstOut$Standing" "words" "I") (by decide +kernel)) (fun _ h9 => h9) rfl dX5_coveredNow_8 ?_
  refine lv_aload_n hx hb dX5_coveredNow_11 rfl (lv_at hl 0 rfl) ?_
  refine va_get (D := D) (ci := 5) (v := .ref (b 12)) (C := RX5) (T := TX5) (N := 10) hx hb hts hinX5 hown hK hP 0 rfl rfl 3 (by decide) (hts (.fieldLink RX5 29 "FirstOut" "current" "LFirstOut$Standing;") (by decide +kernel)) (fun _ h9 => h9) rfl dX5_coveredNow_12 ?_
  have hPc := hP.sub (ws' := (wHS cI cC cZ cS (a 1) (a 2) (a 3) (a 4) (b 12) hf tr de ea u)) [1, 2, 3, 4, 5] rfl
  have hDc := hD.sub (ws' := (wHS cI cC cZ cS (a 1) (a 2) (a 3) (a 4) (b 12) hf tr de ea u)) [1, 2, 3, 4, 5] (by decide) rfl
  refine m_callR (W.runV (As := [.int (u 0), .ref (b 12)]) (rest := []) ⟨hx, hb, hml, hown, hts⟩ (c_X0_coveredBy l D cI cC cZ cS (a 1) (a 2) (a 3) (a 4) (b 12) hf tr de ea u (u 0) n hn h7) (cwV 2 hts gX5_coveredNow_X0_coveredBy rfl rfl rfl (by decide +kernel) ⟨Nat.le_of_ble_eq_true rfl, Nat.le_of_ble_eq_true rfl⟩) (preV_of hPc hDc hE (va_recv hK hPc (ci := 0) (q0 := 0) rfl rfl)) rfl rfl hl.1 rfl (lv_room (Nat.le_of_ble_eq_true rfl)) dX5_coveredNow_15 ⟨Nat.zero_le _, Nat.zero_le _⟩) ?_
  refine W.eq (g2 := F0 m 18 ls [.int (d_X0_coveredBy tr u (u 0) n)]) rfl ?_
  rw [hres]
  exact W.iret (v := d_X0_coveredBy tr u (u 0) n) hx hb hr (fun t ht hW => ⟨rfl, ht⟩) (fun _ h => by cases h) dX5_coveredNow_18
def d_X5_ableNow (tr : Nat → Int32) (ea : Nat → Int32) (u : Nat → Int32) (n : Nat) : Int32 :=
  d_X0_ableBy tr ea u (u 0) n
set_option maxHeartbeats 4000000 in
set_option maxRecDepth 100000 in
theorem c_X5_ableNow (l : Launch) (D : va_G) (cI cC cZ cS : ClassId) (a : Nat → Nat) (b : Nat → Nat) (hf : Nat → Int32) (tr : Nat → Int32) (de : Nat → Int32) (ea : Nat → Int32) (u : Nat → Int32) (tc : Int64) (n : Nat) (hn : hf 3 = nI n) (h7 : n ≤ 7) : Met l yX5_ableNow wsX5_ableNow { frames := 3, cells := 0, slots := 0, locals := 68 } (PcE D cI cC cZ cS [.ref (a 0)] (wXC cI cC cZ cS a b hf tr de ea u tc)) (QcR (some (.int (d_X5_ableNow tr ea u n)))) 0 0 (fun _ => False) := by
  refine Met.ofW (cc := cX5_ableNow) (maxL := 1) (ret := (some .int)) (by decide) rfl ?_
  intro p e s m args below meth c s₁ B hml hv
  obtain ⟨rfl, hP, hD, hE⟩ := hv
  have hK := hE.1
  have hx := B.exec
  have hb := B.bytes
  have hr := B.returns
  have hts := atoms_spec (ws := wsX5_ableNow) B.pre
  have hown : s.vm.findClass RX5 = some m.cls := findClass_of_methodNamed B.named
  have hlocks := B.notSynchronized
  have hinX5 : ∀ w ∈ wsX50, w ∈ wsX5_ableNow := by decide +kernel
  have hinX3 : ∀ w ∈ wsX30, w ∈ wsX5_ableNow := by decide +kernel
  refine opq (d_X5_ableNow tr ea u n) (fun R hres => ?_)
  rw [hres]
  replace hres := hres.symm
  rw [d_X5_ableNow] at hres
  have hl := lv_entry ([.ref (a 0)]) (n := 1) (Nat.le_of_ble_eq_true rfl)
  rw [lg_entry_eq]
  generalize (lg_sl ([.ref (a 0)]) ++ List.replicate (1 - (lg_sl ([.ref (a 0)])).length) Slot.unset).toArray = ls at hl ⊢
  have hl : lv_has ls 1 [(0, .ref (a 0))] := hl
  refine lv_aload_n hx hb dX5_ableNow_0 rfl (lv_at hl 0 rfl) ?_
  refine va_get (D := D) (ci := 5) (v := .ref (a 1)) (C := RX5) (T := TX5) (N := 10) hx hb hts hinX5 hown hK hP 0 rfl rfl 0 (by decide) (hts (.fieldLink RX5 10 "FirstOut" "home" "LFirstOut$House;") (by decide +kernel)) (fun _ h9 => h9) rfl dX5_ableNow_1 ?_
  refine lv_aload_n hx hb dX5_ableNow_4 rfl (lv_at hl 0 rfl) ?_
  refine va_get (D := D) (ci := 5) (v := .ref (b 12)) (C := RX5) (T := TX5) (N := 10) hx hb hts hinX5 hown hK hP 0 rfl rfl 3 (by decide) (hts (.fieldLink RX5 29 "FirstOut" "current" "LFirstOut$Standing;") (by decide +kernel)) (fun _ h9 => h9) rfl dX5_ableNow_5 ?_
  refine va_get (D := D) (ci := 3) (v := .int (u 0)) (C := RX3) (T := TX3) (N := 5) hx hb hts hinX3 hown hK hP 5 rfl rfl 0 (by decide) (hts (.fieldLink RX5 113 "FirstOut$Standing" "words" "I") (by decide +kernel)) (fun _ h9 => h9) rfl dX5_ableNow_8 ?_
  refine lv_aload_n hx hb dX5_ableNow_11 rfl (lv_at hl 0 rfl) ?_
  refine va_get (D := D) (ci := 5) (v := .ref (b 12)) (C := RX5) (T := TX5) (N := 10) hx hb hts hinX5 hown hK hP 0 rfl rfl 3 (by decide) (hts (.fieldLink RX5 29 "FirstOut" "current" "LFirstOut$Standing;") (by decide +kernel)) (fun _ h9 => h9) rfl dX5_ableNow_12 ?_
  have hPc := hP.sub (ws' := (wHS cI cC cZ cS (a 1) (a 2) (a 3) (a 4) (b 12) hf tr de ea u)) [1, 2, 3, 4, 5] rfl
  have hDc := hD.sub (ws' := (wHS cI cC cZ cS (a 1) (a 2) (a 3) (a 4) (b 12) hf tr de ea u)) [1, 2, 3, 4, 5] (by decide) rfl
  refine m_callR (W.runV (As := [.int (u 0), .ref (b 12)]) (rest := []) ⟨hx, hb, hml, hown, hts⟩ (c_X0_ableBy l D cI cC cZ cS (a 1) (a 2) (a 3) (a 4) (b 12) hf tr de ea u (u 0) n hn h7) (cwV 2 hts gX5_ableNow_X0_ableBy rfl rfl rfl (by decide +kernel) ⟨Nat.le_of_ble_eq_true rfl, Nat.le_of_ble_eq_true rfl⟩) (preV_of hPc hDc hE (va_recv hK hPc (ci := 0) (q0 := 0) rfl rfl)) rfl rfl hl.1 rfl (lv_room (Nat.le_of_ble_eq_true rfl)) dX5_ableNow_15 ⟨Nat.zero_le _, Nat.zero_le _⟩) ?_
  refine W.eq (g2 := F0 m 18 ls [.int (d_X0_ableBy tr ea u (u 0) n)]) rfl ?_
  rw [hres]
  exact W.iret (v := d_X0_ableBy tr ea u (u 0) n) hx hb hr (fun t ht hW => ⟨rfl, ht⟩) (fun _ h => by cases h) dX5_ableNow_18
def d_X5_passDay (tr : Nat → Int32) (ea : Nat → Int32) (u : Nat → Int32) (z : Int32) (n : Nat) : Int32 × (Nat → Int32) :=
  if (d_X0_ableBy tr ea u (u 0) n) = 0 then
      ((-9), (upd u 4 ((u 4) + (1 : Int32))))
    else
      if (d_X0_countedOff ea (d_X0_ableBy tr ea u (u 0) n) (d_X5_drawn z (u 4) (d_X0_eagerTogether ea (d_X0_ableBy tr ea u (u 0) n) n)) n) = (-9 : Int32) then
        (d_X0_countedOff ea (d_X0_ableBy tr ea u (u 0) n) (d_X5_drawn z (u 4) (d_X0_eagerTogether ea (d_X0_ableBy tr ea u (u 0) n) n)) n, (upd u 4 ((u 4) + (1 : Int32))))
      else
        (d_X0_countedOff ea (d_X0_ableBy tr ea u (u 0) n) (d_X5_drawn z (u 4) (d_X0_eagerTogether ea (d_X0_ableBy tr ea u (u 0) n) n)) n, (upd (upd u 3 ((u 3) ||| ((d_X0_coveredBy tr u (u 0) n) &&& ((1 : Int32) <<< ((d_X0_countedOff ea (d_X0_ableBy tr ea u (u 0) n) (d_X5_drawn z (u 4) (d_X0_eagerTogether ea (d_X0_ableBy tr ea u (u 0) n) n)) n) &&& 31))))) 4 ((u 4) + (1 : Int32))))
set_option maxHeartbeats 4000000 in
set_option maxRecDepth 100000 in
theorem c_X5_passDay (l : Launch) (D : va_G) (cI cC cZ cS : ClassId) (a : Nat → Nat) (b : Nat → Nat) (sA : Nat) (hf : Nat → Int32) (tr : Nat → Int32) (de : Nat → Int32) (ea : Nat → Int32) (u : Nat → Int32) (tc : Int64) (z : Int32) (n : Nat) (hn : hf 3 = nI n) (h7 : n ≤ 7) : Met l yX5_passDay wsX5_passDay { frames := 3, cells := 0, slots := 0, locals := 68 } (PcE D cI cC cZ cS [.ref (a 0), .ref sA, .int z] (wXS cI cC cZ cS a b sA hf tr de ea u tc)) (QcM (some (.int ((d_X5_passDay tr ea u z n).1))) D (wXS cI cC cZ cS a b sA hf tr de ea u tc) (wXS cI cC cZ cS a b sA hf tr de ea ((d_X5_passDay tr ea u z n).2) tc)) 0 0 (inW (wXS cI cC cZ cS a b sA hf tr de ea u tc)) := by
  refine Met.ofW (cc := cX5_passDay) (maxL := 5) (ret := (some .int)) (by decide) rfl ?_
  intro p e s m args below meth c s₁ B hml hv
  obtain ⟨rfl, hP, hD, hE⟩ := hv
  have hK := hE.1
  have hx := B.exec
  have hb := B.bytes
  have hr := B.returns
  have hts := atoms_spec (ws := wsX5_passDay) B.pre
  have hown : s.vm.findClass RX5 = some m.cls := findClass_of_methodNamed B.named
  have hlocks := B.notSynchronized
  have hinX5 : ∀ w ∈ wsX50, w ∈ wsX5_passDay := by decide +kernel
  have hinX3 : ∀ w ∈ wsX30, w ∈ wsX5_passDay := by decide +kernel
  have hD := inW_self hD
  have hS : va_S (inW (wXS cI cC cZ cS a b sA hf tr de ea u tc)) s.heap s.heap [] := va_S.rf
  generalize hA : inW (wXS cI cC cZ cS a b sA hf tr de ea u tc) = A at hD hS ⊢
  refine opq (d_X5_passDay tr ea u z n) (fun R hres => ?_)
  rw [hres]
  replace hres := hres.symm
  rw [d_X5_passDay] at hres
  have hl := lv_entry ([.ref (a 0), .ref sA, .int z]) (n := 5) (Nat.le_of_ble_eq_true rfl)
  rw [lg_entry_eq]
  generalize (lg_sl ([.ref (a 0), .ref sA, .int z]) ++ List.replicate (5 - (lg_sl ([.ref (a 0), .ref sA, .int z])).length) Slot.unset).toArray = ls at hl ⊢
  have hl : lv_has ls 5 [(0, .ref (a 0)), (1, .ref sA), (2, .int z)] := hl
  refine lv_aload_n hx hb dX5_passDay_0 rfl (lv_at hl 0 rfl) ?_
  refine va_get (D := D) (ci := 5) (v := .ref (a 1)) (C := RX5) (T := TX5) (N := 10) hx hb hts hinX5 hown hK hP 0 rfl rfl 0 (by decide) (hts (.fieldLink RX5 10 "FirstOut" "home" "LFirstOut$House;") (by decide +kernel)) (fun _ h9 => h9) rfl dX5_passDay_1 ?_
  refine lv_aload_n hx hb dX5_passDay_4 rfl (lv_at hl 1 rfl) ?_
  refine va_get (D := D) (ci := 3) (v := .int (u 0)) (C := RX3) (T := TX3) (N := 5) hx hb hts hinX3 hown hK hP 5 rfl rfl 0 (by decide) (hts (.fieldLink RX5 113 "FirstOut$Standing" "words" "I") (by decide +kernel)) (fun _ h9 => h9) rfl dX5_passDay_5 ?_
  refine lv_aload_n hx hb dX5_passDay_8 rfl (lv_at hl 1 rfl) ?_
  have hPc := hP.sub (ws' := (wHS cI cC cZ cS (a 1) (a 2) (a 3) (a 4) sA hf tr de ea u)) [1, 2, 3, 4, 5] rfl
  have hDc := hD.sub (ws' := (wHS cI cC cZ cS (a 1) (a 2) (a 3) (a 4) sA hf tr de ea u)) [1, 2, 3, 4, 5] (by decide) rfl
  refine m_callR (W.runV (As := [.int (u 0), .ref sA]) (rest := []) ⟨hx, hb, hml, hown, hts⟩ (c_X0_ableBy l D cI cC cZ cS (a 1) (a 2) (a 3) (a 4) sA hf tr de ea u (u 0) n hn h7) (cwV 2 hts gX5_passDay_X0_ableBy rfl rfl rfl (by decide +kernel) ⟨Nat.le_of_ble_eq_true rfl, Nat.le_of_ble_eq_true rfl⟩) (preV_of hPc hDc hE (va_recv hK hPc (ci := 0) (q0 := 0) rfl rfl)) rfl rfl hl.1 rfl (lv_room (Nat.le_of_ble_eq_true rfl)) dX5_passDay_9 ⟨Nat.zero_le _, Nat.zero_le _⟩) ?_
  refine W.eq (g2 := F0 m 12 ls [.int (d_X0_ableBy tr ea u (u 0) n)]) rfl ?_
  refine lv_istore_n (lv' := [(3, .int (d_X0_ableBy tr ea u (u 0) n)), (0, .ref (a 0)), (1, .ref sA), (2, .int z)]) hx hb dX5_passDay_12 rfl hl (by decide) rfl (fun ls hl => ?_)
  refine lv_bipush (v := (-9)) hx hb dX5_passDay_13 (by decide) ?_
  refine lv_istore (lv' := [(4, .int (-9)), (3, .int (d_X0_ableBy tr ea u (u 0) n)), (0, .ref (a 0)), (1, .ref sA), (2, .int z)]) hx hb dX5_passDay_15 hl (by decide) rfl (fun ls hl => ?_)
  refine lv_iload_n hx hb dX5_passDay_17 rfl (lv_at hl 1 rfl) ?_
  refine lv_if_eq (tgt := 47) hx hb dX5_passDay_18 (by decide) (fun c_1 => ?_) (fun c_1 => ?_)
  · skip
    rw [if_pos c_1] at hres
    refine lv_iload hx hb dX5_passDay_47 (lv_at hl 0 rfl) ?_
    refine lv_bipush (v := (-9)) hx hb dX5_passDay_49 (by decide) ?_
    refine lv_icmp_eq (tgt := 80) hx hb dX5_passDay_51 (by decide) (fun c_2 => ?_) (fun c_2 => ?_)
    · skip
      refine lv_aload_n hx hb dX5_passDay_80 rfl (lv_at hl 3 rfl) ?_
      refine lv_dup hx hb dX5_passDay_81 rfl ?_
      refine va_get (D := D) (ci := 3) (v := .int (u 4)) (C := RX3) (T := TX3) (N := 5) hx hb hts hinX3 hown hK hP 5 rfl rfl 4 (by decide) (hts (.fieldLink RX5 110 "FirstOut$Standing" "date" "I") (by decide +kernel)) (fun _ h9 => h9) rfl dX5_passDay_82 ?_
      refine lv_iconst (v := 1) hx hb dX5_passDay_85 (by decide) ?_
      refine lv_iadd hx hb dX5_passDay_86 ?_
      refine va_put (D := D) (ci := 3) (v := .int ((u 4) + (1 : Int32))) (ty := .int) (C := RX3) (T := TX3) (N := 5) hx hb hts hinX3 tyX3 tyX3_ok nmX3 hown hK hP hD hS 5 rfl rfl 4 (by decide) (hts (.fieldLink RX5 110 "FirstOut$Standing" "date" "I") (by decide +kernel)) (fun _ h9 => h9) rfl (by decide +kernel) rfl rfl (Nat.le_of_ble_eq_true rfl) dX5_passDay_87 (fun H locs hP hD hS => ?_)
      have hP : va_P D vwCl (wXS cI cC cZ cS a b sA hf tr de ea (upd u 4 ((u 4) + (1 : Int32))) tc) H := hP
      have hD : va_D A (wXS cI cC cZ cS a b sA hf tr de ea (upd u 4 ((u 4) + (1 : Int32))) tc) := hD
      refine lv_iload hx hb dX5_passDay_90 (lv_at hl 0 rfl) ?_
      rw [hres]
      exact W.iret (v := (-9)) hx hb hr (fun t ht hW => ⟨rfl, by rw [ht]; exact hP, by rw [hA]; exact hS.F ht⟩) hS.2.2 dX5_passDay_92
    · exact absurd c_2 (by decide)
  · skip
    rw [if_neg c_1] at hres
    refine lv_aload_n hx hb dX5_passDay_21 rfl (lv_at hl 2 rfl) ?_
    refine va_get (D := D) (ci := 5) (v := .ref (a 1)) (C := RX5) (T := TX5) (N := 10) hx hb hts hinX5 hown hK hP 0 rfl rfl 0 (by decide) (hts (.fieldLink RX5 10 "FirstOut" "home" "LFirstOut$House;") (by decide +kernel)) (fun _ h9 => h9) rfl dX5_passDay_22 ?_
    refine lv_iload_n hx hb dX5_passDay_25 rfl (lv_at hl 1 rfl) ?_
    refine lv_iload_n hx hb dX5_passDay_26 rfl (lv_at hl 4 rfl) ?_
    refine lv_aload_n hx hb dX5_passDay_27 rfl (lv_at hl 3 rfl) ?_
    refine va_get (D := D) (ci := 3) (v := .int (u 4)) (C := RX3) (T := TX3) (N := 5) hx hb hts hinX3 hown hK hP 5 rfl rfl 4 (by decide) (hts (.fieldLink RX5 110 "FirstOut$Standing" "date" "I") (by decide +kernel)) (fun _ h9 => h9) rfl dX5_passDay_28 ?_
    refine lv_aload_n hx hb dX5_passDay_31 rfl (lv_at hl 2 rfl) ?_
    refine va_get (D := D) (ci := 5) (v := .ref (a 1)) (C := RX5) (T := TX5) (N := 10) hx hb hts hinX5 hown hK hP 0 rfl rfl 0 (by decide) (hts (.fieldLink RX5 10 "FirstOut" "home" "LFirstOut$House;") (by decide +kernel)) (fun _ h9 => h9) rfl dX5_passDay_32 ?_
    refine lv_iload_n hx hb dX5_passDay_35 rfl (lv_at hl 1 rfl) ?_
    have hPc := hP.sub (ws' := (wH cI cC cZ cS (a 1) (a 2) (a 3) (a 4) hf tr de ea)) [1, 2, 3, 4] rfl
    have hDc := hD.sub (ws' := (wH cI cC cZ cS (a 1) (a 2) (a 3) (a 4) hf tr de ea)) [1, 2, 3, 4] (by decide) rfl
    refine m_callR (W.runV (As := [.int (d_X0_ableBy tr ea u (u 0) n)]) (rest := [.int (u 4), .int z, .int (d_X0_ableBy tr ea u (u 0) n), .ref (a 1)]) ⟨hx, hb, hml, hown, hts⟩ (c_X0_eagerTogether l D cI cC cZ cS (a 1) (a 2) (a 3) (a 4) hf tr de ea (d_X0_ableBy tr ea u (u 0) n) n hn h7) (cwV 1 hts gX5_passDay_X0_eagerTogether rfl rfl rfl (by decide +kernel) ⟨Nat.le_of_ble_eq_true rfl, Nat.le_of_ble_eq_true rfl⟩) (preV_of hPc hDc hE (va_recv hK hPc (ci := 0) (q0 := 0) rfl rfl)) rfl rfl hl.1 rfl (lv_room (Nat.le_of_ble_eq_true rfl)) dX5_passDay_36 ⟨Nat.zero_le _, Nat.zero_le _⟩) ?_
    refine W.eq (g2 := F0 m 39 ls [.int (d_X0_eagerTogether ea (d_X0_ableBy tr ea u (u 0) n) n), .int (u 4), .int z, .int (d_X0_ableBy tr ea u (u 0) n), .ref (a 1)]) rfl ?_
    have hPc := hP.sub (ws' := []) [] rfl
    have hDc := hD.sub (ws' := []) [] (by decide) rfl
    refine m_callR (W.runS (As := [.int z, .int (u 4), .int (d_X0_eagerTogether ea (d_X0_ableBy tr ea u (u 0) n) n)]) (rest := [.int (d_X0_ableBy tr ea u (u 0) n), .ref (a 1)]) ⟨hx, hb, hml, hown, hts⟩ (c_X5_drawn l D cI cC cZ cS z (u 4) (d_X0_eagerTogether ea (d_X0_ableBy tr ea u (u 0) n) n)) (va_cwS 3 hts gX5_passDay_X5_drawn rfl rfl rfl (by decide +kernel) ⟨Nat.le_of_ble_eq_true rfl, Nat.le_of_ble_eq_true rfl⟩) (preS_of hPc hDc hE) rfl rfl hl.1 rfl (lv_room (Nat.le_of_ble_eq_true rfl)) dX5_passDay_39 ⟨Nat.zero_le _, Nat.zero_le _⟩) ?_
    refine W.eq (g2 := F0 m 42 ls [.int (d_X5_drawn z (u 4) (d_X0_eagerTogether ea (d_X0_ableBy tr ea u (u 0) n) n)), .int (d_X0_ableBy tr ea u (u 0) n), .ref (a 1)]) rfl ?_
    have hPc := hP.sub (ws' := (wH cI cC cZ cS (a 1) (a 2) (a 3) (a 4) hf tr de ea)) [1, 2, 3, 4] rfl
    have hDc := hD.sub (ws' := (wH cI cC cZ cS (a 1) (a 2) (a 3) (a 4) hf tr de ea)) [1, 2, 3, 4] (by decide) rfl
    refine m_callR (W.runV (As := [.int (d_X0_ableBy tr ea u (u 0) n), .int (d_X5_drawn z (u 4) (d_X0_eagerTogether ea (d_X0_ableBy tr ea u (u 0) n) n))]) (rest := []) ⟨hx, hb, hml, hown, hts⟩ (c_X0_countedOff l D cI cC cZ cS (a 1) (a 2) (a 3) (a 4) hf tr de ea (d_X0_ableBy tr ea u (u 0) n) (d_X5_drawn z (u 4) (d_X0_eagerTogether ea (d_X0_ableBy tr ea u (u 0) n) n)) n hn h7) (cwV 2 hts gX5_passDay_X0_countedOff rfl rfl rfl (by decide +kernel) ⟨Nat.le_of_ble_eq_true rfl, Nat.le_of_ble_eq_true rfl⟩) (preV_of hPc hDc hE (va_recv hK hPc (ci := 0) (q0 := 0) rfl rfl)) rfl rfl hl.1 rfl (lv_room (Nat.le_of_ble_eq_true rfl)) dX5_passDay_42 ⟨Nat.zero_le _, Nat.zero_le _⟩) ?_
    refine W.eq (g2 := F0 m 45 ls [.int (d_X0_countedOff ea (d_X0_ableBy tr ea u (u 0) n) (d_X5_drawn z (u 4) (d_X0_eagerTogether ea (d_X0_ableBy tr ea u (u 0) n) n)) n)]) rfl ?_
    refine lv_istore (lv' := [(4, .int (d_X0_countedOff ea (d_X0_ableBy tr ea u (u 0) n) (d_X5_drawn z (u 4) (d_X0_eagerTogether ea (d_X0_ableBy tr ea u (u 0) n) n)) n)), (3, .int (d_X0_ableBy tr ea u (u 0) n)), (0, .ref (a 0)), (1, .ref sA), (2, .int z)]) hx hb dX5_passDay_45 hl (by decide) rfl (fun ls hl => ?_)
    refine lv_iload hx hb dX5_passDay_47 (lv_at hl 0 rfl) ?_
    refine lv_bipush (v := (-9)) hx hb dX5_passDay_49 (by decide) ?_
    refine lv_icmp_eq (tgt := 80) hx hb dX5_passDay_51 (by decide) (fun c_3 => ?_) (fun c_3 => ?_)
    · skip
      rw [if_pos c_3] at hres
      refine lv_aload_n hx hb dX5_passDay_80 rfl (lv_at hl 3 rfl) ?_
      refine lv_dup hx hb dX5_passDay_81 rfl ?_
      refine va_get (D := D) (ci := 3) (v := .int (u 4)) (C := RX3) (T := TX3) (N := 5) hx hb hts hinX3 hown hK hP 5 rfl rfl 4 (by decide) (hts (.fieldLink RX5 110 "FirstOut$Standing" "date" "I") (by decide +kernel)) (fun _ h9 => h9) rfl dX5_passDay_82 ?_
      refine lv_iconst (v := 1) hx hb dX5_passDay_85 (by decide) ?_
      refine lv_iadd hx hb dX5_passDay_86 ?_
      refine va_put (D := D) (ci := 3) (v := .int ((u 4) + (1 : Int32))) (ty := .int) (C := RX3) (T := TX3) (N := 5) hx hb hts hinX3 tyX3 tyX3_ok nmX3 hown hK hP hD hS 5 rfl rfl 4 (by decide) (hts (.fieldLink RX5 110 "FirstOut$Standing" "date" "I") (by decide +kernel)) (fun _ h9 => h9) rfl (by decide +kernel) rfl rfl (Nat.le_of_ble_eq_true rfl) dX5_passDay_87 (fun H locs hP hD hS => ?_)
      have hP : va_P D vwCl (wXS cI cC cZ cS a b sA hf tr de ea (upd u 4 ((u 4) + (1 : Int32))) tc) H := hP
      have hD : va_D A (wXS cI cC cZ cS a b sA hf tr de ea (upd u 4 ((u 4) + (1 : Int32))) tc) := hD
      refine lv_iload hx hb dX5_passDay_90 (lv_at hl 0 rfl) ?_
      rw [hres]
      exact W.iret (v := d_X0_countedOff ea (d_X0_ableBy tr ea u (u 0) n) (d_X5_drawn z (u 4) (d_X0_eagerTogether ea (d_X0_ableBy tr ea u (u 0) n) n)) n) hx hb hr (fun t ht hW => ⟨rfl, by rw [ht]; exact hP, by rw [hA]; exact hS.F ht⟩) hS.2.2 dX5_passDay_92
    · skip
      rw [if_neg c_3] at hres
      refine lv_aload_n hx hb dX5_passDay_54 rfl (lv_at hl 3 rfl) ?_
      refine lv_dup hx hb dX5_passDay_55 rfl ?_
      refine va_get (D := D) (ci := 3) (v := .int (u 3)) (C := RX3) (T := TX3) (N := 5) hx hb hts hinX3 hown hK hP 5 rfl rfl 3 (by decide) (hts (.fieldLink RX5 100 "FirstOut$Standing" "given" "I") (by decide +kernel)) (fun _ h9 => h9) rfl dX5_passDay_56 ?_
      refine lv_aload_n hx hb dX5_passDay_59 rfl (lv_at hl 2 rfl) ?_
      refine va_get (D := D) (ci := 5) (v := .ref (a 1)) (C := RX5) (T := TX5) (N := 10) hx hb hts hinX5 hown hK hP 0 rfl rfl 0 (by decide) (hts (.fieldLink RX5 10 "FirstOut" "home" "LFirstOut$House;") (by decide +kernel)) (fun _ h9 => h9) rfl dX5_passDay_60 ?_
      refine lv_aload_n hx hb dX5_passDay_63 rfl (lv_at hl 3 rfl) ?_
      refine va_get (D := D) (ci := 3) (v := .int (u 0)) (C := RX3) (T := TX3) (N := 5) hx hb hts hinX3 hown hK hP 5 rfl rfl 0 (by decide) (hts (.fieldLink RX5 113 "FirstOut$Standing" "words" "I") (by decide +kernel)) (fun _ h9 => h9) rfl dX5_passDay_64 ?_
      refine lv_aload_n hx hb dX5_passDay_67 rfl (lv_at hl 3 rfl) ?_
      have hPc := hP.sub (ws' := (wHS cI cC cZ cS (a 1) (a 2) (a 3) (a 4) sA hf tr de ea u)) [1, 2, 3, 4, 5] rfl
      have hDc := hD.sub (ws' := (wHS cI cC cZ cS (a 1) (a 2) (a 3) (a 4) sA hf tr de ea u)) [1, 2, 3, 4, 5] (by decide) rfl
      refine m_callR (W.runV (As := [.int (u 0), .ref sA]) (rest := [.int (u 3), .ref sA]) ⟨hx, hb, hml, hown, hts⟩ (c_X0_coveredBy l D cI cC cZ cS (a 1) (a 2) (a 3) (a 4) sA hf tr de ea u (u 0) n hn h7) (cwV 2 hts gX5_passDay_X0_coveredBy rfl rfl rfl (by decide +kernel) ⟨Nat.le_of_ble_eq_true rfl, Nat.le_of_ble_eq_true rfl⟩) (preV_of hPc hDc hE (va_recv hK hPc (ci := 0) (q0 := 0) rfl rfl)) rfl rfl hl.1 rfl (lv_room (Nat.le_of_ble_eq_true rfl)) dX5_passDay_68 ⟨Nat.zero_le _, Nat.zero_le _⟩) ?_
      refine W.eq (g2 := F0 m 71 ls [.int (d_X0_coveredBy tr u (u 0) n), .int (u 3), .ref sA]) rfl ?_
      refine lv_iconst (v := 1) hx hb dX5_passDay_71 (by decide) ?_
      refine lv_iload hx hb dX5_passDay_72 (lv_at hl 0 rfl) ?_
      refine lv_ishl hx hb dX5_passDay_74 ?_
      refine lv_iand hx hb dX5_passDay_75 ?_
      refine lv_ior hx hb dX5_passDay_76 ?_
      refine va_put (D := D) (ci := 3) (v := .int ((u 3) ||| ((d_X0_coveredBy tr u (u 0) n) &&& ((1 : Int32) <<< ((d_X0_countedOff ea (d_X0_ableBy tr ea u (u 0) n) (d_X5_drawn z (u 4) (d_X0_eagerTogether ea (d_X0_ableBy tr ea u (u 0) n) n)) n) &&& 31))))) (ty := .int) (C := RX3) (T := TX3) (N := 5) hx hb hts hinX3 tyX3 tyX3_ok nmX3 hown hK hP hD hS 5 rfl rfl 3 (by decide) (hts (.fieldLink RX5 100 "FirstOut$Standing" "given" "I") (by decide +kernel)) (fun _ h9 => h9) rfl (by decide +kernel) rfl rfl (Nat.le_of_ble_eq_true rfl) dX5_passDay_77 (fun H locs hP hD hS => ?_)
      have hP : va_P D vwCl (wXS cI cC cZ cS a b sA hf tr de ea (upd u 3 ((u 3) ||| ((d_X0_coveredBy tr u (u 0) n) &&& ((1 : Int32) <<< ((d_X0_countedOff ea (d_X0_ableBy tr ea u (u 0) n) (d_X5_drawn z (u 4) (d_X0_eagerTogether ea (d_X0_ableBy tr ea u (u 0) n) n)) n) &&& 31))))) tc) H := hP
      have hD : va_D A (wXS cI cC cZ cS a b sA hf tr de ea (upd u 3 ((u 3) ||| ((d_X0_coveredBy tr u (u 0) n) &&& ((1 : Int32) <<< ((d_X0_countedOff ea (d_X0_ableBy tr ea u (u 0) n) (d_X5_drawn z (u 4) (d_X0_eagerTogether ea (d_X0_ableBy tr ea u (u 0) n) n)) n) &&& 31))))) tc) := hD
      refine lv_aload_n hx hb dX5_passDay_80 rfl (lv_at hl 3 rfl) ?_
      refine lv_dup hx hb dX5_passDay_81 rfl ?_
      refine va_get (D := D) (ci := 3) (v := .int (u 4)) (C := RX3) (T := TX3) (N := 5) hx hb hts hinX3 hown hK hP 5 rfl rfl 4 (by decide) (hts (.fieldLink RX5 110 "FirstOut$Standing" "date" "I") (by decide +kernel)) (fun _ h9 => h9) rfl dX5_passDay_82 ?_
      refine lv_iconst (v := 1) hx hb dX5_passDay_85 (by decide) ?_
      refine lv_iadd hx hb dX5_passDay_86 ?_
      refine va_put (D := D) (ci := 3) (v := .int ((u 4) + (1 : Int32))) (ty := .int) (C := RX3) (T := TX3) (N := 5) hx hb hts hinX3 tyX3 tyX3_ok nmX3 hown hK hP hD hS 5 rfl rfl 4 (by decide) (hts (.fieldLink RX5 110 "FirstOut$Standing" "date" "I") (by decide +kernel)) (fun _ h9 => h9) rfl (by decide +kernel) rfl rfl (Nat.le_of_ble_eq_true rfl) dX5_passDay_87 (fun H locs hP hD hS => ?_)
      have hP : va_P D vwCl (wXS cI cC cZ cS a b sA hf tr de ea (upd (upd u 3 ((u 3) ||| ((d_X0_coveredBy tr u (u 0) n) &&& ((1 : Int32) <<< ((d_X0_countedOff ea (d_X0_ableBy tr ea u (u 0) n) (d_X5_drawn z (u 4) (d_X0_eagerTogether ea (d_X0_ableBy tr ea u (u 0) n) n)) n) &&& 31))))) 4 ((u 4) + (1 : Int32))) tc) H := hP
      have hD : va_D A (wXS cI cC cZ cS a b sA hf tr de ea (upd (upd u 3 ((u 3) ||| ((d_X0_coveredBy tr u (u 0) n) &&& ((1 : Int32) <<< ((d_X0_countedOff ea (d_X0_ableBy tr ea u (u 0) n) (d_X5_drawn z (u 4) (d_X0_eagerTogether ea (d_X0_ableBy tr ea u (u 0) n) n)) n) &&& 31))))) 4 ((u 4) + (1 : Int32))) tc) := hD
      refine lv_iload hx hb dX5_passDay_90 (lv_at hl 0 rfl) ?_
      rw [hres]
      exact W.iret (v := d_X0_countedOff ea (d_X0_ableBy tr ea u (u 0) n) (d_X5_drawn z (u 4) (d_X0_eagerTogether ea (d_X0_ableBy tr ea u (u 0) n) n)) n) hx hb hr (fun t ht hW => ⟨rfl, by rw [ht]; exact hP, by rw [hA]; exact hS.F ht⟩) hS.2.2 dX5_passDay_92
def d_X5_rateAsThing (de : Nat → Int32) (tc : Int64) (t : Int32) : Int32 × Int64 :=
  ((de t.toNatClampNeg), tc + (1 : Int64))
set_option maxHeartbeats 4000000 in
set_option maxRecDepth 100000 in
theorem c_X5_rateAsThing (l : Launch) (D : va_G) (cI cC cZ cS : ClassId) (a : Nat → Nat) (b : Nat → Nat) (hf : Nat → Int32) (tr : Nat → Int32) (de : Nat → Int32) (ea : Nat → Int32) (u : Nat → Int32) (tc : Int64) (t : Int32) (n : Nat) (hn : hf 3 = nI n) (h7 : n ≤ 7) (ti : t = nI t.toNatClampNeg ∧ t.toNatClampNeg < n) : Met l yX5_rateAsThing wsX5_rateAsThing { frames := 0, cells := 0, slots := 0, locals := 0 } (PcE D cI cC cZ cS [.ref (a 0), .int t] (wXC cI cC cZ cS a b hf tr de ea u tc)) (QcM (some (.int ((d_X5_rateAsThing de tc t).1))) D (wXC cI cC cZ cS a b hf tr de ea u tc) (wXC cI cC cZ cS a b hf tr de ea u ((d_X5_rateAsThing de tc t).2))) 0 0 (inW (wXC cI cC cZ cS a b hf tr de ea u tc)) := by
  refine Met.ofW (cc := cX5_rateAsThing) (maxL := 2) (ret := (some .int)) (by decide) rfl ?_
  intro p e s m args below meth c s₁ B hml hv
  obtain ⟨rfl, hP, hD, hE⟩ := hv
  have hK := hE.1
  have hx := B.exec
  have hb := B.bytes
  have hr := B.returns
  have hts := atoms_spec (ws := wsX5_rateAsThing) B.pre
  have hown : s.vm.findClass RX5 = some m.cls := findClass_of_methodNamed B.named
  have hlocks := B.notSynchronized
  have hinX5 : ∀ w ∈ wsX50, w ∈ wsX5_rateAsThing := by decide +kernel
  have hinX0 : ∀ w ∈ wsX00, w ∈ wsX5_rateAsThing := by decide +kernel
  have hD := inW_self hD
  have hS : va_S (inW (wXC cI cC cZ cS a b hf tr de ea u tc)) s.heap s.heap [] := va_S.rf
  generalize hA : inW (wXC cI cC cZ cS a b hf tr de ea u tc) = A at hD hS ⊢
  refine opq (d_X5_rateAsThing de tc t) (fun R hres => ?_)
  rw [hres]
  replace hres := hres.symm
  rw [d_X5_rateAsThing] at hres
  have hl := lv_entry ([.ref (a 0), .int t]) (n := 2) (Nat.le_of_ble_eq_true rfl)
  rw [lg_entry_eq]
  generalize (lg_sl ([.ref (a 0), .int t]) ++ List.replicate (2 - (lg_sl ([.ref (a 0), .int t])).length) Slot.unset).toArray = ls at hl ⊢
  have hl : lv_has ls 2 [(0, .ref (a 0)), (1, .int t)] := hl
  refine lv_aload_n hx hb dX5_rateAsThing_0 rfl (lv_at hl 0 rfl) ?_
  refine lv_dup hx hb dX5_rateAsThing_1 rfl ?_
  refine va_get (D := D) (ci := 5) (v := .long tc) (C := RX5) (T := TX5) (N := 10) hx hb hts hinX5 hown hK hP 0 rfl rfl 9 (by decide) (hts (.fieldLink RX5 58 "FirstOut" "traced" "J") (by decide +kernel)) (fun _ h9 => h9) rfl dX5_rateAsThing_2 ?_
  refine lv_lconst (v := 1) hx hb dX5_rateAsThing_5 (by decide) ?_
  refine lv_ladd hx hb dX5_rateAsThing_6 ?_
  refine va_put (D := D) (ci := 5) (v := .long (tc + (1 : Int64))) (ty := .long) (C := RX5) (T := TX5) (N := 10) hx hb hts hinX5 tyX5 tyX5_ok nmX5 hown hK hP hD hS 0 rfl rfl 9 (by decide) (hts (.fieldLink RX5 58 "FirstOut" "traced" "J") (by decide +kernel)) (fun _ h9 => h9) rfl (by decide +kernel) rfl rfl (Nat.le_of_ble_eq_true rfl) dX5_rateAsThing_7 (fun H locs hP hD hS => ?_)
  have hP : va_P D vwCl (wXC cI cC cZ cS a b hf tr de ea u (tc + (1 : Int64))) H := hP
  have hD : va_D A (wXC cI cC cZ cS a b hf tr de ea u (tc + (1 : Int64))) := hD
  refine lv_aload_n hx hb dX5_rateAsThing_10 rfl (lv_at hl 0 rfl) ?_
  refine va_get (D := D) (ci := 5) (v := .ref (a 1)) (C := RX5) (T := TX5) (N := 10) hx hb hts hinX5 hown hK hP 0 rfl rfl 0 (by decide) (hts (.fieldLink RX5 10 "FirstOut" "home" "LFirstOut$House;") (by decide +kernel)) (fun _ h9 => h9) rfl dX5_rateAsThing_11 ?_
  refine va_get (D := D) (ci := 0) (v := .ref (a 3)) (C := RX0) (T := TX0) (N := 9) hx hb hts hinX0 hown hK hP 1 rfl rfl 1 (by decide) (hts (.fieldLink RX5 84 "FirstOut$House" "dear" "[I") (by decide +kernel)) (fun _ h9 => h9) rfl dX5_rateAsThing_14 ?_
  refine lv_iload_n hx hb dX5_rateAsThing_17 rfl (lv_at hl 1 rfl) ?_
  refine m_iald hx hb hK hP 3 0 rfl rfl t.toNatClampNeg ti.1 (by have := ti.2; omega) (by decide) dX5_rateAsThing_18 ?_
  refine lv_to (show _ = (de t.toNatClampNeg) from rfl) ?_
  rw [hres]
  exact W.iret (v := (de t.toNatClampNeg)) hx hb hr (fun t ht hW => ⟨rfl, by rw [ht]; exact hP, by rw [hA]; exact hS.F ht⟩) hS.2.2 dX5_rateAsThing_19
def d_X5_rateAsCalf (de : Nat → Int32) (ea : Nat → Int32) (tc : Int64) (t : Int32) : Int32 × Int64 :=
  (((d_X5_rateAsThing de (tc + (10 : Int64)) t).1) + (ea t.toNatClampNeg), (d_X5_rateAsThing de (tc + (10 : Int64)) t).2)
set_option maxHeartbeats 4000000 in
set_option maxRecDepth 100000 in
theorem c_X5_rateAsCalf (l : Launch) (D : va_G) (cI cC cZ cS : ClassId) (a : Nat → Nat) (b : Nat → Nat) (hf : Nat → Int32) (tr : Nat → Int32) (de : Nat → Int32) (ea : Nat → Int32) (u : Nat → Int32) (tc : Int64) (t : Int32) (n : Nat) (hn : hf 3 = nI n) (h7 : n ≤ 7) (ti : t = nI t.toNatClampNeg ∧ t.toNatClampNeg < n) : Met l yX5_rateAsCalf wsX5_rateAsCalf { frames := 1, cells := 0, slots := 0, locals := 21 } (PcE D cI cC cZ cS [.ref (a 0), .int t] (wXC cI cC cZ cS a b hf tr de ea u tc)) (QcM (some (.int ((d_X5_rateAsCalf de ea tc t).1))) D (wXC cI cC cZ cS a b hf tr de ea u tc) (wXC cI cC cZ cS a b hf tr de ea u ((d_X5_rateAsCalf de ea tc t).2))) 0 0 (inW (wXC cI cC cZ cS a b hf tr de ea u tc)) := by
  refine Met.ofW (cc := cX5_rateAsCalf) (maxL := 2) (ret := (some .int)) (by decide) rfl ?_
  intro p e s m args below meth c s₁ B hml hv
  obtain ⟨rfl, hP, hD, hE⟩ := hv
  have hK := hE.1
  have hx := B.exec
  have hb := B.bytes
  have hr := B.returns
  have hts := atoms_spec (ws := wsX5_rateAsCalf) B.pre
  have hown : s.vm.findClass RX5 = some m.cls := findClass_of_methodNamed B.named
  have hlocks := B.notSynchronized
  have hinX5 : ∀ w ∈ wsX50, w ∈ wsX5_rateAsCalf := by decide +kernel
  have hinX0 : ∀ w ∈ wsX00, w ∈ wsX5_rateAsCalf := by decide +kernel
  have hD := inW_self hD
  have hS : va_S (inW (wXC cI cC cZ cS a b hf tr de ea u tc)) s.heap s.heap [] := va_S.rf
  generalize hA : inW (wXC cI cC cZ cS a b hf tr de ea u tc) = A at hD hS ⊢
  refine opq (d_X5_rateAsCalf de ea tc t) (fun R hres => ?_)
  rw [hres]
  replace hres := hres.symm
  rw [d_X5_rateAsCalf] at hres
  have hl := lv_entry ([.ref (a 0), .int t]) (n := 2) (Nat.le_of_ble_eq_true rfl)
  rw [lg_entry_eq]
  generalize (lg_sl ([.ref (a 0), .int t]) ++ List.replicate (2 - (lg_sl ([.ref (a 0), .int t])).length) Slot.unset).toArray = ls at hl ⊢
  have hl : lv_has ls 2 [(0, .ref (a 0)), (1, .int t)] := hl
  refine lv_aload_n hx hb dX5_rateAsCalf_0 rfl (lv_at hl 0 rfl) ?_
  refine lv_dup hx hb dX5_rateAsCalf_1 rfl ?_
  refine va_get (D := D) (ci := 5) (v := .long tc) (C := RX5) (T := TX5) (N := 10) hx hb hts hinX5 hown hK hP 0 rfl rfl 9 (by decide) (hts (.fieldLink RX5 58 "FirstOut" "traced" "J") (by decide +kernel)) (fun _ h9 => h9) rfl dX5_rateAsCalf_2 ?_
  refine lv_ldc2 hx hb hown (hts (.constantLong RX5 235 (10)) (by decide +kernel)) dX5_rateAsCalf_5 ?_
  refine lv_ladd hx hb dX5_rateAsCalf_8 ?_
  refine va_put (D := D) (ci := 5) (v := .long (tc + (10 : Int64))) (ty := .long) (C := RX5) (T := TX5) (N := 10) hx hb hts hinX5 tyX5 tyX5_ok nmX5 hown hK hP hD hS 0 rfl rfl 9 (by decide) (hts (.fieldLink RX5 58 "FirstOut" "traced" "J") (by decide +kernel)) (fun _ h9 => h9) rfl (by decide +kernel) rfl rfl (Nat.le_of_ble_eq_true rfl) dX5_rateAsCalf_9 (fun H locs hP hD hS => ?_)
  have hP : va_P D vwCl (wXC cI cC cZ cS a b hf tr de ea u (tc + (10 : Int64))) H := hP
  have hD : va_D A (wXC cI cC cZ cS a b hf tr de ea u (tc + (10 : Int64))) := hD
  refine lv_aload_n hx hb dX5_rateAsCalf_12 rfl (lv_at hl 0 rfl) ?_
  refine lv_iload_n hx hb dX5_rateAsCalf_13 rfl (lv_at hl 1 rfl) ?_
  have hPc := hP.sub (ws' := (wXC cI cC cZ cS a b hf tr de ea u (tc + (10 : Int64)))) [0, 1, 2, 3, 4, 5] rfl
  have hDc := hD.sub (ws' := (wXC cI cC cZ cS a b hf tr de ea u (tc + (10 : Int64)))) [0, 1, 2, 3, 4, 5] (by decide) rfl
  refine m_callM (W.runV (As := [.int t]) (rest := []) ⟨hx, hb, hml, hown, hts⟩ (c_X5_rateAsThing l D cI cC cZ cS a b hf tr de ea u (tc + (10 : Int64)) t n hn h7 ti) (cwV 1 hts gX5_rateAsCalf_X5_rateAsThing rfl rfl rfl (by decide +kernel) ⟨Nat.le_of_ble_eq_true rfl, Nat.le_of_ble_eq_true rfl⟩) (preV_of hPc hDc hE (va_recv hK hPc (ci := 5) (q0 := 0) rfl rfl)) rfl rfl hl.1 rfl (lv_room (Nat.le_of_ble_eq_true rfl)) dX5_rateAsCalf_14 ⟨Nat.zero_le _, Nat.zero_le _⟩) hP hD hS [0, 1, 2, 3, 4, 5] rfl wXC_ad (fun H locs hP hD hS => ?_)
  have hP : va_P D vwCl (wXC cI cC cZ cS a b hf tr de ea u ((d_X5_rateAsThing de (tc + (10 : Int64)) t).2)) H := hP
  have hD : va_D A (wXC cI cC cZ cS a b hf tr de ea u ((d_X5_rateAsThing de (tc + (10 : Int64)) t).2)) := hD
  refine W.eq (g2 := F0 m 17 ls [.int ((d_X5_rateAsThing de (tc + (10 : Int64)) t).1)]) rfl ?_
  refine opq (d_X5_rateAsThing de (tc + (10 : Int64)) t) (fun r_1 hr_1 => ?_)
  try rw [hr_1] at hP
  try rw [hr_1] at hD
  try rw [hr_1] at hres
  try rw [hr_1]
  refine lv_aload_n hx hb dX5_rateAsCalf_17 rfl (lv_at hl 0 rfl) ?_
  refine va_get (D := D) (ci := 5) (v := .ref (a 1)) (C := RX5) (T := TX5) (N := 10) hx hb hts hinX5 hown hK hP 0 rfl rfl 0 (by decide) (hts (.fieldLink RX5 10 "FirstOut" "home" "LFirstOut$House;") (by decide +kernel)) (fun _ h9 => h9) rfl dX5_rateAsCalf_18 ?_
  refine va_get (D := D) (ci := 0) (v := .ref (a 4)) (C := RX0) (T := TX0) (N := 9) hx hb hts hinX0 hown hK hP 1 rfl rfl 2 (by decide) (hts (.fieldLink RX5 87 "FirstOut$House" "eager" "[I") (by decide +kernel)) (fun _ h9 => h9) rfl dX5_rateAsCalf_21 ?_
  refine lv_iload_n hx hb dX5_rateAsCalf_24 rfl (lv_at hl 1 rfl) ?_
  refine m_iald hx hb hK hP 4 0 rfl rfl t.toNatClampNeg ti.1 (by have := ti.2; omega) (by decide) dX5_rateAsCalf_25 ?_
  refine lv_to (show _ = (ea t.toNatClampNeg) from rfl) ?_
  refine lv_iadd hx hb dX5_rateAsCalf_26 ?_
  rw [hres]
  exact W.iret (v := r_1.1 + (ea t.toNatClampNeg)) hx hb hr (fun t ht hW => ⟨rfl, by rw [ht]; exact hP, by rw [hA]; exact hS.F ht⟩) hS.2.2 dX5_rateAsCalf_27
def d_X5_rateAsChild (tr : Nat → Int32) (de : Nat → Int32) (tc : Int64) (t : Int32) : Int32 × Int64 :=
  (((d_X5_rateAsThing de (tc + (100 : Int64)) t).1) - (d_J6_bitCount_0f7a4 (tr t.toNatClampNeg)), (d_X5_rateAsThing de (tc + (100 : Int64)) t).2)
set_option maxHeartbeats 4000000 in
set_option maxRecDepth 100000 in
theorem c_X5_rateAsChild (l : Launch) (D : va_G) (cI cC cZ cS : ClassId) (a : Nat → Nat) (b : Nat → Nat) (hf : Nat → Int32) (tr : Nat → Int32) (de : Nat → Int32) (ea : Nat → Int32) (u : Nat → Int32) (tc : Int64) (t : Int32) (n : Nat) (hn : hf 3 = nI n) (h7 : n ≤ 7) (ti : t = nI t.toNatClampNeg ∧ t.toNatClampNeg < n) : Met l yX5_rateAsChild wsX5_rateAsChild { frames := 1, cells := 0, slots := 0, locals := 21 } (PcE D cI cC cZ cS [.ref (a 0), .int t] (wXC cI cC cZ cS a b hf tr de ea u tc)) (QcM (some (.int ((d_X5_rateAsChild tr de tc t).1))) D (wXC cI cC cZ cS a b hf tr de ea u tc) (wXC cI cC cZ cS a b hf tr de ea u ((d_X5_rateAsChild tr de tc t).2))) 0 0 (inW (wXC cI cC cZ cS a b hf tr de ea u tc)) := by
  refine Met.ofW (cc := cX5_rateAsChild) (maxL := 2) (ret := (some .int)) (by decide) rfl ?_
  intro p e s m args below meth c s₁ B hml hv
  obtain ⟨rfl, hP, hD, hE⟩ := hv
  have hK := hE.1
  have hx := B.exec
  have hb := B.bytes
  have hr := B.returns
  have hts := atoms_spec (ws := wsX5_rateAsChild) B.pre
  have hown : s.vm.findClass RX5 = some m.cls := findClass_of_methodNamed B.named
  have hlocks := B.notSynchronized
  have hinX5 : ∀ w ∈ wsX50, w ∈ wsX5_rateAsChild := by decide +kernel
  have hinX0 : ∀ w ∈ wsX00, w ∈ wsX5_rateAsChild := by decide +kernel
  have hD := inW_self hD
  have hS : va_S (inW (wXC cI cC cZ cS a b hf tr de ea u tc)) s.heap s.heap [] := va_S.rf
  generalize hA : inW (wXC cI cC cZ cS a b hf tr de ea u tc) = A at hD hS ⊢
  refine opq (d_X5_rateAsChild tr de tc t) (fun R hres => ?_)
  rw [hres]
  replace hres := hres.symm
  rw [d_X5_rateAsChild] at hres
  have hl := lv_entry ([.ref (a 0), .int t]) (n := 2) (Nat.le_of_ble_eq_true rfl)
  rw [lg_entry_eq]
  generalize (lg_sl ([.ref (a 0), .int t]) ++ List.replicate (2 - (lg_sl ([.ref (a 0), .int t])).length) Slot.unset).toArray = ls at hl ⊢
  have hl : lv_has ls 2 [(0, .ref (a 0)), (1, .int t)] := hl
  refine lv_aload_n hx hb dX5_rateAsChild_0 rfl (lv_at hl 0 rfl) ?_
  refine lv_dup hx hb dX5_rateAsChild_1 rfl ?_
  refine va_get (D := D) (ci := 5) (v := .long tc) (C := RX5) (T := TX5) (N := 10) hx hb hts hinX5 hown hK hP 0 rfl rfl 9 (by decide) (hts (.fieldLink RX5 58 "FirstOut" "traced" "J") (by decide +kernel)) (fun _ h9 => h9) rfl dX5_rateAsChild_2 ?_
  refine lv_ldc2 hx hb hown (hts (.constantLong RX5 237 (100)) (by decide +kernel)) dX5_rateAsChild_5 ?_
  refine lv_ladd hx hb dX5_rateAsChild_8 ?_
  refine va_put (D := D) (ci := 5) (v := .long (tc + (100 : Int64))) (ty := .long) (C := RX5) (T := TX5) (N := 10) hx hb hts hinX5 tyX5 tyX5_ok nmX5 hown hK hP hD hS 0 rfl rfl 9 (by decide) (hts (.fieldLink RX5 58 "FirstOut" "traced" "J") (by decide +kernel)) (fun _ h9 => h9) rfl (by decide +kernel) rfl rfl (Nat.le_of_ble_eq_true rfl) dX5_rateAsChild_9 (fun H locs hP hD hS => ?_)
  have hP : va_P D vwCl (wXC cI cC cZ cS a b hf tr de ea u (tc + (100 : Int64))) H := hP
  have hD : va_D A (wXC cI cC cZ cS a b hf tr de ea u (tc + (100 : Int64))) := hD
  refine lv_aload_n hx hb dX5_rateAsChild_12 rfl (lv_at hl 0 rfl) ?_
  refine lv_iload_n hx hb dX5_rateAsChild_13 rfl (lv_at hl 1 rfl) ?_
  have hPc := hP.sub (ws' := (wXC cI cC cZ cS a b hf tr de ea u (tc + (100 : Int64)))) [0, 1, 2, 3, 4, 5] rfl
  have hDc := hD.sub (ws' := (wXC cI cC cZ cS a b hf tr de ea u (tc + (100 : Int64)))) [0, 1, 2, 3, 4, 5] (by decide) rfl
  refine m_callM (W.runV (As := [.int t]) (rest := []) ⟨hx, hb, hml, hown, hts⟩ (c_X5_rateAsThing l D cI cC cZ cS a b hf tr de ea u (tc + (100 : Int64)) t n hn h7 ti) (cwV 1 hts gX5_rateAsChild_X5_rateAsThing rfl rfl rfl (by decide +kernel) ⟨Nat.le_of_ble_eq_true rfl, Nat.le_of_ble_eq_true rfl⟩) (preV_of hPc hDc hE (va_recv hK hPc (ci := 5) (q0 := 0) rfl rfl)) rfl rfl hl.1 rfl (lv_room (Nat.le_of_ble_eq_true rfl)) dX5_rateAsChild_14 ⟨Nat.zero_le _, Nat.zero_le _⟩) hP hD hS [0, 1, 2, 3, 4, 5] rfl wXC_ad (fun H locs hP hD hS => ?_)
  have hP : va_P D vwCl (wXC cI cC cZ cS a b hf tr de ea u ((d_X5_rateAsThing de (tc + (100 : Int64)) t).2)) H := hP
  have hD : va_D A (wXC cI cC cZ cS a b hf tr de ea u ((d_X5_rateAsThing de (tc + (100 : Int64)) t).2)) := hD
  refine W.eq (g2 := F0 m 17 ls [.int ((d_X5_rateAsThing de (tc + (100 : Int64)) t).1)]) rfl ?_
  refine opq (d_X5_rateAsThing de (tc + (100 : Int64)) t) (fun r_1 hr_1 => ?_)
  try rw [hr_1] at hP
  try rw [hr_1] at hD
  try rw [hr_1] at hres
  try rw [hr_1]
  refine lv_aload_n hx hb dX5_rateAsChild_17 rfl (lv_at hl 0 rfl) ?_
  refine va_get (D := D) (ci := 5) (v := .ref (a 1)) (C := RX5) (T := TX5) (N := 10) hx hb hts hinX5 hown hK hP 0 rfl rfl 0 (by decide) (hts (.fieldLink RX5 10 "FirstOut" "home" "LFirstOut$House;") (by decide +kernel)) (fun _ h9 => h9) rfl dX5_rateAsChild_18 ?_
  refine va_get (D := D) (ci := 0) (v := .ref (a 2)) (C := RX0) (T := TX0) (N := 9) hx hb hts hinX0 hown hK hP 1 rfl rfl 0 (by decide) (hts (.fieldLink RX5 80 "FirstOut$House" "traits" "[I") (by decide +kernel)) (fun _ h9 => h9) rfl dX5_rateAsChild_21 ?_
  refine lv_iload_n hx hb dX5_rateAsChild_24 rfl (lv_at hl 1 rfl) ?_
  refine m_iald hx hb hK hP 2 0 rfl rfl t.toNatClampNeg ti.1 (by have := ti.2; omega) (by decide) dX5_rateAsChild_25 ?_
  refine lv_to (show _ = (tr t.toNatClampNeg) from rfl) ?_
  have hPc := hP.sub (ws' := []) [] rfl
  have hDc := hD.sub (ws' := []) [] (by decide) rfl
  refine m_callR (W.runS (As := [.int (tr t.toNatClampNeg)]) (rest := [.int r_1.1]) ⟨hx, hb, hml, hown, hts⟩ (c_J6_bitCount_0f7a4 l D cI cC cZ cS (tr t.toNatClampNeg)) (va_cwS 1 hts gX5_rateAsChild_J6_bitCount_0f7a4 rfl rfl rfl (by decide +kernel) ⟨Nat.le_of_ble_eq_true rfl, Nat.le_of_ble_eq_true rfl⟩) (preS_of hPc hDc hE) rfl rfl hl.1 rfl (lv_room (Nat.le_of_ble_eq_true rfl)) dX5_rateAsChild_26 ⟨Nat.zero_le _, Nat.zero_le _⟩) ?_
  refine W.eq (g2 := F0 m 29 ls [.int (d_J6_bitCount_0f7a4 (tr t.toNatClampNeg)), .int r_1.1]) rfl ?_
  refine lv_isub hx hb dX5_rateAsChild_29 ?_
  rw [hres]
  exact W.iret (v := r_1.1 - (d_J6_bitCount_0f7a4 (tr t.toNatClampNeg))) hx hb hr (fun t ht hW => ⟨rfl, by rw [ht]; exact hP, by rw [hA]; exact hS.F ht⟩) hS.2.2 dX5_rateAsChild_30
def d_X5_rateAsDog (de : Nat → Int32) (ea : Nat → Int32) (tc : Int64) (t : Int32) : Int32 × Int64 :=
  ((2 : Int32) * ((d_X5_rateAsCalf de ea (tc + (1000 : Int64)) t).1), (d_X5_rateAsCalf de ea (tc + (1000 : Int64)) t).2)
set_option maxHeartbeats 4000000 in
set_option maxRecDepth 100000 in
theorem c_X5_rateAsDog (l : Launch) (D : va_G) (cI cC cZ cS : ClassId) (a : Nat → Nat) (b : Nat → Nat) (hf : Nat → Int32) (tr : Nat → Int32) (de : Nat → Int32) (ea : Nat → Int32) (u : Nat → Int32) (tc : Int64) (t : Int32) (n : Nat) (hn : hf 3 = nI n) (h7 : n ≤ 7) (ti : t = nI t.toNatClampNeg ∧ t.toNatClampNeg < n) : Met l yX5_rateAsDog wsX5_rateAsDog { frames := 2, cells := 0, slots := 0, locals := 42 } (PcE D cI cC cZ cS [.ref (a 0), .int t] (wXC cI cC cZ cS a b hf tr de ea u tc)) (QcM (some (.int ((d_X5_rateAsDog de ea tc t).1))) D (wXC cI cC cZ cS a b hf tr de ea u tc) (wXC cI cC cZ cS a b hf tr de ea u ((d_X5_rateAsDog de ea tc t).2))) 0 0 (inW (wXC cI cC cZ cS a b hf tr de ea u tc)) := by
  refine Met.ofW (cc := cX5_rateAsDog) (maxL := 2) (ret := (some .int)) (by decide) rfl ?_
  intro p e s m args below meth c s₁ B hml hv
  obtain ⟨rfl, hP, hD, hE⟩ := hv
  have hK := hE.1
  have hx := B.exec
  have hb := B.bytes
  have hr := B.returns
  have hts := atoms_spec (ws := wsX5_rateAsDog) B.pre
  have hown : s.vm.findClass RX5 = some m.cls := findClass_of_methodNamed B.named
  have hlocks := B.notSynchronized
  have hinX5 : ∀ w ∈ wsX50, w ∈ wsX5_rateAsDog := by decide +kernel
  have hD := inW_self hD
  have hS : va_S (inW (wXC cI cC cZ cS a b hf tr de ea u tc)) s.heap s.heap [] := va_S.rf
  generalize hA : inW (wXC cI cC cZ cS a b hf tr de ea u tc) = A at hD hS ⊢
  refine opq (d_X5_rateAsDog de ea tc t) (fun R hres => ?_)
  rw [hres]
  replace hres := hres.symm
  rw [d_X5_rateAsDog] at hres
  have hl := lv_entry ([.ref (a 0), .int t]) (n := 2) (Nat.le_of_ble_eq_true rfl)
  rw [lg_entry_eq]
  generalize (lg_sl ([.ref (a 0), .int t]) ++ List.replicate (2 - (lg_sl ([.ref (a 0), .int t])).length) Slot.unset).toArray = ls at hl ⊢
  have hl : lv_has ls 2 [(0, .ref (a 0)), (1, .int t)] := hl
  refine lv_aload_n hx hb dX5_rateAsDog_0 rfl (lv_at hl 0 rfl) ?_
  refine lv_dup hx hb dX5_rateAsDog_1 rfl ?_
  refine va_get (D := D) (ci := 5) (v := .long tc) (C := RX5) (T := TX5) (N := 10) hx hb hts hinX5 hown hK hP 0 rfl rfl 9 (by decide) (hts (.fieldLink RX5 58 "FirstOut" "traced" "J") (by decide +kernel)) (fun _ h9 => h9) rfl dX5_rateAsDog_2 ?_
  refine lv_ldc2 hx hb hown (hts (.constantLong RX5 239 (1000)) (by decide +kernel)) dX5_rateAsDog_5 ?_
  refine lv_ladd hx hb dX5_rateAsDog_8 ?_
  refine va_put (D := D) (ci := 5) (v := .long (tc + (1000 : Int64))) (ty := .long) (C := RX5) (T := TX5) (N := 10) hx hb hts hinX5 tyX5 tyX5_ok nmX5 hown hK hP hD hS 0 rfl rfl 9 (by decide) (hts (.fieldLink RX5 58 "FirstOut" "traced" "J") (by decide +kernel)) (fun _ h9 => h9) rfl (by decide +kernel) rfl rfl (Nat.le_of_ble_eq_true rfl) dX5_rateAsDog_9 (fun H locs hP hD hS => ?_)
  have hP : va_P D vwCl (wXC cI cC cZ cS a b hf tr de ea u (tc + (1000 : Int64))) H := hP
  have hD : va_D A (wXC cI cC cZ cS a b hf tr de ea u (tc + (1000 : Int64))) := hD
  refine lv_iconst (v := 2) hx hb dX5_rateAsDog_12 (by decide) ?_
  refine lv_aload_n hx hb dX5_rateAsDog_13 rfl (lv_at hl 0 rfl) ?_
  refine lv_iload_n hx hb dX5_rateAsDog_14 rfl (lv_at hl 1 rfl) ?_
  have hPc := hP.sub (ws' := (wXC cI cC cZ cS a b hf tr de ea u (tc + (1000 : Int64)))) [0, 1, 2, 3, 4, 5] rfl
  have hDc := hD.sub (ws' := (wXC cI cC cZ cS a b hf tr de ea u (tc + (1000 : Int64)))) [0, 1, 2, 3, 4, 5] (by decide) rfl
  refine m_callM (W.runV (As := [.int t]) (rest := [.int 2]) ⟨hx, hb, hml, hown, hts⟩ (c_X5_rateAsCalf l D cI cC cZ cS a b hf tr de ea u (tc + (1000 : Int64)) t n hn h7 ti) (cwV 1 hts gX5_rateAsDog_X5_rateAsCalf rfl rfl rfl (by decide +kernel) ⟨Nat.le_of_ble_eq_true rfl, Nat.le_of_ble_eq_true rfl⟩) (preV_of hPc hDc hE (va_recv hK hPc (ci := 5) (q0 := 0) rfl rfl)) rfl rfl hl.1 rfl (lv_room (Nat.le_of_ble_eq_true rfl)) dX5_rateAsDog_15 ⟨Nat.zero_le _, Nat.zero_le _⟩) hP hD hS [0, 1, 2, 3, 4, 5] rfl wXC_ad (fun H locs hP hD hS => ?_)
  have hP : va_P D vwCl (wXC cI cC cZ cS a b hf tr de ea u ((d_X5_rateAsCalf de ea (tc + (1000 : Int64)) t).2)) H := hP
  have hD : va_D A (wXC cI cC cZ cS a b hf tr de ea u ((d_X5_rateAsCalf de ea (tc + (1000 : Int64)) t).2)) := hD
  refine W.eq (g2 := F0 m 18 ls [.int ((d_X5_rateAsCalf de ea (tc + (1000 : Int64)) t).1), .int 2]) rfl ?_
  refine opq (d_X5_rateAsCalf de ea (tc + (1000 : Int64)) t) (fun r_1 hr_1 => ?_)
  try rw [hr_1] at hP
  try rw [hr_1] at hD
  try rw [hr_1] at hres
  try rw [hr_1]
  refine lv_imul hx hb dX5_rateAsDog_18 ?_
  rw [hres]
  exact W.iret (v := (2 : Int32) * r_1.1) hx hb hr (fun t ht hW => ⟨rfl, by rw [ht]; exact hP, by rw [hA]; exact hS.F ht⟩) hS.2.2 dX5_rateAsDog_19
def d_X5_rateAsDrum (tr : Nat → Int32) (de : Nat → Int32) (tc : Int64) (t : Int32) : Int32 × Int64 :=
  (((d_X5_rateAsChild tr de (tc + (10000 : Int64)) t).1) + t, (d_X5_rateAsChild tr de (tc + (10000 : Int64)) t).2)
set_option maxHeartbeats 4000000 in
set_option maxRecDepth 100000 in
theorem c_X5_rateAsDrum (l : Launch) (D : va_G) (cI cC cZ cS : ClassId) (a : Nat → Nat) (b : Nat → Nat) (hf : Nat → Int32) (tr : Nat → Int32) (de : Nat → Int32) (ea : Nat → Int32) (u : Nat → Int32) (tc : Int64) (t : Int32) (n : Nat) (hn : hf 3 = nI n) (h7 : n ≤ 7) (ti : t = nI t.toNatClampNeg ∧ t.toNatClampNeg < n) : Met l yX5_rateAsDrum wsX5_rateAsDrum { frames := 2, cells := 0, slots := 0, locals := 42 } (PcE D cI cC cZ cS [.ref (a 0), .int t] (wXC cI cC cZ cS a b hf tr de ea u tc)) (QcM (some (.int ((d_X5_rateAsDrum tr de tc t).1))) D (wXC cI cC cZ cS a b hf tr de ea u tc) (wXC cI cC cZ cS a b hf tr de ea u ((d_X5_rateAsDrum tr de tc t).2))) 0 0 (inW (wXC cI cC cZ cS a b hf tr de ea u tc)) := by
  refine Met.ofW (cc := cX5_rateAsDrum) (maxL := 2) (ret := (some .int)) (by decide) rfl ?_
  intro p e s m args below meth c s₁ B hml hv
  obtain ⟨rfl, hP, hD, hE⟩ := hv
  have hK := hE.1
  have hx := B.exec
  have hb := B.bytes
  have hr := B.returns
  have hts := atoms_spec (ws := wsX5_rateAsDrum) B.pre
  have hown : s.vm.findClass RX5 = some m.cls := findClass_of_methodNamed B.named
  have hlocks := B.notSynchronized
  have hinX5 : ∀ w ∈ wsX50, w ∈ wsX5_rateAsDrum := by decide +kernel
  have hD := inW_self hD
  have hS : va_S (inW (wXC cI cC cZ cS a b hf tr de ea u tc)) s.heap s.heap [] := va_S.rf
  generalize hA : inW (wXC cI cC cZ cS a b hf tr de ea u tc) = A at hD hS ⊢
  refine opq (d_X5_rateAsDrum tr de tc t) (fun R hres => ?_)
  rw [hres]
  replace hres := hres.symm
  rw [d_X5_rateAsDrum] at hres
  have hl := lv_entry ([.ref (a 0), .int t]) (n := 2) (Nat.le_of_ble_eq_true rfl)
  rw [lg_entry_eq]
  generalize (lg_sl ([.ref (a 0), .int t]) ++ List.replicate (2 - (lg_sl ([.ref (a 0), .int t])).length) Slot.unset).toArray = ls at hl ⊢
  have hl : lv_has ls 2 [(0, .ref (a 0)), (1, .int t)] := hl
  refine lv_aload_n hx hb dX5_rateAsDrum_0 rfl (lv_at hl 0 rfl) ?_
  refine lv_dup hx hb dX5_rateAsDrum_1 rfl ?_
  refine va_get (D := D) (ci := 5) (v := .long tc) (C := RX5) (T := TX5) (N := 10) hx hb hts hinX5 hown hK hP 0 rfl rfl 9 (by decide) (hts (.fieldLink RX5 58 "FirstOut" "traced" "J") (by decide +kernel)) (fun _ h9 => h9) rfl dX5_rateAsDrum_2 ?_
  refine lv_ldc2 hx hb hown (hts (.constantLong RX5 241 (10000)) (by decide +kernel)) dX5_rateAsDrum_5 ?_
  refine lv_ladd hx hb dX5_rateAsDrum_8 ?_
  refine va_put (D := D) (ci := 5) (v := .long (tc + (10000 : Int64))) (ty := .long) (C := RX5) (T := TX5) (N := 10) hx hb hts hinX5 tyX5 tyX5_ok nmX5 hown hK hP hD hS 0 rfl rfl 9 (by decide) (hts (.fieldLink RX5 58 "FirstOut" "traced" "J") (by decide +kernel)) (fun _ h9 => h9) rfl (by decide +kernel) rfl rfl (Nat.le_of_ble_eq_true rfl) dX5_rateAsDrum_9 (fun H locs hP hD hS => ?_)
  have hP : va_P D vwCl (wXC cI cC cZ cS a b hf tr de ea u (tc + (10000 : Int64))) H := hP
  have hD : va_D A (wXC cI cC cZ cS a b hf tr de ea u (tc + (10000 : Int64))) := hD
  refine lv_aload_n hx hb dX5_rateAsDrum_12 rfl (lv_at hl 0 rfl) ?_
  refine lv_iload_n hx hb dX5_rateAsDrum_13 rfl (lv_at hl 1 rfl) ?_
  have hPc := hP.sub (ws' := (wXC cI cC cZ cS a b hf tr de ea u (tc + (10000 : Int64)))) [0, 1, 2, 3, 4, 5] rfl
  have hDc := hD.sub (ws' := (wXC cI cC cZ cS a b hf tr de ea u (tc + (10000 : Int64)))) [0, 1, 2, 3, 4, 5] (by decide) rfl
  refine m_callM (W.runV (As := [.int t]) (rest := []) ⟨hx, hb, hml, hown, hts⟩ (c_X5_rateAsChild l D cI cC cZ cS a b hf tr de ea u (tc + (10000 : Int64)) t n hn h7 ti) (cwV 1 hts gX5_rateAsDrum_X5_rateAsChild rfl rfl rfl (by decide +kernel) ⟨Nat.le_of_ble_eq_true rfl, Nat.le_of_ble_eq_true rfl⟩) (preV_of hPc hDc hE (va_recv hK hPc (ci := 5) (q0 := 0) rfl rfl)) rfl rfl hl.1 rfl (lv_room (Nat.le_of_ble_eq_true rfl)) dX5_rateAsDrum_14 ⟨Nat.zero_le _, Nat.zero_le _⟩) hP hD hS [0, 1, 2, 3, 4, 5] rfl wXC_ad (fun H locs hP hD hS => ?_)
  have hP : va_P D vwCl (wXC cI cC cZ cS a b hf tr de ea u ((d_X5_rateAsChild tr de (tc + (10000 : Int64)) t).2)) H := hP
  have hD : va_D A (wXC cI cC cZ cS a b hf tr de ea u ((d_X5_rateAsChild tr de (tc + (10000 : Int64)) t).2)) := hD
  refine W.eq (g2 := F0 m 17 ls [.int ((d_X5_rateAsChild tr de (tc + (10000 : Int64)) t).1)]) rfl ?_
  refine opq (d_X5_rateAsChild tr de (tc + (10000 : Int64)) t) (fun r_1 hr_1 => ?_)
  try rw [hr_1] at hP
  try rw [hr_1] at hD
  try rw [hr_1] at hres
  try rw [hr_1]
  refine lv_iload_n hx hb dX5_rateAsDrum_17 rfl (lv_at hl 1 rfl) ?_
  refine lv_iadd hx hb dX5_rateAsDrum_18 ?_
  rw [hres]
  exact W.iret (v := r_1.1 + t) hx hb hr (fun t ht hW => ⟨rfl, by rw [ht]; exact hP, by rw [hA]; exact hS.F ht⟩) hS.2.2 dX5_rateAsDrum_19
def d_X5_rateAsPriest (de : Nat → Int32) (u : Nat → Int32) (tc : Int64) (t : Int32) : Int32 × Int64 :=
  (((d_X5_rateAsThing de (tc + (100000 : Int64)) t).1) + (u 4), (d_X5_rateAsThing de (tc + (100000 : Int64)) t).2)
set_option maxHeartbeats 4000000 in
set_option maxRecDepth 100000 in
theorem c_X5_rateAsPriest (l : Launch) (D : va_G) (cI cC cZ cS : ClassId) (a : Nat → Nat) (b : Nat → Nat) (hf : Nat → Int32) (tr : Nat → Int32) (de : Nat → Int32) (ea : Nat → Int32) (u : Nat → Int32) (tc : Int64) (t : Int32) (n : Nat) (hn : hf 3 = nI n) (h7 : n ≤ 7) (ti : t = nI t.toNatClampNeg ∧ t.toNatClampNeg < n) : Met l yX5_rateAsPriest wsX5_rateAsPriest { frames := 1, cells := 0, slots := 0, locals := 21 } (PcE D cI cC cZ cS [.ref (a 0), .int t] (wXC cI cC cZ cS a b hf tr de ea u tc)) (QcM (some (.int ((d_X5_rateAsPriest de u tc t).1))) D (wXC cI cC cZ cS a b hf tr de ea u tc) (wXC cI cC cZ cS a b hf tr de ea u ((d_X5_rateAsPriest de u tc t).2))) 0 0 (inW (wXC cI cC cZ cS a b hf tr de ea u tc)) := by
  refine Met.ofW (cc := cX5_rateAsPriest) (maxL := 2) (ret := (some .int)) (by decide) rfl ?_
  intro p e s m args below meth c s₁ B hml hv
  obtain ⟨rfl, hP, hD, hE⟩ := hv
  have hK := hE.1
  have hx := B.exec
  have hb := B.bytes
  have hr := B.returns
  have hts := atoms_spec (ws := wsX5_rateAsPriest) B.pre
  have hown : s.vm.findClass RX5 = some m.cls := findClass_of_methodNamed B.named
  have hlocks := B.notSynchronized
  have hinX5 : ∀ w ∈ wsX50, w ∈ wsX5_rateAsPriest := by decide +kernel
  have hinX3 : ∀ w ∈ wsX30, w ∈ wsX5_rateAsPriest := by decide +kernel
  have hD := inW_self hD
  have hS : va_S (inW (wXC cI cC cZ cS a b hf tr de ea u tc)) s.heap s.heap [] := va_S.rf
  generalize hA : inW (wXC cI cC cZ cS a b hf tr de ea u tc) = A at hD hS ⊢
  refine opq (d_X5_rateAsPriest de u tc t) (fun R hres => ?_)
  rw [hres]
  replace hres := hres.symm
  rw [d_X5_rateAsPriest] at hres
  have hl := lv_entry ([.ref (a 0), .int t]) (n := 2) (Nat.le_of_ble_eq_true rfl)
  rw [lg_entry_eq]
  generalize (lg_sl ([.ref (a 0), .int t]) ++ List.replicate (2 - (lg_sl ([.ref (a 0), .int t])).length) Slot.unset).toArray = ls at hl ⊢
  have hl : lv_has ls 2 [(0, .ref (a 0)), (1, .int t)] := hl
  refine lv_aload_n hx hb dX5_rateAsPriest_0 rfl (lv_at hl 0 rfl) ?_
  refine lv_dup hx hb dX5_rateAsPriest_1 rfl ?_
  refine va_get (D := D) (ci := 5) (v := .long tc) (C := RX5) (T := TX5) (N := 10) hx hb hts hinX5 hown hK hP 0 rfl rfl 9 (by decide) (hts (.fieldLink RX5 58 "FirstOut" "traced" "J") (by decide +kernel)) (fun _ h9 => h9) rfl dX5_rateAsPriest_2 ?_
  refine lv_ldc2 hx hb hown (hts (.constantLong RX5 243 (100000)) (by decide +kernel)) dX5_rateAsPriest_5 ?_
  refine lv_ladd hx hb dX5_rateAsPriest_8 ?_
  refine va_put (D := D) (ci := 5) (v := .long (tc + (100000 : Int64))) (ty := .long) (C := RX5) (T := TX5) (N := 10) hx hb hts hinX5 tyX5 tyX5_ok nmX5 hown hK hP hD hS 0 rfl rfl 9 (by decide) (hts (.fieldLink RX5 58 "FirstOut" "traced" "J") (by decide +kernel)) (fun _ h9 => h9) rfl (by decide +kernel) rfl rfl (Nat.le_of_ble_eq_true rfl) dX5_rateAsPriest_9 (fun H locs hP hD hS => ?_)
  have hP : va_P D vwCl (wXC cI cC cZ cS a b hf tr de ea u (tc + (100000 : Int64))) H := hP
  have hD : va_D A (wXC cI cC cZ cS a b hf tr de ea u (tc + (100000 : Int64))) := hD
  refine lv_aload_n hx hb dX5_rateAsPriest_12 rfl (lv_at hl 0 rfl) ?_
  refine lv_iload_n hx hb dX5_rateAsPriest_13 rfl (lv_at hl 1 rfl) ?_
  have hPc := hP.sub (ws' := (wXC cI cC cZ cS a b hf tr de ea u (tc + (100000 : Int64)))) [0, 1, 2, 3, 4, 5] rfl
  have hDc := hD.sub (ws' := (wXC cI cC cZ cS a b hf tr de ea u (tc + (100000 : Int64)))) [0, 1, 2, 3, 4, 5] (by decide) rfl
  refine m_callM (W.runV (As := [.int t]) (rest := []) ⟨hx, hb, hml, hown, hts⟩ (c_X5_rateAsThing l D cI cC cZ cS a b hf tr de ea u (tc + (100000 : Int64)) t n hn h7 ti) (cwV 1 hts gX5_rateAsPriest_X5_rateAsThing rfl rfl rfl (by decide +kernel) ⟨Nat.le_of_ble_eq_true rfl, Nat.le_of_ble_eq_true rfl⟩) (preV_of hPc hDc hE (va_recv hK hPc (ci := 5) (q0 := 0) rfl rfl)) rfl rfl hl.1 rfl (lv_room (Nat.le_of_ble_eq_true rfl)) dX5_rateAsPriest_14 ⟨Nat.zero_le _, Nat.zero_le _⟩) hP hD hS [0, 1, 2, 3, 4, 5] rfl wXC_ad (fun H locs hP hD hS => ?_)
  have hP : va_P D vwCl (wXC cI cC cZ cS a b hf tr de ea u ((d_X5_rateAsThing de (tc + (100000 : Int64)) t).2)) H := hP
  have hD : va_D A (wXC cI cC cZ cS a b hf tr de ea u ((d_X5_rateAsThing de (tc + (100000 : Int64)) t).2)) := hD
  refine W.eq (g2 := F0 m 17 ls [.int ((d_X5_rateAsThing de (tc + (100000 : Int64)) t).1)]) rfl ?_
  refine opq (d_X5_rateAsThing de (tc + (100000 : Int64)) t) (fun r_1 hr_1 => ?_)
  try rw [hr_1] at hP
  try rw [hr_1] at hD
  try rw [hr_1] at hres
  try rw [hr_1]
  refine lv_aload_n hx hb dX5_rateAsPriest_17 rfl (lv_at hl 0 rfl) ?_
  refine va_get (D := D) (ci := 5) (v := .ref (b 12)) (C := RX5) (T := TX5) (N := 10) hx hb hts hinX5 hown hK hP 0 rfl rfl 3 (by decide) (hts (.fieldLink RX5 29 "FirstOut" "current" "LFirstOut$Standing;") (by decide +kernel)) (fun _ h9 => h9) rfl dX5_rateAsPriest_18 ?_
  refine va_get (D := D) (ci := 3) (v := .int (u 4)) (C := RX3) (T := TX3) (N := 5) hx hb hts hinX3 hown hK hP 5 rfl rfl 4 (by decide) (hts (.fieldLink RX5 110 "FirstOut$Standing" "date" "I") (by decide +kernel)) (fun _ h9 => h9) rfl dX5_rateAsPriest_21 ?_
  refine lv_iadd hx hb dX5_rateAsPriest_24 ?_
  rw [hres]
  exact W.iret (v := r_1.1 + (u 4)) hx hb hr (fun t ht hW => ⟨rfl, by rw [ht]; exact hP, by rw [hA]; exact hS.F ht⟩) hS.2.2 dX5_rateAsPriest_25
