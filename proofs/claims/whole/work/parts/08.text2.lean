theorem rn_TX {tf le : Nat → Int32} {len : Nat} {most : Int32} (h0 : TX tf len) : TX (d_X4_readNumber tf le most len).2 len := by
  have h1 : TX (d_X4_skipBlanks tf le) len := skip_TX h0
  have hj : ∀ (j : Nat) (v : Int32), j ≤ len → TX (jn_X4_readNumber_68 tf le most len j v).2 len := by
    intro j v hj
    have h2 := h1.set (x := nI j) rfl hj
    rw [jn_X4_readNumber_68]
    split
    · split
      · exact h1
      · split
        · exact h2
        · exact h1
    · split
      · split
        · exact h1
        · exact h1
      · split
        · exact h1
        · split
          · exact h2
          · exact h1
  have h : ∀ (k j : Nat) (v : Int32), j ≤ len → TX (lp_X4_readNumber_11 tf le most len k j v).2 len := by
    intro k
    induction k with
    | zero => intro j v _; exact h0
    | succ k ih =>
      intro j v hl
      rw [lp_X4_readNumber_11]
      by_cases c : nI len ≤ nI j
      · rw [if_pos c]; exact hj j v hl
      · rw [if_neg c]
        have hlt := nlt_of c (by have := h0.2.1; omega) (by have := h0.2.1; omega)
        split
        · exact hj j v hl
        · split
          · exact hj j v hl
          · exact ih _ _ hlt
  exact h _ _ _ h1.le.2
def d_X4_readEnd (tf : Nat → Int32) (le : Nat → Int32) : Int32 × (Nat → Int32) :=
  if ((d_X4_skipBlanks tf le) 1) ≤ ((d_X4_skipBlanks tf le) 2) then
      (0, (d_X4_skipBlanks tf le))
    else
      if (le (((d_X4_skipBlanks tf le) 2).toNatClampNeg)) = (59 : Int32) then
        (1, (upd (d_X4_skipBlanks tf le) 2 (((d_X4_skipBlanks tf le) 2) + (1 : Int32))))
      else
        (0, (d_X4_skipBlanks tf le))
set_option maxHeartbeats 4000000 in
set_option maxRecDepth 100000 in
theorem c_X4_readEnd (l : Launch) (D : va_G) (cI cC cZ cS : ClassId) (xA : Nat) (lA : Nat) (tf : Nat → Int32) (le : Nat → Int32) (len : Nat) (ht : TX tf len) : Met l yX4_readEnd wsX4_readEnd { frames := 1, cells := 0, slots := 0, locals := 20 } (PcE D cI cC cZ cS [.ref xA] (wT cI cC cZ cS xA lA tf le)) (QcM (some (.int ((d_X4_readEnd tf le).1))) D (wT cI cC cZ cS xA lA tf le) (wT cI cC cZ cS xA lA ((d_X4_readEnd tf le).2) le)) 0 0 (inW (wT cI cC cZ cS xA lA tf le)) := by
  refine Met.ofW (cc := cX4_readEnd) (maxL := 1) (ret := (some .boolean)) (by decide) rfl ?_
  intro p e s m args below meth c s₁ B hml hv
  obtain ⟨rfl, hP, hD, hE⟩ := hv
  have hK := hE.1
  have hx := B.exec
  have hb := B.bytes
  have hr := B.returns
  have hts := atoms_spec (ws := wsX4_readEnd) B.pre
  have hown : s.vm.findClass RX4 = some m.cls := findClass_of_methodNamed B.named
  have hlocks := B.notSynchronized
  have hinX4 : ∀ w ∈ wsX40, w ∈ wsX4_readEnd := by decide +kernel
  have hD := inW_self hD
  have hS : va_S (inW (wT cI cC cZ cS xA lA tf le)) s.heap s.heap [] := va_S.rf
  generalize hA : inW (wT cI cC cZ cS xA lA tf le) = A at hD hS ⊢
  refine opq (d_X4_readEnd tf le) (fun R hres => ?_)
  rw [hres]
  replace hres := hres.symm
  rw [d_X4_readEnd] at hres
  have hl := lv_entry ([.ref xA]) (n := 1) (Nat.le_of_ble_eq_true rfl)
  rw [lg_entry_eq]
  generalize (lg_sl ([.ref xA]) ++ List.replicate (1 - (lg_sl ([.ref xA])).length) Slot.unset).toArray = ls at hl ⊢
  have hl : lv_has ls 1 [(0, .ref xA)] := hl
  refine lv_aload_n hx hb dX4_readEnd_0 rfl (lv_at hl 0 rfl) ?_
  have hPc := hP.sub (ws' := (wT cI cC cZ cS xA lA tf le)) [0, 1] rfl
  have hDc := hD.sub (ws' := (wT cI cC cZ cS xA lA tf le)) [0, 1] (by decide) rfl
  refine m_callM (W.runV (As := []) (rest := []) ⟨hx, hb, hml, hown, hts⟩ (c_X4_skipBlanks l D cI cC cZ cS xA lA tf le len ht) (cwV 0 hts gX4_readEnd_X4_skipBlanks rfl rfl rfl (by decide +kernel) ⟨Nat.le_of_ble_eq_true rfl, Nat.le_of_ble_eq_true rfl⟩) (preV_of hPc hDc hE (va_recv hK hPc (ci := 4) (q0 := 0) rfl rfl)) rfl rfl hl.1 rfl (lv_room (Nat.le_of_ble_eq_true rfl)) dX4_readEnd_1 ⟨Nat.zero_le _, Nat.zero_le _⟩) hP hD hS [0, 1] rfl wT_ad (fun H locs hP hD hS => ?_)
  have hP : va_P D vwCl (wT cI cC cZ cS xA lA (d_X4_skipBlanks tf le) le) H := hP
  have hD : va_D A (wT cI cC cZ cS xA lA (d_X4_skipBlanks tf le) le) := hD
  refine W.eq (g2 := F0 m 4 ls []) rfl ?_
  have ht1 : TX (d_X4_skipBlanks tf le) len := skip_TX ht
  refine lv_aload_n hx hb dX4_readEnd_4 rfl (lv_at hl 0 rfl) ?_
  refine va_get (D := D) (ci := 4) (v := .int ((d_X4_skipBlanks tf le) 2)) (C := RX4) (T := TX4) (N := 5) hx hb hts hinX4 hown hK hP 0 rfl rfl 2 (by decide) (hts (.fieldLink RX4 24 "FirstOut$Text" "at" "I") (by decide +kernel)) (fun _ h9 => h9) rfl dX4_readEnd_5 ?_
  refine lv_aload_n hx hb dX4_readEnd_8 rfl (lv_at hl 0 rfl) ?_
  refine va_get (D := D) (ci := 4) (v := .int ((d_X4_skipBlanks tf le) 1)) (C := RX4) (T := TX4) (N := 5) hx hb hts hinX4 hown hK hP 0 rfl rfl 1 (by decide) (hts (.fieldLink RX4 15 "FirstOut$Text" "length" "I") (by decide +kernel)) (fun _ h9 => h9) rfl dX4_readEnd_9 ?_
  refine lv_icmp_ge (tgt := 29) hx hb dX4_readEnd_12 (by decide) (fun c_1 => ?_) (fun c_1 => ?_)
  · skip
    rw [if_pos c_1] at hres
    refine lv_iconst (v := 0) hx hb dX4_readEnd_29 (by decide) ?_
    rw [hres]
    exact W.zret (v := 0) hx hb hr rfl (fun t ht hW => ⟨rfl, by rw [ht]; exact hP, by rw [hA]; exact hS.F ht⟩) hS.2.2 dX4_readEnd_30
  · skip
    rw [if_neg c_1] at hres
    have hix := ht1.ix c_1
    refine lv_aload_n hx hb dX4_readEnd_15 rfl (lv_at hl 0 rfl) ?_
    refine va_get (D := D) (ci := 4) (v := .ref lA) (C := RX4) (T := TX4) (N := 5) hx hb hts hinX4 hown hK hP 0 rfl rfl 0 (by decide) (hts (.fieldLink RX4 9 "FirstOut$Text" "letters" "[C") (by decide +kernel)) (fun _ h9 => h9) rfl dX4_readEnd_16 ?_
    refine lv_aload_n hx hb dX4_readEnd_19 rfl (lv_at hl 0 rfl) ?_
    refine va_get (D := D) (ci := 4) (v := .int ((d_X4_skipBlanks tf le) 2)) (C := RX4) (T := TX4) (N := 5) hx hb hts hinX4 hown hK hP 0 rfl rfl 2 (by decide) (hts (.fieldLink RX4 24 "FirstOut$Text" "at" "I") (by decide +kernel)) (fun _ h9 => h9) rfl dX4_readEnd_20 ?_
    refine m_cald hx hb hK hP 1 1 rfl rfl (((d_X4_skipBlanks tf le) 2).toNatClampNeg) hix.1 hix.2.1 (by decide) dX4_readEnd_23 ?_
    refine lv_to (show _ = (le (((d_X4_skipBlanks tf le) 2).toNatClampNeg)) from rfl) ?_
    refine lv_bipush (v := 59) hx hb dX4_readEnd_24 (by decide) ?_
    refine lv_icmp_eq (tgt := 31) hx hb dX4_readEnd_26 (by decide) (fun c_2 => ?_) (fun c_2 => ?_)
    · skip
      rw [if_pos c_2] at hres
      refine lv_aload_n hx hb dX4_readEnd_31 rfl (lv_at hl 0 rfl) ?_
      refine lv_dup hx hb dX4_readEnd_32 rfl ?_
      refine va_get (D := D) (ci := 4) (v := .int ((d_X4_skipBlanks tf le) 2)) (C := RX4) (T := TX4) (N := 5) hx hb hts hinX4 hown hK hP 0 rfl rfl 2 (by decide) (hts (.fieldLink RX4 24 "FirstOut$Text" "at" "I") (by decide +kernel)) (fun _ h9 => h9) rfl dX4_readEnd_33 ?_
      refine lv_iconst (v := 1) hx hb dX4_readEnd_36 (by decide) ?_
      refine lv_iadd hx hb dX4_readEnd_37 ?_
      refine va_put (D := D) (ci := 4) (v := .int (((d_X4_skipBlanks tf le) 2) + (1 : Int32))) (ty := .int) (C := RX4) (T := TX4) (N := 5) hx hb hts hinX4 tyX4 tyX4_ok nmX4 hown hK hP hD hS 0 rfl rfl 2 (by decide) (hts (.fieldLink RX4 24 "FirstOut$Text" "at" "I") (by decide +kernel)) (fun _ h9 => h9) rfl (by decide +kernel) rfl rfl (Nat.le_of_ble_eq_true rfl) dX4_readEnd_38 (fun H locs hP hD hS => ?_)
      have hP : va_P D vwCl (wT cI cC cZ cS xA lA (upd (d_X4_skipBlanks tf le) 2 (((d_X4_skipBlanks tf le) 2) + (1 : Int32))) le) H := hP
      have hD : va_D A (wT cI cC cZ cS xA lA (upd (d_X4_skipBlanks tf le) 2 (((d_X4_skipBlanks tf le) 2) + (1 : Int32))) le) := hD
      refine lv_iconst (v := 1) hx hb dX4_readEnd_41 (by decide) ?_
      rw [hres]
      exact W.zret (v := 1) hx hb hr rfl (fun t ht hW => ⟨rfl, by rw [ht]; exact hP, by rw [hA]; exact hS.F ht⟩) hS.2.2 dX4_readEnd_42
    · skip
      rw [if_neg c_2] at hres
      refine lv_iconst (v := 0) hx hb dX4_readEnd_29 (by decide) ?_
      rw [hres]
      exact W.zret (v := 0) hx hb hr rfl (fun t ht hW => ⟨rfl, by rw [ht]; exact hP, by rw [hA]; exact hS.F ht⟩) hS.2.2 dX4_readEnd_30
theorem re_TX {tf le : Nat → Int32} {len : Nat} (h0 : TX tf len) : TX (d_X4_readEnd tf le).2 len := by
  have h1 : TX (d_X4_skipBlanks tf le) len := skip_TX h0
  rw [d_X4_readEnd]
  split
  · exact h1
  · rename_i c
    split
    · exact (h1.step c).1
    · exact h1
def d_X4_readThing (tf : Nat → Int32) (le : Nat → Int32) (hf : Nat → Int32) (tr : Nat → Int32) (de : Nat → Int32) (ea : Nat → Int32) (len : Nat) (n : Nat) : Int32 × (Nat → Int32) × (Nat → Int32) × (Nat → Int32) × (Nat → Int32) × (Nat → Int32) :=
  if 0 ≤ ((d_X4_readNumber (upd tf 2 ((tf 2) + (1 : Int32))) le 31 len).1) then
      if 0 ≤ ((d_X4_readNumber ((d_X4_readNumber (upd tf 2 ((tf 2) + (1 : Int32))) le 31 len).2) le 99 len).1) then
        if 0 ≤ ((d_X4_readNumber ((d_X4_readNumber ((d_X4_readNumber (upd tf 2 ((tf 2) + (1 : Int32))) le 31 len).2) le 99 len).2) le 9 len).1) then
          if ((d_X4_readNumber ((d_X4_readNumber ((d_X4_readNumber ((d_X4_readNumber (upd tf 2 ((tf 2) + (1 : Int32))) le 31 len).2) le 99 len).2) le 9 len).2) le 1 len).1) < 0 then
            (0, ((d_X4_readNumber ((d_X4_readNumber ((d_X4_readNumber ((d_X4_readNumber (upd tf 2 ((tf 2) + (1 : Int32))) le 31 len).2) le 99 len).2) le 9 len).2) le 1 len).2), hf, tr, de, ea)
          else
            if ((d_X4_readEnd ((d_X4_readNumber ((d_X4_readNumber ((d_X4_readNumber ((d_X4_readNumber (upd tf 2 ((tf 2) + (1 : Int32))) le 31 len).2) le 99 len).2) le 9 len).2) le 1 len).2) le).1) = 0 then
              (0, ((d_X4_readEnd ((d_X4_readNumber ((d_X4_readNumber ((d_X4_readNumber ((d_X4_readNumber (upd tf 2 ((tf 2) + (1 : Int32))) le 31 len).2) le 99 len).2) le 9 len).2) le 1 len).2) le).2), hf, tr, de, ea)
            else
              (1, ((d_X4_readEnd ((d_X4_readNumber ((d_X4_readNumber ((d_X4_readNumber ((d_X4_readNumber (upd tf 2 ((tf 2) + (1 : Int32))) le 31 len).2) le 99 len).2) le 9 len).2) le 1 len).2) le).2), ((d_X0_add hf tr de ea ((d_X4_readNumber (upd tf 2 ((tf 2) + (1 : Int32))) le 31 len).1) ((d_X4_readNumber ((d_X4_readNumber (upd tf 2 ((tf 2) + (1 : Int32))) le 31 len).2) le 99 len).1) ((d_X4_readNumber ((d_X4_readNumber ((d_X4_readNumber (upd tf 2 ((tf 2) + (1 : Int32))) le 31 len).2) le 99 len).2) le 9 len).1) ((d_X4_readNumber ((d_X4_readNumber ((d_X4_readNumber ((d_X4_readNumber (upd tf 2 ((tf 2) + (1 : Int32))) le 31 len).2) le 99 len).2) le 9 len).2) le 1 len).1) n).1), ((d_X0_add hf tr de ea ((d_X4_readNumber (upd tf 2 ((tf 2) + (1 : Int32))) le 31 len).1) ((d_X4_readNumber ((d_X4_readNumber (upd tf 2 ((tf 2) + (1 : Int32))) le 31 len).2) le 99 len).1) ((d_X4_readNumber ((d_X4_readNumber ((d_X4_readNumber (upd tf 2 ((tf 2) + (1 : Int32))) le 31 len).2) le 99 len).2) le 9 len).1) ((d_X4_readNumber ((d_X4_readNumber ((d_X4_readNumber ((d_X4_readNumber (upd tf 2 ((tf 2) + (1 : Int32))) le 31 len).2) le 99 len).2) le 9 len).2) le 1 len).1) n).2.1), ((d_X0_add hf tr de ea ((d_X4_readNumber (upd tf 2 ((tf 2) + (1 : Int32))) le 31 len).1) ((d_X4_readNumber ((d_X4_readNumber (upd tf 2 ((tf 2) + (1 : Int32))) le 31 len).2) le 99 len).1) ((d_X4_readNumber ((d_X4_readNumber ((d_X4_readNumber (upd tf 2 ((tf 2) + (1 : Int32))) le 31 len).2) le 99 len).2) le 9 len).1) ((d_X4_readNumber ((d_X4_readNumber ((d_X4_readNumber ((d_X4_readNumber (upd tf 2 ((tf 2) + (1 : Int32))) le 31 len).2) le 99 len).2) le 9 len).2) le 1 len).1) n).2.2.1), ((d_X0_add hf tr de ea ((d_X4_readNumber (upd tf 2 ((tf 2) + (1 : Int32))) le 31 len).1) ((d_X4_readNumber ((d_X4_readNumber (upd tf 2 ((tf 2) + (1 : Int32))) le 31 len).2) le 99 len).1) ((d_X4_readNumber ((d_X4_readNumber ((d_X4_readNumber (upd tf 2 ((tf 2) + (1 : Int32))) le 31 len).2) le 99 len).2) le 9 len).1) ((d_X4_readNumber ((d_X4_readNumber ((d_X4_readNumber ((d_X4_readNumber (upd tf 2 ((tf 2) + (1 : Int32))) le 31 len).2) le 99 len).2) le 9 len).2) le 1 len).1) n).2.2.2))
        else
          (0, ((d_X4_readNumber ((d_X4_readNumber ((d_X4_readNumber (upd tf 2 ((tf 2) + (1 : Int32))) le 31 len).2) le 99 len).2) le 9 len).2), hf, tr, de, ea)
      else
        (0, ((d_X4_readNumber ((d_X4_readNumber (upd tf 2 ((tf 2) + (1 : Int32))) le 31 len).2) le 99 len).2), hf, tr, de, ea)
    else
      (0, ((d_X4_readNumber (upd tf 2 ((tf 2) + (1 : Int32))) le 31 len).2), hf, tr, de, ea)
set_option maxHeartbeats 4000000 in
set_option maxRecDepth 100000 in
theorem c_X4_readThing (l : Launch) (D : va_G) (cI cC cZ cS : ClassId) (xA : Nat) (lA : Nat) (h : Nat) (tA : Nat) (dA : Nat) (eA : Nat) (tf : Nat → Int32) (le : Nat → Int32) (hf : Nat → Int32) (tr : Nat → Int32) (de : Nat → Int32) (ea : Nat → Int32) (len : Nat) (n : Nat) (ht : TX tf len) (hat : ¬ tf 1 ≤ tf 2) (hn : hf 3 = nI n) (h7 : n ≤ 7) : Met l yX4_readThing wsX4_readThing { frames := 2, cells := 0, slots := 0, locals := 44 } (PcE D cI cC cZ cS [.ref xA, .ref h] (wTH cI cC cZ cS xA lA h tA dA eA tf le hf tr de ea)) (QcM (some (.int ((d_X4_readThing tf le hf tr de ea len n).1))) D (wTH cI cC cZ cS xA lA h tA dA eA tf le hf tr de ea) (wTH cI cC cZ cS xA lA h tA dA eA ((d_X4_readThing tf le hf tr de ea len n).2.1) le ((d_X4_readThing tf le hf tr de ea len n).2.2.1) ((d_X4_readThing tf le hf tr de ea len n).2.2.2.1) ((d_X4_readThing tf le hf tr de ea len n).2.2.2.2.1) ((d_X4_readThing tf le hf tr de ea len n).2.2.2.2.2))) 0 0 (inW (wTH cI cC cZ cS xA lA h tA dA eA tf le hf tr de ea)) := by
  refine Met.ofW (cc := cX4_readThing) (maxL := 6) (ret := (some .boolean)) (by decide) rfl ?_
  intro p e s m args below meth c s₁ B hml hv
  obtain ⟨rfl, hP, hD, hE⟩ := hv
  have hK := hE.1
  have hx := B.exec
  have hb := B.bytes
  have hr := B.returns
  have hts := atoms_spec (ws := wsX4_readThing) B.pre
  have hown : s.vm.findClass RX4 = some m.cls := findClass_of_methodNamed B.named
  have hlocks := B.notSynchronized
  have hinX4 : ∀ w ∈ wsX40, w ∈ wsX4_readThing := by decide +kernel
  have hD := inW_self hD
  have hS : va_S (inW (wTH cI cC cZ cS xA lA h tA dA eA tf le hf tr de ea)) s.heap s.heap [] := va_S.rf
  generalize hA : inW (wTH cI cC cZ cS xA lA h tA dA eA tf le hf tr de ea) = A at hD hS ⊢
  refine opq (d_X4_readThing tf le hf tr de ea len n) (fun R hres => ?_)
  rw [hres]
  replace hres := hres.symm
  rw [d_X4_readThing] at hres
  have hl := lv_entry ([.ref xA, .ref h]) (n := 6) (Nat.le_of_ble_eq_true rfl)
  rw [lg_entry_eq]
  generalize (lg_sl ([.ref xA, .ref h]) ++ List.replicate (6 - (lg_sl ([.ref xA, .ref h])).length) Slot.unset).toArray = ls at hl ⊢
  have hl : lv_has ls 6 [(0, .ref xA), (1, .ref h)] := hl
  have ht0 := (ht.step hat).1
  refine lv_aload_n hx hb dX4_readThing_0 rfl (lv_at hl 0 rfl) ?_
  refine lv_dup hx hb dX4_readThing_1 rfl ?_
  refine va_get (D := D) (ci := 4) (v := .int (tf 2)) (C := RX4) (T := TX4) (N := 5) hx hb hts hinX4 hown hK hP 0 rfl rfl 2 (by decide) (hts (.fieldLink RX4 24 "FirstOut$Text" "at" "I") (by decide +kernel)) (fun _ h9 => h9) rfl dX4_readThing_2 ?_
  refine lv_iconst (v := 1) hx hb dX4_readThing_5 (by decide) ?_
  refine lv_iadd hx hb dX4_readThing_6 ?_
  refine va_put (D := D) (ci := 4) (v := .int ((tf 2) + (1 : Int32))) (ty := .int) (C := RX4) (T := TX4) (N := 5) hx hb hts hinX4 tyX4 tyX4_ok nmX4 hown hK hP hD hS 0 rfl rfl 2 (by decide) (hts (.fieldLink RX4 24 "FirstOut$Text" "at" "I") (by decide +kernel)) (fun _ h9 => h9) rfl (by decide +kernel) rfl rfl (Nat.le_of_ble_eq_true rfl) dX4_readThing_7 (fun H locs hP hD hS => ?_)
  have hP : va_P D vwCl (wTH cI cC cZ cS xA lA h tA dA eA (upd tf 2 ((tf 2) + (1 : Int32))) le hf tr de ea) H := hP
  have hD : va_D A (wTH cI cC cZ cS xA lA h tA dA eA (upd tf 2 ((tf 2) + (1 : Int32))) le hf tr de ea) := hD
  refine lv_aload_n hx hb dX4_readThing_10 rfl (lv_at hl 0 rfl) ?_
  refine lv_bipush (v := 31) hx hb dX4_readThing_11 (by decide) ?_
  have hPc := hP.sub (ws' := (wT cI cC cZ cS xA lA (upd tf 2 ((tf 2) + (1 : Int32))) le)) [0, 1] rfl
  have hDc := hD.sub (ws' := (wT cI cC cZ cS xA lA (upd tf 2 ((tf 2) + (1 : Int32))) le)) [0, 1] (by decide) rfl
  refine m_callM (W.runV (As := [.int 31]) (rest := []) ⟨hx, hb, hml, hown, hts⟩ (c_X4_readNumber l D cI cC cZ cS xA lA (upd tf 2 ((tf 2) + (1 : Int32))) le 31 len ht0) (cwV 1 hts gX4_readThing_X4_readNumber rfl rfl rfl (by decide +kernel) ⟨Nat.le_of_ble_eq_true rfl, Nat.le_of_ble_eq_true rfl⟩) (preV_of hPc hDc hE (va_recv hK hPc (ci := 4) (q0 := 0) rfl rfl)) rfl rfl hl.1 rfl (lv_room (Nat.le_of_ble_eq_true rfl)) dX4_readThing_13 ⟨Nat.zero_le _, Nat.zero_le _⟩) hP hD hS [0, 1] rfl wT_ad (fun H locs hP hD hS => ?_)
  have hP : va_P D vwCl (wTH cI cC cZ cS xA lA h tA dA eA ((d_X4_readNumber (upd tf 2 ((tf 2) + (1 : Int32))) le 31 len).2) le hf tr de ea) H := hP
  have hD : va_D A (wTH cI cC cZ cS xA lA h tA dA eA ((d_X4_readNumber (upd tf 2 ((tf 2) + (1 : Int32))) le 31 len).2) le hf tr de ea) := hD
  refine W.eq (g2 := F0 m 16 ls [.int ((d_X4_readNumber (upd tf 2 ((tf 2) + (1 : Int32))) le 31 len).1)]) rfl ?_
  have ht1 : TX (d_X4_readNumber (upd tf 2 ((tf 2) + (1 : Int32))) le 31 len).2 len := rn_TX ht0
  refine opq (d_X4_readNumber (upd tf 2 ((tf 2) + (1 : Int32))) le 31 len) (fun r_1 hr_1 => ?_)
  try rw [hr_1] at hP
  try rw [hr_1] at hD
  try rw [hr_1] at hres
  try rw [hr_1] at ht1
  try rw [hr_1]
  refine lv_istore_n (lv' := [(2, .int r_1.1), (0, .ref xA), (1, .ref h)]) hx hb dX4_readThing_16 rfl hl (by decide) rfl (fun ls hl => ?_)
  refine lv_iload_n hx hb dX4_readThing_17 rfl (lv_at hl 0 rfl) ?_
  refine lv_if_ge (tgt := 25) hx hb dX4_readThing_18 (by decide) (fun c_2 => ?_) (fun c_2 => ?_)
  · skip
    rw [if_pos c_2] at hres
    refine lv_aload_n hx hb dX4_readThing_25 rfl (lv_at hl 1 rfl) ?_
    refine lv_bipush (v := 99) hx hb dX4_readThing_26 (by decide) ?_
    have hPc := hP.sub (ws' := (wT cI cC cZ cS xA lA r_1.2 le)) [0, 1] rfl
    have hDc := hD.sub (ws' := (wT cI cC cZ cS xA lA r_1.2 le)) [0, 1] (by decide) rfl
    refine m_callM (W.runV (As := [.int 99]) (rest := []) ⟨hx, hb, hml, hown, hts⟩ (c_X4_readNumber l D cI cC cZ cS xA lA r_1.2 le 99 len ht1) (cwV 1 hts gX4_readThing_X4_readNumber rfl rfl rfl (by decide +kernel) ⟨Nat.le_of_ble_eq_true rfl, Nat.le_of_ble_eq_true rfl⟩) (preV_of hPc hDc hE (va_recv hK hPc (ci := 4) (q0 := 0) rfl rfl)) rfl rfl hl.1 rfl (lv_room (Nat.le_of_ble_eq_true rfl)) dX4_readThing_28 ⟨Nat.zero_le _, Nat.zero_le _⟩) hP hD hS [0, 1] rfl wT_ad (fun H locs hP hD hS => ?_)
    have hP : va_P D vwCl (wTH cI cC cZ cS xA lA h tA dA eA ((d_X4_readNumber r_1.2 le 99 len).2) le hf tr de ea) H := hP
    have hD : va_D A (wTH cI cC cZ cS xA lA h tA dA eA ((d_X4_readNumber r_1.2 le 99 len).2) le hf tr de ea) := hD
    refine W.eq (g2 := F0 m 31 ls [.int ((d_X4_readNumber r_1.2 le 99 len).1)]) rfl ?_
    have ht2 : TX (d_X4_readNumber r_1.2 le 99 len).2 len := rn_TX ht1
    refine opq (d_X4_readNumber r_1.2 le 99 len) (fun r_3 hr_3 => ?_)
    try rw [hr_3] at hP
    try rw [hr_3] at hD
    try rw [hr_3] at hres
    try rw [hr_3] at ht2
    try rw [hr_3]
    refine lv_istore_n (lv' := [(3, .int r_3.1), (2, .int r_1.1), (0, .ref xA), (1, .ref h)]) hx hb dX4_readThing_31 rfl hl (by decide) rfl (fun ls hl => ?_)
    refine lv_iload_n hx hb dX4_readThing_32 rfl (lv_at hl 0 rfl) ?_
    refine lv_if_ge (tgt := 40) hx hb dX4_readThing_33 (by decide) (fun c_4 => ?_) (fun c_4 => ?_)
    · skip
      rw [if_pos c_4] at hres
      refine lv_aload_n hx hb dX4_readThing_40 rfl (lv_at hl 2 rfl) ?_
      refine lv_bipush (v := 9) hx hb dX4_readThing_41 (by decide) ?_
      have hPc := hP.sub (ws' := (wT cI cC cZ cS xA lA r_3.2 le)) [0, 1] rfl
      have hDc := hD.sub (ws' := (wT cI cC cZ cS xA lA r_3.2 le)) [0, 1] (by decide) rfl
      refine m_callM (W.runV (As := [.int 9]) (rest := []) ⟨hx, hb, hml, hown, hts⟩ (c_X4_readNumber l D cI cC cZ cS xA lA r_3.2 le 9 len ht2) (cwV 1 hts gX4_readThing_X4_readNumber rfl rfl rfl (by decide +kernel) ⟨Nat.le_of_ble_eq_true rfl, Nat.le_of_ble_eq_true rfl⟩) (preV_of hPc hDc hE (va_recv hK hPc (ci := 4) (q0 := 0) rfl rfl)) rfl rfl hl.1 rfl (lv_room (Nat.le_of_ble_eq_true rfl)) dX4_readThing_43 ⟨Nat.zero_le _, Nat.zero_le _⟩) hP hD hS [0, 1] rfl wT_ad (fun H locs hP hD hS => ?_)
      have hP : va_P D vwCl (wTH cI cC cZ cS xA lA h tA dA eA ((d_X4_readNumber r_3.2 le 9 len).2) le hf tr de ea) H := hP
      have hD : va_D A (wTH cI cC cZ cS xA lA h tA dA eA ((d_X4_readNumber r_3.2 le 9 len).2) le hf tr de ea) := hD
      refine W.eq (g2 := F0 m 46 ls [.int ((d_X4_readNumber r_3.2 le 9 len).1)]) rfl ?_
      have ht3 : TX (d_X4_readNumber r_3.2 le 9 len).2 len := rn_TX ht2
      refine opq (d_X4_readNumber r_3.2 le 9 len) (fun r_5 hr_5 => ?_)
      try rw [hr_5] at hP
      try rw [hr_5] at hD
      try rw [hr_5] at hres
      try rw [hr_5] at ht3
      try rw [hr_5]
      refine lv_istore (lv' := [(4, .int r_5.1), (3, .int r_3.1), (2, .int r_1.1), (0, .ref xA), (1, .ref h)]) hx hb dX4_readThing_46 hl (by decide) rfl (fun ls hl => ?_)
      refine lv_iload hx hb dX4_readThing_48 (lv_at hl 0 rfl) ?_
      refine lv_if_ge (tgt := 57) hx hb dX4_readThing_50 (by decide) (fun c_6 => ?_) (fun c_6 => ?_)
      · skip
        rw [if_pos c_6] at hres
        refine lv_aload_n hx hb dX4_readThing_57 rfl (lv_at hl 3 rfl) ?_
        refine lv_iconst (v := 1) hx hb dX4_readThing_58 (by decide) ?_
        have hPc := hP.sub (ws' := (wT cI cC cZ cS xA lA r_5.2 le)) [0, 1] rfl
        have hDc := hD.sub (ws' := (wT cI cC cZ cS xA lA r_5.2 le)) [0, 1] (by decide) rfl
        refine m_callM (W.runV (As := [.int 1]) (rest := []) ⟨hx, hb, hml, hown, hts⟩ (c_X4_readNumber l D cI cC cZ cS xA lA r_5.2 le 1 len ht3) (cwV 1 hts gX4_readThing_X4_readNumber rfl rfl rfl (by decide +kernel) ⟨Nat.le_of_ble_eq_true rfl, Nat.le_of_ble_eq_true rfl⟩) (preV_of hPc hDc hE (va_recv hK hPc (ci := 4) (q0 := 0) rfl rfl)) rfl rfl hl.1 rfl (lv_room (Nat.le_of_ble_eq_true rfl)) dX4_readThing_59 ⟨Nat.zero_le _, Nat.zero_le _⟩) hP hD hS [0, 1] rfl wT_ad (fun H locs hP hD hS => ?_)
        have hP : va_P D vwCl (wTH cI cC cZ cS xA lA h tA dA eA ((d_X4_readNumber r_5.2 le 1 len).2) le hf tr de ea) H := hP
        have hD : va_D A (wTH cI cC cZ cS xA lA h tA dA eA ((d_X4_readNumber r_5.2 le 1 len).2) le hf tr de ea) := hD
        refine W.eq (g2 := F0 m 62 ls [.int ((d_X4_readNumber r_5.2 le 1 len).1)]) rfl ?_
        have ht4 : TX (d_X4_readNumber r_5.2 le 1 len).2 len := rn_TX ht3
        refine opq (d_X4_readNumber r_5.2 le 1 len) (fun r_7 hr_7 => ?_)
        try rw [hr_7] at hP
        try rw [hr_7] at hD
        try rw [hr_7] at hres
        try rw [hr_7] at ht4
        try rw [hr_7]
        refine lv_istore (lv' := [(5, .int r_7.1), (4, .int r_5.1), (3, .int r_3.1), (2, .int r_1.1), (0, .ref xA), (1, .ref h)]) hx hb dX4_readThing_62 hl (by decide) rfl (fun ls hl => ?_)
        refine lv_iload hx hb dX4_readThing_64 (lv_at hl 0 rfl) ?_
        refine lv_if_lt (tgt := 76) hx hb dX4_readThing_66 (by decide) (fun c_8 => ?_) (fun c_8 => ?_)
        · skip
          rw [if_pos c_8] at hres
          refine lv_iconst (v := 0) hx hb dX4_readThing_76 (by decide) ?_
          rw [hres]
          exact W.zret (v := 0) hx hb hr rfl (fun t ht hW => ⟨rfl, by rw [ht]; exact hP, by rw [hA]; exact hS.F ht⟩) hS.2.2 dX4_readThing_77
        · skip
          rw [if_neg c_8] at hres
          refine lv_aload_n hx hb dX4_readThing_69 rfl (lv_at hl 4 rfl) ?_
          have hPc := hP.sub (ws' := (wT cI cC cZ cS xA lA r_7.2 le)) [0, 1] rfl
          have hDc := hD.sub (ws' := (wT cI cC cZ cS xA lA r_7.2 le)) [0, 1] (by decide) rfl
          refine m_callM (W.runV (As := []) (rest := []) ⟨hx, hb, hml, hown, hts⟩ (c_X4_readEnd l D cI cC cZ cS xA lA r_7.2 le len ht4) (cwV 0 hts gX4_readThing_X4_readEnd rfl rfl rfl (by decide +kernel) ⟨Nat.le_of_ble_eq_true rfl, Nat.le_of_ble_eq_true rfl⟩) (preV_of hPc hDc hE (va_recv hK hPc (ci := 4) (q0 := 0) rfl rfl)) rfl rfl hl.1 rfl (lv_room (Nat.le_of_ble_eq_true rfl)) dX4_readThing_70 ⟨Nat.zero_le _, Nat.zero_le _⟩) hP hD hS [0, 1] rfl wT_ad (fun H locs hP hD hS => ?_)
          have hP : va_P D vwCl (wTH cI cC cZ cS xA lA h tA dA eA ((d_X4_readEnd r_7.2 le).2) le hf tr de ea) H := hP
          have hD : va_D A (wTH cI cC cZ cS xA lA h tA dA eA ((d_X4_readEnd r_7.2 le).2) le hf tr de ea) := hD
          refine W.eq (g2 := F0 m 73 ls [.int ((d_X4_readEnd r_7.2 le).1)]) rfl ?_
          have ht5 : TX (d_X4_readEnd r_7.2 le).2 len := re_TX ht4
          refine opq (d_X4_readEnd r_7.2 le) (fun r_9 hr_9 => ?_)
          try rw [hr_9] at hP
          try rw [hr_9] at hD
          try rw [hr_9] at hres
          try rw [hr_9] at ht5
          try rw [hr_9]
          refine lv_if_ne (tgt := 78) hx hb dX4_readThing_73 (by decide) (fun c_10 => ?_) (fun c_10 => ?_)
          · skip
            rw [if_neg c_10] at hres
            refine lv_aload_n hx hb dX4_readThing_78 rfl (lv_at hl 5 rfl) ?_
            refine lv_iload_n hx hb dX4_readThing_79 rfl (lv_at hl 3 rfl) ?_
            refine lv_iload_n hx hb dX4_readThing_80 rfl (lv_at hl 2 rfl) ?_
            refine lv_iload hx hb dX4_readThing_81 (lv_at hl 1 rfl) ?_
            refine lv_iload hx hb dX4_readThing_83 (lv_at hl 0 rfl) ?_
            have hPc := hP.sub (ws' := (wH cI cC cZ cS h tA dA eA hf tr de ea)) [2, 3, 4, 5] rfl
            have hDc := hD.sub (ws' := (wH cI cC cZ cS h tA dA eA hf tr de ea)) [2, 3, 4, 5] (by decide) rfl
            refine m_callM (W.runV (As := [.int r_1.1, .int r_3.1, .int r_5.1, .int r_7.1]) (rest := []) ⟨hx, hb, hml, hown, hts⟩ (c_X0_add l D cI cC cZ cS h tA dA eA hf tr de ea r_1.1 r_3.1 r_5.1 r_7.1 n hn h7) (cwV 4 hts gX4_readThing_X0_add rfl rfl rfl (by decide +kernel) ⟨Nat.le_of_ble_eq_true rfl, Nat.le_of_ble_eq_true rfl⟩) (preV_of hPc hDc hE (va_recv hK hPc (ci := 0) (q0 := 0) rfl rfl)) rfl rfl hl.1 rfl (lv_room (Nat.le_of_ble_eq_true rfl)) dX4_readThing_85 ⟨Nat.zero_le _, Nat.zero_le _⟩) hP hD hS [2, 3, 4, 5] rfl wH_ad (fun H locs hP hD hS => ?_)
            have hP : va_P D vwCl (wTH cI cC cZ cS xA lA h tA dA eA r_9.2 le ((d_X0_add hf tr de ea r_1.1 r_3.1 r_5.1 r_7.1 n).1) ((d_X0_add hf tr de ea r_1.1 r_3.1 r_5.1 r_7.1 n).2.1) ((d_X0_add hf tr de ea r_1.1 r_3.1 r_5.1 r_7.1 n).2.2.1) ((d_X0_add hf tr de ea r_1.1 r_3.1 r_5.1 r_7.1 n).2.2.2)) H := hP
            have hD : va_D A (wTH cI cC cZ cS xA lA h tA dA eA r_9.2 le ((d_X0_add hf tr de ea r_1.1 r_3.1 r_5.1 r_7.1 n).1) ((d_X0_add hf tr de ea r_1.1 r_3.1 r_5.1 r_7.1 n).2.1) ((d_X0_add hf tr de ea r_1.1 r_3.1 r_5.1 r_7.1 n).2.2.1) ((d_X0_add hf tr de ea r_1.1 r_3.1 r_5.1 r_7.1 n).2.2.2)) := hD
            refine W.eq (g2 := F0 m 88 ls []) rfl ?_
            refine opq (d_X0_add hf tr de ea r_1.1 r_3.1 r_5.1 r_7.1 n) (fun r_11 hr_11 => ?_)
            try rw [hr_11] at hP
            try rw [hr_11] at hD
            try rw [hr_11] at hres
            try rw [hr_11]
            refine lv_iconst (v := 1) hx hb dX4_readThing_88 (by decide) ?_
            rw [hres]
            exact W.zret (v := 1) hx hb hr rfl (fun t ht hW => ⟨rfl, by rw [ht]; exact hP, by rw [hA]; exact hS.F ht⟩) hS.2.2 dX4_readThing_89
          · skip
            rw [if_pos c_10] at hres
            refine lv_iconst (v := 0) hx hb dX4_readThing_76 (by decide) ?_
            rw [hres]
            exact W.zret (v := 0) hx hb hr rfl (fun t ht hW => ⟨rfl, by rw [ht]; exact hP, by rw [hA]; exact hS.F ht⟩) hS.2.2 dX4_readThing_77
      · skip
        rw [if_neg c_6] at hres
        refine lv_iconst (v := (-1)) hx hb dX4_readThing_53 (by decide) ?_
        refine lv_goto (tgt := 62) hx hb dX4_readThing_54 (by decide) ?_
        refine lv_istore (lv' := [(5, .int (-1)), (4, .int r_5.1), (3, .int r_3.1), (2, .int r_1.1), (0, .ref xA), (1, .ref h)]) hx hb dX4_readThing_62 hl (by decide) rfl (fun ls hl => ?_)
        refine lv_iload hx hb dX4_readThing_64 (lv_at hl 0 rfl) ?_
        refine lv_if_lt (tgt := 76) hx hb dX4_readThing_66 (by decide) (fun c_12 => ?_) (fun c_12 => ?_)
        · skip
          refine lv_iconst (v := 0) hx hb dX4_readThing_76 (by decide) ?_
          rw [hres]
          exact W.zret (v := 0) hx hb hr rfl (fun t ht hW => ⟨rfl, by rw [ht]; exact hP, by rw [hA]; exact hS.F ht⟩) hS.2.2 dX4_readThing_77
        · exact absurd c_12 (by decide)
    · skip
      rw [if_neg c_4] at hres
      refine lv_iconst (v := (-1)) hx hb dX4_readThing_36 (by decide) ?_
      refine lv_goto (tgt := 46) hx hb dX4_readThing_37 (by decide) ?_
      refine lv_istore (lv' := [(4, .int (-1)), (3, .int r_3.1), (2, .int r_1.1), (0, .ref xA), (1, .ref h)]) hx hb dX4_readThing_46 hl (by decide) rfl (fun ls hl => ?_)
      refine lv_iload hx hb dX4_readThing_48 (lv_at hl 0 rfl) ?_
      refine lv_if_ge (tgt := 57) hx hb dX4_readThing_50 (by decide) (fun c_13 => ?_) (fun c_13 => ?_)
      · exact absurd c_13 (by decide)
      · skip
        refine lv_iconst (v := (-1)) hx hb dX4_readThing_53 (by decide) ?_
        refine lv_goto (tgt := 62) hx hb dX4_readThing_54 (by decide) ?_
        refine lv_istore (lv' := [(5, .int (-1)), (4, .int (-1)), (3, .int r_3.1), (2, .int r_1.1), (0, .ref xA), (1, .ref h)]) hx hb dX4_readThing_62 hl (by decide) rfl (fun ls hl => ?_)
        refine lv_iload hx hb dX4_readThing_64 (lv_at hl 0 rfl) ?_
        refine lv_if_lt (tgt := 76) hx hb dX4_readThing_66 (by decide) (fun c_14 => ?_) (fun c_14 => ?_)
        · skip
          refine lv_iconst (v := 0) hx hb dX4_readThing_76 (by decide) ?_
          rw [hres]
          exact W.zret (v := 0) hx hb hr rfl (fun t ht hW => ⟨rfl, by rw [ht]; exact hP, by rw [hA]; exact hS.F ht⟩) hS.2.2 dX4_readThing_77
        · exact absurd c_14 (by decide)
  · skip
    rw [if_neg c_2] at hres
    refine lv_iconst (v := (-1)) hx hb dX4_readThing_21 (by decide) ?_
    refine lv_goto (tgt := 31) hx hb dX4_readThing_22 (by decide) ?_
    refine lv_istore_n (lv' := [(3, .int (-1)), (2, .int r_1.1), (0, .ref xA), (1, .ref h)]) hx hb dX4_readThing_31 rfl hl (by decide) rfl (fun ls hl => ?_)
    refine lv_iload_n hx hb dX4_readThing_32 rfl (lv_at hl 0 rfl) ?_
    refine lv_if_ge (tgt := 40) hx hb dX4_readThing_33 (by decide) (fun c_15 => ?_) (fun c_15 => ?_)
    · exact absurd c_15 (by decide)
    · skip
      refine lv_iconst (v := (-1)) hx hb dX4_readThing_36 (by decide) ?_
      refine lv_goto (tgt := 46) hx hb dX4_readThing_37 (by decide) ?_
      refine lv_istore (lv' := [(4, .int (-1)), (3, .int (-1)), (2, .int r_1.1), (0, .ref xA), (1, .ref h)]) hx hb dX4_readThing_46 hl (by decide) rfl (fun ls hl => ?_)
      refine lv_iload hx hb dX4_readThing_48 (lv_at hl 0 rfl) ?_
      refine lv_if_ge (tgt := 57) hx hb dX4_readThing_50 (by decide) (fun c_16 => ?_) (fun c_16 => ?_)
      · exact absurd c_16 (by decide)
      · skip
        refine lv_iconst (v := (-1)) hx hb dX4_readThing_53 (by decide) ?_
        refine lv_goto (tgt := 62) hx hb dX4_readThing_54 (by decide) ?_
        refine lv_istore (lv' := [(5, .int (-1)), (4, .int (-1)), (3, .int (-1)), (2, .int r_1.1), (0, .ref xA), (1, .ref h)]) hx hb dX4_readThing_62 hl (by decide) rfl (fun ls hl => ?_)
        refine lv_iload hx hb dX4_readThing_64 (lv_at hl 0 rfl) ?_
        refine lv_if_lt (tgt := 76) hx hb dX4_readThing_66 (by decide) (fun c_17 => ?_) (fun c_17 => ?_)
        · skip
          refine lv_iconst (v := 0) hx hb dX4_readThing_76 (by decide) ?_
          rw [hres]
          exact W.zret (v := 0) hx hb hr rfl (fun t ht hW => ⟨rfl, by rw [ht]; exact hP, by rw [hA]; exact hS.F ht⟩) hS.2.2 dX4_readThing_77
        · exact absurd c_17 (by decide)
