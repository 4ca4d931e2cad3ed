def d_X4_readVow (tf : Nat → Int32) (le : Nat → Int32) (hf : Nat → Int32) (tr : Nat → Int32) (de : Nat → Int32) (ea : Nat → Int32) (len : Nat) : Int32 × (Nat → Int32) × (Nat → Int32) × (Nat → Int32) × (Nat → Int32) × (Nat → Int32) :=
  if ((d_X4_readNumber (upd (upd tf 2 ((tf 2) + (1 : Int32))) 3 1) le 31 len).1) < 0 then
      (0, ((d_X4_readNumber (upd (upd tf 2 ((tf 2) + (1 : Int32))) 3 1) le 31 len).2), hf, tr, de, ea)
    else
      if ((d_X4_readEnd ((d_X4_readNumber (upd (upd tf 2 ((tf 2) + (1 : Int32))) 3 1) le 31 len).2) le).1) = 0 then
        (0, ((d_X4_readEnd ((d_X4_readNumber (upd (upd tf 2 ((tf 2) + (1 : Int32))) 3 1) le 31 len).2) le).2), hf, tr, de, ea)
      else
        (1, ((d_X4_readEnd ((d_X4_readNumber (upd (upd tf 2 ((tf 2) + (1 : Int32))) 3 1) le 31 len).2) le).2), (upd hf 5 ((d_X4_readNumber (upd (upd tf 2 ((tf 2) + (1 : Int32))) 3 1) le 31 len).1)), tr, de, ea)
set_option maxHeartbeats 4000000 in
set_option maxRecDepth 100000 in
theorem c_X4_readVow (l : Launch) (D : va_G) (cI cC cZ cS : ClassId) (xA : Nat) (lA : Nat) (h : Nat) (tA : Nat) (dA : Nat) (eA : Nat) (tf : Nat → Int32) (le : Nat → Int32) (hf : Nat → Int32) (tr : Nat → Int32) (de : Nat → Int32) (ea : Nat → Int32) (len : Nat) (n : Nat) (ht : TX tf len) (hat : ¬ tf 1 ≤ tf 2) (hn : hf 3 = nI n) (h7 : n ≤ 7) : Met l yX4_readVow wsX4_readVow { frames := 2, cells := 0, slots := 0, locals := 44 } (PcE D cI cC cZ cS [.ref xA, .ref h] (wTH cI cC cZ cS xA lA h tA dA eA tf le hf tr de ea)) (QcM (some (.int ((d_X4_readVow tf le hf tr de ea len).1))) D (wTH cI cC cZ cS xA lA h tA dA eA tf le hf tr de ea) (wTH cI cC cZ cS xA lA h tA dA eA ((d_X4_readVow tf le hf tr de ea len).2.1) le ((d_X4_readVow tf le hf tr de ea len).2.2.1) ((d_X4_readVow tf le hf tr de ea len).2.2.2.1) ((d_X4_readVow tf le hf tr de ea len).2.2.2.2.1) ((d_X4_readVow tf le hf tr de ea len).2.2.2.2.2))) 0 0 (inW (wTH cI cC cZ cS xA lA h tA dA eA tf le hf tr de ea)) := by
  refine Met.ofW (cc := cX4_readVow) (maxL := 3) (ret := (some .boolean)) (by decide) rfl ?_
  intro p e s m args below meth c s₁ B hml hv
  obtain ⟨rfl, hP, hD, hE⟩ := hv
  have hK := hE.1
  have hx := B.exec
  have hb := B.bytes
  have hr := B.returns
  have hts := atoms_spec (ws := wsX4_readVow) B.pre
  have hown : s.vm.findClass RX4 = some m.cls := findClass_of_methodNamed B.named
  have hlocks := B.notSynchronized
  have hinX4 : ∀ w ∈ wsX40, w ∈ wsX4_readVow := by decide +kernel
  have hinX0 : ∀ w ∈ wsX00, w ∈ wsX4_readVow := by decide +kernel
  have hD := inW_self hD
  have hS : va_S (inW (wTH cI cC cZ cS xA lA h tA dA eA tf le hf tr de ea)) s.heap s.heap [] := va_S.rf
  generalize hA : inW (wTH cI cC cZ cS xA lA h tA dA eA tf le hf tr de ea) = A at hD hS ⊢
  refine opq (d_X4_readVow tf le hf tr de ea len) (fun R hres => ?_)
  rw [hres]
  replace hres := hres.symm
  rw [d_X4_readVow] at hres
  have hl := lv_entry ([.ref xA, .ref h]) (n := 3) (Nat.le_of_ble_eq_true rfl)
  rw [lg_entry_eq]
  generalize (lg_sl ([.ref xA, .ref h]) ++ List.replicate (3 - (lg_sl ([.ref xA, .ref h])).length) Slot.unset).toArray = ls at hl ⊢
  have hl : lv_has ls 3 [(0, .ref xA), (1, .ref h)] := hl
  have ht0 := (ht.step hat).1
  refine lv_aload_n hx hb dX4_readVow_0 rfl (lv_at hl 0 rfl) ?_
  refine lv_dup hx hb dX4_readVow_1 rfl ?_
  refine va_get (D := D) (ci := 4) (v := .int (tf 2)) (C := RX4) (T := TX4) (N := 5) hx hb hts hinX4 hown hK hP 0 rfl rfl 2 (by decide) (hts (.fieldLink RX4 24 "FirstOut$Text" "at" "I") (by decide +kernel)) (fun _ h9 => h9) rfl dX4_readVow_2 ?_
  refine lv_iconst (v := 1) hx hb dX4_readVow_5 (by decide) ?_
  refine lv_iadd hx hb dX4_readVow_6 ?_
  refine va_put (D := D) (ci := 4) (v := .int ((tf 2) + (1 : Int32))) (ty := .int) (C := RX4) (T := TX4) (N := 5) hx hb hts hinX4 tyX4 tyX4_ok nmX4 hown hK hP hD hS 0 rfl rfl 2 (by decide) (hts (.fieldLink RX4 24 "FirstOut$Text" "at" "I") (by decide +kernel)) (fun _ h9 => h9) rfl (by decide +kernel) rfl rfl (Nat.le_of_ble_eq_true rfl) dX4_readVow_7 (fun H locs hP hD hS => ?_)
  have hP : va_P D vwCl (wTH cI cC cZ cS xA lA h tA dA eA (upd tf 2 ((tf 2) + (1 : Int32))) le hf tr de ea) H := hP
  have hD : va_D A (wTH cI cC cZ cS xA lA h tA dA eA (upd tf 2 ((tf 2) + (1 : Int32))) le hf tr de ea) := hD
  refine lv_aload_n hx hb dX4_readVow_10 rfl (lv_at hl 0 rfl) ?_
  refine lv_iconst (v := 1) hx hb dX4_readVow_11 (by decide) ?_
  refine va_put (D := D) (ci := 4) (v := .int 1) (ty := .boolean) (C := RX4) (T := TX4) (N := 5) hx hb hts hinX4 tyX4 tyX4_ok nmX4 hown hK hP hD hS 0 rfl rfl 3 (by decide) (hts (.fieldLink RX4 27 "FirstOut$Text" "vowRead" "Z") (by decide +kernel)) (fun _ h9 => h9) rfl (by decide +kernel) rfl rfl (Nat.le_of_ble_eq_true rfl) dX4_readVow_12 (fun H locs hP hD hS => ?_)
  have hP : va_P D vwCl (wTH cI cC cZ cS xA lA h tA dA eA (upd (upd tf 2 ((tf 2) + (1 : Int32))) 3 1) le hf tr de ea) H := hP
  have hD : va_D A (wTH cI cC cZ cS xA lA h tA dA eA (upd (upd tf 2 ((tf 2) + (1 : Int32))) 3 1) le hf tr de ea) := hD
  refine lv_aload_n hx hb dX4_readVow_15 rfl (lv_at hl 0 rfl) ?_
  refine lv_bipush (v := 31) hx hb dX4_readVow_16 (by decide) ?_
  have hPc := hP.sub (ws' := (wT cI cC cZ cS xA lA (upd (upd tf 2 ((tf 2) + (1 : Int32))) 3 1) le)) [0, 1] rfl
  have hDc := hD.sub (ws' := (wT cI cC cZ cS xA lA (upd (upd tf 2 ((tf 2) + (1 : Int32))) 3 1) le)) [0, 1] (by decide) rfl
  refine m_callM (W.runV (As := [.int 31]) (rest := []) ⟨hx, hb, hml, hown, hts⟩ (c_X4_readNumber l D cI cC cZ cS xA lA (upd (upd tf 2 ((tf 2) + (1 : Int32))) 3 1) le 31 len (ht0.far (Or.inl rfl) 1)) (cwV 1 hts gX4_readVow_X4_readNumber rfl rfl rfl (by decide +kernel) ⟨Nat.le_of_ble_eq_true rfl, Nat.le_of_ble_eq_true rfl⟩) (preV_of hPc hDc hE (va_recv hK hPc (ci := 4) (q0 := 0) rfl rfl)) rfl rfl hl.1 rfl (lv_room (Nat.le_of_ble_eq_true rfl)) dX4_readVow_18 ⟨Nat.zero_le _, Nat.zero_le _⟩) hP hD hS [0, 1] rfl wT_ad (fun H locs hP hD hS => ?_)
  have hP : va_P D vwCl (wTH cI cC cZ cS xA lA h tA dA eA ((d_X4_readNumber (upd (upd tf 2 ((tf 2) + (1 : Int32))) 3 1) le 31 len).2) le hf tr de ea) H := hP
  have hD : va_D A (wTH cI cC cZ cS xA lA h tA dA eA ((d_X4_readNumber (upd (upd tf 2 ((tf 2) + (1 : Int32))) 3 1) le 31 len).2) le hf tr de ea) := hD
  refine W.eq (g2 := F0 m 21 ls [.int ((d_X4_readNumber (upd (upd tf 2 ((tf 2) + (1 : Int32))) 3 1) le 31 len).1)]) rfl ?_
  have ht1 : TX (d_X4_readNumber (upd (upd tf 2 ((tf 2) + (1 : Int32))) 3 1) le 31 len).2 len := rn_TX (ht0.far (Or.inl rfl) 1)
  refine opq (d_X4_readNumber (upd (upd tf 2 ((tf 2) + (1 : Int32))) 3 1) le 31 len) (fun r_1 hr_1 => ?_)
  try rw [hr_1] at hP
  try rw [hr_1] at hD
  try rw [hr_1] at hres
  try rw [hr_1] at ht1
  try rw [hr_1]
  refine lv_istore_n (lv' := [(2, .int r_1.1), (0, .ref xA), (1, .ref h)]) hx hb dX4_readVow_21 rfl hl (by decide) rfl (fun ls hl => ?_)
  refine lv_iload_n hx hb dX4_readVow_22 rfl (lv_at hl 0 rfl) ?_
  refine lv_if_lt (tgt := 33) hx hb dX4_readVow_23 (by decide) (fun c_2 => ?_) (fun c_2 => ?_)
  · skip
    rw [if_pos c_2] at hres
    refine lv_iconst (v := 0) hx hb dX4_readVow_33 (by decide) ?_
    rw [hres]
    exact W.zret (v := 0) hx hb hr rfl (fun t ht hW => ⟨rfl, by rw [ht]; exact hP, by rw [hA]; exact hS.F ht⟩) hS.2.2 dX4_readVow_34
  · skip
    rw [if_neg c_2] at hres
    refine lv_aload_n hx hb dX4_readVow_26 rfl (lv_at hl 1 rfl) ?_
    have hPc := hP.sub (ws' := (wT cI cC cZ cS xA lA r_1.2 le)) [0, 1] rfl
    have hDc := hD.sub (ws' := (wT cI cC cZ cS xA lA r_1.2 le)) [0, 1] (by decide) rfl
    refine m_callM (W.runV (As := []) (rest := []) ⟨hx, hb, hml, hown, hts⟩ (c_X4_readEnd l D cI cC cZ cS xA lA r_1.2 le len ht1) (cwV 0 hts gX4_readVow_X4_readEnd rfl rfl rfl (by decide +kernel) ⟨Nat.le_of_ble_eq_true rfl, Nat.le_of_ble_eq_true rfl⟩) (preV_of hPc hDc hE (va_recv hK hPc (ci := 4) (q0 := 0) rfl rfl)) rfl rfl hl.1 rfl (lv_room (Nat.le_of_ble_eq_true rfl)) dX4_readVow_27 ⟨Nat.zero_le _, Nat.zero_le _⟩) hP hD hS [0, 1] rfl wT_ad (fun H locs hP hD hS => ?_)
    have hP : va_P D vwCl (wTH cI cC cZ cS xA lA h tA dA eA ((d_X4_readEnd r_1.2 le).2) le hf tr de ea) H := hP
    have hD : va_D A (wTH cI cC cZ cS xA lA h tA dA eA ((d_X4_readEnd r_1.2 le).2) le hf tr de ea) := hD
    refine W.eq (g2 := F0 m 30 ls [.int ((d_X4_readEnd r_1.2 le).1)]) rfl ?_
    have ht2 : TX (d_X4_readEnd r_1.2 le).2 len := re_TX ht1
    refine opq (d_X4_readEnd r_1.2 le) (fun r_3 hr_3 => ?_)
    try rw [hr_3] at hP
    try rw [hr_3] at hD
    try rw [hr_3] at hres
    try rw [hr_3] at ht2
    try rw [hr_3]
    refine lv_if_ne (tgt := 35) hx hb dX4_readVow_30 (by decide) (fun c_4 => ?_) (fun c_4 => ?_)
    · skip
      rw [if_neg c_4] at hres
      refine lv_aload_n hx hb dX4_readVow_35 rfl (lv_at hl 2 rfl) ?_
      refine lv_iload_n hx hb dX4_readVow_36 rfl (lv_at hl 0 rfl) ?_
      refine va_put (D := D) (ci := 0) (v := .int r_1.1) (ty := .int) (C := RX0) (T := TX0) (N := 9) hx hb hts hinX0 tyX0 tyX0_ok nmX0 hown hK hP hD hS 2 rfl rfl 5 (by decide) (hts (.fieldLink RX4 65 "FirstOut$House" "words" "I") (by decide +kernel)) (fun _ h9 => h9) rfl (by decide +kernel) rfl rfl (Nat.le_of_ble_eq_true rfl) dX4_readVow_37 (fun H locs hP hD hS => ?_)
      have hP : va_P D vwCl (wTH cI cC cZ cS xA lA h tA dA eA r_3.2 le (upd hf 5 r_1.1) tr de ea) H := hP
      have hD : va_D A (wTH cI cC cZ cS xA lA h tA dA eA r_3.2 le (upd hf 5 r_1.1) tr de ea) := hD
      refine lv_iconst (v := 1) hx hb dX4_readVow_40 (by decide) ?_
      rw [hres]
      exact W.zret (v := 1) hx hb hr rfl (fun t ht hW => ⟨rfl, by rw [ht]; exact hP, by rw [hA]; exact hS.F ht⟩) hS.2.2 dX4_readVow_41
    · skip
      rw [if_pos c_4] at hres
      refine lv_iconst (v := 0) hx hb dX4_readVow_33 (by decide) ?_
      rw [hres]
      exact W.zret (v := 0) hx hb hr rfl (fun t ht hW => ⟨rfl, by rw [ht]; exact hP, by rw [hA]; exact hS.F ht⟩) hS.2.2 dX4_readVow_34
def d_X4_readWar (tf : Nat → Int32) (le : Nat → Int32) (hf : Nat → Int32) (tr : Nat → Int32) (de : Nat → Int32) (ea : Nat → Int32) (len : Nat) : Int32 × (Nat → Int32) × (Nat → Int32) × (Nat → Int32) × (Nat → Int32) × (Nat → Int32) :=
  if 0 ≤ ((d_X4_readNumber (upd (upd tf 2 ((tf 2) + (1 : Int32))) 4 1) le 10 len).1) then
      if 0 ≤ ((d_X4_readNumber ((d_X4_readNumber (upd (upd tf 2 ((tf 2) + (1 : Int32))) 4 1) le 10 len).2) le ((10 : Int32) - ((d_X4_readNumber (upd (upd tf 2 ((tf 2) + (1 : Int32))) 4 1) le 10 len).1)) len).1) then
        if ((d_X4_readNumber ((d_X4_readNumber ((d_X4_readNumber (upd (upd tf 2 ((tf 2) + (1 : Int32))) 4 1) le 10 len).2) le ((10 : Int32) - ((d_X4_readNumber (upd (upd tf 2 ((tf 2) + (1 : Int32))) 4 1) le 10 len).1)) len).2) le 999 len).1) < 0 then
          (0, ((d_X4_readNumber ((d_X4_readNumber ((d_X4_readNumber (upd (upd tf 2 ((tf 2) + (1 : Int32))) 4 1) le 10 len).2) le ((10 : Int32) - ((d_X4_readNumber (upd (upd tf 2 ((tf 2) + (1 : Int32))) 4 1) le 10 len).1)) len).2) le 999 len).2), hf, tr, de, ea)
        else
          if ((d_X4_readEnd ((d_X4_readNumber ((d_X4_readNumber ((d_X4_readNumber (upd (upd tf 2 ((tf 2) + (1 : Int32))) 4 1) le 10 len).2) le ((10 : Int32) - ((d_X4_readNumber (upd (upd tf 2 ((tf 2) + (1 : Int32))) 4 1) le 10 len).1)) len).2) le 999 len).2) le).1) = 0 then
            (0, ((d_X4_readEnd ((d_X4_readNumber ((d_X4_readNumber ((d_X4_readNumber (upd (upd tf 2 ((tf 2) + (1 : Int32))) 4 1) le 10 len).2) le ((10 : Int32) - ((d_X4_readNumber (upd (upd tf 2 ((tf 2) + (1 : Int32))) 4 1) le 10 len).1)) len).2) le 999 len).2) le).2), hf, tr, de, ea)
          else
            (1, ((d_X4_readEnd ((d_X4_readNumber ((d_X4_readNumber ((d_X4_readNumber (upd (upd tf 2 ((tf 2) + (1 : Int32))) 4 1) le 10 len).2) le ((10 : Int32) - ((d_X4_readNumber (upd (upd tf 2 ((tf 2) + (1 : Int32))) 4 1) le 10 len).1)) len).2) le 999 len).2) le).2), (upd (upd (upd hf 6 ((d_X4_readNumber (upd (upd tf 2 ((tf 2) + (1 : Int32))) 4 1) le 10 len).1)) 7 ((d_X4_readNumber ((d_X4_readNumber (upd (upd tf 2 ((tf 2) + (1 : Int32))) 4 1) le 10 len).2) le ((10 : Int32) - ((d_X4_readNumber (upd (upd tf 2 ((tf 2) + (1 : Int32))) 4 1) le 10 len).1)) len).1)) 8 ((d_X4_readNumber ((d_X4_readNumber ((d_X4_readNumber (upd (upd tf 2 ((tf 2) + (1 : Int32))) 4 1) le 10 len).2) le ((10 : Int32) - ((d_X4_readNumber (upd (upd tf 2 ((tf 2) + (1 : Int32))) 4 1) le 10 len).1)) len).2) le 999 len).1)), tr, de, ea)
      else
        (0, ((d_X4_readNumber ((d_X4_readNumber (upd (upd tf 2 ((tf 2) + (1 : Int32))) 4 1) le 10 len).2) le ((10 : Int32) - ((d_X4_readNumber (upd (upd tf 2 ((tf 2) + (1 : Int32))) 4 1) le 10 len).1)) len).2), hf, tr, de, ea)
    else
      (0, ((d_X4_readNumber (upd (upd tf 2 ((tf 2) + (1 : Int32))) 4 1) le 10 len).2), hf, tr, de, ea)
set_option maxHeartbeats 4000000 in
set_option maxRecDepth 100000 in
theorem c_X4_readWar (l : Launch) (D : va_G) (cI cC cZ cS : ClassId) (xA : Nat) (lA : Nat) (h : Nat) (tA : Nat) (dA : Nat) (eA : Nat) (tf : Nat → Int32) (le : Nat → Int32) (hf : Nat → Int32) (tr : Nat → Int32) (de : Nat → Int32) (ea : Nat → Int32) (len : Nat) (n : Nat) (ht : TX tf len) (hat : ¬ tf 1 ≤ tf 2) (hn : hf 3 = nI n) (h7 : n ≤ 7) : Met l yX4_readWar wsX4_readWar { frames := 2, cells := 0, slots := 0, locals := 44 } (PcE D cI cC cZ cS [.ref xA, .ref h] (wTH cI cC cZ cS xA lA h tA dA eA tf le hf tr de ea)) (QcM (some (.int ((d_X4_readWar tf le hf tr de ea len).1))) D (wTH cI cC cZ cS xA lA h tA dA eA tf le hf tr de ea) (wTH cI cC cZ cS xA lA h tA dA eA ((d_X4_readWar tf le hf tr de ea len).2.1) le ((d_X4_readWar tf le hf tr de ea len).2.2.1) ((d_X4_readWar tf le hf tr de ea len).2.2.2.1) ((d_X4_readWar tf le hf tr de ea len).2.2.2.2.1) ((d_X4_readWar tf le hf tr de ea len).2.2.2.2.2))) 0 0 (inW (wTH cI cC cZ cS xA lA h tA dA eA tf le hf tr de ea)) := by
  refine Met.ofW (cc := cX4_readWar) (maxL := 5) (ret := (some .boolean)) (by decide) rfl ?_
  intro p e s m args below meth c s₁ B hml hv
  obtain ⟨rfl, hP, hD, hE⟩ := hv
  have hK := hE.1
  have hx := B.exec
  have hb := B.bytes
  have hr := B.returns
  have hts := atoms_spec (ws := wsX4_readWar) B.pre
  have hown : s.vm.findClass RX4 = some m.cls := findClass_of_methodNamed B.named
  have hlocks := B.notSynchronized
  have hinX4 : ∀ w ∈ wsX40, w ∈ wsX4_readWar := by decide +kernel
  have hinX0 : ∀ w ∈ wsX00, w ∈ wsX4_readWar := by decide +kernel
  have hD := inW_self hD
  have hS : va_S (inW (wTH cI cC cZ cS xA lA h tA dA eA tf le hf tr de ea)) s.heap s.heap [] := va_S.rf
  generalize hA : inW (wTH cI cC cZ cS xA lA h tA dA eA tf le hf tr de ea) = A at hD hS ⊢
  refine opq (d_X4_readWar tf le hf tr de ea len) (fun R hres => ?_)
  rw [hres]
  replace hres := hres.symm
  rw [d_X4_readWar] at hres
  have hl := lv_entry ([.ref xA, .ref h]) (n := 5) (Nat.le_of_ble_eq_true rfl)
  rw [lg_entry_eq]
  generalize (lg_sl ([.ref xA, .ref h]) ++ List.replicate (5 - (lg_sl ([.ref xA, .ref h])).length) Slot.unset).toArray = ls at hl ⊢
  have hl : lv_has ls 5 [(0, .ref xA), (1, .ref h)] := hl
  have ht0 := (ht.step hat).1
  refine lv_aload_n hx hb dX4_readWar_0 rfl (lv_at hl 0 rfl) ?_
  refine lv_dup hx hb dX4_readWar_1 rfl ?_
  refine va_get (D := D) (ci := 4) (v := .int (tf 2)) (C := RX4) (T := TX4) (N := 5) hx hb hts hinX4 hown hK hP 0 rfl rfl 2 (by decide) (hts (.fieldLink RX4 24 "FirstOut$Text" "at" "I") (by decide +kernel)) (fun _ h9 => h9) rfl dX4_readWar_2 ?_
  refine lv_iconst (v := 1) hx hb dX4_readWar_5 (by decide) ?_
  refine lv_iadd hx hb dX4_readWar_6 ?_
  refine va_put (D := D) (ci := 4) (v := .int ((tf 2) + (1 : Int32))) (ty := .int) (C := RX4) (T := TX4) (N := 5) hx hb hts hinX4 tyX4 tyX4_ok nmX4 hown hK hP hD hS 0 rfl rfl 2 (by decide) (hts (.fieldLink RX4 24 "FirstOut$Text" "at" "I") (by decide +kernel)) (fun _ h9 => h9) rfl (by decide +kernel) rfl rfl (Nat.le_of_ble_eq_true rfl) dX4_readWar_7 (fun H locs hP hD hS => ?_)
  have hP : va_P D vwCl (wTH cI cC cZ cS xA lA h tA dA eA (upd tf 2 ((tf 2) + (1 : Int32))) le hf tr de ea) H := hP
  have hD : va_D A (wTH cI cC cZ cS xA lA h tA dA eA (upd tf 2 ((tf 2) + (1 : Int32))) le hf tr de ea) := hD
  refine lv_aload_n hx hb dX4_readWar_10 rfl (lv_at hl 0 rfl) ?_
  refine lv_iconst (v := 1) hx hb dX4_readWar_11 (by decide) ?_
  refine va_put (D := D) (ci := 4) (v := .int 1) (ty := .boolean) (C := RX4) (T := TX4) (N := 5) hx hb hts hinX4 tyX4 tyX4_ok nmX4 hown hK hP hD hS 0 rfl rfl 4 (by decide) (hts (.fieldLink RX4 31 "FirstOut$Text" "warRead" "Z") (by decide +kernel)) (fun _ h9 => h9) rfl (by decide +kernel) rfl rfl (Nat.le_of_ble_eq_true rfl) dX4_readWar_12 (fun H locs hP hD hS => ?_)
  have hP : va_P D vwCl (wTH cI cC cZ cS xA lA h tA dA eA (upd (upd tf 2 ((tf 2) + (1 : Int32))) 4 1) le hf tr de ea) H := hP
  have hD : va_D A (wTH cI cC cZ cS xA lA h tA dA eA (upd (upd tf 2 ((tf 2) + (1 : Int32))) 4 1) le hf tr de ea) := hD
  refine lv_aload_n hx hb dX4_readWar_15 rfl (lv_at hl 0 rfl) ?_
  refine lv_bipush (v := 10) hx hb dX4_readWar_16 (by decide) ?_
  have hPc := hP.sub (ws' := (wT cI cC cZ cS xA lA (upd (upd tf 2 ((tf 2) + (1 : Int32))) 4 1) le)) [0, 1] rfl
  have hDc := hD.sub (ws' := (wT cI cC cZ cS xA lA (upd (upd tf 2 ((tf 2) + (1 : Int32))) 4 1) le)) [0, 1] (by decide) rfl
  refine m_callM (W.runV (As := [.int 10]) (rest := []) ⟨hx, hb, hml, hown, hts⟩ (c_X4_readNumber l D cI cC cZ cS xA lA (upd (upd tf 2 ((tf 2) + (1 : Int32))) 4 1) le 10 len (ht0.far (Or.inr rfl) 1)) (cwV 1 hts gX4_readWar_X4_readNumber rfl rfl rfl (by decide +kernel) ⟨Nat.le_of_ble_eq_true rfl, Nat.le_of_ble_eq_true rfl⟩) (preV_of hPc hDc hE (va_recv hK hPc (ci := 4) (q0 := 0) rfl rfl)) rfl rfl hl.1 rfl (lv_room (Nat.le_of_ble_eq_true rfl)) dX4_readWar_18 ⟨Nat.zero_le _, Nat.zero_le _⟩) hP hD hS [0, 1] rfl wT_ad (fun H locs hP hD hS => ?_)
  have hP : va_P D vwCl (wTH cI cC cZ cS xA lA h tA dA eA ((d_X4_readNumber (upd (upd tf 2 ((tf 2) + (1 : Int32))) 4 1) le 10 len).2) le hf tr de ea) H := hP
  have hD : va_D A (wTH cI cC cZ cS xA lA h tA dA eA ((d_X4_readNumber (upd (upd tf 2 ((tf 2) + (1 : Int32))) 4 1) le 10 len).2) le hf tr de ea) := hD
  refine W.eq (g2 := F0 m 21 ls [.int ((d_X4_readNumber (upd (upd tf 2 ((tf 2) + (1 : Int32))) 4 1) le 10 len).1)]) rfl ?_
  have ht1 : TX (d_X4_readNumber (upd (upd tf 2 ((tf 2) + (1 : Int32))) 4 1) le 10 len).2 len := rn_TX (ht0.far (Or.inr rfl) 1)
  refine opq (d_X4_readNumber (upd (upd tf 2 ((tf 2) + (1 : Int32))) 4 1) le 10 len) (fun r_1 hr_1 => ?_)
  try rw [hr_1] at hP
  try rw [hr_1] at hD
  try rw [hr_1] at hres
  try rw [hr_1] at ht1
  try rw [hr_1]
  refine lv_istore_n (lv' := [(2, .int r_1.1), (0, .ref xA), (1, .ref h)]) hx hb dX4_readWar_21 rfl hl (by decide) rfl (fun ls hl => ?_)
  refine lv_iload_n hx hb dX4_readWar_22 rfl (lv_at hl 0 rfl) ?_
  refine lv_if_ge (tgt := 30) hx hb dX4_readWar_23 (by decide) (fun c_2 => ?_) (fun c_2 => ?_)
  · skip
    rw [if_pos c_2] at hres
    refine lv_aload_n hx hb dX4_readWar_30 rfl (lv_at hl 1 rfl) ?_
    refine lv_bipush (v := 10) hx hb dX4_readWar_31 (by decide) ?_
    refine lv_iload_n hx hb dX4_readWar_33 rfl (lv_at hl 0 rfl) ?_
    refine lv_isub hx hb dX4_readWar_34 ?_
    have hPc := hP.sub (ws' := (wT cI cC cZ cS xA lA r_1.2 le)) [0, 1] rfl
    have hDc := hD.sub (ws' := (wT cI cC cZ cS xA lA r_1.2 le)) [0, 1] (by decide) rfl
    refine m_callM (W.runV (As := [.int ((10 : Int32) - r_1.1)]) (rest := []) ⟨hx, hb, hml, hown, hts⟩ (c_X4_readNumber l D cI cC cZ cS xA lA r_1.2 le ((10 : Int32) - r_1.1) len ht1) (cwV 1 hts gX4_readWar_X4_readNumber rfl rfl rfl (by decide +kernel) ⟨Nat.le_of_ble_eq_true rfl, Nat.le_of_ble_eq_true rfl⟩) (preV_of hPc hDc hE (va_recv hK hPc (ci := 4) (q0 := 0) rfl rfl)) rfl rfl hl.1 rfl (lv_room (Nat.le_of_ble_eq_true rfl)) dX4_readWar_35 ⟨Nat.zero_le _, Nat.zero_le _⟩) hP hD hS [0, 1] rfl wT_ad (fun H locs hP hD hS => ?_)
    have hP : va_P D vwCl (wTH cI cC cZ cS xA lA h tA dA eA ((d_X4_readNumber r_1.2 le ((10 : Int32) - r_1.1) len).2) le hf tr de ea) H := hP
    have hD : va_D A (wTH cI cC cZ cS xA lA h tA dA eA ((d_X4_readNumber r_1.2 le ((10 : Int32) - r_1.1) len).2) le hf tr de ea) := hD
    refine W.eq (g2 := F0 m 38 ls [.int ((d_X4_readNumber r_1.2 le ((10 : Int32) - r_1.1) len).1)]) rfl ?_
    have ht2 : TX (d_X4_readNumber r_1.2 le ((10 : Int32) - r_1.1) len).2 len := rn_TX ht1
    refine opq (d_X4_readNumber r_1.2 le ((10 : Int32) - r_1.1) len) (fun r_3 hr_3 => ?_)
    try rw [hr_3] at hP
    try rw [hr_3] at hD
    try rw [hr_3] at hres
    try rw [hr_3] at ht2
    try rw [hr_3]
    refine lv_istore_n (lv' := [(3, .int r_3.1), (2, .int r_1.1), (0, .ref xA), (1, .ref h)]) hx hb dX4_readWar_38 rfl hl (by decide) rfl (fun ls hl => ?_)
    refine lv_iload_n hx hb dX4_readWar_39 rfl (lv_at hl 0 rfl) ?_
    refine lv_if_ge (tgt := 47) hx hb dX4_readWar_40 (by decide) (fun c_4 => ?_) (fun c_4 => ?_)
    · skip
      rw [if_pos c_4] at hres
      refine lv_aload_n hx hb dX4_readWar_47 rfl (lv_at hl 2 rfl) ?_
      refine lv_sipush (v := 999) hx hb dX4_readWar_48 (by decide) ?_
      have hPc := hP.sub (ws' := (wT cI cC cZ cS xA lA r_3.2 le)) [0, 1] rfl
      have hDc := hD.sub (ws' := (wT cI cC cZ cS xA lA r_3.2 le)) [0, 1] (by decide) rfl
      refine m_callM (W.runV (As := [.int 999]) (rest := []) ⟨hx, hb, hml, hown, hts⟩ (c_X4_readNumber l D cI cC cZ cS xA lA r_3.2 le 999 len ht2) (cwV 1 hts gX4_readWar_X4_readNumber rfl rfl rfl (by decide +kernel) ⟨Nat.le_of_ble_eq_true rfl, Nat.le_of_ble_eq_true rfl⟩) (preV_of hPc hDc hE (va_recv hK hPc (ci := 4) (q0 := 0) rfl rfl)) rfl rfl hl.1 rfl (lv_room (Nat.le_of_ble_eq_true rfl)) dX4_readWar_51 ⟨Nat.zero_le _, Nat.zero_le _⟩) hP hD hS [0, 1] rfl wT_ad (fun H locs hP hD hS => ?_)
      have hP : va_P D vwCl (wTH cI cC cZ cS xA lA h tA dA eA ((d_X4_readNumber r_3.2 le 999 len).2) le hf tr de ea) H := hP
      have hD : va_D A (wTH cI cC cZ cS xA lA h tA dA eA ((d_X4_readNumber r_3.2 le 999 len).2) le hf tr de ea) := hD
      refine W.eq (g2 := F0 m 54 ls [.int ((d_X4_readNumber r_3.2 le 999 len).1)]) rfl ?_
      have ht3 : TX (d_X4_readNumber r_3.2 le 999 len).2 len := rn_TX ht2
      refine opq (d_X4_readNumber r_3.2 le 999 len) (fun r_5 hr_5 => ?_)
      try rw [hr_5] at hP
      try rw [hr_5] at hD
      try rw [hr_5] at hres
      try rw [hr_5] at ht3
      try rw [hr_5]
      refine lv_istore (lv' := [(4, .int r_5.1), (3, .int r_3.1), (2, .int r_1.1), (0, .ref xA), (1, .ref h)]) hx hb dX4_readWar_54 hl (by decide) rfl (fun ls hl => ?_)
      refine lv_iload hx hb dX4_readWar_56 (lv_at hl 0 rfl) ?_
      refine lv_if_lt (tgt := 68) hx hb dX4_readWar_58 (by decide) (fun c_6 => ?_) (fun c_6 => ?_)
      · skip
        rw [if_pos c_6] at hres
        refine lv_iconst (v := 0) hx hb dX4_readWar_68 (by decide) ?_
        rw [hres]
        exact W.zret (v := 0) hx hb hr rfl (fun t ht hW => ⟨rfl, by rw [ht]; exact hP, by rw [hA]; exact hS.F ht⟩) hS.2.2 dX4_readWar_69
      · skip
        rw [if_neg c_6] at hres
        refine lv_aload_n hx hb dX4_readWar_61 rfl (lv_at hl 3 rfl) ?_
        have hPc := hP.sub (ws' := (wT cI cC cZ cS xA lA r_5.2 le)) [0, 1] rfl
        have hDc := hD.sub (ws' := (wT cI cC cZ cS xA lA r_5.2 le)) [0, 1] (by decide) rfl
        refine m_callM (W.runV (As := []) (rest := []) ⟨hx, hb, hml, hown, hts⟩ (c_X4_readEnd l D cI cC cZ cS xA lA r_5.2 le len ht3) (cwV 0 hts gX4_readWar_X4_readEnd rfl rfl rfl (by decide +kernel) ⟨Nat.le_of_ble_eq_true rfl, Nat.le_of_ble_eq_true rfl⟩) (preV_of hPc hDc hE (va_recv hK hPc (ci := 4) (q0 := 0) rfl rfl)) rfl rfl hl.1 rfl (lv_room (Nat.le_of_ble_eq_true rfl)) dX4_readWar_62 ⟨Nat.zero_le _, Nat.zero_le _⟩) hP hD hS [0, 1] rfl wT_ad (fun H locs hP hD hS => ?_)
        have hP : va_P D vwCl (wTH cI cC cZ cS xA lA h tA dA eA ((d_X4_readEnd r_5.2 le).2) le hf tr de ea) H := hP
        have hD : va_D A (wTH cI cC cZ cS xA lA h tA dA eA ((d_X4_readEnd r_5.2 le).2) le hf tr de ea) := hD
        refine W.eq (g2 := F0 m 65 ls [.int ((d_X4_readEnd r_5.2 le).1)]) rfl ?_
        have ht4 : TX (d_X4_readEnd r_5.2 le).2 len := re_TX ht3
        refine opq (d_X4_readEnd r_5.2 le) (fun r_7 hr_7 => ?_)
        try rw [hr_7] at hP
        try rw [hr_7] at hD
        try rw [hr_7] at hres
        try rw [hr_7] at ht4
        try rw [hr_7]
        refine lv_if_ne (tgt := 70) hx hb dX4_readWar_65 (by decide) (fun c_8 => ?_) (fun c_8 => ?_)
        · skip
          rw [if_neg c_8] at hres
          refine lv_aload_n hx hb dX4_readWar_70 rfl (lv_at hl 4 rfl) ?_
          refine lv_iload_n hx hb dX4_readWar_71 rfl (lv_at hl 2 rfl) ?_
          refine va_put (D := D) (ci := 0) (v := .int r_1.1) (ty := .int) (C := RX0) (T := TX0) (N := 9) hx hb hts hinX0 tyX0 tyX0_ok nmX0 hown hK hP hD hS 2 rfl rfl 6 (by decide) (hts (.fieldLink RX4 68 "FirstOut$House" "chance" "I") (by decide +kernel)) (fun _ h9 => h9) rfl (by decide +kernel) rfl rfl (Nat.le_of_ble_eq_true rfl) dX4_readWar_72 (fun H locs hP hD hS => ?_)
          have hP : va_P D vwCl (wTH cI cC cZ cS xA lA h tA dA eA r_7.2 le (upd hf 6 r_1.1) tr de ea) H := hP
          have hD : va_D A (wTH cI cC cZ cS xA lA h tA dA eA r_7.2 le (upd hf 6 r_1.1) tr de ea) := hD
          refine lv_aload_n hx hb dX4_readWar_75 rfl (lv_at hl 4 rfl) ?_
          refine lv_iload_n hx hb dX4_readWar_76 rfl (lv_at hl 1 rfl) ?_
          refine va_put (D := D) (ci := 0) (v := .int r_3.1) (ty := .int) (C := RX0) (T := TX0) (N := 9) hx hb hts hinX0 tyX0 tyX0_ok nmX0 hown hK hP hD hS 2 rfl rfl 7 (by decide) (hts (.fieldLink RX4 71 "FirstOut$House" "help" "I") (by decide +kernel)) (fun _ h9 => h9) rfl (by decide +kernel) rfl rfl (Nat.le_of_ble_eq_true rfl) dX4_readWar_77 (fun H locs hP hD hS => ?_)
          have hP : va_P D vwCl (wTH cI cC cZ cS xA lA h tA dA eA r_7.2 le (upd (upd hf 6 r_1.1) 7 r_3.1) tr de ea) H := hP
          have hD : va_D A (wTH cI cC cZ cS xA lA h tA dA eA r_7.2 le (upd (upd hf 6 r_1.1) 7 r_3.1) tr de ea) := hD
          refine lv_aload_n hx hb dX4_readWar_80 rfl (lv_at hl 4 rfl) ?_
          refine lv_iload hx hb dX4_readWar_81 (lv_at hl 0 rfl) ?_
          refine va_put (D := D) (ci := 0) (v := .int r_5.1) (ty := .int) (C := RX0) (T := TX0) (N := 9) hx hb hts hinX0 tyX0 tyX0_ok nmX0 hown hK hP hD hS 2 rfl rfl 8 (by decide) (hts (.fieldLink RX4 74 "FirstOut$House" "worth" "I") (by decide +kernel)) (fun _ h9 => h9) rfl (by decide +kernel) rfl rfl (Nat.le_of_ble_eq_true rfl) dX4_readWar_83 (fun H locs hP hD hS => ?_)
          have hP : va_P D vwCl (wTH cI cC cZ cS xA lA h tA dA eA r_7.2 le (upd (upd (upd hf 6 r_1.1) 7 r_3.1) 8 r_5.1) tr de ea) H := hP
          have hD : va_D A (wTH cI cC cZ cS xA lA h tA dA eA r_7.2 le (upd (upd (upd hf 6 r_1.1) 7 r_3.1) 8 r_5.1) tr de ea) := hD
          refine lv_iconst (v := 1) hx hb dX4_readWar_86 (by decide) ?_
          rw [hres]
          exact W.zret (v := 1) hx hb hr rfl (fun t ht hW => ⟨rfl, by rw [ht]; exact hP, by rw [hA]; exact hS.F ht⟩) hS.2.2 dX4_readWar_87
        · skip
          rw [if_pos c_8] at hres
          refine lv_iconst (v := 0) hx hb dX4_readWar_68 (by decide) ?_
          rw [hres]
          exact W.zret (v := 0) hx hb hr rfl (fun t ht hW => ⟨rfl, by rw [ht]; exact hP, by rw [hA]; exact hS.F ht⟩) hS.2.2 dX4_readWar_69
    · skip
      rw [if_neg c_4] at hres
      refine lv_iconst (v := (-1)) hx hb dX4_readWar_43 (by decide) ?_
      refine lv_goto (tgt := 54) hx hb dX4_readWar_44 (by decide) ?_
      refine lv_istore (lv' := [(4, .int (-1)), (3, .int r_3.1), (2, .int r_1.1), (0, .ref xA), (1, .ref h)]) hx hb dX4_readWar_54 hl (by decide) rfl (fun ls hl => ?_)
      refine lv_iload hx hb dX4_readWar_56 (lv_at hl 0 rfl) ?_
      refine lv_if_lt (tgt := 68) hx hb dX4_readWar_58 (by decide) (fun c_9 => ?_) (fun c_9 => ?_)
      · skip
        refine lv_iconst (v := 0) hx hb dX4_readWar_68 (by decide) ?_
        rw [hres]
        exact W.zret (v := 0) hx hb hr rfl (fun t ht hW => ⟨rfl, by rw [ht]; exact hP, by rw [hA]; exact hS.F ht⟩) hS.2.2 dX4_readWar_69
      · exact absurd c_9 (by decide)
  · skip
    rw [if_neg c_2] at hres
    refine lv_iconst (v := (-1)) hx hb dX4_readWar_26 (by decide) ?_
    refine lv_goto (tgt := 38) hx hb dX4_readWar_27 (by decide) ?_
    refine lv_istore_n (lv' := [(3, .int (-1)), (2, .int r_1.1), (0, .ref xA), (1, .ref h)]) hx hb dX4_readWar_38 rfl hl (by decide) rfl (fun ls hl => ?_)
    refine lv_iload_n hx hb dX4_readWar_39 rfl (lv_at hl 0 rfl) ?_
    refine lv_if_ge (tgt := 47) hx hb dX4_readWar_40 (by decide) (fun c_10 => ?_) (fun c_10 => ?_)
    · exact absurd c_10 (by decide)
    · skip
      refine lv_iconst (v := (-1)) hx hb dX4_readWar_43 (by decide) ?_
      refine lv_goto (tgt := 54) hx hb dX4_readWar_44 (by decide) ?_
      refine lv_istore (lv' := [(4, .int (-1)), (3, .int (-1)), (2, .int r_1.1), (0, .ref xA), (1, .ref h)]) hx hb dX4_readWar_54 hl (by decide) rfl (fun ls hl => ?_)
      refine lv_iload hx hb dX4_readWar_56 (lv_at hl 0 rfl) ?_
      refine lv_if_lt (tgt := 68) hx hb dX4_readWar_58 (by decide) (fun c_11 => ?_) (fun c_11 => ?_)
      · skip
        refine lv_iconst (v := 0) hx hb dX4_readWar_68 (by decide) ?_
        rw [hres]
        exact W.zret (v := 0) hx hb hr rfl (fun t ht hW => ⟨rfl, by rw [ht]; exact hP, by rw [hA]; exact hS.F ht⟩) hS.2.2 dX4_readWar_69
      · exact absurd c_11 (by decide)
def d_X4_readItem (tf : Nat → Int32) (le : Nat → Int32) (hf : Nat → Int32) (tr : Nat → Int32) (de : Nat → Int32) (ea : Nat → Int32) (len : Nat) (n : Nat) : Int32 × (Nat → Int32) × (Nat → Int32) × (Nat → Int32) × (Nat → Int32) × (Nat → Int32) :=
  if (le ((tf 2).toNatClampNeg)) = 116 then
      if (d_X0_hasRoom hf) = 0 then
        (0, tf, hf, tr, de, ea)
      else
        if ((d_X4_readThing tf le hf tr de ea len n).1) = 0 then
          (0, ((d_X4_readThing tf le hf tr de ea len n).2.1), ((d_X4_readThing tf le hf tr de ea len n).2.2.1), ((d_X4_readThing tf le hf tr de ea len n).2.2.2.1), ((d_X4_readThing tf le hf tr de ea len n).2.2.2.2.1), ((d_X4_readThing tf le hf tr de ea len n).2.2.2.2.2))
        else
          (1, ((d_X4_readThing tf le hf tr de ea len n).2.1), ((d_X4_readThing tf le hf tr de ea len n).2.2.1), ((d_X4_readThing tf le hf tr de ea len n).2.2.2.1), ((d_X4_readThing tf le hf tr de ea len n).2.2.2.2.1), ((d_X4_readThing tf le hf tr de ea len n).2.2.2.2.2))
    else
      if (le ((tf 2).toNatClampNeg)) = 117 then
        (0, tf, hf, tr, de, ea)
      else
        if (le ((tf 2).toNatClampNeg)) = 118 then
          if (tf 3) = 0 then
            if ((d_X4_readVow tf le hf tr de ea len).1) = 0 then
              (0, ((d_X4_readVow tf le hf tr de ea len).2.1), ((d_X4_readVow tf le hf tr de ea len).2.2.1), ((d_X4_readVow tf le hf tr de ea len).2.2.2.1), ((d_X4_readVow tf le hf tr de ea len).2.2.2.2.1), ((d_X4_readVow tf le hf tr de ea len).2.2.2.2.2))
            else
              (1, ((d_X4_readVow tf le hf tr de ea len).2.1), ((d_X4_readVow tf le hf tr de ea len).2.2.1), ((d_X4_readVow tf le hf tr de ea len).2.2.2.1), ((d_X4_readVow tf le hf tr de ea len).2.2.2.2.1), ((d_X4_readVow tf le hf tr de ea len).2.2.2.2.2))
          else
            (0, tf, hf, tr, de, ea)
        else
          if (le ((tf 2).toNatClampNeg)) = 119 then
            if (tf 4) = 0 then
              if ((d_X4_readWar tf le hf tr de ea len).1) = 0 then
                (0, ((d_X4_readWar tf le hf tr de ea len).2.1), ((d_X4_readWar tf le hf tr de ea len).2.2.1), ((d_X4_readWar tf le hf tr de ea len).2.2.2.1), ((d_X4_readWar tf le hf tr de ea len).2.2.2.2.1), ((d_X4_readWar tf le hf tr de ea len).2.2.2.2.2))
              else
                (1, ((d_X4_readWar tf le hf tr de ea len).2.1), ((d_X4_readWar tf le hf tr de ea len).2.2.1), ((d_X4_readWar tf le hf tr de ea len).2.2.2.1), ((d_X4_readWar tf le hf tr de ea len).2.2.2.2.1), ((d_X4_readWar tf le hf tr de ea len).2.2.2.2.2))
            else
              (0, tf, hf, tr, de, ea)
          else
            (0, tf, hf, tr, de, ea)
set_option maxHeartbeats 4000000 in
set_option maxRecDepth 100000 in
theorem c_X4_readItem (l : Launch) (D : va_G) (cI cC cZ cS : ClassId) (xA : Nat) (lA : Nat) (h : Nat) (tA : Nat) (dA : Nat) (eA : Nat) (tf : Nat → Int32) (le : Nat → Int32) (hf : Nat → Int32) (tr : Nat → Int32) (de : Nat → Int32) (ea : Nat → Int32) (len : Nat) (n : Nat) (ht : TX tf len) (hat : ¬ tf 1 ≤ tf 2) (hn : hf 3 = nI n) (h7 : n ≤ 7) : Met l yX4_readItem wsX4_readItem { frames := 3, cells := 0, slots := 0, locals := 69 } (PcE D cI cC cZ cS [.ref xA, .ref h] (wTH cI cC cZ cS xA lA h tA dA eA tf le hf tr de ea)) (QcM (some (.int ((d_X4_readItem tf le hf tr de ea len n).1))) D (wTH cI cC cZ cS xA lA h tA dA eA tf le hf tr de ea) (wTH cI cC cZ cS xA lA h tA dA eA ((d_X4_readItem tf le hf tr de ea len n).2.1) le ((d_X4_readItem tf le hf tr de ea len n).2.2.1) ((d_X4_readItem tf le hf tr de ea len n).2.2.2.1) ((d_X4_readItem tf le hf tr de ea len n).2.2.2.2.1) ((d_X4_readItem tf le hf tr de ea len n).2.2.2.2.2))) 0 0 (inW (wTH cI cC cZ cS xA lA h tA dA eA tf le hf tr de ea)) := by
  refine Met.ofW (cc := cX4_readItem) (maxL := 2) (ret := (some .boolean)) (by decide) rfl ?_
  intro p e s m args below meth c s₁ B hml hv
  obtain ⟨rfl, hP, hD, hE⟩ := hv
  have hK := hE.1
  have hx := B.exec
  have hb := B.bytes
  have hr := B.returns
  have hts := atoms_spec (ws := wsX4_readItem) B.pre
  have hown : s.vm.findClass RX4 = some m.cls := findClass_of_methodNamed B.named
  have hlocks := B.notSynchronized
  have hinX4 : ∀ w ∈ wsX40, w ∈ wsX4_readItem := by decide +kernel
  have hD := inW_self hD
  have hS : va_S (inW (wTH cI cC cZ cS xA lA h tA dA eA tf le hf tr de ea)) s.heap s.heap [] := va_S.rf
  generalize hA : inW (wTH cI cC cZ cS xA lA h tA dA eA tf le hf tr de ea) = A at hD hS ⊢
  refine opq (d_X4_readItem tf le hf tr de ea len n) (fun R hres => ?_)
  rw [hres]
  replace hres := hres.symm
  rw [d_X4_readItem] at hres
  have hl := lv_entry ([.ref xA, .ref h]) (n := 2) (Nat.le_of_ble_eq_true rfl)
  rw [lg_entry_eq]
  generalize (lg_sl ([.ref xA, .ref h]) ++ List.replicate (2 - (lg_sl ([.ref xA, .ref h])).length) Slot.unset).toArray = ls at hl ⊢
  have hl : lv_has ls 2 [(0, .ref xA), (1, .ref h)] := hl
  have hix := ht.ix hat
  refine lv_aload_n hx hb dX4_readItem_0 rfl (lv_at hl 0 rfl) ?_
  refine va_get (D := D) (ci := 4) (v := .ref lA) (C := RX4) (T := TX4) (N := 5) hx hb hts hinX4 hown hK hP 0 rfl rfl 0 (by decide) (hts (.fieldLink RX4 9 "FirstOut$Text" "letters" "[C") (by decide +kernel)) (fun _ h9 => h9) rfl dX4_readItem_1 ?_
  refine lv_aload_n hx hb dX4_readItem_4 rfl (lv_at hl 0 rfl) ?_
  refine va_get (D := D) (ci := 4) (v := .int (tf 2)) (C := RX4) (T := TX4) (N := 5) hx hb hts hinX4 hown hK hP 0 rfl rfl 2 (by decide) (hts (.fieldLink RX4 24 "FirstOut$Text" "at" "I") (by decide +kernel)) (fun _ h9 => h9) rfl dX4_readItem_5 ?_
  refine m_cald hx hb hK hP 1 1 rfl rfl ((tf 2).toNatClampNeg) hix.1 hix.2.1 (by decide) dX4_readItem_8 ?_
  refine lv_to (show _ = (le ((tf 2).toNatClampNeg)) from rfl) ?_
  by_cases c_1 : (le ((tf 2).toNatClampNeg)) = 116
  · rw [if_pos c_1] at hres
    refine lv_tableIn (off := 31) (tgt := 40) hx hb dX4_readItem_9 (by rw [c_1]; decide) (by rw [c_1]; decide) (by rw [c_1]; rfl) (by decide) ?_
    refine lv_aload_n hx hb dX4_readItem_40 rfl (lv_at hl 1 rfl) ?_
    have hPc := hP.sub (ws' := (wH cI cC cZ cS h tA dA eA hf tr de ea)) [2, 3, 4, 5] rfl
    have hDc := hD.sub (ws' := (wH cI cC cZ cS h tA dA eA hf tr de ea)) [2, 3, 4, 5] (by decide) rfl
    refine m_callR (W.runV (As := []) (rest := []) ⟨hx, hb, hml, hown, hts⟩ (c_X0_hasRoom l D cI cC cZ cS h tA dA eA hf tr de ea) (cwV 0 hts gX4_readItem_X0_hasRoom rfl rfl rfl (by decide +kernel) ⟨Nat.le_of_ble_eq_true rfl, Nat.le_of_ble_eq_true rfl⟩) (preV_of hPc hDc hE (va_recv hK hPc (ci := 0) (q0 := 0) rfl rfl)) rfl rfl hl.1 rfl (lv_room (Nat.le_of_ble_eq_true rfl)) dX4_readItem_41 ⟨Nat.zero_le _, Nat.zero_le _⟩) ?_
    refine W.eq (g2 := F0 m 44 ls [.int (d_X0_hasRoom hf)]) rfl ?_
    refine lv_if_eq (tgt := 59) hx hb dX4_readItem_44 (by decide) (fun c_2 => ?_) (fun c_2 => ?_)
    · skip
      rw [if_pos c_2] at hres
      refine lv_iconst (v := 0) hx hb dX4_readItem_59 (by decide) ?_
      rw [hres]
      exact W.zret (v := 0) hx hb hr rfl (fun t ht hW => ⟨rfl, by rw [ht]; exact hP, by rw [hA]; exact hS.F ht⟩) hS.2.2 dX4_readItem_60
    · skip
      rw [if_neg c_2] at hres
      refine lv_aload_n hx hb dX4_readItem_47 rfl (lv_at hl 0 rfl) ?_
      refine lv_aload_n hx hb dX4_readItem_48 rfl (lv_at hl 1 rfl) ?_
      have hPc := hP.sub (ws' := (wTH cI cC cZ cS xA lA h tA dA eA tf le hf tr de ea)) [0, 1, 2, 3, 4, 5] rfl
      have hDc := hD.sub (ws' := (wTH cI cC cZ cS xA lA h tA dA eA tf le hf tr de ea)) [0, 1, 2, 3, 4, 5] (by decide) rfl
      refine m_callM (W.runV (As := [.ref h]) (rest := []) ⟨hx, hb, hml, hown, hts⟩ (c_X4_readThing l D cI cC cZ cS xA lA h tA dA eA tf le hf tr de ea len n ht hat hn h7) (cwV 1 hts gX4_readItem_X4_readThing rfl rfl rfl (by decide +kernel) ⟨Nat.le_of_ble_eq_true rfl, Nat.le_of_ble_eq_true rfl⟩) (preV_of hPc hDc hE (va_recv hK hPc (ci := 4) (q0 := 0) rfl rfl)) rfl rfl hl.1 rfl (lv_room (Nat.le_of_ble_eq_true rfl)) dX4_readItem_49 ⟨Nat.zero_le _, Nat.zero_le _⟩) hP hD hS [0, 1, 2, 3, 4, 5] rfl wTH_ad (fun H locs hP hD hS => ?_)
      have hP : va_P D vwCl (wTH cI cC cZ cS xA lA h tA dA eA ((d_X4_readThing tf le hf tr de ea len n).2.1) le ((d_X4_readThing tf le hf tr de ea len n).2.2.1) ((d_X4_readThing tf le hf tr de ea len n).2.2.2.1) ((d_X4_readThing tf le hf tr de ea len n).2.2.2.2.1) ((d_X4_readThing tf le hf tr de ea len n).2.2.2.2.2)) H := hP
      have hD : va_D A (wTH cI cC cZ cS xA lA h tA dA eA ((d_X4_readThing tf le hf tr de ea len n).2.1) le ((d_X4_readThing tf le hf tr de ea len n).2.2.1) ((d_X4_readThing tf le hf tr de ea len n).2.2.2.1) ((d_X4_readThing tf le hf tr de ea len n).2.2.2.2.1) ((d_X4_readThing tf le hf tr de ea len n).2.2.2.2.2)) := hD
      refine W.eq (g2 := F0 m 52 ls [.int ((d_X4_readThing tf le hf tr de ea len n).1)]) rfl ?_
      refine opq (d_X4_readThing tf le hf tr de ea len n) (fun r_3 hr_3 => ?_)
      try rw [hr_3] at hP
      try rw [hr_3] at hD
      try rw [hr_3] at hres
      try rw [hr_3]
      refine lv_if_eq (tgt := 59) hx hb dX4_readItem_52 (by decide) (fun c_4 => ?_) (fun c_4 => ?_)
      · skip
        rw [if_pos c_4] at hres
        refine lv_iconst (v := 0) hx hb dX4_readItem_59 (by decide) ?_
        rw [hres]
        exact W.zret (v := 0) hx hb hr rfl (fun t ht hW => ⟨rfl, by rw [ht]; exact hP, by rw [hA]; exact hS.F ht⟩) hS.2.2 dX4_readItem_60
      · skip
        rw [if_neg c_4] at hres
        refine lv_iconst (v := 1) hx hb dX4_readItem_55 (by decide) ?_
        refine lv_goto (tgt := 60) hx hb dX4_readItem_56 (by decide) ?_
        rw [hres]
        exact W.zret (v := 1) hx hb hr rfl (fun t ht hW => ⟨rfl, by rw [ht]; exact hP, by rw [hA]; exact hS.F ht⟩) hS.2.2 dX4_readItem_60
  · rw [if_neg c_1] at hres
    by_cases c_5 : (le ((tf 2).toNatClampNeg)) = 117
    · rw [if_pos c_5] at hres
      refine lv_tableIn (off := 94) (tgt := 103) hx hb dX4_readItem_9 (by rw [c_5]; decide) (by rw [c_5]; decide) (by rw [c_5]; rfl) (by decide) ?_
      refine lv_iconst (v := 0) hx hb dX4_readItem_103 (by decide) ?_
      rw [hres]
      exact W.zret (v := 0) hx hb hr rfl (fun t ht hW => ⟨rfl, by rw [ht]; exact hP, by rw [hA]; exact hS.F ht⟩) hS.2.2 dX4_readItem_104
    · rw [if_neg c_5] at hres
      by_cases c_6 : (le ((tf 2).toNatClampNeg)) = 118
      · rw [if_pos c_6] at hres
        refine lv_tableIn (off := 52) (tgt := 61) hx hb dX4_readItem_9 (by rw [c_6]; decide) (by rw [c_6]; decide) (by rw [c_6]; rfl) (by decide) ?_
        refine lv_aload_n hx hb dX4_readItem_61 rfl (lv_at hl 0 rfl) ?_
        refine va_get (D := D) (ci := 4) (v := .int (tf 3)) (C := RX4) (T := TX4) (N := 5) hx hb hts hinX4 hown hK hP 0 rfl rfl 3 (by decide) (hts (.fieldLink RX4 27 "FirstOut$Text" "vowRead" "Z") (by decide +kernel)) (fun _ h9 => h9) rfl dX4_readItem_62 ?_
        refine lv_if_ne (tgt := 80) hx hb dX4_readItem_65 (by decide) (fun c_7 => ?_) (fun c_7 => ?_)
        · skip
          rw [if_neg c_7] at hres
          refine lv_iconst (v := 0) hx hb dX4_readItem_80 (by decide) ?_
          rw [hres]
          exact W.zret (v := 0) hx hb hr rfl (fun t ht hW => ⟨rfl, by rw [ht]; exact hP, by rw [hA]; exact hS.F ht⟩) hS.2.2 dX4_readItem_81
        · skip
          rw [if_pos c_7] at hres
          refine lv_aload_n hx hb dX4_readItem_68 rfl (lv_at hl 0 rfl) ?_
          refine lv_aload_n hx hb dX4_readItem_69 rfl (lv_at hl 1 rfl) ?_
          have hPc := hP.sub (ws' := (wTH cI cC cZ cS xA lA h tA dA eA tf le hf tr de ea)) [0, 1, 2, 3, 4, 5] rfl
          have hDc := hD.sub (ws' := (wTH cI cC cZ cS xA lA h tA dA eA tf le hf tr de ea)) [0, 1, 2, 3, 4, 5] (by decide) rfl
          refine m_callM (W.runV (As := [.ref h]) (rest := []) ⟨hx, hb, hml, hown, hts⟩ (c_X4_readVow l D cI cC cZ cS xA lA h tA dA eA tf le hf tr de ea len n ht hat hn h7) (cwV 1 hts gX4_readItem_X4_readVow rfl rfl rfl (by decide +kernel) ⟨Nat.le_of_ble_eq_true rfl, Nat.le_of_ble_eq_true rfl⟩) (preV_of hPc hDc hE (va_recv hK hPc (ci := 4) (q0 := 0) rfl rfl)) rfl rfl hl.1 rfl (lv_room (Nat.le_of_ble_eq_true rfl)) dX4_readItem_70 ⟨Nat.zero_le _, Nat.zero_le _⟩) hP hD hS [0, 1, 2, 3, 4, 5] rfl wTH_ad (fun H locs hP hD hS => ?_)
          have hP : va_P D vwCl (wTH cI cC cZ cS xA lA h tA dA eA ((d_X4_readVow tf le hf tr de ea len).2.1) le ((d_X4_readVow tf le hf tr de ea len).2.2.1) ((d_X4_readVow tf le hf tr de ea len).2.2.2.1) ((d_X4_readVow tf le hf tr de ea len).2.2.2.2.1) ((d_X4_readVow tf le hf tr de ea len).2.2.2.2.2)) H := hP
          have hD : va_D A (wTH cI cC cZ cS xA lA h tA dA eA ((d_X4_readVow tf le hf tr de ea len).2.1) le ((d_X4_readVow tf le hf tr de ea len).2.2.1) ((d_X4_readVow tf le hf tr de ea len).2.2.2.1) ((d_X4_readVow tf le hf tr de ea len).2.2.2.2.1) ((d_X4_readVow tf le hf tr de ea len).2.2.2.2.2)) := hD
          refine W.eq (g2 := F0 m 73 ls [.int ((d_X4_readVow tf le hf tr de ea len).1)]) rfl ?_
          refine opq (d_X4_readVow tf le hf tr de ea len) (fun r_8 hr_8 => ?_)
          try rw [hr_8] at hP
          try rw [hr_8] at hD
          try rw [hr_8] at hres
          try rw [hr_8]
          refine lv_if_eq (tgt := 80) hx hb dX4_readItem_73 (by decide) (fun c_9 => ?_) (fun c_9 => ?_)
          · skip
            rw [if_pos c_9] at hres
            refine lv_iconst (v := 0) hx hb dX4_readItem_80 (by decide) ?_
            rw [hres]
            exact W.zret (v := 0) hx hb hr rfl (fun t ht hW => ⟨rfl, by rw [ht]; exact hP, by rw [hA]; exact hS.F ht⟩) hS.2.2 dX4_readItem_81
          · skip
            rw [if_neg c_9] at hres
            refine lv_iconst (v := 1) hx hb dX4_readItem_76 (by decide) ?_
            refine lv_goto (tgt := 81) hx hb dX4_readItem_77 (by decide) ?_
            rw [hres]
            exact W.zret (v := 1) hx hb hr rfl (fun t ht hW => ⟨rfl, by rw [ht]; exact hP, by rw [hA]; exact hS.F ht⟩) hS.2.2 dX4_readItem_81
      · rw [if_neg c_6] at hres
        by_cases c_10 : (le ((tf 2).toNatClampNeg)) = 119
        · rw [if_pos c_10] at hres
          refine lv_tableIn (off := 73) (tgt := 82) hx hb dX4_readItem_9 (by rw [c_10]; decide) (by rw [c_10]; decide) (by rw [c_10]; rfl) (by decide) ?_
          refine lv_aload_n hx hb dX4_readItem_82 rfl (lv_at hl 0 rfl) ?_
          refine va_get (D := D) (ci := 4) (v := .int (tf 4)) (C := RX4) (T := TX4) (N := 5) hx hb hts hinX4 hown hK hP 0 rfl rfl 4 (by decide) (hts (.fieldLink RX4 31 "FirstOut$Text" "warRead" "Z") (by decide +kernel)) (fun _ h9 => h9) rfl dX4_readItem_83 ?_
          refine lv_if_ne (tgt := 101) hx hb dX4_readItem_86 (by decide) (fun c_11 => ?_) (fun c_11 => ?_)
          · skip
            rw [if_neg c_11] at hres
            refine lv_iconst (v := 0) hx hb dX4_readItem_101 (by decide) ?_
            rw [hres]
            exact W.zret (v := 0) hx hb hr rfl (fun t ht hW => ⟨rfl, by rw [ht]; exact hP, by rw [hA]; exact hS.F ht⟩) hS.2.2 dX4_readItem_102
          · skip
            rw [if_pos c_11] at hres
            refine lv_aload_n hx hb dX4_readItem_89 rfl (lv_at hl 0 rfl) ?_
            refine lv_aload_n hx hb dX4_readItem_90 rfl (lv_at hl 1 rfl) ?_
            have hPc := hP.sub (ws' := (wTH cI cC cZ cS xA lA h tA dA eA tf le hf tr de ea)) [0, 1, 2, 3, 4, 5] rfl
            have hDc := hD.sub (ws' := (wTH cI cC cZ cS xA lA h tA dA eA tf le hf tr de ea)) [0, 1, 2, 3, 4, 5] (by decide) rfl
            refine m_callM (W.runV (As := [.ref h]) (rest := []) ⟨hx, hb, hml, hown, hts⟩ (c_X4_readWar l D cI cC cZ cS xA lA h tA dA eA tf le hf tr de ea len n ht hat hn h7) (cwV 1 hts gX4_readItem_X4_readWar rfl rfl rfl (by decide +kernel) ⟨Nat.le_of_ble_eq_true rfl, Nat.le_of_ble_eq_true rfl⟩) (preV_of hPc hDc hE (va_recv hK hPc (ci := 4) (q0 := 0) rfl rfl)) rfl rfl hl.1 rfl (lv_room (Nat.le_of_ble_eq_true rfl)) dX4_readItem_91 ⟨Nat.zero_le _, Nat.zero_le _⟩) hP hD hS [0, 1, 2, 3, 4, 5] rfl wTH_ad (fun H locs hP hD hS => ?_)
            have hP : va_P D vwCl (wTH cI cC cZ cS xA lA h tA dA eA ((d_X4_readWar tf le hf tr de ea len).2.1) le ((d_X4_readWar tf le hf tr de ea len).2.2.1) ((d_X4_readWar tf le hf tr de ea len).2.2.2.1) ((d_X4_readWar tf le hf tr de ea len).2.2.2.2.1) ((d_X4_readWar tf le hf tr de ea len).2.2.2.2.2)) H := hP
            have hD : va_D A (wTH cI cC cZ cS xA lA h tA dA eA ((d_X4_readWar tf le hf tr de ea len).2.1) le ((d_X4_readWar tf le hf tr de ea len).2.2.1) ((d_X4_readWar tf le hf tr de ea len).2.2.2.1) ((d_X4_readWar tf le hf tr de ea len).2.2.2.2.1) ((d_X4_readWar tf le hf tr de ea len).2.2.2.2.2)) := hD
            refine W.eq (g2 := F0 m 94 ls [.int ((d_X4_readWar tf le hf tr de ea len).1)]) rfl ?_
            refine opq (d_X4_readWar tf le hf tr de ea len) (fun r_12 hr_12 => ?_)
            try rw [hr_12] at hP
            try rw [hr_12] at hD
            try rw [hr_12] at hres
            try rw [hr_12]
            refine lv_if_eq (tgt := 101) hx hb dX4_readItem_94 (by decide) (fun c_13 => ?_) (fun c_13 => ?_)
            · skip
              rw [if_pos c_13] at hres
              refine lv_iconst (v := 0) hx hb dX4_readItem_101 (by decide) ?_
              rw [hres]
              exact W.zret (v := 0) hx hb hr rfl (fun t ht hW => ⟨rfl, by rw [ht]; exact hP, by rw [hA]; exact hS.F ht⟩) hS.2.2 dX4_readItem_102
            · skip
              rw [if_neg c_13] at hres
              refine lv_iconst (v := 1) hx hb dX4_readItem_97 (by decide) ?_
              refine lv_goto (tgt := 102) hx hb dX4_readItem_98 (by decide) ?_
              rw [hres]
              exact W.zret (v := 1) hx hb hr rfl (fun t ht hW => ⟨rfl, by rw [ht]; exact hP, by rw [hA]; exact hS.F ht⟩) hS.2.2 dX4_readItem_102
        · rw [if_neg c_10] at hres
          refine lv_tableOut (tgt := 103) hx hb dX4_readItem_9 (tb_out 116 119 (by decide) (fun k h1 h2 => by rcases (show k = 116 ∨ k = 117 ∨ k = 118 ∨ k = 119 by omega) with rfl | rfl | rfl | rfl <;> assumption)) (by decide) ?_
          refine lv_iconst (v := 0) hx hb dX4_readItem_103 (by decide) ?_
          rw [hres]
          exact W.zret (v := 0) hx hb hr rfl (fun t ht hW => ⟨rfl, by rw [ht]; exact hP, by rw [hA]; exact hS.F ht⟩) hS.2.2 dX4_readItem_104
