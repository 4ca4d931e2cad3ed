theorem ne200 {u : Nat} (c : ¬ nI u = 200) (h : u ≤ 200) : u < 200 := by
  rcases Nat.lt_or_ge u 200 with q | q
  · exact q
  · have e : u = 200 := by omega
    subst e; exact absurd rfl c
theorem ne6 {u : Nat} (c : ¬ nI u = 6) (h : u ≤ 6) : u < 6 := by
  rcases Nat.lt_or_ge u 6 with q | q
  · exact q
  · have e : u = 6 := by omega
    subst e; exact absurd rfl c
theorem asNow_0 {ss ww : Nat → Int32} : d_X6_asNow ss ww 0 = ss 0 := rfl

def d_X6_goes (tr : Nat → Int32) (ea : Nat → Int32) (g : Nat → Int32) (n : Nat) (zz : Nat) (dd : Nat) : Int32 × (Nat → Int32) :=
  if (d_X6_comesBy tr ea g n zz dd) = (-9 : Int32) then
      (d_X6_comesBy tr ea g n zz dd, (upd (upd g 4 ((g 4) ||| (0 : Int32))) 0 ((nI dd) + (1 : Int32))))
    else
      (d_X6_comesBy tr ea g n zz dd, (upd (upd g 4 ((g 4) ||| ((d_X6_covered tr g n) &&& ((1 : Int32) <<< ((d_X6_comesBy tr ea g n zz dd) &&& 31))))) 0 ((nI dd) + (1 : Int32))))
set_option maxHeartbeats 4000000 in
set_option maxRecDepth 100000 in
theorem c_X6_goes (l : Launch) (D : va_G) (cI cC cZ cS : ClassId) (a : Nat → Nat) (f : Nat → Int32) (mn : Nat → Int32) (tr : Nat → Int32) (de : Nat → Int32) (ea : Nat → Int32) (rA : Nat) (g : Nat → Int32) (tc : Int64) (z : Int32) (n : Nat) (zz : Nat) (dd : Nat) (hn : mn 0 = nI n) (h7 : n ≤ 7) (hea : EA ea n) (hz : z = nI zz) (hz9 : zz ≤ 9999) (hd : g 0 = nI dd) (hd9 : dd ≤ 1100) : Met l yX6_goes wsX6_goes { frames := 4, cells := 0, slots := 0, locals := 96 } (PcE D cI cC cZ cS [.ref (a 0), .ref rA, .int z] (w5r cI cC cZ cS a f mn tr de ea rA g tc)) (QcM (some (.int ((d_X6_goes tr ea g n zz dd).1))) D (w5r cI cC cZ cS a f mn tr de ea rA g tc) (w5r cI cC cZ cS a f mn tr de ea rA ((d_X6_goes tr ea g n zz dd).2) tc)) 0 0 (inW (w5r cI cC cZ cS a f mn tr de ea rA g tc)) := by
  refine Met.ofW (cc := cX6_goes) (maxL := 4) (ret := (some .int)) (by decide) rfl ?_
  intro p e s m args below meth c s₁ B hml hv
  obtain ⟨rfl, hP, hD, hE⟩ := hv
  have hK := hE.1
  have hx := B.exec
  have hb := B.bytes
  have hr := B.returns
  have hts := atoms_spec (ws := wsX6_goes) B.pre
  have hown : s.vm.findClass RX6 = some m.cls := findClass_of_methodNamed B.named
  have hlocks := B.notSynchronized
  have hD := inW_self hD
  have hS : va_S (inW (w5r cI cC cZ cS a f mn tr de ea rA g tc)) s.heap s.heap [] := va_S.rf
  generalize hA : inW (w5r cI cC cZ cS a f mn tr de ea rA g tc) = A at hD hS ⊢
  refine opq (d_X6_goes tr ea g n zz dd) (fun R hres => ?_)
  rw [hres]
  replace hres := hres.symm
  rw [d_X6_goes] at hres
  have hl := lv_entry ([.ref (a 0), .ref rA, .int z]) (n := 4) (Nat.le_of_ble_eq_true rfl)
  rw [lg_entry_eq]
  generalize (lg_sl ([.ref (a 0), .ref rA, .int z]) ++ List.replicate (4 - (lg_sl ([.ref (a 0), .ref rA, .int z])).length) Slot.unset).toArray = ls at hl ⊢
  have hl : lv_has ls 4 [(0, .ref (a 0)), (1, .ref rA), (2, .int z)] := hl
  refine lv_aload_n hx hb dX6_goes_0 rfl (lv_at hl 0 rfl) ?_
  refine lv_aload_n hx hb dX6_goes_1 rfl (lv_at hl 1 rfl) ?_
  refine lv_iload_n hx hb dX6_goes_2 rfl (lv_at hl 2 rfl) ?_
  have hPc := hP.sub (ws' := (w5r cI cC cZ cS a f mn tr de ea rA g tc)) [0, 1, 2, 3, 4, 5] rfl
  have hDc := hD.sub (ws' := (w5r cI cC cZ cS a f mn tr de ea rA g tc)) [0, 1, 2, 3, 4, 5] (by decide) rfl
  refine m_callR (W.runV (As := [.ref rA, .int z]) (rest := []) ⟨hx, hb, hml, hown, hts⟩ (c_X6_comesBy l D cI cC cZ cS a f mn tr de ea rA g tc z n zz dd hn h7 hea hz hz9 hd hd9) (cwV 2 hts gX6_goes_X6_comesBy rfl rfl rfl (by decide +kernel) ⟨Nat.le_of_ble_eq_true rfl, Nat.le_of_ble_eq_true rfl⟩) (preV_of hPc hDc hE (va_recv hK hPc (ci := 6) (q0 := 0) rfl rfl)) rfl rfl hl.1 rfl (lv_room (Nat.le_of_ble_eq_true rfl)) dX6_goes_3 ⟨Nat.zero_le _, Nat.zero_le _⟩) ?_
  refine W.eq (g2 := F0 m 6 ls [.int (d_X6_comesBy tr ea g n zz dd)]) rfl ?_
  refine lv_istore_n (lv' := [(3, .int (d_X6_comesBy tr ea g n zz dd)), (0, .ref (a 0)), (1, .ref rA), (2, .int z)]) hx hb dX6_goes_6 rfl hl (by decide) rfl (fun ls hl => ?_)
  refine lv_aload_n hx hb dX6_goes_7 rfl (lv_at hl 2 rfl) ?_
  refine lv_iconst (v := 4) hx hb dX6_goes_8 (by decide) ?_
  refine lv_dup2_11 hx hb dX6_goes_9 rfl rfl ?_
  refine m_iald hx hb hK hP 5 0 rfl rfl 4 rfl (by decide) (by decide) dX6_goes_10 ?_
  refine lv_to (show _ = (g 4) from rfl) ?_
  refine lv_iload_n hx hb dX6_goes_11 rfl (lv_at hl 0 rfl) ?_
  refine lv_bipush (v := (-9)) hx hb dX6_goes_12 (by decide) ?_
  refine lv_icmp_ne (tgt := 21) hx hb dX6_goes_14 (by decide) (fun c_1 => ?_) (fun c_1 => ?_)
  · skip
    rw [if_neg c_1] at hres
    refine lv_aload_n hx hb dX6_goes_21 rfl (lv_at hl 1 rfl) ?_
    refine lv_aload_n hx hb dX6_goes_22 rfl (lv_at hl 2 rfl) ?_
    have hPc := hP.sub (ws' := (w5r cI cC cZ cS a f mn tr de ea rA g tc)) [0, 1, 2, 3, 4, 5] rfl
    have hDc := hD.sub (ws' := (w5r cI cC cZ cS a f mn tr de ea rA g tc)) [0, 1, 2, 3, 4, 5] (by decide) rfl
    refine m_callR (W.runV (As := [.ref rA]) (rest := [.int (g 4), .int 4, .ref rA]) ⟨hx, hb, hml, hown, hts⟩ (c_X6_covered l D cI cC cZ cS a f mn tr de ea rA g tc n hn h7) (cwV 1 hts gX6_goes_X6_covered rfl rfl rfl (by decide +kernel) ⟨Nat.le_of_ble_eq_true rfl, Nat.le_of_ble_eq_true rfl⟩) (preV_of hPc hDc hE (va_recv hK hPc (ci := 6) (q0 := 0) rfl rfl)) rfl rfl hl.1 rfl (lv_room (Nat.le_of_ble_eq_true rfl)) dX6_goes_23 ⟨Nat.zero_le _, Nat.zero_le _⟩) ?_
    refine W.eq (g2 := F0 m 26 ls [.int (d_X6_covered tr g n), .int (g 4), .int 4, .ref rA]) rfl ?_
    refine lv_iconst (v := 1) hx hb dX6_goes_26 (by decide) ?_
    refine lv_iload_n hx hb dX6_goes_27 rfl (lv_at hl 0 rfl) ?_
    refine lv_ishl hx hb dX6_goes_28 ?_
    refine lv_iand hx hb dX6_goes_29 ?_
    refine lv_ior hx hb dX6_goes_30 ?_
    refine m_iast hx hb hK hP hD hS 5 0 rfl rfl 4 rfl (by decide) (by decide) dX6_goes_31 (fun H locs hP hD hS => ?_)
    have hP : va_P D vwCl (w5r cI cC cZ cS a f mn tr de ea rA (upd g 4 ((g 4) ||| ((d_X6_covered tr g n) &&& ((1 : Int32) <<< ((d_X6_comesBy tr ea g n zz dd) &&& 31))))) tc) H := hP
    have hD : va_D A (w5r cI cC cZ cS a f mn tr de ea rA (upd g 4 ((g 4) ||| ((d_X6_covered tr g n) &&& ((1 : Int32) <<< ((d_X6_comesBy tr ea g n zz dd) &&& 31))))) tc) := hD
    refine lv_aload_n hx hb dX6_goes_32 rfl (lv_at hl 2 rfl) ?_
    refine lv_iconst (v := 0) hx hb dX6_goes_33 (by decide) ?_
    refine lv_dup2_11 hx hb dX6_goes_34 rfl rfl ?_
    refine m_iald hx hb hK hP 5 0 rfl rfl 0 rfl (by decide) (by decide) dX6_goes_35 ?_
    refine lv_to (show _ = (g 0) from rfl) ?_
    refine lv_to (show (g 0) = nI dd from hd) ?_
    refine lv_iconst (v := 1) hx hb dX6_goes_36 (by decide) ?_
    refine lv_iadd hx hb dX6_goes_37 ?_
    refine m_iast hx hb hK hP hD hS 5 0 rfl rfl 0 rfl (by decide) (by decide) dX6_goes_38 (fun H locs hP hD hS => ?_)
    have hP : va_P D vwCl (w5r cI cC cZ cS a f mn tr de ea rA (upd (upd g 4 ((g 4) ||| ((d_X6_covered tr g n) &&& ((1 : Int32) <<< ((d_X6_comesBy tr ea g n zz dd) &&& 31))))) 0 ((nI dd) + (1 : Int32))) tc) H := hP
    have hD : va_D A (w5r cI cC cZ cS a f mn tr de ea rA (upd (upd g 4 ((g 4) ||| ((d_X6_covered tr g n) &&& ((1 : Int32) <<< ((d_X6_comesBy tr ea g n zz dd) &&& 31))))) 0 ((nI dd) + (1 : Int32))) tc) := hD
    refine lv_iload_n hx hb dX6_goes_39 rfl (lv_at hl 0 rfl) ?_
    rw [hres]
    exact W.iret (v := d_X6_comesBy tr ea g n zz dd) hx hb hr (fun t ht hW => ⟨rfl, by rw [ht]; exact hP, by rw [hA]; exact hS.F ht⟩) hS.2.2 dX6_goes_40
  · skip
    rw [if_pos c_1] at hres
    refine lv_iconst (v := 0) hx hb dX6_goes_17 (by decide) ?_
    refine lv_goto (tgt := 30) hx hb dX6_goes_18 (by decide) ?_
    refine lv_ior hx hb dX6_goes_30 ?_
    refine m_iast hx hb hK hP hD hS 5 0 rfl rfl 4 rfl (by decide) (by decide) dX6_goes_31 (fun H locs hP hD hS => ?_)
    have hP : va_P D vwCl (w5r cI cC cZ cS a f mn tr de ea rA (upd g 4 ((g 4) ||| (0 : Int32))) tc) H := hP
    have hD : va_D A (w5r cI cC cZ cS a f mn tr de ea rA (upd g 4 ((g 4) ||| (0 : Int32))) tc) := hD
    refine lv_aload_n hx hb dX6_goes_32 rfl (lv_at hl 2 rfl) ?_
    refine lv_iconst (v := 0) hx hb dX6_goes_33 (by decide) ?_
    refine lv_dup2_11 hx hb dX6_goes_34 rfl rfl ?_
    refine m_iald hx hb hK hP 5 0 rfl rfl 0 rfl (by decide) (by decide) dX6_goes_35 ?_
    refine lv_to (show _ = (g 0) from rfl) ?_
    refine lv_to (show (g 0) = nI dd from hd) ?_
    refine lv_iconst (v := 1) hx hb dX6_goes_36 (by decide) ?_
    refine lv_iadd hx hb dX6_goes_37 ?_
    refine m_iast hx hb hK hP hD hS 5 0 rfl rfl 0 rfl (by decide) (by decide) dX6_goes_38 (fun H locs hP hD hS => ?_)
    have hP : va_P D vwCl (w5r cI cC cZ cS a f mn tr de ea rA (upd (upd g 4 ((g 4) ||| (0 : Int32))) 0 ((nI dd) + (1 : Int32))) tc) H := hP
    have hD : va_D A (w5r cI cC cZ cS a f mn tr de ea rA (upd (upd g 4 ((g 4) ||| (0 : Int32))) 0 ((nI dd) + (1 : Int32))) tc) := hD
    refine lv_iload_n hx hb dX6_goes_39 rfl (lv_at hl 0 rfl) ?_
    rw [hres]
    exact W.iret (v := d_X6_comesBy tr ea g n zz dd) hx hb hr (fun t ht hW => ⟨rfl, by rw [ht]; exact hP, by rw [hA]; exact hS.F ht⟩) hS.2.2 dX6_goes_40
theorem goes_day {tr ea g : Nat → Int32} {n zz dd : Nat} : (d_X6_goes tr ea g n zz dd).2 0 = nI dd + 1 := by
  rw [d_X6_goes]
  split <;> rfl
def d_X6_day (F : Nat → Nat → Int32) (z : Int32) (n : Nat) (um : Nat) (dd : Nat) : Int32 × (Nat → Nat → Int32) :=
  if (d_X6_in z 0 9999) = 0 then
      ((-1), (va_up F 0 (upd (F 0) 0 0)))
    else
      if (F 6 0) = (999 : Int32) then
        ((-2), (va_up F 0 (upd (F 0) 0 0)))
      else
        ((d_X6_goes (F 3) (F 5) (F 6) n z.toNatClampNeg dd).1, (va_up (va_up (va_up F 0 ((d_X6_notes (upd (F 0) 0 0) (F 6) (F 10) um).1)) 6 ((d_X6_goes (F 3) (F 5) (F 6) n z.toNatClampNeg dd).2)) 10 ((d_X6_notes (upd (F 0) 0 0) (F 6) (F 10) um).2)))
set_option maxHeartbeats 4000000 in
set_option maxRecDepth 100000 in
theorem c_X6_day (l : Launch) (D : va_G) (cI cC cZ cS : ClassId) (a : Nat → Nat) (F : Nat → Nat → Int32) (tc : Int64) (z : Int32) (n : Nat) (um : Nat) (dd : Nat) (hn : F 2 0 = nI n) (h7 : n ≤ 7) (hum : F 0 20 = nI um) (hu10 : um ≤ 10) (hea : EA (F 5) n) (hd : F 6 0 = nI dd) (hd9 : dd ≤ 999) : Met l yX6_day wsX6_day { frames := 5, cells := 0, slots := 0, locals := 119 } (PcE D cI cC cZ cS [.ref (a 0), .int z] (wM cI cC cZ cS a F tc)) (QcM (some (.int ((d_X6_day F z n um dd).1))) D (wM cI cC cZ cS a F tc) (wM cI cC cZ cS a ((d_X6_day F z n um dd).2) tc)) 0 0 (inW (wM cI cC cZ cS a F tc)) := by
  refine Met.ofW (cc := cX6_day) (maxL := 2) (ret := (some .int)) (by decide) rfl ?_
  intro p e s m args below meth c s₁ B hml hv
  obtain ⟨rfl, hP, hD, hE⟩ := hv
  have hK := hE.1
  have hx := B.exec
  have hb := B.bytes
  have hr := B.returns
  have hts := atoms_spec (ws := wsX6_day) B.pre
  have hown : s.vm.findClass RX6 = some m.cls := findClass_of_methodNamed B.named
  have hlocks := B.notSynchronized
  have hinX6 : ∀ w ∈ wsX60, w ∈ wsX6_day := by decide +kernel
  have hD := inW_self hD
  have hS : va_S (inW (wM cI cC cZ cS a F tc)) s.heap s.heap [] := va_S.rf
  generalize hA : inW (wM cI cC cZ cS a F tc) = A at hD hS ⊢
  refine opq (d_X6_day F z n um dd) (fun R hres => ?_)
  rw [hres]
  replace hres := hres.symm
  rw [d_X6_day] at hres
  have hl := lv_entry ([.ref (a 0), .int z]) (n := 2) (Nat.le_of_ble_eq_true rfl)
  rw [lg_entry_eq]
  generalize (lg_sl ([.ref (a 0), .int z]) ++ List.replicate (2 - (lg_sl ([.ref (a 0), .int z])).length) Slot.unset).toArray = ls at hl ⊢
  have hl : lv_has ls 2 [(0, .ref (a 0)), (1, .int z)] := hl
  refine lv_aload_n hx hb dX6_day_0 rfl (lv_at hl 0 rfl) ?_
  refine lv_iconst (v := 0) hx hb dX6_day_1 (by decide) ?_
  refine va_put (D := D) (ci := 6) (v := .int 0) (ty := .int) (C := RX6) (T := TX6) (N := 26) hx hb hts hinX6 tyX6 tyX6_ok nmX6 hown hK hP hD hS 0 rfl rfl 0 (by decide) (hts (.fieldLink RX6 53 "FirstOutModel" "thrown" "I") (by decide +kernel)) (fun _ h9 => h9) rfl (by decide +kernel) rfl rfl (Nat.le_of_ble_eq_true rfl) dX6_day_2 (fun H locs hP hD hS => ?_)
  have hP : va_P D vwCl (wM cI cC cZ cS a (va_up F 0 (upd (F 0) 0 0)) tc) H := hP
  have hD : va_D A (wM cI cC cZ cS a (va_up F 0 (upd (F 0) 0 0)) tc) := hD
  refine lv_iload_n hx hb dX6_day_5 rfl (lv_at hl 1 rfl) ?_
  refine lv_iconst (v := 0) hx hb dX6_day_6 (by decide) ?_
  refine lv_sipush (v := 9999) hx hb dX6_day_7 (by decide) ?_
  have hPc := hP.sub (ws' := []) [] rfl
  have hDc := hD.sub (ws' := []) [] (by decide) rfl
  refine m_callR (W.runS (As := [.int z, .int 0, .int 9999]) (rest := []) ⟨hx, hb, hml, hown, hts⟩ (c_X6_in l D cI cC cZ cS z 0 9999) (va_cwS 3 hts gX6_day_X6_in rfl rfl rfl (by decide +kernel) ⟨Nat.le_of_ble_eq_true rfl, Nat.le_of_ble_eq_true rfl⟩) (preS_of hPc hDc hE) rfl rfl hl.1 rfl (lv_room (Nat.le_of_ble_eq_true rfl)) dX6_day_10 ⟨Nat.zero_le _, Nat.zero_le _⟩) ?_
  refine W.eq (g2 := F0 m 13 ls [.int (d_X6_in z 0 9999)]) rfl ?_
  refine lv_if_ne (tgt := 18) hx hb dX6_day_13 (by decide) (fun c_1 => ?_) (fun c_1 => ?_)
  · skip
    rw [if_neg c_1] at hres
    have hzi := in_ok c_1
    have hzz := ix_le (N := 9999) hzi.1 hzi.2 (by omega)
    refine lv_aload_n hx hb dX6_day_18 rfl (lv_at hl 0 rfl) ?_
    refine va_get (D := D) (ci := 6) (v := .ref (a 6)) (C := RX6) (T := TX6) (N := 26) hx hb hts hinX6 hown hK hP 0 rfl rfl 15 (by decide) (hts (.fieldLink RX6 25 "FirstOutModel" "s" "[I") (by decide +kernel)) (fun _ h9 => h9) rfl dX6_day_19 ?_
    refine lv_iconst (v := 0) hx hb dX6_day_22 (by decide) ?_
    refine m_iald hx hb hK hP 6 0 rfl rfl 0 rfl (by decide) (by decide) dX6_day_23 ?_
    refine lv_to (show _ = (F 6 0) from rfl) ?_
    refine lv_sipush (v := 999) hx hb dX6_day_24 (by decide) ?_
    refine lv_icmp_ne (tgt := 33) hx hb dX6_day_27 (by decide) (fun c_2 => ?_) (fun c_2 => ?_)
    · skip
      rw [if_neg c_2] at hres
      refine lv_aload_n hx hb dX6_day_33 rfl (lv_at hl 0 rfl) ?_
      have hPc := hP.sub (ws' := (wMn cI cC cZ cS a (upd (F 0) 0 0) (F 6) (F 10) tc)) [0, 6, 10] rfl
      have hDc := hD.sub (ws' := (wMn cI cC cZ cS a (upd (F 0) 0 0) (F 6) (F 10) tc)) [0, 6, 10] (by decide) rfl
      refine m_callM (W.runV (As := []) (rest := []) ⟨hx, hb, hml, hown, hts⟩ (c_X6_notes l D cI cC cZ cS a (upd (F 0) 0 0) (F 6) (F 10) tc um hum hu10) (cwV 0 hts gX6_day_X6_notes rfl rfl rfl (by decide +kernel) ⟨Nat.le_of_ble_eq_true rfl, Nat.le_of_ble_eq_true rfl⟩) (preV_of hPc hDc hE (va_recv hK hPc (ci := 6) (q0 := 0) rfl rfl)) rfl rfl hl.1 rfl (lv_room (Nat.le_of_ble_eq_true rfl)) dX6_day_34 ⟨Nat.zero_le _, Nat.zero_le _⟩) hP hD hS [0, 6, 10] rfl wMn_ad (fun H locs hP hD hS => ?_)
      have hP : va_P D vwCl (wM cI cC cZ cS a (va_up (va_up F 0 ((d_X6_notes (upd (F 0) 0 0) (F 6) (F 10) um).1)) 10 ((d_X6_notes (upd (F 0) 0 0) (F 6) (F 10) um).2)) tc) H := hP
      have hD : va_D A (wM cI cC cZ cS a (va_up (va_up F 0 ((d_X6_notes (upd (F 0) 0 0) (F 6) (F 10) um).1)) 10 ((d_X6_notes (upd (F 0) 0 0) (F 6) (F 10) um).2)) tc) := hD
      refine W.eq (g2 := F0 m 37 ls []) rfl ?_
      refine opq (d_X6_notes (upd (F 0) 0 0) (F 6) (F 10) um) (fun r_3 hr_3 => ?_)
      try rw [hr_3] at hP
      try rw [hr_3] at hD
      try rw [hr_3] at hres
      try rw [hr_3]
      refine lv_aload_n hx hb dX6_day_37 rfl (lv_at hl 0 rfl) ?_
      refine lv_aload_n hx hb dX6_day_38 rfl (lv_at hl 0 rfl) ?_
      refine va_get (D := D) (ci := 6) (v := .ref (a 6)) (C := RX6) (T := TX6) (N := 26) hx hb hts hinX6 hown hK hP 0 rfl rfl 15 (by decide) (hts (.fieldLink RX6 25 "FirstOutModel" "s" "[I") (by decide +kernel)) (fun _ h9 => h9) rfl dX6_day_39 ?_
      refine lv_iload_n hx hb dX6_day_42 rfl (lv_at hl 1 rfl) ?_
      have hPc := hP.sub (ws' := (w5r cI cC cZ cS a r_3.1 (F 2) (F 3) (F 4) (F 5) (a 6) (F 6) tc)) [0, 2, 3, 4, 5, 6] rfl
      have hDc := hD.sub (ws' := (w5r cI cC cZ cS a r_3.1 (F 2) (F 3) (F 4) (F 5) (a 6) (F 6) tc)) [0, 2, 3, 4, 5, 6] (by decide) rfl
      refine m_callM (W.runV (As := [.ref (a 6), .int z]) (rest := []) ⟨hx, hb, hml, hown, hts⟩ (c_X6_goes l D cI cC cZ cS a r_3.1 (F 2) (F 3) (F 4) (F 5) (a 6) (F 6) tc z n z.toNatClampNeg dd hn h7 hea hzz.1 hzz.2 hd (by omega)) (cwV 2 hts gX6_day_X6_goes rfl rfl rfl (by decide +kernel) ⟨Nat.le_of_ble_eq_true rfl, Nat.le_of_ble_eq_true rfl⟩) (preV_of hPc hDc hE (va_recv hK hPc (ci := 6) (q0 := 0) rfl rfl)) rfl rfl hl.1 rfl (lv_room (Nat.le_of_ble_eq_true rfl)) dX6_day_43 ⟨Nat.zero_le _, Nat.zero_le _⟩) hP hD hS [0, 2, 3, 4, 5, 6] rfl w5r_ad (fun H locs hP hD hS => ?_)
      have hP : va_P D vwCl (wM cI cC cZ cS a (va_up (va_up (va_up F 0 r_3.1) 6 ((d_X6_goes (F 3) (F 5) (F 6) n z.toNatClampNeg dd).2)) 10 r_3.2) tc) H := hP
      have hD : va_D A (wM cI cC cZ cS a (va_up (va_up (va_up F 0 r_3.1) 6 ((d_X6_goes (F 3) (F 5) (F 6) n z.toNatClampNeg dd).2)) 10 r_3.2) tc) := hD
      refine W.eq (g2 := F0 m 46 ls [.int ((d_X6_goes (F 3) (F 5) (F 6) n z.toNatClampNeg dd).1)]) rfl ?_
      refine opq (d_X6_goes (F 3) (F 5) (F 6) n z.toNatClampNeg dd) (fun r_4 hr_4 => ?_)
      try rw [hr_4] at hP
      try rw [hr_4] at hD
      try rw [hr_4] at hres
      try rw [hr_4]
      rw [hres]
      exact W.iret (v := r_4.1) hx hb hr (fun t ht hW => ⟨rfl, by rw [ht]; exact hP, by rw [hA]; exact hS.F ht⟩) hS.2.2 dX6_day_46
    · skip
      rw [if_pos c_2] at hres
      refine lv_bipush (v := (-2)) hx hb dX6_day_30 (by decide) ?_
      rw [hres]
      exact W.iret (v := (-2)) hx hb hr (fun t ht hW => ⟨rfl, by rw [ht]; exact hP, by rw [hA]; exact hS.F ht⟩) hS.2.2 dX6_day_32
  · skip
    rw [if_pos c_1] at hres
    refine lv_iconst (v := (-1)) hx hb dX6_day_16 (by decide) ?_
    rw [hres]
    exact W.iret (v := (-1)) hx hb hr (fun t ht hW => ⟨rfl, by rw [ht]; exact hP, by rw [hA]; exact hS.F ht⟩) hS.2.2 dX6_day_17
def lp_X6_sense_20 (F : Nat → Nat → Int32) (k : Int32) (n : Nat) : Nat → Nat → Int32 → Int32 × (Nat → Nat → Int32)
  | 0, _, _ => (0, F)
  | k20 + 1, i, acc => if (nI n) ≤ (nI i) then
      (acc &&& ((F 6 4) ^^^ (-1 : Int32)), (va_up F 0 (upd (F 0) 0 0)))
    else
      if (d_X6_ones ((F 3 i) &&& (F 6 1))) < k then
        lp_X6_sense_20 F k n k20 (i + 1) (acc ||| (0 : Int32))
      else
        lp_X6_sense_20 F k n k20 (i + 1) (acc ||| ((1 : Int32) <<< ((nI i) &&& 31)))
def d_X6_sense (F : Nat → Nat → Int32) (k : Int32) (n : Nat) : Int32 × (Nat → Nat → Int32) :=
  if (d_X6_in k 0 5) = 0 then
      ((-1), (va_up F 0 (upd (F 0) 0 0)))
    else
      lp_X6_sense_20 F k n (n + 1) 0 0
set_option maxHeartbeats 4000000 in
set_option maxRecDepth 100000 in
theorem c_X6_sense (l : Launch) (D : va_G) (cI cC cZ cS : ClassId) (a : Nat → Nat) (F : Nat → Nat → Int32) (tc : Int64) (k : Int32) (n : Nat) (hn : F 2 0 = nI n) (h7 : n ≤ 7) : Met l yX6_sense wsX6_sense { frames := 1, cells := 0, slots := 0, locals := 22 } (PcE D cI cC cZ cS [.ref (a 0), .int k] (wM cI cC cZ cS a F tc)) (QcM (some (.int ((d_X6_sense F k n).1))) D (wM cI cC cZ cS a F tc) (wM cI cC cZ cS a ((d_X6_sense F k n).2) tc)) 0 0 (inW (wM cI cC cZ cS a F tc)) := by
  refine Met.ofW (cc := cX6_sense) (maxL := 4) (ret := (some .int)) (by decide) rfl ?_
  intro p e s m args below meth c s₁ B hml hv
  obtain ⟨rfl, hP, hD, hE⟩ := hv
  have hK := hE.1
  have hx := B.exec
  have hb := B.bytes
  have hr := B.returns
  have hts := atoms_spec (ws := wsX6_sense) B.pre
  have hown : s.vm.findClass RX6 = some m.cls := findClass_of_methodNamed B.named
  have hlocks := B.notSynchronized
  have hinX6 : ∀ w ∈ wsX60, w ∈ wsX6_sense := by decide +kernel
  have hD := inW_self hD
  have hS : va_S (inW (wM cI cC cZ cS a F tc)) s.heap s.heap [] := va_S.rf
  generalize hA : inW (wM cI cC cZ cS a F tc) = A at hD hS ⊢
  refine opq (d_X6_sense F k n) (fun R hres => ?_)
  rw [hres]
  replace hres := hres.symm
  rw [d_X6_sense] at hres
  have hl := lv_entry ([.ref (a 0), .int k]) (n := 4) (Nat.le_of_ble_eq_true rfl)
  rw [lg_entry_eq]
  generalize (lg_sl ([.ref (a 0), .int k]) ++ List.replicate (4 - (lg_sl ([.ref (a 0), .int k])).length) Slot.unset).toArray = ls at hl ⊢
  have hl : lv_has ls 4 [(0, .ref (a 0)), (1, .int k)] := hl
  refine lv_aload_n hx hb dX6_sense_0 rfl (lv_at hl 0 rfl) ?_
  refine lv_iconst (v := 0) hx hb dX6_sense_1 (by decide) ?_
  refine va_put (D := D) (ci := 6) (v := .int 0) (ty := .int) (C := RX6) (T := TX6) (N := 26) hx hb hts hinX6 tyX6 tyX6_ok nmX6 hown hK hP hD hS 0 rfl rfl 0 (by decide) (hts (.fieldLink RX6 53 "FirstOutModel" "thrown" "I") (by decide +kernel)) (fun _ h9 => h9) rfl (by decide +kernel) rfl rfl (Nat.le_of_ble_eq_true rfl) dX6_sense_2 (fun H locs hP hD hS => ?_)
  have hP : va_P D vwCl (wM cI cC cZ cS a (va_up F 0 (upd (F 0) 0 0)) tc) H := hP
  have hD : va_D A (wM cI cC cZ cS a (va_up F 0 (upd (F 0) 0 0)) tc) := hD
  refine lv_iload_n hx hb dX6_sense_5 rfl (lv_at hl 1 rfl) ?_
  refine lv_iconst (v := 0) hx hb dX6_sense_6 (by decide) ?_
  refine lv_iconst (v := 5) hx hb dX6_sense_7 (by decide) ?_
  have hPc := hP.sub (ws' := []) [] rfl
  have hDc := hD.sub (ws' := []) [] (by decide) rfl
  refine m_callR (W.runS (As := [.int k, .int 0, .int 5]) (rest := []) ⟨hx, hb, hml, hown, hts⟩ (c_X6_in l D cI cC cZ cS k 0 5) (va_cwS 3 hts gX6_sense_X6_in rfl rfl rfl (by decide +kernel) ⟨Nat.le_of_ble_eq_true rfl, Nat.le_of_ble_eq_true rfl⟩) (preS_of hPc hDc hE) rfl rfl hl.1 rfl (lv_room (Nat.le_of_ble_eq_true rfl)) dX6_sense_8 ⟨Nat.zero_le _, Nat.zero_le _⟩) ?_
  refine W.eq (g2 := F0 m 11 ls [.int (d_X6_in k 0 5)]) rfl ?_
  refine lv_if_ne (tgt := 16) hx hb dX6_sense_11 (by decide) (fun c_1 => ?_) (fun c_1 => ?_)
  · skip
    rw [if_neg c_1] at hres
    refine lv_iconst (v := 0) hx hb dX6_sense_16 (by decide) ?_
    refine lv_istore_n (lv' := [(2, .int 0), (0, .ref (a 0)), (1, .int k)]) hx hb dX6_sense_17 rfl hl (by decide) rfl (fun ls hl => ?_)
    refine lv_iconst (v := 0) hx hb dX6_sense_18 (by decide) ?_
    refine lv_istore_n (lv' := [(3, .int 0), (2, .int 0), (0, .ref (a 0)), (1, .int k)]) hx hb dX6_sense_19 rfl hl (by decide) rfl (fun ls hl => ?_)
    have loop20 : ∀ (k20 : Nat) (i : Nat) (acc : Int32), n - i < k20 → i ≤ n → R = lp_X6_sense_20 F k n k20 i acc → ∀ (H : Heap) (locs : List Loc), va_P D vwCl (wM cI cC cZ cS a (va_up F 0 (upd (F 0) 0 0)) tc) H → va_D A (wM cI cC cZ cS a (va_up F 0 (upd (F 0) 0 0)) tc) → va_S A s.heap H locs → ∀ ls : Array Slot, lv_has ls 4 [(0, .ref (a 0)), (1, .int k), (2, .int acc), (3, .int (nI i))] → W p l e (headSpec wsX6_sense { frames := 1, cells := 0, slots := 0, locals := 22 }).room s m (([.ref (a 0), .int k] : List Value).toArray) below meth c H locs 0 0 (MQ below (QcM (some (.int R.1)) D (wM cI cC cZ cS a F tc) (wM cI cC cZ cS a R.2 tc)) (([.ref (a 0), .int k] : List Value).toArray) s 0 0 A) (F0 m 20 ls []) := by
      intro k20
      induction k20 with
      | zero => intro i acc hk; exact absurd hk (Nat.not_lt_zero _)
      | succ k20 ih20 =>
        intro i acc hk20 hi hres H locs hP hD hS ls hl
        rw [lp_X6_sense_20] at hres
        refine lv_iload_n hx hb dX6_sense_20 rfl (lv_at hl 3 rfl) ?_
        refine lv_aload_n hx hb dX6_sense_21 rfl (lv_at hl 0 rfl) ?_
        refine va_get (D := D) (ci := 6) (v := .ref (a 2)) (C := RX6) (T := TX6) (N := 26) hx hb hts hinX6 hown hK hP 0 rfl rfl 9 (by decide) (hts (.fieldLink RX6 13 "FirstOutModel" "many" "[I") (by decide +kernel)) (fun _ h9 => h9) rfl dX6_sense_22 ?_
        refine lv_iconst (v := 0) hx hb dX6_sense_25 (by decide) ?_
        refine m_iald hx hb hK hP 2 0 rfl rfl 0 rfl (by decide) (by decide) dX6_sense_26 ?_
        refine lv_to (show _ = (F 2 0) from rfl) ?_
        refine lv_to (show (F 2 0) = nI n from hn) ?_
        refine lv_icmp_ge (tgt := 66) hx hb dX6_sense_27 (by decide) (fun c_2 => ?_) (fun c_2 => ?_)
        · skip
          rw [if_pos c_2] at hres
          refine lv_iload_n hx hb dX6_sense_66 rfl (lv_at hl 2 rfl) ?_
          refine lv_aload_n hx hb dX6_sense_67 rfl (lv_at hl 0 rfl) ?_
          refine va_get (D := D) (ci := 6) (v := .ref (a 6)) (C := RX6) (T := TX6) (N := 26) hx hb hts hinX6 hown hK hP 0 rfl rfl 15 (by decide) (hts (.fieldLink RX6 25 "FirstOutModel" "s" "[I") (by decide +kernel)) (fun _ h9 => h9) rfl dX6_sense_68 ?_
          refine lv_iconst (v := 4) hx hb dX6_sense_71 (by decide) ?_
          refine m_iald hx hb hK hP 6 0 rfl rfl 4 rfl (by decide) (by decide) dX6_sense_72 ?_
          refine lv_to (show _ = (F 6 4) from rfl) ?_
          refine lv_iconst (v := (-1)) hx hb dX6_sense_73 (by decide) ?_
          refine lv_ixor hx hb dX6_sense_74 ?_
          refine lv_iand hx hb dX6_sense_75 ?_
          rw [hres]
          exact W.iret (v := acc &&& ((F 6 4) ^^^ (-1 : Int32))) hx hb hr (fun t ht hW => ⟨rfl, by rw [ht]; exact hP, by rw [hA]; exact hS.F ht⟩) hS.2.2 dX6_sense_76
        · skip
          rw [if_neg c_2] at hres
          have hlt : i < n := nlt_of c_2 (by omega) (by omega)
          refine lv_iload_n hx hb dX6_sense_30 rfl (lv_at hl 2 rfl) ?_
          refine lv_aload_n hx hb dX6_sense_31 rfl (lv_at hl 0 rfl) ?_
          refine va_get (D := D) (ci := 6) (v := .ref (a 3)) (C := RX6) (T := TX6) (N := 26) hx hb hts hinX6 hown hK hP 0 rfl rfl 11 (by decide) (hts (.fieldLink RX6 16 "FirstOutModel" "traits" "[I") (by decide +kernel)) (fun _ h9 => h9) rfl dX6_sense_32 ?_
          refine lv_iload_n hx hb dX6_sense_35 rfl (lv_at hl 3 rfl) ?_
          refine m_iald hx hb hK hP 3 0 rfl rfl i rfl (by omega) (by decide) dX6_sense_36 ?_
          refine lv_to (show _ = (F 3 i) from rfl) ?_
          refine lv_aload_n hx hb dX6_sense_37 rfl (lv_at hl 0 rfl) ?_
          refine va_get (D := D) (ci := 6) (v := .ref (a 6)) (C := RX6) (T := TX6) (N := 26) hx hb hts hinX6 hown hK hP 0 rfl rfl 15 (by decide) (hts (.fieldLink RX6 25 "FirstOutModel" "s" "[I") (by decide +kernel)) (fun _ h9 => h9) rfl dX6_sense_38 ?_
          refine lv_iconst (v := 1) hx hb dX6_sense_41 (by decide) ?_
          refine m_iald hx hb hK hP 6 0 rfl rfl 1 rfl (by decide) (by decide) dX6_sense_42 ?_
          refine lv_to (show _ = (F 6 1) from rfl) ?_
          refine lv_iand hx hb dX6_sense_43 ?_
          have hPc := hP.sub (ws' := []) [] rfl
          have hDc := hD.sub (ws' := []) [] (by decide) rfl
          refine m_callR (W.runS (As := [.int ((F 3 i) &&& (F 6 1))]) (rest := [.int acc]) ⟨hx, hb, hml, hown, hts⟩ (c_X6_ones l D cI cC cZ cS ((F 3 i) &&& (F 6 1))) (va_cwS 1 hts gX6_sense_X6_ones rfl rfl rfl (by decide +kernel) ⟨Nat.le_of_ble_eq_true rfl, Nat.le_of_ble_eq_true rfl⟩) (preS_of hPc hDc hE) rfl rfl hl.1 rfl (lv_room (Nat.le_of_ble_eq_true rfl)) dX6_sense_44 ⟨Nat.zero_le _, Nat.zero_le _⟩) ?_
          refine W.eq (g2 := F0 m 47 ls [.int (d_X6_ones ((F 3 i) &&& (F 6 1))), .int acc]) rfl ?_
          refine lv_iload_n hx hb dX6_sense_47 rfl (lv_at hl 1 rfl) ?_
          refine lv_icmp_lt (tgt := 57) hx hb dX6_sense_48 (by decide) (fun c_3 => ?_) (fun c_3 => ?_)
          · skip
            rw [if_pos c_3] at hres
            refine lv_iconst (v := 0) hx hb dX6_sense_57 (by decide) ?_
            refine lv_ior hx hb dX6_sense_58 ?_
            refine lv_istore_n (lv' := [(2, .int (acc ||| (0 : Int32))), (0, .ref (a 0)), (1, .int k), (3, .int (nI i))]) hx hb dX6_sense_59 rfl hl (by decide) rfl (fun ls hl => ?_)
            refine lv_iinc (v := nI (i + 1)) (lv' := [(3, .int (nI (i + 1))), (2, .int (acc ||| (0 : Int32))), (0, .ref (a 0)), (1, .int k)]) hx hb dX6_sense_60 hl (k := 3) rfl ((nI_add i 1)) (by decide) rfl (fun ls hl => ?_)
            refine lv_goto (tgt := 20) hx hb dX6_sense_63 (by decide) ?_
            have hP : va_P D vwCl (wM cI cC cZ cS a (va_up F 0 (upd (F 0) 0 0)) tc) H := hP
            have hD : va_D A (wM cI cC cZ cS a (va_up F 0 (upd (F 0) 0 0)) tc) := hD
            exact ih20 (i + 1) (acc ||| (0 : Int32)) (by omega) (by omega) hres _ _ hP hD hS ls (lv_sub hl [2, 3, 1, 0] rfl)
          · skip
            rw [if_neg c_3] at hres
            refine lv_iconst (v := 1) hx hb dX6_sense_51 (by decide) ?_
            refine lv_iload_n hx hb dX6_sense_52 rfl (lv_at hl 3 rfl) ?_
            refine lv_ishl hx hb dX6_sense_53 ?_
            refine lv_goto (tgt := 58) hx hb dX6_sense_54 (by decide) ?_
            refine lv_ior hx hb dX6_sense_58 ?_
            refine lv_istore_n (lv' := [(2, .int (acc ||| ((1 : Int32) <<< ((nI i) &&& 31)))), (0, .ref (a 0)), (1, .int k), (3, .int (nI i))]) hx hb dX6_sense_59 rfl hl (by decide) rfl (fun ls hl => ?_)
            refine lv_iinc (v := nI (i + 1)) (lv' := [(3, .int (nI (i + 1))), (2, .int (acc ||| ((1 : Int32) <<< ((nI i) &&& 31)))), (0, .ref (a 0)), (1, .int k)]) hx hb dX6_sense_60 hl (k := 3) rfl ((nI_add i 1)) (by decide) rfl (fun ls hl => ?_)
            refine lv_goto (tgt := 20) hx hb dX6_sense_63 (by decide) ?_
            have hP : va_P D vwCl (wM cI cC cZ cS a (va_up F 0 (upd (F 0) 0 0)) tc) H := hP
            have hD : va_D A (wM cI cC cZ cS a (va_up F 0 (upd (F 0) 0 0)) tc) := hD
            exact ih20 (i + 1) (acc ||| ((1 : Int32) <<< ((nI i) &&& 31))) (by omega) (by omega) hres _ _ hP hD hS ls (lv_sub hl [2, 3, 1, 0] rfl)
    have hP : va_P D vwCl (wM cI cC cZ cS a (va_up F 0 (upd (F 0) 0 0)) tc) _ := hP
    have hD : va_D A (wM cI cC cZ cS a (va_up F 0 (upd (F 0) 0 0)) tc) := hD
    exact loop20 (n + 1) 0 0 (by omega) (Nat.zero_le _) hres _ _ hP hD hS ls (lv_sub hl [2, 3, 1, 0] rfl)
  · skip
    rw [if_pos c_1] at hres
    refine lv_iconst (v := (-1)) hx hb dX6_sense_14 (by decide) ?_
    rw [hres]
    exact W.iret (v := (-1)) hx hb hr (fun t ht hW => ⟨rfl, by rw [ht]; exact hP, by rw [hA]; exact hS.F ht⟩) hS.2.2 dX6_sense_15
def d_X6_both (F : Nat → Nat → Int32) (words : Int32) (n : Nat) : Int32 × (Nat → Nat → Int32) :=
  if (d_X6_in words 0 31) = 0 then
      ((-1), (va_up F 0 (upd (F 0) 0 0)))
    else
      ((d_X6_covered (F 3) (F 6) n) &&& (d_X6_covered (F 3) (upd (d_X6_asNow (F 6) (F 7)) 1 words) n), (va_up (va_up F 0 (upd (F 0) 0 0)) 7 (upd (d_X6_asNow (F 6) (F 7)) 1 words)))
set_option maxHeartbeats 4000000 in
set_option maxRecDepth 100000 in
theorem c_X6_both (l : Launch) (D : va_G) (cI cC cZ cS : ClassId) (a : Nat → Nat) (F : Nat → Nat → Int32) (tc : Int64) (words : Int32) (n : Nat) (hn : F 2 0 = nI n) (h7 : n ≤ 7) : Met l yX6_both wsX6_both { frames := 2, cells := 0, slots := 0, locals := 45 } (PcE D cI cC cZ cS [.ref (a 0), .int words] (wM cI cC cZ cS a F tc)) (QcM (some (.int ((d_X6_both F words n).1))) D (wM cI cC cZ cS a F tc) (wM cI cC cZ cS a ((d_X6_both F words n).2) tc)) 0 0 (inW (wM cI cC cZ cS a F tc)) := by
  refine Met.ofW (cc := cX6_both) (maxL := 2) (ret := (some .int)) (by decide) rfl ?_
  intro p e s m args below meth c s₁ B hml hv
  obtain ⟨rfl, hP, hD, hE⟩ := hv
  have hK := hE.1
  have hx := B.exec
  have hb := B.bytes
  have hr := B.returns
  have hts := atoms_spec (ws := wsX6_both) B.pre
  have hown : s.vm.findClass RX6 = some m.cls := findClass_of_methodNamed B.named
  have hlocks := B.notSynchronized
  have hinX6 : ∀ w ∈ wsX60, w ∈ wsX6_both := by decide +kernel
  have hD := inW_self hD
  have hS : va_S (inW (wM cI cC cZ cS a F tc)) s.heap s.heap [] := va_S.rf
  generalize hA : inW (wM cI cC cZ cS a F tc) = A at hD hS ⊢
  refine opq (d_X6_both F words n) (fun R hres => ?_)
  rw [hres]
  replace hres := hres.symm
  rw [d_X6_both] at hres
  have hl := lv_entry ([.ref (a 0), .int words]) (n := 2) (Nat.le_of_ble_eq_true rfl)
  rw [lg_entry_eq]
  generalize (lg_sl ([.ref (a 0), .int words]) ++ List.replicate (2 - (lg_sl ([.ref (a 0), .int words])).length) Slot.unset).toArray = ls at hl ⊢
  have hl : lv_has ls 2 [(0, .ref (a 0)), (1, .int words)] := hl
  refine lv_aload_n hx hb dX6_both_0 rfl (lv_at hl 0 rfl) ?_
  refine lv_iconst (v := 0) hx hb dX6_both_1 (by decide) ?_
  refine va_put (D := D) (ci := 6) (v := .int 0) (ty := .int) (C := RX6) (T := TX6) (N := 26) hx hb hts hinX6 tyX6 tyX6_ok nmX6 hown hK hP hD hS 0 rfl rfl 0 (by decide) (hts (.fieldLink RX6 53 "FirstOutModel" "thrown" "I") (by decide +kernel)) (fun _ h9 => h9) rfl (by decide +kernel) rfl rfl (Nat.le_of_ble_eq_true rfl) dX6_both_2 (fun H locs hP hD hS => ?_)
  have hP : va_P D vwCl (wM cI cC cZ cS a (va_up F 0 (upd (F 0) 0 0)) tc) H := hP
  have hD : va_D A (wM cI cC cZ cS a (va_up F 0 (upd (F 0) 0 0)) tc) := hD
  refine lv_iload_n hx hb dX6_both_5 rfl (lv_at hl 1 rfl) ?_
  refine lv_iconst (v := 0) hx hb dX6_both_6 (by decide) ?_
  refine lv_bipush (v := 31) hx hb dX6_both_7 (by decide) ?_
  have hPc := hP.sub (ws' := []) [] rfl
  have hDc := hD.sub (ws' := []) [] (by decide) rfl
  refine m_callR (W.runS (As := [.int words, .int 0, .int 31]) (rest := []) ⟨hx, hb, hml, hown, hts⟩ (c_X6_in l D cI cC cZ cS words 0 31) (va_cwS 3 hts gX6_both_X6_in rfl rfl rfl (by decide +kernel) ⟨Nat.le_of_ble_eq_true rfl, Nat.le_of_ble_eq_true rfl⟩) (preS_of hPc hDc hE) rfl rfl hl.1 rfl (lv_room (Nat.le_of_ble_eq_true rfl)) dX6_both_9 ⟨Nat.zero_le _, Nat.zero_le _⟩) ?_
  refine W.eq (g2 := F0 m 12 ls [.int (d_X6_in words 0 31)]) rfl ?_
  refine lv_if_ne (tgt := 17) hx hb dX6_both_12 (by decide) (fun c_1 => ?_) (fun c_1 => ?_)
  · skip
    rw [if_neg c_1] at hres
    refine lv_aload_n hx hb dX6_both_17 rfl (lv_at hl 0 rfl) ?_
    have hPc := hP.sub (ws' := (wMw cI cC cZ cS a (upd (F 0) 0 0) (F 6) (F 7) tc)) [0, 6, 7] rfl
    have hDc := hD.sub (ws' := (wMw cI cC cZ cS a (upd (F 0) 0 0) (F 6) (F 7) tc)) [0, 6, 7] (by decide) rfl
    refine m_callM (W.runV (As := []) (rest := []) ⟨hx, hb, hml, hown, hts⟩ (c_X6_asNow l D cI cC cZ cS a (upd (F 0) 0 0) (F 6) (F 7) tc) (cwV 0 hts gX6_both_X6_asNow rfl rfl rfl (by decide +kernel) ⟨Nat.le_of_ble_eq_true rfl, Nat.le_of_ble_eq_true rfl⟩) (preV_of hPc hDc hE (va_recv hK hPc (ci := 6) (q0 := 0) rfl rfl)) rfl rfl hl.1 rfl (lv_room (Nat.le_of_ble_eq_true rfl)) dX6_both_18 ⟨Nat.zero_le _, Nat.zero_le _⟩) hP hD hS [0, 6, 7] rfl wMw_ad (fun H locs hP hD hS => ?_)
    have hP : va_P D vwCl (wM cI cC cZ cS a (va_up (va_up F 0 (upd (F 0) 0 0)) 7 (d_X6_asNow (F 6) (F 7))) tc) H := hP
    have hD : va_D A (wM cI cC cZ cS a (va_up (va_up F 0 (upd (F 0) 0 0)) 7 (d_X6_asNow (F 6) (F 7))) tc) := hD
    refine W.eq (g2 := F0 m 21 ls []) rfl ?_
    refine opq (d_X6_asNow (F 6) (F 7)) (fun r_2 hr_2 => ?_)
    try rw [hr_2] at hP
    try rw [hr_2] at hD
    try rw [hr_2] at hres
    try rw [hr_2]
    refine lv_aload_n hx hb dX6_both_21 rfl (lv_at hl 0 rfl) ?_
    refine va_get (D := D) (ci := 6) (v := .ref (a 7)) (C := RX6) (T := TX6) (N := 26) hx hb hts hinX6 hown hK hP 0 rfl rfl 16 (by decide) (hts (.fieldLink RX6 28 "FirstOutModel" "w" "[I") (by decide +kernel)) (fun _ h9 => h9) rfl dX6_both_22 ?_
    refine lv_iconst (v := 1) hx hb dX6_both_25 (by decide) ?_
    refine lv_iload_n hx hb dX6_both_26 rfl (lv_at hl 1 rfl) ?_
    refine m_iast hx hb hK hP hD hS 7 0 rfl rfl 1 rfl (by decide) (by decide) dX6_both_27 (fun H locs hP hD hS => ?_)
    have hP : va_P D vwCl (wM cI cC cZ cS a (va_up (va_up F 0 (upd (F 0) 0 0)) 7 (upd r_2 1 words)) tc) H := hP
    have hD : va_D A (wM cI cC cZ cS a (va_up (va_up F 0 (upd (F 0) 0 0)) 7 (upd r_2 1 words)) tc) := hD
    refine lv_aload_n hx hb dX6_both_28 rfl (lv_at hl 0 rfl) ?_
    refine lv_aload_n hx hb dX6_both_29 rfl (lv_at hl 0 rfl) ?_
    refine va_get (D := D) (ci := 6) (v := .ref (a 6)) (C := RX6) (T := TX6) (N := 26) hx hb hts hinX6 hown hK hP 0 rfl rfl 15 (by decide) (hts (.fieldLink RX6 25 "FirstOutModel" "s" "[I") (by decide +kernel)) (fun _ h9 => h9) rfl dX6_both_30 ?_
    have hPc := hP.sub (ws' := (w5r cI cC cZ cS a (upd (F 0) 0 0) (F 2) (F 3) (F 4) (F 5) (a 6) (F 6) tc)) [0, 2, 3, 4, 5, 6] rfl
    have hDc := hD.sub (ws' := (w5r cI cC cZ cS a (upd (F 0) 0 0) (F 2) (F 3) (F 4) (F 5) (a 6) (F 6) tc)) [0, 2, 3, 4, 5, 6] (by decide) rfl
    refine m_callR (W.runV (As := [.ref (a 6)]) (rest := []) ⟨hx, hb, hml, hown, hts⟩ (c_X6_covered l D cI cC cZ cS a (upd (F 0) 0 0) (F 2) (F 3) (F 4) (F 5) (a 6) (F 6) tc n hn h7) (cwV 1 hts gX6_both_X6_covered rfl rfl rfl (by decide +kernel) ⟨Nat.le_of_ble_eq_true rfl, Nat.le_of_ble_eq_true rfl⟩) (preV_of hPc hDc hE (va_recv hK hPc (ci := 6) (q0 := 0) rfl rfl)) rfl rfl hl.1 rfl (lv_room (Nat.le_of_ble_eq_true rfl)) dX6_both_33 ⟨Nat.zero_le _, Nat.zero_le _⟩) ?_
    refine W.eq (g2 := F0 m 36 ls [.int (d_X6_covered (F 3) (F 6) n)]) rfl ?_
    refine lv_aload_n hx hb dX6_both_36 rfl (lv_at hl 0 rfl) ?_
    refine lv_aload_n hx hb dX6_both_37 rfl (lv_at hl 0 rfl) ?_
    refine va_get (D := D) (ci := 6) (v := .ref (a 7)) (C := RX6) (T := TX6) (N := 26) hx hb hts hinX6 hown hK hP 0 rfl rfl 16 (by decide) (hts (.fieldLink RX6 28 "FirstOutModel" "w" "[I") (by decide +kernel)) (fun _ h9 => h9) rfl dX6_both_38 ?_
    have hPc := hP.sub (ws' := (w5r cI cC cZ cS a (upd (F 0) 0 0) (F 2) (F 3) (F 4) (F 5) (a 7) (upd r_2 1 words) tc)) [0, 2, 3, 4, 5, 7] rfl
    have hDc := hD.sub (ws' := (w5r cI cC cZ cS a (upd (F 0) 0 0) (F 2) (F 3) (F 4) (F 5) (a 7) (upd r_2 1 words) tc)) [0, 2, 3, 4, 5, 7] (by decide) rfl
    refine m_callR (W.runV (As := [.ref (a 7)]) (rest := [.int (d_X6_covered (F 3) (F 6) n)]) ⟨hx, hb, hml, hown, hts⟩ (c_X6_covered l D cI cC cZ cS a (upd (F 0) 0 0) (F 2) (F 3) (F 4) (F 5) (a 7) (upd r_2 1 words) tc n hn h7) (cwV 1 hts gX6_both_X6_covered rfl rfl rfl (by decide +kernel) ⟨Nat.le_of_ble_eq_true rfl, Nat.le_of_ble_eq_true rfl⟩) (preV_of hPc hDc hE (va_recv hK hPc (ci := 6) (q0 := 0) rfl rfl)) rfl rfl hl.1 rfl (lv_room (Nat.le_of_ble_eq_true rfl)) dX6_both_41 ⟨Nat.zero_le _, Nat.zero_le _⟩) ?_
    refine W.eq (g2 := F0 m 44 ls [.int (d_X6_covered (F 3) (upd r_2 1 words) n), .int (d_X6_covered (F 3) (F 6) n)]) rfl ?_
    refine lv_iand hx hb dX6_both_44 ?_
    rw [hres]
    exact W.iret (v := (d_X6_covered (F 3) (F 6) n) &&& (d_X6_covered (F 3) (upd r_2 1 words) n)) hx hb hr (fun t ht hW => ⟨rfl, by rw [ht]; exact hP, by rw [hA]; exact hS.F ht⟩) hS.2.2 dX6_both_45
  · skip
    rw [if_pos c_1] at hres
    refine lv_iconst (v := (-1)) hx hb dX6_both_15 (by decide) ?_
    rw [hres]
    exact W.iret (v := (-1)) hx hb hr (fun t ht hW => ⟨rfl, by rw [ht]; exact hP, by rw [hA]; exact hS.F ht⟩) hS.2.2 dX6_both_16
def lp_X6_means_28 (F : Nat → Nat → Int32) (set : Int32) (n : Nat) : Nat → Nat → Int32 → (Nat → Int32) → Int32 × (Nat → Nat → Int32)
  | 0, _, _, _ => (0, F)
  | k28 + 1, i, best, wv => if (32 : Int32) ≤ (nI i) then
      (best, (va_up (va_up F 0 (upd (F 0) 0 0)) 7 wv))
    else
      if ((d_X6_comers (F 3) (F 5) (upd wv 1 (nI i)) n) &&& (d_X6_covered (F 3) (upd wv 1 (nI i)) n)) = 0 then
        lp_X6_means_28 F set n k28 (i + 1) best (upd wv 1 (nI i))
      else
        if (((d_X6_comers (F 3) (F 5) (upd wv 1 (nI i)) n) &&& (d_X6_covered (F 3) (upd wv 1 (nI i)) n)) &&& (set ^^^ (-1 : Int32))) = 0 then
          if best = (-9 : Int32) then
            lp_X6_means_28 F set n k28 (i + 1) (nI i) (upd wv 1 (nI i))
          else
            if (d_X6_ones best) ≤ (d_X6_ones (nI i)) then
              lp_X6_means_28 F set n k28 (i + 1) best (upd wv 1 (nI i))
            else
              lp_X6_means_28 F set n k28 (i + 1) (nI i) (upd wv 1 (nI i))
        else
          lp_X6_means_28 F set n k28 (i + 1) best (upd wv 1 (nI i))
def d_X6_means (F : Nat → Nat → Int32) (set : Int32) (n : Nat) : Int32 × (Nat → Nat → Int32) :=
  if (d_X6_in set 0 (d_X6_everything n)) = 0 then
      ((-1), (va_up F 0 (upd (F 0) 0 0)))
    else
      lp_X6_means_28 F set n 33 0 (-9) (d_X6_asNow (F 6) (F 7))
set_option maxHeartbeats 4000000 in
set_option maxRecDepth 100000 in
theorem c_X6_means (l : Launch) (D : va_G) (cI cC cZ cS : ClassId) (a : Nat → Nat) (F : Nat → Nat → Int32) (tc : Int64) (set : Int32) (n : Nat) (hn : F 2 0 = nI n) (h7 : n ≤ 7) : Met l yX6_means wsX6_means { frames := 3, cells := 0, slots := 0, locals := 68 } (PcE D cI cC cZ cS [.ref (a 0), .int set] (wM cI cC cZ cS a F tc)) (QcM (some (.int ((d_X6_means F set n).1))) D (wM cI cC cZ cS a F tc) (wM cI cC cZ cS a ((d_X6_means F set n).2) tc)) 0 0 (inW (wM cI cC cZ cS a F tc)) := by
  refine Met.ofW (cc := cX6_means) (maxL := 6) (ret := (some .int)) (by decide) rfl ?_
  intro p e s m args below meth c s₁ B hml hv
  obtain ⟨rfl, hP, hD, hE⟩ := hv
  have hK := hE.1
  have hx := B.exec
  have hb := B.bytes
  have hr := B.returns
  have hts := atoms_spec (ws := wsX6_means) B.pre
  have hown : s.vm.findClass RX6 = some m.cls := findClass_of_methodNamed B.named
  have hlocks := B.notSynchronized
  have hinX6 : ∀ w ∈ wsX60, w ∈ wsX6_means := by decide +kernel
  have hD := inW_self hD
  have hS : va_S (inW (wM cI cC cZ cS a F tc)) s.heap s.heap [] := va_S.rf
  generalize hA : inW (wM cI cC cZ cS a F tc) = A at hD hS ⊢
  refine opq (d_X6_means F set n) (fun R hres => ?_)
  rw [hres]
  replace hres := hres.symm
  rw [d_X6_means] at hres
  have hl := lv_entry ([.ref (a 0), .int set]) (n := 6) (Nat.le_of_ble_eq_true rfl)
  rw [lg_entry_eq]
  generalize (lg_sl ([.ref (a 0), .int set]) ++ List.replicate (6 - (lg_sl ([.ref (a 0), .int set])).length) Slot.unset).toArray = ls at hl ⊢
  have hl : lv_has ls 6 [(0, .ref (a 0)), (1, .int set)] := hl
  refine lv_aload_n hx hb dX6_means_0 rfl (lv_at hl 0 rfl) ?_
  refine lv_iconst (v := 0) hx hb dX6_means_1 (by decide) ?_
  refine va_put (D := D) (ci := 6) (v := .int 0) (ty := .int) (C := RX6) (T := TX6) (N := 26) hx hb hts hinX6 tyX6 tyX6_ok nmX6 hown hK hP hD hS 0 rfl rfl 0 (by decide) (hts (.fieldLink RX6 53 "FirstOutModel" "thrown" "I") (by decide +kernel)) (fun _ h9 => h9) rfl (by decide +kernel) rfl rfl (Nat.le_of_ble_eq_true rfl) dX6_means_2 (fun H locs hP hD hS => ?_)
  have hP : va_P D vwCl (wM cI cC cZ cS a (va_up F 0 (upd (F 0) 0 0)) tc) H := hP
  have hD : va_D A (wM cI cC cZ cS a (va_up F 0 (upd (F 0) 0 0)) tc) := hD
  refine lv_iload_n hx hb dX6_means_5 rfl (lv_at hl 1 rfl) ?_
  refine lv_iconst (v := 0) hx hb dX6_means_6 (by decide) ?_
  refine lv_aload_n hx hb dX6_means_7 rfl (lv_at hl 0 rfl) ?_
  have hPc := hP.sub (ws' := (w5 cI cC cZ cS a (upd (F 0) 0 0) (F 2) (F 3) (F 4) (F 5) tc)) [0, 2, 3, 4, 5] rfl
  have hDc := hD.sub (ws' := (w5 cI cC cZ cS a (upd (F 0) 0 0) (F 2) (F 3) (F 4) (F 5) tc)) [0, 2, 3, 4, 5] (by decide) rfl
  refine m_callR (W.runV (As := []) (rest := [.int 0, .int set]) ⟨hx, hb, hml, hown, hts⟩ (c_X6_everything l D cI cC cZ cS a (upd (F 0) 0 0) (F 2) (F 3) (F 4) (F 5) tc n hn h7) (cwV 0 hts gX6_means_X6_everything rfl rfl rfl (by decide +kernel) ⟨Nat.le_of_ble_eq_true rfl, Nat.le_of_ble_eq_true rfl⟩) (preV_of hPc hDc hE (va_recv hK hPc (ci := 6) (q0 := 0) rfl rfl)) rfl rfl hl.1 rfl (lv_room (Nat.le_of_ble_eq_true rfl)) dX6_means_8 ⟨Nat.zero_le _, Nat.zero_le _⟩) ?_
  refine W.eq (g2 := F0 m 11 ls [.int (d_X6_everything n), .int 0, .int set]) rfl ?_
  have hPc := hP.sub (ws' := []) [] rfl
  have hDc := hD.sub (ws' := []) [] (by decide) rfl
  refine m_callR (W.runS (As := [.int set, .int 0, .int (d_X6_everything n)]) (rest := []) ⟨hx, hb, hml, hown, hts⟩ (c_X6_in l D cI cC cZ cS set 0 (d_X6_everything n)) (va_cwS 3 hts gX6_means_X6_in rfl rfl rfl (by decide +kernel) ⟨Nat.le_of_ble_eq_true rfl, Nat.le_of_ble_eq_true rfl⟩) (preS_of hPc hDc hE) rfl rfl hl.1 rfl (lv_room (Nat.le_of_ble_eq_true rfl)) dX6_means_11 ⟨Nat.zero_le _, Nat.zero_le _⟩) ?_
  refine W.eq (g2 := F0 m 14 ls [.int (d_X6_in set 0 (d_X6_everything n))]) rfl ?_
  refine lv_if_ne (tgt := 19) hx hb dX6_means_14 (by decide) (fun c_1 => ?_) (fun c_1 => ?_)
  · skip
    rw [if_neg c_1] at hres
    refine lv_aload_n hx hb dX6_means_19 rfl (lv_at hl 0 rfl) ?_
    have hPc := hP.sub (ws' := (wMw cI cC cZ cS a (upd (F 0) 0 0) (F 6) (F 7) tc)) [0, 6, 7] rfl
    have hDc := hD.sub (ws' := (wMw cI cC cZ cS a (upd (F 0) 0 0) (F 6) (F 7) tc)) [0, 6, 7] (by decide) rfl
    refine m_callM (W.runV (As := []) (rest := []) ⟨hx, hb, hml, hown, hts⟩ (c_X6_asNow l D cI cC cZ cS a (upd (F 0) 0 0) (F 6) (F 7) tc) (cwV 0 hts gX6_means_X6_asNow rfl rfl rfl (by decide +kernel) ⟨Nat.le_of_ble_eq_true rfl, Nat.le_of_ble_eq_true rfl⟩) (preV_of hPc hDc hE (va_recv hK hPc (ci := 6) (q0 := 0) rfl rfl)) rfl rfl hl.1 rfl (lv_room (Nat.le_of_ble_eq_true rfl)) dX6_means_20 ⟨Nat.zero_le _, Nat.zero_le _⟩) hP hD hS [0, 6, 7] rfl wMw_ad (fun H locs hP hD hS => ?_)
    have hP : va_P D vwCl (wM cI cC cZ cS a (va_up (va_up F 0 (upd (F 0) 0 0)) 7 (d_X6_asNow (F 6) (F 7))) tc) H := hP
    have hD : va_D A (wM cI cC cZ cS a (va_up (va_up F 0 (upd (F 0) 0 0)) 7 (d_X6_asNow (F 6) (F 7))) tc) := hD
    refine W.eq (g2 := F0 m 23 ls []) rfl ?_
    refine opq (d_X6_asNow (F 6) (F 7)) (fun r_2 hr_2 => ?_)
    try rw [hr_2] at hP
    try rw [hr_2] at hD
    try rw [hr_2] at hres
    try rw [hr_2]
    refine lv_bipush (v := (-9)) hx hb dX6_means_23 (by decide) ?_
    refine lv_istore_n (lv' := [(2, .int (-9)), (0, .ref (a 0)), (1, .int set)]) hx hb dX6_means_25 rfl hl (by decide) rfl (fun ls hl => ?_)
    refine lv_iconst (v := 0) hx hb dX6_means_26 (by decide) ?_
    refine lv_istore_n (lv' := [(3, .int 0), (2, .int (-9)), (0, .ref (a 0)), (1, .int set)]) hx hb dX6_means_27 rfl hl (by decide) rfl (fun ls hl => ?_)
    have loop28 : ∀ (k28 : Nat) (i : Nat) (best : Int32) (wv : Nat → Int32), 32 - i < k28 → i ≤ 32 → R = lp_X6_means_28 F set n k28 i best wv → ∀ (H : Heap) (locs : List Loc), va_P D vwCl (wM cI cC cZ cS a (va_up (va_up F 0 (upd (F 0) 0 0)) 7 wv) tc) H → va_D A (wM cI cC cZ cS a (va_up (va_up F 0 (upd (F 0) 0 0)) 7 wv) tc) → va_S A s.heap H locs → ∀ ls : Array Slot, lv_has ls 6 [(0, .ref (a 0)), (1, .int set), (2, .int best), (3, .int (nI i))] → W p l e (headSpec wsX6_means { frames := 3, cells := 0, slots := 0, locals := 68 }).room s m (([.ref (a 0), .int set] : List Value).toArray) below meth c H locs 0 0 (MQ below (QcM (some (.int R.1)) D (wM cI cC cZ cS a F tc) (wM cI cC cZ cS a R.2 tc)) (([.ref (a 0), .int set] : List Value).toArray) s 0 0 A) (F0 m 28 ls []) := by
      intro k28
      induction k28 with
      | zero => intro i best wv hk; exact absurd hk (Nat.not_lt_zero _)
      | succ k28 ih28 =>
        intro i best wv hk28 hi hres H locs hP hD hS ls hl
        rw [lp_X6_means_28] at hres
        refine lv_iload_n hx hb dX6_means_28 rfl (lv_at hl 3 rfl) ?_
        refine lv_bipush (v := 32) hx hb dX6_means_29 (by decide) ?_
        refine lv_icmp_ge (tgt := 115) hx hb dX6_means_31 (by decide) (fun c_3 => ?_) (fun c_3 => ?_)
        · skip
          rw [if_pos c_3] at hres
          refine lv_iload_n hx hb dX6_means_115 rfl (lv_at hl 2 rfl) ?_
          rw [hres]
          exact W.iret (v := best) hx hb hr (fun t ht hW => ⟨rfl, by rw [ht]; exact hP, by rw [hA]; exact hS.F ht⟩) hS.2.2 dX6_means_116
        · skip
          rw [if_neg c_3] at hres
          have hlt : i < 32 := nlt_of (b := 32) c_3 (by omega) (by omega)
          refine lv_aload_n hx hb dX6_means_34 rfl (lv_at hl 0 rfl) ?_
          refine va_get (D := D) (ci := 6) (v := .ref (a 7)) (C := RX6) (T := TX6) (N := 26) hx hb hts hinX6 hown hK hP 0 rfl rfl 16 (by decide) (hts (.fieldLink RX6 28 "FirstOutModel" "w" "[I") (by decide +kernel)) (fun _ h9 => h9) rfl dX6_means_35 ?_
          refine lv_iconst (v := 1) hx hb dX6_means_38 (by decide) ?_
          refine lv_iload_n hx hb dX6_means_39 rfl (lv_at hl 3 rfl) ?_
          refine m_iast hx hb hK hP hD hS 7 0 rfl rfl 1 rfl (by decide) (by decide) dX6_means_40 (fun H locs hP hD hS => ?_)
          have hP : va_P D vwCl (wM cI cC cZ cS a (va_up (va_up F 0 (upd (F 0) 0 0)) 7 (upd wv 1 (nI i))) tc) H := hP
          have hD : va_D A (wM cI cC cZ cS a (va_up (va_up F 0 (upd (F 0) 0 0)) 7 (upd wv 1 (nI i))) tc) := hD
          refine lv_aload_n hx hb dX6_means_41 rfl (lv_at hl 0 rfl) ?_
          refine lv_aload_n hx hb dX6_means_42 rfl (lv_at hl 0 rfl) ?_
          refine va_get (D := D) (ci := 6) (v := .ref (a 7)) (C := RX6) (T := TX6) (N := 26) hx hb hts hinX6 hown hK hP 0 rfl rfl 16 (by decide) (hts (.fieldLink RX6 28 "FirstOutModel" "w" "[I") (by decide +kernel)) (fun _ h9 => h9) rfl dX6_means_43 ?_
          have hPc := hP.sub (ws' := (w5r cI cC cZ cS a (upd (F 0) 0 0) (F 2) (F 3) (F 4) (F 5) (a 7) (upd wv 1 (nI i)) tc)) [0, 2, 3, 4, 5, 7] rfl
          have hDc := hD.sub (ws' := (w5r cI cC cZ cS a (upd (F 0) 0 0) (F 2) (F 3) (F 4) (F 5) (a 7) (upd wv 1 (nI i)) tc)) [0, 2, 3, 4, 5, 7] (by decide) rfl
          refine m_callR (W.runV (As := [.ref (a 7)]) (rest := []) ⟨hx, hb, hml, hown, hts⟩ (c_X6_comers l D cI cC cZ cS a (upd (F 0) 0 0) (F 2) (F 3) (F 4) (F 5) (a 7) (upd wv 1 (nI i)) tc n hn h7) (cwV 1 hts gX6_means_X6_comers rfl rfl rfl (by decide +kernel) ⟨Nat.le_of_ble_eq_true rfl, Nat.le_of_ble_eq_true rfl⟩) (preV_of hPc hDc hE (va_recv hK hPc (ci := 6) (q0 := 0) rfl rfl)) rfl rfl hl.1 rfl (lv_room (Nat.le_of_ble_eq_true rfl)) dX6_means_46 ⟨Nat.zero_le _, Nat.zero_le _⟩) ?_
          refine W.eq (g2 := F0 m 49 ls [.int (d_X6_comers (F 3) (F 5) (upd wv 1 (nI i)) n)]) rfl ?_
          refine lv_aload_n hx hb dX6_means_49 rfl (lv_at hl 0 rfl) ?_
          refine lv_aload_n hx hb dX6_means_50 rfl (lv_at hl 0 rfl) ?_
          refine va_get (D := D) (ci := 6) (v := .ref (a 7)) (C := RX6) (T := TX6) (N := 26) hx hb hts hinX6 hown hK hP 0 rfl rfl 16 (by decide) (hts (.fieldLink RX6 28 "FirstOutModel" "w" "[I") (by decide +kernel)) (fun _ h9 => h9) rfl dX6_means_51 ?_
          have hPc := hP.sub (ws' := (w5r cI cC cZ cS a (upd (F 0) 0 0) (F 2) (F 3) (F 4) (F 5) (a 7) (upd wv 1 (nI i)) tc)) [0, 2, 3, 4, 5, 7] rfl
          have hDc := hD.sub (ws' := (w5r cI cC cZ cS a (upd (F 0) 0 0) (F 2) (F 3) (F 4) (F 5) (a 7) (upd wv 1 (nI i)) tc)) [0, 2, 3, 4, 5, 7] (by decide) rfl
          refine m_callR (W.runV (As := [.ref (a 7)]) (rest := [.int (d_X6_comers (F 3) (F 5) (upd wv 1 (nI i)) n)]) ⟨hx, hb, hml, hown, hts⟩ (c_X6_covered l D cI cC cZ cS a (upd (F 0) 0 0) (F 2) (F 3) (F 4) (F 5) (a 7) (upd wv 1 (nI i)) tc n hn h7) (cwV 1 hts gX6_means_X6_covered rfl rfl rfl (by decide +kernel) ⟨Nat.le_of_ble_eq_true rfl, Nat.le_of_ble_eq_true rfl⟩) (preV_of hPc hDc hE (va_recv hK hPc (ci := 6) (q0 := 0) rfl rfl)) rfl rfl hl.1 rfl (lv_room (Nat.le_of_ble_eq_true rfl)) dX6_means_54 ⟨Nat.zero_le _, Nat.zero_le _⟩) ?_
          refine W.eq (g2 := F0 m 57 ls [.int (d_X6_covered (F 3) (upd wv 1 (nI i)) n), .int (d_X6_comers (F 3) (F 5) (upd wv 1 (nI i)) n)]) rfl ?_
          refine lv_iand hx hb dX6_means_57 ?_
          refine lv_istore (lv' := [(4, .int ((d_X6_comers (F 3) (F 5) (upd wv 1 (nI i)) n) &&& (d_X6_covered (F 3) (upd wv 1 (nI i)) n))), (0, .ref (a 0)), (1, .int set), (2, .int best), (3, .int (nI i))]) hx hb dX6_means_58 hl (by decide) rfl (fun ls hl => ?_)
          refine lv_iload hx hb dX6_means_60 (lv_at hl 0 rfl) ?_
          refine lv_if_eq (tgt := 78) hx hb dX6_means_62 (by decide) (fun c_4 => ?_) (fun c_4 => ?_)
          · skip
            rw [if_pos c_4] at hres
            refine lv_iconst (v := 0) hx hb dX6_means_78 (by decide) ?_
            refine lv_istore (lv' := [(5, .int 0), (4, .int ((d_X6_comers (F 3) (F 5) (upd wv 1 (nI i)) n) &&& (d_X6_covered (F 3) (upd wv 1 (nI i)) n))), (0, .ref (a 0)), (1, .int set), (2, .int best), (3, .int (nI i))]) hx hb dX6_means_79 hl (by decide) rfl (fun ls hl => ?_)
            refine lv_iload hx hb dX6_means_81 (lv_at hl 0 rfl) ?_
            refine lv_if_eq (tgt := 107) hx hb dX6_means_83 (by decide) (fun c_5 => ?_) (fun c_5 => ?_)
            · skip
              refine lv_iload_n hx hb dX6_means_107 rfl (lv_at hl 4 rfl) ?_
              refine lv_istore_n (lv' := [(2, .int best), (5, .int 0), (4, .int ((d_X6_comers (F 3) (F 5) (upd wv 1 (nI i)) n) &&& (d_X6_covered (F 3) (upd wv 1 (nI i)) n))), (0, .ref (a 0)), (1, .int set), (3, .int (nI i))]) hx hb dX6_means_108 rfl hl (by decide) rfl (fun ls hl => ?_)
              refine lv_iinc (v := nI (i + 1)) (lv' := [(3, .int (nI (i + 1))), (2, .int best), (5, .int 0), (4, .int ((d_X6_comers (F 3) (F 5) (upd wv 1 (nI i)) n) &&& (d_X6_covered (F 3) (upd wv 1 (nI i)) n))), (0, .ref (a 0)), (1, .int set)]) hx hb dX6_means_109 hl (k := 5) rfl ((nI_add i 1)) (by decide) rfl (fun ls hl => ?_)
              refine lv_goto (tgt := 28) hx hb dX6_means_112 (by decide) ?_
              have hP : va_P D vwCl (wM cI cC cZ cS a (va_up (va_up F 0 (upd (F 0) 0 0)) 7 (upd wv 1 (nI i))) tc) H := hP
              have hD : va_D A (wM cI cC cZ cS a (va_up (va_up F 0 (upd (F 0) 0 0)) 7 (upd wv 1 (nI i))) tc) := hD
              exact ih28 (i + 1) best (upd wv 1 (nI i)) (by omega) (by omega) hres _ _ hP hD hS ls (lv_sub hl [4, 5, 1, 0] rfl)
            · exact absurd c_5 (by decide)
          · skip
            rw [if_neg c_4] at hres
            refine lv_iload hx hb dX6_means_65 (lv_at hl 0 rfl) ?_
            refine lv_iload_n hx hb dX6_means_67 rfl (lv_at hl 2 rfl) ?_
            refine lv_iconst (v := (-1)) hx hb dX6_means_68 (by decide) ?_
            refine lv_ixor hx hb dX6_means_69 ?_
            refine lv_iand hx hb dX6_means_70 ?_
            refine lv_if_ne (tgt := 78) hx hb dX6_means_71 (by decide) (fun c_6 => ?_) (fun c_6 => ?_)
            · skip
              rw [if_neg c_6] at hres
              refine lv_iconst (v := 0) hx hb dX6_means_78 (by decide) ?_
              refine lv_istore (lv' := [(5, .int 0), (4, .int ((d_X6_comers (F 3) (F 5) (upd wv 1 (nI i)) n) &&& (d_X6_covered (F 3) (upd wv 1 (nI i)) n))), (0, .ref (a 0)), (1, .int set), (2, .int best), (3, .int (nI i))]) hx hb dX6_means_79 hl (by decide) rfl (fun ls hl => ?_)
              refine lv_iload hx hb dX6_means_81 (lv_at hl 0 rfl) ?_
              refine lv_if_eq (tgt := 107) hx hb dX6_means_83 (by decide) (fun c_7 => ?_) (fun c_7 => ?_)
              · skip
                refine lv_iload_n hx hb dX6_means_107 rfl (lv_at hl 4 rfl) ?_
                refine lv_istore_n (lv' := [(2, .int best), (5, .int 0), (4, .int ((d_X6_comers (F 3) (F 5) (upd wv 1 (nI i)) n) &&& (d_X6_covered (F 3) (upd wv 1 (nI i)) n))), (0, .ref (a 0)), (1, .int set), (3, .int (nI i))]) hx hb dX6_means_108 rfl hl (by decide) rfl (fun ls hl => ?_)
                refine lv_iinc (v := nI (i + 1)) (lv' := [(3, .int (nI (i + 1))), (2, .int best), (5, .int 0), (4, .int ((d_X6_comers (F 3) (F 5) (upd wv 1 (nI i)) n) &&& (d_X6_covered (F 3) (upd wv 1 (nI i)) n))), (0, .ref (a 0)), (1, .int set)]) hx hb dX6_means_109 hl (k := 5) rfl ((nI_add i 1)) (by decide) rfl (fun ls hl => ?_)
                refine lv_goto (tgt := 28) hx hb dX6_means_112 (by decide) ?_
                have hP : va_P D vwCl (wM cI cC cZ cS a (va_up (va_up F 0 (upd (F 0) 0 0)) 7 (upd wv 1 (nI i))) tc) H := hP
                have hD : va_D A (wM cI cC cZ cS a (va_up (va_up F 0 (upd (F 0) 0 0)) 7 (upd wv 1 (nI i))) tc) := hD
                exact ih28 (i + 1) best (upd wv 1 (nI i)) (by omega) (by omega) hres _ _ hP hD hS ls (lv_sub hl [4, 5, 1, 0] rfl)
              · exact absurd c_7 (by decide)
            · skip
              rw [if_pos c_6] at hres
              refine lv_iconst (v := 1) hx hb dX6_means_74 (by decide) ?_
              refine lv_goto (tgt := 79) hx hb dX6_means_75 (by decide) ?_
              refine lv_istore (lv' := [(5, .int 1), (4, .int ((d_X6_comers (F 3) (F 5) (upd wv 1 (nI i)) n) &&& (d_X6_covered (F 3) (upd wv 1 (nI i)) n))), (0, .ref (a 0)), (1, .int set), (2, .int best), (3, .int (nI i))]) hx hb dX6_means_79 hl (by decide) rfl (fun ls hl => ?_)
              refine lv_iload hx hb dX6_means_81 (lv_at hl 0 rfl) ?_
              refine lv_if_eq (tgt := 107) hx hb dX6_means_83 (by decide) (fun c_8 => ?_) (fun c_8 => ?_)
              · exact absurd c_8 (by decide)
              · skip
                refine lv_iload_n hx hb dX6_means_86 rfl (lv_at hl 4 rfl) ?_
                refine lv_bipush (v := (-9)) hx hb dX6_means_87 (by decide) ?_
                refine lv_icmp_eq (tgt := 103) hx hb dX6_means_89 (by decide) (fun c_9 => ?_) (fun c_9 => ?_)
                · skip
                  rw [if_pos c_9] at hres
                  refine lv_iload_n hx hb dX6_means_103 rfl (lv_at hl 5 rfl) ?_
                  refine lv_goto (tgt := 108) hx hb dX6_means_104 (by decide) ?_
                  refine lv_istore_n (lv' := [(2, .int (nI i)), (5, .int 1), (4, .int ((d_X6_comers (F 3) (F 5) (upd wv 1 (nI i)) n) &&& (d_X6_covered (F 3) (upd wv 1 (nI i)) n))), (0, .ref (a 0)), (1, .int set), (3, .int (nI i))]) hx hb dX6_means_108 rfl hl (by decide) rfl (fun ls hl => ?_)
                  refine lv_iinc (v := nI (i + 1)) (lv' := [(3, .int (nI (i + 1))), (2, .int (nI i)), (5, .int 1), (4, .int ((d_X6_comers (F 3) (F 5) (upd wv 1 (nI i)) n) &&& (d_X6_covered (F 3) (upd wv 1 (nI i)) n))), (0, .ref (a 0)), (1, .int set)]) hx hb dX6_means_109 hl (k := 5) rfl ((nI_add i 1)) (by decide) rfl (fun ls hl => ?_)
                  refine lv_goto (tgt := 28) hx hb dX6_means_112 (by decide) ?_
                  have hP : va_P D vwCl (wM cI cC cZ cS a (va_up (va_up F 0 (upd (F 0) 0 0)) 7 (upd wv 1 (nI i))) tc) H := hP
                  have hD : va_D A (wM cI cC cZ cS a (va_up (va_up F 0 (upd (F 0) 0 0)) 7 (upd wv 1 (nI i))) tc) := hD
                  exact ih28 (i + 1) (nI i) (upd wv 1 (nI i)) (by omega) (by omega) hres _ _ hP hD hS ls (lv_sub hl [4, 5, 1, 0] rfl)
                · skip
                  rw [if_neg c_9] at hres
                  refine lv_iload_n hx hb dX6_means_92 rfl (lv_at hl 5 rfl) ?_
                  have hPc := hP.sub (ws' := []) [] rfl
                  have hDc := hD.sub (ws' := []) [] (by decide) rfl
                  refine m_callR (W.runS (As := [.int (nI i)]) (rest := []) ⟨hx, hb, hml, hown, hts⟩ (c_X6_ones l D cI cC cZ cS (nI i)) (va_cwS 1 hts gX6_means_X6_ones rfl rfl rfl (by decide +kernel) ⟨Nat.le_of_ble_eq_true rfl, Nat.le_of_ble_eq_true rfl⟩) (preS_of hPc hDc hE) rfl rfl hl.1 rfl (lv_room (Nat.le_of_ble_eq_true rfl)) dX6_means_93 ⟨Nat.zero_le _, Nat.zero_le _⟩) ?_
                  refine W.eq (g2 := F0 m 96 ls [.int (d_X6_ones (nI i))]) rfl ?_
                  refine lv_iload_n hx hb dX6_means_96 rfl (lv_at hl 4 rfl) ?_
                  have hPc := hP.sub (ws' := []) [] rfl
                  have hDc := hD.sub (ws' := []) [] (by decide) rfl
                  refine m_callR (W.runS (As := [.int best]) (rest := [.int (d_X6_ones (nI i))]) ⟨hx, hb, hml, hown, hts⟩ (c_X6_ones l D cI cC cZ cS best) (va_cwS 1 hts gX6_means_X6_ones rfl rfl rfl (by decide +kernel) ⟨Nat.le_of_ble_eq_true rfl, Nat.le_of_ble_eq_true rfl⟩) (preS_of hPc hDc hE) rfl rfl hl.1 rfl (lv_room (Nat.le_of_ble_eq_true rfl)) dX6_means_97 ⟨Nat.zero_le _, Nat.zero_le _⟩) ?_
                  refine W.eq (g2 := F0 m 100 ls [.int (d_X6_ones best), .int (d_X6_ones (nI i))]) rfl ?_
                  refine lv_icmp_ge (tgt := 107) hx hb dX6_means_100 (by decide) (fun c_10 => ?_) (fun c_10 => ?_)
                  · skip
                    rw [if_pos c_10] at hres
                    refine lv_iload_n hx hb dX6_means_107 rfl (lv_at hl 4 rfl) ?_
                    refine lv_istore_n (lv' := [(2, .int best), (5, .int 1), (4, .int ((d_X6_comers (F 3) (F 5) (upd wv 1 (nI i)) n) &&& (d_X6_covered (F 3) (upd wv 1 (nI i)) n))), (0, .ref (a 0)), (1, .int set), (3, .int (nI i))]) hx hb dX6_means_108 rfl hl (by decide) rfl (fun ls hl => ?_)
                    refine lv_iinc (v := nI (i + 1)) (lv' := [(3, .int (nI (i + 1))), (2, .int best), (5, .int 1), (4, .int ((d_X6_comers (F 3) (F 5) (upd wv 1 (nI i)) n) &&& (d_X6_covered (F 3) (upd wv 1 (nI i)) n))), (0, .ref (a 0)), (1, .int set)]) hx hb dX6_means_109 hl (k := 5) rfl ((nI_add i 1)) (by decide) rfl (fun ls hl => ?_)
                    refine lv_goto (tgt := 28) hx hb dX6_means_112 (by decide) ?_
                    have hP : va_P D vwCl (wM cI cC cZ cS a (va_up (va_up F 0 (upd (F 0) 0 0)) 7 (upd wv 1 (nI i))) tc) H := hP
                    have hD : va_D A (wM cI cC cZ cS a (va_up (va_up F 0 (upd (F 0) 0 0)) 7 (upd wv 1 (nI i))) tc) := hD
                    exact ih28 (i + 1) best (upd wv 1 (nI i)) (by omega) (by omega) hres _ _ hP hD hS ls (lv_sub hl [4, 5, 1, 0] rfl)
                  · skip
                    rw [if_neg c_10] at hres
                    refine lv_iload_n hx hb dX6_means_103 rfl (lv_at hl 5 rfl) ?_
                    refine lv_goto (tgt := 108) hx hb dX6_means_104 (by decide) ?_
                    refine lv_istore_n (lv' := [(2, .int (nI i)), (5, .int 1), (4, .int ((d_X6_comers (F 3) (F 5) (upd wv 1 (nI i)) n) &&& (d_X6_covered (F 3) (upd wv 1 (nI i)) n))), (0, .ref (a 0)), (1, .int set), (3, .int (nI i))]) hx hb dX6_means_108 rfl hl (by decide) rfl (fun ls hl => ?_)
                    refine lv_iinc (v := nI (i + 1)) (lv' := [(3, .int (nI (i + 1))), (2, .int (nI i)), (5, .int 1), (4, .int ((d_X6_comers (F 3) (F 5) (upd wv 1 (nI i)) n) &&& (d_X6_covered (F 3) (upd wv 1 (nI i)) n))), (0, .ref (a 0)), (1, .int set)]) hx hb dX6_means_109 hl (k := 5) rfl ((nI_add i 1)) (by decide) rfl (fun ls hl => ?_)
                    refine lv_goto (tgt := 28) hx hb dX6_means_112 (by decide) ?_
                    have hP : va_P D vwCl (wM cI cC cZ cS a (va_up (va_up F 0 (upd (F 0) 0 0)) 7 (upd wv 1 (nI i))) tc) H := hP
                    have hD : va_D A (wM cI cC cZ cS a (va_up (va_up F 0 (upd (F 0) 0 0)) 7 (upd wv 1 (nI i))) tc) := hD
                    exact ih28 (i + 1) (nI i) (upd wv 1 (nI i)) (by omega) (by omega) hres _ _ hP hD hS ls (lv_sub hl [4, 5, 1, 0] rfl)
    have hP : va_P D vwCl (wM cI cC cZ cS a (va_up (va_up F 0 (upd (F 0) 0 0)) 7 r_2) tc) _ := hP
    have hD : va_D A (wM cI cC cZ cS a (va_up (va_up F 0 (upd (F 0) 0 0)) 7 r_2) tc) := hD
    exact loop28 33 0 (-9) r_2 (by omega) (Nat.zero_le _) hres _ _ hP hD hS ls (lv_sub hl [2, 3, 1, 0] rfl)
  · skip
    rw [if_pos c_1] at hres
    refine lv_iconst (v := (-1)) hx hb dX6_means_17 (by decide) ?_
    rw [hres]
    exact W.iret (v := (-1)) hx hb hr (fun t ht hW => ⟨rfl, by rw [ht]; exact hP, by rw [hA]; exact hS.F ht⟩) hS.2.2 dX6_means_18
def lp_X6_span_14 (F : Nat → Nat → Int32) (n : Nat) : Nat → Nat → Int32 → (Nat → Int32) → Int32 × (Nat → Nat → Int32)
  | 0, _, _, _ => (0, F)
  | k14 + 1, i, best, wv => if (32 : Int32) ≤ (nI i) then
      (best, (va_up (va_up F 0 (upd (F 0) 0 0)) 7 wv))
    else
      if (d_X6_ones (d_X6_covered (F 3) (upd wv 1 (nI i)) n)) = (1 : Int32) then
        if best = (-9 : Int32) then
          lp_X6_span_14 F n k14 (i + 1) (nI i) (upd wv 1 (nI i))
        else
          if (d_X6_ones best) ≤ (d_X6_ones (nI i)) then
            lp_X6_span_14 F n k14 (i + 1) best (upd wv 1 (nI i))
          else
            lp_X6_span_14 F n k14 (i + 1) (nI i) (upd wv 1 (nI i))
      else
        lp_X6_span_14 F n k14 (i + 1) best (upd wv 1 (nI i))
def d_X6_span (F : Nat → Nat → Int32) (n : Nat) : Int32 × (Nat → Nat → Int32) :=
  lp_X6_span_14 F n 33 0 (-9) (d_X6_asNow (F 6) (F 7))
set_option maxHeartbeats 4000000 in
set_option maxRecDepth 100000 in
theorem c_X6_span (l : Launch) (D : va_G) (cI cC cZ cS : ClassId) (a : Nat → Nat) (F : Nat → Nat → Int32) (tc : Int64) (n : Nat) (hn : F 2 0 = nI n) (h7 : n ≤ 7) : Met l yX6_span wsX6_span { frames := 2, cells := 0, slots := 0, locals := 45 } (PcE D cI cC cZ cS [.ref (a 0)] (wM cI cC cZ cS a F tc)) (QcM (some (.int ((d_X6_span F n).1))) D (wM cI cC cZ cS a F tc) (wM cI cC cZ cS a ((d_X6_span F n).2) tc)) 0 0 (inW (wM cI cC cZ cS a F tc)) := by
  refine Met.ofW (cc := cX6_span) (maxL := 3) (ret := (some .int)) (by decide) rfl ?_
  intro p e s m args below meth c s₁ B hml hv
  obtain ⟨rfl, hP, hD, hE⟩ := hv
  have hK := hE.1
  have hx := B.exec
  have hb := B.bytes
  have hr := B.returns
  have hts := atoms_spec (ws := wsX6_span) B.pre
  have hown : s.vm.findClass RX6 = some m.cls := findClass_of_methodNamed B.named
  have hlocks := B.notSynchronized
  have hinX6 : ∀ w ∈ wsX60, w ∈ wsX6_span := by decide +kernel
  have hD := inW_self hD
  have hS : va_S (inW (wM cI cC cZ cS a F tc)) s.heap s.heap [] := va_S.rf
  generalize hA : inW (wM cI cC cZ cS a F tc) = A at hD hS ⊢
  refine opq (d_X6_span F n) (fun R hres => ?_)
  rw [hres]
  replace hres := hres.symm
  rw [d_X6_span] at hres
  have hl := lv_entry ([.ref (a 0)]) (n := 3) (Nat.le_of_ble_eq_true rfl)
  rw [lg_entry_eq]
  generalize (lg_sl ([.ref (a 0)]) ++ List.replicate (3 - (lg_sl ([.ref (a 0)])).length) Slot.unset).toArray = ls at hl ⊢
  have hl : lv_has ls 3 [(0, .ref (a 0))] := hl
  refine lv_aload_n hx hb dX6_span_0 rfl (lv_at hl 0 rfl) ?_
  refine lv_iconst (v := 0) hx hb dX6_span_1 (by decide) ?_
  refine va_put (D := D) (ci := 6) (v := .int 0) (ty := .int) (C := RX6) (T := TX6) (N := 26) hx hb hts hinX6 tyX6 tyX6_ok nmX6 hown hK hP hD hS 0 rfl rfl 0 (by decide) (hts (.fieldLink RX6 53 "FirstOutModel" "thrown" "I") (by decide +kernel)) (fun _ h9 => h9) rfl (by decide +kernel) rfl rfl (Nat.le_of_ble_eq_true rfl) dX6_span_2 (fun H locs hP hD hS => ?_)
  have hP : va_P D vwCl (wM cI cC cZ cS a (va_up F 0 (upd (F 0) 0 0)) tc) H := hP
  have hD : va_D A (wM cI cC cZ cS a (va_up F 0 (upd (F 0) 0 0)) tc) := hD
  refine lv_aload_n hx hb dX6_span_5 rfl (lv_at hl 0 rfl) ?_
  have hPc := hP.sub (ws' := (wMw cI cC cZ cS a (upd (F 0) 0 0) (F 6) (F 7) tc)) [0, 6, 7] rfl
  have hDc := hD.sub (ws' := (wMw cI cC cZ cS a (upd (F 0) 0 0) (F 6) (F 7) tc)) [0, 6, 7] (by decide) rfl
  refine m_callM (W.runV (As := []) (rest := []) ⟨hx, hb, hml, hown, hts⟩ (c_X6_asNow l D cI cC cZ cS a (upd (F 0) 0 0) (F 6) (F 7) tc) (cwV 0 hts gX6_span_X6_asNow rfl rfl rfl (by decide +kernel) ⟨Nat.le_of_ble_eq_true rfl, Nat.le_of_ble_eq_true rfl⟩) (preV_of hPc hDc hE (va_recv hK hPc (ci := 6) (q0 := 0) rfl rfl)) rfl rfl hl.1 rfl (lv_room (Nat.le_of_ble_eq_true rfl)) dX6_span_6 ⟨Nat.zero_le _, Nat.zero_le _⟩) hP hD hS [0, 6, 7] rfl wMw_ad (fun H locs hP hD hS => ?_)
  have hP : va_P D vwCl (wM cI cC cZ cS a (va_up (va_up F 0 (upd (F 0) 0 0)) 7 (d_X6_asNow (F 6) (F 7))) tc) H := hP
  have hD : va_D A (wM cI cC cZ cS a (va_up (va_up F 0 (upd (F 0) 0 0)) 7 (d_X6_asNow (F 6) (F 7))) tc) := hD
  refine W.eq (g2 := F0 m 9 ls []) rfl ?_
  refine opq (d_X6_asNow (F 6) (F 7)) (fun r_1 hr_1 => ?_)
  try rw [hr_1] at hP
  try rw [hr_1] at hD
  try rw [hr_1] at hres
  try rw [hr_1]
  refine lv_bipush (v := (-9)) hx hb dX6_span_9 (by decide) ?_
  refine lv_istore_n (lv' := [(1, .int (-9)), (0, .ref (a 0))]) hx hb dX6_span_11 rfl hl (by decide) rfl (fun ls hl => ?_)
  refine lv_iconst (v := 0) hx hb dX6_span_12 (by decide) ?_
  refine lv_istore_n (lv' := [(2, .int 0), (1, .int (-9)), (0, .ref (a 0))]) hx hb dX6_span_13 rfl hl (by decide) rfl (fun ls hl => ?_)
  have loop14 : ∀ (k14 : Nat) (i : Nat) (best : Int32) (wv : Nat → Int32), 32 - i < k14 → i ≤ 32 → R = lp_X6_span_14 F n k14 i best wv → ∀ (H : Heap) (locs : List Loc), va_P D vwCl (wM cI cC cZ cS a (va_up (va_up F 0 (upd (F 0) 0 0)) 7 wv) tc) H → va_D A (wM cI cC cZ cS a (va_up (va_up F 0 (upd (F 0) 0 0)) 7 wv) tc) → va_S A s.heap H locs → ∀ ls : Array Slot, lv_has ls 3 [(0, .ref (a 0)), (1, .int best), (2, .int (nI i))] → W p l e (headSpec wsX6_span { frames := 2, cells := 0, slots := 0, locals := 45 }).room s m (([.ref (a 0)] : List Value).toArray) below meth c H locs 0 0 (MQ below (QcM (some (.int R.1)) D (wM cI cC cZ cS a F tc) (wM cI cC cZ cS a R.2 tc)) (([.ref (a 0)] : List Value).toArray) s 0 0 A) (F0 m 14 ls []) := by
    intro k14
    induction k14 with
    | zero => intro i best wv hk; exact absurd hk (Nat.not_lt_zero _)
    | succ k14 ih14 =>
      intro i best wv hk14 hi hres H locs hP hD hS ls hl
      rw [lp_X6_span_14] at hres
      refine lv_iload_n hx hb dX6_span_14 rfl (lv_at hl 2 rfl) ?_
      refine lv_bipush (v := 32) hx hb dX6_span_15 (by decide) ?_
      refine lv_icmp_ge (tgt := 71) hx hb dX6_span_17 (by decide) (fun c_2 => ?_) (fun c_2 => ?_)
      · skip
        rw [if_pos c_2] at hres
        refine lv_iload_n hx hb dX6_span_71 rfl (lv_at hl 1 rfl) ?_
        rw [hres]
        exact W.iret (v := best) hx hb hr (fun t ht hW => ⟨rfl, by rw [ht]; exact hP, by rw [hA]; exact hS.F ht⟩) hS.2.2 dX6_span_72
      · skip
        rw [if_neg c_2] at hres
        have hlt : i < 32 := nlt_of (b := 32) c_2 (by omega) (by omega)
        refine lv_aload_n hx hb dX6_span_20 rfl (lv_at hl 0 rfl) ?_
        refine va_get (D := D) (ci := 6) (v := .ref (a 7)) (C := RX6) (T := TX6) (N := 26) hx hb hts hinX6 hown hK hP 0 rfl rfl 16 (by decide) (hts (.fieldLink RX6 28 "FirstOutModel" "w" "[I") (by decide +kernel)) (fun _ h9 => h9) rfl dX6_span_21 ?_
        refine lv_iconst (v := 1) hx hb dX6_span_24 (by decide) ?_
        refine lv_iload_n hx hb dX6_span_25 rfl (lv_at hl 2 rfl) ?_
        refine m_iast hx hb hK hP hD hS 7 0 rfl rfl 1 rfl (by decide) (by decide) dX6_span_26 (fun H locs hP hD hS => ?_)
        have hP : va_P D vwCl (wM cI cC cZ cS a (va_up (va_up F 0 (upd (F 0) 0 0)) 7 (upd wv 1 (nI i))) tc) H := hP
        have hD : va_D A (wM cI cC cZ cS a (va_up (va_up F 0 (upd (F 0) 0 0)) 7 (upd wv 1 (nI i))) tc) := hD
        refine lv_aload_n hx hb dX6_span_27 rfl (lv_at hl 0 rfl) ?_
        refine lv_aload_n hx hb dX6_span_28 rfl (lv_at hl 0 rfl) ?_
        refine va_get (D := D) (ci := 6) (v := .ref (a 7)) (C := RX6) (T := TX6) (N := 26) hx hb hts hinX6 hown hK hP 0 rfl rfl 16 (by decide) (hts (.fieldLink RX6 28 "FirstOutModel" "w" "[I") (by decide +kernel)) (fun _ h9 => h9) rfl dX6_span_29 ?_
        have hPc := hP.sub (ws' := (w5r cI cC cZ cS a (upd (F 0) 0 0) (F 2) (F 3) (F 4) (F 5) (a 7) (upd wv 1 (nI i)) tc)) [0, 2, 3, 4, 5, 7] rfl
        have hDc := hD.sub (ws' := (w5r cI cC cZ cS a (upd (F 0) 0 0) (F 2) (F 3) (F 4) (F 5) (a 7) (upd wv 1 (nI i)) tc)) [0, 2, 3, 4, 5, 7] (by decide) rfl
        refine m_callR (W.runV (As := [.ref (a 7)]) (rest := []) ⟨hx, hb, hml, hown, hts⟩ (c_X6_covered l D cI cC cZ cS a (upd (F 0) 0 0) (F 2) (F 3) (F 4) (F 5) (a 7) (upd wv 1 (nI i)) tc n hn h7) (cwV 1 hts gX6_span_X6_covered rfl rfl rfl (by decide +kernel) ⟨Nat.le_of_ble_eq_true rfl, Nat.le_of_ble_eq_true rfl⟩) (preV_of hPc hDc hE (va_recv hK hPc (ci := 6) (q0 := 0) rfl rfl)) rfl rfl hl.1 rfl (lv_room (Nat.le_of_ble_eq_true rfl)) dX6_span_32 ⟨Nat.zero_le _, Nat.zero_le _⟩) ?_
        refine W.eq (g2 := F0 m 35 ls [.int (d_X6_covered (F 3) (upd wv 1 (nI i)) n)]) rfl ?_
        have hPc := hP.sub (ws' := []) [] rfl
        have hDc := hD.sub (ws' := []) [] (by decide) rfl
        refine m_callR (W.runS (As := [.int (d_X6_covered (F 3) (upd wv 1 (nI i)) n)]) (rest := []) ⟨hx, hb, hml, hown, hts⟩ (c_X6_ones l D cI cC cZ cS (d_X6_covered (F 3) (upd wv 1 (nI i)) n)) (va_cwS 1 hts gX6_span_X6_ones rfl rfl rfl (by decide +kernel) ⟨Nat.le_of_ble_eq_true rfl, Nat.le_of_ble_eq_true rfl⟩) (preS_of hPc hDc hE) rfl rfl hl.1 rfl (lv_room (Nat.le_of_ble_eq_true rfl)) dX6_span_35 ⟨Nat.zero_le _, Nat.zero_le _⟩) ?_
        refine W.eq (g2 := F0 m 38 ls [.int (d_X6_ones (d_X6_covered (F 3) (upd wv 1 (nI i)) n))]) rfl ?_
        refine lv_iconst (v := 1) hx hb dX6_span_38 (by decide) ?_
        refine lv_icmp_ne (tgt := 63) hx hb dX6_span_39 (by decide) (fun c_3 => ?_) (fun c_3 => ?_)
        · skip
          rw [if_neg c_3] at hres
          refine lv_iload_n hx hb dX6_span_63 rfl (lv_at hl 1 rfl) ?_
          refine lv_istore_n (lv' := [(1, .int best), (0, .ref (a 0)), (2, .int (nI i))]) hx hb dX6_span_64 rfl hl (by decide) rfl (fun ls hl => ?_)
          refine lv_iinc (v := nI (i + 1)) (lv' := [(2, .int (nI (i + 1))), (1, .int best), (0, .ref (a 0))]) hx hb dX6_span_65 hl (k := 2) rfl ((nI_add i 1)) (by decide) rfl (fun ls hl => ?_)
          refine lv_goto (tgt := 14) hx hb dX6_span_68 (by decide) ?_
          have hP : va_P D vwCl (wM cI cC cZ cS a (va_up (va_up F 0 (upd (F 0) 0 0)) 7 (upd wv 1 (nI i))) tc) H := hP
          have hD : va_D A (wM cI cC cZ cS a (va_up (va_up F 0 (upd (F 0) 0 0)) 7 (upd wv 1 (nI i))) tc) := hD
          exact ih14 (i + 1) best (upd wv 1 (nI i)) (by omega) (by omega) hres _ _ hP hD hS ls (lv_sub hl [2, 1, 0] rfl)
        · skip
          rw [if_pos c_3] at hres
          refine lv_iload_n hx hb dX6_span_42 rfl (lv_at hl 1 rfl) ?_
          refine lv_bipush (v := (-9)) hx hb dX6_span_43 (by decide) ?_
          refine lv_icmp_eq (tgt := 59) hx hb dX6_span_45 (by decide) (fun c_4 => ?_) (fun c_4 => ?_)
          · skip
            rw [if_pos c_4] at hres
            refine lv_iload_n hx hb dX6_span_59 rfl (lv_at hl 2 rfl) ?_
            refine lv_goto (tgt := 64) hx hb dX6_span_60 (by decide) ?_
            refine lv_istore_n (lv' := [(1, .int (nI i)), (0, .ref (a 0)), (2, .int (nI i))]) hx hb dX6_span_64 rfl hl (by decide) rfl (fun ls hl => ?_)
            refine lv_iinc (v := nI (i + 1)) (lv' := [(2, .int (nI (i + 1))), (1, .int (nI i)), (0, .ref (a 0))]) hx hb dX6_span_65 hl (k := 2) rfl ((nI_add i 1)) (by decide) rfl (fun ls hl => ?_)
            refine lv_goto (tgt := 14) hx hb dX6_span_68 (by decide) ?_
            have hP : va_P D vwCl (wM cI cC cZ cS a (va_up (va_up F 0 (upd (F 0) 0 0)) 7 (upd wv 1 (nI i))) tc) H := hP
            have hD : va_D A (wM cI cC cZ cS a (va_up (va_up F 0 (upd (F 0) 0 0)) 7 (upd wv 1 (nI i))) tc) := hD
            exact ih14 (i + 1) (nI i) (upd wv 1 (nI i)) (by omega) (by omega) hres _ _ hP hD hS ls (lv_sub hl [2, 1, 0] rfl)
          · skip
            rw [if_neg c_4] at hres
            refine lv_iload_n hx hb dX6_span_48 rfl (lv_at hl 2 rfl) ?_
            have hPc := hP.sub (ws' := []) [] rfl
            have hDc := hD.sub (ws' := []) [] (by decide) rfl
            refine m_callR (W.runS (As := [.int (nI i)]) (rest := []) ⟨hx, hb, hml, hown, hts⟩ (c_X6_ones l D cI cC cZ cS (nI i)) (va_cwS 1 hts gX6_span_X6_ones rfl rfl rfl (by decide +kernel) ⟨Nat.le_of_ble_eq_true rfl, Nat.le_of_ble_eq_true rfl⟩) (preS_of hPc hDc hE) rfl rfl hl.1 rfl (lv_room (Nat.le_of_ble_eq_true rfl)) dX6_span_49 ⟨Nat.zero_le _, Nat.zero_le _⟩) ?_
            refine W.eq (g2 := F0 m 52 ls [.int (d_X6_ones (nI i))]) rfl ?_
            refine lv_iload_n hx hb dX6_span_52 rfl (lv_at hl 1 rfl) ?_
            have hPc := hP.sub (ws' := []) [] rfl
            have hDc := hD.sub (ws' := []) [] (by decide) rfl
            refine m_callR (W.runS (As := [.int best]) (rest := [.int (d_X6_ones (nI i))]) ⟨hx, hb, hml, hown, hts⟩ (c_X6_ones l D cI cC cZ cS best) (va_cwS 1 hts gX6_span_X6_ones rfl rfl rfl (by decide +kernel) ⟨Nat.le_of_ble_eq_true rfl, Nat.le_of_ble_eq_true rfl⟩) (preS_of hPc hDc hE) rfl rfl hl.1 rfl (lv_room (Nat.le_of_ble_eq_true rfl)) dX6_span_53 ⟨Nat.zero_le _, Nat.zero_le _⟩) ?_
            refine W.eq (g2 := F0 m 56 ls [.int (d_X6_ones best), .int (d_X6_ones (nI i))]) rfl ?_
            refine lv_icmp_ge (tgt := 63) hx hb dX6_span_56 (by decide) (fun c_5 => ?_) (fun c_5 => ?_)
            · skip
              rw [if_pos c_5] at hres
              refine lv_iload_n hx hb dX6_span_63 rfl (lv_at hl 1 rfl) ?_
              refine lv_istore_n (lv' := [(1, .int best), (0, .ref (a 0)), (2, .int (nI i))]) hx hb dX6_span_64 rfl hl (by decide) rfl (fun ls hl => ?_)
              refine lv_iinc (v := nI (i + 1)) (lv' := [(2, .int (nI (i + 1))), (1, .int best), (0, .ref (a 0))]) hx hb dX6_span_65 hl (k := 2) rfl ((nI_add i 1)) (by decide) rfl (fun ls hl => ?_)
              refine lv_goto (tgt := 14) hx hb dX6_span_68 (by decide) ?_
              have hP : va_P D vwCl (wM cI cC cZ cS a (va_up (va_up F 0 (upd (F 0) 0 0)) 7 (upd wv 1 (nI i))) tc) H := hP
              have hD : va_D A (wM cI cC cZ cS a (va_up (va_up F 0 (upd (F 0) 0 0)) 7 (upd wv 1 (nI i))) tc) := hD
              exact ih14 (i + 1) best (upd wv 1 (nI i)) (by omega) (by omega) hres _ _ hP hD hS ls (lv_sub hl [2, 1, 0] rfl)
            · skip
              rw [if_neg c_5] at hres
              refine lv_iload_n hx hb dX6_span_59 rfl (lv_at hl 2 rfl) ?_
              refine lv_goto (tgt := 64) hx hb dX6_span_60 (by decide) ?_
              refine lv_istore_n (lv' := [(1, .int (nI i)), (0, .ref (a 0)), (2, .int (nI i))]) hx hb dX6_span_64 rfl hl (by decide) rfl (fun ls hl => ?_)
              refine lv_iinc (v := nI (i + 1)) (lv' := [(2, .int (nI (i + 1))), (1, .int (nI i)), (0, .ref (a 0))]) hx hb dX6_span_65 hl (k := 2) rfl ((nI_add i 1)) (by decide) rfl (fun ls hl => ?_)
              refine lv_goto (tgt := 14) hx hb dX6_span_68 (by decide) ?_
              have hP : va_P D vwCl (wM cI cC cZ cS a (va_up (va_up F 0 (upd (F 0) 0 0)) 7 (upd wv 1 (nI i))) tc) H := hP
              have hD : va_D A (wM cI cC cZ cS a (va_up (va_up F 0 (upd (F 0) 0 0)) 7 (upd wv 1 (nI i))) tc) := hD
              exact ih14 (i + 1) (nI i) (upd wv 1 (nI i)) (by omega) (by omega) hres _ _ hP hD hS ls (lv_sub hl [2, 1, 0] rfl)
  have hP : va_P D vwCl (wM cI cC cZ cS a (va_up (va_up F 0 (upd (F 0) 0 0)) 7 r_1) tc) _ := hP
  have hD : va_D A (wM cI cC cZ cS a (va_up (va_up F 0 (upd (F 0) 0 0)) 7 r_1) tc) := hD
  exact loop14 33 0 (-9) r_1 (by omega) (Nat.zero_le _) hres _ _ hP hD hS ls (lv_sub hl [2, 1, 0] rfl)
def d_X6_type (F : Nat → Nat → Int32) (letter : Int32) (len : Nat) : Int32 × (Nat → Nat → Int32) :=
  if (d_X6_in letter 0 255) = 0 then
      ((-1), (va_up F 0 (upd (F 0) 0 0)))
    else
      if (nI len) = (200 : Int32) then
        ((-3), (va_up F 0 (upd (F 0) 0 0)))
      else
        ((nI len) + (1 : Int32), (va_up (va_up F 0 (upd (upd (F 0) 0 0) 3 ((nI len) + (1 : Int32)))) 1 (upd (F 1) len letter)))
set_option maxHeartbeats 4000000 in
set_option maxRecDepth 100000 in
theorem c_X6_type (l : Launch) (D : va_G) (cI cC cZ cS : ClassId) (a : Nat → Nat) (F : Nat → Nat → Int32) (tc : Int64) (letter : Int32) (len : Nat) (hle : F 0 3 = nI len) (h200 : len ≤ 200) : Met l yX6_type wsX6_type { frames := 1, cells := 0, slots := 0, locals := 22 } (PcE D cI cC cZ cS [.ref (a 0), .int letter] (wM cI cC cZ cS a F tc)) (QcM (some (.int ((d_X6_type F letter len).1))) D (wM cI cC cZ cS a F tc) (wM cI cC cZ cS a ((d_X6_type F letter len).2) tc)) 0 0 (inW (wM cI cC cZ cS a F tc)) := by
  refine Met.ofW (cc := cX6_type) (maxL := 2) (ret := (some .int)) (by decide) rfl ?_
  intro p e s m args below meth c s₁ B hml hv
  obtain ⟨rfl, hP, hD, hE⟩ := hv
  have hK := hE.1
  have hx := B.exec
  have hb := B.bytes
  have hr := B.returns
  have hts := atoms_spec (ws := wsX6_type) B.pre
  have hown : s.vm.findClass RX6 = some m.cls := findClass_of_methodNamed B.named
  have hlocks := B.notSynchronized
  have hinX6 : ∀ w ∈ wsX60, w ∈ wsX6_type := by decide +kernel
  have hD := inW_self hD
  have hS : va_S (inW (wM cI cC cZ cS a F tc)) s.heap s.heap [] := va_S.rf
  generalize hA : inW (wM cI cC cZ cS a F tc) = A at hD hS ⊢
  refine opq (d_X6_type F letter len) (fun R hres => ?_)
  rw [hres]
  replace hres := hres.symm
  rw [d_X6_type] at hres
  have hl := lv_entry ([.ref (a 0), .int letter]) (n := 2) (Nat.le_of_ble_eq_true rfl)
  rw [lg_entry_eq]
  generalize (lg_sl ([.ref (a 0), .int letter]) ++ List.replicate (2 - (lg_sl ([.ref (a 0), .int letter])).length) Slot.unset).toArray = ls at hl ⊢
  have hl : lv_has ls 2 [(0, .ref (a 0)), (1, .int letter)] := hl
  refine lv_aload_n hx hb dX6_type_0 rfl (lv_at hl 0 rfl) ?_
  refine lv_iconst (v := 0) hx hb dX6_type_1 (by decide) ?_
  refine va_put (D := D) (ci := 6) (v := .int 0) (ty := .int) (C := RX6) (T := TX6) (N := 26) hx hb hts hinX6 tyX6 tyX6_ok nmX6 hown hK hP hD hS 0 rfl rfl 0 (by decide) (hts (.fieldLink RX6 53 "FirstOutModel" "thrown" "I") (by decide +kernel)) (fun _ h9 => h9) rfl (by decide +kernel) rfl rfl (Nat.le_of_ble_eq_true rfl) dX6_type_2 (fun H locs hP hD hS => ?_)
  have hP : va_P D vwCl (wM cI cC cZ cS a (va_up F 0 (upd (F 0) 0 0)) tc) H := hP
  have hD : va_D A (wM cI cC cZ cS a (va_up F 0 (upd (F 0) 0 0)) tc) := hD
  refine lv_iload_n hx hb dX6_type_5 rfl (lv_at hl 1 rfl) ?_
  refine lv_iconst (v := 0) hx hb dX6_type_6 (by decide) ?_
  refine lv_sipush (v := 255) hx hb dX6_type_7 (by decide) ?_
  have hPc := hP.sub (ws' := []) [] rfl
  have hDc := hD.sub (ws' := []) [] (by decide) rfl
  refine m_callR (W.runS (As := [.int letter, .int 0, .int 255]) (rest := []) ⟨hx, hb, hml, hown, hts⟩ (c_X6_in l D cI cC cZ cS letter 0 255) (va_cwS 3 hts gX6_type_X6_in rfl rfl rfl (by decide +kernel) ⟨Nat.le_of_ble_eq_true rfl, Nat.le_of_ble_eq_true rfl⟩) (preS_of hPc hDc hE) rfl rfl hl.1 rfl (lv_room (Nat.le_of_ble_eq_true rfl)) dX6_type_10 ⟨Nat.zero_le _, Nat.zero_le _⟩) ?_
  refine W.eq (g2 := F0 m 13 ls [.int (d_X6_in letter 0 255)]) rfl ?_
  refine lv_if_ne (tgt := 18) hx hb dX6_type_13 (by decide) (fun c_1 => ?_) (fun c_1 => ?_)
  · skip
    rw [if_neg c_1] at hres
    refine lv_aload_n hx hb dX6_type_18 rfl (lv_at hl 0 rfl) ?_
    refine va_get (D := D) (ci := 6) (v := .int (F 0 3)) (C := RX6) (T := TX6) (N := 26) hx hb hts hinX6 hown hK hP 0 rfl rfl 3 (by decide) (hts (.fieldLink RX6 61 "FirstOutModel" "typed" "I") (by decide +kernel)) (fun _ h9 => h9) rfl dX6_type_19 ?_
    refine lv_to (show (F 0 3) = nI len from hle) ?_
    refine lv_sipush (v := 200) hx hb dX6_type_22 (by decide) ?_
    refine lv_icmp_ne (tgt := 31) hx hb dX6_type_25 (by decide) (fun c_2 => ?_) (fun c_2 => ?_)
    · skip
      rw [if_neg c_2] at hres
      have hlt : len < 200 := ne200 c_2 h200
      refine lv_aload_n hx hb dX6_type_31 rfl (lv_at hl 0 rfl) ?_
      refine va_get (D := D) (ci := 6) (v := .ref (a 1)) (C := RX6) (T := TX6) (N := 26) hx hb hts hinX6 hown hK hP 0 rfl rfl 2 (by decide) (hts (.fieldLink RX6 7 "FirstOutModel" "text" "[I") (by decide +kernel)) (fun _ h9 => h9) rfl dX6_type_32 ?_
      refine lv_aload_n hx hb dX6_type_35 rfl (lv_at hl 0 rfl) ?_
      refine va_get (D := D) (ci := 6) (v := .int (F 0 3)) (C := RX6) (T := TX6) (N := 26) hx hb hts hinX6 hown hK hP 0 rfl rfl 3 (by decide) (hts (.fieldLink RX6 61 "FirstOutModel" "typed" "I") (by decide +kernel)) (fun _ h9 => h9) rfl dX6_type_36 ?_
      refine lv_to (show (F 0 3) = nI len from hle) ?_
      refine lv_iload_n hx hb dX6_type_39 rfl (lv_at hl 1 rfl) ?_
      refine m_iast hx hb hK hP hD hS 1 0 rfl rfl len rfl (by omega) (by decide) dX6_type_40 (fun H locs hP hD hS => ?_)
      have hP : va_P D vwCl (wM cI cC cZ cS a (va_up (va_up F 0 (upd (F 0) 0 0)) 1 (upd (F 1) len letter)) tc) H := hP
      have hD : va_D A (wM cI cC cZ cS a (va_up (va_up F 0 (upd (F 0) 0 0)) 1 (upd (F 1) len letter)) tc) := hD
      refine lv_aload_n hx hb dX6_type_41 rfl (lv_at hl 0 rfl) ?_
      refine lv_dup hx hb dX6_type_42 rfl ?_
      refine va_get (D := D) (ci := 6) (v := .int (F 0 3)) (C := RX6) (T := TX6) (N := 26) hx hb hts hinX6 hown hK hP 0 rfl rfl 3 (by decide) (hts (.fieldLink RX6 61 "FirstOutModel" "typed" "I") (by decide +kernel)) (fun _ h9 => h9) rfl dX6_type_43 ?_
      refine lv_to (show (F 0 3) = nI len from hle) ?_
      refine lv_iconst (v := 1) hx hb dX6_type_46 (by decide) ?_
      refine lv_iadd hx hb dX6_type_47 ?_
      refine va_put (D := D) (ci := 6) (v := .int ((nI len) + (1 : Int32))) (ty := .int) (C := RX6) (T := TX6) (N := 26) hx hb hts hinX6 tyX6 tyX6_ok nmX6 hown hK hP hD hS 0 rfl rfl 3 (by decide) (hts (.fieldLink RX6 61 "FirstOutModel" "typed" "I") (by decide +kernel)) (fun _ h9 => h9) rfl (by decide +kernel) rfl rfl (Nat.le_of_ble_eq_true rfl) dX6_type_48 (fun H locs hP hD hS => ?_)
      have hP : va_P D vwCl (wM cI cC cZ cS a (va_up (va_up F 0 (upd (upd (F 0) 0 0) 3 ((nI len) + (1 : Int32)))) 1 (upd (F 1) len letter)) tc) H := hP
      have hD : va_D A (wM cI cC cZ cS a (va_up (va_up F 0 (upd (upd (F 0) 0 0) 3 ((nI len) + (1 : Int32)))) 1 (upd (F 1) len letter)) tc) := hD
      refine lv_aload_n hx hb dX6_type_51 rfl (lv_at hl 0 rfl) ?_
      refine va_get (D := D) (ci := 6) (v := .int ((nI len) + (1 : Int32))) (C := RX6) (T := TX6) (N := 26) hx hb hts hinX6 hown hK hP 0 rfl rfl 3 (by decide) (hts (.fieldLink RX6 61 "FirstOutModel" "typed" "I") (by decide +kernel)) (fun _ h9 => h9) rfl dX6_type_52 ?_
      rw [hres]
      exact W.iret (v := (nI len) + (1 : Int32)) hx hb hr (fun t ht hW => ⟨rfl, by rw [ht]; exact hP, by rw [hA]; exact hS.F ht⟩) hS.2.2 dX6_type_55
    · skip
      rw [if_pos c_2] at hres
      refine lv_bipush (v := (-3)) hx hb dX6_type_28 (by decide) ?_
      rw [hres]
      exact W.iret (v := (-3)) hx hb hr (fun t ht hW => ⟨rfl, by rw [ht]; exact hP, by rw [hA]; exact hS.F ht⟩) hS.2.2 dX6_type_30
  · skip
    rw [if_pos c_1] at hres
    refine lv_iconst (v := (-1)) hx hb dX6_type_16 (by decide) ?_
    rw [hres]
    exact W.iret (v := (-1)) hx hb hr (fun t ht hW => ⟨rfl, by rw [ht]; exact hP, by rw [hA]; exact hS.F ht⟩) hS.2.2 dX6_type_17
def d_X6_saw (F : Nat → Nat → Int32) (t : Int32) (given : Int32) (n : Nat) (sk : Nat) : Int32 × (Nat → Nat → Int32) :=
  if (d_X6_isThing t n) = 0 then
      ((-1), (va_up F 0 (upd (F 0) 0 0)))
    else
      if (d_X6_in given 0 1) = 0 then
        ((-1), (va_up F 0 (upd (F 0) 0 0)))
      else
        if (nI sk) = (6 : Int32) then
          ((-3), (va_up F 0 (upd (F 0) 0 0)))
        else
          ((nI sk) + (1 : Int32), (va_up (va_up (va_up F 0 (upd (upd (F 0) 0 0) 23 ((nI sk) + (1 : Int32)))) 11 (upd (F 11) sk t)) 12 (upd (F 12) sk given)))
set_option maxHeartbeats 4000000 in
set_option maxRecDepth 100000 in
theorem c_X6_saw (l : Launch) (D : va_G) (cI cC cZ cS : ClassId) (a : Nat → Nat) (F : Nat → Nat → Int32) (tc : Int64) (t : Int32) (given : Int32) (n : Nat) (sk : Nat) (hn : F 2 0 = nI n) (h7 : n ≤ 7) (hsk : F 0 23 = nI sk) (hs6 : sk ≤ 6) : Met l yX6_saw wsX6_saw { frames := 2, cells := 0, slots := 0, locals := 43 } (PcE D cI cC cZ cS [.ref (a 0), .int t, .int given] (wM cI cC cZ cS a F tc)) (QcM (some (.int ((d_X6_saw F t given n sk).1))) D (wM cI cC cZ cS a F tc) (wM cI cC cZ cS a ((d_X6_saw F t given n sk).2) tc)) 0 0 (inW (wM cI cC cZ cS a F tc)) := by
  refine Met.ofW (cc := cX6_saw) (maxL := 3) (ret := (some .int)) (by decide) rfl ?_
  intro p e s m args below meth c s₁ B hml hv
  obtain ⟨rfl, hP, hD, hE⟩ := hv
  have hK := hE.1
  have hx := B.exec
  have hb := B.bytes
  have hr := B.returns
  have hts := atoms_spec (ws := wsX6_saw) B.pre
  have hown : s.vm.findClass RX6 = some m.cls := findClass_of_methodNamed B.named
  have hlocks := B.notSynchronized
  have hinX6 : ∀ w ∈ wsX60, w ∈ wsX6_saw := by decide +kernel
  have hD := inW_self hD
  have hS : va_S (inW (wM cI cC cZ cS a F tc)) s.heap s.heap [] := va_S.rf
  generalize hA : inW (wM cI cC cZ cS a F tc) = A at hD hS ⊢
  refine opq (d_X6_saw F t given n sk) (fun R hres => ?_)
  rw [hres]
  replace hres := hres.symm
  rw [d_X6_saw] at hres
  have hl := lv_entry ([.ref (a 0), .int t, .int given]) (n := 3) (Nat.le_of_ble_eq_true rfl)
  rw [lg_entry_eq]
  generalize (lg_sl ([.ref (a 0), .int t, .int given]) ++ List.replicate (3 - (lg_sl ([.ref (a 0), .int t, .int given])).length) Slot.unset).toArray = ls at hl ⊢
  have hl : lv_has ls 3 [(0, .ref (a 0)), (1, .int t), (2, .int given)] := hl
  refine lv_aload_n hx hb dX6_saw_0 rfl (lv_at hl 0 rfl) ?_
  refine lv_iconst (v := 0) hx hb dX6_saw_1 (by decide) ?_
  refine va_put (D := D) (ci := 6) (v := .int 0) (ty := .int) (C := RX6) (T := TX6) (N := 26) hx hb hts hinX6 tyX6 tyX6_ok nmX6 hown hK hP hD hS 0 rfl rfl 0 (by decide) (hts (.fieldLink RX6 53 "FirstOutModel" "thrown" "I") (by decide +kernel)) (fun _ h9 => h9) rfl (by decide +kernel) rfl rfl (Nat.le_of_ble_eq_true rfl) dX6_saw_2 (fun H locs hP hD hS => ?_)
  have hP : va_P D vwCl (wM cI cC cZ cS a (va_up F 0 (upd (F 0) 0 0)) tc) H := hP
  have hD : va_D A (wM cI cC cZ cS a (va_up F 0 (upd (F 0) 0 0)) tc) := hD
  refine lv_aload_n hx hb dX6_saw_5 rfl (lv_at hl 0 rfl) ?_
  refine lv_iload_n hx hb dX6_saw_6 rfl (lv_at hl 1 rfl) ?_
  have hPc := hP.sub (ws' := (w5 cI cC cZ cS a (upd (F 0) 0 0) (F 2) (F 3) (F 4) (F 5) tc)) [0, 2, 3, 4, 5] rfl
  have hDc := hD.sub (ws' := (w5 cI cC cZ cS a (upd (F 0) 0 0) (F 2) (F 3) (F 4) (F 5) tc)) [0, 2, 3, 4, 5] (by decide) rfl
  refine m_callR (W.runV (As := [.int t]) (rest := []) ⟨hx, hb, hml, hown, hts⟩ (c_X6_isThing l D cI cC cZ cS a (upd (F 0) 0 0) (F 2) (F 3) (F 4) (F 5) tc t n hn h7) (cwV 1 hts gX6_saw_X6_isThing rfl rfl rfl (by decide +kernel) ⟨Nat.le_of_ble_eq_true rfl, Nat.le_of_ble_eq_true rfl⟩) (preV_of hPc hDc hE (va_recv hK hPc (ci := 6) (q0 := 0) rfl rfl)) rfl rfl hl.1 rfl (lv_room (Nat.le_of_ble_eq_true rfl)) dX6_saw_7 ⟨Nat.zero_le _, Nat.zero_le _⟩) ?_
  refine W.eq (g2 := F0 m 10 ls [.int (d_X6_isThing t n)]) rfl ?_
  refine lv_if_eq (tgt := 22) hx hb dX6_saw_10 (by decide) (fun c_1 => ?_) (fun c_1 => ?_)
  · skip
    rw [if_pos c_1] at hres
    refine lv_iconst (v := (-1)) hx hb dX6_saw_22 (by decide) ?_
    rw [hres]
    exact W.iret (v := (-1)) hx hb hr (fun t ht hW => ⟨rfl, by rw [ht]; exact hP, by rw [hA]; exact hS.F ht⟩) hS.2.2 dX6_saw_23
  · skip
    rw [if_neg c_1] at hres
    refine lv_iload_n hx hb dX6_saw_13 rfl (lv_at hl 2 rfl) ?_
    refine lv_iconst (v := 0) hx hb dX6_saw_14 (by decide) ?_
    refine lv_iconst (v := 1) hx hb dX6_saw_15 (by decide) ?_
    have hPc := hP.sub (ws' := []) [] rfl
    have hDc := hD.sub (ws' := []) [] (by decide) rfl
    refine m_callR (W.runS (As := [.int given, .int 0, .int 1]) (rest := []) ⟨hx, hb, hml, hown, hts⟩ (c_X6_in l D cI cC cZ cS given 0 1) (va_cwS 3 hts gX6_saw_X6_in rfl rfl rfl (by decide +kernel) ⟨Nat.le_of_ble_eq_true rfl, Nat.le_of_ble_eq_true rfl⟩) (preS_of hPc hDc hE) rfl rfl hl.1 rfl (lv_room (Nat.le_of_ble_eq_true rfl)) dX6_saw_16 ⟨Nat.zero_le _, Nat.zero_le _⟩) ?_
    refine W.eq (g2 := F0 m 19 ls [.int (d_X6_in given 0 1)]) rfl ?_
    refine lv_if_ne (tgt := 24) hx hb dX6_saw_19 (by decide) (fun c_2 => ?_) (fun c_2 => ?_)
    · skip
      rw [if_neg c_2] at hres
      refine lv_aload_n hx hb dX6_saw_24 rfl (lv_at hl 0 rfl) ?_
      refine va_get (D := D) (ci := 6) (v := .int (F 0 23)) (C := RX6) (T := TX6) (N := 26) hx hb hts hinX6 hown hK hP 0 rfl rfl 23 (by decide) (hts (.fieldLink RX6 108 "FirstOutModel" "sawMany" "I") (by decide +kernel)) (fun _ h9 => h9) rfl dX6_saw_25 ?_
      refine lv_to (show (F 0 23) = nI sk from hsk) ?_
      refine lv_bipush (v := 6) hx hb dX6_saw_28 (by decide) ?_
      refine lv_icmp_ne (tgt := 36) hx hb dX6_saw_30 (by decide) (fun c_3 => ?_) (fun c_3 => ?_)
      · skip
        rw [if_neg c_3] at hres
        have hlt : sk < 6 := ne6 c_3 hs6
        refine lv_aload_n hx hb dX6_saw_36 rfl (lv_at hl 0 rfl) ?_
        refine va_get (D := D) (ci := 6) (v := .ref (a 11)) (C := RX6) (T := TX6) (N := 26) hx hb hts hinX6 hown hK hP 0 rfl rfl 21 (by decide) (hts (.fieldLink RX6 41 "FirstOutModel" "sawOf" "[I") (by decide +kernel)) (fun _ h9 => h9) rfl dX6_saw_37 ?_
        refine lv_aload_n hx hb dX6_saw_40 rfl (lv_at hl 0 rfl) ?_
        refine va_get (D := D) (ci := 6) (v := .int (F 0 23)) (C := RX6) (T := TX6) (N := 26) hx hb hts hinX6 hown hK hP 0 rfl rfl 23 (by decide) (hts (.fieldLink RX6 108 "FirstOutModel" "sawMany" "I") (by decide +kernel)) (fun _ h9 => h9) rfl dX6_saw_41 ?_
        refine lv_to (show (F 0 23) = nI sk from hsk) ?_
        refine lv_iload_n hx hb dX6_saw_44 rfl (lv_at hl 1 rfl) ?_
        refine m_iast hx hb hK hP hD hS 11 0 rfl rfl sk rfl (by omega) (by decide) dX6_saw_45 (fun H locs hP hD hS => ?_)
        have hP : va_P D vwCl (wM cI cC cZ cS a (va_up (va_up F 0 (upd (F 0) 0 0)) 11 (upd (F 11) sk t)) tc) H := hP
        have hD : va_D A (wM cI cC cZ cS a (va_up (va_up F 0 (upd (F 0) 0 0)) 11 (upd (F 11) sk t)) tc) := hD
        refine lv_aload_n hx hb dX6_saw_46 rfl (lv_at hl 0 rfl) ?_
        refine va_get (D := D) (ci := 6) (v := .ref (a 12)) (C := RX6) (T := TX6) (N := 26) hx hb hts hinX6 hown hK hP 0 rfl rfl 22 (by decide) (hts (.fieldLink RX6 44 "FirstOutModel" "sawIs" "[I") (by decide +kernel)) (fun _ h9 => h9) rfl dX6_saw_47 ?_
        refine lv_aload_n hx hb dX6_saw_50 rfl (lv_at hl 0 rfl) ?_
        refine va_get (D := D) (ci := 6) (v := .int (F 0 23)) (C := RX6) (T := TX6) (N := 26) hx hb hts hinX6 hown hK hP 0 rfl rfl 23 (by decide) (hts (.fieldLink RX6 108 "FirstOutModel" "sawMany" "I") (by decide +kernel)) (fun _ h9 => h9) rfl dX6_saw_51 ?_
        refine lv_to (show (F 0 23) = nI sk from hsk) ?_
        refine lv_iload_n hx hb dX6_saw_54 rfl (lv_at hl 2 rfl) ?_
        refine m_iast hx hb hK hP hD hS 12 0 rfl rfl sk rfl (by omega) (by decide) dX6_saw_55 (fun H locs hP hD hS => ?_)
        have hP : va_P D vwCl (wM cI cC cZ cS a (va_up (va_up (va_up F 0 (upd (F 0) 0 0)) 11 (upd (F 11) sk t)) 12 (upd (F 12) sk given)) tc) H := hP
        have hD : va_D A (wM cI cC cZ cS a (va_up (va_up (va_up F 0 (upd (F 0) 0 0)) 11 (upd (F 11) sk t)) 12 (upd (F 12) sk given)) tc) := hD
        refine lv_aload_n hx hb dX6_saw_56 rfl (lv_at hl 0 rfl) ?_
        refine lv_dup hx hb dX6_saw_57 rfl ?_
        refine va_get (D := D) (ci := 6) (v := .int (F 0 23)) (C := RX6) (T := TX6) (N := 26) hx hb hts hinX6 hown hK hP 0 rfl rfl 23 (by decide) (hts (.fieldLink RX6 108 "FirstOutModel" "sawMany" "I") (by decide +kernel)) (fun _ h9 => h9) rfl dX6_saw_58 ?_
        refine lv_to (show (F 0 23) = nI sk from hsk) ?_
        refine lv_iconst (v := 1) hx hb dX6_saw_61 (by decide) ?_
        refine lv_iadd hx hb dX6_saw_62 ?_
        refine va_put (D := D) (ci := 6) (v := .int ((nI sk) + (1 : Int32))) (ty := .int) (C := RX6) (T := TX6) (N := 26) hx hb hts hinX6 tyX6 tyX6_ok nmX6 hown hK hP hD hS 0 rfl rfl 23 (by decide) (hts (.fieldLink RX6 108 "FirstOutModel" "sawMany" "I") (by decide +kernel)) (fun _ h9 => h9) rfl (by decide +kernel) rfl rfl (Nat.le_of_ble_eq_true rfl) dX6_saw_63 (fun H locs hP hD hS => ?_)
        have hP : va_P D vwCl (wM cI cC cZ cS a (va_up (va_up (va_up F 0 (upd (upd (F 0) 0 0) 23 ((nI sk) + (1 : Int32)))) 11 (upd (F 11) sk t)) 12 (upd (F 12) sk given)) tc) H := hP
        have hD : va_D A (wM cI cC cZ cS a (va_up (va_up (va_up F 0 (upd (upd (F 0) 0 0) 23 ((nI sk) + (1 : Int32)))) 11 (upd (F 11) sk t)) 12 (upd (F 12) sk given)) tc) := hD
        refine lv_aload_n hx hb dX6_saw_66 rfl (lv_at hl 0 rfl) ?_
        refine va_get (D := D) (ci := 6) (v := .int ((nI sk) + (1 : Int32))) (C := RX6) (T := TX6) (N := 26) hx hb hts hinX6 hown hK hP 0 rfl rfl 23 (by decide) (hts (.fieldLink RX6 108 "FirstOutModel" "sawMany" "I") (by decide +kernel)) (fun _ h9 => h9) rfl dX6_saw_67 ?_
        rw [hres]
        exact W.iret (v := (nI sk) + (1 : Int32)) hx hb hr (fun t ht hW => ⟨rfl, by rw [ht]; exact hP, by rw [hA]; exact hS.F ht⟩) hS.2.2 dX6_saw_70
      · skip
        rw [if_pos c_3] at hres
        refine lv_bipush (v := (-3)) hx hb dX6_saw_33 (by decide) ?_
        rw [hres]
        exact W.iret (v := (-3)) hx hb hr (fun t ht hW => ⟨rfl, by rw [ht]; exact hP, by rw [hA]; exact hS.F ht⟩) hS.2.2 dX6_saw_35
    · skip
      rw [if_pos c_2] at hres
      refine lv_iconst (v := (-1)) hx hb dX6_saw_22 (by decide) ?_
      rw [hres]
      exact W.iret (v := (-1)) hx hb hr (fun t ht hW => ⟨rfl, by rw [ht]; exact hP, by rw [hA]; exact hS.F ht⟩) hS.2.2 dX6_saw_23
def d_X6_forget (F : Nat → Nat → Int32) : Int32 × (Nat → Nat → Int32) :=
  ((F 0 23), (va_up F 0 (upd (upd (F 0) 0 0) 23 0)))
set_option maxHeartbeats 4000000 in
set_option maxRecDepth 100000 in
theorem c_X6_forget (l : Launch) (D : va_G) (cI cC cZ cS : ClassId) (a : Nat → Nat) (F : Nat → Nat → Int32) (tc : Int64) : Met l yX6_forget wsX6_forget { frames := 0, cells := 0, slots := 0, locals := 0 } (PcE D cI cC cZ cS [.ref (a 0)] (wM cI cC cZ cS a F tc)) (QcM (some (.int ((d_X6_forget F).1))) D (wM cI cC cZ cS a F tc) (wM cI cC cZ cS a ((d_X6_forget F).2) tc)) 0 0 (inW (wM cI cC cZ cS a F tc)) := by
  refine Met.ofW (cc := cX6_forget) (maxL := 2) (ret := (some .int)) (by decide) rfl ?_
  intro p e s m args below meth c s₁ B hml hv
  obtain ⟨rfl, hP, hD, hE⟩ := hv
  have hK := hE.1
  have hx := B.exec
  have hb := B.bytes
  have hr := B.returns
  have hts := atoms_spec (ws := wsX6_forget) B.pre
  have hown : s.vm.findClass RX6 = some m.cls := findClass_of_methodNamed B.named
  have hlocks := B.notSynchronized
  have hinX6 : ∀ w ∈ wsX60, w ∈ wsX6_forget := by decide +kernel
  have hD := inW_self hD
  have hS : va_S (inW (wM cI cC cZ cS a F tc)) s.heap s.heap [] := va_S.rf
  generalize hA : inW (wM cI cC cZ cS a F tc) = A at hD hS ⊢
  refine opq (d_X6_forget F) (fun R hres => ?_)
  rw [hres]
  replace hres := hres.symm
  rw [d_X6_forget] at hres
  have hl := lv_entry ([.ref (a 0)]) (n := 2) (Nat.le_of_ble_eq_true rfl)
  rw [lg_entry_eq]
  generalize (lg_sl ([.ref (a 0)]) ++ List.replicate (2 - (lg_sl ([.ref (a 0)])).length) Slot.unset).toArray = ls at hl ⊢
  have hl : lv_has ls 2 [(0, .ref (a 0))] := hl
  refine lv_aload_n hx hb dX6_forget_0 rfl (lv_at hl 0 rfl) ?_
  refine lv_iconst (v := 0) hx hb dX6_forget_1 (by decide) ?_
  refine va_put (D := D) (ci := 6) (v := .int 0) (ty := .int) (C := RX6) (T := TX6) (N := 26) hx hb hts hinX6 tyX6 tyX6_ok nmX6 hown hK hP hD hS 0 rfl rfl 0 (by decide) (hts (.fieldLink RX6 53 "FirstOutModel" "thrown" "I") (by decide +kernel)) (fun _ h9 => h9) rfl (by decide +kernel) rfl rfl (Nat.le_of_ble_eq_true rfl) dX6_forget_2 (fun H locs hP hD hS => ?_)
  have hP : va_P D vwCl (wM cI cC cZ cS a (va_up F 0 (upd (F 0) 0 0)) tc) H := hP
  have hD : va_D A (wM cI cC cZ cS a (va_up F 0 (upd (F 0) 0 0)) tc) := hD
  refine lv_aload_n hx hb dX6_forget_5 rfl (lv_at hl 0 rfl) ?_
  refine va_get (D := D) (ci := 6) (v := .int (F 0 23)) (C := RX6) (T := TX6) (N := 26) hx hb hts hinX6 hown hK hP 0 rfl rfl 23 (by decide) (hts (.fieldLink RX6 108 "FirstOutModel" "sawMany" "I") (by decide +kernel)) (fun _ h9 => h9) rfl dX6_forget_6 ?_
  refine lv_istore_n (lv' := [(1, .int (F 0 23)), (0, .ref (a 0))]) hx hb dX6_forget_9 rfl hl (by decide) rfl (fun ls hl => ?_)
  refine lv_aload_n hx hb dX6_forget_10 rfl (lv_at hl 1 rfl) ?_
  refine lv_iconst (v := 0) hx hb dX6_forget_11 (by decide) ?_
  refine va_put (D := D) (ci := 6) (v := .int 0) (ty := .int) (C := RX6) (T := TX6) (N := 26) hx hb hts hinX6 tyX6 tyX6_ok nmX6 hown hK hP hD hS 0 rfl rfl 23 (by decide) (hts (.fieldLink RX6 108 "FirstOutModel" "sawMany" "I") (by decide +kernel)) (fun _ h9 => h9) rfl (by decide +kernel) rfl rfl (Nat.le_of_ble_eq_true rfl) dX6_forget_12 (fun H locs hP hD hS => ?_)
  have hP : va_P D vwCl (wM cI cC cZ cS a (va_up F 0 (upd (upd (F 0) 0 0) 23 0)) tc) H := hP
  have hD : va_D A (wM cI cC cZ cS a (va_up F 0 (upd (upd (F 0) 0 0) 23 0)) tc) := hD
  refine lv_iload_n hx hb dX6_forget_15 rfl (lv_at hl 0 rfl) ?_
  rw [hres]
  exact W.iret (v := (F 0 23)) hx hb hr (fun t ht hW => ⟨rfl, by rw [ht]; exact hP, by rw [hA]; exact hS.F ht⟩) hS.2.2 dX6_forget_16
def d_X6_count (F : Nat → Nat → Int32) (what : Int32) : Int32 × (Nat → Nat → Int32) :=
  if (d_X6_in what 0 3) = 0 then
      if what = (4 : Int32) then
        ((F 0 23), (va_up F 0 (upd (F 0) 0 0)))
      else
        if what = (5 : Int32) then
          ((F 0 3), (va_up F 0 (upd (F 0) 0 0)))
        else
          ((-1), (va_up F 0 (upd (F 0) 0 0)))
    else
      ((F 2 what.toNatClampNeg), (va_up F 0 (upd (F 0) 0 0)))
set_option maxHeartbeats 4000000 in
set_option maxRecDepth 100000 in
theorem c_X6_count (l : Launch) (D : va_G) (cI cC cZ cS : ClassId) (a : Nat → Nat) (F : Nat → Nat → Int32) (tc : Int64) (what : Int32) : Met l yX6_count wsX6_count { frames := 1, cells := 0, slots := 0, locals := 22 } (PcE D cI cC cZ cS [.ref (a 0), .int what] (wM cI cC cZ cS a F tc)) (QcM (some (.int ((d_X6_count F what).1))) D (wM cI cC cZ cS a F tc) (wM cI cC cZ cS a ((d_X6_count F what).2) tc)) 0 0 (inW (wM cI cC cZ cS a F tc)) := by
  refine Met.ofW (cc := cX6_count) (maxL := 2) (ret := (some .int)) (by decide) rfl ?_
  intro p e s m args below meth c s₁ B hml hv
  obtain ⟨rfl, hP, hD, hE⟩ := hv
  have hK := hE.1
  have hx := B.exec
  have hb := B.bytes
  have hr := B.returns
  have hts := atoms_spec (ws := wsX6_count) B.pre
  have hown : s.vm.findClass RX6 = some m.cls := findClass_of_methodNamed B.named
  have hlocks := B.notSynchronized
  have hinX6 : ∀ w ∈ wsX60, w ∈ wsX6_count := by decide +kernel
  have hD := inW_self hD
  have hS : va_S (inW (wM cI cC cZ cS a F tc)) s.heap s.heap [] := va_S.rf
  generalize hA : inW (wM cI cC cZ cS a F tc) = A at hD hS ⊢
  refine opq (d_X6_count F what) (fun R hres => ?_)
  rw [hres]
  replace hres := hres.symm
  rw [d_X6_count] at hres
  have hl := lv_entry ([.ref (a 0), .int what]) (n := 2) (Nat.le_of_ble_eq_true rfl)
  rw [lg_entry_eq]
  generalize (lg_sl ([.ref (a 0), .int what]) ++ List.replicate (2 - (lg_sl ([.ref (a 0), .int what])).length) Slot.unset).toArray = ls at hl ⊢
  have hl : lv_has ls 2 [(0, .ref (a 0)), (1, .int what)] := hl
  refine lv_aload_n hx hb dX6_count_0 rfl (lv_at hl 0 rfl) ?_
  refine lv_iconst (v := 0) hx hb dX6_count_1 (by decide) ?_
  refine va_put (D := D) (ci := 6) (v := .int 0) (ty := .int) (C := RX6) (T := TX6) (N := 26) hx hb hts hinX6 tyX6 tyX6_ok nmX6 hown hK hP hD hS 0 rfl rfl 0 (by decide) (hts (.fieldLink RX6 53 "FirstOutModel" "thrown" "I") (by decide +kernel)) (fun _ h9 => h9) rfl (by decide +kernel) rfl rfl (Nat.le_of_ble_eq_true rfl) dX6_count_2 (fun H locs hP hD hS => ?_)
  have hP : va_P D vwCl (wM cI cC cZ cS a (va_up F 0 (upd (F 0) 0 0)) tc) H := hP
  have hD : va_D A (wM cI cC cZ cS a (va_up F 0 (upd (F 0) 0 0)) tc) := hD
  refine lv_iload_n hx hb dX6_count_5 rfl (lv_at hl 1 rfl) ?_
  refine lv_iconst (v := 0) hx hb dX6_count_6 (by decide) ?_
  refine lv_iconst (v := 3) hx hb dX6_count_7 (by decide) ?_
  have hPc := hP.sub (ws' := []) [] rfl
  have hDc := hD.sub (ws' := []) [] (by decide) rfl
  refine m_callR (W.runS (As := [.int what, .int 0, .int 3]) (rest := []) ⟨hx, hb, hml, hown, hts⟩ (c_X6_in l D cI cC cZ cS what 0 3) (va_cwS 3 hts gX6_count_X6_in rfl rfl rfl (by decide +kernel) ⟨Nat.le_of_ble_eq_true rfl, Nat.le_of_ble_eq_true rfl⟩) (preS_of hPc hDc hE) rfl rfl hl.1 rfl (lv_room (Nat.le_of_ble_eq_true rfl)) dX6_count_8 ⟨Nat.zero_le _, Nat.zero_le _⟩) ?_
  refine W.eq (g2 := F0 m 11 ls [.int (d_X6_in what 0 3)]) rfl ?_
  refine lv_if_eq (tgt := 23) hx hb dX6_count_11 (by decide) (fun c_1 => ?_) (fun c_1 => ?_)
  · skip
    rw [if_pos c_1] at hres
    refine lv_iload_n hx hb dX6_count_23 rfl (lv_at hl 1 rfl) ?_
    refine lv_iconst (v := 4) hx hb dX6_count_24 (by decide) ?_
    refine lv_icmp_ne (tgt := 35) hx hb dX6_count_25 (by decide) (fun c_2 => ?_) (fun c_2 => ?_)
    · skip
      rw [if_neg c_2] at hres
      refine lv_iload_n hx hb dX6_count_35 rfl (lv_at hl 1 rfl) ?_
      refine lv_iconst (v := 5) hx hb dX6_count_36 (by decide) ?_
      refine lv_icmp_ne (tgt := 47) hx hb dX6_count_37 (by decide) (fun c_3 => ?_) (fun c_3 => ?_)
      · skip
        rw [if_neg c_3] at hres
        refine lv_iconst (v := (-1)) hx hb dX6_count_47 (by decide) ?_
        rw [hres]
        exact W.iret (v := (-1)) hx hb hr (fun t ht hW => ⟨rfl, by rw [ht]; exact hP, by rw [hA]; exact hS.F ht⟩) hS.2.2 dX6_count_48
      · skip
        rw [if_pos c_3] at hres
        refine lv_aload_n hx hb dX6_count_40 rfl (lv_at hl 0 rfl) ?_
        refine va_get (D := D) (ci := 6) (v := .int (F 0 3)) (C := RX6) (T := TX6) (N := 26) hx hb hts hinX6 hown hK hP 0 rfl rfl 3 (by decide) (hts (.fieldLink RX6 61 "FirstOutModel" "typed" "I") (by decide +kernel)) (fun _ h9 => h9) rfl dX6_count_41 ?_
        refine lv_goto (tgt := 48) hx hb dX6_count_44 (by decide) ?_
        rw [hres]
        exact W.iret (v := (F 0 3)) hx hb hr (fun t ht hW => ⟨rfl, by rw [ht]; exact hP, by rw [hA]; exact hS.F ht⟩) hS.2.2 dX6_count_48
    · skip
      rw [if_pos c_2] at hres
      refine lv_aload_n hx hb dX6_count_28 rfl (lv_at hl 0 rfl) ?_
      refine va_get (D := D) (ci := 6) (v := .int (F 0 23)) (C := RX6) (T := TX6) (N := 26) hx hb hts hinX6 hown hK hP 0 rfl rfl 23 (by decide) (hts (.fieldLink RX6 108 "FirstOutModel" "sawMany" "I") (by decide +kernel)) (fun _ h9 => h9) rfl dX6_count_29 ?_
      refine lv_goto (tgt := 48) hx hb dX6_count_32 (by decide) ?_
      rw [hres]
      exact W.iret (v := (F 0 23)) hx hb hr (fun t ht hW => ⟨rfl, by rw [ht]; exact hP, by rw [hA]; exact hS.F ht⟩) hS.2.2 dX6_count_48
  · skip
    rw [if_neg c_1] at hres
    have hwi := in_ok c_1
    have hwx := ix_le (N := 3) hwi.1 hwi.2 (by omega)
    refine lv_aload_n hx hb dX6_count_14 rfl (lv_at hl 0 rfl) ?_
    refine va_get (D := D) (ci := 6) (v := .ref (a 2)) (C := RX6) (T := TX6) (N := 26) hx hb hts hinX6 hown hK hP 0 rfl rfl 9 (by decide) (hts (.fieldLink RX6 13 "FirstOutModel" "many" "[I") (by decide +kernel)) (fun _ h9 => h9) rfl dX6_count_15 ?_
    refine lv_iload_n hx hb dX6_count_18 rfl (lv_at hl 1 rfl) ?_
    refine m_iald hx hb hK hP 2 0 rfl rfl what.toNatClampNeg hwx.1 (by have := hwx.2; omega) (by decide) dX6_count_19 ?_
    refine lv_to (show _ = (F 2 what.toNatClampNeg) from rfl) ?_
    refine lv_goto (tgt := 48) hx hb dX6_count_20 (by decide) ?_
    rw [hres]
    exact W.iret (v := (F 2 what.toNatClampNeg)) hx hb hr (fun t ht hW => ⟨rfl, by rw [ht]; exact hP, by rw [hA]; exact hS.F ht⟩) hS.2.2 dX6_count_48
def d_X6_trace (F : Nat → Nat → Int32) (tc : Int64) : Int64 × (Nat → Nat → Int32) :=
  (tc, (va_up F 0 (upd (F 0) 0 0)))
set_option maxHeartbeats 4000000 in
set_option maxRecDepth 100000 in
theorem c_X6_trace (l : Launch) (D : va_G) (cI cC cZ cS : ClassId) (a : Nat → Nat) (F : Nat → Nat → Int32) (tc : Int64) : Met l yX6_trace wsX6_trace { frames := 0, cells := 0, slots := 0, locals := 0 } (PcE D cI cC cZ cS [.ref (a 0)] (wM cI cC cZ cS a F tc)) (QcM (some (.long ((d_X6_trace F tc).1))) D (wM cI cC cZ cS a F tc) (wM cI cC cZ cS a ((d_X6_trace F tc).2) tc)) 0 0 (inW (wM cI cC cZ cS a F tc)) := by
  refine Met.ofW (cc := cX6_trace) (maxL := 1) (ret := (some .long)) (by decide) rfl ?_
  intro p e s m args below meth c s₁ B hml hv
  obtain ⟨rfl, hP, hD, hE⟩ := hv
  have hK := hE.1
  have hx := B.exec
  have hb := B.bytes
  have hr := B.returns
  have hts := atoms_spec (ws := wsX6_trace) B.pre
  have hown : s.vm.findClass RX6 = some m.cls := findClass_of_methodNamed B.named
  have hlocks := B.notSynchronized
  have hinX6 : ∀ w ∈ wsX60, w ∈ wsX6_trace := by decide +kernel
  have hD := inW_self hD
  have hS : va_S (inW (wM cI cC cZ cS a F tc)) s.heap s.heap [] := va_S.rf
  generalize hA : inW (wM cI cC cZ cS a F tc) = A at hD hS ⊢
  refine opq (d_X6_trace F tc) (fun R hres => ?_)
  rw [hres]
  replace hres := hres.symm
  rw [d_X6_trace] at hres
  have hl := lv_entry ([.ref (a 0)]) (n := 1) (Nat.le_of_ble_eq_true rfl)
  rw [lg_entry_eq]
  generalize (lg_sl ([.ref (a 0)]) ++ List.replicate (1 - (lg_sl ([.ref (a 0)])).length) Slot.unset).toArray = ls at hl ⊢
  have hl : lv_has ls 1 [(0, .ref (a 0))] := hl
  refine lv_aload_n hx hb dX6_trace_0 rfl (lv_at hl 0 rfl) ?_
  refine lv_iconst (v := 0) hx hb dX6_trace_1 (by decide) ?_
  refine va_put (D := D) (ci := 6) (v := .int 0) (ty := .int) (C := RX6) (T := TX6) (N := 26) hx hb hts hinX6 tyX6 tyX6_ok nmX6 hown hK hP hD hS 0 rfl rfl 0 (by decide) (hts (.fieldLink RX6 53 "FirstOutModel" "thrown" "I") (by decide +kernel)) (fun _ h9 => h9) rfl (by decide +kernel) rfl rfl (Nat.le_of_ble_eq_true rfl) dX6_trace_2 (fun H locs hP hD hS => ?_)
  have hP : va_P D vwCl (wM cI cC cZ cS a (va_up F 0 (upd (F 0) 0 0)) tc) H := hP
  have hD : va_D A (wM cI cC cZ cS a (va_up F 0 (upd (F 0) 0 0)) tc) := hD
  refine lv_aload_n hx hb dX6_trace_5 rfl (lv_at hl 0 rfl) ?_
  refine va_get (D := D) (ci := 6) (v := .long tc) (C := RX6) (T := TX6) (N := 26) hx hb hts hinX6 hown hK hP 0 rfl rfl 1 (by decide) (hts (.fieldLink RX6 185 "FirstOutModel" "trace" "J") (by decide +kernel)) (fun _ h9 => h9) rfl dX6_trace_6 ?_
  rw [hres]
  exact W.lret (v := tc) hx hb hr (fun t ht hW => ⟨rfl, by rw [ht]; exact hP, by rw [hA]; exact hS.F ht⟩) hS.2.2 dX6_trace_9
def jn_X6_rate_117 (F : Nat → Nat → Int32) (tc : Int64) (kind : Int32) (t : Int32) (n : Nat) (tq : Int64) : Int32 × (Nat → Nat → Int32) × Int64 :=
  if kind = 0 then
      ((F 4 t.toNatClampNeg), (va_up F 0 (upd (F 0) 0 0)), tc + tq)
    else
      if kind = (1 : Int32) then
        ((F 4 t.toNatClampNeg) + (F 5 t.toNatClampNeg), (va_up F 0 (upd (F 0) 0 0)), tc + tq)
      else
        if kind = (2 : Int32) then
          ((F 4 t.toNatClampNeg) - (d_X6_ones (F 3 t.toNatClampNeg)), (va_up F 0 (upd (F 0) 0 0)), tc + tq)
        else
          if kind = (3 : Int32) then
            ((2 : Int32) * ((F 4 t.toNatClampNeg) + (F 5 t.toNatClampNeg)), (va_up F 0 (upd (F 0) 0 0)), tc + tq)
          else
            if kind = (4 : Int32) then
              (((F 4 t.toNatClampNeg) - (d_X6_ones (F 3 t.toNatClampNeg))) + t, (va_up F 0 (upd (F 0) 0 0)), tc + tq)
            else
              ((F 4 t.toNatClampNeg) + (F 6 0), (va_up F 0 (upd (F 0) 0 0)), tc + tq)
def d_X6_rate (F : Nat → Nat → Int32) (tc : Int64) (kind : Int32) (t : Int32) (n : Nat) : Int32 × (Nat → Nat → Int32) × Int64 :=
  if (d_X6_in kind 0 5) = 0 then
      ((-1000000), (va_up F 0 (upd (F 0) 0 0)), tc)
    else
      if (d_X6_isThing t n) = 0 then
        ((-1000000), (va_up F 0 (upd (F 0) 0 0)), tc)
      else
        if kind = 0 then
          jn_X6_rate_117 F tc kind t n 1
        else
          if kind = (1 : Int32) then
            jn_X6_rate_117 F tc kind t n 11
          else
            if kind = (2 : Int32) then
              jn_X6_rate_117 F tc kind t n 101
            else
              if kind = (3 : Int32) then
                jn_X6_rate_117 F tc kind t n 1011
              else
                if kind = (4 : Int32) then
                  jn_X6_rate_117 F tc kind t n 10101
                else
                  jn_X6_rate_117 F tc kind t n 100001
set_option maxHeartbeats 4000000 in
set_option maxRecDepth 100000 in
theorem c_X6_rate (l : Launch) (D : va_G) (cI cC cZ cS : ClassId) (a : Nat → Nat) (F : Nat → Nat → Int32) (tc : Int64) (kind : Int32) (t : Int32) (n : Nat) (hn : F 2 0 = nI n) (h7 : n ≤ 7) : Met l yX6_rate wsX6_rate { frames := 2, cells := 0, slots := 0, locals := 43 } (PcE D cI cC cZ cS [.ref (a 0), .int kind, .int t] (wM cI cC cZ cS a F tc)) (QcM (some (.int ((d_X6_rate F tc kind t n).1))) D (wM cI cC cZ cS a F tc) (wM cI cC cZ cS a ((d_X6_rate F tc kind t n).2.1) ((d_X6_rate F tc kind t n).2.2))) 0 0 (inW (wM cI cC cZ cS a F tc)) := by
  refine Met.ofW (cc := cX6_rate) (maxL := 5) (ret := (some .int)) (by decide) rfl ?_
  intro p e s m args below meth c s₁ B hml hv
  obtain ⟨rfl, hP, hD, hE⟩ := hv
  have hK := hE.1
  have hx := B.exec
  have hb := B.bytes
  have hr := B.returns
  have hts := atoms_spec (ws := wsX6_rate) B.pre
  have hown : s.vm.findClass RX6 = some m.cls := findClass_of_methodNamed B.named
  have hlocks := B.notSynchronized
  have hinX6 : ∀ w ∈ wsX60, w ∈ wsX6_rate := by decide +kernel
  have hD := inW_self hD
  have hS : va_S (inW (wM cI cC cZ cS a F tc)) s.heap s.heap [] := va_S.rf
  generalize hA : inW (wM cI cC cZ cS a F tc) = A at hD hS ⊢
  refine opq (d_X6_rate F tc kind t n) (fun R hres => ?_)
  rw [hres]
  replace hres := hres.symm
  rw [d_X6_rate] at hres
  have hl := lv_entry ([.ref (a 0), .int kind, .int t]) (n := 5) (Nat.le_of_ble_eq_true rfl)
  rw [lg_entry_eq]
  generalize (lg_sl ([.ref (a 0), .int kind, .int t]) ++ List.replicate (5 - (lg_sl ([.ref (a 0), .int kind, .int t])).length) Slot.unset).toArray = ls at hl ⊢
  have hl : lv_has ls 5 [(0, .ref (a 0)), (1, .int kind), (2, .int t)] := hl
  refine lv_aload_n hx hb dX6_rate_0 rfl (lv_at hl 0 rfl) ?_
  refine lv_iconst (v := 0) hx hb dX6_rate_1 (by decide) ?_
  refine va_put (D := D) (ci := 6) (v := .int 0) (ty := .int) (C := RX6) (T := TX6) (N := 26) hx hb hts hinX6 tyX6 tyX6_ok nmX6 hown hK hP hD hS 0 rfl rfl 0 (by decide) (hts (.fieldLink RX6 53 "FirstOutModel" "thrown" "I") (by decide +kernel)) (fun _ h9 => h9) rfl (by decide +kernel) rfl rfl (Nat.le_of_ble_eq_true rfl) dX6_rate_2 (fun H locs hP hD hS => ?_)
  have hP : va_P D vwCl (wM cI cC cZ cS a (va_up F 0 (upd (F 0) 0 0)) tc) H := hP
  have hD : va_D A (wM cI cC cZ cS a (va_up F 0 (upd (F 0) 0 0)) tc) := hD
  refine lv_iload_n hx hb dX6_rate_5 rfl (lv_at hl 1 rfl) ?_
  refine lv_iconst (v := 0) hx hb dX6_rate_6 (by decide) ?_
  refine lv_iconst (v := 5) hx hb dX6_rate_7 (by decide) ?_
  have hPc := hP.sub (ws' := []) [] rfl
  have hDc := hD.sub (ws' := []) [] (by decide) rfl
  refine m_callR (W.runS (As := [.int kind, .int 0, .int 5]) (rest := []) ⟨hx, hb, hml, hown, hts⟩ (c_X6_in l D cI cC cZ cS kind 0 5) (va_cwS 3 hts gX6_rate_X6_in rfl rfl rfl (by decide +kernel) ⟨Nat.le_of_ble_eq_true rfl, Nat.le_of_ble_eq_true rfl⟩) (preS_of hPc hDc hE) rfl rfl hl.1 rfl (lv_room (Nat.le_of_ble_eq_true rfl)) dX6_rate_8 ⟨Nat.zero_le _, Nat.zero_le _⟩) ?_
  refine W.eq (g2 := F0 m 11 ls [.int (d_X6_in kind 0 5)]) rfl ?_
  refine lv_if_eq (tgt := 22) hx hb dX6_rate_11 (by decide) (fun c_1 => ?_) (fun c_1 => ?_)
  · skip
    rw [if_pos c_1] at hres
    refine lv_ldc hx hb hown (hts (.constant RX6 177 (-1000000)) (by decide +kernel)) dX6_rate_22 ?_
    rw [hres]
    exact W.iret (v := (-1000000)) hx hb hr (fun t ht hW => ⟨rfl, by rw [ht]; exact hP, by rw [hA]; exact hS.F ht⟩) hS.2.2 dX6_rate_24
  · skip
    rw [if_neg c_1] at hres
    refine lv_aload_n hx hb dX6_rate_14 rfl (lv_at hl 0 rfl) ?_
    refine lv_iload_n hx hb dX6_rate_15 rfl (lv_at hl 2 rfl) ?_
    have hPc := hP.sub (ws' := (w5 cI cC cZ cS a (upd (F 0) 0 0) (F 2) (F 3) (F 4) (F 5) tc)) [0, 2, 3, 4, 5] rfl
    have hDc := hD.sub (ws' := (w5 cI cC cZ cS a (upd (F 0) 0 0) (F 2) (F 3) (F 4) (F 5) tc)) [0, 2, 3, 4, 5] (by decide) rfl
    refine m_callR (W.runV (As := [.int t]) (rest := []) ⟨hx, hb, hml, hown, hts⟩ (c_X6_isThing l D cI cC cZ cS a (upd (F 0) 0 0) (F 2) (F 3) (F 4) (F 5) tc t n hn h7) (cwV 1 hts gX6_rate_X6_isThing rfl rfl rfl (by decide +kernel) ⟨Nat.le_of_ble_eq_true rfl, Nat.le_of_ble_eq_true rfl⟩) (preV_of hPc hDc hE (va_recv hK hPc (ci := 6) (q0 := 0) rfl rfl)) rfl rfl hl.1 rfl (lv_room (Nat.le_of_ble_eq_true rfl)) dX6_rate_16 ⟨Nat.zero_le _, Nat.zero_le _⟩) ?_
    refine W.eq (g2 := F0 m 19 ls [.int (d_X6_isThing t n)]) rfl ?_
    refine lv_if_ne (tgt := 25) hx hb dX6_rate_19 (by decide) (fun c_2 => ?_) (fun c_2 => ?_)
    · skip
      rw [if_neg c_2] at hres
      have ti := isThing_ok (mn := F 2) c_2 h7
      refine lv_aload_n hx hb dX6_rate_25 rfl (lv_at hl 0 rfl) ?_
      refine va_get (D := D) (ci := 6) (v := .ref (a 4)) (C := RX6) (T := TX6) (N := 26) hx hb hts hinX6 hown hK hP 0 rfl rfl 12 (by decide) (hts (.fieldLink RX6 19 "FirstOutModel" "dear" "[I") (by decide +kernel)) (fun _ h9 => h9) rfl dX6_rate_26 ?_
      refine lv_iload_n hx hb dX6_rate_29 rfl (lv_at hl 2 rfl) ?_
      refine m_iald hx hb hK hP 4 0 rfl rfl t.toNatClampNeg ti.1 (by have := ti.2; omega) (by decide) dX6_rate_30 ?_
      refine lv_to (show _ = (F 4 t.toNatClampNeg) from rfl) ?_
      refine lv_aload_n hx hb dX6_rate_31 rfl (lv_at hl 0 rfl) ?_
      refine va_get (D := D) (ci := 6) (v := .ref (a 5)) (C := RX6) (T := TX6) (N := 26) hx hb hts hinX6 hown hK hP 0 rfl rfl 13 (by decide) (hts (.fieldLink RX6 22 "FirstOutModel" "eager" "[I") (by decide +kernel)) (fun _ h9 => h9) rfl dX6_rate_32 ?_
      refine lv_iload_n hx hb dX6_rate_35 rfl (lv_at hl 2 rfl) ?_
      refine m_iald hx hb hK hP 5 0 rfl rfl t.toNatClampNeg ti.1 (by have := ti.2; omega) (by decide) dX6_rate_36 ?_
      refine lv_to (show _ = (F 5 t.toNatClampNeg) from rfl) ?_
      refine lv_iadd hx hb dX6_rate_37 ?_
      refine lv_istore_n (lv' := [(3, .int ((F 4 t.toNatClampNeg) + (F 5 t.toNatClampNeg))), (0, .ref (a 0)), (1, .int kind), (2, .int t)]) hx hb dX6_rate_38 rfl hl (by decide) rfl (fun ls hl => ?_)
      refine lv_aload_n hx hb dX6_rate_39 rfl (lv_at hl 1 rfl) ?_
      refine va_get (D := D) (ci := 6) (v := .ref (a 4)) (C := RX6) (T := TX6) (N := 26) hx hb hts hinX6 hown hK hP 0 rfl rfl 12 (by decide) (hts (.fieldLink RX6 19 "FirstOutModel" "dear" "[I") (by decide +kernel)) (fun _ h9 => h9) rfl dX6_rate_40 ?_
      refine lv_iload_n hx hb dX6_rate_43 rfl (lv_at hl 3 rfl) ?_
      refine m_iald hx hb hK hP 4 0 rfl rfl t.toNatClampNeg ti.1 (by have := ti.2; omega) (by decide) dX6_rate_44 ?_
      refine lv_to (show _ = (F 4 t.toNatClampNeg) from rfl) ?_
      refine lv_aload_n hx hb dX6_rate_45 rfl (lv_at hl 1 rfl) ?_
      refine va_get (D := D) (ci := 6) (v := .ref (a 3)) (C := RX6) (T := TX6) (N := 26) hx hb hts hinX6 hown hK hP 0 rfl rfl 11 (by decide) (hts (.fieldLink RX6 16 "FirstOutModel" "traits" "[I") (by decide +kernel)) (fun _ h9 => h9) rfl dX6_rate_46 ?_
      refine lv_iload_n hx hb dX6_rate_49 rfl (lv_at hl 3 rfl) ?_
      refine m_iald hx hb hK hP 3 0 rfl rfl t.toNatClampNeg ti.1 (by have := ti.2; omega) (by decide) dX6_rate_50 ?_
      refine lv_to (show _ = (F 3 t.toNatClampNeg) from rfl) ?_
      have hPc := hP.sub (ws' := []) [] rfl
      have hDc := hD.sub (ws' := []) [] (by decide) rfl
      refine m_callR (W.runS (As := [.int (F 3 t.toNatClampNeg)]) (rest := [.int (F 4 t.toNatClampNeg)]) ⟨hx, hb, hml, hown, hts⟩ (c_X6_ones l D cI cC cZ cS (F 3 t.toNatClampNeg)) (va_cwS 1 hts gX6_rate_X6_ones rfl rfl rfl (by decide +kernel) ⟨Nat.le_of_ble_eq_true rfl, Nat.le_of_ble_eq_true rfl⟩) (preS_of hPc hDc hE) rfl rfl hl.1 rfl (lv_room (Nat.le_of_ble_eq_true rfl)) dX6_rate_51 ⟨Nat.zero_le _, Nat.zero_le _⟩) ?_
      refine W.eq (g2 := F0 m 54 ls [.int (d_X6_ones (F 3 t.toNatClampNeg)), .int (F 4 t.toNatClampNeg)]) rfl ?_
      refine lv_isub hx hb dX6_rate_54 ?_
      refine lv_istore (lv' := [(4, .int ((F 4 t.toNatClampNeg) - (d_X6_ones (F 3 t.toNatClampNeg)))), (3, .int ((F 4 t.toNatClampNeg) + (F 5 t.toNatClampNeg))), (0, .ref (a 0)), (1, .int kind), (2, .int t)]) hx hb dX6_rate_55 hl (by decide) rfl (fun ls hl => ?_)
      have join117 : ∀ (tq : Int64), R = jn_X6_rate_117 F tc kind t n tq → ∀ (H : Heap) (locs : List Loc), va_P D vwCl (wM cI cC cZ cS a (va_up F 0 (upd (F 0) 0 0)) tc) H → va_D A (wM cI cC cZ cS a (va_up F 0 (upd (F 0) 0 0)) tc) → va_S A s.heap H locs → ∀ ls : Array Slot, lv_has ls 5 [(0, .ref (a 0)), (1, .int kind), (2, .int t), (3, .int ((F 4 t.toNatClampNeg) + (F 5 t.toNatClampNeg))), (4, .int ((F 4 t.toNatClampNeg) - (d_X6_ones (F 3 t.toNatClampNeg))))] → W p l e (headSpec wsX6_rate { frames := 2, cells := 0, slots := 0, locals := 43 }).room s m (([.ref (a 0), .int kind, .int t] : List Value).toArray) below meth c H locs 0 0 (MQ below (QcM (some (.int R.1)) D (wM cI cC cZ cS a F tc) (wM cI cC cZ cS a R.2.1 R.2.2)) (([.ref (a 0), .int kind, .int t] : List Value).toArray) s 0 0 A) (F0 m 117 ls [.long tq, .long tc, .ref (a 0)]) := by
        intro tq  hres H locs hP hD hS ls hl
        rw [jn_X6_rate_117] at hres
        refine lv_ladd hx hb dX6_rate_117 ?_
        refine va_put (D := D) (ci := 6) (v := .long (tc + tq)) (ty := .long) (C := RX6) (T := TX6) (N := 26) hx hb hts hinX6 tyX6 tyX6_ok nmX6 hown hK hP hD hS 0 rfl rfl 1 (by decide) (hts (.fieldLink RX6 185 "FirstOutModel" "trace" "J") (by decide +kernel)) (fun _ h9 => h9) rfl (by decide +kernel) rfl rfl (Nat.le_of_ble_eq_true rfl) dX6_rate_118 (fun H locs hP hD hS => ?_)
        have hP : va_P D vwCl (wM cI cC cZ cS a (va_up F 0 (upd (F 0) 0 0)) (tc + tq)) H := hP
        have hD : va_D A (wM cI cC cZ cS a (va_up F 0 (upd (F 0) 0 0)) (tc + tq)) := hD
        refine lv_iload_n hx hb dX6_rate_121 rfl (lv_at hl 1 rfl) ?_
        refine lv_if_ne (tgt := 134) hx hb dX6_rate_122 (by decide) (fun c_3 => ?_) (fun c_3 => ?_)
        · skip
          rw [if_neg c_3] at hres
          refine lv_iload_n hx hb dX6_rate_134 rfl (lv_at hl 1 rfl) ?_
          refine lv_iconst (v := 1) hx hb dX6_rate_135 (by decide) ?_
          refine lv_icmp_ne (tgt := 143) hx hb dX6_rate_136 (by decide) (fun c_4 => ?_) (fun c_4 => ?_)
          · skip
            rw [if_neg c_4] at hres
            refine lv_iload_n hx hb dX6_rate_143 rfl (lv_at hl 1 rfl) ?_
            refine lv_iconst (v := 2) hx hb dX6_rate_144 (by decide) ?_
            refine lv_icmp_ne (tgt := 153) hx hb dX6_rate_145 (by decide) (fun c_5 => ?_) (fun c_5 => ?_)
            · skip
              rw [if_neg c_5] at hres
              refine lv_iload_n hx hb dX6_rate_153 rfl (lv_at hl 1 rfl) ?_
              refine lv_iconst (v := 3) hx hb dX6_rate_154 (by decide) ?_
              refine lv_icmp_ne (tgt := 164) hx hb dX6_rate_155 (by decide) (fun c_6 => ?_) (fun c_6 => ?_)
              · skip
                rw [if_neg c_6] at hres
                refine lv_iload_n hx hb dX6_rate_164 rfl (lv_at hl 1 rfl) ?_
                refine lv_iconst (v := 4) hx hb dX6_rate_165 (by decide) ?_
                refine lv_icmp_ne (tgt := 176) hx hb dX6_rate_166 (by decide) (fun c_7 => ?_) (fun c_7 => ?_)
                · skip
                  rw [if_neg c_7] at hres
                  refine lv_aload_n hx hb dX6_rate_176 rfl (lv_at hl 0 rfl) ?_
                  refine va_get (D := D) (ci := 6) (v := .ref (a 4)) (C := RX6) (T := TX6) (N := 26) hx hb hts hinX6 hown hK hP 0 rfl rfl 12 (by decide) (hts (.fieldLink RX6 19 "FirstOutModel" "dear" "[I") (by decide +kernel)) (fun _ h9 => h9) rfl dX6_rate_177 ?_
                  refine lv_iload_n hx hb dX6_rate_180 rfl (lv_at hl 2 rfl) ?_
                  refine m_iald hx hb hK hP 4 0 rfl rfl t.toNatClampNeg ti.1 (by have := ti.2; omega) (by decide) dX6_rate_181 ?_
                  refine lv_to (show _ = (F 4 t.toNatClampNeg) from rfl) ?_
                  refine lv_aload_n hx hb dX6_rate_182 rfl (lv_at hl 0 rfl) ?_
                  refine va_get (D := D) (ci := 6) (v := .ref (a 6)) (C := RX6) (T := TX6) (N := 26) hx hb hts hinX6 hown hK hP 0 rfl rfl 15 (by decide) (hts (.fieldLink RX6 25 "FirstOutModel" "s" "[I") (by decide +kernel)) (fun _ h9 => h9) rfl dX6_rate_183 ?_
                  refine lv_iconst (v := 0) hx hb dX6_rate_186 (by decide) ?_
                  refine m_iald hx hb hK hP 6 0 rfl rfl 0 rfl (by decide) (by decide) dX6_rate_187 ?_
                  refine lv_to (show _ = (F 6 0) from rfl) ?_
                  refine lv_iadd hx hb dX6_rate_188 ?_
                  rw [hres]
                  exact W.iret (v := (F 4 t.toNatClampNeg) + (F 6 0)) hx hb hr (fun t ht hW => ⟨rfl, by rw [ht]; exact hP, by rw [hA]; exact hS.F ht⟩) hS.2.2 dX6_rate_189
                · skip
                  rw [if_pos c_7] at hres
                  refine lv_iload hx hb dX6_rate_169 (lv_at hl 4 rfl) ?_
                  refine lv_iload_n hx hb dX6_rate_171 rfl (lv_at hl 2 rfl) ?_
                  refine lv_iadd hx hb dX6_rate_172 ?_
                  refine lv_goto (tgt := 189) hx hb dX6_rate_173 (by decide) ?_
                  rw [hres]
                  exact W.iret (v := ((F 4 t.toNatClampNeg) - (d_X6_ones (F 3 t.toNatClampNeg))) + t) hx hb hr (fun t ht hW => ⟨rfl, by rw [ht]; exact hP, by rw [hA]; exact hS.F ht⟩) hS.2.2 dX6_rate_189
              · skip
                rw [if_pos c_6] at hres
                refine lv_iconst (v := 2) hx hb dX6_rate_158 (by decide) ?_
                refine lv_iload_n hx hb dX6_rate_159 rfl (lv_at hl 3 rfl) ?_
                refine lv_imul hx hb dX6_rate_160 ?_
                refine lv_goto (tgt := 189) hx hb dX6_rate_161 (by decide) ?_
                rw [hres]
                exact W.iret (v := (2 : Int32) * ((F 4 t.toNatClampNeg) + (F 5 t.toNatClampNeg))) hx hb hr (fun t ht hW => ⟨rfl, by rw [ht]; exact hP, by rw [hA]; exact hS.F ht⟩) hS.2.2 dX6_rate_189
            · skip
              rw [if_pos c_5] at hres
              refine lv_iload hx hb dX6_rate_148 (lv_at hl 4 rfl) ?_
              refine lv_goto (tgt := 189) hx hb dX6_rate_150 (by decide) ?_
              rw [hres]
              exact W.iret (v := (F 4 t.toNatClampNeg) - (d_X6_ones (F 3 t.toNatClampNeg))) hx hb hr (fun t ht hW => ⟨rfl, by rw [ht]; exact hP, by rw [hA]; exact hS.F ht⟩) hS.2.2 dX6_rate_189
          · skip
            rw [if_pos c_4] at hres
            refine lv_iload_n hx hb dX6_rate_139 rfl (lv_at hl 3 rfl) ?_
            refine lv_goto (tgt := 189) hx hb dX6_rate_140 (by decide) ?_
            rw [hres]
            exact W.iret (v := (F 4 t.toNatClampNeg) + (F 5 t.toNatClampNeg)) hx hb hr (fun t ht hW => ⟨rfl, by rw [ht]; exact hP, by rw [hA]; exact hS.F ht⟩) hS.2.2 dX6_rate_189
        · skip
          rw [if_pos c_3] at hres
          refine lv_aload_n hx hb dX6_rate_125 rfl (lv_at hl 0 rfl) ?_
          refine va_get (D := D) (ci := 6) (v := .ref (a 4)) (C := RX6) (T := TX6) (N := 26) hx hb hts hinX6 hown hK hP 0 rfl rfl 12 (by decide) (hts (.fieldLink RX6 19 "FirstOutModel" "dear" "[I") (by decide +kernel)) (fun _ h9 => h9) rfl dX6_rate_126 ?_
          refine lv_iload_n hx hb dX6_rate_129 rfl (lv_at hl 2 rfl) ?_
          refine m_iald hx hb hK hP 4 0 rfl rfl t.toNatClampNeg ti.1 (by have := ti.2; omega) (by decide) dX6_rate_130 ?_
          refine lv_to (show _ = (F 4 t.toNatClampNeg) from rfl) ?_
          refine lv_goto (tgt := 189) hx hb dX6_rate_131 (by decide) ?_
          rw [hres]
          exact W.iret (v := (F 4 t.toNatClampNeg)) hx hb hr (fun t ht hW => ⟨rfl, by rw [ht]; exact hP, by rw [hA]; exact hS.F ht⟩) hS.2.2 dX6_rate_189
      refine lv_aload_n hx hb dX6_rate_57 rfl (lv_at hl 2 rfl) ?_
      refine lv_dup hx hb dX6_rate_58 rfl ?_
      refine va_get (D := D) (ci := 6) (v := .long tc) (C := RX6) (T := TX6) (N := 26) hx hb hts hinX6 hown hK hP 0 rfl rfl 1 (by decide) (hts (.fieldLink RX6 185 "FirstOutModel" "trace" "J") (by decide +kernel)) (fun _ h9 => h9) rfl dX6_rate_59 ?_
      refine lv_iload_n hx hb dX6_rate_62 rfl (lv_at hl 3 rfl) ?_
      refine lv_if_ne (tgt := 70) hx hb dX6_rate_63 (by decide) (fun c_8 => ?_) (fun c_8 => ?_)
      · skip
        rw [if_neg c_8] at hres
        refine lv_iload_n hx hb dX6_rate_70 rfl (lv_at hl 3 rfl) ?_
        refine lv_iconst (v := 1) hx hb dX6_rate_71 (by decide) ?_
        refine lv_icmp_ne (tgt := 81) hx hb dX6_rate_72 (by decide) (fun c_9 => ?_) (fun c_9 => ?_)
        · skip
          rw [if_neg c_9] at hres
          refine lv_iload_n hx hb dX6_rate_81 rfl (lv_at hl 3 rfl) ?_
          refine lv_iconst (v := 2) hx hb dX6_rate_82 (by decide) ?_
          refine lv_icmp_ne (tgt := 92) hx hb dX6_rate_83 (by decide) (fun c_10 => ?_) (fun c_10 => ?_)
          · skip
            rw [if_neg c_10] at hres
            refine lv_iload_n hx hb dX6_rate_92 rfl (lv_at hl 3 rfl) ?_
            refine lv_iconst (v := 3) hx hb dX6_rate_93 (by decide) ?_
            refine lv_icmp_ne (tgt := 103) hx hb dX6_rate_94 (by decide) (fun c_11 => ?_) (fun c_11 => ?_)
            · skip
              rw [if_neg c_11] at hres
              refine lv_iload_n hx hb dX6_rate_103 rfl (lv_at hl 3 rfl) ?_
              refine lv_iconst (v := 4) hx hb dX6_rate_104 (by decide) ?_
              refine lv_icmp_ne (tgt := 114) hx hb dX6_rate_105 (by decide) (fun c_12 => ?_) (fun c_12 => ?_)
              · skip
                rw [if_neg c_12] at hres
                refine lv_ldc2 hx hb hown (hts (.constantLong RX6 197 (100001)) (by decide +kernel)) dX6_rate_114 ?_
                have hP : va_P D vwCl (wM cI cC cZ cS a (va_up F 0 (upd (F 0) 0 0)) tc) _ := hP
                have hD : va_D A (wM cI cC cZ cS a (va_up F 0 (upd (F 0) 0 0)) tc) := hD
                exact join117 100001  hres _ _ hP hD hS ls (lv_sub hl [2, 3, 4, 1, 0] rfl)
              · skip
                rw [if_pos c_12] at hres
                refine lv_ldc2 hx hb hown (hts (.constantLong RX6 195 (10101)) (by decide +kernel)) dX6_rate_108 ?_
                refine lv_goto (tgt := 117) hx hb dX6_rate_111 (by decide) ?_
                have hP : va_P D vwCl (wM cI cC cZ cS a (va_up F 0 (upd (F 0) 0 0)) tc) _ := hP
                have hD : va_D A (wM cI cC cZ cS a (va_up F 0 (upd (F 0) 0 0)) tc) := hD
                exact join117 10101  hres _ _ hP hD hS ls (lv_sub hl [2, 3, 4, 1, 0] rfl)
            · skip
              rw [if_pos c_11] at hres
              refine lv_ldc2 hx hb hown (hts (.constantLong RX6 193 (1011)) (by decide +kernel)) dX6_rate_97 ?_
              refine lv_goto (tgt := 117) hx hb dX6_rate_100 (by decide) ?_
              have hP : va_P D vwCl (wM cI cC cZ cS a (va_up F 0 (upd (F 0) 0 0)) tc) _ := hP
              have hD : va_D A (wM cI cC cZ cS a (va_up F 0 (upd (F 0) 0 0)) tc) := hD
              exact join117 1011  hres _ _ hP hD hS ls (lv_sub hl [2, 3, 4, 1, 0] rfl)
          · skip
            rw [if_pos c_10] at hres
            refine lv_ldc2 hx hb hown (hts (.constantLong RX6 191 (101)) (by decide +kernel)) dX6_rate_86 ?_
            refine lv_goto (tgt := 117) hx hb dX6_rate_89 (by decide) ?_
            have hP : va_P D vwCl (wM cI cC cZ cS a (va_up F 0 (upd (F 0) 0 0)) tc) _ := hP
            have hD : va_D A (wM cI cC cZ cS a (va_up F 0 (upd (F 0) 0 0)) tc) := hD
            exact join117 101  hres _ _ hP hD hS ls (lv_sub hl [2, 3, 4, 1, 0] rfl)
        · skip
          rw [if_pos c_9] at hres
          refine lv_ldc2 hx hb hown (hts (.constantLong RX6 189 (11)) (by decide +kernel)) dX6_rate_75 ?_
          refine lv_goto (tgt := 117) hx hb dX6_rate_78 (by decide) ?_
          have hP : va_P D vwCl (wM cI cC cZ cS a (va_up F 0 (upd (F 0) 0 0)) tc) _ := hP
          have hD : va_D A (wM cI cC cZ cS a (va_up F 0 (upd (F 0) 0 0)) tc) := hD
          exact join117 11  hres _ _ hP hD hS ls (lv_sub hl [2, 3, 4, 1, 0] rfl)
      · skip
        rw [if_pos c_8] at hres
        refine lv_lconst (v := 1) hx hb dX6_rate_66 (by decide) ?_
        refine lv_goto (tgt := 117) hx hb dX6_rate_67 (by decide) ?_
        have hP : va_P D vwCl (wM cI cC cZ cS a (va_up F 0 (upd (F 0) 0 0)) tc) _ := hP
        have hD : va_D A (wM cI cC cZ cS a (va_up F 0 (upd (F 0) 0 0)) tc) := hD
        exact join117 1  hres _ _ hP hD hS ls (lv_sub hl [2, 3, 4, 1, 0] rfl)
    · skip
      rw [if_pos c_2] at hres
      refine lv_ldc hx hb hown (hts (.constant RX6 177 (-1000000)) (by decide +kernel)) dX6_rate_22 ?_
      rw [hres]
      exact W.iret (v := (-1000000)) hx hb hr (fun t ht hW => ⟨rfl, by rw [ht]; exact hP, by rw [hA]; exact hS.F ht⟩) hS.2.2 dX6_rate_24
def lp_X6_draw_33 (F : Nat → Nat → Int32) (t : Int32) (what : Int32) (n : Nat) (dd : Nat) : Nat → Nat → Int32 → Int32 → Int32 × (Nat → Nat → Int32)
  | 0, _, _, _ => (0, F)
  | k33 + 1, i, tm, lst => if (500 : Int32) ≤ (nI i) then
      if what = 0 then
        (tm, (va_up F 0 (upd (F 0) 0 0)))
      else
        (lst, (va_up F 0 (upd (F 0) 0 0)))
    else
      if (d_X6_comesBy (F 3) (F 5) (F 6) n i dd) = t then
        if tm = 0 then
          lp_X6_draw_33 F t what n dd k33 (i + 1) (tm + 1) (nI i)
        else
          lp_X6_draw_33 F t what n dd k33 (i + 1) (tm + 1) lst
      else
        lp_X6_draw_33 F t what n dd k33 (i + 1) tm lst
def d_X6_draw (F : Nat → Nat → Int32) (t : Int32) (what : Int32) (n : Nat) (dd : Nat) : Int32 × (Nat → Nat → Int32) :=
  if (d_X6_isThing t n) = 0 then
      ((-1), (va_up F 0 (upd (F 0) 0 0)))
    else
      if (d_X6_in what 0 1) = 0 then
        ((-1), (va_up F 0 (upd (F 0) 0 0)))
      else
        lp_X6_draw_33 F t what n dd 501 0 0 (-9)
set_option maxHeartbeats 4000000 in
set_option maxRecDepth 100000 in
theorem c_X6_draw (l : Launch) (D : va_G) (cI cC cZ cS : ClassId) (a : Nat → Nat) (F : Nat → Nat → Int32) (tc : Int64) (t : Int32) (what : Int32) (n : Nat) (dd : Nat) (hn : F 2 0 = nI n) (h7 : n ≤ 7) (hea : EA (F 5) n) (hd : F 6 0 = nI dd) (hd9 : dd ≤ 999) : Met l yX6_draw wsX6_draw { frames := 4, cells := 0, slots := 0, locals := 96 } (PcE D cI cC cZ cS [.ref (a 0), .int t, .int what] (wM cI cC cZ cS a F tc)) (QcM (some (.int ((d_X6_draw F t what n dd).1))) D (wM cI cC cZ cS a F tc) (wM cI cC cZ cS a ((d_X6_draw F t what n dd).2) tc)) 0 0 (inW (wM cI cC cZ cS a F tc)) := by
  refine Met.ofW (cc := cX6_draw) (maxL := 6) (ret := (some .int)) (by decide) rfl ?_
  intro p e s m args below meth c s₁ B hml hv
  obtain ⟨rfl, hP, hD, hE⟩ := hv
  have hK := hE.1
  have hx := B.exec
  have hb := B.bytes
  have hr := B.returns
  have hts := atoms_spec (ws := wsX6_draw) B.pre
  have hown : s.vm.findClass RX6 = some m.cls := findClass_of_methodNamed B.named
  have hlocks := B.notSynchronized
  have hinX6 : ∀ w ∈ wsX60, w ∈ wsX6_draw := by decide +kernel
  have hD := inW_self hD
  have hS : va_S (inW (wM cI cC cZ cS a F tc)) s.heap s.heap [] := va_S.rf
  generalize hA : inW (wM cI cC cZ cS a F tc) = A at hD hS ⊢
  refine opq (d_X6_draw F t what n dd) (fun R hres => ?_)
  rw [hres]
  replace hres := hres.symm
  rw [d_X6_draw] at hres
  have hl := lv_entry ([.ref (a 0), .int t, .int what]) (n := 6) (Nat.le_of_ble_eq_true rfl)
  rw [lg_entry_eq]
  generalize (lg_sl ([.ref (a 0), .int t, .int what]) ++ List.replicate (6 - (lg_sl ([.ref (a 0), .int t, .int what])).length) Slot.unset).toArray = ls at hl ⊢
  have hl : lv_has ls 6 [(0, .ref (a 0)), (1, .int t), (2, .int what)] := hl
  refine lv_aload_n hx hb dX6_draw_0 rfl (lv_at hl 0 rfl) ?_
  refine lv_iconst (v := 0) hx hb dX6_draw_1 (by decide) ?_
  refine va_put (D := D) (ci := 6) (v := .int 0) (ty := .int) (C := RX6) (T := TX6) (N := 26) hx hb hts hinX6 tyX6 tyX6_ok nmX6 hown hK hP hD hS 0 rfl rfl 0 (by decide) (hts (.fieldLink RX6 53 "FirstOutModel" "thrown" "I") (by decide +kernel)) (fun _ h9 => h9) rfl (by decide +kernel) rfl rfl (Nat.le_of_ble_eq_true rfl) dX6_draw_2 (fun H locs hP hD hS => ?_)
  have hP : va_P D vwCl (wM cI cC cZ cS a (va_up F 0 (upd (F 0) 0 0)) tc) H := hP
  have hD : va_D A (wM cI cC cZ cS a (va_up F 0 (upd (F 0) 0 0)) tc) := hD
  refine lv_aload_n hx hb dX6_draw_5 rfl (lv_at hl 0 rfl) ?_
  refine lv_iload_n hx hb dX6_draw_6 rfl (lv_at hl 1 rfl) ?_
  have hPc := hP.sub (ws' := (w5 cI cC cZ cS a (upd (F 0) 0 0) (F 2) (F 3) (F 4) (F 5) tc)) [0, 2, 3, 4, 5] rfl
  have hDc := hD.sub (ws' := (w5 cI cC cZ cS a (upd (F 0) 0 0) (F 2) (F 3) (F 4) (F 5) tc)) [0, 2, 3, 4, 5] (by decide) rfl
  refine m_callR (W.runV (As := [.int t]) (rest := []) ⟨hx, hb, hml, hown, hts⟩ (c_X6_isThing l D cI cC cZ cS a (upd (F 0) 0 0) (F 2) (F 3) (F 4) (F 5) tc t n hn h7) (cwV 1 hts gX6_draw_X6_isThing rfl rfl rfl (by decide +kernel) ⟨Nat.le_of_ble_eq_true rfl, Nat.le_of_ble_eq_true rfl⟩) (preV_of hPc hDc hE (va_recv hK hPc (ci := 6) (q0 := 0) rfl rfl)) rfl rfl hl.1 rfl (lv_room (Nat.le_of_ble_eq_true rfl)) dX6_draw_7 ⟨Nat.zero_le _, Nat.zero_le _⟩) ?_
  refine W.eq (g2 := F0 m 10 ls [.int (d_X6_isThing t n)]) rfl ?_
  refine lv_if_eq (tgt := 22) hx hb dX6_draw_10 (by decide) (fun c_1 => ?_) (fun c_1 => ?_)
  · skip
    rw [if_pos c_1] at hres
    refine lv_iconst (v := (-1)) hx hb dX6_draw_22 (by decide) ?_
    rw [hres]
    exact W.iret (v := (-1)) hx hb hr (fun t ht hW => ⟨rfl, by rw [ht]; exact hP, by rw [hA]; exact hS.F ht⟩) hS.2.2 dX6_draw_23
  · skip
    rw [if_neg c_1] at hres
    refine lv_iload_n hx hb dX6_draw_13 rfl (lv_at hl 2 rfl) ?_
    refine lv_iconst (v := 0) hx hb dX6_draw_14 (by decide) ?_
    refine lv_iconst (v := 1) hx hb dX6_draw_15 (by decide) ?_
    have hPc := hP.sub (ws' := []) [] rfl
    have hDc := hD.sub (ws' := []) [] (by decide) rfl
    refine m_callR (W.runS (As := [.int what, .int 0, .int 1]) (rest := []) ⟨hx, hb, hml, hown, hts⟩ (c_X6_in l D cI cC cZ cS what 0 1) (va_cwS 3 hts gX6_draw_X6_in rfl rfl rfl (by decide +kernel) ⟨Nat.le_of_ble_eq_true rfl, Nat.le_of_ble_eq_true rfl⟩) (preS_of hPc hDc hE) rfl rfl hl.1 rfl (lv_room (Nat.le_of_ble_eq_true rfl)) dX6_draw_16 ⟨Nat.zero_le _, Nat.zero_le _⟩) ?_
    refine W.eq (g2 := F0 m 19 ls [.int (d_X6_in what 0 1)]) rfl ?_
    refine lv_if_ne (tgt := 24) hx hb dX6_draw_19 (by decide) (fun c_2 => ?_) (fun c_2 => ?_)
    · skip
      rw [if_neg c_2] at hres
      refine lv_iconst (v := 0) hx hb dX6_draw_24 (by decide) ?_
      refine lv_istore_n (lv' := [(3, .int 0), (0, .ref (a 0)), (1, .int t), (2, .int what)]) hx hb dX6_draw_25 rfl hl (by decide) rfl (fun ls hl => ?_)
      refine lv_bipush (v := (-9)) hx hb dX6_draw_26 (by decide) ?_
      refine lv_istore (lv' := [(4, .int (-9)), (3, .int 0), (0, .ref (a 0)), (1, .int t), (2, .int what)]) hx hb dX6_draw_28 hl (by decide) rfl (fun ls hl => ?_)
      refine lv_iconst (v := 0) hx hb dX6_draw_30 (by decide) ?_
      refine lv_istore (lv' := [(5, .int 0), (4, .int (-9)), (3, .int 0), (0, .ref (a 0)), (1, .int t), (2, .int what)]) hx hb dX6_draw_31 hl (by decide) rfl (fun ls hl => ?_)
      have loop33 : ∀ (k33 : Nat) (i : Nat) (tm : Int32) (lst : Int32), 500 - i < k33 → i ≤ 500 → R = lp_X6_draw_33 F t what n dd k33 i tm lst → ∀ (H : Heap) (locs : List Loc), va_P D vwCl (wM cI cC cZ cS a (va_up F 0 (upd (F 0) 0 0)) tc) H → va_D A (wM cI cC cZ cS a (va_up F 0 (upd (F 0) 0 0)) tc) → va_S A s.heap H locs → ∀ ls : Array Slot, lv_has ls 6 [(0, .ref (a 0)), (1, .int t), (2, .int what), (3, .int tm), (4, .int lst), (5, .int (nI i))] → W p l e (headSpec wsX6_draw { frames := 4, cells := 0, slots := 0, locals := 96 }).room s m (([.ref (a 0), .int t, .int what] : List Value).toArray) below meth c H locs 0 0 (MQ below (QcM (some (.int R.1)) D (wM cI cC cZ cS a F tc) (wM cI cC cZ cS a R.2 tc)) (([.ref (a 0), .int t, .int what] : List Value).toArray) s 0 0 A) (F0 m 33 ls []) := by
        intro k33
        induction k33 with
        | zero => intro i tm lst hk; exact absurd hk (Nat.not_lt_zero _)
        | succ k33 ih33 =>
          intro i tm lst hk33 hi hres H locs hP hD hS ls hl
          rw [lp_X6_draw_33] at hres
          refine lv_iload hx hb dX6_draw_33 (lv_at hl 5 rfl) ?_
          refine lv_sipush (v := 500) hx hb dX6_draw_35 (by decide) ?_
          refine lv_icmp_ge (tgt := 77) hx hb dX6_draw_38 (by decide) (fun c_3 => ?_) (fun c_3 => ?_)
          · skip
            rw [if_pos c_3] at hres
            refine lv_iload_n hx hb dX6_draw_77 rfl (lv_at hl 2 rfl) ?_
            refine lv_if_ne (tgt := 85) hx hb dX6_draw_78 (by decide) (fun c_4 => ?_) (fun c_4 => ?_)
            · skip
              rw [if_neg c_4] at hres
              refine lv_iload hx hb dX6_draw_85 (lv_at hl 4 rfl) ?_
              rw [hres]
              exact W.iret (v := lst) hx hb hr (fun t ht hW => ⟨rfl, by rw [ht]; exact hP, by rw [hA]; exact hS.F ht⟩) hS.2.2 dX6_draw_87
            · skip
              rw [if_pos c_4] at hres
              refine lv_iload_n hx hb dX6_draw_81 rfl (lv_at hl 3 rfl) ?_
              refine lv_goto (tgt := 87) hx hb dX6_draw_82 (by decide) ?_
              rw [hres]
              exact W.iret (v := tm) hx hb hr (fun t ht hW => ⟨rfl, by rw [ht]; exact hP, by rw [hA]; exact hS.F ht⟩) hS.2.2 dX6_draw_87
          · skip
            rw [if_neg c_3] at hres
            have hlt : i < 500 := nlt_of (b := 500) c_3 (by omega) (by omega)
            refine lv_aload_n hx hb dX6_draw_41 rfl (lv_at hl 0 rfl) ?_
            refine lv_aload_n hx hb dX6_draw_42 rfl (lv_at hl 0 rfl) ?_
            refine va_get (D := D) (ci := 6) (v := .ref (a 6)) (C := RX6) (T := TX6) (N := 26) hx hb hts hinX6 hown hK hP 0 rfl rfl 15 (by decide) (hts (.fieldLink RX6 25 "FirstOutModel" "s" "[I") (by decide +kernel)) (fun _ h9 => h9) rfl dX6_draw_43 ?_
            refine lv_iload hx hb dX6_draw_46 (lv_at hl 5 rfl) ?_
            have hPc := hP.sub (ws' := (w5r cI cC cZ cS a (upd (F 0) 0 0) (F 2) (F 3) (F 4) (F 5) (a 6) (F 6) tc)) [0, 2, 3, 4, 5, 6] rfl
            have hDc := hD.sub (ws' := (w5r cI cC cZ cS a (upd (F 0) 0 0) (F 2) (F 3) (F 4) (F 5) (a 6) (F 6) tc)) [0, 2, 3, 4, 5, 6] (by decide) rfl
            refine m_callR (W.runV (As := [.ref (a 6), .int (nI i)]) (rest := []) ⟨hx, hb, hml, hown, hts⟩ (c_X6_comesBy l D cI cC cZ cS a (upd (F 0) 0 0) (F 2) (F 3) (F 4) (F 5) (a 6) (F 6) tc (nI i) n i dd hn h7 hea rfl (by omega) hd (by omega)) (cwV 2 hts gX6_draw_X6_comesBy rfl rfl rfl (by decide +kernel) ⟨Nat.le_of_ble_eq_true rfl, Nat.le_of_ble_eq_true rfl⟩) (preV_of hPc hDc hE (va_recv hK hPc (ci := 6) (q0 := 0) rfl rfl)) rfl rfl hl.1 rfl (lv_room (Nat.le_of_ble_eq_true rfl)) dX6_draw_48 ⟨Nat.zero_le _, Nat.zero_le _⟩) ?_
            refine W.eq (g2 := F0 m 51 ls [.int (d_X6_comesBy (F 3) (F 5) (F 6) n i dd)]) rfl ?_
            refine lv_iload_n hx hb dX6_draw_51 rfl (lv_at hl 1 rfl) ?_
            refine lv_icmp_ne (tgt := 71) hx hb dX6_draw_52 (by decide) (fun c_5 => ?_) (fun c_5 => ?_)
            · skip
              rw [if_neg c_5] at hres
              refine lv_iinc (v := nI (i + 1)) (lv' := [(5, .int (nI (i + 1))), (0, .ref (a 0)), (1, .int t), (2, .int what), (3, .int tm), (4, .int lst)]) hx hb dX6_draw_71 hl (k := 5) rfl ((nI_add i 1)) (by decide) rfl (fun ls hl => ?_)
              refine lv_goto (tgt := 33) hx hb dX6_draw_74 (by decide) ?_
              have hP : va_P D vwCl (wM cI cC cZ cS a (va_up F 0 (upd (F 0) 0 0)) tc) H := hP
              have hD : va_D A (wM cI cC cZ cS a (va_up F 0 (upd (F 0) 0 0)) tc) := hD
              exact ih33 (i + 1) tm lst (by omega) (by omega) hres _ _ hP hD hS ls (lv_sub hl [1, 2, 3, 4, 5, 0] rfl)
            · skip
              rw [if_pos c_5] at hres
              refine lv_iload_n hx hb dX6_draw_55 rfl (lv_at hl 3 rfl) ?_
              refine lv_if_ne (tgt := 64) hx hb dX6_draw_56 (by decide) (fun c_6 => ?_) (fun c_6 => ?_)
              · skip
                rw [if_neg c_6] at hres
                refine lv_iload hx hb dX6_draw_64 (lv_at hl 4 rfl) ?_
                refine lv_istore (lv' := [(4, .int lst), (0, .ref (a 0)), (1, .int t), (2, .int what), (3, .int tm), (5, .int (nI i))]) hx hb dX6_draw_66 hl (by decide) rfl (fun ls hl => ?_)
                refine lv_iinc (v := tm + 1) (lv' := [(3, .int (tm + 1)), (4, .int lst), (0, .ref (a 0)), (1, .int t), (2, .int what), (5, .int (nI i))]) hx hb dX6_draw_68 hl (k := 4) rfl (rfl) (by decide) rfl (fun ls hl => ?_)
                refine lv_iinc (v := nI (i + 1)) (lv' := [(5, .int (nI (i + 1))), (3, .int (tm + 1)), (4, .int lst), (0, .ref (a 0)), (1, .int t), (2, .int what)]) hx hb dX6_draw_71 hl (k := 5) rfl ((nI_add i 1)) (by decide) rfl (fun ls hl => ?_)
                refine lv_goto (tgt := 33) hx hb dX6_draw_74 (by decide) ?_
                have hP : va_P D vwCl (wM cI cC cZ cS a (va_up F 0 (upd (F 0) 0 0)) tc) H := hP
                have hD : va_D A (wM cI cC cZ cS a (va_up F 0 (upd (F 0) 0 0)) tc) := hD
                exact ih33 (i + 1) (tm + 1) lst (by omega) (by omega) hres _ _ hP hD hS ls (lv_sub hl [3, 4, 5, 1, 2, 0] rfl)
              · skip
                rw [if_pos c_6] at hres
                refine lv_iload hx hb dX6_draw_59 (lv_at hl 5 rfl) ?_
                refine lv_goto (tgt := 66) hx hb dX6_draw_61 (by decide) ?_
                refine lv_istore (lv' := [(4, .int (nI i)), (0, .ref (a 0)), (1, .int t), (2, .int what), (3, .int tm), (5, .int (nI i))]) hx hb dX6_draw_66 hl (by decide) rfl (fun ls hl => ?_)
                refine lv_iinc (v := tm + 1) (lv' := [(3, .int (tm + 1)), (4, .int (nI i)), (0, .ref (a 0)), (1, .int t), (2, .int what), (5, .int (nI i))]) hx hb dX6_draw_68 hl (k := 4) rfl (rfl) (by decide) rfl (fun ls hl => ?_)
                refine lv_iinc (v := nI (i + 1)) (lv' := [(5, .int (nI (i + 1))), (3, .int (tm + 1)), (4, .int (nI i)), (0, .ref (a 0)), (1, .int t), (2, .int what)]) hx hb dX6_draw_71 hl (k := 5) rfl ((nI_add i 1)) (by decide) rfl (fun ls hl => ?_)
                refine lv_goto (tgt := 33) hx hb dX6_draw_74 (by decide) ?_
                have hP : va_P D vwCl (wM cI cC cZ cS a (va_up F 0 (upd (F 0) 0 0)) tc) H := hP
                have hD : va_D A (wM cI cC cZ cS a (va_up F 0 (upd (F 0) 0 0)) tc) := hD
                exact ih33 (i + 1) (tm + 1) (nI i) (by omega) (by omega) hres _ _ hP hD hS ls (lv_sub hl [3, 4, 5, 1, 2, 0] rfl)
      have hP : va_P D vwCl (wM cI cC cZ cS a (va_up F 0 (upd (F 0) 0 0)) tc) _ := hP
      have hD : va_D A (wM cI cC cZ cS a (va_up F 0 (upd (F 0) 0 0)) tc) := hD
      exact loop33 501 0 0 (-9) (by omega) (Nat.zero_le _) hres _ _ hP hD hS ls (lv_sub hl [3, 4, 5, 2, 1, 0] rfl)
    · skip
      rw [if_pos c_2] at hres
      refine lv_iconst (v := (-1)) hx hb dX6_draw_22 (by decide) ?_
      rw [hres]
      exact W.iret (v := (-1)) hx hb hr (fun t ht hW => ⟨rfl, by rw [ht]; exact hP, by rw [hA]; exact hS.F ht⟩) hS.2.2 dX6_draw_23
def lp_X6_lost_34 (F : Nat → Nat → Int32) (z : Int32) (m_ : Int32) (n : Nat) (dd : Nat) : Nat → Nat → (Nat → Int32) → Int32 × (Nat → Nat → Int32)
  | 0, _, _ => (0, F)
  | k34 + 1, i, wv => if (nI m_.toNatClampNeg) ≤ (nI i) then
      ((wv 4), (va_up (va_up F 0 (upd (F 0) 0 0)) 7 wv))
    else
      lp_X6_lost_34 F z m_ n dd k34 (i + 1) ((d_X6_goes (F 3) (F 5) wv n ((z.toNatClampNeg + i) % 10000) (dd + i)).2)
def d_X6_lost (F : Nat → Nat → Int32) (z : Int32) (m_ : Int32) (n : Nat) (dd : Nat) : Int32 × (Nat → Nat → Int32) :=
  if (d_X6_in z 0 9999) = 0 then
      ((-1), (va_up F 0 (upd (F 0) 0 0)))
    else
      if (d_X6_in m_ 0 7) = 0 then
        ((-1), (va_up F 0 (upd (F 0) 0 0)))
      else
        lp_X6_lost_34 F z m_ n dd (m_.toNatClampNeg + 1) 0 (d_X6_asNow (F 6) (F 7))
set_option maxHeartbeats 4000000 in
set_option maxRecDepth 100000 in
theorem c_X6_lost (l : Launch) (D : va_G) (cI cC cZ cS : ClassId) (a : Nat → Nat) (F : Nat → Nat → Int32) (tc : Int64) (z : Int32) (m_ : Int32) (n : Nat) (dd : Nat) (hn : F 2 0 = nI n) (h7 : n ≤ 7) (hea : EA (F 5) n) (hd : F 6 0 = nI dd) (hd9 : dd ≤ 999) : Met l yX6_lost wsX6_lost { frames := 5, cells := 0, slots := 0, locals := 119 } (PcE D cI cC cZ cS [.ref (a 0), .int z, .int m_] (wM cI cC cZ cS a F tc)) (QcM (some (.int ((d_X6_lost F z m_ n dd).1))) D (wM cI cC cZ cS a F tc) (wM cI cC cZ cS a ((d_X6_lost F z m_ n dd).2) tc)) 0 0 (inW (wM cI cC cZ cS a F tc)) := by
  refine Met.ofW (cc := cX6_lost) (maxL := 4) (ret := (some .int)) (by decide) rfl ?_
  intro p e s m args below meth c s₁ B hml hv
  obtain ⟨rfl, hP, hD, hE⟩ := hv
  have hK := hE.1
  have hx := B.exec
  have hb := B.bytes
  have hr := B.returns
  have hts := atoms_spec (ws := wsX6_lost) B.pre
  have hown : s.vm.findClass RX6 = some m.cls := findClass_of_methodNamed B.named
  have hlocks := B.notSynchronized
  have hinX6 : ∀ w ∈ wsX60, w ∈ wsX6_lost := by decide +kernel
  have hD := inW_self hD
  have hS : va_S (inW (wM cI cC cZ cS a F tc)) s.heap s.heap [] := va_S.rf
  generalize hA : inW (wM cI cC cZ cS a F tc) = A at hD hS ⊢
  refine opq (d_X6_lost F z m_ n dd) (fun R hres => ?_)
  rw [hres]
  replace hres := hres.symm
  rw [d_X6_lost] at hres
  have hl := lv_entry ([.ref (a 0), .int z, .int m_]) (n := 4) (Nat.le_of_ble_eq_true rfl)
  rw [lg_entry_eq]
  generalize (lg_sl ([.ref (a 0), .int z, .int m_]) ++ List.replicate (4 - (lg_sl ([.ref (a 0), .int z, .int m_])).length) Slot.unset).toArray = ls at hl ⊢
  have hl : lv_has ls 4 [(0, .ref (a 0)), (1, .int z), (2, .int m_)] := hl
  refine lv_aload_n hx hb dX6_lost_0 rfl (lv_at hl 0 rfl) ?_
  refine lv_iconst (v := 0) hx hb dX6_lost_1 (by decide) ?_
  refine va_put (D := D) (ci := 6) (v := .int 0) (ty := .int) (C := RX6) (T := TX6) (N := 26) hx hb hts hinX6 tyX6 tyX6_ok nmX6 hown hK hP hD hS 0 rfl rfl 0 (by decide) (hts (.fieldLink RX6 53 "FirstOutModel" "thrown" "I") (by decide +kernel)) (fun _ h9 => h9) rfl (by decide +kernel) rfl rfl (Nat.le_of_ble_eq_true rfl) dX6_lost_2 (fun H locs hP hD hS => ?_)
  have hP : va_P D vwCl (wM cI cC cZ cS a (va_up F 0 (upd (F 0) 0 0)) tc) H := hP
  have hD : va_D A (wM cI cC cZ cS a (va_up F 0 (upd (F 0) 0 0)) tc) := hD
  refine lv_iload_n hx hb dX6_lost_5 rfl (lv_at hl 1 rfl) ?_
  refine lv_iconst (v := 0) hx hb dX6_lost_6 (by decide) ?_
  refine lv_sipush (v := 9999) hx hb dX6_lost_7 (by decide) ?_
  have hPc := hP.sub (ws' := []) [] rfl
  have hDc := hD.sub (ws' := []) [] (by decide) rfl
  refine m_callR (W.runS (As := [.int z, .int 0, .int 9999]) (rest := []) ⟨hx, hb, hml, hown, hts⟩ (c_X6_in l D cI cC cZ cS z 0 9999) (va_cwS 3 hts gX6_lost_X6_in rfl rfl rfl (by decide +kernel) ⟨Nat.le_of_ble_eq_true rfl, Nat.le_of_ble_eq_true rfl⟩) (preS_of hPc hDc hE) rfl rfl hl.1 rfl (lv_room (Nat.le_of_ble_eq_true rfl)) dX6_lost_10 ⟨Nat.zero_le _, Nat.zero_le _⟩) ?_
  refine W.eq (g2 := F0 m 13 ls [.int (d_X6_in z 0 9999)]) rfl ?_
  refine lv_if_eq (tgt := 26) hx hb dX6_lost_13 (by decide) (fun c_1 => ?_) (fun c_1 => ?_)
  · skip
    rw [if_pos c_1] at hres
    refine lv_iconst (v := (-1)) hx hb dX6_lost_26 (by decide) ?_
    rw [hres]
    exact W.iret (v := (-1)) hx hb hr (fun t ht hW => ⟨rfl, by rw [ht]; exact hP, by rw [hA]; exact hS.F ht⟩) hS.2.2 dX6_lost_27
  · skip
    rw [if_neg c_1] at hres
    have hzi := in_ok c_1
    have hzz := ix_le (N := 9999) hzi.1 hzi.2 (by omega)
    refine lv_iload_n hx hb dX6_lost_16 rfl (lv_at hl 2 rfl) ?_
    refine lv_iconst (v := 0) hx hb dX6_lost_17 (by decide) ?_
    refine lv_bipush (v := 7) hx hb dX6_lost_18 (by decide) ?_
    have hPc := hP.sub (ws' := []) [] rfl
    have hDc := hD.sub (ws' := []) [] (by decide) rfl
    refine m_callR (W.runS (As := [.int m_, .int 0, .int 7]) (rest := []) ⟨hx, hb, hml, hown, hts⟩ (c_X6_in l D cI cC cZ cS m_ 0 7) (va_cwS 3 hts gX6_lost_X6_in rfl rfl rfl (by decide +kernel) ⟨Nat.le_of_ble_eq_true rfl, Nat.le_of_ble_eq_true rfl⟩) (preS_of hPc hDc hE) rfl rfl hl.1 rfl (lv_room (Nat.le_of_ble_eq_true rfl)) dX6_lost_20 ⟨Nat.zero_le _, Nat.zero_le _⟩) ?_
    refine W.eq (g2 := F0 m 23 ls [.int (d_X6_in m_ 0 7)]) rfl ?_
    refine lv_if_ne (tgt := 28) hx hb dX6_lost_23 (by decide) (fun c_2 => ?_) (fun c_2 => ?_)
    · skip
      rw [if_neg c_2] at hres
      have hmi := in_ok c_2
      have hm := ix_le (N := 7) hmi.1 hmi.2 (by omega)
      refine lv_aload_n hx hb dX6_lost_28 rfl (lv_at hl 0 rfl) ?_
      have hPc := hP.sub (ws' := (wMw cI cC cZ cS a (upd (F 0) 0 0) (F 6) (F 7) tc)) [0, 6, 7] rfl
      have hDc := hD.sub (ws' := (wMw cI cC cZ cS a (upd (F 0) 0 0) (F 6) (F 7) tc)) [0, 6, 7] (by decide) rfl
      refine m_callM (W.runV (As := []) (rest := []) ⟨hx, hb, hml, hown, hts⟩ (c_X6_asNow l D cI cC cZ cS a (upd (F 0) 0 0) (F 6) (F 7) tc) (cwV 0 hts gX6_lost_X6_asNow rfl rfl rfl (by decide +kernel) ⟨Nat.le_of_ble_eq_true rfl, Nat.le_of_ble_eq_true rfl⟩) (preV_of hPc hDc hE (va_recv hK hPc (ci := 6) (q0 := 0) rfl rfl)) rfl rfl hl.1 rfl (lv_room (Nat.le_of_ble_eq_true rfl)) dX6_lost_29 ⟨Nat.zero_le _, Nat.zero_le _⟩) hP hD hS [0, 6, 7] rfl wMw_ad (fun H locs hP hD hS => ?_)
      have hP : va_P D vwCl (wM cI cC cZ cS a (va_up (va_up F 0 (upd (F 0) 0 0)) 7 (d_X6_asNow (F 6) (F 7))) tc) H := hP
      have hD : va_D A (wM cI cC cZ cS a (va_up (va_up F 0 (upd (F 0) 0 0)) 7 (d_X6_asNow (F 6) (F 7))) tc) := hD
      refine W.eq (g2 := F0 m 32 ls []) rfl ?_
      have hw0 : (d_X6_asNow (F 6) (F 7)) 0 = nI (dd + 0) := asNow_0.trans hd
      refine opq (d_X6_asNow (F 6) (F 7)) (fun r_3 hr_3 => ?_)
      try rw [hr_3] at hP
      try rw [hr_3] at hD
      try rw [hr_3] at hres
      try rw [hr_3] at hw0
      try rw [hr_3]
      refine lv_iconst (v := 0) hx hb dX6_lost_32 (by decide) ?_
      refine lv_istore_n (lv' := [(3, .int 0), (0, .ref (a 0)), (1, .int z), (2, .int m_)]) hx hb dX6_lost_33 rfl hl (by decide) rfl (fun ls hl => ?_)
      have loop34 : ∀ (k34 : Nat) (i : Nat) (wv : Nat → Int32), m_.toNatClampNeg - i < k34 → i ≤ m_.toNatClampNeg → wv 0 = nI (dd + i) → R = lp_X6_lost_34 F z m_ n dd k34 i wv → ∀ (H : Heap) (locs : List Loc), va_P D vwCl (wM cI cC cZ cS a (va_up (va_up F 0 (upd (F 0) 0 0)) 7 wv) tc) H → va_D A (wM cI cC cZ cS a (va_up (va_up F 0 (upd (F 0) 0 0)) 7 wv) tc) → va_S A s.heap H locs → ∀ ls : Array Slot, lv_has ls 4 [(0, .ref (a 0)), (1, .int z), (2, .int m_), (3, .int (nI i))] → W p l e (headSpec wsX6_lost { frames := 5, cells := 0, slots := 0, locals := 119 }).room s m (([.ref (a 0), .int z, .int m_] : List Value).toArray) below meth c H locs 0 0 (MQ below (QcM (some (.int R.1)) D (wM cI cC cZ cS a F tc) (wM cI cC cZ cS a R.2 tc)) (([.ref (a 0), .int z, .int m_] : List Value).toArray) s 0 0 A) (F0 m 34 ls []) := by
        intro k34
        induction k34 with
        | zero => intro i wv hk; exact absurd hk (Nat.not_lt_zero _)
        | succ k34 ih34 =>
          intro i wv hk34 hi hwd hres H locs hP hD hS ls hl
          rw [lp_X6_lost_34] at hres
          refine lv_iload_n hx hb dX6_lost_34 rfl (lv_at hl 3 rfl) ?_
          refine lv_iload_n hx hb dX6_lost_35 rfl (lv_at hl 2 rfl) ?_
          refine lv_to (show m_ = nI m_.toNatClampNeg from hm.1) ?_
          refine lv_icmp_ge (tgt := 61) hx hb dX6_lost_36 (by decide) (fun c_4 => ?_) (fun c_4 => ?_)
          · skip
            rw [if_pos c_4] at hres
            refine lv_aload_n hx hb dX6_lost_61 rfl (lv_at hl 0 rfl) ?_
            refine va_get (D := D) (ci := 6) (v := .ref (a 7)) (C := RX6) (T := TX6) (N := 26) hx hb hts hinX6 hown hK hP 0 rfl rfl 16 (by decide) (hts (.fieldLink RX6 28 "FirstOutModel" "w" "[I") (by decide +kernel)) (fun _ h9 => h9) rfl dX6_lost_62 ?_
            refine lv_iconst (v := 4) hx hb dX6_lost_65 (by decide) ?_
            refine m_iald hx hb hK hP 7 0 rfl rfl 4 rfl (by decide) (by decide) dX6_lost_66 ?_
            refine lv_to (show _ = (wv 4) from rfl) ?_
            rw [hres]
            exact W.iret (v := (wv 4)) hx hb hr (fun t ht hW => ⟨rfl, by rw [ht]; exact hP, by rw [hA]; exact hS.F ht⟩) hS.2.2 dX6_lost_67
          · skip
            rw [if_neg c_4] at hres
            have hlt := nlt_of c_4 (by have := hm.2; omega) (by have := hm.2; omega)
            refine lv_aload_n hx hb dX6_lost_39 rfl (lv_at hl 0 rfl) ?_
            refine lv_aload_n hx hb dX6_lost_40 rfl (lv_at hl 0 rfl) ?_
            refine va_get (D := D) (ci := 6) (v := .ref (a 7)) (C := RX6) (T := TX6) (N := 26) hx hb hts hinX6 hown hK hP 0 rfl rfl 16 (by decide) (hts (.fieldLink RX6 28 "FirstOutModel" "w" "[I") (by decide +kernel)) (fun _ h9 => h9) rfl dX6_lost_41 ?_
            refine lv_iload_n hx hb dX6_lost_44 rfl (lv_at hl 1 rfl) ?_
            refine lv_to (show z = nI z.toNatClampNeg from hzz.1) ?_
            refine lv_iload_n hx hb dX6_lost_45 rfl (lv_at hl 3 rfl) ?_
            refine lv_iadd hx hb dX6_lost_46 ?_
            refine lv_to (show ((nI z.toNatClampNeg) + (nI i)) = nI (z.toNatClampNeg + i) from (nI_add _ _)) ?_
            refine lv_sipush (v := 10000) hx hb dX6_lost_47 (by decide) ?_
            refine lv_irem hx hb dX6_lost_50 (by decide) ?_
            refine lv_to (show ((nI (z.toNatClampNeg + i)) - (nI (z.toNatClampNeg + i)) / (10000 : Int32) * (10000 : Int32)) = nI ((z.toNatClampNeg + i) % 10000) from (pk_rem (d := 10000) (by have := hzz.2; have := hm.2; omega) (by omega) (by omega))) ?_
            have hPc := hP.sub (ws' := (w5r cI cC cZ cS a (upd (F 0) 0 0) (F 2) (F 3) (F 4) (F 5) (a 7) wv tc)) [0, 2, 3, 4, 5, 7] rfl
            have hDc := hD.sub (ws' := (w5r cI cC cZ cS a (upd (F 0) 0 0) (F 2) (F 3) (F 4) (F 5) (a 7) wv tc)) [0, 2, 3, 4, 5, 7] (by decide) rfl
            refine m_callM (W.runV (As := [.ref (a 7), .int (nI ((z.toNatClampNeg + i) % 10000))]) (rest := []) ⟨hx, hb, hml, hown, hts⟩ (c_X6_goes l D cI cC cZ cS a (upd (F 0) 0 0) (F 2) (F 3) (F 4) (F 5) (a 7) wv tc (nI ((z.toNatClampNeg + i) % 10000)) n ((z.toNatClampNeg + i) % 10000) (dd + i) hn h7 hea rfl (by omega) hwd (by have := hm.2; omega)) (cwV 2 hts gX6_lost_X6_goes rfl rfl rfl (by decide +kernel) ⟨Nat.le_of_ble_eq_true rfl, Nat.le_of_ble_eq_true rfl⟩) (preV_of hPc hDc hE (va_recv hK hPc (ci := 6) (q0 := 0) rfl rfl)) rfl rfl hl.1 rfl (lv_room (Nat.le_of_ble_eq_true rfl)) dX6_lost_51 ⟨Nat.zero_le _, Nat.zero_le _⟩) hP hD hS [0, 2, 3, 4, 5, 7] rfl w5r_ad (fun H locs hP hD hS => ?_)
            have hP : va_P D vwCl (wM cI cC cZ cS a (va_up (va_up F 0 (upd (F 0) 0 0)) 7 ((d_X6_goes (F 3) (F 5) wv n ((z.toNatClampNeg + i) % 10000) (dd + i)).2)) tc) H := hP
            have hD : va_D A (wM cI cC cZ cS a (va_up (va_up F 0 (upd (F 0) 0 0)) 7 ((d_X6_goes (F 3) (F 5) wv n ((z.toNatClampNeg + i) % 10000) (dd + i)).2)) tc) := hD
            refine W.eq (g2 := F0 m 54 ls [.int ((d_X6_goes (F 3) (F 5) wv n ((z.toNatClampNeg + i) % 10000) (dd + i)).1)]) rfl ?_
            have hw1 : (d_X6_goes (F 3) (F 5) wv n ((z.toNatClampNeg + i) % 10000) (dd + i)).2 0 = nI (dd + (i + 1)) := by rw [goes_day, nI_1, Nat.add_assoc]
            refine opq (d_X6_goes (F 3) (F 5) wv n ((z.toNatClampNeg + i) % 10000) (dd + i)) (fun r_5 hr_5 => ?_)
            try rw [hr_5] at hP
            try rw [hr_5] at hD
            try rw [hr_5] at hres
            try rw [hr_5] at hw1
            try rw [hr_5]
            refine lv_pop hx hb dX6_lost_54 rfl ?_
            refine lv_iinc (v := nI (i + 1)) (lv' := [(3, .int (nI (i + 1))), (0, .ref (a 0)), (1, .int z), (2, .int m_)]) hx hb dX6_lost_55 hl (k := 3) rfl ((nI_add i 1)) (by decide) rfl (fun ls hl => ?_)
            refine lv_goto (tgt := 34) hx hb dX6_lost_58 (by decide) ?_
            have hP : va_P D vwCl (wM cI cC cZ cS a (va_up (va_up F 0 (upd (F 0) 0 0)) 7 r_5.2) tc) H := hP
            have hD : va_D A (wM cI cC cZ cS a (va_up (va_up F 0 (upd (F 0) 0 0)) 7 r_5.2) tc) := hD
            exact ih34 (i + 1) r_5.2 (by omega) (by omega) hw1 hres _ _ hP hD hS ls (lv_sub hl [1, 2, 3, 0] rfl)
      have hP : va_P D vwCl (wM cI cC cZ cS a (va_up (va_up F 0 (upd (F 0) 0 0)) 7 r_3) tc) _ := hP
      have hD : va_D A (wM cI cC cZ cS a (va_up (va_up F 0 (upd (F 0) 0 0)) 7 r_3) tc) := hD
      exact loop34 (m_.toNatClampNeg + 1) 0 r_3 (by omega) (Nat.zero_le _) hw0 hres _ _ hP hD hS ls (lv_sub hl [1, 2, 3, 0] rfl)
    · skip
      rw [if_pos c_2] at hres
      refine lv_iconst (v := (-1)) hx hb dX6_lost_26 (by decide) ?_
      rw [hres]
      exact W.iret (v := (-1)) hx hb hr (fun t ht hW => ⟨rfl, by rw [ht]; exact hP, by rw [hA]; exact hS.F ht⟩) hS.2.2 dX6_lost_27
def lp_X6_fit_41 (F : Nat → Nat → Int32) (what : Int32) (sk : Nat) (i : Nat) : Nat → Nat → Int32 → Int32
  | 0, _, _ => 0
  | k41 + 1, ei, is_ => if (nI sk) ≤ (nI ei) then
      is_
    else
      if is_ = 0 then
        lp_X6_fit_41 F what sk i k41 (ei + 1) 0
      else
        if (F 12 ei) = (1 : Int32) then
          if (d_X6_hasAll (F 3) (nI i) ((F 11 ei).toNatClampNeg)) = (1 : Int32) then
            lp_X6_fit_41 F what sk i k41 (ei + 1) 1
          else
            lp_X6_fit_41 F what sk i k41 (ei + 1) 0
        else
          if (d_X6_hasAll (F 3) (nI i) ((F 11 ei).toNatClampNeg)) = (0 : Int32) then
            lp_X6_fit_41 F what sk i k41 (ei + 1) 1
          else
            lp_X6_fit_41 F what sk i k41 (ei + 1) 0
def lp_X6_fit_28 (F : Nat → Nat → Int32) (what : Int32) (sk : Nat) : Nat → Nat → Int32 → Int32 → Int32 → Int32 × (Nat → Nat → Int32)
  | 0, _, _, _, _ => (0, F)
  | k28 + 1, i, ft, lst, ina => if (32 : Int32) ≤ (nI i) then
      if what = 0 then
        (ft, (va_up F 0 (upd (F 0) 0 0)))
      else
        if what = (1 : Int32) then
          (lst, (va_up F 0 (upd (F 0) 0 0)))
        else
          if ft = 0 then
            (lst, (va_up F 0 (upd (F 0) 0 0)))
          else
            (ina, (va_up F 0 (upd (F 0) 0 0)))
    else
      if (lp_X6_fit_41 F what sk i (sk + 1) 0 1) = 0 then
        lp_X6_fit_28 F what sk k28 (i + 1) ft lst ina
      else
        if ft = 0 then
          lp_X6_fit_28 F what sk k28 (i + 1) (ft + 1) (nI i) (ina &&& (nI i))
        else
          lp_X6_fit_28 F what sk k28 (i + 1) (ft + 1) lst (ina &&& (nI i))
def d_X6_fit (F : Nat → Nat → Int32) (what : Int32) (sk : Nat) : Int32 × (Nat → Nat → Int32) :=
  if (d_X6_in what 0 2) = 0 then
      ((-1), (va_up F 0 (upd (F 0) 0 0)))
    else
      lp_X6_fit_28 F what sk 33 0 0 (-9) 31
set_option maxHeartbeats 4000000 in
set_option maxRecDepth 100000 in
theorem c_X6_fit (l : Launch) (D : va_G) (cI cC cZ cS : ClassId) (a : Nat → Nat) (F : Nat → Nat → Int32) (tc : Int64) (what : Int32) (n : Nat) (sk : Nat) (hn : F 2 0 = nI n) (h7 : n ≤ 7) (hsk : F 0 23 = nI sk) (hs6 : sk ≤ 6) (hso : ∀ q, q < sk → F 11 q = nI (F 11 q).toNatClampNeg ∧ (F 11 q).toNatClampNeg < n) : Met l yX6_fit wsX6_fit { frames := 1, cells := 0, slots := 0, locals := 22 } (PcE D cI cC cZ cS [.ref (a 0), .int what] (wM cI cC cZ cS a F tc)) (QcM (some (.int ((d_X6_fit F what sk).1))) D (wM cI cC cZ cS a F tc) (wM cI cC cZ cS a ((d_X6_fit F what sk).2) tc)) 0 0 (inW (wM cI cC cZ cS a F tc)) := by
  refine Met.ofW (cc := cX6_fit) (maxL := 8) (ret := (some .int)) (by decide) rfl ?_
  intro p e s m args below meth c s₁ B hml hv
  obtain ⟨rfl, hP, hD, hE⟩ := hv
  have hK := hE.1
  have hx := B.exec
  have hb := B.bytes
  have hr := B.returns
  have hts := atoms_spec (ws := wsX6_fit) B.pre
  have hown : s.vm.findClass RX6 = some m.cls := findClass_of_methodNamed B.named
  have hlocks := B.notSynchronized
  have hinX6 : ∀ w ∈ wsX60, w ∈ wsX6_fit := by decide +kernel
  have hD := inW_self hD
  have hS : va_S (inW (wM cI cC cZ cS a F tc)) s.heap s.heap [] := va_S.rf
  generalize hA : inW (wM cI cC cZ cS a F tc) = A at hD hS ⊢
  refine opq (d_X6_fit F what sk) (fun R hres => ?_)
  rw [hres]
  replace hres := hres.symm
  rw [d_X6_fit] at hres
  have hl := lv_entry ([.ref (a 0), .int what]) (n := 8) (Nat.le_of_ble_eq_true rfl)
  rw [lg_entry_eq]
  generalize (lg_sl ([.ref (a 0), .int what]) ++ List.replicate (8 - (lg_sl ([.ref (a 0), .int what])).length) Slot.unset).toArray = ls at hl ⊢
  have hl : lv_has ls 8 [(0, .ref (a 0)), (1, .int what)] := hl
  refine lv_aload_n hx hb dX6_fit_0 rfl (lv_at hl 0 rfl) ?_
  refine lv_iconst (v := 0) hx hb dX6_fit_1 (by decide) ?_
  refine va_put (D := D) (ci := 6) (v := .int 0) (ty := .int) (C := RX6) (T := TX6) (N := 26) hx hb hts hinX6 tyX6 tyX6_ok nmX6 hown hK hP hD hS 0 rfl rfl 0 (by decide) (hts (.fieldLink RX6 53 "FirstOutModel" "thrown" "I") (by decide +kernel)) (fun _ h9 => h9) rfl (by decide +kernel) rfl rfl (Nat.le_of_ble_eq_true rfl) dX6_fit_2 (fun H locs hP hD hS => ?_)
  have hP : va_P D vwCl (wM cI cC cZ cS a (va_up F 0 (upd (F 0) 0 0)) tc) H := hP
  have hD : va_D A (wM cI cC cZ cS a (va_up F 0 (upd (F 0) 0 0)) tc) := hD
  refine lv_iload_n hx hb dX6_fit_5 rfl (lv_at hl 1 rfl) ?_
  refine lv_iconst (v := 0) hx hb dX6_fit_6 (by decide) ?_
  refine lv_iconst (v := 2) hx hb dX6_fit_7 (by decide) ?_
  have hPc := hP.sub (ws' := []) [] rfl
  have hDc := hD.sub (ws' := []) [] (by decide) rfl
  refine m_callR (W.runS (As := [.int what, .int 0, .int 2]) (rest := []) ⟨hx, hb, hml, hown, hts⟩ (c_X6_in l D cI cC cZ cS what 0 2) (va_cwS 3 hts gX6_fit_X6_in rfl rfl rfl (by decide +kernel) ⟨Nat.le_of_ble_eq_true rfl, Nat.le_of_ble_eq_true rfl⟩) (preS_of hPc hDc hE) rfl rfl hl.1 rfl (lv_room (Nat.le_of_ble_eq_true rfl)) dX6_fit_8 ⟨Nat.zero_le _, Nat.zero_le _⟩) ?_
  refine W.eq (g2 := F0 m 11 ls [.int (d_X6_in what 0 2)]) rfl ?_
  refine lv_if_ne (tgt := 16) hx hb dX6_fit_11 (by decide) (fun c_1 => ?_) (fun c_1 => ?_)
  · skip
    rw [if_neg c_1] at hres
    refine lv_iconst (v := 0) hx hb dX6_fit_16 (by decide) ?_
    refine lv_istore_n (lv' := [(2, .int 0), (0, .ref (a 0)), (1, .int what)]) hx hb dX6_fit_17 rfl hl (by decide) rfl (fun ls hl => ?_)
    refine lv_bipush (v := (-9)) hx hb dX6_fit_18 (by decide) ?_
    refine lv_istore_n (lv' := [(3, .int (-9)), (2, .int 0), (0, .ref (a 0)), (1, .int what)]) hx hb dX6_fit_20 rfl hl (by decide) rfl (fun ls hl => ?_)
    refine lv_bipush (v := 31) hx hb dX6_fit_21 (by decide) ?_
    refine lv_istore (lv' := [(4, .int 31), (3, .int (-9)), (2, .int 0), (0, .ref (a 0)), (1, .int what)]) hx hb dX6_fit_23 hl (by decide) rfl (fun ls hl => ?_)
    refine lv_iconst (v := 0) hx hb dX6_fit_25 (by decide) ?_
    refine lv_istore (lv' := [(5, .int 0), (4, .int 31), (3, .int (-9)), (2, .int 0), (0, .ref (a 0)), (1, .int what)]) hx hb dX6_fit_26 hl (by decide) rfl (fun ls hl => ?_)
    have loop28 : ∀ (k28 : Nat) (i : Nat) (ft : Int32) (lst : Int32) (ina : Int32), 32 - i < k28 → i ≤ 32 → R = lp_X6_fit_28 F what sk k28 i ft lst ina → ∀ (H : Heap) (locs : List Loc), va_P D vwCl (wM cI cC cZ cS a (va_up F 0 (upd (F 0) 0 0)) tc) H → va_D A (wM cI cC cZ cS a (va_up F 0 (upd (F 0) 0 0)) tc) → va_S A s.heap H locs → ∀ ls : Array Slot, lv_has ls 8 [(0, .ref (a 0)), (1, .int what), (2, .int ft), (3, .int lst), (4, .int ina), (5, .int (nI i))] → W p l e (headSpec wsX6_fit { frames := 1, cells := 0, slots := 0, locals := 22 }).room s m (([.ref (a 0), .int what] : List Value).toArray) below meth c H locs 0 0 (MQ below (QcM (some (.int R.1)) D (wM cI cC cZ cS a F tc) (wM cI cC cZ cS a R.2 tc)) (([.ref (a 0), .int what] : List Value).toArray) s 0 0 A) (F0 m 28 ls []) := by
      intro k28
      induction k28 with
      | zero => intro i ft lst ina hk; exact absurd hk (Nat.not_lt_zero _)
      | succ k28 ih28 =>
        intro i ft lst ina hk28 hi hres H locs hP hD hS ls hl
        rw [lp_X6_fit_28] at hres
        refine lv_iload hx hb dX6_fit_28 (lv_at hl 5 rfl) ?_
        refine lv_bipush (v := 32) hx hb dX6_fit_30 (by decide) ?_
        refine lv_icmp_ge (tgt := 132) hx hb dX6_fit_32 (by decide) (fun c_2 => ?_) (fun c_2 => ?_)
        · skip
          rw [if_pos c_2] at hres
          refine lv_iload_n hx hb dX6_fit_132 rfl (lv_at hl 1 rfl) ?_
          refine lv_if_ne (tgt := 140) hx hb dX6_fit_133 (by decide) (fun c_3 => ?_) (fun c_3 => ?_)
          · skip
            rw [if_neg c_3] at hres
            refine lv_iload_n hx hb dX6_fit_140 rfl (lv_at hl 1 rfl) ?_
            refine lv_iconst (v := 1) hx hb dX6_fit_141 (by decide) ?_
            refine lv_icmp_eq (tgt := 149) hx hb dX6_fit_142 (by decide) (fun c_4 => ?_) (fun c_4 => ?_)
            · skip
              rw [if_pos c_4] at hres
              refine lv_iload_n hx hb dX6_fit_149 rfl (lv_at hl 3 rfl) ?_
              refine lv_goto (tgt := 155) hx hb dX6_fit_150 (by decide) ?_
              rw [hres]
              exact W.iret (v := lst) hx hb hr (fun t ht hW => ⟨rfl, by rw [ht]; exact hP, by rw [hA]; exact hS.F ht⟩) hS.2.2 dX6_fit_155
            · skip
              rw [if_neg c_4] at hres
              refine lv_iload_n hx hb dX6_fit_145 rfl (lv_at hl 2 rfl) ?_
              refine lv_if_ne (tgt := 153) hx hb dX6_fit_146 (by decide) (fun c_5 => ?_) (fun c_5 => ?_)
              · skip
                rw [if_neg c_5] at hres
                refine lv_iload hx hb dX6_fit_153 (lv_at hl 4 rfl) ?_
                rw [hres]
                exact W.iret (v := ina) hx hb hr (fun t ht hW => ⟨rfl, by rw [ht]; exact hP, by rw [hA]; exact hS.F ht⟩) hS.2.2 dX6_fit_155
              · skip
                rw [if_pos c_5] at hres
                refine lv_iload_n hx hb dX6_fit_149 rfl (lv_at hl 3 rfl) ?_
                refine lv_goto (tgt := 155) hx hb dX6_fit_150 (by decide) ?_
                rw [hres]
                exact W.iret (v := lst) hx hb hr (fun t ht hW => ⟨rfl, by rw [ht]; exact hP, by rw [hA]; exact hS.F ht⟩) hS.2.2 dX6_fit_155
          · skip
            rw [if_pos c_3] at hres
            refine lv_iload_n hx hb dX6_fit_136 rfl (lv_at hl 2 rfl) ?_
            refine lv_goto (tgt := 155) hx hb dX6_fit_137 (by decide) ?_
            rw [hres]
            exact W.iret (v := ft) hx hb hr (fun t ht hW => ⟨rfl, by rw [ht]; exact hP, by rw [hA]; exact hS.F ht⟩) hS.2.2 dX6_fit_155
        · skip
          rw [if_neg c_2] at hres
          have hlt : i < 32 := nlt_of (b := 32) c_2 (by omega) (by omega)
          refine lv_iconst (v := 1) hx hb dX6_fit_35 (by decide) ?_
          refine lv_istore (lv' := [(6, .int 1), (0, .ref (a 0)), (1, .int what), (2, .int ft), (3, .int lst), (4, .int ina), (5, .int (nI i))]) hx hb dX6_fit_36 hl (by decide) rfl (fun ls hl => ?_)
          refine lv_iconst (v := 0) hx hb dX6_fit_38 (by decide) ?_
          refine lv_istore (lv' := [(7, .int 0), (6, .int 1), (0, .ref (a 0)), (1, .int what), (2, .int ft), (3, .int lst), (4, .int ina), (5, .int (nI i))]) hx hb dX6_fit_39 hl (by decide) rfl (fun ls hl => ?_)
          have loop41 : ∀ (k41 : Nat) (Rs : Int32) (ei : Nat) (is_ : Int32), sk - ei < k41 → ei ≤ sk → Rs = lp_X6_fit_41 F what sk i k41 ei is_ → (∀ ls : Array Slot, lv_has ls 8 [(0, .ref (a 0)), (1, .int what), (2, .int ft), (3, .int lst), (4, .int ina), (5, .int (nI i)), (6, .int Rs)] → W p l e (headSpec wsX6_fit { frames := 1, cells := 0, slots := 0, locals := 22 }).room s m (([.ref (a 0), .int what] : List Value).toArray) below meth c H locs 0 0 (MQ below (QcM (some (.int R.1)) D (wM cI cC cZ cS a F tc) (wM cI cC cZ cS a R.2 tc)) (([.ref (a 0), .int what] : List Value).toArray) s 0 0 A) (F0 m 100 ls [])) → ∀ ls : Array Slot, lv_has ls 8 [(0, .ref (a 0)), (1, .int what), (2, .int ft), (3, .int lst), (4, .int ina), (5, .int (nI i)), (6, .int is_), (7, .int (nI ei))] → W p l e (headSpec wsX6_fit { frames := 1, cells := 0, slots := 0, locals := 22 }).room s m (([.ref (a 0), .int what] : List Value).toArray) below meth c H locs 0 0 (MQ below (QcM (some (.int R.1)) D (wM cI cC cZ cS a F tc) (wM cI cC cZ cS a R.2 tc)) (([.ref (a 0), .int what] : List Value).toArray) s 0 0 A) (F0 m 41 ls []) := by
            intro k41
            induction k41 with
            | zero => intro Rs ei is_ hk; exact absurd hk (Nat.not_lt_zero _)
            | succ k41 ih41 =>
              intro Rs ei is_ hk41 hei hres hK41 ls hl
              rw [lp_X6_fit_41] at hres
              refine lv_iload hx hb dX6_fit_41 (lv_at hl 7 rfl) ?_
              refine lv_aload_n hx hb dX6_fit_43 rfl (lv_at hl 0 rfl) ?_
              refine va_get (D := D) (ci := 6) (v := .int (F 0 23)) (C := RX6) (T := TX6) (N := 26) hx hb hts hinX6 hown hK hP 0 rfl rfl 23 (by decide) (hts (.fieldLink RX6 108 "FirstOutModel" "sawMany" "I") (by decide +kernel)) (fun _ h9 => h9) rfl dX6_fit_44 ?_
              refine lv_to (show (F 0 23) = nI sk from hsk) ?_
              refine lv_icmp_ge (tgt := 100) hx hb dX6_fit_47 (by decide) (fun c_6 => ?_) (fun c_6 => ?_)
              · skip
                rw [if_pos c_6] at hres
                exact hK41 ls (lv_cg (lv_sub hl (l' := [(0, .ref (a 0)), (1, .int what), (2, .int ft), (3, .int lst), (4, .int ina), (5, .int (nI i)), (6, .int is_)]) [0, 1, 2, 3, 4, 5, 6] rfl) (lc_ rfl (lc_ rfl (lc_ rfl (lc_ rfl (lc_ rfl (lc_ rfl (lc_ (vi_ hres.symm) rfl))))))))
              · skip
                rw [if_neg c_6] at hres
                have hel : ei < sk := nlt_of c_6 (by omega) (by omega)
                refine lv_iload hx hb dX6_fit_50 (lv_at hl 6 rfl) ?_
                refine lv_if_eq (tgt := 91) hx hb dX6_fit_52 (by decide) (fun c_7 => ?_) (fun c_7 => ?_)
                · skip
                  rw [if_pos c_7] at hres
                  refine lv_iconst (v := 0) hx hb dX6_fit_91 (by decide) ?_
                  refine lv_istore (lv' := [(6, .int 0), (0, .ref (a 0)), (1, .int what), (2, .int ft), (3, .int lst), (4, .int ina), (5, .int (nI i)), (7, .int (nI ei))]) hx hb dX6_fit_92 hl (by decide) rfl (fun ls hl => ?_)
                  refine lv_iinc (v := nI (ei + 1)) (lv' := [(7, .int (nI (ei + 1))), (6, .int 0), (0, .ref (a 0)), (1, .int what), (2, .int ft), (3, .int lst), (4, .int ina), (5, .int (nI i))]) hx hb dX6_fit_94 hl (k := 7) rfl ((nI_add ei 1)) (by decide) rfl (fun ls hl => ?_)
                  refine lv_goto (tgt := 41) hx hb dX6_fit_97 (by decide) ?_
                  exact ih41 Rs (ei + 1) 0 (by omega) (by omega) hres hK41 ls (lv_sub hl [2, 3, 4, 5, 6, 7, 1, 0] rfl)
                · skip
                  rw [if_neg c_7] at hres
                  refine lv_aload_n hx hb dX6_fit_55 rfl (lv_at hl 0 rfl) ?_
                  refine lv_aload_n hx hb dX6_fit_56 rfl (lv_at hl 0 rfl) ?_
                  refine va_get (D := D) (ci := 6) (v := .ref (a 11)) (C := RX6) (T := TX6) (N := 26) hx hb hts hinX6 hown hK hP 0 rfl rfl 21 (by decide) (hts (.fieldLink RX6 41 "FirstOutModel" "sawOf" "[I") (by decide +kernel)) (fun _ h9 => h9) rfl dX6_fit_57 ?_
                  refine lv_iload hx hb dX6_fit_60 (lv_at hl 7 rfl) ?_
                  refine m_iald hx hb hK hP 11 0 rfl rfl ei rfl (by omega) (by decide) dX6_fit_62 ?_
                  refine lv_to (show _ = (F 11 ei) from rfl) ?_
                  refine lv_iload hx hb dX6_fit_63 (lv_at hl 5 rfl) ?_
                  have hPc := hP.sub (ws' := (w5 cI cC cZ cS a (upd (F 0) 0 0) (F 2) (F 3) (F 4) (F 5) tc)) [0, 2, 3, 4, 5] rfl
                  have hDc := hD.sub (ws' := (w5 cI cC cZ cS a (upd (F 0) 0 0) (F 2) (F 3) (F 4) (F 5) tc)) [0, 2, 3, 4, 5] (by decide) rfl
                  refine m_callR (W.runV (As := [.int (F 11 ei), .int (nI i)]) (rest := []) ⟨hx, hb, hml, hown, hts⟩ (c_X6_hasAll l D cI cC cZ cS a (upd (F 0) 0 0) (F 2) (F 3) (F 4) (F 5) tc (F 11 ei) (nI i) ((F 11 ei).toNatClampNeg) ((hso ei hel).1) (by have := (hso ei hel).2; omega)) (cwV 2 hts gX6_fit_X6_hasAll rfl rfl rfl (by decide +kernel) ⟨Nat.le_of_ble_eq_true rfl, Nat.le_of_ble_eq_true rfl⟩) (preV_of hPc hDc hE (va_recv hK hPc (ci := 6) (q0 := 0) rfl rfl)) rfl rfl hl.1 rfl (lv_room (Nat.le_of_ble_eq_true rfl)) dX6_fit_65 ⟨Nat.zero_le _, Nat.zero_le _⟩) ?_
                  refine W.eq (g2 := F0 m 68 ls [.int (d_X6_hasAll (F 3) (nI i) ((F 11 ei).toNatClampNeg))]) rfl ?_
                  refine lv_aload_n hx hb dX6_fit_68 rfl (lv_at hl 0 rfl) ?_
                  refine va_get (D := D) (ci := 6) (v := .ref (a 12)) (C := RX6) (T := TX6) (N := 26) hx hb hts hinX6 hown hK hP 0 rfl rfl 22 (by decide) (hts (.fieldLink RX6 44 "FirstOutModel" "sawIs" "[I") (by decide +kernel)) (fun _ h9 => h9) rfl dX6_fit_69 ?_
                  refine lv_iload hx hb dX6_fit_72 (lv_at hl 7 rfl) ?_
                  refine m_iald hx hb hK hP 12 0 rfl rfl ei rfl (by omega) (by decide) dX6_fit_74 ?_
                  refine lv_to (show _ = (F 12 ei) from rfl) ?_
                  refine lv_iconst (v := 1) hx hb dX6_fit_75 (by decide) ?_
                  refine lv_icmp_ne (tgt := 83) hx hb dX6_fit_76 (by decide) (fun c_8 => ?_) (fun c_8 => ?_)
                  · skip
                    rw [if_neg c_8] at hres
                    refine lv_iconst (v := 0) hx hb dX6_fit_83 (by decide) ?_
                    refine lv_icmp_ne (tgt := 91) hx hb dX6_fit_84 (by decide) (fun c_9 => ?_) (fun c_9 => ?_)
                    · skip
                      rw [if_neg c_9] at hres
                      refine lv_iconst (v := 0) hx hb dX6_fit_91 (by decide) ?_
                      refine lv_istore (lv' := [(6, .int 0), (0, .ref (a 0)), (1, .int what), (2, .int ft), (3, .int lst), (4, .int ina), (5, .int (nI i)), (7, .int (nI ei))]) hx hb dX6_fit_92 hl (by decide) rfl (fun ls hl => ?_)
                      refine lv_iinc (v := nI (ei + 1)) (lv' := [(7, .int (nI (ei + 1))), (6, .int 0), (0, .ref (a 0)), (1, .int what), (2, .int ft), (3, .int lst), (4, .int ina), (5, .int (nI i))]) hx hb dX6_fit_94 hl (k := 7) rfl ((nI_add ei 1)) (by decide) rfl (fun ls hl => ?_)
                      refine lv_goto (tgt := 41) hx hb dX6_fit_97 (by decide) ?_
                      exact ih41 Rs (ei + 1) 0 (by omega) (by omega) hres hK41 ls (lv_sub hl [2, 3, 4, 5, 6, 7, 1, 0] rfl)
                    · skip
                      rw [if_pos c_9] at hres
                      refine lv_iconst (v := 1) hx hb dX6_fit_87 (by decide) ?_
                      refine lv_goto (tgt := 92) hx hb dX6_fit_88 (by decide) ?_
                      refine lv_istore (lv' := [(6, .int 1), (0, .ref (a 0)), (1, .int what), (2, .int ft), (3, .int lst), (4, .int ina), (5, .int (nI i)), (7, .int (nI ei))]) hx hb dX6_fit_92 hl (by decide) rfl (fun ls hl => ?_)
                      refine lv_iinc (v := nI (ei + 1)) (lv' := [(7, .int (nI (ei + 1))), (6, .int 1), (0, .ref (a 0)), (1, .int what), (2, .int ft), (3, .int lst), (4, .int ina), (5, .int (nI i))]) hx hb dX6_fit_94 hl (k := 7) rfl ((nI_add ei 1)) (by decide) rfl (fun ls hl => ?_)
                      refine lv_goto (tgt := 41) hx hb dX6_fit_97 (by decide) ?_
                      exact ih41 Rs (ei + 1) 1 (by omega) (by omega) hres hK41 ls (lv_sub hl [2, 3, 4, 5, 6, 7, 1, 0] rfl)
                  · skip
                    rw [if_pos c_8] at hres
                    refine lv_iconst (v := 1) hx hb dX6_fit_79 (by decide) ?_
                    refine lv_goto (tgt := 84) hx hb dX6_fit_80 (by decide) ?_
                    refine lv_icmp_ne (tgt := 91) hx hb dX6_fit_84 (by decide) (fun c_10 => ?_) (fun c_10 => ?_)
                    · skip
                      rw [if_neg c_10] at hres
                      refine lv_iconst (v := 0) hx hb dX6_fit_91 (by decide) ?_
                      refine lv_istore (lv' := [(6, .int 0), (0, .ref (a 0)), (1, .int what), (2, .int ft), (3, .int lst), (4, .int ina), (5, .int (nI i)), (7, .int (nI ei))]) hx hb dX6_fit_92 hl (by decide) rfl (fun ls hl => ?_)
                      refine lv_iinc (v := nI (ei + 1)) (lv' := [(7, .int (nI (ei + 1))), (6, .int 0), (0, .ref (a 0)), (1, .int what), (2, .int ft), (3, .int lst), (4, .int ina), (5, .int (nI i))]) hx hb dX6_fit_94 hl (k := 7) rfl ((nI_add ei 1)) (by decide) rfl (fun ls hl => ?_)
                      refine lv_goto (tgt := 41) hx hb dX6_fit_97 (by decide) ?_
                      exact ih41 Rs (ei + 1) 0 (by omega) (by omega) hres hK41 ls (lv_sub hl [2, 3, 4, 5, 6, 7, 1, 0] rfl)
                    · skip
                      rw [if_pos c_10] at hres
                      refine lv_iconst (v := 1) hx hb dX6_fit_87 (by decide) ?_
                      refine lv_goto (tgt := 92) hx hb dX6_fit_88 (by decide) ?_
                      refine lv_istore (lv' := [(6, .int 1), (0, .ref (a 0)), (1, .int what), (2, .int ft), (3, .int lst), (4, .int ina), (5, .int (nI i)), (7, .int (nI ei))]) hx hb dX6_fit_92 hl (by decide) rfl (fun ls hl => ?_)
                      refine lv_iinc (v := nI (ei + 1)) (lv' := [(7, .int (nI (ei + 1))), (6, .int 1), (0, .ref (a 0)), (1, .int what), (2, .int ft), (3, .int lst), (4, .int ina), (5, .int (nI i))]) hx hb dX6_fit_94 hl (k := 7) rfl ((nI_add ei 1)) (by decide) rfl (fun ls hl => ?_)
                      refine lv_goto (tgt := 41) hx hb dX6_fit_97 (by decide) ?_
                      exact ih41 Rs (ei + 1) 1 (by omega) (by omega) hres hK41 ls (lv_sub hl [2, 3, 4, 5, 6, 7, 1, 0] rfl)
          refine loop41 (sk + 1) (lp_X6_fit_41 F what sk i (sk + 1) 0 1) 0 1 (by omega) (Nat.zero_le _) rfl (fun ls hl => ?_) ls (lv_sub hl [2, 3, 4, 5, 6, 7, 1, 0] rfl)
          refine lv_iload hx hb dX6_fit_100 (lv_at hl 6 rfl) ?_
          refine lv_if_eq (tgt := 126) hx hb dX6_fit_102 (by decide) (fun c_11 => ?_) (fun c_11 => ?_)
          · skip
            rw [if_pos c_11] at hres
            refine lv_iinc (v := nI (i + 1)) (lv' := [(5, .int (nI (i + 1))), (0, .ref (a 0)), (1, .int what), (2, .int ft), (3, .int lst), (4, .int ina), (6, .int (lp_X6_fit_41 F what sk i (sk + 1) 0 1))]) hx hb dX6_fit_126 hl (k := 5) rfl ((nI_add i 1)) (by decide) rfl (fun ls hl => ?_)
            refine lv_goto (tgt := 28) hx hb dX6_fit_129 (by decide) ?_
            have hP : va_P D vwCl (wM cI cC cZ cS a (va_up F 0 (upd (F 0) 0 0)) tc) H := hP
            have hD : va_D A (wM cI cC cZ cS a (va_up F 0 (upd (F 0) 0 0)) tc) := hD
            exact ih28 (i + 1) ft lst ina (by omega) (by omega) hres _ _ hP hD hS ls (lv_sub hl [1, 2, 3, 4, 5, 0] rfl)
          · skip
            rw [if_neg c_11] at hres
            refine lv_iload_n hx hb dX6_fit_105 rfl (lv_at hl 2 rfl) ?_
            refine lv_if_ne (tgt := 114) hx hb dX6_fit_106 (by decide) (fun c_12 => ?_) (fun c_12 => ?_)
            · skip
              rw [if_neg c_12] at hres
              refine lv_iload_n hx hb dX6_fit_114 rfl (lv_at hl 3 rfl) ?_
              refine lv_istore_n (lv' := [(3, .int lst), (0, .ref (a 0)), (1, .int what), (2, .int ft), (4, .int ina), (5, .int (nI i)), (6, .int (lp_X6_fit_41 F what sk i (sk + 1) 0 1))]) hx hb dX6_fit_115 rfl hl (by decide) rfl (fun ls hl => ?_)
              refine lv_iload hx hb dX6_fit_116 (lv_at hl 4 rfl) ?_
              refine lv_iload hx hb dX6_fit_118 (lv_at hl 5 rfl) ?_
              refine lv_iand hx hb dX6_fit_120 ?_
              refine lv_istore (lv' := [(4, .int (ina &&& (nI i))), (3, .int lst), (0, .ref (a 0)), (1, .int what), (2, .int ft), (5, .int (nI i)), (6, .int (lp_X6_fit_41 F what sk i (sk + 1) 0 1))]) hx hb dX6_fit_121 hl (by decide) rfl (fun ls hl => ?_)
              refine lv_iinc (v := ft + 1) (lv' := [(2, .int (ft + 1)), (4, .int (ina &&& (nI i))), (3, .int lst), (0, .ref (a 0)), (1, .int what), (5, .int (nI i)), (6, .int (lp_X6_fit_41 F what sk i (sk + 1) 0 1))]) hx hb dX6_fit_123 hl (k := 4) rfl (rfl) (by decide) rfl (fun ls hl => ?_)
              refine lv_iinc (v := nI (i + 1)) (lv' := [(5, .int (nI (i + 1))), (2, .int (ft + 1)), (4, .int (ina &&& (nI i))), (3, .int lst), (0, .ref (a 0)), (1, .int what), (6, .int (lp_X6_fit_41 F what sk i (sk + 1) 0 1))]) hx hb dX6_fit_126 hl (k := 5) rfl ((nI_add i 1)) (by decide) rfl (fun ls hl => ?_)
              refine lv_goto (tgt := 28) hx hb dX6_fit_129 (by decide) ?_
              have hP : va_P D vwCl (wM cI cC cZ cS a (va_up F 0 (upd (F 0) 0 0)) tc) H := hP
              have hD : va_D A (wM cI cC cZ cS a (va_up F 0 (upd (F 0) 0 0)) tc) := hD
              exact ih28 (i + 1) (ft + 1) lst (ina &&& (nI i)) (by omega) (by omega) hres _ _ hP hD hS ls (lv_sub hl [4, 5, 1, 3, 2, 0] rfl)
            · skip
              rw [if_pos c_12] at hres
              refine lv_iload hx hb dX6_fit_109 (lv_at hl 5 rfl) ?_
              refine lv_goto (tgt := 115) hx hb dX6_fit_111 (by decide) ?_
              refine lv_istore_n (lv' := [(3, .int (nI i)), (0, .ref (a 0)), (1, .int what), (2, .int ft), (4, .int ina), (5, .int (nI i)), (6, .int (lp_X6_fit_41 F what sk i (sk + 1) 0 1))]) hx hb dX6_fit_115 rfl hl (by decide) rfl (fun ls hl => ?_)
              refine lv_iload hx hb dX6_fit_116 (lv_at hl 4 rfl) ?_
              refine lv_iload hx hb dX6_fit_118 (lv_at hl 5 rfl) ?_
              refine lv_iand hx hb dX6_fit_120 ?_
              refine lv_istore (lv' := [(4, .int (ina &&& (nI i))), (3, .int (nI i)), (0, .ref (a 0)), (1, .int what), (2, .int ft), (5, .int (nI i)), (6, .int (lp_X6_fit_41 F what sk i (sk + 1) 0 1))]) hx hb dX6_fit_121 hl (by decide) rfl (fun ls hl => ?_)
              refine lv_iinc (v := ft + 1) (lv' := [(2, .int (ft + 1)), (4, .int (ina &&& (nI i))), (3, .int (nI i)), (0, .ref (a 0)), (1, .int what), (5, .int (nI i)), (6, .int (lp_X6_fit_41 F what sk i (sk + 1) 0 1))]) hx hb dX6_fit_123 hl (k := 4) rfl (rfl) (by decide) rfl (fun ls hl => ?_)
              refine lv_iinc (v := nI (i + 1)) (lv' := [(5, .int (nI (i + 1))), (2, .int (ft + 1)), (4, .int (ina &&& (nI i))), (3, .int (nI i)), (0, .ref (a 0)), (1, .int what), (6, .int (lp_X6_fit_41 F what sk i (sk + 1) 0 1))]) hx hb dX6_fit_126 hl (k := 5) rfl ((nI_add i 1)) (by decide) rfl (fun ls hl => ?_)
              refine lv_goto (tgt := 28) hx hb dX6_fit_129 (by decide) ?_
              have hP : va_P D vwCl (wM cI cC cZ cS a (va_up F 0 (upd (F 0) 0 0)) tc) H := hP
              have hD : va_D A (wM cI cC cZ cS a (va_up F 0 (upd (F 0) 0 0)) tc) := hD
              exact ih28 (i + 1) (ft + 1) (nI i) (ina &&& (nI i)) (by omega) (by omega) hres _ _ hP hD hS ls (lv_sub hl [4, 5, 1, 3, 2, 0] rfl)
    have hP : va_P D vwCl (wM cI cC cZ cS a (va_up F 0 (upd (F 0) 0 0)) tc) _ := hP
    have hD : va_D A (wM cI cC cZ cS a (va_up F 0 (upd (F 0) 0 0)) tc) := hD
    exact loop28 33 0 0 (-9) 31 (by omega) (Nat.zero_le _) hres _ _ hP hD hS ls (lv_sub hl [4, 5, 3, 2, 1, 0] rfl)
  · skip
    rw [if_pos c_1] at hres
    refine lv_iconst (v := (-1)) hx hb dX6_fit_14 (by decide) ?_
    rw [hres]
    exact W.iret (v := (-1)) hx hb hr (fun t ht hW => ⟨rfl, by rw [ht]; exact hP, by rw [hA]; exact hS.F ht⟩) hS.2.2 dX6_fit_15
