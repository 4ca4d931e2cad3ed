theorem tk_ok {f tx : Nat → Int32} {is : Int32} {len : Nat} (h : PX f len) : PX (d_X6_takes f tx is len).2 len ∧ (f 6).toNatClampNeg ≤ ((d_X6_takes f tx is len).2 6).toNatClampNeg := by
  rw [d_X6_takes]
  split
  · exact ⟨h, Nat.le_refl _⟩
  · split
    · obtain ⟨h1, h2, h3, h4⟩ := h
      exact ⟨⟨h1.far (by decide) (by decide) _, h2, h3, h4⟩, Nat.le_refl _⟩
    · obtain ⟨a1, a2, a3⟩ := adv_ok (tx := tx) h.1
      exact ⟨a1, Nat.le_trans h.2.2.1 a2⟩
theorem nb_ok {f tx : Nat → Int32} {lo hi : Int32} {len : Nat} (h : PX f len) : PX (d_X6_number f tx lo hi len).2 len ∧ (f 6).toNatClampNeg ≤ ((d_X6_number f tx lo hi len).2 6).toNatClampNeg := by
  rw [d_X6_number]
  split
  · split
    · exact tk_ok h
    · exact tk_ok h
  · exact tk_ok h
theorem PX.far {f : Nat → Int32} {len : Nat} (h : PX f len) {k : Nat} (hk : k = 10 ∨ k = 14) (x : Int32) : PX (upd f k x) len := by
  obtain ⟨h1, h2, h3, h4⟩ := h
  rcases hk with rfl | rfl
  · exact ⟨h1.far (by decide) (by decide) x, h2, h3, h4⟩
  · exact ⟨h1.far (by decide) (by decide) x, h2, h3, h4⟩

def d_X6_readsItem (F : Nat → Nat → Int32) (what : Int32) (len : Nat) (kk : Nat) : (Nat → Nat → Int32) :=
  if what = (116 : Int32) then
      (va_up (va_up (va_up (va_up (va_up F 0 (upd ((d_X6_number ((d_X6_number ((d_X6_number ((d_X6_number (F 0) (F 1) 0 31 len).2) (F 1) 0 99 len).2) (F 1) 0 9 len).2) (F 1) 0 1 len).2) 14 ((((d_X6_number ((d_X6_number ((d_X6_number (F 0) (F 1) 0 31 len).2) (F 1) 0 99 len).2) (F 1) 0 9 len).2) 14) ||| (((d_X6_number ((d_X6_number ((d_X6_number ((d_X6_number (F 0) (F 1) 0 31 len).2) (F 1) 0 99 len).2) (F 1) 0 9 len).2) (F 1) 0 1 len).1) <<< ((nI kk) &&& 31))))) 2 (upd (F 2) 5 ((nI kk) + (1 : Int32)))) 3 (upd (F 3) (7 + kk) ((d_X6_number (F 0) (F 1) 0 31 len).1))) 4 (upd (F 4) (7 + kk) ((d_X6_number ((d_X6_number (F 0) (F 1) 0 31 len).2) (F 1) 0 99 len).1))) 5 (upd (F 5) (7 + kk) ((d_X6_number ((d_X6_number ((d_X6_number (F 0) (F 1) 0 31 len).2) (F 1) 0 99 len).2) (F 1) 0 9 len).1)))
    else
      if what = (118 : Int32) then
        (va_up (va_up F 0 (upd ((d_X6_number (F 0) (F 1) 0 31 len).2) 10 ((((d_X6_number (F 0) (F 1) 0 31 len).2) 10) ||| (1 : Int32)))) 2 (upd (F 2) 9 ((d_X6_number (F 0) (F 1) 0 31 len).1)))
      else
        (va_up (va_up F 0 (upd ((d_X6_number ((d_X6_number ((d_X6_number (F 0) (F 1) 0 10 len).2) (F 1) 0 ((10 : Int32) - ((d_X6_number (F 0) (F 1) 0 10 len).1)) len).2) (F 1) 0 999 len).2) 10 ((((d_X6_number ((d_X6_number ((d_X6_number (F 0) (F 1) 0 10 len).2) (F 1) 0 ((10 : Int32) - ((d_X6_number (F 0) (F 1) 0 10 len).1)) len).2) (F 1) 0 999 len).2) 10) ||| (2 : Int32)))) 2 (upd (upd (upd (F 2) 6 ((d_X6_number (F 0) (F 1) 0 10 len).1)) 7 ((d_X6_number ((d_X6_number (F 0) (F 1) 0 10 len).2) (F 1) 0 ((10 : Int32) - ((d_X6_number (F 0) (F 1) 0 10 len).1)) len).1)) 8 ((d_X6_number ((d_X6_number ((d_X6_number (F 0) (F 1) 0 10 len).2) (F 1) 0 ((10 : Int32) - ((d_X6_number (F 0) (F 1) 0 10 len).1)) len).2) (F 1) 0 999 len).1)))
set_option maxHeartbeats 4000000 in
set_option maxRecDepth 100000 in
theorem c_X6_readsItem (l : Launch) (D : va_G) (cI cC cZ cS : ClassId) (a : Nat → Nat) (F : Nat → Nat → Int32) (tc : Int64) (what : Int32) (len : Nat) (kk : Nat) (hpx : PX (F 0) len) (hkk : F 2 5 = nI kk) (hk7 : what = 116 → kk < 7) : Met l yX6_readsItem wsX6_readsItem { frames := 4, cells := 0, slots := 0, locals := 87 } (PcE D cI cC cZ cS [.ref (a 0), .int what] (wM cI cC cZ cS a F tc)) (QcM none D (wM cI cC cZ cS a F tc) (wM cI cC cZ cS a (d_X6_readsItem F what len kk) tc)) 0 0 (inW (wM cI cC cZ cS a F tc)) := by
  refine Met.ofW (cc := cX6_readsItem) (maxL := 3) (ret := none) (by decide) rfl ?_
  intro p e s m args below meth c s₁ B hml hv
  obtain ⟨rfl, hP, hD, hE⟩ := hv
  have hK := hE.1
  have hx := B.exec
  have hb := B.bytes
  have hr := B.returns
  have hts := atoms_spec (ws := wsX6_readsItem) B.pre
  have hown : s.vm.findClass RX6 = some m.cls := findClass_of_methodNamed B.named
  have hlocks := B.notSynchronized
  have hinX6 : ∀ w ∈ wsX60, w ∈ wsX6_readsItem := by decide +kernel
  have hD := inW_self hD
  have hS : va_S (inW (wM cI cC cZ cS a F tc)) s.heap s.heap [] := va_S.rf
  generalize hA : inW (wM cI cC cZ cS a F tc) = A at hD hS ⊢
  refine opq (d_X6_readsItem F what len kk) (fun R hres => ?_)
  rw [hres]
  replace hres := hres.symm
  rw [d_X6_readsItem] at hres
  have hl := lv_entry ([.ref (a 0), .int what]) (n := 3) (Nat.le_of_ble_eq_true rfl)
  rw [lg_entry_eq]
  generalize (lg_sl ([.ref (a 0), .int what]) ++ List.replicate (3 - (lg_sl ([.ref (a 0), .int what])).length) Slot.unset).toArray = ls at hl ⊢
  have hl : lv_has ls 3 [(0, .ref (a 0)), (1, .int what)] := hl
  refine lv_iload_n hx hb dX6_readsItem_0 rfl (lv_at hl 1 rfl) ?_
  refine lv_bipush (v := 116) hx hb dX6_readsItem_1 (by decide) ?_
  refine lv_icmp_ne (tgt := 90) hx hb dX6_readsItem_3 (by decide) (fun c_1 => ?_) (fun c_1 => ?_)
  · skip
    rw [if_neg c_1] at hres
    refine lv_iload_n hx hb dX6_readsItem_90 rfl (lv_at hl 1 rfl) ?_
    refine lv_bipush (v := 118) hx hb dX6_readsItem_91 (by decide) ?_
    refine lv_icmp_ne (tgt := 123) hx hb dX6_readsItem_93 (by decide) (fun c_2 => ?_) (fun c_2 => ?_)
    · skip
      rw [if_neg c_2] at hres
      refine lv_aload_n hx hb dX6_readsItem_123 rfl (lv_at hl 0 rfl) ?_
      refine va_get (D := D) (ci := 6) (v := .ref (a 2)) (C := RX6) (T := TX6) (N := 26) hx hb hts hinX6 hown hK hP 0 rfl rfl 9 (by decide) (hts (.fieldLink RX6 13 "FirstOutModel" "many" "[I") (by decide +kernel)) (fun _ h9 => h9) rfl dX6_readsItem_124 ?_
      refine lv_bipush (v := 6) hx hb dX6_readsItem_127 (by decide) ?_
      refine lv_aload_n hx hb dX6_readsItem_129 rfl (lv_at hl 0 rfl) ?_
      refine lv_iconst (v := 0) hx hb dX6_readsItem_130 (by decide) ?_
      refine lv_bipush (v := 10) hx hb dX6_readsItem_131 (by decide) ?_
      have hPc := hP.sub (ws' := (wMt cI cC cZ cS a (F 0) (F 1) tc)) [0, 1] rfl
      have hDc := hD.sub (ws' := (wMt cI cC cZ cS a (F 0) (F 1) tc)) [0, 1] (by decide) rfl
      refine m_callM (W.runV (As := [.int 0, .int 10]) (rest := [.int 6, .ref (a 2)]) ⟨hx, hb, hml, hown, hts⟩ (c_X6_number l D cI cC cZ cS a (F 0) (F 1) tc 0 10 len hpx.1) (cwV 2 hts gX6_readsItem_X6_number rfl rfl rfl (by decide +kernel) ⟨Nat.le_of_ble_eq_true rfl, Nat.le_of_ble_eq_true rfl⟩) (preV_of hPc hDc hE (va_recv hK hPc (ci := 6) (q0 := 0) rfl rfl)) rfl rfl hl.1 rfl (lv_room (Nat.le_of_ble_eq_true rfl)) dX6_readsItem_133 ⟨Nat.zero_le _, Nat.zero_le _⟩) hP hD hS [0, 1] rfl wMt_ad (fun H locs hP hD hS => ?_)
      have hP : va_P D vwCl (wM cI cC cZ cS a (va_up F 0 ((d_X6_number (F 0) (F 1) 0 10 len).2)) tc) H := hP
      have hD : va_D A (wM cI cC cZ cS a (va_up F 0 ((d_X6_number (F 0) (F 1) 0 10 len).2)) tc) := hD
      refine W.eq (g2 := F0 m 136 ls [.int ((d_X6_number (F 0) (F 1) 0 10 len).1), .int 6, .ref (a 2)]) rfl ?_
      have hp133_0 : PX (d_X6_number (F 0) (F 1) 0 10 len).2 len := (nb_ok hpx).1
      refine opq (d_X6_number (F 0) (F 1) 0 10 len) (fun r_3 hr_3 => ?_)
      try rw [hr_3] at hP
      try rw [hr_3] at hD
      try rw [hr_3] at hres
      try rw [hr_3] at hp133_0
      try rw [hr_3]
      refine m_iast hx hb hK hP hD hS 2 0 rfl rfl 6 rfl (by decide) (by decide) dX6_readsItem_136 (fun H locs hP hD hS => ?_)
      have hP : va_P D vwCl (wM cI cC cZ cS a (va_up (va_up F 0 r_3.2) 2 (upd (F 2) 6 r_3.1)) tc) H := hP
      have hD : va_D A (wM cI cC cZ cS a (va_up (va_up F 0 r_3.2) 2 (upd (F 2) 6 r_3.1)) tc) := hD
      refine lv_aload_n hx hb dX6_readsItem_137 rfl (lv_at hl 0 rfl) ?_
      refine va_get (D := D) (ci := 6) (v := .ref (a 2)) (C := RX6) (T := TX6) (N := 26) hx hb hts hinX6 hown hK hP 0 rfl rfl 9 (by decide) (hts (.fieldLink RX6 13 "FirstOutModel" "many" "[I") (by decide +kernel)) (fun _ h9 => h9) rfl dX6_readsItem_138 ?_
      refine lv_bipush (v := 7) hx hb dX6_readsItem_141 (by decide) ?_
      refine lv_aload_n hx hb dX6_readsItem_143 rfl (lv_at hl 0 rfl) ?_
      refine lv_iconst (v := 0) hx hb dX6_readsItem_144 (by decide) ?_
      refine lv_bipush (v := 10) hx hb dX6_readsItem_145 (by decide) ?_
      refine lv_aload_n hx hb dX6_readsItem_147 rfl (lv_at hl 0 rfl) ?_
      refine va_get (D := D) (ci := 6) (v := .ref (a 2)) (C := RX6) (T := TX6) (N := 26) hx hb hts hinX6 hown hK hP 0 rfl rfl 9 (by decide) (hts (.fieldLink RX6 13 "FirstOutModel" "many" "[I") (by decide +kernel)) (fun _ h9 => h9) rfl dX6_readsItem_148 ?_
      refine lv_bipush (v := 6) hx hb dX6_readsItem_151 (by decide) ?_
      refine m_iald hx hb hK hP 2 0 rfl rfl 6 rfl (by decide) (by decide) dX6_readsItem_153 ?_
      refine lv_to (show _ = r_3.1 from rfl) ?_
      refine lv_isub hx hb dX6_readsItem_154 ?_
      have hPc := hP.sub (ws' := (wMt cI cC cZ cS a r_3.2 (F 1) tc)) [0, 1] rfl
      have hDc := hD.sub (ws' := (wMt cI cC cZ cS a r_3.2 (F 1) tc)) [0, 1] (by decide) rfl
      refine m_callM (W.runV (As := [.int 0, .int ((10 : Int32) - r_3.1)]) (rest := [.int 7, .ref (a 2)]) ⟨hx, hb, hml, hown, hts⟩ (c_X6_number l D cI cC cZ cS a r_3.2 (F 1) tc 0 ((10 : Int32) - r_3.1) len hp133_0.1) (cwV 2 hts gX6_readsItem_X6_number rfl rfl rfl (by decide +kernel) ⟨Nat.le_of_ble_eq_true rfl, Nat.le_of_ble_eq_true rfl⟩) (preV_of hPc hDc hE (va_recv hK hPc (ci := 6) (q0 := 0) rfl rfl)) rfl rfl hl.1 rfl (lv_room (Nat.le_of_ble_eq_true rfl)) dX6_readsItem_155 ⟨Nat.zero_le _, Nat.zero_le _⟩) hP hD hS [0, 1] rfl wMt_ad (fun H locs hP hD hS => ?_)
      have hP : va_P D vwCl (wM cI cC cZ cS a (va_up (va_up F 0 ((d_X6_number r_3.2 (F 1) 0 ((10 : Int32) - r_3.1) len).2)) 2 (upd (F 2) 6 r_3.1)) tc) H := hP
      have hD : va_D A (wM cI cC cZ cS a (va_up (va_up F 0 ((d_X6_number r_3.2 (F 1) 0 ((10 : Int32) - r_3.1) len).2)) 2 (upd (F 2) 6 r_3.1)) tc) := hD
      refine W.eq (g2 := F0 m 158 ls [.int ((d_X6_number r_3.2 (F 1) 0 ((10 : Int32) - r_3.1) len).1), .int 7, .ref (a 2)]) rfl ?_
      have hp155_1 : PX (d_X6_number r_3.2 (F 1) 0 ((10 : Int32) - r_3.1) len).2 len := (nb_ok hp133_0).1
      refine opq (d_X6_number r_3.2 (F 1) 0 ((10 : Int32) - r_3.1) len) (fun r_4 hr_4 => ?_)
      try rw [hr_4] at hP
      try rw [hr_4] at hD
      try rw [hr_4] at hres
      try rw [hr_4] at hp155_1
      try rw [hr_4]
      refine m_iast hx hb hK hP hD hS 2 0 rfl rfl 7 rfl (by decide) (by decide) dX6_readsItem_158 (fun H locs hP hD hS => ?_)
      have hP : va_P D vwCl (wM cI cC cZ cS a (va_up (va_up F 0 r_4.2) 2 (upd (upd (F 2) 6 r_3.1) 7 r_4.1)) tc) H := hP
      have hD : va_D A (wM cI cC cZ cS a (va_up (va_up F 0 r_4.2) 2 (upd (upd (F 2) 6 r_3.1) 7 r_4.1)) tc) := hD
      refine lv_aload_n hx hb dX6_readsItem_159 rfl (lv_at hl 0 rfl) ?_
      refine va_get (D := D) (ci := 6) (v := .ref (a 2)) (C := RX6) (T := TX6) (N := 26) hx hb hts hinX6 hown hK hP 0 rfl rfl 9 (by decide) (hts (.fieldLink RX6 13 "FirstOutModel" "many" "[I") (by decide +kernel)) (fun _ h9 => h9) rfl dX6_readsItem_160 ?_
      refine lv_bipush (v := 8) hx hb dX6_readsItem_163 (by decide) ?_
      refine lv_aload_n hx hb dX6_readsItem_165 rfl (lv_at hl 0 rfl) ?_
      refine lv_iconst (v := 0) hx hb dX6_readsItem_166 (by decide) ?_
      refine lv_sipush (v := 999) hx hb dX6_readsItem_167 (by decide) ?_
      have hPc := hP.sub (ws' := (wMt cI cC cZ cS a r_4.2 (F 1) tc)) [0, 1] rfl
      have hDc := hD.sub (ws' := (wMt cI cC cZ cS a r_4.2 (F 1) tc)) [0, 1] (by decide) rfl
      refine m_callM (W.runV (As := [.int 0, .int 999]) (rest := [.int 8, .ref (a 2)]) ⟨hx, hb, hml, hown, hts⟩ (c_X6_number l D cI cC cZ cS a r_4.2 (F 1) tc 0 999 len hp155_1.1) (cwV 2 hts gX6_readsItem_X6_number rfl rfl rfl (by decide +kernel) ⟨Nat.le_of_ble_eq_true rfl, Nat.le_of_ble_eq_true rfl⟩) (preV_of hPc hDc hE (va_recv hK hPc (ci := 6) (q0 := 0) rfl rfl)) rfl rfl hl.1 rfl (lv_room (Nat.le_of_ble_eq_true rfl)) dX6_readsItem_170 ⟨Nat.zero_le _, Nat.zero_le _⟩) hP hD hS [0, 1] rfl wMt_ad (fun H locs hP hD hS => ?_)
      have hP : va_P D vwCl (wM cI cC cZ cS a (va_up (va_up F 0 ((d_X6_number r_4.2 (F 1) 0 999 len).2)) 2 (upd (upd (F 2) 6 r_3.1) 7 r_4.1)) tc) H := hP
      have hD : va_D A (wM cI cC cZ cS a (va_up (va_up F 0 ((d_X6_number r_4.2 (F 1) 0 999 len).2)) 2 (upd (upd (F 2) 6 r_3.1) 7 r_4.1)) tc) := hD
      refine W.eq (g2 := F0 m 173 ls [.int ((d_X6_number r_4.2 (F 1) 0 999 len).1), .int 8, .ref (a 2)]) rfl ?_
      have hp170_2 : PX (d_X6_number r_4.2 (F 1) 0 999 len).2 len := (nb_ok hp155_1).1
      refine opq (d_X6_number r_4.2 (F 1) 0 999 len) (fun r_5 hr_5 => ?_)
      try rw [hr_5] at hP
      try rw [hr_5] at hD
      try rw [hr_5] at hres
      try rw [hr_5] at hp170_2
      try rw [hr_5]
      refine m_iast hx hb hK hP hD hS 2 0 rfl rfl 8 rfl (by decide) (by decide) dX6_readsItem_173 (fun H locs hP hD hS => ?_)
      have hP : va_P D vwCl (wM cI cC cZ cS a (va_up (va_up F 0 r_5.2) 2 (upd (upd (upd (F 2) 6 r_3.1) 7 r_4.1) 8 r_5.1)) tc) H := hP
      have hD : va_D A (wM cI cC cZ cS a (va_up (va_up F 0 r_5.2) 2 (upd (upd (upd (F 2) 6 r_3.1) 7 r_4.1) 8 r_5.1)) tc) := hD
      refine lv_aload_n hx hb dX6_readsItem_174 rfl (lv_at hl 0 rfl) ?_
      refine lv_dup hx hb dX6_readsItem_175 rfl ?_
      refine va_get (D := D) (ci := 6) (v := .int (r_5.2 10)) (C := RX6) (T := TX6) (N := 26) hx hb hts hinX6 hown hK hP 0 rfl rfl 10 (by decide) (hts (.fieldLink RX6 94 "FirstOutModel" "told" "I") (by decide +kernel)) (fun _ h9 => h9) rfl dX6_readsItem_176 ?_
      refine lv_iconst (v := 2) hx hb dX6_readsItem_179 (by decide) ?_
      refine lv_ior hx hb dX6_readsItem_180 ?_
      refine va_put (D := D) (ci := 6) (v := .int ((r_5.2 10) ||| (2 : Int32))) (ty := .int) (C := RX6) (T := TX6) (N := 26) hx hb hts hinX6 tyX6 tyX6_ok nmX6 hown hK hP hD hS 0 rfl rfl 10 (by decide) (hts (.fieldLink RX6 94 "FirstOutModel" "told" "I") (by decide +kernel)) (fun _ h9 => h9) rfl (by decide +kernel) rfl rfl (Nat.le_of_ble_eq_true rfl) dX6_readsItem_181 (fun H locs hP hD hS => ?_)
      have hP : va_P D vwCl (wM cI cC cZ cS a (va_up (va_up F 0 (upd r_5.2 10 ((r_5.2 10) ||| (2 : Int32)))) 2 (upd (upd (upd (F 2) 6 r_3.1) 7 r_4.1) 8 r_5.1)) tc) H := hP
      have hD : va_D A (wM cI cC cZ cS a (va_up (va_up F 0 (upd r_5.2 10 ((r_5.2 10) ||| (2 : Int32)))) 2 (upd (upd (upd (F 2) 6 r_3.1) 7 r_4.1) 8 r_5.1)) tc) := hD
      rw [hres]
      exact W.vret hx hb hr (fun t ht hW => ⟨rfl, by rw [ht]; exact hP, by rw [hA]; exact hS.F ht⟩) hS.2.2 dX6_readsItem_184
    · skip
      rw [if_pos c_2] at hres
      refine lv_aload_n hx hb dX6_readsItem_96 rfl (lv_at hl 0 rfl) ?_
      refine va_get (D := D) (ci := 6) (v := .ref (a 2)) (C := RX6) (T := TX6) (N := 26) hx hb hts hinX6 hown hK hP 0 rfl rfl 9 (by decide) (hts (.fieldLink RX6 13 "FirstOutModel" "many" "[I") (by decide +kernel)) (fun _ h9 => h9) rfl dX6_readsItem_97 ?_
      refine lv_bipush (v := 9) hx hb dX6_readsItem_100 (by decide) ?_
      refine lv_aload_n hx hb dX6_readsItem_102 rfl (lv_at hl 0 rfl) ?_
      refine lv_iconst (v := 0) hx hb dX6_readsItem_103 (by decide) ?_
      refine lv_bipush (v := 31) hx hb dX6_readsItem_104 (by decide) ?_
      have hPc := hP.sub (ws' := (wMt cI cC cZ cS a (F 0) (F 1) tc)) [0, 1] rfl
      have hDc := hD.sub (ws' := (wMt cI cC cZ cS a (F 0) (F 1) tc)) [0, 1] (by decide) rfl
      refine m_callM (W.runV (As := [.int 0, .int 31]) (rest := [.int 9, .ref (a 2)]) ⟨hx, hb, hml, hown, hts⟩ (c_X6_number l D cI cC cZ cS a (F 0) (F 1) tc 0 31 len hpx.1) (cwV 2 hts gX6_readsItem_X6_number rfl rfl rfl (by decide +kernel) ⟨Nat.le_of_ble_eq_true rfl, Nat.le_of_ble_eq_true rfl⟩) (preV_of hPc hDc hE (va_recv hK hPc (ci := 6) (q0 := 0) rfl rfl)) rfl rfl hl.1 rfl (lv_room (Nat.le_of_ble_eq_true rfl)) dX6_readsItem_106 ⟨Nat.zero_le _, Nat.zero_le _⟩) hP hD hS [0, 1] rfl wMt_ad (fun H locs hP hD hS => ?_)
      have hP : va_P D vwCl (wM cI cC cZ cS a (va_up F 0 ((d_X6_number (F 0) (F 1) 0 31 len).2)) tc) H := hP
      have hD : va_D A (wM cI cC cZ cS a (va_up F 0 ((d_X6_number (F 0) (F 1) 0 31 len).2)) tc) := hD
      refine W.eq (g2 := F0 m 109 ls [.int ((d_X6_number (F 0) (F 1) 0 31 len).1), .int 9, .ref (a 2)]) rfl ?_
      have hp106_0 : PX (d_X6_number (F 0) (F 1) 0 31 len).2 len := (nb_ok hpx).1
      refine opq (d_X6_number (F 0) (F 1) 0 31 len) (fun r_6 hr_6 => ?_)
      try rw [hr_6] at hP
      try rw [hr_6] at hD
      try rw [hr_6] at hres
      try rw [hr_6] at hp106_0
      try rw [hr_6]
      refine m_iast hx hb hK hP hD hS 2 0 rfl rfl 9 rfl (by decide) (by decide) dX6_readsItem_109 (fun H locs hP hD hS => ?_)
      have hP : va_P D vwCl (wM cI cC cZ cS a (va_up (va_up F 0 r_6.2) 2 (upd (F 2) 9 r_6.1)) tc) H := hP
      have hD : va_D A (wM cI cC cZ cS a (va_up (va_up F 0 r_6.2) 2 (upd (F 2) 9 r_6.1)) tc) := hD
      refine lv_aload_n hx hb dX6_readsItem_110 rfl (lv_at hl 0 rfl) ?_
      refine lv_dup hx hb dX6_readsItem_111 rfl ?_
      refine va_get (D := D) (ci := 6) (v := .int (r_6.2 10)) (C := RX6) (T := TX6) (N := 26) hx hb hts hinX6 hown hK hP 0 rfl rfl 10 (by decide) (hts (.fieldLink RX6 94 "FirstOutModel" "told" "I") (by decide +kernel)) (fun _ h9 => h9) rfl dX6_readsItem_112 ?_
      refine lv_iconst (v := 1) hx hb dX6_readsItem_115 (by decide) ?_
      refine lv_ior hx hb dX6_readsItem_116 ?_
      refine va_put (D := D) (ci := 6) (v := .int ((r_6.2 10) ||| (1 : Int32))) (ty := .int) (C := RX6) (T := TX6) (N := 26) hx hb hts hinX6 tyX6 tyX6_ok nmX6 hown hK hP hD hS 0 rfl rfl 10 (by decide) (hts (.fieldLink RX6 94 "FirstOutModel" "told" "I") (by decide +kernel)) (fun _ h9 => h9) rfl (by decide +kernel) rfl rfl (Nat.le_of_ble_eq_true rfl) dX6_readsItem_117 (fun H locs hP hD hS => ?_)
      have hP : va_P D vwCl (wM cI cC cZ cS a (va_up (va_up F 0 (upd r_6.2 10 ((r_6.2 10) ||| (1 : Int32)))) 2 (upd (F 2) 9 r_6.1)) tc) H := hP
      have hD : va_D A (wM cI cC cZ cS a (va_up (va_up F 0 (upd r_6.2 10 ((r_6.2 10) ||| (1 : Int32)))) 2 (upd (F 2) 9 r_6.1)) tc) := hD
      refine lv_goto (tgt := 184) hx hb dX6_readsItem_120 (by decide) ?_
      rw [hres]
      exact W.vret hx hb hr (fun t ht hW => ⟨rfl, by rw [ht]; exact hP, by rw [hA]; exact hS.F ht⟩) hS.2.2 dX6_readsItem_184
  · skip
    rw [if_pos c_1] at hres
    have hlt := hk7 c_1
    refine lv_bipush (v := 7) hx hb dX6_readsItem_6 (by decide) ?_
    refine lv_aload_n hx hb dX6_readsItem_8 rfl (lv_at hl 0 rfl) ?_
    refine va_get (D := D) (ci := 6) (v := .ref (a 2)) (C := RX6) (T := TX6) (N := 26) hx hb hts hinX6 hown hK hP 0 rfl rfl 9 (by decide) (hts (.fieldLink RX6 13 "FirstOutModel" "many" "[I") (by decide +kernel)) (fun _ h9 => h9) rfl dX6_readsItem_9 ?_
    refine lv_iconst (v := 5) hx hb dX6_readsItem_12 (by decide) ?_
    refine m_iald hx hb hK hP 2 0 rfl rfl 5 rfl (by decide) (by decide) dX6_readsItem_13 ?_
    refine lv_to (show _ = (F 2 5) from rfl) ?_
    refine lv_to (show (F 2 5) = nI kk from hkk) ?_
    refine lv_iadd hx hb dX6_readsItem_14 ?_
    refine lv_to (show ((7 : Int32) + (nI kk)) = nI (7 + kk) from (nI_add 7 kk)) ?_
    refine lv_istore_n (lv' := [(2, .int (nI (7 + kk))), (0, .ref (a 0)), (1, .int what)]) hx hb dX6_readsItem_15 rfl hl (by decide) rfl (fun ls hl => ?_)
    refine lv_aload_n hx hb dX6_readsItem_16 rfl (lv_at hl 1 rfl) ?_
    refine va_get (D := D) (ci := 6) (v := .ref (a 3)) (C := RX6) (T := TX6) (N := 26) hx hb hts hinX6 hown hK hP 0 rfl rfl 11 (by decide) (hts (.fieldLink RX6 16 "FirstOutModel" "traits" "[I") (by decide +kernel)) (fun _ h9 => h9) rfl dX6_readsItem_17 ?_
    refine lv_iload_n hx hb dX6_readsItem_20 rfl (lv_at hl 0 rfl) ?_
    refine lv_aload_n hx hb dX6_readsItem_21 rfl (lv_at hl 1 rfl) ?_
    refine lv_iconst (v := 0) hx hb dX6_readsItem_22 (by decide) ?_
    refine lv_bipush (v := 31) hx hb dX6_readsItem_23 (by decide) ?_
    have hPc := hP.sub (ws' := (wMt cI cC cZ cS a (F 0) (F 1) tc)) [0, 1] rfl
    have hDc := hD.sub (ws' := (wMt cI cC cZ cS a (F 0) (F 1) tc)) [0, 1] (by decide) rfl
    refine m_callM (W.runV (As := [.int 0, .int 31]) (rest := [.int (nI (7 + kk)), .ref (a 3)]) ⟨hx, hb, hml, hown, hts⟩ (c_X6_number l D cI cC cZ cS a (F 0) (F 1) tc 0 31 len hpx.1) (cwV 2 hts gX6_readsItem_X6_number rfl rfl rfl (by decide +kernel) ⟨Nat.le_of_ble_eq_true rfl, Nat.le_of_ble_eq_true rfl⟩) (preV_of hPc hDc hE (va_recv hK hPc (ci := 6) (q0 := 0) rfl rfl)) rfl rfl hl.1 rfl (lv_room (Nat.le_of_ble_eq_true rfl)) dX6_readsItem_25 ⟨Nat.zero_le _, Nat.zero_le _⟩) hP hD hS [0, 1] rfl wMt_ad (fun H locs hP hD hS => ?_)
    have hP : va_P D vwCl (wM cI cC cZ cS a (va_up F 0 ((d_X6_number (F 0) (F 1) 0 31 len).2)) tc) H := hP
    have hD : va_D A (wM cI cC cZ cS a (va_up F 0 ((d_X6_number (F 0) (F 1) 0 31 len).2)) tc) := hD
    refine W.eq (g2 := F0 m 28 ls [.int ((d_X6_number (F 0) (F 1) 0 31 len).1), .int (nI (7 + kk)), .ref (a 3)]) rfl ?_
    have hp25_0 : PX (d_X6_number (F 0) (F 1) 0 31 len).2 len := (nb_ok hpx).1
    refine opq (d_X6_number (F 0) (F 1) 0 31 len) (fun r_7 hr_7 => ?_)
    try rw [hr_7] at hP
    try rw [hr_7] at hD
    try rw [hr_7] at hres
    try rw [hr_7] at hp25_0
    try rw [hr_7]
    refine m_iast hx hb hK hP hD hS 3 0 rfl rfl (7 + kk) rfl (by omega) (by decide) dX6_readsItem_28 (fun H locs hP hD hS => ?_)
    have hP : va_P D vwCl (wM cI cC cZ cS a (va_up (va_up F 0 r_7.2) 3 (upd (F 3) (7 + kk) r_7.1)) tc) H := hP
    have hD : va_D A (wM cI cC cZ cS a (va_up (va_up F 0 r_7.2) 3 (upd (F 3) (7 + kk) r_7.1)) tc) := hD
    refine lv_aload_n hx hb dX6_readsItem_29 rfl (lv_at hl 1 rfl) ?_
    refine va_get (D := D) (ci := 6) (v := .ref (a 4)) (C := RX6) (T := TX6) (N := 26) hx hb hts hinX6 hown hK hP 0 rfl rfl 12 (by decide) (hts (.fieldLink RX6 19 "FirstOutModel" "dear" "[I") (by decide +kernel)) (fun _ h9 => h9) rfl dX6_readsItem_30 ?_
    refine lv_iload_n hx hb dX6_readsItem_33 rfl (lv_at hl 0 rfl) ?_
    refine lv_aload_n hx hb dX6_readsItem_34 rfl (lv_at hl 1 rfl) ?_
    refine lv_iconst (v := 0) hx hb dX6_readsItem_35 (by decide) ?_
    refine lv_bipush (v := 99) hx hb dX6_readsItem_36 (by decide) ?_
    have hPc := hP.sub (ws' := (wMt cI cC cZ cS a r_7.2 (F 1) tc)) [0, 1] rfl
    have hDc := hD.sub (ws' := (wMt cI cC cZ cS a r_7.2 (F 1) tc)) [0, 1] (by decide) rfl
    refine m_callM (W.runV (As := [.int 0, .int 99]) (rest := [.int (nI (7 + kk)), .ref (a 4)]) ⟨hx, hb, hml, hown, hts⟩ (c_X6_number l D cI cC cZ cS a r_7.2 (F 1) tc 0 99 len hp25_0.1) (cwV 2 hts gX6_readsItem_X6_number rfl rfl rfl (by decide +kernel) ⟨Nat.le_of_ble_eq_true rfl, Nat.le_of_ble_eq_true rfl⟩) (preV_of hPc hDc hE (va_recv hK hPc (ci := 6) (q0 := 0) rfl rfl)) rfl rfl hl.1 rfl (lv_room (Nat.le_of_ble_eq_true rfl)) dX6_readsItem_38 ⟨Nat.zero_le _, Nat.zero_le _⟩) hP hD hS [0, 1] rfl wMt_ad (fun H locs hP hD hS => ?_)
    have hP : va_P D vwCl (wM cI cC cZ cS a (va_up (va_up F 0 ((d_X6_number r_7.2 (F 1) 0 99 len).2)) 3 (upd (F 3) (7 + kk) r_7.1)) tc) H := hP
    have hD : va_D A (wM cI cC cZ cS a (va_up (va_up F 0 ((d_X6_number r_7.2 (F 1) 0 99 len).2)) 3 (upd (F 3) (7 + kk) r_7.1)) tc) := hD
    refine W.eq (g2 := F0 m 41 ls [.int ((d_X6_number r_7.2 (F 1) 0 99 len).1), .int (nI (7 + kk)), .ref (a 4)]) rfl ?_
    have hp38_1 : PX (d_X6_number r_7.2 (F 1) 0 99 len).2 len := (nb_ok hp25_0).1
    refine opq (d_X6_number r_7.2 (F 1) 0 99 len) (fun r_8 hr_8 => ?_)
    try rw [hr_8] at hP
    try rw [hr_8] at hD
    try rw [hr_8] at hres
    try rw [hr_8] at hp38_1
    try rw [hr_8]
    refine m_iast hx hb hK hP hD hS 4 0 rfl rfl (7 + kk) rfl (by omega) (by decide) dX6_readsItem_41 (fun H locs hP hD hS => ?_)
    have hP : va_P D vwCl (wM cI cC cZ cS a (va_up (va_up (va_up F 0 r_8.2) 3 (upd (F 3) (7 + kk) r_7.1)) 4 (upd (F 4) (7 + kk) r_8.1)) tc) H := hP
    have hD : va_D A (wM cI cC cZ cS a (va_up (va_up (va_up F 0 r_8.2) 3 (upd (F 3) (7 + kk) r_7.1)) 4 (upd (F 4) (7 + kk) r_8.1)) tc) := hD
    refine lv_aload_n hx hb dX6_readsItem_42 rfl (lv_at hl 1 rfl) ?_
    refine va_get (D := D) (ci := 6) (v := .ref (a 5)) (C := RX6) (T := TX6) (N := 26) hx hb hts hinX6 hown hK hP 0 rfl rfl 13 (by decide) (hts (.fieldLink RX6 22 "FirstOutModel" "eager" "[I") (by decide +kernel)) (fun _ h9 => h9) rfl dX6_readsItem_43 ?_
    refine lv_iload_n hx hb dX6_readsItem_46 rfl (lv_at hl 0 rfl) ?_
    refine lv_aload_n hx hb dX6_readsItem_47 rfl (lv_at hl 1 rfl) ?_
    refine lv_iconst (v := 0) hx hb dX6_readsItem_48 (by decide) ?_
    refine lv_bipush (v := 9) hx hb dX6_readsItem_49 (by decide) ?_
    have hPc := hP.sub (ws' := (wMt cI cC cZ cS a r_8.2 (F 1) tc)) [0, 1] rfl
    have hDc := hD.sub (ws' := (wMt cI cC cZ cS a r_8.2 (F 1) tc)) [0, 1] (by decide) rfl
    refine m_callM (W.runV (As := [.int 0, .int 9]) (rest := [.int (nI (7 + kk)), .ref (a 5)]) ⟨hx, hb, hml, hown, hts⟩ (c_X6_number l D cI cC cZ cS a r_8.2 (F 1) tc 0 9 len hp38_1.1) (cwV 2 hts gX6_readsItem_X6_number rfl rfl rfl (by decide +kernel) ⟨Nat.le_of_ble_eq_true rfl, Nat.le_of_ble_eq_true rfl⟩) (preV_of hPc hDc hE (va_recv hK hPc (ci := 6) (q0 := 0) rfl rfl)) rfl rfl hl.1 rfl (lv_room (Nat.le_of_ble_eq_true rfl)) dX6_readsItem_51 ⟨Nat.zero_le _, Nat.zero_le _⟩) hP hD hS [0, 1] rfl wMt_ad (fun H locs hP hD hS => ?_)
    have hP : va_P D vwCl (wM cI cC cZ cS a (va_up (va_up (va_up F 0 ((d_X6_number r_8.2 (F 1) 0 9 len).2)) 3 (upd (F 3) (7 + kk) r_7.1)) 4 (upd (F 4) (7 + kk) r_8.1)) tc) H := hP
    have hD : va_D A (wM cI cC cZ cS a (va_up (va_up (va_up F 0 ((d_X6_number r_8.2 (F 1) 0 9 len).2)) 3 (upd (F 3) (7 + kk) r_7.1)) 4 (upd (F 4) (7 + kk) r_8.1)) tc) := hD
    refine W.eq (g2 := F0 m 54 ls [.int ((d_X6_number r_8.2 (F 1) 0 9 len).1), .int (nI (7 + kk)), .ref (a 5)]) rfl ?_
    have hp51_2 : PX (d_X6_number r_8.2 (F 1) 0 9 len).2 len := (nb_ok hp38_1).1
    refine opq (d_X6_number r_8.2 (F 1) 0 9 len) (fun r_9 hr_9 => ?_)
    try rw [hr_9] at hP
    try rw [hr_9] at hD
    try rw [hr_9] at hres
    try rw [hr_9] at hp51_2
    try rw [hr_9]
    refine m_iast hx hb hK hP hD hS 5 0 rfl rfl (7 + kk) rfl (by omega) (by decide) dX6_readsItem_54 (fun H locs hP hD hS => ?_)
    have hP : va_P D vwCl (wM cI cC cZ cS a (va_up (va_up (va_up (va_up F 0 r_9.2) 3 (upd (F 3) (7 + kk) r_7.1)) 4 (upd (F 4) (7 + kk) r_8.1)) 5 (upd (F 5) (7 + kk) r_9.1)) tc) H := hP
    have hD : va_D A (wM cI cC cZ cS a (va_up (va_up (va_up (va_up F 0 r_9.2) 3 (upd (F 3) (7 + kk) r_7.1)) 4 (upd (F 4) (7 + kk) r_8.1)) 5 (upd (F 5) (7 + kk) r_9.1)) tc) := hD
    refine lv_aload_n hx hb dX6_readsItem_55 rfl (lv_at hl 1 rfl) ?_
    refine lv_dup hx hb dX6_readsItem_56 rfl ?_
    refine va_get (D := D) (ci := 6) (v := .int (r_9.2 14)) (C := RX6) (T := TX6) (N := 26) hx hb hts hinX6 hown hK hP 0 rfl rfl 14 (by decide) (hts (.fieldLink RX6 97 "FirstOutModel" "knowing" "I") (by decide +kernel)) (fun _ h9 => h9) rfl dX6_readsItem_57 ?_
    refine lv_aload_n hx hb dX6_readsItem_60 rfl (lv_at hl 1 rfl) ?_
    refine lv_iconst (v := 0) hx hb dX6_readsItem_61 (by decide) ?_
    refine lv_iconst (v := 1) hx hb dX6_readsItem_62 (by decide) ?_
    have hPc := hP.sub (ws' := (wMt cI cC cZ cS a r_9.2 (F 1) tc)) [0, 1] rfl
    have hDc := hD.sub (ws' := (wMt cI cC cZ cS a r_9.2 (F 1) tc)) [0, 1] (by decide) rfl
    refine m_callM (W.runV (As := [.int 0, .int 1]) (rest := [.int (r_9.2 14), .ref (a 0)]) ⟨hx, hb, hml, hown, hts⟩ (c_X6_number l D cI cC cZ cS a r_9.2 (F 1) tc 0 1 len hp51_2.1) (cwV 2 hts gX6_readsItem_X6_number rfl rfl rfl (by decide +kernel) ⟨Nat.le_of_ble_eq_true rfl, Nat.le_of_ble_eq_true rfl⟩) (preV_of hPc hDc hE (va_recv hK hPc (ci := 6) (q0 := 0) rfl rfl)) rfl rfl hl.1 rfl (lv_room (Nat.le_of_ble_eq_true rfl)) dX6_readsItem_63 ⟨Nat.zero_le _, Nat.zero_le _⟩) hP hD hS [0, 1] rfl wMt_ad (fun H locs hP hD hS => ?_)
    have hP : va_P D vwCl (wM cI cC cZ cS a (va_up (va_up (va_up (va_up F 0 ((d_X6_number r_9.2 (F 1) 0 1 len).2)) 3 (upd (F 3) (7 + kk) r_7.1)) 4 (upd (F 4) (7 + kk) r_8.1)) 5 (upd (F 5) (7 + kk) r_9.1)) tc) H := hP
    have hD : va_D A (wM cI cC cZ cS a (va_up (va_up (va_up (va_up F 0 ((d_X6_number r_9.2 (F 1) 0 1 len).2)) 3 (upd (F 3) (7 + kk) r_7.1)) 4 (upd (F 4) (7 + kk) r_8.1)) 5 (upd (F 5) (7 + kk) r_9.1)) tc) := hD
    refine W.eq (g2 := F0 m 66 ls [.int ((d_X6_number r_9.2 (F 1) 0 1 len).1), .int (r_9.2 14), .ref (a 0)]) rfl ?_
    have hp63_3 : PX (d_X6_number r_9.2 (F 1) 0 1 len).2 len := (nb_ok hp51_2).1
    refine opq (d_X6_number r_9.2 (F 1) 0 1 len) (fun r_10 hr_10 => ?_)
    try rw [hr_10] at hP
    try rw [hr_10] at hD
    try rw [hr_10] at hres
    try rw [hr_10] at hp63_3
    try rw [hr_10]
    refine lv_aload_n hx hb dX6_readsItem_66 rfl (lv_at hl 1 rfl) ?_
    refine va_get (D := D) (ci := 6) (v := .ref (a 2)) (C := RX6) (T := TX6) (N := 26) hx hb hts hinX6 hown hK hP 0 rfl rfl 9 (by decide) (hts (.fieldLink RX6 13 "FirstOutModel" "many" "[I") (by decide +kernel)) (fun _ h9 => h9) rfl dX6_readsItem_67 ?_
    refine lv_iconst (v := 5) hx hb dX6_readsItem_70 (by decide) ?_
    refine m_iald hx hb hK hP 2 0 rfl rfl 5 rfl (by decide) (by decide) dX6_readsItem_71 ?_
    refine lv_to (show _ = (F 2 5) from rfl) ?_
    refine lv_to (show (F 2 5) = nI kk from hkk) ?_
    refine lv_ishl hx hb dX6_readsItem_72 ?_
    refine lv_ior hx hb dX6_readsItem_73 ?_
    refine va_put (D := D) (ci := 6) (v := .int ((r_9.2 14) ||| (r_10.1 <<< ((nI kk) &&& 31)))) (ty := .int) (C := RX6) (T := TX6) (N := 26) hx hb hts hinX6 tyX6 tyX6_ok nmX6 hown hK hP hD hS 0 rfl rfl 14 (by decide) (hts (.fieldLink RX6 97 "FirstOutModel" "knowing" "I") (by decide +kernel)) (fun _ h9 => h9) rfl (by decide +kernel) rfl rfl (Nat.le_of_ble_eq_true rfl) dX6_readsItem_74 (fun H locs hP hD hS => ?_)
    have hP : va_P D vwCl (wM cI cC cZ cS a (va_up (va_up (va_up (va_up F 0 (upd r_10.2 14 ((r_9.2 14) ||| (r_10.1 <<< ((nI kk) &&& 31))))) 3 (upd (F 3) (7 + kk) r_7.1)) 4 (upd (F 4) (7 + kk) r_8.1)) 5 (upd (F 5) (7 + kk) r_9.1)) tc) H := hP
    have hD : va_D A (wM cI cC cZ cS a (va_up (va_up (va_up (va_up F 0 (upd r_10.2 14 ((r_9.2 14) ||| (r_10.1 <<< ((nI kk) &&& 31))))) 3 (upd (F 3) (7 + kk) r_7.1)) 4 (upd (F 4) (7 + kk) r_8.1)) 5 (upd (F 5) (7 + kk) r_9.1)) tc) := hD
    refine lv_aload_n hx hb dX6_readsItem_77 rfl (lv_at hl 1 rfl) ?_
    refine va_get (D := D) (ci := 6) (v := .ref (a 2)) (C := RX6) (T := TX6) (N := 26) hx hb hts hinX6 hown hK hP 0 rfl rfl 9 (by decide) (hts (.fieldLink RX6 13 "FirstOutModel" "many" "[I") (by decide +kernel)) (fun _ h9 => h9) rfl dX6_readsItem_78 ?_
    refine lv_iconst (v := 5) hx hb dX6_readsItem_81 (by decide) ?_
    refine lv_dup2_11 hx hb dX6_readsItem_82 rfl rfl ?_
    refine m_iald hx hb hK hP 2 0 rfl rfl 5 rfl (by decide) (by decide) dX6_readsItem_83 ?_
    refine lv_to (show _ = (F 2 5) from rfl) ?_
    refine lv_to (show (F 2 5) = nI kk from hkk) ?_
    refine lv_iconst (v := 1) hx hb dX6_readsItem_84 (by decide) ?_
    refine lv_iadd hx hb dX6_readsItem_85 ?_
    refine m_iast hx hb hK hP hD hS 2 0 rfl rfl 5 rfl (by decide) (by decide) dX6_readsItem_86 (fun H locs hP hD hS => ?_)
    have hP : va_P D vwCl (wM cI cC cZ cS a (va_up (va_up (va_up (va_up (va_up F 0 (upd r_10.2 14 ((r_9.2 14) ||| (r_10.1 <<< ((nI kk) &&& 31))))) 2 (upd (F 2) 5 ((nI kk) + (1 : Int32)))) 3 (upd (F 3) (7 + kk) r_7.1)) 4 (upd (F 4) (7 + kk) r_8.1)) 5 (upd (F 5) (7 + kk) r_9.1)) tc) H := hP
    have hD : va_D A (wM cI cC cZ cS a (va_up (va_up (va_up (va_up (va_up F 0 (upd r_10.2 14 ((r_9.2 14) ||| (r_10.1 <<< ((nI kk) &&& 31))))) 2 (upd (F 2) 5 ((nI kk) + (1 : Int32)))) 3 (upd (F 3) (7 + kk) r_7.1)) 4 (upd (F 4) (7 + kk) r_8.1)) 5 (upd (F 5) (7 + kk) r_9.1)) tc) := hD
    refine lv_goto (tgt := 184) hx hb dX6_readsItem_87 (by decide) ?_
    rw [hres]
    exact W.vret hx hb hr (fun t ht hW => ⟨rfl, by rw [ht]; exact hP, by rw [hA]; exact hS.F ht⟩) hS.2.2 dX6_readsItem_184
