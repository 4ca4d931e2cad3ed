theorem ix_le {x : Int32} {N : Nat} (h0 : ¬ x < 0) (h : x ≤ nI N) (hN : N < 2 ^ 31) : x = nI x.toNatClampNeg ∧ x.toNatClampNeg ≤ N := by
  obtain ⟨j, hj, rfl⟩ := nI_of h0
  rw [nI_leI hj hN] at h
  rw [nI_clamp hj]
  exact ⟨rfl, h⟩
theorem img1 {x : Int32} (h0 : ¬ x < 0) (h2 : x < 2) (c : ¬ x = 0) : x = 1 := by
  obtain ⟨j, hj, rfl⟩ := nI_of h0
  have h := (nI_ltI (b := 2) hj (by omega)).mp h2
  match j, h with
  | 0, _ => exact absurd rfl c
  | 1, _ => rfl

def d_X5_type (F : Nat → Nat → Int32) (letter : Int32) (len : Nat) : Int32 × (Nat → Nat → Int32) :=
  if letter < 0 then
      ((-1), F)
    else
      if letter ≤ (255 : Int32) then
        if ((d_X4_add (F 9) (F 10) letter len).1) = 0 then
          ((-3), (va_up (va_up F 9 ((d_X4_add (F 9) (F 10) letter len).2.1)) 10 ((d_X4_add (F 9) (F 10) letter len).2.2)))
        else
          ((((d_X4_add (F 9) (F 10) letter len).2.1) 1), (va_up (va_up F 9 ((d_X4_add (F 9) (F 10) letter len).2.1)) 10 ((d_X4_add (F 9) (F 10) letter len).2.2)))
      else
        ((-1), F)
set_option maxHeartbeats 4000000 in
set_option maxRecDepth 100000 in
theorem c_X5_type (l : Launch) (D : va_G) (cI cC cZ cS : ClassId) (a : Nat → Nat) (b : Nat → Nat) (F : Nat → Nat → Int32) (tc : Int64) (letter : Int32) (len : Nat) (hle : F 9 1 = nI len) (h200 : len ≤ 200) : Met l yX5_type wsX5_type { frames := 1, cells := 0, slots := 0, locals := 21 } (PcE D cI cC cZ cS [.ref (a 0), .int letter] (wF cI cC cZ cS a b F tc)) (QcM (some (.int ((d_X5_type F letter len).1))) D (wF cI cC cZ cS a b F tc) (wF cI cC cZ cS a b ((d_X5_type F letter len).2) tc)) 0 0 (inW (wF cI cC cZ cS a b F tc)) := by
  refine Met.ofW (cc := cX5_type) (maxL := 2) (ret := (some .int)) (by decide) rfl ?_
  intro p e s m args below meth c s₁ B hml hv
  obtain ⟨rfl, hP, hD, hE⟩ := hv
  have hK := hE.1
  have hx := B.exec
  have hb := B.bytes
  have hr := B.returns
  have hts := atoms_spec (ws := wsX5_type) B.pre
  have hown : s.vm.findClass RX5 = some m.cls := findClass_of_methodNamed B.named
  have hlocks := B.notSynchronized
  have hinX5 : ∀ w ∈ wsX50, w ∈ wsX5_type := by decide +kernel
  have hinX4 : ∀ w ∈ wsX40, w ∈ wsX5_type := by decide +kernel
  have hD := inW_self hD
  have hS : va_S (inW (wF cI cC cZ cS a b F tc)) s.heap s.heap [] := va_S.rf
  generalize hA : inW (wF cI cC cZ cS a b F tc) = A at hD hS ⊢
  refine opq (d_X5_type F letter len) (fun R hres => ?_)
  rw [hres]
  replace hres := hres.symm
  rw [d_X5_type] at hres
  have hl := lv_entry ([.ref (a 0), .int letter]) (n := 2) (Nat.le_of_ble_eq_true rfl)
  rw [lg_entry_eq]
  generalize (lg_sl ([.ref (a 0), .int letter]) ++ List.replicate (2 - (lg_sl ([.ref (a 0), .int letter])).length) Slot.unset).toArray = ls at hl ⊢
  have hl : lv_has ls 2 [(0, .ref (a 0)), (1, .int letter)] := hl
  refine lv_iload_n hx hb dX5_type_0 rfl (lv_at hl 1 rfl) ?_
  refine lv_if_lt (tgt := 11) hx hb dX5_type_1 (by decide) (fun c_1 => ?_) (fun c_1 => ?_)
  · skip
    rw [if_pos c_1] at hres
    refine lv_iconst (v := (-1)) hx hb dX5_type_11 (by decide) ?_
    rw [hres]
    exact W.iret (v := (-1)) hx hb hr (fun t ht hW => ⟨rfl, by rw [ht]; exact hP, by rw [hA]; exact hS.F ht⟩) hS.2.2 dX5_type_12
  · skip
    rw [if_neg c_1] at hres
    refine lv_iload_n hx hb dX5_type_4 rfl (lv_at hl 1 rfl) ?_
    refine lv_sipush (v := 255) hx hb dX5_type_5 (by decide) ?_
    refine lv_icmp_le (tgt := 13) hx hb dX5_type_8 (by decide) (fun c_2 => ?_) (fun c_2 => ?_)
    · skip
      rw [if_pos c_2] at hres
      refine lv_aload_n hx hb dX5_type_13 rfl (lv_at hl 0 rfl) ?_
      refine va_get (D := D) (ci := 5) (v := .ref (a 9)) (C := RX5) (T := TX5) (N := 10) hx hb hts hinX5 hown hK hP 0 rfl rfl 2 (by decide) (hts (.fieldLink RX5 22 "FirstOut" "text" "LFirstOut$Text;") (by decide +kernel)) (fun _ h9 => h9) rfl dX5_type_14 ?_
      refine lv_iload_n hx hb dX5_type_17 rfl (lv_at hl 1 rfl) ?_
      have hPc := hP.sub (ws' := (wT cI cC cZ cS (a 9) (a 10) (F 9) (F 10))) [9, 10] rfl
      have hDc := hD.sub (ws' := (wT cI cC cZ cS (a 9) (a 10) (F 9) (F 10))) [9, 10] (by decide) rfl
      refine m_callM (W.runV (As := [.int letter]) (rest := []) ⟨hx, hb, hml, hown, hts⟩ (c_X4_add l D cI cC cZ cS (a 9) (a 10) (F 9) (F 10) letter len hle h200) (cwV 1 hts gX5_type_X4_add rfl rfl rfl (by decide +kernel) ⟨Nat.le_of_ble_eq_true rfl, Nat.le_of_ble_eq_true rfl⟩) (preV_of hPc hDc hE (va_recv hK hPc (ci := 4) (q0 := 0) rfl rfl)) rfl rfl hl.1 rfl (lv_room (Nat.le_of_ble_eq_true rfl)) dX5_type_18 ⟨Nat.zero_le _, Nat.zero_le _⟩) hP hD hS [9, 10] rfl wT_ad (fun H locs hP hD hS => ?_)
      have hP : va_P D vwCl (wF cI cC cZ cS a b (va_up (va_up F 9 ((d_X4_add (F 9) (F 10) letter len).2.1)) 10 ((d_X4_add (F 9) (F 10) letter len).2.2)) tc) H := hP
      have hD : va_D A (wF cI cC cZ cS a b (va_up (va_up F 9 ((d_X4_add (F 9) (F 10) letter len).2.1)) 10 ((d_X4_add (F 9) (F 10) letter len).2.2)) tc) := hD
      refine W.eq (g2 := F0 m 21 ls [.int ((d_X4_add (F 9) (F 10) letter len).1)]) rfl ?_
      refine opq (d_X4_add (F 9) (F 10) letter len) (fun r_3 hr_3 => ?_)
      try rw [hr_3] at hP
      try rw [hr_3] at hD
      try rw [hr_3] at hres
      try rw [hr_3]
      refine lv_if_eq (tgt := 34) hx hb dX5_type_21 (by decide) (fun c_4 => ?_) (fun c_4 => ?_)
      · skip
        rw [if_pos c_4] at hres
        refine lv_bipush (v := (-3)) hx hb dX5_type_34 (by decide) ?_
        rw [hres]
        exact W.iret (v := (-3)) hx hb hr (fun t ht hW => ⟨rfl, by rw [ht]; exact hP, by rw [hA]; exact hS.F ht⟩) hS.2.2 dX5_type_36
      · skip
        rw [if_neg c_4] at hres
        refine lv_aload_n hx hb dX5_type_24 rfl (lv_at hl 0 rfl) ?_
        refine va_get (D := D) (ci := 5) (v := .ref (a 9)) (C := RX5) (T := TX5) (N := 10) hx hb hts hinX5 hown hK hP 0 rfl rfl 2 (by decide) (hts (.fieldLink RX5 22 "FirstOut" "text" "LFirstOut$Text;") (by decide +kernel)) (fun _ h9 => h9) rfl dX5_type_25 ?_
        refine va_get (D := D) (ci := 4) (v := .int (r_3.2.1 1)) (C := RX4) (T := TX4) (N := 5) hx hb hts hinX4 hown hK hP 9 rfl rfl 1 (by decide) (hts (.fieldLink RX5 66 "FirstOut$Text" "length" "I") (by decide +kernel)) (fun _ h9 => h9) rfl dX5_type_28 ?_
        refine lv_goto (tgt := 36) hx hb dX5_type_31 (by decide) ?_
        rw [hres]
        exact W.iret (v := (r_3.2.1 1)) hx hb hr (fun t ht hW => ⟨rfl, by rw [ht]; exact hP, by rw [hA]; exact hS.F ht⟩) hS.2.2 dX5_type_36
    · skip
      rw [if_neg c_2] at hres
      refine lv_iconst (v := (-1)) hx hb dX5_type_11 (by decide) ?_
      rw [hres]
      exact W.iret (v := (-1)) hx hb hr (fun t ht hW => ⟨rfl, by rw [ht]; exact hP, by rw [hA]; exact hS.F ht⟩) hS.2.2 dX5_type_12
def d_X5_clear (F : Nat → Nat → Int32) : Int32 × (Nat → Nat → Int32) :=
  ((F 9 1), (va_up F 9 (upd (F 9) 1 0)))
set_option maxHeartbeats 4000000 in
set_option maxRecDepth 100000 in
theorem c_X5_clear (l : Launch) (D : va_G) (cI cC cZ cS : ClassId) (a : Nat → Nat) (b : Nat → Nat) (F : Nat → Nat → Int32) (tc : Int64) : Met l yX5_clear wsX5_clear { frames := 0, cells := 0, slots := 0, locals := 0 } (PcE D cI cC cZ cS [.ref (a 0)] (wF cI cC cZ cS a b F tc)) (QcM (some (.int ((d_X5_clear F).1))) D (wF cI cC cZ cS a b F tc) (wF cI cC cZ cS a b ((d_X5_clear F).2) tc)) 0 0 (inW (wF cI cC cZ cS a b F tc)) := by
  refine Met.ofW (cc := cX5_clear) (maxL := 2) (ret := (some .int)) (by decide) rfl ?_
  intro p e s m args below meth c s₁ B hml hv
  obtain ⟨rfl, hP, hD, hE⟩ := hv
  have hK := hE.1
  have hx := B.exec
  have hb := B.bytes
  have hr := B.returns
  have hts := atoms_spec (ws := wsX5_clear) B.pre
  have hown : s.vm.findClass RX5 = some m.cls := findClass_of_methodNamed B.named
  have hlocks := B.notSynchronized
  have hinX5 : ∀ w ∈ wsX50, w ∈ wsX5_clear := by decide +kernel
  have hinX4 : ∀ w ∈ wsX40, w ∈ wsX5_clear := by decide +kernel
  have hD := inW_self hD
  have hS : va_S (inW (wF cI cC cZ cS a b F tc)) s.heap s.heap [] := va_S.rf
  generalize hA : inW (wF cI cC cZ cS a b F tc) = A at hD hS ⊢
  refine opq (d_X5_clear F) (fun R hres => ?_)
  rw [hres]
  replace hres := hres.symm
  rw [d_X5_clear] at hres
  have hl := lv_entry ([.ref (a 0)]) (n := 2) (Nat.le_of_ble_eq_true rfl)
  rw [lg_entry_eq]
  generalize (lg_sl ([.ref (a 0)]) ++ List.replicate (2 - (lg_sl ([.ref (a 0)])).length) Slot.unset).toArray = ls at hl ⊢
  have hl : lv_has ls 2 [(0, .ref (a 0))] := hl
  refine lv_aload_n hx hb dX5_clear_0 rfl (lv_at hl 0 rfl) ?_
  refine va_get (D := D) (ci := 5) (v := .ref (a 9)) (C := RX5) (T := TX5) (N := 10) hx hb hts hinX5 hown hK hP 0 rfl rfl 2 (by decide) (hts (.fieldLink RX5 22 "FirstOut" "text" "LFirstOut$Text;") (by decide +kernel)) (fun _ h9 => h9) rfl dX5_clear_1 ?_
  refine va_get (D := D) (ci := 4) (v := .int (F 9 1)) (C := RX4) (T := TX4) (N := 5) hx hb hts hinX4 hown hK hP 9 rfl rfl 1 (by decide) (hts (.fieldLink RX5 66 "FirstOut$Text" "length" "I") (by decide +kernel)) (fun _ h9 => h9) rfl dX5_clear_4 ?_
  refine lv_istore_n (lv' := [(1, .int (F 9 1)), (0, .ref (a 0))]) hx hb dX5_clear_7 rfl hl (by decide) rfl (fun ls hl => ?_)
  refine lv_aload_n hx hb dX5_clear_8 rfl (lv_at hl 1 rfl) ?_
  refine va_get (D := D) (ci := 5) (v := .ref (a 9)) (C := RX5) (T := TX5) (N := 10) hx hb hts hinX5 hown hK hP 0 rfl rfl 2 (by decide) (hts (.fieldLink RX5 22 "FirstOut" "text" "LFirstOut$Text;") (by decide +kernel)) (fun _ h9 => h9) rfl dX5_clear_9 ?_
  refine lv_iconst (v := 0) hx hb dX5_clear_12 (by decide) ?_
  refine va_put (D := D) (ci := 4) (v := .int 0) (ty := .int) (C := RX4) (T := TX4) (N := 5) hx hb hts hinX4 tyX4 tyX4_ok nmX4 hown hK hP hD hS 9 rfl rfl 1 (by decide) (hts (.fieldLink RX5 66 "FirstOut$Text" "length" "I") (by decide +kernel)) (fun _ h9 => h9) rfl (by decide +kernel) rfl rfl (Nat.le_of_ble_eq_true rfl) dX5_clear_13 (fun H locs hP hD hS => ?_)
  have hP : va_P D vwCl (wF cI cC cZ cS a b (va_up F 9 (upd (F 9) 1 0)) tc) H := hP
  have hD : va_D A (wF cI cC cZ cS a b (va_up F 9 (upd (F 9) 1 0)) tc) := hD
  refine lv_iload_n hx hb dX5_clear_16 rfl (lv_at hl 0 rfl) ?_
  rw [hres]
  exact W.iret (v := (F 9 1)) hx hb hr (fun t ht hW => ⟨rfl, by rw [ht]; exact hP, by rw [hA]; exact hS.F ht⟩) hS.2.2 dX5_clear_17
def d_X5_swears (F : Nat → Nat → Int32) (words : Int32) (n : Nat) : Int32 × (Nat → Nat → Int32) :=
  if (d_X5_areWords words) = 0 then
      ((-1), F)
    else
      (d_J6_bitCount_0f7a4 (d_X5_coveredNow ((putP F (d_X1_push (pF F))) 2) (upd ((putP F (d_X1_push (pF F))) 11) 0 words) n), (va_up (putP F (d_X1_push (pF F))) 11 (upd ((putP F (d_X1_push (pF F))) 11) 0 words)))
set_option maxHeartbeats 4000000 in
set_option maxRecDepth 100000 in
theorem c_X5_swears (l : Launch) (D : va_G) (cI cC cZ cS : ClassId) (a : Nat → Nat) (b : Nat → Nat) (F : Nat → Nat → Int32) (tc : Int64) (words : Int32) (n : Nat) (nx : Nat) (hn : F 1 3 = nI n) (h7 : n ≤ 7) (hnx : F 13 1 = nI nx) (hx10 : nx < 10) : Met l yX5_swears wsX5_swears { frames := 3, cells := 0, slots := 0, locals := 65 } (PcE D cI cC cZ cS [.ref (a 0), .int words] (wF cI cC cZ cS a b F tc)) (QcM (some (.int ((d_X5_swears F words n).1))) D (wF cI cC cZ cS a b F tc) (wF cI cC cZ cS a b ((d_X5_swears F words n).2) tc)) 0 0 (inW (wF cI cC cZ cS a b F tc)) := by
  refine Met.ofW (cc := cX5_swears) (maxL := 2) (ret := (some .int)) (by decide) rfl ?_
  intro p e s m args below meth c s₁ B hml hv
  obtain ⟨rfl, hP, hD, hE⟩ := hv
  have hK := hE.1
  have hx := B.exec
  have hb := B.bytes
  have hr := B.returns
  have hts := atoms_spec (ws := wsX5_swears) B.pre
  have hown : s.vm.findClass RX5 = some m.cls := findClass_of_methodNamed B.named
  have hlocks := B.notSynchronized
  have hinX5 : ∀ w ∈ wsX50, w ∈ wsX5_swears := by decide +kernel
  have hinX3 : ∀ w ∈ wsX30, w ∈ wsX5_swears := by decide +kernel
  have hD := inW_self hD
  have hS : va_S (inW (wF cI cC cZ cS a b F tc)) s.heap s.heap [] := va_S.rf
  generalize hA : inW (wF cI cC cZ cS a b F tc) = A at hD hS ⊢
  refine opq (d_X5_swears F words n) (fun R hres => ?_)
  rw [hres]
  replace hres := hres.symm
  rw [d_X5_swears] at hres
  have hl := lv_entry ([.ref (a 0), .int words]) (n := 2) (Nat.le_of_ble_eq_true rfl)
  rw [lg_entry_eq]
  generalize (lg_sl ([.ref (a 0), .int words]) ++ List.replicate (2 - (lg_sl ([.ref (a 0), .int words])).length) Slot.unset).toArray = ls at hl ⊢
  have hl : lv_has ls 2 [(0, .ref (a 0)), (1, .int words)] := hl
  refine lv_iload_n hx hb dX5_swears_0 rfl (lv_at hl 1 rfl) ?_
  have hPc := hP.sub (ws' := []) [] rfl
  have hDc := hD.sub (ws' := []) [] (by decide) rfl
  refine m_callR (W.runS (As := [.int words]) (rest := []) ⟨hx, hb, hml, hown, hts⟩ (c_X5_areWords l D cI cC cZ cS words) (va_cwS 1 hts gX5_swears_X5_areWords rfl rfl rfl (by decide +kernel) ⟨Nat.le_of_ble_eq_true rfl, Nat.le_of_ble_eq_true rfl⟩) (preS_of hPc hDc hE) rfl rfl hl.1 rfl (lv_room (Nat.le_of_ble_eq_true rfl)) dX5_swears_1 ⟨Nat.zero_le _, Nat.zero_le _⟩) ?_
  refine W.eq (g2 := F0 m 4 ls [.int (d_X5_areWords words)]) rfl ?_
  refine lv_if_ne (tgt := 9) hx hb dX5_swears_4 (by decide) (fun c_1 => ?_) (fun c_1 => ?_)
  · skip
    rw [if_neg c_1] at hres
    refine lv_aload_n hx hb dX5_swears_9 rfl (lv_at hl 0 rfl) ?_
    refine va_get (D := D) (ci := 5) (v := .ref (b 0)) (C := RX5) (T := TX5) (N := 10) hx hb hts hinX5 hown hK hP 0 rfl rfl 5 (by decide) (hts (.fieldLink RX5 39 "FirstOut" "past" "LFirstOut$Past;") (by decide +kernel)) (fun _ h9 => h9) rfl dX5_swears_10 ?_
    refine lv_aload_n hx hb dX5_swears_13 rfl (lv_at hl 0 rfl) ?_
    refine va_get (D := D) (ci := 5) (v := .ref (b 12)) (C := RX5) (T := TX5) (N := 10) hx hb hts hinX5 hown hK hP 0 rfl rfl 3 (by decide) (hts (.fieldLink RX5 29 "FirstOut" "current" "LFirstOut$Standing;") (by decide +kernel)) (fun _ h9 => h9) rfl dX5_swears_14 ?_
    have hPc := hP.sub (ws' := (wP cI cC cZ cS b (pF F))) [13, 14, 15, 16, 17, 18, 19, 20, 21, 22, 23, 24, 11] rfl
    have hDc := hD.sub (ws' := (wP cI cC cZ cS b (pF F))) [13, 14, 15, 16, 17, 18, 19, 20, 21, 22, 23, 24, 11] (by decide) rfl
    refine m_callM (W.runV (As := [.ref (b 12)]) (rest := []) ⟨hx, hb, hml, hown, hts⟩ (c_X1_push l D cI cC cZ cS b (pF F) nx hnx hx10) (cwV 1 hts gX5_swears_X1_push rfl rfl rfl (by decide +kernel) ⟨Nat.le_of_ble_eq_true rfl, Nat.le_of_ble_eq_true rfl⟩) (preV_of hPc hDc hE (va_recv hK hPc (ci := 1) (q0 := 0) rfl rfl)) rfl rfl hl.1 rfl (lv_room (Nat.le_of_ble_eq_true rfl)) dX5_swears_17 ⟨Nat.zero_le _, Nat.zero_le _⟩) hP hD hS [13, 14, 15, 16, 17, 18, 19, 20, 21, 22, 23, 24, 11] rfl wP_ad (fun H locs hP hD hS => ?_)
    have hP : va_P D vwCl (wF cI cC cZ cS a b (putP F (d_X1_push (pF F))) tc) H := hP
    have hD : va_D A (wF cI cC cZ cS a b (putP F (d_X1_push (pF F))) tc) := hD
    refine W.eq (g2 := F0 m 20 ls []) rfl ?_
    refine opq (d_X1_push (pF F)) (fun r_2 hr_2 => ?_)
    try rw [hr_2] at hP
    try rw [hr_2] at hD
    try rw [hr_2] at hres
    try rw [hr_2]
    refine lv_aload_n hx hb dX5_swears_20 rfl (lv_at hl 0 rfl) ?_
    refine va_get (D := D) (ci := 5) (v := .ref (b 12)) (C := RX5) (T := TX5) (N := 10) hx hb hts hinX5 hown hK hP 0 rfl rfl 3 (by decide) (hts (.fieldLink RX5 29 "FirstOut" "current" "LFirstOut$Standing;") (by decide +kernel)) (fun _ h9 => h9) rfl dX5_swears_21 ?_
    refine lv_iload_n hx hb dX5_swears_24 rfl (lv_at hl 1 rfl) ?_
    refine va_put (D := D) (ci := 3) (v := .int words) (ty := .int) (C := RX3) (T := TX3) (N := 5) hx hb hts hinX3 tyX3 tyX3_ok nmX3 hown hK hP hD hS 11 rfl rfl 0 (by decide) (hts (.fieldLink RX5 113 "FirstOut$Standing" "words" "I") (by decide +kernel)) (fun _ h9 => h9) rfl (by decide +kernel) rfl rfl (Nat.le_of_ble_eq_true rfl) dX5_swears_25 (fun H locs hP hD hS => ?_)
    have hP : va_P D vwCl (wF cI cC cZ cS a b (va_up (putP F r_2) 11 (upd ((putP F r_2) 11) 0 words)) tc) H := hP
    have hD : va_D A (wF cI cC cZ cS a b (va_up (putP F r_2) 11 (upd ((putP F r_2) 11) 0 words)) tc) := hD
    refine lv_aload_n hx hb dX5_swears_28 rfl (lv_at hl 0 rfl) ?_
    have hPc := hP.sub (ws' := (wXC cI cC cZ cS a b ((putP F r_2) 1) ((putP F r_2) 2) ((putP F r_2) 3) ((putP F r_2) 4) (upd ((putP F r_2) 11) 0 words) tc)) [0, 1, 2, 3, 4, 11] rfl
    have hDc := hD.sub (ws' := (wXC cI cC cZ cS a b ((putP F r_2) 1) ((putP F r_2) 2) ((putP F r_2) 3) ((putP F r_2) 4) (upd ((putP F r_2) 11) 0 words) tc)) [0, 1, 2, 3, 4, 11] (by decide) rfl
    refine m_callR (W.runV (As := []) (rest := []) ⟨hx, hb, hml, hown, hts⟩ (c_X5_coveredNow l D cI cC cZ cS a b ((putP F r_2) 1) ((putP F r_2) 2) ((putP F r_2) 3) ((putP F r_2) 4) (upd ((putP F r_2) 11) 0 words) tc n hn h7) (cwV 0 hts gX5_swears_X5_coveredNow rfl rfl rfl (by decide +kernel) ⟨Nat.le_of_ble_eq_true rfl, Nat.le_of_ble_eq_true rfl⟩) (preV_of hPc hDc hE (va_recv hK hPc (ci := 5) (q0 := 0) rfl rfl)) rfl rfl hl.1 rfl (lv_room (Nat.le_of_ble_eq_true rfl)) dX5_swears_29 ⟨Nat.zero_le _, Nat.zero_le _⟩) ?_
    refine W.eq (g2 := F0 m 32 ls [.int (d_X5_coveredNow ((putP F r_2) 2) (upd ((putP F r_2) 11) 0 words) n)]) rfl ?_
    have hPc := hP.sub (ws' := []) [] rfl
    have hDc := hD.sub (ws' := []) [] (by decide) rfl
    refine m_callR (W.runS (As := [.int (d_X5_coveredNow ((putP F r_2) 2) (upd ((putP F r_2) 11) 0 words) n)]) (rest := []) ⟨hx, hb, hml, hown, hts⟩ (c_J6_bitCount_0f7a4 l D cI cC cZ cS (d_X5_coveredNow ((putP F r_2) 2) (upd ((putP F r_2) 11) 0 words) n)) (va_cwS 1 hts gX5_swears_J6_bitCount_0f7a4 rfl rfl rfl (by decide +kernel) ⟨Nat.le_of_ble_eq_true rfl, Nat.le_of_ble_eq_true rfl⟩) (preS_of hPc hDc hE) rfl rfl hl.1 rfl (lv_room (Nat.le_of_ble_eq_true rfl)) dX5_swears_32 ⟨Nat.zero_le _, Nat.zero_le _⟩) ?_
    refine W.eq (g2 := F0 m 35 ls [.int (d_J6_bitCount_0f7a4 (d_X5_coveredNow ((putP F r_2) 2) (upd ((putP F r_2) 11) 0 words) n))]) rfl ?_
    rw [hres]
    exact W.iret (v := d_J6_bitCount_0f7a4 (d_X5_coveredNow ((putP F r_2) 2) (upd ((putP F r_2) 11) 0 words) n)) hx hb hr (fun t ht hW => ⟨rfl, by rw [ht]; exact hP, by rw [hA]; exact hS.F ht⟩) hS.2.2 dX5_swears_35
  · skip
    rw [if_pos c_1] at hres
    refine lv_iconst (v := (-1)) hx hb dX5_swears_7 (by decide) ?_
    rw [hres]
    exact W.iret (v := (-1)) hx hb hr (fun t ht hW => ⟨rfl, by rw [ht]; exact hP, by rw [hA]; exact hS.F ht⟩) hS.2.2 dX5_swears_8
def d_X5_keepsIn (F : Nat → Nat → Int32) (t : Int32) (is : Int32) : Int32 × (Nat → Nat → Int32) :=
  if (d_X0_holds (F 1) t) = 0 then
      ((-1), F)
    else
      if (d_X5_isYesOrNo is) = 0 then
        ((-1), F)
      else
        (d_X5_bitOf (((putP F (d_X1_push (pF F))) 11) 2) t, (va_up (putP F (d_X1_push (pF F))) 11 (upd ((putP F (d_X1_push (pF F))) 11) 2 (d_X5_withBit (((putP F (d_X1_push (pF F))) 11) 2) t is))))
set_option maxHeartbeats 4000000 in
set_option maxRecDepth 100000 in
theorem c_X5_keepsIn (l : Launch) (D : va_G) (cI cC cZ cS : ClassId) (a : Nat → Nat) (b : Nat → Nat) (F : Nat → Nat → Int32) (tc : Int64) (t : Int32) (is : Int32) (n : Nat) (nx : Nat) (hn : F 1 3 = nI n) (h7 : n ≤ 7) (hnx : F 13 1 = nI nx) (hx10 : nx < 10) : Met l yX5_keepsIn wsX5_keepsIn { frames := 2, cells := 0, slots := 0, locals := 42 } (PcE D cI cC cZ cS [.ref (a 0), .int t, .int is] (wF cI cC cZ cS a b F tc)) (QcM (some (.int ((d_X5_keepsIn F t is).1))) D (wF cI cC cZ cS a b F tc) (wF cI cC cZ cS a b ((d_X5_keepsIn F t is).2) tc)) 0 0 (inW (wF cI cC cZ cS a b F tc)) := by
  refine Met.ofW (cc := cX5_keepsIn) (maxL := 4) (ret := (some .int)) (by decide) rfl ?_
  intro p e s m args below meth c s₁ B hml hv
  obtain ⟨rfl, hP, hD, hE⟩ := hv
  have hK := hE.1
  have hx := B.exec
  have hb := B.bytes
  have hr := B.returns
  have hts := atoms_spec (ws := wsX5_keepsIn) B.pre
  have hown : s.vm.findClass RX5 = some m.cls := findClass_of_methodNamed B.named
  have hlocks := B.notSynchronized
  have hinX5 : ∀ w ∈ wsX50, w ∈ wsX5_keepsIn := by decide +kernel
  have hinX3 : ∀ w ∈ wsX30, w ∈ wsX5_keepsIn := by decide +kernel
  have hD := inW_self hD
  have hS : va_S (inW (wF cI cC cZ cS a b F tc)) s.heap s.heap [] := va_S.rf
  generalize hA : inW (wF cI cC cZ cS a b F tc) = A at hD hS ⊢
  refine opq (d_X5_keepsIn F t is) (fun R hres => ?_)
  rw [hres]
  replace hres := hres.symm
  rw [d_X5_keepsIn] at hres
  have hl := lv_entry ([.ref (a 0), .int t, .int is]) (n := 4) (Nat.le_of_ble_eq_true rfl)
  rw [lg_entry_eq]
  generalize (lg_sl ([.ref (a 0), .int t, .int is]) ++ List.replicate (4 - (lg_sl ([.ref (a 0), .int t, .int is])).length) Slot.unset).toArray = ls at hl ⊢
  have hl : lv_has ls 4 [(0, .ref (a 0)), (1, .int t), (2, .int is)] := hl
  refine lv_aload_n hx hb dX5_keepsIn_0 rfl (lv_at hl 0 rfl) ?_
  refine va_get (D := D) (ci := 5) (v := .ref (a 1)) (C := RX5) (T := TX5) (N := 10) hx hb hts hinX5 hown hK hP 0 rfl rfl 0 (by decide) (hts (.fieldLink RX5 10 "FirstOut" "home" "LFirstOut$House;") (by decide +kernel)) (fun _ h9 => h9) rfl dX5_keepsIn_1 ?_
  refine lv_iload_n hx hb dX5_keepsIn_4 rfl (lv_at hl 1 rfl) ?_
  have hPc := hP.sub (ws' := (wH cI cC cZ cS (a 1) (a 2) (a 3) (a 4) (F 1) (F 2) (F 3) (F 4))) [1, 2, 3, 4] rfl
  have hDc := hD.sub (ws' := (wH cI cC cZ cS (a 1) (a 2) (a 3) (a 4) (F 1) (F 2) (F 3) (F 4))) [1, 2, 3, 4] (by decide) rfl
  refine m_callR (W.runV (As := [.int t]) (rest := []) ⟨hx, hb, hml, hown, hts⟩ (c_X0_holds l D cI cC cZ cS (a 1) (a 2) (a 3) (a 4) (F 1) (F 2) (F 3) (F 4) t) (cwV 1 hts gX5_keepsIn_X0_holds rfl rfl rfl (by decide +kernel) ⟨Nat.le_of_ble_eq_true rfl, Nat.le_of_ble_eq_true rfl⟩) (preV_of hPc hDc hE (va_recv hK hPc (ci := 0) (q0 := 0) rfl rfl)) rfl rfl hl.1 rfl (lv_room (Nat.le_of_ble_eq_true rfl)) dX5_keepsIn_5 ⟨Nat.zero_le _, Nat.zero_le _⟩) ?_
  refine W.eq (g2 := F0 m 8 ls [.int (d_X0_holds (F 1) t)]) rfl ?_
  refine lv_if_eq (tgt := 18) hx hb dX5_keepsIn_8 (by decide) (fun c_1 => ?_) (fun c_1 => ?_)
  · skip
    rw [if_pos c_1] at hres
    refine lv_iconst (v := (-1)) hx hb dX5_keepsIn_18 (by decide) ?_
    rw [hres]
    exact W.iret (v := (-1)) hx hb hr (fun t ht hW => ⟨rfl, by rw [ht]; exact hP, by rw [hA]; exact hS.F ht⟩) hS.2.2 dX5_keepsIn_19
  · skip
    rw [if_neg c_1] at hres
    refine lv_iload_n hx hb dX5_keepsIn_11 rfl (lv_at hl 2 rfl) ?_
    have hPc := hP.sub (ws' := []) [] rfl
    have hDc := hD.sub (ws' := []) [] (by decide) rfl
    refine m_callR (W.runS (As := [.int is]) (rest := []) ⟨hx, hb, hml, hown, hts⟩ (c_X5_isYesOrNo l D cI cC cZ cS is) (va_cwS 1 hts gX5_keepsIn_X5_isYesOrNo rfl rfl rfl (by decide +kernel) ⟨Nat.le_of_ble_eq_true rfl, Nat.le_of_ble_eq_true rfl⟩) (preS_of hPc hDc hE) rfl rfl hl.1 rfl (lv_room (Nat.le_of_ble_eq_true rfl)) dX5_keepsIn_12 ⟨Nat.zero_le _, Nat.zero_le _⟩) ?_
    refine W.eq (g2 := F0 m 15 ls [.int (d_X5_isYesOrNo is)]) rfl ?_
    refine lv_if_ne (tgt := 20) hx hb dX5_keepsIn_15 (by decide) (fun c_2 => ?_) (fun c_2 => ?_)
    · skip
      rw [if_neg c_2] at hres
      refine lv_aload_n hx hb dX5_keepsIn_20 rfl (lv_at hl 0 rfl) ?_
      refine va_get (D := D) (ci := 5) (v := .ref (b 0)) (C := RX5) (T := TX5) (N := 10) hx hb hts hinX5 hown hK hP 0 rfl rfl 5 (by decide) (hts (.fieldLink RX5 39 "FirstOut" "past" "LFirstOut$Past;") (by decide +kernel)) (fun _ h9 => h9) rfl dX5_keepsIn_21 ?_
      refine lv_aload_n hx hb dX5_keepsIn_24 rfl (lv_at hl 0 rfl) ?_
      refine va_get (D := D) (ci := 5) (v := .ref (b 12)) (C := RX5) (T := TX5) (N := 10) hx hb hts hinX5 hown hK hP 0 rfl rfl 3 (by decide) (hts (.fieldLink RX5 29 "FirstOut" "current" "LFirstOut$Standing;") (by decide +kernel)) (fun _ h9 => h9) rfl dX5_keepsIn_25 ?_
      have hPc := hP.sub (ws' := (wP cI cC cZ cS b (pF F))) [13, 14, 15, 16, 17, 18, 19, 20, 21, 22, 23, 24, 11] rfl
      have hDc := hD.sub (ws' := (wP cI cC cZ cS b (pF F))) [13, 14, 15, 16, 17, 18, 19, 20, 21, 22, 23, 24, 11] (by decide) rfl
      refine m_callM (W.runV (As := [.ref (b 12)]) (rest := []) ⟨hx, hb, hml, hown, hts⟩ (c_X1_push l D cI cC cZ cS b (pF F) nx hnx hx10) (cwV 1 hts gX5_keepsIn_X1_push rfl rfl rfl (by decide +kernel) ⟨Nat.le_of_ble_eq_true rfl, Nat.le_of_ble_eq_true rfl⟩) (preV_of hPc hDc hE (va_recv hK hPc (ci := 1) (q0 := 0) rfl rfl)) rfl rfl hl.1 rfl (lv_room (Nat.le_of_ble_eq_true rfl)) dX5_keepsIn_28 ⟨Nat.zero_le _, Nat.zero_le _⟩) hP hD hS [13, 14, 15, 16, 17, 18, 19, 20, 21, 22, 23, 24, 11] rfl wP_ad (fun H locs hP hD hS => ?_)
      have hP : va_P D vwCl (wF cI cC cZ cS a b (putP F (d_X1_push (pF F))) tc) H := hP
      have hD : va_D A (wF cI cC cZ cS a b (putP F (d_X1_push (pF F))) tc) := hD
      refine W.eq (g2 := F0 m 31 ls []) rfl ?_
      refine opq (d_X1_push (pF F)) (fun r_3 hr_3 => ?_)
      try rw [hr_3] at hP
      try rw [hr_3] at hD
      try rw [hr_3] at hres
      try rw [hr_3]
      refine lv_aload_n hx hb dX5_keepsIn_31 rfl (lv_at hl 0 rfl) ?_
      refine va_get (D := D) (ci := 5) (v := .ref (b 12)) (C := RX5) (T := TX5) (N := 10) hx hb hts hinX5 hown hK hP 0 rfl rfl 3 (by decide) (hts (.fieldLink RX5 29 "FirstOut" "current" "LFirstOut$Standing;") (by decide +kernel)) (fun _ h9 => h9) rfl dX5_keepsIn_32 ?_
      refine va_get (D := D) (ci := 3) (v := .int (((putP F r_3) 11) 2)) (C := RX3) (T := TX3) (N := 5) hx hb hts hinX3 hown hK hP 11 rfl rfl 2 (by decide) (hts (.fieldLink RX5 97 "FirstOut$Standing" "kept" "I") (by decide +kernel)) (fun _ h9 => h9) rfl dX5_keepsIn_35 ?_
      refine lv_iload_n hx hb dX5_keepsIn_38 rfl (lv_at hl 1 rfl) ?_
      have hPc := hP.sub (ws' := []) [] rfl
      have hDc := hD.sub (ws' := []) [] (by decide) rfl
      refine m_callR (W.runS (As := [.int (((putP F r_3) 11) 2), .int t]) (rest := []) ⟨hx, hb, hml, hown, hts⟩ (c_X5_bitOf l D cI cC cZ cS (((putP F r_3) 11) 2) t) (va_cwS 2 hts gX5_keepsIn_X5_bitOf rfl rfl rfl (by decide +kernel) ⟨Nat.le_of_ble_eq_true rfl, Nat.le_of_ble_eq_true rfl⟩) (preS_of hPc hDc hE) rfl rfl hl.1 rfl (lv_room (Nat.le_of_ble_eq_true rfl)) dX5_keepsIn_39 ⟨Nat.zero_le _, Nat.zero_le _⟩) ?_
      refine W.eq (g2 := F0 m 42 ls [.int (d_X5_bitOf (((putP F r_3) 11) 2) t)]) rfl ?_
      refine lv_istore_n (lv' := [(3, .int (d_X5_bitOf (((putP F r_3) 11) 2) t)), (0, .ref (a 0)), (1, .int t), (2, .int is)]) hx hb dX5_keepsIn_42 rfl hl (by decide) rfl (fun ls hl => ?_)
      refine lv_aload_n hx hb dX5_keepsIn_43 rfl (lv_at hl 1 rfl) ?_
      refine va_get (D := D) (ci := 5) (v := .ref (b 12)) (C := RX5) (T := TX5) (N := 10) hx hb hts hinX5 hown hK hP 0 rfl rfl 3 (by decide) (hts (.fieldLink RX5 29 "FirstOut" "current" "LFirstOut$Standing;") (by decide +kernel)) (fun _ h9 => h9) rfl dX5_keepsIn_44 ?_
      refine lv_aload_n hx hb dX5_keepsIn_47 rfl (lv_at hl 1 rfl) ?_
      refine va_get (D := D) (ci := 5) (v := .ref (b 12)) (C := RX5) (T := TX5) (N := 10) hx hb hts hinX5 hown hK hP 0 rfl rfl 3 (by decide) (hts (.fieldLink RX5 29 "FirstOut" "current" "LFirstOut$Standing;") (by decide +kernel)) (fun _ h9 => h9) rfl dX5_keepsIn_48 ?_
      refine va_get (D := D) (ci := 3) (v := .int (((putP F r_3) 11) 2)) (C := RX3) (T := TX3) (N := 5) hx hb hts hinX3 hown hK hP 11 rfl rfl 2 (by decide) (hts (.fieldLink RX5 97 "FirstOut$Standing" "kept" "I") (by decide +kernel)) (fun _ h9 => h9) rfl dX5_keepsIn_51 ?_
      refine lv_iload_n hx hb dX5_keepsIn_54 rfl (lv_at hl 2 rfl) ?_
      refine lv_iload_n hx hb dX5_keepsIn_55 rfl (lv_at hl 3 rfl) ?_
      have hPc := hP.sub (ws' := []) [] rfl
      have hDc := hD.sub (ws' := []) [] (by decide) rfl
      refine m_callR (W.runS (As := [.int (((putP F r_3) 11) 2), .int t, .int is]) (rest := [.ref (b 12)]) ⟨hx, hb, hml, hown, hts⟩ (c_X5_withBit l D cI cC cZ cS (((putP F r_3) 11) 2) t is) (va_cwS 3 hts gX5_keepsIn_X5_withBit rfl rfl rfl (by decide +kernel) ⟨Nat.le_of_ble_eq_true rfl, Nat.le_of_ble_eq_true rfl⟩) (preS_of hPc hDc hE) rfl rfl hl.1 rfl (lv_room (Nat.le_of_ble_eq_true rfl)) dX5_keepsIn_56 ⟨Nat.zero_le _, Nat.zero_le _⟩) ?_
      refine W.eq (g2 := F0 m 59 ls [.int (d_X5_withBit (((putP F r_3) 11) 2) t is), .ref (b 12)]) rfl ?_
      refine va_put (D := D) (ci := 3) (v := .int (d_X5_withBit (((putP F r_3) 11) 2) t is)) (ty := .int) (C := RX3) (T := TX3) (N := 5) hx hb hts hinX3 tyX3 tyX3_ok nmX3 hown hK hP hD hS 11 rfl rfl 2 (by decide) (hts (.fieldLink RX5 97 "FirstOut$Standing" "kept" "I") (by decide +kernel)) (fun _ h9 => h9) rfl (by decide +kernel) rfl rfl (Nat.le_of_ble_eq_true rfl) dX5_keepsIn_59 (fun H locs hP hD hS => ?_)
      have hP : va_P D vwCl (wF cI cC cZ cS a b (va_up (putP F r_3) 11 (upd ((putP F r_3) 11) 2 (d_X5_withBit (((putP F r_3) 11) 2) t is))) tc) H := hP
      have hD : va_D A (wF cI cC cZ cS a b (va_up (putP F r_3) 11 (upd ((putP F r_3) 11) 2 (d_X5_withBit (((putP F r_3) 11) 2) t is))) tc) := hD
      refine lv_iload_n hx hb dX5_keepsIn_62 rfl (lv_at hl 0 rfl) ?_
      rw [hres]
      exact W.iret (v := d_X5_bitOf (((putP F r_3) 11) 2) t) hx hb hr (fun t ht hW => ⟨rfl, by rw [ht]; exact hP, by rw [hA]; exact hS.F ht⟩) hS.2.2 dX5_keepsIn_63
    · skip
      rw [if_pos c_2] at hres
      refine lv_iconst (v := (-1)) hx hb dX5_keepsIn_18 (by decide) ?_
      rw [hres]
      exact W.iret (v := (-1)) hx hb hr (fun t ht hW => ⟨rfl, by rw [ht]; exact hP, by rw [hA]; exact hS.F ht⟩) hS.2.2 dX5_keepsIn_19
def d_X5_tells (F : Nat → Nat → Int32) (t : Int32) (is : Int32) : Int32 × (Nat → Nat → Int32) :=
  if (d_X0_holds (F 1) t) = 0 then
      ((-1), F)
    else
      if (d_X5_isYesOrNo is) = 0 then
        ((-1), F)
      else
        (d_X5_bitOf (((putP F (d_X1_push (pF F))) 11) 1) t, (va_up (putP F (d_X1_push (pF F))) 11 (upd ((putP F (d_X1_push (pF F))) 11) 1 (d_X5_withBit (((putP F (d_X1_push (pF F))) 11) 1) t is))))
set_option maxHeartbeats 4000000 in
set_option maxRecDepth 100000 in
theorem c_X5_tells (l : Launch) (D : va_G) (cI cC cZ cS : ClassId) (a : Nat → Nat) (b : Nat → Nat) (F : Nat → Nat → Int32) (tc : Int64) (t : Int32) (is : Int32) (n : Nat) (nx : Nat) (hn : F 1 3 = nI n) (h7 : n ≤ 7) (hnx : F 13 1 = nI nx) (hx10 : nx < 10) : Met l yX5_tells wsX5_tells { frames := 2, cells := 0, slots := 0, locals := 42 } (PcE D cI cC cZ cS [.ref (a 0), .int t, .int is] (wF cI cC cZ cS a b F tc)) (QcM (some (.int ((d_X5_tells F t is).1))) D (wF cI cC cZ cS a b F tc) (wF cI cC cZ cS a b ((d_X5_tells F t is).2) tc)) 0 0 (inW (wF cI cC cZ cS a b F tc)) := by
  refine Met.ofW (cc := cX5_tells) (maxL := 4) (ret := (some .int)) (by decide) rfl ?_
  intro p e s m args below meth c s₁ B hml hv
  obtain ⟨rfl, hP, hD, hE⟩ := hv
  have hK := hE.1
  have hx := B.exec
  have hb := B.bytes
  have hr := B.returns
  have hts := atoms_spec (ws := wsX5_tells) B.pre
  have hown : s.vm.findClass RX5 = some m.cls := findClass_of_methodNamed B.named
  have hlocks := B.notSynchronized
  have hinX5 : ∀ w ∈ wsX50, w ∈ wsX5_tells := by decide +kernel
  have hinX3 : ∀ w ∈ wsX30, w ∈ wsX5_tells := by decide +kernel
  have hD := inW_self hD
  have hS : va_S (inW (wF cI cC cZ cS a b F tc)) s.heap s.heap [] := va_S.rf
  generalize hA : inW (wF cI cC cZ cS a b F tc) = A at hD hS ⊢
  refine opq (d_X5_tells F t is) (fun R hres => ?_)
  rw [hres]
  replace hres := hres.symm
  rw [d_X5_tells] at hres
  have hl := lv_entry ([.ref (a 0), .int t, .int is]) (n := 4) (Nat.le_of_ble_eq_true rfl)
  rw [lg_entry_eq]
  generalize (lg_sl ([.ref (a 0), .int t, .int is]) ++ List.replicate (4 - (lg_sl ([.ref (a 0), .int t, .int is])).length) Slot.unset).toArray = ls at hl ⊢
  have hl : lv_has ls 4 [(0, .ref (a 0)), (1, .int t), (2, .int is)] := hl
  refine lv_aload_n hx hb dX5_tells_0 rfl (lv_at hl 0 rfl) ?_
  refine va_get (D := D) (ci := 5) (v := .ref (a 1)) (C := RX5) (T := TX5) (N := 10) hx hb hts hinX5 hown hK hP 0 rfl rfl 0 (by decide) (hts (.fieldLink RX5 10 "FirstOut" "home" "LFirstOut$House;") (by decide +kernel)) (fun _ h9 => h9) rfl dX5_tells_1 ?_
  refine lv_iload_n hx hb dX5_tells_4 rfl (lv_at hl 1 rfl) ?_
  have hPc := hP.sub (ws' := (wH cI cC cZ cS (a 1) (a 2) (a 3) (a 4) (F 1) (F 2) (F 3) (F 4))) [1, 2, 3, 4] rfl
  have hDc := hD.sub (ws' := (wH cI cC cZ cS (a 1) (a 2) (a 3) (a 4) (F 1) (F 2) (F 3) (F 4))) [1, 2, 3, 4] (by decide) rfl
  refine m_callR (W.runV (As := [.int t]) (rest := []) ⟨hx, hb, hml, hown, hts⟩ (c_X0_holds l D cI cC cZ cS (a 1) (a 2) (a 3) (a 4) (F 1) (F 2) (F 3) (F 4) t) (cwV 1 hts gX5_tells_X0_holds rfl rfl rfl (by decide +kernel) ⟨Nat.le_of_ble_eq_true rfl, Nat.le_of_ble_eq_true rfl⟩) (preV_of hPc hDc hE (va_recv hK hPc (ci := 0) (q0 := 0) rfl rfl)) rfl rfl hl.1 rfl (lv_room (Nat.le_of_ble_eq_true rfl)) dX5_tells_5 ⟨Nat.zero_le _, Nat.zero_le _⟩) ?_
  refine W.eq (g2 := F0 m 8 ls [.int (d_X0_holds (F 1) t)]) rfl ?_
  refine lv_if_eq (tgt := 18) hx hb dX5_tells_8 (by decide) (fun c_1 => ?_) (fun c_1 => ?_)
  · skip
    rw [if_pos c_1] at hres
    refine lv_iconst (v := (-1)) hx hb dX5_tells_18 (by decide) ?_
    rw [hres]
    exact W.iret (v := (-1)) hx hb hr (fun t ht hW => ⟨rfl, by rw [ht]; exact hP, by rw [hA]; exact hS.F ht⟩) hS.2.2 dX5_tells_19
  · skip
    rw [if_neg c_1] at hres
    refine lv_iload_n hx hb dX5_tells_11 rfl (lv_at hl 2 rfl) ?_
    have hPc := hP.sub (ws' := []) [] rfl
    have hDc := hD.sub (ws' := []) [] (by decide) rfl
    refine m_callR (W.runS (As := [.int is]) (rest := []) ⟨hx, hb, hml, hown, hts⟩ (c_X5_isYesOrNo l D cI cC cZ cS is) (va_cwS 1 hts gX5_tells_X5_isYesOrNo rfl rfl rfl (by decide +kernel) ⟨Nat.le_of_ble_eq_true rfl, Nat.le_of_ble_eq_true rfl⟩) (preS_of hPc hDc hE) rfl rfl hl.1 rfl (lv_room (Nat.le_of_ble_eq_true rfl)) dX5_tells_12 ⟨Nat.zero_le _, Nat.zero_le _⟩) ?_
    refine W.eq (g2 := F0 m 15 ls [.int (d_X5_isYesOrNo is)]) rfl ?_
    refine lv_if_ne (tgt := 20) hx hb dX5_tells_15 (by decide) (fun c_2 => ?_) (fun c_2 => ?_)
    · skip
      rw [if_neg c_2] at hres
      refine lv_aload_n hx hb dX5_tells_20 rfl (lv_at hl 0 rfl) ?_
      refine va_get (D := D) (ci := 5) (v := .ref (b 0)) (C := RX5) (T := TX5) (N := 10) hx hb hts hinX5 hown hK hP 0 rfl rfl 5 (by decide) (hts (.fieldLink RX5 39 "FirstOut" "past" "LFirstOut$Past;") (by decide +kernel)) (fun _ h9 => h9) rfl dX5_tells_21 ?_
      refine lv_aload_n hx hb dX5_tells_24 rfl (lv_at hl 0 rfl) ?_
      refine va_get (D := D) (ci := 5) (v := .ref (b 12)) (C := RX5) (T := TX5) (N := 10) hx hb hts hinX5 hown hK hP 0 rfl rfl 3 (by decide) (hts (.fieldLink RX5 29 "FirstOut" "current" "LFirstOut$Standing;") (by decide +kernel)) (fun _ h9 => h9) rfl dX5_tells_25 ?_
      have hPc := hP.sub (ws' := (wP cI cC cZ cS b (pF F))) [13, 14, 15, 16, 17, 18, 19, 20, 21, 22, 23, 24, 11] rfl
      have hDc := hD.sub (ws' := (wP cI cC cZ cS b (pF F))) [13, 14, 15, 16, 17, 18, 19, 20, 21, 22, 23, 24, 11] (by decide) rfl
      refine m_callM (W.runV (As := [.ref (b 12)]) (rest := []) ⟨hx, hb, hml, hown, hts⟩ (c_X1_push l D cI cC cZ cS b (pF F) nx hnx hx10) (cwV 1 hts gX5_tells_X1_push rfl rfl rfl (by decide +kernel) ⟨Nat.le_of_ble_eq_true rfl, Nat.le_of_ble_eq_true rfl⟩) (preV_of hPc hDc hE (va_recv hK hPc (ci := 1) (q0 := 0) rfl rfl)) rfl rfl hl.1 rfl (lv_room (Nat.le_of_ble_eq_true rfl)) dX5_tells_28 ⟨Nat.zero_le _, Nat.zero_le _⟩) hP hD hS [13, 14, 15, 16, 17, 18, 19, 20, 21, 22, 23, 24, 11] rfl wP_ad (fun H locs hP hD hS => ?_)
      have hP : va_P D vwCl (wF cI cC cZ cS a b (putP F (d_X1_push (pF F))) tc) H := hP
      have hD : va_D A (wF cI cC cZ cS a b (putP F (d_X1_push (pF F))) tc) := hD
      refine W.eq (g2 := F0 m 31 ls []) rfl ?_
      refine opq (d_X1_push (pF F)) (fun r_3 hr_3 => ?_)
      try rw [hr_3] at hP
      try rw [hr_3] at hD
      try rw [hr_3] at hres
      try rw [hr_3]
      refine lv_aload_n hx hb dX5_tells_31 rfl (lv_at hl 0 rfl) ?_
      refine va_get (D := D) (ci := 5) (v := .ref (b 12)) (C := RX5) (T := TX5) (N := 10) hx hb hts hinX5 hown hK hP 0 rfl rfl 3 (by decide) (hts (.fieldLink RX5 29 "FirstOut" "current" "LFirstOut$Standing;") (by decide +kernel)) (fun _ h9 => h9) rfl dX5_tells_32 ?_
      refine va_get (D := D) (ci := 3) (v := .int (((putP F r_3) 11) 1)) (C := RX3) (T := TX3) (N := 5) hx hb hts hinX3 hown hK hP 11 rfl rfl 1 (by decide) (hts (.fieldLink RX5 90 "FirstOut$Standing" "knowing" "I") (by decide +kernel)) (fun _ h9 => h9) rfl dX5_tells_35 ?_
      refine lv_iload_n hx hb dX5_tells_38 rfl (lv_at hl 1 rfl) ?_
      have hPc := hP.sub (ws' := []) [] rfl
      have hDc := hD.sub (ws' := []) [] (by decide) rfl
      refine m_callR (W.runS (As := [.int (((putP F r_3) 11) 1), .int t]) (rest := []) ⟨hx, hb, hml, hown, hts⟩ (c_X5_bitOf l D cI cC cZ cS (((putP F r_3) 11) 1) t) (va_cwS 2 hts gX5_tells_X5_bitOf rfl rfl rfl (by decide +kernel) ⟨Nat.le_of_ble_eq_true rfl, Nat.le_of_ble_eq_true rfl⟩) (preS_of hPc hDc hE) rfl rfl hl.1 rfl (lv_room (Nat.le_of_ble_eq_true rfl)) dX5_tells_39 ⟨Nat.zero_le _, Nat.zero_le _⟩) ?_
      refine W.eq (g2 := F0 m 42 ls [.int (d_X5_bitOf (((putP F r_3) 11) 1) t)]) rfl ?_
      refine lv_istore_n (lv' := [(3, .int (d_X5_bitOf (((putP F r_3) 11) 1) t)), (0, .ref (a 0)), (1, .int t), (2, .int is)]) hx hb dX5_tells_42 rfl hl (by decide) rfl (fun ls hl => ?_)
      refine lv_aload_n hx hb dX5_tells_43 rfl (lv_at hl 1 rfl) ?_
      refine va_get (D := D) (ci := 5) (v := .ref (b 12)) (C := RX5) (T := TX5) (N := 10) hx hb hts hinX5 hown hK hP 0 rfl rfl 3 (by decide) (hts (.fieldLink RX5 29 "FirstOut" "current" "LFirstOut$Standing;") (by decide +kernel)) (fun _ h9 => h9) rfl dX5_tells_44 ?_
      refine lv_aload_n hx hb dX5_tells_47 rfl (lv_at hl 1 rfl) ?_
      refine va_get (D := D) (ci := 5) (v := .ref (b 12)) (C := RX5) (T := TX5) (N := 10) hx hb hts hinX5 hown hK hP 0 rfl rfl 3 (by decide) (hts (.fieldLink RX5 29 "FirstOut" "current" "LFirstOut$Standing;") (by decide +kernel)) (fun _ h9 => h9) rfl dX5_tells_48 ?_
      refine va_get (D := D) (ci := 3) (v := .int (((putP F r_3) 11) 1)) (C := RX3) (T := TX3) (N := 5) hx hb hts hinX3 hown hK hP 11 rfl rfl 1 (by decide) (hts (.fieldLink RX5 90 "FirstOut$Standing" "knowing" "I") (by decide +kernel)) (fun _ h9 => h9) rfl dX5_tells_51 ?_
      refine lv_iload_n hx hb dX5_tells_54 rfl (lv_at hl 2 rfl) ?_
      refine lv_iload_n hx hb dX5_tells_55 rfl (lv_at hl 3 rfl) ?_
      have hPc := hP.sub (ws' := []) [] rfl
      have hDc := hD.sub (ws' := []) [] (by decide) rfl
      refine m_callR (W.runS (As := [.int (((putP F r_3) 11) 1), .int t, .int is]) (rest := [.ref (b 12)]) ⟨hx, hb, hml, hown, hts⟩ (c_X5_withBit l D cI cC cZ cS (((putP F r_3) 11) 1) t is) (va_cwS 3 hts gX5_tells_X5_withBit rfl rfl rfl (by decide +kernel) ⟨Nat.le_of_ble_eq_true rfl, Nat.le_of_ble_eq_true rfl⟩) (preS_of hPc hDc hE) rfl rfl hl.1 rfl (lv_room (Nat.le_of_ble_eq_true rfl)) dX5_tells_56 ⟨Nat.zero_le _, Nat.zero_le _⟩) ?_
      refine W.eq (g2 := F0 m 59 ls [.int (d_X5_withBit (((putP F r_3) 11) 1) t is), .ref (b 12)]) rfl ?_
      refine va_put (D := D) (ci := 3) (v := .int (d_X5_withBit (((putP F r_3) 11) 1) t is)) (ty := .int) (C := RX3) (T := TX3) (N := 5) hx hb hts hinX3 tyX3 tyX3_ok nmX3 hown hK hP hD hS 11 rfl rfl 1 (by decide) (hts (.fieldLink RX5 90 "FirstOut$Standing" "knowing" "I") (by decide +kernel)) (fun _ h9 => h9) rfl (by decide +kernel) rfl rfl (Nat.le_of_ble_eq_true rfl) dX5_tells_59 (fun H locs hP hD hS => ?_)
      have hP : va_P D vwCl (wF cI cC cZ cS a b (va_up (putP F r_3) 11 (upd ((putP F r_3) 11) 1 (d_X5_withBit (((putP F r_3) 11) 1) t is))) tc) H := hP
      have hD : va_D A (wF cI cC cZ cS a b (va_up (putP F r_3) 11 (upd ((putP F r_3) 11) 1 (d_X5_withBit (((putP F r_3) 11) 1) t is))) tc) := hD
      refine lv_iload_n hx hb dX5_tells_62 rfl (lv_at hl 0 rfl) ?_
      rw [hres]
      exact W.iret (v := d_X5_bitOf (((putP F r_3) 11) 1) t) hx hb hr (fun t ht hW => ⟨rfl, by rw [ht]; exact hP, by rw [hA]; exact hS.F ht⟩) hS.2.2 dX5_tells_63
    · skip
      rw [if_pos c_2] at hres
      refine lv_iconst (v := (-1)) hx hb dX5_tells_18 (by decide) ?_
      rw [hres]
      exact W.iret (v := (-1)) hx hb hr (fun t ht hW => ⟨rfl, by rw [ht]; exact hP, by rw [hA]; exact hS.F ht⟩) hS.2.2 dX5_tells_19
def d_X5_day (F : Nat → Nat → Int32) (z : Int32) (n : Nat) : Int32 × (Nat → Nat → Int32) :=
  if (d_X5_isZ z) = 0 then
      ((-1), F)
    else
      if (F 11 4) < (999 : Int32) then
        ((d_X5_passDay ((putP F (d_X1_push (pF F))) 2) ((putP F (d_X1_push (pF F))) 4) ((putP F (d_X1_push (pF F))) 11) z n).1, (va_up (putP F (d_X1_push (pF F))) 11 ((d_X5_passDay ((putP F (d_X1_push (pF F))) 2) ((putP F (d_X1_push (pF F))) 4) ((putP F (d_X1_push (pF F))) 11) z n).2)))
      else
        ((-2), F)
set_option maxHeartbeats 4000000 in
set_option maxRecDepth 100000 in
theorem c_X5_day (l : Launch) (D : va_G) (cI cC cZ cS : ClassId) (a : Nat → Nat) (b : Nat → Nat) (F : Nat → Nat → Int32) (tc : Int64) (z : Int32) (n : Nat) (nx : Nat) (hn : F 1 3 = nI n) (h7 : n ≤ 7) (hnx : F 13 1 = nI nx) (hx10 : nx < 10) : Met l yX5_day wsX5_day { frames := 4, cells := 0, slots := 0, locals := 92 } (PcE D cI cC cZ cS [.ref (a 0), .int z] (wF cI cC cZ cS a b F tc)) (QcM (some (.int ((d_X5_day F z n).1))) D (wF cI cC cZ cS a b F tc) (wF cI cC cZ cS a b ((d_X5_day F z n).2) tc)) 0 0 (inW (wF cI cC cZ cS a b F tc)) := by
  refine Met.ofW (cc := cX5_day) (maxL := 2) (ret := (some .int)) (by decide) rfl ?_
  intro p e s m args below meth c s₁ B hml hv
  obtain ⟨rfl, hP, hD, hE⟩ := hv
  have hK := hE.1
  have hx := B.exec
  have hb := B.bytes
  have hr := B.returns
  have hts := atoms_spec (ws := wsX5_day) B.pre
  have hown : s.vm.findClass RX5 = some m.cls := findClass_of_methodNamed B.named
  have hlocks := B.notSynchronized
  have hinX5 : ∀ w ∈ wsX50, w ∈ wsX5_day := by decide +kernel
  have hinX3 : ∀ w ∈ wsX30, w ∈ wsX5_day := by decide +kernel
  have hD := inW_self hD
  have hS : va_S (inW (wF cI cC cZ cS a b F tc)) s.heap s.heap [] := va_S.rf
  generalize hA : inW (wF cI cC cZ cS a b F tc) = A at hD hS ⊢
  refine opq (d_X5_day F z n) (fun R hres => ?_)
  rw [hres]
  replace hres := hres.symm
  rw [d_X5_day] at hres
  have hl := lv_entry ([.ref (a 0), .int z]) (n := 2) (Nat.le_of_ble_eq_true rfl)
  rw [lg_entry_eq]
  generalize (lg_sl ([.ref (a 0), .int z]) ++ List.replicate (2 - (lg_sl ([.ref (a 0), .int z])).length) Slot.unset).toArray = ls at hl ⊢
  have hl : lv_has ls 2 [(0, .ref (a 0)), (1, .int z)] := hl
  refine lv_iload_n hx hb dX5_day_0 rfl (lv_at hl 1 rfl) ?_
  have hPc := hP.sub (ws' := []) [] rfl
  have hDc := hD.sub (ws' := []) [] (by decide) rfl
  refine m_callR (W.runS (As := [.int z]) (rest := []) ⟨hx, hb, hml, hown, hts⟩ (c_X5_isZ l D cI cC cZ cS z) (va_cwS 1 hts gX5_day_X5_isZ rfl rfl rfl (by decide +kernel) ⟨Nat.le_of_ble_eq_true rfl, Nat.le_of_ble_eq_true rfl⟩) (preS_of hPc hDc hE) rfl rfl hl.1 rfl (lv_room (Nat.le_of_ble_eq_true rfl)) dX5_day_1 ⟨Nat.zero_le _, Nat.zero_le _⟩) ?_
  refine W.eq (g2 := F0 m 4 ls [.int (d_X5_isZ z)]) rfl ?_
  refine lv_if_ne (tgt := 9) hx hb dX5_day_4 (by decide) (fun c_1 => ?_) (fun c_1 => ?_)
  · skip
    rw [if_neg c_1] at hres
    refine lv_aload_n hx hb dX5_day_9 rfl (lv_at hl 0 rfl) ?_
    refine va_get (D := D) (ci := 5) (v := .ref (b 12)) (C := RX5) (T := TX5) (N := 10) hx hb hts hinX5 hown hK hP 0 rfl rfl 3 (by decide) (hts (.fieldLink RX5 29 "FirstOut" "current" "LFirstOut$Standing;") (by decide +kernel)) (fun _ h9 => h9) rfl dX5_day_10 ?_
    refine va_get (D := D) (ci := 3) (v := .int (F 11 4)) (C := RX3) (T := TX3) (N := 5) hx hb hts hinX3 hown hK hP 11 rfl rfl 4 (by decide) (hts (.fieldLink RX5 110 "FirstOut$Standing" "date" "I") (by decide +kernel)) (fun _ h9 => h9) rfl dX5_day_13 ?_
    refine lv_sipush (v := 999) hx hb dX5_day_16 (by decide) ?_
    refine lv_icmp_lt (tgt := 25) hx hb dX5_day_19 (by decide) (fun c_2 => ?_) (fun c_2 => ?_)
    · skip
      rw [if_pos c_2] at hres
      refine lv_aload_n hx hb dX5_day_25 rfl (lv_at hl 0 rfl) ?_
      refine va_get (D := D) (ci := 5) (v := .ref (b 0)) (C := RX5) (T := TX5) (N := 10) hx hb hts hinX5 hown hK hP 0 rfl rfl 5 (by decide) (hts (.fieldLink RX5 39 "FirstOut" "past" "LFirstOut$Past;") (by decide +kernel)) (fun _ h9 => h9) rfl dX5_day_26 ?_
      refine lv_aload_n hx hb dX5_day_29 rfl (lv_at hl 0 rfl) ?_
      refine va_get (D := D) (ci := 5) (v := .ref (b 12)) (C := RX5) (T := TX5) (N := 10) hx hb hts hinX5 hown hK hP 0 rfl rfl 3 (by decide) (hts (.fieldLink RX5 29 "FirstOut" "current" "LFirstOut$Standing;") (by decide +kernel)) (fun _ h9 => h9) rfl dX5_day_30 ?_
      have hPc := hP.sub (ws' := (wP cI cC cZ cS b (pF F))) [13, 14, 15, 16, 17, 18, 19, 20, 21, 22, 23, 24, 11] rfl
      have hDc := hD.sub (ws' := (wP cI cC cZ cS b (pF F))) [13, 14, 15, 16, 17, 18, 19, 20, 21, 22, 23, 24, 11] (by decide) rfl
      refine m_callM (W.runV (As := [.ref (b 12)]) (rest := []) ⟨hx, hb, hml, hown, hts⟩ (c_X1_push l D cI cC cZ cS b (pF F) nx hnx hx10) (cwV 1 hts gX5_day_X1_push rfl rfl rfl (by decide +kernel) ⟨Nat.le_of_ble_eq_true rfl, Nat.le_of_ble_eq_true rfl⟩) (preV_of hPc hDc hE (va_recv hK hPc (ci := 1) (q0 := 0) rfl rfl)) rfl rfl hl.1 rfl (lv_room (Nat.le_of_ble_eq_true rfl)) dX5_day_33 ⟨Nat.zero_le _, Nat.zero_le _⟩) hP hD hS [13, 14, 15, 16, 17, 18, 19, 20, 21, 22, 23, 24, 11] rfl wP_ad (fun H locs hP hD hS => ?_)
      have hP : va_P D vwCl (wF cI cC cZ cS a b (putP F (d_X1_push (pF F))) tc) H := hP
      have hD : va_D A (wF cI cC cZ cS a b (putP F (d_X1_push (pF F))) tc) := hD
      refine W.eq (g2 := F0 m 36 ls []) rfl ?_
      refine opq (d_X1_push (pF F)) (fun r_3 hr_3 => ?_)
      try rw [hr_3] at hP
      try rw [hr_3] at hD
      try rw [hr_3] at hres
      try rw [hr_3]
      refine lv_aload_n hx hb dX5_day_36 rfl (lv_at hl 0 rfl) ?_
      refine lv_aload_n hx hb dX5_day_37 rfl (lv_at hl 0 rfl) ?_
      refine va_get (D := D) (ci := 5) (v := .ref (b 12)) (C := RX5) (T := TX5) (N := 10) hx hb hts hinX5 hown hK hP 0 rfl rfl 3 (by decide) (hts (.fieldLink RX5 29 "FirstOut" "current" "LFirstOut$Standing;") (by decide +kernel)) (fun _ h9 => h9) rfl dX5_day_38 ?_
      refine lv_iload_n hx hb dX5_day_41 rfl (lv_at hl 1 rfl) ?_
      have hPc := hP.sub (ws' := (wXS cI cC cZ cS a b (b 12) ((putP F r_3) 1) ((putP F r_3) 2) ((putP F r_3) 3) ((putP F r_3) 4) ((putP F r_3) 11) tc)) [0, 1, 2, 3, 4, 11] rfl
      have hDc := hD.sub (ws' := (wXS cI cC cZ cS a b (b 12) ((putP F r_3) 1) ((putP F r_3) 2) ((putP F r_3) 3) ((putP F r_3) 4) ((putP F r_3) 11) tc)) [0, 1, 2, 3, 4, 11] (by decide) rfl
      refine m_callM (W.runV (As := [.ref (b 12), .int z]) (rest := []) ⟨hx, hb, hml, hown, hts⟩ (c_X5_passDay l D cI cC cZ cS a b (b 12) ((putP F r_3) 1) ((putP F r_3) 2) ((putP F r_3) 3) ((putP F r_3) 4) ((putP F r_3) 11) tc z n hn h7) (cwV 2 hts gX5_day_X5_passDay rfl rfl rfl (by decide +kernel) ⟨Nat.le_of_ble_eq_true rfl, Nat.le_of_ble_eq_true rfl⟩) (preV_of hPc hDc hE (va_recv hK hPc (ci := 5) (q0 := 0) rfl rfl)) rfl rfl hl.1 rfl (lv_room (Nat.le_of_ble_eq_true rfl)) dX5_day_42 ⟨Nat.zero_le _, Nat.zero_le _⟩) hP hD hS [0, 1, 2, 3, 4, 11] rfl wXS_ad (fun H locs hP hD hS => ?_)
      have hP : va_P D vwCl (wF cI cC cZ cS a b (va_up (putP F r_3) 11 ((d_X5_passDay ((putP F r_3) 2) ((putP F r_3) 4) ((putP F r_3) 11) z n).2)) tc) H := hP
      have hD : va_D A (wF cI cC cZ cS a b (va_up (putP F r_3) 11 ((d_X5_passDay ((putP F r_3) 2) ((putP F r_3) 4) ((putP F r_3) 11) z n).2)) tc) := hD
      refine W.eq (g2 := F0 m 45 ls [.int ((d_X5_passDay ((putP F r_3) 2) ((putP F r_3) 4) ((putP F r_3) 11) z n).1)]) rfl ?_
      refine opq (d_X5_passDay ((putP F r_3) 2) ((putP F r_3) 4) ((putP F r_3) 11) z n) (fun r_4 hr_4 => ?_)
      try rw [hr_4] at hP
      try rw [hr_4] at hD
      try rw [hr_4] at hres
      try rw [hr_4]
      rw [hres]
      exact W.iret (v := r_4.1) hx hb hr (fun t ht hW => ⟨rfl, by rw [ht]; exact hP, by rw [hA]; exact hS.F ht⟩) hS.2.2 dX5_day_45
    · skip
      rw [if_neg c_2] at hres
      refine lv_bipush (v := (-2)) hx hb dX5_day_22 (by decide) ?_
      rw [hres]
      exact W.iret (v := (-2)) hx hb hr (fun t ht hW => ⟨rfl, by rw [ht]; exact hP, by rw [hA]; exact hS.F ht⟩) hS.2.2 dX5_day_24
  · skip
    rw [if_pos c_1] at hres
    refine lv_iconst (v := (-1)) hx hb dX5_day_7 (by decide) ?_
    rw [hres]
    exact W.iret (v := (-1)) hx hb hr (fun t ht hW => ⟨rfl, by rw [ht]; exact hP, by rw [hA]; exact hS.F ht⟩) hS.2.2 dX5_day_8
def d_X5_undo (F : Nat → Nat → Int32) : Int32 × (Nat → Nat → Int32) :=
  if (F 13 2) = 0 then
      ((-2), F)
    else
      ((((putP F (d_X1_pop (pF F))) 13) 2), (putP F (d_X1_pop (pF F))))
set_option maxHeartbeats 4000000 in
set_option maxRecDepth 100000 in
theorem c_X5_undo (l : Launch) (D : va_G) (cI cC cZ cS : ClassId) (a : Nat → Nat) (b : Nat → Nat) (F : Nat → Nat → Int32) (tc : Int64) (nx : Nat) (hnx : F 13 1 = nI nx) (hx10 : nx < 10) : Met l yX5_undo wsX5_undo { frames := 2, cells := 0, slots := 0, locals := 42 } (PcE D cI cC cZ cS [.ref (a 0)] (wF cI cC cZ cS a b F tc)) (QcM (some (.int ((d_X5_undo F).1))) D (wF cI cC cZ cS a b F tc) (wF cI cC cZ cS a b ((d_X5_undo F).2) tc)) 0 0 (inW (wF cI cC cZ cS a b F tc)) := by
  refine Met.ofW (cc := cX5_undo) (maxL := 1) (ret := (some .int)) (by decide) rfl ?_
  intro p e s m args below meth c s₁ B hml hv
  obtain ⟨rfl, hP, hD, hE⟩ := hv
  have hK := hE.1
  have hx := B.exec
  have hb := B.bytes
  have hr := B.returns
  have hts := atoms_spec (ws := wsX5_undo) B.pre
  have hown : s.vm.findClass RX5 = some m.cls := findClass_of_methodNamed B.named
  have hlocks := B.notSynchronized
  have hinX5 : ∀ w ∈ wsX50, w ∈ wsX5_undo := by decide +kernel
  have hinX1 : ∀ w ∈ wsX10, w ∈ wsX5_undo := by decide +kernel
  have hD := inW_self hD
  have hS : va_S (inW (wF cI cC cZ cS a b F tc)) s.heap s.heap [] := va_S.rf
  generalize hA : inW (wF cI cC cZ cS a b F tc) = A at hD hS ⊢
  refine opq (d_X5_undo F) (fun R hres => ?_)
  rw [hres]
  replace hres := hres.symm
  rw [d_X5_undo] at hres
  have hl := lv_entry ([.ref (a 0)]) (n := 1) (Nat.le_of_ble_eq_true rfl)
  rw [lg_entry_eq]
  generalize (lg_sl ([.ref (a 0)]) ++ List.replicate (1 - (lg_sl ([.ref (a 0)])).length) Slot.unset).toArray = ls at hl ⊢
  have hl : lv_has ls 1 [(0, .ref (a 0))] := hl
  refine lv_aload_n hx hb dX5_undo_0 rfl (lv_at hl 0 rfl) ?_
  refine va_get (D := D) (ci := 5) (v := .ref (b 0)) (C := RX5) (T := TX5) (N := 10) hx hb hts hinX5 hown hK hP 0 rfl rfl 5 (by decide) (hts (.fieldLink RX5 39 "FirstOut" "past" "LFirstOut$Past;") (by decide +kernel)) (fun _ h9 => h9) rfl dX5_undo_1 ?_
  refine va_get (D := D) (ci := 1) (v := .int (F 13 2)) (C := RX1) (T := TX1) (N := 3) hx hb hts hinX1 hown hK hP 13 rfl rfl 2 (by decide) (hts (.fieldLink RX5 120 "FirstOut$Past" "known" "I") (by decide +kernel)) (fun _ h9 => h9) rfl dX5_undo_4 ?_
  refine lv_if_ne (tgt := 13) hx hb dX5_undo_7 (by decide) (fun c_1 => ?_) (fun c_1 => ?_)
  · skip
    rw [if_neg c_1] at hres
    refine lv_aload_n hx hb dX5_undo_13 rfl (lv_at hl 0 rfl) ?_
    refine va_get (D := D) (ci := 5) (v := .ref (b 0)) (C := RX5) (T := TX5) (N := 10) hx hb hts hinX5 hown hK hP 0 rfl rfl 5 (by decide) (hts (.fieldLink RX5 39 "FirstOut" "past" "LFirstOut$Past;") (by decide +kernel)) (fun _ h9 => h9) rfl dX5_undo_14 ?_
    refine lv_aload_n hx hb dX5_undo_17 rfl (lv_at hl 0 rfl) ?_
    refine va_get (D := D) (ci := 5) (v := .ref (b 12)) (C := RX5) (T := TX5) (N := 10) hx hb hts hinX5 hown hK hP 0 rfl rfl 3 (by decide) (hts (.fieldLink RX5 29 "FirstOut" "current" "LFirstOut$Standing;") (by decide +kernel)) (fun _ h9 => h9) rfl dX5_undo_18 ?_
    have hPc := hP.sub (ws' := (wP cI cC cZ cS b (pF F))) [13, 14, 15, 16, 17, 18, 19, 20, 21, 22, 23, 24, 11] rfl
    have hDc := hD.sub (ws' := (wP cI cC cZ cS b (pF F))) [13, 14, 15, 16, 17, 18, 19, 20, 21, 22, 23, 24, 11] (by decide) rfl
    refine m_callM (W.runV (As := [.ref (b 12)]) (rest := []) ⟨hx, hb, hml, hown, hts⟩ (c_X1_pop l D cI cC cZ cS b (pF F) nx hnx hx10) (cwV 1 hts gX5_undo_X1_pop rfl rfl rfl (by decide +kernel) ⟨Nat.le_of_ble_eq_true rfl, Nat.le_of_ble_eq_true rfl⟩) (preV_of hPc hDc hE (va_recv hK hPc (ci := 1) (q0 := 0) rfl rfl)) rfl rfl hl.1 rfl (lv_room (Nat.le_of_ble_eq_true rfl)) dX5_undo_21 ⟨Nat.zero_le _, Nat.zero_le _⟩) hP hD hS [13, 14, 15, 16, 17, 18, 19, 20, 21, 22, 23, 24, 11] rfl wP_ad (fun H locs hP hD hS => ?_)
    have hP : va_P D vwCl (wF cI cC cZ cS a b (putP F (d_X1_pop (pF F))) tc) H := hP
    have hD : va_D A (wF cI cC cZ cS a b (putP F (d_X1_pop (pF F))) tc) := hD
    refine W.eq (g2 := F0 m 24 ls []) rfl ?_
    refine opq (d_X1_pop (pF F)) (fun r_2 hr_2 => ?_)
    try rw [hr_2] at hP
    try rw [hr_2] at hD
    try rw [hr_2] at hres
    try rw [hr_2]
    refine lv_aload_n hx hb dX5_undo_24 rfl (lv_at hl 0 rfl) ?_
    refine va_get (D := D) (ci := 5) (v := .ref (b 0)) (C := RX5) (T := TX5) (N := 10) hx hb hts hinX5 hown hK hP 0 rfl rfl 5 (by decide) (hts (.fieldLink RX5 39 "FirstOut" "past" "LFirstOut$Past;") (by decide +kernel)) (fun _ h9 => h9) rfl dX5_undo_25 ?_
    refine va_get (D := D) (ci := 1) (v := .int (((putP F r_2) 13) 2)) (C := RX1) (T := TX1) (N := 3) hx hb hts hinX1 hown hK hP 13 rfl rfl 2 (by decide) (hts (.fieldLink RX5 120 "FirstOut$Past" "known" "I") (by decide +kernel)) (fun _ h9 => h9) rfl dX5_undo_28 ?_
    rw [hres]
    exact W.iret (v := (((putP F r_2) 13) 2)) hx hb hr (fun t ht hW => ⟨rfl, by rw [ht]; exact hP, by rw [hA]; exact hS.F ht⟩) hS.2.2 dX5_undo_31
  · skip
    rw [if_pos c_1] at hres
    refine lv_bipush (v := (-2)) hx hb dX5_undo_10 (by decide) ?_
    rw [hres]
    exact W.iret (v := (-2)) hx hb hr (fun t ht hW => ⟨rfl, by rw [ht]; exact hP, by rw [hA]; exact hS.F ht⟩) hS.2.2 dX5_undo_12
def d_X5_saw (F : Nat → Nat → Int32) (t : Int32) (given : Int32) (sk : Nat) : Int32 × (Nat → Nat → Int32) :=
  if (d_X0_holds (F 1) t) = 0 then
      ((-1), F)
    else
      if (d_X5_isYesOrNo given) = 0 then
        ((-1), F)
      else
        if ((d_X2_add (F 29) (F 30) (F 31) t given sk).1) = 0 then
          ((-3), (va_up (va_up (va_up F 29 ((d_X2_add (F 29) (F 30) (F 31) t given sk).2.1)) 30 ((d_X2_add (F 29) (F 30) (F 31) t given sk).2.2.1)) 31 ((d_X2_add (F 29) (F 30) (F 31) t given sk).2.2.2)))
        else
          ((((d_X2_add (F 29) (F 30) (F 31) t given sk).2.1) 2), (va_up (va_up (va_up F 29 ((d_X2_add (F 29) (F 30) (F 31) t given sk).2.1)) 30 ((d_X2_add (F 29) (F 30) (F 31) t given sk).2.2.1)) 31 ((d_X2_add (F 29) (F 30) (F 31) t given sk).2.2.2)))
set_option maxHeartbeats 4000000 in
set_option maxRecDepth 100000 in
theorem c_X5_saw (l : Launch) (D : va_G) (cI cC cZ cS : ClassId) (a : Nat → Nat) (b : Nat → Nat) (F : Nat → Nat → Int32) (tc : Int64) (t : Int32) (given : Int32) (n : Nat) (sk : Nat) (hn : F 1 3 = nI n) (h7 : n ≤ 7) (hsk : F 29 2 = nI sk) (hs6 : sk ≤ 6) : Met l yX5_saw wsX5_saw { frames := 1, cells := 0, slots := 0, locals := 22 } (PcE D cI cC cZ cS [.ref (a 0), .int t, .int given] (wF cI cC cZ cS a b F tc)) (QcM (some (.int ((d_X5_saw F t given sk).1))) D (wF cI cC cZ cS a b F tc) (wF cI cC cZ cS a b ((d_X5_saw F t given sk).2) tc)) 0 0 (inW (wF cI cC cZ cS a b F tc)) := by
  refine Met.ofW (cc := cX5_saw) (maxL := 3) (ret := (some .int)) (by decide) rfl ?_
  intro p e s m args below meth c s₁ B hml hv
  obtain ⟨rfl, hP, hD, hE⟩ := hv
  have hK := hE.1
  have hx := B.exec
  have hb := B.bytes
  have hr := B.returns
  have hts := atoms_spec (ws := wsX5_saw) B.pre
  have hown : s.vm.findClass RX5 = some m.cls := findClass_of_methodNamed B.named
  have hlocks := B.notSynchronized
  have hinX5 : ∀ w ∈ wsX50, w ∈ wsX5_saw := by decide +kernel
  have hinX2 : ∀ w ∈ wsX20, w ∈ wsX5_saw := by decide +kernel
  have hD := inW_self hD
  have hS : va_S (inW (wF cI cC cZ cS a b F tc)) s.heap s.heap [] := va_S.rf
  generalize hA : inW (wF cI cC cZ cS a b F tc) = A at hD hS ⊢
  refine opq (d_X5_saw F t given sk) (fun R hres => ?_)
  rw [hres]
  replace hres := hres.symm
  rw [d_X5_saw] at hres
  have hl := lv_entry ([.ref (a 0), .int t, .int given]) (n := 3) (Nat.le_of_ble_eq_true rfl)
  rw [lg_entry_eq]
  generalize (lg_sl ([.ref (a 0), .int t, .int given]) ++ List.replicate (3 - (lg_sl ([.ref (a 0), .int t, .int given])).length) Slot.unset).toArray = ls at hl ⊢
  have hl : lv_has ls 3 [(0, .ref (a 0)), (1, .int t), (2, .int given)] := hl
  refine lv_aload_n hx hb dX5_saw_0 rfl (lv_at hl 0 rfl) ?_
  refine va_get (D := D) (ci := 5) (v := .ref (a 1)) (C := RX5) (T := TX5) (N := 10) hx hb hts hinX5 hown hK hP 0 rfl rfl 0 (by decide) (hts (.fieldLink RX5 10 "FirstOut" "home" "LFirstOut$House;") (by decide +kernel)) (fun _ h9 => h9) rfl dX5_saw_1 ?_
  refine lv_iload_n hx hb dX5_saw_4 rfl (lv_at hl 1 rfl) ?_
  have hPc := hP.sub (ws' := (wH cI cC cZ cS (a 1) (a 2) (a 3) (a 4) (F 1) (F 2) (F 3) (F 4))) [1, 2, 3, 4] rfl
  have hDc := hD.sub (ws' := (wH cI cC cZ cS (a 1) (a 2) (a 3) (a 4) (F 1) (F 2) (F 3) (F 4))) [1, 2, 3, 4] (by decide) rfl
  refine m_callR (W.runV (As := [.int t]) (rest := []) ⟨hx, hb, hml, hown, hts⟩ (c_X0_holds l D cI cC cZ cS (a 1) (a 2) (a 3) (a 4) (F 1) (F 2) (F 3) (F 4) t) (cwV 1 hts gX5_saw_X0_holds rfl rfl rfl (by decide +kernel) ⟨Nat.le_of_ble_eq_true rfl, Nat.le_of_ble_eq_true rfl⟩) (preV_of hPc hDc hE (va_recv hK hPc (ci := 0) (q0 := 0) rfl rfl)) rfl rfl hl.1 rfl (lv_room (Nat.le_of_ble_eq_true rfl)) dX5_saw_5 ⟨Nat.zero_le _, Nat.zero_le _⟩) ?_
  refine W.eq (g2 := F0 m 8 ls [.int (d_X0_holds (F 1) t)]) rfl ?_
  refine lv_if_eq (tgt := 18) hx hb dX5_saw_8 (by decide) (fun c_1 => ?_) (fun c_1 => ?_)
  · skip
    rw [if_pos c_1] at hres
    refine lv_iconst (v := (-1)) hx hb dX5_saw_18 (by decide) ?_
    rw [hres]
    exact W.iret (v := (-1)) hx hb hr (fun t ht hW => ⟨rfl, by rw [ht]; exact hP, by rw [hA]; exact hS.F ht⟩) hS.2.2 dX5_saw_19
  · skip
    rw [if_neg c_1] at hres
    refine lv_iload_n hx hb dX5_saw_11 rfl (lv_at hl 2 rfl) ?_
    have hPc := hP.sub (ws' := []) [] rfl
    have hDc := hD.sub (ws' := []) [] (by decide) rfl
    refine m_callR (W.runS (As := [.int given]) (rest := []) ⟨hx, hb, hml, hown, hts⟩ (c_X5_isYesOrNo l D cI cC cZ cS given) (va_cwS 1 hts gX5_saw_X5_isYesOrNo rfl rfl rfl (by decide +kernel) ⟨Nat.le_of_ble_eq_true rfl, Nat.le_of_ble_eq_true rfl⟩) (preS_of hPc hDc hE) rfl rfl hl.1 rfl (lv_room (Nat.le_of_ble_eq_true rfl)) dX5_saw_12 ⟨Nat.zero_le _, Nat.zero_le _⟩) ?_
    refine W.eq (g2 := F0 m 15 ls [.int (d_X5_isYesOrNo given)]) rfl ?_
    refine lv_if_ne (tgt := 20) hx hb dX5_saw_15 (by decide) (fun c_2 => ?_) (fun c_2 => ?_)
    · skip
      rw [if_neg c_2] at hres
      refine lv_aload_n hx hb dX5_saw_20 rfl (lv_at hl 0 rfl) ?_
      refine va_get (D := D) (ci := 5) (v := .ref (a 29)) (C := RX5) (T := TX5) (N := 10) hx hb hts hinX5 hown hK hP 0 rfl rfl 8 (by decide) (hts (.fieldLink RX5 54 "FirstOut" "seen" "LFirstOut$Seen;") (by decide +kernel)) (fun _ h9 => h9) rfl dX5_saw_21 ?_
      refine lv_iload_n hx hb dX5_saw_24 rfl (lv_at hl 1 rfl) ?_
      refine lv_iload_n hx hb dX5_saw_25 rfl (lv_at hl 2 rfl) ?_
      have hPc := hP.sub (ws' := (wN cI cC cZ cS (a 29) (a 30) (a 31) (F 29) (F 30) (F 31))) [29, 30, 31] rfl
      have hDc := hD.sub (ws' := (wN cI cC cZ cS (a 29) (a 30) (a 31) (F 29) (F 30) (F 31))) [29, 30, 31] (by decide) rfl
      refine m_callM (W.runV (As := [.int t, .int given]) (rest := []) ⟨hx, hb, hml, hown, hts⟩ (c_X2_add l D cI cC cZ cS (a 29) (a 30) (a 31) (F 29) (F 30) (F 31) t given sk hsk hs6) (cwV 2 hts gX5_saw_X2_add rfl rfl rfl (by decide +kernel) ⟨Nat.le_of_ble_eq_true rfl, Nat.le_of_ble_eq_true rfl⟩) (preV_of hPc hDc hE (va_recv hK hPc (ci := 2) (q0 := 0) rfl rfl)) rfl rfl hl.1 rfl (lv_room (Nat.le_of_ble_eq_true rfl)) dX5_saw_26 ⟨Nat.zero_le _, Nat.zero_le _⟩) hP hD hS [29, 30, 31] rfl wN_ad (fun H locs hP hD hS => ?_)
      have hP : va_P D vwCl (wF cI cC cZ cS a b (va_up (va_up (va_up F 29 ((d_X2_add (F 29) (F 30) (F 31) t given sk).2.1)) 30 ((d_X2_add (F 29) (F 30) (F 31) t given sk).2.2.1)) 31 ((d_X2_add (F 29) (F 30) (F 31) t given sk).2.2.2)) tc) H := hP
      have hD : va_D A (wF cI cC cZ cS a b (va_up (va_up (va_up F 29 ((d_X2_add (F 29) (F 30) (F 31) t given sk).2.1)) 30 ((d_X2_add (F 29) (F 30) (F 31) t given sk).2.2.1)) 31 ((d_X2_add (F 29) (F 30) (F 31) t given sk).2.2.2)) tc) := hD
      refine W.eq (g2 := F0 m 29 ls [.int ((d_X2_add (F 29) (F 30) (F 31) t given sk).1)]) rfl ?_
      refine opq (d_X2_add (F 29) (F 30) (F 31) t given sk) (fun r_3 hr_3 => ?_)
      try rw [hr_3] at hP
      try rw [hr_3] at hD
      try rw [hr_3] at hres
      try rw [hr_3]
      refine lv_if_eq (tgt := 42) hx hb dX5_saw_29 (by decide) (fun c_4 => ?_) (fun c_4 => ?_)
      · skip
        rw [if_pos c_4] at hres
        refine lv_bipush (v := (-3)) hx hb dX5_saw_42 (by decide) ?_
        rw [hres]
        exact W.iret (v := (-3)) hx hb hr (fun t ht hW => ⟨rfl, by rw [ht]; exact hP, by rw [hA]; exact hS.F ht⟩) hS.2.2 dX5_saw_44
      · skip
        rw [if_neg c_4] at hres
        refine lv_aload_n hx hb dX5_saw_32 rfl (lv_at hl 0 rfl) ?_
        refine va_get (D := D) (ci := 5) (v := .ref (a 29)) (C := RX5) (T := TX5) (N := 10) hx hb hts hinX5 hown hK hP 0 rfl rfl 8 (by decide) (hts (.fieldLink RX5 54 "FirstOut" "seen" "LFirstOut$Seen;") (by decide +kernel)) (fun _ h9 => h9) rfl dX5_saw_33 ?_
        refine va_get (D := D) (ci := 2) (v := .int (r_3.2.1 2)) (C := RX2) (T := TX2) (N := 3) hx hb hts hinX2 hown hK hP 29 rfl rfl 2 (by decide) (hts (.fieldLink RX5 193 "FirstOut$Seen" "known" "I") (by decide +kernel)) (fun _ h9 => h9) rfl dX5_saw_36 ?_
        refine lv_goto (tgt := 44) hx hb dX5_saw_39 (by decide) ?_
        rw [hres]
        exact W.iret (v := (r_3.2.1 2)) hx hb hr (fun t ht hW => ⟨rfl, by rw [ht]; exact hP, by rw [hA]; exact hS.F ht⟩) hS.2.2 dX5_saw_44
    · skip
      rw [if_pos c_2] at hres
      refine lv_iconst (v := (-1)) hx hb dX5_saw_18 (by decide) ?_
      rw [hres]
      exact W.iret (v := (-1)) hx hb hr (fun t ht hW => ⟨rfl, by rw [ht]; exact hP, by rw [hA]; exact hS.F ht⟩) hS.2.2 dX5_saw_19
def d_X5_forget (F : Nat → Nat → Int32) : Int32 × (Nat → Nat → Int32) :=
  ((F 29 2), (va_up F 29 (upd (F 29) 2 0)))
set_option maxHeartbeats 4000000 in
set_option maxRecDepth 100000 in
theorem c_X5_forget (l : Launch) (D : va_G) (cI cC cZ cS : ClassId) (a : Nat → Nat) (b : Nat → Nat) (F : Nat → Nat → Int32) (tc : Int64) : Met l yX5_forget wsX5_forget { frames := 0, cells := 0, slots := 0, locals := 0 } (PcE D cI cC cZ cS [.ref (a 0)] (wF cI cC cZ cS a b F tc)) (QcM (some (.int ((d_X5_forget F).1))) D (wF cI cC cZ cS a b F tc) (wF cI cC cZ cS a b ((d_X5_forget F).2) tc)) 0 0 (inW (wF cI cC cZ cS a b F tc)) := by
  refine Met.ofW (cc := cX5_forget) (maxL := 2) (ret := (some .int)) (by decide) rfl ?_
  intro p e s m args below meth c s₁ B hml hv
  obtain ⟨rfl, hP, hD, hE⟩ := hv
  have hK := hE.1
  have hx := B.exec
  have hb := B.bytes
  have hr := B.returns
  have hts := atoms_spec (ws := wsX5_forget) B.pre
  have hown : s.vm.findClass RX5 = some m.cls := findClass_of_methodNamed B.named
  have hlocks := B.notSynchronized
  have hinX5 : ∀ w ∈ wsX50, w ∈ wsX5_forget := by decide +kernel
  have hinX2 : ∀ w ∈ wsX20, w ∈ wsX5_forget := by decide +kernel
  have hD := inW_self hD
  have hS : va_S (inW (wF cI cC cZ cS a b F tc)) s.heap s.heap [] := va_S.rf
  generalize hA : inW (wF cI cC cZ cS a b F tc) = A at hD hS ⊢
  refine opq (d_X5_forget F) (fun R hres => ?_)
  rw [hres]
  replace hres := hres.symm
  rw [d_X5_forget] at hres
  have hl := lv_entry ([.ref (a 0)]) (n := 2) (Nat.le_of_ble_eq_true rfl)
  rw [lg_entry_eq]
  generalize (lg_sl ([.ref (a 0)]) ++ List.replicate (2 - (lg_sl ([.ref (a 0)])).length) Slot.unset).toArray = ls at hl ⊢
  have hl : lv_has ls 2 [(0, .ref (a 0))] := hl
  refine lv_aload_n hx hb dX5_forget_0 rfl (lv_at hl 0 rfl) ?_
  refine va_get (D := D) (ci := 5) (v := .ref (a 29)) (C := RX5) (T := TX5) (N := 10) hx hb hts hinX5 hown hK hP 0 rfl rfl 8 (by decide) (hts (.fieldLink RX5 54 "FirstOut" "seen" "LFirstOut$Seen;") (by decide +kernel)) (fun _ h9 => h9) rfl dX5_forget_1 ?_
  refine va_get (D := D) (ci := 2) (v := .int (F 29 2)) (C := RX2) (T := TX2) (N := 3) hx hb hts hinX2 hown hK hP 29 rfl rfl 2 (by decide) (hts (.fieldLink RX5 193 "FirstOut$Seen" "known" "I") (by decide +kernel)) (fun _ h9 => h9) rfl dX5_forget_4 ?_
  refine lv_istore_n (lv' := [(1, .int (F 29 2)), (0, .ref (a 0))]) hx hb dX5_forget_7 rfl hl (by decide) rfl (fun ls hl => ?_)
  refine lv_aload_n hx hb dX5_forget_8 rfl (lv_at hl 1 rfl) ?_
  refine va_get (D := D) (ci := 5) (v := .ref (a 29)) (C := RX5) (T := TX5) (N := 10) hx hb hts hinX5 hown hK hP 0 rfl rfl 8 (by decide) (hts (.fieldLink RX5 54 "FirstOut" "seen" "LFirstOut$Seen;") (by decide +kernel)) (fun _ h9 => h9) rfl dX5_forget_9 ?_
  refine lv_iconst (v := 0) hx hb dX5_forget_12 (by decide) ?_
  refine va_put (D := D) (ci := 2) (v := .int 0) (ty := .int) (C := RX2) (T := TX2) (N := 3) hx hb hts hinX2 tyX2 tyX2_ok nmX2 hown hK hP hD hS 29 rfl rfl 2 (by decide) (hts (.fieldLink RX5 193 "FirstOut$Seen" "known" "I") (by decide +kernel)) (fun _ h9 => h9) rfl (by decide +kernel) rfl rfl (Nat.le_of_ble_eq_true rfl) dX5_forget_13 (fun H locs hP hD hS => ?_)
  have hP : va_P D vwCl (wF cI cC cZ cS a b (va_up F 29 (upd (F 29) 2 0)) tc) H := hP
  have hD : va_D A (wF cI cC cZ cS a b (va_up F 29 (upd (F 29) 2 0)) tc) := hD
  refine lv_iload_n hx hb dX5_forget_16 rfl (lv_at hl 0 rfl) ?_
  rw [hres]
  exact W.iret (v := (F 29 2)) hx hb hr (fun t ht hW => ⟨rfl, by rw [ht]; exact hP, by rw [hA]; exact hS.F ht⟩) hS.2.2 dX5_forget_17
def lp_X5_lost_32 (F : Nat → Nat → Int32) (z : Int32) (m_ : Int32) (n : Nat) : Nat → Nat → (Nat → Int32) → Int32 × (Nat → Nat → Int32)
  | 0, _, _ => (0, F)
  | k32 + 1, i, u => if (nI m_.toNatClampNeg) ≤ (nI i) then
      ((u 3), (va_up F 12 u))
    else
      lp_X5_lost_32 F z m_ n k32 (i + 1) ((d_X5_passDay (F 2) (F 4) u ((z + (nI i)) - (z + (nI i)) / (10000 : Int32) * (10000 : Int32)) n).2)
def d_X5_lost (F : Nat → Nat → Int32) (z : Int32) (m_ : Int32) (n : Nat) : Int32 × (Nat → Nat → Int32) :=
  if (d_X5_isZ z) = 0 then
      ((-1), F)
    else
      if m_ < 0 then
        ((-1), F)
      else
        if m_ ≤ (7 : Int32) then
          lp_X5_lost_32 F z m_ n (m_.toNatClampNeg + 1) 0 (d_X3_become (F 12) (F 11))
        else
          ((-1), F)
set_option maxHeartbeats 4000000 in
set_option maxRecDepth 100000 in
theorem c_X5_lost (l : Launch) (D : va_G) (cI cC cZ cS : ClassId) (a : Nat → Nat) (b : Nat → Nat) (F : Nat → Nat → Int32) (tc : Int64) (z : Int32) (m_ : Int32) (n : Nat) (hn : F 1 3 = nI n) (h7 : n ≤ 7) : Met l yX5_lost wsX5_lost { frames := 4, cells := 0, slots := 0, locals := 92 } (PcE D cI cC cZ cS [.ref (a 0), .int z, .int m_] (wF cI cC cZ cS a b F tc)) (QcM (some (.int ((d_X5_lost F z m_ n).1))) D (wF cI cC cZ cS a b F tc) (wF cI cC cZ cS a b ((d_X5_lost F z m_ n).2) tc)) 0 0 (inW (wF cI cC cZ cS a b F tc)) := by
  refine Met.ofW (cc := cX5_lost) (maxL := 4) (ret := (some .int)) (by decide) rfl ?_
  intro p e s m args below meth c s₁ B hml hv
  obtain ⟨rfl, hP, hD, hE⟩ := hv
  have hK := hE.1
  have hx := B.exec
  have hb := B.bytes
  have hr := B.returns
  have hts := atoms_spec (ws := wsX5_lost) B.pre
  have hown : s.vm.findClass RX5 = some m.cls := findClass_of_methodNamed B.named
  have hlocks := B.notSynchronized
  have hinX5 : ∀ w ∈ wsX50, w ∈ wsX5_lost := by decide +kernel
  have hinX3 : ∀ w ∈ wsX30, w ∈ wsX5_lost := by decide +kernel
  have hD := inW_self hD
  have hS : va_S (inW (wF cI cC cZ cS a b F tc)) s.heap s.heap [] := va_S.rf
  generalize hA : inW (wF cI cC cZ cS a b F tc) = A at hD hS ⊢
  refine opq (d_X5_lost F z m_ n) (fun R hres => ?_)
  rw [hres]
  replace hres := hres.symm
  rw [d_X5_lost] at hres
  have hl := lv_entry ([.ref (a 0), .int z, .int m_]) (n := 4) (Nat.le_of_ble_eq_true rfl)
  rw [lg_entry_eq]
  generalize (lg_sl ([.ref (a 0), .int z, .int m_]) ++ List.replicate (4 - (lg_sl ([.ref (a 0), .int z, .int m_])).length) Slot.unset).toArray = ls at hl ⊢
  have hl : lv_has ls 4 [(0, .ref (a 0)), (1, .int z), (2, .int m_)] := hl
  refine lv_iload_n hx hb dX5_lost_0 rfl (lv_at hl 1 rfl) ?_
  have hPc := hP.sub (ws' := []) [] rfl
  have hDc := hD.sub (ws' := []) [] (by decide) rfl
  refine m_callR (W.runS (As := [.int z]) (rest := []) ⟨hx, hb, hml, hown, hts⟩ (c_X5_isZ l D cI cC cZ cS z) (va_cwS 1 hts gX5_lost_X5_isZ rfl rfl rfl (by decide +kernel) ⟨Nat.le_of_ble_eq_true rfl, Nat.le_of_ble_eq_true rfl⟩) (preS_of hPc hDc hE) rfl rfl hl.1 rfl (lv_room (Nat.le_of_ble_eq_true rfl)) dX5_lost_1 ⟨Nat.zero_le _, Nat.zero_le _⟩) ?_
  refine W.eq (g2 := F0 m 4 ls [.int (d_X5_isZ z)]) rfl ?_
  refine lv_if_eq (tgt := 17) hx hb dX5_lost_4 (by decide) (fun c_1 => ?_) (fun c_1 => ?_)
  · skip
    rw [if_pos c_1] at hres
    refine lv_iconst (v := (-1)) hx hb dX5_lost_17 (by decide) ?_
    rw [hres]
    exact W.iret (v := (-1)) hx hb hr (fun t ht hW => ⟨rfl, by rw [ht]; exact hP, by rw [hA]; exact hS.F ht⟩) hS.2.2 dX5_lost_18
  · skip
    rw [if_neg c_1] at hres
    refine lv_iload_n hx hb dX5_lost_7 rfl (lv_at hl 2 rfl) ?_
    refine lv_if_lt (tgt := 17) hx hb dX5_lost_8 (by decide) (fun c_2 => ?_) (fun c_2 => ?_)
    · skip
      rw [if_pos c_2] at hres
      refine lv_iconst (v := (-1)) hx hb dX5_lost_17 (by decide) ?_
      rw [hres]
      exact W.iret (v := (-1)) hx hb hr (fun t ht hW => ⟨rfl, by rw [ht]; exact hP, by rw [hA]; exact hS.F ht⟩) hS.2.2 dX5_lost_18
    · skip
      rw [if_neg c_2] at hres
      have h0 := c_2
      refine lv_iload_n hx hb dX5_lost_11 rfl (lv_at hl 2 rfl) ?_
      refine lv_bipush (v := 7) hx hb dX5_lost_12 (by decide) ?_
      refine lv_icmp_le (tgt := 19) hx hb dX5_lost_14 (by decide) (fun c_3 => ?_) (fun c_3 => ?_)
      · skip
        rw [if_pos c_3] at hres
        have hm := ix_le (N := 7) h0 c_3 (by omega)
        refine lv_aload_n hx hb dX5_lost_19 rfl (lv_at hl 0 rfl) ?_
        refine va_get (D := D) (ci := 5) (v := .ref (a 12)) (C := RX5) (T := TX5) (N := 10) hx hb hts hinX5 hown hK hP 0 rfl rfl 4 (by decide) (hts (.fieldLink RX5 33 "FirstOut" "trial" "LFirstOut$Standing;") (by decide +kernel)) (fun _ h9 => h9) rfl dX5_lost_20 ?_
        refine lv_aload_n hx hb dX5_lost_23 rfl (lv_at hl 0 rfl) ?_
        refine va_get (D := D) (ci := 5) (v := .ref (b 12)) (C := RX5) (T := TX5) (N := 10) hx hb hts hinX5 hown hK hP 0 rfl rfl 3 (by decide) (hts (.fieldLink RX5 29 "FirstOut" "current" "LFirstOut$Standing;") (by decide +kernel)) (fun _ h9 => h9) rfl dX5_lost_24 ?_
        have hPc := hP.sub (ws' := (wS2 cI cC cZ cS (a 12) (b 12) (F 12) (F 11))) [12, 11] rfl
        have hDc := hD.sub (ws' := (wS2 cI cC cZ cS (a 12) (b 12) (F 12) (F 11))) [12, 11] (by decide) rfl
        refine m_callM (W.runV (As := [.ref (b 12)]) (rest := []) ⟨hx, hb, hml, hown, hts⟩ (c_X3_become l D cI cC cZ cS (a 12) (b 12) (F 12) (F 11)) (cwV 1 hts gX5_lost_X3_become rfl rfl rfl (by decide +kernel) ⟨Nat.le_of_ble_eq_true rfl, Nat.le_of_ble_eq_true rfl⟩) (preV_of hPc hDc hE (va_recv hK hPc (ci := 3) (q0 := 0) rfl rfl)) rfl rfl hl.1 rfl (lv_room (Nat.le_of_ble_eq_true rfl)) dX5_lost_27 ⟨Nat.zero_le _, Nat.zero_le _⟩) hP hD hS [12, 11] rfl wS2_ad (fun H locs hP hD hS => ?_)
        have hP : va_P D vwCl (wF cI cC cZ cS a b (va_up F 12 (d_X3_become (F 12) (F 11))) tc) H := hP
        have hD : va_D A (wF cI cC cZ cS a b (va_up F 12 (d_X3_become (F 12) (F 11))) tc) := hD
        refine W.eq (g2 := F0 m 30 ls []) rfl ?_
        refine opq (d_X3_become (F 12) (F 11)) (fun r_4 hr_4 => ?_)
        try rw [hr_4] at hP
        try rw [hr_4] at hD
        try rw [hr_4] at hres
        try rw [hr_4]
        refine lv_iconst (v := 0) hx hb dX5_lost_30 (by decide) ?_
        refine lv_istore_n (lv' := [(3, .int 0), (0, .ref (a 0)), (1, .int z), (2, .int m_)]) hx hb dX5_lost_31 rfl hl (by decide) rfl (fun ls hl => ?_)
        have loop32 : ∀ (k32 : Nat) (i : Nat) (u : Nat → Int32), m_.toNatClampNeg - i < k32 → i ≤ m_.toNatClampNeg → R = lp_X5_lost_32 F z m_ n k32 i u → ∀ (H : Heap) (locs : List Loc), va_P D vwCl (wF cI cC cZ cS a b (va_up F 12 u) tc) H → va_D A (wF cI cC cZ cS a b (va_up F 12 u) tc) → va_S A s.heap H locs → ∀ ls : Array Slot, lv_has ls 4 [(0, .ref (a 0)), (1, .int z), (2, .int m_), (3, .int (nI i))] → W p l e (headSpec wsX5_lost { frames := 4, cells := 0, slots := 0, locals := 92 }).room s m (([.ref (a 0), .int z, .int m_] : List Value).toArray) below meth c H locs 0 0 (MQ below (QcM (some (.int R.1)) D (wF cI cC cZ cS a b F tc) (wF cI cC cZ cS a b R.2 tc)) (([.ref (a 0), .int z, .int m_] : List Value).toArray) s 0 0 A) (F0 m 32 ls []) := by
          intro k32
          induction k32 with
          | zero => intro i u hk; exact absurd hk (Nat.not_lt_zero _)
          | succ k32 ih32 =>
            intro i u hk32 hi hres H locs hP hD hS ls hl
            rw [lp_X5_lost_32] at hres
            refine lv_iload_n hx hb dX5_lost_32 rfl (lv_at hl 3 rfl) ?_
            refine lv_iload_n hx hb dX5_lost_33 rfl (lv_at hl 2 rfl) ?_
            refine lv_to (show m_ = nI m_.toNatClampNeg from hm.1) ?_
            refine lv_icmp_ge (tgt := 59) hx hb dX5_lost_34 (by decide) (fun c_5 => ?_) (fun c_5 => ?_)
            · skip
              rw [if_pos c_5] at hres
              refine lv_aload_n hx hb dX5_lost_59 rfl (lv_at hl 0 rfl) ?_
              refine va_get (D := D) (ci := 5) (v := .ref (a 12)) (C := RX5) (T := TX5) (N := 10) hx hb hts hinX5 hown hK hP 0 rfl rfl 4 (by decide) (hts (.fieldLink RX5 33 "FirstOut" "trial" "LFirstOut$Standing;") (by decide +kernel)) (fun _ h9 => h9) rfl dX5_lost_60 ?_
              refine va_get (D := D) (ci := 3) (v := .int (u 3)) (C := RX3) (T := TX3) (N := 5) hx hb hts hinX3 hown hK hP 12 rfl rfl 3 (by decide) (hts (.fieldLink RX5 100 "FirstOut$Standing" "given" "I") (by decide +kernel)) (fun _ h9 => h9) rfl dX5_lost_63 ?_
              rw [hres]
              exact W.iret (v := (u 3)) hx hb hr (fun t ht hW => ⟨rfl, by rw [ht]; exact hP, by rw [hA]; exact hS.F ht⟩) hS.2.2 dX5_lost_66
            · skip
              rw [if_neg c_5] at hres
              have hlt := nlt_of c_5 (by have := hm.2; omega) (by have := hm.2; omega)
              refine lv_aload_n hx hb dX5_lost_37 rfl (lv_at hl 0 rfl) ?_
              refine lv_aload_n hx hb dX5_lost_38 rfl (lv_at hl 0 rfl) ?_
              refine va_get (D := D) (ci := 5) (v := .ref (a 12)) (C := RX5) (T := TX5) (N := 10) hx hb hts hinX5 hown hK hP 0 rfl rfl 4 (by decide) (hts (.fieldLink RX5 33 "FirstOut" "trial" "LFirstOut$Standing;") (by decide +kernel)) (fun _ h9 => h9) rfl dX5_lost_39 ?_
              refine lv_iload_n hx hb dX5_lost_42 rfl (lv_at hl 1 rfl) ?_
              refine lv_iload_n hx hb dX5_lost_43 rfl (lv_at hl 3 rfl) ?_
              refine lv_iadd hx hb dX5_lost_44 ?_
              refine lv_sipush (v := 10000) hx hb dX5_lost_45 (by decide) ?_
              refine lv_irem hx hb dX5_lost_48 (by decide) ?_
              have hPc := hP.sub (ws' := (wXS cI cC cZ cS a b (a 12) (F 1) (F 2) (F 3) (F 4) u tc)) [0, 1, 2, 3, 4, 12] rfl
              have hDc := hD.sub (ws' := (wXS cI cC cZ cS a b (a 12) (F 1) (F 2) (F 3) (F 4) u tc)) [0, 1, 2, 3, 4, 12] (by decide) rfl
              refine m_callM (W.runV (As := [.ref (a 12), .int ((z + (nI i)) - (z + (nI i)) / (10000 : Int32) * (10000 : Int32))]) (rest := []) ⟨hx, hb, hml, hown, hts⟩ (c_X5_passDay l D cI cC cZ cS a b (a 12) (F 1) (F 2) (F 3) (F 4) u tc ((z + (nI i)) - (z + (nI i)) / (10000 : Int32) * (10000 : Int32)) n hn h7) (cwV 2 hts gX5_lost_X5_passDay rfl rfl rfl (by decide +kernel) ⟨Nat.le_of_ble_eq_true rfl, Nat.le_of_ble_eq_true rfl⟩) (preV_of hPc hDc hE (va_recv hK hPc (ci := 5) (q0 := 0) rfl rfl)) rfl rfl hl.1 rfl (lv_room (Nat.le_of_ble_eq_true rfl)) dX5_lost_49 ⟨Nat.zero_le _, Nat.zero_le _⟩) hP hD hS [0, 1, 2, 3, 4, 12] rfl wXS_ad (fun H locs hP hD hS => ?_)
              have hP : va_P D vwCl (wF cI cC cZ cS a b (va_up F 12 ((d_X5_passDay (F 2) (F 4) u ((z + (nI i)) - (z + (nI i)) / (10000 : Int32) * (10000 : Int32)) n).2)) tc) H := hP
              have hD : va_D A (wF cI cC cZ cS a b (va_up F 12 ((d_X5_passDay (F 2) (F 4) u ((z + (nI i)) - (z + (nI i)) / (10000 : Int32) * (10000 : Int32)) n).2)) tc) := hD
              refine W.eq (g2 := F0 m 52 ls [.int ((d_X5_passDay (F 2) (F 4) u ((z + (nI i)) - (z + (nI i)) / (10000 : Int32) * (10000 : Int32)) n).1)]) rfl ?_
              refine opq (d_X5_passDay (F 2) (F 4) u ((z + (nI i)) - (z + (nI i)) / (10000 : Int32) * (10000 : Int32)) n) (fun r_6 hr_6 => ?_)
              try rw [hr_6] at hP
              try rw [hr_6] at hD
              try rw [hr_6] at hres
              try rw [hr_6]
              refine lv_pop hx hb dX5_lost_52 rfl ?_
              refine lv_iinc (v := nI (i + 1)) (lv' := [(3, .int (nI (i + 1))), (0, .ref (a 0)), (1, .int z), (2, .int m_)]) hx hb dX5_lost_53 hl (k := 3) rfl ((nI_add i 1)) (by decide) rfl (fun ls hl => ?_)
              refine lv_goto (tgt := 32) hx hb dX5_lost_56 (by decide) ?_
              have hP : va_P D vwCl (wF cI cC cZ cS a b (va_up F 12 r_6.2) tc) H := hP
              have hD : va_D A (wF cI cC cZ cS a b (va_up F 12 r_6.2) tc) := hD
              exact ih32 (i + 1) r_6.2 (by omega) (by omega) hres _ _ hP hD hS ls (lv_sub hl [1, 2, 3, 0] rfl)
        have hP : va_P D vwCl (wF cI cC cZ cS a b (va_up F 12 r_4) tc) _ := hP
        have hD : va_D A (wF cI cC cZ cS a b (va_up F 12 r_4) tc) := hD
        exact loop32 (m_.toNatClampNeg + 1) 0 r_4 (by omega) (Nat.zero_le _) hres _ _ hP hD hS ls (lv_sub hl [1, 2, 3, 0] rfl)
      · skip
        rw [if_neg c_3] at hres
        refine lv_iconst (v := (-1)) hx hb dX5_lost_17 (by decide) ?_
        rw [hres]
        exact W.iret (v := (-1)) hx hb hr (fun t ht hW => ⟨rfl, by rw [ht]; exact hP, by rw [hA]; exact hS.F ht⟩) hS.2.2 dX5_lost_18
def d_X5_rate (F : Nat → Nat → Int32) (tc : Int64) (kind : Int32) (t : Int32) : Int32 × (Nat → Nat → Int32) × Int64 :=
  if kind < 0 then
      ((-1000000), F, tc)
    else
      if (6 : Int32) ≤ kind then
        ((-1000000), F, tc)
      else
        if (d_X0_holds (F 1) t) = 0 then
          ((-1000000), F, tc)
        else
          if kind = 1 then
            ((d_X5_rateAsCalf (F 3) (F 4) tc t).1, F, (d_X5_rateAsCalf (F 3) (F 4) tc t).2)
          else
            if kind = 2 then
              ((d_X5_rateAsChild (F 2) (F 3) tc t).1, F, (d_X5_rateAsChild (F 2) (F 3) tc t).2)
            else
              if kind = 3 then
                ((d_X5_rateAsDog (F 3) (F 4) tc t).1, F, (d_X5_rateAsDog (F 3) (F 4) tc t).2)
              else
                if kind = 4 then
                  ((d_X5_rateAsDrum (F 2) (F 3) tc t).1, F, (d_X5_rateAsDrum (F 2) (F 3) tc t).2)
                else
                  if kind = 5 then
                    ((d_X5_rateAsPriest (F 3) (F 11) tc t).1, F, (d_X5_rateAsPriest (F 3) (F 11) tc t).2)
                  else
                    ((d_X5_rateAsThing (F 3) tc t).1, F, (d_X5_rateAsThing (F 3) tc t).2)
set_option maxHeartbeats 4000000 in
set_option maxRecDepth 100000 in
theorem c_X5_rate (l : Launch) (D : va_G) (cI cC cZ cS : ClassId) (a : Nat → Nat) (b : Nat → Nat) (F : Nat → Nat → Int32) (tc : Int64) (kind : Int32) (t : Int32) (n : Nat) (hn : F 1 3 = nI n) (h7 : n ≤ 7) : Met l yX5_rate wsX5_rate { frames := 3, cells := 0, slots := 0, locals := 63 } (PcE D cI cC cZ cS [.ref (a 0), .int kind, .int t] (wF cI cC cZ cS a b F tc)) (QcM (some (.int ((d_X5_rate F tc kind t).1))) D (wF cI cC cZ cS a b F tc) (wF cI cC cZ cS a b ((d_X5_rate F tc kind t).2.1) ((d_X5_rate F tc kind t).2.2))) 0 0 (inW (wF cI cC cZ cS a b F tc)) := by
  refine Met.ofW (cc := cX5_rate) (maxL := 3) (ret := (some .int)) (by decide) rfl ?_
  intro p e s m args below meth c s₁ B hml hv
  obtain ⟨rfl, hP, hD, hE⟩ := hv
  have hK := hE.1
  have hx := B.exec
  have hb := B.bytes
  have hr := B.returns
  have hts := atoms_spec (ws := wsX5_rate) B.pre
  have hown : s.vm.findClass RX5 = some m.cls := findClass_of_methodNamed B.named
  have hlocks := B.notSynchronized
  have hinX5 : ∀ w ∈ wsX50, w ∈ wsX5_rate := by decide +kernel
  have hD := inW_self hD
  have hS : va_S (inW (wF cI cC cZ cS a b F tc)) s.heap s.heap [] := va_S.rf
  generalize hA : inW (wF cI cC cZ cS a b F tc) = A at hD hS ⊢
  refine opq (d_X5_rate F tc kind t) (fun R hres => ?_)
  rw [hres]
  replace hres := hres.symm
  rw [d_X5_rate] at hres
  have hl := lv_entry ([.ref (a 0), .int kind, .int t]) (n := 3) (Nat.le_of_ble_eq_true rfl)
  rw [lg_entry_eq]
  generalize (lg_sl ([.ref (a 0), .int kind, .int t]) ++ List.replicate (3 - (lg_sl ([.ref (a 0), .int kind, .int t])).length) Slot.unset).toArray = ls at hl ⊢
  have hl : lv_has ls 3 [(0, .ref (a 0)), (1, .int kind), (2, .int t)] := hl
  refine lv_iload_n hx hb dX5_rate_0 rfl (lv_at hl 1 rfl) ?_
  refine lv_if_lt (tgt := 21) hx hb dX5_rate_1 (by decide) (fun c_1 => ?_) (fun c_1 => ?_)
  · skip
    rw [if_pos c_1] at hres
    refine lv_ldc hx hb hown (hts (.constant RX5 161 (-1000000)) (by decide +kernel)) dX5_rate_21 ?_
    rw [hres]
    exact W.iret (v := (-1000000)) hx hb hr (fun t ht hW => ⟨rfl, by rw [ht]; exact hP, by rw [hA]; exact hS.F ht⟩) hS.2.2 dX5_rate_23
  · skip
    rw [if_neg c_1] at hres
    refine lv_iload_n hx hb dX5_rate_4 rfl (lv_at hl 1 rfl) ?_
    refine lv_bipush (v := 6) hx hb dX5_rate_5 (by decide) ?_
    refine lv_icmp_ge (tgt := 21) hx hb dX5_rate_7 (by decide) (fun c_2 => ?_) (fun c_2 => ?_)
    · skip
      rw [if_pos c_2] at hres
      refine lv_ldc hx hb hown (hts (.constant RX5 161 (-1000000)) (by decide +kernel)) dX5_rate_21 ?_
      rw [hres]
      exact W.iret (v := (-1000000)) hx hb hr (fun t ht hW => ⟨rfl, by rw [ht]; exact hP, by rw [hA]; exact hS.F ht⟩) hS.2.2 dX5_rate_23
    · skip
      rw [if_neg c_2] at hres
      refine lv_aload_n hx hb dX5_rate_10 rfl (lv_at hl 0 rfl) ?_
      refine va_get (D := D) (ci := 5) (v := .ref (a 1)) (C := RX5) (T := TX5) (N := 10) hx hb hts hinX5 hown hK hP 0 rfl rfl 0 (by decide) (hts (.fieldLink RX5 10 "FirstOut" "home" "LFirstOut$House;") (by decide +kernel)) (fun _ h9 => h9) rfl dX5_rate_11 ?_
      refine lv_iload_n hx hb dX5_rate_14 rfl (lv_at hl 2 rfl) ?_
      have hPc := hP.sub (ws' := (wH cI cC cZ cS (a 1) (a 2) (a 3) (a 4) (F 1) (F 2) (F 3) (F 4))) [1, 2, 3, 4] rfl
      have hDc := hD.sub (ws' := (wH cI cC cZ cS (a 1) (a 2) (a 3) (a 4) (F 1) (F 2) (F 3) (F 4))) [1, 2, 3, 4] (by decide) rfl
      refine m_callR (W.runV (As := [.int t]) (rest := []) ⟨hx, hb, hml, hown, hts⟩ (c_X0_holds l D cI cC cZ cS (a 1) (a 2) (a 3) (a 4) (F 1) (F 2) (F 3) (F 4) t) (cwV 1 hts gX5_rate_X0_holds rfl rfl rfl (by decide +kernel) ⟨Nat.le_of_ble_eq_true rfl, Nat.le_of_ble_eq_true rfl⟩) (preV_of hPc hDc hE (va_recv hK hPc (ci := 0) (q0 := 0) rfl rfl)) rfl rfl hl.1 rfl (lv_room (Nat.le_of_ble_eq_true rfl)) dX5_rate_15 ⟨Nat.zero_le _, Nat.zero_le _⟩) ?_
      refine W.eq (g2 := F0 m 18 ls [.int (d_X0_holds (F 1) t)]) rfl ?_
      refine lv_if_ne (tgt := 24) hx hb dX5_rate_18 (by decide) (fun c_3 => ?_) (fun c_3 => ?_)
      · skip
        rw [if_neg c_3] at hres
        have ti := holds_ok c_3 hn h7
        refine lv_iload_n hx hb dX5_rate_24 rfl (lv_at hl 1 rfl) ?_
        by_cases c_4 : kind = 1
        · rw [if_pos c_4] at hres
          refine lv_tableIn (off := 35) (tgt := 60) hx hb dX5_rate_25 (by rw [c_4]; decide) (by rw [c_4]; decide) (by rw [c_4]; rfl) (by decide) ?_
          refine lv_aload_n hx hb dX5_rate_60 rfl (lv_at hl 0 rfl) ?_
          refine lv_iload_n hx hb dX5_rate_61 rfl (lv_at hl 2 rfl) ?_
          have hPc := hP.sub (ws' := (wXC cI cC cZ cS a b (F 1) (F 2) (F 3) (F 4) (F 11) tc)) [0, 1, 2, 3, 4, 11] rfl
          have hDc := hD.sub (ws' := (wXC cI cC cZ cS a b (F 1) (F 2) (F 3) (F 4) (F 11) tc)) [0, 1, 2, 3, 4, 11] (by decide) rfl
          refine m_callM (W.runV (As := [.int t]) (rest := []) ⟨hx, hb, hml, hown, hts⟩ (c_X5_rateAsCalf l D cI cC cZ cS a b (F 1) (F 2) (F 3) (F 4) (F 11) tc t n hn h7 ti) (cwV 1 hts gX5_rate_X5_rateAsCalf rfl rfl rfl (by decide +kernel) ⟨Nat.le_of_ble_eq_true rfl, Nat.le_of_ble_eq_true rfl⟩) (preV_of hPc hDc hE (va_recv hK hPc (ci := 5) (q0 := 0) rfl rfl)) rfl rfl hl.1 rfl (lv_room (Nat.le_of_ble_eq_true rfl)) dX5_rate_62 ⟨Nat.zero_le _, Nat.zero_le _⟩) hP hD hS [0, 1, 2, 3, 4, 11] rfl wXC_ad (fun H locs hP hD hS => ?_)
          have hP : va_P D vwCl (wF cI cC cZ cS a b F ((d_X5_rateAsCalf (F 3) (F 4) tc t).2)) H := hP
          have hD : va_D A (wF cI cC cZ cS a b F ((d_X5_rateAsCalf (F 3) (F 4) tc t).2)) := hD
          refine W.eq (g2 := F0 m 65 ls [.int ((d_X5_rateAsCalf (F 3) (F 4) tc t).1)]) rfl ?_
          refine opq (d_X5_rateAsCalf (F 3) (F 4) tc t) (fun r_5 hr_5 => ?_)
          try rw [hr_5] at hP
          try rw [hr_5] at hD
          try rw [hr_5] at hres
          try rw [hr_5]
          rw [hres]
          exact W.iret (v := r_5.1) hx hb hr (fun t ht hW => ⟨rfl, by rw [ht]; exact hP, by rw [hA]; exact hS.F ht⟩) hS.2.2 dX5_rate_65
        · rw [if_neg c_4] at hres
          by_cases c_6 : kind = 2
          · rw [if_pos c_6] at hres
            refine lv_tableIn (off := 41) (tgt := 66) hx hb dX5_rate_25 (by rw [c_6]; decide) (by rw [c_6]; decide) (by rw [c_6]; rfl) (by decide) ?_
            refine lv_aload_n hx hb dX5_rate_66 rfl (lv_at hl 0 rfl) ?_
            refine lv_iload_n hx hb dX5_rate_67 rfl (lv_at hl 2 rfl) ?_
            have hPc := hP.sub (ws' := (wXC cI cC cZ cS a b (F 1) (F 2) (F 3) (F 4) (F 11) tc)) [0, 1, 2, 3, 4, 11] rfl
            have hDc := hD.sub (ws' := (wXC cI cC cZ cS a b (F 1) (F 2) (F 3) (F 4) (F 11) tc)) [0, 1, 2, 3, 4, 11] (by decide) rfl
            refine m_callM (W.runV (As := [.int t]) (rest := []) ⟨hx, hb, hml, hown, hts⟩ (c_X5_rateAsChild l D cI cC cZ cS a b (F 1) (F 2) (F 3) (F 4) (F 11) tc t n hn h7 ti) (cwV 1 hts gX5_rate_X5_rateAsChild rfl rfl rfl (by decide +kernel) ⟨Nat.le_of_ble_eq_true rfl, Nat.le_of_ble_eq_true rfl⟩) (preV_of hPc hDc hE (va_recv hK hPc (ci := 5) (q0 := 0) rfl rfl)) rfl rfl hl.1 rfl (lv_room (Nat.le_of_ble_eq_true rfl)) dX5_rate_68 ⟨Nat.zero_le _, Nat.zero_le _⟩) hP hD hS [0, 1, 2, 3, 4, 11] rfl wXC_ad (fun H locs hP hD hS => ?_)
            have hP : va_P D vwCl (wF cI cC cZ cS a b F ((d_X5_rateAsChild (F 2) (F 3) tc t).2)) H := hP
            have hD : va_D A (wF cI cC cZ cS a b F ((d_X5_rateAsChild (F 2) (F 3) tc t).2)) := hD
            refine W.eq (g2 := F0 m 71 ls [.int ((d_X5_rateAsChild (F 2) (F 3) tc t).1)]) rfl ?_
            refine opq (d_X5_rateAsChild (F 2) (F 3) tc t) (fun r_7 hr_7 => ?_)
            try rw [hr_7] at hP
            try rw [hr_7] at hD
            try rw [hr_7] at hres
            try rw [hr_7]
            rw [hres]
            exact W.iret (v := r_7.1) hx hb hr (fun t ht hW => ⟨rfl, by rw [ht]; exact hP, by rw [hA]; exact hS.F ht⟩) hS.2.2 dX5_rate_71
          · rw [if_neg c_6] at hres
            by_cases c_8 : kind = 3
            · rw [if_pos c_8] at hres
              refine lv_tableIn (off := 47) (tgt := 72) hx hb dX5_rate_25 (by rw [c_8]; decide) (by rw [c_8]; decide) (by rw [c_8]; rfl) (by decide) ?_
              refine lv_aload_n hx hb dX5_rate_72 rfl (lv_at hl 0 rfl) ?_
              refine lv_iload_n hx hb dX5_rate_73 rfl (lv_at hl 2 rfl) ?_
              have hPc := hP.sub (ws' := (wXC cI cC cZ cS a b (F 1) (F 2) (F 3) (F 4) (F 11) tc)) [0, 1, 2, 3, 4, 11] rfl
              have hDc := hD.sub (ws' := (wXC cI cC cZ cS a b (F 1) (F 2) (F 3) (F 4) (F 11) tc)) [0, 1, 2, 3, 4, 11] (by decide) rfl
              refine m_callM (W.runV (As := [.int t]) (rest := []) ⟨hx, hb, hml, hown, hts⟩ (c_X5_rateAsDog l D cI cC cZ cS a b (F 1) (F 2) (F 3) (F 4) (F 11) tc t n hn h7 ti) (cwV 1 hts gX5_rate_X5_rateAsDog rfl rfl rfl (by decide +kernel) ⟨Nat.le_of_ble_eq_true rfl, Nat.le_of_ble_eq_true rfl⟩) (preV_of hPc hDc hE (va_recv hK hPc (ci := 5) (q0 := 0) rfl rfl)) rfl rfl hl.1 rfl (lv_room (Nat.le_of_ble_eq_true rfl)) dX5_rate_74 ⟨Nat.zero_le _, Nat.zero_le _⟩) hP hD hS [0, 1, 2, 3, 4, 11] rfl wXC_ad (fun H locs hP hD hS => ?_)
              have hP : va_P D vwCl (wF cI cC cZ cS a b F ((d_X5_rateAsDog (F 3) (F 4) tc t).2)) H := hP
              have hD : va_D A (wF cI cC cZ cS a b F ((d_X5_rateAsDog (F 3) (F 4) tc t).2)) := hD
              refine W.eq (g2 := F0 m 77 ls [.int ((d_X5_rateAsDog (F 3) (F 4) tc t).1)]) rfl ?_
              refine opq (d_X5_rateAsDog (F 3) (F 4) tc t) (fun r_9 hr_9 => ?_)
              try rw [hr_9] at hP
              try rw [hr_9] at hD
              try rw [hr_9] at hres
              try rw [hr_9]
              rw [hres]
              exact W.iret (v := r_9.1) hx hb hr (fun t ht hW => ⟨rfl, by rw [ht]; exact hP, by rw [hA]; exact hS.F ht⟩) hS.2.2 dX5_rate_77
            · rw [if_neg c_8] at hres
              by_cases c_10 : kind = 4
              · rw [if_pos c_10] at hres
                refine lv_tableIn (off := 53) (tgt := 78) hx hb dX5_rate_25 (by rw [c_10]; decide) (by rw [c_10]; decide) (by rw [c_10]; rfl) (by decide) ?_
                refine lv_aload_n hx hb dX5_rate_78 rfl (lv_at hl 0 rfl) ?_
                refine lv_iload_n hx hb dX5_rate_79 rfl (lv_at hl 2 rfl) ?_
                have hPc := hP.sub (ws' := (wXC cI cC cZ cS a b (F 1) (F 2) (F 3) (F 4) (F 11) tc)) [0, 1, 2, 3, 4, 11] rfl
                have hDc := hD.sub (ws' := (wXC cI cC cZ cS a b (F 1) (F 2) (F 3) (F 4) (F 11) tc)) [0, 1, 2, 3, 4, 11] (by decide) rfl
                refine m_callM (W.runV (As := [.int t]) (rest := []) ⟨hx, hb, hml, hown, hts⟩ (c_X5_rateAsDrum l D cI cC cZ cS a b (F 1) (F 2) (F 3) (F 4) (F 11) tc t n hn h7 ti) (cwV 1 hts gX5_rate_X5_rateAsDrum rfl rfl rfl (by decide +kernel) ⟨Nat.le_of_ble_eq_true rfl, Nat.le_of_ble_eq_true rfl⟩) (preV_of hPc hDc hE (va_recv hK hPc (ci := 5) (q0 := 0) rfl rfl)) rfl rfl hl.1 rfl (lv_room (Nat.le_of_ble_eq_true rfl)) dX5_rate_80 ⟨Nat.zero_le _, Nat.zero_le _⟩) hP hD hS [0, 1, 2, 3, 4, 11] rfl wXC_ad (fun H locs hP hD hS => ?_)
                have hP : va_P D vwCl (wF cI cC cZ cS a b F ((d_X5_rateAsDrum (F 2) (F 3) tc t).2)) H := hP
                have hD : va_D A (wF cI cC cZ cS a b F ((d_X5_rateAsDrum (F 2) (F 3) tc t).2)) := hD
                refine W.eq (g2 := F0 m 83 ls [.int ((d_X5_rateAsDrum (F 2) (F 3) tc t).1)]) rfl ?_
                refine opq (d_X5_rateAsDrum (F 2) (F 3) tc t) (fun r_11 hr_11 => ?_)
                try rw [hr_11] at hP
                try rw [hr_11] at hD
                try rw [hr_11] at hres
                try rw [hr_11]
                rw [hres]
                exact W.iret (v := r_11.1) hx hb hr (fun t ht hW => ⟨rfl, by rw [ht]; exact hP, by rw [hA]; exact hS.F ht⟩) hS.2.2 dX5_rate_83
              · rw [if_neg c_10] at hres
                by_cases c_12 : kind = 5
                · rw [if_pos c_12] at hres
                  refine lv_tableIn (off := 59) (tgt := 84) hx hb dX5_rate_25 (by rw [c_12]; decide) (by rw [c_12]; decide) (by rw [c_12]; rfl) (by decide) ?_
                  refine lv_aload_n hx hb dX5_rate_84 rfl (lv_at hl 0 rfl) ?_
                  refine lv_iload_n hx hb dX5_rate_85 rfl (lv_at hl 2 rfl) ?_
                  have hPc := hP.sub (ws' := (wXC cI cC cZ cS a b (F 1) (F 2) (F 3) (F 4) (F 11) tc)) [0, 1, 2, 3, 4, 11] rfl
                  have hDc := hD.sub (ws' := (wXC cI cC cZ cS a b (F 1) (F 2) (F 3) (F 4) (F 11) tc)) [0, 1, 2, 3, 4, 11] (by decide) rfl
                  refine m_callM (W.runV (As := [.int t]) (rest := []) ⟨hx, hb, hml, hown, hts⟩ (c_X5_rateAsPriest l D cI cC cZ cS a b (F 1) (F 2) (F 3) (F 4) (F 11) tc t n hn h7 ti) (cwV 1 hts gX5_rate_X5_rateAsPriest rfl rfl rfl (by decide +kernel) ⟨Nat.le_of_ble_eq_true rfl, Nat.le_of_ble_eq_true rfl⟩) (preV_of hPc hDc hE (va_recv hK hPc (ci := 5) (q0 := 0) rfl rfl)) rfl rfl hl.1 rfl (lv_room (Nat.le_of_ble_eq_true rfl)) dX5_rate_86 ⟨Nat.zero_le _, Nat.zero_le _⟩) hP hD hS [0, 1, 2, 3, 4, 11] rfl wXC_ad (fun H locs hP hD hS => ?_)
                  have hP : va_P D vwCl (wF cI cC cZ cS a b F ((d_X5_rateAsPriest (F 3) (F 11) tc t).2)) H := hP
                  have hD : va_D A (wF cI cC cZ cS a b F ((d_X5_rateAsPriest (F 3) (F 11) tc t).2)) := hD
                  refine W.eq (g2 := F0 m 89 ls [.int ((d_X5_rateAsPriest (F 3) (F 11) tc t).1)]) rfl ?_
                  refine opq (d_X5_rateAsPriest (F 3) (F 11) tc t) (fun r_13 hr_13 => ?_)
                  try rw [hr_13] at hP
                  try rw [hr_13] at hD
                  try rw [hr_13] at hres
                  try rw [hr_13]
                  rw [hres]
                  exact W.iret (v := r_13.1) hx hb hr (fun t ht hW => ⟨rfl, by rw [ht]; exact hP, by rw [hA]; exact hS.F ht⟩) hS.2.2 dX5_rate_89
                · rw [if_neg c_12] at hres
                  refine lv_tableOut (tgt := 90) hx hb dX5_rate_25 (tb_out 1 5 (by decide) (fun k h1 h2 => by rcases (show k = 1 ∨ k = 2 ∨ k = 3 ∨ k = 4 ∨ k = 5 by omega) with rfl | rfl | rfl | rfl | rfl <;> assumption)) (by decide) ?_
                  refine lv_aload_n hx hb dX5_rate_90 rfl (lv_at hl 0 rfl) ?_
                  refine lv_iload_n hx hb dX5_rate_91 rfl (lv_at hl 2 rfl) ?_
                  have hPc := hP.sub (ws' := (wXC cI cC cZ cS a b (F 1) (F 2) (F 3) (F 4) (F 11) tc)) [0, 1, 2, 3, 4, 11] rfl
                  have hDc := hD.sub (ws' := (wXC cI cC cZ cS a b (F 1) (F 2) (F 3) (F 4) (F 11) tc)) [0, 1, 2, 3, 4, 11] (by decide) rfl
                  refine m_callM (W.runV (As := [.int t]) (rest := []) ⟨hx, hb, hml, hown, hts⟩ (c_X5_rateAsThing l D cI cC cZ cS a b (F 1) (F 2) (F 3) (F 4) (F 11) tc t n hn h7 ti) (cwV 1 hts gX5_rate_X5_rateAsThing rfl rfl rfl (by decide +kernel) ⟨Nat.le_of_ble_eq_true rfl, Nat.le_of_ble_eq_true rfl⟩) (preV_of hPc hDc hE (va_recv hK hPc (ci := 5) (q0 := 0) rfl rfl)) rfl rfl hl.1 rfl (lv_room (Nat.le_of_ble_eq_true rfl)) dX5_rate_92 ⟨Nat.zero_le _, Nat.zero_le _⟩) hP hD hS [0, 1, 2, 3, 4, 11] rfl wXC_ad (fun H locs hP hD hS => ?_)
                  have hP : va_P D vwCl (wF cI cC cZ cS a b F ((d_X5_rateAsThing (F 3) tc t).2)) H := hP
                  have hD : va_D A (wF cI cC cZ cS a b F ((d_X5_rateAsThing (F 3) tc t).2)) := hD
                  refine W.eq (g2 := F0 m 95 ls [.int ((d_X5_rateAsThing (F 3) tc t).1)]) rfl ?_
                  refine opq (d_X5_rateAsThing (F 3) tc t) (fun r_14 hr_14 => ?_)
                  try rw [hr_14] at hP
                  try rw [hr_14] at hD
                  try rw [hr_14] at hres
                  try rw [hr_14]
                  rw [hres]
                  exact W.iret (v := r_14.1) hx hb hr (fun t ht hW => ⟨rfl, by rw [ht]; exact hP, by rw [hA]; exact hS.F ht⟩) hS.2.2 dX5_rate_95
      · skip
        rw [if_pos c_3] at hres
        refine lv_ldc hx hb hown (hts (.constant RX5 161 (-1000000)) (by decide +kernel)) dX5_rate_21 ?_
        rw [hres]
        exact W.iret (v := (-1000000)) hx hb hr (fun t ht hW => ⟨rfl, by rw [ht]; exact hP, by rw [hA]; exact hS.F ht⟩) hS.2.2 dX5_rate_23
def d_X5_keep (F : Nat → Nat → Int32) (image : Int32) : Int32 × (Nat → Nat → Int32) :=
  if image < 0 then
      ((-1), F)
    else
      if image < (2 : Int32) then
        if image = 0 then
          ((F 11 4), (va_up (va_up F 26 (d_X3_become (F 26) (F 11))) 28 (upd (F 28) 0 1)))
        else
          ((F 11 4), (va_up (va_up F 27 (d_X3_become (F 27) (F 11))) 28 (upd (F 28) 1 1)))
      else
        ((-1), F)
set_option maxHeartbeats 4000000 in
set_option maxRecDepth 100000 in
theorem c_X5_keep (l : Launch) (D : va_G) (cI cC cZ cS : ClassId) (a : Nat → Nat) (b : Nat → Nat) (F : Nat → Nat → Int32) (tc : Int64) (image : Int32) : Met l yX5_keep wsX5_keep { frames := 1, cells := 0, slots := 0, locals := 21 } (PcE D cI cC cZ cS [.ref (a 0), .int image] (wF cI cC cZ cS a b F tc)) (QcM (some (.int ((d_X5_keep F image).1))) D (wF cI cC cZ cS a b F tc) (wF cI cC cZ cS a b ((d_X5_keep F image).2) tc)) 0 0 (inW (wF cI cC cZ cS a b F tc)) := by
  refine Met.ofW (cc := cX5_keep) (maxL := 2) (ret := (some .int)) (by decide) rfl ?_
  intro p e s m args below meth c s₁ B hml hv
  obtain ⟨rfl, hP, hD, hE⟩ := hv
  have hK := hE.1
  have hx := B.exec
  have hb := B.bytes
  have hr := B.returns
  have hts := atoms_spec (ws := wsX5_keep) B.pre
  have hown : s.vm.findClass RX5 = some m.cls := findClass_of_methodNamed B.named
  have hlocks := B.notSynchronized
  have hinX5 : ∀ w ∈ wsX50, w ∈ wsX5_keep := by decide +kernel
  have hinX3 : ∀ w ∈ wsX30, w ∈ wsX5_keep := by decide +kernel
  have hD := inW_self hD
  have hS : va_S (inW (wF cI cC cZ cS a b F tc)) s.heap s.heap [] := va_S.rf
  generalize hA : inW (wF cI cC cZ cS a b F tc) = A at hD hS ⊢
  refine opq (d_X5_keep F image) (fun R hres => ?_)
  rw [hres]
  replace hres := hres.symm
  rw [d_X5_keep] at hres
  have hl := lv_entry ([.ref (a 0), .int image]) (n := 2) (Nat.le_of_ble_eq_true rfl)
  rw [lg_entry_eq]
  generalize (lg_sl ([.ref (a 0), .int image]) ++ List.replicate (2 - (lg_sl ([.ref (a 0), .int image])).length) Slot.unset).toArray = ls at hl ⊢
  have hl : lv_has ls 2 [(0, .ref (a 0)), (1, .int image)] := hl
  refine lv_iload_n hx hb dX5_keep_0 rfl (lv_at hl 1 rfl) ?_
  refine lv_if_lt (tgt := 9) hx hb dX5_keep_1 (by decide) (fun c_1 => ?_) (fun c_1 => ?_)
  · skip
    rw [if_pos c_1] at hres
    refine lv_iconst (v := (-1)) hx hb dX5_keep_9 (by decide) ?_
    rw [hres]
    exact W.iret (v := (-1)) hx hb hr (fun t ht hW => ⟨rfl, by rw [ht]; exact hP, by rw [hA]; exact hS.F ht⟩) hS.2.2 dX5_keep_10
  · skip
    rw [if_neg c_1] at hres
    have hi0 := c_1
    refine lv_iload_n hx hb dX5_keep_4 rfl (lv_at hl 1 rfl) ?_
    refine lv_iconst (v := 2) hx hb dX5_keep_5 (by decide) ?_
    refine lv_icmp_lt (tgt := 11) hx hb dX5_keep_6 (by decide) (fun c_2 => ?_) (fun c_2 => ?_)
    · skip
      rw [if_pos c_2] at hres
      have hi2 := c_2
      by_cases c_3 : image = 0
      · rw [if_pos c_3] at hres
        refine lv_aload_n hx hb dX5_keep_11 rfl (lv_at hl 0 rfl) ?_
        refine va_get (D := D) (ci := 5) (v := .ref (a 25)) (C := RX5) (T := TX5) (N := 10) hx hb hts hinX5 hown hK hP 0 rfl rfl 6 (by decide) (hts (.fieldLink RX5 43 "FirstOut" "images" "[LFirstOut$Standing;") (by decide +kernel)) (fun _ h9 => h9) rfl dX5_keep_12 ?_
        refine lv_iload_n hx hb dX5_keep_15 rfl (lv_at hl 1 rfl) ?_
        refine m_aald hx hb hK hP 25 3 rfl rfl 0 c_3 (by decide) (by decide) (r := (b 13)) rfl dX5_keep_16 ?_
        refine lv_aload_n hx hb dX5_keep_17 rfl (lv_at hl 0 rfl) ?_
        refine va_get (D := D) (ci := 5) (v := .ref (b 12)) (C := RX5) (T := TX5) (N := 10) hx hb hts hinX5 hown hK hP 0 rfl rfl 3 (by decide) (hts (.fieldLink RX5 29 "FirstOut" "current" "LFirstOut$Standing;") (by decide +kernel)) (fun _ h9 => h9) rfl dX5_keep_18 ?_
        have hPc := hP.sub (ws' := (wS2 cI cC cZ cS (b 13) (b 12) (F 26) (F 11))) [26, 11] rfl
        have hDc := hD.sub (ws' := (wS2 cI cC cZ cS (b 13) (b 12) (F 26) (F 11))) [26, 11] (by decide) rfl
        refine m_callM (W.runV (As := [.ref (b 12)]) (rest := []) ⟨hx, hb, hml, hown, hts⟩ (c_X3_become l D cI cC cZ cS (b 13) (b 12) (F 26) (F 11)) (cwV 1 hts gX5_keep_X3_become rfl rfl rfl (by decide +kernel) ⟨Nat.le_of_ble_eq_true rfl, Nat.le_of_ble_eq_true rfl⟩) (preV_of hPc hDc hE (va_recv hK hPc (ci := 3) (q0 := 0) rfl rfl)) rfl rfl hl.1 rfl (lv_room (Nat.le_of_ble_eq_true rfl)) dX5_keep_21 ⟨Nat.zero_le _, Nat.zero_le _⟩) hP hD hS [26, 11] rfl wS2_ad (fun H locs hP hD hS => ?_)
        have hP : va_P D vwCl (wF cI cC cZ cS a b (va_up F 26 (d_X3_become (F 26) (F 11))) tc) H := hP
        have hD : va_D A (wF cI cC cZ cS a b (va_up F 26 (d_X3_become (F 26) (F 11))) tc) := hD
        refine W.eq (g2 := F0 m 24 ls []) rfl ?_
        refine opq (d_X3_become (F 26) (F 11)) (fun r_4 hr_4 => ?_)
        try rw [hr_4] at hP
        try rw [hr_4] at hD
        try rw [hr_4] at hres
        try rw [hr_4]
        refine lv_aload_n hx hb dX5_keep_24 rfl (lv_at hl 0 rfl) ?_
        refine va_get (D := D) (ci := 5) (v := .ref (a 28)) (C := RX5) (T := TX5) (N := 10) hx hb hts hinX5 hown hK hP 0 rfl rfl 7 (by decide) (hts (.fieldLink RX5 47 "FirstOut" "imageKept" "[Z") (by decide +kernel)) (fun _ h9 => h9) rfl dX5_keep_25 ?_
        refine lv_iload_n hx hb dX5_keep_28 rfl (lv_at hl 1 rfl) ?_
        refine lv_iconst (v := 1) hx hb dX5_keep_29 (by decide) ?_
        refine m_zast (y := 1) hx hb hK hP hD hS 28 2 rfl rfl 0 c_3 (by decide) (by decide) rfl dX5_keep_30 (fun H locs hP hD hS => ?_)
        have hP : va_P D vwCl (wF cI cC cZ cS a b (va_up (va_up F 26 r_4) 28 (upd (F 28) 0 1)) tc) H := hP
        have hD : va_D A (wF cI cC cZ cS a b (va_up (va_up F 26 r_4) 28 (upd (F 28) 0 1)) tc) := hD
        refine lv_aload_n hx hb dX5_keep_31 rfl (lv_at hl 0 rfl) ?_
        refine va_get (D := D) (ci := 5) (v := .ref (b 12)) (C := RX5) (T := TX5) (N := 10) hx hb hts hinX5 hown hK hP 0 rfl rfl 3 (by decide) (hts (.fieldLink RX5 29 "FirstOut" "current" "LFirstOut$Standing;") (by decide +kernel)) (fun _ h9 => h9) rfl dX5_keep_32 ?_
        refine va_get (D := D) (ci := 3) (v := .int (F 11 4)) (C := RX3) (T := TX3) (N := 5) hx hb hts hinX3 hown hK hP 11 rfl rfl 4 (by decide) (hts (.fieldLink RX5 110 "FirstOut$Standing" "date" "I") (by decide +kernel)) (fun _ h9 => h9) rfl dX5_keep_35 ?_
        rw [hres]
        exact W.iret (v := (F 11 4)) hx hb hr (fun t ht hW => ⟨rfl, by rw [ht]; exact hP, by rw [hA]; exact hS.F ht⟩) hS.2.2 dX5_keep_38
      · rw [if_neg c_3] at hres
        have c_5 : image = 1 := img1 hi0 hi2 c_3
        refine lv_aload_n hx hb dX5_keep_11 rfl (lv_at hl 0 rfl) ?_
        refine va_get (D := D) (ci := 5) (v := .ref (a 25)) (C := RX5) (T := TX5) (N := 10) hx hb hts hinX5 hown hK hP 0 rfl rfl 6 (by decide) (hts (.fieldLink RX5 43 "FirstOut" "images" "[LFirstOut$Standing;") (by decide +kernel)) (fun _ h9 => h9) rfl dX5_keep_12 ?_
        refine lv_iload_n hx hb dX5_keep_15 rfl (lv_at hl 1 rfl) ?_
        refine m_aald hx hb hK hP 25 3 rfl rfl 1 c_5 (by decide) (by decide) (r := (b 14)) rfl dX5_keep_16 ?_
        refine lv_aload_n hx hb dX5_keep_17 rfl (lv_at hl 0 rfl) ?_
        refine va_get (D := D) (ci := 5) (v := .ref (b 12)) (C := RX5) (T := TX5) (N := 10) hx hb hts hinX5 hown hK hP 0 rfl rfl 3 (by decide) (hts (.fieldLink RX5 29 "FirstOut" "current" "LFirstOut$Standing;") (by decide +kernel)) (fun _ h9 => h9) rfl dX5_keep_18 ?_
        have hPc := hP.sub (ws' := (wS2 cI cC cZ cS (b 14) (b 12) (F 27) (F 11))) [27, 11] rfl
        have hDc := hD.sub (ws' := (wS2 cI cC cZ cS (b 14) (b 12) (F 27) (F 11))) [27, 11] (by decide) rfl
        refine m_callM (W.runV (As := [.ref (b 12)]) (rest := []) ⟨hx, hb, hml, hown, hts⟩ (c_X3_become l D cI cC cZ cS (b 14) (b 12) (F 27) (F 11)) (cwV 1 hts gX5_keep_X3_become rfl rfl rfl (by decide +kernel) ⟨Nat.le_of_ble_eq_true rfl, Nat.le_of_ble_eq_true rfl⟩) (preV_of hPc hDc hE (va_recv hK hPc (ci := 3) (q0 := 0) rfl rfl)) rfl rfl hl.1 rfl (lv_room (Nat.le_of_ble_eq_true rfl)) dX5_keep_21 ⟨Nat.zero_le _, Nat.zero_le _⟩) hP hD hS [27, 11] rfl wS2_ad (fun H locs hP hD hS => ?_)
        have hP : va_P D vwCl (wF cI cC cZ cS a b (va_up F 27 (d_X3_become (F 27) (F 11))) tc) H := hP
        have hD : va_D A (wF cI cC cZ cS a b (va_up F 27 (d_X3_become (F 27) (F 11))) tc) := hD
        refine W.eq (g2 := F0 m 24 ls []) rfl ?_
        refine opq (d_X3_become (F 27) (F 11)) (fun r_6 hr_6 => ?_)
        try rw [hr_6] at hP
        try rw [hr_6] at hD
        try rw [hr_6] at hres
        try rw [hr_6]
        refine lv_aload_n hx hb dX5_keep_24 rfl (lv_at hl 0 rfl) ?_
        refine va_get (D := D) (ci := 5) (v := .ref (a 28)) (C := RX5) (T := TX5) (N := 10) hx hb hts hinX5 hown hK hP 0 rfl rfl 7 (by decide) (hts (.fieldLink RX5 47 "FirstOut" "imageKept" "[Z") (by decide +kernel)) (fun _ h9 => h9) rfl dX5_keep_25 ?_
        refine lv_iload_n hx hb dX5_keep_28 rfl (lv_at hl 1 rfl) ?_
        refine lv_iconst (v := 1) hx hb dX5_keep_29 (by decide) ?_
        refine m_zast (y := 1) hx hb hK hP hD hS 28 2 rfl rfl 1 c_5 (by decide) (by decide) rfl dX5_keep_30 (fun H locs hP hD hS => ?_)
        have hP : va_P D vwCl (wF cI cC cZ cS a b (va_up (va_up F 27 r_6) 28 (upd (F 28) 1 1)) tc) H := hP
        have hD : va_D A (wF cI cC cZ cS a b (va_up (va_up F 27 r_6) 28 (upd (F 28) 1 1)) tc) := hD
        refine lv_aload_n hx hb dX5_keep_31 rfl (lv_at hl 0 rfl) ?_
        refine va_get (D := D) (ci := 5) (v := .ref (b 12)) (C := RX5) (T := TX5) (N := 10) hx hb hts hinX5 hown hK hP 0 rfl rfl 3 (by decide) (hts (.fieldLink RX5 29 "FirstOut" "current" "LFirstOut$Standing;") (by decide +kernel)) (fun _ h9 => h9) rfl dX5_keep_32 ?_
        refine va_get (D := D) (ci := 3) (v := .int (F 11 4)) (C := RX3) (T := TX3) (N := 5) hx hb hts hinX3 hown hK hP 11 rfl rfl 4 (by decide) (hts (.fieldLink RX5 110 "FirstOut$Standing" "date" "I") (by decide +kernel)) (fun _ h9 => h9) rfl dX5_keep_35 ?_
        rw [hres]
        exact W.iret (v := (F 11 4)) hx hb hr (fun t ht hW => ⟨rfl, by rw [ht]; exact hP, by rw [hA]; exact hS.F ht⟩) hS.2.2 dX5_keep_38
    · skip
      rw [if_neg c_2] at hres
      refine lv_iconst (v := (-1)) hx hb dX5_keep_9 (by decide) ?_
      rw [hres]
      exact W.iret (v := (-1)) hx hb hr (fun t ht hW => ⟨rfl, by rw [ht]; exact hP, by rw [hA]; exact hS.F ht⟩) hS.2.2 dX5_keep_10
def d_X5_back (F : Nat → Nat → Int32) (image : Int32) : Int32 × (Nat → Nat → Int32) :=
  if image < 0 then
      ((-1), F)
    else
      if image < (2 : Int32) then
        if image = 0 then
          if (F 28 0) = 0 then
            ((-2), F)
          else
            (((d_X3_become (F 11) (F 26)) 4), (va_up (va_up F 11 (d_X3_become (F 11) (F 26))) 13 (upd (F 13) 2 0)))
        else
          if (F 28 1) = 0 then
            ((-2), F)
          else
            (((d_X3_become (F 11) (F 27)) 4), (va_up (va_up F 11 (d_X3_become (F 11) (F 27))) 13 (upd (F 13) 2 0)))
      else
        ((-1), F)
set_option maxHeartbeats 4000000 in
set_option maxRecDepth 100000 in
theorem c_X5_back (l : Launch) (D : va_G) (cI cC cZ cS : ClassId) (a : Nat → Nat) (b : Nat → Nat) (F : Nat → Nat → Int32) (tc : Int64) (image : Int32) : Met l yX5_back wsX5_back { frames := 1, cells := 0, slots := 0, locals := 21 } (PcE D cI cC cZ cS [.ref (a 0), .int image] (wF cI cC cZ cS a b F tc)) (QcM (some (.int ((d_X5_back F image).1))) D (wF cI cC cZ cS a b F tc) (wF cI cC cZ cS a b ((d_X5_back F image).2) tc)) 0 0 (inW (wF cI cC cZ cS a b F tc)) := by
  refine Met.ofW (cc := cX5_back) (maxL := 2) (ret := (some .int)) (by decide) rfl ?_
  intro p e s m args below meth c s₁ B hml hv
  obtain ⟨rfl, hP, hD, hE⟩ := hv
  have hK := hE.1
  have hx := B.exec
  have hb := B.bytes
  have hr := B.returns
  have hts := atoms_spec (ws := wsX5_back) B.pre
  have hown : s.vm.findClass RX5 = some m.cls := findClass_of_methodNamed B.named
  have hlocks := B.notSynchronized
  have hinX5 : ∀ w ∈ wsX50, w ∈ wsX5_back := by decide +kernel
  have hinX1 : ∀ w ∈ wsX10, w ∈ wsX5_back := by decide +kernel
  have hinX3 : ∀ w ∈ wsX30, w ∈ wsX5_back := by decide +kernel
  have hD := inW_self hD
  have hS : va_S (inW (wF cI cC cZ cS a b F tc)) s.heap s.heap [] := va_S.rf
  generalize hA : inW (wF cI cC cZ cS a b F tc) = A at hD hS ⊢
  refine opq (d_X5_back F image) (fun R hres => ?_)
  rw [hres]
  replace hres := hres.symm
  rw [d_X5_back] at hres
  have hl := lv_entry ([.ref (a 0), .int image]) (n := 2) (Nat.le_of_ble_eq_true rfl)
  rw [lg_entry_eq]
  generalize (lg_sl ([.ref (a 0), .int image]) ++ List.replicate (2 - (lg_sl ([.ref (a 0), .int image])).length) Slot.unset).toArray = ls at hl ⊢
  have hl : lv_has ls 2 [(0, .ref (a 0)), (1, .int image)] := hl
  refine lv_iload_n hx hb dX5_back_0 rfl (lv_at hl 1 rfl) ?_
  refine lv_if_lt (tgt := 9) hx hb dX5_back_1 (by decide) (fun c_1 => ?_) (fun c_1 => ?_)
  · skip
    rw [if_pos c_1] at hres
    refine lv_iconst (v := (-1)) hx hb dX5_back_9 (by decide) ?_
    rw [hres]
    exact W.iret (v := (-1)) hx hb hr (fun t ht hW => ⟨rfl, by rw [ht]; exact hP, by rw [hA]; exact hS.F ht⟩) hS.2.2 dX5_back_10
  · skip
    rw [if_neg c_1] at hres
    have hi0 := c_1
    refine lv_iload_n hx hb dX5_back_4 rfl (lv_at hl 1 rfl) ?_
    refine lv_iconst (v := 2) hx hb dX5_back_5 (by decide) ?_
    refine lv_icmp_lt (tgt := 11) hx hb dX5_back_6 (by decide) (fun c_2 => ?_) (fun c_2 => ?_)
    · skip
      rw [if_pos c_2] at hres
      have hi2 := c_2
      by_cases c_3 : image = 0
      · rw [if_pos c_3] at hres
        refine lv_aload_n hx hb dX5_back_11 rfl (lv_at hl 0 rfl) ?_
        refine va_get (D := D) (ci := 5) (v := .ref (a 28)) (C := RX5) (T := TX5) (N := 10) hx hb hts hinX5 hown hK hP 0 rfl rfl 7 (by decide) (hts (.fieldLink RX5 47 "FirstOut" "imageKept" "[Z") (by decide +kernel)) (fun _ h9 => h9) rfl dX5_back_12 ?_
        refine lv_iload_n hx hb dX5_back_15 rfl (lv_at hl 1 rfl) ?_
        refine m_zald hx hb hK hP 28 2 rfl rfl 0 c_3 (by decide) (by decide) dX5_back_16 ?_
        refine lv_to (show _ = (F 28 0) from rfl) ?_
        refine lv_if_ne (tgt := 23) hx hb dX5_back_17 (by decide) (fun c_4 => ?_) (fun c_4 => ?_)
        · skip
          rw [if_neg c_4] at hres
          refine lv_aload_n hx hb dX5_back_23 rfl (lv_at hl 0 rfl) ?_
          refine va_get (D := D) (ci := 5) (v := .ref (b 12)) (C := RX5) (T := TX5) (N := 10) hx hb hts hinX5 hown hK hP 0 rfl rfl 3 (by decide) (hts (.fieldLink RX5 29 "FirstOut" "current" "LFirstOut$Standing;") (by decide +kernel)) (fun _ h9 => h9) rfl dX5_back_24 ?_
          refine lv_aload_n hx hb dX5_back_27 rfl (lv_at hl 0 rfl) ?_
          refine va_get (D := D) (ci := 5) (v := .ref (a 25)) (C := RX5) (T := TX5) (N := 10) hx hb hts hinX5 hown hK hP 0 rfl rfl 6 (by decide) (hts (.fieldLink RX5 43 "FirstOut" "images" "[LFirstOut$Standing;") (by decide +kernel)) (fun _ h9 => h9) rfl dX5_back_28 ?_
          refine lv_iload_n hx hb dX5_back_31 rfl (lv_at hl 1 rfl) ?_
          refine m_aald hx hb hK hP 25 3 rfl rfl 0 c_3 (by decide) (by decide) (r := (b 13)) rfl dX5_back_32 ?_
          have hPc := hP.sub (ws' := (wS2 cI cC cZ cS (b 12) (b 13) (F 11) (F 26))) [11, 26] rfl
          have hDc := hD.sub (ws' := (wS2 cI cC cZ cS (b 12) (b 13) (F 11) (F 26))) [11, 26] (by decide) rfl
          refine m_callM (W.runV (As := [.ref (b 13)]) (rest := []) ⟨hx, hb, hml, hown, hts⟩ (c_X3_become l D cI cC cZ cS (b 12) (b 13) (F 11) (F 26)) (cwV 1 hts gX5_back_X3_become rfl rfl rfl (by decide +kernel) ⟨Nat.le_of_ble_eq_true rfl, Nat.le_of_ble_eq_true rfl⟩) (preV_of hPc hDc hE (va_recv hK hPc (ci := 3) (q0 := 0) rfl rfl)) rfl rfl hl.1 rfl (lv_room (Nat.le_of_ble_eq_true rfl)) dX5_back_33 ⟨Nat.zero_le _, Nat.zero_le _⟩) hP hD hS [11, 26] rfl wS2_ad (fun H locs hP hD hS => ?_)
          have hP : va_P D vwCl (wF cI cC cZ cS a b (va_up F 11 (d_X3_become (F 11) (F 26))) tc) H := hP
          have hD : va_D A (wF cI cC cZ cS a b (va_up F 11 (d_X3_become (F 11) (F 26))) tc) := hD
          refine W.eq (g2 := F0 m 36 ls []) rfl ?_
          refine opq (d_X3_become (F 11) (F 26)) (fun r_5 hr_5 => ?_)
          try rw [hr_5] at hP
          try rw [hr_5] at hD
          try rw [hr_5] at hres
          try rw [hr_5]
          refine lv_aload_n hx hb dX5_back_36 rfl (lv_at hl 0 rfl) ?_
          refine va_get (D := D) (ci := 5) (v := .ref (b 0)) (C := RX5) (T := TX5) (N := 10) hx hb hts hinX5 hown hK hP 0 rfl rfl 5 (by decide) (hts (.fieldLink RX5 39 "FirstOut" "past" "LFirstOut$Past;") (by decide +kernel)) (fun _ h9 => h9) rfl dX5_back_37 ?_
          refine lv_iconst (v := 0) hx hb dX5_back_40 (by decide) ?_
          refine va_put (D := D) (ci := 1) (v := .int 0) (ty := .int) (C := RX1) (T := TX1) (N := 3) hx hb hts hinX1 tyX1 tyX1_ok nmX1 hown hK hP hD hS 13 rfl rfl 2 (by decide) (hts (.fieldLink RX5 120 "FirstOut$Past" "known" "I") (by decide +kernel)) (fun _ h9 => h9) rfl (by decide +kernel) rfl rfl (Nat.le_of_ble_eq_true rfl) dX5_back_41 (fun H locs hP hD hS => ?_)
          have hP : va_P D vwCl (wF cI cC cZ cS a b (va_up (va_up F 11 r_5) 13 (upd (F 13) 2 0)) tc) H := hP
          have hD : va_D A (wF cI cC cZ cS a b (va_up (va_up F 11 r_5) 13 (upd (F 13) 2 0)) tc) := hD
          refine lv_aload_n hx hb dX5_back_44 rfl (lv_at hl 0 rfl) ?_
          refine va_get (D := D) (ci := 5) (v := .ref (b 12)) (C := RX5) (T := TX5) (N := 10) hx hb hts hinX5 hown hK hP 0 rfl rfl 3 (by decide) (hts (.fieldLink RX5 29 "FirstOut" "current" "LFirstOut$Standing;") (by decide +kernel)) (fun _ h9 => h9) rfl dX5_back_45 ?_
          refine va_get (D := D) (ci := 3) (v := .int (r_5 4)) (C := RX3) (T := TX3) (N := 5) hx hb hts hinX3 hown hK hP 11 rfl rfl 4 (by decide) (hts (.fieldLink RX5 110 "FirstOut$Standing" "date" "I") (by decide +kernel)) (fun _ h9 => h9) rfl dX5_back_48 ?_
          rw [hres]
          exact W.iret (v := (r_5 4)) hx hb hr (fun t ht hW => ⟨rfl, by rw [ht]; exact hP, by rw [hA]; exact hS.F ht⟩) hS.2.2 dX5_back_51
        · skip
          rw [if_pos c_4] at hres
          refine lv_bipush (v := (-2)) hx hb dX5_back_20 (by decide) ?_
          rw [hres]
          exact W.iret (v := (-2)) hx hb hr (fun t ht hW => ⟨rfl, by rw [ht]; exact hP, by rw [hA]; exact hS.F ht⟩) hS.2.2 dX5_back_22
      · rw [if_neg c_3] at hres
        have c_6 : image = 1 := img1 hi0 hi2 c_3
        refine lv_aload_n hx hb dX5_back_11 rfl (lv_at hl 0 rfl) ?_
        refine va_get (D := D) (ci := 5) (v := .ref (a 28)) (C := RX5) (T := TX5) (N := 10) hx hb hts hinX5 hown hK hP 0 rfl rfl 7 (by decide) (hts (.fieldLink RX5 47 "FirstOut" "imageKept" "[Z") (by decide +kernel)) (fun _ h9 => h9) rfl dX5_back_12 ?_
        refine lv_iload_n hx hb dX5_back_15 rfl (lv_at hl 1 rfl) ?_
        refine m_zald hx hb hK hP 28 2 rfl rfl 1 c_6 (by decide) (by decide) dX5_back_16 ?_
        refine lv_to (show _ = (F 28 1) from rfl) ?_
        refine lv_if_ne (tgt := 23) hx hb dX5_back_17 (by decide) (fun c_7 => ?_) (fun c_7 => ?_)
        · skip
          rw [if_neg c_7] at hres
          refine lv_aload_n hx hb dX5_back_23 rfl (lv_at hl 0 rfl) ?_
          refine va_get (D := D) (ci := 5) (v := .ref (b 12)) (C := RX5) (T := TX5) (N := 10) hx hb hts hinX5 hown hK hP 0 rfl rfl 3 (by decide) (hts (.fieldLink RX5 29 "FirstOut" "current" "LFirstOut$Standing;") (by decide +kernel)) (fun _ h9 => h9) rfl dX5_back_24 ?_
          refine lv_aload_n hx hb dX5_back_27 rfl (lv_at hl 0 rfl) ?_
          refine va_get (D := D) (ci := 5) (v := .ref (a 25)) (C := RX5) (T := TX5) (N := 10) hx hb hts hinX5 hown hK hP 0 rfl rfl 6 (by decide) (hts (.fieldLink RX5 43 "FirstOut" "images" "[LFirstOut$Standing;") (by decide +kernel)) (fun _ h9 => h9) rfl dX5_back_28 ?_
          refine lv_iload_n hx hb dX5_back_31 rfl (lv_at hl 1 rfl) ?_
          refine m_aald hx hb hK hP 25 3 rfl rfl 1 c_6 (by decide) (by decide) (r := (b 14)) rfl dX5_back_32 ?_
          have hPc := hP.sub (ws' := (wS2 cI cC cZ cS (b 12) (b 14) (F 11) (F 27))) [11, 27] rfl
          have hDc := hD.sub (ws' := (wS2 cI cC cZ cS (b 12) (b 14) (F 11) (F 27))) [11, 27] (by decide) rfl
          refine m_callM (W.runV (As := [.ref (b 14)]) (rest := []) ⟨hx, hb, hml, hown, hts⟩ (c_X3_become l D cI cC cZ cS (b 12) (b 14) (F 11) (F 27)) (cwV 1 hts gX5_back_X3_become rfl rfl rfl (by decide +kernel) ⟨Nat.le_of_ble_eq_true rfl, Nat.le_of_ble_eq_true rfl⟩) (preV_of hPc hDc hE (va_recv hK hPc (ci := 3) (q0 := 0) rfl rfl)) rfl rfl hl.1 rfl (lv_room (Nat.le_of_ble_eq_true rfl)) dX5_back_33 ⟨Nat.zero_le _, Nat.zero_le _⟩) hP hD hS [11, 27] rfl wS2_ad (fun H locs hP hD hS => ?_)
          have hP : va_P D vwCl (wF cI cC cZ cS a b (va_up F 11 (d_X3_become (F 11) (F 27))) tc) H := hP
          have hD : va_D A (wF cI cC cZ cS a b (va_up F 11 (d_X3_become (F 11) (F 27))) tc) := hD
          refine W.eq (g2 := F0 m 36 ls []) rfl ?_
          refine opq (d_X3_become (F 11) (F 27)) (fun r_8 hr_8 => ?_)
          try rw [hr_8] at hP
          try rw [hr_8] at hD
          try rw [hr_8] at hres
          try rw [hr_8]
          refine lv_aload_n hx hb dX5_back_36 rfl (lv_at hl 0 rfl) ?_
          refine va_get (D := D) (ci := 5) (v := .ref (b 0)) (C := RX5) (T := TX5) (N := 10) hx hb hts hinX5 hown hK hP 0 rfl rfl 5 (by decide) (hts (.fieldLink RX5 39 "FirstOut" "past" "LFirstOut$Past;") (by decide +kernel)) (fun _ h9 => h9) rfl dX5_back_37 ?_
          refine lv_iconst (v := 0) hx hb dX5_back_40 (by decide) ?_
          refine va_put (D := D) (ci := 1) (v := .int 0) (ty := .int) (C := RX1) (T := TX1) (N := 3) hx hb hts hinX1 tyX1 tyX1_ok nmX1 hown hK hP hD hS 13 rfl rfl 2 (by decide) (hts (.fieldLink RX5 120 "FirstOut$Past" "known" "I") (by decide +kernel)) (fun _ h9 => h9) rfl (by decide +kernel) rfl rfl (Nat.le_of_ble_eq_true rfl) dX5_back_41 (fun H locs hP hD hS => ?_)
          have hP : va_P D vwCl (wF cI cC cZ cS a b (va_up (va_up F 11 r_8) 13 (upd (F 13) 2 0)) tc) H := hP
          have hD : va_D A (wF cI cC cZ cS a b (va_up (va_up F 11 r_8) 13 (upd (F 13) 2 0)) tc) := hD
          refine lv_aload_n hx hb dX5_back_44 rfl (lv_at hl 0 rfl) ?_
          refine va_get (D := D) (ci := 5) (v := .ref (b 12)) (C := RX5) (T := TX5) (N := 10) hx hb hts hinX5 hown hK hP 0 rfl rfl 3 (by decide) (hts (.fieldLink RX5 29 "FirstOut" "current" "LFirstOut$Standing;") (by decide +kernel)) (fun _ h9 => h9) rfl dX5_back_45 ?_
          refine va_get (D := D) (ci := 3) (v := .int (r_8 4)) (C := RX3) (T := TX3) (N := 5) hx hb hts hinX3 hown hK hP 11 rfl rfl 4 (by decide) (hts (.fieldLink RX5 110 "FirstOut$Standing" "date" "I") (by decide +kernel)) (fun _ h9 => h9) rfl dX5_back_48 ?_
          rw [hres]
          exact W.iret (v := (r_8 4)) hx hb hr (fun t ht hW => ⟨rfl, by rw [ht]; exact hP, by rw [hA]; exact hS.F ht⟩) hS.2.2 dX5_back_51
        · skip
          rw [if_pos c_7] at hres
          refine lv_bipush (v := (-2)) hx hb dX5_back_20 (by decide) ?_
          rw [hres]
          exact W.iret (v := (-2)) hx hb hr (fun t ht hW => ⟨rfl, by rw [ht]; exact hP, by rw [hA]; exact hS.F ht⟩) hS.2.2 dX5_back_22
    · skip
      rw [if_neg c_2] at hres
      refine lv_iconst (v := (-1)) hx hb dX5_back_9 (by decide) ?_
      rw [hres]
      exact W.iret (v := (-1)) hx hb hr (fun t ht hW => ⟨rfl, by rw [ht]; exact hP, by rw [hA]; exact hS.F ht⟩) hS.2.2 dX5_back_10
