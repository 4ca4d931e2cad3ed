/-- the reference's reader: its text's length and its next letter -/
def NX (f : Nat → Int32) (len : Nat) : Prop := f 3 = nI len ∧ len ≤ 200 ∧ ∃ j, j ≤ len ∧ f 4 = nI j
theorem NX.le {f : Nat → Int32} {len : Nat} (h : NX f len) : f 4 = nI (f 4).toNatClampNeg ∧ (f 4).toNatClampNeg ≤ len := by
  obtain ⟨h1, h2, j, h3, h4⟩ := h
  rw [cl_nI h4 (by omega)]
  exact ⟨h4, h3⟩
theorem NX.step {f : Nat → Int32} {len : Nat} (h : NX f len) (hlt : (f 4).toNatClampNeg < len) : NX (upd f 4 (f 4 + 1)) len ∧ len - (upd f 4 (f 4 + 1) 4).toNatClampNeg < len - (f 4).toNatClampNeg := by
  obtain ⟨h1, h2, j, h3, h4⟩ := h
  rw [cl_nI h4 (by omega)] at hlt ⊢
  have h6 : upd f 4 (f 4 + 1) 4 = nI (j + 1) := by show f 4 + 1 = _; rw [h4, nI_1]
  refine ⟨⟨h1, h2, j + 1, hlt, h6⟩, ?_⟩
  rw [cl_nI h6 (by omega)]
  omega
theorem NX.far {f : Nat → Int32} {len : Nat} (h : NX f len) {k : Nat} (h3 : ¬ 3 = k) (h4 : ¬ 4 = k) (x : Int32) : NX (upd f k x) len := by
  obtain ⟨a, b, j, c, d⟩ := h
  exact ⟨by show (if 3 = k then x else f 3) = _; rw [if_neg h3]; exact a, b, j, c, by show (if 4 = k then x else f 4) = _; rw [if_neg h4]; exact d⟩

theorem nx71 {f : Nat → Int32} {len : Nat} (h : NX f len) (hlt : (f 4).toNatClampNeg < len) (x : Int32) : NX (upd (upd f 7 x) 4 (f 4 + 1)) len ∧ len - (upd (upd f 7 x) 4 (f 4 + 1) 4).toNatClampNeg < len - (f 4).toNatClampNeg := (h.far (k := 7) (by decide) (by decide) x).step hlt
theorem in_not_m1 {x : Int32} (c : ¬ d_X6_in x 48 57 = 0) : ¬ x = -1 := by
  intro e
  exact (in_ok c).1 (by rw [e]; decide)

def d_X6_letterAt (tx : Nat → Int32) (len : Nat) (j : Nat) : Int32 :=
  if (nI len) ≤ (nI j) then
      (-1)
    else
      (tx j)
set_option maxHeartbeats 4000000 in
set_option maxRecDepth 100000 in
theorem c_X6_letterAt (l : Launch) (D : va_G) (cI cC cZ cS : ClassId) (a : Nat → Nat) (f : Nat → Int32) (tx : Nat → Int32) (tc : Int64) (k : Int32) (len : Nat) (j : Nat) (hle : f 3 = nI len) (h200 : len ≤ 200) (hj : k = nI j) (hjl : j ≤ 200) : Met l yX6_letterAt wsX6_letterAt { frames := 0, cells := 0, slots := 0, locals := 0 } (PcE D cI cC cZ cS [.ref (a 0), .int k] (wMt cI cC cZ cS a f tx tc)) (QcR (some (.int (d_X6_letterAt tx len j)))) 0 0 (fun _ => False) := by
  refine Met.ofW (cc := cX6_letterAt) (maxL := 2) (ret := (some .int)) (by decide) rfl ?_
  intro p e s m args below meth c s₁ B hml hv
  obtain ⟨rfl, hP, hD, hE⟩ := hv
  have hK := hE.1
  have hx := B.exec
  have hb := B.bytes
  have hr := B.returns
  have hts := atoms_spec (ws := wsX6_letterAt) B.pre
  have hown : s.vm.findClass RX6 = some m.cls := findClass_of_methodNamed B.named
  have hlocks := B.notSynchronized
  have hinX6 : ∀ w ∈ wsX60, w ∈ wsX6_letterAt := by decide +kernel
  refine opq (d_X6_letterAt tx len j) (fun R hres => ?_)
  rw [hres]
  replace hres := hres.symm
  rw [d_X6_letterAt] at hres
  have hl := lv_entry ([.ref (a 0), .int k]) (n := 2) (Nat.le_of_ble_eq_true rfl)
  rw [lg_entry_eq]
  generalize (lg_sl ([.ref (a 0), .int k]) ++ List.replicate (2 - (lg_sl ([.ref (a 0), .int k])).length) Slot.unset).toArray = ls at hl ⊢
  have hl : lv_has ls 2 [(0, .ref (a 0)), (1, .int k)] := hl
  refine lv_iload_n hx hb dX6_letterAt_0 rfl (lv_at hl 1 rfl) ?_
  refine lv_to (show k = nI j from hj) ?_
  refine lv_aload_n hx hb dX6_letterAt_1 rfl (lv_at hl 0 rfl) ?_
  refine va_get (D := D) (ci := 6) (v := .int (f 3)) (C := RX6) (T := TX6) (N := 26) hx hb hts hinX6 hown hK hP 0 rfl rfl 3 (by decide) (hts (.fieldLink RX6 61 "FirstOutModel" "typed" "I") (by decide +kernel)) (fun _ h9 => h9) rfl dX6_letterAt_2 ?_
  refine lv_to (show (f 3) = nI len from hle) ?_
  refine lv_icmp_ge (tgt := 17) hx hb dX6_letterAt_5 (by decide) (fun c_1 => ?_) (fun c_1 => ?_)
  · skip
    rw [if_pos c_1] at hres
    refine lv_iconst (v := (-1)) hx hb dX6_letterAt_17 (by decide) ?_
    rw [hres]
    exact W.iret (v := (-1)) hx hb hr (fun t ht hW => ⟨rfl, ht⟩) (fun _ h => by cases h) dX6_letterAt_18
  · skip
    rw [if_neg c_1] at hres
    have hlt : j < len := nlt_of c_1 (by omega) (by omega)
    refine lv_aload_n hx hb dX6_letterAt_8 rfl (lv_at hl 0 rfl) ?_
    refine va_get (D := D) (ci := 6) (v := .ref (a 1)) (C := RX6) (T := TX6) (N := 26) hx hb hts hinX6 hown hK hP 0 rfl rfl 2 (by decide) (hts (.fieldLink RX6 7 "FirstOutModel" "text" "[I") (by decide +kernel)) (fun _ h9 => h9) rfl dX6_letterAt_9 ?_
    refine lv_iload_n hx hb dX6_letterAt_12 rfl (lv_at hl 1 rfl) ?_
    refine lv_to (show k = nI j from hj) ?_
    refine m_iald hx hb hK hP 1 0 rfl rfl j rfl (by omega) (by decide) dX6_letterAt_13 ?_
    refine lv_to (show _ = (tx j) from rfl) ?_
    refine lv_goto (tgt := 18) hx hb dX6_letterAt_14 (by decide) ?_
    rw [hres]
    exact W.iret (v := (tx j)) hx hb hr (fun t ht hW => ⟨rfl, ht⟩) (fun _ h => by cases h) dX6_letterAt_18
theorem la_lt {tx : Nat → Int32} {len j : Nat} (h : ¬ d_X6_letterAt tx len j = -1) (hj : j ≤ 200) (hl : len ≤ 200) : j < len := by
  rw [d_X6_letterAt] at h
  by_cases c : nI len ≤ nI j
  · rw [if_pos c] at h; exact absurd rfl h
  · exact nlt_of c (by omega) (by omega)
def lp_X6_advances_71 (f : Nat → Int32) (tx : Nat → Int32) (len : Nat) : Nat → (Nat → Int32) → Int32 → (Nat → Int32)
  | 0, _, _ => f
  | k71 + 1, f2, cc => if (d_X6_in (d_X6_letterAt tx len ((f2 4).toNatClampNeg)) 48 57) = 0 then
      if (999 : Int32) < (f2 7) then
        (upd f2 5 4)
      else
        if cc = (48 : Int32) then
          if ((f2 4) - (f2 6)) ≤ (1 : Int32) then
            (upd f2 5 2)
          else
            (upd f2 5 4)
        else
          (upd f2 5 2)
    else
      if (f2 7) ≤ (999 : Int32) then
        lp_X6_advances_71 f tx len k71 (upd (upd f2 7 ((((10 : Int32) * (f2 7)) + (d_X6_letterAt tx len ((f2 4).toNatClampNeg))) - (48 : Int32))) 4 ((f2 4) + (1 : Int32))) cc
      else
        lp_X6_advances_71 f tx len k71 (upd (upd f2 7 (f2 7)) 4 ((f2 4) + (1 : Int32))) cc
def lp_X6_advances_0 (f : Nat → Int32) (tx : Nat → Int32) (len : Nat) : Nat → (Nat → Int32) → (Nat → Int32)
  | 0, _ => f
  | k0 + 1, ff => if (d_X6_letterAt tx len ((ff 4).toNatClampNeg)) = (32 : Int32) then
      lp_X6_advances_0 f tx len k0 (upd ff 4 ((ff 4) + (1 : Int32)))
    else
      if 0 ≤ (d_X6_letterAt tx len ((ff 4).toNatClampNeg)) then
        if (d_X6_in (d_X6_letterAt tx len ((ff 4).toNatClampNeg)) 48 57) = 0 then
          if (d_X6_letterAt tx len ((ff 4).toNatClampNeg)) = (59 : Int32) then
            (upd (upd (upd (upd ff 6 (ff 4)) 4 ((ff 4) + (1 : Int32))) 7 (d_X6_letterAt tx len ((ff 4).toNatClampNeg))) 5 3)
          else
            if (d_X6_letterAt tx len ((ff 4).toNatClampNeg)) = (116 : Int32) then
              (upd (upd (upd (upd ff 6 (ff 4)) 4 ((ff 4) + (1 : Int32))) 7 (d_X6_letterAt tx len ((ff 4).toNatClampNeg))) 5 1)
            else
              if (d_X6_letterAt tx len ((ff 4).toNatClampNeg)) = (118 : Int32) then
                (upd (upd (upd (upd ff 6 (ff 4)) 4 ((ff 4) + (1 : Int32))) 7 (d_X6_letterAt tx len ((ff 4).toNatClampNeg))) 5 1)
              else
                if (d_X6_letterAt tx len ((ff 4).toNatClampNeg)) = (119 : Int32) then
                  (upd (upd (upd (upd ff 6 (ff 4)) 4 ((ff 4) + (1 : Int32))) 7 (d_X6_letterAt tx len ((ff 4).toNatClampNeg))) 5 1)
                else
                  (upd (upd (upd (upd ff 6 (ff 4)) 4 ((ff 4) + (1 : Int32))) 7 (d_X6_letterAt tx len ((ff 4).toNatClampNeg))) 5 4)
        else
          lp_X6_advances_71 f tx len 201 (upd (upd ff 6 (ff 4)) 7 0) (d_X6_letterAt tx len ((ff 4).toNatClampNeg))
      else
        (upd (upd ff 6 (ff 4)) 5 0)
def d_X6_advances (f : Nat → Int32) (tx : Nat → Int32) (len : Nat) : (Nat → Int32) :=
  lp_X6_advances_0 f tx len 201 f
set_option maxHeartbeats 4000000 in
set_option maxRecDepth 100000 in
theorem c_X6_advances (l : Launch) (D : va_G) (cI cC cZ cS : ClassId) (a : Nat → Nat) (f : Nat → Int32) (tx : Nat → Int32) (tc : Int64) (len : Nat) (hnx : NX f len) : Met l yX6_advances wsX6_advances { frames := 1, cells := 0, slots := 0, locals := 22 } (PcE D cI cC cZ cS [.ref (a 0)] (wMt cI cC cZ cS a f tx tc)) (QcM none D (wMt cI cC cZ cS a f tx tc) (wMt cI cC cZ cS a (d_X6_advances f tx len) tx tc)) 0 0 (inW (wMt cI cC cZ cS a f tx tc)) := by
  refine Met.ofW (cc := cX6_advances) (maxL := 2) (ret := none) (by decide) rfl ?_
  intro p e s m args below meth c s₁ B hml hv
  obtain ⟨rfl, hP, hD, hE⟩ := hv
  have hK := hE.1
  have hx := B.exec
  have hb := B.bytes
  have hr := B.returns
  have hts := atoms_spec (ws := wsX6_advances) B.pre
  have hown : s.vm.findClass RX6 = some m.cls := findClass_of_methodNamed B.named
  have hlocks := B.notSynchronized
  have hinX6 : ∀ w ∈ wsX60, w ∈ wsX6_advances := by decide +kernel
  have hD := inW_self hD
  have hS : va_S (inW (wMt cI cC cZ cS a f tx tc)) s.heap s.heap [] := va_S.rf
  generalize hA : inW (wMt cI cC cZ cS a f tx tc) = A at hD hS ⊢
  refine opq (d_X6_advances f tx len) (fun R hres => ?_)
  rw [hres]
  replace hres := hres.symm
  rw [d_X6_advances] at hres
  have hl := lv_entry ([.ref (a 0)]) (n := 2) (Nat.le_of_ble_eq_true rfl)
  rw [lg_entry_eq]
  generalize (lg_sl ([.ref (a 0)]) ++ List.replicate (2 - (lg_sl ([.ref (a 0)])).length) Slot.unset).toArray = ls at hl ⊢
  have hl : lv_has ls 2 [(0, .ref (a 0))] := hl
  have loop0 : ∀ (k0 : Nat) (ff : Nat → Int32), len - (ff 4).toNatClampNeg < k0 → NX ff len → R = lp_X6_advances_0 f tx len k0 ff → ∀ (H : Heap) (locs : List Loc), va_P D vwCl (wMt cI cC cZ cS a ff tx tc) H → va_D A (wMt cI cC cZ cS a ff tx tc) → va_S A s.heap H locs → ∀ ls : Array Slot, lv_has ls 2 [(0, .ref (a 0))] → W p l e (headSpec wsX6_advances { frames := 1, cells := 0, slots := 0, locals := 22 }).room s m (([.ref (a 0)] : List Value).toArray) below meth c H locs 0 0 (MQ below (QcM none D (wMt cI cC cZ cS a f tx tc) (wMt cI cC cZ cS a R tx tc)) (([.ref (a 0)] : List Value).toArray) s 0 0 A) (F0 m 0 ls []) := by
    intro k0
    induction k0 with
    | zero => intro ff hk; exact absurd hk (Nat.not_lt_zero _)
    | succ k0 ih0 =>
      intro ff hk0 hx_ hres H locs hP hD hS ls hl
      rw [lp_X6_advances_0] at hres
      refine lv_aload_n hx hb dX6_advances_0 rfl (lv_at hl 0 rfl) ?_
      refine lv_aload_n hx hb dX6_advances_1 rfl (lv_at hl 0 rfl) ?_
      refine va_get (D := D) (ci := 6) (v := .int (ff 4)) (C := RX6) (T := TX6) (N := 26) hx hb hts hinX6 hown hK hP 0 rfl rfl 4 (by decide) (hts (.fieldLink RX6 64 "FirstOutModel" "next" "I") (by decide +kernel)) (fun _ h9 => h9) rfl dX6_advances_2 ?_
      have hPc := hP.sub (ws' := (wMt cI cC cZ cS a ff tx tc)) [0, 1] rfl
      have hDc := hD.sub (ws' := (wMt cI cC cZ cS a ff tx tc)) [0, 1] (by decide) rfl
      refine m_callR (W.runV (As := [.int (ff 4)]) (rest := []) ⟨hx, hb, hml, hown, hts⟩ (c_X6_letterAt l D cI cC cZ cS a ff tx tc (ff 4) len ((ff 4).toNatClampNeg) hx_.1 hx_.2.1 hx_.le.1 (Nat.le_trans hx_.le.2 hx_.2.1)) (cwV 1 hts gX6_advances_X6_letterAt rfl rfl rfl (by decide +kernel) ⟨Nat.le_of_ble_eq_true rfl, Nat.le_of_ble_eq_true rfl⟩) (preV_of hPc hDc hE (va_recv hK hPc (ci := 6) (q0 := 0) rfl rfl)) rfl rfl hl.1 rfl (lv_room (Nat.le_of_ble_eq_true rfl)) dX6_advances_5 ⟨Nat.zero_le _, Nat.zero_le _⟩) ?_
      refine W.eq (g2 := F0 m 8 ls [.int (d_X6_letterAt tx len ((ff 4).toNatClampNeg))]) rfl ?_
      refine lv_bipush (v := 32) hx hb dX6_advances_8 (by decide) ?_
      refine lv_icmp_ne (tgt := 26) hx hb dX6_advances_10 (by decide) (fun c_1 => ?_) (fun c_1 => ?_)
      · skip
        rw [if_neg c_1] at hres
        refine lv_aload_n hx hb dX6_advances_26 rfl (lv_at hl 0 rfl) ?_
        refine lv_aload_n hx hb dX6_advances_27 rfl (lv_at hl 0 rfl) ?_
        refine va_get (D := D) (ci := 6) (v := .int (ff 4)) (C := RX6) (T := TX6) (N := 26) hx hb hts hinX6 hown hK hP 0 rfl rfl 4 (by decide) (hts (.fieldLink RX6 64 "FirstOutModel" "next" "I") (by decide +kernel)) (fun _ h9 => h9) rfl dX6_advances_28 ?_
        refine va_put (D := D) (ci := 6) (v := .int (ff 4)) (ty := .int) (C := RX6) (T := TX6) (N := 26) hx hb hts hinX6 tyX6 tyX6_ok nmX6 hown hK hP hD hS 0 rfl rfl 6 (by decide) (hts (.fieldLink RX6 71 "FirstOutModel" "place" "I") (by decide +kernel)) (fun _ h9 => h9) rfl (by decide +kernel) rfl rfl (Nat.le_of_ble_eq_true rfl) dX6_advances_31 (fun H locs hP hD hS => ?_)
        have hP : va_P D vwCl (wMt cI cC cZ cS a (upd ff 6 (ff 4)) tx tc) H := hP
        have hD : va_D A (wMt cI cC cZ cS a (upd ff 6 (ff 4)) tx tc) := hD
        refine lv_aload_n hx hb dX6_advances_34 rfl (lv_at hl 0 rfl) ?_
        refine lv_aload_n hx hb dX6_advances_35 rfl (lv_at hl 0 rfl) ?_
        refine va_get (D := D) (ci := 6) (v := .int (ff 4)) (C := RX6) (T := TX6) (N := 26) hx hb hts hinX6 hown hK hP 0 rfl rfl 4 (by decide) (hts (.fieldLink RX6 64 "FirstOutModel" "next" "I") (by decide +kernel)) (fun _ h9 => h9) rfl dX6_advances_36 ?_
        have hPc := hP.sub (ws' := (wMt cI cC cZ cS a (upd ff 6 (ff 4)) tx tc)) [0, 1] rfl
        have hDc := hD.sub (ws' := (wMt cI cC cZ cS a (upd ff 6 (ff 4)) tx tc)) [0, 1] (by decide) rfl
        refine m_callR (W.runV (As := [.int (ff 4)]) (rest := []) ⟨hx, hb, hml, hown, hts⟩ (c_X6_letterAt l D cI cC cZ cS a (upd ff 6 (ff 4)) tx tc (ff 4) len ((ff 4).toNatClampNeg) hx_.1 hx_.2.1 hx_.le.1 (Nat.le_trans hx_.le.2 hx_.2.1)) (cwV 1 hts gX6_advances_X6_letterAt rfl rfl rfl (by decide +kernel) ⟨Nat.le_of_ble_eq_true rfl, Nat.le_of_ble_eq_true rfl⟩) (preV_of hPc hDc hE (va_recv hK hPc (ci := 6) (q0 := 0) rfl rfl)) rfl rfl hl.1 rfl (lv_room (Nat.le_of_ble_eq_true rfl)) dX6_advances_39 ⟨Nat.zero_le _, Nat.zero_le _⟩) ?_
        refine W.eq (g2 := F0 m 42 ls [.int (d_X6_letterAt tx len ((ff 4).toNatClampNeg))]) rfl ?_
        refine lv_istore_n (lv' := [(1, .int (d_X6_letterAt tx len ((ff 4).toNatClampNeg))), (0, .ref (a 0))]) hx hb dX6_advances_42 rfl hl (by decide) rfl (fun ls hl => ?_)
        refine lv_iload_n hx hb dX6_advances_43 rfl (lv_at hl 0 rfl) ?_
        refine lv_if_ge (tgt := 55) hx hb dX6_advances_44 (by decide) (fun c_2 => ?_) (fun c_2 => ?_)
        · skip
          rw [if_pos c_2] at hres
          refine lv_iload_n hx hb dX6_advances_55 rfl (lv_at hl 0 rfl) ?_
          refine lv_bipush (v := 48) hx hb dX6_advances_56 (by decide) ?_
          refine lv_bipush (v := 57) hx hb dX6_advances_58 (by decide) ?_
          have hPc := hP.sub (ws' := []) [] rfl
          have hDc := hD.sub (ws' := []) [] (by decide) rfl
          refine m_callR (W.runS (As := [.int (d_X6_letterAt tx len ((ff 4).toNatClampNeg)), .int 48, .int 57]) (rest := []) ⟨hx, hb, hml, hown, hts⟩ (c_X6_in l D cI cC cZ cS (d_X6_letterAt tx len ((ff 4).toNatClampNeg)) 48 57) (va_cwS 3 hts gX6_advances_X6_in rfl rfl rfl (by decide +kernel) ⟨Nat.le_of_ble_eq_true rfl, Nat.le_of_ble_eq_true rfl⟩) (preS_of hPc hDc hE) rfl rfl hl.1 rfl (lv_room (Nat.le_of_ble_eq_true rfl)) dX6_advances_60 ⟨Nat.zero_le _, Nat.zero_le _⟩) ?_
          refine W.eq (g2 := F0 m 63 ls [.int (d_X6_in (d_X6_letterAt tx len ((ff 4).toNatClampNeg)) 48 57)]) rfl ?_
          refine lv_if_eq (tgt := 183) hx hb dX6_advances_63 (by decide) (fun c_3 => ?_) (fun c_3 => ?_)
          · skip
            rw [if_pos c_3] at hres
            refine lv_aload_n hx hb dX6_advances_183 rfl (lv_at hl 1 rfl) ?_
            refine lv_dup hx hb dX6_advances_184 rfl ?_
            refine va_get (D := D) (ci := 6) (v := .int (ff 4)) (C := RX6) (T := TX6) (N := 26) hx hb hts hinX6 hown hK hP 0 rfl rfl 4 (by decide) (hts (.fieldLink RX6 64 "FirstOutModel" "next" "I") (by decide +kernel)) (fun _ h9 => h9) rfl dX6_advances_185 ?_
            refine lv_iconst (v := 1) hx hb dX6_advances_188 (by decide) ?_
            refine lv_iadd hx hb dX6_advances_189 ?_
            refine va_put (D := D) (ci := 6) (v := .int ((ff 4) + (1 : Int32))) (ty := .int) (C := RX6) (T := TX6) (N := 26) hx hb hts hinX6 tyX6 tyX6_ok nmX6 hown hK hP hD hS 0 rfl rfl 4 (by decide) (hts (.fieldLink RX6 64 "FirstOutModel" "next" "I") (by decide +kernel)) (fun _ h9 => h9) rfl (by decide +kernel) rfl rfl (Nat.le_of_ble_eq_true rfl) dX6_advances_190 (fun H locs hP hD hS => ?_)
            have hP : va_P D vwCl (wMt cI cC cZ cS a (upd (upd ff 6 (ff 4)) 4 ((ff 4) + (1 : Int32))) tx tc) H := hP
            have hD : va_D A (wMt cI cC cZ cS a (upd (upd ff 6 (ff 4)) 4 ((ff 4) + (1 : Int32))) tx tc) := hD
            refine lv_aload_n hx hb dX6_advances_193 rfl (lv_at hl 1 rfl) ?_
            refine lv_iload_n hx hb dX6_advances_194 rfl (lv_at hl 0 rfl) ?_
            refine va_put (D := D) (ci := 6) (v := .int (d_X6_letterAt tx len ((ff 4).toNatClampNeg))) (ty := .int) (C := RX6) (T := TX6) (N := 26) hx hb hts hinX6 tyX6 tyX6_ok nmX6 hown hK hP hD hS 0 rfl rfl 7 (by decide) (hts (.fieldLink RX6 77 "FirstOutModel" "value" "I") (by decide +kernel)) (fun _ h9 => h9) rfl (by decide +kernel) rfl rfl (Nat.le_of_ble_eq_true rfl) dX6_advances_195 (fun H locs hP hD hS => ?_)
            have hP : va_P D vwCl (wMt cI cC cZ cS a (upd (upd (upd ff 6 (ff 4)) 4 ((ff 4) + (1 : Int32))) 7 (d_X6_letterAt tx len ((ff 4).toNatClampNeg))) tx tc) H := hP
            have hD : va_D A (wMt cI cC cZ cS a (upd (upd (upd ff 6 (ff 4)) 4 ((ff 4) + (1 : Int32))) 7 (d_X6_letterAt tx len ((ff 4).toNatClampNeg))) tx tc) := hD
            refine lv_aload_n hx hb dX6_advances_198 rfl (lv_at hl 1 rfl) ?_
            refine lv_iload_n hx hb dX6_advances_199 rfl (lv_at hl 0 rfl) ?_
            refine lv_bipush (v := 59) hx hb dX6_advances_200 (by decide) ?_
            refine lv_icmp_ne (tgt := 209) hx hb dX6_advances_202 (by decide) (fun c_4 => ?_) (fun c_4 => ?_)
            · skip
              rw [if_neg c_4] at hres
              refine lv_iload_n hx hb dX6_advances_209 rfl (lv_at hl 0 rfl) ?_
              refine lv_bipush (v := 116) hx hb dX6_advances_210 (by decide) ?_
              refine lv_icmp_eq (tgt := 227) hx hb dX6_advances_212 (by decide) (fun c_5 => ?_) (fun c_5 => ?_)
              · skip
                rw [if_pos c_5] at hres
                refine lv_iconst (v := 1) hx hb dX6_advances_227 (by decide) ?_
                refine lv_goto (tgt := 232) hx hb dX6_advances_228 (by decide) ?_
                refine va_put (D := D) (ci := 6) (v := .int 1) (ty := .int) (C := RX6) (T := TX6) (N := 26) hx hb hts hinX6 tyX6 tyX6_ok nmX6 hown hK hP hD hS 0 rfl rfl 5 (by decide) (hts (.fieldLink RX6 74 "FirstOutModel" "token" "I") (by decide +kernel)) (fun _ h9 => h9) rfl (by decide +kernel) rfl rfl (Nat.le_of_ble_eq_true rfl) dX6_advances_232 (fun H locs hP hD hS => ?_)
                have hP : va_P D vwCl (wMt cI cC cZ cS a (upd (upd (upd (upd ff 6 (ff 4)) 4 ((ff 4) + (1 : Int32))) 7 (d_X6_letterAt tx len ((ff 4).toNatClampNeg))) 5 1) tx tc) H := hP
                have hD : va_D A (wMt cI cC cZ cS a (upd (upd (upd (upd ff 6 (ff 4)) 4 ((ff 4) + (1 : Int32))) 7 (d_X6_letterAt tx len ((ff 4).toNatClampNeg))) 5 1) tx tc) := hD
                rw [hres]
                exact W.vret hx hb hr (fun t ht hW => ⟨rfl, by rw [ht]; exact hP, by rw [hA]; exact hS.F ht⟩) hS.2.2 dX6_advances_235
              · skip
                rw [if_neg c_5] at hres
                refine lv_iload_n hx hb dX6_advances_215 rfl (lv_at hl 0 rfl) ?_
                refine lv_bipush (v := 118) hx hb dX6_advances_216 (by decide) ?_
                refine lv_icmp_eq (tgt := 227) hx hb dX6_advances_218 (by decide) (fun c_6 => ?_) (fun c_6 => ?_)
                · skip
                  rw [if_pos c_6] at hres
                  refine lv_iconst (v := 1) hx hb dX6_advances_227 (by decide) ?_
                  refine lv_goto (tgt := 232) hx hb dX6_advances_228 (by decide) ?_
                  refine va_put (D := D) (ci := 6) (v := .int 1) (ty := .int) (C := RX6) (T := TX6) (N := 26) hx hb hts hinX6 tyX6 tyX6_ok nmX6 hown hK hP hD hS 0 rfl rfl 5 (by decide) (hts (.fieldLink RX6 74 "FirstOutModel" "token" "I") (by decide +kernel)) (fun _ h9 => h9) rfl (by decide +kernel) rfl rfl (Nat.le_of_ble_eq_true rfl) dX6_advances_232 (fun H locs hP hD hS => ?_)
                  have hP : va_P D vwCl (wMt cI cC cZ cS a (upd (upd (upd (upd ff 6 (ff 4)) 4 ((ff 4) + (1 : Int32))) 7 (d_X6_letterAt tx len ((ff 4).toNatClampNeg))) 5 1) tx tc) H := hP
                  have hD : va_D A (wMt cI cC cZ cS a (upd (upd (upd (upd ff 6 (ff 4)) 4 ((ff 4) + (1 : Int32))) 7 (d_X6_letterAt tx len ((ff 4).toNatClampNeg))) 5 1) tx tc) := hD
                  rw [hres]
                  exact W.vret hx hb hr (fun t ht hW => ⟨rfl, by rw [ht]; exact hP, by rw [hA]; exact hS.F ht⟩) hS.2.2 dX6_advances_235
                · skip
                  rw [if_neg c_6] at hres
                  refine lv_iload_n hx hb dX6_advances_221 rfl (lv_at hl 0 rfl) ?_
                  refine lv_bipush (v := 119) hx hb dX6_advances_222 (by decide) ?_
                  refine lv_icmp_ne (tgt := 231) hx hb dX6_advances_224 (by decide) (fun c_7 => ?_) (fun c_7 => ?_)
                  · skip
                    rw [if_neg c_7] at hres
                    refine lv_iconst (v := 4) hx hb dX6_advances_231 (by decide) ?_
                    refine va_put (D := D) (ci := 6) (v := .int 4) (ty := .int) (C := RX6) (T := TX6) (N := 26) hx hb hts hinX6 tyX6 tyX6_ok nmX6 hown hK hP hD hS 0 rfl rfl 5 (by decide) (hts (.fieldLink RX6 74 "FirstOutModel" "token" "I") (by decide +kernel)) (fun _ h9 => h9) rfl (by decide +kernel) rfl rfl (Nat.le_of_ble_eq_true rfl) dX6_advances_232 (fun H locs hP hD hS => ?_)
                    have hP : va_P D vwCl (wMt cI cC cZ cS a (upd (upd (upd (upd ff 6 (ff 4)) 4 ((ff 4) + (1 : Int32))) 7 (d_X6_letterAt tx len ((ff 4).toNatClampNeg))) 5 4) tx tc) H := hP
                    have hD : va_D A (wMt cI cC cZ cS a (upd (upd (upd (upd ff 6 (ff 4)) 4 ((ff 4) + (1 : Int32))) 7 (d_X6_letterAt tx len ((ff 4).toNatClampNeg))) 5 4) tx tc) := hD
                    rw [hres]
                    exact W.vret hx hb hr (fun t ht hW => ⟨rfl, by rw [ht]; exact hP, by rw [hA]; exact hS.F ht⟩) hS.2.2 dX6_advances_235
                  · skip
                    rw [if_pos c_7] at hres
                    refine lv_iconst (v := 1) hx hb dX6_advances_227 (by decide) ?_
                    refine lv_goto (tgt := 232) hx hb dX6_advances_228 (by decide) ?_
                    refine va_put (D := D) (ci := 6) (v := .int 1) (ty := .int) (C := RX6) (T := TX6) (N := 26) hx hb hts hinX6 tyX6 tyX6_ok nmX6 hown hK hP hD hS 0 rfl rfl 5 (by decide) (hts (.fieldLink RX6 74 "FirstOutModel" "token" "I") (by decide +kernel)) (fun _ h9 => h9) rfl (by decide +kernel) rfl rfl (Nat.le_of_ble_eq_true rfl) dX6_advances_232 (fun H locs hP hD hS => ?_)
                    have hP : va_P D vwCl (wMt cI cC cZ cS a (upd (upd (upd (upd ff 6 (ff 4)) 4 ((ff 4) + (1 : Int32))) 7 (d_X6_letterAt tx len ((ff 4).toNatClampNeg))) 5 1) tx tc) H := hP
                    have hD : va_D A (wMt cI cC cZ cS a (upd (upd (upd (upd ff 6 (ff 4)) 4 ((ff 4) + (1 : Int32))) 7 (d_X6_letterAt tx len ((ff 4).toNatClampNeg))) 5 1) tx tc) := hD
                    rw [hres]
                    exact W.vret hx hb hr (fun t ht hW => ⟨rfl, by rw [ht]; exact hP, by rw [hA]; exact hS.F ht⟩) hS.2.2 dX6_advances_235
            · skip
              rw [if_pos c_4] at hres
              refine lv_iconst (v := 3) hx hb dX6_advances_205 (by decide) ?_
              refine lv_goto (tgt := 232) hx hb dX6_advances_206 (by decide) ?_
              refine va_put (D := D) (ci := 6) (v := .int 3) (ty := .int) (C := RX6) (T := TX6) (N := 26) hx hb hts hinX6 tyX6 tyX6_ok nmX6 hown hK hP hD hS 0 rfl rfl 5 (by decide) (hts (.fieldLink RX6 74 "FirstOutModel" "token" "I") (by decide +kernel)) (fun _ h9 => h9) rfl (by decide +kernel) rfl rfl (Nat.le_of_ble_eq_true rfl) dX6_advances_232 (fun H locs hP hD hS => ?_)
              have hP : va_P D vwCl (wMt cI cC cZ cS a (upd (upd (upd (upd ff 6 (ff 4)) 4 ((ff 4) + (1 : Int32))) 7 (d_X6_letterAt tx len ((ff 4).toNatClampNeg))) 5 3) tx tc) H := hP
              have hD : va_D A (wMt cI cC cZ cS a (upd (upd (upd (upd ff 6 (ff 4)) 4 ((ff 4) + (1 : Int32))) 7 (d_X6_letterAt tx len ((ff 4).toNatClampNeg))) 5 3) tx tc) := hD
              rw [hres]
              exact W.vret hx hb hr (fun t ht hW => ⟨rfl, by rw [ht]; exact hP, by rw [hA]; exact hS.F ht⟩) hS.2.2 dX6_advances_235
          · skip
            rw [if_neg c_3] at hres
            refine lv_aload_n hx hb dX6_advances_66 rfl (lv_at hl 1 rfl) ?_
            refine lv_iconst (v := 0) hx hb dX6_advances_67 (by decide) ?_
            refine va_put (D := D) (ci := 6) (v := .int 0) (ty := .int) (C := RX6) (T := TX6) (N := 26) hx hb hts hinX6 tyX6 tyX6_ok nmX6 hown hK hP hD hS 0 rfl rfl 7 (by decide) (hts (.fieldLink RX6 77 "FirstOutModel" "value" "I") (by decide +kernel)) (fun _ h9 => h9) rfl (by decide +kernel) rfl rfl (Nat.le_of_ble_eq_true rfl) dX6_advances_68 (fun H locs hP hD hS => ?_)
            have hP : va_P D vwCl (wMt cI cC cZ cS a (upd (upd ff 6 (ff 4)) 7 0) tx tc) H := hP
            have hD : va_D A (wMt cI cC cZ cS a (upd (upd ff 6 (ff 4)) 7 0) tx tc) := hD
            have loop71 : ∀ (k71 : Nat) (f2 : Nat → Int32) (cc : Int32), len - (f2 4).toNatClampNeg < k71 → NX f2 len → R = lp_X6_advances_71 f tx len k71 f2 cc → ∀ (H : Heap) (locs : List Loc), va_P D vwCl (wMt cI cC cZ cS a f2 tx tc) H → va_D A (wMt cI cC cZ cS a f2 tx tc) → va_S A s.heap H locs → ∀ ls : Array Slot, lv_has ls 2 [(0, .ref (a 0)), (1, .int cc)] → W p l e (headSpec wsX6_advances { frames := 1, cells := 0, slots := 0, locals := 22 }).room s m (([.ref (a 0)] : List Value).toArray) below meth c H locs 0 0 (MQ below (QcM none D (wMt cI cC cZ cS a f tx tc) (wMt cI cC cZ cS a R tx tc)) (([.ref (a 0)] : List Value).toArray) s 0 0 A) (F0 m 71 ls []) := by
              intro k71
              induction k71 with
              | zero => intro f2 cc hk; exact absurd hk (Nat.not_lt_zero _)
              | succ k71 ih71 =>
                intro f2 cc hk71 hx_ hres H locs hP hD hS ls hl
                rw [lp_X6_advances_71] at hres
                refine lv_aload_n hx hb dX6_advances_71 rfl (lv_at hl 0 rfl) ?_
                refine lv_aload_n hx hb dX6_advances_72 rfl (lv_at hl 0 rfl) ?_
                refine va_get (D := D) (ci := 6) (v := .int (f2 4)) (C := RX6) (T := TX6) (N := 26) hx hb hts hinX6 hown hK hP 0 rfl rfl 4 (by decide) (hts (.fieldLink RX6 64 "FirstOutModel" "next" "I") (by decide +kernel)) (fun _ h9 => h9) rfl dX6_advances_73 ?_
                have hPc := hP.sub (ws' := (wMt cI cC cZ cS a f2 tx tc)) [0, 1] rfl
                have hDc := hD.sub (ws' := (wMt cI cC cZ cS a f2 tx tc)) [0, 1] (by decide) rfl
                refine m_callR (W.runV (As := [.int (f2 4)]) (rest := []) ⟨hx, hb, hml, hown, hts⟩ (c_X6_letterAt l D cI cC cZ cS a f2 tx tc (f2 4) len ((f2 4).toNatClampNeg) hx_.1 hx_.2.1 hx_.le.1 (Nat.le_trans hx_.le.2 hx_.2.1)) (cwV 1 hts gX6_advances_X6_letterAt rfl rfl rfl (by decide +kernel) ⟨Nat.le_of_ble_eq_true rfl, Nat.le_of_ble_eq_true rfl⟩) (preV_of hPc hDc hE (va_recv hK hPc (ci := 6) (q0 := 0) rfl rfl)) rfl rfl hl.1 rfl (lv_room (Nat.le_of_ble_eq_true rfl)) dX6_advances_76 ⟨Nat.zero_le _, Nat.zero_le _⟩) ?_
                refine W.eq (g2 := F0 m 79 ls [.int (d_X6_letterAt tx len ((f2 4).toNatClampNeg))]) rfl ?_
                refine lv_bipush (v := 48) hx hb dX6_advances_79 (by decide) ?_
                refine lv_bipush (v := 57) hx hb dX6_advances_81 (by decide) ?_
                have hPc := hP.sub (ws' := []) [] rfl
                have hDc := hD.sub (ws' := []) [] (by decide) rfl
                refine m_callR (W.runS (As := [.int (d_X6_letterAt tx len ((f2 4).toNatClampNeg)), .int 48, .int 57]) (rest := []) ⟨hx, hb, hml, hown, hts⟩ (c_X6_in l D cI cC cZ cS (d_X6_letterAt tx len ((f2 4).toNatClampNeg)) 48 57) (va_cwS 3 hts gX6_advances_X6_in rfl rfl rfl (by decide +kernel) ⟨Nat.le_of_ble_eq_true rfl, Nat.le_of_ble_eq_true rfl⟩) (preS_of hPc hDc hE) rfl rfl hl.1 rfl (lv_room (Nat.le_of_ble_eq_true rfl)) dX6_advances_83 ⟨Nat.zero_le _, Nat.zero_le _⟩) ?_
                refine W.eq (g2 := F0 m 86 ls [.int (d_X6_in (d_X6_letterAt tx len ((f2 4).toNatClampNeg)) 48 57)]) rfl ?_
                refine lv_if_eq (tgt := 142) hx hb dX6_advances_86 (by decide) (fun c_8 => ?_) (fun c_8 => ?_)
                · skip
                  rw [if_pos c_8] at hres
                  refine lv_aload_n hx hb dX6_advances_142 rfl (lv_at hl 0 rfl) ?_
                  refine lv_aload_n hx hb dX6_advances_143 rfl (lv_at hl 0 rfl) ?_
                  refine va_get (D := D) (ci := 6) (v := .int (f2 7)) (C := RX6) (T := TX6) (N := 26) hx hb hts hinX6 hown hK hP 0 rfl rfl 7 (by decide) (hts (.fieldLink RX6 77 "FirstOutModel" "value" "I") (by decide +kernel)) (fun _ h9 => h9) rfl dX6_advances_144 ?_
                  refine lv_sipush (v := 999) hx hb dX6_advances_147 (by decide) ?_
                  refine lv_icmp_gt (tgt := 172) hx hb dX6_advances_150 (by decide) (fun c_9 => ?_) (fun c_9 => ?_)
                  · skip
                    rw [if_pos c_9] at hres
                    refine lv_iconst (v := 4) hx hb dX6_advances_172 (by decide) ?_
                    refine lv_goto (tgt := 177) hx hb dX6_advances_173 (by decide) ?_
                    refine va_put (D := D) (ci := 6) (v := .int 4) (ty := .int) (C := RX6) (T := TX6) (N := 26) hx hb hts hinX6 tyX6 tyX6_ok nmX6 hown hK hP hD hS 0 rfl rfl 5 (by decide) (hts (.fieldLink RX6 74 "FirstOutModel" "token" "I") (by decide +kernel)) (fun _ h9 => h9) rfl (by decide +kernel) rfl rfl (Nat.le_of_ble_eq_true rfl) dX6_advances_177 (fun H locs hP hD hS => ?_)
                    have hP : va_P D vwCl (wMt cI cC cZ cS a (upd f2 5 4) tx tc) H := hP
                    have hD : va_D A (wMt cI cC cZ cS a (upd f2 5 4) tx tc) := hD
                    refine lv_goto (tgt := 235) hx hb dX6_advances_180 (by decide) ?_
                    rw [hres]
                    exact W.vret hx hb hr (fun t ht hW => ⟨rfl, by rw [ht]; exact hP, by rw [hA]; exact hS.F ht⟩) hS.2.2 dX6_advances_235
                  · skip
                    rw [if_neg c_9] at hres
                    refine lv_iload_n hx hb dX6_advances_153 rfl (lv_at hl 1 rfl) ?_
                    refine lv_bipush (v := 48) hx hb dX6_advances_154 (by decide) ?_
                    refine lv_icmp_ne (tgt := 176) hx hb dX6_advances_156 (by decide) (fun c_10 => ?_) (fun c_10 => ?_)
                    · skip
                      rw [if_neg c_10] at hres
                      refine lv_iconst (v := 2) hx hb dX6_advances_176 (by decide) ?_
                      refine va_put (D := D) (ci := 6) (v := .int 2) (ty := .int) (C := RX6) (T := TX6) (N := 26) hx hb hts hinX6 tyX6 tyX6_ok nmX6 hown hK hP hD hS 0 rfl rfl 5 (by decide) (hts (.fieldLink RX6 74 "FirstOutModel" "token" "I") (by decide +kernel)) (fun _ h9 => h9) rfl (by decide +kernel) rfl rfl (Nat.le_of_ble_eq_true rfl) dX6_advances_177 (fun H locs hP hD hS => ?_)
                      have hP : va_P D vwCl (wMt cI cC cZ cS a (upd f2 5 2) tx tc) H := hP
                      have hD : va_D A (wMt cI cC cZ cS a (upd f2 5 2) tx tc) := hD
                      refine lv_goto (tgt := 235) hx hb dX6_advances_180 (by decide) ?_
                      rw [hres]
                      exact W.vret hx hb hr (fun t ht hW => ⟨rfl, by rw [ht]; exact hP, by rw [hA]; exact hS.F ht⟩) hS.2.2 dX6_advances_235
                    · skip
                      rw [if_pos c_10] at hres
                      refine lv_aload_n hx hb dX6_advances_159 rfl (lv_at hl 0 rfl) ?_
                      refine va_get (D := D) (ci := 6) (v := .int (f2 4)) (C := RX6) (T := TX6) (N := 26) hx hb hts hinX6 hown hK hP 0 rfl rfl 4 (by decide) (hts (.fieldLink RX6 64 "FirstOutModel" "next" "I") (by decide +kernel)) (fun _ h9 => h9) rfl dX6_advances_160 ?_
                      refine lv_aload_n hx hb dX6_advances_163 rfl (lv_at hl 0 rfl) ?_
                      refine va_get (D := D) (ci := 6) (v := .int (f2 6)) (C := RX6) (T := TX6) (N := 26) hx hb hts hinX6 hown hK hP 0 rfl rfl 6 (by decide) (hts (.fieldLink RX6 71 "FirstOutModel" "place" "I") (by decide +kernel)) (fun _ h9 => h9) rfl dX6_advances_164 ?_
                      refine lv_isub hx hb dX6_advances_167 ?_
                      refine lv_iconst (v := 1) hx hb dX6_advances_168 (by decide) ?_
                      refine lv_icmp_le (tgt := 176) hx hb dX6_advances_169 (by decide) (fun c_11 => ?_) (fun c_11 => ?_)
                      · skip
                        rw [if_pos c_11] at hres
                        refine lv_iconst (v := 2) hx hb dX6_advances_176 (by decide) ?_
                        refine va_put (D := D) (ci := 6) (v := .int 2) (ty := .int) (C := RX6) (T := TX6) (N := 26) hx hb hts hinX6 tyX6 tyX6_ok nmX6 hown hK hP hD hS 0 rfl rfl 5 (by decide) (hts (.fieldLink RX6 74 "FirstOutModel" "token" "I") (by decide +kernel)) (fun _ h9 => h9) rfl (by decide +kernel) rfl rfl (Nat.le_of_ble_eq_true rfl) dX6_advances_177 (fun H locs hP hD hS => ?_)
                        have hP : va_P D vwCl (wMt cI cC cZ cS a (upd f2 5 2) tx tc) H := hP
                        have hD : va_D A (wMt cI cC cZ cS a (upd f2 5 2) tx tc) := hD
                        refine lv_goto (tgt := 235) hx hb dX6_advances_180 (by decide) ?_
                        rw [hres]
                        exact W.vret hx hb hr (fun t ht hW => ⟨rfl, by rw [ht]; exact hP, by rw [hA]; exact hS.F ht⟩) hS.2.2 dX6_advances_235
                      · skip
                        rw [if_neg c_11] at hres
                        refine lv_iconst (v := 4) hx hb dX6_advances_172 (by decide) ?_
                        refine lv_goto (tgt := 177) hx hb dX6_advances_173 (by decide) ?_
                        refine va_put (D := D) (ci := 6) (v := .int 4) (ty := .int) (C := RX6) (T := TX6) (N := 26) hx hb hts hinX6 tyX6 tyX6_ok nmX6 hown hK hP hD hS 0 rfl rfl 5 (by decide) (hts (.fieldLink RX6 74 "FirstOutModel" "token" "I") (by decide +kernel)) (fun _ h9 => h9) rfl (by decide +kernel) rfl rfl (Nat.le_of_ble_eq_true rfl) dX6_advances_177 (fun H locs hP hD hS => ?_)
                        have hP : va_P D vwCl (wMt cI cC cZ cS a (upd f2 5 4) tx tc) H := hP
                        have hD : va_D A (wMt cI cC cZ cS a (upd f2 5 4) tx tc) := hD
                        refine lv_goto (tgt := 235) hx hb dX6_advances_180 (by decide) ?_
                        rw [hres]
                        exact W.vret hx hb hr (fun t ht hW => ⟨rfl, by rw [ht]; exact hP, by rw [hA]; exact hS.F ht⟩) hS.2.2 dX6_advances_235
                · skip
                  rw [if_neg c_8] at hres
                  have hlt7 : (f2 4).toNatClampNeg < len := la_lt (in_not_m1 c_8) (Nat.le_trans hx_.le.2 hx_.2.1) hx_.2.1
                  refine lv_aload_n hx hb dX6_advances_89 rfl (lv_at hl 0 rfl) ?_
                  refine lv_aload_n hx hb dX6_advances_90 rfl (lv_at hl 0 rfl) ?_
                  refine va_get (D := D) (ci := 6) (v := .int (f2 7)) (C := RX6) (T := TX6) (N := 26) hx hb hts hinX6 hown hK hP 0 rfl rfl 7 (by decide) (hts (.fieldLink RX6 77 "FirstOutModel" "value" "I") (by decide +kernel)) (fun _ h9 => h9) rfl dX6_advances_91 ?_
                  refine lv_sipush (v := 999) hx hb dX6_advances_94 (by decide) ?_
                  refine lv_icmp_le (tgt := 107) hx hb dX6_advances_97 (by decide) (fun c_12 => ?_) (fun c_12 => ?_)
                  · skip
                    rw [if_pos c_12] at hres
                    refine lv_bipush (v := 10) hx hb dX6_advances_107 (by decide) ?_
                    refine lv_aload_n hx hb dX6_advances_109 rfl (lv_at hl 0 rfl) ?_
                    refine va_get (D := D) (ci := 6) (v := .int (f2 7)) (C := RX6) (T := TX6) (N := 26) hx hb hts hinX6 hown hK hP 0 rfl rfl 7 (by decide) (hts (.fieldLink RX6 77 "FirstOutModel" "value" "I") (by decide +kernel)) (fun _ h9 => h9) rfl dX6_advances_110 ?_
                    refine lv_imul hx hb dX6_advances_113 ?_
                    refine lv_aload_n hx hb dX6_advances_114 rfl (lv_at hl 0 rfl) ?_
                    refine lv_aload_n hx hb dX6_advances_115 rfl (lv_at hl 0 rfl) ?_
                    refine va_get (D := D) (ci := 6) (v := .int (f2 4)) (C := RX6) (T := TX6) (N := 26) hx hb hts hinX6 hown hK hP 0 rfl rfl 4 (by decide) (hts (.fieldLink RX6 64 "FirstOutModel" "next" "I") (by decide +kernel)) (fun _ h9 => h9) rfl dX6_advances_116 ?_
                    have hPc := hP.sub (ws' := (wMt cI cC cZ cS a f2 tx tc)) [0, 1] rfl
                    have hDc := hD.sub (ws' := (wMt cI cC cZ cS a f2 tx tc)) [0, 1] (by decide) rfl
                    refine m_callR (W.runV (As := [.int (f2 4)]) (rest := [.int ((10 : Int32) * (f2 7)), .ref (a 0)]) ⟨hx, hb, hml, hown, hts⟩ (c_X6_letterAt l D cI cC cZ cS a f2 tx tc (f2 4) len ((f2 4).toNatClampNeg) hx_.1 hx_.2.1 hx_.le.1 (Nat.le_trans hx_.le.2 hx_.2.1)) (cwV 1 hts gX6_advances_X6_letterAt rfl rfl rfl (by decide +kernel) ⟨Nat.le_of_ble_eq_true rfl, Nat.le_of_ble_eq_true rfl⟩) (preV_of hPc hDc hE (va_recv hK hPc (ci := 6) (q0 := 0) rfl rfl)) rfl rfl hl.1 rfl (lv_room (Nat.le_of_ble_eq_true rfl)) dX6_advances_119 ⟨Nat.zero_le _, Nat.zero_le _⟩) ?_
                    refine W.eq (g2 := F0 m 122 ls [.int (d_X6_letterAt tx len ((f2 4).toNatClampNeg)), .int ((10 : Int32) * (f2 7)), .ref (a 0)]) rfl ?_
                    refine lv_iadd hx hb dX6_advances_122 ?_
                    refine lv_bipush (v := 48) hx hb dX6_advances_123 (by decide) ?_
                    refine lv_isub hx hb dX6_advances_125 ?_
                    refine va_put (D := D) (ci := 6) (v := .int ((((10 : Int32) * (f2 7)) + (d_X6_letterAt tx len ((f2 4).toNatClampNeg))) - (48 : Int32))) (ty := .int) (C := RX6) (T := TX6) (N := 26) hx hb hts hinX6 tyX6 tyX6_ok nmX6 hown hK hP hD hS 0 rfl rfl 7 (by decide) (hts (.fieldLink RX6 77 "FirstOutModel" "value" "I") (by decide +kernel)) (fun _ h9 => h9) rfl (by decide +kernel) rfl rfl (Nat.le_of_ble_eq_true rfl) dX6_advances_126 (fun H locs hP hD hS => ?_)
                    have hP : va_P D vwCl (wMt cI cC cZ cS a (upd f2 7 ((((10 : Int32) * (f2 7)) + (d_X6_letterAt tx len ((f2 4).toNatClampNeg))) - (48 : Int32))) tx tc) H := hP
                    have hD : va_D A (wMt cI cC cZ cS a (upd f2 7 ((((10 : Int32) * (f2 7)) + (d_X6_letterAt tx len ((f2 4).toNatClampNeg))) - (48 : Int32))) tx tc) := hD
                    refine lv_aload_n hx hb dX6_advances_129 rfl (lv_at hl 0 rfl) ?_
                    refine lv_dup hx hb dX6_advances_130 rfl ?_
                    refine va_get (D := D) (ci := 6) (v := .int (f2 4)) (C := RX6) (T := TX6) (N := 26) hx hb hts hinX6 hown hK hP 0 rfl rfl 4 (by decide) (hts (.fieldLink RX6 64 "FirstOutModel" "next" "I") (by decide +kernel)) (fun _ h9 => h9) rfl dX6_advances_131 ?_
                    refine lv_iconst (v := 1) hx hb dX6_advances_134 (by decide) ?_
                    refine lv_iadd hx hb dX6_advances_135 ?_
                    refine va_put (D := D) (ci := 6) (v := .int ((f2 4) + (1 : Int32))) (ty := .int) (C := RX6) (T := TX6) (N := 26) hx hb hts hinX6 tyX6 tyX6_ok nmX6 hown hK hP hD hS 0 rfl rfl 4 (by decide) (hts (.fieldLink RX6 64 "FirstOutModel" "next" "I") (by decide +kernel)) (fun _ h9 => h9) rfl (by decide +kernel) rfl rfl (Nat.le_of_ble_eq_true rfl) dX6_advances_136 (fun H locs hP hD hS => ?_)
                    have hP : va_P D vwCl (wMt cI cC cZ cS a (upd (upd f2 7 ((((10 : Int32) * (f2 7)) + (d_X6_letterAt tx len ((f2 4).toNatClampNeg))) - (48 : Int32))) 4 ((f2 4) + (1 : Int32))) tx tc) H := hP
                    have hD : va_D A (wMt cI cC cZ cS a (upd (upd f2 7 ((((10 : Int32) * (f2 7)) + (d_X6_letterAt tx len ((f2 4).toNatClampNeg))) - (48 : Int32))) 4 ((f2 4) + (1 : Int32))) tx tc) := hD
                    refine lv_goto (tgt := 71) hx hb dX6_advances_139 (by decide) ?_
                    have hP : va_P D vwCl (wMt cI cC cZ cS a (upd (upd f2 7 ((((10 : Int32) * (f2 7)) + (d_X6_letterAt tx len ((f2 4).toNatClampNeg))) - (48 : Int32))) 4 ((f2 4) + (1 : Int32))) tx tc) H := hP
                    have hD : va_D A (wMt cI cC cZ cS a (upd (upd f2 7 ((((10 : Int32) * (f2 7)) + (d_X6_letterAt tx len ((f2 4).toNatClampNeg))) - (48 : Int32))) 4 ((f2 4) + (1 : Int32))) tx tc) := hD
                    exact ih71 (upd (upd f2 7 ((((10 : Int32) * (f2 7)) + (d_X6_letterAt tx len ((f2 4).toNatClampNeg))) - (48 : Int32))) 4 ((f2 4) + (1 : Int32))) cc (by exact Nat.lt_of_lt_of_le (nx71 hx_ hlt7 _).2 (Nat.le_of_lt_succ hk71)) ((nx71 hx_ hlt7 _).1) hres _ _ hP hD hS ls (lv_sub hl [0, 1] rfl)
                  · skip
                    rw [if_neg c_12] at hres
                    refine lv_aload_n hx hb dX6_advances_100 rfl (lv_at hl 0 rfl) ?_
                    refine va_get (D := D) (ci := 6) (v := .int (f2 7)) (C := RX6) (T := TX6) (N := 26) hx hb hts hinX6 hown hK hP 0 rfl rfl 7 (by decide) (hts (.fieldLink RX6 77 "FirstOutModel" "value" "I") (by decide +kernel)) (fun _ h9 => h9) rfl dX6_advances_101 ?_
                    refine lv_goto (tgt := 126) hx hb dX6_advances_104 (by decide) ?_
                    refine va_put (D := D) (ci := 6) (v := .int (f2 7)) (ty := .int) (C := RX6) (T := TX6) (N := 26) hx hb hts hinX6 tyX6 tyX6_ok nmX6 hown hK hP hD hS 0 rfl rfl 7 (by decide) (hts (.fieldLink RX6 77 "FirstOutModel" "value" "I") (by decide +kernel)) (fun _ h9 => h9) rfl (by decide +kernel) rfl rfl (Nat.le_of_ble_eq_true rfl) dX6_advances_126 (fun H locs hP hD hS => ?_)
                    have hP : va_P D vwCl (wMt cI cC cZ cS a (upd f2 7 (f2 7)) tx tc) H := hP
                    have hD : va_D A (wMt cI cC cZ cS a (upd f2 7 (f2 7)) tx tc) := hD
                    refine lv_aload_n hx hb dX6_advances_129 rfl (lv_at hl 0 rfl) ?_
                    refine lv_dup hx hb dX6_advances_130 rfl ?_
                    refine va_get (D := D) (ci := 6) (v := .int (f2 4)) (C := RX6) (T := TX6) (N := 26) hx hb hts hinX6 hown hK hP 0 rfl rfl 4 (by decide) (hts (.fieldLink RX6 64 "FirstOutModel" "next" "I") (by decide +kernel)) (fun _ h9 => h9) rfl dX6_advances_131 ?_
                    refine lv_iconst (v := 1) hx hb dX6_advances_134 (by decide) ?_
                    refine lv_iadd hx hb dX6_advances_135 ?_
                    refine va_put (D := D) (ci := 6) (v := .int ((f2 4) + (1 : Int32))) (ty := .int) (C := RX6) (T := TX6) (N := 26) hx hb hts hinX6 tyX6 tyX6_ok nmX6 hown hK hP hD hS 0 rfl rfl 4 (by decide) (hts (.fieldLink RX6 64 "FirstOutModel" "next" "I") (by decide +kernel)) (fun _ h9 => h9) rfl (by decide +kernel) rfl rfl (Nat.le_of_ble_eq_true rfl) dX6_advances_136 (fun H locs hP hD hS => ?_)
                    have hP : va_P D vwCl (wMt cI cC cZ cS a (upd (upd f2 7 (f2 7)) 4 ((f2 4) + (1 : Int32))) tx tc) H := hP
                    have hD : va_D A (wMt cI cC cZ cS a (upd (upd f2 7 (f2 7)) 4 ((f2 4) + (1 : Int32))) tx tc) := hD
                    refine lv_goto (tgt := 71) hx hb dX6_advances_139 (by decide) ?_
                    have hP : va_P D vwCl (wMt cI cC cZ cS a (upd (upd f2 7 (f2 7)) 4 ((f2 4) + (1 : Int32))) tx tc) H := hP
                    have hD : va_D A (wMt cI cC cZ cS a (upd (upd f2 7 (f2 7)) 4 ((f2 4) + (1 : Int32))) tx tc) := hD
                    exact ih71 (upd (upd f2 7 (f2 7)) 4 ((f2 4) + (1 : Int32))) cc (by exact Nat.lt_of_lt_of_le (nx71 hx_ hlt7 _).2 (Nat.le_of_lt_succ hk71)) ((nx71 hx_ hlt7 _).1) hres _ _ hP hD hS ls (lv_sub hl [0, 1] rfl)
            have hP : va_P D vwCl (wMt cI cC cZ cS a (upd (upd ff 6 (ff 4)) 7 0) tx tc) _ := hP
            have hD : va_D A (wMt cI cC cZ cS a (upd (upd ff 6 (ff 4)) 7 0) tx tc) := hD
            exact loop71 201 (upd (upd ff 6 (ff 4)) 7 0) (d_X6_letterAt tx len ((ff 4).toNatClampNeg)) (by have := hx_.2.1; omega) ((hx_.far (by decide) (by decide) _).far (by decide) (by decide) _) hres _ _ hP hD hS ls (lv_sub hl [1, 0] rfl)
        · skip
          rw [if_neg c_2] at hres
          refine lv_aload_n hx hb dX6_advances_47 rfl (lv_at hl 1 rfl) ?_
          refine lv_iconst (v := 0) hx hb dX6_advances_48 (by decide) ?_
          refine va_put (D := D) (ci := 6) (v := .int 0) (ty := .int) (C := RX6) (T := TX6) (N := 26) hx hb hts hinX6 tyX6 tyX6_ok nmX6 hown hK hP hD hS 0 rfl rfl 5 (by decide) (hts (.fieldLink RX6 74 "FirstOutModel" "token" "I") (by decide +kernel)) (fun _ h9 => h9) rfl (by decide +kernel) rfl rfl (Nat.le_of_ble_eq_true rfl) dX6_advances_49 (fun H locs hP hD hS => ?_)
          have hP : va_P D vwCl (wMt cI cC cZ cS a (upd (upd ff 6 (ff 4)) 5 0) tx tc) H := hP
          have hD : va_D A (wMt cI cC cZ cS a (upd (upd ff 6 (ff 4)) 5 0) tx tc) := hD
          refine lv_goto (tgt := 235) hx hb dX6_advances_52 (by decide) ?_
          rw [hres]
          exact W.vret hx hb hr (fun t ht hW => ⟨rfl, by rw [ht]; exact hP, by rw [hA]; exact hS.F ht⟩) hS.2.2 dX6_advances_235
      · skip
        rw [if_pos c_1] at hres
        have hlt : (ff 4).toNatClampNeg < len := la_lt (by rw [c_1]; decide) (Nat.le_trans hx_.le.2 hx_.2.1) hx_.2.1
        have hst := hx_.step hlt
        refine lv_aload_n hx hb dX6_advances_13 rfl (lv_at hl 0 rfl) ?_
        refine lv_dup hx hb dX6_advances_14 rfl ?_
        refine va_get (D := D) (ci := 6) (v := .int (ff 4)) (C := RX6) (T := TX6) (N := 26) hx hb hts hinX6 hown hK hP 0 rfl rfl 4 (by decide) (hts (.fieldLink RX6 64 "FirstOutModel" "next" "I") (by decide +kernel)) (fun _ h9 => h9) rfl dX6_advances_15 ?_
        refine lv_iconst (v := 1) hx hb dX6_advances_18 (by decide) ?_
        refine lv_iadd hx hb dX6_advances_19 ?_
        refine va_put (D := D) (ci := 6) (v := .int ((ff 4) + (1 : Int32))) (ty := .int) (C := RX6) (T := TX6) (N := 26) hx hb hts hinX6 tyX6 tyX6_ok nmX6 hown hK hP hD hS 0 rfl rfl 4 (by decide) (hts (.fieldLink RX6 64 "FirstOutModel" "next" "I") (by decide +kernel)) (fun _ h9 => h9) rfl (by decide +kernel) rfl rfl (Nat.le_of_ble_eq_true rfl) dX6_advances_20 (fun H locs hP hD hS => ?_)
        have hP : va_P D vwCl (wMt cI cC cZ cS a (upd ff 4 ((ff 4) + (1 : Int32))) tx tc) H := hP
        have hD : va_D A (wMt cI cC cZ cS a (upd ff 4 ((ff 4) + (1 : Int32))) tx tc) := hD
        refine lv_goto (tgt := 0) hx hb dX6_advances_23 (by decide) ?_
        have hP : va_P D vwCl (wMt cI cC cZ cS a (upd ff 4 ((ff 4) + (1 : Int32))) tx tc) H := hP
        have hD : va_D A (wMt cI cC cZ cS a (upd ff 4 ((ff 4) + (1 : Int32))) tx tc) := hD
        exact ih0 (upd ff 4 ((ff 4) + (1 : Int32))) (by have := hst.2; omega) hst.1 hres _ _ hP hD hS ls (lv_sub hl [0] rfl)
  have hP : va_P D vwCl (wMt cI cC cZ cS a f tx tc) _ := hP
  have hD : va_D A (wMt cI cC cZ cS a f tx tc) := hD
  exact loop0 201 f (by have := hnx.2.1; omega) hnx hres _ _ hP hD hS ls (lv_sub hl [0] rfl)
