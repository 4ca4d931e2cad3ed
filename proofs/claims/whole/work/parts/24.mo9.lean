/-- behind advances(): the token's place is behind all that was read, and a token takes room -/
def PX (f : Nat → Int32) (len : Nat) : Prop := NX f len ∧ f 6 = nI (f 6).toNatClampNeg ∧ (f 6).toNatClampNeg ≤ (f 4).toNatClampNeg ∧ (¬ f 5 = 0 → (f 6).toNatClampNeg < (f 4).toNatClampNeg)
/-- what advances() leaves alone -/
def SAME (f g : Nat → Int32) : Prop := ∀ k, k = 3 ∨ k = 8 ∨ k = 10 ∨ k = 14 ∨ k = 20 ∨ k = 23 → g k = f k
theorem SAME.rf {f : Nat → Int32} : SAME f f := fun _ _ => rfl
theorem SAME.up {f g : Nat → Int32} (h : SAME f g) {k : Nat} (hk : ¬ (k = 3 ∨ k = 8 ∨ k = 10 ∨ k = 14 ∨ k = 20 ∨ k = 23)) (x : Int32) : SAME f (upd g k x) := by
  intro j hj
  show (if j = k then x else g j) = f j
  rw [if_neg (show ¬ j = k from fun e => hk (by rw [← e]; exact hj))]
  exact h j hj
theorem SAME.tr {f g h : Nat → Int32} (h1 : SAME f g) (h2 : SAME g h) : SAME f h := fun k hk => (h2 k hk).trans (h1 k hk)
theorem adv71 {f tx : Nat → Int32} {len p : Nat} : ∀ (k : Nat) (f2 : Nat → Int32) (cc : Int32), NX f2 len → len - (f2 4).toNatClampNeg < k → f2 6 = nI p → p ≤ (f2 4).toNatClampNeg → (p < (f2 4).toNatClampNeg ∨ ¬ d_X6_in (d_X6_letterAt tx len (f2 4).toNatClampNeg) 48 57 = 0) →
    NX (lp_X6_advances_71 f tx len k f2 cc) len ∧ (lp_X6_advances_71 f tx len k f2 cc) 6 = nI p ∧ p < ((lp_X6_advances_71 f tx len k f2 cc) 4).toNatClampNeg ∧ SAME f2 (lp_X6_advances_71 f tx len k f2 cc) := by
  intro k
  induction k with
  | zero => intro f2 cc _ h; omega
  | succ k ih =>
    intro f2 cc hx hk h6 hp hq
    rw [lp_X6_advances_71]
    by_cases c : d_X6_in (d_X6_letterAt tx len (f2 4).toNatClampNeg) 48 57 = 0
    · rw [if_pos c]
      have hp2 : p < (f2 4).toNatClampNeg := hq.resolve_right (fun h => h c)
      have fin : ∀ x : Int32, NX (upd f2 5 x) len ∧ (upd f2 5 x) 6 = nI p ∧ p < ((upd f2 5 x) 4).toNatClampNeg ∧ SAME f2 (upd f2 5 x) := fun x => ⟨hx.far (by decide) (by decide) x, h6, hp2, SAME.rf.up (by decide) x⟩
      repeat' split
      all_goals exact fin _
    · rw [if_neg c]
      have hlt : (f2 4).toNatClampNeg < len := la_lt (in_not_m1 c) (Nat.le_trans hx.le.2 hx.2.1) hx.2.1
      have go : ∀ x : Int32, NX (lp_X6_advances_71 f tx len k (upd (upd f2 7 x) 4 (f2 4 + 1)) cc) len ∧ (lp_X6_advances_71 f tx len k (upd (upd f2 7 x) 4 (f2 4 + 1)) cc) 6 = nI p ∧ p < ((lp_X6_advances_71 f tx len k (upd (upd f2 7 x) 4 (f2 4 + 1)) cc) 4).toNatClampNeg ∧ SAME f2 (lp_X6_advances_71 f tx len k (upd (upd f2 7 x) 4 (f2 4 + 1)) cc) := by
        intro x
        obtain ⟨h1, h2⟩ := nx71 hx hlt x
        have h3 : ((upd (upd f2 7 x) 4 (f2 4 + 1)) 4).toNatClampNeg = (f2 4).toNatClampNeg + 1 := by
          show (f2 4 + 1).toNatClampNeg = _
          have h9 := hx.le.2
          have h8 := hx.2.1
          generalize hj : (f2 4).toNatClampNeg = j at *
          rw [show f2 4 = nI j from by rw [← hj]; exact hx.le.1, nI_1, nI_clamp (by omega)]
        obtain ⟨r1, r2, r3, r4⟩ := ih (upd (upd f2 7 x) 4 (f2 4 + 1)) cc h1 (by omega) h6 (by omega) (Or.inl (by omega))
        exact ⟨r1, r2, r3, ((SAME.rf.up (k := 7) (by decide) x).up (k := 4) (by decide) (f2 4 + 1)).tr r4⟩
      split
      · exact go _
      · exact go _
theorem adv_ok {f tx : Nat → Int32} {len : Nat} (h : NX f len) : PX (d_X6_advances f tx len) len ∧ (f 4).toNatClampNeg ≤ (d_X6_advances f tx len 6).toNatClampNeg ∧ SAME f (d_X6_advances f tx len) := by
  have key : ∀ (k : Nat) (ff : Nat → Int32), NX ff len → len - (ff 4).toNatClampNeg < k → PX (lp_X6_advances_0 f tx len k ff) len ∧ (ff 4).toNatClampNeg ≤ (lp_X6_advances_0 f tx len k ff 6).toNatClampNeg ∧ SAME ff (lp_X6_advances_0 f tx len k ff) := by
    intro k
    induction k with
    | zero => intro ff _ h; omega
    | succ k ih =>
      intro ff hx hk
      have hle := hx.le
      have h200 := hx.2.1
      rw [lp_X6_advances_0]
      by_cases c : d_X6_letterAt tx len (ff 4).toNatClampNeg = 32
      · rw [if_pos c]
        have hlt : (ff 4).toNatClampNeg < len := la_lt (by rw [c]; decide) (by omega) h200
        obtain ⟨s1, s2⟩ := hx.step hlt
        have h3 : ((upd ff 4 (ff 4 + 1)) 4).toNatClampNeg = (ff 4).toNatClampNeg + 1 := by
          show (ff 4 + 1).toNatClampNeg = _
          generalize hj : (ff 4).toNatClampNeg = j at *
          rw [show ff 4 = nI j from hle.1, nI_1, nI_clamp (by omega)]
        obtain ⟨r1, r2, r3⟩ := ih (upd ff 4 (ff 4 + 1)) s1 (by omega)
        exact ⟨r1, by omega, (SAME.rf.up (k := 4) (by decide) _).tr r3⟩
      · rw [if_neg c]
        by_cases c0 : 0 ≤ d_X6_letterAt tx len (ff 4).toNatClampNeg
        · rw [if_pos c0]
          have hlt : (ff 4).toNatClampNeg < len := la_lt (by intro q; rw [q] at c0; exact absurd c0 (by decide)) (by omega) h200
          by_cases c1 : d_X6_in (d_X6_letterAt tx len (ff 4).toNatClampNeg) 48 57 = 0
          · rw [if_pos c1]
            have h3 : (ff 4 + 1).toNatClampNeg = (ff 4).toNatClampNeg + 1 := by
              generalize hj : (ff 4).toNatClampNeg = j at *
              rw [show ff 4 = nI j from hle.1, nI_1, nI_clamp (by omega)]
            have fin : ∀ x y : Int32, PX (upd (upd (upd (upd ff 6 (ff 4)) 4 (ff 4 + 1)) 7 x) 5 y) len ∧ (ff 4).toNatClampNeg ≤ ((upd (upd (upd (upd ff 6 (ff 4)) 4 (ff 4 + 1)) 7 x) 5 y) 6).toNatClampNeg ∧ SAME ff (upd (upd (upd (upd ff 6 (ff 4)) 4 (ff 4 + 1)) 7 x) 5 y) := by
              intro x y
              have hn1 : NX (upd (upd (upd (upd ff 6 (ff 4)) 4 (ff 4 + 1)) 7 x) 5 y) len := ((((hx.far (k := 6) (by decide) (by decide) (ff 4)).step hlt).1).far (by decide) (by decide) x).far (by decide) (by decide) y
              refine ⟨⟨hn1, hle.1, ?_, fun _ => ?_⟩, Nat.le_refl _, (((SAME.rf.up (by decide) _).up (by decide) _).up (by decide) _).up (by decide) _⟩
              · show (ff 4).toNatClampNeg ≤ (ff 4 + 1).toNatClampNeg
                omega
              · show (ff 4).toNatClampNeg < (ff 4 + 1).toNatClampNeg
                omega
            repeat' split
            all_goals exact fin _ _
          · rw [if_neg c1]
            have hn1 : NX (upd (upd ff 6 (ff 4)) 7 0) len := (hx.far (by decide) (by decide) _).far (by decide) (by decide) _
            obtain ⟨r1, r2, r3, r4⟩ := adv71 (f := f) (tx := tx) (p := (ff 4).toNatClampNeg) 201 (upd (upd ff 6 (ff 4)) 7 0) (d_X6_letterAt tx len (ff 4).toNatClampNeg) hn1 (by omega) hle.1 (Nat.le_refl _) (Or.inr c1)
            have r5 := cl_nI r2 (by omega)
            exact ⟨⟨r1, by rw [r5]; exact r2, by omega, fun _ => by omega⟩, by omega, ((SAME.rf.up (k := 6) (by decide) _).up (k := 7) (by decide) _).tr r4⟩
        · rw [if_neg c0]
          have hn1 : NX (upd (upd ff 6 (ff 4)) 5 0) len := (hx.far (by decide) (by decide) _).far (by decide) (by decide) _
          exact ⟨⟨hn1, hle.1, Nat.le_refl _, fun q => absurd rfl q⟩, Nat.le_refl _, (SAME.rf.up (k := 6) (by decide) _).up (k := 5) (by decide) _⟩
  exact key 201 f h (by have := h.2.1; omega)
def d_X6_takes (f : Nat → Int32) (tx : Nat → Int32) (is : Int32) (len : Nat) : Int32 × (Nat → Int32) :=
  if (d_X6_isWell f) = 0 then
      (0, f)
    else
      if is = 0 then
        (0, (upd f 8 (f 6)))
      else
        ((f 7), (d_X6_advances f tx len))
set_option maxHeartbeats 4000000 in
set_option maxRecDepth 100000 in
theorem c_X6_takes (l : Launch) (D : va_G) (cI cC cZ cS : ClassId) (a : Nat → Nat) (f : Nat → Int32) (tx : Nat → Int32) (tc : Int64) (is : Int32) (len : Nat) (hnx : NX f len) : Met l yX6_takes wsX6_takes { frames := 2, cells := 0, slots := 0, locals := 43 } (PcE D cI cC cZ cS [.ref (a 0), .int is] (wMt cI cC cZ cS a f tx tc)) (QcM (some (.int ((d_X6_takes f tx is len).1))) D (wMt cI cC cZ cS a f tx tc) (wMt cI cC cZ cS a ((d_X6_takes f tx is len).2) tx tc)) 0 0 (inW (wMt cI cC cZ cS a f tx tc)) := by
  refine Met.ofW (cc := cX6_takes) (maxL := 3) (ret := (some .int)) (by decide) rfl ?_
  intro p e s m args below meth c s₁ B hml hv
  obtain ⟨rfl, hP, hD, hE⟩ := hv
  have hK := hE.1
  have hx := B.exec
  have hb := B.bytes
  have hr := B.returns
  have hts := atoms_spec (ws := wsX6_takes) B.pre
  have hown : s.vm.findClass RX6 = some m.cls := findClass_of_methodNamed B.named
  have hlocks := B.notSynchronized
  have hinX6 : ∀ w ∈ wsX60, w ∈ wsX6_takes := by decide +kernel
  have hD := inW_self hD
  have hS : va_S (inW (wMt cI cC cZ cS a f tx tc)) s.heap s.heap [] := va_S.rf
  generalize hA : inW (wMt cI cC cZ cS a f tx tc) = A at hD hS ⊢
  refine opq (d_X6_takes f tx is len) (fun R hres => ?_)
  rw [hres]
  replace hres := hres.symm
  rw [d_X6_takes] at hres
  have hl := lv_entry ([.ref (a 0), .int is]) (n := 3) (Nat.le_of_ble_eq_true rfl)
  rw [lg_entry_eq]
  generalize (lg_sl ([.ref (a 0), .int is]) ++ List.replicate (3 - (lg_sl ([.ref (a 0), .int is])).length) Slot.unset).toArray = ls at hl ⊢
  have hl : lv_has ls 3 [(0, .ref (a 0)), (1, .int is)] := hl
  refine lv_aload_n hx hb dX6_takes_0 rfl (lv_at hl 0 rfl) ?_
  have hPc := hP.sub (ws' := (wMt cI cC cZ cS a f tx tc)) [0, 1] rfl
  have hDc := hD.sub (ws' := (wMt cI cC cZ cS a f tx tc)) [0, 1] (by decide) rfl
  refine m_callR (W.runV (As := []) (rest := []) ⟨hx, hb, hml, hown, hts⟩ (c_X6_isWell l D cI cC cZ cS a f tx tc) (cwV 0 hts gX6_takes_X6_isWell rfl rfl rfl (by decide +kernel) ⟨Nat.le_of_ble_eq_true rfl, Nat.le_of_ble_eq_true rfl⟩) (preV_of hPc hDc hE (va_recv hK hPc (ci := 6) (q0 := 0) rfl rfl)) rfl rfl hl.1 rfl (lv_room (Nat.le_of_ble_eq_true rfl)) dX6_takes_1 ⟨Nat.zero_le _, Nat.zero_le _⟩) ?_
  refine W.eq (g2 := F0 m 4 ls [.int (d_X6_isWell f)]) rfl ?_
  refine lv_if_ne (tgt := 9) hx hb dX6_takes_4 (by decide) (fun c_1 => ?_) (fun c_1 => ?_)
  · skip
    rw [if_neg c_1] at hres
    refine lv_iload_n hx hb dX6_takes_9 rfl (lv_at hl 1 rfl) ?_
    refine lv_if_ne (tgt := 23) hx hb dX6_takes_10 (by decide) (fun c_2 => ?_) (fun c_2 => ?_)
    · skip
      rw [if_neg c_2] at hres
      refine lv_aload_n hx hb dX6_takes_23 rfl (lv_at hl 0 rfl) ?_
      refine va_get (D := D) (ci := 6) (v := .int (f 7)) (C := RX6) (T := TX6) (N := 26) hx hb hts hinX6 hown hK hP 0 rfl rfl 7 (by decide) (hts (.fieldLink RX6 77 "FirstOutModel" "value" "I") (by decide +kernel)) (fun _ h9 => h9) rfl dX6_takes_24 ?_
      refine lv_istore_n (lv' := [(2, .int (f 7)), (0, .ref (a 0)), (1, .int is)]) hx hb dX6_takes_27 rfl hl (by decide) rfl (fun ls hl => ?_)
      refine lv_aload_n hx hb dX6_takes_28 rfl (lv_at hl 1 rfl) ?_
      have hPc := hP.sub (ws' := (wMt cI cC cZ cS a f tx tc)) [0, 1] rfl
      have hDc := hD.sub (ws' := (wMt cI cC cZ cS a f tx tc)) [0, 1] (by decide) rfl
      refine m_callM (W.runV (As := []) (rest := []) ⟨hx, hb, hml, hown, hts⟩ (c_X6_advances l D cI cC cZ cS a f tx tc len hnx) (cwV 0 hts gX6_takes_X6_advances rfl rfl rfl (by decide +kernel) ⟨Nat.le_of_ble_eq_true rfl, Nat.le_of_ble_eq_true rfl⟩) (preV_of hPc hDc hE (va_recv hK hPc (ci := 6) (q0 := 0) rfl rfl)) rfl rfl hl.1 rfl (lv_room (Nat.le_of_ble_eq_true rfl)) dX6_takes_29 ⟨Nat.zero_le _, Nat.zero_le _⟩) hP hD hS [0, 1] rfl wMt_ad (fun H locs hP hD hS => ?_)
      have hP : va_P D vwCl (wMt cI cC cZ cS a (d_X6_advances f tx len) tx tc) H := hP
      have hD : va_D A (wMt cI cC cZ cS a (d_X6_advances f tx len) tx tc) := hD
      refine W.eq (g2 := F0 m 32 ls []) rfl ?_
      refine opq (d_X6_advances f tx len) (fun r_3 hr_3 => ?_)
      try rw [hr_3] at hP
      try rw [hr_3] at hD
      try rw [hr_3] at hres
      try rw [hr_3]
      refine lv_iload_n hx hb dX6_takes_32 rfl (lv_at hl 0 rfl) ?_
      rw [hres]
      exact W.iret (v := (f 7)) hx hb hr (fun t ht hW => ⟨rfl, by rw [ht]; exact hP, by rw [hA]; exact hS.F ht⟩) hS.2.2 dX6_takes_33
    · skip
      rw [if_pos c_2] at hres
      refine lv_aload_n hx hb dX6_takes_13 rfl (lv_at hl 0 rfl) ?_
      refine lv_aload_n hx hb dX6_takes_14 rfl (lv_at hl 0 rfl) ?_
      refine va_get (D := D) (ci := 6) (v := .int (f 6)) (C := RX6) (T := TX6) (N := 26) hx hb hts hinX6 hown hK hP 0 rfl rfl 6 (by decide) (hts (.fieldLink RX6 71 "FirstOutModel" "place" "I") (by decide +kernel)) (fun _ h9 => h9) rfl dX6_takes_15 ?_
      refine va_put (D := D) (ci := 6) (v := .int (f 6)) (ty := .int) (C := RX6) (T := TX6) (N := 26) hx hb hts hinX6 tyX6 tyX6_ok nmX6 hown hK hP hD hS 0 rfl rfl 8 (by decide) (hts (.fieldLink RX6 80 "FirstOutModel" "fault" "I") (by decide +kernel)) (fun _ h9 => h9) rfl (by decide +kernel) rfl rfl (Nat.le_of_ble_eq_true rfl) dX6_takes_18 (fun H locs hP hD hS => ?_)
      have hP : va_P D vwCl (wMt cI cC cZ cS a (upd f 8 (f 6)) tx tc) H := hP
      have hD : va_D A (wMt cI cC cZ cS a (upd f 8 (f 6)) tx tc) := hD
      refine lv_iconst (v := 0) hx hb dX6_takes_21 (by decide) ?_
      rw [hres]
      exact W.iret (v := 0) hx hb hr (fun t ht hW => ⟨rfl, by rw [ht]; exact hP, by rw [hA]; exact hS.F ht⟩) hS.2.2 dX6_takes_22
  · skip
    rw [if_pos c_1] at hres
    refine lv_iconst (v := 0) hx hb dX6_takes_7 (by decide) ?_
    rw [hres]
    exact W.iret (v := 0) hx hb hr (fun t ht hW => ⟨rfl, by rw [ht]; exact hP, by rw [hA]; exact hS.F ht⟩) hS.2.2 dX6_takes_8
def d_X6_number (f : Nat → Int32) (tx : Nat → Int32) (least : Int32) (most : Int32) (len : Nat) : Int32 × (Nat → Int32) :=
  if (f 5) = (2 : Int32) then
      if (d_X6_in (f 7) least most) = 0 then
        ((d_X6_takes f tx 0 len).1, ((d_X6_takes f tx 0 len).2))
      else
        ((d_X6_takes f tx 1 len).1, ((d_X6_takes f tx 1 len).2))
    else
      ((d_X6_takes f tx 0 len).1, ((d_X6_takes f tx 0 len).2))
set_option maxHeartbeats 4000000 in
set_option maxRecDepth 100000 in
theorem c_X6_number (l : Launch) (D : va_G) (cI cC cZ cS : ClassId) (a : Nat → Nat) (f : Nat → Int32) (tx : Nat → Int32) (tc : Int64) (least : Int32) (most : Int32) (len : Nat) (hnx : NX f len) : Met l yX6_number wsX6_number { frames := 3, cells := 0, slots := 0, locals := 65 } (PcE D cI cC cZ cS [.ref (a 0), .int least, .int most] (wMt cI cC cZ cS a f tx tc)) (QcM (some (.int ((d_X6_number f tx least most len).1))) D (wMt cI cC cZ cS a f tx tc) (wMt cI cC cZ cS a ((d_X6_number f tx least most len).2) tx tc)) 0 0 (inW (wMt cI cC cZ cS a f tx tc)) := by
  refine Met.ofW (cc := cX6_number) (maxL := 3) (ret := (some .int)) (by decide) rfl ?_
  intro p e s m args below meth c s₁ B hml hv
  obtain ⟨rfl, hP, hD, hE⟩ := hv
  have hK := hE.1
  have hx := B.exec
  have hb := B.bytes
  have hr := B.returns
  have hts := atoms_spec (ws := wsX6_number) B.pre
  have hown : s.vm.findClass RX6 = some m.cls := findClass_of_methodNamed B.named
  have hlocks := B.notSynchronized
  have hinX6 : ∀ w ∈ wsX60, w ∈ wsX6_number := by decide +kernel
  have hD := inW_self hD
  have hS : va_S (inW (wMt cI cC cZ cS a f tx tc)) s.heap s.heap [] := va_S.rf
  generalize hA : inW (wMt cI cC cZ cS a f tx tc) = A at hD hS ⊢
  refine opq (d_X6_number f tx least most len) (fun R hres => ?_)
  rw [hres]
  replace hres := hres.symm
  rw [d_X6_number] at hres
  have hl := lv_entry ([.ref (a 0), .int least, .int most]) (n := 3) (Nat.le_of_ble_eq_true rfl)
  rw [lg_entry_eq]
  generalize (lg_sl ([.ref (a 0), .int least, .int most]) ++ List.replicate (3 - (lg_sl ([.ref (a 0), .int least, .int most])).length) Slot.unset).toArray = ls at hl ⊢
  have hl : lv_has ls 3 [(0, .ref (a 0)), (1, .int least), (2, .int most)] := hl
  refine lv_aload_n hx hb dX6_number_0 rfl (lv_at hl 0 rfl) ?_
  refine lv_aload_n hx hb dX6_number_1 rfl (lv_at hl 0 rfl) ?_
  refine va_get (D := D) (ci := 6) (v := .int (f 5)) (C := RX6) (T := TX6) (N := 26) hx hb hts hinX6 hown hK hP 0 rfl rfl 5 (by decide) (hts (.fieldLink RX6 74 "FirstOutModel" "token" "I") (by decide +kernel)) (fun _ h9 => h9) rfl dX6_number_2 ?_
  refine lv_iconst (v := 2) hx hb dX6_number_5 (by decide) ?_
  refine lv_icmp_ne (tgt := 25) hx hb dX6_number_6 (by decide) (fun c_1 => ?_) (fun c_1 => ?_)
  · skip
    rw [if_neg c_1] at hres
    refine lv_iconst (v := 0) hx hb dX6_number_25 (by decide) ?_
    have hPc := hP.sub (ws' := (wMt cI cC cZ cS a f tx tc)) [0, 1] rfl
    have hDc := hD.sub (ws' := (wMt cI cC cZ cS a f tx tc)) [0, 1] (by decide) rfl
    refine m_callM (W.runV (As := [.int 0]) (rest := []) ⟨hx, hb, hml, hown, hts⟩ (c_X6_takes l D cI cC cZ cS a f tx tc 0 len hnx) (cwV 1 hts gX6_number_X6_takes rfl rfl rfl (by decide +kernel) ⟨Nat.le_of_ble_eq_true rfl, Nat.le_of_ble_eq_true rfl⟩) (preV_of hPc hDc hE (va_recv hK hPc (ci := 6) (q0 := 0) rfl rfl)) rfl rfl hl.1 rfl (lv_room (Nat.le_of_ble_eq_true rfl)) dX6_number_26 ⟨Nat.zero_le _, Nat.zero_le _⟩) hP hD hS [0, 1] rfl wMt_ad (fun H locs hP hD hS => ?_)
    have hP : va_P D vwCl (wMt cI cC cZ cS a ((d_X6_takes f tx 0 len).2) tx tc) H := hP
    have hD : va_D A (wMt cI cC cZ cS a ((d_X6_takes f tx 0 len).2) tx tc) := hD
    refine W.eq (g2 := F0 m 29 ls [.int ((d_X6_takes f tx 0 len).1)]) rfl ?_
    refine opq (d_X6_takes f tx 0 len) (fun r_2 hr_2 => ?_)
    try rw [hr_2] at hP
    try rw [hr_2] at hD
    try rw [hr_2] at hres
    try rw [hr_2]
    rw [hres]
    exact W.iret (v := r_2.1) hx hb hr (fun t ht hW => ⟨rfl, by rw [ht]; exact hP, by rw [hA]; exact hS.F ht⟩) hS.2.2 dX6_number_29
  · skip
    rw [if_pos c_1] at hres
    refine lv_aload_n hx hb dX6_number_9 rfl (lv_at hl 0 rfl) ?_
    refine va_get (D := D) (ci := 6) (v := .int (f 7)) (C := RX6) (T := TX6) (N := 26) hx hb hts hinX6 hown hK hP 0 rfl rfl 7 (by decide) (hts (.fieldLink RX6 77 "FirstOutModel" "value" "I") (by decide +kernel)) (fun _ h9 => h9) rfl dX6_number_10 ?_
    refine lv_iload_n hx hb dX6_number_13 rfl (lv_at hl 1 rfl) ?_
    refine lv_iload_n hx hb dX6_number_14 rfl (lv_at hl 2 rfl) ?_
    have hPc := hP.sub (ws' := []) [] rfl
    have hDc := hD.sub (ws' := []) [] (by decide) rfl
    refine m_callR (W.runS (As := [.int (f 7), .int least, .int most]) (rest := [.ref (a 0)]) ⟨hx, hb, hml, hown, hts⟩ (c_X6_in l D cI cC cZ cS (f 7) least most) (va_cwS 3 hts gX6_number_X6_in rfl rfl rfl (by decide +kernel) ⟨Nat.le_of_ble_eq_true rfl, Nat.le_of_ble_eq_true rfl⟩) (preS_of hPc hDc hE) rfl rfl hl.1 rfl (lv_room (Nat.le_of_ble_eq_true rfl)) dX6_number_15 ⟨Nat.zero_le _, Nat.zero_le _⟩) ?_
    refine W.eq (g2 := F0 m 18 ls [.int (d_X6_in (f 7) least most), .ref (a 0)]) rfl ?_
    refine lv_if_eq (tgt := 25) hx hb dX6_number_18 (by decide) (fun c_3 => ?_) (fun c_3 => ?_)
    · skip
      rw [if_pos c_3] at hres
      refine lv_iconst (v := 0) hx hb dX6_number_25 (by decide) ?_
      have hPc := hP.sub (ws' := (wMt cI cC cZ cS a f tx tc)) [0, 1] rfl
      have hDc := hD.sub (ws' := (wMt cI cC cZ cS a f tx tc)) [0, 1] (by decide) rfl
      refine m_callM (W.runV (As := [.int 0]) (rest := []) ⟨hx, hb, hml, hown, hts⟩ (c_X6_takes l D cI cC cZ cS a f tx tc 0 len hnx) (cwV 1 hts gX6_number_X6_takes rfl rfl rfl (by decide +kernel) ⟨Nat.le_of_ble_eq_true rfl, Nat.le_of_ble_eq_true rfl⟩) (preV_of hPc hDc hE (va_recv hK hPc (ci := 6) (q0 := 0) rfl rfl)) rfl rfl hl.1 rfl (lv_room (Nat.le_of_ble_eq_true rfl)) dX6_number_26 ⟨Nat.zero_le _, Nat.zero_le _⟩) hP hD hS [0, 1] rfl wMt_ad (fun H locs hP hD hS => ?_)
      have hP : va_P D vwCl (wMt cI cC cZ cS a ((d_X6_takes f tx 0 len).2) tx tc) H := hP
      have hD : va_D A (wMt cI cC cZ cS a ((d_X6_takes f tx 0 len).2) tx tc) := hD
      refine W.eq (g2 := F0 m 29 ls [.int ((d_X6_takes f tx 0 len).1)]) rfl ?_
      refine opq (d_X6_takes f tx 0 len) (fun r_4 hr_4 => ?_)
      try rw [hr_4] at hP
      try rw [hr_4] at hD
      try rw [hr_4] at hres
      try rw [hr_4]
      rw [hres]
      exact W.iret (v := r_4.1) hx hb hr (fun t ht hW => ⟨rfl, by rw [ht]; exact hP, by rw [hA]; exact hS.F ht⟩) hS.2.2 dX6_number_29
    · skip
      rw [if_neg c_3] at hres
      refine lv_iconst (v := 1) hx hb dX6_number_21 (by decide) ?_
      refine lv_goto (tgt := 26) hx hb dX6_number_22 (by decide) ?_
      have hPc := hP.sub (ws' := (wMt cI cC cZ cS a f tx tc)) [0, 1] rfl
      have hDc := hD.sub (ws' := (wMt cI cC cZ cS a f tx tc)) [0, 1] (by decide) rfl
      refine m_callM (W.runV (As := [.int 1]) (rest := []) ⟨hx, hb, hml, hown, hts⟩ (c_X6_takes l D cI cC cZ cS a f tx tc 1 len hnx) (cwV 1 hts gX6_number_X6_takes rfl rfl rfl (by decide +kernel) ⟨Nat.le_of_ble_eq_true rfl, Nat.le_of_ble_eq_true rfl⟩) (preV_of hPc hDc hE (va_recv hK hPc (ci := 6) (q0 := 0) rfl rfl)) rfl rfl hl.1 rfl (lv_room (Nat.le_of_ble_eq_true rfl)) dX6_number_26 ⟨Nat.zero_le _, Nat.zero_le _⟩) hP hD hS [0, 1] rfl wMt_ad (fun H locs hP hD hS => ?_)
      have hP : va_P D vwCl (wMt cI cC cZ cS a ((d_X6_takes f tx 1 len).2) tx tc) H := hP
      have hD : va_D A (wMt cI cC cZ cS a ((d_X6_takes f tx 1 len).2) tx tc) := hD
      refine W.eq (g2 := F0 m 29 ls [.int ((d_X6_takes f tx 1 len).1)]) rfl ?_
      refine opq (d_X6_takes f tx 1 len) (fun r_5 hr_5 => ?_)
      try rw [hr_5] at hP
      try rw [hr_5] at hD
      try rw [hr_5] at hres
      try rw [hr_5]
      rw [hres]
      exact W.iret (v := r_5.1) hx hb hr (fun t ht hW => ⟨rfl, by rw [ht]; exact hP, by rw [hA]; exact hS.F ht⟩) hS.2.2 dX6_number_29
