/-- a text's numbers: its length and its place -/
def TX (t : Nat → Int32) (len : Nat) : Prop := t 1 = nI len ∧ len ≤ 200 ∧ ∃ j, j ≤ len ∧ t 2 = nI j
theorem cl_nI {x : Int32} {j : Nat} (h : x = nI j) (hj : j < 2 ^ 31) : x.toNatClampNeg = j := by rw [h]; exact nI_clamp hj
theorem TX.ix {t : Nat → Int32} {len : Nat} (h : TX t len) (c : ¬ t 1 ≤ t 2) : t 2 = nI (t 2).toNatClampNeg ∧ (t 2).toNatClampNeg < 200 ∧ (t 2).toNatClampNeg < len := by
  obtain ⟨h1, h2, j, h3, h4⟩ := h
  rw [h1, h4] at c
  have h5 := nlt_of c (by omega) (by omega)
  rw [cl_nI h4 (by omega)]
  exact ⟨h4, by omega, h5⟩
theorem TX.step {t : Nat → Int32} {len : Nat} (h : TX t len) (c : ¬ t 1 ≤ t 2) : TX (upd t 2 (t 2 + 1)) len ∧ len - (upd t 2 (t 2 + 1) 2).toNatClampNeg < len - (t 2).toNatClampNeg := by
  obtain ⟨h1, h2, j, h3, h4⟩ := h
  rw [h1, h4] at c
  have h5 := nlt_of c (by omega) (by omega)
  have h6 : upd t 2 (t 2 + 1) 2 = nI (j + 1) := by show t 2 + 1 = _; rw [h4, nI_1]
  refine ⟨⟨h1, h2, j + 1, h5, h6⟩, ?_⟩
  rw [cl_nI h6 (by omega), cl_nI h4 (by omega)]
  omega
theorem TX.le {t : Nat → Int32} {len : Nat} (h : TX t len) : t 2 = nI (t 2).toNatClampNeg ∧ (t 2).toNatClampNeg ≤ len := by
  obtain ⟨h1, h2, j, h3, h4⟩ := h
  rw [cl_nI h4 (by omega)]
  exact ⟨h4, h3⟩
theorem TX.set {t : Nat → Int32} {len : Nat} (h : TX t len) {x : Int32} {j : Nat} (hx : x = nI j) (hj : j ≤ len) : TX (upd t 2 x) len := ⟨h.1, h.2.1, j, hj, hx⟩
theorem TX.far {t : Nat → Int32} {len : Nat} (h : TX t len) {k : Nat} (hk : k = 3 ∨ k = 4) (x : Int32) : TX (upd t k x) len := by
  obtain ⟨h1, h2, j, h3, h4⟩ := h
  rcases hk with rfl | rfl
  · exact ⟨h1, h2, j, h3, h4⟩
  · exact ⟨h1, h2, j, h3, h4⟩

theorem at_lt {x : Int32} {j : Nat} (c : ¬ nI j - x ≤ 1) (hx : x = nI x.toNatClampNeg) (hj : j ≤ 200) (h : x.toNatClampNeg ≤ j) : x.toNatClampNeg + 1 < j := by
  generalize x.toNatClampNeg = i at *
  subst hx
  rw [pk_sub h] at c
  have h2 := c
  rw [show (1 : Int32) = nI 1 from rfl, nI_leI (by omega) (by omega)] at h2
  omega

def wT (cI cC cZ cS : ClassId) (xA : Nat) (lA : Nat) (tf : Nat → Int32) (le : Nat → Int32) : va_W := [(xA, .inr (4, [.ref lA, .int (tf 1), .int (tf 2), .int (tf 3), .int (tf 4)])), (lA, .inl (cC, 200, .inl le))]
theorem wT_ad {cI cC cZ cS : ClassId} {xA : Nat} {lA : Nat} {tf1 : Nat → Int32} {le1 : Nat → Int32} {tf2 : Nat → Int32} {le2 : Nat → Int32} : (wT cI cC cZ cS xA lA tf1 le1).map Prod.fst = (wT cI cC cZ cS xA lA tf2 le2).map Prod.fst := rfl
def wTH (cI cC cZ cS : ClassId) (xA : Nat) (lA : Nat) (h : Nat) (tA : Nat) (dA : Nat) (eA : Nat) (tf : Nat → Int32) (le : Nat → Int32) (hf : Nat → Int32) (tr : Nat → Int32) (de : Nat → Int32) (ea : Nat → Int32) : va_W := [(xA, .inr (4, [.ref lA, .int (tf 1), .int (tf 2), .int (tf 3), .int (tf 4)])), (lA, .inl (cC, 200, .inl le)), (h, .inr (0, [.ref tA, .ref dA, .ref eA, .int (hf 3), .int (hf 4), .int (hf 5), .int (hf 6), .int (hf 7), .int (hf 8)])), (tA, .inl (cI, 7, .inl tr)), (dA, .inl (cI, 7, .inl de)), (eA, .inl (cI, 7, .inl ea))]
theorem wTH_ad {cI cC cZ cS : ClassId} {xA : Nat} {lA : Nat} {h : Nat} {tA : Nat} {dA : Nat} {eA : Nat} {tf1 : Nat → Int32} {le1 : Nat → Int32} {hf1 : Nat → Int32} {tr1 : Nat → Int32} {de1 : Nat → Int32} {ea1 : Nat → Int32} {tf2 : Nat → Int32} {le2 : Nat → Int32} {hf2 : Nat → Int32} {tr2 : Nat → Int32} {de2 : Nat → Int32} {ea2 : Nat → Int32} : (wTH cI cC cZ cS xA lA h tA dA eA tf1 le1 hf1 tr1 de1 ea1).map Prod.fst = (wTH cI cC cZ cS xA lA h tA dA eA tf2 le2 hf2 tr2 de2 ea2).map Prod.fst := rfl
def d_X4_add (tf : Nat → Int32) (le : Nat → Int32) (x : Int32) (len : Nat) : Int32 × (Nat → Int32) × (Nat → Int32) :=
  if (nI len) < (200 : Int32) then
      (1, (upd tf 1 ((nI len) + (1 : Int32))), (upd le len (((x).toUInt32 % 65536).toInt32)))
    else
      (0, tf, le)
set_option maxHeartbeats 4000000 in
set_option maxRecDepth 100000 in
theorem c_X4_add (l : Launch) (D : va_G) (cI cC cZ cS : ClassId) (xA : Nat) (lA : Nat) (tf : Nat → Int32) (le : Nat → Int32) (x : Int32) (len : Nat) (hle : tf 1 = nI len) (h200 : len ≤ 200) : Met l yX4_add wsX4_add { frames := 0, cells := 0, slots := 0, locals := 0 } (PcE D cI cC cZ cS [.ref xA, .int x] (wT cI cC cZ cS xA lA tf le)) (QcM (some (.int ((d_X4_add tf le x len).1))) D (wT cI cC cZ cS xA lA tf le) (wT cI cC cZ cS xA lA ((d_X4_add tf le x len).2.1) ((d_X4_add tf le x len).2.2))) 0 0 (inW (wT cI cC cZ cS xA lA tf le)) := by
  refine Met.ofW (cc := cX4_add) (maxL := 2) (ret := (some .boolean)) (by decide) rfl ?_
  intro p e s m args below meth c s₁ B hml hv
  obtain ⟨rfl, hP, hD, hE⟩ := hv
  have hK := hE.1
  have hx := B.exec
  have hb := B.bytes
  have hr := B.returns
  have hts := atoms_spec (ws := wsX4_add) B.pre
  have hown : s.vm.findClass RX4 = some m.cls := findClass_of_methodNamed B.named
  have hlocks := B.notSynchronized
  have hinX4 : ∀ w ∈ wsX40, w ∈ wsX4_add := by decide +kernel
  have hD := inW_self hD
  have hS : va_S (inW (wT cI cC cZ cS xA lA tf le)) s.heap s.heap [] := va_S.rf
  generalize hA : inW (wT cI cC cZ cS xA lA tf le) = A at hD hS ⊢
  refine opq (d_X4_add tf le x len) (fun R hres => ?_)
  rw [hres]
  replace hres := hres.symm
  rw [d_X4_add] at hres
  have hl := lv_entry ([.ref xA, .int x]) (n := 2) (Nat.le_of_ble_eq_true rfl)
  rw [lg_entry_eq]
  generalize (lg_sl ([.ref xA, .int x]) ++ List.replicate (2 - (lg_sl ([.ref xA, .int x])).length) Slot.unset).toArray = ls at hl ⊢
  have hl : lv_has ls 2 [(0, .ref xA), (1, .int x)] := hl
  refine lv_aload_n hx hb dX4_add_0 rfl (lv_at hl 0 rfl) ?_
  refine va_get (D := D) (ci := 4) (v := .int (tf 1)) (C := RX4) (T := TX4) (N := 5) hx hb hts hinX4 hown hK hP 0 rfl rfl 1 (by decide) (hts (.fieldLink RX4 15 "FirstOut$Text" "length" "I") (by decide +kernel)) (fun _ h9 => h9) rfl dX4_add_1 ?_
  refine lv_to (show (tf 1) = nI len from hle) ?_
  refine lv_sipush (v := 200) hx hb dX4_add_4 (by decide) ?_
  refine lv_icmp_lt (tgt := 12) hx hb dX4_add_7 (by decide) (fun c_1 => ?_) (fun c_1 => ?_)
  · skip
    rw [if_pos c_1] at hres
    have hlt : len < 200 := (nI_ltI (b := 200) (by omega) (by omega)).mp c_1
    refine lv_aload_n hx hb dX4_add_12 rfl (lv_at hl 0 rfl) ?_
    refine va_get (D := D) (ci := 4) (v := .ref lA) (C := RX4) (T := TX4) (N := 5) hx hb hts hinX4 hown hK hP 0 rfl rfl 0 (by decide) (hts (.fieldLink RX4 9 "FirstOut$Text" "letters" "[C") (by decide +kernel)) (fun _ h9 => h9) rfl dX4_add_13 ?_
    refine lv_aload_n hx hb dX4_add_16 rfl (lv_at hl 0 rfl) ?_
    refine va_get (D := D) (ci := 4) (v := .int (tf 1)) (C := RX4) (T := TX4) (N := 5) hx hb hts hinX4 hown hK hP 0 rfl rfl 1 (by decide) (hts (.fieldLink RX4 15 "FirstOut$Text" "length" "I") (by decide +kernel)) (fun _ h9 => h9) rfl dX4_add_17 ?_
    refine lv_to (show (tf 1) = nI len from hle) ?_
    refine lv_iload_n hx hb dX4_add_20 rfl (lv_at hl 1 rfl) ?_
    refine lv_i2c (v := ((x).toUInt32 % 65536).toInt32) hx hb dX4_add_21 rfl ?_
    refine m_cast (y := (((x).toUInt32 % 65536).toInt32)) hx hb hK hP hD hS 1 1 rfl rfl len rfl (by omega) (by decide) (pk_vc x) dX4_add_22 (fun H locs hP hD hS => ?_)
    have hP : va_P D vwCl (wT cI cC cZ cS xA lA tf (upd le len (((x).toUInt32 % 65536).toInt32))) H := hP
    have hD : va_D A (wT cI cC cZ cS xA lA tf (upd le len (((x).toUInt32 % 65536).toInt32))) := hD
    refine lv_aload_n hx hb dX4_add_23 rfl (lv_at hl 0 rfl) ?_
    refine lv_dup hx hb dX4_add_24 rfl ?_
    refine va_get (D := D) (ci := 4) (v := .int (tf 1)) (C := RX4) (T := TX4) (N := 5) hx hb hts hinX4 hown hK hP 0 rfl rfl 1 (by decide) (hts (.fieldLink RX4 15 "FirstOut$Text" "length" "I") (by decide +kernel)) (fun _ h9 => h9) rfl dX4_add_25 ?_
    refine lv_to (show (tf 1) = nI len from hle) ?_
    refine lv_iconst (v := 1) hx hb dX4_add_28 (by decide) ?_
    refine lv_iadd hx hb dX4_add_29 ?_
    refine va_put (D := D) (ci := 4) (v := .int ((nI len) + (1 : Int32))) (ty := .int) (C := RX4) (T := TX4) (N := 5) hx hb hts hinX4 tyX4 tyX4_ok nmX4 hown hK hP hD hS 0 rfl rfl 1 (by decide) (hts (.fieldLink RX4 15 "FirstOut$Text" "length" "I") (by decide +kernel)) (fun _ h9 => h9) rfl (by decide +kernel) rfl rfl (Nat.le_of_ble_eq_true rfl) dX4_add_30 (fun H locs hP hD hS => ?_)
    have hP : va_P D vwCl (wT cI cC cZ cS xA lA (upd tf 1 ((nI len) + (1 : Int32))) (upd le len (((x).toUInt32 % 65536).toInt32))) H := hP
    have hD : va_D A (wT cI cC cZ cS xA lA (upd tf 1 ((nI len) + (1 : Int32))) (upd le len (((x).toUInt32 % 65536).toInt32))) := hD
    refine lv_iconst (v := 1) hx hb dX4_add_33 (by decide) ?_
    rw [hres]
    exact W.zret (v := 1) hx hb hr rfl (fun t ht hW => ⟨rfl, by rw [ht]; exact hP, by rw [hA]; exact hS.F ht⟩) hS.2.2 dX4_add_34
  · skip
    rw [if_neg c_1] at hres
    refine lv_iconst (v := 0) hx hb dX4_add_10 (by decide) ?_
    rw [hres]
    exact W.zret (v := 0) hx hb hr rfl (fun t ht hW => ⟨rfl, by rw [ht]; exact hP, by rw [hA]; exact hS.F ht⟩) hS.2.2 dX4_add_11
def lp_X4_skipBlanks_0 (tf : Nat → Int32) (le : Nat → Int32) : Nat → (Nat → Int32) → (Nat → Int32)
  | 0, _ => tf
  | k0 + 1, t => if (t 1) ≤ (t 2) then
      t
    else
      if (le ((t 2).toNatClampNeg)) = (32 : Int32) then
        lp_X4_skipBlanks_0 tf le k0 (upd t 2 ((t 2) + (1 : Int32)))
      else
        t
def d_X4_skipBlanks (tf : Nat → Int32) (le : Nat → Int32) : (Nat → Int32) :=
  lp_X4_skipBlanks_0 tf le 201 tf
set_option maxHeartbeats 4000000 in
set_option maxRecDepth 100000 in
theorem c_X4_skipBlanks (l : Launch) (D : va_G) (cI cC cZ cS : ClassId) (xA : Nat) (lA : Nat) (tf : Nat → Int32) (le : Nat → Int32) (len : Nat) (ht : TX tf len) : Met l yX4_skipBlanks wsX4_skipBlanks { frames := 0, cells := 0, slots := 0, locals := 0 } (PcE D cI cC cZ cS [.ref xA] (wT cI cC cZ cS xA lA tf le)) (QcM none D (wT cI cC cZ cS xA lA tf le) (wT cI cC cZ cS xA lA (d_X4_skipBlanks tf le) le)) 0 0 (inW (wT cI cC cZ cS xA lA tf le)) := by
  refine Met.ofW (cc := cX4_skipBlanks) (maxL := 1) (ret := none) (by decide) rfl ?_
  intro p e s m args below meth c s₁ B hml hv
  obtain ⟨rfl, hP, hD, hE⟩ := hv
  have hK := hE.1
  have hx := B.exec
  have hb := B.bytes
  have hr := B.returns
  have hts := atoms_spec (ws := wsX4_skipBlanks) B.pre
  have hown : s.vm.findClass RX4 = some m.cls := findClass_of_methodNamed B.named
  have hlocks := B.notSynchronized
  have hinX4 : ∀ w ∈ wsX40, w ∈ wsX4_skipBlanks := by decide +kernel
  have hD := inW_self hD
  have hS : va_S (inW (wT cI cC cZ cS xA lA tf le)) s.heap s.heap [] := va_S.rf
  generalize hA : inW (wT cI cC cZ cS xA lA tf le) = A at hD hS ⊢
  refine opq (d_X4_skipBlanks tf le) (fun R hres => ?_)
  rw [hres]
  replace hres := hres.symm
  rw [d_X4_skipBlanks] at hres
  have hl := lv_entry ([.ref xA]) (n := 1) (Nat.le_of_ble_eq_true rfl)
  rw [lg_entry_eq]
  generalize (lg_sl ([.ref xA]) ++ List.replicate (1 - (lg_sl ([.ref xA])).length) Slot.unset).toArray = ls at hl ⊢
  have hl : lv_has ls 1 [(0, .ref xA)] := hl
  have loop0 : ∀ (k0 : Nat) (t : Nat → Int32), len - (t 2).toNatClampNeg < k0 → TX t len → R = lp_X4_skipBlanks_0 tf le k0 t → ∀ (H : Heap) (locs : List Loc), va_P D vwCl (wT cI cC cZ cS xA lA t le) H → va_D A (wT cI cC cZ cS xA lA t le) → va_S A s.heap H locs → ∀ ls : Array Slot, lv_has ls 1 [(0, .ref xA)] → W p l e (headSpec wsX4_skipBlanks { frames := 0, cells := 0, slots := 0, locals := 0 }).room s m (([.ref xA] : List Value).toArray) below meth c H locs 0 0 (MQ below (QcM none D (wT cI cC cZ cS xA lA tf le) (wT cI cC cZ cS xA lA R le)) (([.ref xA] : List Value).toArray) s 0 0 A) (F0 m 0 ls []) := by
    intro k0
    induction k0 with
    | zero => intro t hk; exact absurd hk (Nat.not_lt_zero _)
    | succ k0 ih0 =>
      intro t hk0 ht hres H locs hP hD hS ls hl
      rw [lp_X4_skipBlanks_0] at hres
      refine lv_aload_n hx hb dX4_skipBlanks_0 rfl (lv_at hl 0 rfl) ?_
      refine va_get (D := D) (ci := 4) (v := .int (t 2)) (C := RX4) (T := TX4) (N := 5) hx hb hts hinX4 hown hK hP 0 rfl rfl 2 (by decide) (hts (.fieldLink RX4 24 "FirstOut$Text" "at" "I") (by decide +kernel)) (fun _ h9 => h9) rfl dX4_skipBlanks_1 ?_
      refine lv_aload_n hx hb dX4_skipBlanks_4 rfl (lv_at hl 0 rfl) ?_
      refine va_get (D := D) (ci := 4) (v := .int (t 1)) (C := RX4) (T := TX4) (N := 5) hx hb hts hinX4 hown hK hP 0 rfl rfl 1 (by decide) (hts (.fieldLink RX4 15 "FirstOut$Text" "length" "I") (by decide +kernel)) (fun _ h9 => h9) rfl dX4_skipBlanks_5 ?_
      refine lv_icmp_ge (tgt := 38) hx hb dX4_skipBlanks_8 (by decide) (fun c_1 => ?_) (fun c_1 => ?_)
      · skip
        rw [if_pos c_1] at hres
        rw [hres]
        exact W.vret hx hb hr (fun t ht hW => ⟨rfl, by rw [ht]; exact hP, by rw [hA]; exact hS.F ht⟩) hS.2.2 dX4_skipBlanks_38
      · skip
        rw [if_neg c_1] at hres
        have hix := ht.ix c_1
        have hst := ht.step c_1
        refine lv_aload_n hx hb dX4_skipBlanks_11 rfl (lv_at hl 0 rfl) ?_
        refine va_get (D := D) (ci := 4) (v := .ref lA) (C := RX4) (T := TX4) (N := 5) hx hb hts hinX4 hown hK hP 0 rfl rfl 0 (by decide) (hts (.fieldLink RX4 9 "FirstOut$Text" "letters" "[C") (by decide +kernel)) (fun _ h9 => h9) rfl dX4_skipBlanks_12 ?_
        refine lv_aload_n hx hb dX4_skipBlanks_15 rfl (lv_at hl 0 rfl) ?_
        refine va_get (D := D) (ci := 4) (v := .int (t 2)) (C := RX4) (T := TX4) (N := 5) hx hb hts hinX4 hown hK hP 0 rfl rfl 2 (by decide) (hts (.fieldLink RX4 24 "FirstOut$Text" "at" "I") (by decide +kernel)) (fun _ h9 => h9) rfl dX4_skipBlanks_16 ?_
        refine m_cald hx hb hK hP 1 1 rfl rfl ((t 2).toNatClampNeg) hix.1 hix.2.1 (by decide) dX4_skipBlanks_19 ?_
        refine lv_to (show _ = (le ((t 2).toNatClampNeg)) from rfl) ?_
        refine lv_bipush (v := 32) hx hb dX4_skipBlanks_20 (by decide) ?_
        refine lv_icmp_ne (tgt := 38) hx hb dX4_skipBlanks_22 (by decide) (fun c_2 => ?_) (fun c_2 => ?_)
        · skip
          rw [if_neg c_2] at hres
          rw [hres]
          exact W.vret hx hb hr (fun t ht hW => ⟨rfl, by rw [ht]; exact hP, by rw [hA]; exact hS.F ht⟩) hS.2.2 dX4_skipBlanks_38
        · skip
          rw [if_pos c_2] at hres
          refine lv_aload_n hx hb dX4_skipBlanks_25 rfl (lv_at hl 0 rfl) ?_
          refine lv_dup hx hb dX4_skipBlanks_26 rfl ?_
          refine va_get (D := D) (ci := 4) (v := .int (t 2)) (C := RX4) (T := TX4) (N := 5) hx hb hts hinX4 hown hK hP 0 rfl rfl 2 (by decide) (hts (.fieldLink RX4 24 "FirstOut$Text" "at" "I") (by decide +kernel)) (fun _ h9 => h9) rfl dX4_skipBlanks_27 ?_
          refine lv_iconst (v := 1) hx hb dX4_skipBlanks_30 (by decide) ?_
          refine lv_iadd hx hb dX4_skipBlanks_31 ?_
          refine va_put (D := D) (ci := 4) (v := .int ((t 2) + (1 : Int32))) (ty := .int) (C := RX4) (T := TX4) (N := 5) hx hb hts hinX4 tyX4 tyX4_ok nmX4 hown hK hP hD hS 0 rfl rfl 2 (by decide) (hts (.fieldLink RX4 24 "FirstOut$Text" "at" "I") (by decide +kernel)) (fun _ h9 => h9) rfl (by decide +kernel) rfl rfl (Nat.le_of_ble_eq_true rfl) dX4_skipBlanks_32 (fun H locs hP hD hS => ?_)
          have hP : va_P D vwCl (wT cI cC cZ cS xA lA (upd t 2 ((t 2) + (1 : Int32))) le) H := hP
          have hD : va_D A (wT cI cC cZ cS xA lA (upd t 2 ((t 2) + (1 : Int32))) le) := hD
          refine lv_goto (tgt := 0) hx hb dX4_skipBlanks_35 (by decide) ?_
          have hP : va_P D vwCl (wT cI cC cZ cS xA lA (upd t 2 ((t 2) + (1 : Int32))) le) H := hP
          have hD : va_D A (wT cI cC cZ cS xA lA (upd t 2 ((t 2) + (1 : Int32))) le) := hD
          exact ih0 (upd t 2 ((t 2) + (1 : Int32))) (by have := hst.2; omega) hst.1 hres _ _ hP hD hS ls (lv_sub hl [0] rfl)
  have hP : va_P D vwCl (wT cI cC cZ cS xA lA tf le) _ := hP
  have hD : va_D A (wT cI cC cZ cS xA lA tf le) := hD
  exact loop0 201 tf (by have := ht.2.1; omega) ht hres _ _ hP hD hS ls (lv_sub hl [0] rfl)
theorem skip_TX {tf le : Nat → Int32} {len : Nat} (h0 : TX tf len) : TX (d_X4_skipBlanks tf le) len := by
  have h : ∀ (k : Nat) (t : Nat → Int32), TX t len → TX (lp_X4_skipBlanks_0 tf le k t) len := by
    intro k
    induction k with
    | zero => intro t _; exact h0
    | succ k ih =>
      intro t ht
      rw [lp_X4_skipBlanks_0]
      by_cases c : t 1 ≤ t 2
      · rw [if_pos c]; exact ht
      · rw [if_neg c]
        split
        · exact ih _ (ht.step c).1
        · exact ht
  exact h _ _ h0
def jn_X4_readNumber_68 (tf : Nat → Int32) (le : Nat → Int32) (most : Int32) (len : Nat) (j : Nat) (v : Int32) : Int32 × (Nat → Int32) :=
  if ((nI j) - ((d_X4_skipBlanks tf le) 2)) ≤ (1 : Int32) then
      if (nI j) = ((d_X4_skipBlanks tf le) 2) then
        ((-1), (d_X4_skipBlanks tf le))
      else
        if v ≤ most then
          (v, (upd (d_X4_skipBlanks tf le) 2 (nI j)))
        else
          ((-1), (d_X4_skipBlanks tf le))
    else
      if (le (((d_X4_skipBlanks tf le) 2).toNatClampNeg)) = (48 : Int32) then
        if (nI j) = ((d_X4_skipBlanks tf le) 2) then
          ((-1), (d_X4_skipBlanks tf le))
        else
          ((-1), (d_X4_skipBlanks tf le))
      else
        if (nI j) = ((d_X4_skipBlanks tf le) 2) then
          ((-1), (d_X4_skipBlanks tf le))
        else
          if v ≤ most then
            (v, (upd (d_X4_skipBlanks tf le) 2 (nI j)))
          else
            ((-1), (d_X4_skipBlanks tf le))
def lp_X4_readNumber_11 (tf : Nat → Int32) (le : Nat → Int32) (most : Int32) (len : Nat) : Nat → Nat → Int32 → Int32 × (Nat → Int32)
  | 0, _, _ => (0, tf)
  | k11 + 1, j, v => if (nI len) ≤ (nI j) then
      jn_X4_readNumber_68 tf le most len j v
    else
      if (le j) < (48 : Int32) then
        jn_X4_readNumber_68 tf le most len j v
      else
        if (57 : Int32) < (le j) then
          jn_X4_readNumber_68 tf le most len j v
        else
          lp_X4_readNumber_11 tf le most len k11 (j + 1) (if (1000 : Int32) < (((v * (10 : Int32)) + (le j)) - (48 : Int32)) then (1000 : Int32) else (((v * (10 : Int32)) + (le j)) - (48 : Int32)))
def d_X4_readNumber (tf : Nat → Int32) (le : Nat → Int32) (most : Int32) (len : Nat) : Int32 × (Nat → Int32) :=
  lp_X4_readNumber_11 tf le most len (len + 1) (((d_X4_skipBlanks tf le) 2).toNatClampNeg) 0
set_option maxHeartbeats 4000000 in
set_option maxRecDepth 100000 in
theorem c_X4_readNumber (l : Launch) (D : va_G) (cI cC cZ cS : ClassId) (xA : Nat) (lA : Nat) (tf : Nat → Int32) (le : Nat → Int32) (most : Int32) (len : Nat) (ht : TX tf len) : Met l yX4_readNumber wsX4_readNumber { frames := 1, cells := 0, slots := 0, locals := 20 } (PcE D cI cC cZ cS [.ref xA, .int most] (wT cI cC cZ cS xA lA tf le)) (QcM (some (.int ((d_X4_readNumber tf le most len).1))) D (wT cI cC cZ cS xA lA tf le) (wT cI cC cZ cS xA lA ((d_X4_readNumber tf le most len).2) le)) 0 0 (inW (wT cI cC cZ cS xA lA tf le)) := by
  refine Met.ofW (cc := cX4_readNumber) (maxL := 5) (ret := (some .int)) (by decide) rfl ?_
  intro p e s m args below meth c s₁ B hml hv
  obtain ⟨rfl, hP, hD, hE⟩ := hv
  have hK := hE.1
  have hx := B.exec
  have hb := B.bytes
  have hr := B.returns
  have hts := atoms_spec (ws := wsX4_readNumber) B.pre
  have hown : s.vm.findClass RX4 = some m.cls := findClass_of_methodNamed B.named
  have hlocks := B.notSynchronized
  have hinX4 : ∀ w ∈ wsX40, w ∈ wsX4_readNumber := by decide +kernel
  have hD := inW_self hD
  have hS : va_S (inW (wT cI cC cZ cS xA lA tf le)) s.heap s.heap [] := va_S.rf
  generalize hA : inW (wT cI cC cZ cS xA lA tf le) = A at hD hS ⊢
  refine opq (d_X4_readNumber tf le most len) (fun R hres => ?_)
  rw [hres]
  replace hres := hres.symm
  rw [d_X4_readNumber] at hres
  have hl := lv_entry ([.ref xA, .int most]) (n := 5) (Nat.le_of_ble_eq_true rfl)
  rw [lg_entry_eq]
  generalize (lg_sl ([.ref xA, .int most]) ++ List.replicate (5 - (lg_sl ([.ref xA, .int most])).length) Slot.unset).toArray = ls at hl ⊢
  have hl : lv_has ls 5 [(0, .ref xA), (1, .int most)] := hl
  refine lv_aload_n hx hb dX4_readNumber_0 rfl (lv_at hl 0 rfl) ?_
  have hPc := hP.sub (ws' := (wT cI cC cZ cS xA lA tf le)) [0, 1] rfl
  have hDc := hD.sub (ws' := (wT cI cC cZ cS xA lA tf le)) [0, 1] (by decide) rfl
  refine m_callM (W.runV (As := []) (rest := []) ⟨hx, hb, hml, hown, hts⟩ (c_X4_skipBlanks l D cI cC cZ cS xA lA tf le len ht) (cwV 0 hts gX4_readNumber_X4_skipBlanks rfl rfl rfl (by decide +kernel) ⟨Nat.le_of_ble_eq_true rfl, Nat.le_of_ble_eq_true rfl⟩) (preV_of hPc hDc hE (va_recv hK hPc (ci := 4) (q0 := 0) rfl rfl)) rfl rfl hl.1 rfl (lv_room (Nat.le_of_ble_eq_true rfl)) dX4_readNumber_1 ⟨Nat.zero_le _, Nat.zero_le _⟩) hP hD hS [0, 1] rfl wT_ad (fun H locs hP hD hS => ?_)
  have hP : va_P D vwCl (wT cI cC cZ cS xA lA (d_X4_skipBlanks tf le) le) H := hP
  have hD : va_D A (wT cI cC cZ cS xA lA (d_X4_skipBlanks tf le) le) := hD
  refine W.eq (g2 := F0 m 4 ls []) rfl ?_
  have ht1 : TX (d_X4_skipBlanks tf le) len := skip_TX ht
  have hp1 := ht1.le
  have h200 := ht1.2.1
  refine lv_iconst (v := 0) hx hb dX4_readNumber_4 (by decide) ?_
  refine lv_istore_n (lv' := [(2, .int 0), (0, .ref xA), (1, .int most)]) hx hb dX4_readNumber_5 rfl hl (by decide) rfl (fun ls hl => ?_)
  refine lv_aload_n hx hb dX4_readNumber_6 rfl (lv_at hl 1 rfl) ?_
  refine va_get (D := D) (ci := 4) (v := .int ((d_X4_skipBlanks tf le) 2)) (C := RX4) (T := TX4) (N := 5) hx hb hts hinX4 hown hK hP 0 rfl rfl 2 (by decide) (hts (.fieldLink RX4 24 "FirstOut$Text" "at" "I") (by decide +kernel)) (fun _ h9 => h9) rfl dX4_readNumber_7 ?_
  refine lv_to (show ((d_X4_skipBlanks tf le) 2) = nI ((d_X4_skipBlanks tf le) 2).toNatClampNeg from hp1.1) ?_
  refine lv_istore_n (lv' := [(3, .int (nI ((d_X4_skipBlanks tf le) 2).toNatClampNeg)), (2, .int 0), (0, .ref xA), (1, .int most)]) hx hb dX4_readNumber_10 rfl hl (by decide) rfl (fun ls hl => ?_)
  have join68 : ∀ (j : Nat) (v : Int32), j ≤ len → ((d_X4_skipBlanks tf le) 2).toNatClampNeg ≤ j → R = jn_X4_readNumber_68 tf le most len j v → ∀ (H : Heap) (locs : List Loc), va_P D vwCl (wT cI cC cZ cS xA lA (d_X4_skipBlanks tf le) le) H → va_D A (wT cI cC cZ cS xA lA (d_X4_skipBlanks tf le) le) → va_S A s.heap H locs → ∀ ls : Array Slot, lv_has ls 5 [(0, .ref xA), (1, .int most), (2, .int v), (3, .int (nI j))] → W p l e (headSpec wsX4_readNumber { frames := 1, cells := 0, slots := 0, locals := 20 }).room s m (([.ref xA, .int most] : List Value).toArray) below meth c H locs 0 0 (MQ below (QcM (some (.int R.1)) D (wT cI cC cZ cS xA lA tf le) (wT cI cC cZ cS xA lA R.2 le)) (([.ref xA, .int most] : List Value).toArray) s 0 0 A) (F0 m 68 ls []) := by
    intro j v hj haj hres H locs hP hD hS ls hl
    rw [jn_X4_readNumber_68] at hres
    refine lv_iload_n hx hb dX4_readNumber_68 rfl (lv_at hl 3 rfl) ?_
    refine lv_aload_n hx hb dX4_readNumber_69 rfl (lv_at hl 0 rfl) ?_
    refine va_get (D := D) (ci := 4) (v := .int ((d_X4_skipBlanks tf le) 2)) (C := RX4) (T := TX4) (N := 5) hx hb hts hinX4 hown hK hP 0 rfl rfl 2 (by decide) (hts (.fieldLink RX4 24 "FirstOut$Text" "at" "I") (by decide +kernel)) (fun _ h9 => h9) rfl dX4_readNumber_70 ?_
    refine lv_isub hx hb dX4_readNumber_73 ?_
    refine lv_iconst (v := 1) hx hb dX4_readNumber_74 (by decide) ?_
    refine lv_icmp_le (tgt := 96) hx hb dX4_readNumber_75 (by decide) (fun c_1 => ?_) (fun c_1 => ?_)
    · skip
      rw [if_pos c_1] at hres
      refine lv_iconst (v := 0) hx hb dX4_readNumber_96 (by decide) ?_
      refine lv_istore (lv' := [(4, .int 0), (0, .ref xA), (1, .int most), (2, .int v), (3, .int (nI j))]) hx hb dX4_readNumber_97 hl (by decide) rfl (fun ls hl => ?_)
      refine lv_iload_n hx hb dX4_readNumber_99 rfl (lv_at hl 4 rfl) ?_
      refine lv_aload_n hx hb dX4_readNumber_100 rfl (lv_at hl 1 rfl) ?_
      refine va_get (D := D) (ci := 4) (v := .int ((d_X4_skipBlanks tf le) 2)) (C := RX4) (T := TX4) (N := 5) hx hb hts hinX4 hown hK hP 0 rfl rfl 2 (by decide) (hts (.fieldLink RX4 24 "FirstOut$Text" "at" "I") (by decide +kernel)) (fun _ h9 => h9) rfl dX4_readNumber_101 ?_
      refine lv_icmp_eq (tgt := 117) hx hb dX4_readNumber_104 (by decide) (fun c_2 => ?_) (fun c_2 => ?_)
      · skip
        rw [if_pos c_2] at hres
        refine lv_iconst (v := (-1)) hx hb dX4_readNumber_117 (by decide) ?_
        rw [hres]
        exact W.iret (v := (-1)) hx hb hr (fun t ht hW => ⟨rfl, by rw [ht]; exact hP, by rw [hA]; exact hS.F ht⟩) hS.2.2 dX4_readNumber_118
      · skip
        rw [if_neg c_2] at hres
        refine lv_iload hx hb dX4_readNumber_107 (lv_at hl 0 rfl) ?_
        refine lv_if_ne (tgt := 117) hx hb dX4_readNumber_109 (by decide) (fun c_3 => ?_) (fun c_3 => ?_)
        · exact absurd c_3 (by decide)
        · skip
          refine lv_iload_n hx hb dX4_readNumber_112 rfl (lv_at hl 3 rfl) ?_
          refine lv_iload_n hx hb dX4_readNumber_113 rfl (lv_at hl 2 rfl) ?_
          refine lv_icmp_le (tgt := 119) hx hb dX4_readNumber_114 (by decide) (fun c_4 => ?_) (fun c_4 => ?_)
          · skip
            rw [if_pos c_4] at hres
            refine lv_aload_n hx hb dX4_readNumber_119 rfl (lv_at hl 1 rfl) ?_
            refine lv_iload_n hx hb dX4_readNumber_120 rfl (lv_at hl 4 rfl) ?_
            refine va_put (D := D) (ci := 4) (v := .int (nI j)) (ty := .int) (C := RX4) (T := TX4) (N := 5) hx hb hts hinX4 tyX4 tyX4_ok nmX4 hown hK hP hD hS 0 rfl rfl 2 (by decide) (hts (.fieldLink RX4 24 "FirstOut$Text" "at" "I") (by decide +kernel)) (fun _ h9 => h9) rfl (by decide +kernel) rfl rfl (Nat.le_of_ble_eq_true rfl) dX4_readNumber_121 (fun H locs hP hD hS => ?_)
            have hP : va_P D vwCl (wT cI cC cZ cS xA lA (upd (d_X4_skipBlanks tf le) 2 (nI j)) le) H := hP
            have hD : va_D A (wT cI cC cZ cS xA lA (upd (d_X4_skipBlanks tf le) 2 (nI j)) le) := hD
            refine lv_iload_n hx hb dX4_readNumber_124 rfl (lv_at hl 3 rfl) ?_
            rw [hres]
            exact W.iret (v := v) hx hb hr (fun t ht hW => ⟨rfl, by rw [ht]; exact hP, by rw [hA]; exact hS.F ht⟩) hS.2.2 dX4_readNumber_125
          · skip
            rw [if_neg c_4] at hres
            refine lv_iconst (v := (-1)) hx hb dX4_readNumber_117 (by decide) ?_
            rw [hres]
            exact W.iret (v := (-1)) hx hb hr (fun t ht hW => ⟨rfl, by rw [ht]; exact hP, by rw [hA]; exact hS.F ht⟩) hS.2.2 dX4_readNumber_118
    · skip
      rw [if_neg c_1] at hres
      have hz := at_lt c_1 hp1.1 (by omega) haj
      refine lv_aload_n hx hb dX4_readNumber_78 rfl (lv_at hl 0 rfl) ?_
      refine va_get (D := D) (ci := 4) (v := .ref lA) (C := RX4) (T := TX4) (N := 5) hx hb hts hinX4 hown hK hP 0 rfl rfl 0 (by decide) (hts (.fieldLink RX4 9 "FirstOut$Text" "letters" "[C") (by decide +kernel)) (fun _ h9 => h9) rfl dX4_readNumber_79 ?_
      refine lv_aload_n hx hb dX4_readNumber_82 rfl (lv_at hl 0 rfl) ?_
      refine va_get (D := D) (ci := 4) (v := .int ((d_X4_skipBlanks tf le) 2)) (C := RX4) (T := TX4) (N := 5) hx hb hts hinX4 hown hK hP 0 rfl rfl 2 (by decide) (hts (.fieldLink RX4 24 "FirstOut$Text" "at" "I") (by decide +kernel)) (fun _ h9 => h9) rfl dX4_readNumber_83 ?_
      refine m_cald hx hb hK hP 1 1 rfl rfl (((d_X4_skipBlanks tf le) 2).toNatClampNeg) hp1.1 (by omega) (by decide) dX4_readNumber_86 ?_
      refine lv_to (show _ = (le (((d_X4_skipBlanks tf le) 2).toNatClampNeg)) from rfl) ?_
      refine lv_bipush (v := 48) hx hb dX4_readNumber_87 (by decide) ?_
      refine lv_icmp_ne (tgt := 96) hx hb dX4_readNumber_89 (by decide) (fun c_5 => ?_) (fun c_5 => ?_)
      · skip
        rw [if_neg c_5] at hres
        refine lv_iconst (v := 0) hx hb dX4_readNumber_96 (by decide) ?_
        refine lv_istore (lv' := [(4, .int 0), (0, .ref xA), (1, .int most), (2, .int v), (3, .int (nI j))]) hx hb dX4_readNumber_97 hl (by decide) rfl (fun ls hl => ?_)
        refine lv_iload_n hx hb dX4_readNumber_99 rfl (lv_at hl 4 rfl) ?_
        refine lv_aload_n hx hb dX4_readNumber_100 rfl (lv_at hl 1 rfl) ?_
        refine va_get (D := D) (ci := 4) (v := .int ((d_X4_skipBlanks tf le) 2)) (C := RX4) (T := TX4) (N := 5) hx hb hts hinX4 hown hK hP 0 rfl rfl 2 (by decide) (hts (.fieldLink RX4 24 "FirstOut$Text" "at" "I") (by decide +kernel)) (fun _ h9 => h9) rfl dX4_readNumber_101 ?_
        refine lv_icmp_eq (tgt := 117) hx hb dX4_readNumber_104 (by decide) (fun c_6 => ?_) (fun c_6 => ?_)
        · skip
          rw [if_pos c_6] at hres
          refine lv_iconst (v := (-1)) hx hb dX4_readNumber_117 (by decide) ?_
          rw [hres]
          exact W.iret (v := (-1)) hx hb hr (fun t ht hW => ⟨rfl, by rw [ht]; exact hP, by rw [hA]; exact hS.F ht⟩) hS.2.2 dX4_readNumber_118
        · skip
          rw [if_neg c_6] at hres
          refine lv_iload hx hb dX4_readNumber_107 (lv_at hl 0 rfl) ?_
          refine lv_if_ne (tgt := 117) hx hb dX4_readNumber_109 (by decide) (fun c_7 => ?_) (fun c_7 => ?_)
          · exact absurd c_7 (by decide)
          · skip
            refine lv_iload_n hx hb dX4_readNumber_112 rfl (lv_at hl 3 rfl) ?_
            refine lv_iload_n hx hb dX4_readNumber_113 rfl (lv_at hl 2 rfl) ?_
            refine lv_icmp_le (tgt := 119) hx hb dX4_readNumber_114 (by decide) (fun c_8 => ?_) (fun c_8 => ?_)
            · skip
              rw [if_pos c_8] at hres
              refine lv_aload_n hx hb dX4_readNumber_119 rfl (lv_at hl 1 rfl) ?_
              refine lv_iload_n hx hb dX4_readNumber_120 rfl (lv_at hl 4 rfl) ?_
              refine va_put (D := D) (ci := 4) (v := .int (nI j)) (ty := .int) (C := RX4) (T := TX4) (N := 5) hx hb hts hinX4 tyX4 tyX4_ok nmX4 hown hK hP hD hS 0 rfl rfl 2 (by decide) (hts (.fieldLink RX4 24 "FirstOut$Text" "at" "I") (by decide +kernel)) (fun _ h9 => h9) rfl (by decide +kernel) rfl rfl (Nat.le_of_ble_eq_true rfl) dX4_readNumber_121 (fun H locs hP hD hS => ?_)
              have hP : va_P D vwCl (wT cI cC cZ cS xA lA (upd (d_X4_skipBlanks tf le) 2 (nI j)) le) H := hP
              have hD : va_D A (wT cI cC cZ cS xA lA (upd (d_X4_skipBlanks tf le) 2 (nI j)) le) := hD
              refine lv_iload_n hx hb dX4_readNumber_124 rfl (lv_at hl 3 rfl) ?_
              rw [hres]
              exact W.iret (v := v) hx hb hr (fun t ht hW => ⟨rfl, by rw [ht]; exact hP, by rw [hA]; exact hS.F ht⟩) hS.2.2 dX4_readNumber_125
            · skip
              rw [if_neg c_8] at hres
              refine lv_iconst (v := (-1)) hx hb dX4_readNumber_117 (by decide) ?_
              rw [hres]
              exact W.iret (v := (-1)) hx hb hr (fun t ht hW => ⟨rfl, by rw [ht]; exact hP, by rw [hA]; exact hS.F ht⟩) hS.2.2 dX4_readNumber_118
      · skip
        rw [if_pos c_5] at hres
        refine lv_iconst (v := 1) hx hb dX4_readNumber_92 (by decide) ?_
        refine lv_goto (tgt := 97) hx hb dX4_readNumber_93 (by decide) ?_
        refine lv_istore (lv' := [(4, .int 1), (0, .ref xA), (1, .int most), (2, .int v), (3, .int (nI j))]) hx hb dX4_readNumber_97 hl (by decide) rfl (fun ls hl => ?_)
        refine lv_iload_n hx hb dX4_readNumber_99 rfl (lv_at hl 4 rfl) ?_
        refine lv_aload_n hx hb dX4_readNumber_100 rfl (lv_at hl 1 rfl) ?_
        refine va_get (D := D) (ci := 4) (v := .int ((d_X4_skipBlanks tf le) 2)) (C := RX4) (T := TX4) (N := 5) hx hb hts hinX4 hown hK hP 0 rfl rfl 2 (by decide) (hts (.fieldLink RX4 24 "FirstOut$Text" "at" "I") (by decide +kernel)) (fun _ h9 => h9) rfl dX4_readNumber_101 ?_
        refine lv_icmp_eq (tgt := 117) hx hb dX4_readNumber_104 (by decide) (fun c_9 => ?_) (fun c_9 => ?_)
        · skip
          rw [if_pos c_9] at hres
          refine lv_iconst (v := (-1)) hx hb dX4_readNumber_117 (by decide) ?_
          rw [hres]
          exact W.iret (v := (-1)) hx hb hr (fun t ht hW => ⟨rfl, by rw [ht]; exact hP, by rw [hA]; exact hS.F ht⟩) hS.2.2 dX4_readNumber_118
        · skip
          rw [if_neg c_9] at hres
          refine lv_iload hx hb dX4_readNumber_107 (lv_at hl 0 rfl) ?_
          refine lv_if_ne (tgt := 117) hx hb dX4_readNumber_109 (by decide) (fun c_10 => ?_) (fun c_10 => ?_)
          · skip
            refine lv_iconst (v := (-1)) hx hb dX4_readNumber_117 (by decide) ?_
            rw [hres]
            exact W.iret (v := (-1)) hx hb hr (fun t ht hW => ⟨rfl, by rw [ht]; exact hP, by rw [hA]; exact hS.F ht⟩) hS.2.2 dX4_readNumber_118
          · exact absurd c_10 (by decide)
  have loop11 : ∀ (k11 : Nat) (j : Nat) (v : Int32), len - j < k11 → j ≤ len → ((d_X4_skipBlanks tf le) 2).toNatClampNeg ≤ j → R = lp_X4_readNumber_11 tf le most len k11 j v → ∀ (H : Heap) (locs : List Loc), va_P D vwCl (wT cI cC cZ cS xA lA (d_X4_skipBlanks tf le) le) H → va_D A (wT cI cC cZ cS xA lA (d_X4_skipBlanks tf le) le) → va_S A s.heap H locs → ∀ ls : Array Slot, lv_has ls 5 [(0, .ref xA), (1, .int most), (2, .int v), (3, .int (nI j))] → W p l e (headSpec wsX4_readNumber { frames := 1, cells := 0, slots := 0, locals := 20 }).room s m (([.ref xA, .int most] : List Value).toArray) below meth c H locs 0 0 (MQ below (QcM (some (.int R.1)) D (wT cI cC cZ cS xA lA tf le) (wT cI cC cZ cS xA lA R.2 le)) (([.ref xA, .int most] : List Value).toArray) s 0 0 A) (F0 m 11 ls []) := by
    intro k11
    induction k11 with
    | zero => intro j v hk; exact absurd hk (Nat.not_lt_zero _)
    | succ k11 ih11 =>
      intro j v hk11 hj haj hres H locs hP hD hS ls hl
      rw [lp_X4_readNumber_11] at hres
      refine lv_iload_n hx hb dX4_readNumber_11 rfl (lv_at hl 3 rfl) ?_
      refine lv_aload_n hx hb dX4_readNumber_12 rfl (lv_at hl 0 rfl) ?_
      refine va_get (D := D) (ci := 4) (v := .int ((d_X4_skipBlanks tf le) 1)) (C := RX4) (T := TX4) (N := 5) hx hb hts hinX4 hown hK hP 0 rfl rfl 1 (by decide) (hts (.fieldLink RX4 15 "FirstOut$Text" "length" "I") (by decide +kernel)) (fun _ h9 => h9) rfl dX4_readNumber_13 ?_
      refine lv_to (show ((d_X4_skipBlanks tf le) 1) = nI len from ht1.1) ?_
      refine lv_icmp_ge (tgt := 68) hx hb dX4_readNumber_16 (by decide) (fun c_11 => ?_) (fun c_11 => ?_)
      · skip
        rw [if_pos c_11] at hres
        have hP : va_P D vwCl (wT cI cC cZ cS xA lA (d_X4_skipBlanks tf le) le) _ := hP
        have hD : va_D A (wT cI cC cZ cS xA lA (d_X4_skipBlanks tf le) le) := hD
        exact join68 j v hj haj hres _ _ hP hD hS ls (lv_sub hl [0, 1, 2, 3] rfl)
      · skip
        rw [if_neg c_11] at hres
        have hlt : j < len := nlt_of c_11 (by omega) (by omega)
        refine lv_aload_n hx hb dX4_readNumber_19 rfl (lv_at hl 0 rfl) ?_
        refine va_get (D := D) (ci := 4) (v := .ref lA) (C := RX4) (T := TX4) (N := 5) hx hb hts hinX4 hown hK hP 0 rfl rfl 0 (by decide) (hts (.fieldLink RX4 9 "FirstOut$Text" "letters" "[C") (by decide +kernel)) (fun _ h9 => h9) rfl dX4_readNumber_20 ?_
        refine lv_iload_n hx hb dX4_readNumber_23 rfl (lv_at hl 3 rfl) ?_
        refine m_cald hx hb hK hP 1 1 rfl rfl j rfl (by omega) (by decide) dX4_readNumber_24 ?_
        refine lv_to (show _ = (le j) from rfl) ?_
        refine lv_bipush (v := 48) hx hb dX4_readNumber_25 (by decide) ?_
        refine lv_icmp_lt (tgt := 68) hx hb dX4_readNumber_27 (by decide) (fun c_12 => ?_) (fun c_12 => ?_)
        · skip
          rw [if_pos c_12] at hres
          have hP : va_P D vwCl (wT cI cC cZ cS xA lA (d_X4_skipBlanks tf le) le) _ := hP
          have hD : va_D A (wT cI cC cZ cS xA lA (d_X4_skipBlanks tf le) le) := hD
          exact join68 j v hj haj hres _ _ hP hD hS ls (lv_sub hl [0, 1, 2, 3] rfl)
        · skip
          rw [if_neg c_12] at hres
          refine lv_aload_n hx hb dX4_readNumber_30 rfl (lv_at hl 0 rfl) ?_
          refine va_get (D := D) (ci := 4) (v := .ref lA) (C := RX4) (T := TX4) (N := 5) hx hb hts hinX4 hown hK hP 0 rfl rfl 0 (by decide) (hts (.fieldLink RX4 9 "FirstOut$Text" "letters" "[C") (by decide +kernel)) (fun _ h9 => h9) rfl dX4_readNumber_31 ?_
          refine lv_iload_n hx hb dX4_readNumber_34 rfl (lv_at hl 3 rfl) ?_
          refine m_cald hx hb hK hP 1 1 rfl rfl j rfl (by omega) (by decide) dX4_readNumber_35 ?_
          refine lv_to (show _ = (le j) from rfl) ?_
          refine lv_bipush (v := 57) hx hb dX4_readNumber_36 (by decide) ?_
          refine lv_icmp_gt (tgt := 68) hx hb dX4_readNumber_38 (by decide) (fun c_13 => ?_) (fun c_13 => ?_)
          · skip
            rw [if_pos c_13] at hres
            have hP : va_P D vwCl (wT cI cC cZ cS xA lA (d_X4_skipBlanks tf le) le) _ := hP
            have hD : va_D A (wT cI cC cZ cS xA lA (d_X4_skipBlanks tf le) le) := hD
            exact join68 j v hj haj hres _ _ hP hD hS ls (lv_sub hl [0, 1, 2, 3] rfl)
          · skip
            rw [if_neg c_13] at hres
            refine lv_iload_n hx hb dX4_readNumber_41 rfl (lv_at hl 2 rfl) ?_
            refine lv_bipush (v := 10) hx hb dX4_readNumber_42 (by decide) ?_
            refine lv_imul hx hb dX4_readNumber_44 ?_
            refine lv_aload_n hx hb dX4_readNumber_45 rfl (lv_at hl 0 rfl) ?_
            refine va_get (D := D) (ci := 4) (v := .ref lA) (C := RX4) (T := TX4) (N := 5) hx hb hts hinX4 hown hK hP 0 rfl rfl 0 (by decide) (hts (.fieldLink RX4 9 "FirstOut$Text" "letters" "[C") (by decide +kernel)) (fun _ h9 => h9) rfl dX4_readNumber_46 ?_
            refine lv_iload_n hx hb dX4_readNumber_49 rfl (lv_at hl 3 rfl) ?_
            refine m_cald hx hb hK hP 1 1 rfl rfl j rfl (by omega) (by decide) dX4_readNumber_50 ?_
            refine lv_to (show _ = (le j) from rfl) ?_
            refine lv_iadd hx hb dX4_readNumber_51 ?_
            refine lv_bipush (v := 48) hx hb dX4_readNumber_52 (by decide) ?_
            refine lv_isub hx hb dX4_readNumber_54 ?_
            refine lv_sipush (v := 1000) hx hb dX4_readNumber_55 (by decide) ?_
            refine va_mmin hx hb (by rw [hml]; exact hl.1.symm) hown (hts (.methodLink RX4 77 Lib.Math.min.name) (by decide +kernel)) (hts (.static Lib.Math.min.name) (by decide +kernel)) (hts (.initialized "java/lang/Math") (by decide +kernel)) (hts (.code Lib.Math.min.name Lib.Math.min.code 2 (some .int)) (by decide +kernel)) (Nat.le_of_ble_eq_true rfl) (Nat.le_of_ble_eq_true rfl) (Nat.zero_le _) (Nat.zero_le _) dX4_readNumber_58 ?_
            refine lv_istore_n (lv' := [(2, .int (if (1000 : Int32) < (((v * (10 : Int32)) + (le j)) - (48 : Int32)) then (1000 : Int32) else (((v * (10 : Int32)) + (le j)) - (48 : Int32)))), (0, .ref xA), (1, .int most), (3, .int (nI j))]) hx hb dX4_readNumber_61 rfl hl (by decide) rfl (fun ls hl => ?_)
            refine lv_iinc (v := nI (j + 1)) (lv' := [(3, .int (nI (j + 1))), (2, .int (if (1000 : Int32) < (((v * (10 : Int32)) + (le j)) - (48 : Int32)) then (1000 : Int32) else (((v * (10 : Int32)) + (le j)) - (48 : Int32)))), (0, .ref xA), (1, .int most)]) hx hb dX4_readNumber_62 hl (k := 3) rfl ((nI_add j 1)) (by decide) rfl (fun ls hl => ?_)
            refine lv_goto (tgt := 11) hx hb dX4_readNumber_65 (by decide) ?_
            have hP : va_P D vwCl (wT cI cC cZ cS xA lA (d_X4_skipBlanks tf le) le) H := hP
            have hD : va_D A (wT cI cC cZ cS xA lA (d_X4_skipBlanks tf le) le) := hD
            exact ih11 (j + 1) (if (1000 : Int32) < (((v * (10 : Int32)) + (le j)) - (48 : Int32)) then (1000 : Int32) else (((v * (10 : Int32)) + (le j)) - (48 : Int32))) (by omega) (by omega) (by omega) hres _ _ hP hD hS ls (lv_sub hl [2, 3, 1, 0] rfl)
  have hP : va_P D vwCl (wT cI cC cZ cS xA lA (d_X4_skipBlanks tf le) le) _ := hP
  have hD : va_D A (wT cI cC cZ cS xA lA (d_X4_skipBlanks tf le) le) := hD
  exact loop11 (len + 1) (((d_X4_skipBlanks tf le) 2).toNatClampNeg) 0 (by omega) hp1.2 (Nat.le_refl _) hres _ _ hP hD hS ls (lv_sub hl [2, 3, 1, 0] rfl)
