theorem lt_nle {x y : Int32} (h : x < y) : ¬ y ≤ x := by
  rw [Int32.le_iff_toInt_le]; rw [Int32.lt_iff_toInt_lt] at h; omega
def HX (hf : Nat → Int32) : Prop := hf 3 = nI (hf 3).toNatClampNeg ∧ (hf 3).toNatClampNeg ≤ 7
theorem HX.of {hf : Nat → Int32} {n : Nat} (h : hf 3 = nI n) (h7 : n ≤ 7) : HX hf := by
  have h2 := cl_nI h (by omega)
  exact ⟨by rw [h2]; exact h, by omega⟩
theorem add_HX {hf tr de ea : Nat → Int32} {x y z kn : Int32} {n : Nat} (hn : hf 3 = nI n) (h7 : n ≤ 7) : HX (d_X0_add hf tr de ea x y z kn n).1 := by
  rw [d_X0_add]
  split
  · exact HX.of hn h7
  · rename_i c
    have h := hasRoom_lt c hn h7
    exact HX.of (n := n + 1) (nI_1 n) h
theorem rt_TX {tf le hf tr de ea : Nat → Int32} {len n : Nat} (ht : TX tf len) (hat : ¬ tf 1 ≤ tf 2) : TX (d_X4_readThing tf le hf tr de ea len n).2.1 len := by
  have h0 := (ht.step hat).1
  have h1 := rn_TX (le := le) (most := 31) h0
  have h2 := rn_TX (le := le) (most := 99) h1
  have h3 := rn_TX (le := le) (most := 9) h2
  have h4 := rn_TX (le := le) (most := 1) h3
  have h5 := re_TX (le := le) h4
  rw [d_X4_readThing]
  repeat' split
  all_goals (dsimp only; with_reducible assumption)
theorem rv_TX {tf le hf tr de ea : Nat → Int32} {len : Nat} (ht : TX tf len) (hat : ¬ tf 1 ≤ tf 2) : TX (d_X4_readVow tf le hf tr de ea len).2.1 len := by
  have h0 := ((ht.step hat).1).far (Or.inl rfl) 1
  have h1 := rn_TX (le := le) (most := 31) h0
  have h2 := re_TX (le := le) h1
  rw [d_X4_readVow]
  repeat' split
  all_goals (dsimp only; with_reducible assumption)
theorem rw_TX {tf le hf tr de ea : Nat → Int32} {len : Nat} (ht : TX tf len) (hat : ¬ tf 1 ≤ tf 2) : TX (d_X4_readWar tf le hf tr de ea len).2.1 len := by
  have h0 := ((ht.step hat).1).far (Or.inr rfl) 1
  have h1 := rn_TX (le := le) (most := 10) h0
  have h2 := rn_TX (le := le) (most := (10 : Int32) - (d_X4_readNumber (upd (upd tf 2 (tf 2 + 1)) 4 1) le 10 len).1) h1
  have h3 := rn_TX (le := le) (most := 999) h2
  have h4 := re_TX (le := le) h3
  rw [d_X4_readWar]
  repeat' split
  all_goals (dsimp only; with_reducible assumption)
theorem ri_TX {tf le hf tr de ea : Nat → Int32} {len n : Nat} (ht : TX tf len) (hat : ¬ tf 1 ≤ tf 2) : TX (d_X4_readItem tf le hf tr de ea len n).2.1 len := by
  have h1 := rt_TX (le := le) (hf := hf) (tr := tr) (de := de) (ea := ea) (n := n) ht hat
  have h2 := rv_TX (le := le) (hf := hf) (tr := tr) (de := de) (ea := ea) ht hat
  have h3 := rw_TX (le := le) (hf := hf) (tr := tr) (de := de) (ea := ea) ht hat
  rw [d_X4_readItem]
  repeat' split
  all_goals (dsimp only; with_reducible assumption)
theorem rt_HX {tf le hf tr de ea : Nat → Int32} {len n : Nat} (hn : hf 3 = nI n) (h7 : n ≤ 7) : HX (d_X4_readThing tf le hf tr de ea len n).2.2.1 := by
  have h1 := HX.of hn h7
  rw [d_X4_readThing]
  repeat' split
  all_goals dsimp only
  all_goals first | with_reducible assumption | exact add_HX hn h7
theorem rv_HX {tf le hf tr de ea : Nat → Int32} {len : Nat} (h1 : HX hf) : HX (d_X4_readVow tf le hf tr de ea len).2.2.1 := by
  rw [d_X4_readVow]
  repeat' split
  all_goals dsimp only
  all_goals first | with_reducible assumption | exact h1
theorem rw_HX {tf le hf tr de ea : Nat → Int32} {len : Nat} (h1 : HX hf) : HX (d_X4_readWar tf le hf tr de ea len).2.2.1 := by
  rw [d_X4_readWar]
  repeat' split
  all_goals dsimp only
  all_goals first | with_reducible assumption | exact h1
theorem ri_HX {tf le hf tr de ea : Nat → Int32} {len n : Nat} (hn : hf 3 = nI n) (h7 : n ≤ 7) : HX (d_X4_readItem tf le hf tr de ea len n).2.2.1 := by
  have h0 := HX.of hn h7
  have h1 := rt_HX (tf := tf) (le := le) (tr := tr) (de := de) (ea := ea) (len := len) hn h7
  have h2 := rv_HX (tf := tf) (le := le) (tr := tr) (de := de) (ea := ea) (len := len) h0
  have h3 := rw_HX (tf := tf) (le := le) (tr := tr) (de := de) (ea := ea) (len := len) h0
  rw [d_X4_readItem]
  repeat' split
  all_goals (dsimp only; with_reducible assumption)
theorem bare_HX {hf : Nat → Int32} : HX (d_X0_setBare hf) := HX.of (n := 0) rfl (by omega)

def lp_X4_readInto_21 (tf : Nat → Int32) (le : Nat → Int32) (hf : Nat → Int32) (tr : Nat → Int32) (de : Nat → Int32) (ea : Nat → Int32) (len : Nat) : Nat → Nat → (Nat → Int32) → (Nat → Int32) → (Nat → Int32) → (Nat → Int32) → (Nat → Int32) → Int32 × (Nat → Int32) × (Nat → Int32) × (Nat → Int32) × (Nat → Int32) × (Nat → Int32)
  | 0, _, _, _, _, _, _ => (0, tf, hf, tr, de, ea)
  | k21 + 1, i, t, h1, t1, d1, e1 => if (200 : Int32) ≤ (nI i) then
      ((-10 : Int32) - (t 2), t, h1, t1, d1, e1)
    else
      if ((d_X4_skipBlanks t le) 2) < ((d_X4_skipBlanks t le) 1) then
        if ((d_X4_readItem (d_X4_skipBlanks t le) le h1 t1 d1 e1 len ((h1 3).toNatClampNeg)).1) = 0 then
          ((-10 : Int32) - (((d_X4_readItem (d_X4_skipBlanks t le) le h1 t1 d1 e1 len ((h1 3).toNatClampNeg)).2.1) 2), ((d_X4_readItem (d_X4_skipBlanks t le) le h1 t1 d1 e1 len ((h1 3).toNatClampNeg)).2.1), ((d_X4_readItem (d_X4_skipBlanks t le) le h1 t1 d1 e1 len ((h1 3).toNatClampNeg)).2.2.1), ((d_X4_readItem (d_X4_skipBlanks t le) le h1 t1 d1 e1 len ((h1 3).toNatClampNeg)).2.2.2.1), ((d_X4_readItem (d_X4_skipBlanks t le) le h1 t1 d1 e1 len ((h1 3).toNatClampNeg)).2.2.2.2.1), ((d_X4_readItem (d_X4_skipBlanks t le) le h1 t1 d1 e1 len ((h1 3).toNatClampNeg)).2.2.2.2.2))
        else
          lp_X4_readInto_21 tf le hf tr de ea len k21 (i + 1) ((d_X4_readItem (d_X4_skipBlanks t le) le h1 t1 d1 e1 len ((h1 3).toNatClampNeg)).2.1) ((d_X4_readItem (d_X4_skipBlanks t le) le h1 t1 d1 e1 len ((h1 3).toNatClampNeg)).2.2.1) ((d_X4_readItem (d_X4_skipBlanks t le) le h1 t1 d1 e1 len ((h1 3).toNatClampNeg)).2.2.2.1) ((d_X4_readItem (d_X4_skipBlanks t le) le h1 t1 d1 e1 len ((h1 3).toNatClampNeg)).2.2.2.2.1) ((d_X4_readItem (d_X4_skipBlanks t le) le h1 t1 d1 e1 len ((h1 3).toNatClampNeg)).2.2.2.2.2)
      else
        (nI i, (d_X4_skipBlanks t le), h1, t1, d1, e1)
def d_X4_readInto (tf : Nat → Int32) (le : Nat → Int32) (hf : Nat → Int32) (tr : Nat → Int32) (de : Nat → Int32) (ea : Nat → Int32) (len : Nat) : Int32 × (Nat → Int32) × (Nat → Int32) × (Nat → Int32) × (Nat → Int32) × (Nat → Int32) :=
  lp_X4_readInto_21 tf le hf tr de ea len 201 0 (upd (upd (upd tf 2 0) 3 0) 4 0) (d_X0_setBare hf) tr de ea
set_option maxHeartbeats 4000000 in
set_option maxRecDepth 100000 in
theorem c_X4_readInto (l : Launch) (D : va_G) (cI cC cZ cS : ClassId) (xA : Nat) (lA : Nat) (h : Nat) (tA : Nat) (dA : Nat) (eA : Nat) (tf : Nat → Int32) (le : Nat → Int32) (hf : Nat → Int32) (tr : Nat → Int32) (de : Nat → Int32) (ea : Nat → Int32) (len : Nat) (hle : tf 1 = nI len) (h200 : len ≤ 200) : Met l yX4_readInto wsX4_readInto { frames := 4, cells := 0, slots := 0, locals := 90 } (PcE D cI cC cZ cS [.ref xA, .ref h] (wTH cI cC cZ cS xA lA h tA dA eA tf le hf tr de ea)) (QcM (some (.int ((d_X4_readInto tf le hf tr de ea len).1))) D (wTH cI cC cZ cS xA lA h tA dA eA tf le hf tr de ea) (wTH cI cC cZ cS xA lA h tA dA eA ((d_X4_readInto tf le hf tr de ea len).2.1) le ((d_X4_readInto tf le hf tr de ea len).2.2.1) ((d_X4_readInto tf le hf tr de ea len).2.2.2.1) ((d_X4_readInto tf le hf tr de ea len).2.2.2.2.1) ((d_X4_readInto tf le hf tr de ea len).2.2.2.2.2))) 0 0 (inW (wTH cI cC cZ cS xA lA h tA dA eA tf le hf tr de ea)) := by
  refine Met.ofW (cc := cX4_readInto) (maxL := 3) (ret := (some .int)) (by decide) rfl ?_
  intro p e s m args below meth c s₁ B hml hv
  obtain ⟨rfl, hP, hD, hE⟩ := hv
  have hK := hE.1
  have hx := B.exec
  have hb := B.bytes
  have hr := B.returns
  have hts := atoms_spec (ws := wsX4_readInto) B.pre
  have hown : s.vm.findClass RX4 = some m.cls := findClass_of_methodNamed B.named
  have hlocks := B.notSynchronized
  have hinX4 : ∀ w ∈ wsX40, w ∈ wsX4_readInto := by decide +kernel
  have hD := inW_self hD
  have hS : va_S (inW (wTH cI cC cZ cS xA lA h tA dA eA tf le hf tr de ea)) s.heap s.heap [] := va_S.rf
  generalize hA : inW (wTH cI cC cZ cS xA lA h tA dA eA tf le hf tr de ea) = A at hD hS ⊢
  refine opq (d_X4_readInto tf le hf tr de ea len) (fun R hres => ?_)
  rw [hres]
  replace hres := hres.symm
  rw [d_X4_readInto] at hres
  have hl := lv_entry ([.ref xA, .ref h]) (n := 3) (Nat.le_of_ble_eq_true rfl)
  rw [lg_entry_eq]
  generalize (lg_sl ([.ref xA, .ref h]) ++ List.replicate (3 - (lg_sl ([.ref xA, .ref h])).length) Slot.unset).toArray = ls at hl ⊢
  have hl : lv_has ls 3 [(0, .ref xA), (1, .ref h)] := hl
  refine lv_aload_n hx hb dX4_readInto_0 rfl (lv_at hl 1 rfl) ?_
  have hPc := hP.sub (ws' := (wH cI cC cZ cS h tA dA eA hf tr de ea)) [2, 3, 4, 5] rfl
  have hDc := hD.sub (ws' := (wH cI cC cZ cS h tA dA eA hf tr de ea)) [2, 3, 4, 5] (by decide) rfl
  refine m_callM (W.runV (As := []) (rest := []) ⟨hx, hb, hml, hown, hts⟩ (c_X0_setBare l D cI cC cZ cS h tA dA eA hf tr de ea) (cwV 0 hts gX4_readInto_X0_setBare rfl rfl rfl (by decide +kernel) ⟨Nat.le_of_ble_eq_true rfl, Nat.le_of_ble_eq_true rfl⟩) (preV_of hPc hDc hE (va_recv hK hPc (ci := 0) (q0 := 0) rfl rfl)) rfl rfl hl.1 rfl (lv_room (Nat.le_of_ble_eq_true rfl)) dX4_readInto_1 ⟨Nat.zero_le _, Nat.zero_le _⟩) hP hD hS [2, 3, 4, 5] rfl wH_ad (fun H locs hP hD hS => ?_)
  have hP : va_P D vwCl (wTH cI cC cZ cS xA lA h tA dA eA tf le (d_X0_setBare hf) tr de ea) H := hP
  have hD : va_D A (wTH cI cC cZ cS xA lA h tA dA eA tf le (d_X0_setBare hf) tr de ea) := hD
  refine W.eq (g2 := F0 m 4 ls []) rfl ?_
  have hh0 : HX (d_X0_setBare hf) := bare_HX
  refine opq (d_X0_setBare hf) (fun r_1 hr_1 => ?_)
  try rw [hr_1] at hP
  try rw [hr_1] at hD
  try rw [hr_1] at hres
  try rw [hr_1] at hh0
  try rw [hr_1]
  refine lv_aload_n hx hb dX4_readInto_4 rfl (lv_at hl 0 rfl) ?_
  refine lv_iconst (v := 0) hx hb dX4_readInto_5 (by decide) ?_
  refine va_put (D := D) (ci := 4) (v := .int 0) (ty := .int) (C := RX4) (T := TX4) (N := 5) hx hb hts hinX4 tyX4 tyX4_ok nmX4 hown hK hP hD hS 0 rfl rfl 2 (by decide) (hts (.fieldLink RX4 24 "FirstOut$Text" "at" "I") (by decide +kernel)) (fun _ h9 => h9) rfl (by decide +kernel) rfl rfl (Nat.le_of_ble_eq_true rfl) dX4_readInto_6 (fun H locs hP hD hS => ?_)
  have hP : va_P D vwCl (wTH cI cC cZ cS xA lA h tA dA eA (upd tf 2 0) le r_1 tr de ea) H := hP
  have hD : va_D A (wTH cI cC cZ cS xA lA h tA dA eA (upd tf 2 0) le r_1 tr de ea) := hD
  refine lv_aload_n hx hb dX4_readInto_9 rfl (lv_at hl 0 rfl) ?_
  refine lv_iconst (v := 0) hx hb dX4_readInto_10 (by decide) ?_
  refine va_put (D := D) (ci := 4) (v := .int 0) (ty := .boolean) (C := RX4) (T := TX4) (N := 5) hx hb hts hinX4 tyX4 tyX4_ok nmX4 hown hK hP hD hS 0 rfl rfl 3 (by decide) (hts (.fieldLink RX4 27 "FirstOut$Text" "vowRead" "Z") (by decide +kernel)) (fun _ h9 => h9) rfl (by decide +kernel) rfl rfl (Nat.le_of_ble_eq_true rfl) dX4_readInto_11 (fun H locs hP hD hS => ?_)
  have hP : va_P D vwCl (wTH cI cC cZ cS xA lA h tA dA eA (upd (upd tf 2 0) 3 0) le r_1 tr de ea) H := hP
  have hD : va_D A (wTH cI cC cZ cS xA lA h tA dA eA (upd (upd tf 2 0) 3 0) le r_1 tr de ea) := hD
  refine lv_aload_n hx hb dX4_readInto_14 rfl (lv_at hl 0 rfl) ?_
  refine lv_iconst (v := 0) hx hb dX4_readInto_15 (by decide) ?_
  refine va_put (D := D) (ci := 4) (v := .int 0) (ty := .boolean) (C := RX4) (T := TX4) (N := 5) hx hb hts hinX4 tyX4 tyX4_ok nmX4 hown hK hP hD hS 0 rfl rfl 4 (by decide) (hts (.fieldLink RX4 31 "FirstOut$Text" "warRead" "Z") (by decide +kernel)) (fun _ h9 => h9) rfl (by decide +kernel) rfl rfl (Nat.le_of_ble_eq_true rfl) dX4_readInto_16 (fun H locs hP hD hS => ?_)
  have hP : va_P D vwCl (wTH cI cC cZ cS xA lA h tA dA eA (upd (upd (upd tf 2 0) 3 0) 4 0) le r_1 tr de ea) H := hP
  have hD : va_D A (wTH cI cC cZ cS xA lA h tA dA eA (upd (upd (upd tf 2 0) 3 0) 4 0) le r_1 tr de ea) := hD
  have ht0 : TX (upd (upd (upd tf 2 0) 3 0) 4 0) len := ⟨hle, h200, 0, Nat.zero_le _, rfl⟩
  refine lv_iconst (v := 0) hx hb dX4_readInto_19 (by decide) ?_
  refine lv_istore_n (lv' := [(2, .int 0), (0, .ref xA), (1, .ref h)]) hx hb dX4_readInto_20 rfl hl (by decide) rfl (fun ls hl => ?_)
  have loop21 : ∀ (k21 : Nat) (i : Nat) (t : Nat → Int32) (h1 : Nat → Int32) (t1 : Nat → Int32) (d1 : Nat → Int32) (e1 : Nat → Int32), 200 - i < k21 → i ≤ 200 → TX t len → HX h1 → R = lp_X4_readInto_21 tf le hf tr de ea len k21 i t h1 t1 d1 e1 → ∀ (H : Heap) (locs : List Loc), va_P D vwCl (wTH cI cC cZ cS xA lA h tA dA eA t le h1 t1 d1 e1) H → va_D A (wTH cI cC cZ cS xA lA h tA dA eA t le h1 t1 d1 e1) → va_S A s.heap H locs → ∀ ls : Array Slot, lv_has ls 3 [(0, .ref xA), (1, .ref h), (2, .int (nI i))] → W p l e (headSpec wsX4_readInto { frames := 4, cells := 0, slots := 0, locals := 90 }).room s m (([.ref xA, .ref h] : List Value).toArray) below meth c H locs 0 0 (MQ below (QcM (some (.int R.1)) D (wTH cI cC cZ cS xA lA h tA dA eA tf le hf tr de ea) (wTH cI cC cZ cS xA lA h tA dA eA R.2.1 le R.2.2.1 R.2.2.2.1 R.2.2.2.2.1 R.2.2.2.2.2)) (([.ref xA, .ref h] : List Value).toArray) s 0 0 A) (F0 m 21 ls []) := by
    intro k21
    induction k21 with
    | zero => intro i t h1 t1 d1 e1 hk; exact absurd hk (Nat.not_lt_zero _)
    | succ k21 ih21 =>
      intro i t h1 t1 d1 e1 hk21 hi ht hh hres H locs hP hD hS ls hl
      rw [lp_X4_readInto_21] at hres
      refine lv_iload_n hx hb dX4_readInto_21 rfl (lv_at hl 2 rfl) ?_
      refine lv_sipush (v := 200) hx hb dX4_readInto_22 (by decide) ?_
      refine lv_icmp_ge (tgt := 62) hx hb dX4_readInto_25 (by decide) (fun c_2 => ?_) (fun c_2 => ?_)
      · skip
        rw [if_pos c_2] at hres
        refine lv_bipush (v := (-10)) hx hb dX4_readInto_62 (by decide) ?_
        refine lv_aload_n hx hb dX4_readInto_64 rfl (lv_at hl 0 rfl) ?_
        refine va_get (D := D) (ci := 4) (v := .int (t 2)) (C := RX4) (T := TX4) (N := 5) hx hb hts hinX4 hown hK hP 0 rfl rfl 2 (by decide) (hts (.fieldLink RX4 24 "FirstOut$Text" "at" "I") (by decide +kernel)) (fun _ h9 => h9) rfl dX4_readInto_65 ?_
        refine lv_isub hx hb dX4_readInto_68 ?_
        rw [hres]
        exact W.iret (v := (-10 : Int32) - (t 2)) hx hb hr (fun t ht hW => ⟨rfl, by rw [ht]; exact hP, by rw [hA]; exact hS.F ht⟩) hS.2.2 dX4_readInto_69
      · skip
        rw [if_neg c_2] at hres
        have hlt : i < 200 := nlt_of (b := 200) c_2 (by omega) (by omega)
        refine lv_aload_n hx hb dX4_readInto_28 rfl (lv_at hl 0 rfl) ?_
        have hPc := hP.sub (ws' := (wT cI cC cZ cS xA lA t le)) [0, 1] rfl
        have hDc := hD.sub (ws' := (wT cI cC cZ cS xA lA t le)) [0, 1] (by decide) rfl
        refine m_callM (W.runV (As := []) (rest := []) ⟨hx, hb, hml, hown, hts⟩ (c_X4_skipBlanks l D cI cC cZ cS xA lA t le len ht) (cwV 0 hts gX4_readInto_X4_skipBlanks rfl rfl rfl (by decide +kernel) ⟨Nat.le_of_ble_eq_true rfl, Nat.le_of_ble_eq_true rfl⟩) (preV_of hPc hDc hE (va_recv hK hPc (ci := 4) (q0 := 0) rfl rfl)) rfl rfl hl.1 rfl (lv_room (Nat.le_of_ble_eq_true rfl)) dX4_readInto_29 ⟨Nat.zero_le _, Nat.zero_le _⟩) hP hD hS [0, 1] rfl wT_ad (fun H locs hP hD hS => ?_)
        have hP : va_P D vwCl (wTH cI cC cZ cS xA lA h tA dA eA (d_X4_skipBlanks t le) le h1 t1 d1 e1) H := hP
        have hD : va_D A (wTH cI cC cZ cS xA lA h tA dA eA (d_X4_skipBlanks t le) le h1 t1 d1 e1) := hD
        refine W.eq (g2 := F0 m 32 ls []) rfl ?_
        have ht1 : TX (d_X4_skipBlanks t le) len := skip_TX ht
        refine opq (d_X4_skipBlanks t le) (fun r_3 hr_3 => ?_)
        try rw [hr_3] at hP
        try rw [hr_3] at hD
        try rw [hr_3] at hres
        try rw [hr_3] at ht1
        try rw [hr_3]
        refine lv_aload_n hx hb dX4_readInto_32 rfl (lv_at hl 0 rfl) ?_
        refine va_get (D := D) (ci := 4) (v := .int (r_3 2)) (C := RX4) (T := TX4) (N := 5) hx hb hts hinX4 hown hK hP 0 rfl rfl 2 (by decide) (hts (.fieldLink RX4 24 "FirstOut$Text" "at" "I") (by decide +kernel)) (fun _ h9 => h9) rfl dX4_readInto_33 ?_
        refine lv_aload_n hx hb dX4_readInto_36 rfl (lv_at hl 0 rfl) ?_
        refine va_get (D := D) (ci := 4) (v := .int (r_3 1)) (C := RX4) (T := TX4) (N := 5) hx hb hts hinX4 hown hK hP 0 rfl rfl 1 (by decide) (hts (.fieldLink RX4 15 "FirstOut$Text" "length" "I") (by decide +kernel)) (fun _ h9 => h9) rfl dX4_readInto_37 ?_
        refine lv_icmp_lt (tgt := 45) hx hb dX4_readInto_40 (by decide) (fun c_4 => ?_) (fun c_4 => ?_)
        · skip
          rw [if_pos c_4] at hres
          have hat := lt_nle c_4
          refine lv_aload_n hx hb dX4_readInto_45 rfl (lv_at hl 0 rfl) ?_
          refine lv_aload_n hx hb dX4_readInto_46 rfl (lv_at hl 1 rfl) ?_
          have hPc := hP.sub (ws' := (wTH cI cC cZ cS xA lA h tA dA eA r_3 le h1 t1 d1 e1)) [0, 1, 2, 3, 4, 5] rfl
          have hDc := hD.sub (ws' := (wTH cI cC cZ cS xA lA h tA dA eA r_3 le h1 t1 d1 e1)) [0, 1, 2, 3, 4, 5] (by decide) rfl
          refine m_callM (W.runV (As := [.ref h]) (rest := []) ⟨hx, hb, hml, hown, hts⟩ (c_X4_readItem l D cI cC cZ cS xA lA h tA dA eA r_3 le h1 t1 d1 e1 len ((h1 3).toNatClampNeg) ht1 hat hh.1 hh.2) (cwV 1 hts gX4_readInto_X4_readItem rfl rfl rfl (by decide +kernel) ⟨Nat.le_of_ble_eq_true rfl, Nat.le_of_ble_eq_true rfl⟩) (preV_of hPc hDc hE (va_recv hK hPc (ci := 4) (q0 := 0) rfl rfl)) rfl rfl hl.1 rfl (lv_room (Nat.le_of_ble_eq_true rfl)) dX4_readInto_47 ⟨Nat.zero_le _, Nat.zero_le _⟩) hP hD hS [0, 1, 2, 3, 4, 5] rfl wTH_ad (fun H locs hP hD hS => ?_)
          have hP : va_P D vwCl (wTH cI cC cZ cS xA lA h tA dA eA ((d_X4_readItem r_3 le h1 t1 d1 e1 len ((h1 3).toNatClampNeg)).2.1) le ((d_X4_readItem r_3 le h1 t1 d1 e1 len ((h1 3).toNatClampNeg)).2.2.1) ((d_X4_readItem r_3 le h1 t1 d1 e1 len ((h1 3).toNatClampNeg)).2.2.2.1) ((d_X4_readItem r_3 le h1 t1 d1 e1 len ((h1 3).toNatClampNeg)).2.2.2.2.1) ((d_X4_readItem r_3 le h1 t1 d1 e1 len ((h1 3).toNatClampNeg)).2.2.2.2.2)) H := hP
          have hD : va_D A (wTH cI cC cZ cS xA lA h tA dA eA ((d_X4_readItem r_3 le h1 t1 d1 e1 len ((h1 3).toNatClampNeg)).2.1) le ((d_X4_readItem r_3 le h1 t1 d1 e1 len ((h1 3).toNatClampNeg)).2.2.1) ((d_X4_readItem r_3 le h1 t1 d1 e1 len ((h1 3).toNatClampNeg)).2.2.2.1) ((d_X4_readItem r_3 le h1 t1 d1 e1 len ((h1 3).toNatClampNeg)).2.2.2.2.1) ((d_X4_readItem r_3 le h1 t1 d1 e1 len ((h1 3).toNatClampNeg)).2.2.2.2.2)) := hD
          refine W.eq (g2 := F0 m 50 ls [.int ((d_X4_readItem r_3 le h1 t1 d1 e1 len ((h1 3).toNatClampNeg)).1)]) rfl ?_
          have ht2 : TX (d_X4_readItem r_3 le h1 t1 d1 e1 len ((h1 3).toNatClampNeg)).2.1 len := ri_TX ht1 hat
          have hh2 : HX (d_X4_readItem r_3 le h1 t1 d1 e1 len ((h1 3).toNatClampNeg)).2.2.1 := ri_HX hh.1 hh.2
          refine opq (d_X4_readItem r_3 le h1 t1 d1 e1 len ((h1 3).toNatClampNeg)) (fun r_5 hr_5 => ?_)
          try rw [hr_5] at hP
          try rw [hr_5] at hD
          try rw [hr_5] at hres
          try rw [hr_5] at ht2
          try rw [hr_5] at hh2
          try rw [hr_5]
          refine lv_if_ne (tgt := 56) hx hb dX4_readInto_50 (by decide) (fun c_6 => ?_) (fun c_6 => ?_)
          · skip
            rw [if_neg c_6] at hres
            refine lv_iinc (v := nI (i + 1)) (lv' := [(2, .int (nI (i + 1))), (0, .ref xA), (1, .ref h)]) hx hb dX4_readInto_56 hl (k := 2) rfl ((nI_add i 1)) (by decide) rfl (fun ls hl => ?_)
            refine lv_goto (tgt := 21) hx hb dX4_readInto_59 (by decide) ?_
            have hP : va_P D vwCl (wTH cI cC cZ cS xA lA h tA dA eA r_5.2.1 le r_5.2.2.1 r_5.2.2.2.1 r_5.2.2.2.2.1 r_5.2.2.2.2.2) H := hP
            have hD : va_D A (wTH cI cC cZ cS xA lA h tA dA eA r_5.2.1 le r_5.2.2.1 r_5.2.2.2.1 r_5.2.2.2.2.1 r_5.2.2.2.2.2) := hD
            exact ih21 (i + 1) r_5.2.1 r_5.2.2.1 r_5.2.2.2.1 r_5.2.2.2.2.1 r_5.2.2.2.2.2 (by omega) (by omega) ht2 hh2 hres _ _ hP hD hS ls (lv_sub hl [1, 2, 0] rfl)
          · skip
            rw [if_pos c_6] at hres
            refine lv_goto (tgt := 62) hx hb dX4_readInto_53 (by decide) ?_
            refine lv_bipush (v := (-10)) hx hb dX4_readInto_62 (by decide) ?_
            refine lv_aload_n hx hb dX4_readInto_64 rfl (lv_at hl 0 rfl) ?_
            refine va_get (D := D) (ci := 4) (v := .int (r_5.2.1 2)) (C := RX4) (T := TX4) (N := 5) hx hb hts hinX4 hown hK hP 0 rfl rfl 2 (by decide) (hts (.fieldLink RX4 24 "FirstOut$Text" "at" "I") (by decide +kernel)) (fun _ h9 => h9) rfl dX4_readInto_65 ?_
            refine lv_isub hx hb dX4_readInto_68 ?_
            rw [hres]
            exact W.iret (v := (-10 : Int32) - (r_5.2.1 2)) hx hb hr (fun t ht hW => ⟨rfl, by rw [ht]; exact hP, by rw [hA]; exact hS.F ht⟩) hS.2.2 dX4_readInto_69
        · skip
          rw [if_neg c_4] at hres
          refine lv_iload_n hx hb dX4_readInto_43 rfl (lv_at hl 2 rfl) ?_
          rw [hres]
          exact W.iret (v := nI i) hx hb hr (fun t ht hW => ⟨rfl, by rw [ht]; exact hP, by rw [hA]; exact hS.F ht⟩) hS.2.2 dX4_readInto_44
  have hP : va_P D vwCl (wTH cI cC cZ cS xA lA h tA dA eA (upd (upd (upd tf 2 0) 3 0) 4 0) le r_1 tr de ea) _ := hP
  have hD : va_D A (wTH cI cC cZ cS xA lA h tA dA eA (upd (upd (upd tf 2 0) 3 0) 4 0) le r_1 tr de ea) := hD
  exact loop21 201 0 (upd (upd (upd tf 2 0) 3 0) 4 0) r_1 tr de ea (by omega) (Nat.zero_le _) ht0 hh0 hres _ _ hP hD hS ls (lv_sub hl [1, 2, 0] rfl)
