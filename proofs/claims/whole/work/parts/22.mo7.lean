def WR (mn : Nat → Int32) : Prop := (mn 1 = nI (mn 1).toNatClampNeg ∧ (mn 1).toNatClampNeg ≤ 10) ∧ (mn 2 = nI (mn 2).toNatClampNeg ∧ (mn 2).toNatClampNeg ≤ 10) ∧ (mn 3 = nI (mn 3).toNatClampNeg ∧ (mn 3).toNatClampNeg ≤ 999)
theorem sw_lb {mn : Nat → Int32} (h : WR mn) {x y : Int32} {E U : Nat} (hx : x = nI E) (hE : E ≤ 63) (hy : y = nI U) (hU : U ≤ 6237) : -2147483648 < (((mn 2 * mn 3) * x) - ((mn 1 + mn 2) * y)).toInt := by
  obtain ⟨⟨a1, a2⟩, ⟨b1, b2⟩, ⟨c1, c2⟩⟩ := h
  rw [a1, b1, c1, hx, hy, pk_mul, pk_mul, nI_add, pk_mul]
  generalize (mn 1).toNatClampNeg = A at *
  generalize (mn 2).toNatClampNeg = B at *
  generalize (mn 3).toNatClampNeg = C at *
  have h1 : B * C * E ≤ 10 * 999 * 63 := Nat.mul_le_mul (Nat.mul_le_mul b2 c2) hE
  have h2 : (A + B) * U ≤ 20 * 6237 := Nat.mul_le_mul (by omega) hU
  rw [pk_sub_toInt (by omega) (by omega)]
  omega
theorem ten_eq {x : Int32} {E : Nat} (h : x = nI E) : (10 : Int32) * x = nI (10 * E) := by rw [h, show (10 : Int32) = nI 10 from rfl, pk_mul]
theorem eS_pos {ea : Nat → Int32} {set : Int32} {n j : Nat} (hj : j < n) (hb : btI set j = 1) (hp : 0 < (ea j).toNatClampNeg) : 0 < eS ea set n := by
  have h := eS_mono ea set (i := j + 1) (n := n) hj
  rw [eS, if_pos hb] at h
  omega
theorem comers_ea {tr ea g : Nat → Int32} {n j : Nat} (h7 : n ≤ 7) (hj : j < n) (hE : EA ea n) (hb : btI (d_X6_comers tr ea g n) j = 1) : 0 < (ea j).toNatClampNeg := by
  rw [btI_iff (by omega), X6_comers_eq h7, b_and, b_and, b_and, eag, b_orS _ (by omega) (by omega)] at hb
  simp only [Bool.and_eq_true, decide_eq_true_eq] at hb
  have h1 := hb.1.1.1.2
  rw [(hE j hj).1, show (0 : Int32) = nI 0 from rfl, nI_leI (by have := (hE j hj).2; omega) (by omega)] at h1
  omega
theorem odds_pos {tr ea g : Nat → Int32} {n : Nat} {t : Int32} (h7 : n ≤ 7) (hE : EA ea n) (ht : t = nI t.toNatClampNeg ∧ t.toNatClampNeg < n) (c : (d_X6_comers tr ea g n >>> (t &&& 31)) &&& 1 = 1) : 0 < eS ea (d_X6_comers tr ea g n) n := by
  rw [ht.1] at c
  exact eS_pos ht.2 c (comers_ea h7 ht.2 hE c)
theorem small7 {x : Int32} (h : ∀ j, 7 ≤ j → j < 32 → bt x j = false) : x = nI x.toNatClampNeg ∧ x.toNatClampNeg < 128 := by
  have e : x = x &&& 127 := by
    apply b_ext
    intro i hi
    rw [b_and]
    rcases Nat.lt_or_ge i 7 with q | q
    · have : bt 127 i = true := (by decide +kernel : ∀ i, i < 7 → bt 127 i = true) i q
      rw [this, Bool.and_true]
    · rw [h i q hi, Bool.false_and]
  obtain ⟨j, hj, e2⟩ := pk_andE x (m := 127) 7 rfl
  rw [e2] at e
  rw [cl_nI e (by omega)]
  exact ⟨e, by omega⟩
theorem comers_small {tr ea g : Nat → Int32} {n : Nat} (h7 : n ≤ 7) : d_X6_comers tr ea g n = nI (d_X6_comers tr ea g n).toNatClampNeg ∧ (d_X6_comers tr ea g n).toNatClampNeg < 128 := by
  refine small7 (fun j h1 h2 => ?_)
  rw [X6_comers_eq h7, b_and, b_and, b_and, eag, b_orS _ h2 (by omega), decide_eq_false (by omega)]
  simp
theorem everything_eq {n : Nat} (h7 : n ≤ 7) : d_X6_everything n = nI (2 ^ n - 1) := by
  rw [d_X6_everything, sh_n h7, show (1 : Int32) = nI 1 from rfl, pk_sub Nat.one_le_two_pow]
def NN (x : Int32) (b : Nat) : Prop := x = nI x.toNatClampNeg ∧ x.toNatClampNeg ≤ b
theorem NN.of {x : Int32} {j b : Nat} (h : x = nI j) (hj : j ≤ b) (hb : b < 2 ^ 31) : NN x b := by
  rw [NN, cl_nI h (by omega)]; exact ⟨h, hj⟩

def d_X6_swear (F : Nat → Nat → Int32) (what : Int32) (n : Nat) : Int32 × (Nat → Nat → Int32) :=
  if (d_X6_in what 0 1) = 0 then
      ((-1000000), (va_up F 0 (upd (F 0) 0 0)))
    else
      (d_X6_part ((((F 2 2) * (F 2 3)) * ((d_X6_harms (upd (F 0) 0 0) (F 3) (F 4) (F 5) (F 6) n) 24)) - (((F 2 1) + (F 2 2)) * ((d_X6_harms (upd (F 0) 0 0) (F 3) (F 4) (F 5) (F 6) n) 25))) ((10 : Int32) * ((d_X6_harms (upd (F 0) 0 0) (F 3) (F 4) (F 5) (F 6) n) 24)) what (((((F 2 2) * (F 2 3)) * ((d_X6_harms (upd (F 0) 0 0) (F 3) (F 4) (F 5) (F 6) n) 24)) - (((F 2 1) + (F 2 2)) * ((d_X6_harms (upd (F 0) 0 0) (F 3) (F 4) (F 5) (F 6) n) 25))).toInt.natAbs) (((10 : Int32) * ((d_X6_harms (upd (F 0) 0 0) (F 3) (F 4) (F 5) (F 6) n) 24)).toNatClampNeg), (va_up F 0 (d_X6_harms (upd (F 0) 0 0) (F 3) (F 4) (F 5) (F 6) n)))
set_option maxHeartbeats 4000000 in
set_option maxRecDepth 100000 in
theorem c_X6_swear (l : Launch) (D : va_G) (cI cC cZ cS : ClassId) (a : Nat → Nat) (F : Nat → Nat → Int32) (tc : Int64) (what : Int32) (n : Nat) (hn : F 2 0 = nI n) (h7 : n ≤ 7) (hea : EA (F 5) n) (hde : DE (F 4) n) (hwr : WR (F 2)) : Met l yX6_swear wsX6_swear { frames := 4, cells := 0, slots := 0, locals := 89 } (PcE D cI cC cZ cS [.ref (a 0), .int what] (wM cI cC cZ cS a F tc)) (QcM (some (.int ((d_X6_swear F what n).1))) D (wM cI cC cZ cS a F tc) (wM cI cC cZ cS a ((d_X6_swear F what n).2) tc)) 0 0 (inW (wM cI cC cZ cS a F tc)) := by
  refine Met.ofW (cc := cX6_swear) (maxL := 3) (ret := (some .int)) (by decide) rfl ?_
  intro p e s m args below meth c s₁ B hml hv
  obtain ⟨rfl, hP, hD, hE⟩ := hv
  have hK := hE.1
  have hx := B.exec
  have hb := B.bytes
  have hr := B.returns
  have hts := atoms_spec (ws := wsX6_swear) B.pre
  have hown : s.vm.findClass RX6 = some m.cls := findClass_of_methodNamed B.named
  have hlocks := B.notSynchronized
  have hinX6 : ∀ w ∈ wsX60, w ∈ wsX6_swear := by decide +kernel
  have hD := inW_self hD
  have hS : va_S (inW (wM cI cC cZ cS a F tc)) s.heap s.heap [] := va_S.rf
  generalize hA : inW (wM cI cC cZ cS a F tc) = A at hD hS ⊢
  refine opq (d_X6_swear F what n) (fun R hres => ?_)
  rw [hres]
  replace hres := hres.symm
  rw [d_X6_swear] at hres
  have hl := lv_entry ([.ref (a 0), .int what]) (n := 3) (Nat.le_of_ble_eq_true rfl)
  rw [lg_entry_eq]
  generalize (lg_sl ([.ref (a 0), .int what]) ++ List.replicate (3 - (lg_sl ([.ref (a 0), .int what])).length) Slot.unset).toArray = ls at hl ⊢
  have hl : lv_has ls 3 [(0, .ref (a 0)), (1, .int what)] := hl
  refine lv_aload_n hx hb dX6_swear_0 rfl (lv_at hl 0 rfl) ?_
  refine lv_iconst (v := 0) hx hb dX6_swear_1 (by decide) ?_
  refine va_put (D := D) (ci := 6) (v := .int 0) (ty := .int) (C := RX6) (T := TX6) (N := 26) hx hb hts hinX6 tyX6 tyX6_ok nmX6 hown hK hP hD hS 0 rfl rfl 0 (by decide) (hts (.fieldLink RX6 53 "FirstOutModel" "thrown" "I") (by decide +kernel)) (fun _ h9 => h9) rfl (by decide +kernel) rfl rfl (Nat.le_of_ble_eq_true rfl) dX6_swear_2 (fun H locs hP hD hS => ?_)
  have hP : va_P D vwCl (wM cI cC cZ cS a (va_up F 0 (upd (F 0) 0 0)) tc) H := hP
  have hD : va_D A (wM cI cC cZ cS a (va_up F 0 (upd (F 0) 0 0)) tc) := hD
  refine lv_iload_n hx hb dX6_swear_5 rfl (lv_at hl 1 rfl) ?_
  refine lv_iconst (v := 0) hx hb dX6_swear_6 (by decide) ?_
  refine lv_iconst (v := 1) hx hb dX6_swear_7 (by decide) ?_
  have hPc := hP.sub (ws' := []) [] rfl
  have hDc := hD.sub (ws' := []) [] (by decide) rfl
  refine m_callR (W.runS (As := [.int what, .int 0, .int 1]) (rest := []) ⟨hx, hb, hml, hown, hts⟩ (c_X6_in l D cI cC cZ cS what 0 1) (va_cwS 3 hts gX6_swear_X6_in rfl rfl rfl (by decide +kernel) ⟨Nat.le_of_ble_eq_true rfl, Nat.le_of_ble_eq_true rfl⟩) (preS_of hPc hDc hE) rfl rfl hl.1 rfl (lv_room (Nat.le_of_ble_eq_true rfl)) dX6_swear_8 ⟨Nat.zero_le _, Nat.zero_le _⟩) ?_
  refine W.eq (g2 := F0 m 11 ls [.int (d_X6_in what 0 1)]) rfl ?_
  refine lv_if_ne (tgt := 17) hx hb dX6_swear_11 (by decide) (fun c_1 => ?_) (fun c_1 => ?_)
  · skip
    rw [if_neg c_1] at hres
    refine lv_aload_n hx hb dX6_swear_17 rfl (lv_at hl 0 rfl) ?_
    refine lv_aload_n hx hb dX6_swear_18 rfl (lv_at hl 0 rfl) ?_
    refine va_get (D := D) (ci := 6) (v := .ref (a 6)) (C := RX6) (T := TX6) (N := 26) hx hb hts hinX6 hown hK hP 0 rfl rfl 15 (by decide) (hts (.fieldLink RX6 25 "FirstOutModel" "s" "[I") (by decide +kernel)) (fun _ h9 => h9) rfl dX6_swear_19 ?_
    have hPc := hP.sub (ws' := (w5r cI cC cZ cS a (upd (F 0) 0 0) (F 2) (F 3) (F 4) (F 5) (a 6) (F 6) tc)) [0, 2, 3, 4, 5, 6] rfl
    have hDc := hD.sub (ws' := (w5r cI cC cZ cS a (upd (F 0) 0 0) (F 2) (F 3) (F 4) (F 5) (a 6) (F 6) tc)) [0, 2, 3, 4, 5, 6] (by decide) rfl
    refine m_callM (W.runV (As := [.ref (a 6)]) (rest := []) ⟨hx, hb, hml, hown, hts⟩ (c_X6_harms l D cI cC cZ cS a (upd (F 0) 0 0) (F 2) (F 3) (F 4) (F 5) (a 6) (F 6) tc n hn h7) (cwV 1 hts gX6_swear_X6_harms rfl rfl rfl (by decide +kernel) ⟨Nat.le_of_ble_eq_true rfl, Nat.le_of_ble_eq_true rfl⟩) (preV_of hPc hDc hE (va_recv hK hPc (ci := 6) (q0 := 0) rfl rfl)) rfl rfl hl.1 rfl (lv_room (Nat.le_of_ble_eq_true rfl)) dX6_swear_22 ⟨Nat.zero_le _, Nat.zero_le _⟩) hP hD hS [0, 2, 3, 4, 5, 6] rfl w5r_ad (fun H locs hP hD hS => ?_)
    have hP : va_P D vwCl (wM cI cC cZ cS a (va_up F 0 (d_X6_harms (upd (F 0) 0 0) (F 3) (F 4) (F 5) (F 6) n)) tc) H := hP
    have hD : va_D A (wM cI cC cZ cS a (va_up F 0 (d_X6_harms (upd (F 0) 0 0) (F 3) (F 4) (F 5) (F 6) n)) tc) := hD
    refine W.eq (g2 := F0 m 25 ls []) rfl ?_
    have hh : _ := (harms_ok hde hea h7 : (d_X6_harms (upd (F 0) 0 0) (F 3) (F 4) (F 5) (F 6) n) 25 = _ ∧ _)
    refine opq (d_X6_harms (upd (F 0) 0 0) (F 3) (F 4) (F 5) (F 6) n) (fun r_2 hr_2 => ?_)
    try rw [hr_2] at hP
    try rw [hr_2] at hD
    try rw [hr_2] at hres
    try rw [hr_2] at hh
    try rw [hr_2]
    refine lv_aload_n hx hb dX6_swear_25 rfl (lv_at hl 0 rfl) ?_
    refine va_get (D := D) (ci := 6) (v := .ref (a 2)) (C := RX6) (T := TX6) (N := 26) hx hb hts hinX6 hown hK hP 0 rfl rfl 9 (by decide) (hts (.fieldLink RX6 13 "FirstOutModel" "many" "[I") (by decide +kernel)) (fun _ h9 => h9) rfl dX6_swear_26 ?_
    refine lv_iconst (v := 2) hx hb dX6_swear_29 (by decide) ?_
    refine m_iald hx hb hK hP 2 0 rfl rfl 2 rfl (by decide) (by decide) dX6_swear_30 ?_
    refine lv_to (show _ = (F 2 2) from rfl) ?_
    refine lv_aload_n hx hb dX6_swear_31 rfl (lv_at hl 0 rfl) ?_
    refine va_get (D := D) (ci := 6) (v := .ref (a 2)) (C := RX6) (T := TX6) (N := 26) hx hb hts hinX6 hown hK hP 0 rfl rfl 9 (by decide) (hts (.fieldLink RX6 13 "FirstOutModel" "many" "[I") (by decide +kernel)) (fun _ h9 => h9) rfl dX6_swear_32 ?_
    refine lv_iconst (v := 3) hx hb dX6_swear_35 (by decide) ?_
    refine m_iald hx hb hK hP 2 0 rfl rfl 3 rfl (by decide) (by decide) dX6_swear_36 ?_
    refine lv_to (show _ = (F 2 3) from rfl) ?_
    refine lv_imul hx hb dX6_swear_37 ?_
    refine lv_aload_n hx hb dX6_swear_38 rfl (lv_at hl 0 rfl) ?_
    refine va_get (D := D) (ci := 6) (v := .int (r_2 24)) (C := RX6) (T := TX6) (N := 26) hx hb hts hinX6 hown hK hP 0 rfl rfl 24 (by decide) (hts (.fieldLink RX6 135 "FirstOutModel" "eagerAll" "I") (by decide +kernel)) (fun _ h9 => h9) rfl dX6_swear_39 ?_
    refine lv_imul hx hb dX6_swear_42 ?_
    refine lv_aload_n hx hb dX6_swear_43 rfl (lv_at hl 0 rfl) ?_
    refine va_get (D := D) (ci := 6) (v := .ref (a 2)) (C := RX6) (T := TX6) (N := 26) hx hb hts hinX6 hown hK hP 0 rfl rfl 9 (by decide) (hts (.fieldLink RX6 13 "FirstOutModel" "many" "[I") (by decide +kernel)) (fun _ h9 => h9) rfl dX6_swear_44 ?_
    refine lv_iconst (v := 1) hx hb dX6_swear_47 (by decide) ?_
    refine m_iald hx hb hK hP 2 0 rfl rfl 1 rfl (by decide) (by decide) dX6_swear_48 ?_
    refine lv_to (show _ = (F 2 1) from rfl) ?_
    refine lv_aload_n hx hb dX6_swear_49 rfl (lv_at hl 0 rfl) ?_
    refine va_get (D := D) (ci := 6) (v := .ref (a 2)) (C := RX6) (T := TX6) (N := 26) hx hb hts hinX6 hown hK hP 0 rfl rfl 9 (by decide) (hts (.fieldLink RX6 13 "FirstOutModel" "many" "[I") (by decide +kernel)) (fun _ h9 => h9) rfl dX6_swear_50 ?_
    refine lv_iconst (v := 2) hx hb dX6_swear_53 (by decide) ?_
    refine m_iald hx hb hK hP 2 0 rfl rfl 2 rfl (by decide) (by decide) dX6_swear_54 ?_
    refine lv_to (show _ = (F 2 2) from rfl) ?_
    refine lv_iadd hx hb dX6_swear_55 ?_
    refine lv_aload_n hx hb dX6_swear_56 rfl (lv_at hl 0 rfl) ?_
    refine va_get (D := D) (ci := 6) (v := .int (r_2 25)) (C := RX6) (T := TX6) (N := 26) hx hb hts hinX6 hown hK hP 0 rfl rfl 25 (by decide) (hts (.fieldLink RX6 129 "FirstOutModel" "harmAll" "I") (by decide +kernel)) (fun _ h9 => h9) rfl dX6_swear_57 ?_
    refine lv_imul hx hb dX6_swear_60 ?_
    refine lv_isub hx hb dX6_swear_61 ?_
    refine lv_istore_n (lv' := [(2, .int ((((F 2 2) * (F 2 3)) * (r_2 24)) - (((F 2 1) + (F 2 2)) * (r_2 25)))), (0, .ref (a 0)), (1, .int what)]) hx hb dX6_swear_62 rfl hl (by decide) rfl (fun ls hl => ?_)
    refine lv_iload_n hx hb dX6_swear_63 rfl (lv_at hl 0 rfl) ?_
    refine lv_bipush (v := 10) hx hb dX6_swear_64 (by decide) ?_
    refine lv_aload_n hx hb dX6_swear_66 rfl (lv_at hl 1 rfl) ?_
    refine va_get (D := D) (ci := 6) (v := .int (r_2 24)) (C := RX6) (T := TX6) (N := 26) hx hb hts hinX6 hown hK hP 0 rfl rfl 24 (by decide) (hts (.fieldLink RX6 135 "FirstOutModel" "eagerAll" "I") (by decide +kernel)) (fun _ h9 => h9) rfl dX6_swear_67 ?_
    refine lv_imul hx hb dX6_swear_70 ?_
    refine lv_iload_n hx hb dX6_swear_71 rfl (lv_at hl 2 rfl) ?_
    have hPc := hP.sub (ws' := []) [] rfl
    have hDc := hD.sub (ws' := []) [] (by decide) rfl
    refine m_callR (W.runS (As := [.int ((((F 2 2) * (F 2 3)) * (r_2 24)) - (((F 2 1) + (F 2 2)) * (r_2 25))), .int ((10 : Int32) * (r_2 24)), .int what]) (rest := []) ⟨hx, hb, hml, hown, hts⟩ (c_X6_part l D cI cC cZ cS ((((F 2 2) * (F 2 3)) * (r_2 24)) - (((F 2 1) + (F 2 2)) * (r_2 25))) ((10 : Int32) * (r_2 24)) what (((((F 2 2) * (F 2 3)) * (r_2 24)) - (((F 2 1) + (F 2 2)) * (r_2 25))).toInt.natAbs) (((10 : Int32) * (r_2 24)).toNatClampNeg) ((part_a (sw_lb hwr hh.2.2.1 hh.2.2.2.2 hh.1 hh.2.1)).1) ((part_a (sw_lb hwr hh.2.2.1 hh.2.2.2.2 hh.1 hh.2.1)).2) ((part_b (ten_eq hh.2.2.1) (by have := hh.2.2.2.2; omega)).1) (by rw [(part_b (ten_eq hh.2.2.1) (by have := hh.2.2.2.2; omega)).2]; exact (by have := hh.2.2.2.2; omega)) (gcd_ne (part_a (sw_lb hwr hh.2.2.1 hh.2.2.2.2 hh.1 hh.2.1)).2 (by rw [(part_b (ten_eq hh.2.2.1) (by have := hh.2.2.2.2; omega)).2]; exact (by have := hh.2.2.2.2; omega)) (by rw [(part_b (ten_eq hh.2.2.1) (by have := hh.2.2.2.2; omega)).2]; exact (by have := hh.2.2.2.1; omega)))) (va_cwS 3 hts gX6_swear_X6_part rfl rfl rfl (by decide +kernel) ⟨Nat.le_of_ble_eq_true rfl, Nat.le_of_ble_eq_true rfl⟩) (preS_of hPc hDc hE) rfl rfl hl.1 rfl (lv_room (Nat.le_of_ble_eq_true rfl)) dX6_swear_72 ⟨Nat.zero_le _, Nat.zero_le _⟩) ?_
    refine W.eq (g2 := F0 m 75 ls [.int (d_X6_part ((((F 2 2) * (F 2 3)) * (r_2 24)) - (((F 2 1) + (F 2 2)) * (r_2 25))) ((10 : Int32) * (r_2 24)) what (((((F 2 2) * (F 2 3)) * (r_2 24)) - (((F 2 1) + (F 2 2)) * (r_2 25))).toInt.natAbs) (((10 : Int32) * (r_2 24)).toNatClampNeg))]) rfl ?_
    rw [hres]
    exact W.iret (v := d_X6_part ((((F 2 2) * (F 2 3)) * (r_2 24)) - (((F 2 1) + (F 2 2)) * (r_2 25))) ((10 : Int32) * (r_2 24)) what (((((F 2 2) * (F 2 3)) * (r_2 24)) - (((F 2 1) + (F 2 2)) * (r_2 25))).toInt.natAbs) (((10 : Int32) * (r_2 24)).toNatClampNeg)) hx hb hr (fun t ht hW => ⟨rfl, by rw [ht]; exact hP, by rw [hA]; exact hS.F ht⟩) hS.2.2 dX6_swear_75
  · skip
    rw [if_pos c_1] at hres
    refine lv_ldc hx hb hown (hts (.constant RX6 177 (-1000000)) (by decide +kernel)) dX6_swear_14 ?_
    rw [hres]
    exact W.iret (v := (-1000000)) hx hb hr (fun t ht hW => ⟨rfl, by rw [ht]; exact hP, by rw [hA]; exact hS.F ht⟩) hS.2.2 dX6_swear_16
def d_X6_odds (F : Nat → Nat → Int32) (t : Int32) (what : Int32) (n : Nat) : Int32 × (Nat → Nat → Int32) :=
  if (d_X6_isThing t n) = 0 then
      ((-1), (va_up F 0 (upd (F 0) 0 0)))
    else
      if (d_X6_in what 0 1) = 0 then
        ((-1), (va_up F 0 (upd (F 0) 0 0)))
      else
        if (((d_X6_comers (F 3) (F 5) (F 6) n) >>> (t &&& 31)) &&& (1 : Int32)) = (1 : Int32) then
          (d_X6_part (F 5 t.toNatClampNeg) (d_X6_eagerOf (F 5) (d_X6_comers (F 3) (F 5) (F 6) n) n) what (((F 5 t.toNatClampNeg)).toInt.natAbs) ((d_X6_eagerOf (F 5) (d_X6_comers (F 3) (F 5) (F 6) n) n).toNatClampNeg), (va_up F 0 (upd (F 0) 0 0)))
        else
          (what, (va_up F 0 (upd (F 0) 0 0)))
set_option maxHeartbeats 4000000 in
set_option maxRecDepth 100000 in
theorem c_X6_odds (l : Launch) (D : va_G) (cI cC cZ cS : ClassId) (a : Nat → Nat) (F : Nat → Nat → Int32) (tc : Int64) (t : Int32) (what : Int32) (n : Nat) (hn : F 2 0 = nI n) (h7 : n ≤ 7) (hea : EA (F 5) n) : Met l yX6_odds wsX6_odds { frames := 3, cells := 0, slots := 0, locals := 68 } (PcE D cI cC cZ cS [.ref (a 0), .int t, .int what] (wM cI cC cZ cS a F tc)) (QcM (some (.int ((d_X6_odds F t what n).1))) D (wM cI cC cZ cS a F tc) (wM cI cC cZ cS a ((d_X6_odds F t what n).2) tc)) 0 0 (inW (wM cI cC cZ cS a F tc)) := by
  refine Met.ofW (cc := cX6_odds) (maxL := 4) (ret := (some .int)) (by decide) rfl ?_
  intro p e s m args below meth c s₁ B hml hv
  obtain ⟨rfl, hP, hD, hE⟩ := hv
  have hK := hE.1
  have hx := B.exec
  have hb := B.bytes
  have hr := B.returns
  have hts := atoms_spec (ws := wsX6_odds) B.pre
  have hown : s.vm.findClass RX6 = some m.cls := findClass_of_methodNamed B.named
  have hlocks := B.notSynchronized
  have hinX6 : ∀ w ∈ wsX60, w ∈ wsX6_odds := by decide +kernel
  have hD := inW_self hD
  have hS : va_S (inW (wM cI cC cZ cS a F tc)) s.heap s.heap [] := va_S.rf
  generalize hA : inW (wM cI cC cZ cS a F tc) = A at hD hS ⊢
  refine opq (d_X6_odds F t what n) (fun R hres => ?_)
  rw [hres]
  replace hres := hres.symm
  rw [d_X6_odds] at hres
  have hl := lv_entry ([.ref (a 0), .int t, .int what]) (n := 4) (Nat.le_of_ble_eq_true rfl)
  rw [lg_entry_eq]
  generalize (lg_sl ([.ref (a 0), .int t, .int what]) ++ List.replicate (4 - (lg_sl ([.ref (a 0), .int t, .int what])).length) Slot.unset).toArray = ls at hl ⊢
  have hl : lv_has ls 4 [(0, .ref (a 0)), (1, .int t), (2, .int what)] := hl
  refine lv_aload_n hx hb dX6_odds_0 rfl (lv_at hl 0 rfl) ?_
  refine lv_iconst (v := 0) hx hb dX6_odds_1 (by decide) ?_
  refine va_put (D := D) (ci := 6) (v := .int 0) (ty := .int) (C := RX6) (T := TX6) (N := 26) hx hb hts hinX6 tyX6 tyX6_ok nmX6 hown hK hP hD hS 0 rfl rfl 0 (by decide) (hts (.fieldLink RX6 53 "FirstOutModel" "thrown" "I") (by decide +kernel)) (fun _ h9 => h9) rfl (by decide +kernel) rfl rfl (Nat.le_of_ble_eq_true rfl) dX6_odds_2 (fun H locs hP hD hS => ?_)
  have hP : va_P D vwCl (wM cI cC cZ cS a (va_up F 0 (upd (F 0) 0 0)) tc) H := hP
  have hD : va_D A (wM cI cC cZ cS a (va_up F 0 (upd (F 0) 0 0)) tc) := hD
  refine lv_aload_n hx hb dX6_odds_5 rfl (lv_at hl 0 rfl) ?_
  refine lv_iload_n hx hb dX6_odds_6 rfl (lv_at hl 1 rfl) ?_
  have hPc := hP.sub (ws' := (w5 cI cC cZ cS a (upd (F 0) 0 0) (F 2) (F 3) (F 4) (F 5) tc)) [0, 2, 3, 4, 5] rfl
  have hDc := hD.sub (ws' := (w5 cI cC cZ cS a (upd (F 0) 0 0) (F 2) (F 3) (F 4) (F 5) tc)) [0, 2, 3, 4, 5] (by decide) rfl
  refine m_callR (W.runV (As := [.int t]) (rest := []) ⟨hx, hb, hml, hown, hts⟩ (c_X6_isThing l D cI cC cZ cS a (upd (F 0) 0 0) (F 2) (F 3) (F 4) (F 5) tc t n hn h7) (cwV 1 hts gX6_odds_X6_isThing rfl rfl rfl (by decide +kernel) ⟨Nat.le_of_ble_eq_true rfl, Nat.le_of_ble_eq_true rfl⟩) (preV_of hPc hDc hE (va_recv hK hPc (ci := 6) (q0 := 0) rfl rfl)) rfl rfl hl.1 rfl (lv_room (Nat.le_of_ble_eq_true rfl)) dX6_odds_7 ⟨Nat.zero_le _, Nat.zero_le _⟩) ?_
  refine W.eq (g2 := F0 m 10 ls [.int (d_X6_isThing t n)]) rfl ?_
  refine lv_if_eq (tgt := 22) hx hb dX6_odds_10 (by decide) (fun c_1 => ?_) (fun c_1 => ?_)
  · skip
    rw [if_pos c_1] at hres
    refine lv_iconst (v := (-1)) hx hb dX6_odds_22 (by decide) ?_
    rw [hres]
    exact W.iret (v := (-1)) hx hb hr (fun t ht hW => ⟨rfl, by rw [ht]; exact hP, by rw [hA]; exact hS.F ht⟩) hS.2.2 dX6_odds_23
  · skip
    rw [if_neg c_1] at hres
    have ti := isThing_ok (mn := F 2) c_1 h7
    refine lv_iload_n hx hb dX6_odds_13 rfl (lv_at hl 2 rfl) ?_
    refine lv_iconst (v := 0) hx hb dX6_odds_14 (by decide) ?_
    refine lv_iconst (v := 1) hx hb dX6_odds_15 (by decide) ?_
    have hPc := hP.sub (ws' := []) [] rfl
    have hDc := hD.sub (ws' := []) [] (by decide) rfl
    refine m_callR (W.runS (As := [.int what, .int 0, .int 1]) (rest := []) ⟨hx, hb, hml, hown, hts⟩ (c_X6_in l D cI cC cZ cS what 0 1) (va_cwS 3 hts gX6_odds_X6_in rfl rfl rfl (by decide +kernel) ⟨Nat.le_of_ble_eq_true rfl, Nat.le_of_ble_eq_true rfl⟩) (preS_of hPc hDc hE) rfl rfl hl.1 rfl (lv_room (Nat.le_of_ble_eq_true rfl)) dX6_odds_16 ⟨Nat.zero_le _, Nat.zero_le _⟩) ?_
    refine W.eq (g2 := F0 m 19 ls [.int (d_X6_in what 0 1)]) rfl ?_
    refine lv_if_ne (tgt := 24) hx hb dX6_odds_19 (by decide) (fun c_2 => ?_) (fun c_2 => ?_)
    · skip
      rw [if_neg c_2] at hres
      refine lv_aload_n hx hb dX6_odds_24 rfl (lv_at hl 0 rfl) ?_
      refine lv_aload_n hx hb dX6_odds_25 rfl (lv_at hl 0 rfl) ?_
      refine va_get (D := D) (ci := 6) (v := .ref (a 6)) (C := RX6) (T := TX6) (N := 26) hx hb hts hinX6 hown hK hP 0 rfl rfl 15 (by decide) (hts (.fieldLink RX6 25 "FirstOutModel" "s" "[I") (by decide +kernel)) (fun _ h9 => h9) rfl dX6_odds_26 ?_
      have hPc := hP.sub (ws' := (w5r cI cC cZ cS a (upd (F 0) 0 0) (F 2) (F 3) (F 4) (F 5) (a 6) (F 6) tc)) [0, 2, 3, 4, 5, 6] rfl
      have hDc := hD.sub (ws' := (w5r cI cC cZ cS a (upd (F 0) 0 0) (F 2) (F 3) (F 4) (F 5) (a 6) (F 6) tc)) [0, 2, 3, 4, 5, 6] (by decide) rfl
      refine m_callR (W.runV (As := [.ref (a 6)]) (rest := []) ⟨hx, hb, hml, hown, hts⟩ (c_X6_comers l D cI cC cZ cS a (upd (F 0) 0 0) (F 2) (F 3) (F 4) (F 5) (a 6) (F 6) tc n hn h7) (cwV 1 hts gX6_odds_X6_comers rfl rfl rfl (by decide +kernel) ⟨Nat.le_of_ble_eq_true rfl, Nat.le_of_ble_eq_true rfl⟩) (preV_of hPc hDc hE (va_recv hK hPc (ci := 6) (q0 := 0) rfl rfl)) rfl rfl hl.1 rfl (lv_room (Nat.le_of_ble_eq_true rfl)) dX6_odds_29 ⟨Nat.zero_le _, Nat.zero_le _⟩) ?_
      refine W.eq (g2 := F0 m 32 ls [.int (d_X6_comers (F 3) (F 5) (F 6) n)]) rfl ?_
      refine lv_iload_n hx hb dX6_odds_32 rfl (lv_at hl 1 rfl) ?_
      refine lv_ishr hx hb dX6_odds_33 ?_
      refine lv_iconst (v := 1) hx hb dX6_odds_34 (by decide) ?_
      refine lv_iand hx hb dX6_odds_35 ?_
      refine lv_iconst (v := 1) hx hb dX6_odds_36 (by decide) ?_
      refine lv_icmp_ne (tgt := 44) hx hb dX6_odds_37 (by decide) (fun c_3 => ?_) (fun c_3 => ?_)
      · skip
        rw [if_neg c_3] at hres
        refine lv_iconst (v := 0) hx hb dX6_odds_44 (by decide) ?_
        refine lv_istore_n (lv' := [(3, .int 0), (0, .ref (a 0)), (1, .int t), (2, .int what)]) hx hb dX6_odds_45 rfl hl (by decide) rfl (fun ls hl => ?_)
        refine lv_iload_n hx hb dX6_odds_46 rfl (lv_at hl 0 rfl) ?_
        refine lv_if_eq (tgt := 75) hx hb dX6_odds_47 (by decide) (fun c_4 => ?_) (fun c_4 => ?_)
        · skip
          refine lv_iload_n hx hb dX6_odds_75 rfl (lv_at hl 3 rfl) ?_
          rw [hres]
          exact W.iret (v := what) hx hb hr (fun t ht hW => ⟨rfl, by rw [ht]; exact hP, by rw [hA]; exact hS.F ht⟩) hS.2.2 dX6_odds_76
        · exact absurd c_4 (by decide)
      · skip
        rw [if_pos c_3] at hres
        have hpos := odds_pos h7 hea ti c_3
        refine lv_iconst (v := 1) hx hb dX6_odds_40 (by decide) ?_
        refine lv_goto (tgt := 45) hx hb dX6_odds_41 (by decide) ?_
        refine lv_istore_n (lv' := [(3, .int 1), (0, .ref (a 0)), (1, .int t), (2, .int what)]) hx hb dX6_odds_45 rfl hl (by decide) rfl (fun ls hl => ?_)
        refine lv_iload_n hx hb dX6_odds_46 rfl (lv_at hl 0 rfl) ?_
        refine lv_if_eq (tgt := 75) hx hb dX6_odds_47 (by decide) (fun c_5 => ?_) (fun c_5 => ?_)
        · exact absurd c_5 (by decide)
        · skip
          refine lv_aload_n hx hb dX6_odds_50 rfl (lv_at hl 1 rfl) ?_
          refine va_get (D := D) (ci := 6) (v := .ref (a 5)) (C := RX6) (T := TX6) (N := 26) hx hb hts hinX6 hown hK hP 0 rfl rfl 13 (by decide) (hts (.fieldLink RX6 22 "FirstOutModel" "eager" "[I") (by decide +kernel)) (fun _ h9 => h9) rfl dX6_odds_51 ?_
          refine lv_iload_n hx hb dX6_odds_54 rfl (lv_at hl 2 rfl) ?_
          refine m_iald hx hb hK hP 5 0 rfl rfl t.toNatClampNeg ti.1 (by have := ti.2; omega) (by decide) dX6_odds_55 ?_
          refine lv_to (show _ = (F 5 t.toNatClampNeg) from rfl) ?_
          refine lv_aload_n hx hb dX6_odds_56 rfl (lv_at hl 1 rfl) ?_
          refine lv_aload_n hx hb dX6_odds_57 rfl (lv_at hl 1 rfl) ?_
          refine lv_aload_n hx hb dX6_odds_58 rfl (lv_at hl 1 rfl) ?_
          refine va_get (D := D) (ci := 6) (v := .ref (a 6)) (C := RX6) (T := TX6) (N := 26) hx hb hts hinX6 hown hK hP 0 rfl rfl 15 (by decide) (hts (.fieldLink RX6 25 "FirstOutModel" "s" "[I") (by decide +kernel)) (fun _ h9 => h9) rfl dX6_odds_59 ?_
          have hPc := hP.sub (ws' := (w5r cI cC cZ cS a (upd (F 0) 0 0) (F 2) (F 3) (F 4) (F 5) (a 6) (F 6) tc)) [0, 2, 3, 4, 5, 6] rfl
          have hDc := hD.sub (ws' := (w5r cI cC cZ cS a (upd (F 0) 0 0) (F 2) (F 3) (F 4) (F 5) (a 6) (F 6) tc)) [0, 2, 3, 4, 5, 6] (by decide) rfl
          refine m_callR (W.runV (As := [.ref (a 6)]) (rest := [.ref (a 0), .int (F 5 t.toNatClampNeg)]) ⟨hx, hb, hml, hown, hts⟩ (c_X6_comers l D cI cC cZ cS a (upd (F 0) 0 0) (F 2) (F 3) (F 4) (F 5) (a 6) (F 6) tc n hn h7) (cwV 1 hts gX6_odds_X6_comers rfl rfl rfl (by decide +kernel) ⟨Nat.le_of_ble_eq_true rfl, Nat.le_of_ble_eq_true rfl⟩) (preV_of hPc hDc hE (va_recv hK hPc (ci := 6) (q0 := 0) rfl rfl)) rfl rfl hl.1 rfl (lv_room (Nat.le_of_ble_eq_true rfl)) dX6_odds_62 ⟨Nat.zero_le _, Nat.zero_le _⟩) ?_
          refine W.eq (g2 := F0 m 65 ls [.int (d_X6_comers (F 3) (F 5) (F 6) n), .ref (a 0), .int (F 5 t.toNatClampNeg)]) rfl ?_
          have hPc := hP.sub (ws' := (w5 cI cC cZ cS a (upd (F 0) 0 0) (F 2) (F 3) (F 4) (F 5) tc)) [0, 2, 3, 4, 5] rfl
          have hDc := hD.sub (ws' := (w5 cI cC cZ cS a (upd (F 0) 0 0) (F 2) (F 3) (F 4) (F 5) tc)) [0, 2, 3, 4, 5] (by decide) rfl
          refine m_callR (W.runV (As := [.int (d_X6_comers (F 3) (F 5) (F 6) n)]) (rest := [.int (F 5 t.toNatClampNeg)]) ⟨hx, hb, hml, hown, hts⟩ (c_X6_eagerOf l D cI cC cZ cS a (upd (F 0) 0 0) (F 2) (F 3) (F 4) (F 5) tc (d_X6_comers (F 3) (F 5) (F 6) n) n hn h7) (cwV 1 hts gX6_odds_X6_eagerOf rfl rfl rfl (by decide +kernel) ⟨Nat.le_of_ble_eq_true rfl, Nat.le_of_ble_eq_true rfl⟩) (preV_of hPc hDc hE (va_recv hK hPc (ci := 6) (q0 := 0) rfl rfl)) rfl rfl hl.1 rfl (lv_room (Nat.le_of_ble_eq_true rfl)) dX6_odds_65 ⟨Nat.zero_le _, Nat.zero_le _⟩) ?_
          refine W.eq (g2 := F0 m 68 ls [.int (d_X6_eagerOf (F 5) (d_X6_comers (F 3) (F 5) (F 6) n) n), .int (F 5 t.toNatClampNeg)]) rfl ?_
          refine lv_iload_n hx hb dX6_odds_68 rfl (lv_at hl 3 rfl) ?_
          have hPc := hP.sub (ws' := []) [] rfl
          have hDc := hD.sub (ws' := []) [] (by decide) rfl
          refine m_callR (W.runS (As := [.int (F 5 t.toNatClampNeg), .int (d_X6_eagerOf (F 5) (d_X6_comers (F 3) (F 5) (F 6) n) n), .int what]) (rest := []) ⟨hx, hb, hml, hown, hts⟩ (c_X6_part l D cI cC cZ cS (F 5 t.toNatClampNeg) (d_X6_eagerOf (F 5) (d_X6_comers (F 3) (F 5) (F 6) n) n) what (((F 5 t.toNatClampNeg)).toInt.natAbs) ((d_X6_eagerOf (F 5) (d_X6_comers (F 3) (F 5) (F 6) n) n).toNatClampNeg) ((part_a (part_n (hea _ ti.2).1 (by have := (hea _ ti.2).2; omega))).1) ((part_a (part_n (hea _ ti.2).1 (by have := (hea _ ti.2).2; omega))).2) ((part_b (eagerOf_eq hea h7 _) (by have := eS_le hea (d_X6_comers (F 3) (F 5) (F 6) n) (Nat.le_refl n); omega)).1) (by rw [(part_b (eagerOf_eq hea h7 _) (by have := eS_le hea (d_X6_comers (F 3) (F 5) (F 6) n) (Nat.le_refl n); omega)).2]; exact (by have := eS_le hea (d_X6_comers (F 3) (F 5) (F 6) n) (Nat.le_refl n); omega)) (gcd_ne (part_a (part_n (hea _ ti.2).1 (by have := (hea _ ti.2).2; omega))).2 (by rw [(part_b (eagerOf_eq hea h7 _) (by have := eS_le hea (d_X6_comers (F 3) (F 5) (F 6) n) (Nat.le_refl n); omega)).2]; exact (by have := eS_le hea (d_X6_comers (F 3) (F 5) (F 6) n) (Nat.le_refl n); omega)) (by rw [(part_b (eagerOf_eq hea h7 _) (by have := eS_le hea (d_X6_comers (F 3) (F 5) (F 6) n) (Nat.le_refl n); omega)).2]; exact hpos))) (va_cwS 3 hts gX6_odds_X6_part rfl rfl rfl (by decide +kernel) ⟨Nat.le_of_ble_eq_true rfl, Nat.le_of_ble_eq_true rfl⟩) (preS_of hPc hDc hE) rfl rfl hl.1 rfl (lv_room (Nat.le_of_ble_eq_true rfl)) dX6_odds_69 ⟨Nat.zero_le _, Nat.zero_le _⟩) ?_
          refine W.eq (g2 := F0 m 72 ls [.int (d_X6_part (F 5 t.toNatClampNeg) (d_X6_eagerOf (F 5) (d_X6_comers (F 3) (F 5) (F 6) n) n) what (((F 5 t.toNatClampNeg)).toInt.natAbs) ((d_X6_eagerOf (F 5) (d_X6_comers (F 3) (F 5) (F 6) n) n).toNatClampNeg))]) rfl ?_
          refine lv_goto (tgt := 76) hx hb dX6_odds_72 (by decide) ?_
          rw [hres]
          exact W.iret (v := d_X6_part (F 5 t.toNatClampNeg) (d_X6_eagerOf (F 5) (d_X6_comers (F 3) (F 5) (F 6) n) n) what (((F 5 t.toNatClampNeg)).toInt.natAbs) ((d_X6_eagerOf (F 5) (d_X6_comers (F 3) (F 5) (F 6) n) n).toNatClampNeg)) hx hb hr (fun t ht hW => ⟨rfl, by rw [ht]; exact hP, by rw [hA]; exact hS.F ht⟩) hS.2.2 dX6_odds_76
    · skip
      rw [if_pos c_2] at hres
      refine lv_iconst (v := (-1)) hx hb dX6_odds_22 (by decide) ?_
      rw [hres]
      exact W.iret (v := (-1)) hx hb hr (fun t ht hW => ⟨rfl, by rw [ht]; exact hP, by rw [hA]; exact hS.F ht⟩) hS.2.2 dX6_odds_23
def lp_X6_tell_14 (F : Nat → Nat → Int32) (n : Nat) : Nat → Nat → Int32 → (Nat → Int32) → (Nat → Int32) → Int32 × (Nat → Nat → Int32)
  | 0, _, _, _, _ => (0, F)
  | k14 + 1, i, its, wv, ff => if (nI (2 ^ n - 1)) < (nI i) then
      (its, (va_up (va_up F 0 ff) 7 wv))
    else
      if ((d_X6_harms ff (F 3) (F 4) (F 5) (upd wv 2 ((F 6 2) ||| (nI i))) n) 25) = 0 then
        if its = (-9 : Int32) then
          lp_X6_tell_14 F n k14 (i + 1) (nI i) (upd wv 2 ((F 6 2) ||| (nI i))) (d_X6_harms ff (F 3) (F 4) (F 5) (upd wv 2 ((F 6 2) ||| (nI i))) n)
        else
          if (d_X6_ones its) ≤ (d_X6_ones (nI i)) then
            lp_X6_tell_14 F n k14 (i + 1) its (upd wv 2 ((F 6 2) ||| (nI i))) (d_X6_harms ff (F 3) (F 4) (F 5) (upd wv 2 ((F 6 2) ||| (nI i))) n)
          else
            lp_X6_tell_14 F n k14 (i + 1) (nI i) (upd wv 2 ((F 6 2) ||| (nI i))) (d_X6_harms ff (F 3) (F 4) (F 5) (upd wv 2 ((F 6 2) ||| (nI i))) n)
      else
        lp_X6_tell_14 F n k14 (i + 1) its (upd wv 2 ((F 6 2) ||| (nI i))) (d_X6_harms ff (F 3) (F 4) (F 5) (upd wv 2 ((F 6 2) ||| (nI i))) n)
def d_X6_tell (F : Nat → Nat → Int32) (n : Nat) : Int32 × (Nat → Nat → Int32) :=
  lp_X6_tell_14 F n (2 ^ n + 1) 0 (-9) (d_X6_asNow (F 6) (F 7)) (upd (F 0) 0 0)
set_option maxHeartbeats 4000000 in
set_option maxRecDepth 100000 in
theorem c_X6_tell (l : Launch) (D : va_G) (cI cC cZ cS : ClassId) (a : Nat → Nat) (F : Nat → Nat → Int32) (tc : Int64) (n : Nat) (hn : F 2 0 = nI n) (h7 : n ≤ 7) (hea : EA (F 5) n) (hde : DE (F 4) n) : Met l yX6_tell wsX6_tell { frames := 4, cells := 0, slots := 0, locals := 89 } (PcE D cI cC cZ cS [.ref (a 0)] (wM cI cC cZ cS a F tc)) (QcM (some (.int ((d_X6_tell F n).1))) D (wM cI cC cZ cS a F tc) (wM cI cC cZ cS a ((d_X6_tell F n).2) tc)) 0 0 (inW (wM cI cC cZ cS a F tc)) := by
  refine Met.ofW (cc := cX6_tell) (maxL := 3) (ret := (some .int)) (by decide) rfl ?_
  intro p e s m args below meth c s₁ B hml hv
  obtain ⟨rfl, hP, hD, hE⟩ := hv
  have hK := hE.1
  have hx := B.exec
  have hb := B.bytes
  have hr := B.returns
  have hts := atoms_spec (ws := wsX6_tell) B.pre
  have hown : s.vm.findClass RX6 = some m.cls := findClass_of_methodNamed B.named
  have hlocks := B.notSynchronized
  have hinX6 : ∀ w ∈ wsX60, w ∈ wsX6_tell := by decide +kernel
  have hD := inW_self hD
  have hS : va_S (inW (wM cI cC cZ cS a F tc)) s.heap s.heap [] := va_S.rf
  generalize hA : inW (wM cI cC cZ cS a F tc) = A at hD hS ⊢
  refine opq (d_X6_tell F n) (fun R hres => ?_)
  rw [hres]
  replace hres := hres.symm
  rw [d_X6_tell] at hres
  have hl := lv_entry ([.ref (a 0)]) (n := 3) (Nat.le_of_ble_eq_true rfl)
  rw [lg_entry_eq]
  generalize (lg_sl ([.ref (a 0)]) ++ List.replicate (3 - (lg_sl ([.ref (a 0)])).length) Slot.unset).toArray = ls at hl ⊢
  have hl : lv_has ls 3 [(0, .ref (a 0))] := hl
  refine lv_aload_n hx hb dX6_tell_0 rfl (lv_at hl 0 rfl) ?_
  refine lv_iconst (v := 0) hx hb dX6_tell_1 (by decide) ?_
  refine va_put (D := D) (ci := 6) (v := .int 0) (ty := .int) (C := RX6) (T := TX6) (N := 26) hx hb hts hinX6 tyX6 tyX6_ok nmX6 hown hK hP hD hS 0 rfl rfl 0 (by decide) (hts (.fieldLink RX6 53 "FirstOutModel" "thrown" "I") (by decide +kernel)) (fun _ h9 => h9) rfl (by decide +kernel) rfl rfl (Nat.le_of_ble_eq_true rfl) dX6_tell_2 (fun H locs hP hD hS => ?_)
  have hP : va_P D vwCl (wM cI cC cZ cS a (va_up F 0 (upd (F 0) 0 0)) tc) H := hP
  have hD : va_D A (wM cI cC cZ cS a (va_up F 0 (upd (F 0) 0 0)) tc) := hD
  refine lv_aload_n hx hb dX6_tell_5 rfl (lv_at hl 0 rfl) ?_
  have hPc := hP.sub (ws' := (wMw cI cC cZ cS a (upd (F 0) 0 0) (F 6) (F 7) tc)) [0, 6, 7] rfl
  have hDc := hD.sub (ws' := (wMw cI cC cZ cS a (upd (F 0) 0 0) (F 6) (F 7) tc)) [0, 6, 7] (by decide) rfl
  refine m_callM (W.runV (As := []) (rest := []) ⟨hx, hb, hml, hown, hts⟩ (c_X6_asNow l D cI cC cZ cS a (upd (F 0) 0 0) (F 6) (F 7) tc) (cwV 0 hts gX6_tell_X6_asNow rfl rfl rfl (by decide +kernel) ⟨Nat.le_of_ble_eq_true rfl, Nat.le_of_ble_eq_true rfl⟩) (preV_of hPc hDc hE (va_recv hK hPc (ci := 6) (q0 := 0) rfl rfl)) rfl rfl hl.1 rfl (lv_room (Nat.le_of_ble_eq_true rfl)) dX6_tell_6 ⟨Nat.zero_le _, Nat.zero_le _⟩) hP hD hS [0, 6, 7] rfl wMw_ad (fun H locs hP hD hS => ?_)
  have hP : va_P D vwCl (wM cI cC cZ cS a (va_up (va_up F 0 (upd (F 0) 0 0)) 7 (d_X6_asNow (F 6) (F 7))) tc) H := hP
  have hD : va_D A (wM cI cC cZ cS a (va_up (va_up F 0 (upd (F 0) 0 0)) 7 (d_X6_asNow (F 6) (F 7))) tc) := hD
  refine W.eq (g2 := F0 m 9 ls []) rfl ?_
  refine opq (d_X6_asNow (F 6) (F 7)) (fun r_1 hr_1 => ?_)
  try rw [hr_1] at hP
  try rw [hr_1] at hD
  try rw [hr_1] at hres
  try rw [hr_1]
  refine lv_bipush (v := (-9)) hx hb dX6_tell_9 (by decide) ?_
  refine lv_istore_n (lv' := [(1, .int (-9)), (0, .ref (a 0))]) hx hb dX6_tell_11 rfl hl (by decide) rfl (fun ls hl => ?_)
  refine lv_iconst (v := 0) hx hb dX6_tell_12 (by decide) ?_
  refine lv_istore_n (lv' := [(2, .int 0), (1, .int (-9)), (0, .ref (a 0))]) hx hb dX6_tell_13 rfl hl (by decide) rfl (fun ls hl => ?_)
  have loop14 : ∀ (k14 : Nat) (i : Nat) (its : Int32) (wv : Nat → Int32) (ff : Nat → Int32), 2 ^ n - i < k14 → i ≤ 2 ^ n → R = lp_X6_tell_14 F n k14 i its wv ff → ∀ (H : Heap) (locs : List Loc), va_P D vwCl (wM cI cC cZ cS a (va_up (va_up F 0 ff) 7 wv) tc) H → va_D A (wM cI cC cZ cS a (va_up (va_up F 0 ff) 7 wv) tc) → va_S A s.heap H locs → ∀ ls : Array Slot, lv_has ls 3 [(0, .ref (a 0)), (1, .int its), (2, .int (nI i))] → W p l e (headSpec wsX6_tell { frames := 4, cells := 0, slots := 0, locals := 89 }).room s m (([.ref (a 0)] : List Value).toArray) below meth c H locs 0 0 (MQ below (QcM (some (.int R.1)) D (wM cI cC cZ cS a F tc) (wM cI cC cZ cS a R.2 tc)) (([.ref (a 0)] : List Value).toArray) s 0 0 A) (F0 m 14 ls []) := by
    intro k14
    induction k14 with
    | zero => intro i its wv ff hk; exact absurd hk (Nat.not_lt_zero _)
    | succ k14 ih14 =>
      intro i its wv ff hk14 hi hres H locs hP hD hS ls hl
      rw [lp_X6_tell_14] at hres
      refine lv_iload_n hx hb dX6_tell_14 rfl (lv_at hl 2 rfl) ?_
      refine lv_aload_n hx hb dX6_tell_15 rfl (lv_at hl 0 rfl) ?_
      have hPc := hP.sub (ws' := (w5 cI cC cZ cS a ff (F 2) (F 3) (F 4) (F 5) tc)) [0, 2, 3, 4, 5] rfl
      have hDc := hD.sub (ws' := (w5 cI cC cZ cS a ff (F 2) (F 3) (F 4) (F 5) tc)) [0, 2, 3, 4, 5] (by decide) rfl
      refine m_callR (W.runV (As := []) (rest := [.int (nI i)]) ⟨hx, hb, hml, hown, hts⟩ (c_X6_everything l D cI cC cZ cS a ff (F 2) (F 3) (F 4) (F 5) tc n hn h7) (cwV 0 hts gX6_tell_X6_everything rfl rfl rfl (by decide +kernel) ⟨Nat.le_of_ble_eq_true rfl, Nat.le_of_ble_eq_true rfl⟩) (preV_of hPc hDc hE (va_recv hK hPc (ci := 6) (q0 := 0) rfl rfl)) rfl rfl hl.1 rfl (lv_room (Nat.le_of_ble_eq_true rfl)) dX6_tell_16 ⟨Nat.zero_le _, Nat.zero_le _⟩) ?_
      refine W.eq (g2 := F0 m 19 ls [.int (d_X6_everything n), .int (nI i)]) rfl ?_
      refine lv_to (show (d_X6_everything n) = nI (2 ^ n - 1) from (everything_eq h7)) ?_
      refine lv_icmp_gt (tgt := 80) hx hb dX6_tell_19 (by decide) (fun c_2 => ?_) (fun c_2 => ?_)
      · skip
        rw [if_pos c_2] at hres
        refine lv_iload_n hx hb dX6_tell_80 rfl (lv_at hl 1 rfl) ?_
        rw [hres]
        exact W.iret (v := its) hx hb hr (fun t ht hW => ⟨rfl, by rw [ht]; exact hP, by rw [hA]; exact hS.F ht⟩) hS.2.2 dX6_tell_81
      · skip
        rw [if_neg c_2] at hres
        have hlt : i < 2 ^ n := by have h1 := lt31 h7 hi; have h2 := lt31 h7 (Nat.le_refl (2 ^ n)); have h3 := Nat.one_le_two_pow (n := n); have h4 := c_2; rw [nI_ltI (by omega) h1] at h4; omega
        refine lv_aload_n hx hb dX6_tell_22 rfl (lv_at hl 0 rfl) ?_
        refine va_get (D := D) (ci := 6) (v := .ref (a 7)) (C := RX6) (T := TX6) (N := 26) hx hb hts hinX6 hown hK hP 0 rfl rfl 16 (by decide) (hts (.fieldLink RX6 28 "FirstOutModel" "w" "[I") (by decide +kernel)) (fun _ h9 => h9) rfl dX6_tell_23 ?_
        refine lv_iconst (v := 2) hx hb dX6_tell_26 (by decide) ?_
        refine lv_aload_n hx hb dX6_tell_27 rfl (lv_at hl 0 rfl) ?_
        refine va_get (D := D) (ci := 6) (v := .ref (a 6)) (C := RX6) (T := TX6) (N := 26) hx hb hts hinX6 hown hK hP 0 rfl rfl 15 (by decide) (hts (.fieldLink RX6 25 "FirstOutModel" "s" "[I") (by decide +kernel)) (fun _ h9 => h9) rfl dX6_tell_28 ?_
        refine lv_iconst (v := 2) hx hb dX6_tell_31 (by decide) ?_
        refine m_iald hx hb hK hP 6 0 rfl rfl 2 rfl (by decide) (by decide) dX6_tell_32 ?_
        refine lv_to (show _ = (F 6 2) from rfl) ?_
        refine lv_iload_n hx hb dX6_tell_33 rfl (lv_at hl 2 rfl) ?_
        refine lv_ior hx hb dX6_tell_34 ?_
        refine m_iast hx hb hK hP hD hS 7 0 rfl rfl 2 rfl (by decide) (by decide) dX6_tell_35 (fun H locs hP hD hS => ?_)
        have hP : va_P D vwCl (wM cI cC cZ cS a (va_up (va_up F 0 ff) 7 (upd wv 2 ((F 6 2) ||| (nI i)))) tc) H := hP
        have hD : va_D A (wM cI cC cZ cS a (va_up (va_up F 0 ff) 7 (upd wv 2 ((F 6 2) ||| (nI i)))) tc) := hD
        refine lv_aload_n hx hb dX6_tell_36 rfl (lv_at hl 0 rfl) ?_
        refine lv_aload_n hx hb dX6_tell_37 rfl (lv_at hl 0 rfl) ?_
        refine va_get (D := D) (ci := 6) (v := .ref (a 7)) (C := RX6) (T := TX6) (N := 26) hx hb hts hinX6 hown hK hP 0 rfl rfl 16 (by decide) (hts (.fieldLink RX6 28 "FirstOutModel" "w" "[I") (by decide +kernel)) (fun _ h9 => h9) rfl dX6_tell_38 ?_
        have hPc := hP.sub (ws' := (w5r cI cC cZ cS a ff (F 2) (F 3) (F 4) (F 5) (a 7) (upd wv 2 ((F 6 2) ||| (nI i))) tc)) [0, 2, 3, 4, 5, 7] rfl
        have hDc := hD.sub (ws' := (w5r cI cC cZ cS a ff (F 2) (F 3) (F 4) (F 5) (a 7) (upd wv 2 ((F 6 2) ||| (nI i))) tc)) [0, 2, 3, 4, 5, 7] (by decide) rfl
        refine m_callM (W.runV (As := [.ref (a 7)]) (rest := []) ⟨hx, hb, hml, hown, hts⟩ (c_X6_harms l D cI cC cZ cS a ff (F 2) (F 3) (F 4) (F 5) (a 7) (upd wv 2 ((F 6 2) ||| (nI i))) tc n hn h7) (cwV 1 hts gX6_tell_X6_harms rfl rfl rfl (by decide +kernel) ⟨Nat.le_of_ble_eq_true rfl, Nat.le_of_ble_eq_true rfl⟩) (preV_of hPc hDc hE (va_recv hK hPc (ci := 6) (q0 := 0) rfl rfl)) rfl rfl hl.1 rfl (lv_room (Nat.le_of_ble_eq_true rfl)) dX6_tell_41 ⟨Nat.zero_le _, Nat.zero_le _⟩) hP hD hS [0, 2, 3, 4, 5, 7] rfl w5r_ad (fun H locs hP hD hS => ?_)
        have hP : va_P D vwCl (wM cI cC cZ cS a (va_up (va_up F 0 (d_X6_harms ff (F 3) (F 4) (F 5) (upd wv 2 ((F 6 2) ||| (nI i))) n)) 7 (upd wv 2 ((F 6 2) ||| (nI i)))) tc) H := hP
        have hD : va_D A (wM cI cC cZ cS a (va_up (va_up F 0 (d_X6_harms ff (F 3) (F 4) (F 5) (upd wv 2 ((F 6 2) ||| (nI i))) n)) 7 (upd wv 2 ((F 6 2) ||| (nI i)))) tc) := hD
        refine W.eq (g2 := F0 m 44 ls []) rfl ?_
        refine opq (d_X6_harms ff (F 3) (F 4) (F 5) (upd wv 2 ((F 6 2) ||| (nI i))) n) (fun r_3 hr_3 => ?_)
        try rw [hr_3] at hP
        try rw [hr_3] at hD
        try rw [hr_3] at hres
        try rw [hr_3]
        refine lv_aload_n hx hb dX6_tell_44 rfl (lv_at hl 0 rfl) ?_
        refine va_get (D := D) (ci := 6) (v := .int (r_3 25)) (C := RX6) (T := TX6) (N := 26) hx hb hts hinX6 hown hK hP 0 rfl rfl 25 (by decide) (hts (.fieldLink RX6 129 "FirstOutModel" "harmAll" "I") (by decide +kernel)) (fun _ h9 => h9) rfl dX6_tell_45 ?_
        refine lv_if_ne (tgt := 72) hx hb dX6_tell_48 (by decide) (fun c_4 => ?_) (fun c_4 => ?_)
        · skip
          rw [if_neg c_4] at hres
          refine lv_iload_n hx hb dX6_tell_72 rfl (lv_at hl 1 rfl) ?_
          refine lv_istore_n (lv' := [(1, .int its), (0, .ref (a 0)), (2, .int (nI i))]) hx hb dX6_tell_73 rfl hl (by decide) rfl (fun ls hl => ?_)
          refine lv_iinc (v := nI (i + 1)) (lv' := [(2, .int (nI (i + 1))), (1, .int its), (0, .ref (a 0))]) hx hb dX6_tell_74 hl (k := 2) rfl ((nI_add i 1)) (by decide) rfl (fun ls hl => ?_)
          refine lv_goto (tgt := 14) hx hb dX6_tell_77 (by decide) ?_
          have hP : va_P D vwCl (wM cI cC cZ cS a (va_up (va_up F 0 r_3) 7 (upd wv 2 ((F 6 2) ||| (nI i)))) tc) H := hP
          have hD : va_D A (wM cI cC cZ cS a (va_up (va_up F 0 r_3) 7 (upd wv 2 ((F 6 2) ||| (nI i)))) tc) := hD
          exact ih14 (i + 1) its (upd wv 2 ((F 6 2) ||| (nI i))) r_3 (by omega) hlt hres _ _ hP hD hS ls (lv_sub hl [2, 1, 0] rfl)
        · skip
          rw [if_pos c_4] at hres
          refine lv_iload_n hx hb dX6_tell_51 rfl (lv_at hl 1 rfl) ?_
          refine lv_bipush (v := (-9)) hx hb dX6_tell_52 (by decide) ?_
          refine lv_icmp_eq (tgt := 68) hx hb dX6_tell_54 (by decide) (fun c_5 => ?_) (fun c_5 => ?_)
          · skip
            rw [if_pos c_5] at hres
            refine lv_iload_n hx hb dX6_tell_68 rfl (lv_at hl 2 rfl) ?_
            refine lv_goto (tgt := 73) hx hb dX6_tell_69 (by decide) ?_
            refine lv_istore_n (lv' := [(1, .int (nI i)), (0, .ref (a 0)), (2, .int (nI i))]) hx hb dX6_tell_73 rfl hl (by decide) rfl (fun ls hl => ?_)
            refine lv_iinc (v := nI (i + 1)) (lv' := [(2, .int (nI (i + 1))), (1, .int (nI i)), (0, .ref (a 0))]) hx hb dX6_tell_74 hl (k := 2) rfl ((nI_add i 1)) (by decide) rfl (fun ls hl => ?_)
            refine lv_goto (tgt := 14) hx hb dX6_tell_77 (by decide) ?_
            have hP : va_P D vwCl (wM cI cC cZ cS a (va_up (va_up F 0 r_3) 7 (upd wv 2 ((F 6 2) ||| (nI i)))) tc) H := hP
            have hD : va_D A (wM cI cC cZ cS a (va_up (va_up F 0 r_3) 7 (upd wv 2 ((F 6 2) ||| (nI i)))) tc) := hD
            exact ih14 (i + 1) (nI i) (upd wv 2 ((F 6 2) ||| (nI i))) r_3 (by omega) hlt hres _ _ hP hD hS ls (lv_sub hl [2, 1, 0] rfl)
          · skip
            rw [if_neg c_5] at hres
            refine lv_iload_n hx hb dX6_tell_57 rfl (lv_at hl 2 rfl) ?_
            have hPc := hP.sub (ws' := []) [] rfl
            have hDc := hD.sub (ws' := []) [] (by decide) rfl
            refine m_callR (W.runS (As := [.int (nI i)]) (rest := []) ⟨hx, hb, hml, hown, hts⟩ (c_X6_ones l D cI cC cZ cS (nI i)) (va_cwS 1 hts gX6_tell_X6_ones rfl rfl rfl (by decide +kernel) ⟨Nat.le_of_ble_eq_true rfl, Nat.le_of_ble_eq_true rfl⟩) (preS_of hPc hDc hE) rfl rfl hl.1 rfl (lv_room (Nat.le_of_ble_eq_true rfl)) dX6_tell_58 ⟨Nat.zero_le _, Nat.zero_le _⟩) ?_
            refine W.eq (g2 := F0 m 61 ls [.int (d_X6_ones (nI i))]) rfl ?_
            refine lv_iload_n hx hb dX6_tell_61 rfl (lv_at hl 1 rfl) ?_
            have hPc := hP.sub (ws' := []) [] rfl
            have hDc := hD.sub (ws' := []) [] (by decide) rfl
            refine m_callR (W.runS (As := [.int its]) (rest := [.int (d_X6_ones (nI i))]) ⟨hx, hb, hml, hown, hts⟩ (c_X6_ones l D cI cC cZ cS its) (va_cwS 1 hts gX6_tell_X6_ones rfl rfl rfl (by decide +kernel) ⟨Nat.le_of_ble_eq_true rfl, Nat.le_of_ble_eq_true rfl⟩) (preS_of hPc hDc hE) rfl rfl hl.1 rfl (lv_room (Nat.le_of_ble_eq_true rfl)) dX6_tell_62 ⟨Nat.zero_le _, Nat.zero_le _⟩) ?_
            refine W.eq (g2 := F0 m 65 ls [.int (d_X6_ones its), .int (d_X6_ones (nI i))]) rfl ?_
            refine lv_icmp_ge (tgt := 72) hx hb dX6_tell_65 (by decide) (fun c_6 => ?_) (fun c_6 => ?_)
            · skip
              rw [if_pos c_6] at hres
              refine lv_iload_n hx hb dX6_tell_72 rfl (lv_at hl 1 rfl) ?_
              refine lv_istore_n (lv' := [(1, .int its), (0, .ref (a 0)), (2, .int (nI i))]) hx hb dX6_tell_73 rfl hl (by decide) rfl (fun ls hl => ?_)
              refine lv_iinc (v := nI (i + 1)) (lv' := [(2, .int (nI (i + 1))), (1, .int its), (0, .ref (a 0))]) hx hb dX6_tell_74 hl (k := 2) rfl ((nI_add i 1)) (by decide) rfl (fun ls hl => ?_)
              refine lv_goto (tgt := 14) hx hb dX6_tell_77 (by decide) ?_
              have hP : va_P D vwCl (wM cI cC cZ cS a (va_up (va_up F 0 r_3) 7 (upd wv 2 ((F 6 2) ||| (nI i)))) tc) H := hP
              have hD : va_D A (wM cI cC cZ cS a (va_up (va_up F 0 r_3) 7 (upd wv 2 ((F 6 2) ||| (nI i)))) tc) := hD
              exact ih14 (i + 1) its (upd wv 2 ((F 6 2) ||| (nI i))) r_3 (by omega) hlt hres _ _ hP hD hS ls (lv_sub hl [2, 1, 0] rfl)
            · skip
              rw [if_neg c_6] at hres
              refine lv_iload_n hx hb dX6_tell_68 rfl (lv_at hl 2 rfl) ?_
              refine lv_goto (tgt := 73) hx hb dX6_tell_69 (by decide) ?_
              refine lv_istore_n (lv' := [(1, .int (nI i)), (0, .ref (a 0)), (2, .int (nI i))]) hx hb dX6_tell_73 rfl hl (by decide) rfl (fun ls hl => ?_)
              refine lv_iinc (v := nI (i + 1)) (lv' := [(2, .int (nI (i + 1))), (1, .int (nI i)), (0, .ref (a 0))]) hx hb dX6_tell_74 hl (k := 2) rfl ((nI_add i 1)) (by decide) rfl (fun ls hl => ?_)
              refine lv_goto (tgt := 14) hx hb dX6_tell_77 (by decide) ?_
              have hP : va_P D vwCl (wM cI cC cZ cS a (va_up (va_up F 0 r_3) 7 (upd wv 2 ((F 6 2) ||| (nI i)))) tc) H := hP
              have hD : va_D A (wM cI cC cZ cS a (va_up (va_up F 0 r_3) 7 (upd wv 2 ((F 6 2) ||| (nI i)))) tc) := hD
              exact ih14 (i + 1) (nI i) (upd wv 2 ((F 6 2) ||| (nI i))) r_3 (by omega) hlt hres _ _ hP hD hS ls (lv_sub hl [2, 1, 0] rfl)
  have hP : va_P D vwCl (wM cI cC cZ cS a (va_up (va_up F 0 (upd (F 0) 0 0)) 7 r_1) tc) _ := hP
  have hD : va_D A (wM cI cC cZ cS a (va_up (va_up F 0 (upd (F 0) 0 0)) 7 r_1) tc) := hD
  exact loop14 (2 ^ n + 1) 0 (-9) r_1 (upd (F 0) 0 0) (by have := Nat.one_le_two_pow (n := n); omega) (Nat.zero_le _) hres _ _ hP hD hS ls (lv_sub hl [2, 1, 0] rfl)
def lp_X6_shut_65 (F : Nat → Nat → Int32) (m_ : Int32) (what : Int32) (n : Nat) : Nat → Nat → Int32 → Int32 → Int32 → (Nat → Int32) → (Nat → Int32) → Int32 × (Nat → Nat → Int32)
  | 0, _, _, _, _, _, _ => (0, F)
  | k65 + 1, i, its, up, al, wv, ff => if (nI (d_X6_comers (F 3) (F 5) (F 6) n).toNatClampNeg) < (nI i) then
      if what = 0 then
        (its, (va_up (va_up F 0 ff) 7 wv))
      else
        (d_X6_part up al (what - (1 : Int32)) ((up).toInt.natAbs) ((al).toNatClampNeg), (va_up (va_up F 0 ff) 7 wv))
    else
      if ((nI i) &&& ((d_X6_comers (F 3) (F 5) (F 6) n) ^^^ (-1 : Int32))) = 0 then
        if m_ < (d_X6_ones (nI i)) then
          lp_X6_shut_65 F m_ what n k65 (i + 1) its up al wv ff
        else
          if 0 < ((up * ((d_X6_harms ff (F 3) (F 4) (F 5) (upd wv 3 ((F 6 3) ||| (nI i))) n) 24)) - (((d_X6_harms ff (F 3) (F 4) (F 5) (upd wv 3 ((F 6 3) ||| (nI i))) n) 25) * al)) then
            lp_X6_shut_65 F m_ what n k65 (i + 1) (nI i) ((d_X6_harms ff (F 3) (F 4) (F 5) (upd wv 3 ((F 6 3) ||| (nI i))) n) 25) ((d_X6_harms ff (F 3) (F 4) (F 5) (upd wv 3 ((F 6 3) ||| (nI i))) n) 24) (upd wv 3 ((F 6 3) ||| (nI i))) (d_X6_harms ff (F 3) (F 4) (F 5) (upd wv 3 ((F 6 3) ||| (nI i))) n)
          else
            if ((up * ((d_X6_harms ff (F 3) (F 4) (F 5) (upd wv 3 ((F 6 3) ||| (nI i))) n) 24)) - (((d_X6_harms ff (F 3) (F 4) (F 5) (upd wv 3 ((F 6 3) ||| (nI i))) n) 25) * al)) = 0 then
              if (d_X6_ones its) ≤ (d_X6_ones (nI i)) then
                lp_X6_shut_65 F m_ what n k65 (i + 1) its up al (upd wv 3 ((F 6 3) ||| (nI i))) (d_X6_harms ff (F 3) (F 4) (F 5) (upd wv 3 ((F 6 3) ||| (nI i))) n)
              else
                lp_X6_shut_65 F m_ what n k65 (i + 1) (nI i) ((d_X6_harms ff (F 3) (F 4) (F 5) (upd wv 3 ((F 6 3) ||| (nI i))) n) 25) ((d_X6_harms ff (F 3) (F 4) (F 5) (upd wv 3 ((F 6 3) ||| (nI i))) n) 24) (upd wv 3 ((F 6 3) ||| (nI i))) (d_X6_harms ff (F 3) (F 4) (F 5) (upd wv 3 ((F 6 3) ||| (nI i))) n)
            else
              lp_X6_shut_65 F m_ what n k65 (i + 1) its up al (upd wv 3 ((F 6 3) ||| (nI i))) (d_X6_harms ff (F 3) (F 4) (F 5) (upd wv 3 ((F 6 3) ||| (nI i))) n)
      else
        lp_X6_shut_65 F m_ what n k65 (i + 1) its up al wv ff
def d_X6_shut (F : Nat → Nat → Int32) (m_ : Int32) (what : Int32) (n : Nat) : Int32 × (Nat → Nat → Int32) :=
  if (d_X6_in m_ 0 7) = 0 then
      ((-1), (va_up F 0 (upd (F 0) 0 0)))
    else
      if (d_X6_in what 0 2) = 0 then
        ((-1), (va_up F 0 (upd (F 0) 0 0)))
      else
        lp_X6_shut_65 F m_ what n ((d_X6_comers (F 3) (F 5) (F 6) n).toNatClampNeg + 2) 1 0 ((d_X6_harms (upd (F 0) 0 0) (F 3) (F 4) (F 5) (F 6) n) 25) ((d_X6_harms (upd (F 0) 0 0) (F 3) (F 4) (F 5) (F 6) n) 24) (d_X6_asNow (F 6) (F 7)) (d_X6_harms (upd (F 0) 0 0) (F 3) (F 4) (F 5) (F 6) n)
set_option maxHeartbeats 4000000 in
set_option maxRecDepth 100000 in
theorem c_X6_shut (l : Launch) (D : va_G) (cI cC cZ cS : ClassId) (a : Nat → Nat) (F : Nat → Nat → Int32) (tc : Int64) (m_ : Int32) (what : Int32) (n : Nat) (hn : F 2 0 = nI n) (h7 : n ≤ 7) (hea : EA (F 5) n) (hde : DE (F 4) n) : Met l yX6_shut wsX6_shut { frames := 4, cells := 0, slots := 0, locals := 89 } (PcE D cI cC cZ cS [.ref (a 0), .int m_, .int what] (wM cI cC cZ cS a F tc)) (QcM (some (.int ((d_X6_shut F m_ what n).1))) D (wM cI cC cZ cS a F tc) (wM cI cC cZ cS a ((d_X6_shut F m_ what n).2) tc)) 0 0 (inW (wM cI cC cZ cS a F tc)) := by
  refine Met.ofW (cc := cX6_shut) (maxL := 9) (ret := (some .int)) (by decide) rfl ?_
  intro p e s m args below meth c s₁ B hml hv
  obtain ⟨rfl, hP, hD, hE⟩ := hv
  have hK := hE.1
  have hx := B.exec
  have hb := B.bytes
  have hr := B.returns
  have hts := atoms_spec (ws := wsX6_shut) B.pre
  have hown : s.vm.findClass RX6 = some m.cls := findClass_of_methodNamed B.named
  have hlocks := B.notSynchronized
  have hinX6 : ∀ w ∈ wsX60, w ∈ wsX6_shut := by decide +kernel
  have hD := inW_self hD
  have hS : va_S (inW (wM cI cC cZ cS a F tc)) s.heap s.heap [] := va_S.rf
  generalize hA : inW (wM cI cC cZ cS a F tc) = A at hD hS ⊢
  refine opq (d_X6_shut F m_ what n) (fun R hres => ?_)
  rw [hres]
  replace hres := hres.symm
  rw [d_X6_shut] at hres
  have hl := lv_entry ([.ref (a 0), .int m_, .int what]) (n := 9) (Nat.le_of_ble_eq_true rfl)
  rw [lg_entry_eq]
  generalize (lg_sl ([.ref (a 0), .int m_, .int what]) ++ List.replicate (9 - (lg_sl ([.ref (a 0), .int m_, .int what])).length) Slot.unset).toArray = ls at hl ⊢
  have hl : lv_has ls 9 [(0, .ref (a 0)), (1, .int m_), (2, .int what)] := hl
  refine lv_aload_n hx hb dX6_shut_0 rfl (lv_at hl 0 rfl) ?_
  refine lv_iconst (v := 0) hx hb dX6_shut_1 (by decide) ?_
  refine va_put (D := D) (ci := 6) (v := .int 0) (ty := .int) (C := RX6) (T := TX6) (N := 26) hx hb hts hinX6 tyX6 tyX6_ok nmX6 hown hK hP hD hS 0 rfl rfl 0 (by decide) (hts (.fieldLink RX6 53 "FirstOutModel" "thrown" "I") (by decide +kernel)) (fun _ h9 => h9) rfl (by decide +kernel) rfl rfl (Nat.le_of_ble_eq_true rfl) dX6_shut_2 (fun H locs hP hD hS => ?_)
  have hP : va_P D vwCl (wM cI cC cZ cS a (va_up F 0 (upd (F 0) 0 0)) tc) H := hP
  have hD : va_D A (wM cI cC cZ cS a (va_up F 0 (upd (F 0) 0 0)) tc) := hD
  refine lv_iload_n hx hb dX6_shut_5 rfl (lv_at hl 1 rfl) ?_
  refine lv_iconst (v := 0) hx hb dX6_shut_6 (by decide) ?_
  refine lv_bipush (v := 7) hx hb dX6_shut_7 (by decide) ?_
  have hPc := hP.sub (ws' := []) [] rfl
  have hDc := hD.sub (ws' := []) [] (by decide) rfl
  refine m_callR (W.runS (As := [.int m_, .int 0, .int 7]) (rest := []) ⟨hx, hb, hml, hown, hts⟩ (c_X6_in l D cI cC cZ cS m_ 0 7) (va_cwS 3 hts gX6_shut_X6_in rfl rfl rfl (by decide +kernel) ⟨Nat.le_of_ble_eq_true rfl, Nat.le_of_ble_eq_true rfl⟩) (preS_of hPc hDc hE) rfl rfl hl.1 rfl (lv_room (Nat.le_of_ble_eq_true rfl)) dX6_shut_9 ⟨Nat.zero_le _, Nat.zero_le _⟩) ?_
  refine W.eq (g2 := F0 m 12 ls [.int (d_X6_in m_ 0 7)]) rfl ?_
  refine lv_if_eq (tgt := 24) hx hb dX6_shut_12 (by decide) (fun c_1 => ?_) (fun c_1 => ?_)
  · skip
    rw [if_pos c_1] at hres
    refine lv_iconst (v := (-1)) hx hb dX6_shut_24 (by decide) ?_
    rw [hres]
    exact W.iret (v := (-1)) hx hb hr (fun t ht hW => ⟨rfl, by rw [ht]; exact hP, by rw [hA]; exact hS.F ht⟩) hS.2.2 dX6_shut_25
  · skip
    rw [if_neg c_1] at hres
    refine lv_iload_n hx hb dX6_shut_15 rfl (lv_at hl 2 rfl) ?_
    refine lv_iconst (v := 0) hx hb dX6_shut_16 (by decide) ?_
    refine lv_iconst (v := 2) hx hb dX6_shut_17 (by decide) ?_
    have hPc := hP.sub (ws' := []) [] rfl
    have hDc := hD.sub (ws' := []) [] (by decide) rfl
    refine m_callR (W.runS (As := [.int what, .int 0, .int 2]) (rest := []) ⟨hx, hb, hml, hown, hts⟩ (c_X6_in l D cI cC cZ cS what 0 2) (va_cwS 3 hts gX6_shut_X6_in rfl rfl rfl (by decide +kernel) ⟨Nat.le_of_ble_eq_true rfl, Nat.le_of_ble_eq_true rfl⟩) (preS_of hPc hDc hE) rfl rfl hl.1 rfl (lv_room (Nat.le_of_ble_eq_true rfl)) dX6_shut_18 ⟨Nat.zero_le _, Nat.zero_le _⟩) ?_
    refine W.eq (g2 := F0 m 21 ls [.int (d_X6_in what 0 2)]) rfl ?_
    refine lv_if_ne (tgt := 26) hx hb dX6_shut_21 (by decide) (fun c_2 => ?_) (fun c_2 => ?_)
    · skip
      rw [if_neg c_2] at hres
      refine lv_aload_n hx hb dX6_shut_26 rfl (lv_at hl 0 rfl) ?_
      have hPc := hP.sub (ws' := (wMw cI cC cZ cS a (upd (F 0) 0 0) (F 6) (F 7) tc)) [0, 6, 7] rfl
      have hDc := hD.sub (ws' := (wMw cI cC cZ cS a (upd (F 0) 0 0) (F 6) (F 7) tc)) [0, 6, 7] (by decide) rfl
      refine m_callM (W.runV (As := []) (rest := []) ⟨hx, hb, hml, hown, hts⟩ (c_X6_asNow l D cI cC cZ cS a (upd (F 0) 0 0) (F 6) (F 7) tc) (cwV 0 hts gX6_shut_X6_asNow rfl rfl rfl (by decide +kernel) ⟨Nat.le_of_ble_eq_true rfl, Nat.le_of_ble_eq_true rfl⟩) (preV_of hPc hDc hE (va_recv hK hPc (ci := 6) (q0 := 0) rfl rfl)) rfl rfl hl.1 rfl (lv_room (Nat.le_of_ble_eq_true rfl)) dX6_shut_27 ⟨Nat.zero_le _, Nat.zero_le _⟩) hP hD hS [0, 6, 7] rfl wMw_ad (fun H locs hP hD hS => ?_)
      have hP : va_P D vwCl (wM cI cC cZ cS a (va_up (va_up F 0 (upd (F 0) 0 0)) 7 (d_X6_asNow (F 6) (F 7))) tc) H := hP
      have hD : va_D A (wM cI cC cZ cS a (va_up (va_up F 0 (upd (F 0) 0 0)) 7 (d_X6_asNow (F 6) (F 7))) tc) := hD
      refine W.eq (g2 := F0 m 30 ls []) rfl ?_
      refine opq (d_X6_asNow (F 6) (F 7)) (fun r_3 hr_3 => ?_)
      try rw [hr_3] at hP
      try rw [hr_3] at hD
      try rw [hr_3] at hres
      try rw [hr_3]
      refine lv_aload_n hx hb dX6_shut_30 rfl (lv_at hl 0 rfl) ?_
      refine lv_aload_n hx hb dX6_shut_31 rfl (lv_at hl 0 rfl) ?_
      refine va_get (D := D) (ci := 6) (v := .ref (a 6)) (C := RX6) (T := TX6) (N := 26) hx hb hts hinX6 hown hK hP 0 rfl rfl 15 (by decide) (hts (.fieldLink RX6 25 "FirstOutModel" "s" "[I") (by decide +kernel)) (fun _ h9 => h9) rfl dX6_shut_32 ?_
      have hPc := hP.sub (ws' := (w5r cI cC cZ cS a (upd (F 0) 0 0) (F 2) (F 3) (F 4) (F 5) (a 6) (F 6) tc)) [0, 2, 3, 4, 5, 6] rfl
      have hDc := hD.sub (ws' := (w5r cI cC cZ cS a (upd (F 0) 0 0) (F 2) (F 3) (F 4) (F 5) (a 6) (F 6) tc)) [0, 2, 3, 4, 5, 6] (by decide) rfl
      refine m_callR (W.runV (As := [.ref (a 6)]) (rest := []) ⟨hx, hb, hml, hown, hts⟩ (c_X6_comers l D cI cC cZ cS a (upd (F 0) 0 0) (F 2) (F 3) (F 4) (F 5) (a 6) (F 6) tc n hn h7) (cwV 1 hts gX6_shut_X6_comers rfl rfl rfl (by decide +kernel) ⟨Nat.le_of_ble_eq_true rfl, Nat.le_of_ble_eq_true rfl⟩) (preV_of hPc hDc hE (va_recv hK hPc (ci := 6) (q0 := 0) rfl rfl)) rfl rfl hl.1 rfl (lv_room (Nat.le_of_ble_eq_true rfl)) dX6_shut_35 ⟨Nat.zero_le _, Nat.zero_le _⟩) ?_
      refine W.eq (g2 := F0 m 38 ls [.int (d_X6_comers (F 3) (F 5) (F 6) n)]) rfl ?_
      refine lv_istore_n (lv' := [(3, .int (d_X6_comers (F 3) (F 5) (F 6) n)), (0, .ref (a 0)), (1, .int m_), (2, .int what)]) hx hb dX6_shut_38 rfl hl (by decide) rfl (fun ls hl => ?_)
      have hcc := comers_small (tr := F 3) (ea := F 5) (g := F 6) h7
      refine lv_iconst (v := 0) hx hb dX6_shut_39 (by decide) ?_
      refine lv_istore (lv' := [(4, .int 0), (3, .int (d_X6_comers (F 3) (F 5) (F 6) n)), (0, .ref (a 0)), (1, .int m_), (2, .int what)]) hx hb dX6_shut_40 hl (by decide) rfl (fun ls hl => ?_)
      refine lv_aload_n hx hb dX6_shut_42 rfl (lv_at hl 2 rfl) ?_
      refine lv_aload_n hx hb dX6_shut_43 rfl (lv_at hl 2 rfl) ?_
      refine va_get (D := D) (ci := 6) (v := .ref (a 6)) (C := RX6) (T := TX6) (N := 26) hx hb hts hinX6 hown hK hP 0 rfl rfl 15 (by decide) (hts (.fieldLink RX6 25 "FirstOutModel" "s" "[I") (by decide +kernel)) (fun _ h9 => h9) rfl dX6_shut_44 ?_
      have hPc := hP.sub (ws' := (w5r cI cC cZ cS a (upd (F 0) 0 0) (F 2) (F 3) (F 4) (F 5) (a 6) (F 6) tc)) [0, 2, 3, 4, 5, 6] rfl
      have hDc := hD.sub (ws' := (w5r cI cC cZ cS a (upd (F 0) 0 0) (F 2) (F 3) (F 4) (F 5) (a 6) (F 6) tc)) [0, 2, 3, 4, 5, 6] (by decide) rfl
      refine m_callM (W.runV (As := [.ref (a 6)]) (rest := []) ⟨hx, hb, hml, hown, hts⟩ (c_X6_harms l D cI cC cZ cS a (upd (F 0) 0 0) (F 2) (F 3) (F 4) (F 5) (a 6) (F 6) tc n hn h7) (cwV 1 hts gX6_shut_X6_harms rfl rfl rfl (by decide +kernel) ⟨Nat.le_of_ble_eq_true rfl, Nat.le_of_ble_eq_true rfl⟩) (preV_of hPc hDc hE (va_recv hK hPc (ci := 6) (q0 := 0) rfl rfl)) rfl rfl hl.1 rfl (lv_room (Nat.le_of_ble_eq_true rfl)) dX6_shut_47 ⟨Nat.zero_le _, Nat.zero_le _⟩) hP hD hS [0, 2, 3, 4, 5, 6] rfl w5r_ad (fun H locs hP hD hS => ?_)
      have hP : va_P D vwCl (wM cI cC cZ cS a (va_up (va_up F 0 (d_X6_harms (upd (F 0) 0 0) (F 3) (F 4) (F 5) (F 6) n)) 7 r_3) tc) H := hP
      have hD : va_D A (wM cI cC cZ cS a (va_up (va_up F 0 (d_X6_harms (upd (F 0) 0 0) (F 3) (F 4) (F 5) (F 6) n)) 7 r_3) tc) := hD
      refine W.eq (g2 := F0 m 50 ls []) rfl ?_
      have hh : _ := (harms_ok hde hea h7 : (d_X6_harms (upd (F 0) 0 0) (F 3) (F 4) (F 5) (F 6) n) 25 = _ ∧ _)
      refine opq (d_X6_harms (upd (F 0) 0 0) (F 3) (F 4) (F 5) (F 6) n) (fun r_4 hr_4 => ?_)
      try rw [hr_4] at hP
      try rw [hr_4] at hD
      try rw [hr_4] at hres
      try rw [hr_4] at hh
      try rw [hr_4]
      refine lv_aload_n hx hb dX6_shut_50 rfl (lv_at hl 2 rfl) ?_
      refine va_get (D := D) (ci := 6) (v := .int (r_4 25)) (C := RX6) (T := TX6) (N := 26) hx hb hts hinX6 hown hK hP 0 rfl rfl 25 (by decide) (hts (.fieldLink RX6 129 "FirstOutModel" "harmAll" "I") (by decide +kernel)) (fun _ h9 => h9) rfl dX6_shut_51 ?_
      refine lv_istore (lv' := [(5, .int (r_4 25)), (4, .int 0), (3, .int (d_X6_comers (F 3) (F 5) (F 6) n)), (0, .ref (a 0)), (1, .int m_), (2, .int what)]) hx hb dX6_shut_54 hl (by decide) rfl (fun ls hl => ?_)
      refine lv_aload_n hx hb dX6_shut_56 rfl (lv_at hl 3 rfl) ?_
      refine va_get (D := D) (ci := 6) (v := .int (r_4 24)) (C := RX6) (T := TX6) (N := 26) hx hb hts hinX6 hown hK hP 0 rfl rfl 24 (by decide) (hts (.fieldLink RX6 135 "FirstOutModel" "eagerAll" "I") (by decide +kernel)) (fun _ h9 => h9) rfl dX6_shut_57 ?_
      refine lv_istore (lv' := [(6, .int (r_4 24)), (5, .int (r_4 25)), (4, .int 0), (3, .int (d_X6_comers (F 3) (F 5) (F 6) n)), (0, .ref (a 0)), (1, .int m_), (2, .int what)]) hx hb dX6_shut_60 hl (by decide) rfl (fun ls hl => ?_)
      refine lv_iconst (v := 1) hx hb dX6_shut_62 (by decide) ?_
      refine lv_istore (lv' := [(7, .int 1), (6, .int (r_4 24)), (5, .int (r_4 25)), (4, .int 0), (3, .int (d_X6_comers (F 3) (F 5) (F 6) n)), (0, .ref (a 0)), (1, .int m_), (2, .int what)]) hx hb dX6_shut_63 hl (by decide) rfl (fun ls hl => ?_)
      have loop65 : ∀ (k65 : Nat) (i : Nat) (its : Int32) (up : Int32) (al : Int32) (wv : Nat → Int32) (ff : Nat → Int32), (d_X6_comers (F 3) (F 5) (F 6) n).toNatClampNeg + 1 - i < k65 → i ≤ (d_X6_comers (F 3) (F 5) (F 6) n).toNatClampNeg + 1 → NN up 6237 → NN al 63 ∧ 0 < al.toNatClampNeg → R = lp_X6_shut_65 F m_ what n k65 i its up al wv ff → ∀ (H : Heap) (locs : List Loc), va_P D vwCl (wM cI cC cZ cS a (va_up (va_up F 0 ff) 7 wv) tc) H → va_D A (wM cI cC cZ cS a (va_up (va_up F 0 ff) 7 wv) tc) → va_S A s.heap H locs → ∀ ls : Array Slot, lv_has ls 9 [(0, .ref (a 0)), (1, .int m_), (2, .int what), (3, .int (d_X6_comers (F 3) (F 5) (F 6) n)), (4, .int its), (5, .int up), (6, .int al), (7, .int (nI i))] → W p l e (headSpec wsX6_shut { frames := 4, cells := 0, slots := 0, locals := 89 }).room s m (([.ref (a 0), .int m_, .int what] : List Value).toArray) below meth c H locs 0 0 (MQ below (QcM (some (.int R.1)) D (wM cI cC cZ cS a F tc) (wM cI cC cZ cS a R.2 tc)) (([.ref (a 0), .int m_, .int what] : List Value).toArray) s 0 0 A) (F0 m 65 ls []) := by
        intro k65
        induction k65 with
        | zero => intro i its up al wv ff hk; exact absurd hk (Nat.not_lt_zero _)
        | succ k65 ih65 =>
          intro i its up al wv ff hk65 hi hup hal hres H locs hP hD hS ls hl
          rw [lp_X6_shut_65] at hres
          refine lv_iload hx hb dX6_shut_65 (lv_at hl 7 rfl) ?_
          refine lv_iload_n hx hb dX6_shut_67 rfl (lv_at hl 3 rfl) ?_
          refine lv_to (show (d_X6_comers (F 3) (F 5) (F 6) n) = nI (d_X6_comers (F 3) (F 5) (F 6) n).toNatClampNeg from hcc.1) ?_
          refine lv_icmp_gt (tgt := 174) hx hb dX6_shut_68 (by decide) (fun c_5 => ?_) (fun c_5 => ?_)
          · skip
            rw [if_pos c_5] at hres
            refine lv_iload_n hx hb dX6_shut_174 rfl (lv_at hl 2 rfl) ?_
            refine lv_if_ne (tgt := 183) hx hb dX6_shut_175 (by decide) (fun c_6 => ?_) (fun c_6 => ?_)
            · skip
              rw [if_neg c_6] at hres
              refine lv_iload hx hb dX6_shut_183 (lv_at hl 5 rfl) ?_
              refine lv_iload hx hb dX6_shut_185 (lv_at hl 6 rfl) ?_
              refine lv_iload_n hx hb dX6_shut_187 rfl (lv_at hl 2 rfl) ?_
              refine lv_iconst (v := 1) hx hb dX6_shut_188 (by decide) ?_
              refine lv_isub hx hb dX6_shut_189 ?_
              have hPc := hP.sub (ws' := []) [] rfl
              have hDc := hD.sub (ws' := []) [] (by decide) rfl
              refine m_callR (W.runS (As := [.int up, .int al, .int (what - (1 : Int32))]) (rest := []) ⟨hx, hb, hml, hown, hts⟩ (c_X6_part l D cI cC cZ cS up al (what - (1 : Int32)) ((up).toInt.natAbs) ((al).toNatClampNeg) ((part_a (part_n hup.1 (by have := hup.2; omega))).1) ((part_a (part_n hup.1 (by have := hup.2; omega))).2) ((part_b hal.1.1 (by have := hal.1.2; omega)).1) (by rw [(part_b hal.1.1 (by have := hal.1.2; omega)).2]; exact (by have := hal.1.2; omega)) (gcd_ne (part_a (part_n hup.1 (by have := hup.2; omega))).2 (by rw [(part_b hal.1.1 (by have := hal.1.2; omega)).2]; exact (by have := hal.1.2; omega)) (by rw [(part_b hal.1.1 (by have := hal.1.2; omega)).2]; exact hal.2))) (va_cwS 3 hts gX6_shut_X6_part rfl rfl rfl (by decide +kernel) ⟨Nat.le_of_ble_eq_true rfl, Nat.le_of_ble_eq_true rfl⟩) (preS_of hPc hDc hE) rfl rfl hl.1 rfl (lv_room (Nat.le_of_ble_eq_true rfl)) dX6_shut_190 ⟨Nat.zero_le _, Nat.zero_le _⟩) ?_
              refine W.eq (g2 := F0 m 193 ls [.int (d_X6_part up al (what - (1 : Int32)) ((up).toInt.natAbs) ((al).toNatClampNeg))]) rfl ?_
              rw [hres]
              exact W.iret (v := d_X6_part up al (what - (1 : Int32)) ((up).toInt.natAbs) ((al).toNatClampNeg)) hx hb hr (fun t ht hW => ⟨rfl, by rw [ht]; exact hP, by rw [hA]; exact hS.F ht⟩) hS.2.2 dX6_shut_193
            · skip
              rw [if_pos c_6] at hres
              refine lv_iload hx hb dX6_shut_178 (lv_at hl 4 rfl) ?_
              refine lv_goto (tgt := 193) hx hb dX6_shut_180 (by decide) ?_
              rw [hres]
              exact W.iret (v := its) hx hb hr (fun t ht hW => ⟨rfl, by rw [ht]; exact hP, by rw [hA]; exact hS.F ht⟩) hS.2.2 dX6_shut_193
          · skip
            rw [if_neg c_5] at hres
            have hlt : i ≤ (d_X6_comers (F 3) (F 5) (F 6) n).toNatClampNeg := by have h4 := c_5; rw [nI_ltI (by have := hcc.2; omega) (by have := hcc.2; omega)] at h4; omega
            refine lv_iload hx hb dX6_shut_71 (lv_at hl 7 rfl) ?_
            refine lv_iload_n hx hb dX6_shut_73 rfl (lv_at hl 3 rfl) ?_
            refine lv_iconst (v := (-1)) hx hb dX6_shut_74 (by decide) ?_
            refine lv_ixor hx hb dX6_shut_75 ?_
            refine lv_iand hx hb dX6_shut_76 ?_
            refine lv_if_ne (tgt := 168) hx hb dX6_shut_77 (by decide) (fun c_7 => ?_) (fun c_7 => ?_)
            · skip
              rw [if_neg c_7] at hres
              refine lv_iinc (v := nI (i + 1)) (lv' := [(7, .int (nI (i + 1))), (0, .ref (a 0)), (1, .int m_), (2, .int what), (3, .int (d_X6_comers (F 3) (F 5) (F 6) n)), (4, .int its), (5, .int up), (6, .int al)]) hx hb dX6_shut_168 hl (k := 7) rfl ((nI_add i 1)) (by decide) rfl (fun ls hl => ?_)
              refine lv_goto (tgt := 65) hx hb dX6_shut_171 (by decide) ?_
              have hP : va_P D vwCl (wM cI cC cZ cS a (va_up (va_up F 0 ff) 7 wv) tc) H := hP
              have hD : va_D A (wM cI cC cZ cS a (va_up (va_up F 0 ff) 7 wv) tc) := hD
              exact ih65 (i + 1) its up al wv ff (by omega) (by omega) hup hal hres _ _ hP hD hS ls (lv_sub hl [1, 2, 3, 4, 5, 6, 7, 0] rfl)
            · skip
              rw [if_pos c_7] at hres
              refine lv_iload hx hb dX6_shut_80 (lv_at hl 7 rfl) ?_
              have hPc := hP.sub (ws' := []) [] rfl
              have hDc := hD.sub (ws' := []) [] (by decide) rfl
              refine m_callR (W.runS (As := [.int (nI i)]) (rest := []) ⟨hx, hb, hml, hown, hts⟩ (c_X6_ones l D cI cC cZ cS (nI i)) (va_cwS 1 hts gX6_shut_X6_ones rfl rfl rfl (by decide +kernel) ⟨Nat.le_of_ble_eq_true rfl, Nat.le_of_ble_eq_true rfl⟩) (preS_of hPc hDc hE) rfl rfl hl.1 rfl (lv_room (Nat.le_of_ble_eq_true rfl)) dX6_shut_82 ⟨Nat.zero_le _, Nat.zero_le _⟩) ?_
              refine W.eq (g2 := F0 m 85 ls [.int (d_X6_ones (nI i))]) rfl ?_
              refine lv_iload_n hx hb dX6_shut_85 rfl (lv_at hl 1 rfl) ?_
              refine lv_icmp_gt (tgt := 168) hx hb dX6_shut_86 (by decide) (fun c_8 => ?_) (fun c_8 => ?_)
              · skip
                rw [if_pos c_8] at hres
                refine lv_iinc (v := nI (i + 1)) (lv' := [(7, .int (nI (i + 1))), (0, .ref (a 0)), (1, .int m_), (2, .int what), (3, .int (d_X6_comers (F 3) (F 5) (F 6) n)), (4, .int its), (5, .int up), (6, .int al)]) hx hb dX6_shut_168 hl (k := 7) rfl ((nI_add i 1)) (by decide) rfl (fun ls hl => ?_)
                refine lv_goto (tgt := 65) hx hb dX6_shut_171 (by decide) ?_
                have hP : va_P D vwCl (wM cI cC cZ cS a (va_up (va_up F 0 ff) 7 wv) tc) H := hP
                have hD : va_D A (wM cI cC cZ cS a (va_up (va_up F 0 ff) 7 wv) tc) := hD
                exact ih65 (i + 1) its up al wv ff (by omega) (by omega) hup hal hres _ _ hP hD hS ls (lv_sub hl [1, 2, 3, 4, 5, 6, 7, 0] rfl)
              · skip
                rw [if_neg c_8] at hres
                refine lv_aload_n hx hb dX6_shut_89 rfl (lv_at hl 0 rfl) ?_
                refine va_get (D := D) (ci := 6) (v := .ref (a 7)) (C := RX6) (T := TX6) (N := 26) hx hb hts hinX6 hown hK hP 0 rfl rfl 16 (by decide) (hts (.fieldLink RX6 28 "FirstOutModel" "w" "[I") (by decide +kernel)) (fun _ h9 => h9) rfl dX6_shut_90 ?_
                refine lv_iconst (v := 3) hx hb dX6_shut_93 (by decide) ?_
                refine lv_aload_n hx hb dX6_shut_94 rfl (lv_at hl 0 rfl) ?_
                refine va_get (D := D) (ci := 6) (v := .ref (a 6)) (C := RX6) (T := TX6) (N := 26) hx hb hts hinX6 hown hK hP 0 rfl rfl 15 (by decide) (hts (.fieldLink RX6 25 "FirstOutModel" "s" "[I") (by decide +kernel)) (fun _ h9 => h9) rfl dX6_shut_95 ?_
                refine lv_iconst (v := 3) hx hb dX6_shut_98 (by decide) ?_
                refine m_iald hx hb hK hP 6 0 rfl rfl 3 rfl (by decide) (by decide) dX6_shut_99 ?_
                refine lv_to (show _ = (F 6 3) from rfl) ?_
                refine lv_iload hx hb dX6_shut_100 (lv_at hl 7 rfl) ?_
                refine lv_ior hx hb dX6_shut_102 ?_
                refine m_iast hx hb hK hP hD hS 7 0 rfl rfl 3 rfl (by decide) (by decide) dX6_shut_103 (fun H locs hP hD hS => ?_)
                have hP : va_P D vwCl (wM cI cC cZ cS a (va_up (va_up F 0 ff) 7 (upd wv 3 ((F 6 3) ||| (nI i)))) tc) H := hP
                have hD : va_D A (wM cI cC cZ cS a (va_up (va_up F 0 ff) 7 (upd wv 3 ((F 6 3) ||| (nI i)))) tc) := hD
                refine lv_aload_n hx hb dX6_shut_104 rfl (lv_at hl 0 rfl) ?_
                refine lv_aload_n hx hb dX6_shut_105 rfl (lv_at hl 0 rfl) ?_
                refine va_get (D := D) (ci := 6) (v := .ref (a 7)) (C := RX6) (T := TX6) (N := 26) hx hb hts hinX6 hown hK hP 0 rfl rfl 16 (by decide) (hts (.fieldLink RX6 28 "FirstOutModel" "w" "[I") (by decide +kernel)) (fun _ h9 => h9) rfl dX6_shut_106 ?_
                have hPc := hP.sub (ws' := (w5r cI cC cZ cS a ff (F 2) (F 3) (F 4) (F 5) (a 7) (upd wv 3 ((F 6 3) ||| (nI i))) tc)) [0, 2, 3, 4, 5, 7] rfl
                have hDc := hD.sub (ws' := (w5r cI cC cZ cS a ff (F 2) (F 3) (F 4) (F 5) (a 7) (upd wv 3 ((F 6 3) ||| (nI i))) tc)) [0, 2, 3, 4, 5, 7] (by decide) rfl
                refine m_callM (W.runV (As := [.ref (a 7)]) (rest := []) ⟨hx, hb, hml, hown, hts⟩ (c_X6_harms l D cI cC cZ cS a ff (F 2) (F 3) (F 4) (F 5) (a 7) (upd wv 3 ((F 6 3) ||| (nI i))) tc n hn h7) (cwV 1 hts gX6_shut_X6_harms rfl rfl rfl (by decide +kernel) ⟨Nat.le_of_ble_eq_true rfl, Nat.le_of_ble_eq_true rfl⟩) (preV_of hPc hDc hE (va_recv hK hPc (ci := 6) (q0 := 0) rfl rfl)) rfl rfl hl.1 rfl (lv_room (Nat.le_of_ble_eq_true rfl)) dX6_shut_109 ⟨Nat.zero_le _, Nat.zero_le _⟩) hP hD hS [0, 2, 3, 4, 5, 7] rfl w5r_ad (fun H locs hP hD hS => ?_)
                have hP : va_P D vwCl (wM cI cC cZ cS a (va_up (va_up F 0 (d_X6_harms ff (F 3) (F 4) (F 5) (upd wv 3 ((F 6 3) ||| (nI i))) n)) 7 (upd wv 3 ((F 6 3) ||| (nI i)))) tc) H := hP
                have hD : va_D A (wM cI cC cZ cS a (va_up (va_up F 0 (d_X6_harms ff (F 3) (F 4) (F 5) (upd wv 3 ((F 6 3) ||| (nI i))) n)) 7 (upd wv 3 ((F 6 3) ||| (nI i)))) tc) := hD
                refine W.eq (g2 := F0 m 112 ls []) rfl ?_
                have hh2 : _ := (harms_ok hde hea h7 : (d_X6_harms ff (F 3) (F 4) (F 5) (upd wv 3 ((F 6 3) ||| (nI i))) n) 25 = _ ∧ _)
                refine opq (d_X6_harms ff (F 3) (F 4) (F 5) (upd wv 3 ((F 6 3) ||| (nI i))) n) (fun r_9 hr_9 => ?_)
                try rw [hr_9] at hP
                try rw [hr_9] at hD
                try rw [hr_9] at hres
                try rw [hr_9] at hh2
                try rw [hr_9]
                refine lv_iload hx hb dX6_shut_112 (lv_at hl 5 rfl) ?_
                refine lv_aload_n hx hb dX6_shut_114 rfl (lv_at hl 0 rfl) ?_
                refine va_get (D := D) (ci := 6) (v := .int (r_9 24)) (C := RX6) (T := TX6) (N := 26) hx hb hts hinX6 hown hK hP 0 rfl rfl 24 (by decide) (hts (.fieldLink RX6 135 "FirstOutModel" "eagerAll" "I") (by decide +kernel)) (fun _ h9 => h9) rfl dX6_shut_115 ?_
                refine lv_imul hx hb dX6_shut_118 ?_
                refine lv_aload_n hx hb dX6_shut_119 rfl (lv_at hl 0 rfl) ?_
                refine va_get (D := D) (ci := 6) (v := .int (r_9 25)) (C := RX6) (T := TX6) (N := 26) hx hb hts hinX6 hown hK hP 0 rfl rfl 25 (by decide) (hts (.fieldLink RX6 129 "FirstOutModel" "harmAll" "I") (by decide +kernel)) (fun _ h9 => h9) rfl dX6_shut_120 ?_
                refine lv_iload hx hb dX6_shut_123 (lv_at hl 6 rfl) ?_
                refine lv_imul hx hb dX6_shut_125 ?_
                refine lv_isub hx hb dX6_shut_126 ?_
                refine lv_istore (lv' := [(8, .int ((up * (r_9 24)) - ((r_9 25) * al))), (0, .ref (a 0)), (1, .int m_), (2, .int what), (3, .int (d_X6_comers (F 3) (F 5) (F 6) n)), (4, .int its), (5, .int up), (6, .int al), (7, .int (nI i))]) hx hb dX6_shut_127 hl (by decide) rfl (fun ls hl => ?_)
                refine lv_iload hx hb dX6_shut_129 (lv_at hl 0 rfl) ?_
                refine lv_if_gt (tgt := 152) hx hb dX6_shut_131 (by decide) (fun c_10 => ?_) (fun c_10 => ?_)
                · skip
                  rw [if_pos c_10] at hres
                  refine lv_iload hx hb dX6_shut_152 (lv_at hl 8 rfl) ?_
                  refine lv_istore (lv' := [(4, .int (nI i)), (8, .int ((up * (r_9 24)) - ((r_9 25) * al))), (0, .ref (a 0)), (1, .int m_), (2, .int what), (3, .int (d_X6_comers (F 3) (F 5) (F 6) n)), (5, .int up), (6, .int al), (7, .int (nI i))]) hx hb dX6_shut_154 hl (by decide) rfl (fun ls hl => ?_)
                  refine lv_aload_n hx hb dX6_shut_156 rfl (lv_at hl 2 rfl) ?_
                  refine va_get (D := D) (ci := 6) (v := .int (r_9 25)) (C := RX6) (T := TX6) (N := 26) hx hb hts hinX6 hown hK hP 0 rfl rfl 25 (by decide) (hts (.fieldLink RX6 129 "FirstOutModel" "harmAll" "I") (by decide +kernel)) (fun _ h9 => h9) rfl dX6_shut_157 ?_
                  refine lv_istore (lv' := [(5, .int (r_9 25)), (4, .int (nI i)), (8, .int ((up * (r_9 24)) - ((r_9 25) * al))), (0, .ref (a 0)), (1, .int m_), (2, .int what), (3, .int (d_X6_comers (F 3) (F 5) (F 6) n)), (6, .int al), (7, .int (nI i))]) hx hb dX6_shut_160 hl (by decide) rfl (fun ls hl => ?_)
                  refine lv_aload_n hx hb dX6_shut_162 rfl (lv_at hl 3 rfl) ?_
                  refine va_get (D := D) (ci := 6) (v := .int (r_9 24)) (C := RX6) (T := TX6) (N := 26) hx hb hts hinX6 hown hK hP 0 rfl rfl 24 (by decide) (hts (.fieldLink RX6 135 "FirstOutModel" "eagerAll" "I") (by decide +kernel)) (fun _ h9 => h9) rfl dX6_shut_163 ?_
                  refine lv_istore (lv' := [(6, .int (r_9 24)), (5, .int (r_9 25)), (4, .int (nI i)), (8, .int ((up * (r_9 24)) - ((r_9 25) * al))), (0, .ref (a 0)), (1, .int m_), (2, .int what), (3, .int (d_X6_comers (F 3) (F 5) (F 6) n)), (7, .int (nI i))]) hx hb dX6_shut_166 hl (by decide) rfl (fun ls hl => ?_)
                  refine lv_iinc (v := nI (i + 1)) (lv' := [(7, .int (nI (i + 1))), (6, .int (r_9 24)), (5, .int (r_9 25)), (4, .int (nI i)), (8, .int ((up * (r_9 24)) - ((r_9 25) * al))), (0, .ref (a 0)), (1, .int m_), (2, .int what), (3, .int (d_X6_comers (F 3) (F 5) (F 6) n))]) hx hb dX6_shut_168 hl (k := 8) rfl ((nI_add i 1)) (by decide) rfl (fun ls hl => ?_)
                  refine lv_goto (tgt := 65) hx hb dX6_shut_171 (by decide) ?_
                  have hP : va_P D vwCl (wM cI cC cZ cS a (va_up (va_up F 0 r_9) 7 (upd wv 3 ((F 6 3) ||| (nI i)))) tc) H := hP
                  have hD : va_D A (wM cI cC cZ cS a (va_up (va_up F 0 r_9) 7 (upd wv 3 ((F 6 3) ||| (nI i)))) tc) := hD
                  exact ih65 (i + 1) (nI i) (r_9 25) (r_9 24) (upd wv 3 ((F 6 3) ||| (nI i))) r_9 (by omega) (by omega) (NN.of hh2.1 hh2.2.1 (by omega)) (⟨NN.of hh2.2.2.1 hh2.2.2.2.2 (by omega), by rw [cl_nI hh2.2.2.1 (by have := hh2.2.2.2.2; omega)]; exact hh2.2.2.2.1⟩) hres _ _ hP hD hS ls (lv_sub hl [5, 6, 7, 8, 3, 2, 1, 0] rfl)
                · skip
                  rw [if_neg c_10] at hres
                  refine lv_iload hx hb dX6_shut_134 (lv_at hl 0 rfl) ?_
                  refine lv_if_ne (tgt := 168) hx hb dX6_shut_136 (by decide) (fun c_11 => ?_) (fun c_11 => ?_)
                  · skip
                    rw [if_neg c_11] at hres
                    refine lv_iinc (v := nI (i + 1)) (lv' := [(7, .int (nI (i + 1))), (8, .int ((up * (r_9 24)) - ((r_9 25) * al))), (0, .ref (a 0)), (1, .int m_), (2, .int what), (3, .int (d_X6_comers (F 3) (F 5) (F 6) n)), (4, .int its), (5, .int up), (6, .int al)]) hx hb dX6_shut_168 hl (k := 8) rfl ((nI_add i 1)) (by decide) rfl (fun ls hl => ?_)
                    refine lv_goto (tgt := 65) hx hb dX6_shut_171 (by decide) ?_
                    have hP : va_P D vwCl (wM cI cC cZ cS a (va_up (va_up F 0 r_9) 7 (upd wv 3 ((F 6 3) ||| (nI i)))) tc) H := hP
                    have hD : va_D A (wM cI cC cZ cS a (va_up (va_up F 0 r_9) 7 (upd wv 3 ((F 6 3) ||| (nI i)))) tc) := hD
                    exact ih65 (i + 1) its up al (upd wv 3 ((F 6 3) ||| (nI i))) r_9 (by omega) (by omega) hup hal hres _ _ hP hD hS ls (lv_sub hl [2, 3, 4, 5, 6, 7, 8, 0] rfl)
                  · skip
                    rw [if_pos c_11] at hres
                    refine lv_iload hx hb dX6_shut_139 (lv_at hl 8 rfl) ?_
                    have hPc := hP.sub (ws' := []) [] rfl
                    have hDc := hD.sub (ws' := []) [] (by decide) rfl
                    refine m_callR (W.runS (As := [.int (nI i)]) (rest := []) ⟨hx, hb, hml, hown, hts⟩ (c_X6_ones l D cI cC cZ cS (nI i)) (va_cwS 1 hts gX6_shut_X6_ones rfl rfl rfl (by decide +kernel) ⟨Nat.le_of_ble_eq_true rfl, Nat.le_of_ble_eq_true rfl⟩) (preS_of hPc hDc hE) rfl rfl hl.1 rfl (lv_room (Nat.le_of_ble_eq_true rfl)) dX6_shut_141 ⟨Nat.zero_le _, Nat.zero_le _⟩) ?_
                    refine W.eq (g2 := F0 m 144 ls [.int (d_X6_ones (nI i))]) rfl ?_
                    refine lv_iload hx hb dX6_shut_144 (lv_at hl 5 rfl) ?_
                    have hPc := hP.sub (ws' := []) [] rfl
                    have hDc := hD.sub (ws' := []) [] (by decide) rfl
                    refine m_callR (W.runS (As := [.int its]) (rest := [.int (d_X6_ones (nI i))]) ⟨hx, hb, hml, hown, hts⟩ (c_X6_ones l D cI cC cZ cS its) (va_cwS 1 hts gX6_shut_X6_ones rfl rfl rfl (by decide +kernel) ⟨Nat.le_of_ble_eq_true rfl, Nat.le_of_ble_eq_true rfl⟩) (preS_of hPc hDc hE) rfl rfl hl.1 rfl (lv_room (Nat.le_of_ble_eq_true rfl)) dX6_shut_146 ⟨Nat.zero_le _, Nat.zero_le _⟩) ?_
                    refine W.eq (g2 := F0 m 149 ls [.int (d_X6_ones its), .int (d_X6_ones (nI i))]) rfl ?_
                    refine lv_icmp_ge (tgt := 168) hx hb dX6_shut_149 (by decide) (fun c_12 => ?_) (fun c_12 => ?_)
                    · skip
                      rw [if_pos c_12] at hres
                      refine lv_iinc (v := nI (i + 1)) (lv' := [(7, .int (nI (i + 1))), (8, .int ((up * (r_9 24)) - ((r_9 25) * al))), (0, .ref (a 0)), (1, .int m_), (2, .int what), (3, .int (d_X6_comers (F 3) (F 5) (F 6) n)), (4, .int its), (5, .int up), (6, .int al)]) hx hb dX6_shut_168 hl (k := 8) rfl ((nI_add i 1)) (by decide) rfl (fun ls hl => ?_)
                      refine lv_goto (tgt := 65) hx hb dX6_shut_171 (by decide) ?_
                      have hP : va_P D vwCl (wM cI cC cZ cS a (va_up (va_up F 0 r_9) 7 (upd wv 3 ((F 6 3) ||| (nI i)))) tc) H := hP
                      have hD : va_D A (wM cI cC cZ cS a (va_up (va_up F 0 r_9) 7 (upd wv 3 ((F 6 3) ||| (nI i)))) tc) := hD
                      exact ih65 (i + 1) its up al (upd wv 3 ((F 6 3) ||| (nI i))) r_9 (by omega) (by omega) hup hal hres _ _ hP hD hS ls (lv_sub hl [2, 3, 4, 5, 6, 7, 8, 0] rfl)
                    · skip
                      rw [if_neg c_12] at hres
                      refine lv_iload hx hb dX6_shut_152 (lv_at hl 8 rfl) ?_
                      refine lv_istore (lv' := [(4, .int (nI i)), (8, .int ((up * (r_9 24)) - ((r_9 25) * al))), (0, .ref (a 0)), (1, .int m_), (2, .int what), (3, .int (d_X6_comers (F 3) (F 5) (F 6) n)), (5, .int up), (6, .int al), (7, .int (nI i))]) hx hb dX6_shut_154 hl (by decide) rfl (fun ls hl => ?_)
                      refine lv_aload_n hx hb dX6_shut_156 rfl (lv_at hl 2 rfl) ?_
                      refine va_get (D := D) (ci := 6) (v := .int (r_9 25)) (C := RX6) (T := TX6) (N := 26) hx hb hts hinX6 hown hK hP 0 rfl rfl 25 (by decide) (hts (.fieldLink RX6 129 "FirstOutModel" "harmAll" "I") (by decide +kernel)) (fun _ h9 => h9) rfl dX6_shut_157 ?_
                      refine lv_istore (lv' := [(5, .int (r_9 25)), (4, .int (nI i)), (8, .int ((up * (r_9 24)) - ((r_9 25) * al))), (0, .ref (a 0)), (1, .int m_), (2, .int what), (3, .int (d_X6_comers (F 3) (F 5) (F 6) n)), (6, .int al), (7, .int (nI i))]) hx hb dX6_shut_160 hl (by decide) rfl (fun ls hl => ?_)
                      refine lv_aload_n hx hb dX6_shut_162 rfl (lv_at hl 3 rfl) ?_
                      refine va_get (D := D) (ci := 6) (v := .int (r_9 24)) (C := RX6) (T := TX6) (N := 26) hx hb hts hinX6 hown hK hP 0 rfl rfl 24 (by decide) (hts (.fieldLink RX6 135 "FirstOutModel" "eagerAll" "I") (by decide +kernel)) (fun _ h9 => h9) rfl dX6_shut_163 ?_
                      refine lv_istore (lv' := [(6, .int (r_9 24)), (5, .int (r_9 25)), (4, .int (nI i)), (8, .int ((up * (r_9 24)) - ((r_9 25) * al))), (0, .ref (a 0)), (1, .int m_), (2, .int what), (3, .int (d_X6_comers (F 3) (F 5) (F 6) n)), (7, .int (nI i))]) hx hb dX6_shut_166 hl (by decide) rfl (fun ls hl => ?_)
                      refine lv_iinc (v := nI (i + 1)) (lv' := [(7, .int (nI (i + 1))), (6, .int (r_9 24)), (5, .int (r_9 25)), (4, .int (nI i)), (8, .int ((up * (r_9 24)) - ((r_9 25) * al))), (0, .ref (a 0)), (1, .int m_), (2, .int what), (3, .int (d_X6_comers (F 3) (F 5) (F 6) n))]) hx hb dX6_shut_168 hl (k := 8) rfl ((nI_add i 1)) (by decide) rfl (fun ls hl => ?_)
                      refine lv_goto (tgt := 65) hx hb dX6_shut_171 (by decide) ?_
                      have hP : va_P D vwCl (wM cI cC cZ cS a (va_up (va_up F 0 r_9) 7 (upd wv 3 ((F 6 3) ||| (nI i)))) tc) H := hP
                      have hD : va_D A (wM cI cC cZ cS a (va_up (va_up F 0 r_9) 7 (upd wv 3 ((F 6 3) ||| (nI i)))) tc) := hD
                      exact ih65 (i + 1) (nI i) (r_9 25) (r_9 24) (upd wv 3 ((F 6 3) ||| (nI i))) r_9 (by omega) (by omega) (NN.of hh2.1 hh2.2.1 (by omega)) (⟨NN.of hh2.2.2.1 hh2.2.2.2.2 (by omega), by rw [cl_nI hh2.2.2.1 (by have := hh2.2.2.2.2; omega)]; exact hh2.2.2.2.1⟩) hres _ _ hP hD hS ls (lv_sub hl [5, 6, 7, 8, 3, 2, 1, 0] rfl)
      have hP : va_P D vwCl (wM cI cC cZ cS a (va_up (va_up F 0 r_4) 7 r_3) tc) _ := hP
      have hD : va_D A (wM cI cC cZ cS a (va_up (va_up F 0 r_4) 7 r_3) tc) := hD
      exact loop65 ((d_X6_comers (F 3) (F 5) (F 6) n).toNatClampNeg + 2) 1 0 (r_4 25) (r_4 24) r_3 r_4 (by omega) (by omega) (NN.of hh.1 hh.2.1 (by omega)) (⟨NN.of hh.2.2.1 hh.2.2.2.2 (by omega), by rw [cl_nI hh.2.2.1 (by have := hh.2.2.2.2; omega)]; exact hh.2.2.2.1⟩) hres _ _ hP hD hS ls (lv_sub hl [5, 6, 7, 4, 3, 2, 1, 0] rfl)
    · skip
      rw [if_pos c_2] at hres
      refine lv_iconst (v := (-1)) hx hb dX6_shut_24 (by decide) ?_
      rw [hres]
      exact W.iret (v := (-1)) hx hb hr (fun t ht hW => ⟨rfl, by rw [ht]; exact hP, by rw [hA]; exact hS.F ht⟩) hS.2.2 dX6_shut_25
