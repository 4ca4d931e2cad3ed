def DE (de : Nat → Int32) (n : Nat) : Prop := ∀ j, j < n → de j = nI (de j).toNatClampNeg ∧ (de j).toNatClampNeg ≤ 99
/-- the harm of a set, as a number -/
def hU (de ea : Nat → Int32) (set : Int32) : Nat → Nat
  | 0 => 0
  | i + 1 => hU de ea set i + (if btI set i = 0 then 0 else (de i).toNatClampNeg * (ea i).toNatClampNeg)
theorem hU_le {de ea : Nat → Int32} {n : Nat} (hd : DE de n) (he : EA ea n) (set : Int32) : ∀ {i : Nat}, i ≤ n → hU de ea set i ≤ 891 * i := by
  intro i h
  induction i with
  | zero => exact Nat.le_refl _
  | succ i ih =>
    have h1 := ih (by omega)
    have h2 : (de i).toNatClampNeg * (ea i).toNatClampNeg ≤ 99 * 9 := Nat.mul_le_mul (hd i (by omega)).2 (he i (by omega)).2
    rw [hU]
    split <;> omega
theorem dearOf_eq {de ea : Nat → Int32} {n : Nat} (hd : DE de n) (he : EA ea n) (h7 : n ≤ 7) (set : Int32) : d_X6_dearOf de ea set 1 n = nI (hU de ea set n) := by
  have h : ∀ (k i : Nat), i ≤ n → n - i < k → lp_X6_dearOf_5 de ea set 1 n k i (nI (hU de ea set i)) = nI (hU de ea set n) := by
    intro k
    induction k with
    | zero => intro i _ h; omega
    | succ k ih =>
      intro i hi hk
      rw [lp_X6_dearOf_5]
      by_cases c : nI n ≤ nI i
      · rw [if_pos c]
        have : i = n := by have := le_of c (by omega) (by omega); omega
        rw [this]
      · rw [if_neg c]
        have hlt := nlt_of c (by omega) (by omega)
        have e1 := (hd i hlt).1
        have e2 := (he i hlt).1
        by_cases c2 : btI set i = 0
        · rw [if_pos c2]
          have e3 : nI (hU de ea set i) + 0 = nI (hU de ea set (i + 1)) := by rw [hU, if_pos c2]; exact nI_add _ 0
          rw [e3]
          exact ih (i + 1) (by omega) (by omega)
        · rw [if_neg c2, if_neg (by decide)]
          have e3 : nI (hU de ea set i) + (de i * ea i) = nI (hU de ea set (i + 1)) := by rw [hU, if_neg c2, ← nI_add, ← pk_mul, ← e1, ← e2]
          rw [e3]
          exact ih (i + 1) (by omega) (by omega)
  exact h (n + 1) 0 (Nat.zero_le _) (by omega)
/-- all eager together, but 1 for 0 -/
def mx (S : Nat) : Nat := if S = 0 then 1 else S
theorem mx_pos (S : Nat) : 0 < mx S := by rw [mx]; split <;> omega
theorem mx_le {S : Nat} (h : S ≤ 63) : mx S ≤ 63 := by rw [mx]; split <;> omega
theorem harms_ok {f tr de ea g : Nat → Int32} {n : Nat} (hd : DE de n) (he : EA ea n) (h7 : n ≤ 7) :
    d_X6_harms f tr de ea g n 25 = nI (hU de ea (d_X6_comers tr ea g n &&& d_X6_covered tr g n) n) ∧ hU de ea (d_X6_comers tr ea g n &&& d_X6_covered tr g n) n ≤ 6237 ∧ d_X6_harms f tr de ea g n 24 = nI (mx (eS ea (d_X6_comers tr ea g n) n)) ∧ 0 < mx (eS ea (d_X6_comers tr ea g n) n) ∧ mx (eS ea (d_X6_comers tr ea g n) n) ≤ 63 := by
  have h1 := hU_le hd he (d_X6_comers tr ea g n &&& d_X6_covered tr g n) (Nat.le_refl n)
  have h2 := eS_le he (d_X6_comers tr ea g n) (Nat.le_refl n)
  refine ⟨?_, by omega, ?_, mx_pos _, mx_le (by omega)⟩
  · rw [d_X6_harms, ← dearOf_eq hd he h7]
    split <;> rfl
  · rw [d_X6_harms, eagerOf_eq he h7]
    by_cases c : eS ea (d_X6_comers tr ea g n) n = 0
    · rw [if_pos (by rw [c]; rfl), mx, if_pos c]; rfl
    · rw [if_neg (nI_ne0 (by omega) (by omega)), mx, if_neg c]; rfl
theorem gcd_eq {x : Int32} {aa bb : Nat} (ha : aa < 2 ^ 31) (hb : bb < 2 ^ 31) : d_X6_gcd x aa bb = nI (Nat.gcd aa bb) := by
  have h : ∀ (k xx yy : Nat), yy < k → xx < 2 ^ 31 → yy < 2 ^ 31 → lp_X6_gcd_13 x aa bb k xx yy = nI (Nat.gcd xx yy) := by
    intro k
    induction k with
    | zero => intro xx yy h; omega
    | succ k ih =>
      intro xx yy hk h1 h2
      rw [lp_X6_gcd_13]
      by_cases c : nI yy = 0
      · rw [if_pos c]
        have e : yy = 0 := (nI_eq (b := 0) h2 (by omega)).mp c
        rw [e, Nat.gcd_zero_right]
      · rw [if_neg c]
        have h0 : 0 < yy := Nat.pos_of_ne_zero (fun q => c (by rw [q]; rfl))
        have hm := Nat.mod_lt xx h0
        rw [ih yy (xx % yy) (by omega) h2 (by omega), Nat.gcd_comm yy, ← Nat.gcd_rec, Nat.gcd_comm]
  rw [d_X6_gcd]
  split <;> (rw [jn_X6_gcd_10]; exact h _ _ _ (by omega) ha hb)
theorem gcd_ne {x : Int32} {aa bb : Nat} (ha : aa < 2 ^ 31) (hb : bb < 2 ^ 31) (h0 : 0 < bb) : ¬ d_X6_gcd x aa bb = 0 := by
  rw [gcd_eq ha hb]
  have h1 := Nat.gcd_pos_of_pos_right aa h0
  have h2 := Nat.gcd_le_right aa h0
  exact nI_ne0 h1 (by omega)
theorem part_a {x : Int32} (h : -2147483648 < x.toInt) : (if 0 ≤ x then x else -x) = nI x.toInt.natAbs ∧ x.toInt.natAbs < 2 ^ 31 := by
  have hr : -2147483648 ≤ x.toInt ∧ x.toInt < 2147483648 := ⟨Int32.le_toInt x, Int32.toInt_lt x⟩
  refine ⟨?_, by omega⟩
  apply Int32.toInt_inj.mp
  rw [nI_toInt (by omega)]
  by_cases c : 0 ≤ x
  · rw [if_pos c]
    rw [Int32.le_iff_toInt_le] at c
    have : (0 : Int32).toInt = 0 := rfl
    omega
  · rw [if_neg c]
    rw [Int32.le_iff_toInt_le] at c
    have h0 : (0 : Int32).toInt = 0 := rfl
    rw [Int32.toInt_neg, Int.bmod_eq_of_le (by omega) (by omega)]
    omega
theorem part_n {x : Int32} {U : Nat} (h : x = nI U) (hU : U < 2 ^ 31) : -2147483648 < x.toInt := by rw [h, nI_toInt hU]; omega
theorem part_b {y : Int32} {E : Nat} (h : y = nI E) (hE : E < 2 ^ 31) : y = nI y.toNatClampNeg ∧ y.toNatClampNeg = E := by
  rw [cl_nI h hE]; exact ⟨h, rfl⟩

def d_X6_harm (F : Nat → Nat → Int32) (what : Int32) (n : Nat) : Int32 × (Nat → Nat → Int32) :=
  if (d_X6_in what 0 1) = 0 then
      ((-1), (va_up F 0 (upd (F 0) 0 0)))
    else
      (d_X6_part ((d_X6_harms (upd (F 0) 0 0) (F 3) (F 4) (F 5) (F 6) n) 25) ((d_X6_harms (upd (F 0) 0 0) (F 3) (F 4) (F 5) (F 6) n) 24) what ((((d_X6_harms (upd (F 0) 0 0) (F 3) (F 4) (F 5) (F 6) n) 25)).toInt.natAbs) ((((d_X6_harms (upd (F 0) 0 0) (F 3) (F 4) (F 5) (F 6) n) 24)).toNatClampNeg), (va_up F 0 (d_X6_harms (upd (F 0) 0 0) (F 3) (F 4) (F 5) (F 6) n)))
set_option maxHeartbeats 4000000 in
set_option maxRecDepth 100000 in
theorem c_X6_harm (l : Launch) (D : va_G) (cI cC cZ cS : ClassId) (a : Nat → Nat) (F : Nat → Nat → Int32) (tc : Int64) (what : Int32) (n : Nat) (hn : F 2 0 = nI n) (h7 : n ≤ 7) (hea : EA (F 5) n) (hde : DE (F 4) n) : Met l yX6_harm wsX6_harm { frames := 4, cells := 0, slots := 0, locals := 89 } (PcE D cI cC cZ cS [.ref (a 0), .int what] (wM cI cC cZ cS a F tc)) (QcM (some (.int ((d_X6_harm F what n).1))) D (wM cI cC cZ cS a F tc) (wM cI cC cZ cS a ((d_X6_harm F what n).2) tc)) 0 0 (inW (wM cI cC cZ cS a F tc)) := by
  refine Met.ofW (cc := cX6_harm) (maxL := 2) (ret := (some .int)) (by decide) rfl ?_
  intro p e s m args below meth c s₁ B hml hv
  obtain ⟨rfl, hP, hD, hE⟩ := hv
  have hK := hE.1
  have hx := B.exec
  have hb := B.bytes
  have hr := B.returns
  have hts := atoms_spec (ws := wsX6_harm) B.pre
  have hown : s.vm.findClass RX6 = some m.cls := findClass_of_methodNamed B.named
  have hlocks := B.notSynchronized
  have hinX6 : ∀ w ∈ wsX60, w ∈ wsX6_harm := by decide +kernel
  have hD := inW_self hD
  have hS : va_S (inW (wM cI cC cZ cS a F tc)) s.heap s.heap [] := va_S.rf
  generalize hA : inW (wM cI cC cZ cS a F tc) = A at hD hS ⊢
  refine opq (d_X6_harm F what n) (fun R hres => ?_)
  rw [hres]
  replace hres := hres.symm
  rw [d_X6_harm] at hres
  have hl := lv_entry ([.ref (a 0), .int what]) (n := 2) (Nat.le_of_ble_eq_true rfl)
  rw [lg_entry_eq]
  generalize (lg_sl ([.ref (a 0), .int what]) ++ List.replicate (2 - (lg_sl ([.ref (a 0), .int what])).length) Slot.unset).toArray = ls at hl ⊢
  have hl : lv_has ls 2 [(0, .ref (a 0)), (1, .int what)] := hl
  refine lv_aload_n hx hb dX6_harm_0 rfl (lv_at hl 0 rfl) ?_
  refine lv_iconst (v := 0) hx hb dX6_harm_1 (by decide) ?_
  refine va_put (D := D) (ci := 6) (v := .int 0) (ty := .int) (C := RX6) (T := TX6) (N := 26) hx hb hts hinX6 tyX6 tyX6_ok nmX6 hown hK hP hD hS 0 rfl rfl 0 (by decide) (hts (.fieldLink RX6 53 "FirstOutModel" "thrown" "I") (by decide +kernel)) (fun _ h9 => h9) rfl (by decide +kernel) rfl rfl (Nat.le_of_ble_eq_true rfl) dX6_harm_2 (fun H locs hP hD hS => ?_)
  have hP : va_P D vwCl (wM cI cC cZ cS a (va_up F 0 (upd (F 0) 0 0)) tc) H := hP
  have hD : va_D A (wM cI cC cZ cS a (va_up F 0 (upd (F 0) 0 0)) tc) := hD
  refine lv_iload_n hx hb dX6_harm_5 rfl (lv_at hl 1 rfl) ?_
  refine lv_iconst (v := 0) hx hb dX6_harm_6 (by decide) ?_
  refine lv_iconst (v := 1) hx hb dX6_harm_7 (by decide) ?_
  have hPc := hP.sub (ws' := []) [] rfl
  have hDc := hD.sub (ws' := []) [] (by decide) rfl
  refine m_callR (W.runS (As := [.int what, .int 0, .int 1]) (rest := []) ⟨hx, hb, hml, hown, hts⟩ (c_X6_in l D cI cC cZ cS what 0 1) (va_cwS 3 hts gX6_harm_X6_in rfl rfl rfl (by decide +kernel) ⟨Nat.le_of_ble_eq_true rfl, Nat.le_of_ble_eq_true rfl⟩) (preS_of hPc hDc hE) rfl rfl hl.1 rfl (lv_room (Nat.le_of_ble_eq_true rfl)) dX6_harm_8 ⟨Nat.zero_le _, Nat.zero_le _⟩) ?_
  refine W.eq (g2 := F0 m 11 ls [.int (d_X6_in what 0 1)]) rfl ?_
  refine lv_if_ne (tgt := 16) hx hb dX6_harm_11 (by decide) (fun c_1 => ?_) (fun c_1 => ?_)
  · skip
    rw [if_neg c_1] at hres
    refine lv_aload_n hx hb dX6_harm_16 rfl (lv_at hl 0 rfl) ?_
    refine lv_aload_n hx hb dX6_harm_17 rfl (lv_at hl 0 rfl) ?_
    refine va_get (D := D) (ci := 6) (v := .ref (a 6)) (C := RX6) (T := TX6) (N := 26) hx hb hts hinX6 hown hK hP 0 rfl rfl 15 (by decide) (hts (.fieldLink RX6 25 "FirstOutModel" "s" "[I") (by decide +kernel)) (fun _ h9 => h9) rfl dX6_harm_18 ?_
    have hPc := hP.sub (ws' := (w5r cI cC cZ cS a (upd (F 0) 0 0) (F 2) (F 3) (F 4) (F 5) (a 6) (F 6) tc)) [0, 2, 3, 4, 5, 6] rfl
    have hDc := hD.sub (ws' := (w5r cI cC cZ cS a (upd (F 0) 0 0) (F 2) (F 3) (F 4) (F 5) (a 6) (F 6) tc)) [0, 2, 3, 4, 5, 6] (by decide) rfl
    refine m_callM (W.runV (As := [.ref (a 6)]) (rest := []) ⟨hx, hb, hml, hown, hts⟩ (c_X6_harms l D cI cC cZ cS a (upd (F 0) 0 0) (F 2) (F 3) (F 4) (F 5) (a 6) (F 6) tc n hn h7) (cwV 1 hts gX6_harm_X6_harms rfl rfl rfl (by decide +kernel) ⟨Nat.le_of_ble_eq_true rfl, Nat.le_of_ble_eq_true rfl⟩) (preV_of hPc hDc hE (va_recv hK hPc (ci := 6) (q0 := 0) rfl rfl)) rfl rfl hl.1 rfl (lv_room (Nat.le_of_ble_eq_true rfl)) dX6_harm_21 ⟨Nat.zero_le _, Nat.zero_le _⟩) hP hD hS [0, 2, 3, 4, 5, 6] rfl w5r_ad (fun H locs hP hD hS => ?_)
    have hP : va_P D vwCl (wM cI cC cZ cS a (va_up F 0 (d_X6_harms (upd (F 0) 0 0) (F 3) (F 4) (F 5) (F 6) n)) tc) H := hP
    have hD : va_D A (wM cI cC cZ cS a (va_up F 0 (d_X6_harms (upd (F 0) 0 0) (F 3) (F 4) (F 5) (F 6) n)) tc) := hD
    refine W.eq (g2 := F0 m 24 ls []) rfl ?_
    have hh : _ := (harms_ok hde hea h7 : (d_X6_harms (upd (F 0) 0 0) (F 3) (F 4) (F 5) (F 6) n) 25 = _ ∧ _)
    refine opq (d_X6_harms (upd (F 0) 0 0) (F 3) (F 4) (F 5) (F 6) n) (fun r_2 hr_2 => ?_)
    try rw [hr_2] at hP
    try rw [hr_2] at hD
    try rw [hr_2] at hres
    try rw [hr_2] at hh
    try rw [hr_2]
    refine lv_aload_n hx hb dX6_harm_24 rfl (lv_at hl 0 rfl) ?_
    refine va_get (D := D) (ci := 6) (v := .int (r_2 25)) (C := RX6) (T := TX6) (N := 26) hx hb hts hinX6 hown hK hP 0 rfl rfl 25 (by decide) (hts (.fieldLink RX6 129 "FirstOutModel" "harmAll" "I") (by decide +kernel)) (fun _ h9 => h9) rfl dX6_harm_25 ?_
    refine lv_aload_n hx hb dX6_harm_28 rfl (lv_at hl 0 rfl) ?_
    refine va_get (D := D) (ci := 6) (v := .int (r_2 24)) (C := RX6) (T := TX6) (N := 26) hx hb hts hinX6 hown hK hP 0 rfl rfl 24 (by decide) (hts (.fieldLink RX6 135 "FirstOutModel" "eagerAll" "I") (by decide +kernel)) (fun _ h9 => h9) rfl dX6_harm_29 ?_
    refine lv_iload_n hx hb dX6_harm_32 rfl (lv_at hl 1 rfl) ?_
    have hPc := hP.sub (ws' := []) [] rfl
    have hDc := hD.sub (ws' := []) [] (by decide) rfl
    refine m_callR (W.runS (As := [.int (r_2 25), .int (r_2 24), .int what]) (rest := []) ⟨hx, hb, hml, hown, hts⟩ (c_X6_part l D cI cC cZ cS (r_2 25) (r_2 24) what (((r_2 25)).toInt.natAbs) (((r_2 24)).toNatClampNeg) ((part_a (part_n hh.1 (by have := hh.2.1; omega))).1) ((part_a (part_n hh.1 (by have := hh.2.1; omega))).2) ((part_b hh.2.2.1 (by have := hh.2.2.2.2; omega)).1) (by rw [(part_b hh.2.2.1 (by have := hh.2.2.2.2; omega)).2]; exact (by have := hh.2.2.2.2; omega)) (gcd_ne (part_a (part_n hh.1 (by have := hh.2.1; omega))).2 (by rw [(part_b hh.2.2.1 (by have := hh.2.2.2.2; omega)).2]; exact (by have := hh.2.2.2.2; omega)) (by rw [(part_b hh.2.2.1 (by have := hh.2.2.2.2; omega)).2]; exact hh.2.2.2.1))) (va_cwS 3 hts gX6_harm_X6_part rfl rfl rfl (by decide +kernel) ⟨Nat.le_of_ble_eq_true rfl, Nat.le_of_ble_eq_true rfl⟩) (preS_of hPc hDc hE) rfl rfl hl.1 rfl (lv_room (Nat.le_of_ble_eq_true rfl)) dX6_harm_33 ⟨Nat.zero_le _, Nat.zero_le _⟩) ?_
    refine W.eq (g2 := F0 m 36 ls [.int (d_X6_part (r_2 25) (r_2 24) what (((r_2 25)).toInt.natAbs) (((r_2 24)).toNatClampNeg))]) rfl ?_
    rw [hres]
    exact W.iret (v := d_X6_part (r_2 25) (r_2 24) what (((r_2 25)).toInt.natAbs) (((r_2 24)).toNatClampNeg)) hx hb hr (fun t ht hW => ⟨rfl, by rw [ht]; exact hP, by rw [hA]; exact hS.F ht⟩) hS.2.2 dX6_harm_36
  · skip
    rw [if_pos c_1] at hres
    refine lv_iconst (v := (-1)) hx hb dX6_harm_14 (by decide) ?_
    rw [hres]
    exact W.iret (v := (-1)) hx hb hr (fun t ht hW => ⟨rfl, by rw [ht]; exact hP, by rw [hA]; exact hS.F ht⟩) hS.2.2 dX6_harm_15
