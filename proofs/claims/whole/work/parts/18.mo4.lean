/-- how eager the things are, as numbers -/
def EA (ea : Nat → Int32) (n : Nat) : Prop := ∀ j, j < n → ea j = nI (ea j).toNatClampNeg ∧ (ea j).toNatClampNeg ≤ 9
abbrev btI (set : Int32) (j : Nat) : Int32 := (set >>> (nI j &&& 31)) &&& 1
def eS (ea : Nat → Int32) (set : Int32) : Nat → Nat
  | 0 => 0
  | i + 1 => eS ea set i + (if btI set i = 1 then (ea i).toNatClampNeg else 0)
theorem eS_mono (ea : Nat → Int32) (set : Int32) : ∀ {i n : Nat}, i ≤ n → eS ea set i ≤ eS ea set n := by
  intro i n h
  induction n with
  | zero => have : i = 0 := by omega
            subst this; exact Nat.le_refl _
  | succ n ih =>
    rcases Nat.lt_or_ge i (n + 1) with q | q
    · exact Nat.le_trans (ih (by omega)) (Nat.le_add_right _ _)
    · have : i = n + 1 := by omega
      subst this; exact Nat.le_refl _
theorem eS_le {ea : Nat → Int32} {n : Nat} (hE : EA ea n) (set : Int32) : ∀ {i : Nat}, i ≤ n → eS ea set i ≤ 9 * i := by
  intro i h
  induction i with
  | zero => exact Nat.le_refl _
  | succ i ih =>
    have h1 := ih (by omega)
    have h2 := (hE i (by omega)).2
    rw [eS]
    split <;> omega
theorem eS_lt {ea : Nat → Int32} {set : Int32} {i n L : Nat} (hi : i ≤ n) (h : L + eS ea set i < eS ea set n) : i < n := by
  rcases Nat.lt_or_ge i n with q | q
  · exact q
  · have : i = n := by omega
    subst this; omega
theorem eagerOf_eq {ea : Nat → Int32} {n : Nat} (hE : EA ea n) (h7 : n ≤ 7) (set : Int32) : d_X6_eagerOf ea set n = nI (eS ea set n) := by
  have h : ∀ (k i : Nat), i ≤ n → n - i < k → lp_X6_eagerOf_4 ea set n k i (nI (eS ea set i)) = nI (eS ea set n) := by
    intro k
    induction k with
    | zero => intro i _ h; omega
    | succ k ih =>
      intro i hi hk
      rw [lp_X6_eagerOf_4]
      by_cases c : nI n ≤ nI i
      · rw [if_pos c]
        have : i = n := by have := le_of c (by omega) (by omega); omega
        rw [this]
      · rw [if_neg c]
        have hlt := nlt_of c (by omega) (by omega)
        have e1 := (hE i hlt).1
        by_cases c2 : btI set i = 1
        · rw [if_pos c2]
          have e2 : nI (eS ea set i) + ea i = nI (eS ea set (i + 1)) := by rw [eS, if_pos c2, ← nI_add, ← e1]
          rw [e2]
          exact ih (i + 1) (by omega) (by omega)
        · rw [if_neg c2]
          have e2 : nI (eS ea set i) + 0 = nI (eS ea set (i + 1)) := by rw [eS, if_neg c2]; exact nI_add _ 0
          rw [e2]
          exact ih (i + 1) (by omega) (by omega)
  exact h (n + 1) 0 (Nat.zero_le _) (by omega)
/-- the draw of a day, as a number -/
def dr (z d S : Nat) : Nat := (7919 * z + 4253 * d + 1) * (7919 * z + 4253 * d + 1) % 65521 / 8 % S
theorem dr_lt {z d S : Nat} (h : 0 < S) : dr z d S < S := Nat.mod_lt _ h
theorem dr_eq {z d S : Nat} (hz : z ≤ 9999) (hd : d ≤ 1100) (hS : 0 < S) (hS2 : S ≤ 63) {x : Int64} (hx : x = 7919 * (nI z).toInt64 + 4253 * (nI d).toInt64 + 1) {w : Int64} (hw : w = (x * x - x * x / 65521 * 65521) / 8) :
    (w - w / (nI S).toInt64 * (nI S).toInt64).toInt32 = nI (dr z d S) := by
  have e1 : x = lN (7919 * z + 4253 * d + 1) := by
    rw [hx, nI_l (by omega), nI_l (by omega), show (7919 : Int64) = lN 7919 from rfl, show (4253 : Int64) = lN 4253 from rfl, lN_mul, lN_mul, lN_add, lN_1]
  have hb : 7919 * z + 4253 * d + 1 ≤ 83863182 := by omega
  have hb2 : (7919 * z + 4253 * d + 1) * (7919 * z + 4253 * d + 1) ≤ 83863182 * 83863182 := Nat.mul_le_mul hb hb
  generalize hX : 7919 * z + 4253 * d + 1 = X at *
  have e2 : w = lN (X * X % 65521 / 8) := by
    rw [hw, e1, lN_mul, show (65521 : Int64) = lN 65521 from rfl, pk_lRem (by omega) (by omega) (by omega), show (8 : Int64) = lN 8 from rfl, pk_lDiv (by omega) (by omega) (by omega)]
  have hb3 : X * X % 65521 / 8 < 2 ^ 63 := by
    have := Nat.mod_lt (X * X) (show 0 < 65521 by omega)
    omega
  rw [e2, nI_l (by omega), pk_lRem hb3 hS (by omega), lN_i]
  unfold dr
  rw [hX]
theorem bt01 (x : Int32) : x &&& 1 = 0 ∨ x &&& 1 = 1 := by
  obtain ⟨j, hj, e⟩ := pk_andE x (m := 1) 1 rfl
  rw [e]
  match j, hj with
  | 0, _ => exact Or.inl rfl
  | 1, _ => exact Or.inr rfl
theorem bt_1 {set : Int32} {i : Nat} (h : ¬ btI set i = 0) : btI set i = 1 := (bt01 _).resolve_left h
theorem sub_ea {ea : Nat → Int32} {n i L : Nat} (hE : EA ea n) (hlt : i < n) (hle : (ea i).toNatClampNeg ≤ L) : nI L - ea i = nI (L - (ea i).toNatClampNeg) := by
  rw [(hE i hlt).1, nI_clamp (by have := (hE i hlt).2; omega)]
  exact pk_sub hle
theorem bt0_next {ea : Nat → Int32} {set : Int32} {i L S : Nat} (h : L + eS ea set i < S) (c : btI set i = 0) : L + eS ea set (i + 1) < S := by
  rw [eS, if_neg (by rw [c]; decide)]
  exact h
theorem bt1_next {ea : Nat → Int32} {set : Int32} {n i L S : Nat} (hE : EA ea n) (hlt : i < n) (h : L + eS ea set i < S) (c : ¬ btI set i = 0) (hle : (ea i).toNatClampNeg ≤ L) : L - (ea i).toNatClampNeg + eS ea set (i + 1) < S := by
  rw [eS, if_pos (bt_1 c)]
  omega
theorem nlt_ea {ea : Nat → Int32} {n i L : Nat} (hE : EA ea n) (hlt : i < n) (hL : L < 2 ^ 31) (c : ¬ nI L < ea i) : (ea i).toNatClampNeg ≤ L := by
  obtain ⟨h1, h2⟩ := hE i hlt
  rw [h1, nI_ltI hL (by omega)] at c
  omega
theorem nz64 {S : Nat} (h : 0 < S) (h2 : S ≤ 63) : ¬ (nI S).toInt64 = 0 := by
  rw [nI_l (by omega), show (0 : Int64) = lN 0 from rfl, lN_eq (by omega) (by omega)]
  omega

def lp_X6_comesBy_63 (tr : Nat → Int32) (ea : Nat → Int32) (g : Nat → Int32) (n : Nat) (zz : Nat) (dd : Nat) : Nat → Nat → Nat → Int32
  | 0, _, _ => 0
  | k63 + 1, i, L => if (((d_X6_comers tr ea g n) >>> ((nI i) &&& 31)) &&& (1 : Int32)) = 0 then
      lp_X6_comesBy_63 tr ea g n zz dd k63 (i + 1) L
    else
      if (nI L) < (ea i) then
        nI i
      else
        lp_X6_comesBy_63 tr ea g n zz dd k63 (i + 1) (L - (ea i).toNatClampNeg)
def d_X6_comesBy (tr : Nat → Int32) (ea : Nat → Int32) (g : Nat → Int32) (n : Nat) (zz : Nat) (dd : Nat) : Int32 :=
  if (nI (eS ea (d_X6_comers tr ea g n) n)) = 0 then
      (-9)
    else
      lp_X6_comesBy_63 tr ea g n zz dd (n + 1) 0 (dr zz dd (eS ea (d_X6_comers tr ea g n) n))
set_option maxHeartbeats 4000000 in
set_option maxRecDepth 100000 in
theorem c_X6_comesBy (l : Launch) (D : va_G) (cI cC cZ cS : ClassId) (a : Nat → Nat) (f : Nat → Int32) (mn : Nat → Int32) (tr : Nat → Int32) (de : Nat → Int32) (ea : Nat → Int32) (rA : Nat) (g : Nat → Int32) (tc : Int64) (z : Int32) (n : Nat) (zz : Nat) (dd : Nat) (hn : mn 0 = nI n) (h7 : n ≤ 7) (hea : EA ea n) (hz : z = nI zz) (hz9 : zz ≤ 9999) (hd : g 0 = nI dd) (hd9 : dd ≤ 1100) : Met l yX6_comesBy wsX6_comesBy { frames := 3, cells := 0, slots := 0, locals := 68 } (PcE D cI cC cZ cS [.ref (a 0), .ref rA, .int z] (w5r cI cC cZ cS a f mn tr de ea rA g tc)) (QcR (some (.int (d_X6_comesBy tr ea g n zz dd)))) 0 0 (fun _ => False) := by
  refine Met.ofW (cc := cX6_comesBy) (maxL := 9) (ret := (some .int)) (by decide) rfl ?_
  intro p e s m args below meth c s₁ B hml hv
  obtain ⟨rfl, hP, hD, hE⟩ := hv
  have hK := hE.1
  have hx := B.exec
  have hb := B.bytes
  have hr := B.returns
  have hts := atoms_spec (ws := wsX6_comesBy) B.pre
  have hown : s.vm.findClass RX6 = some m.cls := findClass_of_methodNamed B.named
  have hlocks := B.notSynchronized
  have hinX6 : ∀ w ∈ wsX60, w ∈ wsX6_comesBy := by decide +kernel
  refine opq (d_X6_comesBy tr ea g n zz dd) (fun R hres => ?_)
  rw [hres]
  replace hres := hres.symm
  rw [d_X6_comesBy] at hres
  have hl := lv_entry ([.ref (a 0), .ref rA, .int z]) (n := 9) (Nat.le_of_ble_eq_true rfl)
  rw [lg_entry_eq]
  generalize (lg_sl ([.ref (a 0), .ref rA, .int z]) ++ List.replicate (9 - (lg_sl ([.ref (a 0), .ref rA, .int z])).length) Slot.unset).toArray = ls at hl ⊢
  have hl : lv_has ls 9 [(0, .ref (a 0)), (1, .ref rA), (2, .int z)] := hl
  refine lv_aload_n hx hb dX6_comesBy_0 rfl (lv_at hl 0 rfl) ?_
  refine lv_aload_n hx hb dX6_comesBy_1 rfl (lv_at hl 1 rfl) ?_
  have hPc := hP.sub (ws' := (w5r cI cC cZ cS a f mn tr de ea rA g tc)) [0, 1, 2, 3, 4, 5] rfl
  have hDc := hD.sub (ws' := (w5r cI cC cZ cS a f mn tr de ea rA g tc)) [0, 1, 2, 3, 4, 5] (by decide) rfl
  refine m_callR (W.runV (As := [.ref rA]) (rest := []) ⟨hx, hb, hml, hown, hts⟩ (c_X6_comers l D cI cC cZ cS a f mn tr de ea rA g tc n hn h7) (cwV 1 hts gX6_comesBy_X6_comers rfl rfl rfl (by decide +kernel) ⟨Nat.le_of_ble_eq_true rfl, Nat.le_of_ble_eq_true rfl⟩) (preV_of hPc hDc hE (va_recv hK hPc (ci := 6) (q0 := 0) rfl rfl)) rfl rfl hl.1 rfl (lv_room (Nat.le_of_ble_eq_true rfl)) dX6_comesBy_2 ⟨Nat.zero_le _, Nat.zero_le _⟩) ?_
  refine W.eq (g2 := F0 m 5 ls [.int (d_X6_comers tr ea g n)]) rfl ?_
  refine lv_istore_n (lv' := [(3, .int (d_X6_comers tr ea g n)), (0, .ref (a 0)), (1, .ref rA), (2, .int z)]) hx hb dX6_comesBy_5 rfl hl (by decide) rfl (fun ls hl => ?_)
  refine lv_aload_n hx hb dX6_comesBy_6 rfl (lv_at hl 1 rfl) ?_
  refine lv_iload_n hx hb dX6_comesBy_7 rfl (lv_at hl 0 rfl) ?_
  have hPc := hP.sub (ws' := (w5 cI cC cZ cS a f mn tr de ea tc)) [0, 1, 2, 3, 4] rfl
  have hDc := hD.sub (ws' := (w5 cI cC cZ cS a f mn tr de ea tc)) [0, 1, 2, 3, 4] (by decide) rfl
  refine m_callR (W.runV (As := [.int (d_X6_comers tr ea g n)]) (rest := []) ⟨hx, hb, hml, hown, hts⟩ (c_X6_eagerOf l D cI cC cZ cS a f mn tr de ea tc (d_X6_comers tr ea g n) n hn h7) (cwV 1 hts gX6_comesBy_X6_eagerOf rfl rfl rfl (by decide +kernel) ⟨Nat.le_of_ble_eq_true rfl, Nat.le_of_ble_eq_true rfl⟩) (preV_of hPc hDc hE (va_recv hK hPc (ci := 6) (q0 := 0) rfl rfl)) rfl rfl hl.1 rfl (lv_room (Nat.le_of_ble_eq_true rfl)) dX6_comesBy_8 ⟨Nat.zero_le _, Nat.zero_le _⟩) ?_
  refine W.eq (g2 := F0 m 11 ls [.int (d_X6_eagerOf ea (d_X6_comers tr ea g n) n)]) rfl ?_
  refine lv_to (show (d_X6_eagerOf ea (d_X6_comers tr ea g n) n) = nI (eS ea (d_X6_comers tr ea g n) n) from (eagerOf_eq hea h7 _)) ?_
  refine lv_istore (lv' := [(4, .int (nI (eS ea (d_X6_comers tr ea g n) n))), (3, .int (d_X6_comers tr ea g n)), (0, .ref (a 0)), (1, .ref rA), (2, .int z)]) hx hb dX6_comesBy_11 hl (by decide) rfl (fun ls hl => ?_)
  refine lv_iload hx hb dX6_comesBy_13 (lv_at hl 0 rfl) ?_
  refine lv_if_ne (tgt := 21) hx hb dX6_comesBy_15 (by decide) (fun c_1 => ?_) (fun c_1 => ?_)
  · skip
    rw [if_neg c_1] at hres
    have hpos : 0 < eS ea (d_X6_comers tr ea g n) n := Nat.pos_of_ne_zero (fun q => c_1 (by rw [q]; rfl))
    have h63 : eS ea (d_X6_comers tr ea g n) n ≤ 63 := Nat.le_trans (eS_le hea _ (Nat.le_refl n)) (by omega)
    refine lv_ldc2 hx hb hown (hts (.constantLong RX6 152 (7919)) (by decide +kernel)) dX6_comesBy_21 ?_
    refine lv_iload_n hx hb dX6_comesBy_24 rfl (lv_at hl 4 rfl) ?_
    refine lv_to (show z = nI zz from hz) ?_
    refine lv_i2l (v := ((nI zz)).toInt64) hx hb dX6_comesBy_25 rfl ?_
    refine lv_lmul hx hb dX6_comesBy_26 ?_
    refine lv_ldc2 hx hb hown (hts (.constantLong RX6 154 (4253)) (by decide +kernel)) dX6_comesBy_27 ?_
    refine lv_aload_n hx hb dX6_comesBy_30 rfl (lv_at hl 3 rfl) ?_
    refine lv_iconst (v := 0) hx hb dX6_comesBy_31 (by decide) ?_
    refine m_iald hx hb hK hP 5 0 rfl rfl 0 rfl (by decide) (by decide) dX6_comesBy_32 ?_
    refine lv_to (show _ = (g 0) from rfl) ?_
    refine lv_to (show (g 0) = nI dd from hd) ?_
    refine lv_i2l (v := ((nI dd)).toInt64) hx hb dX6_comesBy_33 rfl ?_
    refine lv_lmul hx hb dX6_comesBy_34 ?_
    refine lv_ladd hx hb dX6_comesBy_35 ?_
    refine lv_lconst (v := 1) hx hb dX6_comesBy_36 (by decide) ?_
    refine lv_ladd hx hb dX6_comesBy_37 ?_
    refine lv_lstore (lv' := [(5, .long ((((7919 : Int64) * (((nI zz)).toInt64)) + ((4253 : Int64) * (((nI dd)).toInt64))) + (1 : Int64))), (4, .int (nI (eS ea (d_X6_comers tr ea g n) n))), (3, .int (d_X6_comers tr ea g n)), (0, .ref (a 0)), (1, .ref rA), (2, .int z)]) hx hb dX6_comesBy_38 hl (by decide) rfl (fun ls hl => ?_)
    refine lv_lload hx hb dX6_comesBy_40 (lv_at hl 0 rfl) ?_
    refine lv_lload hx hb dX6_comesBy_42 (lv_at hl 0 rfl) ?_
    refine lv_lmul hx hb dX6_comesBy_44 ?_
    refine lv_ldc2 hx hb hown (hts (.constantLong RX6 156 (65521)) (by decide +kernel)) dX6_comesBy_45 ?_
    refine lv_lrem hx hb dX6_comesBy_48 (by decide) ?_
    refine lv_ldc2 hx hb hown (hts (.constantLong RX6 158 (8)) (by decide +kernel)) dX6_comesBy_49 ?_
    refine lv_ldiv hx hb dX6_comesBy_52 (by decide) ?_
    refine lv_iload hx hb dX6_comesBy_53 (lv_at hl 1 rfl) ?_
    refine lv_i2l (v := ((nI (eS ea (d_X6_comers tr ea g n) n))).toInt64) hx hb dX6_comesBy_55 rfl ?_
    refine lv_lrem hx hb dX6_comesBy_56 (nz64 hpos h63) ?_
    refine lv_l2i (v := ((((((((7919 : Int64) * (((nI zz)).toInt64)) + ((4253 : Int64) * (((nI dd)).toInt64))) + (1 : Int64)) * ((((7919 : Int64) * (((nI zz)).toInt64)) + ((4253 : Int64) * (((nI dd)).toInt64))) + (1 : Int64))) - (((((7919 : Int64) * (((nI zz)).toInt64)) + ((4253 : Int64) * (((nI dd)).toInt64))) + (1 : Int64)) * ((((7919 : Int64) * (((nI zz)).toInt64)) + ((4253 : Int64) * (((nI dd)).toInt64))) + (1 : Int64))) / (65521 : Int64) * (65521 : Int64)) / (8 : Int64)) - (((((((7919 : Int64) * (((nI zz)).toInt64)) + ((4253 : Int64) * (((nI dd)).toInt64))) + (1 : Int64)) * ((((7919 : Int64) * (((nI zz)).toInt64)) + ((4253 : Int64) * (((nI dd)).toInt64))) + (1 : Int64))) - (((((7919 : Int64) * (((nI zz)).toInt64)) + ((4253 : Int64) * (((nI dd)).toInt64))) + (1 : Int64)) * ((((7919 : Int64) * (((nI zz)).toInt64)) + ((4253 : Int64) * (((nI dd)).toInt64))) + (1 : Int64))) / (65521 : Int64) * (65521 : Int64)) / (8 : Int64)) / (((nI (eS ea (d_X6_comers tr ea g n) n))).toInt64) * (((nI (eS ea (d_X6_comers tr ea g n) n))).toInt64)).toInt32) hx hb dX6_comesBy_57 rfl ?_
    refine lv_to (show (((((((((7919 : Int64) * (((nI zz)).toInt64)) + ((4253 : Int64) * (((nI dd)).toInt64))) + (1 : Int64)) * ((((7919 : Int64) * (((nI zz)).toInt64)) + ((4253 : Int64) * (((nI dd)).toInt64))) + (1 : Int64))) - (((((7919 : Int64) * (((nI zz)).toInt64)) + ((4253 : Int64) * (((nI dd)).toInt64))) + (1 : Int64)) * ((((7919 : Int64) * (((nI zz)).toInt64)) + ((4253 : Int64) * (((nI dd)).toInt64))) + (1 : Int64))) / (65521 : Int64) * (65521 : Int64)) / (8 : Int64)) - (((((((7919 : Int64) * (((nI zz)).toInt64)) + ((4253 : Int64) * (((nI dd)).toInt64))) + (1 : Int64)) * ((((7919 : Int64) * (((nI zz)).toInt64)) + ((4253 : Int64) * (((nI dd)).toInt64))) + (1 : Int64))) - (((((7919 : Int64) * (((nI zz)).toInt64)) + ((4253 : Int64) * (((nI dd)).toInt64))) + (1 : Int64)) * ((((7919 : Int64) * (((nI zz)).toInt64)) + ((4253 : Int64) * (((nI dd)).toInt64))) + (1 : Int64))) / (65521 : Int64) * (65521 : Int64)) / (8 : Int64)) / (((nI (eS ea (d_X6_comers tr ea g n) n))).toInt64) * (((nI (eS ea (d_X6_comers tr ea g n) n))).toInt64)).toInt32) = nI (dr zz dd (eS ea (d_X6_comers tr ea g n) n)) from (dr_eq hz9 hd9 hpos h63 rfl rfl)) ?_
    refine lv_istore (lv' := [(7, .int (nI (dr zz dd (eS ea (d_X6_comers tr ea g n) n)))), (5, .long ((((7919 : Int64) * (((nI zz)).toInt64)) + ((4253 : Int64) * (((nI dd)).toInt64))) + (1 : Int64))), (4, .int (nI (eS ea (d_X6_comers tr ea g n) n))), (3, .int (d_X6_comers tr ea g n)), (0, .ref (a 0)), (1, .ref rA), (2, .int z)]) hx hb dX6_comesBy_58 hl (by decide) rfl (fun ls hl => ?_)
    refine lv_iconst (v := 0) hx hb dX6_comesBy_60 (by decide) ?_
    refine lv_istore (lv' := [(8, .int 0), (7, .int (nI (dr zz dd (eS ea (d_X6_comers tr ea g n) n)))), (5, .long ((((7919 : Int64) * (((nI zz)).toInt64)) + ((4253 : Int64) * (((nI dd)).toInt64))) + (1 : Int64))), (4, .int (nI (eS ea (d_X6_comers tr ea g n) n))), (3, .int (d_X6_comers tr ea g n)), (0, .ref (a 0)), (1, .ref rA), (2, .int z)]) hx hb dX6_comesBy_61 hl (by decide) rfl (fun ls hl => ?_)
    have loop63 : ∀ (k63 : Nat) (i : Nat) (L : Nat), n - i < k63 → i ≤ n → L + eS ea (d_X6_comers tr ea g n) i < eS ea (d_X6_comers tr ea g n) n → R = lp_X6_comesBy_63 tr ea g n zz dd k63 i L → ∀ ls : Array Slot, lv_has ls 9 [(0, .ref (a 0)), (1, .ref rA), (2, .int z), (3, .int (d_X6_comers tr ea g n)), (4, .int (nI (eS ea (d_X6_comers tr ea g n) n))), (5, .long ((((7919 : Int64) * (((nI zz)).toInt64)) + ((4253 : Int64) * (((nI dd)).toInt64))) + (1 : Int64))), (7, .int (nI L)), (8, .int (nI i))] → W p l e (headSpec wsX6_comesBy { frames := 3, cells := 0, slots := 0, locals := 68 }).room s m (([.ref (a 0), .ref rA, .int z] : List Value).toArray) below meth c s.heap [] 0 0 (MQ below (QcR (some (.int R))) (([.ref (a 0), .ref rA, .int z] : List Value).toArray) s 0 0 (fun _ => False)) (F0 m 63 ls []) := by
      intro k63
      induction k63 with
      | zero => intro i L hk; exact absurd hk (Nat.not_lt_zero _)
      | succ k63 ih63 =>
        intro i L hk63 hi hL hres ls hl
        rw [lp_X6_comesBy_63] at hres
        have hlt : i < n := eS_lt hi hL
        refine lv_iload_n hx hb dX6_comesBy_63 rfl (lv_at hl 3 rfl) ?_
        refine lv_iload hx hb dX6_comesBy_64 (lv_at hl 7 rfl) ?_
        refine lv_ishr hx hb dX6_comesBy_66 ?_
        refine lv_iconst (v := 1) hx hb dX6_comesBy_67 (by decide) ?_
        refine lv_iand hx hb dX6_comesBy_68 ?_
        refine lv_if_eq (tgt := 84) hx hb dX6_comesBy_69 (by decide) (fun c_2 => ?_) (fun c_2 => ?_)
        · skip
          rw [if_pos c_2] at hres
          have hbt0 := c_2
          refine lv_iload hx hb dX6_comesBy_84 (lv_at hl 6 rfl) ?_
          refine lv_iload_n hx hb dX6_comesBy_86 rfl (lv_at hl 3 rfl) ?_
          refine lv_iload hx hb dX6_comesBy_87 (lv_at hl 7 rfl) ?_
          refine lv_ishr hx hb dX6_comesBy_89 ?_
          refine lv_iconst (v := 1) hx hb dX6_comesBy_90 (by decide) ?_
          refine lv_iand hx hb dX6_comesBy_91 ?_
          refine lv_if_ne (tgt := 99) hx hb dX6_comesBy_92 (by decide) (fun c_3 => ?_) (fun c_3 => ?_)
          · exact absurd c_3 (fun h => h hbt0)
          · skip
            refine lv_iconst (v := 0) hx hb dX6_comesBy_95 (by decide) ?_
            refine lv_goto (tgt := 106) hx hb dX6_comesBy_96 (by decide) ?_
            refine lv_isub hx hb dX6_comesBy_106 ?_
            refine lv_to (show ((nI L) - (0 : Int32)) = nI L from (Int32.sub_zero _)) ?_
            refine lv_istore (lv' := [(7, .int (nI L)), (0, .ref (a 0)), (1, .ref rA), (2, .int z), (3, .int (d_X6_comers tr ea g n)), (4, .int (nI (eS ea (d_X6_comers tr ea g n) n))), (5, .long ((((7919 : Int64) * (((nI zz)).toInt64)) + ((4253 : Int64) * (((nI dd)).toInt64))) + (1 : Int64))), (8, .int (nI i))]) hx hb dX6_comesBy_107 hl (by decide) rfl (fun ls hl => ?_)
            refine lv_iinc (v := nI (i + 1)) (lv' := [(8, .int (nI (i + 1))), (7, .int (nI L)), (0, .ref (a 0)), (1, .ref rA), (2, .int z), (3, .int (d_X6_comers tr ea g n)), (4, .int (nI (eS ea (d_X6_comers tr ea g n) n))), (5, .long ((((7919 : Int64) * (((nI zz)).toInt64)) + ((4253 : Int64) * (((nI dd)).toInt64))) + (1 : Int64)))]) hx hb dX6_comesBy_109 hl (k := 7) rfl ((nI_add i 1)) (by decide) rfl (fun ls hl => ?_)
            refine lv_goto (tgt := 63) hx hb dX6_comesBy_112 (by decide) ?_
            exact ih63 (i + 1) L (by omega) (by omega) (bt0_next hL hbt0) hres ls (lv_sub hl [2, 3, 4, 5, 6, 7, 1, 0] rfl)
        · skip
          rw [if_neg c_2] at hres
          have hbt1 := c_2
          refine lv_iload hx hb dX6_comesBy_72 (lv_at hl 6 rfl) ?_
          refine lv_aload_n hx hb dX6_comesBy_74 rfl (lv_at hl 0 rfl) ?_
          refine va_get (D := D) (ci := 6) (v := .ref (a 5)) (C := RX6) (T := TX6) (N := 26) hx hb hts hinX6 hown hK hP 0 rfl rfl 13 (by decide) (hts (.fieldLink RX6 22 "FirstOutModel" "eager" "[I") (by decide +kernel)) (fun _ h9 => h9) rfl dX6_comesBy_75 ?_
          refine lv_iload hx hb dX6_comesBy_78 (lv_at hl 7 rfl) ?_
          refine m_iald hx hb hK hP 4 0 rfl rfl i rfl (by omega) (by decide) dX6_comesBy_80 ?_
          refine lv_to (show _ = (ea i) from rfl) ?_
          refine lv_icmp_lt (tgt := 115) hx hb dX6_comesBy_81 (by decide) (fun c_4 => ?_) (fun c_4 => ?_)
          · skip
            rw [if_pos c_4] at hres
            refine lv_iload hx hb dX6_comesBy_115 (lv_at hl 7 rfl) ?_
            rw [hres]
            exact W.iret (v := nI i) hx hb hr (fun t ht hW => ⟨rfl, ht⟩) (fun _ h => by cases h) dX6_comesBy_117
          · skip
            rw [if_neg c_4] at hres
            have hL31 : L < 2 ^ 31 := by have := eS_le hea (d_X6_comers tr ea g n) (Nat.le_refl n); omega
            have hle := nlt_ea hea hlt hL31 c_4
            refine lv_iload hx hb dX6_comesBy_84 (lv_at hl 6 rfl) ?_
            refine lv_iload_n hx hb dX6_comesBy_86 rfl (lv_at hl 3 rfl) ?_
            refine lv_iload hx hb dX6_comesBy_87 (lv_at hl 7 rfl) ?_
            refine lv_ishr hx hb dX6_comesBy_89 ?_
            refine lv_iconst (v := 1) hx hb dX6_comesBy_90 (by decide) ?_
            refine lv_iand hx hb dX6_comesBy_91 ?_
            refine lv_if_ne (tgt := 99) hx hb dX6_comesBy_92 (by decide) (fun c_5 => ?_) (fun c_5 => ?_)
            · skip
              refine lv_aload_n hx hb dX6_comesBy_99 rfl (lv_at hl 0 rfl) ?_
              refine va_get (D := D) (ci := 6) (v := .ref (a 5)) (C := RX6) (T := TX6) (N := 26) hx hb hts hinX6 hown hK hP 0 rfl rfl 13 (by decide) (hts (.fieldLink RX6 22 "FirstOutModel" "eager" "[I") (by decide +kernel)) (fun _ h9 => h9) rfl dX6_comesBy_100 ?_
              refine lv_iload hx hb dX6_comesBy_103 (lv_at hl 7 rfl) ?_
              refine m_iald hx hb hK hP 4 0 rfl rfl i rfl (by omega) (by decide) dX6_comesBy_105 ?_
              refine lv_to (show _ = (ea i) from rfl) ?_
              refine lv_isub hx hb dX6_comesBy_106 ?_
              refine lv_to (show ((nI L) - (ea i)) = nI (L - (ea i).toNatClampNeg) from (sub_ea hea hlt hle)) ?_
              refine lv_istore (lv' := [(7, .int (nI (L - (ea i).toNatClampNeg))), (0, .ref (a 0)), (1, .ref rA), (2, .int z), (3, .int (d_X6_comers tr ea g n)), (4, .int (nI (eS ea (d_X6_comers tr ea g n) n))), (5, .long ((((7919 : Int64) * (((nI zz)).toInt64)) + ((4253 : Int64) * (((nI dd)).toInt64))) + (1 : Int64))), (8, .int (nI i))]) hx hb dX6_comesBy_107 hl (by decide) rfl (fun ls hl => ?_)
              refine lv_iinc (v := nI (i + 1)) (lv' := [(8, .int (nI (i + 1))), (7, .int (nI (L - (ea i).toNatClampNeg))), (0, .ref (a 0)), (1, .ref rA), (2, .int z), (3, .int (d_X6_comers tr ea g n)), (4, .int (nI (eS ea (d_X6_comers tr ea g n) n))), (5, .long ((((7919 : Int64) * (((nI zz)).toInt64)) + ((4253 : Int64) * (((nI dd)).toInt64))) + (1 : Int64)))]) hx hb dX6_comesBy_109 hl (k := 7) rfl ((nI_add i 1)) (by decide) rfl (fun ls hl => ?_)
              refine lv_goto (tgt := 63) hx hb dX6_comesBy_112 (by decide) ?_
              exact ih63 (i + 1) (L - (ea i).toNatClampNeg) (by omega) (by omega) (bt1_next hea hlt hL hbt1 hle) hres ls (lv_sub hl [2, 3, 4, 5, 6, 7, 1, 0] rfl)
            · exact absurd c_5 hbt1
    exact loop63 (n + 1) 0 (dr zz dd (eS ea (d_X6_comers tr ea g n) n)) (by omega) (Nat.zero_le _) (dr_lt hpos) hres ls (lv_sub hl [5, 6, 7, 4, 3, 2, 1, 0] rfl)
  · skip
    rw [if_pos c_1] at hres
    refine lv_bipush (v := (-9)) hx hb dX6_comesBy_18 (by decide) ?_
    rw [hres]
    exact W.iret (v := (-9)) hx hb hr (fun t ht hW => ⟨rfl, ht⟩) (fun _ h => by cases h) dX6_comesBy_20
