theorem ne10 {u : Nat} (c : ¬ nI u = 10) (h : u ≤ 10) : u ≤ 9 := by
  rcases Nat.lt_or_ge u 10 with q | q
  · omega
  · have e : u = 10 := by omega
    subst e; exact absurd rfl c
theorem isThing_ok {mn : Nat → Int32} {t : Int32} {n : Nat} (c : ¬ d_X6_isThing t n = 0) (h7 : n ≤ 7) : t = nI t.toNatClampNeg ∧ t.toNatClampNeg < n := by
  rw [d_X6_isThing] at c
  obtain ⟨c1, c2⟩ := in_ok c
  obtain ⟨j, hj, rfl⟩ := nI_of c1
  rw [nI_clamp hj]
  refine ⟨rfl, ?_⟩
  rcases Nat.eq_zero_or_pos n with q | q
  · subst q
    exfalso
    rw [show nI 0 - (1 : Int32) = -1 from rfl, Int32.le_iff_toInt_le, nI_toInt hj] at c2
    have : (-1 : Int32).toInt = -1 := rfl
    omega
  · rw [show (1 : Int32) = nI 1 from rfl, pk_sub q, nI_leI hj (by omega)] at c2
    omega
theorem what_ix {x : Int32} (h0 : ¬ x < 0) (h : x ≤ 7) (h3 : (3 : Int32) ≤ x) (h6 : ¬ x = 6) (h7 : ¬ x = 7) : x - 1 = nI (x - 1).toNatClampNeg ∧ (x - 1).toNatClampNeg < 5 := by
  obtain ⟨j, hj, rfl⟩ := nI_of h0
  have h1 := (nI_leI (b := 7) hj (by omega)).mp h
  have h2 := (nI_leI (a := 3) (by omega) hj).mp h3
  match j, h1, h2 with
  | 3, _, _ => exact ⟨rfl, by decide⟩
  | 4, _, _ => exact ⟨rfl, by decide⟩
  | 5, _, _ => exact ⟨rfl, by decide⟩
  | 6, _, _ => exact absurd rfl h6
  | 7, _, _ => exact absurd rfl h7
theorem what_ix2 {x : Int32} (h0 : ¬ x < 0) (h : ¬ (2 : Int32) ≤ x) : x = nI x.toNatClampNeg ∧ x.toNatClampNeg < 2 := by
  obtain ⟨j, hj, rfl⟩ := nI_of h0
  have h1 := nlt_of (b := 2) h hj (by omega)
  rw [nI_clamp hj]
  exact ⟨rfl, h1⟩

def lp_X6_settles_36 (F : Nat → Nat → Int32) : Nat → Nat → (Nat → Int32) → (Nat → Int32) → (Nat → Int32) → (Nat → Int32) → (Nat → Int32) → (Nat → Nat → Int32)
  | 0, _, _, _, _, _, _ => F
  | k36 + 1, k, tv, dv, ev, mv, sv => if (7 : Int32) ≤ (nI k) then
      (va_up (va_up (va_up (va_up (va_up (va_up (va_up F 0 (upd (upd (upd (F 0) 3 0) 23 0) 20 0)) 2 mv) 3 tv) 4 dv) 5 ev) 6 (upd (upd sv 1 (mv 4)) 2 (F 0 14))) 9 (upd (upd (F 9) 0 0) 1 0))
    else
      lp_X6_settles_36 F k36 (k + 1) (upd tv k (tv (7 + k))) (upd dv k (dv (7 + k))) (upd ev k (ev (7 + k))) mv sv
def lp_X6_settles_2 (F : Nat → Nat → Int32) : Nat → Nat → (Nat → Int32) → (Nat → Int32) → (Nat → Nat → Int32)
  | 0, _, _, _ => F
  | k2 + 1, k, mv, sv => if (5 : Int32) ≤ (nI k) then
      lp_X6_settles_36 F 8 0 (F 3) (F 4) (F 5) mv sv
    else
      lp_X6_settles_2 F k2 (k + 1) (upd mv k (mv (5 + k))) (upd sv k 0)
def d_X6_settles (F : Nat → Nat → Int32) : (Nat → Nat → Int32) :=
  lp_X6_settles_2 F 6 0 (F 2) (F 6)
set_option maxHeartbeats 4000000 in
set_option maxRecDepth 100000 in
theorem c_X6_settles (l : Launch) (D : va_G) (cI cC cZ cS : ClassId) (a : Nat → Nat) (F : Nat → Nat → Int32) (tc : Int64) : Met l yX6_settles wsX6_settles { frames := 0, cells := 0, slots := 0, locals := 0 } (PcE D cI cC cZ cS [.ref (a 0)] (wM cI cC cZ cS a F tc)) (QcM none D (wM cI cC cZ cS a F tc) (wM cI cC cZ cS a (d_X6_settles F) tc)) 0 0 (inW (wM cI cC cZ cS a F tc)) := by
  refine Met.ofW (cc := cX6_settles) (maxL := 2) (ret := none) (by decide) rfl ?_
  intro p e s m args below meth c s₁ B hml hv
  obtain ⟨rfl, hP, hD, hE⟩ := hv
  have hK := hE.1
  have hx := B.exec
  have hb := B.bytes
  have hr := B.returns
  have hts := atoms_spec (ws := wsX6_settles) B.pre
  have hown : s.vm.findClass RX6 = some m.cls := findClass_of_methodNamed B.named
  have hlocks := B.notSynchronized
  have hinX6 : ∀ w ∈ wsX60, w ∈ wsX6_settles := by decide +kernel
  have hD := inW_self hD
  have hS : va_S (inW (wM cI cC cZ cS a F tc)) s.heap s.heap [] := va_S.rf
  generalize hA : inW (wM cI cC cZ cS a F tc) = A at hD hS ⊢
  refine opq (d_X6_settles F) (fun R hres => ?_)
  rw [hres]
  replace hres := hres.symm
  rw [d_X6_settles] at hres
  have hl := lv_entry ([.ref (a 0)]) (n := 2) (Nat.le_of_ble_eq_true rfl)
  rw [lg_entry_eq]
  generalize (lg_sl ([.ref (a 0)]) ++ List.replicate (2 - (lg_sl ([.ref (a 0)])).length) Slot.unset).toArray = ls at hl ⊢
  have hl : lv_has ls 2 [(0, .ref (a 0))] := hl
  refine lv_iconst (v := 0) hx hb dX6_settles_0 (by decide) ?_
  refine lv_istore_n (lv' := [(1, .int 0), (0, .ref (a 0))]) hx hb dX6_settles_1 rfl hl (by decide) rfl (fun ls hl => ?_)
  have loop2 : ∀ (k2 : Nat) (k : Nat) (mv : Nat → Int32) (sv : Nat → Int32), 5 - k < k2 → k ≤ 5 → R = lp_X6_settles_2 F k2 k mv sv → ∀ (H : Heap) (locs : List Loc), va_P D vwCl (wM cI cC cZ cS a (va_up (va_up F 2 mv) 6 sv) tc) H → va_D A (wM cI cC cZ cS a (va_up (va_up F 2 mv) 6 sv) tc) → va_S A s.heap H locs → ∀ ls : Array Slot, lv_has ls 2 [(0, .ref (a 0)), (1, .int (nI k))] → W p l e (headSpec wsX6_settles { frames := 0, cells := 0, slots := 0, locals := 0 }).room s m (([.ref (a 0)] : List Value).toArray) below meth c H locs 0 0 (MQ below (QcM none D (wM cI cC cZ cS a F tc) (wM cI cC cZ cS a R tc)) (([.ref (a 0)] : List Value).toArray) s 0 0 A) (F0 m 2 ls []) := by
    intro k2
    induction k2 with
    | zero => intro k mv sv hk; exact absurd hk (Nat.not_lt_zero _)
    | succ k2 ih2 =>
      intro k mv sv hk2 hk hres H locs hP hD hS ls hl
      rw [lp_X6_settles_2] at hres
      refine lv_iload_n hx hb dX6_settles_2 rfl (lv_at hl 1 rfl) ?_
      refine lv_iconst (v := 5) hx hb dX6_settles_3 (by decide) ?_
      refine lv_icmp_ge (tgt := 34) hx hb dX6_settles_4 (by decide) (fun c_1 => ?_) (fun c_1 => ?_)
      · skip
        rw [if_pos c_1] at hres
        refine lv_iconst (v := 0) hx hb dX6_settles_34 (by decide) ?_
        refine lv_istore_n (lv' := [(1, .int 0), (0, .ref (a 0))]) hx hb dX6_settles_35 rfl hl (by decide) rfl (fun ls hl => ?_)
        have loop36 : ∀ (k36 : Nat) (k : Nat) (tv : Nat → Int32) (dv : Nat → Int32) (ev : Nat → Int32) (mv : Nat → Int32) (sv : Nat → Int32), 7 - k < k36 → k ≤ 7 → R = lp_X6_settles_36 F k36 k tv dv ev mv sv → ∀ (H : Heap) (locs : List Loc), va_P D vwCl (wM cI cC cZ cS a (va_up (va_up (va_up (va_up (va_up F 2 mv) 3 tv) 4 dv) 5 ev) 6 sv) tc) H → va_D A (wM cI cC cZ cS a (va_up (va_up (va_up (va_up (va_up F 2 mv) 3 tv) 4 dv) 5 ev) 6 sv) tc) → va_S A s.heap H locs → ∀ ls : Array Slot, lv_has ls 2 [(0, .ref (a 0)), (1, .int (nI k))] → W p l e (headSpec wsX6_settles { frames := 0, cells := 0, slots := 0, locals := 0 }).room s m (([.ref (a 0)] : List Value).toArray) below meth c H locs 0 0 (MQ below (QcM none D (wM cI cC cZ cS a F tc) (wM cI cC cZ cS a R tc)) (([.ref (a 0)] : List Value).toArray) s 0 0 A) (F0 m 36 ls []) := by
          intro k36
          induction k36 with
          | zero => intro k tv dv ev mv sv hk; exact absurd hk (Nat.not_lt_zero _)
          | succ k36 ih36 =>
            intro k tv dv ev mv sv hk36 hk hres H locs hP hD hS ls hl
            rw [lp_X6_settles_36] at hres
            refine lv_iload_n hx hb dX6_settles_36 rfl (lv_at hl 1 rfl) ?_
            refine lv_bipush (v := 7) hx hb dX6_settles_37 (by decide) ?_
            refine lv_icmp_ge (tgt := 93) hx hb dX6_settles_39 (by decide) (fun c_2 => ?_) (fun c_2 => ?_)
            · skip
              rw [if_pos c_2] at hres
              refine lv_aload_n hx hb dX6_settles_93 rfl (lv_at hl 0 rfl) ?_
              refine va_get (D := D) (ci := 6) (v := .ref (a 6)) (C := RX6) (T := TX6) (N := 26) hx hb hts hinX6 hown hK hP 0 rfl rfl 15 (by decide) (hts (.fieldLink RX6 25 "FirstOutModel" "s" "[I") (by decide +kernel)) (fun _ h9 => h9) rfl dX6_settles_94 ?_
              refine lv_iconst (v := 1) hx hb dX6_settles_97 (by decide) ?_
              refine lv_aload_n hx hb dX6_settles_98 rfl (lv_at hl 0 rfl) ?_
              refine va_get (D := D) (ci := 6) (v := .ref (a 2)) (C := RX6) (T := TX6) (N := 26) hx hb hts hinX6 hown hK hP 0 rfl rfl 9 (by decide) (hts (.fieldLink RX6 13 "FirstOutModel" "many" "[I") (by decide +kernel)) (fun _ h9 => h9) rfl dX6_settles_99 ?_
              refine lv_iconst (v := 4) hx hb dX6_settles_102 (by decide) ?_
              refine m_iald hx hb hK hP 2 0 rfl rfl 4 rfl (by decide) (by decide) dX6_settles_103 ?_
              refine lv_to (show _ = (mv 4) from rfl) ?_
              refine m_iast hx hb hK hP hD hS 6 0 rfl rfl 1 rfl (by decide) (by decide) dX6_settles_104 (fun H locs hP hD hS => ?_)
              have hP : va_P D vwCl (wM cI cC cZ cS a (va_up (va_up (va_up (va_up (va_up F 2 mv) 3 tv) 4 dv) 5 ev) 6 (upd sv 1 (mv 4))) tc) H := hP
              have hD : va_D A (wM cI cC cZ cS a (va_up (va_up (va_up (va_up (va_up F 2 mv) 3 tv) 4 dv) 5 ev) 6 (upd sv 1 (mv 4))) tc) := hD
              refine lv_aload_n hx hb dX6_settles_105 rfl (lv_at hl 0 rfl) ?_
              refine va_get (D := D) (ci := 6) (v := .ref (a 6)) (C := RX6) (T := TX6) (N := 26) hx hb hts hinX6 hown hK hP 0 rfl rfl 15 (by decide) (hts (.fieldLink RX6 25 "FirstOutModel" "s" "[I") (by decide +kernel)) (fun _ h9 => h9) rfl dX6_settles_106 ?_
              refine lv_iconst (v := 2) hx hb dX6_settles_109 (by decide) ?_
              refine lv_aload_n hx hb dX6_settles_110 rfl (lv_at hl 0 rfl) ?_
              refine va_get (D := D) (ci := 6) (v := .int (F 0 14)) (C := RX6) (T := TX6) (N := 26) hx hb hts hinX6 hown hK hP 0 rfl rfl 14 (by decide) (hts (.fieldLink RX6 97 "FirstOutModel" "knowing" "I") (by decide +kernel)) (fun _ h9 => h9) rfl dX6_settles_111 ?_
              refine m_iast hx hb hK hP hD hS 6 0 rfl rfl 2 rfl (by decide) (by decide) dX6_settles_114 (fun H locs hP hD hS => ?_)
              have hP : va_P D vwCl (wM cI cC cZ cS a (va_up (va_up (va_up (va_up (va_up F 2 mv) 3 tv) 4 dv) 5 ev) 6 (upd (upd sv 1 (mv 4)) 2 (F 0 14))) tc) H := hP
              have hD : va_D A (wM cI cC cZ cS a (va_up (va_up (va_up (va_up (va_up F 2 mv) 3 tv) 4 dv) 5 ev) 6 (upd (upd sv 1 (mv 4)) 2 (F 0 14))) tc) := hD
              refine lv_aload_n hx hb dX6_settles_115 rfl (lv_at hl 0 rfl) ?_
              refine lv_iconst (v := 0) hx hb dX6_settles_116 (by decide) ?_
              refine va_put (D := D) (ci := 6) (v := .int 0) (ty := .int) (C := RX6) (T := TX6) (N := 26) hx hb hts hinX6 tyX6 tyX6_ok nmX6 hown hK hP hD hS 0 rfl rfl 3 (by decide) (hts (.fieldLink RX6 61 "FirstOutModel" "typed" "I") (by decide +kernel)) (fun _ h9 => h9) rfl (by decide +kernel) rfl rfl (Nat.le_of_ble_eq_true rfl) dX6_settles_117 (fun H locs hP hD hS => ?_)
              have hP : va_P D vwCl (wM cI cC cZ cS a (va_up (va_up (va_up (va_up (va_up (va_up F 0 (upd (F 0) 3 0)) 2 mv) 3 tv) 4 dv) 5 ev) 6 (upd (upd sv 1 (mv 4)) 2 (F 0 14))) tc) H := hP
              have hD : va_D A (wM cI cC cZ cS a (va_up (va_up (va_up (va_up (va_up (va_up F 0 (upd (F 0) 3 0)) 2 mv) 3 tv) 4 dv) 5 ev) 6 (upd (upd sv 1 (mv 4)) 2 (F 0 14))) tc) := hD
              refine lv_aload_n hx hb dX6_settles_120 rfl (lv_at hl 0 rfl) ?_
              refine lv_iconst (v := 0) hx hb dX6_settles_121 (by decide) ?_
              refine va_put (D := D) (ci := 6) (v := .int 0) (ty := .int) (C := RX6) (T := TX6) (N := 26) hx hb hts hinX6 tyX6 tyX6_ok nmX6 hown hK hP hD hS 0 rfl rfl 23 (by decide) (hts (.fieldLink RX6 108 "FirstOutModel" "sawMany" "I") (by decide +kernel)) (fun _ h9 => h9) rfl (by decide +kernel) rfl rfl (Nat.le_of_ble_eq_true rfl) dX6_settles_122 (fun H locs hP hD hS => ?_)
              have hP : va_P D vwCl (wM cI cC cZ cS a (va_up (va_up (va_up (va_up (va_up (va_up F 0 (upd (upd (F 0) 3 0) 23 0)) 2 mv) 3 tv) 4 dv) 5 ev) 6 (upd (upd sv 1 (mv 4)) 2 (F 0 14))) tc) H := hP
              have hD : va_D A (wM cI cC cZ cS a (va_up (va_up (va_up (va_up (va_up (va_up F 0 (upd (upd (F 0) 3 0) 23 0)) 2 mv) 3 tv) 4 dv) 5 ev) 6 (upd (upd sv 1 (mv 4)) 2 (F 0 14))) tc) := hD
              refine lv_aload_n hx hb dX6_settles_125 rfl (lv_at hl 0 rfl) ?_
              refine lv_iconst (v := 0) hx hb dX6_settles_126 (by decide) ?_
              refine va_put (D := D) (ci := 6) (v := .int 0) (ty := .int) (C := RX6) (T := TX6) (N := 26) hx hb hts hinX6 tyX6 tyX6_ok nmX6 hown hK hP hD hS 0 rfl rfl 20 (by decide) (hts (.fieldLink RX6 111 "FirstOutModel" "undoMany" "I") (by decide +kernel)) (fun _ h9 => h9) rfl (by decide +kernel) rfl rfl (Nat.le_of_ble_eq_true rfl) dX6_settles_127 (fun H locs hP hD hS => ?_)
              have hP : va_P D vwCl (wM cI cC cZ cS a (va_up (va_up (va_up (va_up (va_up (va_up F 0 (upd (upd (upd (F 0) 3 0) 23 0) 20 0)) 2 mv) 3 tv) 4 dv) 5 ev) 6 (upd (upd sv 1 (mv 4)) 2 (F 0 14))) tc) H := hP
              have hD : va_D A (wM cI cC cZ cS a (va_up (va_up (va_up (va_up (va_up (va_up F 0 (upd (upd (upd (F 0) 3 0) 23 0) 20 0)) 2 mv) 3 tv) 4 dv) 5 ev) 6 (upd (upd sv 1 (mv 4)) 2 (F 0 14))) tc) := hD
              refine lv_aload_n hx hb dX6_settles_130 rfl (lv_at hl 0 rfl) ?_
              refine va_get (D := D) (ci := 6) (v := .ref (a 9)) (C := RX6) (T := TX6) (N := 26) hx hb hts hinX6 hown hK hP 0 rfl rfl 18 (by decide) (hts (.fieldLink RX6 34 "FirstOutModel" "isKept" "[Z") (by decide +kernel)) (fun _ h9 => h9) rfl dX6_settles_131 ?_
              refine lv_iconst (v := 0) hx hb dX6_settles_134 (by decide) ?_
              refine lv_iconst (v := 0) hx hb dX6_settles_135 (by decide) ?_
              refine m_zast (y := 0) hx hb hK hP hD hS 9 2 rfl rfl 0 rfl (by decide) (by decide) rfl dX6_settles_136 (fun H locs hP hD hS => ?_)
              have hP : va_P D vwCl (wM cI cC cZ cS a (va_up (va_up (va_up (va_up (va_up (va_up (va_up F 0 (upd (upd (upd (F 0) 3 0) 23 0) 20 0)) 2 mv) 3 tv) 4 dv) 5 ev) 6 (upd (upd sv 1 (mv 4)) 2 (F 0 14))) 9 (upd (F 9) 0 0)) tc) H := hP
              have hD : va_D A (wM cI cC cZ cS a (va_up (va_up (va_up (va_up (va_up (va_up (va_up F 0 (upd (upd (upd (F 0) 3 0) 23 0) 20 0)) 2 mv) 3 tv) 4 dv) 5 ev) 6 (upd (upd sv 1 (mv 4)) 2 (F 0 14))) 9 (upd (F 9) 0 0)) tc) := hD
              refine lv_aload_n hx hb dX6_settles_137 rfl (lv_at hl 0 rfl) ?_
              refine va_get (D := D) (ci := 6) (v := .ref (a 9)) (C := RX6) (T := TX6) (N := 26) hx hb hts hinX6 hown hK hP 0 rfl rfl 18 (by decide) (hts (.fieldLink RX6 34 "FirstOutModel" "isKept" "[Z") (by decide +kernel)) (fun _ h9 => h9) rfl dX6_settles_138 ?_
              refine lv_iconst (v := 1) hx hb dX6_settles_141 (by decide) ?_
              refine lv_iconst (v := 0) hx hb dX6_settles_142 (by decide) ?_
              refine m_zast (y := 0) hx hb hK hP hD hS 9 2 rfl rfl 1 rfl (by decide) (by decide) rfl dX6_settles_143 (fun H locs hP hD hS => ?_)
              have hP : va_P D vwCl (wM cI cC cZ cS a (va_up (va_up (va_up (va_up (va_up (va_up (va_up F 0 (upd (upd (upd (F 0) 3 0) 23 0) 20 0)) 2 mv) 3 tv) 4 dv) 5 ev) 6 (upd (upd sv 1 (mv 4)) 2 (F 0 14))) 9 (upd (upd (F 9) 0 0) 1 0)) tc) H := hP
              have hD : va_D A (wM cI cC cZ cS a (va_up (va_up (va_up (va_up (va_up (va_up (va_up F 0 (upd (upd (upd (F 0) 3 0) 23 0) 20 0)) 2 mv) 3 tv) 4 dv) 5 ev) 6 (upd (upd sv 1 (mv 4)) 2 (F 0 14))) 9 (upd (upd (F 9) 0 0) 1 0)) tc) := hD
              rw [hres]
              exact W.vret hx hb hr (fun t ht hW => ⟨rfl, by rw [ht]; exact hP, by rw [hA]; exact hS.F ht⟩) hS.2.2 dX6_settles_144
            · skip
              rw [if_neg c_2] at hres
              have hlt : k < 7 := nlt_of (b := 7) c_2 (by omega) (by omega)
              refine lv_aload_n hx hb dX6_settles_42 rfl (lv_at hl 0 rfl) ?_
              refine va_get (D := D) (ci := 6) (v := .ref (a 3)) (C := RX6) (T := TX6) (N := 26) hx hb hts hinX6 hown hK hP 0 rfl rfl 11 (by decide) (hts (.fieldLink RX6 16 "FirstOutModel" "traits" "[I") (by decide +kernel)) (fun _ h9 => h9) rfl dX6_settles_43 ?_
              refine lv_iload_n hx hb dX6_settles_46 rfl (lv_at hl 1 rfl) ?_
              refine lv_aload_n hx hb dX6_settles_47 rfl (lv_at hl 0 rfl) ?_
              refine va_get (D := D) (ci := 6) (v := .ref (a 3)) (C := RX6) (T := TX6) (N := 26) hx hb hts hinX6 hown hK hP 0 rfl rfl 11 (by decide) (hts (.fieldLink RX6 16 "FirstOutModel" "traits" "[I") (by decide +kernel)) (fun _ h9 => h9) rfl dX6_settles_48 ?_
              refine lv_bipush (v := 7) hx hb dX6_settles_51 (by decide) ?_
              refine lv_iload_n hx hb dX6_settles_53 rfl (lv_at hl 1 rfl) ?_
              refine lv_iadd hx hb dX6_settles_54 ?_
              refine m_iald hx hb hK hP 3 0 rfl rfl (7 + k) (nI_add 7 k) (by omega) (by decide) dX6_settles_55 ?_
              refine lv_to (show _ = (tv (7 + k)) from rfl) ?_
              refine m_iast hx hb hK hP hD hS 3 0 rfl rfl k rfl (by omega) (by decide) dX6_settles_56 (fun H locs hP hD hS => ?_)
              have hP : va_P D vwCl (wM cI cC cZ cS a (va_up (va_up (va_up (va_up (va_up F 2 mv) 3 (upd tv k (tv (7 + k)))) 4 dv) 5 ev) 6 sv) tc) H := hP
              have hD : va_D A (wM cI cC cZ cS a (va_up (va_up (va_up (va_up (va_up F 2 mv) 3 (upd tv k (tv (7 + k)))) 4 dv) 5 ev) 6 sv) tc) := hD
              refine lv_aload_n hx hb dX6_settles_57 rfl (lv_at hl 0 rfl) ?_
              refine va_get (D := D) (ci := 6) (v := .ref (a 4)) (C := RX6) (T := TX6) (N := 26) hx hb hts hinX6 hown hK hP 0 rfl rfl 12 (by decide) (hts (.fieldLink RX6 19 "FirstOutModel" "dear" "[I") (by decide +kernel)) (fun _ h9 => h9) rfl dX6_settles_58 ?_
              refine lv_iload_n hx hb dX6_settles_61 rfl (lv_at hl 1 rfl) ?_
              refine lv_aload_n hx hb dX6_settles_62 rfl (lv_at hl 0 rfl) ?_
              refine va_get (D := D) (ci := 6) (v := .ref (a 4)) (C := RX6) (T := TX6) (N := 26) hx hb hts hinX6 hown hK hP 0 rfl rfl 12 (by decide) (hts (.fieldLink RX6 19 "FirstOutModel" "dear" "[I") (by decide +kernel)) (fun _ h9 => h9) rfl dX6_settles_63 ?_
              refine lv_bipush (v := 7) hx hb dX6_settles_66 (by decide) ?_
              refine lv_iload_n hx hb dX6_settles_68 rfl (lv_at hl 1 rfl) ?_
              refine lv_iadd hx hb dX6_settles_69 ?_
              refine m_iald hx hb hK hP 4 0 rfl rfl (7 + k) (nI_add 7 k) (by omega) (by decide) dX6_settles_70 ?_
              refine lv_to (show _ = (dv (7 + k)) from rfl) ?_
              refine m_iast hx hb hK hP hD hS 4 0 rfl rfl k rfl (by omega) (by decide) dX6_settles_71 (fun H locs hP hD hS => ?_)
              have hP : va_P D vwCl (wM cI cC cZ cS a (va_up (va_up (va_up (va_up (va_up F 2 mv) 3 (upd tv k (tv (7 + k)))) 4 (upd dv k (dv (7 + k)))) 5 ev) 6 sv) tc) H := hP
              have hD : va_D A (wM cI cC cZ cS a (va_up (va_up (va_up (va_up (va_up F 2 mv) 3 (upd tv k (tv (7 + k)))) 4 (upd dv k (dv (7 + k)))) 5 ev) 6 sv) tc) := hD
              refine lv_aload_n hx hb dX6_settles_72 rfl (lv_at hl 0 rfl) ?_
              refine va_get (D := D) (ci := 6) (v := .ref (a 5)) (C := RX6) (T := TX6) (N := 26) hx hb hts hinX6 hown hK hP 0 rfl rfl 13 (by decide) (hts (.fieldLink RX6 22 "FirstOutModel" "eager" "[I") (by decide +kernel)) (fun _ h9 => h9) rfl dX6_settles_73 ?_
              refine lv_iload_n hx hb dX6_settles_76 rfl (lv_at hl 1 rfl) ?_
              refine lv_aload_n hx hb dX6_settles_77 rfl (lv_at hl 0 rfl) ?_
              refine va_get (D := D) (ci := 6) (v := .ref (a 5)) (C := RX6) (T := TX6) (N := 26) hx hb hts hinX6 hown hK hP 0 rfl rfl 13 (by decide) (hts (.fieldLink RX6 22 "FirstOutModel" "eager" "[I") (by decide +kernel)) (fun _ h9 => h9) rfl dX6_settles_78 ?_
              refine lv_bipush (v := 7) hx hb dX6_settles_81 (by decide) ?_
              refine lv_iload_n hx hb dX6_settles_83 rfl (lv_at hl 1 rfl) ?_
              refine lv_iadd hx hb dX6_settles_84 ?_
              refine m_iald hx hb hK hP 5 0 rfl rfl (7 + k) (nI_add 7 k) (by omega) (by decide) dX6_settles_85 ?_
              refine lv_to (show _ = (ev (7 + k)) from rfl) ?_
              refine m_iast hx hb hK hP hD hS 5 0 rfl rfl k rfl (by omega) (by decide) dX6_settles_86 (fun H locs hP hD hS => ?_)
              have hP : va_P D vwCl (wM cI cC cZ cS a (va_up (va_up (va_up (va_up (va_up F 2 mv) 3 (upd tv k (tv (7 + k)))) 4 (upd dv k (dv (7 + k)))) 5 (upd ev k (ev (7 + k)))) 6 sv) tc) H := hP
              have hD : va_D A (wM cI cC cZ cS a (va_up (va_up (va_up (va_up (va_up F 2 mv) 3 (upd tv k (tv (7 + k)))) 4 (upd dv k (dv (7 + k)))) 5 (upd ev k (ev (7 + k)))) 6 sv) tc) := hD
              refine lv_iinc (v := nI (k + 1)) (lv' := [(1, .int (nI (k + 1))), (0, .ref (a 0))]) hx hb dX6_settles_87 hl (k := 1) rfl ((nI_add k 1)) (by decide) rfl (fun ls hl => ?_)
              refine lv_goto (tgt := 36) hx hb dX6_settles_90 (by decide) ?_
              have hP : va_P D vwCl (wM cI cC cZ cS a (va_up (va_up (va_up (va_up (va_up F 2 mv) 3 (upd tv k (tv (7 + k)))) 4 (upd dv k (dv (7 + k)))) 5 (upd ev k (ev (7 + k)))) 6 sv) tc) H := hP
              have hD : va_D A (wM cI cC cZ cS a (va_up (va_up (va_up (va_up (va_up F 2 mv) 3 (upd tv k (tv (7 + k)))) 4 (upd dv k (dv (7 + k)))) 5 (upd ev k (ev (7 + k)))) 6 sv) tc) := hD
              exact ih36 (k + 1) (upd tv k (tv (7 + k))) (upd dv k (dv (7 + k))) (upd ev k (ev (7 + k))) mv sv (by omega) (by omega) hres _ _ hP hD hS ls (lv_sub hl [1, 0] rfl)
        have hP : va_P D vwCl (wM cI cC cZ cS a (va_up (va_up F 2 mv) 6 sv) tc) _ := hP
        have hD : va_D A (wM cI cC cZ cS a (va_up (va_up F 2 mv) 6 sv) tc) := hD
        exact loop36 8 0 (F 3) (F 4) (F 5) mv sv (by omega) (Nat.zero_le _) hres _ _ hP hD hS ls (lv_sub hl [1, 0] rfl)
      · skip
        rw [if_neg c_1] at hres
        have hlt : k < 5 := nlt_of (b := 5) c_1 (by omega) (by omega)
        refine lv_aload_n hx hb dX6_settles_7 rfl (lv_at hl 0 rfl) ?_
        refine va_get (D := D) (ci := 6) (v := .ref (a 2)) (C := RX6) (T := TX6) (N := 26) hx hb hts hinX6 hown hK hP 0 rfl rfl 9 (by decide) (hts (.fieldLink RX6 13 "FirstOutModel" "many" "[I") (by decide +kernel)) (fun _ h9 => h9) rfl dX6_settles_8 ?_
        refine lv_iload_n hx hb dX6_settles_11 rfl (lv_at hl 1 rfl) ?_
        refine lv_aload_n hx hb dX6_settles_12 rfl (lv_at hl 0 rfl) ?_
        refine va_get (D := D) (ci := 6) (v := .ref (a 2)) (C := RX6) (T := TX6) (N := 26) hx hb hts hinX6 hown hK hP 0 rfl rfl 9 (by decide) (hts (.fieldLink RX6 13 "FirstOutModel" "many" "[I") (by decide +kernel)) (fun _ h9 => h9) rfl dX6_settles_13 ?_
        refine lv_iconst (v := 5) hx hb dX6_settles_16 (by decide) ?_
        refine lv_iload_n hx hb dX6_settles_17 rfl (lv_at hl 1 rfl) ?_
        refine lv_iadd hx hb dX6_settles_18 ?_
        refine m_iald hx hb hK hP 2 0 rfl rfl (5 + k) (nI_add 5 k) (by omega) (by decide) dX6_settles_19 ?_
        refine lv_to (show _ = (mv (5 + k)) from rfl) ?_
        refine m_iast hx hb hK hP hD hS 2 0 rfl rfl k rfl (by omega) (by decide) dX6_settles_20 (fun H locs hP hD hS => ?_)
        have hP : va_P D vwCl (wM cI cC cZ cS a (va_up (va_up F 2 (upd mv k (mv (5 + k)))) 6 sv) tc) H := hP
        have hD : va_D A (wM cI cC cZ cS a (va_up (va_up F 2 (upd mv k (mv (5 + k)))) 6 sv) tc) := hD
        refine lv_aload_n hx hb dX6_settles_21 rfl (lv_at hl 0 rfl) ?_
        refine va_get (D := D) (ci := 6) (v := .ref (a 6)) (C := RX6) (T := TX6) (N := 26) hx hb hts hinX6 hown hK hP 0 rfl rfl 15 (by decide) (hts (.fieldLink RX6 25 "FirstOutModel" "s" "[I") (by decide +kernel)) (fun _ h9 => h9) rfl dX6_settles_22 ?_
        refine lv_iload_n hx hb dX6_settles_25 rfl (lv_at hl 1 rfl) ?_
        refine lv_iconst (v := 0) hx hb dX6_settles_26 (by decide) ?_
        refine m_iast hx hb hK hP hD hS 6 0 rfl rfl k rfl (by omega) (by decide) dX6_settles_27 (fun H locs hP hD hS => ?_)
        have hP : va_P D vwCl (wM cI cC cZ cS a (va_up (va_up F 2 (upd mv k (mv (5 + k)))) 6 (upd sv k 0)) tc) H := hP
        have hD : va_D A (wM cI cC cZ cS a (va_up (va_up F 2 (upd mv k (mv (5 + k)))) 6 (upd sv k 0)) tc) := hD
        refine lv_iinc (v := nI (k + 1)) (lv' := [(1, .int (nI (k + 1))), (0, .ref (a 0))]) hx hb dX6_settles_28 hl (k := 1) rfl ((nI_add k 1)) (by decide) rfl (fun ls hl => ?_)
        refine lv_goto (tgt := 2) hx hb dX6_settles_31 (by decide) ?_
        have hP : va_P D vwCl (wM cI cC cZ cS a (va_up (va_up F 2 (upd mv k (mv (5 + k)))) 6 (upd sv k 0)) tc) H := hP
        have hD : va_D A (wM cI cC cZ cS a (va_up (va_up F 2 (upd mv k (mv (5 + k)))) 6 (upd sv k 0)) tc) := hD
        exact ih2 (k + 1) (upd mv k (mv (5 + k))) (upd sv k 0) (by omega) (by omega) hres _ _ hP hD hS ls (lv_sub hl [1, 0] rfl)
  have hP : va_P D vwCl (wM cI cC cZ cS a F tc) _ := hP
  have hD : va_D A (wM cI cC cZ cS a F tc) := hD
  exact loop2 6 0 (F 2) (F 6) (by omega) (Nat.zero_le _) hres _ _ hP hD hS ls (lv_sub hl [1, 0] rfl)
def lp_X6_notes_45 (f : Nat → Int32) (ss : Nat → Int32) (un : Nat → Int32) (um : Nat) : Nat → Nat → (Nat → Int32) → (Nat → Int32) → Nat → (Nat → Int32) × (Nat → Int32)
  | 0, _, _, _, _ => (f, un)
  | k45 + 1, k, uv, ff, u2 => if (5 : Int32) ≤ (nI k) then
      ((upd ff 20 ((nI u2) + (1 : Int32))), uv)
    else
      lp_X6_notes_45 f ss un um k45 (k + 1) (upd uv (5 * u2 + k) (ss k)) ff u2
def jn_X6_notes_43 (f : Nat → Int32) (ss : Nat → Int32) (un : Nat → Int32) (um : Nat) (uv : Nat → Int32) (ff : Nat → Int32) (u2 : Nat) : (Nat → Int32) × (Nat → Int32) :=
  lp_X6_notes_45 f ss un um 6 0 uv ff u2
def lp_X6_notes_11 (f : Nat → Int32) (ss : Nat → Int32) (un : Nat → Int32) (um : Nat) : Nat → Nat → (Nat → Int32) → (Nat → Int32) × (Nat → Int32)
  | 0, _, _ => (f, un)
  | k11 + 1, k, uv => if (45 : Int32) ≤ (nI k) then
      jn_X6_notes_43 f ss un um uv (upd f 20 9) 9
    else
      lp_X6_notes_11 f ss un um k11 (k + 1) (upd uv k (uv (k + 5)))
def d_X6_notes (f : Nat → Int32) (ss : Nat → Int32) (un : Nat → Int32) (um : Nat) : (Nat → Int32) × (Nat → Int32) :=
  if (nI um) = (10 : Int32) then
      lp_X6_notes_11 f ss un um 46 0 un
    else
      jn_X6_notes_43 f ss un um un f um
set_option maxHeartbeats 4000000 in
set_option maxRecDepth 100000 in
theorem c_X6_notes (l : Launch) (D : va_G) (cI cC cZ cS : ClassId) (a : Nat → Nat) (f : Nat → Int32) (ss : Nat → Int32) (un : Nat → Int32) (tc : Int64) (um : Nat) (hum : f 20 = nI um) (hu10 : um ≤ 10) : Met l yX6_notes wsX6_notes { frames := 0, cells := 0, slots := 0, locals := 0 } (PcE D cI cC cZ cS [.ref (a 0)] (wMn cI cC cZ cS a f ss un tc)) (QcM none D (wMn cI cC cZ cS a f ss un tc) (wMn cI cC cZ cS a ((d_X6_notes f ss un um).1) ss ((d_X6_notes f ss un um).2) tc)) 0 0 (inW (wMn cI cC cZ cS a f ss un tc)) := by
  refine Met.ofW (cc := cX6_notes) (maxL := 2) (ret := none) (by decide) rfl ?_
  intro p e s m args below meth c s₁ B hml hv
  obtain ⟨rfl, hP, hD, hE⟩ := hv
  have hK := hE.1
  have hx := B.exec
  have hb := B.bytes
  have hr := B.returns
  have hts := atoms_spec (ws := wsX6_notes) B.pre
  have hown : s.vm.findClass RX6 = some m.cls := findClass_of_methodNamed B.named
  have hlocks := B.notSynchronized
  have hinX6 : ∀ w ∈ wsX60, w ∈ wsX6_notes := by decide +kernel
  have hD := inW_self hD
  have hS : va_S (inW (wMn cI cC cZ cS a f ss un tc)) s.heap s.heap [] := va_S.rf
  generalize hA : inW (wMn cI cC cZ cS a f ss un tc) = A at hD hS ⊢
  refine opq (d_X6_notes f ss un um) (fun R hres => ?_)
  rw [hres]
  replace hres := hres.symm
  rw [d_X6_notes] at hres
  have hl := lv_entry ([.ref (a 0)]) (n := 2) (Nat.le_of_ble_eq_true rfl)
  rw [lg_entry_eq]
  generalize (lg_sl ([.ref (a 0)]) ++ List.replicate (2 - (lg_sl ([.ref (a 0)])).length) Slot.unset).toArray = ls at hl ⊢
  have hl : lv_has ls 2 [(0, .ref (a 0))] := hl
  have join43 : ∀ (uv : Nat → Int32) (ff : Nat → Int32) (u2 : Nat), ff 20 = nI u2 → u2 ≤ 9 → R = jn_X6_notes_43 f ss un um uv ff u2 → ∀ (H : Heap) (locs : List Loc), va_P D vwCl (wMn cI cC cZ cS a ff ss uv tc) H → va_D A (wMn cI cC cZ cS a ff ss uv tc) → va_S A s.heap H locs → ∀ ls : Array Slot, lv_has ls 2 [(0, .ref (a 0))] → W p l e (headSpec wsX6_notes { frames := 0, cells := 0, slots := 0, locals := 0 }).room s m (([.ref (a 0)] : List Value).toArray) below meth c H locs 0 0 (MQ below (QcM none D (wMn cI cC cZ cS a f ss un tc) (wMn cI cC cZ cS a R.1 ss R.2 tc)) (([.ref (a 0)] : List Value).toArray) s 0 0 A) (F0 m 43 ls []) := by
    intro uv ff u2 hu2 hu9 hres H locs hP hD hS ls hl
    rw [jn_X6_notes_43] at hres
    refine lv_iconst (v := 0) hx hb dX6_notes_43 (by decide) ?_
    refine lv_istore_n (lv' := [(1, .int 0), (0, .ref (a 0))]) hx hb dX6_notes_44 rfl hl (by decide) rfl (fun ls hl => ?_)
    have loop45 : ∀ (k45 : Nat) (k : Nat) (uv : Nat → Int32) (ff : Nat → Int32) (u2 : Nat), 5 - k < k45 → k ≤ 5 → ff 20 = nI u2 → u2 ≤ 9 → R = lp_X6_notes_45 f ss un um k45 k uv ff u2 → ∀ (H : Heap) (locs : List Loc), va_P D vwCl (wMn cI cC cZ cS a ff ss uv tc) H → va_D A (wMn cI cC cZ cS a ff ss uv tc) → va_S A s.heap H locs → ∀ ls : Array Slot, lv_has ls 2 [(0, .ref (a 0)), (1, .int (nI k))] → W p l e (headSpec wsX6_notes { frames := 0, cells := 0, slots := 0, locals := 0 }).room s m (([.ref (a 0)] : List Value).toArray) below meth c H locs 0 0 (MQ below (QcM none D (wMn cI cC cZ cS a f ss un tc) (wMn cI cC cZ cS a R.1 ss R.2 tc)) (([.ref (a 0)] : List Value).toArray) s 0 0 A) (F0 m 45 ls []) := by
      intro k45
      induction k45 with
      | zero => intro k uv ff u2 hk; exact absurd hk (Nat.not_lt_zero _)
      | succ k45 ih45 =>
        intro k uv ff u2 hk45 hk hu2 hu9 hres H locs hP hD hS ls hl
        rw [lp_X6_notes_45] at hres
        refine lv_iload_n hx hb dX6_notes_45 rfl (lv_at hl 1 rfl) ?_
        refine lv_iconst (v := 5) hx hb dX6_notes_46 (by decide) ?_
        refine lv_icmp_ge (tgt := 75) hx hb dX6_notes_47 (by decide) (fun c_1 => ?_) (fun c_1 => ?_)
        · skip
          rw [if_pos c_1] at hres
          refine lv_aload_n hx hb dX6_notes_75 rfl (lv_at hl 0 rfl) ?_
          refine lv_dup hx hb dX6_notes_76 rfl ?_
          refine va_get (D := D) (ci := 6) (v := .int (ff 20)) (C := RX6) (T := TX6) (N := 26) hx hb hts hinX6 hown hK hP 0 rfl rfl 20 (by decide) (hts (.fieldLink RX6 111 "FirstOutModel" "undoMany" "I") (by decide +kernel)) (fun _ h9 => h9) rfl dX6_notes_77 ?_
          refine lv_to (show (ff 20) = nI u2 from hu2) ?_
          refine lv_iconst (v := 1) hx hb dX6_notes_80 (by decide) ?_
          refine lv_iadd hx hb dX6_notes_81 ?_
          refine va_put (D := D) (ci := 6) (v := .int ((nI u2) + (1 : Int32))) (ty := .int) (C := RX6) (T := TX6) (N := 26) hx hb hts hinX6 tyX6 tyX6_ok nmX6 hown hK hP hD hS 0 rfl rfl 20 (by decide) (hts (.fieldLink RX6 111 "FirstOutModel" "undoMany" "I") (by decide +kernel)) (fun _ h9 => h9) rfl (by decide +kernel) rfl rfl (Nat.le_of_ble_eq_true rfl) dX6_notes_82 (fun H locs hP hD hS => ?_)
          have hP : va_P D vwCl (wMn cI cC cZ cS a (upd ff 20 ((nI u2) + (1 : Int32))) ss uv tc) H := hP
          have hD : va_D A (wMn cI cC cZ cS a (upd ff 20 ((nI u2) + (1 : Int32))) ss uv tc) := hD
          rw [hres]
          exact W.vret hx hb hr (fun t ht hW => ⟨rfl, by rw [ht]; exact hP, by rw [hA]; exact hS.F ht⟩) hS.2.2 dX6_notes_85
        · skip
          rw [if_neg c_1] at hres
          have hlt : k < 5 := nlt_of (b := 5) c_1 (by omega) (by omega)
          refine lv_aload_n hx hb dX6_notes_50 rfl (lv_at hl 0 rfl) ?_
          refine va_get (D := D) (ci := 6) (v := .ref (a 10)) (C := RX6) (T := TX6) (N := 26) hx hb hts hinX6 hown hK hP 0 rfl rfl 19 (by decide) (hts (.fieldLink RX6 38 "FirstOutModel" "undos" "[I") (by decide +kernel)) (fun _ h9 => h9) rfl dX6_notes_51 ?_
          refine lv_iconst (v := 5) hx hb dX6_notes_54 (by decide) ?_
          refine lv_aload_n hx hb dX6_notes_55 rfl (lv_at hl 0 rfl) ?_
          refine va_get (D := D) (ci := 6) (v := .int (ff 20)) (C := RX6) (T := TX6) (N := 26) hx hb hts hinX6 hown hK hP 0 rfl rfl 20 (by decide) (hts (.fieldLink RX6 111 "FirstOutModel" "undoMany" "I") (by decide +kernel)) (fun _ h9 => h9) rfl dX6_notes_56 ?_
          refine lv_to (show (ff 20) = nI u2 from hu2) ?_
          refine lv_imul hx hb dX6_notes_59 ?_
          refine lv_iload_n hx hb dX6_notes_60 rfl (lv_at hl 1 rfl) ?_
          refine lv_iadd hx hb dX6_notes_61 ?_
          refine lv_aload_n hx hb dX6_notes_62 rfl (lv_at hl 0 rfl) ?_
          refine va_get (D := D) (ci := 6) (v := .ref (a 6)) (C := RX6) (T := TX6) (N := 26) hx hb hts hinX6 hown hK hP 0 rfl rfl 15 (by decide) (hts (.fieldLink RX6 25 "FirstOutModel" "s" "[I") (by decide +kernel)) (fun _ h9 => h9) rfl dX6_notes_63 ?_
          refine lv_iload_n hx hb dX6_notes_66 rfl (lv_at hl 1 rfl) ?_
          refine m_iald hx hb hK hP 1 0 rfl rfl k rfl (by omega) (by decide) dX6_notes_67 ?_
          refine lv_to (show _ = (ss k) from rfl) ?_
          refine m_iast hx hb hK hP hD hS 2 0 rfl rfl (5 * u2 + k) (ix5 u2 k) (by omega) (by decide) dX6_notes_68 (fun H locs hP hD hS => ?_)
          have hP : va_P D vwCl (wMn cI cC cZ cS a ff ss (upd uv (5 * u2 + k) (ss k)) tc) H := hP
          have hD : va_D A (wMn cI cC cZ cS a ff ss (upd uv (5 * u2 + k) (ss k)) tc) := hD
          refine lv_iinc (v := nI (k + 1)) (lv' := [(1, .int (nI (k + 1))), (0, .ref (a 0))]) hx hb dX6_notes_69 hl (k := 1) rfl ((nI_add k 1)) (by decide) rfl (fun ls hl => ?_)
          refine lv_goto (tgt := 45) hx hb dX6_notes_72 (by decide) ?_
          have hP : va_P D vwCl (wMn cI cC cZ cS a ff ss (upd uv (5 * u2 + k) (ss k)) tc) H := hP
          have hD : va_D A (wMn cI cC cZ cS a ff ss (upd uv (5 * u2 + k) (ss k)) tc) := hD
          exact ih45 (k + 1) (upd uv (5 * u2 + k) (ss k)) ff u2 (by omega) (by omega) hu2 hu9 hres _ _ hP hD hS ls (lv_sub hl [1, 0] rfl)
    have hP : va_P D vwCl (wMn cI cC cZ cS a ff ss uv tc) _ := hP
    have hD : va_D A (wMn cI cC cZ cS a ff ss uv tc) := hD
    exact loop45 6 0 uv ff u2 (by omega) (Nat.zero_le _) hu2 hu9 hres _ _ hP hD hS ls (lv_sub hl [1, 0] rfl)
  refine lv_aload_n hx hb dX6_notes_0 rfl (lv_at hl 0 rfl) ?_
  refine va_get (D := D) (ci := 6) (v := .int (f 20)) (C := RX6) (T := TX6) (N := 26) hx hb hts hinX6 hown hK hP 0 rfl rfl 20 (by decide) (hts (.fieldLink RX6 111 "FirstOutModel" "undoMany" "I") (by decide +kernel)) (fun _ h9 => h9) rfl dX6_notes_1 ?_
  refine lv_to (show (f 20) = nI um from hum) ?_
  refine lv_bipush (v := 10) hx hb dX6_notes_4 (by decide) ?_
  refine lv_icmp_ne (tgt := 43) hx hb dX6_notes_6 (by decide) (fun c_2 => ?_) (fun c_2 => ?_)
  · skip
    rw [if_neg c_2] at hres
    have hne9 : um ≤ 9 := ne10 c_2 hu10
    have hP : va_P D vwCl (wMn cI cC cZ cS a f ss un tc) _ := hP
    have hD : va_D A (wMn cI cC cZ cS a f ss un tc) := hD
    exact join43 un f um hum hne9 hres _ _ hP hD hS ls (lv_sub hl [0] rfl)
  · skip
    rw [if_pos c_2] at hres
    refine lv_iconst (v := 0) hx hb dX6_notes_9 (by decide) ?_
    refine lv_istore_n (lv' := [(1, .int 0), (0, .ref (a 0))]) hx hb dX6_notes_10 rfl hl (by decide) rfl (fun ls hl => ?_)
    have loop11 : ∀ (k11 : Nat) (k : Nat) (uv : Nat → Int32), 45 - k < k11 → k ≤ 45 → R = lp_X6_notes_11 f ss un um k11 k uv → ∀ (H : Heap) (locs : List Loc), va_P D vwCl (wMn cI cC cZ cS a f ss uv tc) H → va_D A (wMn cI cC cZ cS a f ss uv tc) → va_S A s.heap H locs → ∀ ls : Array Slot, lv_has ls 2 [(0, .ref (a 0)), (1, .int (nI k))] → W p l e (headSpec wsX6_notes { frames := 0, cells := 0, slots := 0, locals := 0 }).room s m (([.ref (a 0)] : List Value).toArray) below meth c H locs 0 0 (MQ below (QcM none D (wMn cI cC cZ cS a f ss un tc) (wMn cI cC cZ cS a R.1 ss R.2 tc)) (([.ref (a 0)] : List Value).toArray) s 0 0 A) (F0 m 11 ls []) := by
      intro k11
      induction k11 with
      | zero => intro k uv hk; exact absurd hk (Nat.not_lt_zero _)
      | succ k11 ih11 =>
        intro k uv hk11 hk hres H locs hP hD hS ls hl
        rw [lp_X6_notes_11] at hres
        refine lv_iload_n hx hb dX6_notes_11 rfl (lv_at hl 1 rfl) ?_
        refine lv_bipush (v := 45) hx hb dX6_notes_12 (by decide) ?_
        refine lv_icmp_ge (tgt := 37) hx hb dX6_notes_14 (by decide) (fun c_3 => ?_) (fun c_3 => ?_)
        · skip
          rw [if_pos c_3] at hres
          refine lv_aload_n hx hb dX6_notes_37 rfl (lv_at hl 0 rfl) ?_
          refine lv_bipush (v := 9) hx hb dX6_notes_38 (by decide) ?_
          refine va_put (D := D) (ci := 6) (v := .int 9) (ty := .int) (C := RX6) (T := TX6) (N := 26) hx hb hts hinX6 tyX6 tyX6_ok nmX6 hown hK hP hD hS 0 rfl rfl 20 (by decide) (hts (.fieldLink RX6 111 "FirstOutModel" "undoMany" "I") (by decide +kernel)) (fun _ h9 => h9) rfl (by decide +kernel) rfl rfl (Nat.le_of_ble_eq_true rfl) dX6_notes_40 (fun H locs hP hD hS => ?_)
          have hP : va_P D vwCl (wMn cI cC cZ cS a (upd f 20 9) ss uv tc) H := hP
          have hD : va_D A (wMn cI cC cZ cS a (upd f 20 9) ss uv tc) := hD
          have hP : va_P D vwCl (wMn cI cC cZ cS a (upd f 20 9) ss uv tc) _ := hP
          have hD : va_D A (wMn cI cC cZ cS a (upd f 20 9) ss uv tc) := hD
          exact join43 uv (upd f 20 9) 9 rfl (Nat.le_refl 9) hres _ _ hP hD hS ls (lv_sub hl [0] rfl)
        · skip
          rw [if_neg c_3] at hres
          have hlt : k < 45 := nlt_of (b := 45) c_3 (by omega) (by omega)
          refine lv_aload_n hx hb dX6_notes_17 rfl (lv_at hl 0 rfl) ?_
          refine va_get (D := D) (ci := 6) (v := .ref (a 10)) (C := RX6) (T := TX6) (N := 26) hx hb hts hinX6 hown hK hP 0 rfl rfl 19 (by decide) (hts (.fieldLink RX6 38 "FirstOutModel" "undos" "[I") (by decide +kernel)) (fun _ h9 => h9) rfl dX6_notes_18 ?_
          refine lv_iload_n hx hb dX6_notes_21 rfl (lv_at hl 1 rfl) ?_
          refine lv_aload_n hx hb dX6_notes_22 rfl (lv_at hl 0 rfl) ?_
          refine va_get (D := D) (ci := 6) (v := .ref (a 10)) (C := RX6) (T := TX6) (N := 26) hx hb hts hinX6 hown hK hP 0 rfl rfl 19 (by decide) (hts (.fieldLink RX6 38 "FirstOutModel" "undos" "[I") (by decide +kernel)) (fun _ h9 => h9) rfl dX6_notes_23 ?_
          refine lv_iload_n hx hb dX6_notes_26 rfl (lv_at hl 1 rfl) ?_
          refine lv_iconst (v := 5) hx hb dX6_notes_27 (by decide) ?_
          refine lv_iadd hx hb dX6_notes_28 ?_
          refine m_iald hx hb hK hP 2 0 rfl rfl (k + 5) (nI_add k 5) (by omega) (by decide) dX6_notes_29 ?_
          refine lv_to (show _ = (uv (k + 5)) from rfl) ?_
          refine m_iast hx hb hK hP hD hS 2 0 rfl rfl k rfl (by omega) (by decide) dX6_notes_30 (fun H locs hP hD hS => ?_)
          have hP : va_P D vwCl (wMn cI cC cZ cS a f ss (upd uv k (uv (k + 5))) tc) H := hP
          have hD : va_D A (wMn cI cC cZ cS a f ss (upd uv k (uv (k + 5))) tc) := hD
          refine lv_iinc (v := nI (k + 1)) (lv' := [(1, .int (nI (k + 1))), (0, .ref (a 0))]) hx hb dX6_notes_31 hl (k := 1) rfl ((nI_add k 1)) (by decide) rfl (fun ls hl => ?_)
          refine lv_goto (tgt := 11) hx hb dX6_notes_34 (by decide) ?_
          have hP : va_P D vwCl (wMn cI cC cZ cS a f ss (upd uv k (uv (k + 5))) tc) H := hP
          have hD : va_D A (wMn cI cC cZ cS a f ss (upd uv k (uv (k + 5))) tc) := hD
          exact ih11 (k + 1) (upd uv k (uv (k + 5))) (by omega) (by omega) hres _ _ hP hD hS ls (lv_sub hl [1, 0] rfl)
    have hP : va_P D vwCl (wMn cI cC cZ cS a f ss un tc) _ := hP
    have hD : va_D A (wMn cI cC cZ cS a f ss un tc) := hD
    exact loop11 46 0 un (by omega) (Nat.zero_le _) hres _ _ hP hD hS ls (lv_sub hl [1, 0] rfl)
def d_X6_clear (F : Nat → Nat → Int32) : Int32 × (Nat → Nat → Int32) :=
  ((F 0 3), (va_up F 0 (upd (upd (F 0) 0 0) 3 0)))
set_option maxHeartbeats 4000000 in
set_option maxRecDepth 100000 in
theorem c_X6_clear (l : Launch) (D : va_G) (cI cC cZ cS : ClassId) (a : Nat → Nat) (F : Nat → Nat → Int32) (tc : Int64) : Met l yX6_clear wsX6_clear { frames := 0, cells := 0, slots := 0, locals := 0 } (PcE D cI cC cZ cS [.ref (a 0)] (wM cI cC cZ cS a F tc)) (QcM (some (.int ((d_X6_clear F).1))) D (wM cI cC cZ cS a F tc) (wM cI cC cZ cS a ((d_X6_clear F).2) tc)) 0 0 (inW (wM cI cC cZ cS a F tc)) := by
  refine Met.ofW (cc := cX6_clear) (maxL := 2) (ret := (some .int)) (by decide) rfl ?_
  intro p e s m args below meth c s₁ B hml hv
  obtain ⟨rfl, hP, hD, hE⟩ := hv
  have hK := hE.1
  have hx := B.exec
  have hb := B.bytes
  have hr := B.returns
  have hts := atoms_spec (ws := wsX6_clear) B.pre
  have hown : s.vm.findClass RX6 = some m.cls := findClass_of_methodNamed B.named
  have hlocks := B.notSynchronized
  have hinX6 : ∀ w ∈ wsX60, w ∈ wsX6_clear := by decide +kernel
  have hD := inW_self hD
  have hS : va_S (inW (wM cI cC cZ cS a F tc)) s.heap s.heap [] := va_S.rf
  generalize hA : inW (wM cI cC cZ cS a F tc) = A at hD hS ⊢
  refine opq (d_X6_clear F) (fun R hres => ?_)
  rw [hres]
  replace hres := hres.symm
  rw [d_X6_clear] at hres
  have hl := lv_entry ([.ref (a 0)]) (n := 2) (Nat.le_of_ble_eq_true rfl)
  rw [lg_entry_eq]
  generalize (lg_sl ([.ref (a 0)]) ++ List.replicate (2 - (lg_sl ([.ref (a 0)])).length) Slot.unset).toArray = ls at hl ⊢
  have hl : lv_has ls 2 [(0, .ref (a 0))] := hl
  refine lv_aload_n hx hb dX6_clear_0 rfl (lv_at hl 0 rfl) ?_
  refine lv_iconst (v := 0) hx hb dX6_clear_1 (by decide) ?_
  refine va_put (D := D) (ci := 6) (v := .int 0) (ty := .int) (C := RX6) (T := TX6) (N := 26) hx hb hts hinX6 tyX6 tyX6_ok nmX6 hown hK hP hD hS 0 rfl rfl 0 (by decide) (hts (.fieldLink RX6 53 "FirstOutModel" "thrown" "I") (by decide +kernel)) (fun _ h9 => h9) rfl (by decide +kernel) rfl rfl (Nat.le_of_ble_eq_true rfl) dX6_clear_2 (fun H locs hP hD hS => ?_)
  have hP : va_P D vwCl (wM cI cC cZ cS a (va_up F 0 (upd (F 0) 0 0)) tc) H := hP
  have hD : va_D A (wM cI cC cZ cS a (va_up F 0 (upd (F 0) 0 0)) tc) := hD
  refine lv_aload_n hx hb dX6_clear_5 rfl (lv_at hl 0 rfl) ?_
  refine va_get (D := D) (ci := 6) (v := .int (F 0 3)) (C := RX6) (T := TX6) (N := 26) hx hb hts hinX6 hown hK hP 0 rfl rfl 3 (by decide) (hts (.fieldLink RX6 61 "FirstOutModel" "typed" "I") (by decide +kernel)) (fun _ h9 => h9) rfl dX6_clear_6 ?_
  refine lv_istore_n (lv' := [(1, .int (F 0 3)), (0, .ref (a 0))]) hx hb dX6_clear_9 rfl hl (by decide) rfl (fun ls hl => ?_)
  refine lv_aload_n hx hb dX6_clear_10 rfl (lv_at hl 1 rfl) ?_
  refine lv_iconst (v := 0) hx hb dX6_clear_11 (by decide) ?_
  refine va_put (D := D) (ci := 6) (v := .int 0) (ty := .int) (C := RX6) (T := TX6) (N := 26) hx hb hts hinX6 tyX6 tyX6_ok nmX6 hown hK hP hD hS 0 rfl rfl 3 (by decide) (hts (.fieldLink RX6 61 "FirstOutModel" "typed" "I") (by decide +kernel)) (fun _ h9 => h9) rfl (by decide +kernel) rfl rfl (Nat.le_of_ble_eq_true rfl) dX6_clear_12 (fun H locs hP hD hS => ?_)
  have hP : va_P D vwCl (wM cI cC cZ cS a (va_up F 0 (upd (upd (F 0) 0 0) 3 0)) tc) H := hP
  have hD : va_D A (wM cI cC cZ cS a (va_up F 0 (upd (upd (F 0) 0 0) 3 0)) tc) := hD
  refine lv_iload_n hx hb dX6_clear_15 rfl (lv_at hl 0 rfl) ?_
  rw [hres]
  exact W.iret (v := (F 0 3)) hx hb hr (fun t ht hW => ⟨rfl, by rw [ht]; exact hP, by rw [hA]; exact hS.F ht⟩) hS.2.2 dX6_clear_16
def d_X6_thing (F : Nat → Nat → Int32) (t : Int32) (what : Int32) (n : Nat) : Int32 × (Nat → Nat → Int32) :=
  if (d_X6_isThing t n) = 0 then
      ((-1), (va_up F 0 (upd (F 0) 0 0)))
    else
      if (d_X6_in what 0 7) = 0 then
        ((-1), (va_up F 0 (upd (F 0) 0 0)))
      else
        if (3 : Int32) ≤ what then
          if what = (6 : Int32) then
            (((d_X6_covered (F 3) (F 6) n) >>> (t &&& 31)) &&& (1 : Int32), (va_up F 0 (upd (F 0) 0 0)))
          else
            if what = (7 : Int32) then
              (((d_X6_comers (F 3) (F 5) (F 6) n) >>> (t &&& 31)) &&& (1 : Int32), (va_up F 0 (upd (F 0) 0 0)))
            else
              (((F 6 ((what - 1).toNatClampNeg)) >>> (t &&& 31)) &&& (1 : Int32), (va_up F 0 (upd (F 0) 0 0)))
        else
          if what = 0 then
            ((F 3 t.toNatClampNeg), (va_up F 0 (upd (F 0) 0 0)))
          else
            if what = (1 : Int32) then
              ((F 4 t.toNatClampNeg), (va_up F 0 (upd (F 0) 0 0)))
            else
              ((F 5 t.toNatClampNeg), (va_up F 0 (upd (F 0) 0 0)))
set_option maxHeartbeats 4000000 in
set_option maxRecDepth 100000 in
theorem c_X6_thing (l : Launch) (D : va_G) (cI cC cZ cS : ClassId) (a : Nat → Nat) (F : Nat → Nat → Int32) (tc : Int64) (t : Int32) (what : Int32) (n : Nat) (hn : F 2 0 = nI n) (h7 : n ≤ 7) : Met l yX6_thing wsX6_thing { frames := 3, cells := 0, slots := 0, locals := 68 } (PcE D cI cC cZ cS [.ref (a 0), .int t, .int what] (wM cI cC cZ cS a F tc)) (QcM (some (.int ((d_X6_thing F t what n).1))) D (wM cI cC cZ cS a F tc) (wM cI cC cZ cS a ((d_X6_thing F t what n).2) tc)) 0 0 (inW (wM cI cC cZ cS a F tc)) := by
  refine Met.ofW (cc := cX6_thing) (maxL := 4) (ret := (some .int)) (by decide) rfl ?_
  intro p e s m args below meth c s₁ B hml hv
  obtain ⟨rfl, hP, hD, hE⟩ := hv
  have hK := hE.1
  have hx := B.exec
  have hb := B.bytes
  have hr := B.returns
  have hts := atoms_spec (ws := wsX6_thing) B.pre
  have hown : s.vm.findClass RX6 = some m.cls := findClass_of_methodNamed B.named
  have hlocks := B.notSynchronized
  have hinX6 : ∀ w ∈ wsX60, w ∈ wsX6_thing := by decide +kernel
  have hD := inW_self hD
  have hS : va_S (inW (wM cI cC cZ cS a F tc)) s.heap s.heap [] := va_S.rf
  generalize hA : inW (wM cI cC cZ cS a F tc) = A at hD hS ⊢
  refine opq (d_X6_thing F t what n) (fun R hres => ?_)
  rw [hres]
  replace hres := hres.symm
  rw [d_X6_thing] at hres
  have hl := lv_entry ([.ref (a 0), .int t, .int what]) (n := 4) (Nat.le_of_ble_eq_true rfl)
  rw [lg_entry_eq]
  generalize (lg_sl ([.ref (a 0), .int t, .int what]) ++ List.replicate (4 - (lg_sl ([.ref (a 0), .int t, .int what])).length) Slot.unset).toArray = ls at hl ⊢
  have hl : lv_has ls 4 [(0, .ref (a 0)), (1, .int t), (2, .int what)] := hl
  refine lv_aload_n hx hb dX6_thing_0 rfl (lv_at hl 0 rfl) ?_
  refine lv_iconst (v := 0) hx hb dX6_thing_1 (by decide) ?_
  refine va_put (D := D) (ci := 6) (v := .int 0) (ty := .int) (C := RX6) (T := TX6) (N := 26) hx hb hts hinX6 tyX6 tyX6_ok nmX6 hown hK hP hD hS 0 rfl rfl 0 (by decide) (hts (.fieldLink RX6 53 "FirstOutModel" "thrown" "I") (by decide +kernel)) (fun _ h9 => h9) rfl (by decide +kernel) rfl rfl (Nat.le_of_ble_eq_true rfl) dX6_thing_2 (fun H locs hP hD hS => ?_)
  have hP : va_P D vwCl (wM cI cC cZ cS a (va_up F 0 (upd (F 0) 0 0)) tc) H := hP
  have hD : va_D A (wM cI cC cZ cS a (va_up F 0 (upd (F 0) 0 0)) tc) := hD
  refine lv_aload_n hx hb dX6_thing_5 rfl (lv_at hl 0 rfl) ?_
  refine lv_iload_n hx hb dX6_thing_6 rfl (lv_at hl 1 rfl) ?_
  have hPc := hP.sub (ws' := (w5 cI cC cZ cS a (upd (F 0) 0 0) (F 2) (F 3) (F 4) (F 5) tc)) [0, 2, 3, 4, 5] rfl
  have hDc := hD.sub (ws' := (w5 cI cC cZ cS a (upd (F 0) 0 0) (F 2) (F 3) (F 4) (F 5) tc)) [0, 2, 3, 4, 5] (by decide) rfl
  refine m_callR (W.runV (As := [.int t]) (rest := []) ⟨hx, hb, hml, hown, hts⟩ (c_X6_isThing l D cI cC cZ cS a (upd (F 0) 0 0) (F 2) (F 3) (F 4) (F 5) tc t n hn h7) (cwV 1 hts gX6_thing_X6_isThing rfl rfl rfl (by decide +kernel) ⟨Nat.le_of_ble_eq_true rfl, Nat.le_of_ble_eq_true rfl⟩) (preV_of hPc hDc hE (va_recv hK hPc (ci := 6) (q0 := 0) rfl rfl)) rfl rfl hl.1 rfl (lv_room (Nat.le_of_ble_eq_true rfl)) dX6_thing_7 ⟨Nat.zero_le _, Nat.zero_le _⟩) ?_
  refine W.eq (g2 := F0 m 10 ls [.int (d_X6_isThing t n)]) rfl ?_
  refine lv_if_eq (tgt := 23) hx hb dX6_thing_10 (by decide) (fun c_1 => ?_) (fun c_1 => ?_)
  · skip
    rw [if_pos c_1] at hres
    refine lv_iconst (v := (-1)) hx hb dX6_thing_23 (by decide) ?_
    rw [hres]
    exact W.iret (v := (-1)) hx hb hr (fun t ht hW => ⟨rfl, by rw [ht]; exact hP, by rw [hA]; exact hS.F ht⟩) hS.2.2 dX6_thing_24
  · skip
    rw [if_neg c_1] at hres
    have ti := isThing_ok (mn := F 2) c_1 h7
    refine lv_iload_n hx hb dX6_thing_13 rfl (lv_at hl 2 rfl) ?_
    refine lv_iconst (v := 0) hx hb dX6_thing_14 (by decide) ?_
    refine lv_bipush (v := 7) hx hb dX6_thing_15 (by decide) ?_
    have hPc := hP.sub (ws' := []) [] rfl
    have hDc := hD.sub (ws' := []) [] (by decide) rfl
    refine m_callR (W.runS (As := [.int what, .int 0, .int 7]) (rest := []) ⟨hx, hb, hml, hown, hts⟩ (c_X6_in l D cI cC cZ cS what 0 7) (va_cwS 3 hts gX6_thing_X6_in rfl rfl rfl (by decide +kernel) ⟨Nat.le_of_ble_eq_true rfl, Nat.le_of_ble_eq_true rfl⟩) (preS_of hPc hDc hE) rfl rfl hl.1 rfl (lv_room (Nat.le_of_ble_eq_true rfl)) dX6_thing_17 ⟨Nat.zero_le _, Nat.zero_le _⟩) ?_
    refine W.eq (g2 := F0 m 20 ls [.int (d_X6_in what 0 7)]) rfl ?_
    refine lv_if_ne (tgt := 25) hx hb dX6_thing_20 (by decide) (fun c_2 => ?_) (fun c_2 => ?_)
    · skip
      rw [if_neg c_2] at hres
      have hwi := in_ok c_2
      refine lv_iload_n hx hb dX6_thing_25 rfl (lv_at hl 2 rfl) ?_
      refine lv_iconst (v := 3) hx hb dX6_thing_26 (by decide) ?_
      refine lv_icmp_ge (tgt := 64) hx hb dX6_thing_27 (by decide) (fun c_3 => ?_) (fun c_3 => ?_)
      · skip
        rw [if_pos c_3] at hres
        have hge3 := c_3
        refine lv_iload_n hx hb dX6_thing_64 rfl (lv_at hl 2 rfl) ?_
        refine lv_bipush (v := 6) hx hb dX6_thing_65 (by decide) ?_
        refine lv_icmp_ne (tgt := 81) hx hb dX6_thing_67 (by decide) (fun c_4 => ?_) (fun c_4 => ?_)
        · skip
          rw [if_neg c_4] at hres
          have hne6 := c_4
          refine lv_iload_n hx hb dX6_thing_81 rfl (lv_at hl 2 rfl) ?_
          refine lv_bipush (v := 7) hx hb dX6_thing_82 (by decide) ?_
          refine lv_icmp_ne (tgt := 98) hx hb dX6_thing_84 (by decide) (fun c_5 => ?_) (fun c_5 => ?_)
          · skip
            rw [if_neg c_5] at hres
            have hne7 := c_5
            have hwx := what_ix hwi.1 hwi.2 hge3 hne6 hne7
            refine lv_aload_n hx hb dX6_thing_98 rfl (lv_at hl 0 rfl) ?_
            refine va_get (D := D) (ci := 6) (v := .ref (a 6)) (C := RX6) (T := TX6) (N := 26) hx hb hts hinX6 hown hK hP 0 rfl rfl 15 (by decide) (hts (.fieldLink RX6 25 "FirstOutModel" "s" "[I") (by decide +kernel)) (fun _ h9 => h9) rfl dX6_thing_99 ?_
            refine lv_iload_n hx hb dX6_thing_102 rfl (lv_at hl 2 rfl) ?_
            refine lv_iconst (v := 1) hx hb dX6_thing_103 (by decide) ?_
            refine lv_isub hx hb dX6_thing_104 ?_
            refine m_iald hx hb hK hP 6 0 rfl rfl ((what - 1).toNatClampNeg) hwx.1 hwx.2 (by decide) dX6_thing_105 ?_
            refine lv_to (show _ = (F 6 ((what - 1).toNatClampNeg)) from rfl) ?_
            refine lv_istore_n (lv' := [(3, .int (F 6 ((what - 1).toNatClampNeg))), (0, .ref (a 0)), (1, .int t), (2, .int what)]) hx hb dX6_thing_106 rfl hl (by decide) rfl (fun ls hl => ?_)
            refine lv_iload_n hx hb dX6_thing_107 rfl (lv_at hl 0 rfl) ?_
            refine lv_iload_n hx hb dX6_thing_108 rfl (lv_at hl 2 rfl) ?_
            refine lv_ishr hx hb dX6_thing_109 ?_
            refine lv_iconst (v := 1) hx hb dX6_thing_110 (by decide) ?_
            refine lv_iand hx hb dX6_thing_111 ?_
            rw [hres]
            exact W.iret (v := ((F 6 ((what - 1).toNatClampNeg)) >>> (t &&& 31)) &&& (1 : Int32)) hx hb hr (fun t ht hW => ⟨rfl, by rw [ht]; exact hP, by rw [hA]; exact hS.F ht⟩) hS.2.2 dX6_thing_112
          · skip
            rw [if_pos c_5] at hres
            refine lv_aload_n hx hb dX6_thing_87 rfl (lv_at hl 0 rfl) ?_
            refine lv_aload_n hx hb dX6_thing_88 rfl (lv_at hl 0 rfl) ?_
            refine va_get (D := D) (ci := 6) (v := .ref (a 6)) (C := RX6) (T := TX6) (N := 26) hx hb hts hinX6 hown hK hP 0 rfl rfl 15 (by decide) (hts (.fieldLink RX6 25 "FirstOutModel" "s" "[I") (by decide +kernel)) (fun _ h9 => h9) rfl dX6_thing_89 ?_
            have hPc := hP.sub (ws' := (w5r cI cC cZ cS a (upd (F 0) 0 0) (F 2) (F 3) (F 4) (F 5) (a 6) (F 6) tc)) [0, 2, 3, 4, 5, 6] rfl
            have hDc := hD.sub (ws' := (w5r cI cC cZ cS a (upd (F 0) 0 0) (F 2) (F 3) (F 4) (F 5) (a 6) (F 6) tc)) [0, 2, 3, 4, 5, 6] (by decide) rfl
            refine m_callR (W.runV (As := [.ref (a 6)]) (rest := []) ⟨hx, hb, hml, hown, hts⟩ (c_X6_comers l D cI cC cZ cS a (upd (F 0) 0 0) (F 2) (F 3) (F 4) (F 5) (a 6) (F 6) tc n hn h7) (cwV 1 hts gX6_thing_X6_comers rfl rfl rfl (by decide +kernel) ⟨Nat.le_of_ble_eq_true rfl, Nat.le_of_ble_eq_true rfl⟩) (preV_of hPc hDc hE (va_recv hK hPc (ci := 6) (q0 := 0) rfl rfl)) rfl rfl hl.1 rfl (lv_room (Nat.le_of_ble_eq_true rfl)) dX6_thing_92 ⟨Nat.zero_le _, Nat.zero_le _⟩) ?_
            refine W.eq (g2 := F0 m 95 ls [.int (d_X6_comers (F 3) (F 5) (F 6) n)]) rfl ?_
            refine lv_goto (tgt := 106) hx hb dX6_thing_95 (by decide) ?_
            refine lv_istore_n (lv' := [(3, .int (d_X6_comers (F 3) (F 5) (F 6) n)), (0, .ref (a 0)), (1, .int t), (2, .int what)]) hx hb dX6_thing_106 rfl hl (by decide) rfl (fun ls hl => ?_)
            refine lv_iload_n hx hb dX6_thing_107 rfl (lv_at hl 0 rfl) ?_
            refine lv_iload_n hx hb dX6_thing_108 rfl (lv_at hl 2 rfl) ?_
            refine lv_ishr hx hb dX6_thing_109 ?_
            refine lv_iconst (v := 1) hx hb dX6_thing_110 (by decide) ?_
            refine lv_iand hx hb dX6_thing_111 ?_
            rw [hres]
            exact W.iret (v := ((d_X6_comers (F 3) (F 5) (F 6) n) >>> (t &&& 31)) &&& (1 : Int32)) hx hb hr (fun t ht hW => ⟨rfl, by rw [ht]; exact hP, by rw [hA]; exact hS.F ht⟩) hS.2.2 dX6_thing_112
        · skip
          rw [if_pos c_4] at hres
          refine lv_aload_n hx hb dX6_thing_70 rfl (lv_at hl 0 rfl) ?_
          refine lv_aload_n hx hb dX6_thing_71 rfl (lv_at hl 0 rfl) ?_
          refine va_get (D := D) (ci := 6) (v := .ref (a 6)) (C := RX6) (T := TX6) (N := 26) hx hb hts hinX6 hown hK hP 0 rfl rfl 15 (by decide) (hts (.fieldLink RX6 25 "FirstOutModel" "s" "[I") (by decide +kernel)) (fun _ h9 => h9) rfl dX6_thing_72 ?_
          have hPc := hP.sub (ws' := (w5r cI cC cZ cS a (upd (F 0) 0 0) (F 2) (F 3) (F 4) (F 5) (a 6) (F 6) tc)) [0, 2, 3, 4, 5, 6] rfl
          have hDc := hD.sub (ws' := (w5r cI cC cZ cS a (upd (F 0) 0 0) (F 2) (F 3) (F 4) (F 5) (a 6) (F 6) tc)) [0, 2, 3, 4, 5, 6] (by decide) rfl
          refine m_callR (W.runV (As := [.ref (a 6)]) (rest := []) ⟨hx, hb, hml, hown, hts⟩ (c_X6_covered l D cI cC cZ cS a (upd (F 0) 0 0) (F 2) (F 3) (F 4) (F 5) (a 6) (F 6) tc n hn h7) (cwV 1 hts gX6_thing_X6_covered rfl rfl rfl (by decide +kernel) ⟨Nat.le_of_ble_eq_true rfl, Nat.le_of_ble_eq_true rfl⟩) (preV_of hPc hDc hE (va_recv hK hPc (ci := 6) (q0 := 0) rfl rfl)) rfl rfl hl.1 rfl (lv_room (Nat.le_of_ble_eq_true rfl)) dX6_thing_75 ⟨Nat.zero_le _, Nat.zero_le _⟩) ?_
          refine W.eq (g2 := F0 m 78 ls [.int (d_X6_covered (F 3) (F 6) n)]) rfl ?_
          refine lv_goto (tgt := 106) hx hb dX6_thing_78 (by decide) ?_
          refine lv_istore_n (lv' := [(3, .int (d_X6_covered (F 3) (F 6) n)), (0, .ref (a 0)), (1, .int t), (2, .int what)]) hx hb dX6_thing_106 rfl hl (by decide) rfl (fun ls hl => ?_)
          refine lv_iload_n hx hb dX6_thing_107 rfl (lv_at hl 0 rfl) ?_
          refine lv_iload_n hx hb dX6_thing_108 rfl (lv_at hl 2 rfl) ?_
          refine lv_ishr hx hb dX6_thing_109 ?_
          refine lv_iconst (v := 1) hx hb dX6_thing_110 (by decide) ?_
          refine lv_iand hx hb dX6_thing_111 ?_
          rw [hres]
          exact W.iret (v := ((d_X6_covered (F 3) (F 6) n) >>> (t &&& 31)) &&& (1 : Int32)) hx hb hr (fun t ht hW => ⟨rfl, by rw [ht]; exact hP, by rw [hA]; exact hS.F ht⟩) hS.2.2 dX6_thing_112
      · skip
        rw [if_neg c_3] at hres
        refine lv_iload_n hx hb dX6_thing_30 rfl (lv_at hl 2 rfl) ?_
        refine lv_if_ne (tgt := 43) hx hb dX6_thing_31 (by decide) (fun c_6 => ?_) (fun c_6 => ?_)
        · skip
          rw [if_neg c_6] at hres
          refine lv_iload_n hx hb dX6_thing_43 rfl (lv_at hl 2 rfl) ?_
          refine lv_iconst (v := 1) hx hb dX6_thing_44 (by decide) ?_
          refine lv_icmp_ne (tgt := 57) hx hb dX6_thing_45 (by decide) (fun c_7 => ?_) (fun c_7 => ?_)
          · skip
            rw [if_neg c_7] at hres
            refine lv_aload_n hx hb dX6_thing_57 rfl (lv_at hl 0 rfl) ?_
            refine va_get (D := D) (ci := 6) (v := .ref (a 5)) (C := RX6) (T := TX6) (N := 26) hx hb hts hinX6 hown hK hP 0 rfl rfl 13 (by decide) (hts (.fieldLink RX6 22 "FirstOutModel" "eager" "[I") (by decide +kernel)) (fun _ h9 => h9) rfl dX6_thing_58 ?_
            refine lv_iload_n hx hb dX6_thing_61 rfl (lv_at hl 1 rfl) ?_
            refine m_iald hx hb hK hP 5 0 rfl rfl t.toNatClampNeg ti.1 (by have := ti.2; omega) (by decide) dX6_thing_62 ?_
            refine lv_to (show _ = (F 5 t.toNatClampNeg) from rfl) ?_
            rw [hres]
            exact W.iret (v := (F 5 t.toNatClampNeg)) hx hb hr (fun t ht hW => ⟨rfl, by rw [ht]; exact hP, by rw [hA]; exact hS.F ht⟩) hS.2.2 dX6_thing_63
          · skip
            rw [if_pos c_7] at hres
            refine lv_aload_n hx hb dX6_thing_48 rfl (lv_at hl 0 rfl) ?_
            refine va_get (D := D) (ci := 6) (v := .ref (a 4)) (C := RX6) (T := TX6) (N := 26) hx hb hts hinX6 hown hK hP 0 rfl rfl 12 (by decide) (hts (.fieldLink RX6 19 "FirstOutModel" "dear" "[I") (by decide +kernel)) (fun _ h9 => h9) rfl dX6_thing_49 ?_
            refine lv_iload_n hx hb dX6_thing_52 rfl (lv_at hl 1 rfl) ?_
            refine m_iald hx hb hK hP 4 0 rfl rfl t.toNatClampNeg ti.1 (by have := ti.2; omega) (by decide) dX6_thing_53 ?_
            refine lv_to (show _ = (F 4 t.toNatClampNeg) from rfl) ?_
            refine lv_goto (tgt := 63) hx hb dX6_thing_54 (by decide) ?_
            rw [hres]
            exact W.iret (v := (F 4 t.toNatClampNeg)) hx hb hr (fun t ht hW => ⟨rfl, by rw [ht]; exact hP, by rw [hA]; exact hS.F ht⟩) hS.2.2 dX6_thing_63
        · skip
          rw [if_pos c_6] at hres
          refine lv_aload_n hx hb dX6_thing_34 rfl (lv_at hl 0 rfl) ?_
          refine va_get (D := D) (ci := 6) (v := .ref (a 3)) (C := RX6) (T := TX6) (N := 26) hx hb hts hinX6 hown hK hP 0 rfl rfl 11 (by decide) (hts (.fieldLink RX6 16 "FirstOutModel" "traits" "[I") (by decide +kernel)) (fun _ h9 => h9) rfl dX6_thing_35 ?_
          refine lv_iload_n hx hb dX6_thing_38 rfl (lv_at hl 1 rfl) ?_
          refine m_iald hx hb hK hP 3 0 rfl rfl t.toNatClampNeg ti.1 (by have := ti.2; omega) (by decide) dX6_thing_39 ?_
          refine lv_to (show _ = (F 3 t.toNatClampNeg) from rfl) ?_
          refine lv_goto (tgt := 63) hx hb dX6_thing_40 (by decide) ?_
          rw [hres]
          exact W.iret (v := (F 3 t.toNatClampNeg)) hx hb hr (fun t ht hW => ⟨rfl, by rw [ht]; exact hP, by rw [hA]; exact hS.F ht⟩) hS.2.2 dX6_thing_63
    · skip
      rw [if_pos c_2] at hres
      refine lv_iconst (v := (-1)) hx hb dX6_thing_23 (by decide) ?_
      rw [hres]
      exact W.iret (v := (-1)) hx hb hr (fun t ht hW => ⟨rfl, by rw [ht]; exact hP, by rw [hA]; exact hS.F ht⟩) hS.2.2 dX6_thing_24
def d_X6_now (F : Nat → Nat → Int32) (what : Int32) (n : Nat) : Int32 × (Nat → Nat → Int32) :=
  if (d_X6_in what 0 6) = 0 then
      ((-1), (va_up F 0 (upd (F 0) 0 0)))
    else
      if (2 : Int32) ≤ what then
        if what = (2 : Int32) then
          (d_X6_covered (F 3) (F 6) n, (va_up F 0 (upd (F 0) 0 0)))
        else
          if what = (3 : Int32) then
            (d_X6_comers (F 3) (F 5) (F 6) n, (va_up F 0 (upd (F 0) 0 0)))
          else
            if what = (4 : Int32) then
              ((F 6 4), (va_up F 0 (upd (F 0) 0 0)))
            else
              if what = (5 : Int32) then
                (d_X6_dearOf (F 4) (F 5) (F 6 4) 0 n, (va_up F 0 (upd (F 0) 0 0)))
              else
                ((F 0 20), (va_up F 0 (upd (F 0) 0 0)))
      else
        ((F 6 what.toNatClampNeg), (va_up F 0 (upd (F 0) 0 0)))
set_option maxHeartbeats 4000000 in
set_option maxRecDepth 100000 in
theorem c_X6_now (l : Launch) (D : va_G) (cI cC cZ cS : ClassId) (a : Nat → Nat) (F : Nat → Nat → Int32) (tc : Int64) (what : Int32) (n : Nat) (hn : F 2 0 = nI n) (h7 : n ≤ 7) : Met l yX6_now wsX6_now { frames := 3, cells := 0, slots := 0, locals := 68 } (PcE D cI cC cZ cS [.ref (a 0), .int what] (wM cI cC cZ cS a F tc)) (QcM (some (.int ((d_X6_now F what n).1))) D (wM cI cC cZ cS a F tc) (wM cI cC cZ cS a ((d_X6_now F what n).2) tc)) 0 0 (inW (wM cI cC cZ cS a F tc)) := by
  refine Met.ofW (cc := cX6_now) (maxL := 2) (ret := (some .int)) (by decide) rfl ?_
  intro p e s m args below meth c s₁ B hml hv
  obtain ⟨rfl, hP, hD, hE⟩ := hv
  have hK := hE.1
  have hx := B.exec
  have hb := B.bytes
  have hr := B.returns
  have hts := atoms_spec (ws := wsX6_now) B.pre
  have hown : s.vm.findClass RX6 = some m.cls := findClass_of_methodNamed B.named
  have hlocks := B.notSynchronized
  have hinX6 : ∀ w ∈ wsX60, w ∈ wsX6_now := by decide +kernel
  have hD := inW_self hD
  have hS : va_S (inW (wM cI cC cZ cS a F tc)) s.heap s.heap [] := va_S.rf
  generalize hA : inW (wM cI cC cZ cS a F tc) = A at hD hS ⊢
  refine opq (d_X6_now F what n) (fun R hres => ?_)
  rw [hres]
  replace hres := hres.symm
  rw [d_X6_now] at hres
  have hl := lv_entry ([.ref (a 0), .int what]) (n := 2) (Nat.le_of_ble_eq_true rfl)
  rw [lg_entry_eq]
  generalize (lg_sl ([.ref (a 0), .int what]) ++ List.replicate (2 - (lg_sl ([.ref (a 0), .int what])).length) Slot.unset).toArray = ls at hl ⊢
  have hl : lv_has ls 2 [(0, .ref (a 0)), (1, .int what)] := hl
  refine lv_aload_n hx hb dX6_now_0 rfl (lv_at hl 0 rfl) ?_
  refine lv_iconst (v := 0) hx hb dX6_now_1 (by decide) ?_
  refine va_put (D := D) (ci := 6) (v := .int 0) (ty := .int) (C := RX6) (T := TX6) (N := 26) hx hb hts hinX6 tyX6 tyX6_ok nmX6 hown hK hP hD hS 0 rfl rfl 0 (by decide) (hts (.fieldLink RX6 53 "FirstOutModel" "thrown" "I") (by decide +kernel)) (fun _ h9 => h9) rfl (by decide +kernel) rfl rfl (Nat.le_of_ble_eq_true rfl) dX6_now_2 (fun H locs hP hD hS => ?_)
  have hP : va_P D vwCl (wM cI cC cZ cS a (va_up F 0 (upd (F 0) 0 0)) tc) H := hP
  have hD : va_D A (wM cI cC cZ cS a (va_up F 0 (upd (F 0) 0 0)) tc) := hD
  refine lv_iload_n hx hb dX6_now_5 rfl (lv_at hl 1 rfl) ?_
  refine lv_iconst (v := 0) hx hb dX6_now_6 (by decide) ?_
  refine lv_bipush (v := 6) hx hb dX6_now_7 (by decide) ?_
  have hPc := hP.sub (ws' := []) [] rfl
  have hDc := hD.sub (ws' := []) [] (by decide) rfl
  refine m_callR (W.runS (As := [.int what, .int 0, .int 6]) (rest := []) ⟨hx, hb, hml, hown, hts⟩ (c_X6_in l D cI cC cZ cS what 0 6) (va_cwS 3 hts gX6_now_X6_in rfl rfl rfl (by decide +kernel) ⟨Nat.le_of_ble_eq_true rfl, Nat.le_of_ble_eq_true rfl⟩) (preS_of hPc hDc hE) rfl rfl hl.1 rfl (lv_room (Nat.le_of_ble_eq_true rfl)) dX6_now_9 ⟨Nat.zero_le _, Nat.zero_le _⟩) ?_
  refine W.eq (g2 := F0 m 12 ls [.int (d_X6_in what 0 6)]) rfl ?_
  refine lv_if_ne (tgt := 17) hx hb dX6_now_12 (by decide) (fun c_1 => ?_) (fun c_1 => ?_)
  · skip
    rw [if_neg c_1] at hres
    have hwi := in_ok c_1
    refine lv_iload_n hx hb dX6_now_17 rfl (lv_at hl 1 rfl) ?_
    refine lv_iconst (v := 2) hx hb dX6_now_18 (by decide) ?_
    refine lv_icmp_ge (tgt := 29) hx hb dX6_now_19 (by decide) (fun c_2 => ?_) (fun c_2 => ?_)
    · skip
      rw [if_pos c_2] at hres
      refine lv_iload_n hx hb dX6_now_29 rfl (lv_at hl 1 rfl) ?_
      refine lv_iconst (v := 2) hx hb dX6_now_30 (by decide) ?_
      refine lv_icmp_ne (tgt := 45) hx hb dX6_now_31 (by decide) (fun c_3 => ?_) (fun c_3 => ?_)
      · skip
        rw [if_neg c_3] at hres
        refine lv_iload_n hx hb dX6_now_45 rfl (lv_at hl 1 rfl) ?_
        refine lv_iconst (v := 3) hx hb dX6_now_46 (by decide) ?_
        refine lv_icmp_ne (tgt := 61) hx hb dX6_now_47 (by decide) (fun c_4 => ?_) (fun c_4 => ?_)
        · skip
          rw [if_neg c_4] at hres
          refine lv_iload_n hx hb dX6_now_61 rfl (lv_at hl 1 rfl) ?_
          refine lv_iconst (v := 4) hx hb dX6_now_62 (by decide) ?_
          refine lv_icmp_ne (tgt := 75) hx hb dX6_now_63 (by decide) (fun c_5 => ?_) (fun c_5 => ?_)
          · skip
            rw [if_neg c_5] at hres
            refine lv_iload_n hx hb dX6_now_75 rfl (lv_at hl 1 rfl) ?_
            refine lv_iconst (v := 5) hx hb dX6_now_76 (by decide) ?_
            refine lv_icmp_ne (tgt := 94) hx hb dX6_now_77 (by decide) (fun c_6 => ?_) (fun c_6 => ?_)
            · skip
              rw [if_neg c_6] at hres
              refine lv_aload_n hx hb dX6_now_94 rfl (lv_at hl 0 rfl) ?_
              refine va_get (D := D) (ci := 6) (v := .int (F 0 20)) (C := RX6) (T := TX6) (N := 26) hx hb hts hinX6 hown hK hP 0 rfl rfl 20 (by decide) (hts (.fieldLink RX6 111 "FirstOutModel" "undoMany" "I") (by decide +kernel)) (fun _ h9 => h9) rfl dX6_now_95 ?_
              rw [hres]
              exact W.iret (v := (F 0 20)) hx hb hr (fun t ht hW => ⟨rfl, by rw [ht]; exact hP, by rw [hA]; exact hS.F ht⟩) hS.2.2 dX6_now_98
            · skip
              rw [if_pos c_6] at hres
              refine lv_aload_n hx hb dX6_now_80 rfl (lv_at hl 0 rfl) ?_
              refine lv_aload_n hx hb dX6_now_81 rfl (lv_at hl 0 rfl) ?_
              refine va_get (D := D) (ci := 6) (v := .ref (a 6)) (C := RX6) (T := TX6) (N := 26) hx hb hts hinX6 hown hK hP 0 rfl rfl 15 (by decide) (hts (.fieldLink RX6 25 "FirstOutModel" "s" "[I") (by decide +kernel)) (fun _ h9 => h9) rfl dX6_now_82 ?_
              refine lv_iconst (v := 4) hx hb dX6_now_85 (by decide) ?_
              refine m_iald hx hb hK hP 6 0 rfl rfl 4 rfl (by decide) (by decide) dX6_now_86 ?_
              refine lv_to (show _ = (F 6 4) from rfl) ?_
              refine lv_iconst (v := 0) hx hb dX6_now_87 (by decide) ?_
              have hPc := hP.sub (ws' := (w5 cI cC cZ cS a (upd (F 0) 0 0) (F 2) (F 3) (F 4) (F 5) tc)) [0, 2, 3, 4, 5] rfl
              have hDc := hD.sub (ws' := (w5 cI cC cZ cS a (upd (F 0) 0 0) (F 2) (F 3) (F 4) (F 5) tc)) [0, 2, 3, 4, 5] (by decide) rfl
              refine m_callR (W.runV (As := [.int (F 6 4), .int 0]) (rest := []) ⟨hx, hb, hml, hown, hts⟩ (c_X6_dearOf l D cI cC cZ cS a (upd (F 0) 0 0) (F 2) (F 3) (F 4) (F 5) tc (F 6 4) 0 n hn h7) (cwV 2 hts gX6_now_X6_dearOf rfl rfl rfl (by decide +kernel) ⟨Nat.le_of_ble_eq_true rfl, Nat.le_of_ble_eq_true rfl⟩) (preV_of hPc hDc hE (va_recv hK hPc (ci := 6) (q0 := 0) rfl rfl)) rfl rfl hl.1 rfl (lv_room (Nat.le_of_ble_eq_true rfl)) dX6_now_88 ⟨Nat.zero_le _, Nat.zero_le _⟩) ?_
              refine W.eq (g2 := F0 m 91 ls [.int (d_X6_dearOf (F 4) (F 5) (F 6 4) 0 n)]) rfl ?_
              refine lv_goto (tgt := 98) hx hb dX6_now_91 (by decide) ?_
              rw [hres]
              exact W.iret (v := d_X6_dearOf (F 4) (F 5) (F 6 4) 0 n) hx hb hr (fun t ht hW => ⟨rfl, by rw [ht]; exact hP, by rw [hA]; exact hS.F ht⟩) hS.2.2 dX6_now_98
          · skip
            rw [if_pos c_5] at hres
            refine lv_aload_n hx hb dX6_now_66 rfl (lv_at hl 0 rfl) ?_
            refine va_get (D := D) (ci := 6) (v := .ref (a 6)) (C := RX6) (T := TX6) (N := 26) hx hb hts hinX6 hown hK hP 0 rfl rfl 15 (by decide) (hts (.fieldLink RX6 25 "FirstOutModel" "s" "[I") (by decide +kernel)) (fun _ h9 => h9) rfl dX6_now_67 ?_
            refine lv_iconst (v := 4) hx hb dX6_now_70 (by decide) ?_
            refine m_iald hx hb hK hP 6 0 rfl rfl 4 rfl (by decide) (by decide) dX6_now_71 ?_
            refine lv_to (show _ = (F 6 4) from rfl) ?_
            refine lv_goto (tgt := 98) hx hb dX6_now_72 (by decide) ?_
            rw [hres]
            exact W.iret (v := (F 6 4)) hx hb hr (fun t ht hW => ⟨rfl, by rw [ht]; exact hP, by rw [hA]; exact hS.F ht⟩) hS.2.2 dX6_now_98
        · skip
          rw [if_pos c_4] at hres
          refine lv_aload_n hx hb dX6_now_50 rfl (lv_at hl 0 rfl) ?_
          refine lv_aload_n hx hb dX6_now_51 rfl (lv_at hl 0 rfl) ?_
          refine va_get (D := D) (ci := 6) (v := .ref (a 6)) (C := RX6) (T := TX6) (N := 26) hx hb hts hinX6 hown hK hP 0 rfl rfl 15 (by decide) (hts (.fieldLink RX6 25 "FirstOutModel" "s" "[I") (by decide +kernel)) (fun _ h9 => h9) rfl dX6_now_52 ?_
          have hPc := hP.sub (ws' := (w5r cI cC cZ cS a (upd (F 0) 0 0) (F 2) (F 3) (F 4) (F 5) (a 6) (F 6) tc)) [0, 2, 3, 4, 5, 6] rfl
          have hDc := hD.sub (ws' := (w5r cI cC cZ cS a (upd (F 0) 0 0) (F 2) (F 3) (F 4) (F 5) (a 6) (F 6) tc)) [0, 2, 3, 4, 5, 6] (by decide) rfl
          refine m_callR (W.runV (As := [.ref (a 6)]) (rest := []) ⟨hx, hb, hml, hown, hts⟩ (c_X6_comers l D cI cC cZ cS a (upd (F 0) 0 0) (F 2) (F 3) (F 4) (F 5) (a 6) (F 6) tc n hn h7) (cwV 1 hts gX6_now_X6_comers rfl rfl rfl (by decide +kernel) ⟨Nat.le_of_ble_eq_true rfl, Nat.le_of_ble_eq_true rfl⟩) (preV_of hPc hDc hE (va_recv hK hPc (ci := 6) (q0 := 0) rfl rfl)) rfl rfl hl.1 rfl (lv_room (Nat.le_of_ble_eq_true rfl)) dX6_now_55 ⟨Nat.zero_le _, Nat.zero_le _⟩) ?_
          refine W.eq (g2 := F0 m 58 ls [.int (d_X6_comers (F 3) (F 5) (F 6) n)]) rfl ?_
          refine lv_goto (tgt := 98) hx hb dX6_now_58 (by decide) ?_
          rw [hres]
          exact W.iret (v := d_X6_comers (F 3) (F 5) (F 6) n) hx hb hr (fun t ht hW => ⟨rfl, by rw [ht]; exact hP, by rw [hA]; exact hS.F ht⟩) hS.2.2 dX6_now_98
      · skip
        rw [if_pos c_3] at hres
        refine lv_aload_n hx hb dX6_now_34 rfl (lv_at hl 0 rfl) ?_
        refine lv_aload_n hx hb dX6_now_35 rfl (lv_at hl 0 rfl) ?_
        refine va_get (D := D) (ci := 6) (v := .ref (a 6)) (C := RX6) (T := TX6) (N := 26) hx hb hts hinX6 hown hK hP 0 rfl rfl 15 (by decide) (hts (.fieldLink RX6 25 "FirstOutModel" "s" "[I") (by decide +kernel)) (fun _ h9 => h9) rfl dX6_now_36 ?_
        have hPc := hP.sub (ws' := (w5r cI cC cZ cS a (upd (F 0) 0 0) (F 2) (F 3) (F 4) (F 5) (a 6) (F 6) tc)) [0, 2, 3, 4, 5, 6] rfl
        have hDc := hD.sub (ws' := (w5r cI cC cZ cS a (upd (F 0) 0 0) (F 2) (F 3) (F 4) (F 5) (a 6) (F 6) tc)) [0, 2, 3, 4, 5, 6] (by decide) rfl
        refine m_callR (W.runV (As := [.ref (a 6)]) (rest := []) ⟨hx, hb, hml, hown, hts⟩ (c_X6_covered l D cI cC cZ cS a (upd (F 0) 0 0) (F 2) (F 3) (F 4) (F 5) (a 6) (F 6) tc n hn h7) (cwV 1 hts gX6_now_X6_covered rfl rfl rfl (by decide +kernel) ⟨Nat.le_of_ble_eq_true rfl, Nat.le_of_ble_eq_true rfl⟩) (preV_of hPc hDc hE (va_recv hK hPc (ci := 6) (q0 := 0) rfl rfl)) rfl rfl hl.1 rfl (lv_room (Nat.le_of_ble_eq_true rfl)) dX6_now_39 ⟨Nat.zero_le _, Nat.zero_le _⟩) ?_
        refine W.eq (g2 := F0 m 42 ls [.int (d_X6_covered (F 3) (F 6) n)]) rfl ?_
        refine lv_goto (tgt := 98) hx hb dX6_now_42 (by decide) ?_
        rw [hres]
        exact W.iret (v := d_X6_covered (F 3) (F 6) n) hx hb hr (fun t ht hW => ⟨rfl, by rw [ht]; exact hP, by rw [hA]; exact hS.F ht⟩) hS.2.2 dX6_now_98
    · skip
      rw [if_neg c_2] at hres
      have hwx := what_ix2 hwi.1 c_2
      refine lv_aload_n hx hb dX6_now_22 rfl (lv_at hl 0 rfl) ?_
      refine va_get (D := D) (ci := 6) (v := .ref (a 6)) (C := RX6) (T := TX6) (N := 26) hx hb hts hinX6 hown hK hP 0 rfl rfl 15 (by decide) (hts (.fieldLink RX6 25 "FirstOutModel" "s" "[I") (by decide +kernel)) (fun _ h9 => h9) rfl dX6_now_23 ?_
      refine lv_iload_n hx hb dX6_now_26 rfl (lv_at hl 1 rfl) ?_
      refine m_iald hx hb hK hP 6 0 rfl rfl what.toNatClampNeg hwx.1 (by have := hwx.2; omega) (by decide) dX6_now_27 ?_
      refine lv_to (show _ = (F 6 what.toNatClampNeg) from rfl) ?_
      rw [hres]
      exact W.iret (v := (F 6 what.toNatClampNeg)) hx hb hr (fun t ht hW => ⟨rfl, by rw [ht]; exact hP, by rw [hA]; exact hS.F ht⟩) hS.2.2 dX6_now_28
  · skip
    rw [if_pos c_1] at hres
    refine lv_iconst (v := (-1)) hx hb dX6_now_15 (by decide) ?_
    rw [hres]
    exact W.iret (v := (-1)) hx hb hr (fun t ht hW => ⟨rfl, by rw [ht]; exact hP, by rw [hA]; exact hS.F ht⟩) hS.2.2 dX6_now_16
def d_X6_swears (F : Nat → Nat → Int32) (words : Int32) (n : Nat) (um : Nat) : Int32 × (Nat → Nat → Int32) :=
  if (d_X6_in words 0 31) = 0 then
      ((-1), (va_up F 0 (upd (F 0) 0 0)))
    else
      (d_X6_ones (d_X6_covered (F 3) (upd (F 6) 1 words) n), (va_up (va_up (va_up F 0 ((d_X6_notes (upd (F 0) 0 0) (F 6) (F 10) um).1)) 6 (upd (F 6) 1 words)) 10 ((d_X6_notes (upd (F 0) 0 0) (F 6) (F 10) um).2)))
set_option maxHeartbeats 4000000 in
set_option maxRecDepth 100000 in
theorem c_X6_swears (l : Launch) (D : va_G) (cI cC cZ cS : ClassId) (a : Nat → Nat) (F : Nat → Nat → Int32) (tc : Int64) (words : Int32) (n : Nat) (um : Nat) (hn : F 2 0 = nI n) (h7 : n ≤ 7) (hum : F 0 20 = nI um) (hu10 : um ≤ 10) : Met l yX6_swears wsX6_swears { frames := 2, cells := 0, slots := 0, locals := 45 } (PcE D cI cC cZ cS [.ref (a 0), .int words] (wM cI cC cZ cS a F tc)) (QcM (some (.int ((d_X6_swears F words n um).1))) D (wM cI cC cZ cS a F tc) (wM cI cC cZ cS a ((d_X6_swears F words n um).2) tc)) 0 0 (inW (wM cI cC cZ cS a F tc)) := by
  refine Met.ofW (cc := cX6_swears) (maxL := 2) (ret := (some .int)) (by decide) rfl ?_
  intro p e s m args below meth c s₁ B hml hv
  obtain ⟨rfl, hP, hD, hE⟩ := hv
  have hK := hE.1
  have hx := B.exec
  have hb := B.bytes
  have hr := B.returns
  have hts := atoms_spec (ws := wsX6_swears) B.pre
  have hown : s.vm.findClass RX6 = some m.cls := findClass_of_methodNamed B.named
  have hlocks := B.notSynchronized
  have hinX6 : ∀ w ∈ wsX60, w ∈ wsX6_swears := by decide +kernel
  have hD := inW_self hD
  have hS : va_S (inW (wM cI cC cZ cS a F tc)) s.heap s.heap [] := va_S.rf
  generalize hA : inW (wM cI cC cZ cS a F tc) = A at hD hS ⊢
  refine opq (d_X6_swears F words n um) (fun R hres => ?_)
  rw [hres]
  replace hres := hres.symm
  rw [d_X6_swears] at hres
  have hl := lv_entry ([.ref (a 0), .int words]) (n := 2) (Nat.le_of_ble_eq_true rfl)
  rw [lg_entry_eq]
  generalize (lg_sl ([.ref (a 0), .int words]) ++ List.replicate (2 - (lg_sl ([.ref (a 0), .int words])).length) Slot.unset).toArray = ls at hl ⊢
  have hl : lv_has ls 2 [(0, .ref (a 0)), (1, .int words)] := hl
  refine lv_aload_n hx hb dX6_swears_0 rfl (lv_at hl 0 rfl) ?_
  refine lv_iconst (v := 0) hx hb dX6_swears_1 (by decide) ?_
  refine va_put (D := D) (ci := 6) (v := .int 0) (ty := .int) (C := RX6) (T := TX6) (N := 26) hx hb hts hinX6 tyX6 tyX6_ok nmX6 hown hK hP hD hS 0 rfl rfl 0 (by decide) (hts (.fieldLink RX6 53 "FirstOutModel" "thrown" "I") (by decide +kernel)) (fun _ h9 => h9) rfl (by decide +kernel) rfl rfl (Nat.le_of_ble_eq_true rfl) dX6_swears_2 (fun H locs hP hD hS => ?_)
  have hP : va_P D vwCl (wM cI cC cZ cS a (va_up F 0 (upd (F 0) 0 0)) tc) H := hP
  have hD : va_D A (wM cI cC cZ cS a (va_up F 0 (upd (F 0) 0 0)) tc) := hD
  refine lv_iload_n hx hb dX6_swears_5 rfl (lv_at hl 1 rfl) ?_
  refine lv_iconst (v := 0) hx hb dX6_swears_6 (by decide) ?_
  refine lv_bipush (v := 31) hx hb dX6_swears_7 (by decide) ?_
  have hPc := hP.sub (ws' := []) [] rfl
  have hDc := hD.sub (ws' := []) [] (by decide) rfl
  refine m_callR (W.runS (As := [.int words, .int 0, .int 31]) (rest := []) ⟨hx, hb, hml, hown, hts⟩ (c_X6_in l D cI cC cZ cS words 0 31) (va_cwS 3 hts gX6_swears_X6_in rfl rfl rfl (by decide +kernel) ⟨Nat.le_of_ble_eq_true rfl, Nat.le_of_ble_eq_true rfl⟩) (preS_of hPc hDc hE) rfl rfl hl.1 rfl (lv_room (Nat.le_of_ble_eq_true rfl)) dX6_swears_9 ⟨Nat.zero_le _, Nat.zero_le _⟩) ?_
  refine W.eq (g2 := F0 m 12 ls [.int (d_X6_in words 0 31)]) rfl ?_
  refine lv_if_ne (tgt := 17) hx hb dX6_swears_12 (by decide) (fun c_1 => ?_) (fun c_1 => ?_)
  · skip
    rw [if_neg c_1] at hres
    refine lv_aload_n hx hb dX6_swears_17 rfl (lv_at hl 0 rfl) ?_
    have hPc := hP.sub (ws' := (wMn cI cC cZ cS a (upd (F 0) 0 0) (F 6) (F 10) tc)) [0, 6, 10] rfl
    have hDc := hD.sub (ws' := (wMn cI cC cZ cS a (upd (F 0) 0 0) (F 6) (F 10) tc)) [0, 6, 10] (by decide) rfl
    refine m_callM (W.runV (As := []) (rest := []) ⟨hx, hb, hml, hown, hts⟩ (c_X6_notes l D cI cC cZ cS a (upd (F 0) 0 0) (F 6) (F 10) tc um hum hu10) (cwV 0 hts gX6_swears_X6_notes rfl rfl rfl (by decide +kernel) ⟨Nat.le_of_ble_eq_true rfl, Nat.le_of_ble_eq_true rfl⟩) (preV_of hPc hDc hE (va_recv hK hPc (ci := 6) (q0 := 0) rfl rfl)) rfl rfl hl.1 rfl (lv_room (Nat.le_of_ble_eq_true rfl)) dX6_swears_18 ⟨Nat.zero_le _, Nat.zero_le _⟩) hP hD hS [0, 6, 10] rfl wMn_ad (fun H locs hP hD hS => ?_)
    have hP : va_P D vwCl (wM cI cC cZ cS a (va_up (va_up F 0 ((d_X6_notes (upd (F 0) 0 0) (F 6) (F 10) um).1)) 10 ((d_X6_notes (upd (F 0) 0 0) (F 6) (F 10) um).2)) tc) H := hP
    have hD : va_D A (wM cI cC cZ cS a (va_up (va_up F 0 ((d_X6_notes (upd (F 0) 0 0) (F 6) (F 10) um).1)) 10 ((d_X6_notes (upd (F 0) 0 0) (F 6) (F 10) um).2)) tc) := hD
    refine W.eq (g2 := F0 m 21 ls []) rfl ?_
    refine opq (d_X6_notes (upd (F 0) 0 0) (F 6) (F 10) um) (fun r_2 hr_2 => ?_)
    try rw [hr_2] at hP
    try rw [hr_2] at hD
    try rw [hr_2] at hres
    try rw [hr_2]
    refine lv_aload_n hx hb dX6_swears_21 rfl (lv_at hl 0 rfl) ?_
    refine va_get (D := D) (ci := 6) (v := .ref (a 6)) (C := RX6) (T := TX6) (N := 26) hx hb hts hinX6 hown hK hP 0 rfl rfl 15 (by decide) (hts (.fieldLink RX6 25 "FirstOutModel" "s" "[I") (by decide +kernel)) (fun _ h9 => h9) rfl dX6_swears_22 ?_
    refine lv_iconst (v := 1) hx hb dX6_swears_25 (by decide) ?_
    refine lv_iload_n hx hb dX6_swears_26 rfl (lv_at hl 1 rfl) ?_
    refine m_iast hx hb hK hP hD hS 6 0 rfl rfl 1 rfl (by decide) (by decide) dX6_swears_27 (fun H locs hP hD hS => ?_)
    have hP : va_P D vwCl (wM cI cC cZ cS a (va_up (va_up (va_up F 0 r_2.1) 6 (upd (F 6) 1 words)) 10 r_2.2) tc) H := hP
    have hD : va_D A (wM cI cC cZ cS a (va_up (va_up (va_up F 0 r_2.1) 6 (upd (F 6) 1 words)) 10 r_2.2) tc) := hD
    refine lv_aload_n hx hb dX6_swears_28 rfl (lv_at hl 0 rfl) ?_
    refine lv_aload_n hx hb dX6_swears_29 rfl (lv_at hl 0 rfl) ?_
    refine va_get (D := D) (ci := 6) (v := .ref (a 6)) (C := RX6) (T := TX6) (N := 26) hx hb hts hinX6 hown hK hP 0 rfl rfl 15 (by decide) (hts (.fieldLink RX6 25 "FirstOutModel" "s" "[I") (by decide +kernel)) (fun _ h9 => h9) rfl dX6_swears_30 ?_
    have hPc := hP.sub (ws' := (w5r cI cC cZ cS a r_2.1 (F 2) (F 3) (F 4) (F 5) (a 6) (upd (F 6) 1 words) tc)) [0, 2, 3, 4, 5, 6] rfl
    have hDc := hD.sub (ws' := (w5r cI cC cZ cS a r_2.1 (F 2) (F 3) (F 4) (F 5) (a 6) (upd (F 6) 1 words) tc)) [0, 2, 3, 4, 5, 6] (by decide) rfl
    refine m_callR (W.runV (As := [.ref (a 6)]) (rest := []) ⟨hx, hb, hml, hown, hts⟩ (c_X6_covered l D cI cC cZ cS a r_2.1 (F 2) (F 3) (F 4) (F 5) (a 6) (upd (F 6) 1 words) tc n hn h7) (cwV 1 hts gX6_swears_X6_covered rfl rfl rfl (by decide +kernel) ⟨Nat.le_of_ble_eq_true rfl, Nat.le_of_ble_eq_true rfl⟩) (preV_of hPc hDc hE (va_recv hK hPc (ci := 6) (q0 := 0) rfl rfl)) rfl rfl hl.1 rfl (lv_room (Nat.le_of_ble_eq_true rfl)) dX6_swears_33 ⟨Nat.zero_le _, Nat.zero_le _⟩) ?_
    refine W.eq (g2 := F0 m 36 ls [.int (d_X6_covered (F 3) (upd (F 6) 1 words) n)]) rfl ?_
    have hPc := hP.sub (ws' := []) [] rfl
    have hDc := hD.sub (ws' := []) [] (by decide) rfl
    refine m_callR (W.runS (As := [.int (d_X6_covered (F 3) (upd (F 6) 1 words) n)]) (rest := []) ⟨hx, hb, hml, hown, hts⟩ (c_X6_ones l D cI cC cZ cS (d_X6_covered (F 3) (upd (F 6) 1 words) n)) (va_cwS 1 hts gX6_swears_X6_ones rfl rfl rfl (by decide +kernel) ⟨Nat.le_of_ble_eq_true rfl, Nat.le_of_ble_eq_true rfl⟩) (preS_of hPc hDc hE) rfl rfl hl.1 rfl (lv_room (Nat.le_of_ble_eq_true rfl)) dX6_swears_36 ⟨Nat.zero_le _, Nat.zero_le _⟩) ?_
    refine W.eq (g2 := F0 m 39 ls [.int (d_X6_ones (d_X6_covered (F 3) (upd (F 6) 1 words) n))]) rfl ?_
    rw [hres]
    exact W.iret (v := d_X6_ones (d_X6_covered (F 3) (upd (F 6) 1 words) n)) hx hb hr (fun t ht hW => ⟨rfl, by rw [ht]; exact hP, by rw [hA]; exact hS.F ht⟩) hS.2.2 dX6_swears_39
  · skip
    rw [if_pos c_1] at hres
    refine lv_iconst (v := (-1)) hx hb dX6_swears_15 (by decide) ?_
    rw [hres]
    exact W.iret (v := (-1)) hx hb hr (fun t ht hW => ⟨rfl, by rw [ht]; exact hP, by rw [hA]; exact hS.F ht⟩) hS.2.2 dX6_swears_16
def d_X6_becomes (F : Nat → Nat → Int32) (t : Int32) (is : Int32) (n : Nat) (um : Nat) (ce : Nat) : Int32 × (Nat → Nat → Int32) :=
  if (d_X6_isThing t n) = 0 then
      ((-1), F)
    else
      if (d_X6_in is 0 1) = 0 then
        ((-1), F)
      else
        (((F 6 ce) >>> (t &&& 31)) &&& (1 : Int32), (va_up (va_up (va_up F 0 ((d_X6_notes (F 0) (F 6) (F 10) um).1)) 6 (upd (F 6) ce (((F 6 ce) &&& (((1 : Int32) <<< (t &&& 31)) ^^^ (-1 : Int32))) ||| (is <<< (t &&& 31))))) 10 ((d_X6_notes (F 0) (F 6) (F 10) um).2)))
set_option maxHeartbeats 4000000 in
set_option maxRecDepth 100000 in
theorem c_X6_becomes (l : Launch) (D : va_G) (cI cC cZ cS : ClassId) (a : Nat → Nat) (F : Nat → Nat → Int32) (tc : Int64) (cell : Int32) (t : Int32) (is : Int32) (n : Nat) (um : Nat) (ce : Nat) (hn : F 2 0 = nI n) (h7 : n ≤ 7) (hum : F 0 20 = nI um) (hu10 : um ≤ 10) (hce : cell = nI ce) (hc5 : ce < 5) : Met l yX6_becomes wsX6_becomes { frames := 2, cells := 0, slots := 0, locals := 43 } (PcE D cI cC cZ cS [.ref (a 0), .int cell, .int t, .int is] (wM cI cC cZ cS a F tc)) (QcM (some (.int ((d_X6_becomes F t is n um ce).1))) D (wM cI cC cZ cS a F tc) (wM cI cC cZ cS a ((d_X6_becomes F t is n um ce).2) tc)) 0 0 (inW (wM cI cC cZ cS a F tc)) := by
  refine Met.ofW (cc := cX6_becomes) (maxL := 5) (ret := (some .int)) (by decide) rfl ?_
  intro p e s m args below meth c s₁ B hml hv
  obtain ⟨rfl, hP, hD, hE⟩ := hv
  have hK := hE.1
  have hx := B.exec
  have hb := B.bytes
  have hr := B.returns
  have hts := atoms_spec (ws := wsX6_becomes) B.pre
  have hown : s.vm.findClass RX6 = some m.cls := findClass_of_methodNamed B.named
  have hlocks := B.notSynchronized
  have hinX6 : ∀ w ∈ wsX60, w ∈ wsX6_becomes := by decide +kernel
  have hD := inW_self hD
  have hS : va_S (inW (wM cI cC cZ cS a F tc)) s.heap s.heap [] := va_S.rf
  generalize hA : inW (wM cI cC cZ cS a F tc) = A at hD hS ⊢
  refine opq (d_X6_becomes F t is n um ce) (fun R hres => ?_)
  rw [hres]
  replace hres := hres.symm
  rw [d_X6_becomes] at hres
  have hl := lv_entry ([.ref (a 0), .int cell, .int t, .int is]) (n := 5) (Nat.le_of_ble_eq_true rfl)
  rw [lg_entry_eq]
  generalize (lg_sl ([.ref (a 0), .int cell, .int t, .int is]) ++ List.replicate (5 - (lg_sl ([.ref (a 0), .int cell, .int t, .int is])).length) Slot.unset).toArray = ls at hl ⊢
  have hl : lv_has ls 5 [(0, .ref (a 0)), (1, .int cell), (2, .int t), (3, .int is)] := hl
  refine lv_aload_n hx hb dX6_becomes_0 rfl (lv_at hl 0 rfl) ?_
  refine lv_iload_n hx hb dX6_becomes_1 rfl (lv_at hl 2 rfl) ?_
  have hPc := hP.sub (ws' := (w5 cI cC cZ cS a (F 0) (F 2) (F 3) (F 4) (F 5) tc)) [0, 2, 3, 4, 5] rfl
  have hDc := hD.sub (ws' := (w5 cI cC cZ cS a (F 0) (F 2) (F 3) (F 4) (F 5) tc)) [0, 2, 3, 4, 5] (by decide) rfl
  refine m_callR (W.runV (As := [.int t]) (rest := []) ⟨hx, hb, hml, hown, hts⟩ (c_X6_isThing l D cI cC cZ cS a (F 0) (F 2) (F 3) (F 4) (F 5) tc t n hn h7) (cwV 1 hts gX6_becomes_X6_isThing rfl rfl rfl (by decide +kernel) ⟨Nat.le_of_ble_eq_true rfl, Nat.le_of_ble_eq_true rfl⟩) (preV_of hPc hDc hE (va_recv hK hPc (ci := 6) (q0 := 0) rfl rfl)) rfl rfl hl.1 rfl (lv_room (Nat.le_of_ble_eq_true rfl)) dX6_becomes_2 ⟨Nat.zero_le _, Nat.zero_le _⟩) ?_
  refine W.eq (g2 := F0 m 5 ls [.int (d_X6_isThing t n)]) rfl ?_
  refine lv_if_eq (tgt := 17) hx hb dX6_becomes_5 (by decide) (fun c_1 => ?_) (fun c_1 => ?_)
  · skip
    rw [if_pos c_1] at hres
    refine lv_iconst (v := (-1)) hx hb dX6_becomes_17 (by decide) ?_
    rw [hres]
    exact W.iret (v := (-1)) hx hb hr (fun t ht hW => ⟨rfl, by rw [ht]; exact hP, by rw [hA]; exact hS.F ht⟩) hS.2.2 dX6_becomes_18
  · skip
    rw [if_neg c_1] at hres
    have ti := isThing_ok (mn := F 2) c_1 h7
    refine lv_iload_n hx hb dX6_becomes_8 rfl (lv_at hl 3 rfl) ?_
    refine lv_iconst (v := 0) hx hb dX6_becomes_9 (by decide) ?_
    refine lv_iconst (v := 1) hx hb dX6_becomes_10 (by decide) ?_
    have hPc := hP.sub (ws' := []) [] rfl
    have hDc := hD.sub (ws' := []) [] (by decide) rfl
    refine m_callR (W.runS (As := [.int is, .int 0, .int 1]) (rest := []) ⟨hx, hb, hml, hown, hts⟩ (c_X6_in l D cI cC cZ cS is 0 1) (va_cwS 3 hts gX6_becomes_X6_in rfl rfl rfl (by decide +kernel) ⟨Nat.le_of_ble_eq_true rfl, Nat.le_of_ble_eq_true rfl⟩) (preS_of hPc hDc hE) rfl rfl hl.1 rfl (lv_room (Nat.le_of_ble_eq_true rfl)) dX6_becomes_11 ⟨Nat.zero_le _, Nat.zero_le _⟩) ?_
    refine W.eq (g2 := F0 m 14 ls [.int (d_X6_in is 0 1)]) rfl ?_
    refine lv_if_ne (tgt := 19) hx hb dX6_becomes_14 (by decide) (fun c_2 => ?_) (fun c_2 => ?_)
    · skip
      rw [if_neg c_2] at hres
      refine lv_aload_n hx hb dX6_becomes_19 rfl (lv_at hl 0 rfl) ?_
      have hPc := hP.sub (ws' := (wMn cI cC cZ cS a (F 0) (F 6) (F 10) tc)) [0, 6, 10] rfl
      have hDc := hD.sub (ws' := (wMn cI cC cZ cS a (F 0) (F 6) (F 10) tc)) [0, 6, 10] (by decide) rfl
      refine m_callM (W.runV (As := []) (rest := []) ⟨hx, hb, hml, hown, hts⟩ (c_X6_notes l D cI cC cZ cS a (F 0) (F 6) (F 10) tc um hum hu10) (cwV 0 hts gX6_becomes_X6_notes rfl rfl rfl (by decide +kernel) ⟨Nat.le_of_ble_eq_true rfl, Nat.le_of_ble_eq_true rfl⟩) (preV_of hPc hDc hE (va_recv hK hPc (ci := 6) (q0 := 0) rfl rfl)) rfl rfl hl.1 rfl (lv_room (Nat.le_of_ble_eq_true rfl)) dX6_becomes_20 ⟨Nat.zero_le _, Nat.zero_le _⟩) hP hD hS [0, 6, 10] rfl wMn_ad (fun H locs hP hD hS => ?_)
      have hP : va_P D vwCl (wM cI cC cZ cS a (va_up (va_up F 0 ((d_X6_notes (F 0) (F 6) (F 10) um).1)) 10 ((d_X6_notes (F 0) (F 6) (F 10) um).2)) tc) H := hP
      have hD : va_D A (wM cI cC cZ cS a (va_up (va_up F 0 ((d_X6_notes (F 0) (F 6) (F 10) um).1)) 10 ((d_X6_notes (F 0) (F 6) (F 10) um).2)) tc) := hD
      refine W.eq (g2 := F0 m 23 ls []) rfl ?_
      refine opq (d_X6_notes (F 0) (F 6) (F 10) um) (fun r_3 hr_3 => ?_)
      try rw [hr_3] at hP
      try rw [hr_3] at hD
      try rw [hr_3] at hres
      try rw [hr_3]
      refine lv_aload_n hx hb dX6_becomes_23 rfl (lv_at hl 0 rfl) ?_
      refine va_get (D := D) (ci := 6) (v := .ref (a 6)) (C := RX6) (T := TX6) (N := 26) hx hb hts hinX6 hown hK hP 0 rfl rfl 15 (by decide) (hts (.fieldLink RX6 25 "FirstOutModel" "s" "[I") (by decide +kernel)) (fun _ h9 => h9) rfl dX6_becomes_24 ?_
      refine lv_iload_n hx hb dX6_becomes_27 rfl (lv_at hl 1 rfl) ?_
      refine m_iald hx hb hK hP 6 0 rfl rfl ce hce hc5 (by decide) dX6_becomes_28 ?_
      refine lv_to (show _ = (F 6 ce) from rfl) ?_
      refine lv_iload_n hx hb dX6_becomes_29 rfl (lv_at hl 2 rfl) ?_
      refine lv_ishr hx hb dX6_becomes_30 ?_
      refine lv_iconst (v := 1) hx hb dX6_becomes_31 (by decide) ?_
      refine lv_iand hx hb dX6_becomes_32 ?_
      refine lv_istore (lv' := [(4, .int (((F 6 ce) >>> (t &&& 31)) &&& (1 : Int32))), (0, .ref (a 0)), (1, .int cell), (2, .int t), (3, .int is)]) hx hb dX6_becomes_33 hl (by decide) rfl (fun ls hl => ?_)
      refine lv_aload_n hx hb dX6_becomes_35 rfl (lv_at hl 1 rfl) ?_
      refine va_get (D := D) (ci := 6) (v := .ref (a 6)) (C := RX6) (T := TX6) (N := 26) hx hb hts hinX6 hown hK hP 0 rfl rfl 15 (by decide) (hts (.fieldLink RX6 25 "FirstOutModel" "s" "[I") (by decide +kernel)) (fun _ h9 => h9) rfl dX6_becomes_36 ?_
      refine lv_iload_n hx hb dX6_becomes_39 rfl (lv_at hl 2 rfl) ?_
      refine lv_aload_n hx hb dX6_becomes_40 rfl (lv_at hl 1 rfl) ?_
      refine va_get (D := D) (ci := 6) (v := .ref (a 6)) (C := RX6) (T := TX6) (N := 26) hx hb hts hinX6 hown hK hP 0 rfl rfl 15 (by decide) (hts (.fieldLink RX6 25 "FirstOutModel" "s" "[I") (by decide +kernel)) (fun _ h9 => h9) rfl dX6_becomes_41 ?_
      refine lv_iload_n hx hb dX6_becomes_44 rfl (lv_at hl 2 rfl) ?_
      refine m_iald hx hb hK hP 6 0 rfl rfl ce hce hc5 (by decide) dX6_becomes_45 ?_
      refine lv_to (show _ = (F 6 ce) from rfl) ?_
      refine lv_iconst (v := 1) hx hb dX6_becomes_46 (by decide) ?_
      refine lv_iload_n hx hb dX6_becomes_47 rfl (lv_at hl 3 rfl) ?_
      refine lv_ishl hx hb dX6_becomes_48 ?_
      refine lv_iconst (v := (-1)) hx hb dX6_becomes_49 (by decide) ?_
      refine lv_ixor hx hb dX6_becomes_50 ?_
      refine lv_iand hx hb dX6_becomes_51 ?_
      refine lv_iload_n hx hb dX6_becomes_52 rfl (lv_at hl 4 rfl) ?_
      refine lv_iload_n hx hb dX6_becomes_53 rfl (lv_at hl 3 rfl) ?_
      refine lv_ishl hx hb dX6_becomes_54 ?_
      refine lv_ior hx hb dX6_becomes_55 ?_
      refine m_iast hx hb hK hP hD hS 6 0 rfl rfl ce hce hc5 (by decide) dX6_becomes_56 (fun H locs hP hD hS => ?_)
      have hP : va_P D vwCl (wM cI cC cZ cS a (va_up (va_up (va_up F 0 r_3.1) 6 (upd (F 6) ce (((F 6 ce) &&& (((1 : Int32) <<< (t &&& 31)) ^^^ (-1 : Int32))) ||| (is <<< (t &&& 31))))) 10 r_3.2) tc) H := hP
      have hD : va_D A (wM cI cC cZ cS a (va_up (va_up (va_up F 0 r_3.1) 6 (upd (F 6) ce (((F 6 ce) &&& (((1 : Int32) <<< (t &&& 31)) ^^^ (-1 : Int32))) ||| (is <<< (t &&& 31))))) 10 r_3.2) tc) := hD
      refine lv_iload hx hb dX6_becomes_57 (lv_at hl 0 rfl) ?_
      rw [hres]
      exact W.iret (v := ((F 6 ce) >>> (t &&& 31)) &&& (1 : Int32)) hx hb hr (fun t ht hW => ⟨rfl, by rw [ht]; exact hP, by rw [hA]; exact hS.F ht⟩) hS.2.2 dX6_becomes_59
    · skip
      rw [if_pos c_2] at hres
      refine lv_iconst (v := (-1)) hx hb dX6_becomes_17 (by decide) ?_
      rw [hres]
      exact W.iret (v := (-1)) hx hb hr (fun t ht hW => ⟨rfl, by rw [ht]; exact hP, by rw [hA]; exact hS.F ht⟩) hS.2.2 dX6_becomes_18
def d_X6_keepsIn (F : Nat → Nat → Int32) (t : Int32) (is : Int32) (n : Nat) (um : Nat) : Int32 × (Nat → Nat → Int32) :=
  ((d_X6_becomes (va_up F 0 (upd (F 0) 0 0)) t is n um 3).1, ((d_X6_becomes (va_up F 0 (upd (F 0) 0 0)) t is n um 3).2))
set_option maxHeartbeats 4000000 in
set_option maxRecDepth 100000 in
theorem c_X6_keepsIn (l : Launch) (D : va_G) (cI cC cZ cS : ClassId) (a : Nat → Nat) (F : Nat → Nat → Int32) (tc : Int64) (t : Int32) (is : Int32) (n : Nat) (um : Nat) (hn : F 2 0 = nI n) (h7 : n ≤ 7) (hum : F 0 20 = nI um) (hu10 : um ≤ 10) : Met l yX6_keepsIn wsX6_keepsIn { frames := 3, cells := 0, slots := 0, locals := 67 } (PcE D cI cC cZ cS [.ref (a 0), .int t, .int is] (wM cI cC cZ cS a F tc)) (QcM (some (.int ((d_X6_keepsIn F t is n um).1))) D (wM cI cC cZ cS a F tc) (wM cI cC cZ cS a ((d_X6_keepsIn F t is n um).2) tc)) 0 0 (inW (wM cI cC cZ cS a F tc)) := by
  refine Met.ofW (cc := cX6_keepsIn) (maxL := 3) (ret := (some .int)) (by decide) rfl ?_
  intro p e s m args below meth c s₁ B hml hv
  obtain ⟨rfl, hP, hD, hE⟩ := hv
  have hK := hE.1
  have hx := B.exec
  have hb := B.bytes
  have hr := B.returns
  have hts := atoms_spec (ws := wsX6_keepsIn) B.pre
  have hown : s.vm.findClass RX6 = some m.cls := findClass_of_methodNamed B.named
  have hlocks := B.notSynchronized
  have hinX6 : ∀ w ∈ wsX60, w ∈ wsX6_keepsIn := by decide +kernel
  have hD := inW_self hD
  have hS : va_S (inW (wM cI cC cZ cS a F tc)) s.heap s.heap [] := va_S.rf
  generalize hA : inW (wM cI cC cZ cS a F tc) = A at hD hS ⊢
  refine opq (d_X6_keepsIn F t is n um) (fun R hres => ?_)
  rw [hres]
  replace hres := hres.symm
  rw [d_X6_keepsIn] at hres
  have hl := lv_entry ([.ref (a 0), .int t, .int is]) (n := 3) (Nat.le_of_ble_eq_true rfl)
  rw [lg_entry_eq]
  generalize (lg_sl ([.ref (a 0), .int t, .int is]) ++ List.replicate (3 - (lg_sl ([.ref (a 0), .int t, .int is])).length) Slot.unset).toArray = ls at hl ⊢
  have hl : lv_has ls 3 [(0, .ref (a 0)), (1, .int t), (2, .int is)] := hl
  refine lv_aload_n hx hb dX6_keepsIn_0 rfl (lv_at hl 0 rfl) ?_
  refine lv_iconst (v := 0) hx hb dX6_keepsIn_1 (by decide) ?_
  refine va_put (D := D) (ci := 6) (v := .int 0) (ty := .int) (C := RX6) (T := TX6) (N := 26) hx hb hts hinX6 tyX6 tyX6_ok nmX6 hown hK hP hD hS 0 rfl rfl 0 (by decide) (hts (.fieldLink RX6 53 "FirstOutModel" "thrown" "I") (by decide +kernel)) (fun _ h9 => h9) rfl (by decide +kernel) rfl rfl (Nat.le_of_ble_eq_true rfl) dX6_keepsIn_2 (fun H locs hP hD hS => ?_)
  have hP : va_P D vwCl (wM cI cC cZ cS a (va_up F 0 (upd (F 0) 0 0)) tc) H := hP
  have hD : va_D A (wM cI cC cZ cS a (va_up F 0 (upd (F 0) 0 0)) tc) := hD
  refine lv_aload_n hx hb dX6_keepsIn_5 rfl (lv_at hl 0 rfl) ?_
  refine lv_iconst (v := 3) hx hb dX6_keepsIn_6 (by decide) ?_
  refine lv_iload_n hx hb dX6_keepsIn_7 rfl (lv_at hl 1 rfl) ?_
  refine lv_iload_n hx hb dX6_keepsIn_8 rfl (lv_at hl 2 rfl) ?_
  have hPc := hP.sub (ws' := (wM cI cC cZ cS a (va_up F 0 (upd (F 0) 0 0)) tc)) [0, 1, 2, 3, 4, 5, 6, 7, 8, 9, 10, 11, 12] rfl
  have hDc := hD.sub (ws' := (wM cI cC cZ cS a (va_up F 0 (upd (F 0) 0 0)) tc)) [0, 1, 2, 3, 4, 5, 6, 7, 8, 9, 10, 11, 12] (by decide) rfl
  refine m_callM (W.runV (As := [.int 3, .int t, .int is]) (rest := []) ⟨hx, hb, hml, hown, hts⟩ (c_X6_becomes l D cI cC cZ cS a (va_up F 0 (upd (F 0) 0 0)) tc 3 t is n um 3 hn h7 hum hu10 rfl (by decide)) (cwV 3 hts gX6_keepsIn_X6_becomes rfl rfl rfl (by decide +kernel) ⟨Nat.le_of_ble_eq_true rfl, Nat.le_of_ble_eq_true rfl⟩) (preV_of hPc hDc hE (va_recv hK hPc (ci := 6) (q0 := 0) rfl rfl)) rfl rfl hl.1 rfl (lv_room (Nat.le_of_ble_eq_true rfl)) dX6_keepsIn_9 ⟨Nat.zero_le _, Nat.zero_le _⟩) hP hD hS [0, 1, 2, 3, 4, 5, 6, 7, 8, 9, 10, 11, 12] rfl wM_ad (fun H locs hP hD hS => ?_)
  have hP : va_P D vwCl (wM cI cC cZ cS a ((d_X6_becomes (va_up F 0 (upd (F 0) 0 0)) t is n um 3).2) tc) H := hP
  have hD : va_D A (wM cI cC cZ cS a ((d_X6_becomes (va_up F 0 (upd (F 0) 0 0)) t is n um 3).2) tc) := hD
  refine W.eq (g2 := F0 m 12 ls [.int ((d_X6_becomes (va_up F 0 (upd (F 0) 0 0)) t is n um 3).1)]) rfl ?_
  refine opq (d_X6_becomes (va_up F 0 (upd (F 0) 0 0)) t is n um 3) (fun r_1 hr_1 => ?_)
  try rw [hr_1] at hP
  try rw [hr_1] at hD
  try rw [hr_1] at hres
  try rw [hr_1]
  rw [hres]
  exact W.iret (v := r_1.1) hx hb hr (fun t ht hW => ⟨rfl, by rw [ht]; exact hP, by rw [hA]; exact hS.F ht⟩) hS.2.2 dX6_keepsIn_12
def d_X6_tells (F : Nat → Nat → Int32) (t : Int32) (is : Int32) (n : Nat) (um : Nat) : Int32 × (Nat → Nat → Int32) :=
  ((d_X6_becomes (va_up F 0 (upd (F 0) 0 0)) t is n um 2).1, ((d_X6_becomes (va_up F 0 (upd (F 0) 0 0)) t is n um 2).2))
set_option maxHeartbeats 4000000 in
set_option maxRecDepth 100000 in
theorem c_X6_tells (l : Launch) (D : va_G) (cI cC cZ cS : ClassId) (a : Nat → Nat) (F : Nat → Nat → Int32) (tc : Int64) (t : Int32) (is : Int32) (n : Nat) (um : Nat) (hn : F 2 0 = nI n) (h7 : n ≤ 7) (hum : F 0 20 = nI um) (hu10 : um ≤ 10) : Met l yX6_tells wsX6_tells { frames := 3, cells := 0, slots := 0, locals := 67 } (PcE D cI cC cZ cS [.ref (a 0), .int t, .int is] (wM cI cC cZ cS a F tc)) (QcM (some (.int ((d_X6_tells F t is n um).1))) D (wM cI cC cZ cS a F tc) (wM cI cC cZ cS a ((d_X6_tells F t is n um).2) tc)) 0 0 (inW (wM cI cC cZ cS a F tc)) := by
  refine Met.ofW (cc := cX6_tells) (maxL := 3) (ret := (some .int)) (by decide) rfl ?_
  intro p e s m args below meth c s₁ B hml hv
  obtain ⟨rfl, hP, hD, hE⟩ := hv
  have hK := hE.1
  have hx := B.exec
  have hb := B.bytes
  have hr := B.returns
  have hts := atoms_spec (ws := wsX6_tells) B.pre
  have hown : s.vm.findClass RX6 = some m.cls := findClass_of_methodNamed B.named
  have hlocks := B.notSynchronized
  have hinX6 : ∀ w ∈ wsX60, w ∈ wsX6_tells := by decide +kernel
  have hD := inW_self hD
  have hS : va_S (inW (wM cI cC cZ cS a F tc)) s.heap s.heap [] := va_S.rf
  generalize hA : inW (wM cI cC cZ cS a F tc) = A at hD hS ⊢
  refine opq (d_X6_tells F t is n um) (fun R hres => ?_)
  rw [hres]
  replace hres := hres.symm
  rw [d_X6_tells] at hres
  have hl := lv_entry ([.ref (a 0), .int t, .int is]) (n := 3) (Nat.le_of_ble_eq_true rfl)
  rw [lg_entry_eq]
  generalize (lg_sl ([.ref (a 0), .int t, .int is]) ++ List.replicate (3 - (lg_sl ([.ref (a 0), .int t, .int is])).length) Slot.unset).toArray = ls at hl ⊢
  have hl : lv_has ls 3 [(0, .ref (a 0)), (1, .int t), (2, .int is)] := hl
  refine lv_aload_n hx hb dX6_tells_0 rfl (lv_at hl 0 rfl) ?_
  refine lv_iconst (v := 0) hx hb dX6_tells_1 (by decide) ?_
  refine va_put (D := D) (ci := 6) (v := .int 0) (ty := .int) (C := RX6) (T := TX6) (N := 26) hx hb hts hinX6 tyX6 tyX6_ok nmX6 hown hK hP hD hS 0 rfl rfl 0 (by decide) (hts (.fieldLink RX6 53 "FirstOutModel" "thrown" "I") (by decide +kernel)) (fun _ h9 => h9) rfl (by decide +kernel) rfl rfl (Nat.le_of_ble_eq_true rfl) dX6_tells_2 (fun H locs hP hD hS => ?_)
  have hP : va_P D vwCl (wM cI cC cZ cS a (va_up F 0 (upd (F 0) 0 0)) tc) H := hP
  have hD : va_D A (wM cI cC cZ cS a (va_up F 0 (upd (F 0) 0 0)) tc) := hD
  refine lv_aload_n hx hb dX6_tells_5 rfl (lv_at hl 0 rfl) ?_
  refine lv_iconst (v := 2) hx hb dX6_tells_6 (by decide) ?_
  refine lv_iload_n hx hb dX6_tells_7 rfl (lv_at hl 1 rfl) ?_
  refine lv_iload_n hx hb dX6_tells_8 rfl (lv_at hl 2 rfl) ?_
  have hPc := hP.sub (ws' := (wM cI cC cZ cS a (va_up F 0 (upd (F 0) 0 0)) tc)) [0, 1, 2, 3, 4, 5, 6, 7, 8, 9, 10, 11, 12] rfl
  have hDc := hD.sub (ws' := (wM cI cC cZ cS a (va_up F 0 (upd (F 0) 0 0)) tc)) [0, 1, 2, 3, 4, 5, 6, 7, 8, 9, 10, 11, 12] (by decide) rfl
  refine m_callM (W.runV (As := [.int 2, .int t, .int is]) (rest := []) ⟨hx, hb, hml, hown, hts⟩ (c_X6_becomes l D cI cC cZ cS a (va_up F 0 (upd (F 0) 0 0)) tc 2 t is n um 2 hn h7 hum hu10 rfl (by decide)) (cwV 3 hts gX6_tells_X6_becomes rfl rfl rfl (by decide +kernel) ⟨Nat.le_of_ble_eq_true rfl, Nat.le_of_ble_eq_true rfl⟩) (preV_of hPc hDc hE (va_recv hK hPc (ci := 6) (q0 := 0) rfl rfl)) rfl rfl hl.1 rfl (lv_room (Nat.le_of_ble_eq_true rfl)) dX6_tells_9 ⟨Nat.zero_le _, Nat.zero_le _⟩) hP hD hS [0, 1, 2, 3, 4, 5, 6, 7, 8, 9, 10, 11, 12] rfl wM_ad (fun H locs hP hD hS => ?_)
  have hP : va_P D vwCl (wM cI cC cZ cS a ((d_X6_becomes (va_up F 0 (upd (F 0) 0 0)) t is n um 2).2) tc) H := hP
  have hD : va_D A (wM cI cC cZ cS a ((d_X6_becomes (va_up F 0 (upd (F 0) 0 0)) t is n um 2).2) tc) := hD
  refine W.eq (g2 := F0 m 12 ls [.int ((d_X6_becomes (va_up F 0 (upd (F 0) 0 0)) t is n um 2).1)]) rfl ?_
  refine opq (d_X6_becomes (va_up F 0 (upd (F 0) 0 0)) t is n um 2) (fun r_1 hr_1 => ?_)
  try rw [hr_1] at hP
  try rw [hr_1] at hD
  try rw [hr_1] at hres
  try rw [hr_1]
  rw [hres]
  exact W.iret (v := r_1.1) hx hb hr (fun t ht hW => ⟨rfl, by rw [ht]; exact hP, by rw [hA]; exact hS.F ht⟩) hS.2.2 dX6_tells_12
