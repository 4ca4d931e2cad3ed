theorem ix5 (u k : Nat) : (5 : Int32) * nI u + nI k = nI (5 * u + k) := by rw [show (5 : Int32) = nI 5 from rfl, pk_mul, nI_add]
theorem ix5i {x : Int32} (h : x = nI x.toNatClampNeg) (k : Nat) : (5 : Int32) * x + nI k = nI (5 * x.toNatClampNeg + k) := by
  generalize x.toNatClampNeg = j at h
  subst h; exact ix5 j k
theorem in_ok {x y z : Int32} (c : ¬ d_X6_in x y z = 0) : ¬ x < y ∧ x ≤ z := by
  rw [d_X6_in] at c
  by_cases c1 : x < y
  · rw [if_pos c1] at c; exact absurd rfl c
  · rw [if_neg c1] at c
    by_cases c2 : z < x
    · rw [if_pos c2] at c; exact absurd rfl c
    · refine ⟨c1, ?_⟩
      rw [Int32.le_iff_toInt_le]; rw [Int32.lt_iff_toInt_lt] at c2; omega

def lp_X6_asNow_2 (ss : Nat → Int32) (ww : Nat → Int32) : Nat → Nat → (Nat → Int32) → (Nat → Int32)
  | 0, _, _ => ww
  | k2 + 1, k, wv => if (5 : Int32) ≤ (nI k) then
      wv
    else
      lp_X6_asNow_2 ss ww k2 (k + 1) (upd wv k (ss k))
def d_X6_asNow (ss : Nat → Int32) (ww : Nat → Int32) : (Nat → Int32) :=
  lp_X6_asNow_2 ss ww 6 0 ww
set_option maxHeartbeats 4000000 in
set_option maxRecDepth 100000 in
theorem c_X6_asNow (l : Launch) (D : va_G) (cI cC cZ cS : ClassId) (a : Nat → Nat) (f : Nat → Int32) (ss : Nat → Int32) (ww : Nat → Int32) (tc : Int64) : Met l yX6_asNow wsX6_asNow { frames := 0, cells := 0, slots := 0, locals := 0 } (PcE D cI cC cZ cS [.ref (a 0)] (wMw cI cC cZ cS a f ss ww tc)) (QcM none D (wMw cI cC cZ cS a f ss ww tc) (wMw cI cC cZ cS a f ss (d_X6_asNow ss ww) tc)) 0 0 (inW (wMw cI cC cZ cS a f ss ww tc)) := by
  refine Met.ofW (cc := cX6_asNow) (maxL := 2) (ret := none) (by decide) rfl ?_
  intro p e s m args below meth c s₁ B hml hv
  obtain ⟨rfl, hP, hD, hE⟩ := hv
  have hK := hE.1
  have hx := B.exec
  have hb := B.bytes
  have hr := B.returns
  have hts := atoms_spec (ws := wsX6_asNow) B.pre
  have hown : s.vm.findClass RX6 = some m.cls := findClass_of_methodNamed B.named
  have hlocks := B.notSynchronized
  have hinX6 : ∀ w ∈ wsX60, w ∈ wsX6_asNow := by decide +kernel
  have hD := inW_self hD
  have hS : va_S (inW (wMw cI cC cZ cS a f ss ww tc)) s.heap s.heap [] := va_S.rf
  generalize hA : inW (wMw cI cC cZ cS a f ss ww tc) = A at hD hS ⊢
  refine opq (d_X6_asNow ss ww) (fun R hres => ?_)
  rw [hres]
  replace hres := hres.symm
  rw [d_X6_asNow] at hres
  have hl := lv_entry ([.ref (a 0)]) (n := 2) (Nat.le_of_ble_eq_true rfl)
  rw [lg_entry_eq]
  generalize (lg_sl ([.ref (a 0)]) ++ List.replicate (2 - (lg_sl ([.ref (a 0)])).length) Slot.unset).toArray = ls at hl ⊢
  have hl : lv_has ls 2 [(0, .ref (a 0))] := hl
  refine lv_iconst (v := 0) hx hb dX6_asNow_0 (by decide) ?_
  refine lv_istore_n (lv' := [(1, .int 0), (0, .ref (a 0))]) hx hb dX6_asNow_1 rfl hl (by decide) rfl (fun ls hl => ?_)
  have loop2 : ∀ (k2 : Nat) (k : Nat) (wv : Nat → Int32), 5 - k < k2 → k ≤ 5 → R = lp_X6_asNow_2 ss ww k2 k wv → ∀ (H : Heap) (locs : List Loc), va_P D vwCl (wMw cI cC cZ cS a f ss wv tc) H → va_D A (wMw cI cC cZ cS a f ss wv tc) → va_S A s.heap H locs → ∀ ls : Array Slot, lv_has ls 2 [(0, .ref (a 0)), (1, .int (nI k))] → W p l e (headSpec wsX6_asNow { frames := 0, cells := 0, slots := 0, locals := 0 }).room s m (([.ref (a 0)] : List Value).toArray) below meth c H locs 0 0 (MQ below (QcM none D (wMw cI cC cZ cS a f ss ww tc) (wMw cI cC cZ cS a f ss R tc)) (([.ref (a 0)] : List Value).toArray) s 0 0 A) (F0 m 2 ls []) := by
    intro k2
    induction k2 with
    | zero => intro k wv hk; exact absurd hk (Nat.not_lt_zero _)
    | succ k2 ih2 =>
      intro k wv hk2 hk hres H locs hP hD hS ls hl
      rw [lp_X6_asNow_2] at hres
      refine lv_iload_n hx hb dX6_asNow_2 rfl (lv_at hl 1 rfl) ?_
      refine lv_iconst (v := 5) hx hb dX6_asNow_3 (by decide) ?_
      refine lv_icmp_ge (tgt := 25) hx hb dX6_asNow_4 (by decide) (fun c_1 => ?_) (fun c_1 => ?_)
      · skip
        rw [if_pos c_1] at hres
        rw [hres]
        exact W.vret hx hb hr (fun t ht hW => ⟨rfl, by rw [ht]; exact hP, by rw [hA]; exact hS.F ht⟩) hS.2.2 dX6_asNow_25
      · skip
        rw [if_neg c_1] at hres
        have hlt : k < 5 := nlt_of (b := 5) c_1 (by omega) (by omega)
        refine lv_aload_n hx hb dX6_asNow_7 rfl (lv_at hl 0 rfl) ?_
        refine va_get (D := D) (ci := 6) (v := .ref (a 7)) (C := RX6) (T := TX6) (N := 26) hx hb hts hinX6 hown hK hP 0 rfl rfl 16 (by decide) (hts (.fieldLink RX6 28 "FirstOutModel" "w" "[I") (by decide +kernel)) (fun _ h9 => h9) rfl dX6_asNow_8 ?_
        refine lv_iload_n hx hb dX6_asNow_11 rfl (lv_at hl 1 rfl) ?_
        refine lv_aload_n hx hb dX6_asNow_12 rfl (lv_at hl 0 rfl) ?_
        refine va_get (D := D) (ci := 6) (v := .ref (a 6)) (C := RX6) (T := TX6) (N := 26) hx hb hts hinX6 hown hK hP 0 rfl rfl 15 (by decide) (hts (.fieldLink RX6 25 "FirstOutModel" "s" "[I") (by decide +kernel)) (fun _ h9 => h9) rfl dX6_asNow_13 ?_
        refine lv_iload_n hx hb dX6_asNow_16 rfl (lv_at hl 1 rfl) ?_
        refine m_iald hx hb hK hP 1 0 rfl rfl k rfl (by omega) (by decide) dX6_asNow_17 ?_
        refine lv_to (show _ = (ss k) from rfl) ?_
        refine m_iast hx hb hK hP hD hS 2 0 rfl rfl k rfl (by omega) (by decide) dX6_asNow_18 (fun H locs hP hD hS => ?_)
        have hP : va_P D vwCl (wMw cI cC cZ cS a f ss (upd wv k (ss k)) tc) H := hP
        have hD : va_D A (wMw cI cC cZ cS a f ss (upd wv k (ss k)) tc) := hD
        refine lv_iinc (v := nI (k + 1)) (lv' := [(1, .int (nI (k + 1))), (0, .ref (a 0))]) hx hb dX6_asNow_19 hl (k := 1) rfl ((nI_add k 1)) (by decide) rfl (fun ls hl => ?_)
        refine lv_goto (tgt := 2) hx hb dX6_asNow_22 (by decide) ?_
        have hP : va_P D vwCl (wMw cI cC cZ cS a f ss (upd wv k (ss k)) tc) H := hP
        have hD : va_D A (wMw cI cC cZ cS a f ss (upd wv k (ss k)) tc) := hD
        exact ih2 (k + 1) (upd wv k (ss k)) (by omega) (by omega) hres _ _ hP hD hS ls (lv_sub hl [1, 0] rfl)
  have hP : va_P D vwCl (wMw cI cC cZ cS a f ss ww tc) _ := hP
  have hD : va_D A (wMw cI cC cZ cS a f ss ww tc) := hD
  exact loop2 6 0 ww (by omega) (Nat.zero_le _) hres _ _ hP hD hS ls (lv_sub hl [1, 0] rfl)
def d_X6_begins (F : Nat → Nat → Int32) : (Nat → Nat → Int32) :=
  (va_up (va_up F 0 (upd (upd (F 0) 10 0) 14 0)) 2 (upd (upd (upd (upd (upd (F 2) 5 0) 6 5) 7 0) 8 100) 9 0))
set_option maxHeartbeats 4000000 in
set_option maxRecDepth 100000 in
theorem c_X6_begins (l : Launch) (D : va_G) (cI cC cZ cS : ClassId) (a : Nat → Nat) (F : Nat → Nat → Int32) (tc : Int64) : Met l yX6_begins wsX6_begins { frames := 0, cells := 0, slots := 0, locals := 0 } (PcE D cI cC cZ cS [.ref (a 0)] (wM cI cC cZ cS a F tc)) (QcM none D (wM cI cC cZ cS a F tc) (wM cI cC cZ cS a (d_X6_begins F) tc)) 0 0 (inW (wM cI cC cZ cS a F tc)) := by
  refine Met.ofW (cc := cX6_begins) (maxL := 1) (ret := none) (by decide) rfl ?_
  intro p e s m args below meth c s₁ B hml hv
  obtain ⟨rfl, hP, hD, hE⟩ := hv
  have hK := hE.1
  have hx := B.exec
  have hb := B.bytes
  have hr := B.returns
  have hts := atoms_spec (ws := wsX6_begins) B.pre
  have hown : s.vm.findClass RX6 = some m.cls := findClass_of_methodNamed B.named
  have hlocks := B.notSynchronized
  have hinX6 : ∀ w ∈ wsX60, w ∈ wsX6_begins := by decide +kernel
  have hD := inW_self hD
  have hS : va_S (inW (wM cI cC cZ cS a F tc)) s.heap s.heap [] := va_S.rf
  generalize hA : inW (wM cI cC cZ cS a F tc) = A at hD hS ⊢
  refine opq (d_X6_begins F) (fun R hres => ?_)
  rw [hres]
  replace hres := hres.symm
  rw [d_X6_begins] at hres
  have hl := lv_entry ([.ref (a 0)]) (n := 1) (Nat.le_of_ble_eq_true rfl)
  rw [lg_entry_eq]
  generalize (lg_sl ([.ref (a 0)]) ++ List.replicate (1 - (lg_sl ([.ref (a 0)])).length) Slot.unset).toArray = ls at hl ⊢
  have hl : lv_has ls 1 [(0, .ref (a 0))] := hl
  refine lv_aload_n hx hb dX6_begins_0 rfl (lv_at hl 0 rfl) ?_
  refine lv_iconst (v := 0) hx hb dX6_begins_1 (by decide) ?_
  refine va_put (D := D) (ci := 6) (v := .int 0) (ty := .int) (C := RX6) (T := TX6) (N := 26) hx hb hts hinX6 tyX6 tyX6_ok nmX6 hown hK hP hD hS 0 rfl rfl 10 (by decide) (hts (.fieldLink RX6 94 "FirstOutModel" "told" "I") (by decide +kernel)) (fun _ h9 => h9) rfl (by decide +kernel) rfl rfl (Nat.le_of_ble_eq_true rfl) dX6_begins_2 (fun H locs hP hD hS => ?_)
  have hP : va_P D vwCl (wM cI cC cZ cS a (va_up F 0 (upd (F 0) 10 0)) tc) H := hP
  have hD : va_D A (wM cI cC cZ cS a (va_up F 0 (upd (F 0) 10 0)) tc) := hD
  refine lv_aload_n hx hb dX6_begins_5 rfl (lv_at hl 0 rfl) ?_
  refine lv_iconst (v := 0) hx hb dX6_begins_6 (by decide) ?_
  refine va_put (D := D) (ci := 6) (v := .int 0) (ty := .int) (C := RX6) (T := TX6) (N := 26) hx hb hts hinX6 tyX6 tyX6_ok nmX6 hown hK hP hD hS 0 rfl rfl 14 (by decide) (hts (.fieldLink RX6 97 "FirstOutModel" "knowing" "I") (by decide +kernel)) (fun _ h9 => h9) rfl (by decide +kernel) rfl rfl (Nat.le_of_ble_eq_true rfl) dX6_begins_7 (fun H locs hP hD hS => ?_)
  have hP : va_P D vwCl (wM cI cC cZ cS a (va_up F 0 (upd (upd (F 0) 10 0) 14 0)) tc) H := hP
  have hD : va_D A (wM cI cC cZ cS a (va_up F 0 (upd (upd (F 0) 10 0) 14 0)) tc) := hD
  refine lv_aload_n hx hb dX6_begins_10 rfl (lv_at hl 0 rfl) ?_
  refine va_get (D := D) (ci := 6) (v := .ref (a 2)) (C := RX6) (T := TX6) (N := 26) hx hb hts hinX6 hown hK hP 0 rfl rfl 9 (by decide) (hts (.fieldLink RX6 13 "FirstOutModel" "many" "[I") (by decide +kernel)) (fun _ h9 => h9) rfl dX6_begins_11 ?_
  refine lv_iconst (v := 5) hx hb dX6_begins_14 (by decide) ?_
  refine lv_iconst (v := 0) hx hb dX6_begins_15 (by decide) ?_
  refine m_iast hx hb hK hP hD hS 2 0 rfl rfl 5 rfl (by decide) (by decide) dX6_begins_16 (fun H locs hP hD hS => ?_)
  have hP : va_P D vwCl (wM cI cC cZ cS a (va_up (va_up F 0 (upd (upd (F 0) 10 0) 14 0)) 2 (upd (F 2) 5 0)) tc) H := hP
  have hD : va_D A (wM cI cC cZ cS a (va_up (va_up F 0 (upd (upd (F 0) 10 0) 14 0)) 2 (upd (F 2) 5 0)) tc) := hD
  refine lv_aload_n hx hb dX6_begins_17 rfl (lv_at hl 0 rfl) ?_
  refine va_get (D := D) (ci := 6) (v := .ref (a 2)) (C := RX6) (T := TX6) (N := 26) hx hb hts hinX6 hown hK hP 0 rfl rfl 9 (by decide) (hts (.fieldLink RX6 13 "FirstOutModel" "many" "[I") (by decide +kernel)) (fun _ h9 => h9) rfl dX6_begins_18 ?_
  refine lv_bipush (v := 6) hx hb dX6_begins_21 (by decide) ?_
  refine lv_iconst (v := 5) hx hb dX6_begins_23 (by decide) ?_
  refine m_iast hx hb hK hP hD hS 2 0 rfl rfl 6 rfl (by decide) (by decide) dX6_begins_24 (fun H locs hP hD hS => ?_)
  have hP : va_P D vwCl (wM cI cC cZ cS a (va_up (va_up F 0 (upd (upd (F 0) 10 0) 14 0)) 2 (upd (upd (F 2) 5 0) 6 5)) tc) H := hP
  have hD : va_D A (wM cI cC cZ cS a (va_up (va_up F 0 (upd (upd (F 0) 10 0) 14 0)) 2 (upd (upd (F 2) 5 0) 6 5)) tc) := hD
  refine lv_aload_n hx hb dX6_begins_25 rfl (lv_at hl 0 rfl) ?_
  refine va_get (D := D) (ci := 6) (v := .ref (a 2)) (C := RX6) (T := TX6) (N := 26) hx hb hts hinX6 hown hK hP 0 rfl rfl 9 (by decide) (hts (.fieldLink RX6 13 "FirstOutModel" "many" "[I") (by decide +kernel)) (fun _ h9 => h9) rfl dX6_begins_26 ?_
  refine lv_bipush (v := 7) hx hb dX6_begins_29 (by decide) ?_
  refine lv_iconst (v := 0) hx hb dX6_begins_31 (by decide) ?_
  refine m_iast hx hb hK hP hD hS 2 0 rfl rfl 7 rfl (by decide) (by decide) dX6_begins_32 (fun H locs hP hD hS => ?_)
  have hP : va_P D vwCl (wM cI cC cZ cS a (va_up (va_up F 0 (upd (upd (F 0) 10 0) 14 0)) 2 (upd (upd (upd (F 2) 5 0) 6 5) 7 0)) tc) H := hP
  have hD : va_D A (wM cI cC cZ cS a (va_up (va_up F 0 (upd (upd (F 0) 10 0) 14 0)) 2 (upd (upd (upd (F 2) 5 0) 6 5) 7 0)) tc) := hD
  refine lv_aload_n hx hb dX6_begins_33 rfl (lv_at hl 0 rfl) ?_
  refine va_get (D := D) (ci := 6) (v := .ref (a 2)) (C := RX6) (T := TX6) (N := 26) hx hb hts hinX6 hown hK hP 0 rfl rfl 9 (by decide) (hts (.fieldLink RX6 13 "FirstOutModel" "many" "[I") (by decide +kernel)) (fun _ h9 => h9) rfl dX6_begins_34 ?_
  refine lv_bipush (v := 8) hx hb dX6_begins_37 (by decide) ?_
  refine lv_bipush (v := 100) hx hb dX6_begins_39 (by decide) ?_
  refine m_iast hx hb hK hP hD hS 2 0 rfl rfl 8 rfl (by decide) (by decide) dX6_begins_41 (fun H locs hP hD hS => ?_)
  have hP : va_P D vwCl (wM cI cC cZ cS a (va_up (va_up F 0 (upd (upd (F 0) 10 0) 14 0)) 2 (upd (upd (upd (upd (F 2) 5 0) 6 5) 7 0) 8 100)) tc) H := hP
  have hD : va_D A (wM cI cC cZ cS a (va_up (va_up F 0 (upd (upd (F 0) 10 0) 14 0)) 2 (upd (upd (upd (upd (F 2) 5 0) 6 5) 7 0) 8 100)) tc) := hD
  refine lv_aload_n hx hb dX6_begins_42 rfl (lv_at hl 0 rfl) ?_
  refine va_get (D := D) (ci := 6) (v := .ref (a 2)) (C := RX6) (T := TX6) (N := 26) hx hb hts hinX6 hown hK hP 0 rfl rfl 9 (by decide) (hts (.fieldLink RX6 13 "FirstOutModel" "many" "[I") (by decide +kernel)) (fun _ h9 => h9) rfl dX6_begins_43 ?_
  refine lv_bipush (v := 9) hx hb dX6_begins_46 (by decide) ?_
  refine lv_iconst (v := 0) hx hb dX6_begins_48 (by decide) ?_
  refine m_iast hx hb hK hP hD hS 2 0 rfl rfl 9 rfl (by decide) (by decide) dX6_begins_49 (fun H locs hP hD hS => ?_)
  have hP : va_P D vwCl (wM cI cC cZ cS a (va_up (va_up F 0 (upd (upd (F 0) 10 0) 14 0)) 2 (upd (upd (upd (upd (upd (F 2) 5 0) 6 5) 7 0) 8 100) 9 0)) tc) H := hP
  have hD : va_D A (wM cI cC cZ cS a (va_up (va_up F 0 (upd (upd (F 0) 10 0) 14 0)) 2 (upd (upd (upd (upd (upd (F 2) 5 0) 6 5) 7 0) 8 100) 9 0)) tc) := hD
  rw [hres]
  exact W.vret hx hb hr (fun t ht hW => ⟨rfl, by rw [ht]; exact hP, by rw [hA]; exact hS.F ht⟩) hS.2.2 dX6_begins_50
def lp_X6_undo_27 (F : Nat → Nat → Int32) (um : Nat) : Nat → Nat → (Nat → Int32) → Int32 × (Nat → Nat → Int32)
  | 0, _, _ => (0, F)
  | k27 + 1, k, sv => if (5 : Int32) ≤ (nI k) then
      (nI (um - 1), (va_up (va_up F 0 (upd (upd (F 0) 0 0) 20 (nI (um - 1)))) 6 sv))
    else
      lp_X6_undo_27 F um k27 (k + 1) (upd sv k (F 10 (5 * (um - 1) + k)))
def d_X6_undo (F : Nat → Nat → Int32) (um : Nat) : Int32 × (Nat → Nat → Int32) :=
  if (nI um) = 0 then
      ((-2), (va_up F 0 (upd (F 0) 0 0)))
    else
      lp_X6_undo_27 F um 6 0 (F 6)
set_option maxHeartbeats 4000000 in
set_option maxRecDepth 100000 in
theorem c_X6_undo (l : Launch) (D : va_G) (cI cC cZ cS : ClassId) (a : Nat → Nat) (F : Nat → Nat → Int32) (tc : Int64) (um : Nat) (hum : F 0 20 = nI um) (hu10 : um ≤ 10) : Met l yX6_undo wsX6_undo { frames := 0, cells := 0, slots := 0, locals := 0 } (PcE D cI cC cZ cS [.ref (a 0)] (wM cI cC cZ cS a F tc)) (QcM (some (.int ((d_X6_undo F um).1))) D (wM cI cC cZ cS a F tc) (wM cI cC cZ cS a ((d_X6_undo F um).2) tc)) 0 0 (inW (wM cI cC cZ cS a F tc)) := by
  refine Met.ofW (cc := cX6_undo) (maxL := 2) (ret := (some .int)) (by decide) rfl ?_
  intro p e s m args below meth c s₁ B hml hv
  obtain ⟨rfl, hP, hD, hE⟩ := hv
  have hK := hE.1
  have hx := B.exec
  have hb := B.bytes
  have hr := B.returns
  have hts := atoms_spec (ws := wsX6_undo) B.pre
  have hown : s.vm.findClass RX6 = some m.cls := findClass_of_methodNamed B.named
  have hlocks := B.notSynchronized
  have hinX6 : ∀ w ∈ wsX60, w ∈ wsX6_undo := by decide +kernel
  have hD := inW_self hD
  have hS : va_S (inW (wM cI cC cZ cS a F tc)) s.heap s.heap [] := va_S.rf
  generalize hA : inW (wM cI cC cZ cS a F tc) = A at hD hS ⊢
  refine opq (d_X6_undo F um) (fun R hres => ?_)
  rw [hres]
  replace hres := hres.symm
  rw [d_X6_undo] at hres
  have hl := lv_entry ([.ref (a 0)]) (n := 2) (Nat.le_of_ble_eq_true rfl)
  rw [lg_entry_eq]
  generalize (lg_sl ([.ref (a 0)]) ++ List.replicate (2 - (lg_sl ([.ref (a 0)])).length) Slot.unset).toArray = ls at hl ⊢
  have hl : lv_has ls 2 [(0, .ref (a 0))] := hl
  refine lv_aload_n hx hb dX6_undo_0 rfl (lv_at hl 0 rfl) ?_
  refine lv_iconst (v := 0) hx hb dX6_undo_1 (by decide) ?_
  refine va_put (D := D) (ci := 6) (v := .int 0) (ty := .int) (C := RX6) (T := TX6) (N := 26) hx hb hts hinX6 tyX6 tyX6_ok nmX6 hown hK hP hD hS 0 rfl rfl 0 (by decide) (hts (.fieldLink RX6 53 "FirstOutModel" "thrown" "I") (by decide +kernel)) (fun _ h9 => h9) rfl (by decide +kernel) rfl rfl (Nat.le_of_ble_eq_true rfl) dX6_undo_2 (fun H locs hP hD hS => ?_)
  have hP : va_P D vwCl (wM cI cC cZ cS a (va_up F 0 (upd (F 0) 0 0)) tc) H := hP
  have hD : va_D A (wM cI cC cZ cS a (va_up F 0 (upd (F 0) 0 0)) tc) := hD
  refine lv_aload_n hx hb dX6_undo_5 rfl (lv_at hl 0 rfl) ?_
  refine va_get (D := D) (ci := 6) (v := .int (F 0 20)) (C := RX6) (T := TX6) (N := 26) hx hb hts hinX6 hown hK hP 0 rfl rfl 20 (by decide) (hts (.fieldLink RX6 111 "FirstOutModel" "undoMany" "I") (by decide +kernel)) (fun _ h9 => h9) rfl dX6_undo_6 ?_
  refine lv_to (show (F 0 20) = nI um from hum) ?_
  refine lv_if_ne (tgt := 15) hx hb dX6_undo_9 (by decide) (fun c_1 => ?_) (fun c_1 => ?_)
  · skip
    rw [if_neg c_1] at hres
    have hpos : 0 < um := Nat.pos_of_ne_zero (fun q => c_1 (by rw [q]; rfl))
    refine lv_aload_n hx hb dX6_undo_15 rfl (lv_at hl 0 rfl) ?_
    refine lv_dup hx hb dX6_undo_16 rfl ?_
    refine va_get (D := D) (ci := 6) (v := .int (F 0 20)) (C := RX6) (T := TX6) (N := 26) hx hb hts hinX6 hown hK hP 0 rfl rfl 20 (by decide) (hts (.fieldLink RX6 111 "FirstOutModel" "undoMany" "I") (by decide +kernel)) (fun _ h9 => h9) rfl dX6_undo_17 ?_
    refine lv_to (show (F 0 20) = nI um from hum) ?_
    refine lv_iconst (v := 1) hx hb dX6_undo_20 (by decide) ?_
    refine lv_isub hx hb dX6_undo_21 ?_
    refine lv_to (show ((nI um) - (1 : Int32)) = nI (um - 1) from (pk_sub hpos)) ?_
    refine va_put (D := D) (ci := 6) (v := .int (nI (um - 1))) (ty := .int) (C := RX6) (T := TX6) (N := 26) hx hb hts hinX6 tyX6 tyX6_ok nmX6 hown hK hP hD hS 0 rfl rfl 20 (by decide) (hts (.fieldLink RX6 111 "FirstOutModel" "undoMany" "I") (by decide +kernel)) (fun _ h9 => h9) rfl (by decide +kernel) rfl rfl (Nat.le_of_ble_eq_true rfl) dX6_undo_22 (fun H locs hP hD hS => ?_)
    have hP : va_P D vwCl (wM cI cC cZ cS a (va_up F 0 (upd (upd (F 0) 0 0) 20 (nI (um - 1)))) tc) H := hP
    have hD : va_D A (wM cI cC cZ cS a (va_up F 0 (upd (upd (F 0) 0 0) 20 (nI (um - 1)))) tc) := hD
    refine lv_iconst (v := 0) hx hb dX6_undo_25 (by decide) ?_
    refine lv_istore_n (lv' := [(1, .int 0), (0, .ref (a 0))]) hx hb dX6_undo_26 rfl hl (by decide) rfl (fun ls hl => ?_)
    have loop27 : ∀ (k27 : Nat) (k : Nat) (sv : Nat → Int32), 5 - k < k27 → k ≤ 5 → R = lp_X6_undo_27 F um k27 k sv → ∀ (H : Heap) (locs : List Loc), va_P D vwCl (wM cI cC cZ cS a (va_up (va_up F 0 (upd (upd (F 0) 0 0) 20 (nI (um - 1)))) 6 sv) tc) H → va_D A (wM cI cC cZ cS a (va_up (va_up F 0 (upd (upd (F 0) 0 0) 20 (nI (um - 1)))) 6 sv) tc) → va_S A s.heap H locs → ∀ ls : Array Slot, lv_has ls 2 [(0, .ref (a 0)), (1, .int (nI k))] → W p l e (headSpec wsX6_undo { frames := 0, cells := 0, slots := 0, locals := 0 }).room s m (([.ref (a 0)] : List Value).toArray) below meth c H locs 0 0 (MQ below (QcM (some (.int R.1)) D (wM cI cC cZ cS a F tc) (wM cI cC cZ cS a R.2 tc)) (([.ref (a 0)] : List Value).toArray) s 0 0 A) (F0 m 27 ls []) := by
      intro k27
      induction k27 with
      | zero => intro k sv hk; exact absurd hk (Nat.not_lt_zero _)
      | succ k27 ih27 =>
        intro k sv hk27 hk hres H locs hP hD hS ls hl
        rw [lp_X6_undo_27] at hres
        refine lv_iload_n hx hb dX6_undo_27 rfl (lv_at hl 1 rfl) ?_
        refine lv_iconst (v := 5) hx hb dX6_undo_28 (by decide) ?_
        refine lv_icmp_ge (tgt := 57) hx hb dX6_undo_29 (by decide) (fun c_2 => ?_) (fun c_2 => ?_)
        · skip
          rw [if_pos c_2] at hres
          refine lv_aload_n hx hb dX6_undo_57 rfl (lv_at hl 0 rfl) ?_
          refine va_get (D := D) (ci := 6) (v := .int (nI (um - 1))) (C := RX6) (T := TX6) (N := 26) hx hb hts hinX6 hown hK hP 0 rfl rfl 20 (by decide) (hts (.fieldLink RX6 111 "FirstOutModel" "undoMany" "I") (by decide +kernel)) (fun _ h9 => h9) rfl dX6_undo_58 ?_
          rw [hres]
          exact W.iret (v := nI (um - 1)) hx hb hr (fun t ht hW => ⟨rfl, by rw [ht]; exact hP, by rw [hA]; exact hS.F ht⟩) hS.2.2 dX6_undo_61
        · skip
          rw [if_neg c_2] at hres
          have hlt : k < 5 := nlt_of (b := 5) c_2 (by omega) (by omega)
          refine lv_aload_n hx hb dX6_undo_32 rfl (lv_at hl 0 rfl) ?_
          refine va_get (D := D) (ci := 6) (v := .ref (a 6)) (C := RX6) (T := TX6) (N := 26) hx hb hts hinX6 hown hK hP 0 rfl rfl 15 (by decide) (hts (.fieldLink RX6 25 "FirstOutModel" "s" "[I") (by decide +kernel)) (fun _ h9 => h9) rfl dX6_undo_33 ?_
          refine lv_iload_n hx hb dX6_undo_36 rfl (lv_at hl 1 rfl) ?_
          refine lv_aload_n hx hb dX6_undo_37 rfl (lv_at hl 0 rfl) ?_
          refine va_get (D := D) (ci := 6) (v := .ref (a 10)) (C := RX6) (T := TX6) (N := 26) hx hb hts hinX6 hown hK hP 0 rfl rfl 19 (by decide) (hts (.fieldLink RX6 38 "FirstOutModel" "undos" "[I") (by decide +kernel)) (fun _ h9 => h9) rfl dX6_undo_38 ?_
          refine lv_iconst (v := 5) hx hb dX6_undo_41 (by decide) ?_
          refine lv_aload_n hx hb dX6_undo_42 rfl (lv_at hl 0 rfl) ?_
          refine va_get (D := D) (ci := 6) (v := .int (nI (um - 1))) (C := RX6) (T := TX6) (N := 26) hx hb hts hinX6 hown hK hP 0 rfl rfl 20 (by decide) (hts (.fieldLink RX6 111 "FirstOutModel" "undoMany" "I") (by decide +kernel)) (fun _ h9 => h9) rfl dX6_undo_43 ?_
          refine lv_imul hx hb dX6_undo_46 ?_
          refine lv_iload_n hx hb dX6_undo_47 rfl (lv_at hl 1 rfl) ?_
          refine lv_iadd hx hb dX6_undo_48 ?_
          refine m_iald hx hb hK hP 10 0 rfl rfl (5 * (um - 1) + k) (ix5 (um - 1) k) (by omega) (by decide) dX6_undo_49 ?_
          refine lv_to (show _ = (F 10 (5 * (um - 1) + k)) from rfl) ?_
          refine m_iast hx hb hK hP hD hS 6 0 rfl rfl k rfl (by omega) (by decide) dX6_undo_50 (fun H locs hP hD hS => ?_)
          have hP : va_P D vwCl (wM cI cC cZ cS a (va_up (va_up F 0 (upd (upd (F 0) 0 0) 20 (nI (um - 1)))) 6 (upd sv k (F 10 (5 * (um - 1) + k)))) tc) H := hP
          have hD : va_D A (wM cI cC cZ cS a (va_up (va_up F 0 (upd (upd (F 0) 0 0) 20 (nI (um - 1)))) 6 (upd sv k (F 10 (5 * (um - 1) + k)))) tc) := hD
          refine lv_iinc (v := nI (k + 1)) (lv' := [(1, .int (nI (k + 1))), (0, .ref (a 0))]) hx hb dX6_undo_51 hl (k := 1) rfl ((nI_add k 1)) (by decide) rfl (fun ls hl => ?_)
          refine lv_goto (tgt := 27) hx hb dX6_undo_54 (by decide) ?_
          have hP : va_P D vwCl (wM cI cC cZ cS a (va_up (va_up F 0 (upd (upd (F 0) 0 0) 20 (nI (um - 1)))) 6 (upd sv k (F 10 (5 * (um - 1) + k)))) tc) H := hP
          have hD : va_D A (wM cI cC cZ cS a (va_up (va_up F 0 (upd (upd (F 0) 0 0) 20 (nI (um - 1)))) 6 (upd sv k (F 10 (5 * (um - 1) + k)))) tc) := hD
          exact ih27 (k + 1) (upd sv k (F 10 (5 * (um - 1) + k))) (by omega) (by omega) hres _ _ hP hD hS ls (lv_sub hl [1, 0] rfl)
    have hP : va_P D vwCl (wM cI cC cZ cS a (va_up F 0 (upd (upd (F 0) 0 0) 20 (nI (um - 1)))) tc) _ := hP
    have hD : va_D A (wM cI cC cZ cS a (va_up F 0 (upd (upd (F 0) 0 0) 20 (nI (um - 1)))) tc) := hD
    exact loop27 6 0 (F 6) (by omega) (Nat.zero_le _) hres _ _ hP hD hS ls (lv_sub hl [1, 0] rfl)
  · skip
    rw [if_pos c_1] at hres
    refine lv_bipush (v := (-2)) hx hb dX6_undo_12 (by decide) ?_
    rw [hres]
    exact W.iret (v := (-2)) hx hb hr (fun t ht hW => ⟨rfl, by rw [ht]; exact hP, by rw [hA]; exact hS.F ht⟩) hS.2.2 dX6_undo_14
def lp_X6_keep_18 (F : Nat → Nat → Int32) (image : Int32) : Nat → Nat → (Nat → Int32) → Int32 × (Nat → Nat → Int32)
  | 0, _, _ => (0, F)
  | k18 + 1, k, kv => if (5 : Int32) ≤ (nI k) then
      ((F 6 0), (va_up (va_up (va_up F 0 (upd (F 0) 0 0)) 8 kv) 9 (upd (F 9) image.toNatClampNeg 1)))
    else
      lp_X6_keep_18 F image k18 (k + 1) (upd kv (5 * image.toNatClampNeg + k) (F 6 k))
def d_X6_keep (F : Nat → Nat → Int32) (image : Int32) : Int32 × (Nat → Nat → Int32) :=
  if (d_X6_in image 0 1) = 0 then
      ((-1), (va_up F 0 (upd (F 0) 0 0)))
    else
      lp_X6_keep_18 F image 6 0 (F 8)
set_option maxHeartbeats 4000000 in
set_option maxRecDepth 100000 in
theorem c_X6_keep (l : Launch) (D : va_G) (cI cC cZ cS : ClassId) (a : Nat → Nat) (F : Nat → Nat → Int32) (tc : Int64) (image : Int32) : Met l yX6_keep wsX6_keep { frames := 1, cells := 0, slots := 0, locals := 22 } (PcE D cI cC cZ cS [.ref (a 0), .int image] (wM cI cC cZ cS a F tc)) (QcM (some (.int ((d_X6_keep F image).1))) D (wM cI cC cZ cS a F tc) (wM cI cC cZ cS a ((d_X6_keep F image).2) tc)) 0 0 (inW (wM cI cC cZ cS a F tc)) := by
  refine Met.ofW (cc := cX6_keep) (maxL := 3) (ret := (some .int)) (by decide) rfl ?_
  intro p e s m args below meth c s₁ B hml hv
  obtain ⟨rfl, hP, hD, hE⟩ := hv
  have hK := hE.1
  have hx := B.exec
  have hb := B.bytes
  have hr := B.returns
  have hts := atoms_spec (ws := wsX6_keep) B.pre
  have hown : s.vm.findClass RX6 = some m.cls := findClass_of_methodNamed B.named
  have hlocks := B.notSynchronized
  have hinX6 : ∀ w ∈ wsX60, w ∈ wsX6_keep := by decide +kernel
  have hD := inW_self hD
  have hS : va_S (inW (wM cI cC cZ cS a F tc)) s.heap s.heap [] := va_S.rf
  generalize hA : inW (wM cI cC cZ cS a F tc) = A at hD hS ⊢
  refine opq (d_X6_keep F image) (fun R hres => ?_)
  rw [hres]
  replace hres := hres.symm
  rw [d_X6_keep] at hres
  have hl := lv_entry ([.ref (a 0), .int image]) (n := 3) (Nat.le_of_ble_eq_true rfl)
  rw [lg_entry_eq]
  generalize (lg_sl ([.ref (a 0), .int image]) ++ List.replicate (3 - (lg_sl ([.ref (a 0), .int image])).length) Slot.unset).toArray = ls at hl ⊢
  have hl : lv_has ls 3 [(0, .ref (a 0)), (1, .int image)] := hl
  refine lv_aload_n hx hb dX6_keep_0 rfl (lv_at hl 0 rfl) ?_
  refine lv_iconst (v := 0) hx hb dX6_keep_1 (by decide) ?_
  refine va_put (D := D) (ci := 6) (v := .int 0) (ty := .int) (C := RX6) (T := TX6) (N := 26) hx hb hts hinX6 tyX6 tyX6_ok nmX6 hown hK hP hD hS 0 rfl rfl 0 (by decide) (hts (.fieldLink RX6 53 "FirstOutModel" "thrown" "I") (by decide +kernel)) (fun _ h9 => h9) rfl (by decide +kernel) rfl rfl (Nat.le_of_ble_eq_true rfl) dX6_keep_2 (fun H locs hP hD hS => ?_)
  have hP : va_P D vwCl (wM cI cC cZ cS a (va_up F 0 (upd (F 0) 0 0)) tc) H := hP
  have hD : va_D A (wM cI cC cZ cS a (va_up F 0 (upd (F 0) 0 0)) tc) := hD
  refine lv_iload_n hx hb dX6_keep_5 rfl (lv_at hl 1 rfl) ?_
  refine lv_iconst (v := 0) hx hb dX6_keep_6 (by decide) ?_
  refine lv_iconst (v := 1) hx hb dX6_keep_7 (by decide) ?_
  have hPc := hP.sub (ws' := []) [] rfl
  have hDc := hD.sub (ws' := []) [] (by decide) rfl
  refine m_callR (W.runS (As := [.int image, .int 0, .int 1]) (rest := []) ⟨hx, hb, hml, hown, hts⟩ (c_X6_in l D cI cC cZ cS image 0 1) (va_cwS 3 hts gX6_keep_X6_in rfl rfl rfl (by decide +kernel) ⟨Nat.le_of_ble_eq_true rfl, Nat.le_of_ble_eq_true rfl⟩) (preS_of hPc hDc hE) rfl rfl hl.1 rfl (lv_room (Nat.le_of_ble_eq_true rfl)) dX6_keep_8 ⟨Nat.zero_le _, Nat.zero_le _⟩) ?_
  refine W.eq (g2 := F0 m 11 ls [.int (d_X6_in image 0 1)]) rfl ?_
  refine lv_if_ne (tgt := 16) hx hb dX6_keep_11 (by decide) (fun c_1 => ?_) (fun c_1 => ?_)
  · skip
    rw [if_neg c_1] at hres
    have him := in_ok c_1
    have hm := ix_le (N := 1) him.1 him.2 (by omega)
    refine lv_iconst (v := 0) hx hb dX6_keep_16 (by decide) ?_
    refine lv_istore_n (lv' := [(2, .int 0), (0, .ref (a 0)), (1, .int image)]) hx hb dX6_keep_17 rfl hl (by decide) rfl (fun ls hl => ?_)
    have loop18 : ∀ (k18 : Nat) (k : Nat) (kv : Nat → Int32), 5 - k < k18 → k ≤ 5 → R = lp_X6_keep_18 F image k18 k kv → ∀ (H : Heap) (locs : List Loc), va_P D vwCl (wM cI cC cZ cS a (va_up (va_up F 0 (upd (F 0) 0 0)) 8 kv) tc) H → va_D A (wM cI cC cZ cS a (va_up (va_up F 0 (upd (F 0) 0 0)) 8 kv) tc) → va_S A s.heap H locs → ∀ ls : Array Slot, lv_has ls 3 [(0, .ref (a 0)), (1, .int image), (2, .int (nI k))] → W p l e (headSpec wsX6_keep { frames := 1, cells := 0, slots := 0, locals := 22 }).room s m (([.ref (a 0), .int image] : List Value).toArray) below meth c H locs 0 0 (MQ below (QcM (some (.int R.1)) D (wM cI cC cZ cS a F tc) (wM cI cC cZ cS a R.2 tc)) (([.ref (a 0), .int image] : List Value).toArray) s 0 0 A) (F0 m 18 ls []) := by
      intro k18
      induction k18 with
      | zero => intro k kv hk; exact absurd hk (Nat.not_lt_zero _)
      | succ k18 ih18 =>
        intro k kv hk18 hk hres H locs hP hD hS ls hl
        rw [lp_X6_keep_18] at hres
        refine lv_iload_n hx hb dX6_keep_18 rfl (lv_at hl 2 rfl) ?_
        refine lv_iconst (v := 5) hx hb dX6_keep_19 (by decide) ?_
        refine lv_icmp_ge (tgt := 45) hx hb dX6_keep_20 (by decide) (fun c_2 => ?_) (fun c_2 => ?_)
        · skip
          rw [if_pos c_2] at hres
          refine lv_aload_n hx hb dX6_keep_45 rfl (lv_at hl 0 rfl) ?_
          refine va_get (D := D) (ci := 6) (v := .ref (a 9)) (C := RX6) (T := TX6) (N := 26) hx hb hts hinX6 hown hK hP 0 rfl rfl 18 (by decide) (hts (.fieldLink RX6 34 "FirstOutModel" "isKept" "[Z") (by decide +kernel)) (fun _ h9 => h9) rfl dX6_keep_46 ?_
          refine lv_iload_n hx hb dX6_keep_49 rfl (lv_at hl 1 rfl) ?_
          refine lv_iconst (v := 1) hx hb dX6_keep_50 (by decide) ?_
          refine m_zast (y := 1) hx hb hK hP hD hS 9 2 rfl rfl image.toNatClampNeg hm.1 (by have := hm.2; omega) (by decide) rfl dX6_keep_51 (fun H locs hP hD hS => ?_)
          have hP : va_P D vwCl (wM cI cC cZ cS a (va_up (va_up (va_up F 0 (upd (F 0) 0 0)) 8 kv) 9 (upd (F 9) image.toNatClampNeg 1)) tc) H := hP
          have hD : va_D A (wM cI cC cZ cS a (va_up (va_up (va_up F 0 (upd (F 0) 0 0)) 8 kv) 9 (upd (F 9) image.toNatClampNeg 1)) tc) := hD
          refine lv_aload_n hx hb dX6_keep_52 rfl (lv_at hl 0 rfl) ?_
          refine va_get (D := D) (ci := 6) (v := .ref (a 6)) (C := RX6) (T := TX6) (N := 26) hx hb hts hinX6 hown hK hP 0 rfl rfl 15 (by decide) (hts (.fieldLink RX6 25 "FirstOutModel" "s" "[I") (by decide +kernel)) (fun _ h9 => h9) rfl dX6_keep_53 ?_
          refine lv_iconst (v := 0) hx hb dX6_keep_56 (by decide) ?_
          refine m_iald hx hb hK hP 6 0 rfl rfl 0 rfl (by decide) (by decide) dX6_keep_57 ?_
          refine lv_to (show _ = (F 6 0) from rfl) ?_
          rw [hres]
          exact W.iret (v := (F 6 0)) hx hb hr (fun t ht hW => ⟨rfl, by rw [ht]; exact hP, by rw [hA]; exact hS.F ht⟩) hS.2.2 dX6_keep_58
        · skip
          rw [if_neg c_2] at hres
          have hlt : k < 5 := nlt_of (b := 5) c_2 (by omega) (by omega)
          refine lv_aload_n hx hb dX6_keep_23 rfl (lv_at hl 0 rfl) ?_
          refine va_get (D := D) (ci := 6) (v := .ref (a 8)) (C := RX6) (T := TX6) (N := 26) hx hb hts hinX6 hown hK hP 0 rfl rfl 17 (by decide) (hts (.fieldLink RX6 31 "FirstOutModel" "kept" "[I") (by decide +kernel)) (fun _ h9 => h9) rfl dX6_keep_24 ?_
          refine lv_iconst (v := 5) hx hb dX6_keep_27 (by decide) ?_
          refine lv_iload_n hx hb dX6_keep_28 rfl (lv_at hl 1 rfl) ?_
          refine lv_imul hx hb dX6_keep_29 ?_
          refine lv_iload_n hx hb dX6_keep_30 rfl (lv_at hl 2 rfl) ?_
          refine lv_iadd hx hb dX6_keep_31 ?_
          refine lv_aload_n hx hb dX6_keep_32 rfl (lv_at hl 0 rfl) ?_
          refine va_get (D := D) (ci := 6) (v := .ref (a 6)) (C := RX6) (T := TX6) (N := 26) hx hb hts hinX6 hown hK hP 0 rfl rfl 15 (by decide) (hts (.fieldLink RX6 25 "FirstOutModel" "s" "[I") (by decide +kernel)) (fun _ h9 => h9) rfl dX6_keep_33 ?_
          refine lv_iload_n hx hb dX6_keep_36 rfl (lv_at hl 2 rfl) ?_
          refine m_iald hx hb hK hP 6 0 rfl rfl k rfl (by omega) (by decide) dX6_keep_37 ?_
          refine lv_to (show _ = (F 6 k) from rfl) ?_
          refine m_iast hx hb hK hP hD hS 8 0 rfl rfl (5 * image.toNatClampNeg + k) (ix5i hm.1 k) (by have := hm.2; omega) (by decide) dX6_keep_38 (fun H locs hP hD hS => ?_)
          have hP : va_P D vwCl (wM cI cC cZ cS a (va_up (va_up F 0 (upd (F 0) 0 0)) 8 (upd kv (5 * image.toNatClampNeg + k) (F 6 k))) tc) H := hP
          have hD : va_D A (wM cI cC cZ cS a (va_up (va_up F 0 (upd (F 0) 0 0)) 8 (upd kv (5 * image.toNatClampNeg + k) (F 6 k))) tc) := hD
          refine lv_iinc (v := nI (k + 1)) (lv' := [(2, .int (nI (k + 1))), (0, .ref (a 0)), (1, .int image)]) hx hb dX6_keep_39 hl (k := 2) rfl ((nI_add k 1)) (by decide) rfl (fun ls hl => ?_)
          refine lv_goto (tgt := 18) hx hb dX6_keep_42 (by decide) ?_
          have hP : va_P D vwCl (wM cI cC cZ cS a (va_up (va_up F 0 (upd (F 0) 0 0)) 8 (upd kv (5 * image.toNatClampNeg + k) (F 6 k))) tc) H := hP
          have hD : va_D A (wM cI cC cZ cS a (va_up (va_up F 0 (upd (F 0) 0 0)) 8 (upd kv (5 * image.toNatClampNeg + k) (F 6 k))) tc) := hD
          exact ih18 (k + 1) (upd kv (5 * image.toNatClampNeg + k) (F 6 k)) (by omega) (by omega) hres _ _ hP hD hS ls (lv_sub hl [1, 2, 0] rfl)
    have hP : va_P D vwCl (wM cI cC cZ cS a (va_up F 0 (upd (F 0) 0 0)) tc) _ := hP
    have hD : va_D A (wM cI cC cZ cS a (va_up F 0 (upd (F 0) 0 0)) tc) := hD
    exact loop18 6 0 (F 8) (by omega) (Nat.zero_le _) hres _ _ hP hD hS ls (lv_sub hl [1, 2, 0] rfl)
  · skip
    rw [if_pos c_1] at hres
    refine lv_iconst (v := (-1)) hx hb dX6_keep_14 (by decide) ?_
    rw [hres]
    exact W.iret (v := (-1)) hx hb hr (fun t ht hW => ⟨rfl, by rw [ht]; exact hP, by rw [hA]; exact hS.F ht⟩) hS.2.2 dX6_keep_15
def lp_X6_back_30 (F : Nat → Nat → Int32) (image : Int32) : Nat → Nat → (Nat → Int32) → Int32 × (Nat → Nat → Int32)
  | 0, _, _ => (0, F)
  | k30 + 1, k, sv => if (5 : Int32) ≤ (nI k) then
      ((sv 0), (va_up (va_up F 0 (upd (upd (F 0) 0 0) 20 0)) 6 sv))
    else
      lp_X6_back_30 F image k30 (k + 1) (upd sv k (F 8 (5 * image.toNatClampNeg + k)))
def d_X6_back (F : Nat → Nat → Int32) (image : Int32) : Int32 × (Nat → Nat → Int32) :=
  if (d_X6_in image 0 1) = 0 then
      ((-1), (va_up F 0 (upd (F 0) 0 0)))
    else
      if (F 9 image.toNatClampNeg) = 0 then
        ((-2), (va_up F 0 (upd (F 0) 0 0)))
      else
        lp_X6_back_30 F image 6 0 (F 6)
set_option maxHeartbeats 4000000 in
set_option maxRecDepth 100000 in
theorem c_X6_back (l : Launch) (D : va_G) (cI cC cZ cS : ClassId) (a : Nat → Nat) (F : Nat → Nat → Int32) (tc : Int64) (image : Int32) : Met l yX6_back wsX6_back { frames := 1, cells := 0, slots := 0, locals := 22 } (PcE D cI cC cZ cS [.ref (a 0), .int image] (wM cI cC cZ cS a F tc)) (QcM (some (.int ((d_X6_back F image).1))) D (wM cI cC cZ cS a F tc) (wM cI cC cZ cS a ((d_X6_back F image).2) tc)) 0 0 (inW (wM cI cC cZ cS a F tc)) := by
  refine Met.ofW (cc := cX6_back) (maxL := 3) (ret := (some .int)) (by decide) rfl ?_
  intro p e s m args below meth c s₁ B hml hv
  obtain ⟨rfl, hP, hD, hE⟩ := hv
  have hK := hE.1
  have hx := B.exec
  have hb := B.bytes
  have hr := B.returns
  have hts := atoms_spec (ws := wsX6_back) B.pre
  have hown : s.vm.findClass RX6 = some m.cls := findClass_of_methodNamed B.named
  have hlocks := B.notSynchronized
  have hinX6 : ∀ w ∈ wsX60, w ∈ wsX6_back := by decide +kernel
  have hD := inW_self hD
  have hS : va_S (inW (wM cI cC cZ cS a F tc)) s.heap s.heap [] := va_S.rf
  generalize hA : inW (wM cI cC cZ cS a F tc) = A at hD hS ⊢
  refine opq (d_X6_back F image) (fun R hres => ?_)
  rw [hres]
  replace hres := hres.symm
  rw [d_X6_back] at hres
  have hl := lv_entry ([.ref (a 0), .int image]) (n := 3) (Nat.le_of_ble_eq_true rfl)
  rw [lg_entry_eq]
  generalize (lg_sl ([.ref (a 0), .int image]) ++ List.replicate (3 - (lg_sl ([.ref (a 0), .int image])).length) Slot.unset).toArray = ls at hl ⊢
  have hl : lv_has ls 3 [(0, .ref (a 0)), (1, .int image)] := hl
  refine lv_aload_n hx hb dX6_back_0 rfl (lv_at hl 0 rfl) ?_
  refine lv_iconst (v := 0) hx hb dX6_back_1 (by decide) ?_
  refine va_put (D := D) (ci := 6) (v := .int 0) (ty := .int) (C := RX6) (T := TX6) (N := 26) hx hb hts hinX6 tyX6 tyX6_ok nmX6 hown hK hP hD hS 0 rfl rfl 0 (by decide) (hts (.fieldLink RX6 53 "FirstOutModel" "thrown" "I") (by decide +kernel)) (fun _ h9 => h9) rfl (by decide +kernel) rfl rfl (Nat.le_of_ble_eq_true rfl) dX6_back_2 (fun H locs hP hD hS => ?_)
  have hP : va_P D vwCl (wM cI cC cZ cS a (va_up F 0 (upd (F 0) 0 0)) tc) H := hP
  have hD : va_D A (wM cI cC cZ cS a (va_up F 0 (upd (F 0) 0 0)) tc) := hD
  refine lv_iload_n hx hb dX6_back_5 rfl (lv_at hl 1 rfl) ?_
  refine lv_iconst (v := 0) hx hb dX6_back_6 (by decide) ?_
  refine lv_iconst (v := 1) hx hb dX6_back_7 (by decide) ?_
  have hPc := hP.sub (ws' := []) [] rfl
  have hDc := hD.sub (ws' := []) [] (by decide) rfl
  refine m_callR (W.runS (As := [.int image, .int 0, .int 1]) (rest := []) ⟨hx, hb, hml, hown, hts⟩ (c_X6_in l D cI cC cZ cS image 0 1) (va_cwS 3 hts gX6_back_X6_in rfl rfl rfl (by decide +kernel) ⟨Nat.le_of_ble_eq_true rfl, Nat.le_of_ble_eq_true rfl⟩) (preS_of hPc hDc hE) rfl rfl hl.1 rfl (lv_room (Nat.le_of_ble_eq_true rfl)) dX6_back_8 ⟨Nat.zero_le _, Nat.zero_le _⟩) ?_
  refine W.eq (g2 := F0 m 11 ls [.int (d_X6_in image 0 1)]) rfl ?_
  refine lv_if_ne (tgt := 16) hx hb dX6_back_11 (by decide) (fun c_1 => ?_) (fun c_1 => ?_)
  · skip
    rw [if_neg c_1] at hres
    have him := in_ok c_1
    have hm := ix_le (N := 1) him.1 him.2 (by omega)
    refine lv_aload_n hx hb dX6_back_16 rfl (lv_at hl 0 rfl) ?_
    refine va_get (D := D) (ci := 6) (v := .ref (a 9)) (C := RX6) (T := TX6) (N := 26) hx hb hts hinX6 hown hK hP 0 rfl rfl 18 (by decide) (hts (.fieldLink RX6 34 "FirstOutModel" "isKept" "[Z") (by decide +kernel)) (fun _ h9 => h9) rfl dX6_back_17 ?_
    refine lv_iload_n hx hb dX6_back_20 rfl (lv_at hl 1 rfl) ?_
    refine m_zald hx hb hK hP 9 2 rfl rfl image.toNatClampNeg hm.1 (by have := hm.2; omega) (by decide) dX6_back_21 ?_
    refine lv_to (show _ = (F 9 image.toNatClampNeg) from rfl) ?_
    refine lv_if_ne (tgt := 28) hx hb dX6_back_22 (by decide) (fun c_2 => ?_) (fun c_2 => ?_)
    · skip
      rw [if_neg c_2] at hres
      refine lv_iconst (v := 0) hx hb dX6_back_28 (by decide) ?_
      refine lv_istore_n (lv' := [(2, .int 0), (0, .ref (a 0)), (1, .int image)]) hx hb dX6_back_29 rfl hl (by decide) rfl (fun ls hl => ?_)
      have loop30 : ∀ (k30 : Nat) (k : Nat) (sv : Nat → Int32), 5 - k < k30 → k ≤ 5 → R = lp_X6_back_30 F image k30 k sv → ∀ (H : Heap) (locs : List Loc), va_P D vwCl (wM cI cC cZ cS a (va_up (va_up F 0 (upd (F 0) 0 0)) 6 sv) tc) H → va_D A (wM cI cC cZ cS a (va_up (va_up F 0 (upd (F 0) 0 0)) 6 sv) tc) → va_S A s.heap H locs → ∀ ls : Array Slot, lv_has ls 3 [(0, .ref (a 0)), (1, .int image), (2, .int (nI k))] → W p l e (headSpec wsX6_back { frames := 1, cells := 0, slots := 0, locals := 22 }).room s m (([.ref (a 0), .int image] : List Value).toArray) below meth c H locs 0 0 (MQ below (QcM (some (.int R.1)) D (wM cI cC cZ cS a F tc) (wM cI cC cZ cS a R.2 tc)) (([.ref (a 0), .int image] : List Value).toArray) s 0 0 A) (F0 m 30 ls []) := by
        intro k30
        induction k30 with
        | zero => intro k sv hk; exact absurd hk (Nat.not_lt_zero _)
        | succ k30 ih30 =>
          intro k sv hk30 hk hres H locs hP hD hS ls hl
          rw [lp_X6_back_30] at hres
          refine lv_iload_n hx hb dX6_back_30 rfl (lv_at hl 2 rfl) ?_
          refine lv_iconst (v := 5) hx hb dX6_back_31 (by decide) ?_
          refine lv_icmp_ge (tgt := 57) hx hb dX6_back_32 (by decide) (fun c_3 => ?_) (fun c_3 => ?_)
          · skip
            rw [if_pos c_3] at hres
            refine lv_aload_n hx hb dX6_back_57 rfl (lv_at hl 0 rfl) ?_
            refine lv_iconst (v := 0) hx hb dX6_back_58 (by decide) ?_
            refine va_put (D := D) (ci := 6) (v := .int 0) (ty := .int) (C := RX6) (T := TX6) (N := 26) hx hb hts hinX6 tyX6 tyX6_ok nmX6 hown hK hP hD hS 0 rfl rfl 20 (by decide) (hts (.fieldLink RX6 111 "FirstOutModel" "undoMany" "I") (by decide +kernel)) (fun _ h9 => h9) rfl (by decide +kernel) rfl rfl (Nat.le_of_ble_eq_true rfl) dX6_back_59 (fun H locs hP hD hS => ?_)
            have hP : va_P D vwCl (wM cI cC cZ cS a (va_up (va_up F 0 (upd (upd (F 0) 0 0) 20 0)) 6 sv) tc) H := hP
            have hD : va_D A (wM cI cC cZ cS a (va_up (va_up F 0 (upd (upd (F 0) 0 0) 20 0)) 6 sv) tc) := hD
            refine lv_aload_n hx hb dX6_back_62 rfl (lv_at hl 0 rfl) ?_
            refine va_get (D := D) (ci := 6) (v := .ref (a 6)) (C := RX6) (T := TX6) (N := 26) hx hb hts hinX6 hown hK hP 0 rfl rfl 15 (by decide) (hts (.fieldLink RX6 25 "FirstOutModel" "s" "[I") (by decide +kernel)) (fun _ h9 => h9) rfl dX6_back_63 ?_
            refine lv_iconst (v := 0) hx hb dX6_back_66 (by decide) ?_
            refine m_iald hx hb hK hP 6 0 rfl rfl 0 rfl (by decide) (by decide) dX6_back_67 ?_
            refine lv_to (show _ = (sv 0) from rfl) ?_
            rw [hres]
            exact W.iret (v := (sv 0)) hx hb hr (fun t ht hW => ⟨rfl, by rw [ht]; exact hP, by rw [hA]; exact hS.F ht⟩) hS.2.2 dX6_back_68
          · skip
            rw [if_neg c_3] at hres
            have hlt : k < 5 := nlt_of (b := 5) c_3 (by omega) (by omega)
            refine lv_aload_n hx hb dX6_back_35 rfl (lv_at hl 0 rfl) ?_
            refine va_get (D := D) (ci := 6) (v := .ref (a 6)) (C := RX6) (T := TX6) (N := 26) hx hb hts hinX6 hown hK hP 0 rfl rfl 15 (by decide) (hts (.fieldLink RX6 25 "FirstOutModel" "s" "[I") (by decide +kernel)) (fun _ h9 => h9) rfl dX6_back_36 ?_
            refine lv_iload_n hx hb dX6_back_39 rfl (lv_at hl 2 rfl) ?_
            refine lv_aload_n hx hb dX6_back_40 rfl (lv_at hl 0 rfl) ?_
            refine va_get (D := D) (ci := 6) (v := .ref (a 8)) (C := RX6) (T := TX6) (N := 26) hx hb hts hinX6 hown hK hP 0 rfl rfl 17 (by decide) (hts (.fieldLink RX6 31 "FirstOutModel" "kept" "[I") (by decide +kernel)) (fun _ h9 => h9) rfl dX6_back_41 ?_
            refine lv_iconst (v := 5) hx hb dX6_back_44 (by decide) ?_
            refine lv_iload_n hx hb dX6_back_45 rfl (lv_at hl 1 rfl) ?_
            refine lv_imul hx hb dX6_back_46 ?_
            refine lv_iload_n hx hb dX6_back_47 rfl (lv_at hl 2 rfl) ?_
            refine lv_iadd hx hb dX6_back_48 ?_
            refine m_iald hx hb hK hP 8 0 rfl rfl (5 * image.toNatClampNeg + k) (ix5i hm.1 k) (by have := hm.2; omega) (by decide) dX6_back_49 ?_
            refine lv_to (show _ = (F 8 (5 * image.toNatClampNeg + k)) from rfl) ?_
            refine m_iast hx hb hK hP hD hS 6 0 rfl rfl k rfl (by omega) (by decide) dX6_back_50 (fun H locs hP hD hS => ?_)
            have hP : va_P D vwCl (wM cI cC cZ cS a (va_up (va_up F 0 (upd (F 0) 0 0)) 6 (upd sv k (F 8 (5 * image.toNatClampNeg + k)))) tc) H := hP
            have hD : va_D A (wM cI cC cZ cS a (va_up (va_up F 0 (upd (F 0) 0 0)) 6 (upd sv k (F 8 (5 * image.toNatClampNeg + k)))) tc) := hD
            refine lv_iinc (v := nI (k + 1)) (lv' := [(2, .int (nI (k + 1))), (0, .ref (a 0)), (1, .int image)]) hx hb dX6_back_51 hl (k := 2) rfl ((nI_add k 1)) (by decide) rfl (fun ls hl => ?_)
            refine lv_goto (tgt := 30) hx hb dX6_back_54 (by decide) ?_
            have hP : va_P D vwCl (wM cI cC cZ cS a (va_up (va_up F 0 (upd (F 0) 0 0)) 6 (upd sv k (F 8 (5 * image.toNatClampNeg + k)))) tc) H := hP
            have hD : va_D A (wM cI cC cZ cS a (va_up (va_up F 0 (upd (F 0) 0 0)) 6 (upd sv k (F 8 (5 * image.toNatClampNeg + k)))) tc) := hD
            exact ih30 (k + 1) (upd sv k (F 8 (5 * image.toNatClampNeg + k))) (by omega) (by omega) hres _ _ hP hD hS ls (lv_sub hl [1, 2, 0] rfl)
      have hP : va_P D vwCl (wM cI cC cZ cS a (va_up F 0 (upd (F 0) 0 0)) tc) _ := hP
      have hD : va_D A (wM cI cC cZ cS a (va_up F 0 (upd (F 0) 0 0)) tc) := hD
      exact loop30 6 0 (F 6) (by omega) (Nat.zero_le _) hres _ _ hP hD hS ls (lv_sub hl [1, 2, 0] rfl)
    · skip
      rw [if_pos c_2] at hres
      refine lv_bipush (v := (-2)) hx hb dX6_back_25 (by decide) ?_
      rw [hres]
      exact W.iret (v := (-2)) hx hb hr (fun t ht hW => ⟨rfl, by rw [ht]; exact hP, by rw [hA]; exact hS.F ht⟩) hS.2.2 dX6_back_27
  · skip
    rw [if_pos c_1] at hres
    refine lv_iconst (v := (-1)) hx hb dX6_back_14 (by decide) ?_
    rw [hres]
    exact W.iret (v := (-1)) hx hb hr (fun t ht hW => ⟨rfl, by rw [ht]; exact hP, by rw [hA]; exact hS.F ht⟩) hS.2.2 dX6_back_15
