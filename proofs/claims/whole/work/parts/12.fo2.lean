theorem ngt31 {i : Nat} (c : ¬ (31 : Int32) < nI i) (hi : i ≤ 32) : i < 32 := by
  rcases Nat.lt_or_ge i 32 with q | q
  · exact q
  · exact absurd (nI_lt (a := 31) (b := i) (by omega) (by omega)) c
theorem sh_n {n : Nat} (h7 : n ≤ 7) : (1 : Int32) <<< (nI n &&& 31) = nI (2 ^ n) := by
  match n, h7 with
  | 0, _ => rfl
  | 1, _ => rfl
  | 2, _ => rfl
  | 3, _ => rfl
  | 4, _ => rfl
  | 5, _ => rfl
  | 6, _ => rfl
  | 7, _ => rfl
  | k + 8, h => omega
theorem lt31 {n i : Nat} (h7 : n ≤ 7) (h : i ≤ 2 ^ n) : i < 2 ^ 31 := Nat.lt_of_le_of_lt h (Nat.pow_lt_pow_right (by omega) (by omega))

def d_X5_thing (F : Nat → Nat → Int32) (t : Int32) (what : Int32) (n : Nat) : Int32 :=
  if (d_X0_holds (F 1) t) = 0 then
      (-1)
    else
      if what = 0 then
        (F 2 t.toNatClampNeg)
      else
        if what = 1 then
          (F 3 t.toNatClampNeg)
        else
          if what = 2 then
            (F 4 t.toNatClampNeg)
          else
            if what = 3 then
              d_X5_bitOf (F 11 1) t
            else
              if what = 4 then
                d_X5_bitOf (F 11 2) t
              else
                if what = 5 then
                  d_X5_bitOf (F 11 3) t
                else
                  if what = 6 then
                    d_X5_bitOf (d_X5_coveredNow (F 2) (F 11) n) t
                  else
                    if what = 7 then
                      d_X5_bitOf (d_X5_ableNow (F 2) (F 4) (F 11) n) t
                    else
                      (-1)
set_option maxHeartbeats 4000000 in
set_option maxRecDepth 100000 in
theorem c_X5_thing (l : Launch) (D : va_G) (cI cC cZ cS : ClassId) (a : Nat → Nat) (b : Nat → Nat) (F : Nat → Nat → Int32) (tc : Int64) (t : Int32) (what : Int32) (n : Nat) (hn : F 1 3 = nI n) (h7 : n ≤ 7) : Met l yX5_thing wsX5_thing { frames := 4, cells := 0, slots := 0, locals := 88 } (PcE D cI cC cZ cS [.ref (a 0), .int t, .int what] (wF cI cC cZ cS a b F tc)) (QcR (some (.int (d_X5_thing F t what n)))) 0 0 (fun _ => False) := by
  refine Met.ofW (cc := cX5_thing) (maxL := 3) (ret := (some .int)) (by decide) rfl ?_
  intro p e s m args below meth c s₁ B hml hv
  obtain ⟨rfl, hP, hD, hE⟩ := hv
  have hK := hE.1
  have hx := B.exec
  have hb := B.bytes
  have hr := B.returns
  have hts := atoms_spec (ws := wsX5_thing) B.pre
  have hown : s.vm.findClass RX5 = some m.cls := findClass_of_methodNamed B.named
  have hlocks := B.notSynchronized
  have hinX5 : ∀ w ∈ wsX50, w ∈ wsX5_thing := by decide +kernel
  have hinX0 : ∀ w ∈ wsX00, w ∈ wsX5_thing := by decide +kernel
  have hinX3 : ∀ w ∈ wsX30, w ∈ wsX5_thing := by decide +kernel
  refine opq (d_X5_thing F t what n) (fun R hres => ?_)
  rw [hres]
  replace hres := hres.symm
  rw [d_X5_thing] at hres
  have hl := lv_entry ([.ref (a 0), .int t, .int what]) (n := 3) (Nat.le_of_ble_eq_true rfl)
  rw [lg_entry_eq]
  generalize (lg_sl ([.ref (a 0), .int t, .int what]) ++ List.replicate (3 - (lg_sl ([.ref (a 0), .int t, .int what])).length) Slot.unset).toArray = ls at hl ⊢
  have hl : lv_has ls 3 [(0, .ref (a 0)), (1, .int t), (2, .int what)] := hl
  refine lv_aload_n hx hb dX5_thing_0 rfl (lv_at hl 0 rfl) ?_
  refine va_get (D := D) (ci := 5) (v := .ref (a 1)) (C := RX5) (T := TX5) (N := 10) hx hb hts hinX5 hown hK hP 0 rfl rfl 0 (by decide) (hts (.fieldLink RX5 10 "FirstOut" "home" "LFirstOut$House;") (by decide +kernel)) (fun _ h9 => h9) rfl dX5_thing_1 ?_
  refine lv_iload_n hx hb dX5_thing_4 rfl (lv_at hl 1 rfl) ?_
  have hPc := hP.sub (ws' := (wH cI cC cZ cS (a 1) (a 2) (a 3) (a 4) (F 1) (F 2) (F 3) (F 4))) [1, 2, 3, 4] rfl
  have hDc := hD.sub (ws' := (wH cI cC cZ cS (a 1) (a 2) (a 3) (a 4) (F 1) (F 2) (F 3) (F 4))) [1, 2, 3, 4] (by decide) rfl
  refine m_callR (W.runV (As := [.int t]) (rest := []) ⟨hx, hb, hml, hown, hts⟩ (c_X0_holds l D cI cC cZ cS (a 1) (a 2) (a 3) (a 4) (F 1) (F 2) (F 3) (F 4) t) (cwV 1 hts gX5_thing_X0_holds rfl rfl rfl (by decide +kernel) ⟨Nat.le_of_ble_eq_true rfl, Nat.le_of_ble_eq_true rfl⟩) (preV_of hPc hDc hE (va_recv hK hPc (ci := 0) (q0 := 0) rfl rfl)) rfl rfl hl.1 rfl (lv_room (Nat.le_of_ble_eq_true rfl)) dX5_thing_5 ⟨Nat.zero_le _, Nat.zero_le _⟩) ?_
  refine W.eq (g2 := F0 m 8 ls [.int (d_X0_holds (F 1) t)]) rfl ?_
  refine lv_if_ne (tgt := 13) hx hb dX5_thing_8 (by decide) (fun c_1 => ?_) (fun c_1 => ?_)
  · skip
    rw [if_neg c_1] at hres
    have ti := holds_ok c_1 hn h7
    refine lv_iload_n hx hb dX5_thing_13 rfl (lv_at hl 2 rfl) ?_
    by_cases c_2 : what = 0
    · rw [if_pos c_2] at hres
      refine lv_tableIn (off := 46) (tgt := 60) hx hb dX5_thing_14 (by rw [c_2]; decide) (by rw [c_2]; decide) (by rw [c_2]; rfl) (by decide) ?_
      refine lv_aload_n hx hb dX5_thing_60 rfl (lv_at hl 0 rfl) ?_
      refine va_get (D := D) (ci := 5) (v := .ref (a 1)) (C := RX5) (T := TX5) (N := 10) hx hb hts hinX5 hown hK hP 0 rfl rfl 0 (by decide) (hts (.fieldLink RX5 10 "FirstOut" "home" "LFirstOut$House;") (by decide +kernel)) (fun _ h9 => h9) rfl dX5_thing_61 ?_
      refine va_get (D := D) (ci := 0) (v := .ref (a 2)) (C := RX0) (T := TX0) (N := 9) hx hb hts hinX0 hown hK hP 1 rfl rfl 0 (by decide) (hts (.fieldLink RX5 80 "FirstOut$House" "traits" "[I") (by decide +kernel)) (fun _ h9 => h9) rfl dX5_thing_64 ?_
      refine lv_iload_n hx hb dX5_thing_67 rfl (lv_at hl 1 rfl) ?_
      refine m_iald hx hb hK hP 2 0 rfl rfl t.toNatClampNeg ti.1 (by have := ti.2; omega) (by decide) dX5_thing_68 ?_
      refine lv_to (show _ = (F 2 t.toNatClampNeg) from rfl) ?_
      rw [hres]
      exact W.iret (v := (F 2 t.toNatClampNeg)) hx hb hr (fun t ht hW => ⟨rfl, ht⟩) (fun _ h => by cases h) dX5_thing_69
    · rw [if_neg c_2] at hres
      by_cases c_3 : what = 1
      · rw [if_pos c_3] at hres
        refine lv_tableIn (off := 56) (tgt := 70) hx hb dX5_thing_14 (by rw [c_3]; decide) (by rw [c_3]; decide) (by rw [c_3]; rfl) (by decide) ?_
        refine lv_aload_n hx hb dX5_thing_70 rfl (lv_at hl 0 rfl) ?_
        refine va_get (D := D) (ci := 5) (v := .ref (a 1)) (C := RX5) (T := TX5) (N := 10) hx hb hts hinX5 hown hK hP 0 rfl rfl 0 (by decide) (hts (.fieldLink RX5 10 "FirstOut" "home" "LFirstOut$House;") (by decide +kernel)) (fun _ h9 => h9) rfl dX5_thing_71 ?_
        refine va_get (D := D) (ci := 0) (v := .ref (a 3)) (C := RX0) (T := TX0) (N := 9) hx hb hts hinX0 hown hK hP 1 rfl rfl 1 (by decide) (hts (.fieldLink RX5 84 "FirstOut$House" "dear" "[I") (by decide +kernel)) (fun _ h9 => h9) rfl dX5_thing_74 ?_
        refine lv_iload_n hx hb dX5_thing_77 rfl (lv_at hl 1 rfl) ?_
        refine m_iald hx hb hK hP 3 0 rfl rfl t.toNatClampNeg ti.1 (by have := ti.2; omega) (by decide) dX5_thing_78 ?_
        refine lv_to (show _ = (F 3 t.toNatClampNeg) from rfl) ?_
        rw [hres]
        exact W.iret (v := (F 3 t.toNatClampNeg)) hx hb hr (fun t ht hW => ⟨rfl, ht⟩) (fun _ h => by cases h) dX5_thing_79
      · rw [if_neg c_3] at hres
        by_cases c_4 : what = 2
        · rw [if_pos c_4] at hres
          refine lv_tableIn (off := 66) (tgt := 80) hx hb dX5_thing_14 (by rw [c_4]; decide) (by rw [c_4]; decide) (by rw [c_4]; rfl) (by decide) ?_
          refine lv_aload_n hx hb dX5_thing_80 rfl (lv_at hl 0 rfl) ?_
          refine va_get (D := D) (ci := 5) (v := .ref (a 1)) (C := RX5) (T := TX5) (N := 10) hx hb hts hinX5 hown hK hP 0 rfl rfl 0 (by decide) (hts (.fieldLink RX5 10 "FirstOut" "home" "LFirstOut$House;") (by decide +kernel)) (fun _ h9 => h9) rfl dX5_thing_81 ?_
          refine va_get (D := D) (ci := 0) (v := .ref (a 4)) (C := RX0) (T := TX0) (N := 9) hx hb hts hinX0 hown hK hP 1 rfl rfl 2 (by decide) (hts (.fieldLink RX5 87 "FirstOut$House" "eager" "[I") (by decide +kernel)) (fun _ h9 => h9) rfl dX5_thing_84 ?_
          refine lv_iload_n hx hb dX5_thing_87 rfl (lv_at hl 1 rfl) ?_
          refine m_iald hx hb hK hP 4 0 rfl rfl t.toNatClampNeg ti.1 (by have := ti.2; omega) (by decide) dX5_thing_88 ?_
          refine lv_to (show _ = (F 4 t.toNatClampNeg) from rfl) ?_
          rw [hres]
          exact W.iret (v := (F 4 t.toNatClampNeg)) hx hb hr (fun t ht hW => ⟨rfl, ht⟩) (fun _ h => by cases h) dX5_thing_89
        · rw [if_neg c_4] at hres
          by_cases c_5 : what = 3
          · rw [if_pos c_5] at hres
            refine lv_tableIn (off := 76) (tgt := 90) hx hb dX5_thing_14 (by rw [c_5]; decide) (by rw [c_5]; decide) (by rw [c_5]; rfl) (by decide) ?_
            refine lv_aload_n hx hb dX5_thing_90 rfl (lv_at hl 0 rfl) ?_
            refine va_get (D := D) (ci := 5) (v := .ref (b 12)) (C := RX5) (T := TX5) (N := 10) hx hb hts hinX5 hown hK hP 0 rfl rfl 3 (by decide) (hts (.fieldLink RX5 29 "FirstOut" "current" "LFirstOut$Standing;") (by decide +kernel)) (fun _ h9 => h9) rfl dX5_thing_91 ?_
            refine va_get (D := D) (ci := 3) (v := .int (F 11 1)) (C := RX3) (T := TX3) (N := 5) hx hb hts hinX3 hown hK hP 11 rfl rfl 1 (by decide) (hts (.fieldLink RX5 90 "FirstOut$Standing" "knowing" "I") (by decide +kernel)) (fun _ h9 => h9) rfl dX5_thing_94 ?_
            refine lv_iload_n hx hb dX5_thing_97 rfl (lv_at hl 1 rfl) ?_
            have hPc := hP.sub (ws' := []) [] rfl
            have hDc := hD.sub (ws' := []) [] (by decide) rfl
            refine m_callR (W.runS (As := [.int (F 11 1), .int t]) (rest := []) ⟨hx, hb, hml, hown, hts⟩ (c_X5_bitOf l D cI cC cZ cS (F 11 1) t) (va_cwS 2 hts gX5_thing_X5_bitOf rfl rfl rfl (by decide +kernel) ⟨Nat.le_of_ble_eq_true rfl, Nat.le_of_ble_eq_true rfl⟩) (preS_of hPc hDc hE) rfl rfl hl.1 rfl (lv_room (Nat.le_of_ble_eq_true rfl)) dX5_thing_98 ⟨Nat.zero_le _, Nat.zero_le _⟩) ?_
            refine W.eq (g2 := F0 m 101 ls [.int (d_X5_bitOf (F 11 1) t)]) rfl ?_
            rw [hres]
            exact W.iret (v := d_X5_bitOf (F 11 1) t) hx hb hr (fun t ht hW => ⟨rfl, ht⟩) (fun _ h => by cases h) dX5_thing_101
          · rw [if_neg c_5] at hres
            by_cases c_6 : what = 4
            · rw [if_pos c_6] at hres
              refine lv_tableIn (off := 88) (tgt := 102) hx hb dX5_thing_14 (by rw [c_6]; decide) (by rw [c_6]; decide) (by rw [c_6]; rfl) (by decide) ?_
              refine lv_aload_n hx hb dX5_thing_102 rfl (lv_at hl 0 rfl) ?_
              refine va_get (D := D) (ci := 5) (v := .ref (b 12)) (C := RX5) (T := TX5) (N := 10) hx hb hts hinX5 hown hK hP 0 rfl rfl 3 (by decide) (hts (.fieldLink RX5 29 "FirstOut" "current" "LFirstOut$Standing;") (by decide +kernel)) (fun _ h9 => h9) rfl dX5_thing_103 ?_
              refine va_get (D := D) (ci := 3) (v := .int (F 11 2)) (C := RX3) (T := TX3) (N := 5) hx hb hts hinX3 hown hK hP 11 rfl rfl 2 (by decide) (hts (.fieldLink RX5 97 "FirstOut$Standing" "kept" "I") (by decide +kernel)) (fun _ h9 => h9) rfl dX5_thing_106 ?_
              refine lv_iload_n hx hb dX5_thing_109 rfl (lv_at hl 1 rfl) ?_
              have hPc := hP.sub (ws' := []) [] rfl
              have hDc := hD.sub (ws' := []) [] (by decide) rfl
              refine m_callR (W.runS (As := [.int (F 11 2), .int t]) (rest := []) ⟨hx, hb, hml, hown, hts⟩ (c_X5_bitOf l D cI cC cZ cS (F 11 2) t) (va_cwS 2 hts gX5_thing_X5_bitOf rfl rfl rfl (by decide +kernel) ⟨Nat.le_of_ble_eq_true rfl, Nat.le_of_ble_eq_true rfl⟩) (preS_of hPc hDc hE) rfl rfl hl.1 rfl (lv_room (Nat.le_of_ble_eq_true rfl)) dX5_thing_110 ⟨Nat.zero_le _, Nat.zero_le _⟩) ?_
              refine W.eq (g2 := F0 m 113 ls [.int (d_X5_bitOf (F 11 2) t)]) rfl ?_
              rw [hres]
              exact W.iret (v := d_X5_bitOf (F 11 2) t) hx hb hr (fun t ht hW => ⟨rfl, ht⟩) (fun _ h => by cases h) dX5_thing_113
            · rw [if_neg c_6] at hres
              by_cases c_7 : what = 5
              · rw [if_pos c_7] at hres
                refine lv_tableIn (off := 100) (tgt := 114) hx hb dX5_thing_14 (by rw [c_7]; decide) (by rw [c_7]; decide) (by rw [c_7]; rfl) (by decide) ?_
                refine lv_aload_n hx hb dX5_thing_114 rfl (lv_at hl 0 rfl) ?_
                refine va_get (D := D) (ci := 5) (v := .ref (b 12)) (C := RX5) (T := TX5) (N := 10) hx hb hts hinX5 hown hK hP 0 rfl rfl 3 (by decide) (hts (.fieldLink RX5 29 "FirstOut" "current" "LFirstOut$Standing;") (by decide +kernel)) (fun _ h9 => h9) rfl dX5_thing_115 ?_
                refine va_get (D := D) (ci := 3) (v := .int (F 11 3)) (C := RX3) (T := TX3) (N := 5) hx hb hts hinX3 hown hK hP 11 rfl rfl 3 (by decide) (hts (.fieldLink RX5 100 "FirstOut$Standing" "given" "I") (by decide +kernel)) (fun _ h9 => h9) rfl dX5_thing_118 ?_
                refine lv_iload_n hx hb dX5_thing_121 rfl (lv_at hl 1 rfl) ?_
                have hPc := hP.sub (ws' := []) [] rfl
                have hDc := hD.sub (ws' := []) [] (by decide) rfl
                refine m_callR (W.runS (As := [.int (F 11 3), .int t]) (rest := []) ⟨hx, hb, hml, hown, hts⟩ (c_X5_bitOf l D cI cC cZ cS (F 11 3) t) (va_cwS 2 hts gX5_thing_X5_bitOf rfl rfl rfl (by decide +kernel) ⟨Nat.le_of_ble_eq_true rfl, Nat.le_of_ble_eq_true rfl⟩) (preS_of hPc hDc hE) rfl rfl hl.1 rfl (lv_room (Nat.le_of_ble_eq_true rfl)) dX5_thing_122 ⟨Nat.zero_le _, Nat.zero_le _⟩) ?_
                refine W.eq (g2 := F0 m 125 ls [.int (d_X5_bitOf (F 11 3) t)]) rfl ?_
                rw [hres]
                exact W.iret (v := d_X5_bitOf (F 11 3) t) hx hb hr (fun t ht hW => ⟨rfl, ht⟩) (fun _ h => by cases h) dX5_thing_125
              · rw [if_neg c_7] at hres
                by_cases c_8 : what = 6
                · rw [if_pos c_8] at hres
                  refine lv_tableIn (off := 112) (tgt := 126) hx hb dX5_thing_14 (by rw [c_8]; decide) (by rw [c_8]; decide) (by rw [c_8]; rfl) (by decide) ?_
                  refine lv_aload_n hx hb dX5_thing_126 rfl (lv_at hl 0 rfl) ?_
                  have hPc := hP.sub (ws' := (wXC cI cC cZ cS a b (F 1) (F 2) (F 3) (F 4) (F 11) tc)) [0, 1, 2, 3, 4, 11] rfl
                  have hDc := hD.sub (ws' := (wXC cI cC cZ cS a b (F 1) (F 2) (F 3) (F 4) (F 11) tc)) [0, 1, 2, 3, 4, 11] (by decide) rfl
                  refine m_callR (W.runV (As := []) (rest := []) ⟨hx, hb, hml, hown, hts⟩ (c_X5_coveredNow l D cI cC cZ cS a b (F 1) (F 2) (F 3) (F 4) (F 11) tc n hn h7) (cwV 0 hts gX5_thing_X5_coveredNow rfl rfl rfl (by decide +kernel) ⟨Nat.le_of_ble_eq_true rfl, Nat.le_of_ble_eq_true rfl⟩) (preV_of hPc hDc hE (va_recv hK hPc (ci := 5) (q0 := 0) rfl rfl)) rfl rfl hl.1 rfl (lv_room (Nat.le_of_ble_eq_true rfl)) dX5_thing_127 ⟨Nat.zero_le _, Nat.zero_le _⟩) ?_
                  refine W.eq (g2 := F0 m 130 ls [.int (d_X5_coveredNow (F 2) (F 11) n)]) rfl ?_
                  refine lv_iload_n hx hb dX5_thing_130 rfl (lv_at hl 1 rfl) ?_
                  have hPc := hP.sub (ws' := []) [] rfl
                  have hDc := hD.sub (ws' := []) [] (by decide) rfl
                  refine m_callR (W.runS (As := [.int (d_X5_coveredNow (F 2) (F 11) n), .int t]) (rest := []) ⟨hx, hb, hml, hown, hts⟩ (c_X5_bitOf l D cI cC cZ cS (d_X5_coveredNow (F 2) (F 11) n) t) (va_cwS 2 hts gX5_thing_X5_bitOf rfl rfl rfl (by decide +kernel) ⟨Nat.le_of_ble_eq_true rfl, Nat.le_of_ble_eq_true rfl⟩) (preS_of hPc hDc hE) rfl rfl hl.1 rfl (lv_room (Nat.le_of_ble_eq_true rfl)) dX5_thing_131 ⟨Nat.zero_le _, Nat.zero_le _⟩) ?_
                  refine W.eq (g2 := F0 m 134 ls [.int (d_X5_bitOf (d_X5_coveredNow (F 2) (F 11) n) t)]) rfl ?_
                  rw [hres]
                  exact W.iret (v := d_X5_bitOf (d_X5_coveredNow (F 2) (F 11) n) t) hx hb hr (fun t ht hW => ⟨rfl, ht⟩) (fun _ h => by cases h) dX5_thing_134
                · rw [if_neg c_8] at hres
                  by_cases c_9 : what = 7
                  · rw [if_pos c_9] at hres
                    refine lv_tableIn (off := 121) (tgt := 135) hx hb dX5_thing_14 (by rw [c_9]; decide) (by rw [c_9]; decide) (by rw [c_9]; rfl) (by decide) ?_
                    refine lv_aload_n hx hb dX5_thing_135 rfl (lv_at hl 0 rfl) ?_
                    have hPc := hP.sub (ws' := (wXC cI cC cZ cS a b (F 1) (F 2) (F 3) (F 4) (F 11) tc)) [0, 1, 2, 3, 4, 11] rfl
                    have hDc := hD.sub (ws' := (wXC cI cC cZ cS a b (F 1) (F 2) (F 3) (F 4) (F 11) tc)) [0, 1, 2, 3, 4, 11] (by decide) rfl
                    refine m_callR (W.runV (As := []) (rest := []) ⟨hx, hb, hml, hown, hts⟩ (c_X5_ableNow l D cI cC cZ cS a b (F 1) (F 2) (F 3) (F 4) (F 11) tc n hn h7) (cwV 0 hts gX5_thing_X5_ableNow rfl rfl rfl (by decide +kernel) ⟨Nat.le_of_ble_eq_true rfl, Nat.le_of_ble_eq_true rfl⟩) (preV_of hPc hDc hE (va_recv hK hPc (ci := 5) (q0 := 0) rfl rfl)) rfl rfl hl.1 rfl (lv_room (Nat.le_of_ble_eq_true rfl)) dX5_thing_136 ⟨Nat.zero_le _, Nat.zero_le _⟩) ?_
                    refine W.eq (g2 := F0 m 139 ls [.int (d_X5_ableNow (F 2) (F 4) (F 11) n)]) rfl ?_
                    refine lv_iload_n hx hb dX5_thing_139 rfl (lv_at hl 1 rfl) ?_
                    have hPc := hP.sub (ws' := []) [] rfl
                    have hDc := hD.sub (ws' := []) [] (by decide) rfl
                    refine m_callR (W.runS (As := [.int (d_X5_ableNow (F 2) (F 4) (F 11) n), .int t]) (rest := []) ⟨hx, hb, hml, hown, hts⟩ (c_X5_bitOf l D cI cC cZ cS (d_X5_ableNow (F 2) (F 4) (F 11) n) t) (va_cwS 2 hts gX5_thing_X5_bitOf rfl rfl rfl (by decide +kernel) ⟨Nat.le_of_ble_eq_true rfl, Nat.le_of_ble_eq_true rfl⟩) (preS_of hPc hDc hE) rfl rfl hl.1 rfl (lv_room (Nat.le_of_ble_eq_true rfl)) dX5_thing_140 ⟨Nat.zero_le _, Nat.zero_le _⟩) ?_
                    refine W.eq (g2 := F0 m 143 ls [.int (d_X5_bitOf (d_X5_ableNow (F 2) (F 4) (F 11) n) t)]) rfl ?_
                    rw [hres]
                    exact W.iret (v := d_X5_bitOf (d_X5_ableNow (F 2) (F 4) (F 11) n) t) hx hb hr (fun t ht hW => ⟨rfl, ht⟩) (fun _ h => by cases h) dX5_thing_143
                  · rw [if_neg c_9] at hres
                    refine lv_tableOut (tgt := 144) hx hb dX5_thing_14 (tb_out 0 7 (by decide) (fun k h1 h2 => by rcases (show k = 0 ∨ k = 1 ∨ k = 2 ∨ k = 3 ∨ k = 4 ∨ k = 5 ∨ k = 6 ∨ k = 7 by omega) with rfl | rfl | rfl | rfl | rfl | rfl | rfl | rfl <;> assumption)) (by decide) ?_
                    refine lv_iconst (v := (-1)) hx hb dX5_thing_144 (by decide) ?_
                    rw [hres]
                    exact W.iret (v := (-1)) hx hb hr (fun t ht hW => ⟨rfl, ht⟩) (fun _ h => by cases h) dX5_thing_145
  · skip
    rw [if_pos c_1] at hres
    refine lv_iconst (v := (-1)) hx hb dX5_thing_11 (by decide) ?_
    rw [hres]
    exact W.iret (v := (-1)) hx hb hr (fun t ht hW => ⟨rfl, ht⟩) (fun _ h => by cases h) dX5_thing_12
def d_X5_now (F : Nat → Nat → Int32) (what : Int32) (n : Nat) : Int32 :=
  if what = 0 then
      (F 11 4)
    else
      if what = 1 then
        (F 11 0)
      else
        if what = 2 then
          d_X5_coveredNow (F 2) (F 11) n
        else
          if what = 3 then
            d_X5_ableNow (F 2) (F 4) (F 11) n
          else
            if what = 4 then
              (F 11 3)
            else
              if what = 5 then
                d_X0_dearTogether (F 3) (F 11 3) n
              else
                if what = 6 then
                  (F 13 2)
                else
                  (-1)
set_option maxHeartbeats 4000000 in
set_option maxRecDepth 100000 in
theorem c_X5_now (l : Launch) (D : va_G) (cI cC cZ cS : ClassId) (a : Nat → Nat) (b : Nat → Nat) (F : Nat → Nat → Int32) (tc : Int64) (what : Int32) (n : Nat) (hn : F 1 3 = nI n) (h7 : n ≤ 7) : Met l yX5_now wsX5_now { frames := 4, cells := 0, slots := 0, locals := 88 } (PcE D cI cC cZ cS [.ref (a 0), .int what] (wF cI cC cZ cS a b F tc)) (QcR (some (.int (d_X5_now F what n)))) 0 0 (fun _ => False) := by
  refine Met.ofW (cc := cX5_now) (maxL := 2) (ret := (some .int)) (by decide) rfl ?_
  intro p e s m args below meth c s₁ B hml hv
  obtain ⟨rfl, hP, hD, hE⟩ := hv
  have hK := hE.1
  have hx := B.exec
  have hb := B.bytes
  have hr := B.returns
  have hts := atoms_spec (ws := wsX5_now) B.pre
  have hown : s.vm.findClass RX5 = some m.cls := findClass_of_methodNamed B.named
  have hlocks := B.notSynchronized
  have hinX5 : ∀ w ∈ wsX50, w ∈ wsX5_now := by decide +kernel
  have hinX3 : ∀ w ∈ wsX30, w ∈ wsX5_now := by decide +kernel
  have hinX1 : ∀ w ∈ wsX10, w ∈ wsX5_now := by decide +kernel
  refine opq (d_X5_now F what n) (fun R hres => ?_)
  rw [hres]
  replace hres := hres.symm
  rw [d_X5_now] at hres
  have hl := lv_entry ([.ref (a 0), .int what]) (n := 2) (Nat.le_of_ble_eq_true rfl)
  rw [lg_entry_eq]
  generalize (lg_sl ([.ref (a 0), .int what]) ++ List.replicate (2 - (lg_sl ([.ref (a 0), .int what])).length) Slot.unset).toArray = ls at hl ⊢
  have hl : lv_has ls 2 [(0, .ref (a 0)), (1, .int what)] := hl
  refine lv_iload_n hx hb dX5_now_0 rfl (lv_at hl 1 rfl) ?_
  by_cases c_1 : what = 0
  · rw [if_pos c_1] at hres
    refine lv_tableIn (off := 43) (tgt := 44) hx hb dX5_now_1 (by rw [c_1]; decide) (by rw [c_1]; decide) (by rw [c_1]; rfl) (by decide) ?_
    refine lv_aload_n hx hb dX5_now_44 rfl (lv_at hl 0 rfl) ?_
    refine va_get (D := D) (ci := 5) (v := .ref (b 12)) (C := RX5) (T := TX5) (N := 10) hx hb hts hinX5 hown hK hP 0 rfl rfl 3 (by decide) (hts (.fieldLink RX5 29 "FirstOut" "current" "LFirstOut$Standing;") (by decide +kernel)) (fun _ h9 => h9) rfl dX5_now_45 ?_
    refine va_get (D := D) (ci := 3) (v := .int (F 11 4)) (C := RX3) (T := TX3) (N := 5) hx hb hts hinX3 hown hK hP 11 rfl rfl 4 (by decide) (hts (.fieldLink RX5 110 "FirstOut$Standing" "date" "I") (by decide +kernel)) (fun _ h9 => h9) rfl dX5_now_48 ?_
    rw [hres]
    exact W.iret (v := (F 11 4)) hx hb hr (fun t ht hW => ⟨rfl, ht⟩) (fun _ h => by cases h) dX5_now_51
  · rw [if_neg c_1] at hres
    by_cases c_2 : what = 1
    · rw [if_pos c_2] at hres
      refine lv_tableIn (off := 51) (tgt := 52) hx hb dX5_now_1 (by rw [c_2]; decide) (by rw [c_2]; decide) (by rw [c_2]; rfl) (by decide) ?_
      refine lv_aload_n hx hb dX5_now_52 rfl (lv_at hl 0 rfl) ?_
      refine va_get (D := D) (ci := 5) (v := .ref (b 12)) (C := RX5) (T := TX5) (N := 10) hx hb hts hinX5 hown hK hP 0 rfl rfl 3 (by decide) (hts (.fieldLink RX5 29 "FirstOut" "current" "LFirstOut$Standing;") (by decide +kernel)) (fun _ h9 => h9) rfl dX5_now_53 ?_
      refine va_get (D := D) (ci := 3) (v := .int (F 11 0)) (C := RX3) (T := TX3) (N := 5) hx hb hts hinX3 hown hK hP 11 rfl rfl 0 (by decide) (hts (.fieldLink RX5 113 "FirstOut$Standing" "words" "I") (by decide +kernel)) (fun _ h9 => h9) rfl dX5_now_56 ?_
      rw [hres]
      exact W.iret (v := (F 11 0)) hx hb hr (fun t ht hW => ⟨rfl, ht⟩) (fun _ h => by cases h) dX5_now_59
    · rw [if_neg c_2] at hres
      by_cases c_3 : what = 2
      · rw [if_pos c_3] at hres
        refine lv_tableIn (off := 59) (tgt := 60) hx hb dX5_now_1 (by rw [c_3]; decide) (by rw [c_3]; decide) (by rw [c_3]; rfl) (by decide) ?_
        refine lv_aload_n hx hb dX5_now_60 rfl (lv_at hl 0 rfl) ?_
        have hPc := hP.sub (ws' := (wXC cI cC cZ cS a b (F 1) (F 2) (F 3) (F 4) (F 11) tc)) [0, 1, 2, 3, 4, 11] rfl
        have hDc := hD.sub (ws' := (wXC cI cC cZ cS a b (F 1) (F 2) (F 3) (F 4) (F 11) tc)) [0, 1, 2, 3, 4, 11] (by decide) rfl
        refine m_callR (W.runV (As := []) (rest := []) ⟨hx, hb, hml, hown, hts⟩ (c_X5_coveredNow l D cI cC cZ cS a b (F 1) (F 2) (F 3) (F 4) (F 11) tc n hn h7) (cwV 0 hts gX5_now_X5_coveredNow rfl rfl rfl (by decide +kernel) ⟨Nat.le_of_ble_eq_true rfl, Nat.le_of_ble_eq_true rfl⟩) (preV_of hPc hDc hE (va_recv hK hPc (ci := 5) (q0 := 0) rfl rfl)) rfl rfl hl.1 rfl (lv_room (Nat.le_of_ble_eq_true rfl)) dX5_now_61 ⟨Nat.zero_le _, Nat.zero_le _⟩) ?_
        refine W.eq (g2 := F0 m 64 ls [.int (d_X5_coveredNow (F 2) (F 11) n)]) rfl ?_
        rw [hres]
        exact W.iret (v := d_X5_coveredNow (F 2) (F 11) n) hx hb hr (fun t ht hW => ⟨rfl, ht⟩) (fun _ h => by cases h) dX5_now_64
      · rw [if_neg c_3] at hres
        by_cases c_4 : what = 3
        · rw [if_pos c_4] at hres
          refine lv_tableIn (off := 64) (tgt := 65) hx hb dX5_now_1 (by rw [c_4]; decide) (by rw [c_4]; decide) (by rw [c_4]; rfl) (by decide) ?_
          refine lv_aload_n hx hb dX5_now_65 rfl (lv_at hl 0 rfl) ?_
          have hPc := hP.sub (ws' := (wXC cI cC cZ cS a b (F 1) (F 2) (F 3) (F 4) (F 11) tc)) [0, 1, 2, 3, 4, 11] rfl
          have hDc := hD.sub (ws' := (wXC cI cC cZ cS a b (F 1) (F 2) (F 3) (F 4) (F 11) tc)) [0, 1, 2, 3, 4, 11] (by decide) rfl
          refine m_callR (W.runV (As := []) (rest := []) ⟨hx, hb, hml, hown, hts⟩ (c_X5_ableNow l D cI cC cZ cS a b (F 1) (F 2) (F 3) (F 4) (F 11) tc n hn h7) (cwV 0 hts gX5_now_X5_ableNow rfl rfl rfl (by decide +kernel) ⟨Nat.le_of_ble_eq_true rfl, Nat.le_of_ble_eq_true rfl⟩) (preV_of hPc hDc hE (va_recv hK hPc (ci := 5) (q0 := 0) rfl rfl)) rfl rfl hl.1 rfl (lv_room (Nat.le_of_ble_eq_true rfl)) dX5_now_66 ⟨Nat.zero_le _, Nat.zero_le _⟩) ?_
          refine W.eq (g2 := F0 m 69 ls [.int (d_X5_ableNow (F 2) (F 4) (F 11) n)]) rfl ?_
          rw [hres]
          exact W.iret (v := d_X5_ableNow (F 2) (F 4) (F 11) n) hx hb hr (fun t ht hW => ⟨rfl, ht⟩) (fun _ h => by cases h) dX5_now_69
        · rw [if_neg c_4] at hres
          by_cases c_5 : what = 4
          · rw [if_pos c_5] at hres
            refine lv_tableIn (off := 69) (tgt := 70) hx hb dX5_now_1 (by rw [c_5]; decide) (by rw [c_5]; decide) (by rw [c_5]; rfl) (by decide) ?_
            refine lv_aload_n hx hb dX5_now_70 rfl (lv_at hl 0 rfl) ?_
            refine va_get (D := D) (ci := 5) (v := .ref (b 12)) (C := RX5) (T := TX5) (N := 10) hx hb hts hinX5 hown hK hP 0 rfl rfl 3 (by decide) (hts (.fieldLink RX5 29 "FirstOut" "current" "LFirstOut$Standing;") (by decide +kernel)) (fun _ h9 => h9) rfl dX5_now_71 ?_
            refine va_get (D := D) (ci := 3) (v := .int (F 11 3)) (C := RX3) (T := TX3) (N := 5) hx hb hts hinX3 hown hK hP 11 rfl rfl 3 (by decide) (hts (.fieldLink RX5 100 "FirstOut$Standing" "given" "I") (by decide +kernel)) (fun _ h9 => h9) rfl dX5_now_74 ?_
            rw [hres]
            exact W.iret (v := (F 11 3)) hx hb hr (fun t ht hW => ⟨rfl, ht⟩) (fun _ h => by cases h) dX5_now_77
          · rw [if_neg c_5] at hres
            by_cases c_6 : what = 5
            · rw [if_pos c_6] at hres
              refine lv_tableIn (off := 77) (tgt := 78) hx hb dX5_now_1 (by rw [c_6]; decide) (by rw [c_6]; decide) (by rw [c_6]; rfl) (by decide) ?_
              refine lv_aload_n hx hb dX5_now_78 rfl (lv_at hl 0 rfl) ?_
              refine va_get (D := D) (ci := 5) (v := .ref (a 1)) (C := RX5) (T := TX5) (N := 10) hx hb hts hinX5 hown hK hP 0 rfl rfl 0 (by decide) (hts (.fieldLink RX5 10 "FirstOut" "home" "LFirstOut$House;") (by decide +kernel)) (fun _ h9 => h9) rfl dX5_now_79 ?_
              refine lv_aload_n hx hb dX5_now_82 rfl (lv_at hl 0 rfl) ?_
              refine va_get (D := D) (ci := 5) (v := .ref (b 12)) (C := RX5) (T := TX5) (N := 10) hx hb hts hinX5 hown hK hP 0 rfl rfl 3 (by decide) (hts (.fieldLink RX5 29 "FirstOut" "current" "LFirstOut$Standing;") (by decide +kernel)) (fun _ h9 => h9) rfl dX5_now_83 ?_
              refine va_get (D := D) (ci := 3) (v := .int (F 11 3)) (C := RX3) (T := TX3) (N := 5) hx hb hts hinX3 hown hK hP 11 rfl rfl 3 (by decide) (hts (.fieldLink RX5 100 "FirstOut$Standing" "given" "I") (by decide +kernel)) (fun _ h9 => h9) rfl dX5_now_86 ?_
              have hPc := hP.sub (ws' := (wH cI cC cZ cS (a 1) (a 2) (a 3) (a 4) (F 1) (F 2) (F 3) (F 4))) [1, 2, 3, 4] rfl
              have hDc := hD.sub (ws' := (wH cI cC cZ cS (a 1) (a 2) (a 3) (a 4) (F 1) (F 2) (F 3) (F 4))) [1, 2, 3, 4] (by decide) rfl
              refine m_callR (W.runV (As := [.int (F 11 3)]) (rest := []) ⟨hx, hb, hml, hown, hts⟩ (c_X0_dearTogether l D cI cC cZ cS (a 1) (a 2) (a 3) (a 4) (F 1) (F 2) (F 3) (F 4) (F 11 3) n hn h7) (cwV 1 hts gX5_now_X0_dearTogether rfl rfl rfl (by decide +kernel) ⟨Nat.le_of_ble_eq_true rfl, Nat.le_of_ble_eq_true rfl⟩) (preV_of hPc hDc hE (va_recv hK hPc (ci := 0) (q0 := 0) rfl rfl)) rfl rfl hl.1 rfl (lv_room (Nat.le_of_ble_eq_true rfl)) dX5_now_89 ⟨Nat.zero_le _, Nat.zero_le _⟩) ?_
              refine W.eq (g2 := F0 m 92 ls [.int (d_X0_dearTogether (F 3) (F 11 3) n)]) rfl ?_
              rw [hres]
              exact W.iret (v := d_X0_dearTogether (F 3) (F 11 3) n) hx hb hr (fun t ht hW => ⟨rfl, ht⟩) (fun _ h => by cases h) dX5_now_92
            · rw [if_neg c_6] at hres
              by_cases c_7 : what = 6
              · rw [if_pos c_7] at hres
                refine lv_tableIn (off := 92) (tgt := 93) hx hb dX5_now_1 (by rw [c_7]; decide) (by rw [c_7]; decide) (by rw [c_7]; rfl) (by decide) ?_
                refine lv_aload_n hx hb dX5_now_93 rfl (lv_at hl 0 rfl) ?_
                refine va_get (D := D) (ci := 5) (v := .ref (b 0)) (C := RX5) (T := TX5) (N := 10) hx hb hts hinX5 hown hK hP 0 rfl rfl 5 (by decide) (hts (.fieldLink RX5 39 "FirstOut" "past" "LFirstOut$Past;") (by decide +kernel)) (fun _ h9 => h9) rfl dX5_now_94 ?_
                refine va_get (D := D) (ci := 1) (v := .int (F 13 2)) (C := RX1) (T := TX1) (N := 3) hx hb hts hinX1 hown hK hP 13 rfl rfl 2 (by decide) (hts (.fieldLink RX5 120 "FirstOut$Past" "known" "I") (by decide +kernel)) (fun _ h9 => h9) rfl dX5_now_97 ?_
                rw [hres]
                exact W.iret (v := (F 13 2)) hx hb hr (fun t ht hW => ⟨rfl, ht⟩) (fun _ h => by cases h) dX5_now_100
              · rw [if_neg c_7] at hres
                refine lv_tableOut (tgt := 101) hx hb dX5_now_1 (tb_out 0 6 (by decide) (fun k h1 h2 => by rcases (show k = 0 ∨ k = 1 ∨ k = 2 ∨ k = 3 ∨ k = 4 ∨ k = 5 ∨ k = 6 by omega) with rfl | rfl | rfl | rfl | rfl | rfl | rfl <;> assumption)) (by decide) ?_
                refine lv_iconst (v := (-1)) hx hb dX5_now_101 (by decide) ?_
                rw [hres]
                exact W.iret (v := (-1)) hx hb hr (fun t ht hW => ⟨rfl, ht⟩) (fun _ h => by cases h) dX5_now_102
def d_X5_harm (F : Nat → Nat → Int32) (what : Int32) (n : Nat) : Int32 :=
  if (d_X5_isYesOrNo what) = 0 then
      (-1)
    else
      d_X5_partOf (d_X0_harmUpper (F 3) (F 4) (d_X5_ableNow (F 2) (F 4) (F 11) n) (d_X5_coveredNow (F 2) (F 11) n) n) (d_X0_shares (F 4) (d_X5_ableNow (F 2) (F 4) (F 11) n) n) what
set_option maxHeartbeats 4000000 in
set_option maxRecDepth 100000 in
theorem c_X5_harm (l : Launch) (D : va_G) (cI cC cZ cS : ClassId) (a : Nat → Nat) (b : Nat → Nat) (F : Nat → Nat → Int32) (tc : Int64) (what : Int32) (n : Nat) (hn : F 1 3 = nI n) (h7 : n ≤ 7) : Met l yX5_harm wsX5_harm { frames := 4, cells := 0, slots := 0, locals := 88 } (PcE D cI cC cZ cS [.ref (a 0), .int what] (wF cI cC cZ cS a b F tc)) (QcR (some (.int (d_X5_harm F what n)))) 0 0 (fun _ => False) := by
  refine Met.ofW (cc := cX5_harm) (maxL := 3) (ret := (some .int)) (by decide) rfl ?_
  intro p e s m args below meth c s₁ B hml hv
  obtain ⟨rfl, hP, hD, hE⟩ := hv
  have hK := hE.1
  have hx := B.exec
  have hb := B.bytes
  have hr := B.returns
  have hts := atoms_spec (ws := wsX5_harm) B.pre
  have hown : s.vm.findClass RX5 = some m.cls := findClass_of_methodNamed B.named
  have hlocks := B.notSynchronized
  have hinX5 : ∀ w ∈ wsX50, w ∈ wsX5_harm := by decide +kernel
  refine opq (d_X5_harm F what n) (fun R hres => ?_)
  rw [hres]
  replace hres := hres.symm
  rw [d_X5_harm] at hres
  have hl := lv_entry ([.ref (a 0), .int what]) (n := 3) (Nat.le_of_ble_eq_true rfl)
  rw [lg_entry_eq]
  generalize (lg_sl ([.ref (a 0), .int what]) ++ List.replicate (3 - (lg_sl ([.ref (a 0), .int what])).length) Slot.unset).toArray = ls at hl ⊢
  have hl : lv_has ls 3 [(0, .ref (a 0)), (1, .int what)] := hl
  refine lv_iload_n hx hb dX5_harm_0 rfl (lv_at hl 1 rfl) ?_
  have hPc := hP.sub (ws' := []) [] rfl
  have hDc := hD.sub (ws' := []) [] (by decide) rfl
  refine m_callR (W.runS (As := [.int what]) (rest := []) ⟨hx, hb, hml, hown, hts⟩ (c_X5_isYesOrNo l D cI cC cZ cS what) (va_cwS 1 hts gX5_harm_X5_isYesOrNo rfl rfl rfl (by decide +kernel) ⟨Nat.le_of_ble_eq_true rfl, Nat.le_of_ble_eq_true rfl⟩) (preS_of hPc hDc hE) rfl rfl hl.1 rfl (lv_room (Nat.le_of_ble_eq_true rfl)) dX5_harm_1 ⟨Nat.zero_le _, Nat.zero_le _⟩) ?_
  refine W.eq (g2 := F0 m 4 ls [.int (d_X5_isYesOrNo what)]) rfl ?_
  refine lv_if_ne (tgt := 9) hx hb dX5_harm_4 (by decide) (fun c_1 => ?_) (fun c_1 => ?_)
  · skip
    rw [if_neg c_1] at hres
    refine lv_aload_n hx hb dX5_harm_9 rfl (lv_at hl 0 rfl) ?_
    have hPc := hP.sub (ws' := (wXC cI cC cZ cS a b (F 1) (F 2) (F 3) (F 4) (F 11) tc)) [0, 1, 2, 3, 4, 11] rfl
    have hDc := hD.sub (ws' := (wXC cI cC cZ cS a b (F 1) (F 2) (F 3) (F 4) (F 11) tc)) [0, 1, 2, 3, 4, 11] (by decide) rfl
    refine m_callR (W.runV (As := []) (rest := []) ⟨hx, hb, hml, hown, hts⟩ (c_X5_ableNow l D cI cC cZ cS a b (F 1) (F 2) (F 3) (F 4) (F 11) tc n hn h7) (cwV 0 hts gX5_harm_X5_ableNow rfl rfl rfl (by decide +kernel) ⟨Nat.le_of_ble_eq_true rfl, Nat.le_of_ble_eq_true rfl⟩) (preV_of hPc hDc hE (va_recv hK hPc (ci := 5) (q0 := 0) rfl rfl)) rfl rfl hl.1 rfl (lv_room (Nat.le_of_ble_eq_true rfl)) dX5_harm_10 ⟨Nat.zero_le _, Nat.zero_le _⟩) ?_
    refine W.eq (g2 := F0 m 13 ls [.int (d_X5_ableNow (F 2) (F 4) (F 11) n)]) rfl ?_
    refine lv_istore_n (lv' := [(2, .int (d_X5_ableNow (F 2) (F 4) (F 11) n)), (0, .ref (a 0)), (1, .int what)]) hx hb dX5_harm_13 rfl hl (by decide) rfl (fun ls hl => ?_)
    refine lv_aload_n hx hb dX5_harm_14 rfl (lv_at hl 1 rfl) ?_
    refine va_get (D := D) (ci := 5) (v := .ref (a 1)) (C := RX5) (T := TX5) (N := 10) hx hb hts hinX5 hown hK hP 0 rfl rfl 0 (by decide) (hts (.fieldLink RX5 10 "FirstOut" "home" "LFirstOut$House;") (by decide +kernel)) (fun _ h9 => h9) rfl dX5_harm_15 ?_
    refine lv_iload_n hx hb dX5_harm_18 rfl (lv_at hl 0 rfl) ?_
    refine lv_aload_n hx hb dX5_harm_19 rfl (lv_at hl 1 rfl) ?_
    have hPc := hP.sub (ws' := (wXC cI cC cZ cS a b (F 1) (F 2) (F 3) (F 4) (F 11) tc)) [0, 1, 2, 3, 4, 11] rfl
    have hDc := hD.sub (ws' := (wXC cI cC cZ cS a b (F 1) (F 2) (F 3) (F 4) (F 11) tc)) [0, 1, 2, 3, 4, 11] (by decide) rfl
    refine m_callR (W.runV (As := []) (rest := [.int (d_X5_ableNow (F 2) (F 4) (F 11) n), .ref (a 1)]) ⟨hx, hb, hml, hown, hts⟩ (c_X5_coveredNow l D cI cC cZ cS a b (F 1) (F 2) (F 3) (F 4) (F 11) tc n hn h7) (cwV 0 hts gX5_harm_X5_coveredNow rfl rfl rfl (by decide +kernel) ⟨Nat.le_of_ble_eq_true rfl, Nat.le_of_ble_eq_true rfl⟩) (preV_of hPc hDc hE (va_recv hK hPc (ci := 5) (q0 := 0) rfl rfl)) rfl rfl hl.1 rfl (lv_room (Nat.le_of_ble_eq_true rfl)) dX5_harm_20 ⟨Nat.zero_le _, Nat.zero_le _⟩) ?_
    refine W.eq (g2 := F0 m 23 ls [.int (d_X5_coveredNow (F 2) (F 11) n), .int (d_X5_ableNow (F 2) (F 4) (F 11) n), .ref (a 1)]) rfl ?_
    have hPc := hP.sub (ws' := (wH cI cC cZ cS (a 1) (a 2) (a 3) (a 4) (F 1) (F 2) (F 3) (F 4))) [1, 2, 3, 4] rfl
    have hDc := hD.sub (ws' := (wH cI cC cZ cS (a 1) (a 2) (a 3) (a 4) (F 1) (F 2) (F 3) (F 4))) [1, 2, 3, 4] (by decide) rfl
    refine m_callR (W.runV (As := [.int (d_X5_ableNow (F 2) (F 4) (F 11) n), .int (d_X5_coveredNow (F 2) (F 11) n)]) (rest := []) ⟨hx, hb, hml, hown, hts⟩ (c_X0_harmUpper l D cI cC cZ cS (a 1) (a 2) (a 3) (a 4) (F 1) (F 2) (F 3) (F 4) (d_X5_ableNow (F 2) (F 4) (F 11) n) (d_X5_coveredNow (F 2) (F 11) n) n hn h7) (cwV 2 hts gX5_harm_X0_harmUpper rfl rfl rfl (by decide +kernel) ⟨Nat.le_of_ble_eq_true rfl, Nat.le_of_ble_eq_true rfl⟩) (preV_of hPc hDc hE (va_recv hK hPc (ci := 0) (q0 := 0) rfl rfl)) rfl rfl hl.1 rfl (lv_room (Nat.le_of_ble_eq_true rfl)) dX5_harm_23 ⟨Nat.zero_le _, Nat.zero_le _⟩) ?_
    refine W.eq (g2 := F0 m 26 ls [.int (d_X0_harmUpper (F 3) (F 4) (d_X5_ableNow (F 2) (F 4) (F 11) n) (d_X5_coveredNow (F 2) (F 11) n) n)]) rfl ?_
    refine lv_aload_n hx hb dX5_harm_26 rfl (lv_at hl 1 rfl) ?_
    refine va_get (D := D) (ci := 5) (v := .ref (a 1)) (C := RX5) (T := TX5) (N := 10) hx hb hts hinX5 hown hK hP 0 rfl rfl 0 (by decide) (hts (.fieldLink RX5 10 "FirstOut" "home" "LFirstOut$House;") (by decide +kernel)) (fun _ h9 => h9) rfl dX5_harm_27 ?_
    refine lv_iload_n hx hb dX5_harm_30 rfl (lv_at hl 0 rfl) ?_
    have hPc := hP.sub (ws' := (wH cI cC cZ cS (a 1) (a 2) (a 3) (a 4) (F 1) (F 2) (F 3) (F 4))) [1, 2, 3, 4] rfl
    have hDc := hD.sub (ws' := (wH cI cC cZ cS (a 1) (a 2) (a 3) (a 4) (F 1) (F 2) (F 3) (F 4))) [1, 2, 3, 4] (by decide) rfl
    refine m_callR (W.runV (As := [.int (d_X5_ableNow (F 2) (F 4) (F 11) n)]) (rest := [.int (d_X0_harmUpper (F 3) (F 4) (d_X5_ableNow (F 2) (F 4) (F 11) n) (d_X5_coveredNow (F 2) (F 11) n) n)]) ⟨hx, hb, hml, hown, hts⟩ (c_X0_shares l D cI cC cZ cS (a 1) (a 2) (a 3) (a 4) (F 1) (F 2) (F 3) (F 4) (d_X5_ableNow (F 2) (F 4) (F 11) n) n hn h7) (cwV 1 hts gX5_harm_X0_shares rfl rfl rfl (by decide +kernel) ⟨Nat.le_of_ble_eq_true rfl, Nat.le_of_ble_eq_true rfl⟩) (preV_of hPc hDc hE (va_recv hK hPc (ci := 0) (q0 := 0) rfl rfl)) rfl rfl hl.1 rfl (lv_room (Nat.le_of_ble_eq_true rfl)) dX5_harm_31 ⟨Nat.zero_le _, Nat.zero_le _⟩) ?_
    refine W.eq (g2 := F0 m 34 ls [.int (d_X0_shares (F 4) (d_X5_ableNow (F 2) (F 4) (F 11) n) n), .int (d_X0_harmUpper (F 3) (F 4) (d_X5_ableNow (F 2) (F 4) (F 11) n) (d_X5_coveredNow (F 2) (F 11) n) n)]) rfl ?_
    refine lv_iload_n hx hb dX5_harm_34 rfl (lv_at hl 2 rfl) ?_
    have hPc := hP.sub (ws' := []) [] rfl
    have hDc := hD.sub (ws' := []) [] (by decide) rfl
    refine m_callR (W.runS (As := [.int (d_X0_harmUpper (F 3) (F 4) (d_X5_ableNow (F 2) (F 4) (F 11) n) (d_X5_coveredNow (F 2) (F 11) n) n), .int (d_X0_shares (F 4) (d_X5_ableNow (F 2) (F 4) (F 11) n) n), .int what]) (rest := []) ⟨hx, hb, hml, hown, hts⟩ (c_X5_partOf l D cI cC cZ cS (d_X0_harmUpper (F 3) (F 4) (d_X5_ableNow (F 2) (F 4) (F 11) n) (d_X5_coveredNow (F 2) (F 11) n) n) (d_X0_shares (F 4) (d_X5_ableNow (F 2) (F 4) (F 11) n) n) what) (va_cwS 3 hts gX5_harm_X5_partOf rfl rfl rfl (by decide +kernel) ⟨Nat.le_of_ble_eq_true rfl, Nat.le_of_ble_eq_true rfl⟩) (preS_of hPc hDc hE) rfl rfl hl.1 rfl (lv_room (Nat.le_of_ble_eq_true rfl)) dX5_harm_35 ⟨Nat.zero_le _, Nat.zero_le _⟩) ?_
    refine W.eq (g2 := F0 m 38 ls [.int (d_X5_partOf (d_X0_harmUpper (F 3) (F 4) (d_X5_ableNow (F 2) (F 4) (F 11) n) (d_X5_coveredNow (F 2) (F 11) n) n) (d_X0_shares (F 4) (d_X5_ableNow (F 2) (F 4) (F 11) n) n) what)]) rfl ?_
    rw [hres]
    exact W.iret (v := d_X5_partOf (d_X0_harmUpper (F 3) (F 4) (d_X5_ableNow (F 2) (F 4) (F 11) n) (d_X5_coveredNow (F 2) (F 11) n) n) (d_X0_shares (F 4) (d_X5_ableNow (F 2) (F 4) (F 11) n) n) what) hx hb hr (fun t ht hW => ⟨rfl, ht⟩) (fun _ h => by cases h) dX5_harm_38
  · skip
    rw [if_pos c_1] at hres
    refine lv_iconst (v := (-1)) hx hb dX5_harm_7 (by decide) ?_
    rw [hres]
    exact W.iret (v := (-1)) hx hb hr (fun t ht hW => ⟨rfl, ht⟩) (fun _ h => by cases h) dX5_harm_8
def d_X5_odds (F : Nat → Nat → Int32) (t : Int32) (what : Int32) (n : Nat) : Int32 :=
  if (d_X0_holds (F 1) t) = 0 then
      (-1)
    else
      if (d_X5_isYesOrNo what) = 0 then
        (-1)
      else
        if (d_X5_bitOf (d_X5_ableNow (F 2) (F 4) (F 11) n) t) = (1 : Int32) then
          d_X5_partOf (F 4 t.toNatClampNeg) (d_X0_shares (F 4) (d_X5_ableNow (F 2) (F 4) (F 11) n) n) what
        else
          d_X5_partOf 0 (d_X0_shares (F 4) (d_X5_ableNow (F 2) (F 4) (F 11) n) n) what
set_option maxHeartbeats 4000000 in
set_option maxRecDepth 100000 in
theorem c_X5_odds (l : Launch) (D : va_G) (cI cC cZ cS : ClassId) (a : Nat → Nat) (b : Nat → Nat) (F : Nat → Nat → Int32) (tc : Int64) (t : Int32) (what : Int32) (n : Nat) (hn : F 1 3 = nI n) (h7 : n ≤ 7) : Met l yX5_odds wsX5_odds { frames := 4, cells := 0, slots := 0, locals := 88 } (PcE D cI cC cZ cS [.ref (a 0), .int t, .int what] (wF cI cC cZ cS a b F tc)) (QcR (some (.int (d_X5_odds F t what n)))) 0 0 (fun _ => False) := by
  refine Met.ofW (cc := cX5_odds) (maxL := 5) (ret := (some .int)) (by decide) rfl ?_
  intro p e s m args below meth c s₁ B hml hv
  obtain ⟨rfl, hP, hD, hE⟩ := hv
  have hK := hE.1
  have hx := B.exec
  have hb := B.bytes
  have hr := B.returns
  have hts := atoms_spec (ws := wsX5_odds) B.pre
  have hown : s.vm.findClass RX5 = some m.cls := findClass_of_methodNamed B.named
  have hlocks := B.notSynchronized
  have hinX5 : ∀ w ∈ wsX50, w ∈ wsX5_odds := by decide +kernel
  have hinX0 : ∀ w ∈ wsX00, w ∈ wsX5_odds := by decide +kernel
  refine opq (d_X5_odds F t what n) (fun R hres => ?_)
  rw [hres]
  replace hres := hres.symm
  rw [d_X5_odds] at hres
  have hl := lv_entry ([.ref (a 0), .int t, .int what]) (n := 5) (Nat.le_of_ble_eq_true rfl)
  rw [lg_entry_eq]
  generalize (lg_sl ([.ref (a 0), .int t, .int what]) ++ List.replicate (5 - (lg_sl ([.ref (a 0), .int t, .int what])).length) Slot.unset).toArray = ls at hl ⊢
  have hl : lv_has ls 5 [(0, .ref (a 0)), (1, .int t), (2, .int what)] := hl
  refine lv_aload_n hx hb dX5_odds_0 rfl (lv_at hl 0 rfl) ?_
  refine va_get (D := D) (ci := 5) (v := .ref (a 1)) (C := RX5) (T := TX5) (N := 10) hx hb hts hinX5 hown hK hP 0 rfl rfl 0 (by decide) (hts (.fieldLink RX5 10 "FirstOut" "home" "LFirstOut$House;") (by decide +kernel)) (fun _ h9 => h9) rfl dX5_odds_1 ?_
  refine lv_iload_n hx hb dX5_odds_4 rfl (lv_at hl 1 rfl) ?_
  have hPc := hP.sub (ws' := (wH cI cC cZ cS (a 1) (a 2) (a 3) (a 4) (F 1) (F 2) (F 3) (F 4))) [1, 2, 3, 4] rfl
  have hDc := hD.sub (ws' := (wH cI cC cZ cS (a 1) (a 2) (a 3) (a 4) (F 1) (F 2) (F 3) (F 4))) [1, 2, 3, 4] (by decide) rfl
  refine m_callR (W.runV (As := [.int t]) (rest := []) ⟨hx, hb, hml, hown, hts⟩ (c_X0_holds l D cI cC cZ cS (a 1) (a 2) (a 3) (a 4) (F 1) (F 2) (F 3) (F 4) t) (cwV 1 hts gX5_odds_X0_holds rfl rfl rfl (by decide +kernel) ⟨Nat.le_of_ble_eq_true rfl, Nat.le_of_ble_eq_true rfl⟩) (preV_of hPc hDc hE (va_recv hK hPc (ci := 0) (q0 := 0) rfl rfl)) rfl rfl hl.1 rfl (lv_room (Nat.le_of_ble_eq_true rfl)) dX5_odds_5 ⟨Nat.zero_le _, Nat.zero_le _⟩) ?_
  refine W.eq (g2 := F0 m 8 ls [.int (d_X0_holds (F 1) t)]) rfl ?_
  refine lv_if_eq (tgt := 18) hx hb dX5_odds_8 (by decide) (fun c_1 => ?_) (fun c_1 => ?_)
  · skip
    rw [if_pos c_1] at hres
    refine lv_iconst (v := (-1)) hx hb dX5_odds_18 (by decide) ?_
    rw [hres]
    exact W.iret (v := (-1)) hx hb hr (fun t ht hW => ⟨rfl, ht⟩) (fun _ h => by cases h) dX5_odds_19
  · skip
    rw [if_neg c_1] at hres
    have ti := holds_ok c_1 hn h7
    refine lv_iload_n hx hb dX5_odds_11 rfl (lv_at hl 2 rfl) ?_
    have hPc := hP.sub (ws' := []) [] rfl
    have hDc := hD.sub (ws' := []) [] (by decide) rfl
    refine m_callR (W.runS (As := [.int what]) (rest := []) ⟨hx, hb, hml, hown, hts⟩ (c_X5_isYesOrNo l D cI cC cZ cS what) (va_cwS 1 hts gX5_odds_X5_isYesOrNo rfl rfl rfl (by decide +kernel) ⟨Nat.le_of_ble_eq_true rfl, Nat.le_of_ble_eq_true rfl⟩) (preS_of hPc hDc hE) rfl rfl hl.1 rfl (lv_room (Nat.le_of_ble_eq_true rfl)) dX5_odds_12 ⟨Nat.zero_le _, Nat.zero_le _⟩) ?_
    refine W.eq (g2 := F0 m 15 ls [.int (d_X5_isYesOrNo what)]) rfl ?_
    refine lv_if_ne (tgt := 20) hx hb dX5_odds_15 (by decide) (fun c_2 => ?_) (fun c_2 => ?_)
    · skip
      rw [if_neg c_2] at hres
      refine lv_aload_n hx hb dX5_odds_20 rfl (lv_at hl 0 rfl) ?_
      have hPc := hP.sub (ws' := (wXC cI cC cZ cS a b (F 1) (F 2) (F 3) (F 4) (F 11) tc)) [0, 1, 2, 3, 4, 11] rfl
      have hDc := hD.sub (ws' := (wXC cI cC cZ cS a b (F 1) (F 2) (F 3) (F 4) (F 11) tc)) [0, 1, 2, 3, 4, 11] (by decide) rfl
      refine m_callR (W.runV (As := []) (rest := []) ⟨hx, hb, hml, hown, hts⟩ (c_X5_ableNow l D cI cC cZ cS a b (F 1) (F 2) (F 3) (F 4) (F 11) tc n hn h7) (cwV 0 hts gX5_odds_X5_ableNow rfl rfl rfl (by decide +kernel) ⟨Nat.le_of_ble_eq_true rfl, Nat.le_of_ble_eq_true rfl⟩) (preV_of hPc hDc hE (va_recv hK hPc (ci := 5) (q0 := 0) rfl rfl)) rfl rfl hl.1 rfl (lv_room (Nat.le_of_ble_eq_true rfl)) dX5_odds_21 ⟨Nat.zero_le _, Nat.zero_le _⟩) ?_
      refine W.eq (g2 := F0 m 24 ls [.int (d_X5_ableNow (F 2) (F 4) (F 11) n)]) rfl ?_
      refine lv_istore_n (lv' := [(3, .int (d_X5_ableNow (F 2) (F 4) (F 11) n)), (0, .ref (a 0)), (1, .int t), (2, .int what)]) hx hb dX5_odds_24 rfl hl (by decide) rfl (fun ls hl => ?_)
      refine lv_iload_n hx hb dX5_odds_25 rfl (lv_at hl 0 rfl) ?_
      refine lv_iload_n hx hb dX5_odds_26 rfl (lv_at hl 2 rfl) ?_
      have hPc := hP.sub (ws' := []) [] rfl
      have hDc := hD.sub (ws' := []) [] (by decide) rfl
      refine m_callR (W.runS (As := [.int (d_X5_ableNow (F 2) (F 4) (F 11) n), .int t]) (rest := []) ⟨hx, hb, hml, hown, hts⟩ (c_X5_bitOf l D cI cC cZ cS (d_X5_ableNow (F 2) (F 4) (F 11) n) t) (va_cwS 2 hts gX5_odds_X5_bitOf rfl rfl rfl (by decide +kernel) ⟨Nat.le_of_ble_eq_true rfl, Nat.le_of_ble_eq_true rfl⟩) (preS_of hPc hDc hE) rfl rfl hl.1 rfl (lv_room (Nat.le_of_ble_eq_true rfl)) dX5_odds_27 ⟨Nat.zero_le _, Nat.zero_le _⟩) ?_
      refine W.eq (g2 := F0 m 30 ls [.int (d_X5_bitOf (d_X5_ableNow (F 2) (F 4) (F 11) n) t)]) rfl ?_
      refine lv_iconst (v := 1) hx hb dX5_odds_30 (by decide) ?_
      refine lv_icmp_ne (tgt := 46) hx hb dX5_odds_31 (by decide) (fun c_3 => ?_) (fun c_3 => ?_)
      · skip
        rw [if_neg c_3] at hres
        refine lv_iconst (v := 0) hx hb dX5_odds_46 (by decide) ?_
        refine lv_istore (lv' := [(4, .int 0), (3, .int (d_X5_ableNow (F 2) (F 4) (F 11) n)), (0, .ref (a 0)), (1, .int t), (2, .int what)]) hx hb dX5_odds_47 hl (by decide) rfl (fun ls hl => ?_)
        refine lv_iload hx hb dX5_odds_49 (lv_at hl 0 rfl) ?_
        refine lv_aload_n hx hb dX5_odds_51 rfl (lv_at hl 2 rfl) ?_
        refine va_get (D := D) (ci := 5) (v := .ref (a 1)) (C := RX5) (T := TX5) (N := 10) hx hb hts hinX5 hown hK hP 0 rfl rfl 0 (by decide) (hts (.fieldLink RX5 10 "FirstOut" "home" "LFirstOut$House;") (by decide +kernel)) (fun _ h9 => h9) rfl dX5_odds_52 ?_
        refine lv_iload_n hx hb dX5_odds_55 rfl (lv_at hl 1 rfl) ?_
        have hPc := hP.sub (ws' := (wH cI cC cZ cS (a 1) (a 2) (a 3) (a 4) (F 1) (F 2) (F 3) (F 4))) [1, 2, 3, 4] rfl
        have hDc := hD.sub (ws' := (wH cI cC cZ cS (a 1) (a 2) (a 3) (a 4) (F 1) (F 2) (F 3) (F 4))) [1, 2, 3, 4] (by decide) rfl
        refine m_callR (W.runV (As := [.int (d_X5_ableNow (F 2) (F 4) (F 11) n)]) (rest := [.int 0]) ⟨hx, hb, hml, hown, hts⟩ (c_X0_shares l D cI cC cZ cS (a 1) (a 2) (a 3) (a 4) (F 1) (F 2) (F 3) (F 4) (d_X5_ableNow (F 2) (F 4) (F 11) n) n hn h7) (cwV 1 hts gX5_odds_X0_shares rfl rfl rfl (by decide +kernel) ⟨Nat.le_of_ble_eq_true rfl, Nat.le_of_ble_eq_true rfl⟩) (preV_of hPc hDc hE (va_recv hK hPc (ci := 0) (q0 := 0) rfl rfl)) rfl rfl hl.1 rfl (lv_room (Nat.le_of_ble_eq_true rfl)) dX5_odds_56 ⟨Nat.zero_le _, Nat.zero_le _⟩) ?_
        refine W.eq (g2 := F0 m 59 ls [.int (d_X0_shares (F 4) (d_X5_ableNow (F 2) (F 4) (F 11) n) n), .int 0]) rfl ?_
        refine lv_iload_n hx hb dX5_odds_59 rfl (lv_at hl 4 rfl) ?_
        have hPc := hP.sub (ws' := []) [] rfl
        have hDc := hD.sub (ws' := []) [] (by decide) rfl
        refine m_callR (W.runS (As := [.int 0, .int (d_X0_shares (F 4) (d_X5_ableNow (F 2) (F 4) (F 11) n) n), .int what]) (rest := []) ⟨hx, hb, hml, hown, hts⟩ (c_X5_partOf l D cI cC cZ cS 0 (d_X0_shares (F 4) (d_X5_ableNow (F 2) (F 4) (F 11) n) n) what) (va_cwS 3 hts gX5_odds_X5_partOf rfl rfl rfl (by decide +kernel) ⟨Nat.le_of_ble_eq_true rfl, Nat.le_of_ble_eq_true rfl⟩) (preS_of hPc hDc hE) rfl rfl hl.1 rfl (lv_room (Nat.le_of_ble_eq_true rfl)) dX5_odds_60 ⟨Nat.zero_le _, Nat.zero_le _⟩) ?_
        refine W.eq (g2 := F0 m 63 ls [.int (d_X5_partOf 0 (d_X0_shares (F 4) (d_X5_ableNow (F 2) (F 4) (F 11) n) n) what)]) rfl ?_
        rw [hres]
        exact W.iret (v := d_X5_partOf 0 (d_X0_shares (F 4) (d_X5_ableNow (F 2) (F 4) (F 11) n) n) what) hx hb hr (fun t ht hW => ⟨rfl, ht⟩) (fun _ h => by cases h) dX5_odds_63
      · skip
        rw [if_pos c_3] at hres
        refine lv_aload_n hx hb dX5_odds_34 rfl (lv_at hl 1 rfl) ?_
        refine va_get (D := D) (ci := 5) (v := .ref (a 1)) (C := RX5) (T := TX5) (N := 10) hx hb hts hinX5 hown hK hP 0 rfl rfl 0 (by decide) (hts (.fieldLink RX5 10 "FirstOut" "home" "LFirstOut$House;") (by decide +kernel)) (fun _ h9 => h9) rfl dX5_odds_35 ?_
        refine va_get (D := D) (ci := 0) (v := .ref (a 4)) (C := RX0) (T := TX0) (N := 9) hx hb hts hinX0 hown hK hP 1 rfl rfl 2 (by decide) (hts (.fieldLink RX5 87 "FirstOut$House" "eager" "[I") (by decide +kernel)) (fun _ h9 => h9) rfl dX5_odds_38 ?_
        refine lv_iload_n hx hb dX5_odds_41 rfl (lv_at hl 2 rfl) ?_
        refine m_iald hx hb hK hP 4 0 rfl rfl t.toNatClampNeg ti.1 (by have := ti.2; omega) (by decide) dX5_odds_42 ?_
        refine lv_to (show _ = (F 4 t.toNatClampNeg) from rfl) ?_
        refine lv_goto (tgt := 47) hx hb dX5_odds_43 (by decide) ?_
        refine lv_istore (lv' := [(4, .int (F 4 t.toNatClampNeg)), (3, .int (d_X5_ableNow (F 2) (F 4) (F 11) n)), (0, .ref (a 0)), (1, .int t), (2, .int what)]) hx hb dX5_odds_47 hl (by decide) rfl (fun ls hl => ?_)
        refine lv_iload hx hb dX5_odds_49 (lv_at hl 0 rfl) ?_
        refine lv_aload_n hx hb dX5_odds_51 rfl (lv_at hl 2 rfl) ?_
        refine va_get (D := D) (ci := 5) (v := .ref (a 1)) (C := RX5) (T := TX5) (N := 10) hx hb hts hinX5 hown hK hP 0 rfl rfl 0 (by decide) (hts (.fieldLink RX5 10 "FirstOut" "home" "LFirstOut$House;") (by decide +kernel)) (fun _ h9 => h9) rfl dX5_odds_52 ?_
        refine lv_iload_n hx hb dX5_odds_55 rfl (lv_at hl 1 rfl) ?_
        have hPc := hP.sub (ws' := (wH cI cC cZ cS (a 1) (a 2) (a 3) (a 4) (F 1) (F 2) (F 3) (F 4))) [1, 2, 3, 4] rfl
        have hDc := hD.sub (ws' := (wH cI cC cZ cS (a 1) (a 2) (a 3) (a 4) (F 1) (F 2) (F 3) (F 4))) [1, 2, 3, 4] (by decide) rfl
        refine m_callR (W.runV (As := [.int (d_X5_ableNow (F 2) (F 4) (F 11) n)]) (rest := [.int (F 4 t.toNatClampNeg)]) ⟨hx, hb, hml, hown, hts⟩ (c_X0_shares l D cI cC cZ cS (a 1) (a 2) (a 3) (a 4) (F 1) (F 2) (F 3) (F 4) (d_X5_ableNow (F 2) (F 4) (F 11) n) n hn h7) (cwV 1 hts gX5_odds_X0_shares rfl rfl rfl (by decide +kernel) ⟨Nat.le_of_ble_eq_true rfl, Nat.le_of_ble_eq_true rfl⟩) (preV_of hPc hDc hE (va_recv hK hPc (ci := 0) (q0 := 0) rfl rfl)) rfl rfl hl.1 rfl (lv_room (Nat.le_of_ble_eq_true rfl)) dX5_odds_56 ⟨Nat.zero_le _, Nat.zero_le _⟩) ?_
        refine W.eq (g2 := F0 m 59 ls [.int (d_X0_shares (F 4) (d_X5_ableNow (F 2) (F 4) (F 11) n) n), .int (F 4 t.toNatClampNeg)]) rfl ?_
        refine lv_iload_n hx hb dX5_odds_59 rfl (lv_at hl 4 rfl) ?_
        have hPc := hP.sub (ws' := []) [] rfl
        have hDc := hD.sub (ws' := []) [] (by decide) rfl
        refine m_callR (W.runS (As := [.int (F 4 t.toNatClampNeg), .int (d_X0_shares (F 4) (d_X5_ableNow (F 2) (F 4) (F 11) n) n), .int what]) (rest := []) ⟨hx, hb, hml, hown, hts⟩ (c_X5_partOf l D cI cC cZ cS (F 4 t.toNatClampNeg) (d_X0_shares (F 4) (d_X5_ableNow (F 2) (F 4) (F 11) n) n) what) (va_cwS 3 hts gX5_odds_X5_partOf rfl rfl rfl (by decide +kernel) ⟨Nat.le_of_ble_eq_true rfl, Nat.le_of_ble_eq_true rfl⟩) (preS_of hPc hDc hE) rfl rfl hl.1 rfl (lv_room (Nat.le_of_ble_eq_true rfl)) dX5_odds_60 ⟨Nat.zero_le _, Nat.zero_le _⟩) ?_
        refine W.eq (g2 := F0 m 63 ls [.int (d_X5_partOf (F 4 t.toNatClampNeg) (d_X0_shares (F 4) (d_X5_ableNow (F 2) (F 4) (F 11) n) n) what)]) rfl ?_
        rw [hres]
        exact W.iret (v := d_X5_partOf (F 4 t.toNatClampNeg) (d_X0_shares (F 4) (d_X5_ableNow (F 2) (F 4) (F 11) n) n) what) hx hb hr (fun t ht hW => ⟨rfl, ht⟩) (fun _ h => by cases h) dX5_odds_63
    · skip
      rw [if_pos c_2] at hres
      refine lv_iconst (v := (-1)) hx hb dX5_odds_18 (by decide) ?_
      rw [hres]
      exact W.iret (v := (-1)) hx hb hr (fun t ht hW => ⟨rfl, ht⟩) (fun _ h => by cases h) dX5_odds_19
def d_X5_swear (F : Nat → Nat → Int32) (what : Int32) (n : Nat) : Int32 :=
  if (d_X5_isYesOrNo what) = 0 then
      (-1000000)
    else
      d_X5_partOf ((((F 1 7) * (F 1 8)) * (d_X0_shares (F 4) (d_X5_ableNow (F 2) (F 4) (F 11) n) n)) - (((F 1 6) + (F 1 7)) * (d_X0_harmUpper (F 3) (F 4) (d_X5_ableNow (F 2) (F 4) (F 11) n) (d_X5_coveredNow (F 2) (F 11) n) n))) ((10 : Int32) * (d_X0_shares (F 4) (d_X5_ableNow (F 2) (F 4) (F 11) n) n)) what
set_option maxHeartbeats 4000000 in
set_option maxRecDepth 100000 in
theorem c_X5_swear (l : Launch) (D : va_G) (cI cC cZ cS : ClassId) (a : Nat → Nat) (b : Nat → Nat) (F : Nat → Nat → Int32) (tc : Int64) (what : Int32) (n : Nat) (hn : F 1 3 = nI n) (h7 : n ≤ 7) : Met l yX5_swear wsX5_swear { frames := 4, cells := 0, slots := 0, locals := 88 } (PcE D cI cC cZ cS [.ref (a 0), .int what] (wF cI cC cZ cS a b F tc)) (QcR (some (.int (d_X5_swear F what n)))) 0 0 (fun _ => False) := by
  refine Met.ofW (cc := cX5_swear) (maxL := 7) (ret := (some .int)) (by decide) rfl ?_
  intro p e s m args below meth c s₁ B hml hv
  obtain ⟨rfl, hP, hD, hE⟩ := hv
  have hK := hE.1
  have hx := B.exec
  have hb := B.bytes
  have hr := B.returns
  have hts := atoms_spec (ws := wsX5_swear) B.pre
  have hown : s.vm.findClass RX5 = some m.cls := findClass_of_methodNamed B.named
  have hlocks := B.notSynchronized
  have hinX5 : ∀ w ∈ wsX50, w ∈ wsX5_swear := by decide +kernel
  have hinX0 : ∀ w ∈ wsX00, w ∈ wsX5_swear := by decide +kernel
  refine opq (d_X5_swear F what n) (fun R hres => ?_)
  rw [hres]
  replace hres := hres.symm
  rw [d_X5_swear] at hres
  have hl := lv_entry ([.ref (a 0), .int what]) (n := 7) (Nat.le_of_ble_eq_true rfl)
  rw [lg_entry_eq]
  generalize (lg_sl ([.ref (a 0), .int what]) ++ List.replicate (7 - (lg_sl ([.ref (a 0), .int what])).length) Slot.unset).toArray = ls at hl ⊢
  have hl : lv_has ls 7 [(0, .ref (a 0)), (1, .int what)] := hl
  refine lv_iload_n hx hb dX5_swear_0 rfl (lv_at hl 1 rfl) ?_
  have hPc := hP.sub (ws' := []) [] rfl
  have hDc := hD.sub (ws' := []) [] (by decide) rfl
  refine m_callR (W.runS (As := [.int what]) (rest := []) ⟨hx, hb, hml, hown, hts⟩ (c_X5_isYesOrNo l D cI cC cZ cS what) (va_cwS 1 hts gX5_swear_X5_isYesOrNo rfl rfl rfl (by decide +kernel) ⟨Nat.le_of_ble_eq_true rfl, Nat.le_of_ble_eq_true rfl⟩) (preS_of hPc hDc hE) rfl rfl hl.1 rfl (lv_room (Nat.le_of_ble_eq_true rfl)) dX5_swear_1 ⟨Nat.zero_le _, Nat.zero_le _⟩) ?_
  refine W.eq (g2 := F0 m 4 ls [.int (d_X5_isYesOrNo what)]) rfl ?_
  refine lv_if_ne (tgt := 10) hx hb dX5_swear_4 (by decide) (fun c_1 => ?_) (fun c_1 => ?_)
  · skip
    rw [if_neg c_1] at hres
    refine lv_aload_n hx hb dX5_swear_10 rfl (lv_at hl 0 rfl) ?_
    have hPc := hP.sub (ws' := (wXC cI cC cZ cS a b (F 1) (F 2) (F 3) (F 4) (F 11) tc)) [0, 1, 2, 3, 4, 11] rfl
    have hDc := hD.sub (ws' := (wXC cI cC cZ cS a b (F 1) (F 2) (F 3) (F 4) (F 11) tc)) [0, 1, 2, 3, 4, 11] (by decide) rfl
    refine m_callR (W.runV (As := []) (rest := []) ⟨hx, hb, hml, hown, hts⟩ (c_X5_ableNow l D cI cC cZ cS a b (F 1) (F 2) (F 3) (F 4) (F 11) tc n hn h7) (cwV 0 hts gX5_swear_X5_ableNow rfl rfl rfl (by decide +kernel) ⟨Nat.le_of_ble_eq_true rfl, Nat.le_of_ble_eq_true rfl⟩) (preV_of hPc hDc hE (va_recv hK hPc (ci := 5) (q0 := 0) rfl rfl)) rfl rfl hl.1 rfl (lv_room (Nat.le_of_ble_eq_true rfl)) dX5_swear_11 ⟨Nat.zero_le _, Nat.zero_le _⟩) ?_
    refine W.eq (g2 := F0 m 14 ls [.int (d_X5_ableNow (F 2) (F 4) (F 11) n)]) rfl ?_
    refine lv_istore_n (lv' := [(2, .int (d_X5_ableNow (F 2) (F 4) (F 11) n)), (0, .ref (a 0)), (1, .int what)]) hx hb dX5_swear_14 rfl hl (by decide) rfl (fun ls hl => ?_)
    refine lv_aload_n hx hb dX5_swear_15 rfl (lv_at hl 1 rfl) ?_
    refine va_get (D := D) (ci := 5) (v := .ref (a 1)) (C := RX5) (T := TX5) (N := 10) hx hb hts hinX5 hown hK hP 0 rfl rfl 0 (by decide) (hts (.fieldLink RX5 10 "FirstOut" "home" "LFirstOut$House;") (by decide +kernel)) (fun _ h9 => h9) rfl dX5_swear_16 ?_
    refine lv_iload_n hx hb dX5_swear_19 rfl (lv_at hl 0 rfl) ?_
    refine lv_aload_n hx hb dX5_swear_20 rfl (lv_at hl 1 rfl) ?_
    have hPc := hP.sub (ws' := (wXC cI cC cZ cS a b (F 1) (F 2) (F 3) (F 4) (F 11) tc)) [0, 1, 2, 3, 4, 11] rfl
    have hDc := hD.sub (ws' := (wXC cI cC cZ cS a b (F 1) (F 2) (F 3) (F 4) (F 11) tc)) [0, 1, 2, 3, 4, 11] (by decide) rfl
    refine m_callR (W.runV (As := []) (rest := [.int (d_X5_ableNow (F 2) (F 4) (F 11) n), .ref (a 1)]) ⟨hx, hb, hml, hown, hts⟩ (c_X5_coveredNow l D cI cC cZ cS a b (F 1) (F 2) (F 3) (F 4) (F 11) tc n hn h7) (cwV 0 hts gX5_swear_X5_coveredNow rfl rfl rfl (by decide +kernel) ⟨Nat.le_of_ble_eq_true rfl, Nat.le_of_ble_eq_true rfl⟩) (preV_of hPc hDc hE (va_recv hK hPc (ci := 5) (q0 := 0) rfl rfl)) rfl rfl hl.1 rfl (lv_room (Nat.le_of_ble_eq_true rfl)) dX5_swear_21 ⟨Nat.zero_le _, Nat.zero_le _⟩) ?_
    refine W.eq (g2 := F0 m 24 ls [.int (d_X5_coveredNow (F 2) (F 11) n), .int (d_X5_ableNow (F 2) (F 4) (F 11) n), .ref (a 1)]) rfl ?_
    have hPc := hP.sub (ws' := (wH cI cC cZ cS (a 1) (a 2) (a 3) (a 4) (F 1) (F 2) (F 3) (F 4))) [1, 2, 3, 4] rfl
    have hDc := hD.sub (ws' := (wH cI cC cZ cS (a 1) (a 2) (a 3) (a 4) (F 1) (F 2) (F 3) (F 4))) [1, 2, 3, 4] (by decide) rfl
    refine m_callR (W.runV (As := [.int (d_X5_ableNow (F 2) (F 4) (F 11) n), .int (d_X5_coveredNow (F 2) (F 11) n)]) (rest := []) ⟨hx, hb, hml, hown, hts⟩ (c_X0_harmUpper l D cI cC cZ cS (a 1) (a 2) (a 3) (a 4) (F 1) (F 2) (F 3) (F 4) (d_X5_ableNow (F 2) (F 4) (F 11) n) (d_X5_coveredNow (F 2) (F 11) n) n hn h7) (cwV 2 hts gX5_swear_X0_harmUpper rfl rfl rfl (by decide +kernel) ⟨Nat.le_of_ble_eq_true rfl, Nat.le_of_ble_eq_true rfl⟩) (preV_of hPc hDc hE (va_recv hK hPc (ci := 0) (q0 := 0) rfl rfl)) rfl rfl hl.1 rfl (lv_room (Nat.le_of_ble_eq_true rfl)) dX5_swear_24 ⟨Nat.zero_le _, Nat.zero_le _⟩) ?_
    refine W.eq (g2 := F0 m 27 ls [.int (d_X0_harmUpper (F 3) (F 4) (d_X5_ableNow (F 2) (F 4) (F 11) n) (d_X5_coveredNow (F 2) (F 11) n) n)]) rfl ?_
    refine lv_istore_n (lv' := [(3, .int (d_X0_harmUpper (F 3) (F 4) (d_X5_ableNow (F 2) (F 4) (F 11) n) (d_X5_coveredNow (F 2) (F 11) n) n)), (2, .int (d_X5_ableNow (F 2) (F 4) (F 11) n)), (0, .ref (a 0)), (1, .int what)]) hx hb dX5_swear_27 rfl hl (by decide) rfl (fun ls hl => ?_)
    refine lv_aload_n hx hb dX5_swear_28 rfl (lv_at hl 2 rfl) ?_
    refine va_get (D := D) (ci := 5) (v := .ref (a 1)) (C := RX5) (T := TX5) (N := 10) hx hb hts hinX5 hown hK hP 0 rfl rfl 0 (by decide) (hts (.fieldLink RX5 10 "FirstOut" "home" "LFirstOut$House;") (by decide +kernel)) (fun _ h9 => h9) rfl dX5_swear_29 ?_
    refine lv_iload_n hx hb dX5_swear_32 rfl (lv_at hl 1 rfl) ?_
    have hPc := hP.sub (ws' := (wH cI cC cZ cS (a 1) (a 2) (a 3) (a 4) (F 1) (F 2) (F 3) (F 4))) [1, 2, 3, 4] rfl
    have hDc := hD.sub (ws' := (wH cI cC cZ cS (a 1) (a 2) (a 3) (a 4) (F 1) (F 2) (F 3) (F 4))) [1, 2, 3, 4] (by decide) rfl
    refine m_callR (W.runV (As := [.int (d_X5_ableNow (F 2) (F 4) (F 11) n)]) (rest := []) ⟨hx, hb, hml, hown, hts⟩ (c_X0_shares l D cI cC cZ cS (a 1) (a 2) (a 3) (a 4) (F 1) (F 2) (F 3) (F 4) (d_X5_ableNow (F 2) (F 4) (F 11) n) n hn h7) (cwV 1 hts gX5_swear_X0_shares rfl rfl rfl (by decide +kernel) ⟨Nat.le_of_ble_eq_true rfl, Nat.le_of_ble_eq_true rfl⟩) (preV_of hPc hDc hE (va_recv hK hPc (ci := 0) (q0 := 0) rfl rfl)) rfl rfl hl.1 rfl (lv_room (Nat.le_of_ble_eq_true rfl)) dX5_swear_33 ⟨Nat.zero_le _, Nat.zero_le _⟩) ?_
    refine W.eq (g2 := F0 m 36 ls [.int (d_X0_shares (F 4) (d_X5_ableNow (F 2) (F 4) (F 11) n) n)]) rfl ?_
    refine lv_istore (lv' := [(4, .int (d_X0_shares (F 4) (d_X5_ableNow (F 2) (F 4) (F 11) n) n)), (3, .int (d_X0_harmUpper (F 3) (F 4) (d_X5_ableNow (F 2) (F 4) (F 11) n) (d_X5_coveredNow (F 2) (F 11) n) n)), (2, .int (d_X5_ableNow (F 2) (F 4) (F 11) n)), (0, .ref (a 0)), (1, .int what)]) hx hb dX5_swear_36 hl (by decide) rfl (fun ls hl => ?_)
    refine lv_aload_n hx hb dX5_swear_38 rfl (lv_at hl 3 rfl) ?_
    refine va_get (D := D) (ci := 5) (v := .ref (a 1)) (C := RX5) (T := TX5) (N := 10) hx hb hts hinX5 hown hK hP 0 rfl rfl 0 (by decide) (hts (.fieldLink RX5 10 "FirstOut" "home" "LFirstOut$House;") (by decide +kernel)) (fun _ h9 => h9) rfl dX5_swear_39 ?_
    refine va_get (D := D) (ci := 0) (v := .int (F 1 7)) (C := RX0) (T := TX0) (N := 9) hx hb hts hinX0 hown hK hP 1 rfl rfl 7 (by decide) (hts (.fieldLink RX5 162 "FirstOut$House" "help" "I") (by decide +kernel)) (fun _ h9 => h9) rfl dX5_swear_42 ?_
    refine lv_aload_n hx hb dX5_swear_45 rfl (lv_at hl 3 rfl) ?_
    refine va_get (D := D) (ci := 5) (v := .ref (a 1)) (C := RX5) (T := TX5) (N := 10) hx hb hts hinX5 hown hK hP 0 rfl rfl 0 (by decide) (hts (.fieldLink RX5 10 "FirstOut" "home" "LFirstOut$House;") (by decide +kernel)) (fun _ h9 => h9) rfl dX5_swear_46 ?_
    refine va_get (D := D) (ci := 0) (v := .int (F 1 8)) (C := RX0) (T := TX0) (N := 9) hx hb hts hinX0 hown hK hP 1 rfl rfl 8 (by decide) (hts (.fieldLink RX5 165 "FirstOut$House" "worth" "I") (by decide +kernel)) (fun _ h9 => h9) rfl dX5_swear_49 ?_
    refine lv_imul hx hb dX5_swear_52 ?_
    refine lv_iload hx hb dX5_swear_53 (lv_at hl 0 rfl) ?_
    refine lv_imul hx hb dX5_swear_55 ?_
    refine lv_istore (lv' := [(5, .int (((F 1 7) * (F 1 8)) * (d_X0_shares (F 4) (d_X5_ableNow (F 2) (F 4) (F 11) n) n))), (4, .int (d_X0_shares (F 4) (d_X5_ableNow (F 2) (F 4) (F 11) n) n)), (3, .int (d_X0_harmUpper (F 3) (F 4) (d_X5_ableNow (F 2) (F 4) (F 11) n) (d_X5_coveredNow (F 2) (F 11) n) n)), (2, .int (d_X5_ableNow (F 2) (F 4) (F 11) n)), (0, .ref (a 0)), (1, .int what)]) hx hb dX5_swear_56 hl (by decide) rfl (fun ls hl => ?_)
    refine lv_aload_n hx hb dX5_swear_58 rfl (lv_at hl 4 rfl) ?_
    refine va_get (D := D) (ci := 5) (v := .ref (a 1)) (C := RX5) (T := TX5) (N := 10) hx hb hts hinX5 hown hK hP 0 rfl rfl 0 (by decide) (hts (.fieldLink RX5 10 "FirstOut" "home" "LFirstOut$House;") (by decide +kernel)) (fun _ h9 => h9) rfl dX5_swear_59 ?_
    refine va_get (D := D) (ci := 0) (v := .int (F 1 6)) (C := RX0) (T := TX0) (N := 9) hx hb hts hinX0 hown hK hP 1 rfl rfl 6 (by decide) (hts (.fieldLink RX5 168 "FirstOut$House" "chance" "I") (by decide +kernel)) (fun _ h9 => h9) rfl dX5_swear_62 ?_
    refine lv_aload_n hx hb dX5_swear_65 rfl (lv_at hl 4 rfl) ?_
    refine va_get (D := D) (ci := 5) (v := .ref (a 1)) (C := RX5) (T := TX5) (N := 10) hx hb hts hinX5 hown hK hP 0 rfl rfl 0 (by decide) (hts (.fieldLink RX5 10 "FirstOut" "home" "LFirstOut$House;") (by decide +kernel)) (fun _ h9 => h9) rfl dX5_swear_66 ?_
    refine va_get (D := D) (ci := 0) (v := .int (F 1 7)) (C := RX0) (T := TX0) (N := 9) hx hb hts hinX0 hown hK hP 1 rfl rfl 7 (by decide) (hts (.fieldLink RX5 162 "FirstOut$House" "help" "I") (by decide +kernel)) (fun _ h9 => h9) rfl dX5_swear_69 ?_
    refine lv_iadd hx hb dX5_swear_72 ?_
    refine lv_iload_n hx hb dX5_swear_73 rfl (lv_at hl 2 rfl) ?_
    refine lv_imul hx hb dX5_swear_74 ?_
    refine lv_istore (lv' := [(6, .int (((F 1 6) + (F 1 7)) * (d_X0_harmUpper (F 3) (F 4) (d_X5_ableNow (F 2) (F 4) (F 11) n) (d_X5_coveredNow (F 2) (F 11) n) n))), (5, .int (((F 1 7) * (F 1 8)) * (d_X0_shares (F 4) (d_X5_ableNow (F 2) (F 4) (F 11) n) n))), (4, .int (d_X0_shares (F 4) (d_X5_ableNow (F 2) (F 4) (F 11) n) n)), (3, .int (d_X0_harmUpper (F 3) (F 4) (d_X5_ableNow (F 2) (F 4) (F 11) n) (d_X5_coveredNow (F 2) (F 11) n) n)), (2, .int (d_X5_ableNow (F 2) (F 4) (F 11) n)), (0, .ref (a 0)), (1, .int what)]) hx hb dX5_swear_75 hl (by decide) rfl (fun ls hl => ?_)
    refine lv_iload hx hb dX5_swear_77 (lv_at hl 1 rfl) ?_
    refine lv_iload hx hb dX5_swear_79 (lv_at hl 0 rfl) ?_
    refine lv_isub hx hb dX5_swear_81 ?_
    refine lv_bipush (v := 10) hx hb dX5_swear_82 (by decide) ?_
    refine lv_iload hx hb dX5_swear_84 (lv_at hl 2 rfl) ?_
    refine lv_imul hx hb dX5_swear_86 ?_
    refine lv_iload_n hx hb dX5_swear_87 rfl (lv_at hl 6 rfl) ?_
    have hPc := hP.sub (ws' := []) [] rfl
    have hDc := hD.sub (ws' := []) [] (by decide) rfl
    refine m_callR (W.runS (As := [.int ((((F 1 7) * (F 1 8)) * (d_X0_shares (F 4) (d_X5_ableNow (F 2) (F 4) (F 11) n) n)) - (((F 1 6) + (F 1 7)) * (d_X0_harmUpper (F 3) (F 4) (d_X5_ableNow (F 2) (F 4) (F 11) n) (d_X5_coveredNow (F 2) (F 11) n) n))), .int ((10 : Int32) * (d_X0_shares (F 4) (d_X5_ableNow (F 2) (F 4) (F 11) n) n)), .int what]) (rest := []) ⟨hx, hb, hml, hown, hts⟩ (c_X5_partOf l D cI cC cZ cS ((((F 1 7) * (F 1 8)) * (d_X0_shares (F 4) (d_X5_ableNow (F 2) (F 4) (F 11) n) n)) - (((F 1 6) + (F 1 7)) * (d_X0_harmUpper (F 3) (F 4) (d_X5_ableNow (F 2) (F 4) (F 11) n) (d_X5_coveredNow (F 2) (F 11) n) n))) ((10 : Int32) * (d_X0_shares (F 4) (d_X5_ableNow (F 2) (F 4) (F 11) n) n)) what) (va_cwS 3 hts gX5_swear_X5_partOf rfl rfl rfl (by decide +kernel) ⟨Nat.le_of_ble_eq_true rfl, Nat.le_of_ble_eq_true rfl⟩) (preS_of hPc hDc hE) rfl rfl hl.1 rfl (lv_room (Nat.le_of_ble_eq_true rfl)) dX5_swear_88 ⟨Nat.zero_le _, Nat.zero_le _⟩) ?_
    refine W.eq (g2 := F0 m 91 ls [.int (d_X5_partOf ((((F 1 7) * (F 1 8)) * (d_X0_shares (F 4) (d_X5_ableNow (F 2) (F 4) (F 11) n) n)) - (((F 1 6) + (F 1 7)) * (d_X0_harmUpper (F 3) (F 4) (d_X5_ableNow (F 2) (F 4) (F 11) n) (d_X5_coveredNow (F 2) (F 11) n) n))) ((10 : Int32) * (d_X0_shares (F 4) (d_X5_ableNow (F 2) (F 4) (F 11) n) n)) what)]) rfl ?_
    rw [hres]
    exact W.iret (v := d_X5_partOf ((((F 1 7) * (F 1 8)) * (d_X0_shares (F 4) (d_X5_ableNow (F 2) (F 4) (F 11) n) n)) - (((F 1 6) + (F 1 7)) * (d_X0_harmUpper (F 3) (F 4) (d_X5_ableNow (F 2) (F 4) (F 11) n) (d_X5_coveredNow (F 2) (F 11) n) n))) ((10 : Int32) * (d_X0_shares (F 4) (d_X5_ableNow (F 2) (F 4) (F 11) n) n)) what) hx hb hr (fun t ht hW => ⟨rfl, ht⟩) (fun _ h => by cases h) dX5_swear_91
  · skip
    rw [if_pos c_1] at hres
    refine lv_ldc hx hb hown (hts (.constant RX5 161 (-1000000)) (by decide +kernel)) dX5_swear_7 ?_
    rw [hres]
    exact W.iret (v := (-1000000)) hx hb hr (fun t ht hW => ⟨rfl, ht⟩) (fun _ h => by cases h) dX5_swear_9
def lp_X5_sense_15 (F : Nat → Nat → Int32) (k : Int32) (n : Nat) : Nat → Nat → Int32 → Int32
  | 0, _, _ => 0
  | k15 + 1, i, acc => if (nI n) ≤ (nI i) then
      acc &&& ((F 11 3) ^^^ (-1 : Int32))
    else
      if (d_J6_bitCount_0f7a4 ((F 2 i) &&& (F 11 0))) < k then
        lp_X5_sense_15 F k n k15 (i + 1) acc
      else
        lp_X5_sense_15 F k n k15 (i + 1) (acc ||| ((1 : Int32) <<< ((nI i) &&& 31)))
def d_X5_sense (F : Nat → Nat → Int32) (k : Int32) (n : Nat) : Int32 :=
  if k < 0 then
      (-1)
    else
      if k ≤ (5 : Int32) then
        lp_X5_sense_15 F k n (n + 1) 0 0
      else
        (-1)
set_option maxHeartbeats 4000000 in
set_option maxRecDepth 100000 in
theorem c_X5_sense (l : Launch) (D : va_G) (cI cC cZ cS : ClassId) (a : Nat → Nat) (b : Nat → Nat) (F : Nat → Nat → Int32) (tc : Int64) (k : Int32) (n : Nat) (hn : F 1 3 = nI n) (h7 : n ≤ 7) : Met l yX5_sense wsX5_sense { frames := 1, cells := 0, slots := 0, locals := 20 } (PcE D cI cC cZ cS [.ref (a 0), .int k] (wF cI cC cZ cS a b F tc)) (QcR (some (.int (d_X5_sense F k n)))) 0 0 (fun _ => False) := by
  refine Met.ofW (cc := cX5_sense) (maxL := 4) (ret := (some .int)) (by decide) rfl ?_
  intro p e s m args below meth c s₁ B hml hv
  obtain ⟨rfl, hP, hD, hE⟩ := hv
  have hK := hE.1
  have hx := B.exec
  have hb := B.bytes
  have hr := B.returns
  have hts := atoms_spec (ws := wsX5_sense) B.pre
  have hown : s.vm.findClass RX5 = some m.cls := findClass_of_methodNamed B.named
  have hlocks := B.notSynchronized
  have hinX5 : ∀ w ∈ wsX50, w ∈ wsX5_sense := by decide +kernel
  have hinX0 : ∀ w ∈ wsX00, w ∈ wsX5_sense := by decide +kernel
  have hinX3 : ∀ w ∈ wsX30, w ∈ wsX5_sense := by decide +kernel
  refine opq (d_X5_sense F k n) (fun R hres => ?_)
  rw [hres]
  replace hres := hres.symm
  rw [d_X5_sense] at hres
  have hl := lv_entry ([.ref (a 0), .int k]) (n := 4) (Nat.le_of_ble_eq_true rfl)
  rw [lg_entry_eq]
  generalize (lg_sl ([.ref (a 0), .int k]) ++ List.replicate (4 - (lg_sl ([.ref (a 0), .int k])).length) Slot.unset).toArray = ls at hl ⊢
  have hl : lv_has ls 4 [(0, .ref (a 0)), (1, .int k)] := hl
  refine lv_iload_n hx hb dX5_sense_0 rfl (lv_at hl 1 rfl) ?_
  refine lv_if_lt (tgt := 9) hx hb dX5_sense_1 (by decide) (fun c_1 => ?_) (fun c_1 => ?_)
  · skip
    rw [if_pos c_1] at hres
    refine lv_iconst (v := (-1)) hx hb dX5_sense_9 (by decide) ?_
    rw [hres]
    exact W.iret (v := (-1)) hx hb hr (fun t ht hW => ⟨rfl, ht⟩) (fun _ h => by cases h) dX5_sense_10
  · skip
    rw [if_neg c_1] at hres
    refine lv_iload_n hx hb dX5_sense_4 rfl (lv_at hl 1 rfl) ?_
    refine lv_iconst (v := 5) hx hb dX5_sense_5 (by decide) ?_
    refine lv_icmp_le (tgt := 11) hx hb dX5_sense_6 (by decide) (fun c_2 => ?_) (fun c_2 => ?_)
    · skip
      rw [if_pos c_2] at hres
      refine lv_iconst (v := 0) hx hb dX5_sense_11 (by decide) ?_
      refine lv_istore_n (lv' := [(2, .int 0), (0, .ref (a 0)), (1, .int k)]) hx hb dX5_sense_12 rfl hl (by decide) rfl (fun ls hl => ?_)
      refine lv_iconst (v := 0) hx hb dX5_sense_13 (by decide) ?_
      refine lv_istore_n (lv' := [(3, .int 0), (2, .int 0), (0, .ref (a 0)), (1, .int k)]) hx hb dX5_sense_14 rfl hl (by decide) rfl (fun ls hl => ?_)
      have loop15 : ∀ (k15 : Nat) (i : Nat) (acc : Int32), n - i < k15 → i ≤ n → R = lp_X5_sense_15 F k n k15 i acc → ∀ ls : Array Slot, lv_has ls 4 [(0, .ref (a 0)), (1, .int k), (2, .int acc), (3, .int (nI i))] → W p l e (headSpec wsX5_sense { frames := 1, cells := 0, slots := 0, locals := 20 }).room s m (([.ref (a 0), .int k] : List Value).toArray) below meth c s.heap [] 0 0 (MQ below (QcR (some (.int R))) (([.ref (a 0), .int k] : List Value).toArray) s 0 0 (fun _ => False)) (F0 m 15 ls []) := by
        intro k15
        induction k15 with
        | zero => intro i acc hk; exact absurd hk (Nat.not_lt_zero _)
        | succ k15 ih15 =>
          intro i acc hk15 hi hres ls hl
          rw [lp_X5_sense_15] at hres
          refine lv_iload_n hx hb dX5_sense_15 rfl (lv_at hl 3 rfl) ?_
          refine lv_aload_n hx hb dX5_sense_16 rfl (lv_at hl 0 rfl) ?_
          refine va_get (D := D) (ci := 5) (v := .ref (a 1)) (C := RX5) (T := TX5) (N := 10) hx hb hts hinX5 hown hK hP 0 rfl rfl 0 (by decide) (hts (.fieldLink RX5 10 "FirstOut" "home" "LFirstOut$House;") (by decide +kernel)) (fun _ h9 => h9) rfl dX5_sense_17 ?_
          refine va_get (D := D) (ci := 0) (v := .int (F 1 3)) (C := RX0) (T := TX0) (N := 9) hx hb hts hinX0 hown hK hP 1 rfl rfl 3 (by decide) (hts (.fieldLink RX5 171 "FirstOut$House" "things" "I") (by decide +kernel)) (fun _ h9 => h9) rfl dX5_sense_20 ?_
          refine lv_to (show (F 1 3) = nI n from hn) ?_
          refine lv_icmp_ge (tgt := 62) hx hb dX5_sense_23 (by decide) (fun c_3 => ?_) (fun c_3 => ?_)
          · skip
            rw [if_pos c_3] at hres
            refine lv_iload_n hx hb dX5_sense_62 rfl (lv_at hl 2 rfl) ?_
            refine lv_aload_n hx hb dX5_sense_63 rfl (lv_at hl 0 rfl) ?_
            refine va_get (D := D) (ci := 5) (v := .ref (b 12)) (C := RX5) (T := TX5) (N := 10) hx hb hts hinX5 hown hK hP 0 rfl rfl 3 (by decide) (hts (.fieldLink RX5 29 "FirstOut" "current" "LFirstOut$Standing;") (by decide +kernel)) (fun _ h9 => h9) rfl dX5_sense_64 ?_
            refine va_get (D := D) (ci := 3) (v := .int (F 11 3)) (C := RX3) (T := TX3) (N := 5) hx hb hts hinX3 hown hK hP 11 rfl rfl 3 (by decide) (hts (.fieldLink RX5 100 "FirstOut$Standing" "given" "I") (by decide +kernel)) (fun _ h9 => h9) rfl dX5_sense_67 ?_
            refine lv_iconst (v := (-1)) hx hb dX5_sense_70 (by decide) ?_
            refine lv_ixor hx hb dX5_sense_71 ?_
            refine lv_iand hx hb dX5_sense_72 ?_
            rw [hres]
            exact W.iret (v := acc &&& ((F 11 3) ^^^ (-1 : Int32))) hx hb hr (fun t ht hW => ⟨rfl, ht⟩) (fun _ h => by cases h) dX5_sense_73
          · skip
            rw [if_neg c_3] at hres
            have hlt : i < n := nlt_of c_3 (by omega) (by omega)
            refine lv_aload_n hx hb dX5_sense_26 rfl (lv_at hl 0 rfl) ?_
            refine va_get (D := D) (ci := 5) (v := .ref (a 1)) (C := RX5) (T := TX5) (N := 10) hx hb hts hinX5 hown hK hP 0 rfl rfl 0 (by decide) (hts (.fieldLink RX5 10 "FirstOut" "home" "LFirstOut$House;") (by decide +kernel)) (fun _ h9 => h9) rfl dX5_sense_27 ?_
            refine va_get (D := D) (ci := 0) (v := .ref (a 2)) (C := RX0) (T := TX0) (N := 9) hx hb hts hinX0 hown hK hP 1 rfl rfl 0 (by decide) (hts (.fieldLink RX5 80 "FirstOut$House" "traits" "[I") (by decide +kernel)) (fun _ h9 => h9) rfl dX5_sense_30 ?_
            refine lv_iload_n hx hb dX5_sense_33 rfl (lv_at hl 3 rfl) ?_
            refine m_iald hx hb hK hP 2 0 rfl rfl i rfl (by omega) (by decide) dX5_sense_34 ?_
            refine lv_to (show _ = (F 2 i) from rfl) ?_
            refine lv_aload_n hx hb dX5_sense_35 rfl (lv_at hl 0 rfl) ?_
            refine va_get (D := D) (ci := 5) (v := .ref (b 12)) (C := RX5) (T := TX5) (N := 10) hx hb hts hinX5 hown hK hP 0 rfl rfl 3 (by decide) (hts (.fieldLink RX5 29 "FirstOut" "current" "LFirstOut$Standing;") (by decide +kernel)) (fun _ h9 => h9) rfl dX5_sense_36 ?_
            refine va_get (D := D) (ci := 3) (v := .int (F 11 0)) (C := RX3) (T := TX3) (N := 5) hx hb hts hinX3 hown hK hP 11 rfl rfl 0 (by decide) (hts (.fieldLink RX5 113 "FirstOut$Standing" "words" "I") (by decide +kernel)) (fun _ h9 => h9) rfl dX5_sense_39 ?_
            refine lv_iand hx hb dX5_sense_42 ?_
            have hPc := hP.sub (ws' := []) [] rfl
            have hDc := hD.sub (ws' := []) [] (by decide) rfl
            refine m_callR (W.runS (As := [.int ((F 2 i) &&& (F 11 0))]) (rest := []) ⟨hx, hb, hml, hown, hts⟩ (c_J6_bitCount_0f7a4 l D cI cC cZ cS ((F 2 i) &&& (F 11 0))) (va_cwS 1 hts gX5_sense_J6_bitCount_0f7a4 rfl rfl rfl (by decide +kernel) ⟨Nat.le_of_ble_eq_true rfl, Nat.le_of_ble_eq_true rfl⟩) (preS_of hPc hDc hE) rfl rfl hl.1 rfl (lv_room (Nat.le_of_ble_eq_true rfl)) dX5_sense_43 ⟨Nat.zero_le _, Nat.zero_le _⟩) ?_
            refine W.eq (g2 := F0 m 46 ls [.int (d_J6_bitCount_0f7a4 ((F 2 i) &&& (F 11 0)))]) rfl ?_
            refine lv_iload_n hx hb dX5_sense_46 rfl (lv_at hl 1 rfl) ?_
            refine lv_icmp_lt (tgt := 56) hx hb dX5_sense_47 (by decide) (fun c_4 => ?_) (fun c_4 => ?_)
            · skip
              rw [if_pos c_4] at hres
              refine lv_iinc (v := nI (i + 1)) (lv' := [(3, .int (nI (i + 1))), (0, .ref (a 0)), (1, .int k), (2, .int acc)]) hx hb dX5_sense_56 hl (k := 3) rfl ((nI_add i 1)) (by decide) rfl (fun ls hl => ?_)
              refine lv_goto (tgt := 15) hx hb dX5_sense_59 (by decide) ?_
              exact ih15 (i + 1) acc (by omega) (by omega) hres ls (lv_sub hl [1, 2, 3, 0] rfl)
            · skip
              rw [if_neg c_4] at hres
              refine lv_iload_n hx hb dX5_sense_50 rfl (lv_at hl 2 rfl) ?_
              refine lv_iconst (v := 1) hx hb dX5_sense_51 (by decide) ?_
              refine lv_iload_n hx hb dX5_sense_52 rfl (lv_at hl 3 rfl) ?_
              refine lv_ishl hx hb dX5_sense_53 ?_
              refine lv_ior hx hb dX5_sense_54 ?_
              refine lv_istore_n (lv' := [(2, .int (acc ||| ((1 : Int32) <<< ((nI i) &&& 31)))), (0, .ref (a 0)), (1, .int k), (3, .int (nI i))]) hx hb dX5_sense_55 rfl hl (by decide) rfl (fun ls hl => ?_)
              refine lv_iinc (v := nI (i + 1)) (lv' := [(3, .int (nI (i + 1))), (2, .int (acc ||| ((1 : Int32) <<< ((nI i) &&& 31)))), (0, .ref (a 0)), (1, .int k)]) hx hb dX5_sense_56 hl (k := 3) rfl ((nI_add i 1)) (by decide) rfl (fun ls hl => ?_)
              refine lv_goto (tgt := 15) hx hb dX5_sense_59 (by decide) ?_
              exact ih15 (i + 1) (acc ||| ((1 : Int32) <<< ((nI i) &&& 31))) (by omega) (by omega) hres ls (lv_sub hl [2, 3, 1, 0] rfl)
      exact loop15 (n + 1) 0 0 (by omega) (Nat.zero_le _) hres ls (lv_sub hl [2, 3, 1, 0] rfl)
    · skip
      rw [if_neg c_2] at hres
      refine lv_iconst (v := (-1)) hx hb dX5_sense_9 (by decide) ?_
      rw [hres]
      exact W.iret (v := (-1)) hx hb hr (fun t ht hW => ⟨rfl, ht⟩) (fun _ h => by cases h) dX5_sense_10
def d_X5_both (F : Nat → Nat → Int32) (words : Int32) (n : Nat) : Int32 :=
  if (d_X5_areWords words) = 0 then
      (-1)
    else
      (d_X5_coveredNow (F 2) (F 11) n) &&& (d_X0_coveredBy (F 2) (F 11) words n)
set_option maxHeartbeats 4000000 in
set_option maxRecDepth 100000 in
theorem c_X5_both (l : Launch) (D : va_G) (cI cC cZ cS : ClassId) (a : Nat → Nat) (b : Nat → Nat) (F : Nat → Nat → Int32) (tc : Int64) (words : Int32) (n : Nat) (hn : F 1 3 = nI n) (h7 : n ≤ 7) : Met l yX5_both wsX5_both { frames := 3, cells := 0, slots := 0, locals := 65 } (PcE D cI cC cZ cS [.ref (a 0), .int words] (wF cI cC cZ cS a b F tc)) (QcR (some (.int (d_X5_both F words n)))) 0 0 (fun _ => False) := by
  refine Met.ofW (cc := cX5_both) (maxL := 2) (ret := (some .int)) (by decide) rfl ?_
  intro p e s m args below meth c s₁ B hml hv
  obtain ⟨rfl, hP, hD, hE⟩ := hv
  have hK := hE.1
  have hx := B.exec
  have hb := B.bytes
  have hr := B.returns
  have hts := atoms_spec (ws := wsX5_both) B.pre
  have hown : s.vm.findClass RX5 = some m.cls := findClass_of_methodNamed B.named
  have hlocks := B.notSynchronized
  have hinX5 : ∀ w ∈ wsX50, w ∈ wsX5_both := by decide +kernel
  refine opq (d_X5_both F words n) (fun R hres => ?_)
  rw [hres]
  replace hres := hres.symm
  rw [d_X5_both] at hres
  have hl := lv_entry ([.ref (a 0), .int words]) (n := 2) (Nat.le_of_ble_eq_true rfl)
  rw [lg_entry_eq]
  generalize (lg_sl ([.ref (a 0), .int words]) ++ List.replicate (2 - (lg_sl ([.ref (a 0), .int words])).length) Slot.unset).toArray = ls at hl ⊢
  have hl : lv_has ls 2 [(0, .ref (a 0)), (1, .int words)] := hl
  refine lv_iload_n hx hb dX5_both_0 rfl (lv_at hl 1 rfl) ?_
  have hPc := hP.sub (ws' := []) [] rfl
  have hDc := hD.sub (ws' := []) [] (by decide) rfl
  refine m_callR (W.runS (As := [.int words]) (rest := []) ⟨hx, hb, hml, hown, hts⟩ (c_X5_areWords l D cI cC cZ cS words) (va_cwS 1 hts gX5_both_X5_areWords rfl rfl rfl (by decide +kernel) ⟨Nat.le_of_ble_eq_true rfl, Nat.le_of_ble_eq_true rfl⟩) (preS_of hPc hDc hE) rfl rfl hl.1 rfl (lv_room (Nat.le_of_ble_eq_true rfl)) dX5_both_1 ⟨Nat.zero_le _, Nat.zero_le _⟩) ?_
  refine W.eq (g2 := F0 m 4 ls [.int (d_X5_areWords words)]) rfl ?_
  refine lv_if_ne (tgt := 9) hx hb dX5_both_4 (by decide) (fun c_1 => ?_) (fun c_1 => ?_)
  · skip
    rw [if_neg c_1] at hres
    refine lv_aload_n hx hb dX5_both_9 rfl (lv_at hl 0 rfl) ?_
    have hPc := hP.sub (ws' := (wXC cI cC cZ cS a b (F 1) (F 2) (F 3) (F 4) (F 11) tc)) [0, 1, 2, 3, 4, 11] rfl
    have hDc := hD.sub (ws' := (wXC cI cC cZ cS a b (F 1) (F 2) (F 3) (F 4) (F 11) tc)) [0, 1, 2, 3, 4, 11] (by decide) rfl
    refine m_callR (W.runV (As := []) (rest := []) ⟨hx, hb, hml, hown, hts⟩ (c_X5_coveredNow l D cI cC cZ cS a b (F 1) (F 2) (F 3) (F 4) (F 11) tc n hn h7) (cwV 0 hts gX5_both_X5_coveredNow rfl rfl rfl (by decide +kernel) ⟨Nat.le_of_ble_eq_true rfl, Nat.le_of_ble_eq_true rfl⟩) (preV_of hPc hDc hE (va_recv hK hPc (ci := 5) (q0 := 0) rfl rfl)) rfl rfl hl.1 rfl (lv_room (Nat.le_of_ble_eq_true rfl)) dX5_both_10 ⟨Nat.zero_le _, Nat.zero_le _⟩) ?_
    refine W.eq (g2 := F0 m 13 ls [.int (d_X5_coveredNow (F 2) (F 11) n)]) rfl ?_
    refine lv_aload_n hx hb dX5_both_13 rfl (lv_at hl 0 rfl) ?_
    refine va_get (D := D) (ci := 5) (v := .ref (a 1)) (C := RX5) (T := TX5) (N := 10) hx hb hts hinX5 hown hK hP 0 rfl rfl 0 (by decide) (hts (.fieldLink RX5 10 "FirstOut" "home" "LFirstOut$House;") (by decide +kernel)) (fun _ h9 => h9) rfl dX5_both_14 ?_
    refine lv_iload_n hx hb dX5_both_17 rfl (lv_at hl 1 rfl) ?_
    refine lv_aload_n hx hb dX5_both_18 rfl (lv_at hl 0 rfl) ?_
    refine va_get (D := D) (ci := 5) (v := .ref (b 12)) (C := RX5) (T := TX5) (N := 10) hx hb hts hinX5 hown hK hP 0 rfl rfl 3 (by decide) (hts (.fieldLink RX5 29 "FirstOut" "current" "LFirstOut$Standing;") (by decide +kernel)) (fun _ h9 => h9) rfl dX5_both_19 ?_
    have hPc := hP.sub (ws' := (wHS cI cC cZ cS (a 1) (a 2) (a 3) (a 4) (b 12) (F 1) (F 2) (F 3) (F 4) (F 11))) [1, 2, 3, 4, 11] rfl
    have hDc := hD.sub (ws' := (wHS cI cC cZ cS (a 1) (a 2) (a 3) (a 4) (b 12) (F 1) (F 2) (F 3) (F 4) (F 11))) [1, 2, 3, 4, 11] (by decide) rfl
    refine m_callR (W.runV (As := [.int words, .ref (b 12)]) (rest := [.int (d_X5_coveredNow (F 2) (F 11) n)]) ⟨hx, hb, hml, hown, hts⟩ (c_X0_coveredBy l D cI cC cZ cS (a 1) (a 2) (a 3) (a 4) (b 12) (F 1) (F 2) (F 3) (F 4) (F 11) words n hn h7) (cwV 2 hts gX5_both_X0_coveredBy rfl rfl rfl (by decide +kernel) ⟨Nat.le_of_ble_eq_true rfl, Nat.le_of_ble_eq_true rfl⟩) (preV_of hPc hDc hE (va_recv hK hPc (ci := 0) (q0 := 0) rfl rfl)) rfl rfl hl.1 rfl (lv_room (Nat.le_of_ble_eq_true rfl)) dX5_both_22 ⟨Nat.zero_le _, Nat.zero_le _⟩) ?_
    refine W.eq (g2 := F0 m 25 ls [.int (d_X0_coveredBy (F 2) (F 11) words n), .int (d_X5_coveredNow (F 2) (F 11) n)]) rfl ?_
    refine lv_iand hx hb dX5_both_25 ?_
    rw [hres]
    exact W.iret (v := (d_X5_coveredNow (F 2) (F 11) n) &&& (d_X0_coveredBy (F 2) (F 11) words n)) hx hb hr (fun t ht hW => ⟨rfl, ht⟩) (fun _ h => by cases h) dX5_both_26
  · skip
    rw [if_pos c_1] at hres
    refine lv_iconst (v := (-1)) hx hb dX5_both_7 (by decide) ?_
    rw [hres]
    exact W.iret (v := (-1)) hx hb hr (fun t ht hW => ⟨rfl, ht⟩) (fun _ h => by cases h) dX5_both_8
def lp_X5_means_24 (F : Nat → Nat → Int32) (set : Int32) (n : Nat) : Nat → Nat → Int32 → Int32
  | 0, _, _ => 0
  | k24 + 1, i, best => if (31 : Int32) < (nI i) then
      best
    else
      if ((d_X0_ableBy (F 2) (F 4) (F 11) (nI i) n) &&& (d_X0_coveredBy (F 2) (F 11) (nI i) n)) = 0 then
        lp_X5_means_24 F set n k24 (i + 1) best
      else
        if (((d_X0_ableBy (F 2) (F 4) (F 11) (nI i) n) &&& (d_X0_coveredBy (F 2) (F 11) (nI i) n)) &&& (set ^^^ (-1 : Int32))) = 0 then
          lp_X5_means_24 F set n k24 (i + 1) (d_X5_fewerWords best (nI i))
        else
          lp_X5_means_24 F set n k24 (i + 1) best
def d_X5_means (F : Nat → Nat → Int32) (set : Int32) (n : Nat) : Int32 :=
  if set < 0 then
      (-1)
    else
      if set < ((1 : Int32) <<< ((nI n) &&& 31)) then
        lp_X5_means_24 F set n 33 0 (-9)
      else
        (-1)
set_option maxHeartbeats 4000000 in
set_option maxRecDepth 100000 in
theorem c_X5_means (l : Launch) (D : va_G) (cI cC cZ cS : ClassId) (a : Nat → Nat) (b : Nat → Nat) (F : Nat → Nat → Int32) (tc : Int64) (set : Int32) (n : Nat) (hn : F 1 3 = nI n) (h7 : n ≤ 7) : Met l yX5_means wsX5_means { frames := 3, cells := 0, slots := 0, locals := 68 } (PcE D cI cC cZ cS [.ref (a 0), .int set] (wF cI cC cZ cS a b F tc)) (QcR (some (.int (d_X5_means F set n)))) 0 0 (fun _ => False) := by
  refine Met.ofW (cc := cX5_means) (maxL := 5) (ret := (some .int)) (by decide) rfl ?_
  intro p e s m args below meth c s₁ B hml hv
  obtain ⟨rfl, hP, hD, hE⟩ := hv
  have hK := hE.1
  have hx := B.exec
  have hb := B.bytes
  have hr := B.returns
  have hts := atoms_spec (ws := wsX5_means) B.pre
  have hown : s.vm.findClass RX5 = some m.cls := findClass_of_methodNamed B.named
  have hlocks := B.notSynchronized
  have hinX5 : ∀ w ∈ wsX50, w ∈ wsX5_means := by decide +kernel
  have hinX0 : ∀ w ∈ wsX00, w ∈ wsX5_means := by decide +kernel
  refine opq (d_X5_means F set n) (fun R hres => ?_)
  rw [hres]
  replace hres := hres.symm
  rw [d_X5_means] at hres
  have hl := lv_entry ([.ref (a 0), .int set]) (n := 5) (Nat.le_of_ble_eq_true rfl)
  rw [lg_entry_eq]
  generalize (lg_sl ([.ref (a 0), .int set]) ++ List.replicate (5 - (lg_sl ([.ref (a 0), .int set])).length) Slot.unset).toArray = ls at hl ⊢
  have hl : lv_has ls 5 [(0, .ref (a 0)), (1, .int set)] := hl
  refine lv_iload_n hx hb dX5_means_0 rfl (lv_at hl 1 rfl) ?_
  refine lv_if_lt (tgt := 17) hx hb dX5_means_1 (by decide) (fun c_1 => ?_) (fun c_1 => ?_)
  · skip
    rw [if_pos c_1] at hres
    refine lv_iconst (v := (-1)) hx hb dX5_means_17 (by decide) ?_
    rw [hres]
    exact W.iret (v := (-1)) hx hb hr (fun t ht hW => ⟨rfl, ht⟩) (fun _ h => by cases h) dX5_means_18
  · skip
    rw [if_neg c_1] at hres
    refine lv_iload_n hx hb dX5_means_4 rfl (lv_at hl 1 rfl) ?_
    refine lv_iconst (v := 1) hx hb dX5_means_5 (by decide) ?_
    refine lv_aload_n hx hb dX5_means_6 rfl (lv_at hl 0 rfl) ?_
    refine va_get (D := D) (ci := 5) (v := .ref (a 1)) (C := RX5) (T := TX5) (N := 10) hx hb hts hinX5 hown hK hP 0 rfl rfl 0 (by decide) (hts (.fieldLink RX5 10 "FirstOut" "home" "LFirstOut$House;") (by decide +kernel)) (fun _ h9 => h9) rfl dX5_means_7 ?_
    refine va_get (D := D) (ci := 0) (v := .int (F 1 3)) (C := RX0) (T := TX0) (N := 9) hx hb hts hinX0 hown hK hP 1 rfl rfl 3 (by decide) (hts (.fieldLink RX5 171 "FirstOut$House" "things" "I") (by decide +kernel)) (fun _ h9 => h9) rfl dX5_means_10 ?_
    refine lv_to (show (F 1 3) = nI n from hn) ?_
    refine lv_ishl hx hb dX5_means_13 ?_
    refine lv_icmp_lt (tgt := 19) hx hb dX5_means_14 (by decide) (fun c_2 => ?_) (fun c_2 => ?_)
    · skip
      rw [if_pos c_2] at hres
      refine lv_bipush (v := (-9)) hx hb dX5_means_19 (by decide) ?_
      refine lv_istore_n (lv' := [(2, .int (-9)), (0, .ref (a 0)), (1, .int set)]) hx hb dX5_means_21 rfl hl (by decide) rfl (fun ls hl => ?_)
      refine lv_iconst (v := 0) hx hb dX5_means_22 (by decide) ?_
      refine lv_istore_n (lv' := [(3, .int 0), (2, .int (-9)), (0, .ref (a 0)), (1, .int set)]) hx hb dX5_means_23 rfl hl (by decide) rfl (fun ls hl => ?_)
      have loop24 : ∀ (k24 : Nat) (i : Nat) (best : Int32), 32 - i < k24 → i ≤ 32 → R = lp_X5_means_24 F set n k24 i best → ∀ ls : Array Slot, lv_has ls 5 [(0, .ref (a 0)), (1, .int set), (2, .int best), (3, .int (nI i))] → W p l e (headSpec wsX5_means { frames := 3, cells := 0, slots := 0, locals := 68 }).room s m (([.ref (a 0), .int set] : List Value).toArray) below meth c s.heap [] 0 0 (MQ below (QcR (some (.int R))) (([.ref (a 0), .int set] : List Value).toArray) s 0 0 (fun _ => False)) (F0 m 24 ls []) := by
        intro k24
        induction k24 with
        | zero => intro i best hk; exact absurd hk (Nat.not_lt_zero _)
        | succ k24 ih24 =>
          intro i best hk24 hi hres ls hl
          rw [lp_X5_means_24] at hres
          refine lv_iload_n hx hb dX5_means_24 rfl (lv_at hl 3 rfl) ?_
          refine lv_bipush (v := 31) hx hb dX5_means_25 (by decide) ?_
          refine lv_icmp_gt (tgt := 83) hx hb dX5_means_27 (by decide) (fun c_3 => ?_) (fun c_3 => ?_)
          · skip
            rw [if_pos c_3] at hres
            refine lv_iload_n hx hb dX5_means_83 rfl (lv_at hl 2 rfl) ?_
            rw [hres]
            exact W.iret (v := best) hx hb hr (fun t ht hW => ⟨rfl, ht⟩) (fun _ h => by cases h) dX5_means_84
          · skip
            rw [if_neg c_3] at hres
            have hlt : i < 32 := ngt31 c_3 hi
            refine lv_aload_n hx hb dX5_means_30 rfl (lv_at hl 0 rfl) ?_
            refine va_get (D := D) (ci := 5) (v := .ref (a 1)) (C := RX5) (T := TX5) (N := 10) hx hb hts hinX5 hown hK hP 0 rfl rfl 0 (by decide) (hts (.fieldLink RX5 10 "FirstOut" "home" "LFirstOut$House;") (by decide +kernel)) (fun _ h9 => h9) rfl dX5_means_31 ?_
            refine lv_iload_n hx hb dX5_means_34 rfl (lv_at hl 3 rfl) ?_
            refine lv_aload_n hx hb dX5_means_35 rfl (lv_at hl 0 rfl) ?_
            refine va_get (D := D) (ci := 5) (v := .ref (b 12)) (C := RX5) (T := TX5) (N := 10) hx hb hts hinX5 hown hK hP 0 rfl rfl 3 (by decide) (hts (.fieldLink RX5 29 "FirstOut" "current" "LFirstOut$Standing;") (by decide +kernel)) (fun _ h9 => h9) rfl dX5_means_36 ?_
            have hPc := hP.sub (ws' := (wHS cI cC cZ cS (a 1) (a 2) (a 3) (a 4) (b 12) (F 1) (F 2) (F 3) (F 4) (F 11))) [1, 2, 3, 4, 11] rfl
            have hDc := hD.sub (ws' := (wHS cI cC cZ cS (a 1) (a 2) (a 3) (a 4) (b 12) (F 1) (F 2) (F 3) (F 4) (F 11))) [1, 2, 3, 4, 11] (by decide) rfl
            refine m_callR (W.runV (As := [.int (nI i), .ref (b 12)]) (rest := []) ⟨hx, hb, hml, hown, hts⟩ (c_X0_ableBy l D cI cC cZ cS (a 1) (a 2) (a 3) (a 4) (b 12) (F 1) (F 2) (F 3) (F 4) (F 11) (nI i) n hn h7) (cwV 2 hts gX5_means_X0_ableBy rfl rfl rfl (by decide +kernel) ⟨Nat.le_of_ble_eq_true rfl, Nat.le_of_ble_eq_true rfl⟩) (preV_of hPc hDc hE (va_recv hK hPc (ci := 0) (q0 := 0) rfl rfl)) rfl rfl hl.1 rfl (lv_room (Nat.le_of_ble_eq_true rfl)) dX5_means_39 ⟨Nat.zero_le _, Nat.zero_le _⟩) ?_
            refine W.eq (g2 := F0 m 42 ls [.int (d_X0_ableBy (F 2) (F 4) (F 11) (nI i) n)]) rfl ?_
            refine lv_aload_n hx hb dX5_means_42 rfl (lv_at hl 0 rfl) ?_
            refine va_get (D := D) (ci := 5) (v := .ref (a 1)) (C := RX5) (T := TX5) (N := 10) hx hb hts hinX5 hown hK hP 0 rfl rfl 0 (by decide) (hts (.fieldLink RX5 10 "FirstOut" "home" "LFirstOut$House;") (by decide +kernel)) (fun _ h9 => h9) rfl dX5_means_43 ?_
            refine lv_iload_n hx hb dX5_means_46 rfl (lv_at hl 3 rfl) ?_
            refine lv_aload_n hx hb dX5_means_47 rfl (lv_at hl 0 rfl) ?_
            refine va_get (D := D) (ci := 5) (v := .ref (b 12)) (C := RX5) (T := TX5) (N := 10) hx hb hts hinX5 hown hK hP 0 rfl rfl 3 (by decide) (hts (.fieldLink RX5 29 "FirstOut" "current" "LFirstOut$Standing;") (by decide +kernel)) (fun _ h9 => h9) rfl dX5_means_48 ?_
            have hPc := hP.sub (ws' := (wHS cI cC cZ cS (a 1) (a 2) (a 3) (a 4) (b 12) (F 1) (F 2) (F 3) (F 4) (F 11))) [1, 2, 3, 4, 11] rfl
            have hDc := hD.sub (ws' := (wHS cI cC cZ cS (a 1) (a 2) (a 3) (a 4) (b 12) (F 1) (F 2) (F 3) (F 4) (F 11))) [1, 2, 3, 4, 11] (by decide) rfl
            refine m_callR (W.runV (As := [.int (nI i), .ref (b 12)]) (rest := [.int (d_X0_ableBy (F 2) (F 4) (F 11) (nI i) n)]) ⟨hx, hb, hml, hown, hts⟩ (c_X0_coveredBy l D cI cC cZ cS (a 1) (a 2) (a 3) (a 4) (b 12) (F 1) (F 2) (F 3) (F 4) (F 11) (nI i) n hn h7) (cwV 2 hts gX5_means_X0_coveredBy rfl rfl rfl (by decide +kernel) ⟨Nat.le_of_ble_eq_true rfl, Nat.le_of_ble_eq_true rfl⟩) (preV_of hPc hDc hE (va_recv hK hPc (ci := 0) (q0 := 0) rfl rfl)) rfl rfl hl.1 rfl (lv_room (Nat.le_of_ble_eq_true rfl)) dX5_means_51 ⟨Nat.zero_le _, Nat.zero_le _⟩) ?_
            refine W.eq (g2 := F0 m 54 ls [.int (d_X0_coveredBy (F 2) (F 11) (nI i) n), .int (d_X0_ableBy (F 2) (F 4) (F 11) (nI i) n)]) rfl ?_
            refine lv_iand hx hb dX5_means_54 ?_
            refine lv_istore (lv' := [(4, .int ((d_X0_ableBy (F 2) (F 4) (F 11) (nI i) n) &&& (d_X0_coveredBy (F 2) (F 11) (nI i) n))), (0, .ref (a 0)), (1, .int set), (2, .int best), (3, .int (nI i))]) hx hb dX5_means_55 hl (by decide) rfl (fun ls hl => ?_)
            refine lv_iload hx hb dX5_means_57 (lv_at hl 0 rfl) ?_
            refine lv_if_eq (tgt := 77) hx hb dX5_means_59 (by decide) (fun c_4 => ?_) (fun c_4 => ?_)
            · skip
              rw [if_pos c_4] at hres
              refine lv_iinc (v := nI (i + 1)) (lv' := [(3, .int (nI (i + 1))), (4, .int ((d_X0_ableBy (F 2) (F 4) (F 11) (nI i) n) &&& (d_X0_coveredBy (F 2) (F 11) (nI i) n))), (0, .ref (a 0)), (1, .int set), (2, .int best)]) hx hb dX5_means_77 hl (k := 4) rfl ((nI_add i 1)) (by decide) rfl (fun ls hl => ?_)
              refine lv_goto (tgt := 24) hx hb dX5_means_80 (by decide) ?_
              exact ih24 (i + 1) best (by omega) (by omega) hres ls (lv_sub hl [2, 3, 4, 0] rfl)
            · skip
              rw [if_neg c_4] at hres
              refine lv_iload hx hb dX5_means_62 (lv_at hl 0 rfl) ?_
              refine lv_iload_n hx hb dX5_means_64 rfl (lv_at hl 2 rfl) ?_
              refine lv_iconst (v := (-1)) hx hb dX5_means_65 (by decide) ?_
              refine lv_ixor hx hb dX5_means_66 ?_
              refine lv_iand hx hb dX5_means_67 ?_
              refine lv_if_ne (tgt := 77) hx hb dX5_means_68 (by decide) (fun c_5 => ?_) (fun c_5 => ?_)
              · skip
                rw [if_neg c_5] at hres
                refine lv_iinc (v := nI (i + 1)) (lv' := [(3, .int (nI (i + 1))), (4, .int ((d_X0_ableBy (F 2) (F 4) (F 11) (nI i) n) &&& (d_X0_coveredBy (F 2) (F 11) (nI i) n))), (0, .ref (a 0)), (1, .int set), (2, .int best)]) hx hb dX5_means_77 hl (k := 4) rfl ((nI_add i 1)) (by decide) rfl (fun ls hl => ?_)
                refine lv_goto (tgt := 24) hx hb dX5_means_80 (by decide) ?_
                exact ih24 (i + 1) best (by omega) (by omega) hres ls (lv_sub hl [2, 3, 4, 0] rfl)
              · skip
                rw [if_pos c_5] at hres
                refine lv_iload_n hx hb dX5_means_71 rfl (lv_at hl 3 rfl) ?_
                refine lv_iload_n hx hb dX5_means_72 rfl (lv_at hl 4 rfl) ?_
                have hPc := hP.sub (ws' := []) [] rfl
                have hDc := hD.sub (ws' := []) [] (by decide) rfl
                refine m_callR (W.runS (As := [.int best, .int (nI i)]) (rest := []) ⟨hx, hb, hml, hown, hts⟩ (c_X5_fewerWords l D cI cC cZ cS best (nI i)) (va_cwS 2 hts gX5_means_X5_fewerWords rfl rfl rfl (by decide +kernel) ⟨Nat.le_of_ble_eq_true rfl, Nat.le_of_ble_eq_true rfl⟩) (preS_of hPc hDc hE) rfl rfl hl.1 rfl (lv_room (Nat.le_of_ble_eq_true rfl)) dX5_means_73 ⟨Nat.zero_le _, Nat.zero_le _⟩) ?_
                refine W.eq (g2 := F0 m 76 ls [.int (d_X5_fewerWords best (nI i))]) rfl ?_
                refine lv_istore_n (lv' := [(2, .int (d_X5_fewerWords best (nI i))), (4, .int ((d_X0_ableBy (F 2) (F 4) (F 11) (nI i) n) &&& (d_X0_coveredBy (F 2) (F 11) (nI i) n))), (0, .ref (a 0)), (1, .int set), (3, .int (nI i))]) hx hb dX5_means_76 rfl hl (by decide) rfl (fun ls hl => ?_)
                refine lv_iinc (v := nI (i + 1)) (lv' := [(3, .int (nI (i + 1))), (2, .int (d_X5_fewerWords best (nI i))), (4, .int ((d_X0_ableBy (F 2) (F 4) (F 11) (nI i) n) &&& (d_X0_coveredBy (F 2) (F 11) (nI i) n))), (0, .ref (a 0)), (1, .int set)]) hx hb dX5_means_77 hl (k := 4) rfl ((nI_add i 1)) (by decide) rfl (fun ls hl => ?_)
                refine lv_goto (tgt := 24) hx hb dX5_means_80 (by decide) ?_
                exact ih24 (i + 1) (d_X5_fewerWords best (nI i)) (by omega) (by omega) hres ls (lv_sub hl [3, 4, 1, 0] rfl)
      exact loop24 33 0 (-9) (by omega) (by omega) hres ls (lv_sub hl [2, 3, 1, 0] rfl)
    · skip
      rw [if_neg c_2] at hres
      refine lv_iconst (v := (-1)) hx hb dX5_means_17 (by decide) ?_
      rw [hres]
      exact W.iret (v := (-1)) hx hb hr (fun t ht hW => ⟨rfl, ht⟩) (fun _ h => by cases h) dX5_means_18
def lp_X5_span_5 (F : Nat → Nat → Int32) (n : Nat) : Nat → Nat → Int32 → Int32
  | 0, _, _ => 0
  | k5 + 1, i, best => if (31 : Int32) < (nI i) then
      best
    else
      if (d_J6_bitCount_0f7a4 (d_X0_coveredBy (F 2) (F 11) (nI i) n)) = (1 : Int32) then
        lp_X5_span_5 F n k5 (i + 1) (d_X5_fewerWords best (nI i))
      else
        lp_X5_span_5 F n k5 (i + 1) best
def d_X5_span (F : Nat → Nat → Int32) (n : Nat) : Int32 :=
  lp_X5_span_5 F n 33 0 (-9)
set_option maxHeartbeats 4000000 in
set_option maxRecDepth 100000 in
theorem c_X5_span (l : Launch) (D : va_G) (cI cC cZ cS : ClassId) (a : Nat → Nat) (b : Nat → Nat) (F : Nat → Nat → Int32) (tc : Int64) (n : Nat) (hn : F 1 3 = nI n) (h7 : n ≤ 7) : Met l yX5_span wsX5_span { frames := 2, cells := 0, slots := 0, locals := 45 } (PcE D cI cC cZ cS [.ref (a 0)] (wF cI cC cZ cS a b F tc)) (QcR (some (.int (d_X5_span F n)))) 0 0 (fun _ => False) := by
  refine Met.ofW (cc := cX5_span) (maxL := 3) (ret := (some .int)) (by decide) rfl ?_
  intro p e s m args below meth c s₁ B hml hv
  obtain ⟨rfl, hP, hD, hE⟩ := hv
  have hK := hE.1
  have hx := B.exec
  have hb := B.bytes
  have hr := B.returns
  have hts := atoms_spec (ws := wsX5_span) B.pre
  have hown : s.vm.findClass RX5 = some m.cls := findClass_of_methodNamed B.named
  have hlocks := B.notSynchronized
  have hinX5 : ∀ w ∈ wsX50, w ∈ wsX5_span := by decide +kernel
  refine opq (d_X5_span F n) (fun R hres => ?_)
  rw [hres]
  replace hres := hres.symm
  rw [d_X5_span] at hres
  have hl := lv_entry ([.ref (a 0)]) (n := 3) (Nat.le_of_ble_eq_true rfl)
  rw [lg_entry_eq]
  generalize (lg_sl ([.ref (a 0)]) ++ List.replicate (3 - (lg_sl ([.ref (a 0)])).length) Slot.unset).toArray = ls at hl ⊢
  have hl : lv_has ls 3 [(0, .ref (a 0))] := hl
  refine lv_bipush (v := (-9)) hx hb dX5_span_0 (by decide) ?_
  refine lv_istore_n (lv' := [(1, .int (-9)), (0, .ref (a 0))]) hx hb dX5_span_2 rfl hl (by decide) rfl (fun ls hl => ?_)
  refine lv_iconst (v := 0) hx hb dX5_span_3 (by decide) ?_
  refine lv_istore_n (lv' := [(2, .int 0), (1, .int (-9)), (0, .ref (a 0))]) hx hb dX5_span_4 rfl hl (by decide) rfl (fun ls hl => ?_)
  have loop5 : ∀ (k5 : Nat) (i : Nat) (best : Int32), 32 - i < k5 → i ≤ 32 → R = lp_X5_span_5 F n k5 i best → ∀ ls : Array Slot, lv_has ls 3 [(0, .ref (a 0)), (1, .int best), (2, .int (nI i))] → W p l e (headSpec wsX5_span { frames := 2, cells := 0, slots := 0, locals := 45 }).room s m (([.ref (a 0)] : List Value).toArray) below meth c s.heap [] 0 0 (MQ below (QcR (some (.int R))) (([.ref (a 0)] : List Value).toArray) s 0 0 (fun _ => False)) (F0 m 5 ls []) := by
    intro k5
    induction k5 with
    | zero => intro i best hk; exact absurd hk (Nat.not_lt_zero _)
    | succ k5 ih5 =>
      intro i best hk5 hi hres ls hl
      rw [lp_X5_span_5] at hres
      refine lv_iload_n hx hb dX5_span_5 rfl (lv_at hl 2 rfl) ?_
      refine lv_bipush (v := 31) hx hb dX5_span_6 (by decide) ?_
      refine lv_icmp_gt (tgt := 42) hx hb dX5_span_8 (by decide) (fun c_1 => ?_) (fun c_1 => ?_)
      · skip
        rw [if_pos c_1] at hres
        refine lv_iload_n hx hb dX5_span_42 rfl (lv_at hl 1 rfl) ?_
        rw [hres]
        exact W.iret (v := best) hx hb hr (fun t ht hW => ⟨rfl, ht⟩) (fun _ h => by cases h) dX5_span_43
      · skip
        rw [if_neg c_1] at hres
        have hlt : i < 32 := ngt31 c_1 hi
        refine lv_aload_n hx hb dX5_span_11 rfl (lv_at hl 0 rfl) ?_
        refine va_get (D := D) (ci := 5) (v := .ref (a 1)) (C := RX5) (T := TX5) (N := 10) hx hb hts hinX5 hown hK hP 0 rfl rfl 0 (by decide) (hts (.fieldLink RX5 10 "FirstOut" "home" "LFirstOut$House;") (by decide +kernel)) (fun _ h9 => h9) rfl dX5_span_12 ?_
        refine lv_iload_n hx hb dX5_span_15 rfl (lv_at hl 2 rfl) ?_
        refine lv_aload_n hx hb dX5_span_16 rfl (lv_at hl 0 rfl) ?_
        refine va_get (D := D) (ci := 5) (v := .ref (b 12)) (C := RX5) (T := TX5) (N := 10) hx hb hts hinX5 hown hK hP 0 rfl rfl 3 (by decide) (hts (.fieldLink RX5 29 "FirstOut" "current" "LFirstOut$Standing;") (by decide +kernel)) (fun _ h9 => h9) rfl dX5_span_17 ?_
        have hPc := hP.sub (ws' := (wHS cI cC cZ cS (a 1) (a 2) (a 3) (a 4) (b 12) (F 1) (F 2) (F 3) (F 4) (F 11))) [1, 2, 3, 4, 11] rfl
        have hDc := hD.sub (ws' := (wHS cI cC cZ cS (a 1) (a 2) (a 3) (a 4) (b 12) (F 1) (F 2) (F 3) (F 4) (F 11))) [1, 2, 3, 4, 11] (by decide) rfl
        refine m_callR (W.runV (As := [.int (nI i), .ref (b 12)]) (rest := []) ⟨hx, hb, hml, hown, hts⟩ (c_X0_coveredBy l D cI cC cZ cS (a 1) (a 2) (a 3) (a 4) (b 12) (F 1) (F 2) (F 3) (F 4) (F 11) (nI i) n hn h7) (cwV 2 hts gX5_span_X0_coveredBy rfl rfl rfl (by decide +kernel) ⟨Nat.le_of_ble_eq_true rfl, Nat.le_of_ble_eq_true rfl⟩) (preV_of hPc hDc hE (va_recv hK hPc (ci := 0) (q0 := 0) rfl rfl)) rfl rfl hl.1 rfl (lv_room (Nat.le_of_ble_eq_true rfl)) dX5_span_20 ⟨Nat.zero_le _, Nat.zero_le _⟩) ?_
        refine W.eq (g2 := F0 m 23 ls [.int (d_X0_coveredBy (F 2) (F 11) (nI i) n)]) rfl ?_
        have hPc := hP.sub (ws' := []) [] rfl
        have hDc := hD.sub (ws' := []) [] (by decide) rfl
        refine m_callR (W.runS (As := [.int (d_X0_coveredBy (F 2) (F 11) (nI i) n)]) (rest := []) ⟨hx, hb, hml, hown, hts⟩ (c_J6_bitCount_0f7a4 l D cI cC cZ cS (d_X0_coveredBy (F 2) (F 11) (nI i) n)) (va_cwS 1 hts gX5_span_J6_bitCount_0f7a4 rfl rfl rfl (by decide +kernel) ⟨Nat.le_of_ble_eq_true rfl, Nat.le_of_ble_eq_true rfl⟩) (preS_of hPc hDc hE) rfl rfl hl.1 rfl (lv_room (Nat.le_of_ble_eq_true rfl)) dX5_span_23 ⟨Nat.zero_le _, Nat.zero_le _⟩) ?_
        refine W.eq (g2 := F0 m 26 ls [.int (d_J6_bitCount_0f7a4 (d_X0_coveredBy (F 2) (F 11) (nI i) n))]) rfl ?_
        refine lv_iconst (v := 1) hx hb dX5_span_26 (by decide) ?_
        refine lv_icmp_ne (tgt := 36) hx hb dX5_span_27 (by decide) (fun c_2 => ?_) (fun c_2 => ?_)
        · skip
          rw [if_neg c_2] at hres
          refine lv_iinc (v := nI (i + 1)) (lv' := [(2, .int (nI (i + 1))), (0, .ref (a 0)), (1, .int best)]) hx hb dX5_span_36 hl (k := 2) rfl ((nI_add i 1)) (by decide) rfl (fun ls hl => ?_)
          refine lv_goto (tgt := 5) hx hb dX5_span_39 (by decide) ?_
          exact ih5 (i + 1) best (by omega) (by omega) hres ls (lv_sub hl [1, 2, 0] rfl)
        · skip
          rw [if_pos c_2] at hres
          refine lv_iload_n hx hb dX5_span_30 rfl (lv_at hl 1 rfl) ?_
          refine lv_iload_n hx hb dX5_span_31 rfl (lv_at hl 2 rfl) ?_
          have hPc := hP.sub (ws' := []) [] rfl
          have hDc := hD.sub (ws' := []) [] (by decide) rfl
          refine m_callR (W.runS (As := [.int best, .int (nI i)]) (rest := []) ⟨hx, hb, hml, hown, hts⟩ (c_X5_fewerWords l D cI cC cZ cS best (nI i)) (va_cwS 2 hts gX5_span_X5_fewerWords rfl rfl rfl (by decide +kernel) ⟨Nat.le_of_ble_eq_true rfl, Nat.le_of_ble_eq_true rfl⟩) (preS_of hPc hDc hE) rfl rfl hl.1 rfl (lv_room (Nat.le_of_ble_eq_true rfl)) dX5_span_32 ⟨Nat.zero_le _, Nat.zero_le _⟩) ?_
          refine W.eq (g2 := F0 m 35 ls [.int (d_X5_fewerWords best (nI i))]) rfl ?_
          refine lv_istore_n (lv' := [(1, .int (d_X5_fewerWords best (nI i))), (0, .ref (a 0)), (2, .int (nI i))]) hx hb dX5_span_35 rfl hl (by decide) rfl (fun ls hl => ?_)
          refine lv_iinc (v := nI (i + 1)) (lv' := [(2, .int (nI (i + 1))), (1, .int (d_X5_fewerWords best (nI i))), (0, .ref (a 0))]) hx hb dX5_span_36 hl (k := 2) rfl ((nI_add i 1)) (by decide) rfl (fun ls hl => ?_)
          refine lv_goto (tgt := 5) hx hb dX5_span_39 (by decide) ?_
          exact ih5 (i + 1) (d_X5_fewerWords best (nI i)) (by omega) (by omega) hres ls (lv_sub hl [2, 1, 0] rfl)
  exact loop5 33 0 (-9) (by omega) (by omega) hres ls (lv_sub hl [2, 1, 0] rfl)
def lp_X5_fit_23 (F : Nat → Nat → Int32) (what : Int32) (n : Nat) (sk : Nat) : Nat → Nat → Int32 → Int32 → Int32 → Int32
  | 0, _, _, _, _ => 0
  | k23 + 1, i, ft, ls_, sh_ => if (31 : Int32) < (nI i) then
      if what = 0 then
        ft
      else
        if what = (1 : Int32) then
          ls_
        else
          if ft = 0 then
            ls_
          else
            sh_
    else
      if (d_X2_isSoBy (F 30) (F 31) (d_X0_having (F 2) (nI i) n) sk) = 0 then
        lp_X5_fit_23 F what n sk k23 (i + 1) ft ls_ sh_
      else
        if ft = 0 then
          lp_X5_fit_23 F what n sk k23 (i + 1) (ft + 1) (nI i) (sh_ &&& (nI i))
        else
          lp_X5_fit_23 F what n sk k23 (i + 1) (ft + 1) ls_ (sh_ &&& (nI i))
def d_X5_fit (F : Nat → Nat → Int32) (what : Int32) (n : Nat) (sk : Nat) : Int32 :=
  if what < 0 then
      (-1)
    else
      if what ≤ (2 : Int32) then
        lp_X5_fit_23 F what n sk 33 0 0 (-9) 31
      else
        (-1)
set_option maxHeartbeats 4000000 in
set_option maxRecDepth 100000 in
theorem c_X5_fit (l : Launch) (D : va_G) (cI cC cZ cS : ClassId) (a : Nat → Nat) (b : Nat → Nat) (F : Nat → Nat → Int32) (tc : Int64) (what : Int32) (n : Nat) (sk : Nat) (hn : F 1 3 = nI n) (h7 : n ≤ 7) (hsk : F 29 2 = nI sk) (hs6 : sk ≤ 6) : Met l yX5_fit wsX5_fit { frames := 2, cells := 0, slots := 0, locals := 43 } (PcE D cI cC cZ cS [.ref (a 0), .int what] (wF cI cC cZ cS a b F tc)) (QcR (some (.int (d_X5_fit F what n sk)))) 0 0 (fun _ => False) := by
  refine Met.ofW (cc := cX5_fit) (maxL := 6) (ret := (some .int)) (by decide) rfl ?_
  intro p e s m args below meth c s₁ B hml hv
  obtain ⟨rfl, hP, hD, hE⟩ := hv
  have hK := hE.1
  have hx := B.exec
  have hb := B.bytes
  have hr := B.returns
  have hts := atoms_spec (ws := wsX5_fit) B.pre
  have hown : s.vm.findClass RX5 = some m.cls := findClass_of_methodNamed B.named
  have hlocks := B.notSynchronized
  have hinX5 : ∀ w ∈ wsX50, w ∈ wsX5_fit := by decide +kernel
  refine opq (d_X5_fit F what n sk) (fun R hres => ?_)
  rw [hres]
  replace hres := hres.symm
  rw [d_X5_fit] at hres
  have hl := lv_entry ([.ref (a 0), .int what]) (n := 6) (Nat.le_of_ble_eq_true rfl)
  rw [lg_entry_eq]
  generalize (lg_sl ([.ref (a 0), .int what]) ++ List.replicate (6 - (lg_sl ([.ref (a 0), .int what])).length) Slot.unset).toArray = ls at hl ⊢
  have hl : lv_has ls 6 [(0, .ref (a 0)), (1, .int what)] := hl
  refine lv_iload_n hx hb dX5_fit_0 rfl (lv_at hl 1 rfl) ?_
  refine lv_if_lt (tgt := 9) hx hb dX5_fit_1 (by decide) (fun c_1 => ?_) (fun c_1 => ?_)
  · skip
    rw [if_pos c_1] at hres
    refine lv_iconst (v := (-1)) hx hb dX5_fit_9 (by decide) ?_
    rw [hres]
    exact W.iret (v := (-1)) hx hb hr (fun t ht hW => ⟨rfl, ht⟩) (fun _ h => by cases h) dX5_fit_10
  · skip
    rw [if_neg c_1] at hres
    refine lv_iload_n hx hb dX5_fit_4 rfl (lv_at hl 1 rfl) ?_
    refine lv_iconst (v := 2) hx hb dX5_fit_5 (by decide) ?_
    refine lv_icmp_le (tgt := 11) hx hb dX5_fit_6 (by decide) (fun c_2 => ?_) (fun c_2 => ?_)
    · skip
      rw [if_pos c_2] at hres
      refine lv_iconst (v := 0) hx hb dX5_fit_11 (by decide) ?_
      refine lv_istore_n (lv' := [(2, .int 0), (0, .ref (a 0)), (1, .int what)]) hx hb dX5_fit_12 rfl hl (by decide) rfl (fun ls hl => ?_)
      refine lv_bipush (v := (-9)) hx hb dX5_fit_13 (by decide) ?_
      refine lv_istore_n (lv' := [(3, .int (-9)), (2, .int 0), (0, .ref (a 0)), (1, .int what)]) hx hb dX5_fit_15 rfl hl (by decide) rfl (fun ls hl => ?_)
      refine lv_bipush (v := 31) hx hb dX5_fit_16 (by decide) ?_
      refine lv_istore (lv' := [(4, .int 31), (3, .int (-9)), (2, .int 0), (0, .ref (a 0)), (1, .int what)]) hx hb dX5_fit_18 hl (by decide) rfl (fun ls hl => ?_)
      refine lv_iconst (v := 0) hx hb dX5_fit_20 (by decide) ?_
      refine lv_istore (lv' := [(5, .int 0), (4, .int 31), (3, .int (-9)), (2, .int 0), (0, .ref (a 0)), (1, .int what)]) hx hb dX5_fit_21 hl (by decide) rfl (fun ls hl => ?_)
      have loop23 : ∀ (k23 : Nat) (i : Nat) (ft : Int32) (ls_ : Int32) (sh_ : Int32), 32 - i < k23 → i ≤ 32 → R = lp_X5_fit_23 F what n sk k23 i ft ls_ sh_ → ∀ ls : Array Slot, lv_has ls 6 [(0, .ref (a 0)), (1, .int what), (2, .int ft), (3, .int ls_), (4, .int sh_), (5, .int (nI i))] → W p l e (headSpec wsX5_fit { frames := 2, cells := 0, slots := 0, locals := 43 }).room s m (([.ref (a 0), .int what] : List Value).toArray) below meth c s.heap [] 0 0 (MQ below (QcR (some (.int R))) (([.ref (a 0), .int what] : List Value).toArray) s 0 0 (fun _ => False)) (F0 m 23 ls []) := by
        intro k23
        induction k23 with
        | zero => intro i ft ls_ sh_ hk; exact absurd hk (Nat.not_lt_zero _)
        | succ k23 ih23 =>
          intro i ft ls_ sh_ hk23 hi hres ls hl
          rw [lp_X5_fit_23] at hres
          refine lv_iload hx hb dX5_fit_23 (lv_at hl 5 rfl) ?_
          refine lv_bipush (v := 31) hx hb dX5_fit_25 (by decide) ?_
          refine lv_icmp_gt (tgt := 76) hx hb dX5_fit_27 (by decide) (fun c_3 => ?_) (fun c_3 => ?_)
          · skip
            rw [if_pos c_3] at hres
            refine lv_iload_n hx hb dX5_fit_76 rfl (lv_at hl 1 rfl) ?_
            refine lv_if_ne (tgt := 82) hx hb dX5_fit_77 (by decide) (fun c_4 => ?_) (fun c_4 => ?_)
            · skip
              rw [if_neg c_4] at hres
              refine lv_iload_n hx hb dX5_fit_82 rfl (lv_at hl 1 rfl) ?_
              refine lv_iconst (v := 1) hx hb dX5_fit_83 (by decide) ?_
              refine lv_icmp_eq (tgt := 91) hx hb dX5_fit_84 (by decide) (fun c_5 => ?_) (fun c_5 => ?_)
              · skip
                rw [if_pos c_5] at hres
                refine lv_iload_n hx hb dX5_fit_91 rfl (lv_at hl 3 rfl) ?_
                refine lv_goto (tgt := 97) hx hb dX5_fit_92 (by decide) ?_
                rw [hres]
                exact W.iret (v := ls_) hx hb hr (fun t ht hW => ⟨rfl, ht⟩) (fun _ h => by cases h) dX5_fit_97
              · skip
                rw [if_neg c_5] at hres
                refine lv_iload_n hx hb dX5_fit_87 rfl (lv_at hl 2 rfl) ?_
                refine lv_if_ne (tgt := 95) hx hb dX5_fit_88 (by decide) (fun c_6 => ?_) (fun c_6 => ?_)
                · skip
                  rw [if_neg c_6] at hres
                  refine lv_iload hx hb dX5_fit_95 (lv_at hl 4 rfl) ?_
                  rw [hres]
                  exact W.iret (v := sh_) hx hb hr (fun t ht hW => ⟨rfl, ht⟩) (fun _ h => by cases h) dX5_fit_97
                · skip
                  rw [if_pos c_6] at hres
                  refine lv_iload_n hx hb dX5_fit_91 rfl (lv_at hl 3 rfl) ?_
                  refine lv_goto (tgt := 97) hx hb dX5_fit_92 (by decide) ?_
                  rw [hres]
                  exact W.iret (v := ls_) hx hb hr (fun t ht hW => ⟨rfl, ht⟩) (fun _ h => by cases h) dX5_fit_97
            · skip
              rw [if_pos c_4] at hres
              refine lv_iload_n hx hb dX5_fit_80 rfl (lv_at hl 2 rfl) ?_
              rw [hres]
              exact W.iret (v := ft) hx hb hr (fun t ht hW => ⟨rfl, ht⟩) (fun _ h => by cases h) dX5_fit_81
          · skip
            rw [if_neg c_3] at hres
            have hlt : i < 32 := ngt31 c_3 hi
            refine lv_aload_n hx hb dX5_fit_30 rfl (lv_at hl 0 rfl) ?_
            refine va_get (D := D) (ci := 5) (v := .ref (a 29)) (C := RX5) (T := TX5) (N := 10) hx hb hts hinX5 hown hK hP 0 rfl rfl 8 (by decide) (hts (.fieldLink RX5 54 "FirstOut" "seen" "LFirstOut$Seen;") (by decide +kernel)) (fun _ h9 => h9) rfl dX5_fit_31 ?_
            refine lv_aload_n hx hb dX5_fit_34 rfl (lv_at hl 0 rfl) ?_
            refine va_get (D := D) (ci := 5) (v := .ref (a 1)) (C := RX5) (T := TX5) (N := 10) hx hb hts hinX5 hown hK hP 0 rfl rfl 0 (by decide) (hts (.fieldLink RX5 10 "FirstOut" "home" "LFirstOut$House;") (by decide +kernel)) (fun _ h9 => h9) rfl dX5_fit_35 ?_
            refine lv_iload hx hb dX5_fit_38 (lv_at hl 5 rfl) ?_
            have hPc := hP.sub (ws' := (wH cI cC cZ cS (a 1) (a 2) (a 3) (a 4) (F 1) (F 2) (F 3) (F 4))) [1, 2, 3, 4] rfl
            have hDc := hD.sub (ws' := (wH cI cC cZ cS (a 1) (a 2) (a 3) (a 4) (F 1) (F 2) (F 3) (F 4))) [1, 2, 3, 4] (by decide) rfl
            refine m_callR (W.runV (As := [.int (nI i)]) (rest := [.ref (a 29)]) ⟨hx, hb, hml, hown, hts⟩ (c_X0_having l D cI cC cZ cS (a 1) (a 2) (a 3) (a 4) (F 1) (F 2) (F 3) (F 4) (nI i) n hn h7) (cwV 1 hts gX5_fit_X0_having rfl rfl rfl (by decide +kernel) ⟨Nat.le_of_ble_eq_true rfl, Nat.le_of_ble_eq_true rfl⟩) (preV_of hPc hDc hE (va_recv hK hPc (ci := 0) (q0 := 0) rfl rfl)) rfl rfl hl.1 rfl (lv_room (Nat.le_of_ble_eq_true rfl)) dX5_fit_40 ⟨Nat.zero_le _, Nat.zero_le _⟩) ?_
            refine W.eq (g2 := F0 m 43 ls [.int (d_X0_having (F 2) (nI i) n), .ref (a 29)]) rfl ?_
            have hPc := hP.sub (ws' := (wN cI cC cZ cS (a 29) (a 30) (a 31) (F 29) (F 30) (F 31))) [29, 30, 31] rfl
            have hDc := hD.sub (ws' := (wN cI cC cZ cS (a 29) (a 30) (a 31) (F 29) (F 30) (F 31))) [29, 30, 31] (by decide) rfl
            refine m_callR (W.runV (As := [.int (d_X0_having (F 2) (nI i) n)]) (rest := []) ⟨hx, hb, hml, hown, hts⟩ (c_X2_isSoBy l D cI cC cZ cS (a 29) (a 30) (a 31) (F 29) (F 30) (F 31) (d_X0_having (F 2) (nI i) n) sk hsk hs6) (cwV 1 hts gX5_fit_X2_isSoBy rfl rfl rfl (by decide +kernel) ⟨Nat.le_of_ble_eq_true rfl, Nat.le_of_ble_eq_true rfl⟩) (preV_of hPc hDc hE (va_recv hK hPc (ci := 2) (q0 := 0) rfl rfl)) rfl rfl hl.1 rfl (lv_room (Nat.le_of_ble_eq_true rfl)) dX5_fit_43 ⟨Nat.zero_le _, Nat.zero_le _⟩) ?_
            refine W.eq (g2 := F0 m 46 ls [.int (d_X2_isSoBy (F 30) (F 31) (d_X0_having (F 2) (nI i) n) sk)]) rfl ?_
            refine lv_if_eq (tgt := 70) hx hb dX5_fit_46 (by decide) (fun c_7 => ?_) (fun c_7 => ?_)
            · skip
              rw [if_pos c_7] at hres
              refine lv_iinc (v := nI (i + 1)) (lv' := [(5, .int (nI (i + 1))), (0, .ref (a 0)), (1, .int what), (2, .int ft), (3, .int ls_), (4, .int sh_)]) hx hb dX5_fit_70 hl (k := 5) rfl ((nI_add i 1)) (by decide) rfl (fun ls hl => ?_)
              refine lv_goto (tgt := 23) hx hb dX5_fit_73 (by decide) ?_
              exact ih23 (i + 1) ft ls_ sh_ (by omega) (by omega) hres ls (lv_sub hl [1, 2, 3, 4, 5, 0] rfl)
            · skip
              rw [if_neg c_7] at hres
              refine lv_iload_n hx hb dX5_fit_49 rfl (lv_at hl 2 rfl) ?_
              refine lv_if_ne (tgt := 58) hx hb dX5_fit_50 (by decide) (fun c_8 => ?_) (fun c_8 => ?_)
              · skip
                rw [if_neg c_8] at hres
                refine lv_iload_n hx hb dX5_fit_58 rfl (lv_at hl 3 rfl) ?_
                refine lv_istore_n (lv' := [(3, .int ls_), (0, .ref (a 0)), (1, .int what), (2, .int ft), (4, .int sh_), (5, .int (nI i))]) hx hb dX5_fit_59 rfl hl (by decide) rfl (fun ls hl => ?_)
                refine lv_iload hx hb dX5_fit_60 (lv_at hl 4 rfl) ?_
                refine lv_iload hx hb dX5_fit_62 (lv_at hl 5 rfl) ?_
                refine lv_iand hx hb dX5_fit_64 ?_
                refine lv_istore (lv' := [(4, .int (sh_ &&& (nI i))), (3, .int ls_), (0, .ref (a 0)), (1, .int what), (2, .int ft), (5, .int (nI i))]) hx hb dX5_fit_65 hl (by decide) rfl (fun ls hl => ?_)
                refine lv_iinc (v := ft + 1) (lv' := [(2, .int (ft + 1)), (4, .int (sh_ &&& (nI i))), (3, .int ls_), (0, .ref (a 0)), (1, .int what), (5, .int (nI i))]) hx hb dX5_fit_67 hl (k := 4) rfl (rfl) (by decide) rfl (fun ls hl => ?_)
                refine lv_iinc (v := nI (i + 1)) (lv' := [(5, .int (nI (i + 1))), (2, .int (ft + 1)), (4, .int (sh_ &&& (nI i))), (3, .int ls_), (0, .ref (a 0)), (1, .int what)]) hx hb dX5_fit_70 hl (k := 5) rfl ((nI_add i 1)) (by decide) rfl (fun ls hl => ?_)
                refine lv_goto (tgt := 23) hx hb dX5_fit_73 (by decide) ?_
                exact ih23 (i + 1) (ft + 1) ls_ (sh_ &&& (nI i)) (by omega) (by omega) hres ls (lv_sub hl [4, 5, 1, 3, 2, 0] rfl)
              · skip
                rw [if_pos c_8] at hres
                refine lv_iload hx hb dX5_fit_53 (lv_at hl 5 rfl) ?_
                refine lv_goto (tgt := 59) hx hb dX5_fit_55 (by decide) ?_
                refine lv_istore_n (lv' := [(3, .int (nI i)), (0, .ref (a 0)), (1, .int what), (2, .int ft), (4, .int sh_), (5, .int (nI i))]) hx hb dX5_fit_59 rfl hl (by decide) rfl (fun ls hl => ?_)
                refine lv_iload hx hb dX5_fit_60 (lv_at hl 4 rfl) ?_
                refine lv_iload hx hb dX5_fit_62 (lv_at hl 5 rfl) ?_
                refine lv_iand hx hb dX5_fit_64 ?_
                refine lv_istore (lv' := [(4, .int (sh_ &&& (nI i))), (3, .int (nI i)), (0, .ref (a 0)), (1, .int what), (2, .int ft), (5, .int (nI i))]) hx hb dX5_fit_65 hl (by decide) rfl (fun ls hl => ?_)
                refine lv_iinc (v := ft + 1) (lv' := [(2, .int (ft + 1)), (4, .int (sh_ &&& (nI i))), (3, .int (nI i)), (0, .ref (a 0)), (1, .int what), (5, .int (nI i))]) hx hb dX5_fit_67 hl (k := 4) rfl (rfl) (by decide) rfl (fun ls hl => ?_)
                refine lv_iinc (v := nI (i + 1)) (lv' := [(5, .int (nI (i + 1))), (2, .int (ft + 1)), (4, .int (sh_ &&& (nI i))), (3, .int (nI i)), (0, .ref (a 0)), (1, .int what)]) hx hb dX5_fit_70 hl (k := 5) rfl ((nI_add i 1)) (by decide) rfl (fun ls hl => ?_)
                refine lv_goto (tgt := 23) hx hb dX5_fit_73 (by decide) ?_
                exact ih23 (i + 1) (ft + 1) (nI i) (sh_ &&& (nI i)) (by omega) (by omega) hres ls (lv_sub hl [4, 5, 1, 3, 2, 0] rfl)
      exact loop23 33 0 0 (-9) 31 (by omega) (by omega) hres ls (lv_sub hl [4, 5, 3, 2, 1, 0] rfl)
    · skip
      rw [if_neg c_2] at hres
      refine lv_iconst (v := (-1)) hx hb dX5_fit_9 (by decide) ?_
      rw [hres]
      exact W.iret (v := (-1)) hx hb hr (fun t ht hW => ⟨rfl, ht⟩) (fun _ h => by cases h) dX5_fit_10
def lp_X5_leastHarmful_37 (F : Nat → Nat → Int32) (m_ : Int32) (n : Nat) : Nat → Nat → Int32 → Int32 → Int32 → Int32
  | 0, _, _, _, _ => 0
  | k37 + 1, i, best, bu, bl => if (nI (2 ^ n)) ≤ (nI i) then
      best
    else
      if ((nI i) &&& ((d_X5_ableNow (F 2) (F 4) (F 11) n) ^^^ (-1 : Int32))) = 0 then
        if (d_J6_bitCount_0f7a4 (nI i)) ≤ m_ then
          if (d_J6_compare_7cf53 ((d_X0_harmUpper (F 3) (F 4) ((d_X5_ableNow (F 2) (F 4) (F 11) n) &&& ((nI i) ^^^ (-1 : Int32))) (d_X5_coveredNow (F 2) (F 11) n) n) * bl) (bu * (d_X0_shares (F 4) ((d_X5_ableNow (F 2) (F 4) (F 11) n) &&& ((nI i) ^^^ (-1 : Int32))) n))) < 0 then
            lp_X5_leastHarmful_37 F m_ n k37 (i + 1) (nI i) (d_X0_harmUpper (F 3) (F 4) ((d_X5_ableNow (F 2) (F 4) (F 11) n) &&& ((nI i) ^^^ (-1 : Int32))) (d_X5_coveredNow (F 2) (F 11) n) n) (d_X0_shares (F 4) ((d_X5_ableNow (F 2) (F 4) (F 11) n) &&& ((nI i) ^^^ (-1 : Int32))) n)
          else
            if (d_J6_compare_7cf53 ((d_X0_harmUpper (F 3) (F 4) ((d_X5_ableNow (F 2) (F 4) (F 11) n) &&& ((nI i) ^^^ (-1 : Int32))) (d_X5_coveredNow (F 2) (F 11) n) n) * bl) (bu * (d_X0_shares (F 4) ((d_X5_ableNow (F 2) (F 4) (F 11) n) &&& ((nI i) ^^^ (-1 : Int32))) n))) = 0 then
              if (d_J6_bitCount_0f7a4 best) ≤ (d_J6_bitCount_0f7a4 (nI i)) then
                lp_X5_leastHarmful_37 F m_ n k37 (i + 1) best bu bl
              else
                lp_X5_leastHarmful_37 F m_ n k37 (i + 1) (nI i) (d_X0_harmUpper (F 3) (F 4) ((d_X5_ableNow (F 2) (F 4) (F 11) n) &&& ((nI i) ^^^ (-1 : Int32))) (d_X5_coveredNow (F 2) (F 11) n) n) (d_X0_shares (F 4) ((d_X5_ableNow (F 2) (F 4) (F 11) n) &&& ((nI i) ^^^ (-1 : Int32))) n)
            else
              lp_X5_leastHarmful_37 F m_ n k37 (i + 1) best bu bl
        else
          lp_X5_leastHarmful_37 F m_ n k37 (i + 1) best bu bl
      else
        lp_X5_leastHarmful_37 F m_ n k37 (i + 1) best bu bl
def d_X5_leastHarmful (F : Nat → Nat → Int32) (m_ : Int32) (n : Nat) : Int32 :=
  lp_X5_leastHarmful_37 F m_ n (2 ^ n) 1 0 (d_X0_harmUpper (F 3) (F 4) (d_X5_ableNow (F 2) (F 4) (F 11) n) (d_X5_coveredNow (F 2) (F 11) n) n) (d_X0_shares (F 4) (d_X5_ableNow (F 2) (F 4) (F 11) n) n)
set_option maxHeartbeats 4000000 in
set_option maxRecDepth 100000 in
theorem c_X5_leastHarmful (l : Launch) (D : va_G) (cI cC cZ cS : ClassId) (a : Nat → Nat) (b : Nat → Nat) (F : Nat → Nat → Int32) (tc : Int64) (m_ : Int32) (n : Nat) (hn : F 1 3 = nI n) (h7 : n ≤ 7) : Met l yX5_leastHarmful wsX5_leastHarmful { frames := 4, cells := 0, slots := 0, locals := 88 } (PcE D cI cC cZ cS [.ref (a 0), .int m_] (wF cI cC cZ cS a b F tc)) (QcR (some (.int (d_X5_leastHarmful F m_ n)))) 0 0 (fun _ => False) := by
  refine Met.ofW (cc := cX5_leastHarmful) (maxL := 11) (ret := (some .int)) (by decide) rfl ?_
  intro p e s m args below meth c s₁ B hml hv
  obtain ⟨rfl, hP, hD, hE⟩ := hv
  have hK := hE.1
  have hx := B.exec
  have hb := B.bytes
  have hr := B.returns
  have hts := atoms_spec (ws := wsX5_leastHarmful) B.pre
  have hown : s.vm.findClass RX5 = some m.cls := findClass_of_methodNamed B.named
  have hlocks := B.notSynchronized
  have hinX5 : ∀ w ∈ wsX50, w ∈ wsX5_leastHarmful := by decide +kernel
  have hinX0 : ∀ w ∈ wsX00, w ∈ wsX5_leastHarmful := by decide +kernel
  refine opq (d_X5_leastHarmful F m_ n) (fun R hres => ?_)
  rw [hres]
  replace hres := hres.symm
  rw [d_X5_leastHarmful] at hres
  have hl := lv_entry ([.ref (a 0), .int m_]) (n := 11) (Nat.le_of_ble_eq_true rfl)
  rw [lg_entry_eq]
  generalize (lg_sl ([.ref (a 0), .int m_]) ++ List.replicate (11 - (lg_sl ([.ref (a 0), .int m_])).length) Slot.unset).toArray = ls at hl ⊢
  have hl : lv_has ls 11 [(0, .ref (a 0)), (1, .int m_)] := hl
  refine lv_aload_n hx hb dX5_leastHarmful_0 rfl (lv_at hl 0 rfl) ?_
  have hPc := hP.sub (ws' := (wXC cI cC cZ cS a b (F 1) (F 2) (F 3) (F 4) (F 11) tc)) [0, 1, 2, 3, 4, 11] rfl
  have hDc := hD.sub (ws' := (wXC cI cC cZ cS a b (F 1) (F 2) (F 3) (F 4) (F 11) tc)) [0, 1, 2, 3, 4, 11] (by decide) rfl
  refine m_callR (W.runV (As := []) (rest := []) ⟨hx, hb, hml, hown, hts⟩ (c_X5_ableNow l D cI cC cZ cS a b (F 1) (F 2) (F 3) (F 4) (F 11) tc n hn h7) (cwV 0 hts gX5_leastHarmful_X5_ableNow rfl rfl rfl (by decide +kernel) ⟨Nat.le_of_ble_eq_true rfl, Nat.le_of_ble_eq_true rfl⟩) (preV_of hPc hDc hE (va_recv hK hPc (ci := 5) (q0 := 0) rfl rfl)) rfl rfl hl.1 rfl (lv_room (Nat.le_of_ble_eq_true rfl)) dX5_leastHarmful_1 ⟨Nat.zero_le _, Nat.zero_le _⟩) ?_
  refine W.eq (g2 := F0 m 4 ls [.int (d_X5_ableNow (F 2) (F 4) (F 11) n)]) rfl ?_
  refine lv_istore_n (lv' := [(2, .int (d_X5_ableNow (F 2) (F 4) (F 11) n)), (0, .ref (a 0)), (1, .int m_)]) hx hb dX5_leastHarmful_4 rfl hl (by decide) rfl (fun ls hl => ?_)
  refine lv_aload_n hx hb dX5_leastHarmful_5 rfl (lv_at hl 1 rfl) ?_
  have hPc := hP.sub (ws' := (wXC cI cC cZ cS a b (F 1) (F 2) (F 3) (F 4) (F 11) tc)) [0, 1, 2, 3, 4, 11] rfl
  have hDc := hD.sub (ws' := (wXC cI cC cZ cS a b (F 1) (F 2) (F 3) (F 4) (F 11) tc)) [0, 1, 2, 3, 4, 11] (by decide) rfl
  refine m_callR (W.runV (As := []) (rest := []) ⟨hx, hb, hml, hown, hts⟩ (c_X5_coveredNow l D cI cC cZ cS a b (F 1) (F 2) (F 3) (F 4) (F 11) tc n hn h7) (cwV 0 hts gX5_leastHarmful_X5_coveredNow rfl rfl rfl (by decide +kernel) ⟨Nat.le_of_ble_eq_true rfl, Nat.le_of_ble_eq_true rfl⟩) (preV_of hPc hDc hE (va_recv hK hPc (ci := 5) (q0 := 0) rfl rfl)) rfl rfl hl.1 rfl (lv_room (Nat.le_of_ble_eq_true rfl)) dX5_leastHarmful_6 ⟨Nat.zero_le _, Nat.zero_le _⟩) ?_
  refine W.eq (g2 := F0 m 9 ls [.int (d_X5_coveredNow (F 2) (F 11) n)]) rfl ?_
  refine lv_istore_n (lv' := [(3, .int (d_X5_coveredNow (F 2) (F 11) n)), (2, .int (d_X5_ableNow (F 2) (F 4) (F 11) n)), (0, .ref (a 0)), (1, .int m_)]) hx hb dX5_leastHarmful_9 rfl hl (by decide) rfl (fun ls hl => ?_)
  refine lv_iconst (v := 0) hx hb dX5_leastHarmful_10 (by decide) ?_
  refine lv_istore (lv' := [(4, .int 0), (3, .int (d_X5_coveredNow (F 2) (F 11) n)), (2, .int (d_X5_ableNow (F 2) (F 4) (F 11) n)), (0, .ref (a 0)), (1, .int m_)]) hx hb dX5_leastHarmful_11 hl (by decide) rfl (fun ls hl => ?_)
  refine lv_aload_n hx hb dX5_leastHarmful_13 rfl (lv_at hl 3 rfl) ?_
  refine va_get (D := D) (ci := 5) (v := .ref (a 1)) (C := RX5) (T := TX5) (N := 10) hx hb hts hinX5 hown hK hP 0 rfl rfl 0 (by decide) (hts (.fieldLink RX5 10 "FirstOut" "home" "LFirstOut$House;") (by decide +kernel)) (fun _ h9 => h9) rfl dX5_leastHarmful_14 ?_
  refine lv_iload_n hx hb dX5_leastHarmful_17 rfl (lv_at hl 2 rfl) ?_
  refine lv_iload_n hx hb dX5_leastHarmful_18 rfl (lv_at hl 1 rfl) ?_
  have hPc := hP.sub (ws' := (wH cI cC cZ cS (a 1) (a 2) (a 3) (a 4) (F 1) (F 2) (F 3) (F 4))) [1, 2, 3, 4] rfl
  have hDc := hD.sub (ws' := (wH cI cC cZ cS (a 1) (a 2) (a 3) (a 4) (F 1) (F 2) (F 3) (F 4))) [1, 2, 3, 4] (by decide) rfl
  refine m_callR (W.runV (As := [.int (d_X5_ableNow (F 2) (F 4) (F 11) n), .int (d_X5_coveredNow (F 2) (F 11) n)]) (rest := []) ⟨hx, hb, hml, hown, hts⟩ (c_X0_harmUpper l D cI cC cZ cS (a 1) (a 2) (a 3) (a 4) (F 1) (F 2) (F 3) (F 4) (d_X5_ableNow (F 2) (F 4) (F 11) n) (d_X5_coveredNow (F 2) (F 11) n) n hn h7) (cwV 2 hts gX5_leastHarmful_X0_harmUpper rfl rfl rfl (by decide +kernel) ⟨Nat.le_of_ble_eq_true rfl, Nat.le_of_ble_eq_true rfl⟩) (preV_of hPc hDc hE (va_recv hK hPc (ci := 0) (q0 := 0) rfl rfl)) rfl rfl hl.1 rfl (lv_room (Nat.le_of_ble_eq_true rfl)) dX5_leastHarmful_19 ⟨Nat.zero_le _, Nat.zero_le _⟩) ?_
  refine W.eq (g2 := F0 m 22 ls [.int (d_X0_harmUpper (F 3) (F 4) (d_X5_ableNow (F 2) (F 4) (F 11) n) (d_X5_coveredNow (F 2) (F 11) n) n)]) rfl ?_
  refine lv_istore (lv' := [(5, .int (d_X0_harmUpper (F 3) (F 4) (d_X5_ableNow (F 2) (F 4) (F 11) n) (d_X5_coveredNow (F 2) (F 11) n) n)), (4, .int 0), (3, .int (d_X5_coveredNow (F 2) (F 11) n)), (2, .int (d_X5_ableNow (F 2) (F 4) (F 11) n)), (0, .ref (a 0)), (1, .int m_)]) hx hb dX5_leastHarmful_22 hl (by decide) rfl (fun ls hl => ?_)
  refine lv_aload_n hx hb dX5_leastHarmful_24 rfl (lv_at hl 4 rfl) ?_
  refine va_get (D := D) (ci := 5) (v := .ref (a 1)) (C := RX5) (T := TX5) (N := 10) hx hb hts hinX5 hown hK hP 0 rfl rfl 0 (by decide) (hts (.fieldLink RX5 10 "FirstOut" "home" "LFirstOut$House;") (by decide +kernel)) (fun _ h9 => h9) rfl dX5_leastHarmful_25 ?_
  refine lv_iload_n hx hb dX5_leastHarmful_28 rfl (lv_at hl 3 rfl) ?_
  have hPc := hP.sub (ws' := (wH cI cC cZ cS (a 1) (a 2) (a 3) (a 4) (F 1) (F 2) (F 3) (F 4))) [1, 2, 3, 4] rfl
  have hDc := hD.sub (ws' := (wH cI cC cZ cS (a 1) (a 2) (a 3) (a 4) (F 1) (F 2) (F 3) (F 4))) [1, 2, 3, 4] (by decide) rfl
  refine m_callR (W.runV (As := [.int (d_X5_ableNow (F 2) (F 4) (F 11) n)]) (rest := []) ⟨hx, hb, hml, hown, hts⟩ (c_X0_shares l D cI cC cZ cS (a 1) (a 2) (a 3) (a 4) (F 1) (F 2) (F 3) (F 4) (d_X5_ableNow (F 2) (F 4) (F 11) n) n hn h7) (cwV 1 hts gX5_leastHarmful_X0_shares rfl rfl rfl (by decide +kernel) ⟨Nat.le_of_ble_eq_true rfl, Nat.le_of_ble_eq_true rfl⟩) (preV_of hPc hDc hE (va_recv hK hPc (ci := 0) (q0 := 0) rfl rfl)) rfl rfl hl.1 rfl (lv_room (Nat.le_of_ble_eq_true rfl)) dX5_leastHarmful_29 ⟨Nat.zero_le _, Nat.zero_le _⟩) ?_
  refine W.eq (g2 := F0 m 32 ls [.int (d_X0_shares (F 4) (d_X5_ableNow (F 2) (F 4) (F 11) n) n)]) rfl ?_
  refine lv_istore (lv' := [(6, .int (d_X0_shares (F 4) (d_X5_ableNow (F 2) (F 4) (F 11) n) n)), (5, .int (d_X0_harmUpper (F 3) (F 4) (d_X5_ableNow (F 2) (F 4) (F 11) n) (d_X5_coveredNow (F 2) (F 11) n) n)), (4, .int 0), (3, .int (d_X5_coveredNow (F 2) (F 11) n)), (2, .int (d_X5_ableNow (F 2) (F 4) (F 11) n)), (0, .ref (a 0)), (1, .int m_)]) hx hb dX5_leastHarmful_32 hl (by decide) rfl (fun ls hl => ?_)
  refine lv_iconst (v := 1) hx hb dX5_leastHarmful_34 (by decide) ?_
  refine lv_istore (lv' := [(7, .int 1), (6, .int (d_X0_shares (F 4) (d_X5_ableNow (F 2) (F 4) (F 11) n) n)), (5, .int (d_X0_harmUpper (F 3) (F 4) (d_X5_ableNow (F 2) (F 4) (F 11) n) (d_X5_coveredNow (F 2) (F 11) n) n)), (4, .int 0), (3, .int (d_X5_coveredNow (F 2) (F 11) n)), (2, .int (d_X5_ableNow (F 2) (F 4) (F 11) n)), (0, .ref (a 0)), (1, .int m_)]) hx hb dX5_leastHarmful_35 hl (by decide) rfl (fun ls hl => ?_)
  have loop37 : ∀ (k37 : Nat) (i : Nat) (best : Int32) (bu : Int32) (bl : Int32), 2 ^ n - i < k37 → i ≤ 2 ^ n → R = lp_X5_leastHarmful_37 F m_ n k37 i best bu bl → ∀ ls : Array Slot, lv_has ls 11 [(0, .ref (a 0)), (1, .int m_), (2, .int (d_X5_ableNow (F 2) (F 4) (F 11) n)), (3, .int (d_X5_coveredNow (F 2) (F 11) n)), (4, .int best), (5, .int bu), (6, .int bl), (7, .int (nI i))] → W p l e (headSpec wsX5_leastHarmful { frames := 4, cells := 0, slots := 0, locals := 88 }).room s m (([.ref (a 0), .int m_] : List Value).toArray) below meth c s.heap [] 0 0 (MQ below (QcR (some (.int R))) (([.ref (a 0), .int m_] : List Value).toArray) s 0 0 (fun _ => False)) (F0 m 37 ls []) := by
    intro k37
    induction k37 with
    | zero => intro i best bu bl hk; exact absurd hk (Nat.not_lt_zero _)
    | succ k37 ih37 =>
      intro i best bu bl hk37 hi hres ls hl
      rw [lp_X5_leastHarmful_37] at hres
      refine lv_iload hx hb dX5_leastHarmful_37 (lv_at hl 7 rfl) ?_
      refine lv_iconst (v := 1) hx hb dX5_leastHarmful_39 (by decide) ?_
      refine lv_aload_n hx hb dX5_leastHarmful_40 rfl (lv_at hl 0 rfl) ?_
      refine va_get (D := D) (ci := 5) (v := .ref (a 1)) (C := RX5) (T := TX5) (N := 10) hx hb hts hinX5 hown hK hP 0 rfl rfl 0 (by decide) (hts (.fieldLink RX5 10 "FirstOut" "home" "LFirstOut$House;") (by decide +kernel)) (fun _ h9 => h9) rfl dX5_leastHarmful_41 ?_
      refine va_get (D := D) (ci := 0) (v := .int (F 1 3)) (C := RX0) (T := TX0) (N := 9) hx hb hts hinX0 hown hK hP 1 rfl rfl 3 (by decide) (hts (.fieldLink RX5 171 "FirstOut$House" "things" "I") (by decide +kernel)) (fun _ h9 => h9) rfl dX5_leastHarmful_44 ?_
      refine lv_to (show (F 1 3) = nI n from hn) ?_
      refine lv_ishl hx hb dX5_leastHarmful_47 ?_
      refine lv_to (show ((1 : Int32) <<< ((nI n) &&& 31)) = nI (2 ^ n) from (sh_n h7)) ?_
      refine lv_icmp_ge (tgt := 159) hx hb dX5_leastHarmful_48 (by decide) (fun c_1 => ?_) (fun c_1 => ?_)
      · skip
        rw [if_pos c_1] at hres
        refine lv_iload hx hb dX5_leastHarmful_159 (lv_at hl 4 rfl) ?_
        rw [hres]
        exact W.iret (v := best) hx hb hr (fun t ht hW => ⟨rfl, ht⟩) (fun _ h => by cases h) dX5_leastHarmful_161
      · skip
        rw [if_neg c_1] at hres
        have hlt : i < 2 ^ n := nlt_of c_1 (lt31 h7 hi) (lt31 h7 (Nat.le_refl _))
        refine lv_iload hx hb dX5_leastHarmful_51 (lv_at hl 7 rfl) ?_
        refine lv_iload_n hx hb dX5_leastHarmful_53 rfl (lv_at hl 2 rfl) ?_
        refine lv_iconst (v := (-1)) hx hb dX5_leastHarmful_54 (by decide) ?_
        refine lv_ixor hx hb dX5_leastHarmful_55 ?_
        refine lv_iand hx hb dX5_leastHarmful_56 ?_
        refine lv_if_ne (tgt := 153) hx hb dX5_leastHarmful_57 (by decide) (fun c_2 => ?_) (fun c_2 => ?_)
        · skip
          rw [if_neg c_2] at hres
          refine lv_iinc (v := nI (i + 1)) (lv' := [(7, .int (nI (i + 1))), (0, .ref (a 0)), (1, .int m_), (2, .int (d_X5_ableNow (F 2) (F 4) (F 11) n)), (3, .int (d_X5_coveredNow (F 2) (F 11) n)), (4, .int best), (5, .int bu), (6, .int bl)]) hx hb dX5_leastHarmful_153 hl (k := 7) rfl ((nI_add i 1)) (by decide) rfl (fun ls hl => ?_)
          refine lv_goto (tgt := 37) hx hb dX5_leastHarmful_156 (by decide) ?_
          exact ih37 (i + 1) best bu bl (by omega) hlt hres ls (lv_sub hl [1, 2, 3, 4, 5, 6, 7, 0] rfl)
        · skip
          rw [if_pos c_2] at hres
          refine lv_iload hx hb dX5_leastHarmful_60 (lv_at hl 7 rfl) ?_
          have hPc := hP.sub (ws' := []) [] rfl
          have hDc := hD.sub (ws' := []) [] (by decide) rfl
          refine m_callR (W.runS (As := [.int (nI i)]) (rest := []) ⟨hx, hb, hml, hown, hts⟩ (c_J6_bitCount_0f7a4 l D cI cC cZ cS (nI i)) (va_cwS 1 hts gX5_leastHarmful_J6_bitCount_0f7a4 rfl rfl rfl (by decide +kernel) ⟨Nat.le_of_ble_eq_true rfl, Nat.le_of_ble_eq_true rfl⟩) (preS_of hPc hDc hE) rfl rfl hl.1 rfl (lv_room (Nat.le_of_ble_eq_true rfl)) dX5_leastHarmful_62 ⟨Nat.zero_le _, Nat.zero_le _⟩) ?_
          refine W.eq (g2 := F0 m 65 ls [.int (d_J6_bitCount_0f7a4 (nI i))]) rfl ?_
          refine lv_iload_n hx hb dX5_leastHarmful_65 rfl (lv_at hl 1 rfl) ?_
          refine lv_icmp_le (tgt := 72) hx hb dX5_leastHarmful_66 (by decide) (fun c_3 => ?_) (fun c_3 => ?_)
          · skip
            rw [if_pos c_3] at hres
            refine lv_aload_n hx hb dX5_leastHarmful_72 rfl (lv_at hl 0 rfl) ?_
            refine va_get (D := D) (ci := 5) (v := .ref (a 1)) (C := RX5) (T := TX5) (N := 10) hx hb hts hinX5 hown hK hP 0 rfl rfl 0 (by decide) (hts (.fieldLink RX5 10 "FirstOut" "home" "LFirstOut$House;") (by decide +kernel)) (fun _ h9 => h9) rfl dX5_leastHarmful_73 ?_
            refine lv_iload_n hx hb dX5_leastHarmful_76 rfl (lv_at hl 2 rfl) ?_
            refine lv_iload hx hb dX5_leastHarmful_77 (lv_at hl 7 rfl) ?_
            refine lv_iconst (v := (-1)) hx hb dX5_leastHarmful_79 (by decide) ?_
            refine lv_ixor hx hb dX5_leastHarmful_80 ?_
            refine lv_iand hx hb dX5_leastHarmful_81 ?_
            refine lv_iload_n hx hb dX5_leastHarmful_82 rfl (lv_at hl 3 rfl) ?_
            have hPc := hP.sub (ws' := (wH cI cC cZ cS (a 1) (a 2) (a 3) (a 4) (F 1) (F 2) (F 3) (F 4))) [1, 2, 3, 4] rfl
            have hDc := hD.sub (ws' := (wH cI cC cZ cS (a 1) (a 2) (a 3) (a 4) (F 1) (F 2) (F 3) (F 4))) [1, 2, 3, 4] (by decide) rfl
            refine m_callR (W.runV (As := [.int ((d_X5_ableNow (F 2) (F 4) (F 11) n) &&& ((nI i) ^^^ (-1 : Int32))), .int (d_X5_coveredNow (F 2) (F 11) n)]) (rest := []) ⟨hx, hb, hml, hown, hts⟩ (c_X0_harmUpper l D cI cC cZ cS (a 1) (a 2) (a 3) (a 4) (F 1) (F 2) (F 3) (F 4) ((d_X5_ableNow (F 2) (F 4) (F 11) n) &&& ((nI i) ^^^ (-1 : Int32))) (d_X5_coveredNow (F 2) (F 11) n) n hn h7) (cwV 2 hts gX5_leastHarmful_X0_harmUpper rfl rfl rfl (by decide +kernel) ⟨Nat.le_of_ble_eq_true rfl, Nat.le_of_ble_eq_true rfl⟩) (preV_of hPc hDc hE (va_recv hK hPc (ci := 0) (q0 := 0) rfl rfl)) rfl rfl hl.1 rfl (lv_room (Nat.le_of_ble_eq_true rfl)) dX5_leastHarmful_83 ⟨Nat.zero_le _, Nat.zero_le _⟩) ?_
            refine W.eq (g2 := F0 m 86 ls [.int (d_X0_harmUpper (F 3) (F 4) ((d_X5_ableNow (F 2) (F 4) (F 11) n) &&& ((nI i) ^^^ (-1 : Int32))) (d_X5_coveredNow (F 2) (F 11) n) n)]) rfl ?_
            refine lv_istore (lv' := [(8, .int (d_X0_harmUpper (F 3) (F 4) ((d_X5_ableNow (F 2) (F 4) (F 11) n) &&& ((nI i) ^^^ (-1 : Int32))) (d_X5_coveredNow (F 2) (F 11) n) n)), (0, .ref (a 0)), (1, .int m_), (2, .int (d_X5_ableNow (F 2) (F 4) (F 11) n)), (3, .int (d_X5_coveredNow (F 2) (F 11) n)), (4, .int best), (5, .int bu), (6, .int bl), (7, .int (nI i))]) hx hb dX5_leastHarmful_86 hl (by decide) rfl (fun ls hl => ?_)
            refine lv_aload_n hx hb dX5_leastHarmful_88 rfl (lv_at hl 1 rfl) ?_
            refine va_get (D := D) (ci := 5) (v := .ref (a 1)) (C := RX5) (T := TX5) (N := 10) hx hb hts hinX5 hown hK hP 0 rfl rfl 0 (by decide) (hts (.fieldLink RX5 10 "FirstOut" "home" "LFirstOut$House;") (by decide +kernel)) (fun _ h9 => h9) rfl dX5_leastHarmful_89 ?_
            refine lv_iload_n hx hb dX5_leastHarmful_92 rfl (lv_at hl 3 rfl) ?_
            refine lv_iload hx hb dX5_leastHarmful_93 (lv_at hl 8 rfl) ?_
            refine lv_iconst (v := (-1)) hx hb dX5_leastHarmful_95 (by decide) ?_
            refine lv_ixor hx hb dX5_leastHarmful_96 ?_
            refine lv_iand hx hb dX5_leastHarmful_97 ?_
            have hPc := hP.sub (ws' := (wH cI cC cZ cS (a 1) (a 2) (a 3) (a 4) (F 1) (F 2) (F 3) (F 4))) [1, 2, 3, 4] rfl
            have hDc := hD.sub (ws' := (wH cI cC cZ cS (a 1) (a 2) (a 3) (a 4) (F 1) (F 2) (F 3) (F 4))) [1, 2, 3, 4] (by decide) rfl
            refine m_callR (W.runV (As := [.int ((d_X5_ableNow (F 2) (F 4) (F 11) n) &&& ((nI i) ^^^ (-1 : Int32)))]) (rest := []) ⟨hx, hb, hml, hown, hts⟩ (c_X0_shares l D cI cC cZ cS (a 1) (a 2) (a 3) (a 4) (F 1) (F 2) (F 3) (F 4) ((d_X5_ableNow (F 2) (F 4) (F 11) n) &&& ((nI i) ^^^ (-1 : Int32))) n hn h7) (cwV 1 hts gX5_leastHarmful_X0_shares rfl rfl rfl (by decide +kernel) ⟨Nat.le_of_ble_eq_true rfl, Nat.le_of_ble_eq_true rfl⟩) (preV_of hPc hDc hE (va_recv hK hPc (ci := 0) (q0 := 0) rfl rfl)) rfl rfl hl.1 rfl (lv_room (Nat.le_of_ble_eq_true rfl)) dX5_leastHarmful_98 ⟨Nat.zero_le _, Nat.zero_le _⟩) ?_
            refine W.eq (g2 := F0 m 101 ls [.int (d_X0_shares (F 4) ((d_X5_ableNow (F 2) (F 4) (F 11) n) &&& ((nI i) ^^^ (-1 : Int32))) n)]) rfl ?_
            refine lv_istore (lv' := [(9, .int (d_X0_shares (F 4) ((d_X5_ableNow (F 2) (F 4) (F 11) n) &&& ((nI i) ^^^ (-1 : Int32))) n)), (8, .int (d_X0_harmUpper (F 3) (F 4) ((d_X5_ableNow (F 2) (F 4) (F 11) n) &&& ((nI i) ^^^ (-1 : Int32))) (d_X5_coveredNow (F 2) (F 11) n) n)), (0, .ref (a 0)), (1, .int m_), (2, .int (d_X5_ableNow (F 2) (F 4) (F 11) n)), (3, .int (d_X5_coveredNow (F 2) (F 11) n)), (4, .int best), (5, .int bu), (6, .int bl), (7, .int (nI i))]) hx hb dX5_leastHarmful_101 hl (by decide) rfl (fun ls hl => ?_)
            refine lv_iload hx hb dX5_leastHarmful_103 (lv_at hl 1 rfl) ?_
            refine lv_iload hx hb dX5_leastHarmful_105 (lv_at hl 8 rfl) ?_
            refine lv_imul hx hb dX5_leastHarmful_107 ?_
            refine lv_iload hx hb dX5_leastHarmful_108 (lv_at hl 7 rfl) ?_
            refine lv_iload hx hb dX5_leastHarmful_110 (lv_at hl 0 rfl) ?_
            refine lv_imul hx hb dX5_leastHarmful_112 ?_
            have hPc := hP.sub (ws' := []) [] rfl
            have hDc := hD.sub (ws' := []) [] (by decide) rfl
            refine m_callR (W.runS (As := [.int ((d_X0_harmUpper (F 3) (F 4) ((d_X5_ableNow (F 2) (F 4) (F 11) n) &&& ((nI i) ^^^ (-1 : Int32))) (d_X5_coveredNow (F 2) (F 11) n) n) * bl), .int (bu * (d_X0_shares (F 4) ((d_X5_ableNow (F 2) (F 4) (F 11) n) &&& ((nI i) ^^^ (-1 : Int32))) n))]) (rest := []) ⟨hx, hb, hml, hown, hts⟩ (c_J6_compare_7cf53 l D cI cC cZ cS ((d_X0_harmUpper (F 3) (F 4) ((d_X5_ableNow (F 2) (F 4) (F 11) n) &&& ((nI i) ^^^ (-1 : Int32))) (d_X5_coveredNow (F 2) (F 11) n) n) * bl) (bu * (d_X0_shares (F 4) ((d_X5_ableNow (F 2) (F 4) (F 11) n) &&& ((nI i) ^^^ (-1 : Int32))) n))) (va_cwS 2 hts gX5_leastHarmful_J6_compare_7cf53 rfl rfl rfl (by decide +kernel) ⟨Nat.le_of_ble_eq_true rfl, Nat.le_of_ble_eq_true rfl⟩) (preS_of hPc hDc hE) rfl rfl hl.1 rfl (lv_room (Nat.le_of_ble_eq_true rfl)) dX5_leastHarmful_113 ⟨Nat.zero_le _, Nat.zero_le _⟩) ?_
            refine W.eq (g2 := F0 m 116 ls [.int (d_J6_compare_7cf53 ((d_X0_harmUpper (F 3) (F 4) ((d_X5_ableNow (F 2) (F 4) (F 11) n) &&& ((nI i) ^^^ (-1 : Int32))) (d_X5_coveredNow (F 2) (F 11) n) n) * bl) (bu * (d_X0_shares (F 4) ((d_X5_ableNow (F 2) (F 4) (F 11) n) &&& ((nI i) ^^^ (-1 : Int32))) n)))]) rfl ?_
            refine lv_istore (lv' := [(10, .int (d_J6_compare_7cf53 ((d_X0_harmUpper (F 3) (F 4) ((d_X5_ableNow (F 2) (F 4) (F 11) n) &&& ((nI i) ^^^ (-1 : Int32))) (d_X5_coveredNow (F 2) (F 11) n) n) * bl) (bu * (d_X0_shares (F 4) ((d_X5_ableNow (F 2) (F 4) (F 11) n) &&& ((nI i) ^^^ (-1 : Int32))) n)))), (9, .int (d_X0_shares (F 4) ((d_X5_ableNow (F 2) (F 4) (F 11) n) &&& ((nI i) ^^^ (-1 : Int32))) n)), (8, .int (d_X0_harmUpper (F 3) (F 4) ((d_X5_ableNow (F 2) (F 4) (F 11) n) &&& ((nI i) ^^^ (-1 : Int32))) (d_X5_coveredNow (F 2) (F 11) n) n)), (0, .ref (a 0)), (1, .int m_), (2, .int (d_X5_ableNow (F 2) (F 4) (F 11) n)), (3, .int (d_X5_coveredNow (F 2) (F 11) n)), (4, .int best), (5, .int bu), (6, .int bl), (7, .int (nI i))]) hx hb dX5_leastHarmful_116 hl (by decide) rfl (fun ls hl => ?_)
            refine lv_iload hx hb dX5_leastHarmful_118 (lv_at hl 0 rfl) ?_
            refine lv_if_lt (tgt := 141) hx hb dX5_leastHarmful_120 (by decide) (fun c_4 => ?_) (fun c_4 => ?_)
            · skip
              rw [if_pos c_4] at hres
              refine lv_iload hx hb dX5_leastHarmful_141 (lv_at hl 10 rfl) ?_
              refine lv_istore (lv' := [(4, .int (nI i)), (10, .int (d_J6_compare_7cf53 ((d_X0_harmUpper (F 3) (F 4) ((d_X5_ableNow (F 2) (F 4) (F 11) n) &&& ((nI i) ^^^ (-1 : Int32))) (d_X5_coveredNow (F 2) (F 11) n) n) * bl) (bu * (d_X0_shares (F 4) ((d_X5_ableNow (F 2) (F 4) (F 11) n) &&& ((nI i) ^^^ (-1 : Int32))) n)))), (9, .int (d_X0_shares (F 4) ((d_X5_ableNow (F 2) (F 4) (F 11) n) &&& ((nI i) ^^^ (-1 : Int32))) n)), (8, .int (d_X0_harmUpper (F 3) (F 4) ((d_X5_ableNow (F 2) (F 4) (F 11) n) &&& ((nI i) ^^^ (-1 : Int32))) (d_X5_coveredNow (F 2) (F 11) n) n)), (0, .ref (a 0)), (1, .int m_), (2, .int (d_X5_ableNow (F 2) (F 4) (F 11) n)), (3, .int (d_X5_coveredNow (F 2) (F 11) n)), (5, .int bu), (6, .int bl), (7, .int (nI i))]) hx hb dX5_leastHarmful_143 hl (by decide) rfl (fun ls hl => ?_)
              refine lv_iload hx hb dX5_leastHarmful_145 (lv_at hl 3 rfl) ?_
              refine lv_istore (lv' := [(5, .int (d_X0_harmUpper (F 3) (F 4) ((d_X5_ableNow (F 2) (F 4) (F 11) n) &&& ((nI i) ^^^ (-1 : Int32))) (d_X5_coveredNow (F 2) (F 11) n) n)), (4, .int (nI i)), (10, .int (d_J6_compare_7cf53 ((d_X0_harmUpper (F 3) (F 4) ((d_X5_ableNow (F 2) (F 4) (F 11) n) &&& ((nI i) ^^^ (-1 : Int32))) (d_X5_coveredNow (F 2) (F 11) n) n) * bl) (bu * (d_X0_shares (F 4) ((d_X5_ableNow (F 2) (F 4) (F 11) n) &&& ((nI i) ^^^ (-1 : Int32))) n)))), (9, .int (d_X0_shares (F 4) ((d_X5_ableNow (F 2) (F 4) (F 11) n) &&& ((nI i) ^^^ (-1 : Int32))) n)), (8, .int (d_X0_harmUpper (F 3) (F 4) ((d_X5_ableNow (F 2) (F 4) (F 11) n) &&& ((nI i) ^^^ (-1 : Int32))) (d_X5_coveredNow (F 2) (F 11) n) n)), (0, .ref (a 0)), (1, .int m_), (2, .int (d_X5_ableNow (F 2) (F 4) (F 11) n)), (3, .int (d_X5_coveredNow (F 2) (F 11) n)), (6, .int bl), (7, .int (nI i))]) hx hb dX5_leastHarmful_147 hl (by decide) rfl (fun ls hl => ?_)
              refine lv_iload hx hb dX5_leastHarmful_149 (lv_at hl 3 rfl) ?_
              refine lv_istore (lv' := [(6, .int (d_X0_shares (F 4) ((d_X5_ableNow (F 2) (F 4) (F 11) n) &&& ((nI i) ^^^ (-1 : Int32))) n)), (5, .int (d_X0_harmUpper (F 3) (F 4) ((d_X5_ableNow (F 2) (F 4) (F 11) n) &&& ((nI i) ^^^ (-1 : Int32))) (d_X5_coveredNow (F 2) (F 11) n) n)), (4, .int (nI i)), (10, .int (d_J6_compare_7cf53 ((d_X0_harmUpper (F 3) (F 4) ((d_X5_ableNow (F 2) (F 4) (F 11) n) &&& ((nI i) ^^^ (-1 : Int32))) (d_X5_coveredNow (F 2) (F 11) n) n) * bl) (bu * (d_X0_shares (F 4) ((d_X5_ableNow (F 2) (F 4) (F 11) n) &&& ((nI i) ^^^ (-1 : Int32))) n)))), (9, .int (d_X0_shares (F 4) ((d_X5_ableNow (F 2) (F 4) (F 11) n) &&& ((nI i) ^^^ (-1 : Int32))) n)), (8, .int (d_X0_harmUpper (F 3) (F 4) ((d_X5_ableNow (F 2) (F 4) (F 11) n) &&& ((nI i) ^^^ (-1 : Int32))) (d_X5_coveredNow (F 2) (F 11) n) n)), (0, .ref (a 0)), (1, .int m_), (2, .int (d_X5_ableNow (F 2) (F 4) (F 11) n)), (3, .int (d_X5_coveredNow (F 2) (F 11) n)), (7, .int (nI i))]) hx hb dX5_leastHarmful_151 hl (by decide) rfl (fun ls hl => ?_)
              refine lv_iinc (v := nI (i + 1)) (lv' := [(7, .int (nI (i + 1))), (6, .int (d_X0_shares (F 4) ((d_X5_ableNow (F 2) (F 4) (F 11) n) &&& ((nI i) ^^^ (-1 : Int32))) n)), (5, .int (d_X0_harmUpper (F 3) (F 4) ((d_X5_ableNow (F 2) (F 4) (F 11) n) &&& ((nI i) ^^^ (-1 : Int32))) (d_X5_coveredNow (F 2) (F 11) n) n)), (4, .int (nI i)), (10, .int (d_J6_compare_7cf53 ((d_X0_harmUpper (F 3) (F 4) ((d_X5_ableNow (F 2) (F 4) (F 11) n) &&& ((nI i) ^^^ (-1 : Int32))) (d_X5_coveredNow (F 2) (F 11) n) n) * bl) (bu * (d_X0_shares (F 4) ((d_X5_ableNow (F 2) (F 4) (F 11) n) &&& ((nI i) ^^^ (-1 : Int32))) n)))), (9, .int (d_X0_shares (F 4) ((d_X5_ableNow (F 2) (F 4) (F 11) n) &&& ((nI i) ^^^ (-1 : Int32))) n)), (8, .int (d_X0_harmUpper (F 3) (F 4) ((d_X5_ableNow (F 2) (F 4) (F 11) n) &&& ((nI i) ^^^ (-1 : Int32))) (d_X5_coveredNow (F 2) (F 11) n) n)), (0, .ref (a 0)), (1, .int m_), (2, .int (d_X5_ableNow (F 2) (F 4) (F 11) n)), (3, .int (d_X5_coveredNow (F 2) (F 11) n))]) hx hb dX5_leastHarmful_153 hl (k := 10) rfl ((nI_add i 1)) (by decide) rfl (fun ls hl => ?_)
              refine lv_goto (tgt := 37) hx hb dX5_leastHarmful_156 (by decide) ?_
              exact ih37 (i + 1) (nI i) (d_X0_harmUpper (F 3) (F 4) ((d_X5_ableNow (F 2) (F 4) (F 11) n) &&& ((nI i) ^^^ (-1 : Int32))) (d_X5_coveredNow (F 2) (F 11) n) n) (d_X0_shares (F 4) ((d_X5_ableNow (F 2) (F 4) (F 11) n) &&& ((nI i) ^^^ (-1 : Int32))) n) (by omega) hlt hres ls (lv_sub hl [7, 8, 9, 10, 3, 2, 1, 0] rfl)
            · skip
              rw [if_neg c_4] at hres
              refine lv_iload hx hb dX5_leastHarmful_123 (lv_at hl 0 rfl) ?_
              refine lv_if_ne (tgt := 153) hx hb dX5_leastHarmful_125 (by decide) (fun c_5 => ?_) (fun c_5 => ?_)
              · skip
                rw [if_neg c_5] at hres
                refine lv_iinc (v := nI (i + 1)) (lv' := [(7, .int (nI (i + 1))), (10, .int (d_J6_compare_7cf53 ((d_X0_harmUpper (F 3) (F 4) ((d_X5_ableNow (F 2) (F 4) (F 11) n) &&& ((nI i) ^^^ (-1 : Int32))) (d_X5_coveredNow (F 2) (F 11) n) n) * bl) (bu * (d_X0_shares (F 4) ((d_X5_ableNow (F 2) (F 4) (F 11) n) &&& ((nI i) ^^^ (-1 : Int32))) n)))), (9, .int (d_X0_shares (F 4) ((d_X5_ableNow (F 2) (F 4) (F 11) n) &&& ((nI i) ^^^ (-1 : Int32))) n)), (8, .int (d_X0_harmUpper (F 3) (F 4) ((d_X5_ableNow (F 2) (F 4) (F 11) n) &&& ((nI i) ^^^ (-1 : Int32))) (d_X5_coveredNow (F 2) (F 11) n) n)), (0, .ref (a 0)), (1, .int m_), (2, .int (d_X5_ableNow (F 2) (F 4) (F 11) n)), (3, .int (d_X5_coveredNow (F 2) (F 11) n)), (4, .int best), (5, .int bu), (6, .int bl)]) hx hb dX5_leastHarmful_153 hl (k := 10) rfl ((nI_add i 1)) (by decide) rfl (fun ls hl => ?_)
                refine lv_goto (tgt := 37) hx hb dX5_leastHarmful_156 (by decide) ?_
                exact ih37 (i + 1) best bu bl (by omega) hlt hres ls (lv_sub hl [4, 5, 6, 7, 8, 9, 10, 0] rfl)
              · skip
                rw [if_pos c_5] at hres
                refine lv_iload hx hb dX5_leastHarmful_128 (lv_at hl 10 rfl) ?_
                have hPc := hP.sub (ws' := []) [] rfl
                have hDc := hD.sub (ws' := []) [] (by decide) rfl
                refine m_callR (W.runS (As := [.int (nI i)]) (rest := []) ⟨hx, hb, hml, hown, hts⟩ (c_J6_bitCount_0f7a4 l D cI cC cZ cS (nI i)) (va_cwS 1 hts gX5_leastHarmful_J6_bitCount_0f7a4 rfl rfl rfl (by decide +kernel) ⟨Nat.le_of_ble_eq_true rfl, Nat.le_of_ble_eq_true rfl⟩) (preS_of hPc hDc hE) rfl rfl hl.1 rfl (lv_room (Nat.le_of_ble_eq_true rfl)) dX5_leastHarmful_130 ⟨Nat.zero_le _, Nat.zero_le _⟩) ?_
                refine W.eq (g2 := F0 m 133 ls [.int (d_J6_bitCount_0f7a4 (nI i))]) rfl ?_
                refine lv_iload hx hb dX5_leastHarmful_133 (lv_at hl 7 rfl) ?_
                have hPc := hP.sub (ws' := []) [] rfl
                have hDc := hD.sub (ws' := []) [] (by decide) rfl
                refine m_callR (W.runS (As := [.int best]) (rest := [.int (d_J6_bitCount_0f7a4 (nI i))]) ⟨hx, hb, hml, hown, hts⟩ (c_J6_bitCount_0f7a4 l D cI cC cZ cS best) (va_cwS 1 hts gX5_leastHarmful_J6_bitCount_0f7a4 rfl rfl rfl (by decide +kernel) ⟨Nat.le_of_ble_eq_true rfl, Nat.le_of_ble_eq_true rfl⟩) (preS_of hPc hDc hE) rfl rfl hl.1 rfl (lv_room (Nat.le_of_ble_eq_true rfl)) dX5_leastHarmful_135 ⟨Nat.zero_le _, Nat.zero_le _⟩) ?_
                refine W.eq (g2 := F0 m 138 ls [.int (d_J6_bitCount_0f7a4 best), .int (d_J6_bitCount_0f7a4 (nI i))]) rfl ?_
                refine lv_icmp_ge (tgt := 153) hx hb dX5_leastHarmful_138 (by decide) (fun c_6 => ?_) (fun c_6 => ?_)
                · skip
                  rw [if_pos c_6] at hres
                  refine lv_iinc (v := nI (i + 1)) (lv' := [(7, .int (nI (i + 1))), (10, .int (d_J6_compare_7cf53 ((d_X0_harmUpper (F 3) (F 4) ((d_X5_ableNow (F 2) (F 4) (F 11) n) &&& ((nI i) ^^^ (-1 : Int32))) (d_X5_coveredNow (F 2) (F 11) n) n) * bl) (bu * (d_X0_shares (F 4) ((d_X5_ableNow (F 2) (F 4) (F 11) n) &&& ((nI i) ^^^ (-1 : Int32))) n)))), (9, .int (d_X0_shares (F 4) ((d_X5_ableNow (F 2) (F 4) (F 11) n) &&& ((nI i) ^^^ (-1 : Int32))) n)), (8, .int (d_X0_harmUpper (F 3) (F 4) ((d_X5_ableNow (F 2) (F 4) (F 11) n) &&& ((nI i) ^^^ (-1 : Int32))) (d_X5_coveredNow (F 2) (F 11) n) n)), (0, .ref (a 0)), (1, .int m_), (2, .int (d_X5_ableNow (F 2) (F 4) (F 11) n)), (3, .int (d_X5_coveredNow (F 2) (F 11) n)), (4, .int best), (5, .int bu), (6, .int bl)]) hx hb dX5_leastHarmful_153 hl (k := 10) rfl ((nI_add i 1)) (by decide) rfl (fun ls hl => ?_)
                  refine lv_goto (tgt := 37) hx hb dX5_leastHarmful_156 (by decide) ?_
                  exact ih37 (i + 1) best bu bl (by omega) hlt hres ls (lv_sub hl [4, 5, 6, 7, 8, 9, 10, 0] rfl)
                · skip
                  rw [if_neg c_6] at hres
                  refine lv_iload hx hb dX5_leastHarmful_141 (lv_at hl 10 rfl) ?_
                  refine lv_istore (lv' := [(4, .int (nI i)), (10, .int (d_J6_compare_7cf53 ((d_X0_harmUpper (F 3) (F 4) ((d_X5_ableNow (F 2) (F 4) (F 11) n) &&& ((nI i) ^^^ (-1 : Int32))) (d_X5_coveredNow (F 2) (F 11) n) n) * bl) (bu * (d_X0_shares (F 4) ((d_X5_ableNow (F 2) (F 4) (F 11) n) &&& ((nI i) ^^^ (-1 : Int32))) n)))), (9, .int (d_X0_shares (F 4) ((d_X5_ableNow (F 2) (F 4) (F 11) n) &&& ((nI i) ^^^ (-1 : Int32))) n)), (8, .int (d_X0_harmUpper (F 3) (F 4) ((d_X5_ableNow (F 2) (F 4) (F 11) n) &&& ((nI i) ^^^ (-1 : Int32))) (d_X5_coveredNow (F 2) (F 11) n) n)), (0, .ref (a 0)), (1, .int m_), (2, .int (d_X5_ableNow (F 2) (F 4) (F 11) n)), (3, .int (d_X5_coveredNow (F 2) (F 11) n)), (5, .int bu), (6, .int bl), (7, .int (nI i))]) hx hb dX5_leastHarmful_143 hl (by decide) rfl (fun ls hl => ?_)
                  refine lv_iload hx hb dX5_leastHarmful_145 (lv_at hl 3 rfl) ?_
                  refine lv_istore (lv' := [(5, .int (d_X0_harmUpper (F 3) (F 4) ((d_X5_ableNow (F 2) (F 4) (F 11) n) &&& ((nI i) ^^^ (-1 : Int32))) (d_X5_coveredNow (F 2) (F 11) n) n)), (4, .int (nI i)), (10, .int (d_J6_compare_7cf53 ((d_X0_harmUpper (F 3) (F 4) ((d_X5_ableNow (F 2) (F 4) (F 11) n) &&& ((nI i) ^^^ (-1 : Int32))) (d_X5_coveredNow (F 2) (F 11) n) n) * bl) (bu * (d_X0_shares (F 4) ((d_X5_ableNow (F 2) (F 4) (F 11) n) &&& ((nI i) ^^^ (-1 : Int32))) n)))), (9, .int (d_X0_shares (F 4) ((d_X5_ableNow (F 2) (F 4) (F 11) n) &&& ((nI i) ^^^ (-1 : Int32))) n)), (8, .int (d_X0_harmUpper (F 3) (F 4) ((d_X5_ableNow (F 2) (F 4) (F 11) n) &&& ((nI i) ^^^ (-1 : Int32))) (d_X5_coveredNow (F 2) (F 11) n) n)), (0, .ref (a 0)), (1, .int m_), (2, .int (d_X5_ableNow (F 2) (F 4) (F 11) n)), (3, .int (d_X5_coveredNow (F 2) (F 11) n)), (6, .int bl), (7, .int (nI i))]) hx hb dX5_leastHarmful_147 hl (by decide) rfl (fun ls hl => ?_)
                  refine lv_iload hx hb dX5_leastHarmful_149 (lv_at hl 3 rfl) ?_
                  refine lv_istore (lv' := [(6, .int (d_X0_shares (F 4) ((d_X5_ableNow (F 2) (F 4) (F 11) n) &&& ((nI i) ^^^ (-1 : Int32))) n)), (5, .int (d_X0_harmUpper (F 3) (F 4) ((d_X5_ableNow (F 2) (F 4) (F 11) n) &&& ((nI i) ^^^ (-1 : Int32))) (d_X5_coveredNow (F 2) (F 11) n) n)), (4, .int (nI i)), (10, .int (d_J6_compare_7cf53 ((d_X0_harmUpper (F 3) (F 4) ((d_X5_ableNow (F 2) (F 4) (F 11) n) &&& ((nI i) ^^^ (-1 : Int32))) (d_X5_coveredNow (F 2) (F 11) n) n) * bl) (bu * (d_X0_shares (F 4) ((d_X5_ableNow (F 2) (F 4) (F 11) n) &&& ((nI i) ^^^ (-1 : Int32))) n)))), (9, .int (d_X0_shares (F 4) ((d_X5_ableNow (F 2) (F 4) (F 11) n) &&& ((nI i) ^^^ (-1 : Int32))) n)), (8, .int (d_X0_harmUpper (F 3) (F 4) ((d_X5_ableNow (F 2) (F 4) (F 11) n) &&& ((nI i) ^^^ (-1 : Int32))) (d_X5_coveredNow (F 2) (F 11) n) n)), (0, .ref (a 0)), (1, .int m_), (2, .int (d_X5_ableNow (F 2) (F 4) (F 11) n)), (3, .int (d_X5_coveredNow (F 2) (F 11) n)), (7, .int (nI i))]) hx hb dX5_leastHarmful_151 hl (by decide) rfl (fun ls hl => ?_)
                  refine lv_iinc (v := nI (i + 1)) (lv' := [(7, .int (nI (i + 1))), (6, .int (d_X0_shares (F 4) ((d_X5_ableNow (F 2) (F 4) (F 11) n) &&& ((nI i) ^^^ (-1 : Int32))) n)), (5, .int (d_X0_harmUpper (F 3) (F 4) ((d_X5_ableNow (F 2) (F 4) (F 11) n) &&& ((nI i) ^^^ (-1 : Int32))) (d_X5_coveredNow (F 2) (F 11) n) n)), (4, .int (nI i)), (10, .int (d_J6_compare_7cf53 ((d_X0_harmUpper (F 3) (F 4) ((d_X5_ableNow (F 2) (F 4) (F 11) n) &&& ((nI i) ^^^ (-1 : Int32))) (d_X5_coveredNow (F 2) (F 11) n) n) * bl) (bu * (d_X0_shares (F 4) ((d_X5_ableNow (F 2) (F 4) (F 11) n) &&& ((nI i) ^^^ (-1 : Int32))) n)))), (9, .int (d_X0_shares (F 4) ((d_X5_ableNow (F 2) (F 4) (F 11) n) &&& ((nI i) ^^^ (-1 : Int32))) n)), (8, .int (d_X0_harmUpper (F 3) (F 4) ((d_X5_ableNow (F 2) (F 4) (F 11) n) &&& ((nI i) ^^^ (-1 : Int32))) (d_X5_coveredNow (F 2) (F 11) n) n)), (0, .ref (a 0)), (1, .int m_), (2, .int (d_X5_ableNow (F 2) (F 4) (F 11) n)), (3, .int (d_X5_coveredNow (F 2) (F 11) n))]) hx hb dX5_leastHarmful_153 hl (k := 10) rfl ((nI_add i 1)) (by decide) rfl (fun ls hl => ?_)
                  refine lv_goto (tgt := 37) hx hb dX5_leastHarmful_156 (by decide) ?_
                  exact ih37 (i + 1) (nI i) (d_X0_harmUpper (F 3) (F 4) ((d_X5_ableNow (F 2) (F 4) (F 11) n) &&& ((nI i) ^^^ (-1 : Int32))) (d_X5_coveredNow (F 2) (F 11) n) n) (d_X0_shares (F 4) ((d_X5_ableNow (F 2) (F 4) (F 11) n) &&& ((nI i) ^^^ (-1 : Int32))) n) (by omega) hlt hres ls (lv_sub hl [7, 8, 9, 10, 3, 2, 1, 0] rfl)
          · skip
            rw [if_neg c_3] at hres
            refine lv_goto (tgt := 153) hx hb dX5_leastHarmful_69 (by decide) ?_
            refine lv_iinc (v := nI (i + 1)) (lv' := [(7, .int (nI (i + 1))), (0, .ref (a 0)), (1, .int m_), (2, .int (d_X5_ableNow (F 2) (F 4) (F 11) n)), (3, .int (d_X5_coveredNow (F 2) (F 11) n)), (4, .int best), (5, .int bu), (6, .int bl)]) hx hb dX5_leastHarmful_153 hl (k := 7) rfl ((nI_add i 1)) (by decide) rfl (fun ls hl => ?_)
            refine lv_goto (tgt := 37) hx hb dX5_leastHarmful_156 (by decide) ?_
            exact ih37 (i + 1) best bu bl (by omega) hlt hres ls (lv_sub hl [1, 2, 3, 4, 5, 6, 7, 0] rfl)
  exact loop37 (2 ^ n) 1 0 (d_X0_harmUpper (F 3) (F 4) (d_X5_ableNow (F 2) (F 4) (F 11) n) (d_X5_coveredNow (F 2) (F 11) n) n) (d_X0_shares (F 4) (d_X5_ableNow (F 2) (F 4) (F 11) n) n) (by have := Nat.one_le_two_pow (n := n); omega) Nat.one_le_two_pow hres ls (lv_sub hl [6, 7, 5, 4, 3, 2, 1, 0] rfl)
def d_X5_shut (F : Nat → Nat → Int32) (m_ : Int32) (what : Int32) (n : Nat) : Int32 :=
  if m_ < 0 then
      (-1)
    else
      if (7 : Int32) < m_ then
        (-1)
      else
        if what < 0 then
          (-1)
        else
          if what ≤ (2 : Int32) then
            if what = 0 then
              d_X5_leastHarmful F m_ n
            else
              d_X5_partOf (d_X0_harmUpper (F 3) (F 4) ((d_X5_ableNow (F 2) (F 4) (F 11) n) &&& ((d_X5_leastHarmful F m_ n) ^^^ (-1 : Int32))) (d_X5_coveredNow (F 2) (F 11) n) n) (d_X0_shares (F 4) ((d_X5_ableNow (F 2) (F 4) (F 11) n) &&& ((d_X5_leastHarmful F m_ n) ^^^ (-1 : Int32))) n) (what - (1 : Int32))
          else
            (-1)
set_option maxHeartbeats 4000000 in
set_option maxRecDepth 100000 in
theorem c_X5_shut (l : Launch) (D : va_G) (cI cC cZ cS : ClassId) (a : Nat → Nat) (b : Nat → Nat) (F : Nat → Nat → Int32) (tc : Int64) (m_ : Int32) (what : Int32) (n : Nat) (hn : F 1 3 = nI n) (h7 : n ≤ 7) : Met l yX5_shut wsX5_shut { frames := 5, cells := 0, slots := 0, locals := 118 } (PcE D cI cC cZ cS [.ref (a 0), .int m_, .int what] (wF cI cC cZ cS a b F tc)) (QcR (some (.int (d_X5_shut F m_ what n)))) 0 0 (fun _ => False) := by
  refine Met.ofW (cc := cX5_shut) (maxL := 5) (ret := (some .int)) (by decide) rfl ?_
  intro p e s m args below meth c s₁ B hml hv
  obtain ⟨rfl, hP, hD, hE⟩ := hv
  have hK := hE.1
  have hx := B.exec
  have hb := B.bytes
  have hr := B.returns
  have hts := atoms_spec (ws := wsX5_shut) B.pre
  have hown : s.vm.findClass RX5 = some m.cls := findClass_of_methodNamed B.named
  have hlocks := B.notSynchronized
  have hinX5 : ∀ w ∈ wsX50, w ∈ wsX5_shut := by decide +kernel
  refine opq (d_X5_shut F m_ what n) (fun R hres => ?_)
  rw [hres]
  replace hres := hres.symm
  rw [d_X5_shut] at hres
  have hl := lv_entry ([.ref (a 0), .int m_, .int what]) (n := 5) (Nat.le_of_ble_eq_true rfl)
  rw [lg_entry_eq]
  generalize (lg_sl ([.ref (a 0), .int m_, .int what]) ++ List.replicate (5 - (lg_sl ([.ref (a 0), .int m_, .int what])).length) Slot.unset).toArray = ls at hl ⊢
  have hl : lv_has ls 5 [(0, .ref (a 0)), (1, .int m_), (2, .int what)] := hl
  refine lv_iload_n hx hb dX5_shut_0 rfl (lv_at hl 1 rfl) ?_
  refine lv_if_lt (tgt := 19) hx hb dX5_shut_1 (by decide) (fun c_1 => ?_) (fun c_1 => ?_)
  · skip
    rw [if_pos c_1] at hres
    refine lv_iconst (v := (-1)) hx hb dX5_shut_19 (by decide) ?_
    rw [hres]
    exact W.iret (v := (-1)) hx hb hr (fun t ht hW => ⟨rfl, ht⟩) (fun _ h => by cases h) dX5_shut_20
  · skip
    rw [if_neg c_1] at hres
    refine lv_iload_n hx hb dX5_shut_4 rfl (lv_at hl 1 rfl) ?_
    refine lv_bipush (v := 7) hx hb dX5_shut_5 (by decide) ?_
    refine lv_icmp_gt (tgt := 19) hx hb dX5_shut_7 (by decide) (fun c_2 => ?_) (fun c_2 => ?_)
    · skip
      rw [if_pos c_2] at hres
      refine lv_iconst (v := (-1)) hx hb dX5_shut_19 (by decide) ?_
      rw [hres]
      exact W.iret (v := (-1)) hx hb hr (fun t ht hW => ⟨rfl, ht⟩) (fun _ h => by cases h) dX5_shut_20
    · skip
      rw [if_neg c_2] at hres
      refine lv_iload_n hx hb dX5_shut_10 rfl (lv_at hl 2 rfl) ?_
      refine lv_if_lt (tgt := 19) hx hb dX5_shut_11 (by decide) (fun c_3 => ?_) (fun c_3 => ?_)
      · skip
        rw [if_pos c_3] at hres
        refine lv_iconst (v := (-1)) hx hb dX5_shut_19 (by decide) ?_
        rw [hres]
        exact W.iret (v := (-1)) hx hb hr (fun t ht hW => ⟨rfl, ht⟩) (fun _ h => by cases h) dX5_shut_20
      · skip
        rw [if_neg c_3] at hres
        refine lv_iload_n hx hb dX5_shut_14 rfl (lv_at hl 2 rfl) ?_
        refine lv_iconst (v := 2) hx hb dX5_shut_15 (by decide) ?_
        refine lv_icmp_le (tgt := 21) hx hb dX5_shut_16 (by decide) (fun c_4 => ?_) (fun c_4 => ?_)
        · skip
          rw [if_pos c_4] at hres
          refine lv_aload_n hx hb dX5_shut_21 rfl (lv_at hl 0 rfl) ?_
          refine lv_iload_n hx hb dX5_shut_22 rfl (lv_at hl 1 rfl) ?_
          have hPc := hP.sub (ws' := (wF cI cC cZ cS a b F tc)) [0, 1, 2, 3, 4, 5, 6, 7, 8, 9, 10, 11, 12, 13, 14, 15, 16, 17, 18, 19, 20, 21, 22, 23, 24, 25, 26, 27, 28, 29, 30, 31] rfl
          have hDc := hD.sub (ws' := (wF cI cC cZ cS a b F tc)) [0, 1, 2, 3, 4, 5, 6, 7, 8, 9, 10, 11, 12, 13, 14, 15, 16, 17, 18, 19, 20, 21, 22, 23, 24, 25, 26, 27, 28, 29, 30, 31] (by decide) rfl
          refine m_callR (W.runV (As := [.int m_]) (rest := []) ⟨hx, hb, hml, hown, hts⟩ (c_X5_leastHarmful l D cI cC cZ cS a b F tc m_ n hn h7) (cwV 1 hts gX5_shut_X5_leastHarmful rfl rfl rfl (by decide +kernel) ⟨Nat.le_of_ble_eq_true rfl, Nat.le_of_ble_eq_true rfl⟩) (preV_of hPc hDc hE (va_recv hK hPc (ci := 5) (q0 := 0) rfl rfl)) rfl rfl hl.1 rfl (lv_room (Nat.le_of_ble_eq_true rfl)) dX5_shut_23 ⟨Nat.zero_le _, Nat.zero_le _⟩) ?_
          refine W.eq (g2 := F0 m 26 ls [.int (d_X5_leastHarmful F m_ n)]) rfl ?_
          refine lv_istore_n (lv' := [(3, .int (d_X5_leastHarmful F m_ n)), (0, .ref (a 0)), (1, .int m_), (2, .int what)]) hx hb dX5_shut_26 rfl hl (by decide) rfl (fun ls hl => ?_)
          refine lv_iload_n hx hb dX5_shut_27 rfl (lv_at hl 3 rfl) ?_
          refine lv_if_ne (tgt := 33) hx hb dX5_shut_28 (by decide) (fun c_5 => ?_) (fun c_5 => ?_)
          · skip
            rw [if_neg c_5] at hres
            refine lv_aload_n hx hb dX5_shut_33 rfl (lv_at hl 1 rfl) ?_
            have hPc := hP.sub (ws' := (wXC cI cC cZ cS a b (F 1) (F 2) (F 3) (F 4) (F 11) tc)) [0, 1, 2, 3, 4, 11] rfl
            have hDc := hD.sub (ws' := (wXC cI cC cZ cS a b (F 1) (F 2) (F 3) (F 4) (F 11) tc)) [0, 1, 2, 3, 4, 11] (by decide) rfl
            refine m_callR (W.runV (As := []) (rest := []) ⟨hx, hb, hml, hown, hts⟩ (c_X5_ableNow l D cI cC cZ cS a b (F 1) (F 2) (F 3) (F 4) (F 11) tc n hn h7) (cwV 0 hts gX5_shut_X5_ableNow rfl rfl rfl (by decide +kernel) ⟨Nat.le_of_ble_eq_true rfl, Nat.le_of_ble_eq_true rfl⟩) (preV_of hPc hDc hE (va_recv hK hPc (ci := 5) (q0 := 0) rfl rfl)) rfl rfl hl.1 rfl (lv_room (Nat.le_of_ble_eq_true rfl)) dX5_shut_34 ⟨Nat.zero_le _, Nat.zero_le _⟩) ?_
            refine W.eq (g2 := F0 m 37 ls [.int (d_X5_ableNow (F 2) (F 4) (F 11) n)]) rfl ?_
            refine lv_iload_n hx hb dX5_shut_37 rfl (lv_at hl 0 rfl) ?_
            refine lv_iconst (v := (-1)) hx hb dX5_shut_38 (by decide) ?_
            refine lv_ixor hx hb dX5_shut_39 ?_
            refine lv_iand hx hb dX5_shut_40 ?_
            refine lv_istore (lv' := [(4, .int ((d_X5_ableNow (F 2) (F 4) (F 11) n) &&& ((d_X5_leastHarmful F m_ n) ^^^ (-1 : Int32)))), (3, .int (d_X5_leastHarmful F m_ n)), (0, .ref (a 0)), (1, .int m_), (2, .int what)]) hx hb dX5_shut_41 hl (by decide) rfl (fun ls hl => ?_)
            refine lv_aload_n hx hb dX5_shut_43 rfl (lv_at hl 2 rfl) ?_
            refine va_get (D := D) (ci := 5) (v := .ref (a 1)) (C := RX5) (T := TX5) (N := 10) hx hb hts hinX5 hown hK hP 0 rfl rfl 0 (by decide) (hts (.fieldLink RX5 10 "FirstOut" "home" "LFirstOut$House;") (by decide +kernel)) (fun _ h9 => h9) rfl dX5_shut_44 ?_
            refine lv_iload hx hb dX5_shut_47 (lv_at hl 0 rfl) ?_
            refine lv_aload_n hx hb dX5_shut_49 rfl (lv_at hl 2 rfl) ?_
            have hPc := hP.sub (ws' := (wXC cI cC cZ cS a b (F 1) (F 2) (F 3) (F 4) (F 11) tc)) [0, 1, 2, 3, 4, 11] rfl
            have hDc := hD.sub (ws' := (wXC cI cC cZ cS a b (F 1) (F 2) (F 3) (F 4) (F 11) tc)) [0, 1, 2, 3, 4, 11] (by decide) rfl
            refine m_callR (W.runV (As := []) (rest := [.int ((d_X5_ableNow (F 2) (F 4) (F 11) n) &&& ((d_X5_leastHarmful F m_ n) ^^^ (-1 : Int32))), .ref (a 1)]) ⟨hx, hb, hml, hown, hts⟩ (c_X5_coveredNow l D cI cC cZ cS a b (F 1) (F 2) (F 3) (F 4) (F 11) tc n hn h7) (cwV 0 hts gX5_shut_X5_coveredNow rfl rfl rfl (by decide +kernel) ⟨Nat.le_of_ble_eq_true rfl, Nat.le_of_ble_eq_true rfl⟩) (preV_of hPc hDc hE (va_recv hK hPc (ci := 5) (q0 := 0) rfl rfl)) rfl rfl hl.1 rfl (lv_room (Nat.le_of_ble_eq_true rfl)) dX5_shut_50 ⟨Nat.zero_le _, Nat.zero_le _⟩) ?_
            refine W.eq (g2 := F0 m 53 ls [.int (d_X5_coveredNow (F 2) (F 11) n), .int ((d_X5_ableNow (F 2) (F 4) (F 11) n) &&& ((d_X5_leastHarmful F m_ n) ^^^ (-1 : Int32))), .ref (a 1)]) rfl ?_
            have hPc := hP.sub (ws' := (wH cI cC cZ cS (a 1) (a 2) (a 3) (a 4) (F 1) (F 2) (F 3) (F 4))) [1, 2, 3, 4] rfl
            have hDc := hD.sub (ws' := (wH cI cC cZ cS (a 1) (a 2) (a 3) (a 4) (F 1) (F 2) (F 3) (F 4))) [1, 2, 3, 4] (by decide) rfl
            refine m_callR (W.runV (As := [.int ((d_X5_ableNow (F 2) (F 4) (F 11) n) &&& ((d_X5_leastHarmful F m_ n) ^^^ (-1 : Int32))), .int (d_X5_coveredNow (F 2) (F 11) n)]) (rest := []) ⟨hx, hb, hml, hown, hts⟩ (c_X0_harmUpper l D cI cC cZ cS (a 1) (a 2) (a 3) (a 4) (F 1) (F 2) (F 3) (F 4) ((d_X5_ableNow (F 2) (F 4) (F 11) n) &&& ((d_X5_leastHarmful F m_ n) ^^^ (-1 : Int32))) (d_X5_coveredNow (F 2) (F 11) n) n hn h7) (cwV 2 hts gX5_shut_X0_harmUpper rfl rfl rfl (by decide +kernel) ⟨Nat.le_of_ble_eq_true rfl, Nat.le_of_ble_eq_true rfl⟩) (preV_of hPc hDc hE (va_recv hK hPc (ci := 0) (q0 := 0) rfl rfl)) rfl rfl hl.1 rfl (lv_room (Nat.le_of_ble_eq_true rfl)) dX5_shut_53 ⟨Nat.zero_le _, Nat.zero_le _⟩) ?_
            refine W.eq (g2 := F0 m 56 ls [.int (d_X0_harmUpper (F 3) (F 4) ((d_X5_ableNow (F 2) (F 4) (F 11) n) &&& ((d_X5_leastHarmful F m_ n) ^^^ (-1 : Int32))) (d_X5_coveredNow (F 2) (F 11) n) n)]) rfl ?_
            refine lv_aload_n hx hb dX5_shut_56 rfl (lv_at hl 2 rfl) ?_
            refine va_get (D := D) (ci := 5) (v := .ref (a 1)) (C := RX5) (T := TX5) (N := 10) hx hb hts hinX5 hown hK hP 0 rfl rfl 0 (by decide) (hts (.fieldLink RX5 10 "FirstOut" "home" "LFirstOut$House;") (by decide +kernel)) (fun _ h9 => h9) rfl dX5_shut_57 ?_
            refine lv_iload hx hb dX5_shut_60 (lv_at hl 0 rfl) ?_
            have hPc := hP.sub (ws' := (wH cI cC cZ cS (a 1) (a 2) (a 3) (a 4) (F 1) (F 2) (F 3) (F 4))) [1, 2, 3, 4] rfl
            have hDc := hD.sub (ws' := (wH cI cC cZ cS (a 1) (a 2) (a 3) (a 4) (F 1) (F 2) (F 3) (F 4))) [1, 2, 3, 4] (by decide) rfl
            refine m_callR (W.runV (As := [.int ((d_X5_ableNow (F 2) (F 4) (F 11) n) &&& ((d_X5_leastHarmful F m_ n) ^^^ (-1 : Int32)))]) (rest := [.int (d_X0_harmUpper (F 3) (F 4) ((d_X5_ableNow (F 2) (F 4) (F 11) n) &&& ((d_X5_leastHarmful F m_ n) ^^^ (-1 : Int32))) (d_X5_coveredNow (F 2) (F 11) n) n)]) ⟨hx, hb, hml, hown, hts⟩ (c_X0_shares l D cI cC cZ cS (a 1) (a 2) (a 3) (a 4) (F 1) (F 2) (F 3) (F 4) ((d_X5_ableNow (F 2) (F 4) (F 11) n) &&& ((d_X5_leastHarmful F m_ n) ^^^ (-1 : Int32))) n hn h7) (cwV 1 hts gX5_shut_X0_shares rfl rfl rfl (by decide +kernel) ⟨Nat.le_of_ble_eq_true rfl, Nat.le_of_ble_eq_true rfl⟩) (preV_of hPc hDc hE (va_recv hK hPc (ci := 0) (q0 := 0) rfl rfl)) rfl rfl hl.1 rfl (lv_room (Nat.le_of_ble_eq_true rfl)) dX5_shut_62 ⟨Nat.zero_le _, Nat.zero_le _⟩) ?_
            refine W.eq (g2 := F0 m 65 ls [.int (d_X0_shares (F 4) ((d_X5_ableNow (F 2) (F 4) (F 11) n) &&& ((d_X5_leastHarmful F m_ n) ^^^ (-1 : Int32))) n), .int (d_X0_harmUpper (F 3) (F 4) ((d_X5_ableNow (F 2) (F 4) (F 11) n) &&& ((d_X5_leastHarmful F m_ n) ^^^ (-1 : Int32))) (d_X5_coveredNow (F 2) (F 11) n) n)]) rfl ?_
            refine lv_iload_n hx hb dX5_shut_65 rfl (lv_at hl 4 rfl) ?_
            refine lv_iconst (v := 1) hx hb dX5_shut_66 (by decide) ?_
            refine lv_isub hx hb dX5_shut_67 ?_
            have hPc := hP.sub (ws' := []) [] rfl
            have hDc := hD.sub (ws' := []) [] (by decide) rfl
            refine m_callR (W.runS (As := [.int (d_X0_harmUpper (F 3) (F 4) ((d_X5_ableNow (F 2) (F 4) (F 11) n) &&& ((d_X5_leastHarmful F m_ n) ^^^ (-1 : Int32))) (d_X5_coveredNow (F 2) (F 11) n) n), .int (d_X0_shares (F 4) ((d_X5_ableNow (F 2) (F 4) (F 11) n) &&& ((d_X5_leastHarmful F m_ n) ^^^ (-1 : Int32))) n), .int (what - (1 : Int32))]) (rest := []) ⟨hx, hb, hml, hown, hts⟩ (c_X5_partOf l D cI cC cZ cS (d_X0_harmUpper (F 3) (F 4) ((d_X5_ableNow (F 2) (F 4) (F 11) n) &&& ((d_X5_leastHarmful F m_ n) ^^^ (-1 : Int32))) (d_X5_coveredNow (F 2) (F 11) n) n) (d_X0_shares (F 4) ((d_X5_ableNow (F 2) (F 4) (F 11) n) &&& ((d_X5_leastHarmful F m_ n) ^^^ (-1 : Int32))) n) (what - (1 : Int32))) (va_cwS 3 hts gX5_shut_X5_partOf rfl rfl rfl (by decide +kernel) ⟨Nat.le_of_ble_eq_true rfl, Nat.le_of_ble_eq_true rfl⟩) (preS_of hPc hDc hE) rfl rfl hl.1 rfl (lv_room (Nat.le_of_ble_eq_true rfl)) dX5_shut_68 ⟨Nat.zero_le _, Nat.zero_le _⟩) ?_
            refine W.eq (g2 := F0 m 71 ls [.int (d_X5_partOf (d_X0_harmUpper (F 3) (F 4) ((d_X5_ableNow (F 2) (F 4) (F 11) n) &&& ((d_X5_leastHarmful F m_ n) ^^^ (-1 : Int32))) (d_X5_coveredNow (F 2) (F 11) n) n) (d_X0_shares (F 4) ((d_X5_ableNow (F 2) (F 4) (F 11) n) &&& ((d_X5_leastHarmful F m_ n) ^^^ (-1 : Int32))) n) (what - (1 : Int32)))]) rfl ?_
            rw [hres]
            exact W.iret (v := d_X5_partOf (d_X0_harmUpper (F 3) (F 4) ((d_X5_ableNow (F 2) (F 4) (F 11) n) &&& ((d_X5_leastHarmful F m_ n) ^^^ (-1 : Int32))) (d_X5_coveredNow (F 2) (F 11) n) n) (d_X0_shares (F 4) ((d_X5_ableNow (F 2) (F 4) (F 11) n) &&& ((d_X5_leastHarmful F m_ n) ^^^ (-1 : Int32))) n) (what - (1 : Int32))) hx hb hr (fun t ht hW => ⟨rfl, ht⟩) (fun _ h => by cases h) dX5_shut_71
          · skip
            rw [if_pos c_5] at hres
            refine lv_iload_n hx hb dX5_shut_31 rfl (lv_at hl 0 rfl) ?_
            rw [hres]
            exact W.iret (v := d_X5_leastHarmful F m_ n) hx hb hr (fun t ht hW => ⟨rfl, ht⟩) (fun _ h => by cases h) dX5_shut_32
        · skip
          rw [if_neg c_4] at hres
          refine lv_iconst (v := (-1)) hx hb dX5_shut_19 (by decide) ?_
          rw [hres]
          exact W.iret (v := (-1)) hx hb hr (fun t ht hW => ⟨rfl, ht⟩) (fun _ h => by cases h) dX5_shut_20
def d_X5_tell (F : Nat → Nat → Int32) (n : Nat) : Int32 :=
  d_X0_dearOnes (F 3) ((d_X5_ableNow (F 2) (F 4) (F 11) n) &&& (d_X5_coveredNow (F 2) (F 11) n)) n
set_option maxHeartbeats 4000000 in
set_option maxRecDepth 100000 in
theorem c_X5_tell (l : Launch) (D : va_G) (cI cC cZ cS : ClassId) (a : Nat → Nat) (b : Nat → Nat) (F : Nat → Nat → Int32) (tc : Int64) (n : Nat) (hn : F 1 3 = nI n) (h7 : n ≤ 7) : Met l yX5_tell wsX5_tell { frames := 4, cells := 0, slots := 0, locals := 88 } (PcE D cI cC cZ cS [.ref (a 0)] (wF cI cC cZ cS a b F tc)) (QcR (some (.int (d_X5_tell F n)))) 0 0 (fun _ => False) := by
  refine Met.ofW (cc := cX5_tell) (maxL := 1) (ret := (some .int)) (by decide) rfl ?_
  intro p e s m args below meth c s₁ B hml hv
  obtain ⟨rfl, hP, hD, hE⟩ := hv
  have hK := hE.1
  have hx := B.exec
  have hb := B.bytes
  have hr := B.returns
  have hts := atoms_spec (ws := wsX5_tell) B.pre
  have hown : s.vm.findClass RX5 = some m.cls := findClass_of_methodNamed B.named
  have hlocks := B.notSynchronized
  have hinX5 : ∀ w ∈ wsX50, w ∈ wsX5_tell := by decide +kernel
  refine opq (d_X5_tell F n) (fun R hres => ?_)
  rw [hres]
  replace hres := hres.symm
  rw [d_X5_tell] at hres
  have hl := lv_entry ([.ref (a 0)]) (n := 1) (Nat.le_of_ble_eq_true rfl)
  rw [lg_entry_eq]
  generalize (lg_sl ([.ref (a 0)]) ++ List.replicate (1 - (lg_sl ([.ref (a 0)])).length) Slot.unset).toArray = ls at hl ⊢
  have hl : lv_has ls 1 [(0, .ref (a 0))] := hl
  refine lv_aload_n hx hb dX5_tell_0 rfl (lv_at hl 0 rfl) ?_
  refine va_get (D := D) (ci := 5) (v := .ref (a 1)) (C := RX5) (T := TX5) (N := 10) hx hb hts hinX5 hown hK hP 0 rfl rfl 0 (by decide) (hts (.fieldLink RX5 10 "FirstOut" "home" "LFirstOut$House;") (by decide +kernel)) (fun _ h9 => h9) rfl dX5_tell_1 ?_
  refine lv_aload_n hx hb dX5_tell_4 rfl (lv_at hl 0 rfl) ?_
  have hPc := hP.sub (ws' := (wXC cI cC cZ cS a b (F 1) (F 2) (F 3) (F 4) (F 11) tc)) [0, 1, 2, 3, 4, 11] rfl
  have hDc := hD.sub (ws' := (wXC cI cC cZ cS a b (F 1) (F 2) (F 3) (F 4) (F 11) tc)) [0, 1, 2, 3, 4, 11] (by decide) rfl
  refine m_callR (W.runV (As := []) (rest := [.ref (a 1)]) ⟨hx, hb, hml, hown, hts⟩ (c_X5_ableNow l D cI cC cZ cS a b (F 1) (F 2) (F 3) (F 4) (F 11) tc n hn h7) (cwV 0 hts gX5_tell_X5_ableNow rfl rfl rfl (by decide +kernel) ⟨Nat.le_of_ble_eq_true rfl, Nat.le_of_ble_eq_true rfl⟩) (preV_of hPc hDc hE (va_recv hK hPc (ci := 5) (q0 := 0) rfl rfl)) rfl rfl hl.1 rfl (lv_room (Nat.le_of_ble_eq_true rfl)) dX5_tell_5 ⟨Nat.zero_le _, Nat.zero_le _⟩) ?_
  refine W.eq (g2 := F0 m 8 ls [.int (d_X5_ableNow (F 2) (F 4) (F 11) n), .ref (a 1)]) rfl ?_
  refine lv_aload_n hx hb dX5_tell_8 rfl (lv_at hl 0 rfl) ?_
  have hPc := hP.sub (ws' := (wXC cI cC cZ cS a b (F 1) (F 2) (F 3) (F 4) (F 11) tc)) [0, 1, 2, 3, 4, 11] rfl
  have hDc := hD.sub (ws' := (wXC cI cC cZ cS a b (F 1) (F 2) (F 3) (F 4) (F 11) tc)) [0, 1, 2, 3, 4, 11] (by decide) rfl
  refine m_callR (W.runV (As := []) (rest := [.int (d_X5_ableNow (F 2) (F 4) (F 11) n), .ref (a 1)]) ⟨hx, hb, hml, hown, hts⟩ (c_X5_coveredNow l D cI cC cZ cS a b (F 1) (F 2) (F 3) (F 4) (F 11) tc n hn h7) (cwV 0 hts gX5_tell_X5_coveredNow rfl rfl rfl (by decide +kernel) ⟨Nat.le_of_ble_eq_true rfl, Nat.le_of_ble_eq_true rfl⟩) (preV_of hPc hDc hE (va_recv hK hPc (ci := 5) (q0 := 0) rfl rfl)) rfl rfl hl.1 rfl (lv_room (Nat.le_of_ble_eq_true rfl)) dX5_tell_9 ⟨Nat.zero_le _, Nat.zero_le _⟩) ?_
  refine W.eq (g2 := F0 m 12 ls [.int (d_X5_coveredNow (F 2) (F 11) n), .int (d_X5_ableNow (F 2) (F 4) (F 11) n), .ref (a 1)]) rfl ?_
  refine lv_iand hx hb dX5_tell_12 ?_
  have hPc := hP.sub (ws' := (wH cI cC cZ cS (a 1) (a 2) (a 3) (a 4) (F 1) (F 2) (F 3) (F 4))) [1, 2, 3, 4] rfl
  have hDc := hD.sub (ws' := (wH cI cC cZ cS (a 1) (a 2) (a 3) (a 4) (F 1) (F 2) (F 3) (F 4))) [1, 2, 3, 4] (by decide) rfl
  refine m_callR (W.runV (As := [.int ((d_X5_ableNow (F 2) (F 4) (F 11) n) &&& (d_X5_coveredNow (F 2) (F 11) n))]) (rest := []) ⟨hx, hb, hml, hown, hts⟩ (c_X0_dearOnes l D cI cC cZ cS (a 1) (a 2) (a 3) (a 4) (F 1) (F 2) (F 3) (F 4) ((d_X5_ableNow (F 2) (F 4) (F 11) n) &&& (d_X5_coveredNow (F 2) (F 11) n)) n hn h7) (cwV 1 hts gX5_tell_X0_dearOnes rfl rfl rfl (by decide +kernel) ⟨Nat.le_of_ble_eq_true rfl, Nat.le_of_ble_eq_true rfl⟩) (preV_of hPc hDc hE (va_recv hK hPc (ci := 0) (q0 := 0) rfl rfl)) rfl rfl hl.1 rfl (lv_room (Nat.le_of_ble_eq_true rfl)) dX5_tell_13 ⟨Nat.zero_le _, Nat.zero_le _⟩) ?_
  refine W.eq (g2 := F0 m 16 ls [.int (d_X0_dearOnes (F 3) ((d_X5_ableNow (F 2) (F 4) (F 11) n) &&& (d_X5_coveredNow (F 2) (F 11) n)) n)]) rfl ?_
  rw [hres]
  exact W.iret (v := d_X0_dearOnes (F 3) ((d_X5_ableNow (F 2) (F 4) (F 11) n) &&& (d_X5_coveredNow (F 2) (F 11) n)) n) hx hb hr (fun t ht hW => ⟨rfl, ht⟩) (fun _ h => by cases h) dX5_tell_16
def lp_X5_draw_85 (F : Nat → Nat → Int32) (t : Int32) (what : Int32) (n : Nat) : Nat → Nat → Int32 → Int32 → Int32 → Int32
  | 0, _, _, _, _ => 0
  | k85 + 1, i, tm, lst, mine => if (500 : Int32) ≤ (nI i) then
      if what = 0 then
        tm
      else
        lst
    else
      if (d_X5_drawn (nI i) (F 11 4) (d_X0_shares (F 4) (d_X5_ableNow (F 2) (F 4) (F 11) n) n)) < (d_X0_eagerTogether (F 4) ((d_X5_ableNow (F 2) (F 4) (F 11) n) &&& (((1 : Int32) <<< (t &&& 31)) - (1 : Int32))) n) then
        lp_X5_draw_85 F t what n k85 (i + 1) tm lst mine
      else
        if ((d_X0_eagerTogether (F 4) ((d_X5_ableNow (F 2) (F 4) (F 11) n) &&& (((1 : Int32) <<< (t &&& 31)) - (1 : Int32))) n) + mine) ≤ (d_X5_drawn (nI i) (F 11 4) (d_X0_shares (F 4) (d_X5_ableNow (F 2) (F 4) (F 11) n) n)) then
          lp_X5_draw_85 F t what n k85 (i + 1) tm lst mine
        else
          if tm = 0 then
            lp_X5_draw_85 F t what n k85 (i + 1) (tm + 1) (nI i) mine
          else
            lp_X5_draw_85 F t what n k85 (i + 1) (tm + 1) lst mine
def jn_X5_draw_49 (F : Nat → Nat → Int32) (t : Int32) (what : Int32) (n : Nat) (mine : Int32) : Int32 :=
  lp_X5_draw_85 F t what n 501 0 0 (-9) mine
def d_X5_draw (F : Nat → Nat → Int32) (t : Int32) (what : Int32) (n : Nat) : Int32 :=
  if (d_X0_holds (F 1) t) = 0 then
      (-1)
    else
      if (d_X5_isYesOrNo what) = 0 then
        (-1)
      else
        if (d_X5_bitOf (d_X5_ableNow (F 2) (F 4) (F 11) n) t) = (1 : Int32) then
          jn_X5_draw_49 F t what n (F 4 t.toNatClampNeg)
        else
          jn_X5_draw_49 F t what n 0
set_option maxHeartbeats 4000000 in
set_option maxRecDepth 100000 in
theorem c_X5_draw (l : Launch) (D : va_G) (cI cC cZ cS : ClassId) (a : Nat → Nat) (b : Nat → Nat) (F : Nat → Nat → Int32) (tc : Int64) (t : Int32) (what : Int32) (n : Nat) (hn : F 1 3 = nI n) (h7 : n ≤ 7) : Met l yX5_draw wsX5_draw { frames := 4, cells := 0, slots := 0, locals := 88 } (PcE D cI cC cZ cS [.ref (a 0), .int t, .int what] (wF cI cC cZ cS a b F tc)) (QcR (some (.int (d_X5_draw F t what n)))) 0 0 (fun _ => False) := by
  refine Met.ofW (cc := cX5_draw) (maxL := 11) (ret := (some .int)) (by decide) rfl ?_
  intro p e s m args below meth c s₁ B hml hv
  obtain ⟨rfl, hP, hD, hE⟩ := hv
  have hK := hE.1
  have hx := B.exec
  have hb := B.bytes
  have hr := B.returns
  have hts := atoms_spec (ws := wsX5_draw) B.pre
  have hown : s.vm.findClass RX5 = some m.cls := findClass_of_methodNamed B.named
  have hlocks := B.notSynchronized
  have hinX5 : ∀ w ∈ wsX50, w ∈ wsX5_draw := by decide +kernel
  have hinX3 : ∀ w ∈ wsX30, w ∈ wsX5_draw := by decide +kernel
  have hinX0 : ∀ w ∈ wsX00, w ∈ wsX5_draw := by decide +kernel
  refine opq (d_X5_draw F t what n) (fun R hres => ?_)
  rw [hres]
  replace hres := hres.symm
  rw [d_X5_draw] at hres
  have hl := lv_entry ([.ref (a 0), .int t, .int what]) (n := 11) (Nat.le_of_ble_eq_true rfl)
  rw [lg_entry_eq]
  generalize (lg_sl ([.ref (a 0), .int t, .int what]) ++ List.replicate (11 - (lg_sl ([.ref (a 0), .int t, .int what])).length) Slot.unset).toArray = ls at hl ⊢
  have hl : lv_has ls 11 [(0, .ref (a 0)), (1, .int t), (2, .int what)] := hl
  refine lv_aload_n hx hb dX5_draw_0 rfl (lv_at hl 0 rfl) ?_
  refine va_get (D := D) (ci := 5) (v := .ref (a 1)) (C := RX5) (T := TX5) (N := 10) hx hb hts hinX5 hown hK hP 0 rfl rfl 0 (by decide) (hts (.fieldLink RX5 10 "FirstOut" "home" "LFirstOut$House;") (by decide +kernel)) (fun _ h9 => h9) rfl dX5_draw_1 ?_
  refine lv_iload_n hx hb dX5_draw_4 rfl (lv_at hl 1 rfl) ?_
  have hPc := hP.sub (ws' := (wH cI cC cZ cS (a 1) (a 2) (a 3) (a 4) (F 1) (F 2) (F 3) (F 4))) [1, 2, 3, 4] rfl
  have hDc := hD.sub (ws' := (wH cI cC cZ cS (a 1) (a 2) (a 3) (a 4) (F 1) (F 2) (F 3) (F 4))) [1, 2, 3, 4] (by decide) rfl
  refine m_callR (W.runV (As := [.int t]) (rest := []) ⟨hx, hb, hml, hown, hts⟩ (c_X0_holds l D cI cC cZ cS (a 1) (a 2) (a 3) (a 4) (F 1) (F 2) (F 3) (F 4) t) (cwV 1 hts gX5_draw_X0_holds rfl rfl rfl (by decide +kernel) ⟨Nat.le_of_ble_eq_true rfl, Nat.le_of_ble_eq_true rfl⟩) (preV_of hPc hDc hE (va_recv hK hPc (ci := 0) (q0 := 0) rfl rfl)) rfl rfl hl.1 rfl (lv_room (Nat.le_of_ble_eq_true rfl)) dX5_draw_5 ⟨Nat.zero_le _, Nat.zero_le _⟩) ?_
  refine W.eq (g2 := F0 m 8 ls [.int (d_X0_holds (F 1) t)]) rfl ?_
  refine lv_if_eq (tgt := 18) hx hb dX5_draw_8 (by decide) (fun c_1 => ?_) (fun c_1 => ?_)
  · skip
    rw [if_pos c_1] at hres
    refine lv_iconst (v := (-1)) hx hb dX5_draw_18 (by decide) ?_
    rw [hres]
    exact W.iret (v := (-1)) hx hb hr (fun t ht hW => ⟨rfl, ht⟩) (fun _ h => by cases h) dX5_draw_19
  · skip
    rw [if_neg c_1] at hres
    have ti := holds_ok c_1 hn h7
    refine lv_iload_n hx hb dX5_draw_11 rfl (lv_at hl 2 rfl) ?_
    have hPc := hP.sub (ws' := []) [] rfl
    have hDc := hD.sub (ws' := []) [] (by decide) rfl
    refine m_callR (W.runS (As := [.int what]) (rest := []) ⟨hx, hb, hml, hown, hts⟩ (c_X5_isYesOrNo l D cI cC cZ cS what) (va_cwS 1 hts gX5_draw_X5_isYesOrNo rfl rfl rfl (by decide +kernel) ⟨Nat.le_of_ble_eq_true rfl, Nat.le_of_ble_eq_true rfl⟩) (preS_of hPc hDc hE) rfl rfl hl.1 rfl (lv_room (Nat.le_of_ble_eq_true rfl)) dX5_draw_12 ⟨Nat.zero_le _, Nat.zero_le _⟩) ?_
    refine W.eq (g2 := F0 m 15 ls [.int (d_X5_isYesOrNo what)]) rfl ?_
    refine lv_if_ne (tgt := 20) hx hb dX5_draw_15 (by decide) (fun c_2 => ?_) (fun c_2 => ?_)
    · skip
      rw [if_neg c_2] at hres
      refine lv_aload_n hx hb dX5_draw_20 rfl (lv_at hl 0 rfl) ?_
      have hPc := hP.sub (ws' := (wXC cI cC cZ cS a b (F 1) (F 2) (F 3) (F 4) (F 11) tc)) [0, 1, 2, 3, 4, 11] rfl
      have hDc := hD.sub (ws' := (wXC cI cC cZ cS a b (F 1) (F 2) (F 3) (F 4) (F 11) tc)) [0, 1, 2, 3, 4, 11] (by decide) rfl
      refine m_callR (W.runV (As := []) (rest := []) ⟨hx, hb, hml, hown, hts⟩ (c_X5_ableNow l D cI cC cZ cS a b (F 1) (F 2) (F 3) (F 4) (F 11) tc n hn h7) (cwV 0 hts gX5_draw_X5_ableNow rfl rfl rfl (by decide +kernel) ⟨Nat.le_of_ble_eq_true rfl, Nat.le_of_ble_eq_true rfl⟩) (preV_of hPc hDc hE (va_recv hK hPc (ci := 5) (q0 := 0) rfl rfl)) rfl rfl hl.1 rfl (lv_room (Nat.le_of_ble_eq_true rfl)) dX5_draw_21 ⟨Nat.zero_le _, Nat.zero_le _⟩) ?_
      refine W.eq (g2 := F0 m 24 ls [.int (d_X5_ableNow (F 2) (F 4) (F 11) n)]) rfl ?_
      refine lv_istore_n (lv' := [(3, .int (d_X5_ableNow (F 2) (F 4) (F 11) n)), (0, .ref (a 0)), (1, .int t), (2, .int what)]) hx hb dX5_draw_24 rfl hl (by decide) rfl (fun ls hl => ?_)
      have join49 : ∀ (mine : Int32), R = jn_X5_draw_49 F t what n mine → ∀ ls : Array Slot, lv_has ls 11 [(0, .ref (a 0)), (1, .int t), (2, .int what), (3, .int (d_X5_ableNow (F 2) (F 4) (F 11) n)), (4, .int mine)] → W p l e (headSpec wsX5_draw { frames := 4, cells := 0, slots := 0, locals := 88 }).room s m (([.ref (a 0), .int t, .int what] : List Value).toArray) below meth c s.heap [] 0 0 (MQ below (QcR (some (.int R))) (([.ref (a 0), .int t, .int what] : List Value).toArray) s 0 0 (fun _ => False)) (F0 m 49 ls []) := by
        intro mine  hres ls hl
        rw [jn_X5_draw_49] at hres
        refine lv_aload_n hx hb dX5_draw_49 rfl (lv_at hl 0 rfl) ?_
        refine va_get (D := D) (ci := 5) (v := .ref (a 1)) (C := RX5) (T := TX5) (N := 10) hx hb hts hinX5 hown hK hP 0 rfl rfl 0 (by decide) (hts (.fieldLink RX5 10 "FirstOut" "home" "LFirstOut$House;") (by decide +kernel)) (fun _ h9 => h9) rfl dX5_draw_50 ?_
        refine lv_iload_n hx hb dX5_draw_53 rfl (lv_at hl 3 rfl) ?_
        refine lv_iconst (v := 1) hx hb dX5_draw_54 (by decide) ?_
        refine lv_iload_n hx hb dX5_draw_55 rfl (lv_at hl 1 rfl) ?_
        refine lv_ishl hx hb dX5_draw_56 ?_
        refine lv_iconst (v := 1) hx hb dX5_draw_57 (by decide) ?_
        refine lv_isub hx hb dX5_draw_58 ?_
        refine lv_iand hx hb dX5_draw_59 ?_
        have hPc := hP.sub (ws' := (wH cI cC cZ cS (a 1) (a 2) (a 3) (a 4) (F 1) (F 2) (F 3) (F 4))) [1, 2, 3, 4] rfl
        have hDc := hD.sub (ws' := (wH cI cC cZ cS (a 1) (a 2) (a 3) (a 4) (F 1) (F 2) (F 3) (F 4))) [1, 2, 3, 4] (by decide) rfl
        refine m_callR (W.runV (As := [.int ((d_X5_ableNow (F 2) (F 4) (F 11) n) &&& (((1 : Int32) <<< (t &&& 31)) - (1 : Int32)))]) (rest := []) ⟨hx, hb, hml, hown, hts⟩ (c_X0_eagerTogether l D cI cC cZ cS (a 1) (a 2) (a 3) (a 4) (F 1) (F 2) (F 3) (F 4) ((d_X5_ableNow (F 2) (F 4) (F 11) n) &&& (((1 : Int32) <<< (t &&& 31)) - (1 : Int32))) n hn h7) (cwV 1 hts gX5_draw_X0_eagerTogether rfl rfl rfl (by decide +kernel) ⟨Nat.le_of_ble_eq_true rfl, Nat.le_of_ble_eq_true rfl⟩) (preV_of hPc hDc hE (va_recv hK hPc (ci := 0) (q0 := 0) rfl rfl)) rfl rfl hl.1 rfl (lv_room (Nat.le_of_ble_eq_true rfl)) dX5_draw_60 ⟨Nat.zero_le _, Nat.zero_le _⟩) ?_
        refine W.eq (g2 := F0 m 63 ls [.int (d_X0_eagerTogether (F 4) ((d_X5_ableNow (F 2) (F 4) (F 11) n) &&& (((1 : Int32) <<< (t &&& 31)) - (1 : Int32))) n)]) rfl ?_
        refine lv_istore (lv' := [(5, .int (d_X0_eagerTogether (F 4) ((d_X5_ableNow (F 2) (F 4) (F 11) n) &&& (((1 : Int32) <<< (t &&& 31)) - (1 : Int32))) n)), (0, .ref (a 0)), (1, .int t), (2, .int what), (3, .int (d_X5_ableNow (F 2) (F 4) (F 11) n)), (4, .int mine)]) hx hb dX5_draw_63 hl (by decide) rfl (fun ls hl => ?_)
        refine lv_aload_n hx hb dX5_draw_65 rfl (lv_at hl 1 rfl) ?_
        refine va_get (D := D) (ci := 5) (v := .ref (a 1)) (C := RX5) (T := TX5) (N := 10) hx hb hts hinX5 hown hK hP 0 rfl rfl 0 (by decide) (hts (.fieldLink RX5 10 "FirstOut" "home" "LFirstOut$House;") (by decide +kernel)) (fun _ h9 => h9) rfl dX5_draw_66 ?_
        refine lv_iload_n hx hb dX5_draw_69 rfl (lv_at hl 4 rfl) ?_
        have hPc := hP.sub (ws' := (wH cI cC cZ cS (a 1) (a 2) (a 3) (a 4) (F 1) (F 2) (F 3) (F 4))) [1, 2, 3, 4] rfl
        have hDc := hD.sub (ws' := (wH cI cC cZ cS (a 1) (a 2) (a 3) (a 4) (F 1) (F 2) (F 3) (F 4))) [1, 2, 3, 4] (by decide) rfl
        refine m_callR (W.runV (As := [.int (d_X5_ableNow (F 2) (F 4) (F 11) n)]) (rest := []) ⟨hx, hb, hml, hown, hts⟩ (c_X0_shares l D cI cC cZ cS (a 1) (a 2) (a 3) (a 4) (F 1) (F 2) (F 3) (F 4) (d_X5_ableNow (F 2) (F 4) (F 11) n) n hn h7) (cwV 1 hts gX5_draw_X0_shares rfl rfl rfl (by decide +kernel) ⟨Nat.le_of_ble_eq_true rfl, Nat.le_of_ble_eq_true rfl⟩) (preV_of hPc hDc hE (va_recv hK hPc (ci := 0) (q0 := 0) rfl rfl)) rfl rfl hl.1 rfl (lv_room (Nat.le_of_ble_eq_true rfl)) dX5_draw_70 ⟨Nat.zero_le _, Nat.zero_le _⟩) ?_
        refine W.eq (g2 := F0 m 73 ls [.int (d_X0_shares (F 4) (d_X5_ableNow (F 2) (F 4) (F 11) n) n)]) rfl ?_
        refine lv_istore (lv' := [(6, .int (d_X0_shares (F 4) (d_X5_ableNow (F 2) (F 4) (F 11) n) n)), (5, .int (d_X0_eagerTogether (F 4) ((d_X5_ableNow (F 2) (F 4) (F 11) n) &&& (((1 : Int32) <<< (t &&& 31)) - (1 : Int32))) n)), (0, .ref (a 0)), (1, .int t), (2, .int what), (3, .int (d_X5_ableNow (F 2) (F 4) (F 11) n)), (4, .int mine)]) hx hb dX5_draw_73 hl (by decide) rfl (fun ls hl => ?_)
        refine lv_iconst (v := 0) hx hb dX5_draw_75 (by decide) ?_
        refine lv_istore (lv' := [(7, .int 0), (6, .int (d_X0_shares (F 4) (d_X5_ableNow (F 2) (F 4) (F 11) n) n)), (5, .int (d_X0_eagerTogether (F 4) ((d_X5_ableNow (F 2) (F 4) (F 11) n) &&& (((1 : Int32) <<< (t &&& 31)) - (1 : Int32))) n)), (0, .ref (a 0)), (1, .int t), (2, .int what), (3, .int (d_X5_ableNow (F 2) (F 4) (F 11) n)), (4, .int mine)]) hx hb dX5_draw_76 hl (by decide) rfl (fun ls hl => ?_)
        refine lv_bipush (v := (-9)) hx hb dX5_draw_78 (by decide) ?_
        refine lv_istore (lv' := [(8, .int (-9)), (7, .int 0), (6, .int (d_X0_shares (F 4) (d_X5_ableNow (F 2) (F 4) (F 11) n) n)), (5, .int (d_X0_eagerTogether (F 4) ((d_X5_ableNow (F 2) (F 4) (F 11) n) &&& (((1 : Int32) <<< (t &&& 31)) - (1 : Int32))) n)), (0, .ref (a 0)), (1, .int t), (2, .int what), (3, .int (d_X5_ableNow (F 2) (F 4) (F 11) n)), (4, .int mine)]) hx hb dX5_draw_80 hl (by decide) rfl (fun ls hl => ?_)
        refine lv_iconst (v := 0) hx hb dX5_draw_82 (by decide) ?_
        refine lv_istore (lv' := [(9, .int 0), (8, .int (-9)), (7, .int 0), (6, .int (d_X0_shares (F 4) (d_X5_ableNow (F 2) (F 4) (F 11) n) n)), (5, .int (d_X0_eagerTogether (F 4) ((d_X5_ableNow (F 2) (F 4) (F 11) n) &&& (((1 : Int32) <<< (t &&& 31)) - (1 : Int32))) n)), (0, .ref (a 0)), (1, .int t), (2, .int what), (3, .int (d_X5_ableNow (F 2) (F 4) (F 11) n)), (4, .int mine)]) hx hb dX5_draw_83 hl (by decide) rfl (fun ls hl => ?_)
        have loop85 : ∀ (k85 : Nat) (i : Nat) (tm : Int32) (lst : Int32) (mine : Int32), 500 - i < k85 → i ≤ 500 → R = lp_X5_draw_85 F t what n k85 i tm lst mine → ∀ ls : Array Slot, lv_has ls 11 [(0, .ref (a 0)), (1, .int t), (2, .int what), (3, .int (d_X5_ableNow (F 2) (F 4) (F 11) n)), (4, .int mine), (5, .int (d_X0_eagerTogether (F 4) ((d_X5_ableNow (F 2) (F 4) (F 11) n) &&& (((1 : Int32) <<< (t &&& 31)) - (1 : Int32))) n)), (6, .int (d_X0_shares (F 4) (d_X5_ableNow (F 2) (F 4) (F 11) n) n)), (7, .int tm), (8, .int lst), (9, .int (nI i))] → W p l e (headSpec wsX5_draw { frames := 4, cells := 0, slots := 0, locals := 88 }).room s m (([.ref (a 0), .int t, .int what] : List Value).toArray) below meth c s.heap [] 0 0 (MQ below (QcR (some (.int R))) (([.ref (a 0), .int t, .int what] : List Value).toArray) s 0 0 (fun _ => False)) (F0 m 85 ls []) := by
          intro k85
          induction k85 with
          | zero => intro i tm lst mine hk; exact absurd hk (Nat.not_lt_zero _)
          | succ k85 ih85 =>
            intro i tm lst mine hk85 hi hres ls hl
            rw [lp_X5_draw_85] at hres
            refine lv_iload hx hb dX5_draw_85 (lv_at hl 9 rfl) ?_
            refine lv_sipush (v := 500) hx hb dX5_draw_87 (by decide) ?_
            refine lv_icmp_ge (tgt := 149) hx hb dX5_draw_90 (by decide) (fun c_3 => ?_) (fun c_3 => ?_)
            · skip
              rw [if_pos c_3] at hres
              refine lv_iload_n hx hb dX5_draw_149 rfl (lv_at hl 2 rfl) ?_
              refine lv_if_ne (tgt := 158) hx hb dX5_draw_150 (by decide) (fun c_4 => ?_) (fun c_4 => ?_)
              · skip
                rw [if_neg c_4] at hres
                refine lv_iload hx hb dX5_draw_158 (lv_at hl 8 rfl) ?_
                rw [hres]
                exact W.iret (v := lst) hx hb hr (fun t ht hW => ⟨rfl, ht⟩) (fun _ h => by cases h) dX5_draw_160
              · skip
                rw [if_pos c_4] at hres
                refine lv_iload hx hb dX5_draw_153 (lv_at hl 7 rfl) ?_
                refine lv_goto (tgt := 160) hx hb dX5_draw_155 (by decide) ?_
                rw [hres]
                exact W.iret (v := tm) hx hb hr (fun t ht hW => ⟨rfl, ht⟩) (fun _ h => by cases h) dX5_draw_160
            · skip
              rw [if_neg c_3] at hres
              have hlt : i < 500 := nlt_of (b := 500) c_3 (by omega) (by omega)
              refine lv_iload hx hb dX5_draw_93 (lv_at hl 9 rfl) ?_
              refine lv_aload_n hx hb dX5_draw_95 rfl (lv_at hl 0 rfl) ?_
              refine va_get (D := D) (ci := 5) (v := .ref (b 12)) (C := RX5) (T := TX5) (N := 10) hx hb hts hinX5 hown hK hP 0 rfl rfl 3 (by decide) (hts (.fieldLink RX5 29 "FirstOut" "current" "LFirstOut$Standing;") (by decide +kernel)) (fun _ h9 => h9) rfl dX5_draw_96 ?_
              refine va_get (D := D) (ci := 3) (v := .int (F 11 4)) (C := RX3) (T := TX3) (N := 5) hx hb hts hinX3 hown hK hP 11 rfl rfl 4 (by decide) (hts (.fieldLink RX5 110 "FirstOut$Standing" "date" "I") (by decide +kernel)) (fun _ h9 => h9) rfl dX5_draw_99 ?_
              refine lv_iload hx hb dX5_draw_102 (lv_at hl 6 rfl) ?_
              have hPc := hP.sub (ws' := []) [] rfl
              have hDc := hD.sub (ws' := []) [] (by decide) rfl
              refine m_callR (W.runS (As := [.int (nI i), .int (F 11 4), .int (d_X0_shares (F 4) (d_X5_ableNow (F 2) (F 4) (F 11) n) n)]) (rest := []) ⟨hx, hb, hml, hown, hts⟩ (c_X5_drawn l D cI cC cZ cS (nI i) (F 11 4) (d_X0_shares (F 4) (d_X5_ableNow (F 2) (F 4) (F 11) n) n)) (va_cwS 3 hts gX5_draw_X5_drawn rfl rfl rfl (by decide +kernel) ⟨Nat.le_of_ble_eq_true rfl, Nat.le_of_ble_eq_true rfl⟩) (preS_of hPc hDc hE) rfl rfl hl.1 rfl (lv_room (Nat.le_of_ble_eq_true rfl)) dX5_draw_104 ⟨Nat.zero_le _, Nat.zero_le _⟩) ?_
              refine W.eq (g2 := F0 m 107 ls [.int (d_X5_drawn (nI i) (F 11 4) (d_X0_shares (F 4) (d_X5_ableNow (F 2) (F 4) (F 11) n) n))]) rfl ?_
              refine lv_istore (lv' := [(10, .int (d_X5_drawn (nI i) (F 11 4) (d_X0_shares (F 4) (d_X5_ableNow (F 2) (F 4) (F 11) n) n))), (0, .ref (a 0)), (1, .int t), (2, .int what), (3, .int (d_X5_ableNow (F 2) (F 4) (F 11) n)), (4, .int mine), (5, .int (d_X0_eagerTogether (F 4) ((d_X5_ableNow (F 2) (F 4) (F 11) n) &&& (((1 : Int32) <<< (t &&& 31)) - (1 : Int32))) n)), (6, .int (d_X0_shares (F 4) (d_X5_ableNow (F 2) (F 4) (F 11) n) n)), (7, .int tm), (8, .int lst), (9, .int (nI i))]) hx hb dX5_draw_107 hl (by decide) rfl (fun ls hl => ?_)
              refine lv_iload hx hb dX5_draw_109 (lv_at hl 0 rfl) ?_
              refine lv_iload hx hb dX5_draw_111 (lv_at hl 6 rfl) ?_
              refine lv_icmp_lt (tgt := 143) hx hb dX5_draw_113 (by decide) (fun c_5 => ?_) (fun c_5 => ?_)
              · skip
                rw [if_pos c_5] at hres
                refine lv_iinc (v := nI (i + 1)) (lv' := [(9, .int (nI (i + 1))), (10, .int (d_X5_drawn (nI i) (F 11 4) (d_X0_shares (F 4) (d_X5_ableNow (F 2) (F 4) (F 11) n) n))), (0, .ref (a 0)), (1, .int t), (2, .int what), (3, .int (d_X5_ableNow (F 2) (F 4) (F 11) n)), (4, .int mine), (5, .int (d_X0_eagerTogether (F 4) ((d_X5_ableNow (F 2) (F 4) (F 11) n) &&& (((1 : Int32) <<< (t &&& 31)) - (1 : Int32))) n)), (6, .int (d_X0_shares (F 4) (d_X5_ableNow (F 2) (F 4) (F 11) n) n)), (7, .int tm), (8, .int lst)]) hx hb dX5_draw_143 hl (k := 10) rfl ((nI_add i 1)) (by decide) rfl (fun ls hl => ?_)
                refine lv_goto (tgt := 85) hx hb dX5_draw_146 (by decide) ?_
                exact ih85 (i + 1) tm lst mine (by omega) (by omega) hres ls (lv_sub hl [2, 3, 4, 5, 6, 7, 8, 9, 10, 0] rfl)
              · skip
                rw [if_neg c_5] at hres
                refine lv_iload hx hb dX5_draw_116 (lv_at hl 0 rfl) ?_
                refine lv_iload hx hb dX5_draw_118 (lv_at hl 6 rfl) ?_
                refine lv_iload hx hb dX5_draw_120 (lv_at hl 5 rfl) ?_
                refine lv_iadd hx hb dX5_draw_122 ?_
                refine lv_icmp_ge (tgt := 143) hx hb dX5_draw_123 (by decide) (fun c_6 => ?_) (fun c_6 => ?_)
                · skip
                  rw [if_pos c_6] at hres
                  refine lv_iinc (v := nI (i + 1)) (lv' := [(9, .int (nI (i + 1))), (10, .int (d_X5_drawn (nI i) (F 11 4) (d_X0_shares (F 4) (d_X5_ableNow (F 2) (F 4) (F 11) n) n))), (0, .ref (a 0)), (1, .int t), (2, .int what), (3, .int (d_X5_ableNow (F 2) (F 4) (F 11) n)), (4, .int mine), (5, .int (d_X0_eagerTogether (F 4) ((d_X5_ableNow (F 2) (F 4) (F 11) n) &&& (((1 : Int32) <<< (t &&& 31)) - (1 : Int32))) n)), (6, .int (d_X0_shares (F 4) (d_X5_ableNow (F 2) (F 4) (F 11) n) n)), (7, .int tm), (8, .int lst)]) hx hb dX5_draw_143 hl (k := 10) rfl ((nI_add i 1)) (by decide) rfl (fun ls hl => ?_)
                  refine lv_goto (tgt := 85) hx hb dX5_draw_146 (by decide) ?_
                  exact ih85 (i + 1) tm lst mine (by omega) (by omega) hres ls (lv_sub hl [2, 3, 4, 5, 6, 7, 8, 9, 10, 0] rfl)
                · skip
                  rw [if_neg c_6] at hres
                  refine lv_iload hx hb dX5_draw_126 (lv_at hl 8 rfl) ?_
                  refine lv_if_ne (tgt := 136) hx hb dX5_draw_128 (by decide) (fun c_7 => ?_) (fun c_7 => ?_)
                  · skip
                    rw [if_neg c_7] at hres
                    refine lv_iload hx hb dX5_draw_136 (lv_at hl 9 rfl) ?_
                    refine lv_istore (lv' := [(8, .int lst), (10, .int (d_X5_drawn (nI i) (F 11 4) (d_X0_shares (F 4) (d_X5_ableNow (F 2) (F 4) (F 11) n) n))), (0, .ref (a 0)), (1, .int t), (2, .int what), (3, .int (d_X5_ableNow (F 2) (F 4) (F 11) n)), (4, .int mine), (5, .int (d_X0_eagerTogether (F 4) ((d_X5_ableNow (F 2) (F 4) (F 11) n) &&& (((1 : Int32) <<< (t &&& 31)) - (1 : Int32))) n)), (6, .int (d_X0_shares (F 4) (d_X5_ableNow (F 2) (F 4) (F 11) n) n)), (7, .int tm), (9, .int (nI i))]) hx hb dX5_draw_138 hl (by decide) rfl (fun ls hl => ?_)
                    refine lv_iinc (v := tm + 1) (lv' := [(7, .int (tm + 1)), (8, .int lst), (10, .int (d_X5_drawn (nI i) (F 11 4) (d_X0_shares (F 4) (d_X5_ableNow (F 2) (F 4) (F 11) n) n))), (0, .ref (a 0)), (1, .int t), (2, .int what), (3, .int (d_X5_ableNow (F 2) (F 4) (F 11) n)), (4, .int mine), (5, .int (d_X0_eagerTogether (F 4) ((d_X5_ableNow (F 2) (F 4) (F 11) n) &&& (((1 : Int32) <<< (t &&& 31)) - (1 : Int32))) n)), (6, .int (d_X0_shares (F 4) (d_X5_ableNow (F 2) (F 4) (F 11) n) n)), (9, .int (nI i))]) hx hb dX5_draw_140 hl (k := 9) rfl (rfl) (by decide) rfl (fun ls hl => ?_)
                    refine lv_iinc (v := nI (i + 1)) (lv' := [(9, .int (nI (i + 1))), (7, .int (tm + 1)), (8, .int lst), (10, .int (d_X5_drawn (nI i) (F 11 4) (d_X0_shares (F 4) (d_X5_ableNow (F 2) (F 4) (F 11) n) n))), (0, .ref (a 0)), (1, .int t), (2, .int what), (3, .int (d_X5_ableNow (F 2) (F 4) (F 11) n)), (4, .int mine), (5, .int (d_X0_eagerTogether (F 4) ((d_X5_ableNow (F 2) (F 4) (F 11) n) &&& (((1 : Int32) <<< (t &&& 31)) - (1 : Int32))) n)), (6, .int (d_X0_shares (F 4) (d_X5_ableNow (F 2) (F 4) (F 11) n) n))]) hx hb dX5_draw_143 hl (k := 10) rfl ((nI_add i 1)) (by decide) rfl (fun ls hl => ?_)
                    refine lv_goto (tgt := 85) hx hb dX5_draw_146 (by decide) ?_
                    exact ih85 (i + 1) (tm + 1) lst mine (by omega) (by omega) hres ls (lv_sub hl [4, 5, 6, 7, 8, 9, 10, 1, 2, 0] rfl)
                  · skip
                    rw [if_pos c_7] at hres
                    refine lv_iload hx hb dX5_draw_131 (lv_at hl 10 rfl) ?_
                    refine lv_goto (tgt := 138) hx hb dX5_draw_133 (by decide) ?_
                    refine lv_istore (lv' := [(8, .int (nI i)), (10, .int (d_X5_drawn (nI i) (F 11 4) (d_X0_shares (F 4) (d_X5_ableNow (F 2) (F 4) (F 11) n) n))), (0, .ref (a 0)), (1, .int t), (2, .int what), (3, .int (d_X5_ableNow (F 2) (F 4) (F 11) n)), (4, .int mine), (5, .int (d_X0_eagerTogether (F 4) ((d_X5_ableNow (F 2) (F 4) (F 11) n) &&& (((1 : Int32) <<< (t &&& 31)) - (1 : Int32))) n)), (6, .int (d_X0_shares (F 4) (d_X5_ableNow (F 2) (F 4) (F 11) n) n)), (7, .int tm), (9, .int (nI i))]) hx hb dX5_draw_138 hl (by decide) rfl (fun ls hl => ?_)
                    refine lv_iinc (v := tm + 1) (lv' := [(7, .int (tm + 1)), (8, .int (nI i)), (10, .int (d_X5_drawn (nI i) (F 11 4) (d_X0_shares (F 4) (d_X5_ableNow (F 2) (F 4) (F 11) n) n))), (0, .ref (a 0)), (1, .int t), (2, .int what), (3, .int (d_X5_ableNow (F 2) (F 4) (F 11) n)), (4, .int mine), (5, .int (d_X0_eagerTogether (F 4) ((d_X5_ableNow (F 2) (F 4) (F 11) n) &&& (((1 : Int32) <<< (t &&& 31)) - (1 : Int32))) n)), (6, .int (d_X0_shares (F 4) (d_X5_ableNow (F 2) (F 4) (F 11) n) n)), (9, .int (nI i))]) hx hb dX5_draw_140 hl (k := 9) rfl (rfl) (by decide) rfl (fun ls hl => ?_)
                    refine lv_iinc (v := nI (i + 1)) (lv' := [(9, .int (nI (i + 1))), (7, .int (tm + 1)), (8, .int (nI i)), (10, .int (d_X5_drawn (nI i) (F 11 4) (d_X0_shares (F 4) (d_X5_ableNow (F 2) (F 4) (F 11) n) n))), (0, .ref (a 0)), (1, .int t), (2, .int what), (3, .int (d_X5_ableNow (F 2) (F 4) (F 11) n)), (4, .int mine), (5, .int (d_X0_eagerTogether (F 4) ((d_X5_ableNow (F 2) (F 4) (F 11) n) &&& (((1 : Int32) <<< (t &&& 31)) - (1 : Int32))) n)), (6, .int (d_X0_shares (F 4) (d_X5_ableNow (F 2) (F 4) (F 11) n) n))]) hx hb dX5_draw_143 hl (k := 10) rfl ((nI_add i 1)) (by decide) rfl (fun ls hl => ?_)
                    refine lv_goto (tgt := 85) hx hb dX5_draw_146 (by decide) ?_
                    exact ih85 (i + 1) (tm + 1) (nI i) mine (by omega) (by omega) hres ls (lv_sub hl [4, 5, 6, 7, 8, 9, 10, 1, 2, 0] rfl)
        exact loop85 501 0 0 (-9) mine (by omega) (Nat.zero_le _) hres ls (lv_sub hl [5, 6, 7, 8, 9, 4, 3, 2, 1, 0] rfl)
      refine lv_iload_n hx hb dX5_draw_25 rfl (lv_at hl 0 rfl) ?_
      refine lv_iload_n hx hb dX5_draw_26 rfl (lv_at hl 2 rfl) ?_
      have hPc := hP.sub (ws' := []) [] rfl
      have hDc := hD.sub (ws' := []) [] (by decide) rfl
      refine m_callR (W.runS (As := [.int (d_X5_ableNow (F 2) (F 4) (F 11) n), .int t]) (rest := []) ⟨hx, hb, hml, hown, hts⟩ (c_X5_bitOf l D cI cC cZ cS (d_X5_ableNow (F 2) (F 4) (F 11) n) t) (va_cwS 2 hts gX5_draw_X5_bitOf rfl rfl rfl (by decide +kernel) ⟨Nat.le_of_ble_eq_true rfl, Nat.le_of_ble_eq_true rfl⟩) (preS_of hPc hDc hE) rfl rfl hl.1 rfl (lv_room (Nat.le_of_ble_eq_true rfl)) dX5_draw_27 ⟨Nat.zero_le _, Nat.zero_le _⟩) ?_
      refine W.eq (g2 := F0 m 30 ls [.int (d_X5_bitOf (d_X5_ableNow (F 2) (F 4) (F 11) n) t)]) rfl ?_
      refine lv_iconst (v := 1) hx hb dX5_draw_30 (by decide) ?_
      refine lv_icmp_ne (tgt := 46) hx hb dX5_draw_31 (by decide) (fun c_8 => ?_) (fun c_8 => ?_)
      · skip
        rw [if_neg c_8] at hres
        refine lv_iconst (v := 0) hx hb dX5_draw_46 (by decide) ?_
        refine lv_istore (lv' := [(4, .int 0), (3, .int (d_X5_ableNow (F 2) (F 4) (F 11) n)), (0, .ref (a 0)), (1, .int t), (2, .int what)]) hx hb dX5_draw_47 hl (by decide) rfl (fun ls hl => ?_)
        exact join49 0  hres ls (lv_sub hl [2, 3, 4, 1, 0] rfl)
      · skip
        rw [if_pos c_8] at hres
        refine lv_aload_n hx hb dX5_draw_34 rfl (lv_at hl 1 rfl) ?_
        refine va_get (D := D) (ci := 5) (v := .ref (a 1)) (C := RX5) (T := TX5) (N := 10) hx hb hts hinX5 hown hK hP 0 rfl rfl 0 (by decide) (hts (.fieldLink RX5 10 "FirstOut" "home" "LFirstOut$House;") (by decide +kernel)) (fun _ h9 => h9) rfl dX5_draw_35 ?_
        refine va_get (D := D) (ci := 0) (v := .ref (a 4)) (C := RX0) (T := TX0) (N := 9) hx hb hts hinX0 hown hK hP 1 rfl rfl 2 (by decide) (hts (.fieldLink RX5 87 "FirstOut$House" "eager" "[I") (by decide +kernel)) (fun _ h9 => h9) rfl dX5_draw_38 ?_
        refine lv_iload_n hx hb dX5_draw_41 rfl (lv_at hl 2 rfl) ?_
        refine m_iald hx hb hK hP 4 0 rfl rfl t.toNatClampNeg ti.1 (by have := ti.2; omega) (by decide) dX5_draw_42 ?_
        refine lv_to (show _ = (F 4 t.toNatClampNeg) from rfl) ?_
        refine lv_goto (tgt := 47) hx hb dX5_draw_43 (by decide) ?_
        refine lv_istore (lv' := [(4, .int (F 4 t.toNatClampNeg)), (3, .int (d_X5_ableNow (F 2) (F 4) (F 11) n)), (0, .ref (a 0)), (1, .int t), (2, .int what)]) hx hb dX5_draw_47 hl (by decide) rfl (fun ls hl => ?_)
        exact join49 (F 4 t.toNatClampNeg)  hres ls (lv_sub hl [2, 3, 4, 1, 0] rfl)
    · skip
      rw [if_pos c_2] at hres
      refine lv_iconst (v := (-1)) hx hb dX5_draw_18 (by decide) ?_
      rw [hres]
      exact W.iret (v := (-1)) hx hb hr (fun t ht hW => ⟨rfl, ht⟩) (fun _ h => by cases h) dX5_draw_19
def d_X5_count (F : Nat → Nat → Int32) (what : Int32) : Int32 :=
  if what = 0 then
      (F 1 3)
    else
      if what = 1 then
        (F 1 6)
      else
        if what = 2 then
          (F 1 7)
        else
          if what = 3 then
            (F 1 8)
          else
            if what = 4 then
              (F 29 2)
            else
              if what = 5 then
                (F 9 1)
              else
                (-1)
set_option maxHeartbeats 4000000 in
set_option maxRecDepth 100000 in
theorem c_X5_count (l : Launch) (D : va_G) (cI cC cZ cS : ClassId) (a : Nat → Nat) (b : Nat → Nat) (F : Nat → Nat → Int32) (tc : Int64) (what : Int32) (n : Nat) (hn : F 1 3 = nI n) (h7 : n ≤ 7) : Met l yX5_count wsX5_count { frames := 0, cells := 0, slots := 0, locals := 0 } (PcE D cI cC cZ cS [.ref (a 0), .int what] (wF cI cC cZ cS a b F tc)) (QcR (some (.int (d_X5_count F what)))) 0 0 (fun _ => False) := by
  refine Met.ofW (cc := cX5_count) (maxL := 2) (ret := (some .int)) (by decide) rfl ?_
  intro p e s m args below meth c s₁ B hml hv
  obtain ⟨rfl, hP, hD, hE⟩ := hv
  have hK := hE.1
  have hx := B.exec
  have hb := B.bytes
  have hr := B.returns
  have hts := atoms_spec (ws := wsX5_count) B.pre
  have hown : s.vm.findClass RX5 = some m.cls := findClass_of_methodNamed B.named
  have hlocks := B.notSynchronized
  have hinX5 : ∀ w ∈ wsX50, w ∈ wsX5_count := by decide +kernel
  have hinX0 : ∀ w ∈ wsX00, w ∈ wsX5_count := by decide +kernel
  have hinX2 : ∀ w ∈ wsX20, w ∈ wsX5_count := by decide +kernel
  have hinX4 : ∀ w ∈ wsX40, w ∈ wsX5_count := by decide +kernel
  refine opq (d_X5_count F what) (fun R hres => ?_)
  rw [hres]
  replace hres := hres.symm
  rw [d_X5_count] at hres
  have hl := lv_entry ([.ref (a 0), .int what]) (n := 2) (Nat.le_of_ble_eq_true rfl)
  rw [lg_entry_eq]
  generalize (lg_sl ([.ref (a 0), .int what]) ++ List.replicate (2 - (lg_sl ([.ref (a 0), .int what])).length) Slot.unset).toArray = ls at hl ⊢
  have hl : lv_has ls 2 [(0, .ref (a 0)), (1, .int what)] := hl
  refine lv_iload_n hx hb dX5_count_0 rfl (lv_at hl 1 rfl) ?_
  by_cases c_1 : what = 0
  · rw [if_pos c_1] at hres
    refine lv_tableIn (off := 39) (tgt := 40) hx hb dX5_count_1 (by rw [c_1]; decide) (by rw [c_1]; decide) (by rw [c_1]; rfl) (by decide) ?_
    refine lv_aload_n hx hb dX5_count_40 rfl (lv_at hl 0 rfl) ?_
    refine va_get (D := D) (ci := 5) (v := .ref (a 1)) (C := RX5) (T := TX5) (N := 10) hx hb hts hinX5 hown hK hP 0 rfl rfl 0 (by decide) (hts (.fieldLink RX5 10 "FirstOut" "home" "LFirstOut$House;") (by decide +kernel)) (fun _ h9 => h9) rfl dX5_count_41 ?_
    refine va_get (D := D) (ci := 0) (v := .int (F 1 3)) (C := RX0) (T := TX0) (N := 9) hx hb hts hinX0 hown hK hP 1 rfl rfl 3 (by decide) (hts (.fieldLink RX5 171 "FirstOut$House" "things" "I") (by decide +kernel)) (fun _ h9 => h9) rfl dX5_count_44 ?_
    rw [hres]
    exact W.iret (v := (F 1 3)) hx hb hr (fun t ht hW => ⟨rfl, ht⟩) (fun _ h => by cases h) dX5_count_47
  · rw [if_neg c_1] at hres
    by_cases c_2 : what = 1
    · rw [if_pos c_2] at hres
      refine lv_tableIn (off := 47) (tgt := 48) hx hb dX5_count_1 (by rw [c_2]; decide) (by rw [c_2]; decide) (by rw [c_2]; rfl) (by decide) ?_
      refine lv_aload_n hx hb dX5_count_48 rfl (lv_at hl 0 rfl) ?_
      refine va_get (D := D) (ci := 5) (v := .ref (a 1)) (C := RX5) (T := TX5) (N := 10) hx hb hts hinX5 hown hK hP 0 rfl rfl 0 (by decide) (hts (.fieldLink RX5 10 "FirstOut" "home" "LFirstOut$House;") (by decide +kernel)) (fun _ h9 => h9) rfl dX5_count_49 ?_
      refine va_get (D := D) (ci := 0) (v := .int (F 1 6)) (C := RX0) (T := TX0) (N := 9) hx hb hts hinX0 hown hK hP 1 rfl rfl 6 (by decide) (hts (.fieldLink RX5 168 "FirstOut$House" "chance" "I") (by decide +kernel)) (fun _ h9 => h9) rfl dX5_count_52 ?_
      rw [hres]
      exact W.iret (v := (F 1 6)) hx hb hr (fun t ht hW => ⟨rfl, ht⟩) (fun _ h => by cases h) dX5_count_55
    · rw [if_neg c_2] at hres
      by_cases c_3 : what = 2
      · rw [if_pos c_3] at hres
        refine lv_tableIn (off := 55) (tgt := 56) hx hb dX5_count_1 (by rw [c_3]; decide) (by rw [c_3]; decide) (by rw [c_3]; rfl) (by decide) ?_
        refine lv_aload_n hx hb dX5_count_56 rfl (lv_at hl 0 rfl) ?_
        refine va_get (D := D) (ci := 5) (v := .ref (a 1)) (C := RX5) (T := TX5) (N := 10) hx hb hts hinX5 hown hK hP 0 rfl rfl 0 (by decide) (hts (.fieldLink RX5 10 "FirstOut" "home" "LFirstOut$House;") (by decide +kernel)) (fun _ h9 => h9) rfl dX5_count_57 ?_
        refine va_get (D := D) (ci := 0) (v := .int (F 1 7)) (C := RX0) (T := TX0) (N := 9) hx hb hts hinX0 hown hK hP 1 rfl rfl 7 (by decide) (hts (.fieldLink RX5 162 "FirstOut$House" "help" "I") (by decide +kernel)) (fun _ h9 => h9) rfl dX5_count_60 ?_
        rw [hres]
        exact W.iret (v := (F 1 7)) hx hb hr (fun t ht hW => ⟨rfl, ht⟩) (fun _ h => by cases h) dX5_count_63
      · rw [if_neg c_3] at hres
        by_cases c_4 : what = 3
        · rw [if_pos c_4] at hres
          refine lv_tableIn (off := 63) (tgt := 64) hx hb dX5_count_1 (by rw [c_4]; decide) (by rw [c_4]; decide) (by rw [c_4]; rfl) (by decide) ?_
          refine lv_aload_n hx hb dX5_count_64 rfl (lv_at hl 0 rfl) ?_
          refine va_get (D := D) (ci := 5) (v := .ref (a 1)) (C := RX5) (T := TX5) (N := 10) hx hb hts hinX5 hown hK hP 0 rfl rfl 0 (by decide) (hts (.fieldLink RX5 10 "FirstOut" "home" "LFirstOut$House;") (by decide +kernel)) (fun _ h9 => h9) rfl dX5_count_65 ?_
          refine va_get (D := D) (ci := 0) (v := .int (F 1 8)) (C := RX0) (T := TX0) (N := 9) hx hb hts hinX0 hown hK hP 1 rfl rfl 8 (by decide) (hts (.fieldLink RX5 165 "FirstOut$House" "worth" "I") (by decide +kernel)) (fun _ h9 => h9) rfl dX5_count_68 ?_
          rw [hres]
          exact W.iret (v := (F 1 8)) hx hb hr (fun t ht hW => ⟨rfl, ht⟩) (fun _ h => by cases h) dX5_count_71
        · rw [if_neg c_4] at hres
          by_cases c_5 : what = 4
          · rw [if_pos c_5] at hres
            refine lv_tableIn (off := 71) (tgt := 72) hx hb dX5_count_1 (by rw [c_5]; decide) (by rw [c_5]; decide) (by rw [c_5]; rfl) (by decide) ?_
            refine lv_aload_n hx hb dX5_count_72 rfl (lv_at hl 0 rfl) ?_
            refine va_get (D := D) (ci := 5) (v := .ref (a 29)) (C := RX5) (T := TX5) (N := 10) hx hb hts hinX5 hown hK hP 0 rfl rfl 8 (by decide) (hts (.fieldLink RX5 54 "FirstOut" "seen" "LFirstOut$Seen;") (by decide +kernel)) (fun _ h9 => h9) rfl dX5_count_73 ?_
            refine va_get (D := D) (ci := 2) (v := .int (F 29 2)) (C := RX2) (T := TX2) (N := 3) hx hb hts hinX2 hown hK hP 29 rfl rfl 2 (by decide) (hts (.fieldLink RX5 193 "FirstOut$Seen" "known" "I") (by decide +kernel)) (fun _ h9 => h9) rfl dX5_count_76 ?_
            rw [hres]
            exact W.iret (v := (F 29 2)) hx hb hr (fun t ht hW => ⟨rfl, ht⟩) (fun _ h => by cases h) dX5_count_79
          · rw [if_neg c_5] at hres
            by_cases c_6 : what = 5
            · rw [if_pos c_6] at hres
              refine lv_tableIn (off := 79) (tgt := 80) hx hb dX5_count_1 (by rw [c_6]; decide) (by rw [c_6]; decide) (by rw [c_6]; rfl) (by decide) ?_
              refine lv_aload_n hx hb dX5_count_80 rfl (lv_at hl 0 rfl) ?_
              refine va_get (D := D) (ci := 5) (v := .ref (a 9)) (C := RX5) (T := TX5) (N := 10) hx hb hts hinX5 hown hK hP 0 rfl rfl 2 (by decide) (hts (.fieldLink RX5 22 "FirstOut" "text" "LFirstOut$Text;") (by decide +kernel)) (fun _ h9 => h9) rfl dX5_count_81 ?_
              refine va_get (D := D) (ci := 4) (v := .int (F 9 1)) (C := RX4) (T := TX4) (N := 5) hx hb hts hinX4 hown hK hP 9 rfl rfl 1 (by decide) (hts (.fieldLink RX5 66 "FirstOut$Text" "length" "I") (by decide +kernel)) (fun _ h9 => h9) rfl dX5_count_84 ?_
              rw [hres]
              exact W.iret (v := (F 9 1)) hx hb hr (fun t ht hW => ⟨rfl, ht⟩) (fun _ h => by cases h) dX5_count_87
            · rw [if_neg c_6] at hres
              refine lv_tableOut (tgt := 88) hx hb dX5_count_1 (tb_out 0 5 (by decide) (fun k h1 h2 => by rcases (show k = 0 ∨ k = 1 ∨ k = 2 ∨ k = 3 ∨ k = 4 ∨ k = 5 by omega) with rfl | rfl | rfl | rfl | rfl | rfl <;> assumption)) (by decide) ?_
              refine lv_iconst (v := (-1)) hx hb dX5_count_88 (by decide) ?_
              rw [hres]
              exact W.iret (v := (-1)) hx hb hr (fun t ht hW => ⟨rfl, ht⟩) (fun _ h => by cases h) dX5_count_89
def d_X5_trace (tc : Int64) : Int64 :=
  tc
set_option maxHeartbeats 4000000 in
set_option maxRecDepth 100000 in
theorem c_X5_trace (l : Launch) (D : va_G) (cI cC cZ cS : ClassId) (a : Nat → Nat) (b : Nat → Nat) (F : Nat → Nat → Int32) (tc : Int64) : Met l yX5_trace wsX5_trace { frames := 0, cells := 0, slots := 0, locals := 0 } (PcE D cI cC cZ cS [.ref (a 0)] (wF cI cC cZ cS a b F tc)) (QcR (some (.long (d_X5_trace tc)))) 0 0 (fun _ => False) := by
  refine Met.ofW (cc := cX5_trace) (maxL := 1) (ret := (some .long)) (by decide) rfl ?_
  intro p e s m args below meth c s₁ B hml hv
  obtain ⟨rfl, hP, hD, hE⟩ := hv
  have hK := hE.1
  have hx := B.exec
  have hb := B.bytes
  have hr := B.returns
  have hts := atoms_spec (ws := wsX5_trace) B.pre
  have hown : s.vm.findClass RX5 = some m.cls := findClass_of_methodNamed B.named
  have hlocks := B.notSynchronized
  have hinX5 : ∀ w ∈ wsX50, w ∈ wsX5_trace := by decide +kernel
  refine opq (d_X5_trace tc) (fun R hres => ?_)
  rw [hres]
  replace hres := hres.symm
  rw [d_X5_trace] at hres
  have hl := lv_entry ([.ref (a 0)]) (n := 1) (Nat.le_of_ble_eq_true rfl)
  rw [lg_entry_eq]
  generalize (lg_sl ([.ref (a 0)]) ++ List.replicate (1 - (lg_sl ([.ref (a 0)])).length) Slot.unset).toArray = ls at hl ⊢
  have hl : lv_has ls 1 [(0, .ref (a 0))] := hl
  refine lv_aload_n hx hb dX5_trace_0 rfl (lv_at hl 0 rfl) ?_
  refine va_get (D := D) (ci := 5) (v := .long tc) (C := RX5) (T := TX5) (N := 10) hx hb hts hinX5 hown hK hP 0 rfl rfl 9 (by decide) (hts (.fieldLink RX5 58 "FirstOut" "traced" "J") (by decide +kernel)) (fun _ h9 => h9) rfl dX5_trace_1 ?_
  rw [hres]
  exact W.lret (v := tc) hx hb hr (fun t ht hW => ⟨rfl, ht⟩) (fun _ h => by cases h) dX5_trace_4
