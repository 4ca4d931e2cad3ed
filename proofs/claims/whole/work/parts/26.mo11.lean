def MK (mn : Nat → Int32) : Prop := mn 5 = nI (mn 5).toNatClampNeg ∧ (mn 5).toNatClampNeg ≤ 7
theorem MK.of {mn : Nat → Int32} {k : Nat} (h : mn 5 = nI k) (hk : k ≤ 7) : MK mn := by rw [MK, cl_nI h (by omega)]; exact ⟨h, hk⟩
theorem ri6 {F : Nat → Nat → Int32} {what : Int32} {len kk : Nat} (hp : PX (F 0) len) (hkk : F 2 5 = nI kk) (h7 : kk ≤ 7) (hk7 : what = 116 → kk < 7) :
    PX (d_X6_readsItem F what len kk 0) len ∧ (F 0 6).toNatClampNeg ≤ (d_X6_readsItem F what len kk 0 6).toNatClampNeg ∧ MK (d_X6_readsItem F what len kk 2) := by
  rw [d_X6_readsItem]
  by_cases c : what = 116
  · rw [if_pos c]
    obtain ⟨a1, a2⟩ := nb_ok (tx := F 1) (lo := 0) (hi := 31) hp
    obtain ⟨b1, b2⟩ := nb_ok (tx := F 1) (lo := 0) (hi := 99) a1
    obtain ⟨c1, c2⟩ := nb_ok (tx := F 1) (lo := 0) (hi := 9) b1
    obtain ⟨d1, d2⟩ := nb_ok (tx := F 1) (lo := 0) (hi := 1) c1
    have h := hk7 c
    exact ⟨d1.far (Or.inr rfl) _, Nat.le_trans a2 (Nat.le_trans b2 (Nat.le_trans c2 d2)), MK.of (k := kk + 1) (nI_1 kk) h⟩
  · rw [if_neg c]
    by_cases c2 : what = 118
    · rw [if_pos c2]
      obtain ⟨a1, a2⟩ := nb_ok (tx := F 1) (lo := 0) (hi := 31) hp
      exact ⟨a1.far (Or.inl rfl) _, a2, MK.of (k := kk) hkk h7⟩
    · rw [if_neg c2]
      obtain ⟨a1, a2⟩ := nb_ok (tx := F 1) (lo := 0) (hi := 10) hp
      obtain ⟨b1, b2⟩ := nb_ok (tx := F 1) (lo := 0) (hi := (10 : Int32) - (d_X6_number (F 0) (F 1) 0 10 len).1) a1
      obtain ⟨d1, d2⟩ := nb_ok (tx := F 1) (lo := 0) (hi := 999) b1
      exact ⟨d1.far (Or.inl rfl) _, Nat.le_trans a2 (Nat.le_trans b2 d2), MK.of (k := kk) hkk h7⟩
theorem takes_val {f tx : Nat → Int32} {len : Nat} (h : ¬ d_X6_isWell f = 0) : (d_X6_takes f tx 1 len).1 = f 7 := by rw [d_X6_takes, if_neg h, if_neg (by decide)]
theorem takes_0 {f tx : Nat → Int32} {len : Nat} : (d_X6_takes f tx 0 len).1 = 0 := by rw [d_X6_takes]; split <;> rfl
theorem takes_go {f tx : Nat → Int32} {len : Nat} (h : ¬ d_X6_isWell f = 0) (hp : PX f len) (ht : ¬ f 5 = 0) : PX (d_X6_takes f tx 1 len).2 len ∧ (f 6).toNatClampNeg < ((d_X6_takes f tx 1 len).2 6).toNatClampNeg := by
  rw [d_X6_takes, if_neg h, if_neg (by decide)]
  obtain ⟨a1, a2, a3⟩ := adv_ok (tx := tx) hp.1
  exact ⟨a1, Nat.lt_of_lt_of_le (hp.2.2.2 ht) a2⟩
theorem takes_f0 {f tx : Nat → Int32} {len : Nat} (h : ¬ d_X6_isWell f = 0) (hp : PX f len) : ¬ (d_X6_takes f tx 0 len).2 8 < 0 := by
  rw [d_X6_takes, if_neg h, if_pos rfl]
  show ¬ f 6 < 0
  rw [hp.2.1]
  exact nI_pos (by have := hp.2.2.1; have := hp.1.le.2; have := hp.1.2.1; omega)
theorem isWell_0 {f : Nat → Int32} (h : ¬ f 8 < 0) : d_X6_isWell f = 0 := by
  rw [d_X6_isWell, if_pos]
  rw [Int32.le_iff_toInt_le]; rw [Int32.lt_iff_toInt_lt] at h; omega
theorem takes_nw {f tx : Nat → Int32} {is : Int32} {len : Nat} (h : d_X6_isWell f = 0) : d_X6_takes f tx is len = (0, f) := by rw [d_X6_takes, if_pos h]
def mu (G : Nat → Nat → Int32) (len : Nat) : Nat := if d_X6_isWell (G 0) = 0 then 0 else 1 + (len - (G 0 6).toNatClampNeg)
theorem mu_dec {G G' : Nat → Nat → Int32} {len : Nat} (h : ¬ d_X6_isWell (G 0) = 0) (hp : PX (G' 0) len) (hl : (G 0 6).toNatClampNeg < (G' 0 6).toNatClampNeg) : mu G' len < mu G len := by
  rw [mu, mu, if_neg h]
  have := hp.2.2.1
  have := hp.1.le.2
  split <;> omega
theorem mu_dec0 {G G' : Nat → Nat → Int32} {len : Nat} (h : ¬ d_X6_isWell (G 0) = 0) (hf : ¬ G' 0 8 < 0) : mu G' len < mu G len := by
  rw [mu, mu, if_neg h, if_pos (isWell_0 hf)]
  omega
theorem mu_le {G : Nat → Nat → Int32} {len : Nat} (h : len ≤ 200) : mu G len < 202 := by rw [mu]; split <;> omega
theorem lt7 {mn : Nat → Int32} (c : ¬ (7 : Int32) ≤ mn 5) (h : MK mn) : (mn 5).toNatClampNeg < 7 := by
  rw [h.1] at c
  exact nlt_of (b := 7) c (by have := h.2; omega) (by omega)

def lp_X6_house_25 (F : Nat → Nat → Int32) (len : Nat) : Nat → Int32 → (Nat → Nat → Int32) → Int32 × (Nat → Nat → Int32)
  | 0, _, _ => (0, F)
  | k25 + 1, it, G => if (d_X6_isWell (G 0)) = 0 then
      if (d_X6_isWell (G 0)) = 0 then
        ((-10 : Int32) - (G 0 8), G)
      else
        (it, (d_X6_settles G))
    else
      if (G 0 5) = 0 then
        if (d_X6_isWell (G 0)) = 0 then
          ((-10 : Int32) - (G 0 8), G)
        else
          (it, (d_X6_settles G))
      else
        if (G 0 5) = (1 : Int32) then
          if (G 0 7) = (116 : Int32) then
            if (7 : Int32) ≤ (G 2 5) then
              if (((d_X6_takes (G 0) (G 1) 0 len).2) 5) = (3 : Int32) then
                lp_X6_house_25 F len k25 (it + 1) (va_up G 0 ((d_X6_takes ((d_X6_takes (G 0) (G 1) 0 len).2) (G 1) 1 len).2))
              else
                lp_X6_house_25 F len k25 (it + 1) (va_up G 0 ((d_X6_takes ((d_X6_takes (G 0) (G 1) 0 len).2) (G 1) 0 len).2))
            else
              if (d_X6_isWell ((d_X6_takes (G 0) (G 1) 1 len).2)) = 0 then
                if (((d_X6_takes (G 0) (G 1) 1 len).2) 5) = (3 : Int32) then
                  lp_X6_house_25 F len k25 (it + 1) (va_up G 0 ((d_X6_takes ((d_X6_takes (G 0) (G 1) 1 len).2) (G 1) 1 len).2))
                else
                  lp_X6_house_25 F len k25 (it + 1) (va_up G 0 ((d_X6_takes ((d_X6_takes (G 0) (G 1) 1 len).2) (G 1) 0 len).2))
              else
                if (((d_X6_readsItem (va_up G 0 ((d_X6_takes (G 0) (G 1) 1 len).2)) ((d_X6_takes (G 0) (G 1) 1 len).1) len ((G 2 5).toNatClampNeg)) 0) 5) = (3 : Int32) then
                  lp_X6_house_25 F len k25 (it + 1) (va_up (d_X6_readsItem (va_up G 0 ((d_X6_takes (G 0) (G 1) 1 len).2)) ((d_X6_takes (G 0) (G 1) 1 len).1) len ((G 2 5).toNatClampNeg)) 0 ((d_X6_takes ((d_X6_readsItem (va_up G 0 ((d_X6_takes (G 0) (G 1) 1 len).2)) ((d_X6_takes (G 0) (G 1) 1 len).1) len ((G 2 5).toNatClampNeg)) 0) ((d_X6_readsItem (va_up G 0 ((d_X6_takes (G 0) (G 1) 1 len).2)) ((d_X6_takes (G 0) (G 1) 1 len).1) len ((G 2 5).toNatClampNeg)) 1) 1 len).2))
                else
                  lp_X6_house_25 F len k25 (it + 1) (va_up (d_X6_readsItem (va_up G 0 ((d_X6_takes (G 0) (G 1) 1 len).2)) ((d_X6_takes (G 0) (G 1) 1 len).1) len ((G 2 5).toNatClampNeg)) 0 ((d_X6_takes ((d_X6_readsItem (va_up G 0 ((d_X6_takes (G 0) (G 1) 1 len).2)) ((d_X6_takes (G 0) (G 1) 1 len).1) len ((G 2 5).toNatClampNeg)) 0) ((d_X6_readsItem (va_up G 0 ((d_X6_takes (G 0) (G 1) 1 len).2)) ((d_X6_takes (G 0) (G 1) 1 len).1) len ((G 2 5).toNatClampNeg)) 1) 0 len).2))
          else
            if (G 0 7) = (118 : Int32) then
              if ((G 0 10) &&& (1 : Int32)) = 0 then
                if (d_X6_isWell ((d_X6_takes (G 0) (G 1) 1 len).2)) = 0 then
                  if (((d_X6_takes (G 0) (G 1) 1 len).2) 5) = (3 : Int32) then
                    lp_X6_house_25 F len k25 (it + 1) (va_up G 0 ((d_X6_takes ((d_X6_takes (G 0) (G 1) 1 len).2) (G 1) 1 len).2))
                  else
                    lp_X6_house_25 F len k25 (it + 1) (va_up G 0 ((d_X6_takes ((d_X6_takes (G 0) (G 1) 1 len).2) (G 1) 0 len).2))
                else
                  if (((d_X6_readsItem (va_up G 0 ((d_X6_takes (G 0) (G 1) 1 len).2)) ((d_X6_takes (G 0) (G 1) 1 len).1) len ((G 2 5).toNatClampNeg)) 0) 5) = (3 : Int32) then
                    lp_X6_house_25 F len k25 (it + 1) (va_up (d_X6_readsItem (va_up G 0 ((d_X6_takes (G 0) (G 1) 1 len).2)) ((d_X6_takes (G 0) (G 1) 1 len).1) len ((G 2 5).toNatClampNeg)) 0 ((d_X6_takes ((d_X6_readsItem (va_up G 0 ((d_X6_takes (G 0) (G 1) 1 len).2)) ((d_X6_takes (G 0) (G 1) 1 len).1) len ((G 2 5).toNatClampNeg)) 0) ((d_X6_readsItem (va_up G 0 ((d_X6_takes (G 0) (G 1) 1 len).2)) ((d_X6_takes (G 0) (G 1) 1 len).1) len ((G 2 5).toNatClampNeg)) 1) 1 len).2))
                  else
                    lp_X6_house_25 F len k25 (it + 1) (va_up (d_X6_readsItem (va_up G 0 ((d_X6_takes (G 0) (G 1) 1 len).2)) ((d_X6_takes (G 0) (G 1) 1 len).1) len ((G 2 5).toNatClampNeg)) 0 ((d_X6_takes ((d_X6_readsItem (va_up G 0 ((d_X6_takes (G 0) (G 1) 1 len).2)) ((d_X6_takes (G 0) (G 1) 1 len).1) len ((G 2 5).toNatClampNeg)) 0) ((d_X6_readsItem (va_up G 0 ((d_X6_takes (G 0) (G 1) 1 len).2)) ((d_X6_takes (G 0) (G 1) 1 len).1) len ((G 2 5).toNatClampNeg)) 1) 0 len).2))
              else
                if (((d_X6_takes (G 0) (G 1) 0 len).2) 5) = (3 : Int32) then
                  lp_X6_house_25 F len k25 (it + 1) (va_up G 0 ((d_X6_takes ((d_X6_takes (G 0) (G 1) 0 len).2) (G 1) 1 len).2))
                else
                  lp_X6_house_25 F len k25 (it + 1) (va_up G 0 ((d_X6_takes ((d_X6_takes (G 0) (G 1) 0 len).2) (G 1) 0 len).2))
            else
              if ((G 0 10) &&& (2 : Int32)) = 0 then
                if (d_X6_isWell ((d_X6_takes (G 0) (G 1) 1 len).2)) = 0 then
                  if (((d_X6_takes (G 0) (G 1) 1 len).2) 5) = (3 : Int32) then
                    lp_X6_house_25 F len k25 (it + 1) (va_up G 0 ((d_X6_takes ((d_X6_takes (G 0) (G 1) 1 len).2) (G 1) 1 len).2))
                  else
                    lp_X6_house_25 F len k25 (it + 1) (va_up G 0 ((d_X6_takes ((d_X6_takes (G 0) (G 1) 1 len).2) (G 1) 0 len).2))
                else
                  if (((d_X6_readsItem (va_up G 0 ((d_X6_takes (G 0) (G 1) 1 len).2)) ((d_X6_takes (G 0) (G 1) 1 len).1) len ((G 2 5).toNatClampNeg)) 0) 5) = (3 : Int32) then
                    lp_X6_house_25 F len k25 (it + 1) (va_up (d_X6_readsItem (va_up G 0 ((d_X6_takes (G 0) (G 1) 1 len).2)) ((d_X6_takes (G 0) (G 1) 1 len).1) len ((G 2 5).toNatClampNeg)) 0 ((d_X6_takes ((d_X6_readsItem (va_up G 0 ((d_X6_takes (G 0) (G 1) 1 len).2)) ((d_X6_takes (G 0) (G 1) 1 len).1) len ((G 2 5).toNatClampNeg)) 0) ((d_X6_readsItem (va_up G 0 ((d_X6_takes (G 0) (G 1) 1 len).2)) ((d_X6_takes (G 0) (G 1) 1 len).1) len ((G 2 5).toNatClampNeg)) 1) 1 len).2))
                  else
                    lp_X6_house_25 F len k25 (it + 1) (va_up (d_X6_readsItem (va_up G 0 ((d_X6_takes (G 0) (G 1) 1 len).2)) ((d_X6_takes (G 0) (G 1) 1 len).1) len ((G 2 5).toNatClampNeg)) 0 ((d_X6_takes ((d_X6_readsItem (va_up G 0 ((d_X6_takes (G 0) (G 1) 1 len).2)) ((d_X6_takes (G 0) (G 1) 1 len).1) len ((G 2 5).toNatClampNeg)) 0) ((d_X6_readsItem (va_up G 0 ((d_X6_takes (G 0) (G 1) 1 len).2)) ((d_X6_takes (G 0) (G 1) 1 len).1) len ((G 2 5).toNatClampNeg)) 1) 0 len).2))
              else
                if (((d_X6_takes (G 0) (G 1) 0 len).2) 5) = (3 : Int32) then
                  lp_X6_house_25 F len k25 (it + 1) (va_up G 0 ((d_X6_takes ((d_X6_takes (G 0) (G 1) 0 len).2) (G 1) 1 len).2))
                else
                  lp_X6_house_25 F len k25 (it + 1) (va_up G 0 ((d_X6_takes ((d_X6_takes (G 0) (G 1) 0 len).2) (G 1) 0 len).2))
        else
          if (((d_X6_takes (G 0) (G 1) 0 len).2) 5) = (3 : Int32) then
            lp_X6_house_25 F len k25 (it + 1) (va_up G 0 ((d_X6_takes ((d_X6_takes (G 0) (G 1) 0 len).2) (G 1) 1 len).2))
          else
            lp_X6_house_25 F len k25 (it + 1) (va_up G 0 ((d_X6_takes ((d_X6_takes (G 0) (G 1) 0 len).2) (G 1) 0 len).2))
def d_X6_house (F : Nat → Nat → Int32) (len : Nat) : Int32 × (Nat → Nat → Int32) :=
  lp_X6_house_25 F len 202 0 (va_up (d_X6_begins (va_up F 0 (upd (upd (upd (F 0) 0 0) 8 (-1)) 4 0))) 0 (d_X6_advances ((d_X6_begins (va_up F 0 (upd (upd (upd (F 0) 0 0) 8 (-1)) 4 0))) 0) ((d_X6_begins (va_up F 0 (upd (upd (upd (F 0) 0 0) 8 (-1)) 4 0))) 1) len))
set_option maxHeartbeats 4000000 in
set_option maxRecDepth 100000 in
theorem c_X6_house (l : Launch) (D : va_G) (cI cC cZ cS : ClassId) (a : Nat → Nat) (F : Nat → Nat → Int32) (tc : Int64) (len : Nat) (hle : F 0 3 = nI len) (h200 : len ≤ 200) : Met l yX6_house wsX6_house { frames := 5, cells := 0, slots := 0, locals := 109 } (PcE D cI cC cZ cS [.ref (a 0)] (wM cI cC cZ cS a F tc)) (QcM (some (.int ((d_X6_house F len).1))) D (wM cI cC cZ cS a F tc) (wM cI cC cZ cS a ((d_X6_house F len).2) tc)) 0 0 (inW (wM cI cC cZ cS a F tc)) := by
  refine Met.ofW (cc := cX6_house) (maxL := 3) (ret := (some .int)) (by decide) rfl ?_
  intro p e s m args below meth c s₁ B hml hv
  obtain ⟨rfl, hP, hD, hE⟩ := hv
  have hK := hE.1
  have hx := B.exec
  have hb := B.bytes
  have hr := B.returns
  have hts := atoms_spec (ws := wsX6_house) B.pre
  have hown : s.vm.findClass RX6 = some m.cls := findClass_of_methodNamed B.named
  have hlocks := B.notSynchronized
  have hinX6 : ∀ w ∈ wsX60, w ∈ wsX6_house := by decide +kernel
  have hD := inW_self hD
  have hS : va_S (inW (wM cI cC cZ cS a F tc)) s.heap s.heap [] := va_S.rf
  generalize hA : inW (wM cI cC cZ cS a F tc) = A at hD hS ⊢
  refine opq (d_X6_house F len) (fun R hres => ?_)
  rw [hres]
  replace hres := hres.symm
  rw [d_X6_house] at hres
  have hl := lv_entry ([.ref (a 0)]) (n := 3) (Nat.le_of_ble_eq_true rfl)
  rw [lg_entry_eq]
  generalize (lg_sl ([.ref (a 0)]) ++ List.replicate (3 - (lg_sl ([.ref (a 0)])).length) Slot.unset).toArray = ls at hl ⊢
  have hl : lv_has ls 3 [(0, .ref (a 0))] := hl
  refine lv_aload_n hx hb dX6_house_0 rfl (lv_at hl 0 rfl) ?_
  refine lv_iconst (v := 0) hx hb dX6_house_1 (by decide) ?_
  refine va_put (D := D) (ci := 6) (v := .int 0) (ty := .int) (C := RX6) (T := TX6) (N := 26) hx hb hts hinX6 tyX6 tyX6_ok nmX6 hown hK hP hD hS 0 rfl rfl 0 (by decide) (hts (.fieldLink RX6 53 "FirstOutModel" "thrown" "I") (by decide +kernel)) (fun _ h9 => h9) rfl (by decide +kernel) rfl rfl (Nat.le_of_ble_eq_true rfl) dX6_house_2 (fun H locs hP hD hS => ?_)
  have hP : va_P D vwCl (wM cI cC cZ cS a (va_up F 0 (upd (F 0) 0 0)) tc) H := hP
  have hD : va_D A (wM cI cC cZ cS a (va_up F 0 (upd (F 0) 0 0)) tc) := hD
  refine lv_aload_n hx hb dX6_house_5 rfl (lv_at hl 0 rfl) ?_
  refine lv_iconst (v := (-1)) hx hb dX6_house_6 (by decide) ?_
  refine va_put (D := D) (ci := 6) (v := .int (-1)) (ty := .int) (C := RX6) (T := TX6) (N := 26) hx hb hts hinX6 tyX6 tyX6_ok nmX6 hown hK hP hD hS 0 rfl rfl 8 (by decide) (hts (.fieldLink RX6 80 "FirstOutModel" "fault" "I") (by decide +kernel)) (fun _ h9 => h9) rfl (by decide +kernel) rfl rfl (Nat.le_of_ble_eq_true rfl) dX6_house_7 (fun H locs hP hD hS => ?_)
  have hP : va_P D vwCl (wM cI cC cZ cS a (va_up F 0 (upd (upd (F 0) 0 0) 8 (-1))) tc) H := hP
  have hD : va_D A (wM cI cC cZ cS a (va_up F 0 (upd (upd (F 0) 0 0) 8 (-1))) tc) := hD
  refine lv_aload_n hx hb dX6_house_10 rfl (lv_at hl 0 rfl) ?_
  refine lv_iconst (v := 0) hx hb dX6_house_11 (by decide) ?_
  refine va_put (D := D) (ci := 6) (v := .int 0) (ty := .int) (C := RX6) (T := TX6) (N := 26) hx hb hts hinX6 tyX6 tyX6_ok nmX6 hown hK hP hD hS 0 rfl rfl 4 (by decide) (hts (.fieldLink RX6 64 "FirstOutModel" "next" "I") (by decide +kernel)) (fun _ h9 => h9) rfl (by decide +kernel) rfl rfl (Nat.le_of_ble_eq_true rfl) dX6_house_12 (fun H locs hP hD hS => ?_)
  have hP : va_P D vwCl (wM cI cC cZ cS a (va_up F 0 (upd (upd (upd (F 0) 0 0) 8 (-1)) 4 0)) tc) H := hP
  have hD : va_D A (wM cI cC cZ cS a (va_up F 0 (upd (upd (upd (F 0) 0 0) 8 (-1)) 4 0)) tc) := hD
  refine lv_aload_n hx hb dX6_house_15 rfl (lv_at hl 0 rfl) ?_
  have hPc := hP.sub (ws' := (wM cI cC cZ cS a (va_up F 0 (upd (upd (upd (F 0) 0 0) 8 (-1)) 4 0)) tc)) [0, 1, 2, 3, 4, 5, 6, 7, 8, 9, 10, 11, 12] rfl
  have hDc := hD.sub (ws' := (wM cI cC cZ cS a (va_up F 0 (upd (upd (upd (F 0) 0 0) 8 (-1)) 4 0)) tc)) [0, 1, 2, 3, 4, 5, 6, 7, 8, 9, 10, 11, 12] (by decide) rfl
  refine m_callM (W.runV (As := []) (rest := []) ⟨hx, hb, hml, hown, hts⟩ (c_X6_begins l D cI cC cZ cS a (va_up F 0 (upd (upd (upd (F 0) 0 0) 8 (-1)) 4 0)) tc) (cwV 0 hts gX6_house_X6_begins rfl rfl rfl (by decide +kernel) ⟨Nat.le_of_ble_eq_true rfl, Nat.le_of_ble_eq_true rfl⟩) (preV_of hPc hDc hE (va_recv hK hPc (ci := 6) (q0 := 0) rfl rfl)) rfl rfl hl.1 rfl (lv_room (Nat.le_of_ble_eq_true rfl)) dX6_house_16 ⟨Nat.zero_le _, Nat.zero_le _⟩) hP hD hS [0, 1, 2, 3, 4, 5, 6, 7, 8, 9, 10, 11, 12] rfl wM_ad (fun H locs hP hD hS => ?_)
  have hP : va_P D vwCl (wM cI cC cZ cS a (d_X6_begins (va_up F 0 (upd (upd (upd (F 0) 0 0) 8 (-1)) 4 0))) tc) H := hP
  have hD : va_D A (wM cI cC cZ cS a (d_X6_begins (va_up F 0 (upd (upd (upd (F 0) 0 0) 8 (-1)) 4 0))) tc) := hD
  refine W.eq (g2 := F0 m 19 ls []) rfl ?_
  have hb0 : NX ((d_X6_begins (va_up F 0 (upd (upd (upd (F 0) 0 0) 8 (-1)) 4 0))) 0) len := ⟨hle, h200, 0, Nat.zero_le _, rfl⟩
  have hmk0 : MK ((d_X6_begins (va_up F 0 (upd (upd (upd (F 0) 0 0) 8 (-1)) 4 0))) 2) := MK.of (k := 0) rfl (by omega)
  refine opq (d_X6_begins (va_up F 0 (upd (upd (upd (F 0) 0 0) 8 (-1)) 4 0))) (fun r_1 hr_1 => ?_)
  try rw [hr_1] at hP
  try rw [hr_1] at hD
  try rw [hr_1] at hres
  try rw [hr_1] at hb0
  try rw [hr_1] at hmk0
  try rw [hr_1]
  refine lv_iconst (v := 0) hx hb dX6_house_19 (by decide) ?_
  refine lv_istore_n (lv' := [(1, .int 0), (0, .ref (a 0))]) hx hb dX6_house_20 rfl hl (by decide) rfl (fun ls hl => ?_)
  refine lv_aload_n hx hb dX6_house_21 rfl (lv_at hl 1 rfl) ?_
  have hPc := hP.sub (ws' := (wMt cI cC cZ cS a (r_1 0) (r_1 1) tc)) [0, 1] rfl
  have hDc := hD.sub (ws' := (wMt cI cC cZ cS a (r_1 0) (r_1 1) tc)) [0, 1] (by decide) rfl
  refine m_callM (W.runV (As := []) (rest := []) ⟨hx, hb, hml, hown, hts⟩ (c_X6_advances l D cI cC cZ cS a (r_1 0) (r_1 1) tc len hb0) (cwV 0 hts gX6_house_X6_advances rfl rfl rfl (by decide +kernel) ⟨Nat.le_of_ble_eq_true rfl, Nat.le_of_ble_eq_true rfl⟩) (preV_of hPc hDc hE (va_recv hK hPc (ci := 6) (q0 := 0) rfl rfl)) rfl rfl hl.1 rfl (lv_room (Nat.le_of_ble_eq_true rfl)) dX6_house_22 ⟨Nat.zero_le _, Nat.zero_le _⟩) hP hD hS [0, 1] rfl wMt_ad (fun H locs hP hD hS => ?_)
  have hP : va_P D vwCl (wM cI cC cZ cS a (va_up r_1 0 (d_X6_advances (r_1 0) (r_1 1) len)) tc) H := hP
  have hD : va_D A (wM cI cC cZ cS a (va_up r_1 0 (d_X6_advances (r_1 0) (r_1 1) len)) tc) := hD
  refine W.eq (g2 := F0 m 25 ls []) rfl ?_
  have hpx0 : PX (d_X6_advances (r_1 0) (r_1 1) len) len := (adv_ok hb0).1
  refine opq (d_X6_advances (r_1 0) (r_1 1) len) (fun r_2 hr_2 => ?_)
  try rw [hr_2] at hP
  try rw [hr_2] at hD
  try rw [hr_2] at hres
  try rw [hr_2] at hpx0
  try rw [hr_2]
  have loop25 : ∀ (k25 : Nat) (it : Int32) (G : Nat → Nat → Int32), mu G len < k25 → PX (G 0) len → MK (G 2) → R = lp_X6_house_25 F len k25 it G → ∀ (H : Heap) (locs : List Loc), va_P D vwCl (wM cI cC cZ cS a G tc) H → va_D A (wM cI cC cZ cS a G tc) → va_S A s.heap H locs → ∀ ls : Array Slot, lv_has ls 3 [(0, .ref (a 0)), (1, .int it)] → W p l e (headSpec wsX6_house { frames := 5, cells := 0, slots := 0, locals := 109 }).room s m (([.ref (a 0)] : List Value).toArray) below meth c H locs 0 0 (MQ below (QcM (some (.int R.1)) D (wM cI cC cZ cS a F tc) (wM cI cC cZ cS a R.2 tc)) (([.ref (a 0)] : List Value).toArray) s 0 0 A) (F0 m 25 ls []) := by
    intro k25
    induction k25 with
    | zero => intro it G hk; exact absurd hk (Nat.not_lt_zero _)
    | succ k25 ih25 =>
      intro it G hk25 hpx hmk hres H locs hP hD hS ls hl
      rw [lp_X6_house_25] at hres
      refine lv_aload_n hx hb dX6_house_25 rfl (lv_at hl 0 rfl) ?_
      have hPc := hP.sub (ws' := (wMt cI cC cZ cS a (G 0) (G 1) tc)) [0, 1] rfl
      have hDc := hD.sub (ws' := (wMt cI cC cZ cS a (G 0) (G 1) tc)) [0, 1] (by decide) rfl
      refine m_callR (W.runV (As := []) (rest := []) ⟨hx, hb, hml, hown, hts⟩ (c_X6_isWell l D cI cC cZ cS a (G 0) (G 1) tc) (cwV 0 hts gX6_house_X6_isWell rfl rfl rfl (by decide +kernel) ⟨Nat.le_of_ble_eq_true rfl, Nat.le_of_ble_eq_true rfl⟩) (preV_of hPc hDc hE (va_recv hK hPc (ci := 6) (q0 := 0) rfl rfl)) rfl rfl hl.1 rfl (lv_room (Nat.le_of_ble_eq_true rfl)) dX6_house_26 ⟨Nat.zero_le _, Nat.zero_le _⟩) ?_
      refine W.eq (g2 := F0 m 29 ls [.int (d_X6_isWell (G 0))]) rfl ?_
      refine lv_if_eq (tgt := 138) hx hb dX6_house_29 (by decide) (fun c_3 => ?_) (fun c_3 => ?_)
      · skip
        rw [if_pos c_3] at hres
        refine lv_aload_n hx hb dX6_house_138 rfl (lv_at hl 0 rfl) ?_
        have hPc := hP.sub (ws' := (wMt cI cC cZ cS a (G 0) (G 1) tc)) [0, 1] rfl
        have hDc := hD.sub (ws' := (wMt cI cC cZ cS a (G 0) (G 1) tc)) [0, 1] (by decide) rfl
        refine m_callR (W.runV (As := []) (rest := []) ⟨hx, hb, hml, hown, hts⟩ (c_X6_isWell l D cI cC cZ cS a (G 0) (G 1) tc) (cwV 0 hts gX6_house_X6_isWell rfl rfl rfl (by decide +kernel) ⟨Nat.le_of_ble_eq_true rfl, Nat.le_of_ble_eq_true rfl⟩) (preV_of hPc hDc hE (va_recv hK hPc (ci := 6) (q0 := 0) rfl rfl)) rfl rfl hl.1 rfl (lv_room (Nat.le_of_ble_eq_true rfl)) dX6_house_139 ⟨Nat.zero_le _, Nat.zero_le _⟩) ?_
        refine W.eq (g2 := F0 m 142 ls [.int (d_X6_isWell (G 0))]) rfl ?_
        refine lv_if_ne (tgt := 153) hx hb dX6_house_142 (by decide) (fun c_4 => ?_) (fun c_4 => ?_)
        · skip
          rw [if_neg c_4] at hres
          refine lv_aload_n hx hb dX6_house_153 rfl (lv_at hl 0 rfl) ?_
          have hPc := hP.sub (ws' := (wM cI cC cZ cS a G tc)) [0, 1, 2, 3, 4, 5, 6, 7, 8, 9, 10, 11, 12] rfl
          have hDc := hD.sub (ws' := (wM cI cC cZ cS a G tc)) [0, 1, 2, 3, 4, 5, 6, 7, 8, 9, 10, 11, 12] (by decide) rfl
          refine m_callM (W.runV (As := []) (rest := []) ⟨hx, hb, hml, hown, hts⟩ (c_X6_settles l D cI cC cZ cS a G tc) (cwV 0 hts gX6_house_X6_settles rfl rfl rfl (by decide +kernel) ⟨Nat.le_of_ble_eq_true rfl, Nat.le_of_ble_eq_true rfl⟩) (preV_of hPc hDc hE (va_recv hK hPc (ci := 6) (q0 := 0) rfl rfl)) rfl rfl hl.1 rfl (lv_room (Nat.le_of_ble_eq_true rfl)) dX6_house_154 ⟨Nat.zero_le _, Nat.zero_le _⟩) hP hD hS [0, 1, 2, 3, 4, 5, 6, 7, 8, 9, 10, 11, 12] rfl wM_ad (fun H locs hP hD hS => ?_)
          have hP : va_P D vwCl (wM cI cC cZ cS a (d_X6_settles G) tc) H := hP
          have hD : va_D A (wM cI cC cZ cS a (d_X6_settles G) tc) := hD
          refine W.eq (g2 := F0 m 157 ls []) rfl ?_
          refine opq (d_X6_settles G) (fun r_5 hr_5 => ?_)
          try rw [hr_5] at hP
          try rw [hr_5] at hD
          try rw [hr_5] at hres
          try rw [hr_5]
          refine lv_iload_n hx hb dX6_house_157 rfl (lv_at hl 1 rfl) ?_
          rw [hres]
          exact W.iret (v := it) hx hb hr (fun t ht hW => ⟨rfl, by rw [ht]; exact hP, by rw [hA]; exact hS.F ht⟩) hS.2.2 dX6_house_158
        · skip
          rw [if_pos c_4] at hres
          refine lv_bipush (v := (-10)) hx hb dX6_house_145 (by decide) ?_
          refine lv_aload_n hx hb dX6_house_147 rfl (lv_at hl 0 rfl) ?_
          refine va_get (D := D) (ci := 6) (v := .int (G 0 8)) (C := RX6) (T := TX6) (N := 26) hx hb hts hinX6 hown hK hP 0 rfl rfl 8 (by decide) (hts (.fieldLink RX6 80 "FirstOutModel" "fault" "I") (by decide +kernel)) (fun _ h9 => h9) rfl dX6_house_148 ?_
          refine lv_isub hx hb dX6_house_151 ?_
          rw [hres]
          exact W.iret (v := (-10 : Int32) - (G 0 8)) hx hb hr (fun t ht hW => ⟨rfl, by rw [ht]; exact hP, by rw [hA]; exact hS.F ht⟩) hS.2.2 dX6_house_152
      · skip
        rw [if_neg c_3] at hres
        have hwell := c_3
        refine lv_aload_n hx hb dX6_house_32 rfl (lv_at hl 0 rfl) ?_
        refine va_get (D := D) (ci := 6) (v := .int (G 0 5)) (C := RX6) (T := TX6) (N := 26) hx hb hts hinX6 hown hK hP 0 rfl rfl 5 (by decide) (hts (.fieldLink RX6 74 "FirstOutModel" "token" "I") (by decide +kernel)) (fun _ h9 => h9) rfl dX6_house_33 ?_
        refine lv_if_eq (tgt := 138) hx hb dX6_house_36 (by decide) (fun c_6 => ?_) (fun c_6 => ?_)
        · skip
          rw [if_pos c_6] at hres
          refine lv_aload_n hx hb dX6_house_138 rfl (lv_at hl 0 rfl) ?_
          have hPc := hP.sub (ws' := (wMt cI cC cZ cS a (G 0) (G 1) tc)) [0, 1] rfl
          have hDc := hD.sub (ws' := (wMt cI cC cZ cS a (G 0) (G 1) tc)) [0, 1] (by decide) rfl
          refine m_callR (W.runV (As := []) (rest := []) ⟨hx, hb, hml, hown, hts⟩ (c_X6_isWell l D cI cC cZ cS a (G 0) (G 1) tc) (cwV 0 hts gX6_house_X6_isWell rfl rfl rfl (by decide +kernel) ⟨Nat.le_of_ble_eq_true rfl, Nat.le_of_ble_eq_true rfl⟩) (preV_of hPc hDc hE (va_recv hK hPc (ci := 6) (q0 := 0) rfl rfl)) rfl rfl hl.1 rfl (lv_room (Nat.le_of_ble_eq_true rfl)) dX6_house_139 ⟨Nat.zero_le _, Nat.zero_le _⟩) ?_
          refine W.eq (g2 := F0 m 142 ls [.int (d_X6_isWell (G 0))]) rfl ?_
          refine lv_if_ne (tgt := 153) hx hb dX6_house_142 (by decide) (fun c_7 => ?_) (fun c_7 => ?_)
          · skip
            rw [if_neg c_7] at hres
            refine lv_aload_n hx hb dX6_house_153 rfl (lv_at hl 0 rfl) ?_
            have hPc := hP.sub (ws' := (wM cI cC cZ cS a G tc)) [0, 1, 2, 3, 4, 5, 6, 7, 8, 9, 10, 11, 12] rfl
            have hDc := hD.sub (ws' := (wM cI cC cZ cS a G tc)) [0, 1, 2, 3, 4, 5, 6, 7, 8, 9, 10, 11, 12] (by decide) rfl
            refine m_callM (W.runV (As := []) (rest := []) ⟨hx, hb, hml, hown, hts⟩ (c_X6_settles l D cI cC cZ cS a G tc) (cwV 0 hts gX6_house_X6_settles rfl rfl rfl (by decide +kernel) ⟨Nat.le_of_ble_eq_true rfl, Nat.le_of_ble_eq_true rfl⟩) (preV_of hPc hDc hE (va_recv hK hPc (ci := 6) (q0 := 0) rfl rfl)) rfl rfl hl.1 rfl (lv_room (Nat.le_of_ble_eq_true rfl)) dX6_house_154 ⟨Nat.zero_le _, Nat.zero_le _⟩) hP hD hS [0, 1, 2, 3, 4, 5, 6, 7, 8, 9, 10, 11, 12] rfl wM_ad (fun H locs hP hD hS => ?_)
            have hP : va_P D vwCl (wM cI cC cZ cS a (d_X6_settles G) tc) H := hP
            have hD : va_D A (wM cI cC cZ cS a (d_X6_settles G) tc) := hD
            refine W.eq (g2 := F0 m 157 ls []) rfl ?_
            refine opq (d_X6_settles G) (fun r_8 hr_8 => ?_)
            try rw [hr_8] at hP
            try rw [hr_8] at hD
            try rw [hr_8] at hres
            try rw [hr_8]
            refine lv_iload_n hx hb dX6_house_157 rfl (lv_at hl 1 rfl) ?_
            rw [hres]
            exact W.iret (v := it) hx hb hr (fun t ht hW => ⟨rfl, by rw [ht]; exact hP, by rw [hA]; exact hS.F ht⟩) hS.2.2 dX6_house_158
          · skip
            rw [if_pos c_7] at hres
            refine lv_bipush (v := (-10)) hx hb dX6_house_145 (by decide) ?_
            refine lv_aload_n hx hb dX6_house_147 rfl (lv_at hl 0 rfl) ?_
            refine va_get (D := D) (ci := 6) (v := .int (G 0 8)) (C := RX6) (T := TX6) (N := 26) hx hb hts hinX6 hown hK hP 0 rfl rfl 8 (by decide) (hts (.fieldLink RX6 80 "FirstOutModel" "fault" "I") (by decide +kernel)) (fun _ h9 => h9) rfl dX6_house_148 ?_
            refine lv_isub hx hb dX6_house_151 ?_
            rw [hres]
            exact W.iret (v := (-10 : Int32) - (G 0 8)) hx hb hr (fun t ht hW => ⟨rfl, by rw [ht]; exact hP, by rw [hA]; exact hS.F ht⟩) hS.2.2 dX6_house_152
        · skip
          rw [if_neg c_6] at hres
          have htok := c_6
          refine lv_aload_n hx hb dX6_house_39 rfl (lv_at hl 0 rfl) ?_
          refine lv_aload_n hx hb dX6_house_40 rfl (lv_at hl 0 rfl) ?_
          refine va_get (D := D) (ci := 6) (v := .int (G 0 5)) (C := RX6) (T := TX6) (N := 26) hx hb hts hinX6 hown hK hP 0 rfl rfl 5 (by decide) (hts (.fieldLink RX6 74 "FirstOutModel" "token" "I") (by decide +kernel)) (fun _ h9 => h9) rfl dX6_house_41 ?_
          refine lv_iconst (v := 1) hx hb dX6_house_44 (by decide) ?_
          refine lv_icmp_ne (tgt := 97) hx hb dX6_house_45 (by decide) (fun c_9 => ?_) (fun c_9 => ?_)
          · skip
            rw [if_neg c_9] at hres
            refine lv_iconst (v := 0) hx hb dX6_house_97 (by decide) ?_
            have hPc := hP.sub (ws' := (wMt cI cC cZ cS a (G 0) (G 1) tc)) [0, 1] rfl
            have hDc := hD.sub (ws' := (wMt cI cC cZ cS a (G 0) (G 1) tc)) [0, 1] (by decide) rfl
            refine m_callM (W.runV (As := [.int 0]) (rest := []) ⟨hx, hb, hml, hown, hts⟩ (c_X6_takes l D cI cC cZ cS a (G 0) (G 1) tc 0 len hpx.1) (cwV 1 hts gX6_house_X6_takes rfl rfl rfl (by decide +kernel) ⟨Nat.le_of_ble_eq_true rfl, Nat.le_of_ble_eq_true rfl⟩) (preV_of hPc hDc hE (va_recv hK hPc (ci := 6) (q0 := 0) rfl rfl)) rfl rfl hl.1 rfl (lv_room (Nat.le_of_ble_eq_true rfl)) dX6_house_98 ⟨Nat.zero_le _, Nat.zero_le _⟩) hP hD hS [0, 1] rfl wMt_ad (fun H locs hP hD hS => ?_)
            have hP : va_P D vwCl (wM cI cC cZ cS a (va_up G 0 ((d_X6_takes (G 0) (G 1) 0 len).2)) tc) H := hP
            have hD : va_D A (wM cI cC cZ cS a (va_up G 0 ((d_X6_takes (G 0) (G 1) 0 len).2)) tc) := hD
            refine W.eq (g2 := F0 m 101 ls [.int ((d_X6_takes (G 0) (G 1) 0 len).1)]) rfl ?_
            have htv : (d_X6_takes (G 0) (G 1) 0 len).1 = 0 := takes_0
            have htp : PX (d_X6_takes (G 0) (G 1) 0 len).2 len ∧ True := ⟨(tk_ok hpx).1, trivial⟩
            have htf : ¬ (d_X6_takes (G 0) (G 1) 0 len).2 8 < 0 := takes_f0 hwell hpx
            refine opq (d_X6_takes (G 0) (G 1) 0 len) (fun r_10 hr_10 => ?_)
            try rw [hr_10] at hP
            try rw [hr_10] at hD
            try rw [hr_10] at hres
            try rw [hr_10] at htv
            try rw [hr_10] at htp
            try rw [hr_10] at htf
            try rw [hr_10]
            refine lv_istore_n (lv' := [(2, .int r_10.1), (0, .ref (a 0)), (1, .int it)]) hx hb dX6_house_101 rfl hl (by decide) rfl (fun ls hl => ?_)
            refine lv_aload_n hx hb dX6_house_102 rfl (lv_at hl 1 rfl) ?_
            have hPc := hP.sub (ws' := (wMt cI cC cZ cS a r_10.2 (G 1) tc)) [0, 1] rfl
            have hDc := hD.sub (ws' := (wMt cI cC cZ cS a r_10.2 (G 1) tc)) [0, 1] (by decide) rfl
            refine m_callR (W.runV (As := []) (rest := []) ⟨hx, hb, hml, hown, hts⟩ (c_X6_isWell l D cI cC cZ cS a r_10.2 (G 1) tc) (cwV 0 hts gX6_house_X6_isWell rfl rfl rfl (by decide +kernel) ⟨Nat.le_of_ble_eq_true rfl, Nat.le_of_ble_eq_true rfl⟩) (preV_of hPc hDc hE (va_recv hK hPc (ci := 6) (q0 := 0) rfl rfl)) rfl rfl hl.1 rfl (lv_room (Nat.le_of_ble_eq_true rfl)) dX6_house_103 ⟨Nat.zero_le _, Nat.zero_le _⟩) ?_
            refine W.eq (g2 := F0 m 106 ls [.int (d_X6_isWell r_10.2)]) rfl ?_
            refine lv_if_eq (tgt := 114) hx hb dX6_house_106 (by decide) (fun c_11 => ?_) (fun c_11 => ?_)
            · skip
              refine lv_aload_n hx hb dX6_house_114 rfl (lv_at hl 1 rfl) ?_
              refine lv_aload_n hx hb dX6_house_115 rfl (lv_at hl 1 rfl) ?_
              refine va_get (D := D) (ci := 6) (v := .int (r_10.2 5)) (C := RX6) (T := TX6) (N := 26) hx hb hts hinX6 hown hK hP 0 rfl rfl 5 (by decide) (hts (.fieldLink RX6 74 "FirstOutModel" "token" "I") (by decide +kernel)) (fun _ h9 => h9) rfl dX6_house_116 ?_
              refine lv_iconst (v := 3) hx hb dX6_house_119 (by decide) ?_
              refine lv_icmp_ne (tgt := 127) hx hb dX6_house_120 (by decide) (fun c_12 => ?_) (fun c_12 => ?_)
              · skip
                rw [if_neg c_12] at hres
                refine lv_iconst (v := 0) hx hb dX6_house_127 (by decide) ?_
                have hPc := hP.sub (ws' := (wMt cI cC cZ cS a r_10.2 (G 1) tc)) [0, 1] rfl
                have hDc := hD.sub (ws' := (wMt cI cC cZ cS a r_10.2 (G 1) tc)) [0, 1] (by decide) rfl
                refine m_callM (W.runV (As := [.int 0]) (rest := []) ⟨hx, hb, hml, hown, hts⟩ (c_X6_takes l D cI cC cZ cS a r_10.2 (G 1) tc 0 len htp.1.1) (cwV 1 hts gX6_house_X6_takes rfl rfl rfl (by decide +kernel) ⟨Nat.le_of_ble_eq_true rfl, Nat.le_of_ble_eq_true rfl⟩) (preV_of hPc hDc hE (va_recv hK hPc (ci := 6) (q0 := 0) rfl rfl)) rfl rfl hl.1 rfl (lv_room (Nat.le_of_ble_eq_true rfl)) dX6_house_128 ⟨Nat.zero_le _, Nat.zero_le _⟩) hP hD hS [0, 1] rfl wMt_ad (fun H locs hP hD hS => ?_)
                have hP : va_P D vwCl (wM cI cC cZ cS a (va_up G 0 ((d_X6_takes r_10.2 (G 1) 0 len).2)) tc) H := hP
                have hD : va_D A (wM cI cC cZ cS a (va_up G 0 ((d_X6_takes r_10.2 (G 1) 0 len).2)) tc) := hD
                refine W.eq (g2 := F0 m 131 ls [.int ((d_X6_takes r_10.2 (G 1) 0 len).1)]) rfl ?_
                have ht2 : PX (d_X6_takes r_10.2 (G 1) 0 len).2 len ∧ _ := tk_ok htp.1
                have hf2 : ¬ (d_X6_takes r_10.2 (G 1) 0 len).2 8 < 0 := by rw [takes_nw (isWell_0 htf)]; exact htf
                refine opq (d_X6_takes r_10.2 (G 1) 0 len) (fun r_13 hr_13 => ?_)
                try rw [hr_13] at hP
                try rw [hr_13] at hD
                try rw [hr_13] at hres
                try rw [hr_13] at ht2
                try rw [hr_13] at hf2
                try rw [hr_13]
                refine lv_pop hx hb dX6_house_131 rfl ?_
                refine lv_iinc (v := it + 1) (lv' := [(1, .int (it + 1)), (2, .int r_10.1), (0, .ref (a 0))]) hx hb dX6_house_132 hl (k := 2) rfl (rfl) (by decide) rfl (fun ls hl => ?_)
                refine lv_goto (tgt := 25) hx hb dX6_house_135 (by decide) ?_
                have hP : va_P D vwCl (wM cI cC cZ cS a (va_up G 0 r_13.2) tc) H := hP
                have hD : va_D A (wM cI cC cZ cS a (va_up G 0 r_13.2) tc) := hD
                exact ih25 (it + 1) (va_up G 0 r_13.2) (by exact Nat.lt_of_lt_of_le (mu_dec0 hwell hf2) (Nat.le_of_lt_succ hk25)) ht2.1 hmk hres _ _ hP hD hS ls (lv_sub hl [2, 0] rfl)
              · skip
                rw [if_pos c_12] at hres
                refine lv_iconst (v := 1) hx hb dX6_house_123 (by decide) ?_
                refine lv_goto (tgt := 128) hx hb dX6_house_124 (by decide) ?_
                have hPc := hP.sub (ws' := (wMt cI cC cZ cS a r_10.2 (G 1) tc)) [0, 1] rfl
                have hDc := hD.sub (ws' := (wMt cI cC cZ cS a r_10.2 (G 1) tc)) [0, 1] (by decide) rfl
                refine m_callM (W.runV (As := [.int 1]) (rest := []) ⟨hx, hb, hml, hown, hts⟩ (c_X6_takes l D cI cC cZ cS a r_10.2 (G 1) tc 1 len htp.1.1) (cwV 1 hts gX6_house_X6_takes rfl rfl rfl (by decide +kernel) ⟨Nat.le_of_ble_eq_true rfl, Nat.le_of_ble_eq_true rfl⟩) (preV_of hPc hDc hE (va_recv hK hPc (ci := 6) (q0 := 0) rfl rfl)) rfl rfl hl.1 rfl (lv_room (Nat.le_of_ble_eq_true rfl)) dX6_house_128 ⟨Nat.zero_le _, Nat.zero_le _⟩) hP hD hS [0, 1] rfl wMt_ad (fun H locs hP hD hS => ?_)
                have hP : va_P D vwCl (wM cI cC cZ cS a (va_up G 0 ((d_X6_takes r_10.2 (G 1) 1 len).2)) tc) H := hP
                have hD : va_D A (wM cI cC cZ cS a (va_up G 0 ((d_X6_takes r_10.2 (G 1) 1 len).2)) tc) := hD
                refine W.eq (g2 := F0 m 131 ls [.int ((d_X6_takes r_10.2 (G 1) 1 len).1)]) rfl ?_
                have ht2 : PX (d_X6_takes r_10.2 (G 1) 1 len).2 len ∧ _ := tk_ok htp.1
                have hf2 : ¬ (d_X6_takes r_10.2 (G 1) 1 len).2 8 < 0 := by rw [takes_nw (isWell_0 htf)]; exact htf
                refine opq (d_X6_takes r_10.2 (G 1) 1 len) (fun r_14 hr_14 => ?_)
                try rw [hr_14] at hP
                try rw [hr_14] at hD
                try rw [hr_14] at hres
                try rw [hr_14] at ht2
                try rw [hr_14] at hf2
                try rw [hr_14]
                refine lv_pop hx hb dX6_house_131 rfl ?_
                refine lv_iinc (v := it + 1) (lv' := [(1, .int (it + 1)), (2, .int r_10.1), (0, .ref (a 0))]) hx hb dX6_house_132 hl (k := 2) rfl (rfl) (by decide) rfl (fun ls hl => ?_)
                refine lv_goto (tgt := 25) hx hb dX6_house_135 (by decide) ?_
                have hP : va_P D vwCl (wM cI cC cZ cS a (va_up G 0 r_14.2) tc) H := hP
                have hD : va_D A (wM cI cC cZ cS a (va_up G 0 r_14.2) tc) := hD
                exact ih25 (it + 1) (va_up G 0 r_14.2) (by exact Nat.lt_of_lt_of_le (mu_dec0 hwell hf2) (Nat.le_of_lt_succ hk25)) ht2.1 hmk hres _ _ hP hD hS ls (lv_sub hl [2, 0] rfl)
            · exact absurd c_11 (fun h => h (isWell_0 htf))
          · skip
            rw [if_pos c_9] at hres
            refine lv_aload_n hx hb dX6_house_48 rfl (lv_at hl 0 rfl) ?_
            refine va_get (D := D) (ci := 6) (v := .int (G 0 7)) (C := RX6) (T := TX6) (N := 26) hx hb hts hinX6 hown hK hP 0 rfl rfl 7 (by decide) (hts (.fieldLink RX6 77 "FirstOutModel" "value" "I") (by decide +kernel)) (fun _ h9 => h9) rfl dX6_house_49 ?_
            refine lv_bipush (v := 116) hx hb dX6_house_52 (by decide) ?_
            refine lv_icmp_ne (tgt := 71) hx hb dX6_house_54 (by decide) (fun c_15 => ?_) (fun c_15 => ?_)
            · skip
              rw [if_neg c_15] at hres
              have hn116 := c_15
              refine lv_aload_n hx hb dX6_house_71 rfl (lv_at hl 0 rfl) ?_
              refine va_get (D := D) (ci := 6) (v := .int (G 0 10)) (C := RX6) (T := TX6) (N := 26) hx hb hts hinX6 hown hK hP 0 rfl rfl 10 (by decide) (hts (.fieldLink RX6 94 "FirstOutModel" "told" "I") (by decide +kernel)) (fun _ h9 => h9) rfl dX6_house_72 ?_
              refine lv_aload_n hx hb dX6_house_75 rfl (lv_at hl 0 rfl) ?_
              refine va_get (D := D) (ci := 6) (v := .int (G 0 7)) (C := RX6) (T := TX6) (N := 26) hx hb hts hinX6 hown hK hP 0 rfl rfl 7 (by decide) (hts (.fieldLink RX6 77 "FirstOutModel" "value" "I") (by decide +kernel)) (fun _ h9 => h9) rfl dX6_house_76 ?_
              refine lv_bipush (v := 118) hx hb dX6_house_79 (by decide) ?_
              refine lv_icmp_ne (tgt := 88) hx hb dX6_house_81 (by decide) (fun c_16 => ?_) (fun c_16 => ?_)
              · skip
                rw [if_neg c_16] at hres
                refine lv_iconst (v := 2) hx hb dX6_house_88 (by decide) ?_
                refine lv_iand hx hb dX6_house_89 ?_
                refine lv_if_ne (tgt := 97) hx hb dX6_house_90 (by decide) (fun c_17 => ?_) (fun c_17 => ?_)
                · skip
                  rw [if_neg c_17] at hres
                  refine lv_iconst (v := 0) hx hb dX6_house_97 (by decide) ?_
                  have hPc := hP.sub (ws' := (wMt cI cC cZ cS a (G 0) (G 1) tc)) [0, 1] rfl
                  have hDc := hD.sub (ws' := (wMt cI cC cZ cS a (G 0) (G 1) tc)) [0, 1] (by decide) rfl
                  refine m_callM (W.runV (As := [.int 0]) (rest := []) ⟨hx, hb, hml, hown, hts⟩ (c_X6_takes l D cI cC cZ cS a (G 0) (G 1) tc 0 len hpx.1) (cwV 1 hts gX6_house_X6_takes rfl rfl rfl (by decide +kernel) ⟨Nat.le_of_ble_eq_true rfl, Nat.le_of_ble_eq_true rfl⟩) (preV_of hPc hDc hE (va_recv hK hPc (ci := 6) (q0 := 0) rfl rfl)) rfl rfl hl.1 rfl (lv_room (Nat.le_of_ble_eq_true rfl)) dX6_house_98 ⟨Nat.zero_le _, Nat.zero_le _⟩) hP hD hS [0, 1] rfl wMt_ad (fun H locs hP hD hS => ?_)
                  have hP : va_P D vwCl (wM cI cC cZ cS a (va_up G 0 ((d_X6_takes (G 0) (G 1) 0 len).2)) tc) H := hP
                  have hD : va_D A (wM cI cC cZ cS a (va_up G 0 ((d_X6_takes (G 0) (G 1) 0 len).2)) tc) := hD
                  refine W.eq (g2 := F0 m 101 ls [.int ((d_X6_takes (G 0) (G 1) 0 len).1)]) rfl ?_
                  have htv : (d_X6_takes (G 0) (G 1) 0 len).1 = 0 := takes_0
                  have htp : PX (d_X6_takes (G 0) (G 1) 0 len).2 len ∧ True := ⟨(tk_ok hpx).1, trivial⟩
                  have htf : ¬ (d_X6_takes (G 0) (G 1) 0 len).2 8 < 0 := takes_f0 hwell hpx
                  refine opq (d_X6_takes (G 0) (G 1) 0 len) (fun r_18 hr_18 => ?_)
                  try rw [hr_18] at hP
                  try rw [hr_18] at hD
                  try rw [hr_18] at hres
                  try rw [hr_18] at htv
                  try rw [hr_18] at htp
                  try rw [hr_18] at htf
                  try rw [hr_18]
                  refine lv_istore_n (lv' := [(2, .int r_18.1), (0, .ref (a 0)), (1, .int it)]) hx hb dX6_house_101 rfl hl (by decide) rfl (fun ls hl => ?_)
                  refine lv_aload_n hx hb dX6_house_102 rfl (lv_at hl 1 rfl) ?_
                  have hPc := hP.sub (ws' := (wMt cI cC cZ cS a r_18.2 (G 1) tc)) [0, 1] rfl
                  have hDc := hD.sub (ws' := (wMt cI cC cZ cS a r_18.2 (G 1) tc)) [0, 1] (by decide) rfl
                  refine m_callR (W.runV (As := []) (rest := []) ⟨hx, hb, hml, hown, hts⟩ (c_X6_isWell l D cI cC cZ cS a r_18.2 (G 1) tc) (cwV 0 hts gX6_house_X6_isWell rfl rfl rfl (by decide +kernel) ⟨Nat.le_of_ble_eq_true rfl, Nat.le_of_ble_eq_true rfl⟩) (preV_of hPc hDc hE (va_recv hK hPc (ci := 6) (q0 := 0) rfl rfl)) rfl rfl hl.1 rfl (lv_room (Nat.le_of_ble_eq_true rfl)) dX6_house_103 ⟨Nat.zero_le _, Nat.zero_le _⟩) ?_
                  refine W.eq (g2 := F0 m 106 ls [.int (d_X6_isWell r_18.2)]) rfl ?_
                  refine lv_if_eq (tgt := 114) hx hb dX6_house_106 (by decide) (fun c_19 => ?_) (fun c_19 => ?_)
                  · skip
                    refine lv_aload_n hx hb dX6_house_114 rfl (lv_at hl 1 rfl) ?_
                    refine lv_aload_n hx hb dX6_house_115 rfl (lv_at hl 1 rfl) ?_
                    refine va_get (D := D) (ci := 6) (v := .int (r_18.2 5)) (C := RX6) (T := TX6) (N := 26) hx hb hts hinX6 hown hK hP 0 rfl rfl 5 (by decide) (hts (.fieldLink RX6 74 "FirstOutModel" "token" "I") (by decide +kernel)) (fun _ h9 => h9) rfl dX6_house_116 ?_
                    refine lv_iconst (v := 3) hx hb dX6_house_119 (by decide) ?_
                    refine lv_icmp_ne (tgt := 127) hx hb dX6_house_120 (by decide) (fun c_20 => ?_) (fun c_20 => ?_)
                    · skip
                      rw [if_neg c_20] at hres
                      refine lv_iconst (v := 0) hx hb dX6_house_127 (by decide) ?_
                      have hPc := hP.sub (ws' := (wMt cI cC cZ cS a r_18.2 (G 1) tc)) [0, 1] rfl
                      have hDc := hD.sub (ws' := (wMt cI cC cZ cS a r_18.2 (G 1) tc)) [0, 1] (by decide) rfl
                      refine m_callM (W.runV (As := [.int 0]) (rest := []) ⟨hx, hb, hml, hown, hts⟩ (c_X6_takes l D cI cC cZ cS a r_18.2 (G 1) tc 0 len htp.1.1) (cwV 1 hts gX6_house_X6_takes rfl rfl rfl (by decide +kernel) ⟨Nat.le_of_ble_eq_true rfl, Nat.le_of_ble_eq_true rfl⟩) (preV_of hPc hDc hE (va_recv hK hPc (ci := 6) (q0 := 0) rfl rfl)) rfl rfl hl.1 rfl (lv_room (Nat.le_of_ble_eq_true rfl)) dX6_house_128 ⟨Nat.zero_le _, Nat.zero_le _⟩) hP hD hS [0, 1] rfl wMt_ad (fun H locs hP hD hS => ?_)
                      have hP : va_P D vwCl (wM cI cC cZ cS a (va_up G 0 ((d_X6_takes r_18.2 (G 1) 0 len).2)) tc) H := hP
                      have hD : va_D A (wM cI cC cZ cS a (va_up G 0 ((d_X6_takes r_18.2 (G 1) 0 len).2)) tc) := hD
                      refine W.eq (g2 := F0 m 131 ls [.int ((d_X6_takes r_18.2 (G 1) 0 len).1)]) rfl ?_
                      have ht2 : PX (d_X6_takes r_18.2 (G 1) 0 len).2 len ∧ _ := tk_ok htp.1
                      have hf2 : ¬ (d_X6_takes r_18.2 (G 1) 0 len).2 8 < 0 := by rw [takes_nw (isWell_0 htf)]; exact htf
                      refine opq (d_X6_takes r_18.2 (G 1) 0 len) (fun r_21 hr_21 => ?_)
                      try rw [hr_21] at hP
                      try rw [hr_21] at hD
                      try rw [hr_21] at hres
                      try rw [hr_21] at ht2
                      try rw [hr_21] at hf2
                      try rw [hr_21]
                      refine lv_pop hx hb dX6_house_131 rfl ?_
                      refine lv_iinc (v := it + 1) (lv' := [(1, .int (it + 1)), (2, .int r_18.1), (0, .ref (a 0))]) hx hb dX6_house_132 hl (k := 2) rfl (rfl) (by decide) rfl (fun ls hl => ?_)
                      refine lv_goto (tgt := 25) hx hb dX6_house_135 (by decide) ?_
                      have hP : va_P D vwCl (wM cI cC cZ cS a (va_up G 0 r_21.2) tc) H := hP
                      have hD : va_D A (wM cI cC cZ cS a (va_up G 0 r_21.2) tc) := hD
                      exact ih25 (it + 1) (va_up G 0 r_21.2) (by exact Nat.lt_of_lt_of_le (mu_dec0 hwell hf2) (Nat.le_of_lt_succ hk25)) ht2.1 hmk hres _ _ hP hD hS ls (lv_sub hl [2, 0] rfl)
                    · skip
                      rw [if_pos c_20] at hres
                      refine lv_iconst (v := 1) hx hb dX6_house_123 (by decide) ?_
                      refine lv_goto (tgt := 128) hx hb dX6_house_124 (by decide) ?_
                      have hPc := hP.sub (ws' := (wMt cI cC cZ cS a r_18.2 (G 1) tc)) [0, 1] rfl
                      have hDc := hD.sub (ws' := (wMt cI cC cZ cS a r_18.2 (G 1) tc)) [0, 1] (by decide) rfl
                      refine m_callM (W.runV (As := [.int 1]) (rest := []) ⟨hx, hb, hml, hown, hts⟩ (c_X6_takes l D cI cC cZ cS a r_18.2 (G 1) tc 1 len htp.1.1) (cwV 1 hts gX6_house_X6_takes rfl rfl rfl (by decide +kernel) ⟨Nat.le_of_ble_eq_true rfl, Nat.le_of_ble_eq_true rfl⟩) (preV_of hPc hDc hE (va_recv hK hPc (ci := 6) (q0 := 0) rfl rfl)) rfl rfl hl.1 rfl (lv_room (Nat.le_of_ble_eq_true rfl)) dX6_house_128 ⟨Nat.zero_le _, Nat.zero_le _⟩) hP hD hS [0, 1] rfl wMt_ad (fun H locs hP hD hS => ?_)
                      have hP : va_P D vwCl (wM cI cC cZ cS a (va_up G 0 ((d_X6_takes r_18.2 (G 1) 1 len).2)) tc) H := hP
                      have hD : va_D A (wM cI cC cZ cS a (va_up G 0 ((d_X6_takes r_18.2 (G 1) 1 len).2)) tc) := hD
                      refine W.eq (g2 := F0 m 131 ls [.int ((d_X6_takes r_18.2 (G 1) 1 len).1)]) rfl ?_
                      have ht2 : PX (d_X6_takes r_18.2 (G 1) 1 len).2 len ∧ _ := tk_ok htp.1
                      have hf2 : ¬ (d_X6_takes r_18.2 (G 1) 1 len).2 8 < 0 := by rw [takes_nw (isWell_0 htf)]; exact htf
                      refine opq (d_X6_takes r_18.2 (G 1) 1 len) (fun r_22 hr_22 => ?_)
                      try rw [hr_22] at hP
                      try rw [hr_22] at hD
                      try rw [hr_22] at hres
                      try rw [hr_22] at ht2
                      try rw [hr_22] at hf2
                      try rw [hr_22]
                      refine lv_pop hx hb dX6_house_131 rfl ?_
                      refine lv_iinc (v := it + 1) (lv' := [(1, .int (it + 1)), (2, .int r_18.1), (0, .ref (a 0))]) hx hb dX6_house_132 hl (k := 2) rfl (rfl) (by decide) rfl (fun ls hl => ?_)
                      refine lv_goto (tgt := 25) hx hb dX6_house_135 (by decide) ?_
                      have hP : va_P D vwCl (wM cI cC cZ cS a (va_up G 0 r_22.2) tc) H := hP
                      have hD : va_D A (wM cI cC cZ cS a (va_up G 0 r_22.2) tc) := hD
                      exact ih25 (it + 1) (va_up G 0 r_22.2) (by exact Nat.lt_of_lt_of_le (mu_dec0 hwell hf2) (Nat.le_of_lt_succ hk25)) ht2.1 hmk hres _ _ hP hD hS ls (lv_sub hl [2, 0] rfl)
                  · exact absurd c_19 (fun h => h (isWell_0 htf))
                · skip
                  rw [if_pos c_17] at hres
                  refine lv_iconst (v := 1) hx hb dX6_house_93 (by decide) ?_
                  refine lv_goto (tgt := 98) hx hb dX6_house_94 (by decide) ?_
                  have hPc := hP.sub (ws' := (wMt cI cC cZ cS a (G 0) (G 1) tc)) [0, 1] rfl
                  have hDc := hD.sub (ws' := (wMt cI cC cZ cS a (G 0) (G 1) tc)) [0, 1] (by decide) rfl
                  refine m_callM (W.runV (As := [.int 1]) (rest := []) ⟨hx, hb, hml, hown, hts⟩ (c_X6_takes l D cI cC cZ cS a (G 0) (G 1) tc 1 len hpx.1) (cwV 1 hts gX6_house_X6_takes rfl rfl rfl (by decide +kernel) ⟨Nat.le_of_ble_eq_true rfl, Nat.le_of_ble_eq_true rfl⟩) (preV_of hPc hDc hE (va_recv hK hPc (ci := 6) (q0 := 0) rfl rfl)) rfl rfl hl.1 rfl (lv_room (Nat.le_of_ble_eq_true rfl)) dX6_house_98 ⟨Nat.zero_le _, Nat.zero_le _⟩) hP hD hS [0, 1] rfl wMt_ad (fun H locs hP hD hS => ?_)
                  have hP : va_P D vwCl (wM cI cC cZ cS a (va_up G 0 ((d_X6_takes (G 0) (G 1) 1 len).2)) tc) H := hP
                  have hD : va_D A (wM cI cC cZ cS a (va_up G 0 ((d_X6_takes (G 0) (G 1) 1 len).2)) tc) := hD
                  refine W.eq (g2 := F0 m 101 ls [.int ((d_X6_takes (G 0) (G 1) 1 len).1)]) rfl ?_
                  have htv : (d_X6_takes (G 0) (G 1) 1 len).1 = G 0 7 := takes_val hwell
                  have htp : PX (d_X6_takes (G 0) (G 1) 1 len).2 len ∧ (G 0 6).toNatClampNeg < ((d_X6_takes (G 0) (G 1) 1 len).2 6).toNatClampNeg := takes_go hwell hpx htok
                  have htf : True := trivial
                  refine opq (d_X6_takes (G 0) (G 1) 1 len) (fun r_23 hr_23 => ?_)
                  try rw [hr_23] at hP
                  try rw [hr_23] at hD
                  try rw [hr_23] at hres
                  try rw [hr_23] at htv
                  try rw [hr_23] at htp
                  try rw [hr_23] at htf
                  try rw [hr_23]
                  refine lv_istore_n (lv' := [(2, .int r_23.1), (0, .ref (a 0)), (1, .int it)]) hx hb dX6_house_101 rfl hl (by decide) rfl (fun ls hl => ?_)
                  refine lv_aload_n hx hb dX6_house_102 rfl (lv_at hl 1 rfl) ?_
                  have hPc := hP.sub (ws' := (wMt cI cC cZ cS a r_23.2 (G 1) tc)) [0, 1] rfl
                  have hDc := hD.sub (ws' := (wMt cI cC cZ cS a r_23.2 (G 1) tc)) [0, 1] (by decide) rfl
                  refine m_callR (W.runV (As := []) (rest := []) ⟨hx, hb, hml, hown, hts⟩ (c_X6_isWell l D cI cC cZ cS a r_23.2 (G 1) tc) (cwV 0 hts gX6_house_X6_isWell rfl rfl rfl (by decide +kernel) ⟨Nat.le_of_ble_eq_true rfl, Nat.le_of_ble_eq_true rfl⟩) (preV_of hPc hDc hE (va_recv hK hPc (ci := 6) (q0 := 0) rfl rfl)) rfl rfl hl.1 rfl (lv_room (Nat.le_of_ble_eq_true rfl)) dX6_house_103 ⟨Nat.zero_le _, Nat.zero_le _⟩) ?_
                  refine W.eq (g2 := F0 m 106 ls [.int (d_X6_isWell r_23.2)]) rfl ?_
                  refine lv_if_eq (tgt := 114) hx hb dX6_house_106 (by decide) (fun c_24 => ?_) (fun c_24 => ?_)
                  · skip
                    rw [if_pos c_24] at hres
                    refine lv_aload_n hx hb dX6_house_114 rfl (lv_at hl 1 rfl) ?_
                    refine lv_aload_n hx hb dX6_house_115 rfl (lv_at hl 1 rfl) ?_
                    refine va_get (D := D) (ci := 6) (v := .int (r_23.2 5)) (C := RX6) (T := TX6) (N := 26) hx hb hts hinX6 hown hK hP 0 rfl rfl 5 (by decide) (hts (.fieldLink RX6 74 "FirstOutModel" "token" "I") (by decide +kernel)) (fun _ h9 => h9) rfl dX6_house_116 ?_
                    refine lv_iconst (v := 3) hx hb dX6_house_119 (by decide) ?_
                    refine lv_icmp_ne (tgt := 127) hx hb dX6_house_120 (by decide) (fun c_25 => ?_) (fun c_25 => ?_)
                    · skip
                      rw [if_neg c_25] at hres
                      refine lv_iconst (v := 0) hx hb dX6_house_127 (by decide) ?_
                      have hPc := hP.sub (ws' := (wMt cI cC cZ cS a r_23.2 (G 1) tc)) [0, 1] rfl
                      have hDc := hD.sub (ws' := (wMt cI cC cZ cS a r_23.2 (G 1) tc)) [0, 1] (by decide) rfl
                      refine m_callM (W.runV (As := [.int 0]) (rest := []) ⟨hx, hb, hml, hown, hts⟩ (c_X6_takes l D cI cC cZ cS a r_23.2 (G 1) tc 0 len htp.1.1) (cwV 1 hts gX6_house_X6_takes rfl rfl rfl (by decide +kernel) ⟨Nat.le_of_ble_eq_true rfl, Nat.le_of_ble_eq_true rfl⟩) (preV_of hPc hDc hE (va_recv hK hPc (ci := 6) (q0 := 0) rfl rfl)) rfl rfl hl.1 rfl (lv_room (Nat.le_of_ble_eq_true rfl)) dX6_house_128 ⟨Nat.zero_le _, Nat.zero_le _⟩) hP hD hS [0, 1] rfl wMt_ad (fun H locs hP hD hS => ?_)
                      have hP : va_P D vwCl (wM cI cC cZ cS a (va_up G 0 ((d_X6_takes r_23.2 (G 1) 0 len).2)) tc) H := hP
                      have hD : va_D A (wM cI cC cZ cS a (va_up G 0 ((d_X6_takes r_23.2 (G 1) 0 len).2)) tc) := hD
                      refine W.eq (g2 := F0 m 131 ls [.int ((d_X6_takes r_23.2 (G 1) 0 len).1)]) rfl ?_
                      have ht2 : PX (d_X6_takes r_23.2 (G 1) 0 len).2 len ∧ _ := tk_ok htp.1
                      have hf2 : True := trivial
                      refine opq (d_X6_takes r_23.2 (G 1) 0 len) (fun r_26 hr_26 => ?_)
                      try rw [hr_26] at hP
                      try rw [hr_26] at hD
                      try rw [hr_26] at hres
                      try rw [hr_26] at ht2
                      try rw [hr_26] at hf2
                      try rw [hr_26]
                      refine lv_pop hx hb dX6_house_131 rfl ?_
                      refine lv_iinc (v := it + 1) (lv' := [(1, .int (it + 1)), (2, .int r_23.1), (0, .ref (a 0))]) hx hb dX6_house_132 hl (k := 2) rfl (rfl) (by decide) rfl (fun ls hl => ?_)
                      refine lv_goto (tgt := 25) hx hb dX6_house_135 (by decide) ?_
                      have hP : va_P D vwCl (wM cI cC cZ cS a (va_up G 0 r_26.2) tc) H := hP
                      have hD : va_D A (wM cI cC cZ cS a (va_up G 0 r_26.2) tc) := hD
                      exact ih25 (it + 1) (va_up G 0 r_26.2) (by exact Nat.lt_of_lt_of_le (mu_dec hwell ht2.1 (Nat.lt_of_lt_of_le htp.2 ht2.2)) (Nat.le_of_lt_succ hk25)) ht2.1 hmk hres _ _ hP hD hS ls (lv_sub hl [2, 0] rfl)
                    · skip
                      rw [if_pos c_25] at hres
                      refine lv_iconst (v := 1) hx hb dX6_house_123 (by decide) ?_
                      refine lv_goto (tgt := 128) hx hb dX6_house_124 (by decide) ?_
                      have hPc := hP.sub (ws' := (wMt cI cC cZ cS a r_23.2 (G 1) tc)) [0, 1] rfl
                      have hDc := hD.sub (ws' := (wMt cI cC cZ cS a r_23.2 (G 1) tc)) [0, 1] (by decide) rfl
                      refine m_callM (W.runV (As := [.int 1]) (rest := []) ⟨hx, hb, hml, hown, hts⟩ (c_X6_takes l D cI cC cZ cS a r_23.2 (G 1) tc 1 len htp.1.1) (cwV 1 hts gX6_house_X6_takes rfl rfl rfl (by decide +kernel) ⟨Nat.le_of_ble_eq_true rfl, Nat.le_of_ble_eq_true rfl⟩) (preV_of hPc hDc hE (va_recv hK hPc (ci := 6) (q0 := 0) rfl rfl)) rfl rfl hl.1 rfl (lv_room (Nat.le_of_ble_eq_true rfl)) dX6_house_128 ⟨Nat.zero_le _, Nat.zero_le _⟩) hP hD hS [0, 1] rfl wMt_ad (fun H locs hP hD hS => ?_)
                      have hP : va_P D vwCl (wM cI cC cZ cS a (va_up G 0 ((d_X6_takes r_23.2 (G 1) 1 len).2)) tc) H := hP
                      have hD : va_D A (wM cI cC cZ cS a (va_up G 0 ((d_X6_takes r_23.2 (G 1) 1 len).2)) tc) := hD
                      refine W.eq (g2 := F0 m 131 ls [.int ((d_X6_takes r_23.2 (G 1) 1 len).1)]) rfl ?_
                      have ht2 : PX (d_X6_takes r_23.2 (G 1) 1 len).2 len ∧ _ := tk_ok htp.1
                      have hf2 : True := trivial
                      refine opq (d_X6_takes r_23.2 (G 1) 1 len) (fun r_27 hr_27 => ?_)
                      try rw [hr_27] at hP
                      try rw [hr_27] at hD
                      try rw [hr_27] at hres
                      try rw [hr_27] at ht2
                      try rw [hr_27] at hf2
                      try rw [hr_27]
                      refine lv_pop hx hb dX6_house_131 rfl ?_
                      refine lv_iinc (v := it + 1) (lv' := [(1, .int (it + 1)), (2, .int r_23.1), (0, .ref (a 0))]) hx hb dX6_house_132 hl (k := 2) rfl (rfl) (by decide) rfl (fun ls hl => ?_)
                      refine lv_goto (tgt := 25) hx hb dX6_house_135 (by decide) ?_
                      have hP : va_P D vwCl (wM cI cC cZ cS a (va_up G 0 r_27.2) tc) H := hP
                      have hD : va_D A (wM cI cC cZ cS a (va_up G 0 r_27.2) tc) := hD
                      exact ih25 (it + 1) (va_up G 0 r_27.2) (by exact Nat.lt_of_lt_of_le (mu_dec hwell ht2.1 (Nat.lt_of_lt_of_le htp.2 ht2.2)) (Nat.le_of_lt_succ hk25)) ht2.1 hmk hres _ _ hP hD hS ls (lv_sub hl [2, 0] rfl)
                  · skip
                    rw [if_neg c_24] at hres
                    refine lv_aload_n hx hb dX6_house_109 rfl (lv_at hl 1 rfl) ?_
                    refine lv_iload_n hx hb dX6_house_110 rfl (lv_at hl 0 rfl) ?_
                    have hPc := hP.sub (ws' := (wM cI cC cZ cS a (va_up G 0 r_23.2) tc)) [0, 1, 2, 3, 4, 5, 6, 7, 8, 9, 10, 11, 12] rfl
                    have hDc := hD.sub (ws' := (wM cI cC cZ cS a (va_up G 0 r_23.2) tc)) [0, 1, 2, 3, 4, 5, 6, 7, 8, 9, 10, 11, 12] (by decide) rfl
                    refine m_callM (W.runV (As := [.int r_23.1]) (rest := []) ⟨hx, hb, hml, hown, hts⟩ (c_X6_readsItem l D cI cC cZ cS a (va_up G 0 r_23.2) tc r_23.1 len ((G 2 5).toNatClampNeg) htp.1 hmk.1 (fun e => absurd (htv.symm.trans e) hn116)) (cwV 1 hts gX6_house_X6_readsItem rfl rfl rfl (by decide +kernel) ⟨Nat.le_of_ble_eq_true rfl, Nat.le_of_ble_eq_true rfl⟩) (preV_of hPc hDc hE (va_recv hK hPc (ci := 6) (q0 := 0) rfl rfl)) rfl rfl hl.1 rfl (lv_room (Nat.le_of_ble_eq_true rfl)) dX6_house_111 ⟨Nat.zero_le _, Nat.zero_le _⟩) hP hD hS [0, 1, 2, 3, 4, 5, 6, 7, 8, 9, 10, 11, 12] rfl wM_ad (fun H locs hP hD hS => ?_)
                    have hP : va_P D vwCl (wM cI cC cZ cS a (d_X6_readsItem (va_up G 0 r_23.2) r_23.1 len ((G 2 5).toNatClampNeg)) tc) H := hP
                    have hD : va_D A (wM cI cC cZ cS a (d_X6_readsItem (va_up G 0 r_23.2) r_23.1 len ((G 2 5).toNatClampNeg)) tc) := hD
                    refine W.eq (g2 := F0 m 114 ls []) rfl ?_
                    have hri : PX ((d_X6_readsItem (va_up G 0 r_23.2) r_23.1 len ((G 2 5).toNatClampNeg)) 0) len ∧ _ := ri6 htp.1 hmk.1 hmk.2 (fun e => absurd (htv.symm.trans e) hn116)
                    refine opq (d_X6_readsItem (va_up G 0 r_23.2) r_23.1 len ((G 2 5).toNatClampNeg)) (fun r_28 hr_28 => ?_)
                    try rw [hr_28] at hP
                    try rw [hr_28] at hD
                    try rw [hr_28] at hres
                    try rw [hr_28] at hri
                    try rw [hr_28]
                    refine lv_aload_n hx hb dX6_house_114 rfl (lv_at hl 1 rfl) ?_
                    refine lv_aload_n hx hb dX6_house_115 rfl (lv_at hl 1 rfl) ?_
                    refine va_get (D := D) (ci := 6) (v := .int (r_28 0 5)) (C := RX6) (T := TX6) (N := 26) hx hb hts hinX6 hown hK hP 0 rfl rfl 5 (by decide) (hts (.fieldLink RX6 74 "FirstOutModel" "token" "I") (by decide +kernel)) (fun _ h9 => h9) rfl dX6_house_116 ?_
                    refine lv_iconst (v := 3) hx hb dX6_house_119 (by decide) ?_
                    refine lv_icmp_ne (tgt := 127) hx hb dX6_house_120 (by decide) (fun c_29 => ?_) (fun c_29 => ?_)
                    · skip
                      rw [if_neg c_29] at hres
                      refine lv_iconst (v := 0) hx hb dX6_house_127 (by decide) ?_
                      have hPc := hP.sub (ws' := (wMt cI cC cZ cS a (r_28 0) (r_28 1) tc)) [0, 1] rfl
                      have hDc := hD.sub (ws' := (wMt cI cC cZ cS a (r_28 0) (r_28 1) tc)) [0, 1] (by decide) rfl
                      refine m_callM (W.runV (As := [.int 0]) (rest := []) ⟨hx, hb, hml, hown, hts⟩ (c_X6_takes l D cI cC cZ cS a (r_28 0) (r_28 1) tc 0 len hri.1.1) (cwV 1 hts gX6_house_X6_takes rfl rfl rfl (by decide +kernel) ⟨Nat.le_of_ble_eq_true rfl, Nat.le_of_ble_eq_true rfl⟩) (preV_of hPc hDc hE (va_recv hK hPc (ci := 6) (q0 := 0) rfl rfl)) rfl rfl hl.1 rfl (lv_room (Nat.le_of_ble_eq_true rfl)) dX6_house_128 ⟨Nat.zero_le _, Nat.zero_le _⟩) hP hD hS [0, 1] rfl wMt_ad (fun H locs hP hD hS => ?_)
                      have hP : va_P D vwCl (wM cI cC cZ cS a (va_up r_28 0 ((d_X6_takes (r_28 0) (r_28 1) 0 len).2)) tc) H := hP
                      have hD : va_D A (wM cI cC cZ cS a (va_up r_28 0 ((d_X6_takes (r_28 0) (r_28 1) 0 len).2)) tc) := hD
                      refine W.eq (g2 := F0 m 131 ls [.int ((d_X6_takes (r_28 0) (r_28 1) 0 len).1)]) rfl ?_
                      have ht2 : PX (d_X6_takes (r_28 0) (r_28 1) 0 len).2 len ∧ _ := tk_ok hri.1
                      have hf2 : True := trivial
                      refine opq (d_X6_takes (r_28 0) (r_28 1) 0 len) (fun r_30 hr_30 => ?_)
                      try rw [hr_30] at hP
                      try rw [hr_30] at hD
                      try rw [hr_30] at hres
                      try rw [hr_30] at ht2
                      try rw [hr_30] at hf2
                      try rw [hr_30]
                      refine lv_pop hx hb dX6_house_131 rfl ?_
                      refine lv_iinc (v := it + 1) (lv' := [(1, .int (it + 1)), (2, .int r_23.1), (0, .ref (a 0))]) hx hb dX6_house_132 hl (k := 2) rfl (rfl) (by decide) rfl (fun ls hl => ?_)
                      refine lv_goto (tgt := 25) hx hb dX6_house_135 (by decide) ?_
                      have hP : va_P D vwCl (wM cI cC cZ cS a (va_up r_28 0 r_30.2) tc) H := hP
                      have hD : va_D A (wM cI cC cZ cS a (va_up r_28 0 r_30.2) tc) := hD
                      exact ih25 (it + 1) (va_up r_28 0 r_30.2) (by exact Nat.lt_of_lt_of_le (mu_dec hwell ht2.1 (Nat.lt_of_lt_of_le htp.2 (Nat.le_trans hri.2.1 ht2.2))) (Nat.le_of_lt_succ hk25)) ht2.1 hri.2.2 hres _ _ hP hD hS ls (lv_sub hl [2, 0] rfl)
                    · skip
                      rw [if_pos c_29] at hres
                      refine lv_iconst (v := 1) hx hb dX6_house_123 (by decide) ?_
                      refine lv_goto (tgt := 128) hx hb dX6_house_124 (by decide) ?_
                      have hPc := hP.sub (ws' := (wMt cI cC cZ cS a (r_28 0) (r_28 1) tc)) [0, 1] rfl
                      have hDc := hD.sub (ws' := (wMt cI cC cZ cS a (r_28 0) (r_28 1) tc)) [0, 1] (by decide) rfl
                      refine m_callM (W.runV (As := [.int 1]) (rest := []) ⟨hx, hb, hml, hown, hts⟩ (c_X6_takes l D cI cC cZ cS a (r_28 0) (r_28 1) tc 1 len hri.1.1) (cwV 1 hts gX6_house_X6_takes rfl rfl rfl (by decide +kernel) ⟨Nat.le_of_ble_eq_true rfl, Nat.le_of_ble_eq_true rfl⟩) (preV_of hPc hDc hE (va_recv hK hPc (ci := 6) (q0 := 0) rfl rfl)) rfl rfl hl.1 rfl (lv_room (Nat.le_of_ble_eq_true rfl)) dX6_house_128 ⟨Nat.zero_le _, Nat.zero_le _⟩) hP hD hS [0, 1] rfl wMt_ad (fun H locs hP hD hS => ?_)
                      have hP : va_P D vwCl (wM cI cC cZ cS a (va_up r_28 0 ((d_X6_takes (r_28 0) (r_28 1) 1 len).2)) tc) H := hP
                      have hD : va_D A (wM cI cC cZ cS a (va_up r_28 0 ((d_X6_takes (r_28 0) (r_28 1) 1 len).2)) tc) := hD
                      refine W.eq (g2 := F0 m 131 ls [.int ((d_X6_takes (r_28 0) (r_28 1) 1 len).1)]) rfl ?_
                      have ht2 : PX (d_X6_takes (r_28 0) (r_28 1) 1 len).2 len ∧ _ := tk_ok hri.1
                      have hf2 : True := trivial
                      refine opq (d_X6_takes (r_28 0) (r_28 1) 1 len) (fun r_31 hr_31 => ?_)
                      try rw [hr_31] at hP
                      try rw [hr_31] at hD
                      try rw [hr_31] at hres
                      try rw [hr_31] at ht2
                      try rw [hr_31] at hf2
                      try rw [hr_31]
                      refine lv_pop hx hb dX6_house_131 rfl ?_
                      refine lv_iinc (v := it + 1) (lv' := [(1, .int (it + 1)), (2, .int r_23.1), (0, .ref (a 0))]) hx hb dX6_house_132 hl (k := 2) rfl (rfl) (by decide) rfl (fun ls hl => ?_)
                      refine lv_goto (tgt := 25) hx hb dX6_house_135 (by decide) ?_
                      have hP : va_P D vwCl (wM cI cC cZ cS a (va_up r_28 0 r_31.2) tc) H := hP
                      have hD : va_D A (wM cI cC cZ cS a (va_up r_28 0 r_31.2) tc) := hD
                      exact ih25 (it + 1) (va_up r_28 0 r_31.2) (by exact Nat.lt_of_lt_of_le (mu_dec hwell ht2.1 (Nat.lt_of_lt_of_le htp.2 (Nat.le_trans hri.2.1 ht2.2))) (Nat.le_of_lt_succ hk25)) ht2.1 hri.2.2 hres _ _ hP hD hS ls (lv_sub hl [2, 0] rfl)
              · skip
                rw [if_pos c_16] at hres
                refine lv_iconst (v := 1) hx hb dX6_house_84 (by decide) ?_
                refine lv_goto (tgt := 89) hx hb dX6_house_85 (by decide) ?_
                refine lv_iand hx hb dX6_house_89 ?_
                refine lv_if_ne (tgt := 97) hx hb dX6_house_90 (by decide) (fun c_32 => ?_) (fun c_32 => ?_)
                · skip
                  rw [if_neg c_32] at hres
                  refine lv_iconst (v := 0) hx hb dX6_house_97 (by decide) ?_
                  have hPc := hP.sub (ws' := (wMt cI cC cZ cS a (G 0) (G 1) tc)) [0, 1] rfl
                  have hDc := hD.sub (ws' := (wMt cI cC cZ cS a (G 0) (G 1) tc)) [0, 1] (by decide) rfl
                  refine m_callM (W.runV (As := [.int 0]) (rest := []) ⟨hx, hb, hml, hown, hts⟩ (c_X6_takes l D cI cC cZ cS a (G 0) (G 1) tc 0 len hpx.1) (cwV 1 hts gX6_house_X6_takes rfl rfl rfl (by decide +kernel) ⟨Nat.le_of_ble_eq_true rfl, Nat.le_of_ble_eq_true rfl⟩) (preV_of hPc hDc hE (va_recv hK hPc (ci := 6) (q0 := 0) rfl rfl)) rfl rfl hl.1 rfl (lv_room (Nat.le_of_ble_eq_true rfl)) dX6_house_98 ⟨Nat.zero_le _, Nat.zero_le _⟩) hP hD hS [0, 1] rfl wMt_ad (fun H locs hP hD hS => ?_)
                  have hP : va_P D vwCl (wM cI cC cZ cS a (va_up G 0 ((d_X6_takes (G 0) (G 1) 0 len).2)) tc) H := hP
                  have hD : va_D A (wM cI cC cZ cS a (va_up G 0 ((d_X6_takes (G 0) (G 1) 0 len).2)) tc) := hD
                  refine W.eq (g2 := F0 m 101 ls [.int ((d_X6_takes (G 0) (G 1) 0 len).1)]) rfl ?_
                  have htv : (d_X6_takes (G 0) (G 1) 0 len).1 = 0 := takes_0
                  have htp : PX (d_X6_takes (G 0) (G 1) 0 len).2 len ∧ True := ⟨(tk_ok hpx).1, trivial⟩
                  have htf : ¬ (d_X6_takes (G 0) (G 1) 0 len).2 8 < 0 := takes_f0 hwell hpx
                  refine opq (d_X6_takes (G 0) (G 1) 0 len) (fun r_33 hr_33 => ?_)
                  try rw [hr_33] at hP
                  try rw [hr_33] at hD
                  try rw [hr_33] at hres
                  try rw [hr_33] at htv
                  try rw [hr_33] at htp
                  try rw [hr_33] at htf
                  try rw [hr_33]
                  refine lv_istore_n (lv' := [(2, .int r_33.1), (0, .ref (a 0)), (1, .int it)]) hx hb dX6_house_101 rfl hl (by decide) rfl (fun ls hl => ?_)
                  refine lv_aload_n hx hb dX6_house_102 rfl (lv_at hl 1 rfl) ?_
                  have hPc := hP.sub (ws' := (wMt cI cC cZ cS a r_33.2 (G 1) tc)) [0, 1] rfl
                  have hDc := hD.sub (ws' := (wMt cI cC cZ cS a r_33.2 (G 1) tc)) [0, 1] (by decide) rfl
                  refine m_callR (W.runV (As := []) (rest := []) ⟨hx, hb, hml, hown, hts⟩ (c_X6_isWell l D cI cC cZ cS a r_33.2 (G 1) tc) (cwV 0 hts gX6_house_X6_isWell rfl rfl rfl (by decide +kernel) ⟨Nat.le_of_ble_eq_true rfl, Nat.le_of_ble_eq_true rfl⟩) (preV_of hPc hDc hE (va_recv hK hPc (ci := 6) (q0 := 0) rfl rfl)) rfl rfl hl.1 rfl (lv_room (Nat.le_of_ble_eq_true rfl)) dX6_house_103 ⟨Nat.zero_le _, Nat.zero_le _⟩) ?_
                  refine W.eq (g2 := F0 m 106 ls [.int (d_X6_isWell r_33.2)]) rfl ?_
                  refine lv_if_eq (tgt := 114) hx hb dX6_house_106 (by decide) (fun c_34 => ?_) (fun c_34 => ?_)
                  · skip
                    refine lv_aload_n hx hb dX6_house_114 rfl (lv_at hl 1 rfl) ?_
                    refine lv_aload_n hx hb dX6_house_115 rfl (lv_at hl 1 rfl) ?_
                    refine va_get (D := D) (ci := 6) (v := .int (r_33.2 5)) (C := RX6) (T := TX6) (N := 26) hx hb hts hinX6 hown hK hP 0 rfl rfl 5 (by decide) (hts (.fieldLink RX6 74 "FirstOutModel" "token" "I") (by decide +kernel)) (fun _ h9 => h9) rfl dX6_house_116 ?_
                    refine lv_iconst (v := 3) hx hb dX6_house_119 (by decide) ?_
                    refine lv_icmp_ne (tgt := 127) hx hb dX6_house_120 (by decide) (fun c_35 => ?_) (fun c_35 => ?_)
                    · skip
                      rw [if_neg c_35] at hres
                      refine lv_iconst (v := 0) hx hb dX6_house_127 (by decide) ?_
                      have hPc := hP.sub (ws' := (wMt cI cC cZ cS a r_33.2 (G 1) tc)) [0, 1] rfl
                      have hDc := hD.sub (ws' := (wMt cI cC cZ cS a r_33.2 (G 1) tc)) [0, 1] (by decide) rfl
                      refine m_callM (W.runV (As := [.int 0]) (rest := []) ⟨hx, hb, hml, hown, hts⟩ (c_X6_takes l D cI cC cZ cS a r_33.2 (G 1) tc 0 len htp.1.1) (cwV 1 hts gX6_house_X6_takes rfl rfl rfl (by decide +kernel) ⟨Nat.le_of_ble_eq_true rfl, Nat.le_of_ble_eq_true rfl⟩) (preV_of hPc hDc hE (va_recv hK hPc (ci := 6) (q0 := 0) rfl rfl)) rfl rfl hl.1 rfl (lv_room (Nat.le_of_ble_eq_true rfl)) dX6_house_128 ⟨Nat.zero_le _, Nat.zero_le _⟩) hP hD hS [0, 1] rfl wMt_ad (fun H locs hP hD hS => ?_)
                      have hP : va_P D vwCl (wM cI cC cZ cS a (va_up G 0 ((d_X6_takes r_33.2 (G 1) 0 len).2)) tc) H := hP
                      have hD : va_D A (wM cI cC cZ cS a (va_up G 0 ((d_X6_takes r_33.2 (G 1) 0 len).2)) tc) := hD
                      refine W.eq (g2 := F0 m 131 ls [.int ((d_X6_takes r_33.2 (G 1) 0 len).1)]) rfl ?_
                      have ht2 : PX (d_X6_takes r_33.2 (G 1) 0 len).2 len ∧ _ := tk_ok htp.1
                      have hf2 : ¬ (d_X6_takes r_33.2 (G 1) 0 len).2 8 < 0 := by rw [takes_nw (isWell_0 htf)]; exact htf
                      refine opq (d_X6_takes r_33.2 (G 1) 0 len) (fun r_36 hr_36 => ?_)
                      try rw [hr_36] at hP
                      try rw [hr_36] at hD
                      try rw [hr_36] at hres
                      try rw [hr_36] at ht2
                      try rw [hr_36] at hf2
                      try rw [hr_36]
                      refine lv_pop hx hb dX6_house_131 rfl ?_
                      refine lv_iinc (v := it + 1) (lv' := [(1, .int (it + 1)), (2, .int r_33.1), (0, .ref (a 0))]) hx hb dX6_house_132 hl (k := 2) rfl (rfl) (by decide) rfl (fun ls hl => ?_)
                      refine lv_goto (tgt := 25) hx hb dX6_house_135 (by decide) ?_
                      have hP : va_P D vwCl (wM cI cC cZ cS a (va_up G 0 r_36.2) tc) H := hP
                      have hD : va_D A (wM cI cC cZ cS a (va_up G 0 r_36.2) tc) := hD
                      exact ih25 (it + 1) (va_up G 0 r_36.2) (by exact Nat.lt_of_lt_of_le (mu_dec0 hwell hf2) (Nat.le_of_lt_succ hk25)) ht2.1 hmk hres _ _ hP hD hS ls (lv_sub hl [2, 0] rfl)
                    · skip
                      rw [if_pos c_35] at hres
                      refine lv_iconst (v := 1) hx hb dX6_house_123 (by decide) ?_
                      refine lv_goto (tgt := 128) hx hb dX6_house_124 (by decide) ?_
                      have hPc := hP.sub (ws' := (wMt cI cC cZ cS a r_33.2 (G 1) tc)) [0, 1] rfl
                      have hDc := hD.sub (ws' := (wMt cI cC cZ cS a r_33.2 (G 1) tc)) [0, 1] (by decide) rfl
                      refine m_callM (W.runV (As := [.int 1]) (rest := []) ⟨hx, hb, hml, hown, hts⟩ (c_X6_takes l D cI cC cZ cS a r_33.2 (G 1) tc 1 len htp.1.1) (cwV 1 hts gX6_house_X6_takes rfl rfl rfl (by decide +kernel) ⟨Nat.le_of_ble_eq_true rfl, Nat.le_of_ble_eq_true rfl⟩) (preV_of hPc hDc hE (va_recv hK hPc (ci := 6) (q0 := 0) rfl rfl)) rfl rfl hl.1 rfl (lv_room (Nat.le_of_ble_eq_true rfl)) dX6_house_128 ⟨Nat.zero_le _, Nat.zero_le _⟩) hP hD hS [0, 1] rfl wMt_ad (fun H locs hP hD hS => ?_)
                      have hP : va_P D vwCl (wM cI cC cZ cS a (va_up G 0 ((d_X6_takes r_33.2 (G 1) 1 len).2)) tc) H := hP
                      have hD : va_D A (wM cI cC cZ cS a (va_up G 0 ((d_X6_takes r_33.2 (G 1) 1 len).2)) tc) := hD
                      refine W.eq (g2 := F0 m 131 ls [.int ((d_X6_takes r_33.2 (G 1) 1 len).1)]) rfl ?_
                      have ht2 : PX (d_X6_takes r_33.2 (G 1) 1 len).2 len ∧ _ := tk_ok htp.1
                      have hf2 : ¬ (d_X6_takes r_33.2 (G 1) 1 len).2 8 < 0 := by rw [takes_nw (isWell_0 htf)]; exact htf
                      refine opq (d_X6_takes r_33.2 (G 1) 1 len) (fun r_37 hr_37 => ?_)
                      try rw [hr_37] at hP
                      try rw [hr_37] at hD
                      try rw [hr_37] at hres
                      try rw [hr_37] at ht2
                      try rw [hr_37] at hf2
                      try rw [hr_37]
                      refine lv_pop hx hb dX6_house_131 rfl ?_
                      refine lv_iinc (v := it + 1) (lv' := [(1, .int (it + 1)), (2, .int r_33.1), (0, .ref (a 0))]) hx hb dX6_house_132 hl (k := 2) rfl (rfl) (by decide) rfl (fun ls hl => ?_)
                      refine lv_goto (tgt := 25) hx hb dX6_house_135 (by decide) ?_
                      have hP : va_P D vwCl (wM cI cC cZ cS a (va_up G 0 r_37.2) tc) H := hP
                      have hD : va_D A (wM cI cC cZ cS a (va_up G 0 r_37.2) tc) := hD
                      exact ih25 (it + 1) (va_up G 0 r_37.2) (by exact Nat.lt_of_lt_of_le (mu_dec0 hwell hf2) (Nat.le_of_lt_succ hk25)) ht2.1 hmk hres _ _ hP hD hS ls (lv_sub hl [2, 0] rfl)
                  · exact absurd c_34 (fun h => h (isWell_0 htf))
                · skip
                  rw [if_pos c_32] at hres
                  refine lv_iconst (v := 1) hx hb dX6_house_93 (by decide) ?_
                  refine lv_goto (tgt := 98) hx hb dX6_house_94 (by decide) ?_
                  have hPc := hP.sub (ws' := (wMt cI cC cZ cS a (G 0) (G 1) tc)) [0, 1] rfl
                  have hDc := hD.sub (ws' := (wMt cI cC cZ cS a (G 0) (G 1) tc)) [0, 1] (by decide) rfl
                  refine m_callM (W.runV (As := [.int 1]) (rest := []) ⟨hx, hb, hml, hown, hts⟩ (c_X6_takes l D cI cC cZ cS a (G 0) (G 1) tc 1 len hpx.1) (cwV 1 hts gX6_house_X6_takes rfl rfl rfl (by decide +kernel) ⟨Nat.le_of_ble_eq_true rfl, Nat.le_of_ble_eq_true rfl⟩) (preV_of hPc hDc hE (va_recv hK hPc (ci := 6) (q0 := 0) rfl rfl)) rfl rfl hl.1 rfl (lv_room (Nat.le_of_ble_eq_true rfl)) dX6_house_98 ⟨Nat.zero_le _, Nat.zero_le _⟩) hP hD hS [0, 1] rfl wMt_ad (fun H locs hP hD hS => ?_)
                  have hP : va_P D vwCl (wM cI cC cZ cS a (va_up G 0 ((d_X6_takes (G 0) (G 1) 1 len).2)) tc) H := hP
                  have hD : va_D A (wM cI cC cZ cS a (va_up G 0 ((d_X6_takes (G 0) (G 1) 1 len).2)) tc) := hD
                  refine W.eq (g2 := F0 m 101 ls [.int ((d_X6_takes (G 0) (G 1) 1 len).1)]) rfl ?_
                  have htv : (d_X6_takes (G 0) (G 1) 1 len).1 = G 0 7 := takes_val hwell
                  have htp : PX (d_X6_takes (G 0) (G 1) 1 len).2 len ∧ (G 0 6).toNatClampNeg < ((d_X6_takes (G 0) (G 1) 1 len).2 6).toNatClampNeg := takes_go hwell hpx htok
                  have htf : True := trivial
                  refine opq (d_X6_takes (G 0) (G 1) 1 len) (fun r_38 hr_38 => ?_)
                  try rw [hr_38] at hP
                  try rw [hr_38] at hD
                  try rw [hr_38] at hres
                  try rw [hr_38] at htv
                  try rw [hr_38] at htp
                  try rw [hr_38] at htf
                  try rw [hr_38]
                  refine lv_istore_n (lv' := [(2, .int r_38.1), (0, .ref (a 0)), (1, .int it)]) hx hb dX6_house_101 rfl hl (by decide) rfl (fun ls hl => ?_)
                  refine lv_aload_n hx hb dX6_house_102 rfl (lv_at hl 1 rfl) ?_
                  have hPc := hP.sub (ws' := (wMt cI cC cZ cS a r_38.2 (G 1) tc)) [0, 1] rfl
                  have hDc := hD.sub (ws' := (wMt cI cC cZ cS a r_38.2 (G 1) tc)) [0, 1] (by decide) rfl
                  refine m_callR (W.runV (As := []) (rest := []) ⟨hx, hb, hml, hown, hts⟩ (c_X6_isWell l D cI cC cZ cS a r_38.2 (G 1) tc) (cwV 0 hts gX6_house_X6_isWell rfl rfl rfl (by decide +kernel) ⟨Nat.le_of_ble_eq_true rfl, Nat.le_of_ble_eq_true rfl⟩) (preV_of hPc hDc hE (va_recv hK hPc (ci := 6) (q0 := 0) rfl rfl)) rfl rfl hl.1 rfl (lv_room (Nat.le_of_ble_eq_true rfl)) dX6_house_103 ⟨Nat.zero_le _, Nat.zero_le _⟩) ?_
                  refine W.eq (g2 := F0 m 106 ls [.int (d_X6_isWell r_38.2)]) rfl ?_
                  refine lv_if_eq (tgt := 114) hx hb dX6_house_106 (by decide) (fun c_39 => ?_) (fun c_39 => ?_)
                  · skip
                    rw [if_pos c_39] at hres
                    refine lv_aload_n hx hb dX6_house_114 rfl (lv_at hl 1 rfl) ?_
                    refine lv_aload_n hx hb dX6_house_115 rfl (lv_at hl 1 rfl) ?_
                    refine va_get (D := D) (ci := 6) (v := .int (r_38.2 5)) (C := RX6) (T := TX6) (N := 26) hx hb hts hinX6 hown hK hP 0 rfl rfl 5 (by decide) (hts (.fieldLink RX6 74 "FirstOutModel" "token" "I") (by decide +kernel)) (fun _ h9 => h9) rfl dX6_house_116 ?_
                    refine lv_iconst (v := 3) hx hb dX6_house_119 (by decide) ?_
                    refine lv_icmp_ne (tgt := 127) hx hb dX6_house_120 (by decide) (fun c_40 => ?_) (fun c_40 => ?_)
                    · skip
                      rw [if_neg c_40] at hres
                      refine lv_iconst (v := 0) hx hb dX6_house_127 (by decide) ?_
                      have hPc := hP.sub (ws' := (wMt cI cC cZ cS a r_38.2 (G 1) tc)) [0, 1] rfl
                      have hDc := hD.sub (ws' := (wMt cI cC cZ cS a r_38.2 (G 1) tc)) [0, 1] (by decide) rfl
                      refine m_callM (W.runV (As := [.int 0]) (rest := []) ⟨hx, hb, hml, hown, hts⟩ (c_X6_takes l D cI cC cZ cS a r_38.2 (G 1) tc 0 len htp.1.1) (cwV 1 hts gX6_house_X6_takes rfl rfl rfl (by decide +kernel) ⟨Nat.le_of_ble_eq_true rfl, Nat.le_of_ble_eq_true rfl⟩) (preV_of hPc hDc hE (va_recv hK hPc (ci := 6) (q0 := 0) rfl rfl)) rfl rfl hl.1 rfl (lv_room (Nat.le_of_ble_eq_true rfl)) dX6_house_128 ⟨Nat.zero_le _, Nat.zero_le _⟩) hP hD hS [0, 1] rfl wMt_ad (fun H locs hP hD hS => ?_)
                      have hP : va_P D vwCl (wM cI cC cZ cS a (va_up G 0 ((d_X6_takes r_38.2 (G 1) 0 len).2)) tc) H := hP
                      have hD : va_D A (wM cI cC cZ cS a (va_up G 0 ((d_X6_takes r_38.2 (G 1) 0 len).2)) tc) := hD
                      refine W.eq (g2 := F0 m 131 ls [.int ((d_X6_takes r_38.2 (G 1) 0 len).1)]) rfl ?_
                      have ht2 : PX (d_X6_takes r_38.2 (G 1) 0 len).2 len ∧ _ := tk_ok htp.1
                      have hf2 : True := trivial
                      refine opq (d_X6_takes r_38.2 (G 1) 0 len) (fun r_41 hr_41 => ?_)
                      try rw [hr_41] at hP
                      try rw [hr_41] at hD
                      try rw [hr_41] at hres
                      try rw [hr_41] at ht2
                      try rw [hr_41] at hf2
                      try rw [hr_41]
                      refine lv_pop hx hb dX6_house_131 rfl ?_
                      refine lv_iinc (v := it + 1) (lv' := [(1, .int (it + 1)), (2, .int r_38.1), (0, .ref (a 0))]) hx hb dX6_house_132 hl (k := 2) rfl (rfl) (by decide) rfl (fun ls hl => ?_)
                      refine lv_goto (tgt := 25) hx hb dX6_house_135 (by decide) ?_
                      have hP : va_P D vwCl (wM cI cC cZ cS a (va_up G 0 r_41.2) tc) H := hP
                      have hD : va_D A (wM cI cC cZ cS a (va_up G 0 r_41.2) tc) := hD
                      exact ih25 (it + 1) (va_up G 0 r_41.2) (by exact Nat.lt_of_lt_of_le (mu_dec hwell ht2.1 (Nat.lt_of_lt_of_le htp.2 ht2.2)) (Nat.le_of_lt_succ hk25)) ht2.1 hmk hres _ _ hP hD hS ls (lv_sub hl [2, 0] rfl)
                    · skip
                      rw [if_pos c_40] at hres
                      refine lv_iconst (v := 1) hx hb dX6_house_123 (by decide) ?_
                      refine lv_goto (tgt := 128) hx hb dX6_house_124 (by decide) ?_
                      have hPc := hP.sub (ws' := (wMt cI cC cZ cS a r_38.2 (G 1) tc)) [0, 1] rfl
                      have hDc := hD.sub (ws' := (wMt cI cC cZ cS a r_38.2 (G 1) tc)) [0, 1] (by decide) rfl
                      refine m_callM (W.runV (As := [.int 1]) (rest := []) ⟨hx, hb, hml, hown, hts⟩ (c_X6_takes l D cI cC cZ cS a r_38.2 (G 1) tc 1 len htp.1.1) (cwV 1 hts gX6_house_X6_takes rfl rfl rfl (by decide +kernel) ⟨Nat.le_of_ble_eq_true rfl, Nat.le_of_ble_eq_true rfl⟩) (preV_of hPc hDc hE (va_recv hK hPc (ci := 6) (q0 := 0) rfl rfl)) rfl rfl hl.1 rfl (lv_room (Nat.le_of_ble_eq_true rfl)) dX6_house_128 ⟨Nat.zero_le _, Nat.zero_le _⟩) hP hD hS [0, 1] rfl wMt_ad (fun H locs hP hD hS => ?_)
                      have hP : va_P D vwCl (wM cI cC cZ cS a (va_up G 0 ((d_X6_takes r_38.2 (G 1) 1 len).2)) tc) H := hP
                      have hD : va_D A (wM cI cC cZ cS a (va_up G 0 ((d_X6_takes r_38.2 (G 1) 1 len).2)) tc) := hD
                      refine W.eq (g2 := F0 m 131 ls [.int ((d_X6_takes r_38.2 (G 1) 1 len).1)]) rfl ?_
                      have ht2 : PX (d_X6_takes r_38.2 (G 1) 1 len).2 len ∧ _ := tk_ok htp.1
                      have hf2 : True := trivial
                      refine opq (d_X6_takes r_38.2 (G 1) 1 len) (fun r_42 hr_42 => ?_)
                      try rw [hr_42] at hP
                      try rw [hr_42] at hD
                      try rw [hr_42] at hres
                      try rw [hr_42] at ht2
                      try rw [hr_42] at hf2
                      try rw [hr_42]
                      refine lv_pop hx hb dX6_house_131 rfl ?_
                      refine lv_iinc (v := it + 1) (lv' := [(1, .int (it + 1)), (2, .int r_38.1), (0, .ref (a 0))]) hx hb dX6_house_132 hl (k := 2) rfl (rfl) (by decide) rfl (fun ls hl => ?_)
                      refine lv_goto (tgt := 25) hx hb dX6_house_135 (by decide) ?_
                      have hP : va_P D vwCl (wM cI cC cZ cS a (va_up G 0 r_42.2) tc) H := hP
                      have hD : va_D A (wM cI cC cZ cS a (va_up G 0 r_42.2) tc) := hD
                      exact ih25 (it + 1) (va_up G 0 r_42.2) (by exact Nat.lt_of_lt_of_le (mu_dec hwell ht2.1 (Nat.lt_of_lt_of_le htp.2 ht2.2)) (Nat.le_of_lt_succ hk25)) ht2.1 hmk hres _ _ hP hD hS ls (lv_sub hl [2, 0] rfl)
                  · skip
                    rw [if_neg c_39] at hres
                    refine lv_aload_n hx hb dX6_house_109 rfl (lv_at hl 1 rfl) ?_
                    refine lv_iload_n hx hb dX6_house_110 rfl (lv_at hl 0 rfl) ?_
                    have hPc := hP.sub (ws' := (wM cI cC cZ cS a (va_up G 0 r_38.2) tc)) [0, 1, 2, 3, 4, 5, 6, 7, 8, 9, 10, 11, 12] rfl
                    have hDc := hD.sub (ws' := (wM cI cC cZ cS a (va_up G 0 r_38.2) tc)) [0, 1, 2, 3, 4, 5, 6, 7, 8, 9, 10, 11, 12] (by decide) rfl
                    refine m_callM (W.runV (As := [.int r_38.1]) (rest := []) ⟨hx, hb, hml, hown, hts⟩ (c_X6_readsItem l D cI cC cZ cS a (va_up G 0 r_38.2) tc r_38.1 len ((G 2 5).toNatClampNeg) htp.1 hmk.1 (fun e => absurd (htv.symm.trans e) hn116)) (cwV 1 hts gX6_house_X6_readsItem rfl rfl rfl (by decide +kernel) ⟨Nat.le_of_ble_eq_true rfl, Nat.le_of_ble_eq_true rfl⟩) (preV_of hPc hDc hE (va_recv hK hPc (ci := 6) (q0 := 0) rfl rfl)) rfl rfl hl.1 rfl (lv_room (Nat.le_of_ble_eq_true rfl)) dX6_house_111 ⟨Nat.zero_le _, Nat.zero_le _⟩) hP hD hS [0, 1, 2, 3, 4, 5, 6, 7, 8, 9, 10, 11, 12] rfl wM_ad (fun H locs hP hD hS => ?_)
                    have hP : va_P D vwCl (wM cI cC cZ cS a (d_X6_readsItem (va_up G 0 r_38.2) r_38.1 len ((G 2 5).toNatClampNeg)) tc) H := hP
                    have hD : va_D A (wM cI cC cZ cS a (d_X6_readsItem (va_up G 0 r_38.2) r_38.1 len ((G 2 5).toNatClampNeg)) tc) := hD
                    refine W.eq (g2 := F0 m 114 ls []) rfl ?_
                    have hri : PX ((d_X6_readsItem (va_up G 0 r_38.2) r_38.1 len ((G 2 5).toNatClampNeg)) 0) len ∧ _ := ri6 htp.1 hmk.1 hmk.2 (fun e => absurd (htv.symm.trans e) hn116)
                    refine opq (d_X6_readsItem (va_up G 0 r_38.2) r_38.1 len ((G 2 5).toNatClampNeg)) (fun r_43 hr_43 => ?_)
                    try rw [hr_43] at hP
                    try rw [hr_43] at hD
                    try rw [hr_43] at hres
                    try rw [hr_43] at hri
                    try rw [hr_43]
                    refine lv_aload_n hx hb dX6_house_114 rfl (lv_at hl 1 rfl) ?_
                    refine lv_aload_n hx hb dX6_house_115 rfl (lv_at hl 1 rfl) ?_
                    refine va_get (D := D) (ci := 6) (v := .int (r_43 0 5)) (C := RX6) (T := TX6) (N := 26) hx hb hts hinX6 hown hK hP 0 rfl rfl 5 (by decide) (hts (.fieldLink RX6 74 "FirstOutModel" "token" "I") (by decide +kernel)) (fun _ h9 => h9) rfl dX6_house_116 ?_
                    refine lv_iconst (v := 3) hx hb dX6_house_119 (by decide) ?_
                    refine lv_icmp_ne (tgt := 127) hx hb dX6_house_120 (by decide) (fun c_44 => ?_) (fun c_44 => ?_)
                    · skip
                      rw [if_neg c_44] at hres
                      refine lv_iconst (v := 0) hx hb dX6_house_127 (by decide) ?_
                      have hPc := hP.sub (ws' := (wMt cI cC cZ cS a (r_43 0) (r_43 1) tc)) [0, 1] rfl
                      have hDc := hD.sub (ws' := (wMt cI cC cZ cS a (r_43 0) (r_43 1) tc)) [0, 1] (by decide) rfl
                      refine m_callM (W.runV (As := [.int 0]) (rest := []) ⟨hx, hb, hml, hown, hts⟩ (c_X6_takes l D cI cC cZ cS a (r_43 0) (r_43 1) tc 0 len hri.1.1) (cwV 1 hts gX6_house_X6_takes rfl rfl rfl (by decide +kernel) ⟨Nat.le_of_ble_eq_true rfl, Nat.le_of_ble_eq_true rfl⟩) (preV_of hPc hDc hE (va_recv hK hPc (ci := 6) (q0 := 0) rfl rfl)) rfl rfl hl.1 rfl (lv_room (Nat.le_of_ble_eq_true rfl)) dX6_house_128 ⟨Nat.zero_le _, Nat.zero_le _⟩) hP hD hS [0, 1] rfl wMt_ad (fun H locs hP hD hS => ?_)
                      have hP : va_P D vwCl (wM cI cC cZ cS a (va_up r_43 0 ((d_X6_takes (r_43 0) (r_43 1) 0 len).2)) tc) H := hP
                      have hD : va_D A (wM cI cC cZ cS a (va_up r_43 0 ((d_X6_takes (r_43 0) (r_43 1) 0 len).2)) tc) := hD
                      refine W.eq (g2 := F0 m 131 ls [.int ((d_X6_takes (r_43 0) (r_43 1) 0 len).1)]) rfl ?_
                      have ht2 : PX (d_X6_takes (r_43 0) (r_43 1) 0 len).2 len ∧ _ := tk_ok hri.1
                      have hf2 : True := trivial
                      refine opq (d_X6_takes (r_43 0) (r_43 1) 0 len) (fun r_45 hr_45 => ?_)
                      try rw [hr_45] at hP
                      try rw [hr_45] at hD
                      try rw [hr_45] at hres
                      try rw [hr_45] at ht2
                      try rw [hr_45] at hf2
                      try rw [hr_45]
                      refine lv_pop hx hb dX6_house_131 rfl ?_
                      refine lv_iinc (v := it + 1) (lv' := [(1, .int (it + 1)), (2, .int r_38.1), (0, .ref (a 0))]) hx hb dX6_house_132 hl (k := 2) rfl (rfl) (by decide) rfl (fun ls hl => ?_)
                      refine lv_goto (tgt := 25) hx hb dX6_house_135 (by decide) ?_
                      have hP : va_P D vwCl (wM cI cC cZ cS a (va_up r_43 0 r_45.2) tc) H := hP
                      have hD : va_D A (wM cI cC cZ cS a (va_up r_43 0 r_45.2) tc) := hD
                      exact ih25 (it + 1) (va_up r_43 0 r_45.2) (by exact Nat.lt_of_lt_of_le (mu_dec hwell ht2.1 (Nat.lt_of_lt_of_le htp.2 (Nat.le_trans hri.2.1 ht2.2))) (Nat.le_of_lt_succ hk25)) ht2.1 hri.2.2 hres _ _ hP hD hS ls (lv_sub hl [2, 0] rfl)
                    · skip
                      rw [if_pos c_44] at hres
                      refine lv_iconst (v := 1) hx hb dX6_house_123 (by decide) ?_
                      refine lv_goto (tgt := 128) hx hb dX6_house_124 (by decide) ?_
                      have hPc := hP.sub (ws' := (wMt cI cC cZ cS a (r_43 0) (r_43 1) tc)) [0, 1] rfl
                      have hDc := hD.sub (ws' := (wMt cI cC cZ cS a (r_43 0) (r_43 1) tc)) [0, 1] (by decide) rfl
                      refine m_callM (W.runV (As := [.int 1]) (rest := []) ⟨hx, hb, hml, hown, hts⟩ (c_X6_takes l D cI cC cZ cS a (r_43 0) (r_43 1) tc 1 len hri.1.1) (cwV 1 hts gX6_house_X6_takes rfl rfl rfl (by decide +kernel) ⟨Nat.le_of_ble_eq_true rfl, Nat.le_of_ble_eq_true rfl⟩) (preV_of hPc hDc hE (va_recv hK hPc (ci := 6) (q0 := 0) rfl rfl)) rfl rfl hl.1 rfl (lv_room (Nat.le_of_ble_eq_true rfl)) dX6_house_128 ⟨Nat.zero_le _, Nat.zero_le _⟩) hP hD hS [0, 1] rfl wMt_ad (fun H locs hP hD hS => ?_)
                      have hP : va_P D vwCl (wM cI cC cZ cS a (va_up r_43 0 ((d_X6_takes (r_43 0) (r_43 1) 1 len).2)) tc) H := hP
                      have hD : va_D A (wM cI cC cZ cS a (va_up r_43 0 ((d_X6_takes (r_43 0) (r_43 1) 1 len).2)) tc) := hD
                      refine W.eq (g2 := F0 m 131 ls [.int ((d_X6_takes (r_43 0) (r_43 1) 1 len).1)]) rfl ?_
                      have ht2 : PX (d_X6_takes (r_43 0) (r_43 1) 1 len).2 len ∧ _ := tk_ok hri.1
                      have hf2 : True := trivial
                      refine opq (d_X6_takes (r_43 0) (r_43 1) 1 len) (fun r_46 hr_46 => ?_)
                      try rw [hr_46] at hP
                      try rw [hr_46] at hD
                      try rw [hr_46] at hres
                      try rw [hr_46] at ht2
                      try rw [hr_46] at hf2
                      try rw [hr_46]
                      refine lv_pop hx hb dX6_house_131 rfl ?_
                      refine lv_iinc (v := it + 1) (lv' := [(1, .int (it + 1)), (2, .int r_38.1), (0, .ref (a 0))]) hx hb dX6_house_132 hl (k := 2) rfl (rfl) (by decide) rfl (fun ls hl => ?_)
                      refine lv_goto (tgt := 25) hx hb dX6_house_135 (by decide) ?_
                      have hP : va_P D vwCl (wM cI cC cZ cS a (va_up r_43 0 r_46.2) tc) H := hP
                      have hD : va_D A (wM cI cC cZ cS a (va_up r_43 0 r_46.2) tc) := hD
                      exact ih25 (it + 1) (va_up r_43 0 r_46.2) (by exact Nat.lt_of_lt_of_le (mu_dec hwell ht2.1 (Nat.lt_of_lt_of_le htp.2 (Nat.le_trans hri.2.1 ht2.2))) (Nat.le_of_lt_succ hk25)) ht2.1 hri.2.2 hres _ _ hP hD hS ls (lv_sub hl [2, 0] rfl)
            · skip
              rw [if_pos c_15] at hres
              refine lv_aload_n hx hb dX6_house_57 rfl (lv_at hl 0 rfl) ?_
              refine va_get (D := D) (ci := 6) (v := .ref (a 2)) (C := RX6) (T := TX6) (N := 26) hx hb hts hinX6 hown hK hP 0 rfl rfl 9 (by decide) (hts (.fieldLink RX6 13 "FirstOutModel" "many" "[I") (by decide +kernel)) (fun _ h9 => h9) rfl dX6_house_58 ?_
              refine lv_iconst (v := 5) hx hb dX6_house_61 (by decide) ?_
              refine m_iald hx hb hK hP 2 0 rfl rfl 5 rfl (by decide) (by decide) dX6_house_62 ?_
              refine lv_to (show _ = (G 2 5) from rfl) ?_
              refine lv_bipush (v := 7) hx hb dX6_house_63 (by decide) ?_
              refine lv_icmp_ge (tgt := 97) hx hb dX6_house_65 (by decide) (fun c_47 => ?_) (fun c_47 => ?_)
              · skip
                rw [if_pos c_47] at hres
                refine lv_iconst (v := 0) hx hb dX6_house_97 (by decide) ?_
                have hPc := hP.sub (ws' := (wMt cI cC cZ cS a (G 0) (G 1) tc)) [0, 1] rfl
                have hDc := hD.sub (ws' := (wMt cI cC cZ cS a (G 0) (G 1) tc)) [0, 1] (by decide) rfl
                refine m_callM (W.runV (As := [.int 0]) (rest := []) ⟨hx, hb, hml, hown, hts⟩ (c_X6_takes l D cI cC cZ cS a (G 0) (G 1) tc 0 len hpx.1) (cwV 1 hts gX6_house_X6_takes rfl rfl rfl (by decide +kernel) ⟨Nat.le_of_ble_eq_true rfl, Nat.le_of_ble_eq_true rfl⟩) (preV_of hPc hDc hE (va_recv hK hPc (ci := 6) (q0 := 0) rfl rfl)) rfl rfl hl.1 rfl (lv_room (Nat.le_of_ble_eq_true rfl)) dX6_house_98 ⟨Nat.zero_le _, Nat.zero_le _⟩) hP hD hS [0, 1] rfl wMt_ad (fun H locs hP hD hS => ?_)
                have hP : va_P D vwCl (wM cI cC cZ cS a (va_up G 0 ((d_X6_takes (G 0) (G 1) 0 len).2)) tc) H := hP
                have hD : va_D A (wM cI cC cZ cS a (va_up G 0 ((d_X6_takes (G 0) (G 1) 0 len).2)) tc) := hD
                refine W.eq (g2 := F0 m 101 ls [.int ((d_X6_takes (G 0) (G 1) 0 len).1)]) rfl ?_
                have htv : (d_X6_takes (G 0) (G 1) 0 len).1 = 0 := takes_0
                have htp : PX (d_X6_takes (G 0) (G 1) 0 len).2 len ∧ True := ⟨(tk_ok hpx).1, trivial⟩
                have htf : ¬ (d_X6_takes (G 0) (G 1) 0 len).2 8 < 0 := takes_f0 hwell hpx
                refine opq (d_X6_takes (G 0) (G 1) 0 len) (fun r_48 hr_48 => ?_)
                try rw [hr_48] at hP
                try rw [hr_48] at hD
                try rw [hr_48] at hres
                try rw [hr_48] at htv
                try rw [hr_48] at htp
                try rw [hr_48] at htf
                try rw [hr_48]
                refine lv_istore_n (lv' := [(2, .int r_48.1), (0, .ref (a 0)), (1, .int it)]) hx hb dX6_house_101 rfl hl (by decide) rfl (fun ls hl => ?_)
                refine lv_aload_n hx hb dX6_house_102 rfl (lv_at hl 1 rfl) ?_
                have hPc := hP.sub (ws' := (wMt cI cC cZ cS a r_48.2 (G 1) tc)) [0, 1] rfl
                have hDc := hD.sub (ws' := (wMt cI cC cZ cS a r_48.2 (G 1) tc)) [0, 1] (by decide) rfl
                refine m_callR (W.runV (As := []) (rest := []) ⟨hx, hb, hml, hown, hts⟩ (c_X6_isWell l D cI cC cZ cS a r_48.2 (G 1) tc) (cwV 0 hts gX6_house_X6_isWell rfl rfl rfl (by decide +kernel) ⟨Nat.le_of_ble_eq_true rfl, Nat.le_of_ble_eq_true rfl⟩) (preV_of hPc hDc hE (va_recv hK hPc (ci := 6) (q0 := 0) rfl rfl)) rfl rfl hl.1 rfl (lv_room (Nat.le_of_ble_eq_true rfl)) dX6_house_103 ⟨Nat.zero_le _, Nat.zero_le _⟩) ?_
                refine W.eq (g2 := F0 m 106 ls [.int (d_X6_isWell r_48.2)]) rfl ?_
                refine lv_if_eq (tgt := 114) hx hb dX6_house_106 (by decide) (fun c_49 => ?_) (fun c_49 => ?_)
                · skip
                  refine lv_aload_n hx hb dX6_house_114 rfl (lv_at hl 1 rfl) ?_
                  refine lv_aload_n hx hb dX6_house_115 rfl (lv_at hl 1 rfl) ?_
                  refine va_get (D := D) (ci := 6) (v := .int (r_48.2 5)) (C := RX6) (T := TX6) (N := 26) hx hb hts hinX6 hown hK hP 0 rfl rfl 5 (by decide) (hts (.fieldLink RX6 74 "FirstOutModel" "token" "I") (by decide +kernel)) (fun _ h9 => h9) rfl dX6_house_116 ?_
                  refine lv_iconst (v := 3) hx hb dX6_house_119 (by decide) ?_
                  refine lv_icmp_ne (tgt := 127) hx hb dX6_house_120 (by decide) (fun c_50 => ?_) (fun c_50 => ?_)
                  · skip
                    rw [if_neg c_50] at hres
                    refine lv_iconst (v := 0) hx hb dX6_house_127 (by decide) ?_
                    have hPc := hP.sub (ws' := (wMt cI cC cZ cS a r_48.2 (G 1) tc)) [0, 1] rfl
                    have hDc := hD.sub (ws' := (wMt cI cC cZ cS a r_48.2 (G 1) tc)) [0, 1] (by decide) rfl
                    refine m_callM (W.runV (As := [.int 0]) (rest := []) ⟨hx, hb, hml, hown, hts⟩ (c_X6_takes l D cI cC cZ cS a r_48.2 (G 1) tc 0 len htp.1.1) (cwV 1 hts gX6_house_X6_takes rfl rfl rfl (by decide +kernel) ⟨Nat.le_of_ble_eq_true rfl, Nat.le_of_ble_eq_true rfl⟩) (preV_of hPc hDc hE (va_recv hK hPc (ci := 6) (q0 := 0) rfl rfl)) rfl rfl hl.1 rfl (lv_room (Nat.le_of_ble_eq_true rfl)) dX6_house_128 ⟨Nat.zero_le _, Nat.zero_le _⟩) hP hD hS [0, 1] rfl wMt_ad (fun H locs hP hD hS => ?_)
                    have hP : va_P D vwCl (wM cI cC cZ cS a (va_up G 0 ((d_X6_takes r_48.2 (G 1) 0 len).2)) tc) H := hP
                    have hD : va_D A (wM cI cC cZ cS a (va_up G 0 ((d_X6_takes r_48.2 (G 1) 0 len).2)) tc) := hD
                    refine W.eq (g2 := F0 m 131 ls [.int ((d_X6_takes r_48.2 (G 1) 0 len).1)]) rfl ?_
                    have ht2 : PX (d_X6_takes r_48.2 (G 1) 0 len).2 len ∧ _ := tk_ok htp.1
                    have hf2 : ¬ (d_X6_takes r_48.2 (G 1) 0 len).2 8 < 0 := by rw [takes_nw (isWell_0 htf)]; exact htf
                    refine opq (d_X6_takes r_48.2 (G 1) 0 len) (fun r_51 hr_51 => ?_)
                    try rw [hr_51] at hP
                    try rw [hr_51] at hD
                    try rw [hr_51] at hres
                    try rw [hr_51] at ht2
                    try rw [hr_51] at hf2
                    try rw [hr_51]
                    refine lv_pop hx hb dX6_house_131 rfl ?_
                    refine lv_iinc (v := it + 1) (lv' := [(1, .int (it + 1)), (2, .int r_48.1), (0, .ref (a 0))]) hx hb dX6_house_132 hl (k := 2) rfl (rfl) (by decide) rfl (fun ls hl => ?_)
                    refine lv_goto (tgt := 25) hx hb dX6_house_135 (by decide) ?_
                    have hP : va_P D vwCl (wM cI cC cZ cS a (va_up G 0 r_51.2) tc) H := hP
                    have hD : va_D A (wM cI cC cZ cS a (va_up G 0 r_51.2) tc) := hD
                    exact ih25 (it + 1) (va_up G 0 r_51.2) (by exact Nat.lt_of_lt_of_le (mu_dec0 hwell hf2) (Nat.le_of_lt_succ hk25)) ht2.1 hmk hres _ _ hP hD hS ls (lv_sub hl [2, 0] rfl)
                  · skip
                    rw [if_pos c_50] at hres
                    refine lv_iconst (v := 1) hx hb dX6_house_123 (by decide) ?_
                    refine lv_goto (tgt := 128) hx hb dX6_house_124 (by decide) ?_
                    have hPc := hP.sub (ws' := (wMt cI cC cZ cS a r_48.2 (G 1) tc)) [0, 1] rfl
                    have hDc := hD.sub (ws' := (wMt cI cC cZ cS a r_48.2 (G 1) tc)) [0, 1] (by decide) rfl
                    refine m_callM (W.runV (As := [.int 1]) (rest := []) ⟨hx, hb, hml, hown, hts⟩ (c_X6_takes l D cI cC cZ cS a r_48.2 (G 1) tc 1 len htp.1.1) (cwV 1 hts gX6_house_X6_takes rfl rfl rfl (by decide +kernel) ⟨Nat.le_of_ble_eq_true rfl, Nat.le_of_ble_eq_true rfl⟩) (preV_of hPc hDc hE (va_recv hK hPc (ci := 6) (q0 := 0) rfl rfl)) rfl rfl hl.1 rfl (lv_room (Nat.le_of_ble_eq_true rfl)) dX6_house_128 ⟨Nat.zero_le _, Nat.zero_le _⟩) hP hD hS [0, 1] rfl wMt_ad (fun H locs hP hD hS => ?_)
                    have hP : va_P D vwCl (wM cI cC cZ cS a (va_up G 0 ((d_X6_takes r_48.2 (G 1) 1 len).2)) tc) H := hP
                    have hD : va_D A (wM cI cC cZ cS a (va_up G 0 ((d_X6_takes r_48.2 (G 1) 1 len).2)) tc) := hD
                    refine W.eq (g2 := F0 m 131 ls [.int ((d_X6_takes r_48.2 (G 1) 1 len).1)]) rfl ?_
                    have ht2 : PX (d_X6_takes r_48.2 (G 1) 1 len).2 len ∧ _ := tk_ok htp.1
                    have hf2 : ¬ (d_X6_takes r_48.2 (G 1) 1 len).2 8 < 0 := by rw [takes_nw (isWell_0 htf)]; exact htf
                    refine opq (d_X6_takes r_48.2 (G 1) 1 len) (fun r_52 hr_52 => ?_)
                    try rw [hr_52] at hP
                    try rw [hr_52] at hD
                    try rw [hr_52] at hres
                    try rw [hr_52] at ht2
                    try rw [hr_52] at hf2
                    try rw [hr_52]
                    refine lv_pop hx hb dX6_house_131 rfl ?_
                    refine lv_iinc (v := it + 1) (lv' := [(1, .int (it + 1)), (2, .int r_48.1), (0, .ref (a 0))]) hx hb dX6_house_132 hl (k := 2) rfl (rfl) (by decide) rfl (fun ls hl => ?_)
                    refine lv_goto (tgt := 25) hx hb dX6_house_135 (by decide) ?_
                    have hP : va_P D vwCl (wM cI cC cZ cS a (va_up G 0 r_52.2) tc) H := hP
                    have hD : va_D A (wM cI cC cZ cS a (va_up G 0 r_52.2) tc) := hD
                    exact ih25 (it + 1) (va_up G 0 r_52.2) (by exact Nat.lt_of_lt_of_le (mu_dec0 hwell hf2) (Nat.le_of_lt_succ hk25)) ht2.1 hmk hres _ _ hP hD hS ls (lv_sub hl [2, 0] rfl)
                · exact absurd c_49 (fun h => h (isWell_0 htf))
              · skip
                rw [if_neg c_47] at hres
                have hl7 : (G 2 5).toNatClampNeg < 7 := lt7 c_47 hmk
                refine lv_goto (tgt := 93) hx hb dX6_house_68 (by decide) ?_
                refine lv_iconst (v := 1) hx hb dX6_house_93 (by decide) ?_
                refine lv_goto (tgt := 98) hx hb dX6_house_94 (by decide) ?_
                have hPc := hP.sub (ws' := (wMt cI cC cZ cS a (G 0) (G 1) tc)) [0, 1] rfl
                have hDc := hD.sub (ws' := (wMt cI cC cZ cS a (G 0) (G 1) tc)) [0, 1] (by decide) rfl
                refine m_callM (W.runV (As := [.int 1]) (rest := []) ⟨hx, hb, hml, hown, hts⟩ (c_X6_takes l D cI cC cZ cS a (G 0) (G 1) tc 1 len hpx.1) (cwV 1 hts gX6_house_X6_takes rfl rfl rfl (by decide +kernel) ⟨Nat.le_of_ble_eq_true rfl, Nat.le_of_ble_eq_true rfl⟩) (preV_of hPc hDc hE (va_recv hK hPc (ci := 6) (q0 := 0) rfl rfl)) rfl rfl hl.1 rfl (lv_room (Nat.le_of_ble_eq_true rfl)) dX6_house_98 ⟨Nat.zero_le _, Nat.zero_le _⟩) hP hD hS [0, 1] rfl wMt_ad (fun H locs hP hD hS => ?_)
                have hP : va_P D vwCl (wM cI cC cZ cS a (va_up G 0 ((d_X6_takes (G 0) (G 1) 1 len).2)) tc) H := hP
                have hD : va_D A (wM cI cC cZ cS a (va_up G 0 ((d_X6_takes (G 0) (G 1) 1 len).2)) tc) := hD
                refine W.eq (g2 := F0 m 101 ls [.int ((d_X6_takes (G 0) (G 1) 1 len).1)]) rfl ?_
                have htv : (d_X6_takes (G 0) (G 1) 1 len).1 = G 0 7 := takes_val hwell
                have htp : PX (d_X6_takes (G 0) (G 1) 1 len).2 len ∧ (G 0 6).toNatClampNeg < ((d_X6_takes (G 0) (G 1) 1 len).2 6).toNatClampNeg := takes_go hwell hpx htok
                have htf : True := trivial
                refine opq (d_X6_takes (G 0) (G 1) 1 len) (fun r_53 hr_53 => ?_)
                try rw [hr_53] at hP
                try rw [hr_53] at hD
                try rw [hr_53] at hres
                try rw [hr_53] at htv
                try rw [hr_53] at htp
                try rw [hr_53] at htf
                try rw [hr_53]
                refine lv_istore_n (lv' := [(2, .int r_53.1), (0, .ref (a 0)), (1, .int it)]) hx hb dX6_house_101 rfl hl (by decide) rfl (fun ls hl => ?_)
                refine lv_aload_n hx hb dX6_house_102 rfl (lv_at hl 1 rfl) ?_
                have hPc := hP.sub (ws' := (wMt cI cC cZ cS a r_53.2 (G 1) tc)) [0, 1] rfl
                have hDc := hD.sub (ws' := (wMt cI cC cZ cS a r_53.2 (G 1) tc)) [0, 1] (by decide) rfl
                refine m_callR (W.runV (As := []) (rest := []) ⟨hx, hb, hml, hown, hts⟩ (c_X6_isWell l D cI cC cZ cS a r_53.2 (G 1) tc) (cwV 0 hts gX6_house_X6_isWell rfl rfl rfl (by decide +kernel) ⟨Nat.le_of_ble_eq_true rfl, Nat.le_of_ble_eq_true rfl⟩) (preV_of hPc hDc hE (va_recv hK hPc (ci := 6) (q0 := 0) rfl rfl)) rfl rfl hl.1 rfl (lv_room (Nat.le_of_ble_eq_true rfl)) dX6_house_103 ⟨Nat.zero_le _, Nat.zero_le _⟩) ?_
                refine W.eq (g2 := F0 m 106 ls [.int (d_X6_isWell r_53.2)]) rfl ?_
                refine lv_if_eq (tgt := 114) hx hb dX6_house_106 (by decide) (fun c_54 => ?_) (fun c_54 => ?_)
                · skip
                  rw [if_pos c_54] at hres
                  refine lv_aload_n hx hb dX6_house_114 rfl (lv_at hl 1 rfl) ?_
                  refine lv_aload_n hx hb dX6_house_115 rfl (lv_at hl 1 rfl) ?_
                  refine va_get (D := D) (ci := 6) (v := .int (r_53.2 5)) (C := RX6) (T := TX6) (N := 26) hx hb hts hinX6 hown hK hP 0 rfl rfl 5 (by decide) (hts (.fieldLink RX6 74 "FirstOutModel" "token" "I") (by decide +kernel)) (fun _ h9 => h9) rfl dX6_house_116 ?_
                  refine lv_iconst (v := 3) hx hb dX6_house_119 (by decide) ?_
                  refine lv_icmp_ne (tgt := 127) hx hb dX6_house_120 (by decide) (fun c_55 => ?_) (fun c_55 => ?_)
                  · skip
                    rw [if_neg c_55] at hres
                    refine lv_iconst (v := 0) hx hb dX6_house_127 (by decide) ?_
                    have hPc := hP.sub (ws' := (wMt cI cC cZ cS a r_53.2 (G 1) tc)) [0, 1] rfl
                    have hDc := hD.sub (ws' := (wMt cI cC cZ cS a r_53.2 (G 1) tc)) [0, 1] (by decide) rfl
                    refine m_callM (W.runV (As := [.int 0]) (rest := []) ⟨hx, hb, hml, hown, hts⟩ (c_X6_takes l D cI cC cZ cS a r_53.2 (G 1) tc 0 len htp.1.1) (cwV 1 hts gX6_house_X6_takes rfl rfl rfl (by decide +kernel) ⟨Nat.le_of_ble_eq_true rfl, Nat.le_of_ble_eq_true rfl⟩) (preV_of hPc hDc hE (va_recv hK hPc (ci := 6) (q0 := 0) rfl rfl)) rfl rfl hl.1 rfl (lv_room (Nat.le_of_ble_eq_true rfl)) dX6_house_128 ⟨Nat.zero_le _, Nat.zero_le _⟩) hP hD hS [0, 1] rfl wMt_ad (fun H locs hP hD hS => ?_)
                    have hP : va_P D vwCl (wM cI cC cZ cS a (va_up G 0 ((d_X6_takes r_53.2 (G 1) 0 len).2)) tc) H := hP
                    have hD : va_D A (wM cI cC cZ cS a (va_up G 0 ((d_X6_takes r_53.2 (G 1) 0 len).2)) tc) := hD
                    refine W.eq (g2 := F0 m 131 ls [.int ((d_X6_takes r_53.2 (G 1) 0 len).1)]) rfl ?_
                    have ht2 : PX (d_X6_takes r_53.2 (G 1) 0 len).2 len ∧ _ := tk_ok htp.1
                    have hf2 : True := trivial
                    refine opq (d_X6_takes r_53.2 (G 1) 0 len) (fun r_56 hr_56 => ?_)
                    try rw [hr_56] at hP
                    try rw [hr_56] at hD
                    try rw [hr_56] at hres
                    try rw [hr_56] at ht2
                    try rw [hr_56] at hf2
                    try rw [hr_56]
                    refine lv_pop hx hb dX6_house_131 rfl ?_
                    refine lv_iinc (v := it + 1) (lv' := [(1, .int (it + 1)), (2, .int r_53.1), (0, .ref (a 0))]) hx hb dX6_house_132 hl (k := 2) rfl (rfl) (by decide) rfl (fun ls hl => ?_)
                    refine lv_goto (tgt := 25) hx hb dX6_house_135 (by decide) ?_
                    have hP : va_P D vwCl (wM cI cC cZ cS a (va_up G 0 r_56.2) tc) H := hP
                    have hD : va_D A (wM cI cC cZ cS a (va_up G 0 r_56.2) tc) := hD
                    exact ih25 (it + 1) (va_up G 0 r_56.2) (by exact Nat.lt_of_lt_of_le (mu_dec hwell ht2.1 (Nat.lt_of_lt_of_le htp.2 ht2.2)) (Nat.le_of_lt_succ hk25)) ht2.1 hmk hres _ _ hP hD hS ls (lv_sub hl [2, 0] rfl)
                  · skip
                    rw [if_pos c_55] at hres
                    refine lv_iconst (v := 1) hx hb dX6_house_123 (by decide) ?_
                    refine lv_goto (tgt := 128) hx hb dX6_house_124 (by decide) ?_
                    have hPc := hP.sub (ws' := (wMt cI cC cZ cS a r_53.2 (G 1) tc)) [0, 1] rfl
                    have hDc := hD.sub (ws' := (wMt cI cC cZ cS a r_53.2 (G 1) tc)) [0, 1] (by decide) rfl
                    refine m_callM (W.runV (As := [.int 1]) (rest := []) ⟨hx, hb, hml, hown, hts⟩ (c_X6_takes l D cI cC cZ cS a r_53.2 (G 1) tc 1 len htp.1.1) (cwV 1 hts gX6_house_X6_takes rfl rfl rfl (by decide +kernel) ⟨Nat.le_of_ble_eq_true rfl, Nat.le_of_ble_eq_true rfl⟩) (preV_of hPc hDc hE (va_recv hK hPc (ci := 6) (q0 := 0) rfl rfl)) rfl rfl hl.1 rfl (lv_room (Nat.le_of_ble_eq_true rfl)) dX6_house_128 ⟨Nat.zero_le _, Nat.zero_le _⟩) hP hD hS [0, 1] rfl wMt_ad (fun H locs hP hD hS => ?_)
                    have hP : va_P D vwCl (wM cI cC cZ cS a (va_up G 0 ((d_X6_takes r_53.2 (G 1) 1 len).2)) tc) H := hP
                    have hD : va_D A (wM cI cC cZ cS a (va_up G 0 ((d_X6_takes r_53.2 (G 1) 1 len).2)) tc) := hD
                    refine W.eq (g2 := F0 m 131 ls [.int ((d_X6_takes r_53.2 (G 1) 1 len).1)]) rfl ?_
                    have ht2 : PX (d_X6_takes r_53.2 (G 1) 1 len).2 len ∧ _ := tk_ok htp.1
                    have hf2 : True := trivial
                    refine opq (d_X6_takes r_53.2 (G 1) 1 len) (fun r_57 hr_57 => ?_)
                    try rw [hr_57] at hP
                    try rw [hr_57] at hD
                    try rw [hr_57] at hres
                    try rw [hr_57] at ht2
                    try rw [hr_57] at hf2
                    try rw [hr_57]
                    refine lv_pop hx hb dX6_house_131 rfl ?_
                    refine lv_iinc (v := it + 1) (lv' := [(1, .int (it + 1)), (2, .int r_53.1), (0, .ref (a 0))]) hx hb dX6_house_132 hl (k := 2) rfl (rfl) (by decide) rfl (fun ls hl => ?_)
                    refine lv_goto (tgt := 25) hx hb dX6_house_135 (by decide) ?_
                    have hP : va_P D vwCl (wM cI cC cZ cS a (va_up G 0 r_57.2) tc) H := hP
                    have hD : va_D A (wM cI cC cZ cS a (va_up G 0 r_57.2) tc) := hD
                    exact ih25 (it + 1) (va_up G 0 r_57.2) (by exact Nat.lt_of_lt_of_le (mu_dec hwell ht2.1 (Nat.lt_of_lt_of_le htp.2 ht2.2)) (Nat.le_of_lt_succ hk25)) ht2.1 hmk hres _ _ hP hD hS ls (lv_sub hl [2, 0] rfl)
                · skip
                  rw [if_neg c_54] at hres
                  refine lv_aload_n hx hb dX6_house_109 rfl (lv_at hl 1 rfl) ?_
                  refine lv_iload_n hx hb dX6_house_110 rfl (lv_at hl 0 rfl) ?_
                  have hPc := hP.sub (ws' := (wM cI cC cZ cS a (va_up G 0 r_53.2) tc)) [0, 1, 2, 3, 4, 5, 6, 7, 8, 9, 10, 11, 12] rfl
                  have hDc := hD.sub (ws' := (wM cI cC cZ cS a (va_up G 0 r_53.2) tc)) [0, 1, 2, 3, 4, 5, 6, 7, 8, 9, 10, 11, 12] (by decide) rfl
                  refine m_callM (W.runV (As := [.int r_53.1]) (rest := []) ⟨hx, hb, hml, hown, hts⟩ (c_X6_readsItem l D cI cC cZ cS a (va_up G 0 r_53.2) tc r_53.1 len ((G 2 5).toNatClampNeg) htp.1 hmk.1 (fun _ => hl7)) (cwV 1 hts gX6_house_X6_readsItem rfl rfl rfl (by decide +kernel) ⟨Nat.le_of_ble_eq_true rfl, Nat.le_of_ble_eq_true rfl⟩) (preV_of hPc hDc hE (va_recv hK hPc (ci := 6) (q0 := 0) rfl rfl)) rfl rfl hl.1 rfl (lv_room (Nat.le_of_ble_eq_true rfl)) dX6_house_111 ⟨Nat.zero_le _, Nat.zero_le _⟩) hP hD hS [0, 1, 2, 3, 4, 5, 6, 7, 8, 9, 10, 11, 12] rfl wM_ad (fun H locs hP hD hS => ?_)
                  have hP : va_P D vwCl (wM cI cC cZ cS a (d_X6_readsItem (va_up G 0 r_53.2) r_53.1 len ((G 2 5).toNatClampNeg)) tc) H := hP
                  have hD : va_D A (wM cI cC cZ cS a (d_X6_readsItem (va_up G 0 r_53.2) r_53.1 len ((G 2 5).toNatClampNeg)) tc) := hD
                  refine W.eq (g2 := F0 m 114 ls []) rfl ?_
                  have hri : PX ((d_X6_readsItem (va_up G 0 r_53.2) r_53.1 len ((G 2 5).toNatClampNeg)) 0) len ∧ _ := ri6 htp.1 hmk.1 hmk.2 (fun _ => hl7)
                  refine opq (d_X6_readsItem (va_up G 0 r_53.2) r_53.1 len ((G 2 5).toNatClampNeg)) (fun r_58 hr_58 => ?_)
                  try rw [hr_58] at hP
                  try rw [hr_58] at hD
                  try rw [hr_58] at hres
                  try rw [hr_58] at hri
                  try rw [hr_58]
                  refine lv_aload_n hx hb dX6_house_114 rfl (lv_at hl 1 rfl) ?_
                  refine lv_aload_n hx hb dX6_house_115 rfl (lv_at hl 1 rfl) ?_
                  refine va_get (D := D) (ci := 6) (v := .int (r_58 0 5)) (C := RX6) (T := TX6) (N := 26) hx hb hts hinX6 hown hK hP 0 rfl rfl 5 (by decide) (hts (.fieldLink RX6 74 "FirstOutModel" "token" "I") (by decide +kernel)) (fun _ h9 => h9) rfl dX6_house_116 ?_
                  refine lv_iconst (v := 3) hx hb dX6_house_119 (by decide) ?_
                  refine lv_icmp_ne (tgt := 127) hx hb dX6_house_120 (by decide) (fun c_59 => ?_) (fun c_59 => ?_)
                  · skip
                    rw [if_neg c_59] at hres
                    refine lv_iconst (v := 0) hx hb dX6_house_127 (by decide) ?_
                    have hPc := hP.sub (ws' := (wMt cI cC cZ cS a (r_58 0) (r_58 1) tc)) [0, 1] rfl
                    have hDc := hD.sub (ws' := (wMt cI cC cZ cS a (r_58 0) (r_58 1) tc)) [0, 1] (by decide) rfl
                    refine m_callM (W.runV (As := [.int 0]) (rest := []) ⟨hx, hb, hml, hown, hts⟩ (c_X6_takes l D cI cC cZ cS a (r_58 0) (r_58 1) tc 0 len hri.1.1) (cwV 1 hts gX6_house_X6_takes rfl rfl rfl (by decide +kernel) ⟨Nat.le_of_ble_eq_true rfl, Nat.le_of_ble_eq_true rfl⟩) (preV_of hPc hDc hE (va_recv hK hPc (ci := 6) (q0 := 0) rfl rfl)) rfl rfl hl.1 rfl (lv_room (Nat.le_of_ble_eq_true rfl)) dX6_house_128 ⟨Nat.zero_le _, Nat.zero_le _⟩) hP hD hS [0, 1] rfl wMt_ad (fun H locs hP hD hS => ?_)
                    have hP : va_P D vwCl (wM cI cC cZ cS a (va_up r_58 0 ((d_X6_takes (r_58 0) (r_58 1) 0 len).2)) tc) H := hP
                    have hD : va_D A (wM cI cC cZ cS a (va_up r_58 0 ((d_X6_takes (r_58 0) (r_58 1) 0 len).2)) tc) := hD
                    refine W.eq (g2 := F0 m 131 ls [.int ((d_X6_takes (r_58 0) (r_58 1) 0 len).1)]) rfl ?_
                    have ht2 : PX (d_X6_takes (r_58 0) (r_58 1) 0 len).2 len ∧ _ := tk_ok hri.1
                    have hf2 : True := trivial
                    refine opq (d_X6_takes (r_58 0) (r_58 1) 0 len) (fun r_60 hr_60 => ?_)
                    try rw [hr_60] at hP
                    try rw [hr_60] at hD
                    try rw [hr_60] at hres
                    try rw [hr_60] at ht2
                    try rw [hr_60] at hf2
                    try rw [hr_60]
                    refine lv_pop hx hb dX6_house_131 rfl ?_
                    refine lv_iinc (v := it + 1) (lv' := [(1, .int (it + 1)), (2, .int r_53.1), (0, .ref (a 0))]) hx hb dX6_house_132 hl (k := 2) rfl (rfl) (by decide) rfl (fun ls hl => ?_)
                    refine lv_goto (tgt := 25) hx hb dX6_house_135 (by decide) ?_
                    have hP : va_P D vwCl (wM cI cC cZ cS a (va_up r_58 0 r_60.2) tc) H := hP
                    have hD : va_D A (wM cI cC cZ cS a (va_up r_58 0 r_60.2) tc) := hD
                    exact ih25 (it + 1) (va_up r_58 0 r_60.2) (by exact Nat.lt_of_lt_of_le (mu_dec hwell ht2.1 (Nat.lt_of_lt_of_le htp.2 (Nat.le_trans hri.2.1 ht2.2))) (Nat.le_of_lt_succ hk25)) ht2.1 hri.2.2 hres _ _ hP hD hS ls (lv_sub hl [2, 0] rfl)
                  · skip
                    rw [if_pos c_59] at hres
                    refine lv_iconst (v := 1) hx hb dX6_house_123 (by decide) ?_
                    refine lv_goto (tgt := 128) hx hb dX6_house_124 (by decide) ?_
                    have hPc := hP.sub (ws' := (wMt cI cC cZ cS a (r_58 0) (r_58 1) tc)) [0, 1] rfl
                    have hDc := hD.sub (ws' := (wMt cI cC cZ cS a (r_58 0) (r_58 1) tc)) [0, 1] (by decide) rfl
                    refine m_callM (W.runV (As := [.int 1]) (rest := []) ⟨hx, hb, hml, hown, hts⟩ (c_X6_takes l D cI cC cZ cS a (r_58 0) (r_58 1) tc 1 len hri.1.1) (cwV 1 hts gX6_house_X6_takes rfl rfl rfl (by decide +kernel) ⟨Nat.le_of_ble_eq_true rfl, Nat.le_of_ble_eq_true rfl⟩) (preV_of hPc hDc hE (va_recv hK hPc (ci := 6) (q0 := 0) rfl rfl)) rfl rfl hl.1 rfl (lv_room (Nat.le_of_ble_eq_true rfl)) dX6_house_128 ⟨Nat.zero_le _, Nat.zero_le _⟩) hP hD hS [0, 1] rfl wMt_ad (fun H locs hP hD hS => ?_)
                    have hP : va_P D vwCl (wM cI cC cZ cS a (va_up r_58 0 ((d_X6_takes (r_58 0) (r_58 1) 1 len).2)) tc) H := hP
                    have hD : va_D A (wM cI cC cZ cS a (va_up r_58 0 ((d_X6_takes (r_58 0) (r_58 1) 1 len).2)) tc) := hD
                    refine W.eq (g2 := F0 m 131 ls [.int ((d_X6_takes (r_58 0) (r_58 1) 1 len).1)]) rfl ?_
                    have ht2 : PX (d_X6_takes (r_58 0) (r_58 1) 1 len).2 len ∧ _ := tk_ok hri.1
                    have hf2 : True := trivial
                    refine opq (d_X6_takes (r_58 0) (r_58 1) 1 len) (fun r_61 hr_61 => ?_)
                    try rw [hr_61] at hP
                    try rw [hr_61] at hD
                    try rw [hr_61] at hres
                    try rw [hr_61] at ht2
                    try rw [hr_61] at hf2
                    try rw [hr_61]
                    refine lv_pop hx hb dX6_house_131 rfl ?_
                    refine lv_iinc (v := it + 1) (lv' := [(1, .int (it + 1)), (2, .int r_53.1), (0, .ref (a 0))]) hx hb dX6_house_132 hl (k := 2) rfl (rfl) (by decide) rfl (fun ls hl => ?_)
                    refine lv_goto (tgt := 25) hx hb dX6_house_135 (by decide) ?_
                    have hP : va_P D vwCl (wM cI cC cZ cS a (va_up r_58 0 r_61.2) tc) H := hP
                    have hD : va_D A (wM cI cC cZ cS a (va_up r_58 0 r_61.2) tc) := hD
                    exact ih25 (it + 1) (va_up r_58 0 r_61.2) (by exact Nat.lt_of_lt_of_le (mu_dec hwell ht2.1 (Nat.lt_of_lt_of_le htp.2 (Nat.le_trans hri.2.1 ht2.2))) (Nat.le_of_lt_succ hk25)) ht2.1 hri.2.2 hres _ _ hP hD hS ls (lv_sub hl [2, 0] rfl)
  have hP : va_P D vwCl (wM cI cC cZ cS a (va_up r_1 0 r_2) tc) _ := hP
  have hD : va_D A (wM cI cC cZ cS a (va_up r_1 0 r_2) tc) := hD
  exact loop25 202 0 (va_up r_1 0 r_2) (by exact mu_le h200) hpx0 hmk0 hres _ _ hP hD hS ls (lv_sub hl [1, 0] rfl)
