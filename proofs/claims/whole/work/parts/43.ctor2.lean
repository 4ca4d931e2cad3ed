set_option maxHeartbeats 8000000 in
set_option maxRecDepth 100000 in
theorem c_X4_init (l : Launch) (D : va_G) (cI cC cZ cS : ClassId) (h sz : Nat) : Met l yX4_init wsX4_init { frames := 1, cells := 1, slots := 200, locals := 12 } (PcN D cI cC cZ cS sz [.ref h] [(h, .inr (4, [.null, .int 0, .int 0, .int 0, .int 0]))]) (QcN D (va_A [(h, .inr (4, [.null, .int 0, .int 0, .int 0, .int 0]))] sz) (fun w => ∃ lA, w = wT cI cC cZ cS h lA (fun _ => 0) (fun _ => 0))) 1 200 (va_A [(h, .inr (4, [.null, .int 0, .int 0, .int 0, .int 0]))] sz) := by
  refine Met.ofW (cc := cX4_init) (maxL := 1) (ret := none) (by decide) rfl ?_
  intro p e s m args below meth c s₁ B hml hv
  obtain ⟨rfl, hsz, hP, hD0, hE⟩ := hv
  have hK := hE.1
  have hx := B.exec
  have hb := B.bytes
  have hr := B.returns
  have hts := atoms_spec (ws := wsX4_init) B.pre
  have hown : s.vm.findClass RX4 = some m.cls := findClass_of_methodNamed B.named
  have hlocks := B.notSynchronized
  have hin : meth.name = "<init>" := (name_of_methodNamed B.named B.method).1
  subst hsz
  have hD := hD0.self (sz := s.heap.size)
  generalize hAe : va_A [(h, .inr (4, [.null, .int 0, .int 0, .int 0, .int 0]))] s.heap.size = A at hD ⊢
  have hA : ∀ q : Nat, s.heap.size ≤ q → A q := fun q h => by rw [← hAe]; exact Or.inr h
  have hS : va_S A s.heap s.heap [] := va_S.rf
  have hP : va_P D vwCl [(h, .inr (4, [.null, .int 0, .int 0, .int 0, .int 0]))] s.heap := hP
  have hinX4 : ∀ w ∈ wsX40, w ∈ wsX4_init := by decide +kernel
  have hl := lv_entry ([.ref h]) (n := 1) (Nat.le_of_ble_eq_true rfl)
  rw [lg_entry_eq]
  generalize (lg_sl ([.ref h]) ++ List.replicate (1 - (lg_sl ([.ref h])).length) Slot.unset).toArray = ls at hl ⊢
  have hl : lv_has ls 1 [(0, .ref h)] := hl
  refine lv_aload_n hx hb dX4_init_0 rfl (lv_at hl 0 rfl) ?_
  refine W.objInit hx hb hown (hts (.methodLink RX4 3 objectInit) (by decide +kernel)) (hts (.instanceMethod objectInit) (by decide +kernel)) (hts (.code objectInit ⟨#[0xb1]⟩ 1 none) (by decide +kernel)) rfl (by rw [hml]; exact hl.1) rfl dX4_init_1 (Nat.le_of_ble_eq_true rfl) (Nat.le_of_ble_eq_true rfl) ?_
  refine W.eq (g2 := F0 m 4 ls []) rfl ?_
  refine lv_aload_n hx hb dX4_init_4 rfl (lv_at hl 0 rfl) ?_
  refine lv_sipush (v := 200) hx hb dX4_init_5 (by decide) ?_
  refine m_newc hx hb (hts (.arrayClass .char) (by decide +kernel)) hK 1 rfl hP hD hS hA 200 rfl (by omega) (Nat.le_of_ble_eq_true rfl) (Nat.le_of_ble_eq_true rfl) dX4_init_8 (fun q8_ H hP hD hS => ?_)
  have hP : va_P D vwCl ([(h, .inr (4, [.null, .int 0, .int 0, .int 0, .int 0])), (q8_, .inl (cC, 200, .inl (fun _ => 0)))]) H := hP
  have hD : va_D A ([(h, .inr (4, [.null, .int 0, .int 0, .int 0, .int 0])), (q8_, .inl (cC, 200, .inl (fun _ => 0)))]) := hD
  refine va_putF (D := D) (ci := 4) (v := .ref q8_) (ty := .array .char) (C := RX4) (T := TX4) (N := 5) hx hb hts hinX4 tyX4 tyX4_ok nmX4 hown hK hP hD hS 0 rfl rfl 0 (by decide) (hts (.fieldLink RX4 9 "FirstOut$Text" "letters" "[C") (by decide +kernel)) (fun _ h9 => h9) rfl hin rfl (by decide +kernel) rfl rfl (Nat.le_of_ble_eq_true rfl) dX4_init_10 (fun H locs hP hD hS => ?_)
  have hP : va_P D vwCl ([(h, .inr (4, [.ref q8_, .int 0, .int 0, .int 0, .int 0])), (q8_, .inl (cC, 200, .inl (fun _ => 0)))]) H := hP
  have hD : va_D A ([(h, .inr (4, [.ref q8_, .int 0, .int 0, .int 0, .int 0])), (q8_, .inl (cC, 200, .inl (fun _ => 0)))]) := hD
  exact W.vret hx hb hr (fun t ht hW => ⟨rfl, ⟨_, ⟨_, rfl⟩, by rw [ht]; exact hP, hD⟩, hS.F ht⟩) hS.2.2 dX4_init_13
set_option maxHeartbeats 8000000 in
set_option maxRecDepth 100000 in
theorem c_X2_init (l : Launch) (D : va_G) (cI cC cZ cS : ClassId) (h sz : Nat) : Met l yX2_init wsX2_init { frames := 1, cells := 2, slots := 12, locals := 12 } (PcN D cI cC cZ cS sz [.ref h] [(h, .inr (2, [.null, .null, .int 0]))]) (QcN D (va_A [(h, .inr (2, [.null, .null, .int 0]))] sz) (fun w => ∃ wA gA, w = wN cI cC cZ cS h wA gA (fun _ => 0) (fun _ => 0) (fun _ => 0))) 2 12 (va_A [(h, .inr (2, [.null, .null, .int 0]))] sz) := by
  refine Met.ofW (cc := cX2_init) (maxL := 1) (ret := none) (by decide) rfl ?_
  intro p e s m args below meth c s₁ B hml hv
  obtain ⟨rfl, hsz, hP, hD0, hE⟩ := hv
  have hK := hE.1
  have hx := B.exec
  have hb := B.bytes
  have hr := B.returns
  have hts := atoms_spec (ws := wsX2_init) B.pre
  have hown : s.vm.findClass RX2 = some m.cls := findClass_of_methodNamed B.named
  have hlocks := B.notSynchronized
  have hin : meth.name = "<init>" := (name_of_methodNamed B.named B.method).1
  subst hsz
  have hD := hD0.self (sz := s.heap.size)
  generalize hAe : va_A [(h, .inr (2, [.null, .null, .int 0]))] s.heap.size = A at hD ⊢
  have hA : ∀ q : Nat, s.heap.size ≤ q → A q := fun q h => by rw [← hAe]; exact Or.inr h
  have hS : va_S A s.heap s.heap [] := va_S.rf
  have hP : va_P D vwCl [(h, .inr (2, [.null, .null, .int 0]))] s.heap := hP
  have hinX2 : ∀ w ∈ wsX20, w ∈ wsX2_init := by decide +kernel
  have hl := lv_entry ([.ref h]) (n := 1) (Nat.le_of_ble_eq_true rfl)
  rw [lg_entry_eq]
  generalize (lg_sl ([.ref h]) ++ List.replicate (1 - (lg_sl ([.ref h])).length) Slot.unset).toArray = ls at hl ⊢
  have hl : lv_has ls 1 [(0, .ref h)] := hl
  refine lv_aload_n hx hb dX2_init_0 rfl (lv_at hl 0 rfl) ?_
  refine W.objInit hx hb hown (hts (.methodLink RX2 3 objectInit) (by decide +kernel)) (hts (.instanceMethod objectInit) (by decide +kernel)) (hts (.code objectInit ⟨#[0xb1]⟩ 1 none) (by decide +kernel)) rfl (by rw [hml]; exact hl.1) rfl dX2_init_1 (Nat.le_of_ble_eq_true rfl) (Nat.le_of_ble_eq_true rfl) ?_
  refine W.eq (g2 := F0 m 4 ls []) rfl ?_
  refine lv_aload_n hx hb dX2_init_4 rfl (lv_at hl 0 rfl) ?_
  refine lv_bipush (v := 6) hx hb dX2_init_5 (by decide) ?_
  refine m_newi hx hb (hts (.arrayClass .int) (by decide +kernel)) hK 0 rfl hP hD hS hA 6 rfl (by omega) (Nat.le_of_ble_eq_true rfl) (Nat.le_of_ble_eq_true rfl) dX2_init_7 (fun q7_ H hP hD hS => ?_)
  have hP : va_P D vwCl ([(h, .inr (2, [.null, .null, .int 0])), (q7_, .inl (cI, 6, .inl (fun _ => 0)))]) H := hP
  have hD : va_D A ([(h, .inr (2, [.null, .null, .int 0])), (q7_, .inl (cI, 6, .inl (fun _ => 0)))]) := hD
  refine va_putF (D := D) (ci := 2) (v := .ref q7_) (ty := .array .int) (C := RX2) (T := TX2) (N := 3) hx hb hts hinX2 tyX2 tyX2_ok nmX2 hown hK hP hD hS 0 rfl rfl 0 (by decide) (hts (.fieldLink RX2 9 "FirstOut$Seen" "who" "[I") (by decide +kernel)) (fun _ h9 => h9) rfl hin rfl (by decide +kernel) rfl rfl (Nat.le_of_ble_eq_true rfl) dX2_init_9 (fun H locs hP hD hS => ?_)
  have hP : va_P D vwCl ([(h, .inr (2, [.ref q7_, .null, .int 0])), (q7_, .inl (cI, 6, .inl (fun _ => 0)))]) H := hP
  have hD : va_D A ([(h, .inr (2, [.ref q7_, .null, .int 0])), (q7_, .inl (cI, 6, .inl (fun _ => 0)))]) := hD
  refine lv_aload_n hx hb dX2_init_12 rfl (lv_at hl 0 rfl) ?_
  refine lv_bipush (v := 6) hx hb dX2_init_13 (by decide) ?_
  refine m_newi hx hb (hts (.arrayClass .int) (by decide +kernel)) hK 0 rfl hP hD hS hA 6 rfl (by omega) (Nat.le_of_ble_eq_true rfl) (Nat.le_of_ble_eq_true rfl) dX2_init_15 (fun q15_ H hP hD hS => ?_)
  have hP : va_P D vwCl ([(h, .inr (2, [.ref q7_, .null, .int 0])), (q7_, .inl (cI, 6, .inl (fun _ => 0))), (q15_, .inl (cI, 6, .inl (fun _ => 0)))]) H := hP
  have hD : va_D A ([(h, .inr (2, [.ref q7_, .null, .int 0])), (q7_, .inl (cI, 6, .inl (fun _ => 0))), (q15_, .inl (cI, 6, .inl (fun _ => 0)))]) := hD
  refine va_putF (D := D) (ci := 2) (v := .ref q15_) (ty := .array .int) (C := RX2) (T := TX2) (N := 3) hx hb hts hinX2 tyX2 tyX2_ok nmX2 hown hK hP hD hS 0 rfl rfl 1 (by decide) (hts (.fieldLink RX2 15 "FirstOut$Seen" "wasGiven" "[I") (by decide +kernel)) (fun _ h9 => h9) rfl hin rfl (by decide +kernel) rfl rfl (Nat.le_of_ble_eq_true rfl) dX2_init_17 (fun H locs hP hD hS => ?_)
  have hP : va_P D vwCl ([(h, .inr (2, [.ref q7_, .ref q15_, .int 0])), (q7_, .inl (cI, 6, .inl (fun _ => 0))), (q15_, .inl (cI, 6, .inl (fun _ => 0)))]) H := hP
  have hD : va_D A ([(h, .inr (2, [.ref q7_, .ref q15_, .int 0])), (q7_, .inl (cI, 6, .inl (fun _ => 0))), (q15_, .inl (cI, 6, .inl (fun _ => 0)))]) := hD
  exact W.vret hx hb hr (fun t ht hW => ⟨rfl, ⟨_, ⟨_, _, rfl⟩, by rw [ht]; exact hP, hD⟩, hS.F ht⟩) hS.2.2 dX2_init_20
