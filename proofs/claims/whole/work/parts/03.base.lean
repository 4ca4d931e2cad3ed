/-! My own words for contracts: the environment EN, the starts PcE, the ends QcR (reads), QcM (writes to its own cells), and the rows that call such contracts. -/
def EN (D : va_G) (cI cC cZ cS : ClassId) (U : State) : Prop :=
  va_K D vwCl [(cI, .int), (cC, .char), (cZ, .boolean), (cS, .object "FirstOut$Standing")] U ∧ va_Nw (.methodLinkNest RX0 68 yX5_bitOf "FirstOut") U ∧ va_Nw (.methodLinkNest RX2 22 yX5_bitOf "FirstOut") U ∧ va_Nw (.methodLinkNest RX1 17 yX3_init "FirstOut") U ∧ va_Nw (.methodLinkNest RX5 21 yX4_init "FirstOut") U ∧ va_Nw (.methodLinkNest RX5 28 yX3_init "FirstOut") U ∧ va_Nw (.methodLinkNest RX5 53 yX2_init "FirstOut") U ∧ va_AO "FirstOut$Standing" U
theorem EN.warm {D : va_G} {cI cC cZ cS : ClassId} {s U : State} (hW : s.WarmedH U.vm) (h : EN D cI cC cZ cS s) : EN D cI cC cZ cS U := by
  obtain ⟨h1, h2, h3, h4, h5, h6, h7, h8⟩ := h
  exact ⟨va_K.moved hW.alike h1, va_Nw.warmM hW h2, va_Nw.warmM hW h3, va_Nw.warmM hW h4, va_Nw.warmM hW h5, va_Nw.warmM hW h6, va_Nw.warmM hW h7, va_AO.moved hW.alike h8⟩
theorem EN.call {D : va_G} {cI cC cZ cS : ClassId} {U : State} {g : JFrame} {mk : MethodId} {a : Array Value} (h : EN D cI cC cZ cS U) : EN D cI cC cZ cS (U.calling g mk a) := by
  obtain ⟨h1, h2, h3, h4, h5, h6, h7, h8⟩ := h
  exact ⟨va_K.moved (u := U) (U := U.calling g mk a) (Vm.Alike.refl U.vm) h1, va_Nw.same rfl (u := U) (U := U.calling g mk a) rfl h2, va_Nw.same rfl (u := U) (U := U.calling g mk a) rfl h3, va_Nw.same rfl (u := U) (U := U.calling g mk a) rfl h4, va_Nw.same rfl (u := U) (U := U.calling g mk a) rfl h5, va_Nw.same rfl (u := U) (U := U.calling g mk a) rfl h6, va_Nw.same rfl (u := U) (U := U.calling g mk a) rfl h7, va_AO.moved (u := U) (U := U.calling g mk a) (Vm.Alike.refl U.vm) h8⟩
def PcE (D : va_G) (cI cC cZ cS : ClassId) (av : List Value) (ws : va_W) : Array Value → State → Prop := va_Pc av (fun U => va_P D vwCl ws U.heap ∧ va_D (fun _ => True) ws ∧ EN D cI cC cZ cS U)
theorem PcE.blind {D : va_G} {cI cC cZ cS : ClassId} {av : List Value} {ws : va_W} : FrameBlind (PcE D cI cC cZ cS av ws) := by
  intro a U g mk h
  obtain ⟨h1, h2, h3, h4⟩ := h
  exact ⟨h1, h2, h3, h4.call⟩
theorem preS_of {D : va_G} {cI cC cZ cS : ClassId} {av : List Value} {ws : va_W} {A : Nat → Prop} {s : State} {H : Heap} (hP : va_P D vwCl ws H) (hD : va_D A ws) (hE : EN D cI cC cZ cS s) : PreS s H (PcE D cI cC cZ cS av ws) av :=
  ⟨PcE.blind, fun U hU hW => ⟨rfl, by rw [hU]; exact hP, hD.weaken (fun _ _ _ _ => trivial), hE.warm hW⟩⟩
theorem preV_of {D : va_G} {cI cC cZ cS : ClassId} {As : List Value} {b : Nat} {C : String} {ws : va_W} {A : Nat → Prop} {s : State} {H : Heap} (hP : va_P D vwCl ws H) (hD : va_D A ws) (hE : EN D cI cC cZ cS s) (hr : ∃ cellB : Cell, H[b]? = some cellB ∧ cellB.vm.isStatics = false ∧ s.vm.findClass C = some cellB.cls) : PreV s H C b (PcE D cI cC cZ cS (.ref b :: As) ws) As :=
  ⟨PcE.blind, hr, fun U hU hW => ⟨rfl, by rw [hU]; exact hP, hD.weaken (fun _ _ _ _ => trivial), hE.warm hW⟩⟩
/-- a method that only reads -/
def QcR (r : Option Value) : Array Value → State → Outcome → State → Prop := fun _ st o t => o = .returned r ∧ t.heap = st.heap
def inW (ws : va_W) : Nat → Prop := fun q => ∃ (k : Nat) (e : va_E), ws[k]? = some (q, e)
/-- a method that writes its own cells ws, which become ws' -/
def QcM (r : Option Value) (D : va_G) (ws ws' : va_W) : Array Value → State → Outcome → State → Prop := fun _ st o t => o = .returned r ∧ va_P D vwCl ws' t.heap ∧ va_F (inW ws) st t
def patch : va_W → List Nat → va_W → va_W
  | W0, i :: is, w :: ws => patch (W0.set i w) is ws
  | W0, _, _ => W0
theorem inW_self {ws : va_W} {A : Nat → Prop} (h : va_D A ws) : va_D (inW ws) ws := ⟨h.1, fun k q hk => ⟨k, q.2, hk⟩⟩
theorem patch_at : ∀ (is : List Nat) (ws W0 : va_W) (k : Nat) (q : Nat × va_E), (patch W0 is ws)[k]? = some q → (∃ j : Nat, ws[j]? = some q ∧ is[j]? = some k) ∨ (W0[k]? = some q ∧ ∀ j i : Nat, is[j]? = some i → j < ws.length → i ≠ k) := by
  intro is
  induction is with
  | nil =>
    intro ws W0 k q h
    refine Or.inr ⟨?_, fun j i hj => by simp at hj⟩
    cases ws <;> exact h
  | cons i is ih =>
    intro ws W0 k q h
    cases ws with
    | nil => exact Or.inr ⟨h, fun j i' _ hj => by simp at hj⟩
    | cons w ws =>
      rcases ih ws (W0.set i w) k q h with ⟨j, h1, h2⟩ | ⟨h1, h2⟩
      · exact Or.inl ⟨j + 1, h1, h2⟩
      · by_cases e : i = k
        · subst e
          have h3 : w = q := by
            rw [List.getElem?_set] at h1
            by_cases hl : i < W0.length
            · simp [hl] at h1; exact h1
            · simp [hl] at h1
          exact Or.inl ⟨0, by rw [h3]; rfl, rfl⟩
        · refine Or.inr ⟨by rw [List.getElem?_set_ne e] at h1; exact h1, ?_⟩
          intro j i' hj hl
          cases j with
          | zero => simp at hj; subst hj; exact e
          | succ j => exact h2 j i' hj (by simpa using hl)
theorem patch_fst : ∀ (is : List Nat) (ws W0 : va_W), is.map (fun i => (W0[i]?).map Prod.fst) = ws.map (fun w => some w.1) → (patch W0 is ws).map Prod.fst = W0.map Prod.fst := by
  intro is
  induction is with
  | nil => intro ws W0 _; cases ws <;> rfl
  | cons i is ih =>
    intro ws W0 h
    cases ws with
    | nil => rfl
    | cons w ws =>
      have h0 : (W0[i]?).map Prod.fst = some w.1 ∧ is.map (fun i => (W0[i]?).map Prod.fst) = ws.map (fun w => some w.1) := by
        simp only [List.map_cons, List.cons.injEq] at h
        exact h
      have h5 : (W0.set i w).map Prod.fst = W0.map Prod.fst := by
        apply List.ext_getElem?
        intro j
        rw [List.getElem?_map, List.getElem?_map, List.getElem?_set]
        by_cases e : i = j
        · subst e
          by_cases hl : i < W0.length
          · simp only [hl, if_true]; rw [h0.1]; rfl
          · have hn : W0[i]? = none := by simpa using hl
            rw [hn] at h0
            exact absurd h0.1 (by simp)
        · simp [e]
      have h6 : ∀ j : Nat, ((W0.set i w)[j]?).map Prod.fst = (W0[j]?).map Prod.fst := by
        intro j
        rw [← List.getElem?_map, ← List.getElem?_map, h5]
      show (patch (W0.set i w) is ws).map Prod.fst = _
      rw [ih ws (W0.set i w) (by rw [← h0.2]; exact List.map_congr_left (fun j _ => h6 j)), h5]
theorem D_of_fst {A : Nat → Prop} {W0 W1 : va_W} (h : W1.map Prod.fst = W0.map Prod.fst) (hD : va_D A W0) : va_D A W1 := by
  have at1 : ∀ (k : Nat) (q : Nat × va_E), W1[k]? = some q → ∃ e, W0[k]? = some (q.1, e) := by
    intro k q hq
    have h1 := congrArg (fun l => l[k]?) h
    simp only [List.getElem?_map, hq, Option.map_some] at h1
    cases h2 : W0[k]? with
    | none => rw [h2] at h1; simp at h1
    | some z => rw [h2] at h1; simp at h1; exact ⟨z.2, by rw [h1]⟩
  refine ⟨fun i j x y hx hy e => ?_, fun k q hq => ?_⟩
  · obtain ⟨e1, h1⟩ := at1 i x hx
    obtain ⟨e2, h2⟩ := at1 j y hy
    exact hD.1 i j _ _ h1 h2 e
  · obtain ⟨e1, h1⟩ := at1 k q hq
    exact hD.2 k (q.1, e1) h1
theorem patch_P {A : Nat → Prop} {D : va_G} {ws ws' W0 : va_W} {H H1 : Heap} (hP : va_P D vwCl W0 H) (hD : va_D A W0) (is : List Nat) (hC : is.map (fun i => W0[i]?) = ws.map some) (hA : ws'.map Prod.fst = ws.map Prod.fst)
    (hP1 : va_P D vwCl ws' H1) (hk : ∀ q : Nat, q < H.size → ¬ inW ws q → H1[q]? = H[q]?) : va_P D vwCl (patch W0 is ws') H1 ∧ va_D A (patch W0 is ws') := by
  have hlen : ws'.length = ws.length := by have := congrArg List.length hA; simpa using this
  have hlen2 : is.length = ws.length := by have := congrArg List.length hC; simpa using this
  have atw : ∀ (j : Nat) (q : Nat × va_E), ws[j]? = some q → ∃ i, is[j]? = some i ∧ W0[i]? = some q := by
    intro j q hq
    have h1 : (is.map (fun i => W0[i]?))[j]? = some (some q) := by rw [hC, List.getElem?_map, hq]; rfl
    rw [List.getElem?_map] at h1
    cases hi : is[j]? with
    | none => rw [hi] at h1; cases h1
    | some i => rw [hi] at h1; exact ⟨i, rfl, Option.some.inj h1⟩
  refine ⟨fun k q hq => ?_, D_of_fst (patch_fst is ws' W0 ?_) hD⟩
  · rcases patch_at is ws' W0 k q hq with ⟨j, h1, h2⟩ | ⟨h1, h2⟩
    · exact hP1 j q h1
    · have hl := (hP k q h1).lt
      refine (hP k q h1).kept (hk q.1 hl fun hin => ?_)
      obtain ⟨j, e, hj⟩ := hin
      obtain ⟨i, h3, h4⟩ := atw j _ hj
      have hjl : j < ws.length := by
        rcases Nat.lt_or_ge j ws.length with q1 | q1
        · exact q1
        · have : ws[j]? = none := by simpa using q1
          rw [this] at hj; cases hj
      exact h2 j i h3 (by rw [hlen]; exact hjl) (hD.1 i k _ _ h4 h1 rfl)
  · have h1 : is.map (fun i => (W0[i]?).map Prod.fst) = (is.map (fun i => W0[i]?)).map (fun z => z.map Prod.fst) := by rw [List.map_map]; rfl
    rw [h1, hC, List.map_map]
    have h2 : ws'.map (fun w => some w.1) = (ws'.map Prod.fst).map some := by rw [List.map_map]; rfl
    rw [h2, hA, List.map_map]
    rfl
theorem free_A {A : Nat → Prop} {ws W0 : va_W} (hD : va_D A W0) (is : List Nat) (hC : is.map (fun i => W0[i]?) = ws.map some) : ∀ q, inW ws q → A q := by
  intro q ⟨k, e, h⟩
  have h1 : (is.map (fun i => W0[i]?))[k]? = some (some (q, e)) := by rw [hC, List.getElem?_map, h]; rfl
  rw [List.getElem?_map] at h1
  cases hi : is[k]? with
  | none => rw [hi] at h1; cases h1
  | some i => rw [hi] at h1; exact hD.2 i (q, e) (Option.some.inj h1)
section MYCALL
variable {p : Program} {l : Launch} {e : Env} {R : Room} {s : State} {m : MethodId} {args : Array Value} {below : List Frame} {meth : Method} {c : Code} {H : Heap} {locs : List Loc} {cells slots : Nat} {Q : State → Prop} {pc : Nat} {ls : Array Slot} {st0 rest : List Value} {a : Array Value}
theorem cr_of {mc ms : Nat} {g : JFrame} {Qa : State → Outcome → State → Prop} {free : Addr → Prop} (hr : va_Run p l e R s m args below meth c H locs cells slots mc ms g rest Qa free) : CallRun p l e R s m args below meth c H locs cells slots mc ms g rest Qa free := by
  intro T hT X
  obtain ⟨v, st₀, t, T', L, h0, X', hL, e1, e2, hq, st⟩ := hr T hT X
  exact ⟨v, st₀, t, T', L, h0, X', hL, e1, hq, st⟩
theorem m_callR {r : Option Value} (hr : CallRun p l e R s m args below meth c H locs cells slots 0 0 (F0 m pc ls st0) rest (QcR r a) (fun _ => False))
    (kk : W p l e R s m args below meth c H locs cells slots Q (F0 m (pc + 3) ls (r.toList ++ rest))) : W p l e R s m args below meth c H locs cells slots Q (F0 m pc ls st0) := by
  intro T hT X
  obtain ⟨v, st₀, t, T', L, h0, X', hL, e1, ⟨hv, hh⟩, st⟩ := hr T hT X
  cases hv
  obtain ⟨t2, a1, b1⟩ := kk T' (by rw [e1, hh, h0]) (Stand.forget X' (fun q h => (hL q h).elim))
  exact ⟨t2, st t2 a1, b1⟩
theorem m_callM {r : Option Value} {D : va_G} {ws ws' W0 : va_W} {A : Nat → Prop} {H0 : Heap} (hr : CallRun p l e R s m args below meth c H locs cells slots 0 0 (F0 m pc ls st0) rest (QcM r D ws ws' a) (inW ws))
    (hP : va_P D vwCl W0 H) (hD : va_D A W0) (hS : va_S A H0 H locs) (is : List Nat) (hC : is.map (fun i => W0[i]?) = ws.map some) (hA : ws'.map Prod.fst = ws.map Prod.fst)
    (kk : ∀ (H1 : Heap) (locs1 : List Loc), va_P D vwCl (patch W0 is ws') H1 → va_D A (patch W0 is ws') → va_S A H0 H1 locs1 → W p l e R s m args below meth c H1 locs1 cells slots Q (F0 m (pc + 3) ls (r.toList ++ rest))) : W p l e R s m args below meth c H locs cells slots Q (F0 m pc ls st0) := by
  intro T hT X
  obtain ⟨v, st₀, t, T', L, h0, X', hL, e1, ⟨hv, hP1, hz, hk⟩, st⟩ := hr T hT X
  cases hv
  subst h0
  have hF := free_A hD is hC
  obtain ⟨hP2, hD2⟩ := patch_P hP hD is hC hA hP1 hk
  have hS2 : va_S A H0 t.heap (locs ++ L) := by
    refine ⟨Nat.le_trans hS.1 hz, fun q h1 h2 => ?_, fun q hq => ?_⟩
    · rw [hk q (Nat.lt_of_lt_of_le h1 hS.1) (fun h => h2 (hF q h))]
      exact hS.2.1 q h1 h2
    · rcases List.mem_append.mp hq with h | h
      · exact hS.2.2 q h
      · exact hF _ (hL q h)
  obtain ⟨t2, a1, b1⟩ := kk t.heap (locs ++ L) hP2 hD2 hS2 T' e1 X'
  exact ⟨t2, st t2 a1, b1⟩
/-- the top of the stack by another name -/
theorem lv_to {x y : Int32} (h : x = y) (k : W p l e R s m args below meth c H locs cells slots Q (F0 m pc ls (.int y :: rest))) : W p l e R s m args below meth c H locs cells slots Q (F0 m pc ls (.int x :: rest)) := by
  subst h; exact k
theorem lv_toL {x y : Int64} (h : x = y) (k : W p l e R s m args below meth c H locs cells slots Q (F0 m pc ls (.long y :: rest))) : W p l e R s m args below meth c H locs cells slots Q (F0 m pc ls (.long x :: rest)) := by
  subst h; exact k
end MYCALL
theorem lv_cg {ls : Array Slot} {nL : Nat} {l l' : List (Nat × Value)} (h : lv_has ls nL l) (e : l = l') : lv_has ls nL l' := e ▸ h
theorem lc_ {α : Type} {a b : α} {l l' : List α} (h : a = b) (h2 : l = l') : a :: l = b :: l' := by rw [h, h2]
theorem vi_ {i : Nat} {x y : Int32} (h : x = y) : ((i, Value.int x) : Nat × Value) = (i, Value.int y) := by rw [h]
theorem vl_ {i : Nat} {x y : Int64} (h : x = y) : ((i, Value.long x) : Nat × Value) = (i, Value.long y) := by rw [h]
section MYARR
variable {p : Program} {l : Launch} {e : Env} {R : Room} {s : State} {m : MethodId} {args : Array Value} {below : List Frame} {meth : Method} {c : Code} {H H0 : Heap} {locs : List Loc} {cells slots : Nat} {Q : State → Prop} {pc : Nat} {ls : Array Slot} {rest : List Value} {cc : ByteArray} {D : va_G} {cl : List vw_C} {tys : List (ClassId × FieldType)} {ws : va_W} {A : Nat → Prop} {a : Nat}
theorem m_iald (hexec : p.tables.exec = Jvm.exec) (hb : c.code = cc) (hK : va_K D cl tys s) (hP : va_P D cl ws H) (q0 t0 : Nat) {cA : ClassId} {n : Nat} {f : Nat → Int32} (ha : ws[q0]? = some (a, .inl (cA, n, .inl f))) (ht : tys[t0]? = some (cA, .int)) {i : Int32} (j : Nat) (hi : i = nI j) (hj : j < n) (hn : n < 2 ^ 31) (hdg : decode cc pc = .ok (.iaload, 1))
    (kk : W p l e R s m args below meth c H locs cells slots Q (F0 m (pc + 1) ls (.int (f j) :: rest))) : W p l e R s m args below meth c H locs cells slots Q (F0 m pc ls (.int i :: .ref a :: rest)) := by
  subst hi
  refine va_iald hexec hb hK hP q0 t0 ha ht (vp_in_nI hj hn) hdg ?_
  rw [nI_clamp (Nat.lt_trans hj hn)]
  exact kk
theorem m_cald (hexec : p.tables.exec = Jvm.exec) (hb : c.code = cc) (hK : va_K D cl tys s) (hP : va_P D cl ws H) (q0 t0 : Nat) {cA : ClassId} {n : Nat} {f : Nat → Int32} (ha : ws[q0]? = some (a, .inl (cA, n, .inl f))) (ht : tys[t0]? = some (cA, .char)) {i : Int32} (j : Nat) (hi : i = nI j) (hj : j < n) (hn : n < 2 ^ 31) (hdg : decode cc pc = .ok (.caload, 1))
    (kk : W p l e R s m args below meth c H locs cells slots Q (F0 m (pc + 1) ls (.int (f j) :: rest))) : W p l e R s m args below meth c H locs cells slots Q (F0 m pc ls (.int i :: .ref a :: rest)) := by
  subst hi
  refine va_cald hexec hb hK hP q0 t0 ha ht (vp_in_nI hj hn) hdg ?_
  rw [nI_clamp (Nat.lt_trans hj hn)]
  exact kk
theorem m_zald (hexec : p.tables.exec = Jvm.exec) (hb : c.code = cc) (hK : va_K D cl tys s) (hP : va_P D cl ws H) (q0 t0 : Nat) {cA : ClassId} {n : Nat} {f : Nat → Int32} (ha : ws[q0]? = some (a, .inl (cA, n, .inl f))) (ht : tys[t0]? = some (cA, .boolean)) {i : Int32} (j : Nat) (hi : i = nI j) (hj : j < n) (hn : n < 2 ^ 31) (hdg : decode cc pc = .ok (.baload, 1))
    (kk : W p l e R s m args below meth c H locs cells slots Q (F0 m (pc + 1) ls (.int (f j) :: rest))) : W p l e R s m args below meth c H locs cells slots Q (F0 m pc ls (.int i :: .ref a :: rest)) := by
  subst hi
  refine va_zald hexec hb hK hP q0 t0 ha ht (vp_in_nI hj hn) hdg ?_
  rw [nI_clamp (Nat.lt_trans hj hn)]
  exact kk
theorem m_aald (hexec : p.tables.exec = Jvm.exec) (hb : c.code = cc) (hK : va_K D cl tys s) (hP : va_P D cl ws H) (q0 t0 : Nat) {cA : ClassId} {C : String} {n : Nat} {f : Nat → Option Nat} (ha : ws[q0]? = some (a, .inl (cA, n, .inr (.inr (.inr (.inr f)))))) (ht : tys[t0]? = some (cA, .object C)) {i : Int32} (j : Nat) (hi : i = nI j) (hj : j < n) (hn : n < 2 ^ 31) {r : Nat} (hf : f j = some r) (hdg : decode cc pc = .ok (.aaload, 1))
    (kk : W p l e R s m args below meth c H locs cells slots Q (F0 m (pc + 1) ls (.ref r :: rest))) : W p l e R s m args below meth c H locs cells slots Q (F0 m pc ls (.int i :: .ref a :: rest)) := by
  subst hi
  refine va_aldq hexec hb hK hP q0 t0 ha ht (vp_in_nI hj hn) hdg ?_
  rw [nI_clamp (Nat.lt_trans hj hn), hf]
  exact kk
theorem m_iast (hexec : p.tables.exec = Jvm.exec) (hb : c.code = cc) (hK : va_K D cl tys s) (hP : va_P D cl ws H) (hD : va_D A ws) (hS : va_S A H0 H locs) (q0 t0 : Nat) {cA : ClassId} {n : Nat} {f : Nat → Int32} (ha : ws[q0]? = some (a, .inl (cA, n, .inl f))) (ht : tys[t0]? = some (cA, .int)) {i : Int32} {x : Int32} (j : Nat) (hi : i = nI j) (hj : j < n) (hn : n < 2 ^ 31) (hdg : decode cc pc = .ok (.iastore, 1))
    (kk : ∀ (H1 : Heap) (locs1 : List Loc), va_P D cl (ws.set q0 (a, .inl (cA, n, .inl (upd f j x)))) H1 → va_D A (ws.set q0 (a, .inl (cA, n, .inl (upd f j x)))) → va_S A H0 H1 locs1 → W p l e R s m args below meth c H1 locs1 cells slots Q (F0 m (pc + 1) ls rest)) : W p l e R s m args below meth c H locs cells slots Q (F0 m pc ls (.int x :: .int i :: .ref a :: rest)) := by
  subst hi
  refine va_iast hexec hb hK hP hD hS q0 t0 ha ht (vp_in_nI hj hn) hdg ?_
  rw [nI_clamp (Nat.lt_trans hj hn)]
  exact kk
theorem m_cast (hexec : p.tables.exec = Jvm.exec) (hb : c.code = cc) (hK : va_K D cl tys s) (hP : va_P D cl ws H) (hD : va_D A ws) (hS : va_S A H0 H locs) (q0 t0 : Nat) {cA : ClassId} {n : Nat} {f : Nat → Int32} (ha : ws[q0]? = some (a, .inl (cA, n, .inl f))) (ht : tys[t0]? = some (cA, .char)) {i : Int32} {x y : Int32} (j : Nat) (hi : i = nI j) (hj : j < n) (hn : n < 2 ^ 31) (hy : vp_nar .char x = y) (hdg : decode cc pc = .ok (.castore, 1))
    (kk : ∀ (H1 : Heap) (locs1 : List Loc), va_P D cl (ws.set q0 (a, .inl (cA, n, .inl (upd f j y)))) H1 → va_D A (ws.set q0 (a, .inl (cA, n, .inl (upd f j y)))) → va_S A H0 H1 locs1 → W p l e R s m args below meth c H1 locs1 cells slots Q (F0 m (pc + 1) ls rest)) : W p l e R s m args below meth c H locs cells slots Q (F0 m pc ls (.int x :: .int i :: .ref a :: rest)) := by
  subst hi; subst hy
  refine va_cast hexec hb hK hP hD hS q0 t0 ha ht (vp_in_nI hj hn) hdg ?_
  rw [nI_clamp (Nat.lt_trans hj hn)]
  exact kk
theorem m_zast (hexec : p.tables.exec = Jvm.exec) (hb : c.code = cc) (hK : va_K D cl tys s) (hP : va_P D cl ws H) (hD : va_D A ws) (hS : va_S A H0 H locs) (q0 t0 : Nat) {cA : ClassId} {n : Nat} {f : Nat → Int32} (ha : ws[q0]? = some (a, .inl (cA, n, .inl f))) (ht : tys[t0]? = some (cA, .boolean)) {i : Int32} {x y : Int32} (j : Nat) (hi : i = nI j) (hj : j < n) (hn : n < 2 ^ 31) (hy : vp_nar .boolean x = y) (hdg : decode cc pc = .ok (.bastore, 1))
    (kk : ∀ (H1 : Heap) (locs1 : List Loc), va_P D cl (ws.set q0 (a, .inl (cA, n, .inl (upd f j y)))) H1 → va_D A (ws.set q0 (a, .inl (cA, n, .inl (upd f j y)))) → va_S A H0 H1 locs1 → W p l e R s m args below meth c H1 locs1 cells slots Q (F0 m (pc + 1) ls rest)) : W p l e R s m args below meth c H locs cells slots Q (F0 m pc ls (.int x :: .int i :: .ref a :: rest)) := by
  subst hi; subst hy
  refine va_zast hexec hb hK hP hD hS q0 t0 ha ht (vp_in_nI hj hn) hdg ?_
  rw [nI_clamp (Nat.lt_trans hj hn)]
  exact kk
end MYARR
theorem nlt_of {a b : Nat} (c : ¬ nI b ≤ nI a) (ha : a < 2 ^ 31) (hb : b < 2 ^ 31) : a < b := by
  rw [nI_leI hb ha] at c; omega
theorem le_of {a b : Nat} (c : nI b ≤ nI a) (ha : a < 2 ^ 31) (hb : b < 2 ^ 31) : b ≤ a := (nI_leI hb ha).mp c
theorem ret_i {x y : Int32} (h : x = y) : Outcome.returned (some (Value.int x)) = Outcome.returned (some (Value.int y)) := by rw [h]
theorem ret_l {x y : Int64} (h : x = y) : Outcome.returned (some (Value.long x)) = Outcome.returned (some (Value.long y)) := by rw [h]
/-- a number that a switch has no row for -/
theorem tb_out {x : Int32} (lo n : Nat) (hn : n < 1000) (h : ∀ k : Nat, lo ≤ k → k ≤ n → ¬ x = nI k) : x.toInt < (lo : Int) ∨ (n : Int) < x.toInt := by
  rcases Int.lt_or_le x.toInt (lo : Int) with q | q
  · exact Or.inl q
  · rcases Int.lt_or_le (n : Int) x.toInt with q2 | q2
    · exact Or.inr q2
    · exfalso
      refine h x.toInt.toNat (by omega) (by omega) (Int32.toInt_inj.mp ?_)
      rw [nI_toInt (by omega)]
      omega
/-- a value under a name that the kernel can't look through -/
theorem opq {α : Sort _} {P : Prop} (x : α) (k : ∀ r : α, x = r → P) : P := k x rfl
theorem P_eq {D : va_G} {cl : List vw_C} {ws ws' : va_W} {H : Heap} (e : ws = ws') (h : va_P D cl ws H) : va_P D cl ws' H := e ▸ h
theorem D_eq {A : Nat → Prop} {ws ws' : va_W} (e : ws = ws') (h : va_D A ws) : va_D A ws' := e ▸ h
