def R_law : String := "FirstOutLaw"
def lw_P (b : Addr) (xs : List Int32) (args : Array Value) (s : State) : Prop := args = #[.ref b] ∧ s.IntsAt b xs ∧ xs.length ≤ 192 ∧ (Jvm.Cond.and given_1 narrow_1).before args s = true
def lw_Q (_ : Array Value) (s : State) (o : Outcome) (t : State) : Prop := o = .returned (some (.int 1)) ∧ Framed s o t [] 600000 7302250
def lw_Z (below : List Frame) (a : Array Value) (s : State) : State → Prop := fun t => ∃ o, t.status = .running ∧ Ended t below o ∧ lw_Q a s o t
/-- the law's own end, with 1 on the stack, nothing written that was there before, its room as the claim has it -/
theorem lw_ret {p : Program} {l : Launch} {e : Env} {s : State} {m : MethodId} {below : List Frame} {meth : Method} {c : Code} {b : Nat} (hx : p.tables.exec = Jvm.exec) (hb : c.code = code) (hr : meth.sig.returnType = ret) (hlocks : meth.locks = false) {pc : Nat} {H : Heap} {ls : Array Slot} (hdg : decode code pc = .ok (.ireturn, 1)) : W p l e room_1 s m #[Value.ref b] below meth c H [] 600000 7302250 (lw_Z below #[Value.ref b] s) (F0 m pc ls [.int 1]) := by
  intro T hT X
  obtain ⟨fs, hret, hrun, hended, hW, hframe⟩ := X.leave (v := some (.int 1)) (hlocks := hlocks) (fun h => by rw [hr] at h; cases h)
  have hmeth' : T.vm.method? m = some meth := X.method'
  refine ⟨T.setFrames fs, ?_, .returned (some (.int 1)), hrun, hended, rfl, ⟨_, rfl⟩, hW, hframe⟩
  jvm_step X.here [X.here.top, hx, hb, hdg, hmeth', hr, ret, narrow_b1]
  (try refine ⟨rfl, ?_⟩); (try refine ⟨rfl, ?_⟩)
  first | (intro acts; rw [hret _ acts rfl rfl rfl]) | rw [hret _ _ rfl rfl rfl]
  exact Steps.refl _
/-- what holds at the law's entry: the machine, the code, the tables' words (any of lw_tbl by 'hts w (by decide +kernel)'), the script of L ints xs at the cell b, what the Statement gives of the start (any of its parts by flat_of_before) -/
def lw_At (p : Program) (s : State) (m : MethodId) (meth : Method) (c : Code) (b L : Nat) (xs : Nat → Int32) : Prop :=
  p.tables.exec = Jvm.exec ∧ c.code = code ∧ meth.sig.returnType = ret ∧ c.maxLocals = 4 ∧ s.vm.findClass R_law = some m.cls ∧ (∀ w ∈ lw_tbl, w.before #[Value.ref b] s = true) ∧ va_X b L xs s s.heap ∧ b < s.heap.size ∧ meth.locks = false ∧ (Jvm.Cond.and given_1 narrow_1).before #[Value.ref b] s = true
/-! the law's own calls: the class's world and the reference's side by side -/
theorem LPF {D : va_G} {cI cC cZ cS : ClassId} {a b a2 : Nat → Nat} {F G : Nat → Nat → Int32} {tc tc2 : Int64} {H : Heap} (hP : va_P D vwCl (wF cI cC cZ cS a b F tc ++ wM cI cC cZ cS a2 G tc2) H) : va_P D vwCl (wF cI cC cZ cS a b F tc) H := hP.sub [0, 1, 2, 3, 4, 5, 6, 7, 8, 9, 10, 11, 12, 13, 14, 15, 16, 17, 18, 19, 20, 21, 22, 23, 24, 25, 26, 27, 28, 29, 30, 31] rfl
theorem LDF {A : Nat → Prop} {cI cC cZ cS : ClassId} {a b a2 : Nat → Nat} {F G : Nat → Nat → Int32} {tc tc2 : Int64} (hD : va_D A (wF cI cC cZ cS a b F tc ++ wM cI cC cZ cS a2 G tc2)) : va_D A (wF cI cC cZ cS a b F tc) := hD.sub [0, 1, 2, 3, 4, 5, 6, 7, 8, 9, 10, 11, 12, 13, 14, 15, 16, 17, 18, 19, 20, 21, 22, 23, 24, 25, 26, 27, 28, 29, 30, 31] (by decide) rfl
theorem LPM {D : va_G} {cI cC cZ cS : ClassId} {a b a2 : Nat → Nat} {F G : Nat → Nat → Int32} {tc tc2 : Int64} {H : Heap} (hP : va_P D vwCl (wF cI cC cZ cS a b F tc ++ wM cI cC cZ cS a2 G tc2) H) : va_P D vwCl (wM cI cC cZ cS a2 G tc2) H := hP.sub [32, 33, 34, 35, 36, 37, 38, 39, 40, 41, 42, 43, 44] rfl
theorem LDM {A : Nat → Prop} {cI cC cZ cS : ClassId} {a b a2 : Nat → Nat} {F G : Nat → Nat → Int32} {tc tc2 : Int64} (hD : va_D A (wF cI cC cZ cS a b F tc ++ wM cI cC cZ cS a2 G tc2)) : va_D A (wM cI cC cZ cS a2 G tc2) := hD.sub [32, 33, 34, 35, 36, 37, 38, 39, 40, 41, 42, 43, 44] (by decide) rfl
theorem patch_pre : ∀ (w' old rest pre : va_W), w'.length = old.length → patch (pre ++ (old ++ rest)) (List.range' pre.length w'.length) w' = pre ++ (w' ++ rest) := by
  intro w'
  induction w' with
  | nil =>
    intro old rest pre h
    cases old with
    | nil => rfl
    | cons o old => simp at h
  | cons w ws ih =>
    intro old rest pre h
    cases old with
    | nil => simp at h
    | cons o old =>
      have e : (pre ++ (o :: old ++ rest)).set pre.length w = (pre ++ [w]) ++ (old ++ rest) := by
        rw [List.set_append_right _ _ (Nat.le_refl _), Nat.sub_self]
        simp
      have h2 := ih old rest (pre ++ [w]) (by simpa using h)
      show patch ((pre ++ (o :: old ++ rest)).set pre.length w) (List.range' (pre.length + 1) ws.length) ws = _
      rw [e]
      rw [List.length_append] at h2
      rw [show pre.length + 1 = pre.length + [w].length from rfl, h2]
      simp
theorem patchF {cI cC cZ cS : ClassId} {a b : Nat → Nat} {F F' : Nat → Nat → Int32} {tc tc' : Int64} {w2 : va_W} : patch (wF cI cC cZ cS a b F tc ++ w2) [0, 1, 2, 3, 4, 5, 6, 7, 8, 9, 10, 11, 12, 13, 14, 15, 16, 17, 18, 19, 20, 21, 22, 23, 24, 25, 26, 27, 28, 29, 30, 31] (wF cI cC cZ cS a b F' tc') = wF cI cC cZ cS a b F' tc' ++ w2 :=
  patch_pre (wF cI cC cZ cS a b F' tc') (wF cI cC cZ cS a b F tc) w2 [] rfl
theorem patchX {cI cC cZ cS : ClassId} {a b : Nat → Nat} {F F' : Nat → Nat → Int32} {tc tc' : Int64} {ox oy : Nat} {w2 : va_W} : patch (wF cI cC cZ cS a b F tc ++ w2) [0, 1, 2, 3, 4, 5, 6, 7, 8, 9, 10, 11, 12, 13, 14, 15, 16, 17, 18, 19, 20, 21, 22, 23, 24, 25, 26, 27, 28, 29, 30, 31] (wFx cI cC cZ cS a b F' tc' ox oy) = wFx cI cC cZ cS a b F' tc' ox oy ++ w2 :=
  patch_pre (wFx cI cC cZ cS a b F' tc' ox oy) (wF cI cC cZ cS a b F tc) w2 [] rfl
section LAWCALL
variable {p : Program} {l : Launch} {e : Env} {R : Room} {s : State} {m : MethodId} {args : Array Value} {below : List Frame} {meth : Method} {c : Code} {H H0 : Heap} {locs : List Loc} {cells slots : Nat} {Q : State → Prop} {pc : Nat} {ls : Array Slot} {st0 rest : List Value} {aa : Array Value} {v : Value} {D : va_G} {cI cC cZ cS : ClassId} {a b a2 : Nat → Nat} {F F' G G' : Nat → Nat → Int32} {tc tc' tc2 tc2' : Int64} {A : Nat → Prop}
theorem lcR (hr : CallRun p l e R s m args below meth c H locs cells slots 0 0 (F0 m pc ls st0) rest (QcR (some v) aa) (fun _ => False)) (kk : W p l e R s m args below meth c H locs cells slots Q (F0 m (pc + 3) ls (v :: rest))) : W p l e R s m args below meth c H locs cells slots Q (F0 m pc ls st0) := m_callR hr kk
theorem lcF (hr : CallRun p l e R s m args below meth c H locs cells slots 0 0 (F0 m pc ls st0) rest (QcM (some v) D (wF cI cC cZ cS a b F tc) (wF cI cC cZ cS a b F' tc') aa) (inW (wF cI cC cZ cS a b F tc))) (hP : va_P D vwCl (wF cI cC cZ cS a b F tc ++ wM cI cC cZ cS a2 G tc2) H) (hD : va_D A (wF cI cC cZ cS a b F tc ++ wM cI cC cZ cS a2 G tc2)) (hS : va_S A H0 H locs)
    (kk : ∀ (H1 : Heap) (locs1 : List Loc), va_P D vwCl (wF cI cC cZ cS a b F' tc' ++ wM cI cC cZ cS a2 G tc2) H1 → va_D A (wF cI cC cZ cS a b F' tc' ++ wM cI cC cZ cS a2 G tc2) → va_S A H0 H1 locs1 → W p l e R s m args below meth c H1 locs1 cells slots Q (F0 m (pc + 3) ls (v :: rest))) : W p l e R s m args below meth c H locs cells slots Q (F0 m pc ls st0) :=
  m_callM hr hP hD hS [0, 1, 2, 3, 4, 5, 6, 7, 8, 9, 10, 11, 12, 13, 14, 15, 16, 17, 18, 19, 20, 21, 22, 23, 24, 25, 26, 27, 28, 29, 30, 31] rfl wF_ad (fun H1 locs1 hP1 hD1 hS1 => kk H1 locs1 (P_eq patchF hP1) (D_eq patchF hD1) hS1)
theorem lcM (hr : CallRun p l e R s m args below meth c H locs cells slots 0 0 (F0 m pc ls st0) rest (QcM (some v) D (wM cI cC cZ cS a2 G tc2) (wM cI cC cZ cS a2 G' tc2') aa) (inW (wM cI cC cZ cS a2 G tc2))) (hP : va_P D vwCl (wF cI cC cZ cS a b F tc ++ wM cI cC cZ cS a2 G tc2) H) (hD : va_D A (wF cI cC cZ cS a b F tc ++ wM cI cC cZ cS a2 G tc2)) (hS : va_S A H0 H locs)
    (kk : ∀ (H1 : Heap) (locs1 : List Loc), va_P D vwCl (wF cI cC cZ cS a b F tc ++ wM cI cC cZ cS a2 G' tc2') H1 → va_D A (wF cI cC cZ cS a b F tc ++ wM cI cC cZ cS a2 G' tc2') → va_S A H0 H1 locs1 → W p l e R s m args below meth c H1 locs1 cells slots Q (F0 m (pc + 3) ls (v :: rest))) : W p l e R s m args below meth c H locs cells slots Q (F0 m pc ls st0) :=
  m_callM hr hP hD hS [32, 33, 34, 35, 36, 37, 38, 39, 40, 41, 42, 43, 44] rfl wM_ad kk
theorem lcX {ox oy : Nat} (hr : CallRun p l e R s m args below meth c H locs cells slots 0 0 (F0 m pc ls st0) rest (QcM (some v) D (wFx cI cC cZ cS a b F tc (a 1) (a 5)) (wFx cI cC cZ cS a b F' tc' ox oy) aa) (inW (wFx cI cC cZ cS a b F tc (a 1) (a 5)))) (hP : va_P D vwCl (wF cI cC cZ cS a b F tc ++ wM cI cC cZ cS a2 G tc2) H) (hD : va_D A (wF cI cC cZ cS a b F tc ++ wM cI cC cZ cS a2 G tc2)) (hS : va_S A H0 H locs)
    (kk : ∀ (H1 : Heap) (locs1 : List Loc), va_P D vwCl (wFx cI cC cZ cS a b F' tc' ox oy ++ wM cI cC cZ cS a2 G tc2) H1 → va_D A (wFx cI cC cZ cS a b F' tc' ox oy ++ wM cI cC cZ cS a2 G tc2) → va_S A H0 H1 locs1 → W p l e R s m args below meth c H1 locs1 cells slots Q (F0 m (pc + 3) ls (v :: rest))) : W p l e R s m args below meth c H locs cells slots Q (F0 m pc ls st0) :=
  m_callM hr hP hD hS [0, 1, 2, 3, 4, 5, 6, 7, 8, 9, 10, 11, 12, 13, 14, 15, 16, 17, 18, 19, 20, 21, 22, 23, 24, 25, 26, 27, 28, 29, 30, 31] rfl rfl (fun H1 locs1 hP1 hD1 hS1 => kk H1 locs1 (P_eq patchX hP1) (D_eq patchX hD1) hS1)
theorem m_sld {cc : ByteArray} (hexec : p.tables.exec = Jvm.exec) (hb : c.code = cc) {b0 L : Nat} {xs : Nat → Int32} (hX : va_X b0 L xs s H0) (hbl : b0 < H0.size) (hbA : ¬ A b0) (hS : va_S A H0 H locs) {i : Int32} (j : Nat) (hi : i = nI j) (hj : j < L) (hL : L < 2 ^ 31) (hdg : decode cc pc = .ok (.iaload, 1))
    (kk : W p l e R s m args below meth c H locs cells slots Q (F0 m (pc + 1) ls (.int (xs j) :: rest))) : W p l e R s m args below meth c H locs cells slots Q (F0 m pc ls (.int i :: .ref b0 :: rest)) := by
  subst hi
  refine va_sld hexec hb hX hbl hbA hS (vp_in_nI hj hL) hdg ?_
  rw [nI_clamp (Nat.lt_trans hj hL)]
  exact kk
end LAWCALL
def LSt (D : va_G) (cI cC cZ cS : ClassId) (s : State) (H : Heap) (locs : List Loc) (a b a2 : Nat → Nat) (F G : Nat → Nat → Int32) (tc : Int64) : Prop := va_P D vwCl (wF cI cC cZ cS a b F tc ++ wM cI cC cZ cS a2 G tc) H ∧ va_D (fun q : Nat => s.heap.size ≤ q) (wF cI cC cZ cS a b F tc ++ wM cI cC cZ cS a2 G tc) ∧ va_S (fun q : Nat => s.heap.size ≤ q) s.heap H locs ∧ RX F G
theorem so_ok {F G : Nat → Nat → Int32} {n len dd um nx sk : Nat} (h : RLN F G n len dd um nx sk) : ∀ q, q < sk → G 11 q = nI (G 11 q).toNatClampNeg ∧ (G 11 q).toNatClampNeg < n := by
  intro q hq
  obtain ⟨_, _, ⟨x, hx, e⟩, _⟩ := h.2.2.2.2.2.2.2.2 q hq
  have h7 : n ≤ 7 := h.1.2.2.1
  rw [cl_nI e (by omega)]
  exact ⟨e, hx⟩
theorem lcX_P {D : va_G} {cI cC cZ cS : ClassId} {a b a2 : Nat → Nat} {F G : Nat → Nat → Int32} {tc tc2 : Int64} {H : Heap} {x : Int32} (hP : va_P D vwCl (wFx cI cC cZ cS a b F tc (if 0 ≤ x then a 5 else a 1) (if 0 ≤ x then a 1 else a 5) ++ wM cI cC cZ cS a2 G tc2) H) : va_P D vwCl (wF cI cC cZ cS (if 0 ≤ x then swA a else a) b (if 0 ≤ x then swF F else F) tc ++ wM cI cC cZ cS a2 G tc2) H := by
  by_cases z : 0 ≤ x
  · rw [if_pos z, if_pos z] at hP
    rw [if_pos z, if_pos z]
    exact hP.sub [0, 5, 6, 7, 8, 1, 2, 3, 4, 9, 10, 11, 12, 13, 14, 15, 16, 17, 18, 19, 20, 21, 22, 23, 24, 25, 26, 27, 28, 29, 30, 31, 32, 33, 34, 35, 36, 37, 38, 39, 40, 41, 42, 43, 44] rfl
  · rw [if_neg z, if_neg z] at hP
    rw [if_neg z, if_neg z]
    exact hP
theorem lcX_D {A : Nat → Prop} {cI cC cZ cS : ClassId} {a b a2 : Nat → Nat} {F G : Nat → Nat → Int32} {tc tc2 : Int64} {x : Int32} (hD : va_D A (wFx cI cC cZ cS a b F tc (if 0 ≤ x then a 5 else a 1) (if 0 ≤ x then a 1 else a 5) ++ wM cI cC cZ cS a2 G tc2)) : va_D A (wF cI cC cZ cS (if 0 ≤ x then swA a else a) b (if 0 ≤ x then swF F else F) tc ++ wM cI cC cZ cS a2 G tc2) := by
  by_cases z : 0 ≤ x
  · rw [if_pos z, if_pos z] at hD
    rw [if_pos z, if_pos z]
    exact hD.sub [0, 5, 6, 7, 8, 1, 2, 3, 4, 9, 10, 11, 12, 13, 14, 15, 16, 17, 18, 19, 20, 21, 22, 23, 24, 25, 26, 27, 28, 29, 30, 31, 32, 33, 34, 35, 36, 37, 38, 39, 40, 41, 42, 43, 44] (by decide) rfl
  · rw [if_neg z, if_neg z] at hD
    rw [if_neg z, if_neg z]
    exact hD
theorem nI_2 (a : Nat) : nI a + 2 = nI (a + 2) := nI_add a 2
theorem cmp_self (x : Int64) : lg_cmp x x = 0 := by unfold lg_cmp; simp
