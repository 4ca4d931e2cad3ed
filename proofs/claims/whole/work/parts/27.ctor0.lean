/-! constructors: starts and ends with new cells -/
def PcN (D : va_G) (cI cC cZ cS : ClassId) (sz : Nat) (av : List Value) (ws : va_W) : Array Value → State → Prop := va_Pc av (fun U => U.heap.size = sz ∧ va_P D vwCl ws U.heap ∧ va_D (fun _ => True) ws ∧ EN D cI cC cZ cS U)
theorem PcN.blind {D : va_G} {cI cC cZ cS : ClassId} {sz : Nat} {av : List Value} {ws : va_W} : FrameBlind (PcN D cI cC cZ cS sz av ws) := by
  intro a U g mk h
  obtain ⟨h0, h1, h2, h3, h4⟩ := h
  exact ⟨h0, h1, h2, h3, h4.call⟩
theorem preN_of {D : va_G} {cI cC cZ cS : ClassId} {av : List Value} {ws : va_W} {A : Nat → Prop} {s : State} {H : Heap} (hP : va_P D vwCl ws H) (hD : va_D A ws) (hE : EN D cI cC cZ cS s) : PreS s H (PcN D cI cC cZ cS H.size av ws) av :=
  ⟨PcN.blind, fun U hU hW => ⟨rfl, by rw [hU], by rw [hU]; exact hP, hD.weaken (fun _ _ _ _ => trivial), hE.warm hW⟩⟩
def QcN (D : va_G) (A : Nat → Prop) (P : va_W → Prop) : Array Value → State → Outcome → State → Prop := fun _ st o t => o = .returned none ∧ (∃ w, P w ∧ va_P D vwCl w t.heap ∧ va_D A w) ∧ va_F A st t
section MYNEW
variable {p : Program} {l : Launch} {e : Env} {R : Room} {s : State} {m : MethodId} {args : Array Value} {below : List Frame} {meth : Method} {c : Code} {H : Heap} {locs : List Loc} {cells slots : Nat} {Q : State → Prop} {pc : Nat} {ls : Array Slot} {st0 rest : List Value} {a : Array Value}
theorem m_callN {mc ms : Nat} {D : va_G} {wc W0 wr : va_W} {A : Nat → Prop} {H0 : Heap} {P : va_W → Prop} (hr : CallRun p l e R s m args below meth c H locs cells slots mc ms (F0 m pc ls st0) rest (QcN D (va_A wc H.size) P a) (va_A wc H.size))
    (hP : va_P D vwCl W0 H) (hD : va_D A W0) (hS : va_S A H0 H locs) (hA : ∀ q, H0.size ≤ q → A q) (isC isR : List Nat) (hC : isC.map (fun i => W0[i]?) = wc.map some) (hR : isR.map (fun i => W0[i]?) = wr.map some) (hn : va_nd isR = true) (hdis : ∀ i ∈ isR, i ∉ isC)
    (kk : ∀ (w : va_W) (H1 : Heap) (locs1 : List Loc), P w → va_P D vwCl (wr ++ w) H1 → va_D A (wr ++ w) → va_S A H0 H1 locs1 → W p l e R s m args below meth c H1 locs1 (cells + mc) (slots + ms) Q (F0 m (pc + 3) ls rest)) : W p l e R s m args below meth c H locs cells slots Q (F0 m pc ls st0) := by
  intro T hT X
  obtain ⟨v, st₀, t, T', L, h0, X', hL, e1, ⟨hv, ⟨w, hw, hP1, hD1⟩, hz, hk⟩, st⟩ := hr T hT X
  cases hv
  subst h0
  have hF := va_free (wc := wc) hD hS hA isC hC
  obtain ⟨hP2, hD2⟩ := va_join hP hD isC isR hC hR hn hdis hk hF hP1 hD1
  have hS2 : va_S A H0 t.heap (locs ++ L) := by
    refine ⟨Nat.le_trans hS.1 hz, fun q h1 h2 => ?_, fun q hq => ?_⟩
    · rw [hk q (Nat.lt_of_lt_of_le h1 hS.1) (fun h => h2 (hF q h))]
      exact hS.2.1 q h1 h2
    · rcases List.mem_append.mp hq with h | h
      · exact hS.2.2 q h
      · exact hF _ (hL q h)
  obtain ⟨t2, a1, b1⟩ := kk w t.heap (locs ++ L) hw hP2 hD2 hS2 T' e1 X'
  exact ⟨t2, st t2 a1, b1⟩
end MYNEW
/-- an array's class by its name is one -/
theorem cA_one {D : va_G} {cl : List vw_C} {tys : List (ClassId × FieldType)} {s : State} {cA cB : ClassId} {ty : FieldType} (hK : va_K D cl tys s) (i j : Nat) (hi : tys[i]? = some (cA, ty)) (hj : tys[j]? = some (cB, ty)) (hty : ∀ C, ¬ ty = .object C) : cA = cB := by
  have h1 := (hK.2 i _ hi).2
  have h2 := (hK.2 j _ hj).2
  cases ty with
  | object C => exact absurd rfl (hty C)
  | _ =>
    have h1 : s.vm.findClass _ = some cA := h1
    have h2 : s.vm.findClass _ = some cB := h2
    exact Option.some.inj (h1.symm.trans h2)
theorem cA_oneR {D : va_G} {cl : List vw_C} {tys : List (ClassId × FieldType)} {s : State} {cA cB : ClassId} {C : String} (hK : va_K D cl tys s) (i j : Nat) (hi : tys[i]? = some (cA, .object C)) (hj : tys[j]? = some (cB, .object C)) : cA = cB := by
  obtain ⟨_, _, _, _, _, h1⟩ := (hK.2 i _ hi).2
  obtain ⟨_, _, _, _, _, h2⟩ := (hK.2 j _ hj).2
  exact Option.some.inj (h1.symm.trans h2)
/-- rows of references are the same where they agree below their length -/
theorem refs_cg {D : va_G} {cl : List vw_C} {q n : Nat} {cA : ClassId} {f g : Nat → Option Nat} {H : Heap} (h : ∀ j, j < n → f j = g j) (hP : va_at D cl (q, .inl (cA, n, .inr (.inr (.inr (.inr f))))) H) : va_at D cl (q, .inl (cA, n, .inr (.inr (.inr (.inr g))))) H := by
  have e : vp_cell cA (n, .inr (.inr (.inr (.inr f)))) = vp_cell cA (n, .inr (.inr (.inr (.inr g)))) := by
    show arrV cA n (fun j => va_rf (f j)) = arrV cA n (fun j => va_rf (g j))
    unfold arrV
    congr 1
    apply Array.ext
    · simp
    · intro i h1 h2
      simp at h1
      simp [h i h1]
  show H[q]? = some (vp_cell cA _)
  rw [← e]
  exact hP
