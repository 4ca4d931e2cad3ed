/-! at the start class and reference agree -/
theorem rx0 : RX FN0 M0 := by
  obtain ⟨s1, s2, s3, s4, s5, ⟨s60, s61, s62, s63, s64⟩, s90, s91⟩ := st_eq (d_X6_begins (fun _ _ => 0))
  have e : d_X6_settles (d_X6_begins (fun _ _ => 0)) = M0 := rfl
  rw [e] at s1 s2 s3 s4 s5 s60 s61 s62 s63 s64 s90 s91
  refine opq M0 (fun S hS => ?_)
  rw [hS] at s1 s2 s3 s4 s5 s60 s61 s62 s63 s64 s90 s91 ⊢
  refine ⟨0, 0, 0, 0, 0, 0, ⟨rfl, s4 0 (by omega), by omega, (s4 1 (by omega)).symm, (s4 2 (by omega)).symm, (s4 3 (by omega)).symm, fun j hj => by omega, fun j hj => by omega, fun j hj => by omega, fun j hj => by omega, fun j hj => by omega, ⟨?_, ?_, ?_⟩, fun j hj => by omega⟩, ⟨rfl, s1, by omega, fun j hj => by omega⟩, ⟨⟨s60, s61, s62, s63, s64⟩, rfl, by omega⟩, ⟨rfl, s2, by omega, rfl, by omega, fun j hj => by omega⟩, fun i hi => ?_, ⟨rfl, s3, by omega, fun j hj => by omega⟩⟩
  · rw [s4 1 (by omega)]; exact NN.of (j := 5) rfl (by omega) (by omega)
  · rw [s4 2 (by omega)]; exact NN.of (j := 0) rfl (by omega) (by omega)
  · rw [s4 3 (by omega)]; exact NN.of (j := 100) rfl (by omega) (by omega)
  · rcases (show i = 0 ∨ i = 1 by omega) with rfl | rfl
    · exact ⟨s90.symm, fun z => absurd rfl z⟩
    · exact ⟨s91.symm, fun z => absurd rfl z⟩
