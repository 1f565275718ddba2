section ZZERO
theorem zIA_0 : zIA 0 zA0 := by
  have hz1 : ∀ p, 0 ≤ p → p < 10 → zcut 10 (fun _ => -5) p = -5 := fun p p0 p1 => zcut_in _ _ _ p0 p1
  refine ⟨⟨zgR_id, ?_, ?_, ?_, ?_, ⟨by decide, by decide⟩, ⟨by decide, by decide⟩, ⟨by decide, by decide⟩⟩, fun S hS => absurd hS List.not_mem_nil, fun S hS => (by cases hS), ⟨by decide, by decide⟩, by decide⟩
  · show zHok (zcut 10 (fun _ => -5))
    exact ⟨fun i i0 i1 => Or.inl (hz1 i i0 i1), fun i hi => zcut_out _ _ _ hi⟩
  · show (0 : Int) = zpn (zcut 10 (fun _ => -5))
    have e : zpn (zcut 10 (fun _ => -5)) = zSm (fun _ => 0) 10 := zSm_congr _ (fun p p0 p1 => by
      (try dsimp only)
      rw [hz1 p p0 p1, if_neg (by omega)])
    rw [e]
    rfl
  · show zfv (fun _ => 0) (fun _ => 0)
    intro k _ _
    refine ⟨Int.le_refl _, by show (0 : Int) ≤ 10; decide, fun j j0 j1 => ?_⟩
    have : j < 0 := j1
    omega
  · show zlim (fun _ => 0) (fun _ => 0)
    intro k _ _
    show ([] : List Int).length ≤ 120
    decide
end ZZERO
