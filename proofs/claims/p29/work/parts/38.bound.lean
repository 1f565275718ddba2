section ZQ57
theorem zSm_some {c : Int → Int} (h : 1 ≤ zSm c 10) : ∃ p, 0 ≤ p ∧ p < 10 ∧ c p ≠ 0 := by
  by_cases e : ∃ p, 0 ≤ p ∧ p < 10 ∧ c p ≠ 0
  · exact e
  · have h1 : zSm c 10 = zSm (fun _ => 0) 10 := zSm_congr _ (fun p p0 p1 => by
      by_cases e2 : c p = 0
      · exact e2
      · exact absurd ⟨p, p0, p1, e2⟩ e)
    have h2 : zSm (fun _ => (0 : Int)) 10 = 0 := by decide
    omega
theorem zSm_nn {c : Int → Int} (h : ∀ p, 0 ≤ p → p < 10 → 0 ≤ c p) : 0 ≤ zSm c 10 := by
  have key : ∀ n : Nat, n ≤ 10 → 0 ≤ zSm c (n : Int) := by
    intro n
    induction n with
    | zero => intro _; exact Int.le_refl _
    | succ n ih =>
      intro hn
      rw [show ((n + 1 : Nat) : Int) = (n : Int) + 1 by omega, zSm_up _ _ (by omega)]
      have h1 := ih (by omega)
      have h2 := h (n : Int) (by omega) (by omega)
      omega
  exact key 10 (Nat.le_refl _)
noncomputable def zNl (g : Int → Int) (l : Nat) : Int := zSm (fun q => if zln g q = l then 1 else 0) 10
theorem zNl_cond {g : Int → Int} (hg : ∀ p, 0 ≤ p → p < 10 → 0 ≤ g p ∧ g p < 10) (hi : ∀ p q, 0 ≤ p → p < 10 → 0 ≤ q → q < 10 → g p = g q → p = q) (l : Nat) : ((cond (decide (1 ≤ zNl g l)) l 0 : Nat) : Int) ≤ zNl g l := by
  by_cases e : 1 ≤ zNl g l
  · rw [decide_eq_true e]
    obtain ⟨p, p0, p1, hp⟩ := zSm_some e
    have hl : zln g p = l := by
      by_cases e2 : zln g p = l
      · exact e2
      · exact absurd (if_neg e2) hp
    have := zln_cnt hg hi p0 p1
    rw [hl] at this
    exact this
  · rw [decide_eq_false e]
    exact zSm_nn (fun p _ _ => by split <;> omega)
theorem zNl_pos {g : Int → Int} {p : Int} (p0 : 0 ≤ p) (p1 : p < 10) : 1 ≤ zNl g (zln g p) := by
  have h := zcnt 1 (fun q => zln g q = zln g p) (fun _ => p) (fun i _ => ⟨p0, p1, rfl⟩) (fun i j hij hj => by omega) (fun q => if zln g q = zln g p then 1 else 0) (fun q _ _ => by
    by_cases e : zln g q = zln g p
    · exact Or.inl ⟨e, if_pos e⟩
    · exact Or.inr ⟨e, if_neg e⟩)
  exact h
end ZQ57
