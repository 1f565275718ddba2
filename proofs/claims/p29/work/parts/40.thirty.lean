section ZQ59
theorem zcirc30 {g : Int → Int} (hg : ∀ p, 0 ≤ p → p < 10 → 0 ≤ g p ∧ g p < 10) (hi : ∀ p q, 0 ≤ p → p < 10 → 0 ≤ q → q < 10 → g p = g q → p = q) : ∃ N, 1 ≤ N ∧ N ≤ 30 ∧ ∀ p, 0 ≤ p → p < 10 → zit g p N = p := by
  have h := zlnd_all (decide (1 ≤ zNl g 1)) (decide (1 ≤ zNl g 2)) (decide (1 ≤ zNl g 3)) (decide (1 ≤ zNl g 4)) (decide (1 ≤ zNl g 5)) (decide (1 ≤ zNl g 6)) (decide (1 ≤ zNl g 7)) (decide (1 ≤ zNl g 8)) (decide (1 ≤ zNl g 9)) (decide (1 ≤ zNl g 10))
  have hs := zNl_sum hg hi
  have c1 := zNl_cond hg hi 1
  have c2 := zNl_cond hg hi 2
  have c3 := zNl_cond hg hi 3
  have c4 := zNl_cond hg hi 4
  have c5 := zNl_cond hg hi 5
  have c6 := zNl_cond hg hi 6
  have c7 := zNl_cond hg hi 7
  have c8 := zNl_cond hg hi 8
  have c9 := zNl_cond hg hi 9
  have c10 := zNl_cond hg hi 10
  unfold zlnd at h
  rw [Bool.or_eq_true] at h
  rcases h with h | h
  · have h2 := of_decide_eq_true h
    omega
  · rw [List.any_eq_true] at h
    obtain ⟨n, hn, hh⟩ := h
    have hn2 := List.mem_range.mp hn
    simp only [Bool.and_eq_true, Bool.or_eq_true, Bool.not_eq_true', decide_eq_false_iff_not, beq_iff_eq] at hh
    refine ⟨n + 1, by omega, by omega, fun p p0 p1 => ?_⟩
    have hl := zln_spec hg hi p0 p1
    have hp := zNl_pos (g := g) p0 p1
    have hd : (n + 1) % zln g p = 0 := by
      have hl1 := hl.1
      have hl2 := hl.2.1
      clear hl
      revert hp hl1 hl2
      generalize zln g p = L
      intro hp hl1 hl2
      have e : L = 1 ∨ L = 2 ∨ L = 3 ∨ L = 4 ∨ L = 5 ∨ L = 6 ∨ L = 7 ∨ L = 8 ∨ L = 9 ∨ L = 10 := by omega
      rcases e with e | e | e | e | e | e | e | e | e | e <;> subst e <;> omega
    have hm : n + 1 = zln g p * ((n + 1) / zln g p) := (Nat.mul_div_cancel' (Nat.dvd_of_mod_eq_zero hd)).symm
    rw [hm]
    exact zit_mul g p _ hl.2.2.1 _
end ZQ59
