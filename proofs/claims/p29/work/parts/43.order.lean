section ZQ62
noncomputable def zol (E : zRg) : Nat → Nat
  | 0 => 1
  | n + 1 => Nat.lcm (zol E n) (zbk E (n : Int))
theorem zol_dvd {E : zRg} (hE : zgR E.1 E.2) {M : Nat} (h : ∀ p, 0 ≤ p → p < 10 → zbs E p M = (p, 0)) : ∀ n, n ≤ 10 → zol E n ∣ M := by
  intro n
  induction n with
  | zero => intro _; exact Nat.one_dvd M
  | succ n ih =>
    intro hn
    exact Nat.lcm_dvd (ih (by omega)) (zbk_dvd hE (by omega) (by omega) (h (n : Int) (by omega) (by omega)))
theorem zol_pos {E : zRg} (hE : zgR E.1 E.2) : ∀ n, n ≤ 10 → 1 ≤ zol E n ∧ zol E n ≤ 120 := by
  obtain ⟨M, h1, h2, h3⟩ := zback120 hE
  intro n hn
  have hd := zol_dvd hE h3 n hn
  have hl := Nat.le_of_dvd (by omega) hd
  refine ⟨?_, by omega⟩
  rcases Nat.eq_zero_or_pos (zol E n) with z | z
  · rw [z] at hd; have := Nat.eq_zero_of_zero_dvd hd; omega
  · exact z
end ZQ62
