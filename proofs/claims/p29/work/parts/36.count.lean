section ZQ55
theorem zit_add (g : Int → Int) (p : Int) (i : Nat) : ∀ d, zit g (zit g p i) d = zit g p (i + d) := by
  intro d
  induction d with
  | zero => rfl
  | succ d ih =>
    show g (zit g (zit g p i) d) = g (zit g p (i + d))
    rw [ih]
theorem zit_mul (g : Int → Int) (p : Int) (l : Nat) (h : zit g p l = p) : ∀ i, zit g p (l * i) = p := by
  intro i
  induction i with
  | zero => rfl
  | succ i ih => rw [Nat.mul_succ, ← zit_add, ih, h]
theorem zcnt : ∀ (l : Nat) (P : Int → Prop) (f : Nat → Int), (∀ i, i < l → 0 ≤ f i ∧ f i < 10 ∧ P (f i)) → (∀ i j, i < j → j < l → f i ≠ f j) → ∀ c : Int → Int, (∀ q, 0 ≤ q → q < 10 → (P q ∧ c q = 1) ∨ (¬ P q ∧ c q = 0)) → (l : Int) ≤ zSm c 10 := by
  intro l
  induction l with
  | zero =>
    intro P f hf hd c hc
    have h0 : zSm (fun _ => (0 : Int)) 10 = 0 := by decide
    have : ∀ n : Nat, n ≤ 10 → 0 ≤ zSm c (n : Int) := by
      intro n
      induction n with
      | zero => intro _; exact Int.le_refl _
      | succ n ih =>
        intro hn
        rw [show ((n + 1 : Nat) : Int) = (n : Int) + 1 by omega, zSm_up _ _ (by omega)]
        have h1 := ih (by omega)
        have h2 := hc (n : Int) (by omega) (by omega)
        omega
    exact this 10 (Nat.le_refl _)
  | succ l ih =>
    intro P f hf hd c hc
    have hl := hf l (Nat.lt_succ_self l)
    have h1 := ih (fun q => P q ∧ q ≠ f l) f (fun i hi => ⟨(hf i (by omega)).1, (hf i (by omega)).2.1, (hf i (by omega)).2.2, hd i l hi (Nat.lt_succ_self l)⟩) (fun i j hij hj => hd i j hij (by omega)) (zup c (f l) 0) (fun q q0 q1 => by
      by_cases e : q = f l
      · rw [e, zup_eq]; exact Or.inr ⟨fun z => z.2 rfl, rfl⟩
      · rw [zup_ne _ _ _ e]
        rcases hc q q0 q1 with h | h
        · exact Or.inl ⟨⟨h.1, e⟩, h.2⟩
        · exact Or.inr ⟨fun z => h.1 z.1, h.2⟩)
    have h2 := zSm_one (h := c) (h' := zup c (f l) 0) hl.1 10 hl.2.1 (fun p _ _ e => (zup_ne _ _ _ e).symm)
    rw [zup_eq] at h2
    have h3 : c (f l) = 1 := by
      rcases hc (f l) hl.1 hl.2.1 with h | h
      · exact h.2
      · exact absurd hl.2.2 h.1
    have h4 : zSm c 10 = zSm (zup c (f l) 0) 10 + (c (f l) - 0) := h2
    omega
end ZQ55
