section ZQ53
theorem zleast {P : Nat → Prop} {n : Nat} (h : P n) : ∃ m, m ≤ n ∧ P m ∧ ∀ i, i < m → ¬ P i := by
  induction n using Nat.strongRecOn with
  | ind n ih =>
    by_cases e : ∃ m, m < n ∧ P m
    · obtain ⟨m, h1, h2⟩ := e
      obtain ⟨m', a, b, c⟩ := ih m h1 h2
      exact ⟨m', by omega, b, c⟩
    · exact ⟨n, Nat.le_refl _, h, fun i hi hp => e ⟨i, hi, hp⟩⟩
theorem zpig (n : Nat) (f : Nat → Int) (hf : ∀ i, i ≤ n → 0 ≤ f i ∧ f i < (n : Int)) : ∃ i j, i < j ∧ j ≤ n ∧ f i = f j := by
  by_cases hex : ∃ i j, i < j ∧ j ≤ n ∧ f i = f j
  · exact hex
  · have hinj : ∀ i j, i ≤ n → j ≤ n → f i = f j → i = j := fun i j hi hj h => by
      rcases Nat.lt_or_ge i j with a | a
      · exact absurd ⟨i, j, a, hj, h⟩ hex
      · rcases Nat.lt_or_ge j i with b | b
        · exact absurd ⟨j, i, b, hi, h.symm⟩ hex
        · omega
    have hn := hf n (Nat.le_refl _)
    obtain ⟨p, p0, p1, hp⟩ := zsurj n (fun q => f q.toNat) (fun q q0 q1 => hf _ (by omega)) (fun p q p0 p1 q0 q1 h => by
      have := hinj p.toNat q.toNat (by omega) (by omega) h
      omega) (f n) hn.1 hn.2
    have := hinj p.toNat n (by omega) (Nat.le_refl _) hp
    omega
def zit (g : Int → Int) (p : Int) : Nat → Int
  | 0 => p
  | n + 1 => g (zit g p n)
theorem zit_in {g : Int → Int} (hg : ∀ p, 0 ≤ p → p < 10 → 0 ≤ g p ∧ g p < 10) {p : Int} (p0 : 0 ≤ p) (p1 : p < 10) : ∀ n, 0 ≤ zit g p n ∧ zit g p n < 10 := by
  intro n
  induction n with
  | zero => exact ⟨p0, p1⟩
  | succ n ih => exact hg _ ih.1 ih.2
theorem zit_back {g : Int → Int} (hg : ∀ p, 0 ≤ p → p < 10 → 0 ≤ g p ∧ g p < 10) (hi : ∀ p q, 0 ≤ p → p < 10 → 0 ≤ q → q < 10 → g p = g q → p = q) {p : Int} (p0 : 0 ≤ p) (p1 : p < 10) : ∀ i d, zit g p (i + d) = zit g p i → zit g p d = p := by
  intro i
  induction i with
  | zero => intro d h; rw [Nat.zero_add] at h; exact h
  | succ i ih =>
    intro d h
    have e : i + 1 + d = (i + d) + 1 := by omega
    rw [e] at h
    have h1 : g (zit g p (i + d)) = g (zit g p i) := h
    have a := zit_in hg p0 p1 (i + d)
    have b := zit_in hg p0 p1 i
    exact ih d (hi _ _ a.1 a.2 b.1 b.2 h1)
theorem zlen_ex {g : Int → Int} (hg : ∀ p, 0 ≤ p → p < 10 → 0 ≤ g p ∧ g p < 10) (hi : ∀ p q, 0 ≤ p → p < 10 → 0 ≤ q → q < 10 → g p = g q → p = q) {p : Int} (p0 : 0 ≤ p) (p1 : p < 10) : ∃ l, 1 ≤ l ∧ l ≤ 10 ∧ zit g p l = p ∧ ∀ m, 1 ≤ m → m < l → zit g p m ≠ p := by
  obtain ⟨i, j, hij, hj, he⟩ := zpig 10 (zit g p) (fun i _ => zit_in hg p0 p1 i)
  have h1 : zit g p (j - i) = p := zit_back hg hi p0 p1 i (j - i) (by rw [show i + (j - i) = j by omega]; exact he.symm)
  obtain ⟨l, a, ⟨b, c⟩, e⟩ := zleast (P := fun n => 1 ≤ n ∧ zit g p n = p) (n := j - i) ⟨by omega, h1⟩
  exact ⟨l, b, by omega, c, fun m m1 m2 m3 => e m m2 ⟨m1, m3⟩⟩
end ZQ53
