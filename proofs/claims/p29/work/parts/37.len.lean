section ZQ56
noncomputable def zln (g : Int → Int) (p : Int) : Nat := @dite Nat (∃ l, 1 ≤ l ∧ l ≤ 10 ∧ zit g p l = p ∧ ∀ m, 1 ≤ m → m < l → zit g p m ≠ p) (Classical.propDecidable _) (fun h => Classical.choose h) (fun _ => 1)
theorem zln_spec {g : Int → Int} (hg : ∀ p, 0 ≤ p → p < 10 → 0 ≤ g p ∧ g p < 10) (hi : ∀ p q, 0 ≤ p → p < 10 → 0 ≤ q → q < 10 → g p = g q → p = q) {p : Int} (p0 : 0 ≤ p) (p1 : p < 10) : 1 ≤ zln g p ∧ zln g p ≤ 10 ∧ zit g p (zln g p) = p ∧ ∀ m, 1 ≤ m → m < zln g p → zit g p m ≠ p := by
  have h := zlen_ex hg hi p0 p1
  have e : zln g p = Classical.choose h := dif_pos h
  rw [e]
  exact Classical.choose_spec h
theorem zln_orb {g : Int → Int} (hg : ∀ p, 0 ≤ p → p < 10 → 0 ≤ g p ∧ g p < 10) (hi : ∀ p q, 0 ≤ p → p < 10 → 0 ≤ q → q < 10 → g p = g q → p = q) {p : Int} (p0 : 0 ≤ p) (p1 : p < 10) (i : Nat) : zln g (zit g p i) = zln g p := by
  have hp := zln_spec hg hi p0 p1
  have hq0 := zit_in hg p0 p1 i
  have hq := zln_spec hg hi hq0.1 hq0.2
  have h1 : zit g (zit g p i) (zln g p) = zit g p i := by
    rw [zit_add, Nat.add_comm, ← zit_add, hp.2.2.1]
  have h2 : zit g p (zln g (zit g p i)) = p := zit_back hg hi p0 p1 i _ (by rw [← zit_add]; exact hq.2.2.1)
  rcases Nat.lt_or_ge (zln g p) (zln g (zit g p i)) with a | a
  · exact absurd h1 (hq.2.2.2 _ hp.1 a)
  · rcases Nat.lt_or_ge (zln g (zit g p i)) (zln g p) with b | b
    · exact absurd h2 (hp.2.2.2 _ hq.1 b)
    · omega
theorem zln_cnt {g : Int → Int} (hg : ∀ p, 0 ≤ p → p < 10 → 0 ≤ g p ∧ g p < 10) (hi : ∀ p q, 0 ≤ p → p < 10 → 0 ≤ q → q < 10 → g p = g q → p = q) {p : Int} (p0 : 0 ≤ p) (p1 : p < 10) : (zln g p : Int) ≤ zSm (fun q => if zln g q = zln g p then 1 else 0) 10 := by
  have hp := zln_spec hg hi p0 p1
  refine zcnt (zln g p) (fun q => zln g q = zln g p) (zit g p) (fun i _ => ⟨(zit_in hg p0 p1 i).1, (zit_in hg p0 p1 i).2, zln_orb hg hi p0 p1 i⟩) (fun i j hij hj he => ?_) _ (fun q q0 q1 => ?_)
  · have h1 : zit g p (j - i) = p := zit_back hg hi p0 p1 i (j - i) (by rw [show i + (j - i) = j by omega]; exact he.symm)
    exact hp.2.2.2 (j - i) (by omega) (by omega) h1
  · by_cases e : zln g q = zln g p
    · exact Or.inl ⟨e, if_pos e⟩
    · exact Or.inr ⟨e, if_neg e⟩
end ZQ56
