section ZPAR
/-! the parity of a permutation: inversions against circles -/
def gT (x y : Int) : Int := if x < y then 1 else 0
theorem gT_sw {x y : Int} (h : x ≠ y) : gT x y + gT y x = 1 := by unfold gT; (repeat' split) <;> omega
def gI (g : Int → Int) : Int := zSm (fun p => zSm (fun o => if o < p ∧ g p < g o then 1 else 0) 10) 10
theorem gI_eq (g : Int → Int) : gI g = (gT (g 1) (g 0)) + (gT (g 2) (g 0) + gT (g 2) (g 1)) + (gT (g 3) (g 0) + gT (g 3) (g 1) + gT (g 3) (g 2)) + (gT (g 4) (g 0) + gT (g 4) (g 1) + gT (g 4) (g 2) + gT (g 4) (g 3)) + (gT (g 5) (g 0) + gT (g 5) (g 1) + gT (g 5) (g 2) + gT (g 5) (g 3) + gT (g 5) (g 4)) + (gT (g 6) (g 0) + gT (g 6) (g 1) + gT (g 6) (g 2) + gT (g 6) (g 3) + gT (g 6) (g 4) + gT (g 6) (g 5)) + (gT (g 7) (g 0) + gT (g 7) (g 1) + gT (g 7) (g 2) + gT (g 7) (g 3) + gT (g 7) (g 4) + gT (g 7) (g 5) + gT (g 7) (g 6)) + (gT (g 8) (g 0) + gT (g 8) (g 1) + gT (g 8) (g 2) + gT (g 8) (g 3) + gT (g 8) (g 4) + gT (g 8) (g 5) + gT (g 8) (g 6) + gT (g 8) (g 7)) + (gT (g 9) (g 0) + gT (g 9) (g 1) + gT (g 9) (g 2) + gT (g 9) (g 3) + gT (g 9) (g 4) + gT (g 9) (g 5) + gT (g 9) (g 6) + gT (g 9) (g 7) + gT (g 9) (g 8)) := by
  have e10 : ∀ f : Int → Int, zSm f 10 = f 0 + f 1 + f 2 + f 3 + f 4 + f 5 + f 6 + f 7 + f 8 + f 9 := fun f => by
    show 0 + f 0 + f 1 + f 2 + f 3 + f 4 + f 5 + f 6 + f 7 + f 8 + f 9 = _
    rw [Int.zero_add]
  have ey : ∀ {o p : Int}, o < p → (if o < p ∧ g p < g o then (1 : Int) else 0) = gT (g p) (g o) := fun {o p} h => by
    unfold gT
    by_cases e : g p < g o
    · rw [if_pos ⟨h, e⟩, if_pos e]
    · rw [if_neg (fun z => e z.2), if_neg e]
  have en : ∀ {o p : Int}, ¬ o < p → (if o < p ∧ g p < g o then (1 : Int) else 0) = 0 := fun {o p} h => if_neg (fun z => h z.1)
  unfold gI
  simp (disch := decide) only [e10, ey, en]
  omega
/-- the circles: those who are the least of theirs -/
noncomputable def gCy (g : Int → Int) (q : Int) : Int := zif (∃ j, 0 ≤ j ∧ j < q ∧ ∃ t, zit g j t = q) 0 1
theorem gsw_0_1 (g : Int → Int) (hi : ∀ p q, 0 ≤ p → p < 10 → 0 ≤ q → q < 10 → g p = g q → p = q) : gI (zex g 0 1) % 2 = (gI g + 1) % 2 := by
  have e0 : zex g 0 1 0 = g 1 := by unfold zex; rw [zup_ne _ _ _ (by decide), zup_eq]
  have e1 : zex g 0 1 1 = g 0 := by unfold zex; rw [zup_eq]
  have e2 : zex g 0 1 2 = g 2 := by unfold zex; rw [zup_ne _ _ _ (by decide), zup_ne _ _ _ (by decide)]
  have e3 : zex g 0 1 3 = g 3 := by unfold zex; rw [zup_ne _ _ _ (by decide), zup_ne _ _ _ (by decide)]
  have e4 : zex g 0 1 4 = g 4 := by unfold zex; rw [zup_ne _ _ _ (by decide), zup_ne _ _ _ (by decide)]
  have e5 : zex g 0 1 5 = g 5 := by unfold zex; rw [zup_ne _ _ _ (by decide), zup_ne _ _ _ (by decide)]
  have e6 : zex g 0 1 6 = g 6 := by unfold zex; rw [zup_ne _ _ _ (by decide), zup_ne _ _ _ (by decide)]
  have e7 : zex g 0 1 7 = g 7 := by unfold zex; rw [zup_ne _ _ _ (by decide), zup_ne _ _ _ (by decide)]
  have e8 : zex g 0 1 8 = g 8 := by unfold zex; rw [zup_ne _ _ _ (by decide), zup_ne _ _ _ (by decide)]
  have e9 : zex g 0 1 9 = g 9 := by unfold zex; rw [zup_ne _ _ _ (by decide), zup_ne _ _ _ (by decide)]
  have s01 := gT_sw (x := g 0) (y := g 1) (fun z => absurd (hi 0 1 (by decide) (by decide) (by decide) (by decide) z) (by decide))
  rw [gI_eq, gI_eq, e0, e1, e2, e3, e4, e5, e6, e7, e8, e9]
  omega
theorem gsw_0_2 (g : Int → Int) (hi : ∀ p q, 0 ≤ p → p < 10 → 0 ≤ q → q < 10 → g p = g q → p = q) : gI (zex g 0 2) % 2 = (gI g + 1) % 2 := by
  have e0 : zex g 0 2 0 = g 2 := by unfold zex; rw [zup_ne _ _ _ (by decide), zup_eq]
  have e1 : zex g 0 2 1 = g 1 := by unfold zex; rw [zup_ne _ _ _ (by decide), zup_ne _ _ _ (by decide)]
  have e2 : zex g 0 2 2 = g 0 := by unfold zex; rw [zup_eq]
  have e3 : zex g 0 2 3 = g 3 := by unfold zex; rw [zup_ne _ _ _ (by decide), zup_ne _ _ _ (by decide)]
  have e4 : zex g 0 2 4 = g 4 := by unfold zex; rw [zup_ne _ _ _ (by decide), zup_ne _ _ _ (by decide)]
  have e5 : zex g 0 2 5 = g 5 := by unfold zex; rw [zup_ne _ _ _ (by decide), zup_ne _ _ _ (by decide)]
  have e6 : zex g 0 2 6 = g 6 := by unfold zex; rw [zup_ne _ _ _ (by decide), zup_ne _ _ _ (by decide)]
  have e7 : zex g 0 2 7 = g 7 := by unfold zex; rw [zup_ne _ _ _ (by decide), zup_ne _ _ _ (by decide)]
  have e8 : zex g 0 2 8 = g 8 := by unfold zex; rw [zup_ne _ _ _ (by decide), zup_ne _ _ _ (by decide)]
  have e9 : zex g 0 2 9 = g 9 := by unfold zex; rw [zup_ne _ _ _ (by decide), zup_ne _ _ _ (by decide)]
  have s02 := gT_sw (x := g 0) (y := g 2) (fun z => absurd (hi 0 2 (by decide) (by decide) (by decide) (by decide) z) (by decide))
  have s01 := gT_sw (x := g 0) (y := g 1) (fun z => absurd (hi 0 1 (by decide) (by decide) (by decide) (by decide) z) (by decide))
  have s12 := gT_sw (x := g 1) (y := g 2) (fun z => absurd (hi 1 2 (by decide) (by decide) (by decide) (by decide) z) (by decide))
  rw [gI_eq, gI_eq, e0, e1, e2, e3, e4, e5, e6, e7, e8, e9]
  omega
theorem gsw_1_2 (g : Int → Int) (hi : ∀ p q, 0 ≤ p → p < 10 → 0 ≤ q → q < 10 → g p = g q → p = q) : gI (zex g 1 2) % 2 = (gI g + 1) % 2 := by
  have e0 : zex g 1 2 0 = g 0 := by unfold zex; rw [zup_ne _ _ _ (by decide), zup_ne _ _ _ (by decide)]
  have e1 : zex g 1 2 1 = g 2 := by unfold zex; rw [zup_ne _ _ _ (by decide), zup_eq]
  have e2 : zex g 1 2 2 = g 1 := by unfold zex; rw [zup_eq]
  have e3 : zex g 1 2 3 = g 3 := by unfold zex; rw [zup_ne _ _ _ (by decide), zup_ne _ _ _ (by decide)]
  have e4 : zex g 1 2 4 = g 4 := by unfold zex; rw [zup_ne _ _ _ (by decide), zup_ne _ _ _ (by decide)]
  have e5 : zex g 1 2 5 = g 5 := by unfold zex; rw [zup_ne _ _ _ (by decide), zup_ne _ _ _ (by decide)]
  have e6 : zex g 1 2 6 = g 6 := by unfold zex; rw [zup_ne _ _ _ (by decide), zup_ne _ _ _ (by decide)]
  have e7 : zex g 1 2 7 = g 7 := by unfold zex; rw [zup_ne _ _ _ (by decide), zup_ne _ _ _ (by decide)]
  have e8 : zex g 1 2 8 = g 8 := by unfold zex; rw [zup_ne _ _ _ (by decide), zup_ne _ _ _ (by decide)]
  have e9 : zex g 1 2 9 = g 9 := by unfold zex; rw [zup_ne _ _ _ (by decide), zup_ne _ _ _ (by decide)]
  have s12 := gT_sw (x := g 1) (y := g 2) (fun z => absurd (hi 1 2 (by decide) (by decide) (by decide) (by decide) z) (by decide))
  rw [gI_eq, gI_eq, e0, e1, e2, e3, e4, e5, e6, e7, e8, e9]
  omega
theorem gsw_0_3 (g : Int → Int) (hi : ∀ p q, 0 ≤ p → p < 10 → 0 ≤ q → q < 10 → g p = g q → p = q) : gI (zex g 0 3) % 2 = (gI g + 1) % 2 := by
  have e0 : zex g 0 3 0 = g 3 := by unfold zex; rw [zup_ne _ _ _ (by decide), zup_eq]
  have e1 : zex g 0 3 1 = g 1 := by unfold zex; rw [zup_ne _ _ _ (by decide), zup_ne _ _ _ (by decide)]
  have e2 : zex g 0 3 2 = g 2 := by unfold zex; rw [zup_ne _ _ _ (by decide), zup_ne _ _ _ (by decide)]
  have e3 : zex g 0 3 3 = g 0 := by unfold zex; rw [zup_eq]
  have e4 : zex g 0 3 4 = g 4 := by unfold zex; rw [zup_ne _ _ _ (by decide), zup_ne _ _ _ (by decide)]
  have e5 : zex g 0 3 5 = g 5 := by unfold zex; rw [zup_ne _ _ _ (by decide), zup_ne _ _ _ (by decide)]
  have e6 : zex g 0 3 6 = g 6 := by unfold zex; rw [zup_ne _ _ _ (by decide), zup_ne _ _ _ (by decide)]
  have e7 : zex g 0 3 7 = g 7 := by unfold zex; rw [zup_ne _ _ _ (by decide), zup_ne _ _ _ (by decide)]
  have e8 : zex g 0 3 8 = g 8 := by unfold zex; rw [zup_ne _ _ _ (by decide), zup_ne _ _ _ (by decide)]
  have e9 : zex g 0 3 9 = g 9 := by unfold zex; rw [zup_ne _ _ _ (by decide), zup_ne _ _ _ (by decide)]
  have s03 := gT_sw (x := g 0) (y := g 3) (fun z => absurd (hi 0 3 (by decide) (by decide) (by decide) (by decide) z) (by decide))
  have s01 := gT_sw (x := g 0) (y := g 1) (fun z => absurd (hi 0 1 (by decide) (by decide) (by decide) (by decide) z) (by decide))
  have s02 := gT_sw (x := g 0) (y := g 2) (fun z => absurd (hi 0 2 (by decide) (by decide) (by decide) (by decide) z) (by decide))
  have s13 := gT_sw (x := g 1) (y := g 3) (fun z => absurd (hi 1 3 (by decide) (by decide) (by decide) (by decide) z) (by decide))
  have s23 := gT_sw (x := g 2) (y := g 3) (fun z => absurd (hi 2 3 (by decide) (by decide) (by decide) (by decide) z) (by decide))
  rw [gI_eq, gI_eq, e0, e1, e2, e3, e4, e5, e6, e7, e8, e9]
  omega
theorem gsw_1_3 (g : Int → Int) (hi : ∀ p q, 0 ≤ p → p < 10 → 0 ≤ q → q < 10 → g p = g q → p = q) : gI (zex g 1 3) % 2 = (gI g + 1) % 2 := by
  have e0 : zex g 1 3 0 = g 0 := by unfold zex; rw [zup_ne _ _ _ (by decide), zup_ne _ _ _ (by decide)]
  have e1 : zex g 1 3 1 = g 3 := by unfold zex; rw [zup_ne _ _ _ (by decide), zup_eq]
  have e2 : zex g 1 3 2 = g 2 := by unfold zex; rw [zup_ne _ _ _ (by decide), zup_ne _ _ _ (by decide)]
  have e3 : zex g 1 3 3 = g 1 := by unfold zex; rw [zup_eq]
  have e4 : zex g 1 3 4 = g 4 := by unfold zex; rw [zup_ne _ _ _ (by decide), zup_ne _ _ _ (by decide)]
  have e5 : zex g 1 3 5 = g 5 := by unfold zex; rw [zup_ne _ _ _ (by decide), zup_ne _ _ _ (by decide)]
  have e6 : zex g 1 3 6 = g 6 := by unfold zex; rw [zup_ne _ _ _ (by decide), zup_ne _ _ _ (by decide)]
  have e7 : zex g 1 3 7 = g 7 := by unfold zex; rw [zup_ne _ _ _ (by decide), zup_ne _ _ _ (by decide)]
  have e8 : zex g 1 3 8 = g 8 := by unfold zex; rw [zup_ne _ _ _ (by decide), zup_ne _ _ _ (by decide)]
  have e9 : zex g 1 3 9 = g 9 := by unfold zex; rw [zup_ne _ _ _ (by decide), zup_ne _ _ _ (by decide)]
  have s13 := gT_sw (x := g 1) (y := g 3) (fun z => absurd (hi 1 3 (by decide) (by decide) (by decide) (by decide) z) (by decide))
  have s12 := gT_sw (x := g 1) (y := g 2) (fun z => absurd (hi 1 2 (by decide) (by decide) (by decide) (by decide) z) (by decide))
  have s23 := gT_sw (x := g 2) (y := g 3) (fun z => absurd (hi 2 3 (by decide) (by decide) (by decide) (by decide) z) (by decide))
  rw [gI_eq, gI_eq, e0, e1, e2, e3, e4, e5, e6, e7, e8, e9]
  omega
theorem gsw_2_3 (g : Int → Int) (hi : ∀ p q, 0 ≤ p → p < 10 → 0 ≤ q → q < 10 → g p = g q → p = q) : gI (zex g 2 3) % 2 = (gI g + 1) % 2 := by
  have e0 : zex g 2 3 0 = g 0 := by unfold zex; rw [zup_ne _ _ _ (by decide), zup_ne _ _ _ (by decide)]
  have e1 : zex g 2 3 1 = g 1 := by unfold zex; rw [zup_ne _ _ _ (by decide), zup_ne _ _ _ (by decide)]
  have e2 : zex g 2 3 2 = g 3 := by unfold zex; rw [zup_ne _ _ _ (by decide), zup_eq]
  have e3 : zex g 2 3 3 = g 2 := by unfold zex; rw [zup_eq]
  have e4 : zex g 2 3 4 = g 4 := by unfold zex; rw [zup_ne _ _ _ (by decide), zup_ne _ _ _ (by decide)]
  have e5 : zex g 2 3 5 = g 5 := by unfold zex; rw [zup_ne _ _ _ (by decide), zup_ne _ _ _ (by decide)]
  have e6 : zex g 2 3 6 = g 6 := by unfold zex; rw [zup_ne _ _ _ (by decide), zup_ne _ _ _ (by decide)]
  have e7 : zex g 2 3 7 = g 7 := by unfold zex; rw [zup_ne _ _ _ (by decide), zup_ne _ _ _ (by decide)]
  have e8 : zex g 2 3 8 = g 8 := by unfold zex; rw [zup_ne _ _ _ (by decide), zup_ne _ _ _ (by decide)]
  have e9 : zex g 2 3 9 = g 9 := by unfold zex; rw [zup_ne _ _ _ (by decide), zup_ne _ _ _ (by decide)]
  have s23 := gT_sw (x := g 2) (y := g 3) (fun z => absurd (hi 2 3 (by decide) (by decide) (by decide) (by decide) z) (by decide))
  rw [gI_eq, gI_eq, e0, e1, e2, e3, e4, e5, e6, e7, e8, e9]
  omega
theorem gsw_0_4 (g : Int → Int) (hi : ∀ p q, 0 ≤ p → p < 10 → 0 ≤ q → q < 10 → g p = g q → p = q) : gI (zex g 0 4) % 2 = (gI g + 1) % 2 := by
  have e0 : zex g 0 4 0 = g 4 := by unfold zex; rw [zup_ne _ _ _ (by decide), zup_eq]
  have e1 : zex g 0 4 1 = g 1 := by unfold zex; rw [zup_ne _ _ _ (by decide), zup_ne _ _ _ (by decide)]
  have e2 : zex g 0 4 2 = g 2 := by unfold zex; rw [zup_ne _ _ _ (by decide), zup_ne _ _ _ (by decide)]
  have e3 : zex g 0 4 3 = g 3 := by unfold zex; rw [zup_ne _ _ _ (by decide), zup_ne _ _ _ (by decide)]
  have e4 : zex g 0 4 4 = g 0 := by unfold zex; rw [zup_eq]
  have e5 : zex g 0 4 5 = g 5 := by unfold zex; rw [zup_ne _ _ _ (by decide), zup_ne _ _ _ (by decide)]
  have e6 : zex g 0 4 6 = g 6 := by unfold zex; rw [zup_ne _ _ _ (by decide), zup_ne _ _ _ (by decide)]
  have e7 : zex g 0 4 7 = g 7 := by unfold zex; rw [zup_ne _ _ _ (by decide), zup_ne _ _ _ (by decide)]
  have e8 : zex g 0 4 8 = g 8 := by unfold zex; rw [zup_ne _ _ _ (by decide), zup_ne _ _ _ (by decide)]
  have e9 : zex g 0 4 9 = g 9 := by unfold zex; rw [zup_ne _ _ _ (by decide), zup_ne _ _ _ (by decide)]
  have s04 := gT_sw (x := g 0) (y := g 4) (fun z => absurd (hi 0 4 (by decide) (by decide) (by decide) (by decide) z) (by decide))
  have s01 := gT_sw (x := g 0) (y := g 1) (fun z => absurd (hi 0 1 (by decide) (by decide) (by decide) (by decide) z) (by decide))
  have s02 := gT_sw (x := g 0) (y := g 2) (fun z => absurd (hi 0 2 (by decide) (by decide) (by decide) (by decide) z) (by decide))
  have s03 := gT_sw (x := g 0) (y := g 3) (fun z => absurd (hi 0 3 (by decide) (by decide) (by decide) (by decide) z) (by decide))
  have s14 := gT_sw (x := g 1) (y := g 4) (fun z => absurd (hi 1 4 (by decide) (by decide) (by decide) (by decide) z) (by decide))
  have s24 := gT_sw (x := g 2) (y := g 4) (fun z => absurd (hi 2 4 (by decide) (by decide) (by decide) (by decide) z) (by decide))
  have s34 := gT_sw (x := g 3) (y := g 4) (fun z => absurd (hi 3 4 (by decide) (by decide) (by decide) (by decide) z) (by decide))
  rw [gI_eq, gI_eq, e0, e1, e2, e3, e4, e5, e6, e7, e8, e9]
  omega
theorem gsw_1_4 (g : Int → Int) (hi : ∀ p q, 0 ≤ p → p < 10 → 0 ≤ q → q < 10 → g p = g q → p = q) : gI (zex g 1 4) % 2 = (gI g + 1) % 2 := by
  have e0 : zex g 1 4 0 = g 0 := by unfold zex; rw [zup_ne _ _ _ (by decide), zup_ne _ _ _ (by decide)]
  have e1 : zex g 1 4 1 = g 4 := by unfold zex; rw [zup_ne _ _ _ (by decide), zup_eq]
  have e2 : zex g 1 4 2 = g 2 := by unfold zex; rw [zup_ne _ _ _ (by decide), zup_ne _ _ _ (by decide)]
  have e3 : zex g 1 4 3 = g 3 := by unfold zex; rw [zup_ne _ _ _ (by decide), zup_ne _ _ _ (by decide)]
  have e4 : zex g 1 4 4 = g 1 := by unfold zex; rw [zup_eq]
  have e5 : zex g 1 4 5 = g 5 := by unfold zex; rw [zup_ne _ _ _ (by decide), zup_ne _ _ _ (by decide)]
  have e6 : zex g 1 4 6 = g 6 := by unfold zex; rw [zup_ne _ _ _ (by decide), zup_ne _ _ _ (by decide)]
  have e7 : zex g 1 4 7 = g 7 := by unfold zex; rw [zup_ne _ _ _ (by decide), zup_ne _ _ _ (by decide)]
  have e8 : zex g 1 4 8 = g 8 := by unfold zex; rw [zup_ne _ _ _ (by decide), zup_ne _ _ _ (by decide)]
  have e9 : zex g 1 4 9 = g 9 := by unfold zex; rw [zup_ne _ _ _ (by decide), zup_ne _ _ _ (by decide)]
  have s14 := gT_sw (x := g 1) (y := g 4) (fun z => absurd (hi 1 4 (by decide) (by decide) (by decide) (by decide) z) (by decide))
  have s12 := gT_sw (x := g 1) (y := g 2) (fun z => absurd (hi 1 2 (by decide) (by decide) (by decide) (by decide) z) (by decide))
  have s13 := gT_sw (x := g 1) (y := g 3) (fun z => absurd (hi 1 3 (by decide) (by decide) (by decide) (by decide) z) (by decide))
  have s24 := gT_sw (x := g 2) (y := g 4) (fun z => absurd (hi 2 4 (by decide) (by decide) (by decide) (by decide) z) (by decide))
  have s34 := gT_sw (x := g 3) (y := g 4) (fun z => absurd (hi 3 4 (by decide) (by decide) (by decide) (by decide) z) (by decide))
  rw [gI_eq, gI_eq, e0, e1, e2, e3, e4, e5, e6, e7, e8, e9]
  omega
theorem gsw_2_4 (g : Int → Int) (hi : ∀ p q, 0 ≤ p → p < 10 → 0 ≤ q → q < 10 → g p = g q → p = q) : gI (zex g 2 4) % 2 = (gI g + 1) % 2 := by
  have e0 : zex g 2 4 0 = g 0 := by unfold zex; rw [zup_ne _ _ _ (by decide), zup_ne _ _ _ (by decide)]
  have e1 : zex g 2 4 1 = g 1 := by unfold zex; rw [zup_ne _ _ _ (by decide), zup_ne _ _ _ (by decide)]
  have e2 : zex g 2 4 2 = g 4 := by unfold zex; rw [zup_ne _ _ _ (by decide), zup_eq]
  have e3 : zex g 2 4 3 = g 3 := by unfold zex; rw [zup_ne _ _ _ (by decide), zup_ne _ _ _ (by decide)]
  have e4 : zex g 2 4 4 = g 2 := by unfold zex; rw [zup_eq]
  have e5 : zex g 2 4 5 = g 5 := by unfold zex; rw [zup_ne _ _ _ (by decide), zup_ne _ _ _ (by decide)]
  have e6 : zex g 2 4 6 = g 6 := by unfold zex; rw [zup_ne _ _ _ (by decide), zup_ne _ _ _ (by decide)]
  have e7 : zex g 2 4 7 = g 7 := by unfold zex; rw [zup_ne _ _ _ (by decide), zup_ne _ _ _ (by decide)]
  have e8 : zex g 2 4 8 = g 8 := by unfold zex; rw [zup_ne _ _ _ (by decide), zup_ne _ _ _ (by decide)]
  have e9 : zex g 2 4 9 = g 9 := by unfold zex; rw [zup_ne _ _ _ (by decide), zup_ne _ _ _ (by decide)]
  have s24 := gT_sw (x := g 2) (y := g 4) (fun z => absurd (hi 2 4 (by decide) (by decide) (by decide) (by decide) z) (by decide))
  have s23 := gT_sw (x := g 2) (y := g 3) (fun z => absurd (hi 2 3 (by decide) (by decide) (by decide) (by decide) z) (by decide))
  have s34 := gT_sw (x := g 3) (y := g 4) (fun z => absurd (hi 3 4 (by decide) (by decide) (by decide) (by decide) z) (by decide))
  rw [gI_eq, gI_eq, e0, e1, e2, e3, e4, e5, e6, e7, e8, e9]
  omega
theorem gsw_3_4 (g : Int → Int) (hi : ∀ p q, 0 ≤ p → p < 10 → 0 ≤ q → q < 10 → g p = g q → p = q) : gI (zex g 3 4) % 2 = (gI g + 1) % 2 := by
  have e0 : zex g 3 4 0 = g 0 := by unfold zex; rw [zup_ne _ _ _ (by decide), zup_ne _ _ _ (by decide)]
  have e1 : zex g 3 4 1 = g 1 := by unfold zex; rw [zup_ne _ _ _ (by decide), zup_ne _ _ _ (by decide)]
  have e2 : zex g 3 4 2 = g 2 := by unfold zex; rw [zup_ne _ _ _ (by decide), zup_ne _ _ _ (by decide)]
  have e3 : zex g 3 4 3 = g 4 := by unfold zex; rw [zup_ne _ _ _ (by decide), zup_eq]
  have e4 : zex g 3 4 4 = g 3 := by unfold zex; rw [zup_eq]
  have e5 : zex g 3 4 5 = g 5 := by unfold zex; rw [zup_ne _ _ _ (by decide), zup_ne _ _ _ (by decide)]
  have e6 : zex g 3 4 6 = g 6 := by unfold zex; rw [zup_ne _ _ _ (by decide), zup_ne _ _ _ (by decide)]
  have e7 : zex g 3 4 7 = g 7 := by unfold zex; rw [zup_ne _ _ _ (by decide), zup_ne _ _ _ (by decide)]
  have e8 : zex g 3 4 8 = g 8 := by unfold zex; rw [zup_ne _ _ _ (by decide), zup_ne _ _ _ (by decide)]
  have e9 : zex g 3 4 9 = g 9 := by unfold zex; rw [zup_ne _ _ _ (by decide), zup_ne _ _ _ (by decide)]
  have s34 := gT_sw (x := g 3) (y := g 4) (fun z => absurd (hi 3 4 (by decide) (by decide) (by decide) (by decide) z) (by decide))
  rw [gI_eq, gI_eq, e0, e1, e2, e3, e4, e5, e6, e7, e8, e9]
  omega
theorem gsw_0_5 (g : Int → Int) (hi : ∀ p q, 0 ≤ p → p < 10 → 0 ≤ q → q < 10 → g p = g q → p = q) : gI (zex g 0 5) % 2 = (gI g + 1) % 2 := by
  have e0 : zex g 0 5 0 = g 5 := by unfold zex; rw [zup_ne _ _ _ (by decide), zup_eq]
  have e1 : zex g 0 5 1 = g 1 := by unfold zex; rw [zup_ne _ _ _ (by decide), zup_ne _ _ _ (by decide)]
  have e2 : zex g 0 5 2 = g 2 := by unfold zex; rw [zup_ne _ _ _ (by decide), zup_ne _ _ _ (by decide)]
  have e3 : zex g 0 5 3 = g 3 := by unfold zex; rw [zup_ne _ _ _ (by decide), zup_ne _ _ _ (by decide)]
  have e4 : zex g 0 5 4 = g 4 := by unfold zex; rw [zup_ne _ _ _ (by decide), zup_ne _ _ _ (by decide)]
  have e5 : zex g 0 5 5 = g 0 := by unfold zex; rw [zup_eq]
  have e6 : zex g 0 5 6 = g 6 := by unfold zex; rw [zup_ne _ _ _ (by decide), zup_ne _ _ _ (by decide)]
  have e7 : zex g 0 5 7 = g 7 := by unfold zex; rw [zup_ne _ _ _ (by decide), zup_ne _ _ _ (by decide)]
  have e8 : zex g 0 5 8 = g 8 := by unfold zex; rw [zup_ne _ _ _ (by decide), zup_ne _ _ _ (by decide)]
  have e9 : zex g 0 5 9 = g 9 := by unfold zex; rw [zup_ne _ _ _ (by decide), zup_ne _ _ _ (by decide)]
  have s05 := gT_sw (x := g 0) (y := g 5) (fun z => absurd (hi 0 5 (by decide) (by decide) (by decide) (by decide) z) (by decide))
  have s01 := gT_sw (x := g 0) (y := g 1) (fun z => absurd (hi 0 1 (by decide) (by decide) (by decide) (by decide) z) (by decide))
  have s02 := gT_sw (x := g 0) (y := g 2) (fun z => absurd (hi 0 2 (by decide) (by decide) (by decide) (by decide) z) (by decide))
  have s03 := gT_sw (x := g 0) (y := g 3) (fun z => absurd (hi 0 3 (by decide) (by decide) (by decide) (by decide) z) (by decide))
  have s04 := gT_sw (x := g 0) (y := g 4) (fun z => absurd (hi 0 4 (by decide) (by decide) (by decide) (by decide) z) (by decide))
  have s15 := gT_sw (x := g 1) (y := g 5) (fun z => absurd (hi 1 5 (by decide) (by decide) (by decide) (by decide) z) (by decide))
  have s25 := gT_sw (x := g 2) (y := g 5) (fun z => absurd (hi 2 5 (by decide) (by decide) (by decide) (by decide) z) (by decide))
  have s35 := gT_sw (x := g 3) (y := g 5) (fun z => absurd (hi 3 5 (by decide) (by decide) (by decide) (by decide) z) (by decide))
  have s45 := gT_sw (x := g 4) (y := g 5) (fun z => absurd (hi 4 5 (by decide) (by decide) (by decide) (by decide) z) (by decide))
  rw [gI_eq, gI_eq, e0, e1, e2, e3, e4, e5, e6, e7, e8, e9]
  omega
theorem gsw_1_5 (g : Int → Int) (hi : ∀ p q, 0 ≤ p → p < 10 → 0 ≤ q → q < 10 → g p = g q → p = q) : gI (zex g 1 5) % 2 = (gI g + 1) % 2 := by
  have e0 : zex g 1 5 0 = g 0 := by unfold zex; rw [zup_ne _ _ _ (by decide), zup_ne _ _ _ (by decide)]
  have e1 : zex g 1 5 1 = g 5 := by unfold zex; rw [zup_ne _ _ _ (by decide), zup_eq]
  have e2 : zex g 1 5 2 = g 2 := by unfold zex; rw [zup_ne _ _ _ (by decide), zup_ne _ _ _ (by decide)]
  have e3 : zex g 1 5 3 = g 3 := by unfold zex; rw [zup_ne _ _ _ (by decide), zup_ne _ _ _ (by decide)]
  have e4 : zex g 1 5 4 = g 4 := by unfold zex; rw [zup_ne _ _ _ (by decide), zup_ne _ _ _ (by decide)]
  have e5 : zex g 1 5 5 = g 1 := by unfold zex; rw [zup_eq]
  have e6 : zex g 1 5 6 = g 6 := by unfold zex; rw [zup_ne _ _ _ (by decide), zup_ne _ _ _ (by decide)]
  have e7 : zex g 1 5 7 = g 7 := by unfold zex; rw [zup_ne _ _ _ (by decide), zup_ne _ _ _ (by decide)]
  have e8 : zex g 1 5 8 = g 8 := by unfold zex; rw [zup_ne _ _ _ (by decide), zup_ne _ _ _ (by decide)]
  have e9 : zex g 1 5 9 = g 9 := by unfold zex; rw [zup_ne _ _ _ (by decide), zup_ne _ _ _ (by decide)]
  have s15 := gT_sw (x := g 1) (y := g 5) (fun z => absurd (hi 1 5 (by decide) (by decide) (by decide) (by decide) z) (by decide))
  have s12 := gT_sw (x := g 1) (y := g 2) (fun z => absurd (hi 1 2 (by decide) (by decide) (by decide) (by decide) z) (by decide))
  have s13 := gT_sw (x := g 1) (y := g 3) (fun z => absurd (hi 1 3 (by decide) (by decide) (by decide) (by decide) z) (by decide))
  have s14 := gT_sw (x := g 1) (y := g 4) (fun z => absurd (hi 1 4 (by decide) (by decide) (by decide) (by decide) z) (by decide))
  have s25 := gT_sw (x := g 2) (y := g 5) (fun z => absurd (hi 2 5 (by decide) (by decide) (by decide) (by decide) z) (by decide))
  have s35 := gT_sw (x := g 3) (y := g 5) (fun z => absurd (hi 3 5 (by decide) (by decide) (by decide) (by decide) z) (by decide))
  have s45 := gT_sw (x := g 4) (y := g 5) (fun z => absurd (hi 4 5 (by decide) (by decide) (by decide) (by decide) z) (by decide))
  rw [gI_eq, gI_eq, e0, e1, e2, e3, e4, e5, e6, e7, e8, e9]
  omega
theorem gsw_2_5 (g : Int → Int) (hi : ∀ p q, 0 ≤ p → p < 10 → 0 ≤ q → q < 10 → g p = g q → p = q) : gI (zex g 2 5) % 2 = (gI g + 1) % 2 := by
  have e0 : zex g 2 5 0 = g 0 := by unfold zex; rw [zup_ne _ _ _ (by decide), zup_ne _ _ _ (by decide)]
  have e1 : zex g 2 5 1 = g 1 := by unfold zex; rw [zup_ne _ _ _ (by decide), zup_ne _ _ _ (by decide)]
  have e2 : zex g 2 5 2 = g 5 := by unfold zex; rw [zup_ne _ _ _ (by decide), zup_eq]
  have e3 : zex g 2 5 3 = g 3 := by unfold zex; rw [zup_ne _ _ _ (by decide), zup_ne _ _ _ (by decide)]
  have e4 : zex g 2 5 4 = g 4 := by unfold zex; rw [zup_ne _ _ _ (by decide), zup_ne _ _ _ (by decide)]
  have e5 : zex g 2 5 5 = g 2 := by unfold zex; rw [zup_eq]
  have e6 : zex g 2 5 6 = g 6 := by unfold zex; rw [zup_ne _ _ _ (by decide), zup_ne _ _ _ (by decide)]
  have e7 : zex g 2 5 7 = g 7 := by unfold zex; rw [zup_ne _ _ _ (by decide), zup_ne _ _ _ (by decide)]
  have e8 : zex g 2 5 8 = g 8 := by unfold zex; rw [zup_ne _ _ _ (by decide), zup_ne _ _ _ (by decide)]
  have e9 : zex g 2 5 9 = g 9 := by unfold zex; rw [zup_ne _ _ _ (by decide), zup_ne _ _ _ (by decide)]
  have s25 := gT_sw (x := g 2) (y := g 5) (fun z => absurd (hi 2 5 (by decide) (by decide) (by decide) (by decide) z) (by decide))
  have s23 := gT_sw (x := g 2) (y := g 3) (fun z => absurd (hi 2 3 (by decide) (by decide) (by decide) (by decide) z) (by decide))
  have s24 := gT_sw (x := g 2) (y := g 4) (fun z => absurd (hi 2 4 (by decide) (by decide) (by decide) (by decide) z) (by decide))
  have s35 := gT_sw (x := g 3) (y := g 5) (fun z => absurd (hi 3 5 (by decide) (by decide) (by decide) (by decide) z) (by decide))
  have s45 := gT_sw (x := g 4) (y := g 5) (fun z => absurd (hi 4 5 (by decide) (by decide) (by decide) (by decide) z) (by decide))
  rw [gI_eq, gI_eq, e0, e1, e2, e3, e4, e5, e6, e7, e8, e9]
  omega
theorem gsw_3_5 (g : Int → Int) (hi : ∀ p q, 0 ≤ p → p < 10 → 0 ≤ q → q < 10 → g p = g q → p = q) : gI (zex g 3 5) % 2 = (gI g + 1) % 2 := by
  have e0 : zex g 3 5 0 = g 0 := by unfold zex; rw [zup_ne _ _ _ (by decide), zup_ne _ _ _ (by decide)]
  have e1 : zex g 3 5 1 = g 1 := by unfold zex; rw [zup_ne _ _ _ (by decide), zup_ne _ _ _ (by decide)]
  have e2 : zex g 3 5 2 = g 2 := by unfold zex; rw [zup_ne _ _ _ (by decide), zup_ne _ _ _ (by decide)]
  have e3 : zex g 3 5 3 = g 5 := by unfold zex; rw [zup_ne _ _ _ (by decide), zup_eq]
  have e4 : zex g 3 5 4 = g 4 := by unfold zex; rw [zup_ne _ _ _ (by decide), zup_ne _ _ _ (by decide)]
  have e5 : zex g 3 5 5 = g 3 := by unfold zex; rw [zup_eq]
  have e6 : zex g 3 5 6 = g 6 := by unfold zex; rw [zup_ne _ _ _ (by decide), zup_ne _ _ _ (by decide)]
  have e7 : zex g 3 5 7 = g 7 := by unfold zex; rw [zup_ne _ _ _ (by decide), zup_ne _ _ _ (by decide)]
  have e8 : zex g 3 5 8 = g 8 := by unfold zex; rw [zup_ne _ _ _ (by decide), zup_ne _ _ _ (by decide)]
  have e9 : zex g 3 5 9 = g 9 := by unfold zex; rw [zup_ne _ _ _ (by decide), zup_ne _ _ _ (by decide)]
  have s35 := gT_sw (x := g 3) (y := g 5) (fun z => absurd (hi 3 5 (by decide) (by decide) (by decide) (by decide) z) (by decide))
  have s34 := gT_sw (x := g 3) (y := g 4) (fun z => absurd (hi 3 4 (by decide) (by decide) (by decide) (by decide) z) (by decide))
  have s45 := gT_sw (x := g 4) (y := g 5) (fun z => absurd (hi 4 5 (by decide) (by decide) (by decide) (by decide) z) (by decide))
  rw [gI_eq, gI_eq, e0, e1, e2, e3, e4, e5, e6, e7, e8, e9]
  omega
theorem gsw_4_5 (g : Int → Int) (hi : ∀ p q, 0 ≤ p → p < 10 → 0 ≤ q → q < 10 → g p = g q → p = q) : gI (zex g 4 5) % 2 = (gI g + 1) % 2 := by
  have e0 : zex g 4 5 0 = g 0 := by unfold zex; rw [zup_ne _ _ _ (by decide), zup_ne _ _ _ (by decide)]
  have e1 : zex g 4 5 1 = g 1 := by unfold zex; rw [zup_ne _ _ _ (by decide), zup_ne _ _ _ (by decide)]
  have e2 : zex g 4 5 2 = g 2 := by unfold zex; rw [zup_ne _ _ _ (by decide), zup_ne _ _ _ (by decide)]
  have e3 : zex g 4 5 3 = g 3 := by unfold zex; rw [zup_ne _ _ _ (by decide), zup_ne _ _ _ (by decide)]
  have e4 : zex g 4 5 4 = g 5 := by unfold zex; rw [zup_ne _ _ _ (by decide), zup_eq]
  have e5 : zex g 4 5 5 = g 4 := by unfold zex; rw [zup_eq]
  have e6 : zex g 4 5 6 = g 6 := by unfold zex; rw [zup_ne _ _ _ (by decide), zup_ne _ _ _ (by decide)]
  have e7 : zex g 4 5 7 = g 7 := by unfold zex; rw [zup_ne _ _ _ (by decide), zup_ne _ _ _ (by decide)]
  have e8 : zex g 4 5 8 = g 8 := by unfold zex; rw [zup_ne _ _ _ (by decide), zup_ne _ _ _ (by decide)]
  have e9 : zex g 4 5 9 = g 9 := by unfold zex; rw [zup_ne _ _ _ (by decide), zup_ne _ _ _ (by decide)]
  have s45 := gT_sw (x := g 4) (y := g 5) (fun z => absurd (hi 4 5 (by decide) (by decide) (by decide) (by decide) z) (by decide))
  rw [gI_eq, gI_eq, e0, e1, e2, e3, e4, e5, e6, e7, e8, e9]
  omega
theorem gsw_0_6 (g : Int → Int) (hi : ∀ p q, 0 ≤ p → p < 10 → 0 ≤ q → q < 10 → g p = g q → p = q) : gI (zex g 0 6) % 2 = (gI g + 1) % 2 := by
  have e0 : zex g 0 6 0 = g 6 := by unfold zex; rw [zup_ne _ _ _ (by decide), zup_eq]
  have e1 : zex g 0 6 1 = g 1 := by unfold zex; rw [zup_ne _ _ _ (by decide), zup_ne _ _ _ (by decide)]
  have e2 : zex g 0 6 2 = g 2 := by unfold zex; rw [zup_ne _ _ _ (by decide), zup_ne _ _ _ (by decide)]
  have e3 : zex g 0 6 3 = g 3 := by unfold zex; rw [zup_ne _ _ _ (by decide), zup_ne _ _ _ (by decide)]
  have e4 : zex g 0 6 4 = g 4 := by unfold zex; rw [zup_ne _ _ _ (by decide), zup_ne _ _ _ (by decide)]
  have e5 : zex g 0 6 5 = g 5 := by unfold zex; rw [zup_ne _ _ _ (by decide), zup_ne _ _ _ (by decide)]
  have e6 : zex g 0 6 6 = g 0 := by unfold zex; rw [zup_eq]
  have e7 : zex g 0 6 7 = g 7 := by unfold zex; rw [zup_ne _ _ _ (by decide), zup_ne _ _ _ (by decide)]
  have e8 : zex g 0 6 8 = g 8 := by unfold zex; rw [zup_ne _ _ _ (by decide), zup_ne _ _ _ (by decide)]
  have e9 : zex g 0 6 9 = g 9 := by unfold zex; rw [zup_ne _ _ _ (by decide), zup_ne _ _ _ (by decide)]
  have s06 := gT_sw (x := g 0) (y := g 6) (fun z => absurd (hi 0 6 (by decide) (by decide) (by decide) (by decide) z) (by decide))
  have s01 := gT_sw (x := g 0) (y := g 1) (fun z => absurd (hi 0 1 (by decide) (by decide) (by decide) (by decide) z) (by decide))
  have s02 := gT_sw (x := g 0) (y := g 2) (fun z => absurd (hi 0 2 (by decide) (by decide) (by decide) (by decide) z) (by decide))
  have s03 := gT_sw (x := g 0) (y := g 3) (fun z => absurd (hi 0 3 (by decide) (by decide) (by decide) (by decide) z) (by decide))
  have s04 := gT_sw (x := g 0) (y := g 4) (fun z => absurd (hi 0 4 (by decide) (by decide) (by decide) (by decide) z) (by decide))
  have s05 := gT_sw (x := g 0) (y := g 5) (fun z => absurd (hi 0 5 (by decide) (by decide) (by decide) (by decide) z) (by decide))
  have s16 := gT_sw (x := g 1) (y := g 6) (fun z => absurd (hi 1 6 (by decide) (by decide) (by decide) (by decide) z) (by decide))
  have s26 := gT_sw (x := g 2) (y := g 6) (fun z => absurd (hi 2 6 (by decide) (by decide) (by decide) (by decide) z) (by decide))
  have s36 := gT_sw (x := g 3) (y := g 6) (fun z => absurd (hi 3 6 (by decide) (by decide) (by decide) (by decide) z) (by decide))
  have s46 := gT_sw (x := g 4) (y := g 6) (fun z => absurd (hi 4 6 (by decide) (by decide) (by decide) (by decide) z) (by decide))
  have s56 := gT_sw (x := g 5) (y := g 6) (fun z => absurd (hi 5 6 (by decide) (by decide) (by decide) (by decide) z) (by decide))
  rw [gI_eq, gI_eq, e0, e1, e2, e3, e4, e5, e6, e7, e8, e9]
  omega
theorem gsw_1_6 (g : Int → Int) (hi : ∀ p q, 0 ≤ p → p < 10 → 0 ≤ q → q < 10 → g p = g q → p = q) : gI (zex g 1 6) % 2 = (gI g + 1) % 2 := by
  have e0 : zex g 1 6 0 = g 0 := by unfold zex; rw [zup_ne _ _ _ (by decide), zup_ne _ _ _ (by decide)]
  have e1 : zex g 1 6 1 = g 6 := by unfold zex; rw [zup_ne _ _ _ (by decide), zup_eq]
  have e2 : zex g 1 6 2 = g 2 := by unfold zex; rw [zup_ne _ _ _ (by decide), zup_ne _ _ _ (by decide)]
  have e3 : zex g 1 6 3 = g 3 := by unfold zex; rw [zup_ne _ _ _ (by decide), zup_ne _ _ _ (by decide)]
  have e4 : zex g 1 6 4 = g 4 := by unfold zex; rw [zup_ne _ _ _ (by decide), zup_ne _ _ _ (by decide)]
  have e5 : zex g 1 6 5 = g 5 := by unfold zex; rw [zup_ne _ _ _ (by decide), zup_ne _ _ _ (by decide)]
  have e6 : zex g 1 6 6 = g 1 := by unfold zex; rw [zup_eq]
  have e7 : zex g 1 6 7 = g 7 := by unfold zex; rw [zup_ne _ _ _ (by decide), zup_ne _ _ _ (by decide)]
  have e8 : zex g 1 6 8 = g 8 := by unfold zex; rw [zup_ne _ _ _ (by decide), zup_ne _ _ _ (by decide)]
  have e9 : zex g 1 6 9 = g 9 := by unfold zex; rw [zup_ne _ _ _ (by decide), zup_ne _ _ _ (by decide)]
  have s16 := gT_sw (x := g 1) (y := g 6) (fun z => absurd (hi 1 6 (by decide) (by decide) (by decide) (by decide) z) (by decide))
  have s12 := gT_sw (x := g 1) (y := g 2) (fun z => absurd (hi 1 2 (by decide) (by decide) (by decide) (by decide) z) (by decide))
  have s13 := gT_sw (x := g 1) (y := g 3) (fun z => absurd (hi 1 3 (by decide) (by decide) (by decide) (by decide) z) (by decide))
  have s14 := gT_sw (x := g 1) (y := g 4) (fun z => absurd (hi 1 4 (by decide) (by decide) (by decide) (by decide) z) (by decide))
  have s15 := gT_sw (x := g 1) (y := g 5) (fun z => absurd (hi 1 5 (by decide) (by decide) (by decide) (by decide) z) (by decide))
  have s26 := gT_sw (x := g 2) (y := g 6) (fun z => absurd (hi 2 6 (by decide) (by decide) (by decide) (by decide) z) (by decide))
  have s36 := gT_sw (x := g 3) (y := g 6) (fun z => absurd (hi 3 6 (by decide) (by decide) (by decide) (by decide) z) (by decide))
  have s46 := gT_sw (x := g 4) (y := g 6) (fun z => absurd (hi 4 6 (by decide) (by decide) (by decide) (by decide) z) (by decide))
  have s56 := gT_sw (x := g 5) (y := g 6) (fun z => absurd (hi 5 6 (by decide) (by decide) (by decide) (by decide) z) (by decide))
  rw [gI_eq, gI_eq, e0, e1, e2, e3, e4, e5, e6, e7, e8, e9]
  omega
theorem gsw_2_6 (g : Int → Int) (hi : ∀ p q, 0 ≤ p → p < 10 → 0 ≤ q → q < 10 → g p = g q → p = q) : gI (zex g 2 6) % 2 = (gI g + 1) % 2 := by
  have e0 : zex g 2 6 0 = g 0 := by unfold zex; rw [zup_ne _ _ _ (by decide), zup_ne _ _ _ (by decide)]
  have e1 : zex g 2 6 1 = g 1 := by unfold zex; rw [zup_ne _ _ _ (by decide), zup_ne _ _ _ (by decide)]
  have e2 : zex g 2 6 2 = g 6 := by unfold zex; rw [zup_ne _ _ _ (by decide), zup_eq]
  have e3 : zex g 2 6 3 = g 3 := by unfold zex; rw [zup_ne _ _ _ (by decide), zup_ne _ _ _ (by decide)]
  have e4 : zex g 2 6 4 = g 4 := by unfold zex; rw [zup_ne _ _ _ (by decide), zup_ne _ _ _ (by decide)]
  have e5 : zex g 2 6 5 = g 5 := by unfold zex; rw [zup_ne _ _ _ (by decide), zup_ne _ _ _ (by decide)]
  have e6 : zex g 2 6 6 = g 2 := by unfold zex; rw [zup_eq]
  have e7 : zex g 2 6 7 = g 7 := by unfold zex; rw [zup_ne _ _ _ (by decide), zup_ne _ _ _ (by decide)]
  have e8 : zex g 2 6 8 = g 8 := by unfold zex; rw [zup_ne _ _ _ (by decide), zup_ne _ _ _ (by decide)]
  have e9 : zex g 2 6 9 = g 9 := by unfold zex; rw [zup_ne _ _ _ (by decide), zup_ne _ _ _ (by decide)]
  have s26 := gT_sw (x := g 2) (y := g 6) (fun z => absurd (hi 2 6 (by decide) (by decide) (by decide) (by decide) z) (by decide))
  have s23 := gT_sw (x := g 2) (y := g 3) (fun z => absurd (hi 2 3 (by decide) (by decide) (by decide) (by decide) z) (by decide))
  have s24 := gT_sw (x := g 2) (y := g 4) (fun z => absurd (hi 2 4 (by decide) (by decide) (by decide) (by decide) z) (by decide))
  have s25 := gT_sw (x := g 2) (y := g 5) (fun z => absurd (hi 2 5 (by decide) (by decide) (by decide) (by decide) z) (by decide))
  have s36 := gT_sw (x := g 3) (y := g 6) (fun z => absurd (hi 3 6 (by decide) (by decide) (by decide) (by decide) z) (by decide))
  have s46 := gT_sw (x := g 4) (y := g 6) (fun z => absurd (hi 4 6 (by decide) (by decide) (by decide) (by decide) z) (by decide))
  have s56 := gT_sw (x := g 5) (y := g 6) (fun z => absurd (hi 5 6 (by decide) (by decide) (by decide) (by decide) z) (by decide))
  rw [gI_eq, gI_eq, e0, e1, e2, e3, e4, e5, e6, e7, e8, e9]
  omega
theorem gsw_3_6 (g : Int → Int) (hi : ∀ p q, 0 ≤ p → p < 10 → 0 ≤ q → q < 10 → g p = g q → p = q) : gI (zex g 3 6) % 2 = (gI g + 1) % 2 := by
  have e0 : zex g 3 6 0 = g 0 := by unfold zex; rw [zup_ne _ _ _ (by decide), zup_ne _ _ _ (by decide)]
  have e1 : zex g 3 6 1 = g 1 := by unfold zex; rw [zup_ne _ _ _ (by decide), zup_ne _ _ _ (by decide)]
  have e2 : zex g 3 6 2 = g 2 := by unfold zex; rw [zup_ne _ _ _ (by decide), zup_ne _ _ _ (by decide)]
  have e3 : zex g 3 6 3 = g 6 := by unfold zex; rw [zup_ne _ _ _ (by decide), zup_eq]
  have e4 : zex g 3 6 4 = g 4 := by unfold zex; rw [zup_ne _ _ _ (by decide), zup_ne _ _ _ (by decide)]
  have e5 : zex g 3 6 5 = g 5 := by unfold zex; rw [zup_ne _ _ _ (by decide), zup_ne _ _ _ (by decide)]
  have e6 : zex g 3 6 6 = g 3 := by unfold zex; rw [zup_eq]
  have e7 : zex g 3 6 7 = g 7 := by unfold zex; rw [zup_ne _ _ _ (by decide), zup_ne _ _ _ (by decide)]
  have e8 : zex g 3 6 8 = g 8 := by unfold zex; rw [zup_ne _ _ _ (by decide), zup_ne _ _ _ (by decide)]
  have e9 : zex g 3 6 9 = g 9 := by unfold zex; rw [zup_ne _ _ _ (by decide), zup_ne _ _ _ (by decide)]
  have s36 := gT_sw (x := g 3) (y := g 6) (fun z => absurd (hi 3 6 (by decide) (by decide) (by decide) (by decide) z) (by decide))
  have s34 := gT_sw (x := g 3) (y := g 4) (fun z => absurd (hi 3 4 (by decide) (by decide) (by decide) (by decide) z) (by decide))
  have s35 := gT_sw (x := g 3) (y := g 5) (fun z => absurd (hi 3 5 (by decide) (by decide) (by decide) (by decide) z) (by decide))
  have s46 := gT_sw (x := g 4) (y := g 6) (fun z => absurd (hi 4 6 (by decide) (by decide) (by decide) (by decide) z) (by decide))
  have s56 := gT_sw (x := g 5) (y := g 6) (fun z => absurd (hi 5 6 (by decide) (by decide) (by decide) (by decide) z) (by decide))
  rw [gI_eq, gI_eq, e0, e1, e2, e3, e4, e5, e6, e7, e8, e9]
  omega
theorem gsw_4_6 (g : Int → Int) (hi : ∀ p q, 0 ≤ p → p < 10 → 0 ≤ q → q < 10 → g p = g q → p = q) : gI (zex g 4 6) % 2 = (gI g + 1) % 2 := by
  have e0 : zex g 4 6 0 = g 0 := by unfold zex; rw [zup_ne _ _ _ (by decide), zup_ne _ _ _ (by decide)]
  have e1 : zex g 4 6 1 = g 1 := by unfold zex; rw [zup_ne _ _ _ (by decide), zup_ne _ _ _ (by decide)]
  have e2 : zex g 4 6 2 = g 2 := by unfold zex; rw [zup_ne _ _ _ (by decide), zup_ne _ _ _ (by decide)]
  have e3 : zex g 4 6 3 = g 3 := by unfold zex; rw [zup_ne _ _ _ (by decide), zup_ne _ _ _ (by decide)]
  have e4 : zex g 4 6 4 = g 6 := by unfold zex; rw [zup_ne _ _ _ (by decide), zup_eq]
  have e5 : zex g 4 6 5 = g 5 := by unfold zex; rw [zup_ne _ _ _ (by decide), zup_ne _ _ _ (by decide)]
  have e6 : zex g 4 6 6 = g 4 := by unfold zex; rw [zup_eq]
  have e7 : zex g 4 6 7 = g 7 := by unfold zex; rw [zup_ne _ _ _ (by decide), zup_ne _ _ _ (by decide)]
  have e8 : zex g 4 6 8 = g 8 := by unfold zex; rw [zup_ne _ _ _ (by decide), zup_ne _ _ _ (by decide)]
  have e9 : zex g 4 6 9 = g 9 := by unfold zex; rw [zup_ne _ _ _ (by decide), zup_ne _ _ _ (by decide)]
  have s46 := gT_sw (x := g 4) (y := g 6) (fun z => absurd (hi 4 6 (by decide) (by decide) (by decide) (by decide) z) (by decide))
  have s45 := gT_sw (x := g 4) (y := g 5) (fun z => absurd (hi 4 5 (by decide) (by decide) (by decide) (by decide) z) (by decide))
  have s56 := gT_sw (x := g 5) (y := g 6) (fun z => absurd (hi 5 6 (by decide) (by decide) (by decide) (by decide) z) (by decide))
  rw [gI_eq, gI_eq, e0, e1, e2, e3, e4, e5, e6, e7, e8, e9]
  omega
theorem gsw_5_6 (g : Int → Int) (hi : ∀ p q, 0 ≤ p → p < 10 → 0 ≤ q → q < 10 → g p = g q → p = q) : gI (zex g 5 6) % 2 = (gI g + 1) % 2 := by
  have e0 : zex g 5 6 0 = g 0 := by unfold zex; rw [zup_ne _ _ _ (by decide), zup_ne _ _ _ (by decide)]
  have e1 : zex g 5 6 1 = g 1 := by unfold zex; rw [zup_ne _ _ _ (by decide), zup_ne _ _ _ (by decide)]
  have e2 : zex g 5 6 2 = g 2 := by unfold zex; rw [zup_ne _ _ _ (by decide), zup_ne _ _ _ (by decide)]
  have e3 : zex g 5 6 3 = g 3 := by unfold zex; rw [zup_ne _ _ _ (by decide), zup_ne _ _ _ (by decide)]
  have e4 : zex g 5 6 4 = g 4 := by unfold zex; rw [zup_ne _ _ _ (by decide), zup_ne _ _ _ (by decide)]
  have e5 : zex g 5 6 5 = g 6 := by unfold zex; rw [zup_ne _ _ _ (by decide), zup_eq]
  have e6 : zex g 5 6 6 = g 5 := by unfold zex; rw [zup_eq]
  have e7 : zex g 5 6 7 = g 7 := by unfold zex; rw [zup_ne _ _ _ (by decide), zup_ne _ _ _ (by decide)]
  have e8 : zex g 5 6 8 = g 8 := by unfold zex; rw [zup_ne _ _ _ (by decide), zup_ne _ _ _ (by decide)]
  have e9 : zex g 5 6 9 = g 9 := by unfold zex; rw [zup_ne _ _ _ (by decide), zup_ne _ _ _ (by decide)]
  have s56 := gT_sw (x := g 5) (y := g 6) (fun z => absurd (hi 5 6 (by decide) (by decide) (by decide) (by decide) z) (by decide))
  rw [gI_eq, gI_eq, e0, e1, e2, e3, e4, e5, e6, e7, e8, e9]
  omega
theorem gsw_0_7 (g : Int → Int) (hi : ∀ p q, 0 ≤ p → p < 10 → 0 ≤ q → q < 10 → g p = g q → p = q) : gI (zex g 0 7) % 2 = (gI g + 1) % 2 := by
  have e0 : zex g 0 7 0 = g 7 := by unfold zex; rw [zup_ne _ _ _ (by decide), zup_eq]
  have e1 : zex g 0 7 1 = g 1 := by unfold zex; rw [zup_ne _ _ _ (by decide), zup_ne _ _ _ (by decide)]
  have e2 : zex g 0 7 2 = g 2 := by unfold zex; rw [zup_ne _ _ _ (by decide), zup_ne _ _ _ (by decide)]
  have e3 : zex g 0 7 3 = g 3 := by unfold zex; rw [zup_ne _ _ _ (by decide), zup_ne _ _ _ (by decide)]
  have e4 : zex g 0 7 4 = g 4 := by unfold zex; rw [zup_ne _ _ _ (by decide), zup_ne _ _ _ (by decide)]
  have e5 : zex g 0 7 5 = g 5 := by unfold zex; rw [zup_ne _ _ _ (by decide), zup_ne _ _ _ (by decide)]
  have e6 : zex g 0 7 6 = g 6 := by unfold zex; rw [zup_ne _ _ _ (by decide), zup_ne _ _ _ (by decide)]
  have e7 : zex g 0 7 7 = g 0 := by unfold zex; rw [zup_eq]
  have e8 : zex g 0 7 8 = g 8 := by unfold zex; rw [zup_ne _ _ _ (by decide), zup_ne _ _ _ (by decide)]
  have e9 : zex g 0 7 9 = g 9 := by unfold zex; rw [zup_ne _ _ _ (by decide), zup_ne _ _ _ (by decide)]
  have s07 := gT_sw (x := g 0) (y := g 7) (fun z => absurd (hi 0 7 (by decide) (by decide) (by decide) (by decide) z) (by decide))
  have s01 := gT_sw (x := g 0) (y := g 1) (fun z => absurd (hi 0 1 (by decide) (by decide) (by decide) (by decide) z) (by decide))
  have s02 := gT_sw (x := g 0) (y := g 2) (fun z => absurd (hi 0 2 (by decide) (by decide) (by decide) (by decide) z) (by decide))
  have s03 := gT_sw (x := g 0) (y := g 3) (fun z => absurd (hi 0 3 (by decide) (by decide) (by decide) (by decide) z) (by decide))
  have s04 := gT_sw (x := g 0) (y := g 4) (fun z => absurd (hi 0 4 (by decide) (by decide) (by decide) (by decide) z) (by decide))
  have s05 := gT_sw (x := g 0) (y := g 5) (fun z => absurd (hi 0 5 (by decide) (by decide) (by decide) (by decide) z) (by decide))
  have s06 := gT_sw (x := g 0) (y := g 6) (fun z => absurd (hi 0 6 (by decide) (by decide) (by decide) (by decide) z) (by decide))
  have s17 := gT_sw (x := g 1) (y := g 7) (fun z => absurd (hi 1 7 (by decide) (by decide) (by decide) (by decide) z) (by decide))
  have s27 := gT_sw (x := g 2) (y := g 7) (fun z => absurd (hi 2 7 (by decide) (by decide) (by decide) (by decide) z) (by decide))
  have s37 := gT_sw (x := g 3) (y := g 7) (fun z => absurd (hi 3 7 (by decide) (by decide) (by decide) (by decide) z) (by decide))
  have s47 := gT_sw (x := g 4) (y := g 7) (fun z => absurd (hi 4 7 (by decide) (by decide) (by decide) (by decide) z) (by decide))
  have s57 := gT_sw (x := g 5) (y := g 7) (fun z => absurd (hi 5 7 (by decide) (by decide) (by decide) (by decide) z) (by decide))
  have s67 := gT_sw (x := g 6) (y := g 7) (fun z => absurd (hi 6 7 (by decide) (by decide) (by decide) (by decide) z) (by decide))
  rw [gI_eq, gI_eq, e0, e1, e2, e3, e4, e5, e6, e7, e8, e9]
  omega
theorem gsw_1_7 (g : Int → Int) (hi : ∀ p q, 0 ≤ p → p < 10 → 0 ≤ q → q < 10 → g p = g q → p = q) : gI (zex g 1 7) % 2 = (gI g + 1) % 2 := by
  have e0 : zex g 1 7 0 = g 0 := by unfold zex; rw [zup_ne _ _ _ (by decide), zup_ne _ _ _ (by decide)]
  have e1 : zex g 1 7 1 = g 7 := by unfold zex; rw [zup_ne _ _ _ (by decide), zup_eq]
  have e2 : zex g 1 7 2 = g 2 := by unfold zex; rw [zup_ne _ _ _ (by decide), zup_ne _ _ _ (by decide)]
  have e3 : zex g 1 7 3 = g 3 := by unfold zex; rw [zup_ne _ _ _ (by decide), zup_ne _ _ _ (by decide)]
  have e4 : zex g 1 7 4 = g 4 := by unfold zex; rw [zup_ne _ _ _ (by decide), zup_ne _ _ _ (by decide)]
  have e5 : zex g 1 7 5 = g 5 := by unfold zex; rw [zup_ne _ _ _ (by decide), zup_ne _ _ _ (by decide)]
  have e6 : zex g 1 7 6 = g 6 := by unfold zex; rw [zup_ne _ _ _ (by decide), zup_ne _ _ _ (by decide)]
  have e7 : zex g 1 7 7 = g 1 := by unfold zex; rw [zup_eq]
  have e8 : zex g 1 7 8 = g 8 := by unfold zex; rw [zup_ne _ _ _ (by decide), zup_ne _ _ _ (by decide)]
  have e9 : zex g 1 7 9 = g 9 := by unfold zex; rw [zup_ne _ _ _ (by decide), zup_ne _ _ _ (by decide)]
  have s17 := gT_sw (x := g 1) (y := g 7) (fun z => absurd (hi 1 7 (by decide) (by decide) (by decide) (by decide) z) (by decide))
  have s12 := gT_sw (x := g 1) (y := g 2) (fun z => absurd (hi 1 2 (by decide) (by decide) (by decide) (by decide) z) (by decide))
  have s13 := gT_sw (x := g 1) (y := g 3) (fun z => absurd (hi 1 3 (by decide) (by decide) (by decide) (by decide) z) (by decide))
  have s14 := gT_sw (x := g 1) (y := g 4) (fun z => absurd (hi 1 4 (by decide) (by decide) (by decide) (by decide) z) (by decide))
  have s15 := gT_sw (x := g 1) (y := g 5) (fun z => absurd (hi 1 5 (by decide) (by decide) (by decide) (by decide) z) (by decide))
  have s16 := gT_sw (x := g 1) (y := g 6) (fun z => absurd (hi 1 6 (by decide) (by decide) (by decide) (by decide) z) (by decide))
  have s27 := gT_sw (x := g 2) (y := g 7) (fun z => absurd (hi 2 7 (by decide) (by decide) (by decide) (by decide) z) (by decide))
  have s37 := gT_sw (x := g 3) (y := g 7) (fun z => absurd (hi 3 7 (by decide) (by decide) (by decide) (by decide) z) (by decide))
  have s47 := gT_sw (x := g 4) (y := g 7) (fun z => absurd (hi 4 7 (by decide) (by decide) (by decide) (by decide) z) (by decide))
  have s57 := gT_sw (x := g 5) (y := g 7) (fun z => absurd (hi 5 7 (by decide) (by decide) (by decide) (by decide) z) (by decide))
  have s67 := gT_sw (x := g 6) (y := g 7) (fun z => absurd (hi 6 7 (by decide) (by decide) (by decide) (by decide) z) (by decide))
  rw [gI_eq, gI_eq, e0, e1, e2, e3, e4, e5, e6, e7, e8, e9]
  omega
theorem gsw_2_7 (g : Int → Int) (hi : ∀ p q, 0 ≤ p → p < 10 → 0 ≤ q → q < 10 → g p = g q → p = q) : gI (zex g 2 7) % 2 = (gI g + 1) % 2 := by
  have e0 : zex g 2 7 0 = g 0 := by unfold zex; rw [zup_ne _ _ _ (by decide), zup_ne _ _ _ (by decide)]
  have e1 : zex g 2 7 1 = g 1 := by unfold zex; rw [zup_ne _ _ _ (by decide), zup_ne _ _ _ (by decide)]
  have e2 : zex g 2 7 2 = g 7 := by unfold zex; rw [zup_ne _ _ _ (by decide), zup_eq]
  have e3 : zex g 2 7 3 = g 3 := by unfold zex; rw [zup_ne _ _ _ (by decide), zup_ne _ _ _ (by decide)]
  have e4 : zex g 2 7 4 = g 4 := by unfold zex; rw [zup_ne _ _ _ (by decide), zup_ne _ _ _ (by decide)]
  have e5 : zex g 2 7 5 = g 5 := by unfold zex; rw [zup_ne _ _ _ (by decide), zup_ne _ _ _ (by decide)]
  have e6 : zex g 2 7 6 = g 6 := by unfold zex; rw [zup_ne _ _ _ (by decide), zup_ne _ _ _ (by decide)]
  have e7 : zex g 2 7 7 = g 2 := by unfold zex; rw [zup_eq]
  have e8 : zex g 2 7 8 = g 8 := by unfold zex; rw [zup_ne _ _ _ (by decide), zup_ne _ _ _ (by decide)]
  have e9 : zex g 2 7 9 = g 9 := by unfold zex; rw [zup_ne _ _ _ (by decide), zup_ne _ _ _ (by decide)]
  have s27 := gT_sw (x := g 2) (y := g 7) (fun z => absurd (hi 2 7 (by decide) (by decide) (by decide) (by decide) z) (by decide))
  have s23 := gT_sw (x := g 2) (y := g 3) (fun z => absurd (hi 2 3 (by decide) (by decide) (by decide) (by decide) z) (by decide))
  have s24 := gT_sw (x := g 2) (y := g 4) (fun z => absurd (hi 2 4 (by decide) (by decide) (by decide) (by decide) z) (by decide))
  have s25 := gT_sw (x := g 2) (y := g 5) (fun z => absurd (hi 2 5 (by decide) (by decide) (by decide) (by decide) z) (by decide))
  have s26 := gT_sw (x := g 2) (y := g 6) (fun z => absurd (hi 2 6 (by decide) (by decide) (by decide) (by decide) z) (by decide))
  have s37 := gT_sw (x := g 3) (y := g 7) (fun z => absurd (hi 3 7 (by decide) (by decide) (by decide) (by decide) z) (by decide))
  have s47 := gT_sw (x := g 4) (y := g 7) (fun z => absurd (hi 4 7 (by decide) (by decide) (by decide) (by decide) z) (by decide))
  have s57 := gT_sw (x := g 5) (y := g 7) (fun z => absurd (hi 5 7 (by decide) (by decide) (by decide) (by decide) z) (by decide))
  have s67 := gT_sw (x := g 6) (y := g 7) (fun z => absurd (hi 6 7 (by decide) (by decide) (by decide) (by decide) z) (by decide))
  rw [gI_eq, gI_eq, e0, e1, e2, e3, e4, e5, e6, e7, e8, e9]
  omega
theorem gsw_3_7 (g : Int → Int) (hi : ∀ p q, 0 ≤ p → p < 10 → 0 ≤ q → q < 10 → g p = g q → p = q) : gI (zex g 3 7) % 2 = (gI g + 1) % 2 := by
  have e0 : zex g 3 7 0 = g 0 := by unfold zex; rw [zup_ne _ _ _ (by decide), zup_ne _ _ _ (by decide)]
  have e1 : zex g 3 7 1 = g 1 := by unfold zex; rw [zup_ne _ _ _ (by decide), zup_ne _ _ _ (by decide)]
  have e2 : zex g 3 7 2 = g 2 := by unfold zex; rw [zup_ne _ _ _ (by decide), zup_ne _ _ _ (by decide)]
  have e3 : zex g 3 7 3 = g 7 := by unfold zex; rw [zup_ne _ _ _ (by decide), zup_eq]
  have e4 : zex g 3 7 4 = g 4 := by unfold zex; rw [zup_ne _ _ _ (by decide), zup_ne _ _ _ (by decide)]
  have e5 : zex g 3 7 5 = g 5 := by unfold zex; rw [zup_ne _ _ _ (by decide), zup_ne _ _ _ (by decide)]
  have e6 : zex g 3 7 6 = g 6 := by unfold zex; rw [zup_ne _ _ _ (by decide), zup_ne _ _ _ (by decide)]
  have e7 : zex g 3 7 7 = g 3 := by unfold zex; rw [zup_eq]
  have e8 : zex g 3 7 8 = g 8 := by unfold zex; rw [zup_ne _ _ _ (by decide), zup_ne _ _ _ (by decide)]
  have e9 : zex g 3 7 9 = g 9 := by unfold zex; rw [zup_ne _ _ _ (by decide), zup_ne _ _ _ (by decide)]
  have s37 := gT_sw (x := g 3) (y := g 7) (fun z => absurd (hi 3 7 (by decide) (by decide) (by decide) (by decide) z) (by decide))
  have s34 := gT_sw (x := g 3) (y := g 4) (fun z => absurd (hi 3 4 (by decide) (by decide) (by decide) (by decide) z) (by decide))
  have s35 := gT_sw (x := g 3) (y := g 5) (fun z => absurd (hi 3 5 (by decide) (by decide) (by decide) (by decide) z) (by decide))
  have s36 := gT_sw (x := g 3) (y := g 6) (fun z => absurd (hi 3 6 (by decide) (by decide) (by decide) (by decide) z) (by decide))
  have s47 := gT_sw (x := g 4) (y := g 7) (fun z => absurd (hi 4 7 (by decide) (by decide) (by decide) (by decide) z) (by decide))
  have s57 := gT_sw (x := g 5) (y := g 7) (fun z => absurd (hi 5 7 (by decide) (by decide) (by decide) (by decide) z) (by decide))
  have s67 := gT_sw (x := g 6) (y := g 7) (fun z => absurd (hi 6 7 (by decide) (by decide) (by decide) (by decide) z) (by decide))
  rw [gI_eq, gI_eq, e0, e1, e2, e3, e4, e5, e6, e7, e8, e9]
  omega
theorem gsw_4_7 (g : Int → Int) (hi : ∀ p q, 0 ≤ p → p < 10 → 0 ≤ q → q < 10 → g p = g q → p = q) : gI (zex g 4 7) % 2 = (gI g + 1) % 2 := by
  have e0 : zex g 4 7 0 = g 0 := by unfold zex; rw [zup_ne _ _ _ (by decide), zup_ne _ _ _ (by decide)]
  have e1 : zex g 4 7 1 = g 1 := by unfold zex; rw [zup_ne _ _ _ (by decide), zup_ne _ _ _ (by decide)]
  have e2 : zex g 4 7 2 = g 2 := by unfold zex; rw [zup_ne _ _ _ (by decide), zup_ne _ _ _ (by decide)]
  have e3 : zex g 4 7 3 = g 3 := by unfold zex; rw [zup_ne _ _ _ (by decide), zup_ne _ _ _ (by decide)]
  have e4 : zex g 4 7 4 = g 7 := by unfold zex; rw [zup_ne _ _ _ (by decide), zup_eq]
  have e5 : zex g 4 7 5 = g 5 := by unfold zex; rw [zup_ne _ _ _ (by decide), zup_ne _ _ _ (by decide)]
  have e6 : zex g 4 7 6 = g 6 := by unfold zex; rw [zup_ne _ _ _ (by decide), zup_ne _ _ _ (by decide)]
  have e7 : zex g 4 7 7 = g 4 := by unfold zex; rw [zup_eq]
  have e8 : zex g 4 7 8 = g 8 := by unfold zex; rw [zup_ne _ _ _ (by decide), zup_ne _ _ _ (by decide)]
  have e9 : zex g 4 7 9 = g 9 := by unfold zex; rw [zup_ne _ _ _ (by decide), zup_ne _ _ _ (by decide)]
  have s47 := gT_sw (x := g 4) (y := g 7) (fun z => absurd (hi 4 7 (by decide) (by decide) (by decide) (by decide) z) (by decide))
  have s45 := gT_sw (x := g 4) (y := g 5) (fun z => absurd (hi 4 5 (by decide) (by decide) (by decide) (by decide) z) (by decide))
  have s46 := gT_sw (x := g 4) (y := g 6) (fun z => absurd (hi 4 6 (by decide) (by decide) (by decide) (by decide) z) (by decide))
  have s57 := gT_sw (x := g 5) (y := g 7) (fun z => absurd (hi 5 7 (by decide) (by decide) (by decide) (by decide) z) (by decide))
  have s67 := gT_sw (x := g 6) (y := g 7) (fun z => absurd (hi 6 7 (by decide) (by decide) (by decide) (by decide) z) (by decide))
  rw [gI_eq, gI_eq, e0, e1, e2, e3, e4, e5, e6, e7, e8, e9]
  omega
theorem gsw_5_7 (g : Int → Int) (hi : ∀ p q, 0 ≤ p → p < 10 → 0 ≤ q → q < 10 → g p = g q → p = q) : gI (zex g 5 7) % 2 = (gI g + 1) % 2 := by
  have e0 : zex g 5 7 0 = g 0 := by unfold zex; rw [zup_ne _ _ _ (by decide), zup_ne _ _ _ (by decide)]
  have e1 : zex g 5 7 1 = g 1 := by unfold zex; rw [zup_ne _ _ _ (by decide), zup_ne _ _ _ (by decide)]
  have e2 : zex g 5 7 2 = g 2 := by unfold zex; rw [zup_ne _ _ _ (by decide), zup_ne _ _ _ (by decide)]
  have e3 : zex g 5 7 3 = g 3 := by unfold zex; rw [zup_ne _ _ _ (by decide), zup_ne _ _ _ (by decide)]
  have e4 : zex g 5 7 4 = g 4 := by unfold zex; rw [zup_ne _ _ _ (by decide), zup_ne _ _ _ (by decide)]
  have e5 : zex g 5 7 5 = g 7 := by unfold zex; rw [zup_ne _ _ _ (by decide), zup_eq]
  have e6 : zex g 5 7 6 = g 6 := by unfold zex; rw [zup_ne _ _ _ (by decide), zup_ne _ _ _ (by decide)]
  have e7 : zex g 5 7 7 = g 5 := by unfold zex; rw [zup_eq]
  have e8 : zex g 5 7 8 = g 8 := by unfold zex; rw [zup_ne _ _ _ (by decide), zup_ne _ _ _ (by decide)]
  have e9 : zex g 5 7 9 = g 9 := by unfold zex; rw [zup_ne _ _ _ (by decide), zup_ne _ _ _ (by decide)]
  have s57 := gT_sw (x := g 5) (y := g 7) (fun z => absurd (hi 5 7 (by decide) (by decide) (by decide) (by decide) z) (by decide))
  have s56 := gT_sw (x := g 5) (y := g 6) (fun z => absurd (hi 5 6 (by decide) (by decide) (by decide) (by decide) z) (by decide))
  have s67 := gT_sw (x := g 6) (y := g 7) (fun z => absurd (hi 6 7 (by decide) (by decide) (by decide) (by decide) z) (by decide))
  rw [gI_eq, gI_eq, e0, e1, e2, e3, e4, e5, e6, e7, e8, e9]
  omega
theorem gsw_6_7 (g : Int → Int) (hi : ∀ p q, 0 ≤ p → p < 10 → 0 ≤ q → q < 10 → g p = g q → p = q) : gI (zex g 6 7) % 2 = (gI g + 1) % 2 := by
  have e0 : zex g 6 7 0 = g 0 := by unfold zex; rw [zup_ne _ _ _ (by decide), zup_ne _ _ _ (by decide)]
  have e1 : zex g 6 7 1 = g 1 := by unfold zex; rw [zup_ne _ _ _ (by decide), zup_ne _ _ _ (by decide)]
  have e2 : zex g 6 7 2 = g 2 := by unfold zex; rw [zup_ne _ _ _ (by decide), zup_ne _ _ _ (by decide)]
  have e3 : zex g 6 7 3 = g 3 := by unfold zex; rw [zup_ne _ _ _ (by decide), zup_ne _ _ _ (by decide)]
  have e4 : zex g 6 7 4 = g 4 := by unfold zex; rw [zup_ne _ _ _ (by decide), zup_ne _ _ _ (by decide)]
  have e5 : zex g 6 7 5 = g 5 := by unfold zex; rw [zup_ne _ _ _ (by decide), zup_ne _ _ _ (by decide)]
  have e6 : zex g 6 7 6 = g 7 := by unfold zex; rw [zup_ne _ _ _ (by decide), zup_eq]
  have e7 : zex g 6 7 7 = g 6 := by unfold zex; rw [zup_eq]
  have e8 : zex g 6 7 8 = g 8 := by unfold zex; rw [zup_ne _ _ _ (by decide), zup_ne _ _ _ (by decide)]
  have e9 : zex g 6 7 9 = g 9 := by unfold zex; rw [zup_ne _ _ _ (by decide), zup_ne _ _ _ (by decide)]
  have s67 := gT_sw (x := g 6) (y := g 7) (fun z => absurd (hi 6 7 (by decide) (by decide) (by decide) (by decide) z) (by decide))
  rw [gI_eq, gI_eq, e0, e1, e2, e3, e4, e5, e6, e7, e8, e9]
  omega
theorem gsw_0_8 (g : Int → Int) (hi : ∀ p q, 0 ≤ p → p < 10 → 0 ≤ q → q < 10 → g p = g q → p = q) : gI (zex g 0 8) % 2 = (gI g + 1) % 2 := by
  have e0 : zex g 0 8 0 = g 8 := by unfold zex; rw [zup_ne _ _ _ (by decide), zup_eq]
  have e1 : zex g 0 8 1 = g 1 := by unfold zex; rw [zup_ne _ _ _ (by decide), zup_ne _ _ _ (by decide)]
  have e2 : zex g 0 8 2 = g 2 := by unfold zex; rw [zup_ne _ _ _ (by decide), zup_ne _ _ _ (by decide)]
  have e3 : zex g 0 8 3 = g 3 := by unfold zex; rw [zup_ne _ _ _ (by decide), zup_ne _ _ _ (by decide)]
  have e4 : zex g 0 8 4 = g 4 := by unfold zex; rw [zup_ne _ _ _ (by decide), zup_ne _ _ _ (by decide)]
  have e5 : zex g 0 8 5 = g 5 := by unfold zex; rw [zup_ne _ _ _ (by decide), zup_ne _ _ _ (by decide)]
  have e6 : zex g 0 8 6 = g 6 := by unfold zex; rw [zup_ne _ _ _ (by decide), zup_ne _ _ _ (by decide)]
  have e7 : zex g 0 8 7 = g 7 := by unfold zex; rw [zup_ne _ _ _ (by decide), zup_ne _ _ _ (by decide)]
  have e8 : zex g 0 8 8 = g 0 := by unfold zex; rw [zup_eq]
  have e9 : zex g 0 8 9 = g 9 := by unfold zex; rw [zup_ne _ _ _ (by decide), zup_ne _ _ _ (by decide)]
  have s08 := gT_sw (x := g 0) (y := g 8) (fun z => absurd (hi 0 8 (by decide) (by decide) (by decide) (by decide) z) (by decide))
  have s01 := gT_sw (x := g 0) (y := g 1) (fun z => absurd (hi 0 1 (by decide) (by decide) (by decide) (by decide) z) (by decide))
  have s02 := gT_sw (x := g 0) (y := g 2) (fun z => absurd (hi 0 2 (by decide) (by decide) (by decide) (by decide) z) (by decide))
  have s03 := gT_sw (x := g 0) (y := g 3) (fun z => absurd (hi 0 3 (by decide) (by decide) (by decide) (by decide) z) (by decide))
  have s04 := gT_sw (x := g 0) (y := g 4) (fun z => absurd (hi 0 4 (by decide) (by decide) (by decide) (by decide) z) (by decide))
  have s05 := gT_sw (x := g 0) (y := g 5) (fun z => absurd (hi 0 5 (by decide) (by decide) (by decide) (by decide) z) (by decide))
  have s06 := gT_sw (x := g 0) (y := g 6) (fun z => absurd (hi 0 6 (by decide) (by decide) (by decide) (by decide) z) (by decide))
  have s07 := gT_sw (x := g 0) (y := g 7) (fun z => absurd (hi 0 7 (by decide) (by decide) (by decide) (by decide) z) (by decide))
  have s18 := gT_sw (x := g 1) (y := g 8) (fun z => absurd (hi 1 8 (by decide) (by decide) (by decide) (by decide) z) (by decide))
  have s28 := gT_sw (x := g 2) (y := g 8) (fun z => absurd (hi 2 8 (by decide) (by decide) (by decide) (by decide) z) (by decide))
  have s38 := gT_sw (x := g 3) (y := g 8) (fun z => absurd (hi 3 8 (by decide) (by decide) (by decide) (by decide) z) (by decide))
  have s48 := gT_sw (x := g 4) (y := g 8) (fun z => absurd (hi 4 8 (by decide) (by decide) (by decide) (by decide) z) (by decide))
  have s58 := gT_sw (x := g 5) (y := g 8) (fun z => absurd (hi 5 8 (by decide) (by decide) (by decide) (by decide) z) (by decide))
  have s68 := gT_sw (x := g 6) (y := g 8) (fun z => absurd (hi 6 8 (by decide) (by decide) (by decide) (by decide) z) (by decide))
  have s78 := gT_sw (x := g 7) (y := g 8) (fun z => absurd (hi 7 8 (by decide) (by decide) (by decide) (by decide) z) (by decide))
  rw [gI_eq, gI_eq, e0, e1, e2, e3, e4, e5, e6, e7, e8, e9]
  omega
theorem gsw_1_8 (g : Int → Int) (hi : ∀ p q, 0 ≤ p → p < 10 → 0 ≤ q → q < 10 → g p = g q → p = q) : gI (zex g 1 8) % 2 = (gI g + 1) % 2 := by
  have e0 : zex g 1 8 0 = g 0 := by unfold zex; rw [zup_ne _ _ _ (by decide), zup_ne _ _ _ (by decide)]
  have e1 : zex g 1 8 1 = g 8 := by unfold zex; rw [zup_ne _ _ _ (by decide), zup_eq]
  have e2 : zex g 1 8 2 = g 2 := by unfold zex; rw [zup_ne _ _ _ (by decide), zup_ne _ _ _ (by decide)]
  have e3 : zex g 1 8 3 = g 3 := by unfold zex; rw [zup_ne _ _ _ (by decide), zup_ne _ _ _ (by decide)]
  have e4 : zex g 1 8 4 = g 4 := by unfold zex; rw [zup_ne _ _ _ (by decide), zup_ne _ _ _ (by decide)]
  have e5 : zex g 1 8 5 = g 5 := by unfold zex; rw [zup_ne _ _ _ (by decide), zup_ne _ _ _ (by decide)]
  have e6 : zex g 1 8 6 = g 6 := by unfold zex; rw [zup_ne _ _ _ (by decide), zup_ne _ _ _ (by decide)]
  have e7 : zex g 1 8 7 = g 7 := by unfold zex; rw [zup_ne _ _ _ (by decide), zup_ne _ _ _ (by decide)]
  have e8 : zex g 1 8 8 = g 1 := by unfold zex; rw [zup_eq]
  have e9 : zex g 1 8 9 = g 9 := by unfold zex; rw [zup_ne _ _ _ (by decide), zup_ne _ _ _ (by decide)]
  have s18 := gT_sw (x := g 1) (y := g 8) (fun z => absurd (hi 1 8 (by decide) (by decide) (by decide) (by decide) z) (by decide))
  have s12 := gT_sw (x := g 1) (y := g 2) (fun z => absurd (hi 1 2 (by decide) (by decide) (by decide) (by decide) z) (by decide))
  have s13 := gT_sw (x := g 1) (y := g 3) (fun z => absurd (hi 1 3 (by decide) (by decide) (by decide) (by decide) z) (by decide))
  have s14 := gT_sw (x := g 1) (y := g 4) (fun z => absurd (hi 1 4 (by decide) (by decide) (by decide) (by decide) z) (by decide))
  have s15 := gT_sw (x := g 1) (y := g 5) (fun z => absurd (hi 1 5 (by decide) (by decide) (by decide) (by decide) z) (by decide))
  have s16 := gT_sw (x := g 1) (y := g 6) (fun z => absurd (hi 1 6 (by decide) (by decide) (by decide) (by decide) z) (by decide))
  have s17 := gT_sw (x := g 1) (y := g 7) (fun z => absurd (hi 1 7 (by decide) (by decide) (by decide) (by decide) z) (by decide))
  have s28 := gT_sw (x := g 2) (y := g 8) (fun z => absurd (hi 2 8 (by decide) (by decide) (by decide) (by decide) z) (by decide))
  have s38 := gT_sw (x := g 3) (y := g 8) (fun z => absurd (hi 3 8 (by decide) (by decide) (by decide) (by decide) z) (by decide))
  have s48 := gT_sw (x := g 4) (y := g 8) (fun z => absurd (hi 4 8 (by decide) (by decide) (by decide) (by decide) z) (by decide))
  have s58 := gT_sw (x := g 5) (y := g 8) (fun z => absurd (hi 5 8 (by decide) (by decide) (by decide) (by decide) z) (by decide))
  have s68 := gT_sw (x := g 6) (y := g 8) (fun z => absurd (hi 6 8 (by decide) (by decide) (by decide) (by decide) z) (by decide))
  have s78 := gT_sw (x := g 7) (y := g 8) (fun z => absurd (hi 7 8 (by decide) (by decide) (by decide) (by decide) z) (by decide))
  rw [gI_eq, gI_eq, e0, e1, e2, e3, e4, e5, e6, e7, e8, e9]
  omega
theorem gsw_2_8 (g : Int → Int) (hi : ∀ p q, 0 ≤ p → p < 10 → 0 ≤ q → q < 10 → g p = g q → p = q) : gI (zex g 2 8) % 2 = (gI g + 1) % 2 := by
  have e0 : zex g 2 8 0 = g 0 := by unfold zex; rw [zup_ne _ _ _ (by decide), zup_ne _ _ _ (by decide)]
  have e1 : zex g 2 8 1 = g 1 := by unfold zex; rw [zup_ne _ _ _ (by decide), zup_ne _ _ _ (by decide)]
  have e2 : zex g 2 8 2 = g 8 := by unfold zex; rw [zup_ne _ _ _ (by decide), zup_eq]
  have e3 : zex g 2 8 3 = g 3 := by unfold zex; rw [zup_ne _ _ _ (by decide), zup_ne _ _ _ (by decide)]
  have e4 : zex g 2 8 4 = g 4 := by unfold zex; rw [zup_ne _ _ _ (by decide), zup_ne _ _ _ (by decide)]
  have e5 : zex g 2 8 5 = g 5 := by unfold zex; rw [zup_ne _ _ _ (by decide), zup_ne _ _ _ (by decide)]
  have e6 : zex g 2 8 6 = g 6 := by unfold zex; rw [zup_ne _ _ _ (by decide), zup_ne _ _ _ (by decide)]
  have e7 : zex g 2 8 7 = g 7 := by unfold zex; rw [zup_ne _ _ _ (by decide), zup_ne _ _ _ (by decide)]
  have e8 : zex g 2 8 8 = g 2 := by unfold zex; rw [zup_eq]
  have e9 : zex g 2 8 9 = g 9 := by unfold zex; rw [zup_ne _ _ _ (by decide), zup_ne _ _ _ (by decide)]
  have s28 := gT_sw (x := g 2) (y := g 8) (fun z => absurd (hi 2 8 (by decide) (by decide) (by decide) (by decide) z) (by decide))
  have s23 := gT_sw (x := g 2) (y := g 3) (fun z => absurd (hi 2 3 (by decide) (by decide) (by decide) (by decide) z) (by decide))
  have s24 := gT_sw (x := g 2) (y := g 4) (fun z => absurd (hi 2 4 (by decide) (by decide) (by decide) (by decide) z) (by decide))
  have s25 := gT_sw (x := g 2) (y := g 5) (fun z => absurd (hi 2 5 (by decide) (by decide) (by decide) (by decide) z) (by decide))
  have s26 := gT_sw (x := g 2) (y := g 6) (fun z => absurd (hi 2 6 (by decide) (by decide) (by decide) (by decide) z) (by decide))
  have s27 := gT_sw (x := g 2) (y := g 7) (fun z => absurd (hi 2 7 (by decide) (by decide) (by decide) (by decide) z) (by decide))
  have s38 := gT_sw (x := g 3) (y := g 8) (fun z => absurd (hi 3 8 (by decide) (by decide) (by decide) (by decide) z) (by decide))
  have s48 := gT_sw (x := g 4) (y := g 8) (fun z => absurd (hi 4 8 (by decide) (by decide) (by decide) (by decide) z) (by decide))
  have s58 := gT_sw (x := g 5) (y := g 8) (fun z => absurd (hi 5 8 (by decide) (by decide) (by decide) (by decide) z) (by decide))
  have s68 := gT_sw (x := g 6) (y := g 8) (fun z => absurd (hi 6 8 (by decide) (by decide) (by decide) (by decide) z) (by decide))
  have s78 := gT_sw (x := g 7) (y := g 8) (fun z => absurd (hi 7 8 (by decide) (by decide) (by decide) (by decide) z) (by decide))
  rw [gI_eq, gI_eq, e0, e1, e2, e3, e4, e5, e6, e7, e8, e9]
  omega
theorem gsw_3_8 (g : Int → Int) (hi : ∀ p q, 0 ≤ p → p < 10 → 0 ≤ q → q < 10 → g p = g q → p = q) : gI (zex g 3 8) % 2 = (gI g + 1) % 2 := by
  have e0 : zex g 3 8 0 = g 0 := by unfold zex; rw [zup_ne _ _ _ (by decide), zup_ne _ _ _ (by decide)]
  have e1 : zex g 3 8 1 = g 1 := by unfold zex; rw [zup_ne _ _ _ (by decide), zup_ne _ _ _ (by decide)]
  have e2 : zex g 3 8 2 = g 2 := by unfold zex; rw [zup_ne _ _ _ (by decide), zup_ne _ _ _ (by decide)]
  have e3 : zex g 3 8 3 = g 8 := by unfold zex; rw [zup_ne _ _ _ (by decide), zup_eq]
  have e4 : zex g 3 8 4 = g 4 := by unfold zex; rw [zup_ne _ _ _ (by decide), zup_ne _ _ _ (by decide)]
  have e5 : zex g 3 8 5 = g 5 := by unfold zex; rw [zup_ne _ _ _ (by decide), zup_ne _ _ _ (by decide)]
  have e6 : zex g 3 8 6 = g 6 := by unfold zex; rw [zup_ne _ _ _ (by decide), zup_ne _ _ _ (by decide)]
  have e7 : zex g 3 8 7 = g 7 := by unfold zex; rw [zup_ne _ _ _ (by decide), zup_ne _ _ _ (by decide)]
  have e8 : zex g 3 8 8 = g 3 := by unfold zex; rw [zup_eq]
  have e9 : zex g 3 8 9 = g 9 := by unfold zex; rw [zup_ne _ _ _ (by decide), zup_ne _ _ _ (by decide)]
  have s38 := gT_sw (x := g 3) (y := g 8) (fun z => absurd (hi 3 8 (by decide) (by decide) (by decide) (by decide) z) (by decide))
  have s34 := gT_sw (x := g 3) (y := g 4) (fun z => absurd (hi 3 4 (by decide) (by decide) (by decide) (by decide) z) (by decide))
  have s35 := gT_sw (x := g 3) (y := g 5) (fun z => absurd (hi 3 5 (by decide) (by decide) (by decide) (by decide) z) (by decide))
  have s36 := gT_sw (x := g 3) (y := g 6) (fun z => absurd (hi 3 6 (by decide) (by decide) (by decide) (by decide) z) (by decide))
  have s37 := gT_sw (x := g 3) (y := g 7) (fun z => absurd (hi 3 7 (by decide) (by decide) (by decide) (by decide) z) (by decide))
  have s48 := gT_sw (x := g 4) (y := g 8) (fun z => absurd (hi 4 8 (by decide) (by decide) (by decide) (by decide) z) (by decide))
  have s58 := gT_sw (x := g 5) (y := g 8) (fun z => absurd (hi 5 8 (by decide) (by decide) (by decide) (by decide) z) (by decide))
  have s68 := gT_sw (x := g 6) (y := g 8) (fun z => absurd (hi 6 8 (by decide) (by decide) (by decide) (by decide) z) (by decide))
  have s78 := gT_sw (x := g 7) (y := g 8) (fun z => absurd (hi 7 8 (by decide) (by decide) (by decide) (by decide) z) (by decide))
  rw [gI_eq, gI_eq, e0, e1, e2, e3, e4, e5, e6, e7, e8, e9]
  omega
theorem gsw_4_8 (g : Int → Int) (hi : ∀ p q, 0 ≤ p → p < 10 → 0 ≤ q → q < 10 → g p = g q → p = q) : gI (zex g 4 8) % 2 = (gI g + 1) % 2 := by
  have e0 : zex g 4 8 0 = g 0 := by unfold zex; rw [zup_ne _ _ _ (by decide), zup_ne _ _ _ (by decide)]
  have e1 : zex g 4 8 1 = g 1 := by unfold zex; rw [zup_ne _ _ _ (by decide), zup_ne _ _ _ (by decide)]
  have e2 : zex g 4 8 2 = g 2 := by unfold zex; rw [zup_ne _ _ _ (by decide), zup_ne _ _ _ (by decide)]
  have e3 : zex g 4 8 3 = g 3 := by unfold zex; rw [zup_ne _ _ _ (by decide), zup_ne _ _ _ (by decide)]
  have e4 : zex g 4 8 4 = g 8 := by unfold zex; rw [zup_ne _ _ _ (by decide), zup_eq]
  have e5 : zex g 4 8 5 = g 5 := by unfold zex; rw [zup_ne _ _ _ (by decide), zup_ne _ _ _ (by decide)]
  have e6 : zex g 4 8 6 = g 6 := by unfold zex; rw [zup_ne _ _ _ (by decide), zup_ne _ _ _ (by decide)]
  have e7 : zex g 4 8 7 = g 7 := by unfold zex; rw [zup_ne _ _ _ (by decide), zup_ne _ _ _ (by decide)]
  have e8 : zex g 4 8 8 = g 4 := by unfold zex; rw [zup_eq]
  have e9 : zex g 4 8 9 = g 9 := by unfold zex; rw [zup_ne _ _ _ (by decide), zup_ne _ _ _ (by decide)]
  have s48 := gT_sw (x := g 4) (y := g 8) (fun z => absurd (hi 4 8 (by decide) (by decide) (by decide) (by decide) z) (by decide))
  have s45 := gT_sw (x := g 4) (y := g 5) (fun z => absurd (hi 4 5 (by decide) (by decide) (by decide) (by decide) z) (by decide))
  have s46 := gT_sw (x := g 4) (y := g 6) (fun z => absurd (hi 4 6 (by decide) (by decide) (by decide) (by decide) z) (by decide))
  have s47 := gT_sw (x := g 4) (y := g 7) (fun z => absurd (hi 4 7 (by decide) (by decide) (by decide) (by decide) z) (by decide))
  have s58 := gT_sw (x := g 5) (y := g 8) (fun z => absurd (hi 5 8 (by decide) (by decide) (by decide) (by decide) z) (by decide))
  have s68 := gT_sw (x := g 6) (y := g 8) (fun z => absurd (hi 6 8 (by decide) (by decide) (by decide) (by decide) z) (by decide))
  have s78 := gT_sw (x := g 7) (y := g 8) (fun z => absurd (hi 7 8 (by decide) (by decide) (by decide) (by decide) z) (by decide))
  rw [gI_eq, gI_eq, e0, e1, e2, e3, e4, e5, e6, e7, e8, e9]
  omega
theorem gsw_5_8 (g : Int → Int) (hi : ∀ p q, 0 ≤ p → p < 10 → 0 ≤ q → q < 10 → g p = g q → p = q) : gI (zex g 5 8) % 2 = (gI g + 1) % 2 := by
  have e0 : zex g 5 8 0 = g 0 := by unfold zex; rw [zup_ne _ _ _ (by decide), zup_ne _ _ _ (by decide)]
  have e1 : zex g 5 8 1 = g 1 := by unfold zex; rw [zup_ne _ _ _ (by decide), zup_ne _ _ _ (by decide)]
  have e2 : zex g 5 8 2 = g 2 := by unfold zex; rw [zup_ne _ _ _ (by decide), zup_ne _ _ _ (by decide)]
  have e3 : zex g 5 8 3 = g 3 := by unfold zex; rw [zup_ne _ _ _ (by decide), zup_ne _ _ _ (by decide)]
  have e4 : zex g 5 8 4 = g 4 := by unfold zex; rw [zup_ne _ _ _ (by decide), zup_ne _ _ _ (by decide)]
  have e5 : zex g 5 8 5 = g 8 := by unfold zex; rw [zup_ne _ _ _ (by decide), zup_eq]
  have e6 : zex g 5 8 6 = g 6 := by unfold zex; rw [zup_ne _ _ _ (by decide), zup_ne _ _ _ (by decide)]
  have e7 : zex g 5 8 7 = g 7 := by unfold zex; rw [zup_ne _ _ _ (by decide), zup_ne _ _ _ (by decide)]
  have e8 : zex g 5 8 8 = g 5 := by unfold zex; rw [zup_eq]
  have e9 : zex g 5 8 9 = g 9 := by unfold zex; rw [zup_ne _ _ _ (by decide), zup_ne _ _ _ (by decide)]
  have s58 := gT_sw (x := g 5) (y := g 8) (fun z => absurd (hi 5 8 (by decide) (by decide) (by decide) (by decide) z) (by decide))
  have s56 := gT_sw (x := g 5) (y := g 6) (fun z => absurd (hi 5 6 (by decide) (by decide) (by decide) (by decide) z) (by decide))
  have s57 := gT_sw (x := g 5) (y := g 7) (fun z => absurd (hi 5 7 (by decide) (by decide) (by decide) (by decide) z) (by decide))
  have s68 := gT_sw (x := g 6) (y := g 8) (fun z => absurd (hi 6 8 (by decide) (by decide) (by decide) (by decide) z) (by decide))
  have s78 := gT_sw (x := g 7) (y := g 8) (fun z => absurd (hi 7 8 (by decide) (by decide) (by decide) (by decide) z) (by decide))
  rw [gI_eq, gI_eq, e0, e1, e2, e3, e4, e5, e6, e7, e8, e9]
  omega
theorem gsw_6_8 (g : Int → Int) (hi : ∀ p q, 0 ≤ p → p < 10 → 0 ≤ q → q < 10 → g p = g q → p = q) : gI (zex g 6 8) % 2 = (gI g + 1) % 2 := by
  have e0 : zex g 6 8 0 = g 0 := by unfold zex; rw [zup_ne _ _ _ (by decide), zup_ne _ _ _ (by decide)]
  have e1 : zex g 6 8 1 = g 1 := by unfold zex; rw [zup_ne _ _ _ (by decide), zup_ne _ _ _ (by decide)]
  have e2 : zex g 6 8 2 = g 2 := by unfold zex; rw [zup_ne _ _ _ (by decide), zup_ne _ _ _ (by decide)]
  have e3 : zex g 6 8 3 = g 3 := by unfold zex; rw [zup_ne _ _ _ (by decide), zup_ne _ _ _ (by decide)]
  have e4 : zex g 6 8 4 = g 4 := by unfold zex; rw [zup_ne _ _ _ (by decide), zup_ne _ _ _ (by decide)]
  have e5 : zex g 6 8 5 = g 5 := by unfold zex; rw [zup_ne _ _ _ (by decide), zup_ne _ _ _ (by decide)]
  have e6 : zex g 6 8 6 = g 8 := by unfold zex; rw [zup_ne _ _ _ (by decide), zup_eq]
  have e7 : zex g 6 8 7 = g 7 := by unfold zex; rw [zup_ne _ _ _ (by decide), zup_ne _ _ _ (by decide)]
  have e8 : zex g 6 8 8 = g 6 := by unfold zex; rw [zup_eq]
  have e9 : zex g 6 8 9 = g 9 := by unfold zex; rw [zup_ne _ _ _ (by decide), zup_ne _ _ _ (by decide)]
  have s68 := gT_sw (x := g 6) (y := g 8) (fun z => absurd (hi 6 8 (by decide) (by decide) (by decide) (by decide) z) (by decide))
  have s67 := gT_sw (x := g 6) (y := g 7) (fun z => absurd (hi 6 7 (by decide) (by decide) (by decide) (by decide) z) (by decide))
  have s78 := gT_sw (x := g 7) (y := g 8) (fun z => absurd (hi 7 8 (by decide) (by decide) (by decide) (by decide) z) (by decide))
  rw [gI_eq, gI_eq, e0, e1, e2, e3, e4, e5, e6, e7, e8, e9]
  omega
theorem gsw_7_8 (g : Int → Int) (hi : ∀ p q, 0 ≤ p → p < 10 → 0 ≤ q → q < 10 → g p = g q → p = q) : gI (zex g 7 8) % 2 = (gI g + 1) % 2 := by
  have e0 : zex g 7 8 0 = g 0 := by unfold zex; rw [zup_ne _ _ _ (by decide), zup_ne _ _ _ (by decide)]
  have e1 : zex g 7 8 1 = g 1 := by unfold zex; rw [zup_ne _ _ _ (by decide), zup_ne _ _ _ (by decide)]
  have e2 : zex g 7 8 2 = g 2 := by unfold zex; rw [zup_ne _ _ _ (by decide), zup_ne _ _ _ (by decide)]
  have e3 : zex g 7 8 3 = g 3 := by unfold zex; rw [zup_ne _ _ _ (by decide), zup_ne _ _ _ (by decide)]
  have e4 : zex g 7 8 4 = g 4 := by unfold zex; rw [zup_ne _ _ _ (by decide), zup_ne _ _ _ (by decide)]
  have e5 : zex g 7 8 5 = g 5 := by unfold zex; rw [zup_ne _ _ _ (by decide), zup_ne _ _ _ (by decide)]
  have e6 : zex g 7 8 6 = g 6 := by unfold zex; rw [zup_ne _ _ _ (by decide), zup_ne _ _ _ (by decide)]
  have e7 : zex g 7 8 7 = g 8 := by unfold zex; rw [zup_ne _ _ _ (by decide), zup_eq]
  have e8 : zex g 7 8 8 = g 7 := by unfold zex; rw [zup_eq]
  have e9 : zex g 7 8 9 = g 9 := by unfold zex; rw [zup_ne _ _ _ (by decide), zup_ne _ _ _ (by decide)]
  have s78 := gT_sw (x := g 7) (y := g 8) (fun z => absurd (hi 7 8 (by decide) (by decide) (by decide) (by decide) z) (by decide))
  rw [gI_eq, gI_eq, e0, e1, e2, e3, e4, e5, e6, e7, e8, e9]
  omega
theorem gsw_0_9 (g : Int → Int) (hi : ∀ p q, 0 ≤ p → p < 10 → 0 ≤ q → q < 10 → g p = g q → p = q) : gI (zex g 0 9) % 2 = (gI g + 1) % 2 := by
  have e0 : zex g 0 9 0 = g 9 := by unfold zex; rw [zup_ne _ _ _ (by decide), zup_eq]
  have e1 : zex g 0 9 1 = g 1 := by unfold zex; rw [zup_ne _ _ _ (by decide), zup_ne _ _ _ (by decide)]
  have e2 : zex g 0 9 2 = g 2 := by unfold zex; rw [zup_ne _ _ _ (by decide), zup_ne _ _ _ (by decide)]
  have e3 : zex g 0 9 3 = g 3 := by unfold zex; rw [zup_ne _ _ _ (by decide), zup_ne _ _ _ (by decide)]
  have e4 : zex g 0 9 4 = g 4 := by unfold zex; rw [zup_ne _ _ _ (by decide), zup_ne _ _ _ (by decide)]
  have e5 : zex g 0 9 5 = g 5 := by unfold zex; rw [zup_ne _ _ _ (by decide), zup_ne _ _ _ (by decide)]
  have e6 : zex g 0 9 6 = g 6 := by unfold zex; rw [zup_ne _ _ _ (by decide), zup_ne _ _ _ (by decide)]
  have e7 : zex g 0 9 7 = g 7 := by unfold zex; rw [zup_ne _ _ _ (by decide), zup_ne _ _ _ (by decide)]
  have e8 : zex g 0 9 8 = g 8 := by unfold zex; rw [zup_ne _ _ _ (by decide), zup_ne _ _ _ (by decide)]
  have e9 : zex g 0 9 9 = g 0 := by unfold zex; rw [zup_eq]
  have s09 := gT_sw (x := g 0) (y := g 9) (fun z => absurd (hi 0 9 (by decide) (by decide) (by decide) (by decide) z) (by decide))
  have s01 := gT_sw (x := g 0) (y := g 1) (fun z => absurd (hi 0 1 (by decide) (by decide) (by decide) (by decide) z) (by decide))
  have s02 := gT_sw (x := g 0) (y := g 2) (fun z => absurd (hi 0 2 (by decide) (by decide) (by decide) (by decide) z) (by decide))
  have s03 := gT_sw (x := g 0) (y := g 3) (fun z => absurd (hi 0 3 (by decide) (by decide) (by decide) (by decide) z) (by decide))
  have s04 := gT_sw (x := g 0) (y := g 4) (fun z => absurd (hi 0 4 (by decide) (by decide) (by decide) (by decide) z) (by decide))
  have s05 := gT_sw (x := g 0) (y := g 5) (fun z => absurd (hi 0 5 (by decide) (by decide) (by decide) (by decide) z) (by decide))
  have s06 := gT_sw (x := g 0) (y := g 6) (fun z => absurd (hi 0 6 (by decide) (by decide) (by decide) (by decide) z) (by decide))
  have s07 := gT_sw (x := g 0) (y := g 7) (fun z => absurd (hi 0 7 (by decide) (by decide) (by decide) (by decide) z) (by decide))
  have s08 := gT_sw (x := g 0) (y := g 8) (fun z => absurd (hi 0 8 (by decide) (by decide) (by decide) (by decide) z) (by decide))
  have s19 := gT_sw (x := g 1) (y := g 9) (fun z => absurd (hi 1 9 (by decide) (by decide) (by decide) (by decide) z) (by decide))
  have s29 := gT_sw (x := g 2) (y := g 9) (fun z => absurd (hi 2 9 (by decide) (by decide) (by decide) (by decide) z) (by decide))
  have s39 := gT_sw (x := g 3) (y := g 9) (fun z => absurd (hi 3 9 (by decide) (by decide) (by decide) (by decide) z) (by decide))
  have s49 := gT_sw (x := g 4) (y := g 9) (fun z => absurd (hi 4 9 (by decide) (by decide) (by decide) (by decide) z) (by decide))
  have s59 := gT_sw (x := g 5) (y := g 9) (fun z => absurd (hi 5 9 (by decide) (by decide) (by decide) (by decide) z) (by decide))
  have s69 := gT_sw (x := g 6) (y := g 9) (fun z => absurd (hi 6 9 (by decide) (by decide) (by decide) (by decide) z) (by decide))
  have s79 := gT_sw (x := g 7) (y := g 9) (fun z => absurd (hi 7 9 (by decide) (by decide) (by decide) (by decide) z) (by decide))
  have s89 := gT_sw (x := g 8) (y := g 9) (fun z => absurd (hi 8 9 (by decide) (by decide) (by decide) (by decide) z) (by decide))
  rw [gI_eq, gI_eq, e0, e1, e2, e3, e4, e5, e6, e7, e8, e9]
  omega
theorem gsw_1_9 (g : Int → Int) (hi : ∀ p q, 0 ≤ p → p < 10 → 0 ≤ q → q < 10 → g p = g q → p = q) : gI (zex g 1 9) % 2 = (gI g + 1) % 2 := by
  have e0 : zex g 1 9 0 = g 0 := by unfold zex; rw [zup_ne _ _ _ (by decide), zup_ne _ _ _ (by decide)]
  have e1 : zex g 1 9 1 = g 9 := by unfold zex; rw [zup_ne _ _ _ (by decide), zup_eq]
  have e2 : zex g 1 9 2 = g 2 := by unfold zex; rw [zup_ne _ _ _ (by decide), zup_ne _ _ _ (by decide)]
  have e3 : zex g 1 9 3 = g 3 := by unfold zex; rw [zup_ne _ _ _ (by decide), zup_ne _ _ _ (by decide)]
  have e4 : zex g 1 9 4 = g 4 := by unfold zex; rw [zup_ne _ _ _ (by decide), zup_ne _ _ _ (by decide)]
  have e5 : zex g 1 9 5 = g 5 := by unfold zex; rw [zup_ne _ _ _ (by decide), zup_ne _ _ _ (by decide)]
  have e6 : zex g 1 9 6 = g 6 := by unfold zex; rw [zup_ne _ _ _ (by decide), zup_ne _ _ _ (by decide)]
  have e7 : zex g 1 9 7 = g 7 := by unfold zex; rw [zup_ne _ _ _ (by decide), zup_ne _ _ _ (by decide)]
  have e8 : zex g 1 9 8 = g 8 := by unfold zex; rw [zup_ne _ _ _ (by decide), zup_ne _ _ _ (by decide)]
  have e9 : zex g 1 9 9 = g 1 := by unfold zex; rw [zup_eq]
  have s19 := gT_sw (x := g 1) (y := g 9) (fun z => absurd (hi 1 9 (by decide) (by decide) (by decide) (by decide) z) (by decide))
  have s12 := gT_sw (x := g 1) (y := g 2) (fun z => absurd (hi 1 2 (by decide) (by decide) (by decide) (by decide) z) (by decide))
  have s13 := gT_sw (x := g 1) (y := g 3) (fun z => absurd (hi 1 3 (by decide) (by decide) (by decide) (by decide) z) (by decide))
  have s14 := gT_sw (x := g 1) (y := g 4) (fun z => absurd (hi 1 4 (by decide) (by decide) (by decide) (by decide) z) (by decide))
  have s15 := gT_sw (x := g 1) (y := g 5) (fun z => absurd (hi 1 5 (by decide) (by decide) (by decide) (by decide) z) (by decide))
  have s16 := gT_sw (x := g 1) (y := g 6) (fun z => absurd (hi 1 6 (by decide) (by decide) (by decide) (by decide) z) (by decide))
  have s17 := gT_sw (x := g 1) (y := g 7) (fun z => absurd (hi 1 7 (by decide) (by decide) (by decide) (by decide) z) (by decide))
  have s18 := gT_sw (x := g 1) (y := g 8) (fun z => absurd (hi 1 8 (by decide) (by decide) (by decide) (by decide) z) (by decide))
  have s29 := gT_sw (x := g 2) (y := g 9) (fun z => absurd (hi 2 9 (by decide) (by decide) (by decide) (by decide) z) (by decide))
  have s39 := gT_sw (x := g 3) (y := g 9) (fun z => absurd (hi 3 9 (by decide) (by decide) (by decide) (by decide) z) (by decide))
  have s49 := gT_sw (x := g 4) (y := g 9) (fun z => absurd (hi 4 9 (by decide) (by decide) (by decide) (by decide) z) (by decide))
  have s59 := gT_sw (x := g 5) (y := g 9) (fun z => absurd (hi 5 9 (by decide) (by decide) (by decide) (by decide) z) (by decide))
  have s69 := gT_sw (x := g 6) (y := g 9) (fun z => absurd (hi 6 9 (by decide) (by decide) (by decide) (by decide) z) (by decide))
  have s79 := gT_sw (x := g 7) (y := g 9) (fun z => absurd (hi 7 9 (by decide) (by decide) (by decide) (by decide) z) (by decide))
  have s89 := gT_sw (x := g 8) (y := g 9) (fun z => absurd (hi 8 9 (by decide) (by decide) (by decide) (by decide) z) (by decide))
  rw [gI_eq, gI_eq, e0, e1, e2, e3, e4, e5, e6, e7, e8, e9]
  omega
theorem gsw_2_9 (g : Int → Int) (hi : ∀ p q, 0 ≤ p → p < 10 → 0 ≤ q → q < 10 → g p = g q → p = q) : gI (zex g 2 9) % 2 = (gI g + 1) % 2 := by
  have e0 : zex g 2 9 0 = g 0 := by unfold zex; rw [zup_ne _ _ _ (by decide), zup_ne _ _ _ (by decide)]
  have e1 : zex g 2 9 1 = g 1 := by unfold zex; rw [zup_ne _ _ _ (by decide), zup_ne _ _ _ (by decide)]
  have e2 : zex g 2 9 2 = g 9 := by unfold zex; rw [zup_ne _ _ _ (by decide), zup_eq]
  have e3 : zex g 2 9 3 = g 3 := by unfold zex; rw [zup_ne _ _ _ (by decide), zup_ne _ _ _ (by decide)]
  have e4 : zex g 2 9 4 = g 4 := by unfold zex; rw [zup_ne _ _ _ (by decide), zup_ne _ _ _ (by decide)]
  have e5 : zex g 2 9 5 = g 5 := by unfold zex; rw [zup_ne _ _ _ (by decide), zup_ne _ _ _ (by decide)]
  have e6 : zex g 2 9 6 = g 6 := by unfold zex; rw [zup_ne _ _ _ (by decide), zup_ne _ _ _ (by decide)]
  have e7 : zex g 2 9 7 = g 7 := by unfold zex; rw [zup_ne _ _ _ (by decide), zup_ne _ _ _ (by decide)]
  have e8 : zex g 2 9 8 = g 8 := by unfold zex; rw [zup_ne _ _ _ (by decide), zup_ne _ _ _ (by decide)]
  have e9 : zex g 2 9 9 = g 2 := by unfold zex; rw [zup_eq]
  have s29 := gT_sw (x := g 2) (y := g 9) (fun z => absurd (hi 2 9 (by decide) (by decide) (by decide) (by decide) z) (by decide))
  have s23 := gT_sw (x := g 2) (y := g 3) (fun z => absurd (hi 2 3 (by decide) (by decide) (by decide) (by decide) z) (by decide))
  have s24 := gT_sw (x := g 2) (y := g 4) (fun z => absurd (hi 2 4 (by decide) (by decide) (by decide) (by decide) z) (by decide))
  have s25 := gT_sw (x := g 2) (y := g 5) (fun z => absurd (hi 2 5 (by decide) (by decide) (by decide) (by decide) z) (by decide))
  have s26 := gT_sw (x := g 2) (y := g 6) (fun z => absurd (hi 2 6 (by decide) (by decide) (by decide) (by decide) z) (by decide))
  have s27 := gT_sw (x := g 2) (y := g 7) (fun z => absurd (hi 2 7 (by decide) (by decide) (by decide) (by decide) z) (by decide))
  have s28 := gT_sw (x := g 2) (y := g 8) (fun z => absurd (hi 2 8 (by decide) (by decide) (by decide) (by decide) z) (by decide))
  have s39 := gT_sw (x := g 3) (y := g 9) (fun z => absurd (hi 3 9 (by decide) (by decide) (by decide) (by decide) z) (by decide))
  have s49 := gT_sw (x := g 4) (y := g 9) (fun z => absurd (hi 4 9 (by decide) (by decide) (by decide) (by decide) z) (by decide))
  have s59 := gT_sw (x := g 5) (y := g 9) (fun z => absurd (hi 5 9 (by decide) (by decide) (by decide) (by decide) z) (by decide))
  have s69 := gT_sw (x := g 6) (y := g 9) (fun z => absurd (hi 6 9 (by decide) (by decide) (by decide) (by decide) z) (by decide))
  have s79 := gT_sw (x := g 7) (y := g 9) (fun z => absurd (hi 7 9 (by decide) (by decide) (by decide) (by decide) z) (by decide))
  have s89 := gT_sw (x := g 8) (y := g 9) (fun z => absurd (hi 8 9 (by decide) (by decide) (by decide) (by decide) z) (by decide))
  rw [gI_eq, gI_eq, e0, e1, e2, e3, e4, e5, e6, e7, e8, e9]
  omega
theorem gsw_3_9 (g : Int → Int) (hi : ∀ p q, 0 ≤ p → p < 10 → 0 ≤ q → q < 10 → g p = g q → p = q) : gI (zex g 3 9) % 2 = (gI g + 1) % 2 := by
  have e0 : zex g 3 9 0 = g 0 := by unfold zex; rw [zup_ne _ _ _ (by decide), zup_ne _ _ _ (by decide)]
  have e1 : zex g 3 9 1 = g 1 := by unfold zex; rw [zup_ne _ _ _ (by decide), zup_ne _ _ _ (by decide)]
  have e2 : zex g 3 9 2 = g 2 := by unfold zex; rw [zup_ne _ _ _ (by decide), zup_ne _ _ _ (by decide)]
  have e3 : zex g 3 9 3 = g 9 := by unfold zex; rw [zup_ne _ _ _ (by decide), zup_eq]
  have e4 : zex g 3 9 4 = g 4 := by unfold zex; rw [zup_ne _ _ _ (by decide), zup_ne _ _ _ (by decide)]
  have e5 : zex g 3 9 5 = g 5 := by unfold zex; rw [zup_ne _ _ _ (by decide), zup_ne _ _ _ (by decide)]
  have e6 : zex g 3 9 6 = g 6 := by unfold zex; rw [zup_ne _ _ _ (by decide), zup_ne _ _ _ (by decide)]
  have e7 : zex g 3 9 7 = g 7 := by unfold zex; rw [zup_ne _ _ _ (by decide), zup_ne _ _ _ (by decide)]
  have e8 : zex g 3 9 8 = g 8 := by unfold zex; rw [zup_ne _ _ _ (by decide), zup_ne _ _ _ (by decide)]
  have e9 : zex g 3 9 9 = g 3 := by unfold zex; rw [zup_eq]
  have s39 := gT_sw (x := g 3) (y := g 9) (fun z => absurd (hi 3 9 (by decide) (by decide) (by decide) (by decide) z) (by decide))
  have s34 := gT_sw (x := g 3) (y := g 4) (fun z => absurd (hi 3 4 (by decide) (by decide) (by decide) (by decide) z) (by decide))
  have s35 := gT_sw (x := g 3) (y := g 5) (fun z => absurd (hi 3 5 (by decide) (by decide) (by decide) (by decide) z) (by decide))
  have s36 := gT_sw (x := g 3) (y := g 6) (fun z => absurd (hi 3 6 (by decide) (by decide) (by decide) (by decide) z) (by decide))
  have s37 := gT_sw (x := g 3) (y := g 7) (fun z => absurd (hi 3 7 (by decide) (by decide) (by decide) (by decide) z) (by decide))
  have s38 := gT_sw (x := g 3) (y := g 8) (fun z => absurd (hi 3 8 (by decide) (by decide) (by decide) (by decide) z) (by decide))
  have s49 := gT_sw (x := g 4) (y := g 9) (fun z => absurd (hi 4 9 (by decide) (by decide) (by decide) (by decide) z) (by decide))
  have s59 := gT_sw (x := g 5) (y := g 9) (fun z => absurd (hi 5 9 (by decide) (by decide) (by decide) (by decide) z) (by decide))
  have s69 := gT_sw (x := g 6) (y := g 9) (fun z => absurd (hi 6 9 (by decide) (by decide) (by decide) (by decide) z) (by decide))
  have s79 := gT_sw (x := g 7) (y := g 9) (fun z => absurd (hi 7 9 (by decide) (by decide) (by decide) (by decide) z) (by decide))
  have s89 := gT_sw (x := g 8) (y := g 9) (fun z => absurd (hi 8 9 (by decide) (by decide) (by decide) (by decide) z) (by decide))
  rw [gI_eq, gI_eq, e0, e1, e2, e3, e4, e5, e6, e7, e8, e9]
  omega
theorem gsw_4_9 (g : Int → Int) (hi : ∀ p q, 0 ≤ p → p < 10 → 0 ≤ q → q < 10 → g p = g q → p = q) : gI (zex g 4 9) % 2 = (gI g + 1) % 2 := by
  have e0 : zex g 4 9 0 = g 0 := by unfold zex; rw [zup_ne _ _ _ (by decide), zup_ne _ _ _ (by decide)]
  have e1 : zex g 4 9 1 = g 1 := by unfold zex; rw [zup_ne _ _ _ (by decide), zup_ne _ _ _ (by decide)]
  have e2 : zex g 4 9 2 = g 2 := by unfold zex; rw [zup_ne _ _ _ (by decide), zup_ne _ _ _ (by decide)]
  have e3 : zex g 4 9 3 = g 3 := by unfold zex; rw [zup_ne _ _ _ (by decide), zup_ne _ _ _ (by decide)]
  have e4 : zex g 4 9 4 = g 9 := by unfold zex; rw [zup_ne _ _ _ (by decide), zup_eq]
  have e5 : zex g 4 9 5 = g 5 := by unfold zex; rw [zup_ne _ _ _ (by decide), zup_ne _ _ _ (by decide)]
  have e6 : zex g 4 9 6 = g 6 := by unfold zex; rw [zup_ne _ _ _ (by decide), zup_ne _ _ _ (by decide)]
  have e7 : zex g 4 9 7 = g 7 := by unfold zex; rw [zup_ne _ _ _ (by decide), zup_ne _ _ _ (by decide)]
  have e8 : zex g 4 9 8 = g 8 := by unfold zex; rw [zup_ne _ _ _ (by decide), zup_ne _ _ _ (by decide)]
  have e9 : zex g 4 9 9 = g 4 := by unfold zex; rw [zup_eq]
  have s49 := gT_sw (x := g 4) (y := g 9) (fun z => absurd (hi 4 9 (by decide) (by decide) (by decide) (by decide) z) (by decide))
  have s45 := gT_sw (x := g 4) (y := g 5) (fun z => absurd (hi 4 5 (by decide) (by decide) (by decide) (by decide) z) (by decide))
  have s46 := gT_sw (x := g 4) (y := g 6) (fun z => absurd (hi 4 6 (by decide) (by decide) (by decide) (by decide) z) (by decide))
  have s47 := gT_sw (x := g 4) (y := g 7) (fun z => absurd (hi 4 7 (by decide) (by decide) (by decide) (by decide) z) (by decide))
  have s48 := gT_sw (x := g 4) (y := g 8) (fun z => absurd (hi 4 8 (by decide) (by decide) (by decide) (by decide) z) (by decide))
  have s59 := gT_sw (x := g 5) (y := g 9) (fun z => absurd (hi 5 9 (by decide) (by decide) (by decide) (by decide) z) (by decide))
  have s69 := gT_sw (x := g 6) (y := g 9) (fun z => absurd (hi 6 9 (by decide) (by decide) (by decide) (by decide) z) (by decide))
  have s79 := gT_sw (x := g 7) (y := g 9) (fun z => absurd (hi 7 9 (by decide) (by decide) (by decide) (by decide) z) (by decide))
  have s89 := gT_sw (x := g 8) (y := g 9) (fun z => absurd (hi 8 9 (by decide) (by decide) (by decide) (by decide) z) (by decide))
  rw [gI_eq, gI_eq, e0, e1, e2, e3, e4, e5, e6, e7, e8, e9]
  omega
theorem gsw_5_9 (g : Int → Int) (hi : ∀ p q, 0 ≤ p → p < 10 → 0 ≤ q → q < 10 → g p = g q → p = q) : gI (zex g 5 9) % 2 = (gI g + 1) % 2 := by
  have e0 : zex g 5 9 0 = g 0 := by unfold zex; rw [zup_ne _ _ _ (by decide), zup_ne _ _ _ (by decide)]
  have e1 : zex g 5 9 1 = g 1 := by unfold zex; rw [zup_ne _ _ _ (by decide), zup_ne _ _ _ (by decide)]
  have e2 : zex g 5 9 2 = g 2 := by unfold zex; rw [zup_ne _ _ _ (by decide), zup_ne _ _ _ (by decide)]
  have e3 : zex g 5 9 3 = g 3 := by unfold zex; rw [zup_ne _ _ _ (by decide), zup_ne _ _ _ (by decide)]
  have e4 : zex g 5 9 4 = g 4 := by unfold zex; rw [zup_ne _ _ _ (by decide), zup_ne _ _ _ (by decide)]
  have e5 : zex g 5 9 5 = g 9 := by unfold zex; rw [zup_ne _ _ _ (by decide), zup_eq]
  have e6 : zex g 5 9 6 = g 6 := by unfold zex; rw [zup_ne _ _ _ (by decide), zup_ne _ _ _ (by decide)]
  have e7 : zex g 5 9 7 = g 7 := by unfold zex; rw [zup_ne _ _ _ (by decide), zup_ne _ _ _ (by decide)]
  have e8 : zex g 5 9 8 = g 8 := by unfold zex; rw [zup_ne _ _ _ (by decide), zup_ne _ _ _ (by decide)]
  have e9 : zex g 5 9 9 = g 5 := by unfold zex; rw [zup_eq]
  have s59 := gT_sw (x := g 5) (y := g 9) (fun z => absurd (hi 5 9 (by decide) (by decide) (by decide) (by decide) z) (by decide))
  have s56 := gT_sw (x := g 5) (y := g 6) (fun z => absurd (hi 5 6 (by decide) (by decide) (by decide) (by decide) z) (by decide))
  have s57 := gT_sw (x := g 5) (y := g 7) (fun z => absurd (hi 5 7 (by decide) (by decide) (by decide) (by decide) z) (by decide))
  have s58 := gT_sw (x := g 5) (y := g 8) (fun z => absurd (hi 5 8 (by decide) (by decide) (by decide) (by decide) z) (by decide))
  have s69 := gT_sw (x := g 6) (y := g 9) (fun z => absurd (hi 6 9 (by decide) (by decide) (by decide) (by decide) z) (by decide))
  have s79 := gT_sw (x := g 7) (y := g 9) (fun z => absurd (hi 7 9 (by decide) (by decide) (by decide) (by decide) z) (by decide))
  have s89 := gT_sw (x := g 8) (y := g 9) (fun z => absurd (hi 8 9 (by decide) (by decide) (by decide) (by decide) z) (by decide))
  rw [gI_eq, gI_eq, e0, e1, e2, e3, e4, e5, e6, e7, e8, e9]
  omega
theorem gsw_6_9 (g : Int → Int) (hi : ∀ p q, 0 ≤ p → p < 10 → 0 ≤ q → q < 10 → g p = g q → p = q) : gI (zex g 6 9) % 2 = (gI g + 1) % 2 := by
  have e0 : zex g 6 9 0 = g 0 := by unfold zex; rw [zup_ne _ _ _ (by decide), zup_ne _ _ _ (by decide)]
  have e1 : zex g 6 9 1 = g 1 := by unfold zex; rw [zup_ne _ _ _ (by decide), zup_ne _ _ _ (by decide)]
  have e2 : zex g 6 9 2 = g 2 := by unfold zex; rw [zup_ne _ _ _ (by decide), zup_ne _ _ _ (by decide)]
  have e3 : zex g 6 9 3 = g 3 := by unfold zex; rw [zup_ne _ _ _ (by decide), zup_ne _ _ _ (by decide)]
  have e4 : zex g 6 9 4 = g 4 := by unfold zex; rw [zup_ne _ _ _ (by decide), zup_ne _ _ _ (by decide)]
  have e5 : zex g 6 9 5 = g 5 := by unfold zex; rw [zup_ne _ _ _ (by decide), zup_ne _ _ _ (by decide)]
  have e6 : zex g 6 9 6 = g 9 := by unfold zex; rw [zup_ne _ _ _ (by decide), zup_eq]
  have e7 : zex g 6 9 7 = g 7 := by unfold zex; rw [zup_ne _ _ _ (by decide), zup_ne _ _ _ (by decide)]
  have e8 : zex g 6 9 8 = g 8 := by unfold zex; rw [zup_ne _ _ _ (by decide), zup_ne _ _ _ (by decide)]
  have e9 : zex g 6 9 9 = g 6 := by unfold zex; rw [zup_eq]
  have s69 := gT_sw (x := g 6) (y := g 9) (fun z => absurd (hi 6 9 (by decide) (by decide) (by decide) (by decide) z) (by decide))
  have s67 := gT_sw (x := g 6) (y := g 7) (fun z => absurd (hi 6 7 (by decide) (by decide) (by decide) (by decide) z) (by decide))
  have s68 := gT_sw (x := g 6) (y := g 8) (fun z => absurd (hi 6 8 (by decide) (by decide) (by decide) (by decide) z) (by decide))
  have s79 := gT_sw (x := g 7) (y := g 9) (fun z => absurd (hi 7 9 (by decide) (by decide) (by decide) (by decide) z) (by decide))
  have s89 := gT_sw (x := g 8) (y := g 9) (fun z => absurd (hi 8 9 (by decide) (by decide) (by decide) (by decide) z) (by decide))
  rw [gI_eq, gI_eq, e0, e1, e2, e3, e4, e5, e6, e7, e8, e9]
  omega
theorem gsw_7_9 (g : Int → Int) (hi : ∀ p q, 0 ≤ p → p < 10 → 0 ≤ q → q < 10 → g p = g q → p = q) : gI (zex g 7 9) % 2 = (gI g + 1) % 2 := by
  have e0 : zex g 7 9 0 = g 0 := by unfold zex; rw [zup_ne _ _ _ (by decide), zup_ne _ _ _ (by decide)]
  have e1 : zex g 7 9 1 = g 1 := by unfold zex; rw [zup_ne _ _ _ (by decide), zup_ne _ _ _ (by decide)]
  have e2 : zex g 7 9 2 = g 2 := by unfold zex; rw [zup_ne _ _ _ (by decide), zup_ne _ _ _ (by decide)]
  have e3 : zex g 7 9 3 = g 3 := by unfold zex; rw [zup_ne _ _ _ (by decide), zup_ne _ _ _ (by decide)]
  have e4 : zex g 7 9 4 = g 4 := by unfold zex; rw [zup_ne _ _ _ (by decide), zup_ne _ _ _ (by decide)]
  have e5 : zex g 7 9 5 = g 5 := by unfold zex; rw [zup_ne _ _ _ (by decide), zup_ne _ _ _ (by decide)]
  have e6 : zex g 7 9 6 = g 6 := by unfold zex; rw [zup_ne _ _ _ (by decide), zup_ne _ _ _ (by decide)]
  have e7 : zex g 7 9 7 = g 9 := by unfold zex; rw [zup_ne _ _ _ (by decide), zup_eq]
  have e8 : zex g 7 9 8 = g 8 := by unfold zex; rw [zup_ne _ _ _ (by decide), zup_ne _ _ _ (by decide)]
  have e9 : zex g 7 9 9 = g 7 := by unfold zex; rw [zup_eq]
  have s79 := gT_sw (x := g 7) (y := g 9) (fun z => absurd (hi 7 9 (by decide) (by decide) (by decide) (by decide) z) (by decide))
  have s78 := gT_sw (x := g 7) (y := g 8) (fun z => absurd (hi 7 8 (by decide) (by decide) (by decide) (by decide) z) (by decide))
  have s89 := gT_sw (x := g 8) (y := g 9) (fun z => absurd (hi 8 9 (by decide) (by decide) (by decide) (by decide) z) (by decide))
  rw [gI_eq, gI_eq, e0, e1, e2, e3, e4, e5, e6, e7, e8, e9]
  omega
theorem gsw_8_9 (g : Int → Int) (hi : ∀ p q, 0 ≤ p → p < 10 → 0 ≤ q → q < 10 → g p = g q → p = q) : gI (zex g 8 9) % 2 = (gI g + 1) % 2 := by
  have e0 : zex g 8 9 0 = g 0 := by unfold zex; rw [zup_ne _ _ _ (by decide), zup_ne _ _ _ (by decide)]
  have e1 : zex g 8 9 1 = g 1 := by unfold zex; rw [zup_ne _ _ _ (by decide), zup_ne _ _ _ (by decide)]
  have e2 : zex g 8 9 2 = g 2 := by unfold zex; rw [zup_ne _ _ _ (by decide), zup_ne _ _ _ (by decide)]
  have e3 : zex g 8 9 3 = g 3 := by unfold zex; rw [zup_ne _ _ _ (by decide), zup_ne _ _ _ (by decide)]
  have e4 : zex g 8 9 4 = g 4 := by unfold zex; rw [zup_ne _ _ _ (by decide), zup_ne _ _ _ (by decide)]
  have e5 : zex g 8 9 5 = g 5 := by unfold zex; rw [zup_ne _ _ _ (by decide), zup_ne _ _ _ (by decide)]
  have e6 : zex g 8 9 6 = g 6 := by unfold zex; rw [zup_ne _ _ _ (by decide), zup_ne _ _ _ (by decide)]
  have e7 : zex g 8 9 7 = g 7 := by unfold zex; rw [zup_ne _ _ _ (by decide), zup_ne _ _ _ (by decide)]
  have e8 : zex g 8 9 8 = g 9 := by unfold zex; rw [zup_ne _ _ _ (by decide), zup_eq]
  have e9 : zex g 8 9 9 = g 8 := by unfold zex; rw [zup_eq]
  have s89 := gT_sw (x := g 8) (y := g 9) (fun z => absurd (hi 8 9 (by decide) (by decide) (by decide) (by decide) z) (by decide))
  rw [gI_eq, gI_eq, e0, e1, e2, e3, e4, e5, e6, e7, e8, e9]
  omega
theorem gsw {g : Int → Int} (hi : ∀ p q, 0 ≤ p → p < 10 → 0 ≤ q → q < 10 → g p = g q → p = q) {a c : Int} (a0 : 0 ≤ a) (hac : a < c) (c1 : c < 10) : gI (zex g a c) % 2 = (gI g + 1) % 2 := by
  have hc : c = 1 ∨ c = 2 ∨ c = 3 ∨ c = 4 ∨ c = 5 ∨ c = 6 ∨ c = 7 ∨ c = 8 ∨ c = 9 := by omega
  rcases hc with rfl | rfl | rfl | rfl | rfl | rfl | rfl | rfl | rfl
  · obtain rfl : a = 0 := by omega
    exact gsw_0_1 g hi
  · have ha : a = 0 ∨ a = 1 := by omega
    rcases ha with rfl | rfl
    · exact gsw_0_2 g hi
    · exact gsw_1_2 g hi
  · have ha : a = 0 ∨ a = 1 ∨ a = 2 := by omega
    rcases ha with rfl | rfl | rfl
    · exact gsw_0_3 g hi
    · exact gsw_1_3 g hi
    · exact gsw_2_3 g hi
  · have ha : a = 0 ∨ a = 1 ∨ a = 2 ∨ a = 3 := by omega
    rcases ha with rfl | rfl | rfl | rfl
    · exact gsw_0_4 g hi
    · exact gsw_1_4 g hi
    · exact gsw_2_4 g hi
    · exact gsw_3_4 g hi
  · have ha : a = 0 ∨ a = 1 ∨ a = 2 ∨ a = 3 ∨ a = 4 := by omega
    rcases ha with rfl | rfl | rfl | rfl | rfl
    · exact gsw_0_5 g hi
    · exact gsw_1_5 g hi
    · exact gsw_2_5 g hi
    · exact gsw_3_5 g hi
    · exact gsw_4_5 g hi
  · have ha : a = 0 ∨ a = 1 ∨ a = 2 ∨ a = 3 ∨ a = 4 ∨ a = 5 := by omega
    rcases ha with rfl | rfl | rfl | rfl | rfl | rfl
    · exact gsw_0_6 g hi
    · exact gsw_1_6 g hi
    · exact gsw_2_6 g hi
    · exact gsw_3_6 g hi
    · exact gsw_4_6 g hi
    · exact gsw_5_6 g hi
  · have ha : a = 0 ∨ a = 1 ∨ a = 2 ∨ a = 3 ∨ a = 4 ∨ a = 5 ∨ a = 6 := by omega
    rcases ha with rfl | rfl | rfl | rfl | rfl | rfl | rfl
    · exact gsw_0_7 g hi
    · exact gsw_1_7 g hi
    · exact gsw_2_7 g hi
    · exact gsw_3_7 g hi
    · exact gsw_4_7 g hi
    · exact gsw_5_7 g hi
    · exact gsw_6_7 g hi
  · have ha : a = 0 ∨ a = 1 ∨ a = 2 ∨ a = 3 ∨ a = 4 ∨ a = 5 ∨ a = 6 ∨ a = 7 := by omega
    rcases ha with rfl | rfl | rfl | rfl | rfl | rfl | rfl | rfl
    · exact gsw_0_8 g hi
    · exact gsw_1_8 g hi
    · exact gsw_2_8 g hi
    · exact gsw_3_8 g hi
    · exact gsw_4_8 g hi
    · exact gsw_5_8 g hi
    · exact gsw_6_8 g hi
    · exact gsw_7_8 g hi
  · have ha : a = 0 ∨ a = 1 ∨ a = 2 ∨ a = 3 ∨ a = 4 ∨ a = 5 ∨ a = 6 ∨ a = 7 ∨ a = 8 := by omega
    rcases ha with rfl | rfl | rfl | rfl | rfl | rfl | rfl | rfl | rfl
    · exact gsw_0_9 g hi
    · exact gsw_1_9 g hi
    · exact gsw_2_9 g hi
    · exact gsw_3_9 g hi
    · exact gsw_4_9 g hi
    · exact gsw_5_9 g hi
    · exact gsw_6_9 g hi
    · exact gsw_7_9 g hi
    · exact gsw_8_9 g hi
end ZPAR

