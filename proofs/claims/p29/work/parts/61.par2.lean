section ZPAR2
/-- a permutation of the ten places -/
def gPm (g : Int → Int) : Prop := (∀ p, 0 ≤ p → p < 10 → 0 ≤ g p ∧ g p < 10) ∧ ∀ p q, 0 ≤ p → p < 10 → 0 ≤ q → q < 10 → g p = g q → p = q
theorem zex_l {g : Int → Int} {a c : Int} (h : a ≠ c) : zex g a c a = g c := by unfold zex; rw [zup_ne _ _ _ h, zup_eq]
theorem zex_r {g : Int → Int} {a c : Int} : zex g a c c = g a := by unfold zex; rw [zup_eq]
theorem zex_o {g : Int → Int} {a c q : Int} (h1 : q ≠ a) (h2 : q ≠ c) : zex g a c q = g q := by unfold zex; rw [zup_ne _ _ _ h2, zup_ne _ _ _ h1]
theorem gPm_ex {g : Int → Int} (hg : gPm g) {a c : Int} (a0 : 0 ≤ a) (a1 : a < 10) (c0 : 0 ≤ c) (c1 : c < 10) (hac : a ≠ c) : gPm (zex g a c) := by
  have hv : ∀ p, 0 ≤ p → p < 10 → ∃ p', 0 ≤ p' ∧ p' < 10 ∧ zex g a c p = g p' ∧ (p = a → p' = c) ∧ (p = c → p' = a) ∧ (p ≠ a → p ≠ c → p' = p) := fun p p0 p1 => by
    by_cases e1 : p = a
    · subst e1; exact ⟨c, c0, c1, zex_l hac, fun _ => rfl, fun z => absurd z hac, fun z => absurd rfl z⟩
    · by_cases e2 : p = c
      · subst e2; exact ⟨a, a0, a1, zex_r, fun z => absurd z e1, fun _ => rfl, fun _ z => absurd rfl z⟩
      · exact ⟨p, p0, p1, zex_o e1 e2, fun z => absurd z e1, fun z => absurd z e2, fun _ _ => rfl⟩
  refine ⟨fun p p0 p1 => ?_, fun p q p0 p1 q0 q1 h => ?_⟩
  · obtain ⟨p', h1, h2, h3, _⟩ := hv p p0 p1
    rw [h3]; exact hg.1 p' h1 h2
  · obtain ⟨p', h1, h2, h3, h4, h5, h6⟩ := hv p p0 p1
    obtain ⟨q', g1, g2, g3, g4, g5, g6⟩ := hv q q0 q1
    rw [h3, g3] at h
    have e := hg.2 p' q' h1 h2 g1 g2 h
    by_cases e1 : p = a <;> by_cases e2 : p = c <;> by_cases e3 : q = a <;> by_cases e4 : q = c <;> simp_all
/-- the orbits below n, where n is taken out behind a -/
theorem gorb {g : Int → Int} {a n : Int} (han : a ≠ n) (hga : g a = n) (hinj : ∀ r, 0 ≤ r → r < 10 → g r = n → r = a) (hgn : g n ≠ n) (hin : ∀ j t, 0 ≤ j → j < 10 → 0 ≤ zit g j t ∧ zit g j t < 10) {j : Int} (j0 : 0 ≤ j) (j1 : j < 10) (hj : j ≠ n) : ∀ t : Nat, (zit g j t = n → ∃ t', zit (zex g a n) j t' = a) ∧ (zit g j t ≠ n → ∃ t', zit (zex g a n) j t' = zit g j t) := by
  intro t
  induction t with
  | zero => exact ⟨fun h => absurd h hj, fun _ => ⟨0, rfl⟩⟩
  | succ t ih =>
    have e : zit g j (t + 1) = g (zit g j t) := rfl
    rw [e]
    have hr := hin j t j0 j1
    by_cases e1 : zit g j t = n
    · obtain ⟨t', ht'⟩ := ih.1 e1
      rw [e1]
      refine ⟨fun h => absurd h hgn, fun _ => ⟨t' + 1, ?_⟩⟩
      show zex g a n (zit (zex g a n) j t') = g n
      rw [ht', zex_l han]
    · obtain ⟨t', ht'⟩ := ih.2 e1
      by_cases e2 : zit g j t = a
      · rw [e2, hga]
        exact ⟨fun _ => ⟨t', by rw [ht', e2]⟩, fun h => absurd rfl h⟩
      · refine ⟨fun h => absurd (hinj _ hr.1 hr.2 h) e2, fun _ => ⟨t' + 1, ?_⟩⟩
        show zex g a n (zit (zex g a n) j t') = _
        rw [ht', zex_o e2 e1]
theorem gorb2 {g : Int → Int} {a n : Int} (han : a ≠ n) (hga : g a = n) {j : Int} (hj : ∀ t', zit (zex g a n) j t' ≠ n) : ∀ t' : Nat, ∃ t, zit g j t = zit (zex g a n) j t' := by
  intro t'
  induction t' with
  | zero => exact ⟨0, rfl⟩
  | succ t' ih =>
    obtain ⟨t, ht⟩ := ih
    have h1 := hj t'
    have e : zit (zex g a n) j (t' + 1) = zex g a n (zit (zex g a n) j t') := rfl
    rw [e]
    by_cases e2 : zit (zex g a n) j t' = a
    · refine ⟨t + 1 + 1, ?_⟩
      show g (g (zit g j t)) = _
      rw [ht, e2, hga, zex_l han]
    · refine ⟨t + 1, ?_⟩
      show g (zit g j t) = _
      rw [ht, zex_o e2 h1]
theorem gCy_1 {g : Int → Int} {q : Int} (h : ¬ ∃ j, 0 ≤ j ∧ j < q ∧ ∃ t, zit g j t = q) : gCy g q = 1 := zif_neg h
theorem gCy_0 {g : Int → Int} {q : Int} (h : ∃ j, 0 ≤ j ∧ j < q ∧ ∃ t, zit g j t = q) : gCy g q = 0 := zif_pos h
theorem gCy_iff {g g' : Int → Int} {q : Int} (h : (∃ j, 0 ≤ j ∧ j < q ∧ ∃ t, zit g j t = q) ↔ ∃ j, 0 ≤ j ∧ j < q ∧ ∃ t, zit g' j t = q) : gCy g q = gCy g' q := by
  by_cases e : ∃ j, 0 ≤ j ∧ j < q ∧ ∃ t, zit g j t = q
  · rw [gCy_0 e, gCy_0 (h.1 e)]
  · rw [gCy_1 e, gCy_1 (fun z => e (h.2 z))]
theorem gcl9 {g : Int → Int} {m : Int} (h : ∀ r, 0 ≤ r → r < m → 0 ≤ g r ∧ g r < m) {j : Int} (j0 : 0 ≤ j) (j1 : j < m) : ∀ t : Nat, 0 ≤ zit g j t ∧ zit g j t < m := by
  intro t
  induction t with
  | zero => exact ⟨j0, j1⟩
  | succ t ih => exact h _ ih.1 ih.2
theorem gfix {g : Int → Int} {j : Int} (h : g j = j) : ∀ t : Nat, zit g j t = j := by
  intro t
  induction t with
  | zero => rfl
  | succ t ih => show g (zit g j t) = j; rw [ih, h]
theorem gCy_up {g : Int → Int} (hg : gPm g) {a n : Int} (a0 : 0 ≤ a) (han : a < n) (n1 : n < 10) (hga : g a = n) (hfix : ∀ q, n < q → q < 10 → g q = q) : zSm (gCy (zex g a n)) 10 = zSm (gCy g) 10 + 1 := by
  have hinj : ∀ r, 0 ≤ r → r < 10 → g r = n → r = a := fun r r0 r1 h => hg.2 r a r0 r1 (by omega) (by omega) (by rw [h, hga])
  have hgn : g n ≠ n := fun z => by have := hinj n (by omega) n1 z; omega
  have hin : ∀ j t, 0 ≤ j → j < 10 → 0 ≤ zit g j t ∧ zit g j t < 10 := fun j t j0 j1 => zit_in hg.1 j0 j1 t
  have hlow : ∀ r, 0 ≤ r → r < n + 1 → 0 ≤ g r ∧ g r < n + 1 := fun r r0 r1 => by
    have h1 := hg.1 r r0 (by omega)
    refine ⟨h1.1, ?_⟩
    by_cases e : g r < n + 1
    · exact e
    · exfalso
      have h2 := hfix (g r) (by omega) h1.2
      have h3 := hg.2 (g r) r h1.1 h1.2 r0 (by omega) h2
      omega
  have hlow2 : ∀ r, 0 ≤ r → r < n → 0 ≤ zex g a n r ∧ zex g a n r < n := fun r r0 r1 => by
    by_cases e : r = a
    · subst e
      rw [zex_l (by omega)]
      have h1 := hlow n (by omega) (by omega)
      have h2 : g n ≠ n := hgn
      omega
    · rw [zex_o e (by omega)]
      have h1 := hlow r r0 (by omega)
      have h2 : g r ≠ n := fun z => e (hinj r r0 (by omega) z)
      omega
  have hnn : zex g a n n = n := by rw [zex_r, hga]
  have hone := zSm_one (h := gCy (zex g a n)) (h' := gCy g) (p0 := n) (by omega) 10 (by omega) (fun q q0 q1 hq => by
    refine gCy_iff ?_
    by_cases e : n < q
    · have hno : ∀ f : Int → Int, (∀ r, 0 ≤ r → r < n + 1 → 0 ≤ f r ∧ f r < n + 1) → (∀ r, n < r → r < 10 → f r = r) → ¬ ∃ j, 0 ≤ j ∧ j < q ∧ ∃ t, zit f j t = q := fun f f1 f2 ⟨j, j0, j1, t, ht⟩ => by
        by_cases e3 : j < n + 1
        · have := gcl9 f1 j0 e3 t
          omega
        · have := gfix (f2 j (by omega) (by omega)) t
          omega
      have hA := hno (zex g a n) (fun r r0 r1 => by
        by_cases e4 : r = n
        · subst e4; rw [hnn]; omega
        · have := hlow2 r r0 (by omega)
          omega) (fun r r0 r1 => by rw [zex_o (by omega) (by omega)]; exact hfix r r0 r1)
      have hB := hno g hlow hfix
      exact ⟨fun z => absurd z hA, fun z => absurd z hB⟩
    · have hqn : q < n := by omega
      constructor
      · rintro ⟨j, j0, j1, t', ht'⟩
        obtain ⟨t, ht⟩ := gorb2 (g := g) (a := a) (n := n) (j := j) (by omega) hga (fun t9 => by have := gcl9 hlow2 j0 (by omega) t9; omega) t'
        exact ⟨j, j0, j1, t, by rw [ht, ht']⟩
      · rintro ⟨j, j0, j1, t, ht⟩
        obtain ⟨t', ht'⟩ := (gorb (g := g) (a := a) (n := n) (j := j) (by omega) hga hinj hgn hin j0 (by omega) (by omega) t).2 (by omega)
        exact ⟨j, j0, j1, t', by rw [ht', ht]⟩)
  have h1 : gCy (zex g a n) n = 1 := gCy_1 (fun ⟨j, j0, j1, t, ht⟩ => by have := gcl9 hlow2 j0 j1 t; omega)
  have h2 : gCy g n = 0 := gCy_0 ⟨a, a0, han, 1, hga⟩
  have hone' : zSm (gCy (zex g a n)) 10 = zSm (gCy g) 10 + (gCy (zex g a n) n - gCy g n) := hone
  rw [hone', h1, h2]
  omega
theorem gpar : ∀ (n : Nat) (g : Int → Int), n ≤ 10 → gPm g → (∀ q, (n : Int) ≤ q → q < 10 → g q = q) → gI g % 2 = (10 - zSm (gCy g) 10) % 2 := by
  intro n
  induction n with
  | zero =>
    intro g _ _ hfix
    have e1 : zSm (gCy g) 10 = zSm (fun _ => 1) 10 := zSm_congr _ (fun p p0 p1 => gCy_1 (fun ⟨j, j0, j1, t, ht⟩ => by
      have := gfix (hfix j j0 (by omega)) t
      omega))
    have e2 : gI g = zSm (fun _ => 0) 10 := zSm_congr _ (fun p p0 p1 => by
      (try dsimp only)
      have e3 : zSm (fun o => if o < p ∧ g p < g o then (1 : Int) else 0) 10 = zSm (fun _ => 0) 10 := zSm_congr _ (fun o o0 o1 => by
        (try dsimp only)
        rw [hfix p p0 p1, hfix o o0 o1]
        exact if_neg (by omega))
      rw [e3]
      rfl)
    rw [e1, e2]
    decide
  | succ n ih =>
    intro g hn hg hfix
    by_cases e : g (n : Int) = (n : Int)
    · refine ih g (by omega) hg (fun q q0 q1 => ?_)
      by_cases e2 : q = (n : Int)
      · rw [e2]; exact e
      · exact hfix q (by omega) q1
    · obtain ⟨a, a0, a1, ha⟩ := zsurj 10 g (fun p p0 p1 => hg.1 p p0 p1) (fun p q p0 p1 q0 q1 h => hg.2 p q p0 p1 q0 q1 h) (n : Int) (by omega) (by omega)
      have han : a < (n : Int) := by
        by_cases e3 : a < (n : Int)
        · exact e3
        · exfalso
          by_cases e4 : a = (n : Int)
          · subst e4; exact e ha
          · have := hfix a (by omega) a1
            omega
      have hP := gPm_ex hg a0 (by omega) (show 0 ≤ (n : Int) by omega) (by omega) (show a ≠ (n : Int) by omega)
      have h1 := ih (zex g a (n : Int)) (by omega) hP (fun q q0 q1 => by
        by_cases e2 : q = (n : Int)
        · rw [e2, zex_r, ha]
        · rw [zex_o (by omega) e2]; exact hfix q (by omega) q1)
      have h2 := gCy_up hg a0 han (by omega) ha (fun q q0 q1 => hfix q (by omega) q1)
      have h3 := gsw hg.2 a0 han (show (n : Int) < 10 by omega)
      omega
/-- the oddness of an effect, by its circles -/
theorem godd {E : zRg} (hE : zgR E.1 E.2) : zSm (fun p => zinv E.1 p 10) 10 % 2 = (10 - zSm (gCy (zpl E.1)) 10) % 2 := by
  rw [← zinv_sum hE]
  exact gpar 10 (zpl E.1) (by decide) ⟨(zpl_map hE).1, (zpl_map hE).2⟩ (fun q q0 q1 => by omega)
/-- masks of the ten places -/
theorem gsh1 : ∀ s : Nat, s < 1024 → ∀ k : Nat, k < 10 → (s / 2 ^ k) &&& 1 = if s.testBit k then 1 else 0 := by decide +kernel
theorem gand_n {a : Nat} (h : a < 1024) : zand (a : Int) 1 = ((a &&& 1 : Nat) : Int) := by
  unfold zand
  rw [zi_n, show (1 : Int) = ((1 : Nat) : Int) from rfl, zi_n, zand_nI, zn_to (Nat.lt_of_le_of_lt Nat.and_le_left (by omega))]
theorem gsh {s : Nat} (hs : s < 1024) {k : Int} (k0 : 0 ≤ k) (k1 : k < 10) : zand ((s : Int) / 2 ^ k.toNat) 1 = if s.testBit k.toNat then 1 else 0 := by
  have e : (s : Int) / 2 ^ k.toNat = ((s / 2 ^ k.toNat : Nat) : Int) := by simp
  have h1 : s / 2 ^ k.toNat < 1024 := Nat.lt_of_le_of_lt (Nat.div_le_self _ _) hs
  rw [e, gand_n h1, gsh1 s hs k.toNat (by omega)]
  split <;> rfl
theorem gpw {a : Int} (h : a < 10) : 2 ^ a.toNat < 1024 := by
  have h2 : a.toNat ≤ 9 := by omega
  exact Nat.lt_of_le_of_lt (Nat.pow_le_pow_right (by decide) h2) (by decide)
theorem gor_pw {s : Nat} (hs : s < 1024) {a : Int} (a1 : a < 10) : zor (s : Int) (1 * 2 ^ a.toNat) = ((s ||| 2 ^ a.toNat : Nat) : Int) ∧ s ||| 2 ^ a.toNat < 1024 := by
  have hlt : s ||| 2 ^ a.toNat < 1024 := Nat.or_lt_two_pow (n := 10) hs (gpw a1)
  refine ⟨?_, hlt⟩
  rw [zpw]
  unfold zor
  rw [zi_n, zi_n, zor_nI, zn_to (Nat.lt_trans hlt (by decide))]
end ZPAR2

