section ZLJ
def gQE (me : zMe) (A : zAb) (E : zRg) : Prop := gRR me A ∧ gDn me 174 175 E
theorem gQE.x {me me' : zMe} {A : zAb} {E : zRg} (h : gQE me A E) (hX : zRX me' 1 A) (hF : zFr 1 me me') : gQE me' A E := ⟨h.1.x hX hF, h.2.fr (hF 174 (Or.inr (by decide))) (hF 175 (Or.inr (by decide)))⟩
theorem vF0 {A : zAb} {k : Int} (k0 : 0 ≤ k) (k1 : k < 8) : zoFigure A k 0 = qS A k := by unfold zoFigure; rw [zif_neg (by omega), zif_pos rfl]
theorem vF1 {A : zAb} {k : Int} (k0 : 0 ≤ k) (k1 : k < 8) : zoFigure A k 1 = ((zsteps (qS A) (qC A) k).length : Int) := by unfold zoFigure; rw [zif_neg (by omega), zif_neg (by omega), zif_pos rfl]
theorem vF2 {A : zAb} {B k : Int} (hI : zIA B A) (k0 : 0 ≤ k) (k1 : k < 8) : zoFigure A k 2 = ((zol (zE A k) 10 : Nat) : Int) := by
  rw [← zol_zth (zgR_E hI k0 k1)]
  unfold zoFigure; rw [zif_neg (by omega), zif_neg (by omega), zif_neg (by omega), zif_pos rfl]
theorem vF3 {A : zAb} {k : Int} (k0 : 0 ≤ k) (k1 : k < 8) : zoFigure A k 3 = 10 - zSm (fun p => if (zE A k).1 p = p then 1 else 0) 10 := by unfold zoFigure; rw [zif_neg (by omega), zif_neg (by omega), zif_neg (by omega), zif_neg (by omega), zif_pos rfl]
theorem vF4 {A : zAb} {k : Int} (k0 : 0 ≤ k) (k1 : k < 8) : zoFigure A k 4 = 10 - zSm (fun p => if (zE A k).2 p = 0 then 1 else 0) 10 := by unfold zoFigure; rw [zif_neg (by omega), zif_neg (by omega), zif_neg (by omega), zif_neg (by omega), zif_neg (by omega), zif_pos rfl]
theorem vF5 {A : zAb} {B k : Int} (hI : zIA B A) (k0 : 0 ≤ k) (k1 : k < 8) : zoFigure A k 5 = (10 - zSm (gCy (zpl (zE A k).1)) 10) % 2 := by
  rw [← godd (zgR_E hI k0 k1)]
  unfold zoFigure; rw [zif_neg (by omega), zif_neg (by omega), zif_neg (by omega), zif_neg (by omega), zif_neg (by omega), zif_neg (by omega), zif_pos rfl]
theorem vF6 {A : zAb} {k : Int} (k0 : 0 ≤ k) (k1 : k < 8) : zoFigure A k 6 = zcm (qS A) (qC A) k := by unfold zoFigure; rw [zif_neg (by omega), zif_neg (by omega), zif_neg (by omega), zif_neg (by omega), zif_neg (by omega), zif_neg (by omega), zif_neg (by omega), zif_pos rfl]
theorem vF7 {A : zAb} {k : Int} (k0 : 0 ≤ k) (k1 : k < 8) : zoFigure A k 7 = zclr (zcm (qS A) (qC A)) k 8 := by unfold zoFigure; rw [zif_neg (by omega), zif_neg (by omega), zif_neg (by omega), zif_neg (by omega), zif_neg (by omega), zif_neg (by omega), zif_neg (by omega), zif_neg (by omega), zif_pos rfl]
theorem vF8 {A : zAb} {k : Int} (k0 : 0 ≤ k) (k1 : k < 8) : zoFigure A k 8 = -2 := by unfold zoFigure; rw [zif_neg (by omega), zif_neg (by omega), zif_neg (by omega), zif_neg (by omega), zif_neg (by omega), zif_neg (by omega), zif_neg (by omega), zif_neg (by omega), zif_neg (by omega)]
theorem vMe {A : zAb} {k : Int} : zoMove A k (qS A k) 0 = -1 := zif_pos (by omega)
theorem vM0 {A : zAb} {k j : Int} (k0 : 0 ≤ k) (k1 : k < 8) (j0 : 0 ≤ j) (j1 : j < qS A k) : zoMove A k j 0 = qC A (k * 10 + j) / 100 := by unfold zoMove; rw [zif_neg (by omega), zif_pos rfl]
theorem vM1 {A : zAb} {k j : Int} (k0 : 0 ≤ k) (k1 : k < 8) (j0 : 0 ≤ j) (j1 : j < qS A k) : zoMove A k j 1 = qC A (k * 10 + j) / 10 % 10 := by unfold zoMove; rw [zif_neg (by omega), zif_neg (by omega), zif_pos rfl]
theorem vM2 {A : zAb} {k j : Int} (k0 : 0 ≤ k) (k1 : k < 8) (j0 : 0 ≤ j) (j1 : j < qS A k) : zoMove A k j 2 = qC A (k * 10 + j) % 10 := by unfold zoMove; rw [zif_neg (by omega), zif_neg (by omega), zif_neg (by omega), zif_pos rfl]
theorem vE0 {A : zAb} {k p : Int} (k0 : 0 ≤ k) (k1 : k < 8) (p0 : 0 ≤ p) (p1 : p < 10) : zoEffect A k p 0 = zpl (zE A k).1 p := by unfold zoEffect; rw [zif_neg (by omega), zif_pos rfl]
theorem vE1 {A : zAb} {k p : Int} (k0 : 0 ≤ k) (k1 : k < 8) (p0 : 0 ≤ p) (p1 : p < 10) : zoEffect A k p 1 = (zE A k).2 (zpl (zE A k).1 p) := by unfold zoEffect; rw [zif_neg (by omega), zif_neg (by omega)]
theorem gmoved {E : zRg} (hE : zgR E.1 E.2) : zSm (fun i => if zpl E.1 i = i then 0 else 1) 10 = 10 - zSm (fun p => if E.1 p = p then 1 else 0) 10 := by
  refine zSm_comp (fun p p0 p1 => ?_)
  (try dsimp only)
  have h2 := zpl_ok hE p0 p1
  by_cases e : E.1 p = p
  · rw [if_pos e, if_pos (zpl_of hE p0 p1 e)]; omega
  · rw [if_neg e, if_neg (fun z => e (by have := h2.2.2; rw [z] at this; exact this))]; omega
theorem gturned {E : zRg} (hE : zgR E.1 E.2) : zSm (fun i => if E.2 (zpl E.1 i) > 0 then 1 else 0) 10 = 10 - zSm (fun p => if E.2 p = 0 then 1 else 0) 10 := by
  have h1 := zSm_perm 10 (zpl E.1) (fun p p0 p1 => (zpl_map hE).1 p p0 p1) (fun p q p0 p1 q0 q1 h => (zpl_map hE).2 p q p0 p1 q0 q1 h) (fun p => if E.2 p > 0 then 1 else 0)
  refine h1.trans ?_
  refine zSm_comp (fun p p0 p1 => ?_)
  (try dsimp only)
  have h2 := hE.1 p p0 p1
  by_cases e : E.2 p = 0
  · rw [if_pos e, if_neg (by omega)]; omega
  · rw [if_neg e, if_pos (by omega)]; omega
def gCd (s : Nat) : Nat → Nat
  | 0 => 0
  | n + 1 => gCd s n ||| (if s.testBit n then 2 ^ n else 0)
theorem gCd_8 : ∀ s : Nat, s < 256 → gCd s 8 = s := by decide +kernel
theorem gCd_lt : ∀ (s n : Nat), n ≤ 8 → gCd s n < 256 := by
  intro s n
  induction n with
  | zero => intro _; show (0 : Nat) < 256; decide
  | succ n ih =>
    intro hn
    have h1 := ih (by omega)
    show gCd s n ||| (if s.testBit n then 2 ^ n else 0) < 256
    by_cases e : s.testBit n = true
    · rw [if_pos e]
      exact zor_lt h1 (Nat.lt_of_le_of_lt (Nat.pow_le_pow_right (by decide) (show n ≤ 7 by omega)) (by decide))
    · rw [if_neg e, Nat.or_zero]; exact h1
theorem gCd_s {s n : Nat} (hn : n < 8) : (s.testBit n = true → zor (gCd s n : Int) (1 * 2 ^ (n : Int).toNat) = ((gCd s (n + 1) : Nat) : Int)) ∧ (¬ s.testBit n = true → zor (gCd s n : Int) 0 = ((gCd s (n + 1) : Nat) : Int)) := by
  have h1 := gCd_lt s n (by omega)
  constructor
  · intro e
    rw [(zor_pw h1 (a := (n : Int)) (by omega)).1]
    show _ = ((gCd s n ||| (if s.testBit n then 2 ^ n else 0) : Nat) : Int)
    rw [if_pos e]
    rfl
  · intro e
    rw [zor_0 h1]
    show _ = ((gCd s n ||| (if s.testBit n then 2 ^ n else 0) : Nat) : Int)
    rw [if_neg e, Nat.or_zero]
/-- the places that were seen -/
def gSn (g : Int → Int) (s : Nat) (i : Int) : Prop := ∀ q, 0 ≤ q → q < 10 → (s.testBit q.toNat = true ↔ ∃ j, 0 ≤ j ∧ j < i ∧ ∃ t, zit g j t = q)
theorem gSn_s {g : Int → Int} (hg : gPm g) {s s2 : Nat} {i : Int} (i0 : 0 ≤ i) (i1 : i < 10) (hs : gSn g s i) {m : Nat} (hm : m ≤ zln g i) (h2 : ∀ q, 0 ≤ q → q < 10 → (s2.testBit q.toNat = true ↔ s.testBit q.toNat = true ∨ ∃ t, t < m ∧ zit g i t = q)) (hx : s2.testBit (zit g i m).toNat = true) : gSn g s2 (i + 1) := by
  have hl := zln_spec hg.1 hg.2 i0 i1
  have hin := zit_in hg.1 i0 i1
  intro q q0 q1
  rw [h2 q q0 q1, hs q q0 q1]
  constructor
  · rintro (⟨j, j0, j1, t, ht⟩ | ⟨t, _, ht⟩)
    · exact ⟨j, j0, by omega, t, ht⟩
    · exact ⟨i, i0, by omega, t, ht⟩
  · rintro ⟨j, j0, j1, t, ht⟩
    by_cases e : j < i
    · exact Or.inl ⟨j, j0, e, t, ht⟩
    · obtain rfl : j = i := by omega
      have hx2 := (h2 _ (hin m).1 (hin m).2).1 hx
      rcases hx2 with h | ⟨t1, ht1, h⟩
      · left
        obtain ⟨j', j0', j1', t', ht'⟩ := (hs _ (hin m).1 (hin m).2).1 h
        refine ⟨j', j0', j1', t' + (zln g j - m) + t, ?_⟩
        have z1 : zit g j' (t' + (zln g j - m)) = j := by rw [← zit_add, ht', zit_add, show m + (zln g j - m) = zln g j by omega, hl.2.2.1]
        rw [← zit_add, z1]
        exact ht
      · right
        have hb := zit_back hg.1 hg.2 j0 i1 t1 (m - t1) (by rw [show t1 + (m - t1) = m by omega]; exact h.symm)
        have hml : m - t1 = zln g j := by
          by_cases e2 : m - t1 < zln g j
          · exact absurd hb (hl.2.2.2 (m - t1) (by omega) e2)
          · omega
        refine ⟨t % zln g j, by have := Nat.mod_lt t (show 0 < zln g j by omega); omega, ?_⟩
        have hdm := Nat.div_add_mod t (zln g j)
        rw [← ht]
        conv => rhs; rw [← hdm]
        rw [← zit_add, zit_mul g j (zln g j) hl.2.2.1]
theorem gSn_m {g : Int → Int} (hg : gPm g) {s s2 : Nat} {i : Int} (i0 : 0 ≤ i) (i1 : i < 10) {m : Nat} (hm : m ≤ zln g i) (h2 : ∀ q, 0 ≤ q → q < 10 → (s2.testBit q.toNat = true ↔ s.testBit q.toNat = true ∨ ∃ t, t < m ∧ zit g i t = q)) (hx : ¬ s2.testBit (zit g i m).toNat = true) : m < zln g i ∧ ∀ q, 0 ≤ q → q < 10 → ((s2 ||| 2 ^ (zit g i m).toNat).testBit q.toNat = true ↔ s.testBit q.toNat = true ∨ ∃ t, t < m + 1 ∧ zit g i t = q) := by
  have hl := zln_spec hg.1 hg.2 i0 i1
  have hin := zit_in hg.1 i0 i1
  refine ⟨?_, fun q q0 q1 => ?_⟩
  · by_cases e : m < zln g i
    · exact e
    · exfalso
      have em : m = zln g i := by omega
      refine hx ((h2 _ (hin m).1 (hin m).2).2 (Or.inr ⟨0, by omega, ?_⟩))
      rw [em, hl.2.2.1]
      rfl
  · rw [gsx (hin m).1 q0, h2 q q0 q1]
    constructor
    · rintro ((h | ⟨t, ht, h⟩) | h)
      · exact Or.inl h
      · exact Or.inr ⟨t, by omega, h⟩
      · exact Or.inr ⟨m, by omega, h.symm⟩
    · rintro (h | ⟨t, ht, h⟩)
      · exact Or.inl (Or.inl h)
      · by_cases e : t = m
        · subst e; exact Or.inr h.symm
        · exact Or.inl (Or.inr ⟨t, by omega, h⟩)
end ZLJ

