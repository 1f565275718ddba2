section ZMOW
/-! masks of figures, as natural numbers -/
theorem zn_to {a : Nat} (h : a < 2147483648) : (nI a).toInt = (a : Int) := by
  rw [← zi_n]; exact zi_to (by unfold zin; omega)
theorem zor_nI (a b : Nat) : nI a ||| nI b = nI (a ||| b) := by
  apply Int32.toBitVec_inj.1
  show BitVec.ofNat 32 a ||| BitVec.ofNat 32 b = BitVec.ofNat 32 (a ||| b)
  apply BitVec.eq_of_getLsbD_eq
  intro i hi
  simp [hi]
theorem zand_nI (a b : Nat) : nI a &&& nI b = nI (a &&& b) := by
  apply Int32.toBitVec_inj.1
  show BitVec.ofNat 32 a &&& BitVec.ofNat 32 b = BitVec.ofNat 32 (a &&& b)
  apply BitVec.eq_of_getLsbD_eq
  intro i hi
  simp [hi]
theorem zor_lt {a b : Nat} (ha : a < 256) (hb : b < 256) : a ||| b < 256 := Nat.or_lt_two_pow (n := 8) ha hb
theorem zand_lt {a b : Nat} (ha : a < 256) : a &&& b < 256 := Nat.lt_of_le_of_lt Nat.and_le_left ha
theorem zor_n {a b : Nat} (ha : a < 256) (hb : b < 256) : zor (a : Int) (b : Int) = ((a ||| b : Nat) : Int) := by
  unfold zor
  rw [zi_n, zi_n, zor_nI, zn_to (Nat.lt_of_lt_of_le (zor_lt ha hb) (by decide))]
theorem zand_n {a b : Nat} (ha : a < 256) : zand (a : Int) (b : Int) = ((a &&& b : Nat) : Int) := by
  unfold zand
  rw [zi_n, zi_n, zand_nI, zn_to (Nat.lt_of_lt_of_le (zand_lt ha) (by decide))]
theorem zbit1 : ∀ s : Nat, s < 256 → ∀ k : Nat, k < 8 → (s / 2 ^ k) &&& 1 = if s.testBit k then 1 else 0 := by decide +kernel
theorem zbit2 : ∀ s : Nat, s < 256 → ∀ k : Nat, k < 8 → ((s &&& 2 ^ k) ≠ 0 ↔ s.testBit k = true) := by decide +kernel
theorem zsh1 {s : Nat} (hs : s < 256) {k : Int} (k0 : 0 ≤ k) (k1 : k < 8) : zand ((s : Int) / 2 ^ k.toNat) 1 = if s.testBit k.toNat then 1 else 0 := by
  have e : (s : Int) / 2 ^ k.toNat = ((s / 2 ^ k.toNat : Nat) : Int) := by simp
  have h1 : s / 2 ^ k.toNat < 256 := Nat.lt_of_le_of_lt (Nat.div_le_self _ _) hs
  rw [e, show (1 : Int) = ((1 : Nat) : Int) from rfl, zand_n h1, zbit1 s hs k.toNat (by omega)]
  split <;> rfl
theorem zpw {a : Int} : (1 : Int) * 2 ^ a.toNat = ((2 ^ a.toNat : Nat) : Int) := by simp
theorem zpw_lt {a : Int} (h : a < 8) : 2 ^ a.toNat < 256 := Nat.lt_of_lt_of_le (Nat.pow_lt_pow_right (by decide) (show a.toNat < 8 by omega)) (by decide)
theorem zpw_lt' {a : Int} (h : a < 8) : 2 ^ a.toNat < 256 := by
  have h2 : a.toNat ≤ 7 := by omega
  exact Nat.lt_of_le_of_lt (Nat.pow_le_pow_right (by decide) h2) (by decide)
theorem zand_pw {s : Nat} (hs : s < 256) {k : Int} (k0 : 0 ≤ k) (k1 : k < 8) : zand (s : Int) (1 * 2 ^ k.toNat) ≠ 0 ↔ s.testBit k.toNat = true := by
  rw [zpw, zand_n hs, ← zbit2 s hs k.toNat (by omega)]
  omega
theorem zor_pw {s : Nat} (hs : s < 256) {a : Int} (a1 : a < 8) : zor (s : Int) (1 * 2 ^ a.toNat) = ((s ||| 2 ^ a.toNat : Nat) : Int) ∧ s ||| 2 ^ a.toNat < 256 := by
  rw [zpw, zor_n hs (zpw_lt' a1)]
  exact ⟨rfl, zor_lt hs (zpw_lt' a1)⟩
theorem zor_bit (s a i : Nat) : (s ||| 2 ^ a).testBit i = true ↔ s.testBit i = true ∨ i = a := by
  rw [Nat.testBit_or, Nat.testBit_two_pow, Bool.or_eq_true, decide_eq_true_eq]
  constructor
  · rintro (h | h)
    · exact Or.inl h
    · exact Or.inr h.symm
  · rintro (h | h)
    · exact Or.inl h
    · exact Or.inr h.symm
/-- a figure k calls a with one of its first j moves -/
def zcal (cd : Int → Int) (k : Int) (j : Nat) (a : Int) : Prop := ∃ m : Nat, m < j ∧ cd (k * 10 + (m : Int)) / 100 = 4 ∧ cd (k * 10 + (m : Int)) / 10 % 10 = a
theorem zpm_n {cd T : Int → Int} {k : Int} : ∀ j : Nat, (∀ a, zcal cd k j a → 0 ≤ a ∧ a < 8 ∧ ∃ t : Nat, t < 256 ∧ T a = (t : Int)) → ∃ n : Nat, n < 256 ∧ zpm cd T k j = (n : Int) ∧ ∀ i : Nat, n.testBit i = true ↔ ∃ a, zcal cd k j a ∧ (a = (i : Int) ∨ (T a).toNat.testBit i = true) := by
  intro j
  induction j with
  | zero =>
    intro _
    refine ⟨0, by decide, rfl, fun i => ?_⟩
    rw [Nat.zero_testBit]
    constructor
    · intro h; cases h
    · rintro ⟨a, ⟨m, hm, _⟩, _⟩; exact absurd hm (Nat.not_lt_zero m)
  | succ j ih =>
    intro h
    obtain ⟨n, n1, n2, n3⟩ := ih (fun a ⟨m, hm, hc⟩ => h a ⟨m, by omega, hc⟩)
    have e : zpm cd T k (j + 1) = if cd (k * 10 + (j : Int)) / 100 = 4 then zor (zor (zpm cd T k j) (T (cd (k * 10 + (j : Int)) / 10 % 10))) (1 * 2 ^ (cd (k * 10 + (j : Int)) / 10 % 10).toNat) else zpm cd T k j := rfl
    rw [e]
    by_cases hc : cd (k * 10 + (j : Int)) / 100 = 4
    · rw [if_pos hc]
      obtain ⟨a0, a1, t, t1, t2⟩ := h _ ⟨j, Nat.lt_succ_self j, hc, rfl⟩
      revert a0 a1 t2
      generalize ha : cd (k * 10 + (j : Int)) / 10 % 10 = a
      intro a0 a1 t2
      rw [n2, t2, zor_n n1 t1]
      have hp := zor_pw (zor_lt n1 t1) a1
      refine ⟨_, hp.2, hp.1, fun i => ?_⟩
      rw [zor_bit, Nat.testBit_or, Bool.or_eq_true, n3 i]
      constructor
      · rintro ((⟨b, ⟨m, hm, hb⟩, hi⟩ | hi) | hi)
        · exact ⟨b, ⟨m, by omega, hb⟩, hi⟩
        · exact ⟨a, ⟨j, Nat.lt_succ_self j, hc, ha⟩, Or.inr (by rw [t2]; exact hi)⟩
        · exact ⟨a, ⟨j, Nat.lt_succ_self j, hc, ha⟩, Or.inl (by omega)⟩
      · rintro ⟨b, ⟨m, hm, hb1, hb2⟩, hi⟩
        by_cases em : m = j
        · subst em
          have eb : b = a := by rw [← hb2, ha]
          subst eb
          rcases hi with hi | hi
          · exact Or.inr (by omega)
          · rw [t2] at hi; exact Or.inl (Or.inr hi)
        · exact Or.inl (Or.inl ⟨b, ⟨m, by omega, hb1, hb2⟩, hi⟩)
    · rw [if_neg hc]
      refine ⟨n, n1, n2, fun i => ?_⟩
      rw [n3 i]
      constructor
      · rintro ⟨b, ⟨m, hm, hb⟩, hi⟩
        exact ⟨b, ⟨m, by omega, hb⟩, hi⟩
      · rintro ⟨b, ⟨m, hm, hb1, hb2⟩, hi⟩
        by_cases em : m = j
        · subst em; exact absurd hb1 hc
        · exact ⟨b, ⟨m, by omega, hb1, hb2⟩, hi⟩
theorem zcal_in {sz cd : Int → Int} (hv : zfv sz cd) {k a : Int} {j : Nat} (k0 : 0 ≤ k) (k1 : k < 8) (hj : (j : Int) ≤ sz k) (h : zcal cd k j a) : 0 ≤ a ∧ a < k := by
  obtain ⟨m, hm, h1, h2⟩ := h
  have h3 := (hv k k0 k1).2.2 (m : Int) (by omega) (by omega)
  unfold zvm at h3
  omega
/-- the mask of those called, by bits -/
theorem zcm_n {sz cd : Int → Int} (hv : zfv sz cd) : ∀ (n : Nat) (k : Int), 0 ≤ k → k < 8 → k < n → ∃ c : Nat, c < 256 ∧ zcm sz cd k = (c : Int) ∧ ∀ i : Nat, c.testBit i = true ↔ ∃ a, zcal cd k (sz k).toNat a ∧ (a = (i : Int) ∨ (zcm sz cd a).toNat.testBit i = true) := by
  intro n
  induction n with
  | zero => intro k h0 _ h1; omega
  | succ n ih =>
    intro k k0 k1 k2
    rw [zcm_eq hv k0 k1]
    have hs := hv k k0 k1
    refine zpm_n (cd := cd) (T := zcm sz cd) (k := k) (sz k).toNat (fun a ha => ?_)
    have hb := zcal_in hv k0 k1 (by omega) ha
    obtain ⟨c, c1, c2, _⟩ := ih a hb.1 (by omega) (by omega)
    exact ⟨hb.1, by omega, c, c1, c2⟩
theorem zcm_b {sz cd : Int → Int} (hv : zfv sz cd) {k : Int} (k0 : 0 ≤ k) (k1 : k < 8) : (zcm sz cd k).toNat < 256 ∧ zcm sz cd k = ((zcm sz cd k).toNat : Int) ∧ ∀ i : Nat, (zcm sz cd k).toNat.testBit i = true ↔ ∃ a, zcal cd k (sz k).toNat a ∧ (a = (i : Int) ∨ (zcm sz cd a).toNat.testBit i = true) := by
  obtain ⟨c, c1, c2, c3⟩ := zcm_n hv 8 k k0 k1 (by omega)
  have e : (zcm sz cd k).toNat = c := by rw [c2]; rfl
  rw [e]
  exact ⟨c1, c2, c3⟩
theorem zcm_lt {sz cd : Int → Int} (hv : zfv sz cd) : ∀ (n : Nat) (k : Int), 0 ≤ k → k < 8 → k < n → ∀ i : Nat, (zcm sz cd k).toNat.testBit i = true → (i : Int) < k := by
  intro n
  induction n with
  | zero => intro k h0 _ h1; omega
  | succ n ih =>
    intro k k0 k1 k2 i hi
    have hs := hv k k0 k1
    obtain ⟨a, ha, h⟩ := ((zcm_b hv k0 k1).2.2 i).1 hi
    have hb := zcal_in hv k0 k1 (by omega) ha
    rcases h with h | h
    · omega
    · have := ih a hb.1 (by omega) (by omega) i h
      omega
/-- who is called by one who is called is called -/
theorem zcm_tr {sz cd : Int → Int} (hv : zfv sz cd) {r a : Int} (r0 : 0 ≤ r) (r1 : r < 8) (hra : zcal cd r (sz r).toNat a) : ∀ (n : Nat) (k : Int), 0 ≤ k → k < 8 → k < n → (zcm sz cd k).toNat.testBit r.toNat = true → (zcm sz cd k).toNat.testBit a.toNat = true := by
  intro n
  induction n with
  | zero => intro k h0 _ h1; omega
  | succ n ih =>
    intro k k0 k1 k2 hk
    have hs := hv k k0 k1
    have hsr := hv r r0 r1
    have har := zcal_in hv r0 r1 (by omega) hra
    obtain ⟨b, hb, h⟩ := ((zcm_b hv k0 k1).2.2 r.toNat).1 hk
    have hbk := zcal_in hv k0 k1 (by omega) hb
    refine ((zcm_b hv k0 k1).2.2 a.toNat).2 ⟨b, hb, Or.inr ?_⟩
    rcases h with h | h
    · have e : b = r := by omega
      subst e
      exact ((zcm_b hv r0 r1).2.2 a.toNat).2 ⟨a, hra, Or.inl (by omega)⟩
    · exact ih b hbk.1 (by omega) (by omega) h
/-- a set that is closed holds all that are called -/
theorem zcm_sub {sz cd : Int → Int} (hv : zfv sz cd) {f : Int} {s : Nat} (hs : ∀ r, 0 ≤ r → r < 8 → (r = f ∨ s.testBit r.toNat = true) → ∀ a, zcal cd r (sz r).toNat a → s.testBit a.toNat = true) : ∀ (n : Nat) (r : Int), 0 ≤ r → r < 8 → r < n → (r = f ∨ s.testBit r.toNat = true) → ∀ i : Nat, (zcm sz cd r).toNat.testBit i = true → s.testBit i = true := by
  intro n
  induction n with
  | zero => intro r h0 _ h1; omega
  | succ n ih =>
    intro r r0 r1 r2 hr i hi
    have hz := hv r r0 r1
    obtain ⟨a, ha, h⟩ := ((zcm_b hv r0 r1).2.2 i).1 hi
    have hb := zcal_in hv r0 r1 (by omega) ha
    have hsa := hs r r0 r1 hr a ha
    rcases h with h | h
    · have e : a.toNat = i := by omega
      rw [← e]; exact hsa
    · exact ih a hb.1 (by omega) (by omega) (Or.inr hsa) i h
end ZMOW

