section ZQ61
theorem zpl_map {E : zRg} (hE : zgR E.1 E.2) : (∀ p, 0 ≤ p → p < 10 → 0 ≤ zpl E.1 p ∧ zpl E.1 p < 10) ∧ (∀ p q, 0 ≤ p → p < 10 → 0 ≤ q → q < 10 → zpl E.1 p = zpl E.1 q → p = q) :=
  ⟨fun p p0 p1 => ⟨(zpl_ok hE p0 p1).1, (zpl_ok hE p0 p1).2.1⟩, fun p q p0 p1 q0 q1 h => by
    have e1 := (zpl_ok hE p0 p1).2.2
    have e2 := (zpl_ok hE q0 q1).2.2
    rw [← e1, h, e2]⟩
theorem zback120 {E : zRg} (hE : zgR E.1 E.2) : ∃ M, 1 ≤ M ∧ M ≤ 120 ∧ ∀ p, 0 ≤ p → p < 10 → zbs E p M = (p, 0) := by
  obtain ⟨N, h1, h2, h3⟩ := zcirc30 (zpl_map hE).1 (zpl_map hE).2
  exact ⟨4 * N, by omega, by omega, fun p p0 p1 => zbs_4 hE p0 p1 (by rw [zbs_it]; exact h3 p p0 p1)⟩
theorem zbk_ex {E : zRg} (hE : zgR E.1 E.2) {p : Int} (p0 : 0 ≤ p) (p1 : p < 10) : ∃ N, 1 ≤ N ∧ zbs E p N = (p, 0) ∧ ∀ m, 1 ≤ m → m < N → zbs E p m ≠ (p, 0) := by
  obtain ⟨M, h1, h2, h3⟩ := zback120 hE
  obtain ⟨l, a, ⟨b, c⟩, e⟩ := zleast (P := fun n => 1 ≤ n ∧ zbs E p n = (p, 0)) (n := M) ⟨h1, h3 p p0 p1⟩
  exact ⟨l, b, c, fun m m1 m2 m3 => e m m2 ⟨m1, m3⟩⟩
noncomputable def zbk (E : zRg) (p : Int) : Nat := @dite Nat (∃ N, 1 ≤ N ∧ zbs E p N = (p, 0) ∧ ∀ m, 1 ≤ m → m < N → zbs E p m ≠ (p, 0)) (Classical.propDecidable _) (fun h => Classical.choose h) (fun _ => 1)
theorem zbk_spec {E : zRg} (hE : zgR E.1 E.2) {p : Int} (p0 : 0 ≤ p) (p1 : p < 10) : 1 ≤ zbk E p ∧ zbs E p (zbk E p) = (p, 0) ∧ ∀ m, 1 ≤ m → m < zbk E p → zbs E p m ≠ (p, 0) := by
  have h := zbk_ex hE p0 p1
  have e : zbk E p = Classical.choose h := dif_pos h
  rw [e]
  exact Classical.choose_spec h
theorem zbk_dvd {E : zRg} (hE : zgR E.1 E.2) {p : Int} (p0 : 0 ≤ p) (p1 : p < 10) {n : Nat} (h : zbs E p n = (p, 0)) : zbk E p ∣ n := by
  have hs := zbk_spec hE p0 p1
  have hm := zbs_mul hE p0 p1 hs.2.1 (n / zbk E p)
  have ha := zbs_add hE p0 p1 (N := zbk E p * (n / zbk E p)) (by rw [hm]) (n % zbk E p)
  rw [Nat.div_add_mod, h, hm] at ha
  have hb := zbs_bd hE p0 p1 (n % zbk E p)
  have e1 : (zbs E p (n % zbk E p)).1 = p := (congrArg Prod.fst ha).symm
  have e2 : ((zbs E p (n % zbk E p)).2 + 0) % 4 = 0 := (congrArg Prod.snd ha).symm
  have e3 : zbs E p (n % zbk E p) = (p, 0) := Prod.ext e1 (by show (zbs E p (n % zbk E p)).2 = 0; omega)
  rcases Nat.eq_zero_or_pos (n % zbk E p) with z | z
  · exact Nat.dvd_of_mod_eq_zero z
  · exact absurd e3 (hs.2.2 _ z (Nat.mod_lt _ (by omega)))
end ZQ61
