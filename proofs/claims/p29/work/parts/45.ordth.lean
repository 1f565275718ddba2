section ZQ64
theorem zact_idl {E : zRg} (hE : zgR E.1 E.2) : zact zid E = E := by
  have h1 : zaw zid.1 E.1 = E.1 := by
    funext q
    unfold zaw
    by_cases e : 0 ≤ q ∧ q < 10
    · have hr := hE.1 q e.1 e.2
      rw [zcut_in _ _ _ e.1 e.2]
      exact (show zcut 10 (fun q => q) (E.1 q) = E.1 q from zcut_in _ _ _ hr.1 hr.2.1)
    · rw [zcut_out _ _ _ e, (hE.2.2 q e).1]
  have h2 : zaf zid.2 E.1 E.2 = E.2 := by
    funext q
    unfold zaf
    by_cases e : 0 ≤ q ∧ q < 10
    · have hr := hE.1 q e.1 e.2
      have h0 : zid.2 (E.1 q) = 0 := (show zcut 10 (fun _ => 0) (E.1 q) = 0 from zcut_in _ _ _ hr.1 hr.2.1)
      rw [zcut_in _ _ _ e.1 e.2, h0]
      omega
    · rw [zcut_out _ _ _ e, (hE.2.2 q e).2]
  exact Prod.ext h1 h2
theorem zol_all {E : zRg} (hE : zgR E.1 E.2) {p : Int} (p0 : 0 ≤ p) (p1 : p < 10) : zbs E p (zol E 10) = (p, 0) := by
  have hd : ∀ n : Nat, p.toNat < n → zbk E p ∣ zol E n := by
    intro n
    induction n with
    | zero => intro h; omega
    | succ n ih =>
      intro h
      show zbk E p ∣ Nat.lcm (zol E n) (zbk E (n : Int))
      by_cases e : p.toNat = n
      · have e2 : (n : Int) = p := by omega
        rw [e2]
        exact Nat.dvd_lcm_right _ _
      · exact Nat.dvd_trans (ih (by omega)) (Nat.dvd_lcm_left _ _)
  obtain ⟨i, hi⟩ := hd 10 (by omega)
  rw [hi]
  exact zbs_mul hE p0 p1 (zbk_spec hE p0 p1).2.1 i
theorem zol_zth {E : zRg} (hE : zgR E.1 E.2) : 1 + zth E 120 E 0 = ((zol E 10 : Nat) : Int) := by
  have hb := zol_pos hE 10 (Nat.le_refl _)
  have hsh : ∀ n, zrt E E n = zrt E zid (n + 1) := fun n => by
    have := zrt_sh (E := E) (R := zid) n
    rw [zact_idl hE] at this
    exact this
  have h := zth_eq (E := E) 120 E 0 (zol E 10 - 1) (by omega) (by
    rw [hsh, show zol E 10 - 1 + 1 = zol E 10 by omega, zrt_hm hE]
    exact fun p p0 p1 => zol_all hE p0 p1) (fun j hj hz => by
    rw [hsh, zrt_hm hE] at hz
    have hd := Nat.le_of_dvd (Nat.succ_pos j) (zol_dvd hE hz 10 (Nat.le_refl _))
    omega)
  rw [h]
  omega
end ZQ64
