section ZMOJ
theorem zlcm_next {a b m : Nat} (ha : 1 ≤ a) (h1 : a ∣ m) (h2 : m ≤ Nat.lcm a b) (h3 : ¬ b ∣ m) : m + a ≤ Nat.lcm a b := by
  have hne : m ≠ Nat.lcm a b := fun z => h3 (by rw [z]; exact Nat.dvd_lcm_right a b)
  obtain ⟨i, hi⟩ := h1
  obtain ⟨j, hj⟩ := Nat.dvd_lcm_left a b
  rw [hj] at h2 hne ⊢
  rw [hi] at h2 hne ⊢
  have hij : i < j := by
    rcases Nat.lt_or_ge i j with h | h
    · exact h
    · exact absurd (Nat.le_antisymm h2 (Nat.mul_le_mul_left a h)) hne
  calc a * i + a = a * (i + 1) := by rw [Nat.mul_add, Nat.mul_one]
    _ ≤ a * j := Nat.mul_le_mul_left a hij
set_option maxRecDepth 100000 in
set_option maxHeartbeats 1000000 in
theorem m_multiple {d : Nat} {sp : zSP} {me : zMe} {Q : zQ} {a b : Nat} (ha : 1 ≤ a) (hb : 1 ≤ b) (hl : Nat.lcm a b ≤ 100000000) (hQ : Q (some (zI ((Nat.lcm a b : Nat) : Int))) sp me) : zCall mX9_multiple d 0 0 [zI (a : Int), zI (b : Int)] sp me Q := by
  refine z_met kX9_multiple (by simp) (by simp) ?_
  show zW mX9_multiple d 0 0 Q 0 [zI (a : Int), zI (b : Int), zU] [] sp me
  refine z_L0I (pc' := 1) dX9_multiple_0 rfl ?_
  refine z_S2I (pc' := 2) rfl dX9_multiple_1 rfl ?_
  suffices H : ∀ (n m : Nat), Nat.lcm a b - m < n → 1 ≤ m → m ≤ Nat.lcm a b → a ∣ m → zW mX9_multiple d 0 0 Q 2 [zI (a : Int), zI (b : Int), zI (m : Int)] [] sp me by
    have hpos : 0 < Nat.lcm a b := Nat.lcm_pos (by omega) (by omega)
    exact H (Nat.lcm a b + 1) a (by omega) ha (Nat.le_of_dvd hpos (Nat.dvd_lcm_left a b)) (Nat.dvd_refl a)
  intro n
  induction n with
  | zero => intro m h; omega
  | succ n ih =>
  intro m h0 h1 h2 h3
  refine z_L2I (pc' := 3) dX9_multiple_2 rfl ?_
  refine z_L1I (pc' := 4) dX9_multiple_3 rfl ?_
  refine z_irem (pc' := 5) dX9_multiple_4 rfl (by omega) (by omega) ?_
  refine z_if_eq (tgt := 15) (pc' := 8) dX9_multiple_5 (by decide) rfl (fun h5 => ?_) (fun h5 => ?_)
  · have hdv : b ∣ m := Int.natCast_dvd_natCast.mp (Int.dvd_of_emod_eq_zero h5)
    have hml : m = Nat.lcm a b := Nat.le_antisymm h2 (Nat.le_of_dvd (by omega) (Nat.lcm_dvd h3 hdv))
    refine z_L2I (pc' := 16) dX9_multiple_15 rfl ?_
    refine z_ireturn rfl rfl dX9_multiple_16 ?_
    rw [hml]
    exact hQ
  · have hnd : ¬ b ∣ m := fun z => h5 (Int.emod_eq_zero_of_dvd (Int.natCast_dvd_natCast.mpr z))
    have hnx := zlcm_next ha h3 h2 hnd
    refine z_L2I (pc' := 9) dX9_multiple_8 rfl ?_
    refine z_L0I (pc' := 10) dX9_multiple_9 rfl ?_
    refine z_iadd (pc' := 11) dX9_multiple_10 rfl (by unfold zin; omega) ?_
    refine z_S2I (pc' := 12) rfl dX9_multiple_11 rfl ?_
    refine z_goto (tgt := 2) dX9_multiple_12 (by decide) ?_
    exact zW_to (ih (m + a) (by omega) (by omega) hnx (Nat.dvd_add h3 (Nat.dvd_refl a))) rfl rfl rfl
/-- the way of one who begins at a place with face 0 -/
def zbs (E : zRg) (p : Int) : Nat → Int × Int
  | 0 => (p, 0)
  | n + 1 => (zpl E.1 (zbs E p n).1, ((zbs E p n).2 + E.2 (zpl E.1 (zbs E p n).1)) % 4)
theorem zbs_bd {E : zRg} (hE : zgR E.1 E.2) {p : Int} (p0 : 0 ≤ p) (p1 : p < 10) : ∀ n : Nat, 0 ≤ (zbs E p n).1 ∧ (zbs E p n).1 < 10 ∧ 0 ≤ (zbs E p n).2 ∧ (zbs E p n).2 < 4 := by
  intro n
  induction n with
  | zero => exact ⟨p0, p1, Int.le_refl _, by show (0 : Int) < 4; decide⟩
  | succ n ih =>
    have h := zpl_ok hE ih.1 ih.2.1
    refine ⟨h.1, h.2.1, ?_, ?_⟩
    · exact Int.emod_nonneg _ (by decide)
    · exact Int.emod_lt_of_pos _ (by decide)
set_option maxRecDepth 100000 in
set_option maxHeartbeats 1000000 in
theorem m_back {d : Nat} {sp : zSP} {me : zMe} {Q : zQ} {y N : Nat} {k p : Int} {E : zRg} (hy : zMod sp y) (hk0 : 0 ≤ k) (hk1 : k < 8) (hE : zgR E.1 E.2) (hG : zGk me y k E) (p0 : 0 ≤ p) (p1 : p < 10) (hN1 : 1 ≤ N) (hN2 : N ≤ 100000) (hz : zbs E p N = (p, 0)) (hmin : ∀ m, 1 ≤ m → m < N → zbs E p m ≠ (p, 0)) (hQ : Q (some (zI (N : Int))) sp me) : zCall mX9_back d 0 0 [zR y, zI k, zI p] sp me Q := by
  refine z_met kX9_back (by simp) (by simp) ?_
  show zW mX9_back d 0 0 Q 0 [zR y, zI k, zI p, zU, zU, zU] [] sp me
  refine z_L2I (pc' := 1) dX9_back_0 rfl ?_
  refine z_S3I (pc' := 2) rfl dX9_back_1 rfl ?_
  refine z_iconst (pc' := 3) dX9_back_2 rfl (by unfold zin; decide) ?_
  refine z_S4I (pc' := 5) rfl dX9_back_3 rfl ?_
  refine z_iconst (pc' := 6) dX9_back_5 rfl (by unfold zin; decide) ?_
  refine z_S5I (pc' := 8) rfl dX9_back_6 rfl ?_
  suffices H : ∀ (n m : Nat), N - m < n → m ≤ N → zW mX9_back d 0 0 Q 8 [zR y, zI k, zI p, zI (zbs E p m).1, zI (zbs E p m).2, zI (m : Int)] [] sp me by
    exact H (N + 1) 0 (by omega) (by omega)
  intro n
  induction n with
  | zero => intro m h; omega
  | succ n ih =>
  intro m h0 h1
  have hb := zbs_bd hE p0 p1 m
  have hpl := zGk_pl (R := E) hE hG hb.1 hb.2.1
  have hpo := zpl_ok hE hb.1 hb.2.1
  have hfr := hE.1 _ hpo.1 hpo.2.1
  refine z_L5I (pc' := 10) dX9_back_8 rfl ?_
  refine z_if_eq (tgt := 23) (pc' := 13) dX9_back_10 (by decide) rfl (fun h10 => ?_) (fun h10 => ?_)
  · have hmN : m < N := by
      rcases Nat.lt_or_ge m N with h | h
      · exact h
      · have e : m = N := by omega
        have e1 : (zbs E p m).1 = p := by rw [e, hz]
        have e2 : (zbs E p m).2 = 0 := by rw [e, hz]
        omega
    refine z_L4I (pc' := 25) dX9_back_23 rfl ?_
    refine z_L0R (pc' := 26) dX9_back_25 rfl ?_
    refine z_getR (pc' := 29) (ki := 20) 20 fX9_56.l rfl rfl dX9_back_26 rfl hy.s hy.p20 ?_
    refine z_bipush (pc' := 31) dX9_back_29 rfl (by decide) ?_
    refine z_L1I (pc' := 32) dX9_back_31 rfl ?_
    refine z_imul (pc' := 33) dX9_back_32 rfl (by unfold zin; omega) ?_
    refine z_L3I (pc' := 34) dX9_back_33 rfl ?_
    refine z_iadd (pc' := 35) dX9_back_34 rfl (by unfold zin; omega) ?_
    refine z_ild (pc' := 36) dX9_back_35 rfl hy.a16 (by omega) (by omega) ?_
    rw [hpl.2]
    refine z_iadd (pc' := 37) dX9_back_36 rfl (by unfold zin; omega) ?_
    refine z_iconst (pc' := 38) dX9_back_37 rfl (by unfold zin; decide) ?_
    refine z_irem (pc' := 39) dX9_back_38 rfl (by omega) (by omega) ?_
    refine z_S4I (pc' := 41) rfl dX9_back_39 rfl ?_
    refine z_L0R (pc' := 42) dX9_back_41 rfl ?_
    refine z_getR (pc' := 45) (ki := 19) 19 fX9_53.l rfl rfl dX9_back_42 rfl hy.s hy.p19 ?_
    refine z_bipush (pc' := 47) dX9_back_45 rfl (by decide) ?_
    refine z_L1I (pc' := 48) dX9_back_47 rfl ?_
    refine z_imul (pc' := 49) dX9_back_48 rfl (by unfold zin; omega) ?_
    refine z_L3I (pc' := 50) dX9_back_49 rfl ?_
    refine z_iadd (pc' := 51) dX9_back_50 rfl (by unfold zin; omega) ?_
    refine z_ild (pc' := 52) dX9_back_51 rfl hy.a15 (by omega) (by omega) ?_
    rw [hpl.1]
    refine z_S3I (pc' := 53) rfl dX9_back_52 rfl ?_
    refine z_inc5 (pc' := 56) rfl dX9_back_53 rfl (by unfold zin; omega) ?_
    refine z_goto (tgt := 8) dX9_back_56 (by decide) ?_
    exact zW_to (ih (m + 1) (by omega) (by omega)) rfl rfl rfl
  · refine z_L3I (pc' := 14) dX9_back_13 rfl ?_
    refine z_L2I (pc' := 15) dX9_back_14 rfl ?_
    refine z_icmp_ne (tgt := 23) (pc' := 18) dX9_back_15 (by decide) rfl (fun h15 => ?_) (fun h15 => ?_)
    · have hmN : m < N := by
        rcases Nat.lt_or_ge m N with h | h
        · exact h
        · have e : m = N := by omega
          have e1 : (zbs E p m).1 = p := by rw [e, hz]
          have e2 : (zbs E p m).2 = 0 := by rw [e, hz]
          omega
      refine z_L4I (pc' := 25) dX9_back_23 rfl ?_
      refine z_L0R (pc' := 26) dX9_back_25 rfl ?_
      refine z_getR (pc' := 29) (ki := 20) 20 fX9_56.l rfl rfl dX9_back_26 rfl hy.s hy.p20 ?_
      refine z_bipush (pc' := 31) dX9_back_29 rfl (by decide) ?_
      refine z_L1I (pc' := 32) dX9_back_31 rfl ?_
      refine z_imul (pc' := 33) dX9_back_32 rfl (by unfold zin; omega) ?_
      refine z_L3I (pc' := 34) dX9_back_33 rfl ?_
      refine z_iadd (pc' := 35) dX9_back_34 rfl (by unfold zin; omega) ?_
      refine z_ild (pc' := 36) dX9_back_35 rfl hy.a16 (by omega) (by omega) ?_
      rw [hpl.2]
      refine z_iadd (pc' := 37) dX9_back_36 rfl (by unfold zin; omega) ?_
      refine z_iconst (pc' := 38) dX9_back_37 rfl (by unfold zin; decide) ?_
      refine z_irem (pc' := 39) dX9_back_38 rfl (by omega) (by omega) ?_
      refine z_S4I (pc' := 41) rfl dX9_back_39 rfl ?_
      refine z_L0R (pc' := 42) dX9_back_41 rfl ?_
      refine z_getR (pc' := 45) (ki := 19) 19 fX9_53.l rfl rfl dX9_back_42 rfl hy.s hy.p19 ?_
      refine z_bipush (pc' := 47) dX9_back_45 rfl (by decide) ?_
      refine z_L1I (pc' := 48) dX9_back_47 rfl ?_
      refine z_imul (pc' := 49) dX9_back_48 rfl (by unfold zin; omega) ?_
      refine z_L3I (pc' := 50) dX9_back_49 rfl ?_
      refine z_iadd (pc' := 51) dX9_back_50 rfl (by unfold zin; omega) ?_
      refine z_ild (pc' := 52) dX9_back_51 rfl hy.a15 (by omega) (by omega) ?_
      rw [hpl.1]
      refine z_S3I (pc' := 53) rfl dX9_back_52 rfl ?_
      refine z_inc5 (pc' := 56) rfl dX9_back_53 rfl (by unfold zin; omega) ?_
      refine z_goto (tgt := 8) dX9_back_56 (by decide) ?_
      exact zW_to (ih (m + 1) (by omega) (by omega)) rfl rfl rfl
    · refine z_L4I (pc' := 20) dX9_back_18 rfl ?_
      refine z_if_eq (tgt := 59) (pc' := 23) dX9_back_20 (by decide) rfl (fun h20 => ?_) (fun h20 => ?_)
      · have hmN : m = N := by
          rcases Nat.lt_or_ge m N with h | h
          · exact absurd (Prod.ext (by assumption) (by assumption)) (hmin m (by omega) h)
          · omega
        refine z_L5I (pc' := 61) dX9_back_59 rfl ?_
        refine z_ireturn rfl rfl dX9_back_61 ?_
        rw [hmN]
        exact hQ
      · have hmN : m < N := by
          rcases Nat.lt_or_ge m N with h | h
          · exact h
          · have e : m = N := by omega
            have e1 : (zbs E p m).1 = p := by rw [e, hz]
            have e2 : (zbs E p m).2 = 0 := by rw [e, hz]
            omega
        refine z_L4I (pc' := 25) dX9_back_23 rfl ?_
        refine z_L0R (pc' := 26) dX9_back_25 rfl ?_
        refine z_getR (pc' := 29) (ki := 20) 20 fX9_56.l rfl rfl dX9_back_26 rfl hy.s hy.p20 ?_
        refine z_bipush (pc' := 31) dX9_back_29 rfl (by decide) ?_
        refine z_L1I (pc' := 32) dX9_back_31 rfl ?_
        refine z_imul (pc' := 33) dX9_back_32 rfl (by unfold zin; omega) ?_
        refine z_L3I (pc' := 34) dX9_back_33 rfl ?_
        refine z_iadd (pc' := 35) dX9_back_34 rfl (by unfold zin; omega) ?_
        refine z_ild (pc' := 36) dX9_back_35 rfl hy.a16 (by omega) (by omega) ?_
        rw [hpl.2]
        refine z_iadd (pc' := 37) dX9_back_36 rfl (by unfold zin; omega) ?_
        refine z_iconst (pc' := 38) dX9_back_37 rfl (by unfold zin; decide) ?_
        refine z_irem (pc' := 39) dX9_back_38 rfl (by omega) (by omega) ?_
        refine z_S4I (pc' := 41) rfl dX9_back_39 rfl ?_
        refine z_L0R (pc' := 42) dX9_back_41 rfl ?_
        refine z_getR (pc' := 45) (ki := 19) 19 fX9_53.l rfl rfl dX9_back_42 rfl hy.s hy.p19 ?_
        refine z_bipush (pc' := 47) dX9_back_45 rfl (by decide) ?_
        refine z_L1I (pc' := 48) dX9_back_47 rfl ?_
        refine z_imul (pc' := 49) dX9_back_48 rfl (by unfold zin; omega) ?_
        refine z_L3I (pc' := 50) dX9_back_49 rfl ?_
        refine z_iadd (pc' := 51) dX9_back_50 rfl (by unfold zin; omega) ?_
        refine z_ild (pc' := 52) dX9_back_51 rfl hy.a15 (by omega) (by omega) ?_
        rw [hpl.1]
        refine z_S3I (pc' := 53) rfl dX9_back_52 rfl ?_
        refine z_inc5 (pc' := 56) rfl dX9_back_53 rfl (by unfold zin; omega) ?_
        refine z_goto (tgt := 8) dX9_back_56 (by decide) ?_
        exact zW_to (ih (m + 1) (by omega) (by omega)) rfl rfl rfl
end ZMOJ

