section ZMOI
theorem zSm_one_c : ∀ n : Nat, zSm (fun _ => (1 : Int)) (n : Int) = (n : Int) := by
  intro n
  induction n with
  | zero => rfl
  | succ n ih => rw [show ((n + 1 : Nat) : Int) = (n : Int) + 1 by omega, zSm_up _ _ (by omega), ih]
theorem zSm_comp {g g' : Int → Int} (h : ∀ p, 0 ≤ p → p < 10 → g' p = 1 - g p) : zSm g' 10 = 10 - zSm g 10 := by
  have h1 := zSm_add g g' 10
  have h2 : zSm (fun p => g p + g' p) ((10 : Nat) : Int) = zSm (fun _ => 1) ((10 : Nat) : Int) := zSm_congr _ (fun p p0 p1 => by
    (try dsimp only)
    rw [h p p0 p1]; omega)
  rw [h2, zSm_one_c] at h1
  have h3 : ((10 : Nat) : Int) = zSm g 10 + zSm g' 10 := h1
  omega
theorem zSm_ext {h : Int → Int} {p : Int} (p0 : 0 ≤ p) : ∀ n : Nat, p ≤ (n : Int) → (∀ o, p ≤ o → o < (n : Int) → h o = 0) → zSm h p = zSm h (n : Int) := by
  intro n
  induction n with
  | zero => intro h1 _; rw [show p = 0 by omega]; rfl
  | succ n ih =>
    intro h1 h2
    by_cases e : p = ((n + 1 : Nat) : Int)
    · rw [e]
    · rw [show ((n + 1 : Nat) : Int) = (n : Int) + 1 by omega, zSm_up _ _ (by omega), ← ih (by omega) (fun o o0 o1 => h2 o o0 (by omega)), h2 (n : Int) (by omega) (by omega)]
      omega
set_option maxRecDepth 100000 in
set_option maxHeartbeats 1000000 in
theorem m_moved {d : Nat} {sp : zSP} {me : zMe} {Q : zQ} {y : Nat} {k b : Int} {R : zRg} (hy : zMod sp y) (hk0 : 0 ≤ k) (hk1 : k < 8) (hR : zgR R.1 R.2) (hG : zGk me y k R) (hQ : Q (some (zI (if b = 0 then 10 - zSm (fun p => if R.1 p = p then 1 else 0) 10 else 10 - zSm (fun p => if R.2 p = 0 then 1 else 0) 10))) sp me) : zCall mX9_moved d 0 0 [zR y, zI k, zI b] sp me Q := by
  refine z_met kX9_moved (by simp) (by simp) ?_
  show zW mX9_moved d 0 0 Q 0 [zR y, zI k, zI b, zU, zU, zU] [] sp me
  refine z_iconst (pc' := 1) dX9_moved_0 rfl (by unfold zin; decide) ?_
  refine z_S3I (pc' := 2) rfl dX9_moved_1 rfl ?_
  refine z_iconst (pc' := 3) dX9_moved_2 rfl (by unfold zin; decide) ?_
  refine z_S4I (pc' := 5) rfl dX9_moved_3 rfl ?_
  suffices H : ∀ (n : Nat) (p : Int) (v : zV), 0 ≤ p → p ≤ 10 → 10 - p < n → zndv v = true → zW mX9_moved d 0 0 Q 5 [zR y, zI k, zI b, zI (zSm (fun p => if b = 0 then (if zpl R.1 p = p then 0 else 1) else (if R.2 (zpl R.1 p) = 0 then 0 else 1)) p), zI p, v] [] sp me by
    exact H 11 0 zU (by omega) (by omega) (by omega) rfl
  intro n
  induction n with
  | zero => intro p v h0 h1 h2; omega
  | succ n ih =>
  intro p v hp0 hp1 hp2 hv
  have hbd := zSm_bd (g := fun p => if b = 0 then (if zpl R.1 p = p then 0 else 1) else (if R.2 (zpl R.1 p) = 0 then 0 else 1)) (a := 0) (b := 1) (fun p _ => by (repeat' split) <;> omega) p hp0
  have hup := zSm_up (fun p => if b = 0 then (if zpl R.1 p = p then (0 : Int) else 1) else (if R.2 (zpl R.1 p) = 0 then 0 else 1)) p hp0
  refine z_L4I (pc' := 7) dX9_moved_5 rfl ?_
  refine z_bipush (pc' := 9) dX9_moved_7 rfl (by decide) ?_
  refine z_icmp_ge (tgt := 82) (pc' := 12) dX9_moved_9 (by decide) rfl (fun h9 => ?_) (fun h9 => ?_)
  · obtain rfl : p = 10 := by omega
    refine z_L3I (pc' := 83) dX9_moved_82 rfl ?_
    refine z_ireturn rfl rfl dX9_moved_83 ?_
    by_cases e : b = 0
    · rw [if_pos e] at hQ
      rw [zSm_comp (g := fun p => if R.1 p = p then 1 else 0) (fun p p0 p1 => by
        (try dsimp only)
        rw [if_pos e]
        by_cases e2 : R.1 p = p
        · rw [if_pos e2, if_pos (zpl_of hR p0 p1 e2)]; rfl
        · rw [if_neg e2, if_neg (fun z => e2 (by have := (zpl_ok hR p0 p1).2.2; rw [z] at this; exact this))]; rfl)]
      exact hQ
    · rw [if_neg e] at hQ
      have hpm := zSm_perm 10 (zpl R.1) (fun p p0 p1 => ⟨(zpl_ok hR p0 p1).1, (zpl_ok hR p0 p1).2.1⟩) (fun p q p0 p1 q0 q1 hh => by
        have e1 := (zpl_ok hR p0 p1).2.2
        have e2 := (zpl_ok hR q0 q1).2.2
        rw [← e1, hh, e2]) (fun p => if R.2 p = 0 then 1 else 0)
      have hpm2 : zSm (fun p => if R.2 (zpl R.1 p) = 0 then (1 : Int) else 0) 10 = zSm (fun p => if R.2 p = 0 then 1 else 0) 10 := hpm
      rw [zSm_comp (g := fun p => if R.2 (zpl R.1 p) = 0 then 1 else 0) (fun p p0 p1 => by
        (try dsimp only)
        rw [if_neg e]
        by_cases e2 : R.2 (zpl R.1 p) = 0
        · rw [if_pos e2, if_pos e2]; rfl
        · rw [if_neg e2, if_neg e2]; rfl), hpm2]
      exact hQ
  · have hpl := zGk_pl (R := R) hR hG hp0 (show p < 10 by omega)
    have hpo := zpl_ok hR hp0 (show p < 10 by omega)
    have hfr := hR.1 _ hpo.1 hpo.2.1
    refine z_L2I (pc' := 13) dX9_moved_12 rfl ?_
    refine z_if_eq (tgt := 39) (pc' := 16) dX9_moved_13 (by decide) rfl (fun h13 => ?_) (fun h13 => ?_)
    · refine z_L0R (pc' := 40) dX9_moved_39 rfl ?_
      refine z_getR (pc' := 43) (ki := 19) 19 fX9_53.l rfl rfl dX9_moved_40 rfl hy.s hy.p19 ?_
      refine z_bipush (pc' := 45) dX9_moved_43 rfl (by decide) ?_
      refine z_L1I (pc' := 46) dX9_moved_45 rfl ?_
      refine z_imul (pc' := 47) dX9_moved_46 rfl (by unfold zin; omega) ?_
      refine z_L4I (pc' := 49) dX9_moved_47 rfl ?_
      refine z_iadd (pc' := 50) dX9_moved_49 rfl (by unfold zin; omega) ?_
      refine z_ild (pc' := 51) dX9_moved_50 rfl hy.a15 (by omega) (by omega) ?_
      rw [hpl.1]
      refine z_L4I (pc' := 53) dX9_moved_51 rfl ?_
      refine z_icmp_eq (tgt := 60) (pc' := 56) dX9_moved_53 (by decide) rfl (fun h53 => ?_) (fun h53 => ?_)
      · refine z_iconst (pc' := 61) dX9_moved_60 rfl (by unfold zin; decide) ?_
        refine z_S5I (pc' := 63) rfl dX9_moved_61 rfl ?_
        refine z_L3I (pc' := 64) dX9_moved_63 rfl ?_
        refine z_L5I (pc' := 66) dX9_moved_64 rfl ?_
        refine z_if_eq (tgt := 73) (pc' := 69) dX9_moved_66 (by decide) rfl (fun h66 => ?_) (fun h66 => ?_)
        · refine z_iconst (pc' := 74) dX9_moved_73 rfl (by unfold zin; decide) ?_
          refine z_iadd (pc' := 75) dX9_moved_74 rfl (by unfold zin; omega) ?_
          refine z_S3I (pc' := 76) rfl dX9_moved_75 rfl ?_
          refine z_inc4 (pc' := 79) rfl dX9_moved_76 rfl (by unfold zin; omega) ?_
          refine z_goto (tgt := 5) dX9_moved_79 (by decide) ?_
          first
          | (exfalso; omega)
          | (refine zW_to (ih (p + 1) (zI 0) (by omega) (by omega) (by omega) rfl) ?_ rfl rfl
             rw [hup]
             first
             | (rw [if_pos (by omega), if_pos (by omega)]; done)
             | (rw [if_pos (by omega), if_neg (by omega)]; done)
             | (rw [if_neg (by omega), if_pos (by omega)]; done)
             | (rw [if_neg (by omega), if_neg (by omega)]; done))
          | (refine zW_to (ih (p + 1) (zI 1) (by omega) (by omega) (by omega) rfl) ?_ rfl rfl
             rw [hup]
             first
             | (rw [if_pos (by omega), if_pos (by omega)]; done)
             | (rw [if_pos (by omega), if_neg (by omega)]; done)
             | (rw [if_neg (by omega), if_pos (by omega)]; done)
             | (rw [if_neg (by omega), if_neg (by omega)]; done))
        · refine z_iconst (pc' := 70) dX9_moved_69 rfl (by unfold zin; decide) ?_
          refine z_goto (tgt := 74) dX9_moved_70 (by decide) ?_
          refine z_iadd (pc' := 75) dX9_moved_74 rfl (by unfold zin; omega) ?_
          refine z_S3I (pc' := 76) rfl dX9_moved_75 rfl ?_
          refine z_inc4 (pc' := 79) rfl dX9_moved_76 rfl (by unfold zin; omega) ?_
          refine z_goto (tgt := 5) dX9_moved_79 (by decide) ?_
          first
          | (exfalso; omega)
          | (refine zW_to (ih (p + 1) (zI 0) (by omega) (by omega) (by omega) rfl) ?_ rfl rfl
             rw [hup]
             first
             | (rw [if_pos (by omega), if_pos (by omega)]; done)
             | (rw [if_pos (by omega), if_neg (by omega)]; done)
             | (rw [if_neg (by omega), if_pos (by omega)]; done)
             | (rw [if_neg (by omega), if_neg (by omega)]; done))
          | (refine zW_to (ih (p + 1) (zI 1) (by omega) (by omega) (by omega) rfl) ?_ rfl rfl
             rw [hup]
             first
             | (rw [if_pos (by omega), if_pos (by omega)]; done)
             | (rw [if_pos (by omega), if_neg (by omega)]; done)
             | (rw [if_neg (by omega), if_pos (by omega)]; done)
             | (rw [if_neg (by omega), if_neg (by omega)]; done))
      · refine z_iconst (pc' := 57) dX9_moved_56 rfl (by unfold zin; decide) ?_
        refine z_goto (tgt := 61) dX9_moved_57 (by decide) ?_
        refine z_S5I (pc' := 63) rfl dX9_moved_61 rfl ?_
        refine z_L3I (pc' := 64) dX9_moved_63 rfl ?_
        refine z_L5I (pc' := 66) dX9_moved_64 rfl ?_
        refine z_if_eq (tgt := 73) (pc' := 69) dX9_moved_66 (by decide) rfl (fun h66 => ?_) (fun h66 => ?_)
        · refine z_iconst (pc' := 74) dX9_moved_73 rfl (by unfold zin; decide) ?_
          refine z_iadd (pc' := 75) dX9_moved_74 rfl (by unfold zin; omega) ?_
          refine z_S3I (pc' := 76) rfl dX9_moved_75 rfl ?_
          refine z_inc4 (pc' := 79) rfl dX9_moved_76 rfl (by unfold zin; omega) ?_
          refine z_goto (tgt := 5) dX9_moved_79 (by decide) ?_
          first
          | (exfalso; omega)
          | (refine zW_to (ih (p + 1) (zI 0) (by omega) (by omega) (by omega) rfl) ?_ rfl rfl
             rw [hup]
             first
             | (rw [if_pos (by omega), if_pos (by omega)]; done)
             | (rw [if_pos (by omega), if_neg (by omega)]; done)
             | (rw [if_neg (by omega), if_pos (by omega)]; done)
             | (rw [if_neg (by omega), if_neg (by omega)]; done))
          | (refine zW_to (ih (p + 1) (zI 1) (by omega) (by omega) (by omega) rfl) ?_ rfl rfl
             rw [hup]
             first
             | (rw [if_pos (by omega), if_pos (by omega)]; done)
             | (rw [if_pos (by omega), if_neg (by omega)]; done)
             | (rw [if_neg (by omega), if_pos (by omega)]; done)
             | (rw [if_neg (by omega), if_neg (by omega)]; done))
        · refine z_iconst (pc' := 70) dX9_moved_69 rfl (by unfold zin; decide) ?_
          refine z_goto (tgt := 74) dX9_moved_70 (by decide) ?_
          refine z_iadd (pc' := 75) dX9_moved_74 rfl (by unfold zin; omega) ?_
          refine z_S3I (pc' := 76) rfl dX9_moved_75 rfl ?_
          refine z_inc4 (pc' := 79) rfl dX9_moved_76 rfl (by unfold zin; omega) ?_
          refine z_goto (tgt := 5) dX9_moved_79 (by decide) ?_
          first
          | (exfalso; omega)
          | (refine zW_to (ih (p + 1) (zI 0) (by omega) (by omega) (by omega) rfl) ?_ rfl rfl
             rw [hup]
             first
             | (rw [if_pos (by omega), if_pos (by omega)]; done)
             | (rw [if_pos (by omega), if_neg (by omega)]; done)
             | (rw [if_neg (by omega), if_pos (by omega)]; done)
             | (rw [if_neg (by omega), if_neg (by omega)]; done))
          | (refine zW_to (ih (p + 1) (zI 1) (by omega) (by omega) (by omega) rfl) ?_ rfl rfl
             rw [hup]
             first
             | (rw [if_pos (by omega), if_pos (by omega)]; done)
             | (rw [if_pos (by omega), if_neg (by omega)]; done)
             | (rw [if_neg (by omega), if_pos (by omega)]; done)
             | (rw [if_neg (by omega), if_neg (by omega)]; done))
    · refine z_L0R (pc' := 17) dX9_moved_16 rfl ?_
      refine z_getR (pc' := 20) (ki := 20) 20 fX9_56.l rfl rfl dX9_moved_17 rfl hy.s hy.p20 ?_
      refine z_bipush (pc' := 22) dX9_moved_20 rfl (by decide) ?_
      refine z_L1I (pc' := 23) dX9_moved_22 rfl ?_
      refine z_imul (pc' := 24) dX9_moved_23 rfl (by unfold zin; omega) ?_
      refine z_L4I (pc' := 26) dX9_moved_24 rfl ?_
      refine z_iadd (pc' := 27) dX9_moved_26 rfl (by unfold zin; omega) ?_
      refine z_ild (pc' := 28) dX9_moved_27 rfl hy.a16 (by omega) (by omega) ?_
      rw [hpl.2]
      refine z_if_le (tgt := 35) (pc' := 31) dX9_moved_28 (by decide) rfl (fun h28 => ?_) (fun h28 => ?_)
      · refine z_iconst (pc' := 36) dX9_moved_35 rfl (by unfold zin; decide) ?_
        refine z_goto (tgt := 61) dX9_moved_36 (by decide) ?_
        refine z_S5I (pc' := 63) rfl dX9_moved_61 rfl ?_
        refine z_L3I (pc' := 64) dX9_moved_63 rfl ?_
        refine z_L5I (pc' := 66) dX9_moved_64 rfl ?_
        refine z_if_eq (tgt := 73) (pc' := 69) dX9_moved_66 (by decide) rfl (fun h66 => ?_) (fun h66 => ?_)
        · refine z_iconst (pc' := 74) dX9_moved_73 rfl (by unfold zin; decide) ?_
          refine z_iadd (pc' := 75) dX9_moved_74 rfl (by unfold zin; omega) ?_
          refine z_S3I (pc' := 76) rfl dX9_moved_75 rfl ?_
          refine z_inc4 (pc' := 79) rfl dX9_moved_76 rfl (by unfold zin; omega) ?_
          refine z_goto (tgt := 5) dX9_moved_79 (by decide) ?_
          first
          | (exfalso; omega)
          | (refine zW_to (ih (p + 1) (zI 0) (by omega) (by omega) (by omega) rfl) ?_ rfl rfl
             rw [hup]
             first
             | (rw [if_pos (by omega), if_pos (by omega)]; done)
             | (rw [if_pos (by omega), if_neg (by omega)]; done)
             | (rw [if_neg (by omega), if_pos (by omega)]; done)
             | (rw [if_neg (by omega), if_neg (by omega)]; done))
          | (refine zW_to (ih (p + 1) (zI 1) (by omega) (by omega) (by omega) rfl) ?_ rfl rfl
             rw [hup]
             first
             | (rw [if_pos (by omega), if_pos (by omega)]; done)
             | (rw [if_pos (by omega), if_neg (by omega)]; done)
             | (rw [if_neg (by omega), if_pos (by omega)]; done)
             | (rw [if_neg (by omega), if_neg (by omega)]; done))
        · refine z_iconst (pc' := 70) dX9_moved_69 rfl (by unfold zin; decide) ?_
          refine z_goto (tgt := 74) dX9_moved_70 (by decide) ?_
          refine z_iadd (pc' := 75) dX9_moved_74 rfl (by unfold zin; omega) ?_
          refine z_S3I (pc' := 76) rfl dX9_moved_75 rfl ?_
          refine z_inc4 (pc' := 79) rfl dX9_moved_76 rfl (by unfold zin; omega) ?_
          refine z_goto (tgt := 5) dX9_moved_79 (by decide) ?_
          first
          | (exfalso; omega)
          | (refine zW_to (ih (p + 1) (zI 0) (by omega) (by omega) (by omega) rfl) ?_ rfl rfl
             rw [hup]
             first
             | (rw [if_pos (by omega), if_pos (by omega)]; done)
             | (rw [if_pos (by omega), if_neg (by omega)]; done)
             | (rw [if_neg (by omega), if_pos (by omega)]; done)
             | (rw [if_neg (by omega), if_neg (by omega)]; done))
          | (refine zW_to (ih (p + 1) (zI 1) (by omega) (by omega) (by omega) rfl) ?_ rfl rfl
             rw [hup]
             first
             | (rw [if_pos (by omega), if_pos (by omega)]; done)
             | (rw [if_pos (by omega), if_neg (by omega)]; done)
             | (rw [if_neg (by omega), if_pos (by omega)]; done)
             | (rw [if_neg (by omega), if_neg (by omega)]; done))
      · refine z_iconst (pc' := 32) dX9_moved_31 rfl (by unfold zin; decide) ?_
        refine z_goto (tgt := 61) dX9_moved_32 (by decide) ?_
        refine z_S5I (pc' := 63) rfl dX9_moved_61 rfl ?_
        refine z_L3I (pc' := 64) dX9_moved_63 rfl ?_
        refine z_L5I (pc' := 66) dX9_moved_64 rfl ?_
        refine z_if_eq (tgt := 73) (pc' := 69) dX9_moved_66 (by decide) rfl (fun h66 => ?_) (fun h66 => ?_)
        · refine z_iconst (pc' := 74) dX9_moved_73 rfl (by unfold zin; decide) ?_
          refine z_iadd (pc' := 75) dX9_moved_74 rfl (by unfold zin; omega) ?_
          refine z_S3I (pc' := 76) rfl dX9_moved_75 rfl ?_
          refine z_inc4 (pc' := 79) rfl dX9_moved_76 rfl (by unfold zin; omega) ?_
          refine z_goto (tgt := 5) dX9_moved_79 (by decide) ?_
          first
          | (exfalso; omega)
          | (refine zW_to (ih (p + 1) (zI 0) (by omega) (by omega) (by omega) rfl) ?_ rfl rfl
             rw [hup]
             first
             | (rw [if_pos (by omega), if_pos (by omega)]; done)
             | (rw [if_pos (by omega), if_neg (by omega)]; done)
             | (rw [if_neg (by omega), if_pos (by omega)]; done)
             | (rw [if_neg (by omega), if_neg (by omega)]; done))
          | (refine zW_to (ih (p + 1) (zI 1) (by omega) (by omega) (by omega) rfl) ?_ rfl rfl
             rw [hup]
             first
             | (rw [if_pos (by omega), if_pos (by omega)]; done)
             | (rw [if_pos (by omega), if_neg (by omega)]; done)
             | (rw [if_neg (by omega), if_pos (by omega)]; done)
             | (rw [if_neg (by omega), if_neg (by omega)]; done))
        · refine z_iconst (pc' := 70) dX9_moved_69 rfl (by unfold zin; decide) ?_
          refine z_goto (tgt := 74) dX9_moved_70 (by decide) ?_
          refine z_iadd (pc' := 75) dX9_moved_74 rfl (by unfold zin; omega) ?_
          refine z_S3I (pc' := 76) rfl dX9_moved_75 rfl ?_
          refine z_inc4 (pc' := 79) rfl dX9_moved_76 rfl (by unfold zin; omega) ?_
          refine z_goto (tgt := 5) dX9_moved_79 (by decide) ?_
          first
          | (exfalso; omega)
          | (refine zW_to (ih (p + 1) (zI 0) (by omega) (by omega) (by omega) rfl) ?_ rfl rfl
             rw [hup]
             first
             | (rw [if_pos (by omega), if_pos (by omega)]; done)
             | (rw [if_pos (by omega), if_neg (by omega)]; done)
             | (rw [if_neg (by omega), if_pos (by omega)]; done)
             | (rw [if_neg (by omega), if_neg (by omega)]; done))
          | (refine zW_to (ih (p + 1) (zI 1) (by omega) (by omega) (by omega) rfl) ?_ rfl rfl
             rw [hup]
             first
             | (rw [if_pos (by omega), if_pos (by omega)]; done)
             | (rw [if_pos (by omega), if_neg (by omega)]; done)
             | (rw [if_neg (by omega), if_pos (by omega)]; done)
             | (rw [if_neg (by omega), if_neg (by omega)]; done))
theorem zinv_sum {R : zRg} (hR : zgR R.1 R.2) : zSm (fun p => zSm (fun o => if o < p ∧ zpl R.1 p < zpl R.1 o then 1 else 0) 10) 10 = zSm (fun p => zinv R.1 p 10) 10 := by
  have hm : ∀ p, 0 ≤ p → p < ((10 : Nat) : Int) → 0 ≤ R.1 p ∧ R.1 p < ((10 : Nat) : Int) := fun p p0 p1 => ⟨(hR.1 p p0 p1).1, (hR.1 p p0 p1).2.1⟩
  have hi : ∀ p q, 0 ≤ p → p < ((10 : Nat) : Int) → 0 ≤ q → q < ((10 : Nat) : Int) → R.1 p = R.1 q → p = q := fun p q p0 p1 q0 q1 h => hR.2.1 p q p0 p1 q0 q1 h
  have h1 := zSm_perm 10 R.1 hm hi (fun p => zSm (fun o => if o < p ∧ zpl R.1 p < zpl R.1 o then 1 else 0) 10)
  refine h1.symm.trans ?_
  refine zSm_congr _ (fun a a0 a1 => ?_)
  (try dsimp only)
  have ea : zpl R.1 (R.1 a) = a := zpl_of hR a0 a1 rfl
  rw [ea]
  have h2 := zSm_perm 10 R.1 hm hi (fun o => if o < R.1 a ∧ a < zpl R.1 o then 1 else 0)
  refine h2.symm.trans ?_
  unfold zinv
  refine zSm_congr _ (fun c c0 c1 => ?_)
  (try dsimp only)
  have ec : zpl R.1 (R.1 c) = c := zpl_of hR c0 c1 rfl
  rw [ec]
  by_cases e : a < c ∧ R.1 a > R.1 c
  · rw [if_pos e, if_pos ⟨e.2, e.1⟩]
  · rw [if_neg e, if_neg (fun z => e ⟨z.2, z.1⟩)]
set_option maxRecDepth 100000 in
set_option maxHeartbeats 1000000 in
theorem m_odd {d : Nat} {sp : zSP} {me : zMe} {Q : zQ} {y : Nat} {k : Int} {R : zRg} (hy : zMod sp y) (hk0 : 0 ≤ k) (hk1 : k < 8) (hR : zgR R.1 R.2) (hG : zGk me y k R) (hQ : Q (some (zI (zSm (fun p => zinv R.1 p 10) 10 % 2))) sp me) : zCall mX9_odd d 0 0 [zR y, zI k] sp me Q := by
  refine z_met kX9_odd (by simp) (by simp) ?_
  show zW mX9_odd d 0 0 Q 0 [zR y, zI k, zU, zU, zU] [] sp me
  have hib : ∀ (p j : Int), 0 ≤ j → 0 ≤ zSm (fun o => if o < p ∧ zpl R.1 p < zpl R.1 o then (1 : Int) else 0) j ∧ zSm (fun o => if o < p ∧ zpl R.1 p < zpl R.1 o then (1 : Int) else 0) j ≤ j := fun p j hj => by
    have := zSm_bd (g := fun o => if o < p ∧ zpl R.1 p < zpl R.1 o then 1 else 0) (a := 0) (b := 1) (fun p _ => by split <;> omega) j hj
    omega
  refine z_iconst (pc' := 1) dX9_odd_0 rfl (by unfold zin; decide) ?_
  refine z_S2I (pc' := 2) rfl dX9_odd_1 rfl ?_
  refine z_iconst (pc' := 3) dX9_odd_2 rfl (by unfold zin; decide) ?_
  refine z_S3I (pc' := 4) rfl dX9_odd_3 rfl ?_
  suffices H : ∀ (n : Nat) (p : Int) (v : zV), 0 ≤ p → p ≤ 10 → 10 - p < n → zndv v = true → zW mX9_odd d 0 0 Q 4 [zR y, zI k, zI (zSm (fun p => zSm (fun o => if o < p ∧ zpl R.1 p < zpl R.1 o then 1 else 0) 10) p), zI p, v] [] sp me by
    exact H 11 0 zU (by omega) (by omega) (by omega) rfl
  intro n
  induction n with
  | zero => intro p v h0 h1 h2; omega
  | succ n ih =>
  intro p v hp0 hp1 hp2 hv
  have hbd := zSm_bd (g := fun p => zSm (fun o => if o < p ∧ zpl R.1 p < zpl R.1 o then 1 else 0) 10) (a := 0) (b := 10) (fun p _ => hib p 10 (by omega)) p hp0
  have hup := zSm_up (fun p => zSm (fun o => if o < p ∧ zpl R.1 p < zpl R.1 o then (1 : Int) else 0) 10) p hp0
  refine z_L3I (pc' := 5) dX9_odd_4 rfl ?_
  refine z_bipush (pc' := 7) dX9_odd_5 rfl (by decide) ?_
  refine z_icmp_ge (tgt := 65) (pc' := 10) dX9_odd_7 (by decide) rfl (fun h7 => ?_) (fun h7 => ?_)
  · obtain rfl : p = 10 := by omega
    rw [zinv_sum hR]
    rw [zinv_sum hR] at hbd
    refine z_L2I (pc' := 66) dX9_odd_65 rfl ?_
    refine z_iconst (pc' := 67) dX9_odd_66 rfl (by unfold zin; decide) ?_
    refine z_irem (pc' := 68) dX9_odd_67 rfl (by omega) (by omega) ?_
    refine z_ireturn rfl rfl dX9_odd_68 ?_
    exact hQ
  · have hpl := zGk_pl (R := R) hR hG hp0 (show p < 10 by omega)
    refine z_iconst (pc' := 11) dX9_odd_10 rfl (by unfold zin; decide) ?_
    refine z_S4I (pc' := 13) rfl dX9_odd_11 rfl ?_
    suffices H : ∀ (n2 : Nat) (o : Int), 0 ≤ o → o ≤ p → p - o < n2 → zW mX9_odd d 0 0 Q 13 [zR y, zI k, zI (zSm (fun p => zSm (fun o => if o < p ∧ zpl R.1 p < zpl R.1 o then 1 else 0) 10) p + zSm (fun o => if o < p ∧ zpl R.1 p < zpl R.1 o then 1 else 0) o), zI p, zI o] [] sp me by
      refine zW_to (H 11 0 (by omega) (by omega) (by omega)) (by rw [zSm_0, Int.add_zero]) rfl rfl
    intro n2
    induction n2 with
    | zero => intro o h0 h1 h2; omega
    | succ n2 ih2 =>
    intro o ho0 ho1 ho2
    have hbo := hib p o ho0
    have huo := zSm_up (fun o => if o < p ∧ zpl R.1 p < zpl R.1 o then (1 : Int) else 0) o ho0
    refine z_L4I (pc' := 15) dX9_odd_13 rfl ?_
    refine z_L3I (pc' := 16) dX9_odd_15 rfl ?_
    refine z_icmp_ge (tgt := 59) (pc' := 19) dX9_odd_16 (by decide) rfl (fun h16 => ?_) (fun h16 => ?_)
    · obtain rfl : o = p := by omega
      refine z_inc3 (pc' := 62) rfl dX9_odd_59 rfl (by unfold zin; omega) ?_
      refine z_goto (tgt := 4) dX9_odd_62 (by decide) ?_
      refine zW_to (ih (o + 1) _ (by omega) (by omega) (by omega) rfl) (by
        rw [hup]
        (try dsimp only)
        rw [zSm_ext ho0 10 (by omega) (fun q q0 q1 => if_neg (fun z => by omega))]
        rfl) rfl rfl
    · have hol := zGk_pl (R := R) hR hG ho0 (show o < 10 by omega)
      refine z_L2I (pc' := 20) dX9_odd_19 rfl ?_
      refine z_L0R (pc' := 21) dX9_odd_20 rfl ?_
      refine z_getR (pc' := 24) (ki := 19) 19 fX9_53.l rfl rfl dX9_odd_21 rfl hy.s hy.p19 ?_
      refine z_bipush (pc' := 26) dX9_odd_24 rfl (by decide) ?_
      refine z_L1I (pc' := 27) dX9_odd_26 rfl ?_
      refine z_imul (pc' := 28) dX9_odd_27 rfl (by unfold zin; omega) ?_
      refine z_L4I (pc' := 30) dX9_odd_28 rfl ?_
      refine z_iadd (pc' := 31) dX9_odd_30 rfl (by unfold zin; omega) ?_
      refine z_ild (pc' := 32) dX9_odd_31 rfl hy.a15 (by omega) (by omega) ?_
      rw [hol.1]
      refine z_L0R (pc' := 33) dX9_odd_32 rfl ?_
      refine z_getR (pc' := 36) (ki := 19) 19 fX9_53.l rfl rfl dX9_odd_33 rfl hy.s hy.p19 ?_
      refine z_bipush (pc' := 38) dX9_odd_36 rfl (by decide) ?_
      refine z_L1I (pc' := 39) dX9_odd_38 rfl ?_
      refine z_imul (pc' := 40) dX9_odd_39 rfl (by unfold zin; omega) ?_
      refine z_L3I (pc' := 41) dX9_odd_40 rfl ?_
      refine z_iadd (pc' := 42) dX9_odd_41 rfl (by unfold zin; omega) ?_
      refine z_ild (pc' := 43) dX9_odd_42 rfl hy.a15 (by omega) (by omega) ?_
      rw [hpl.1]
      refine z_icmp_le (tgt := 50) (pc' := 46) dX9_odd_43 (by decide) rfl (fun h43 => ?_) (fun h43 => ?_)
      · refine z_iconst (pc' := 51) dX9_odd_50 rfl (by unfold zin; decide) ?_
        refine z_iadd (pc' := 52) dX9_odd_51 rfl (by unfold zin; omega) ?_
        refine z_S2I (pc' := 53) rfl dX9_odd_52 rfl ?_
        refine z_inc4 (pc' := 56) rfl dX9_odd_53 rfl (by unfold zin; omega) ?_
        refine z_goto (tgt := 13) dX9_odd_56 (by decide) ?_
        refine zW_to (ih2 (o + 1) (by omega) (by omega) (by omega)) (by
          rw [huo, ← Int.add_assoc]
          first
          | (rw [if_pos ⟨by omega, by omega⟩]; done)
          | (rw [if_neg (fun z => by omega)]; done)) rfl rfl
      · refine z_iconst (pc' := 47) dX9_odd_46 rfl (by unfold zin; decide) ?_
        refine z_goto (tgt := 51) dX9_odd_47 (by decide) ?_
        refine z_iadd (pc' := 52) dX9_odd_51 rfl (by unfold zin; omega) ?_
        refine z_S2I (pc' := 53) rfl dX9_odd_52 rfl ?_
        refine z_inc4 (pc' := 56) rfl dX9_odd_53 rfl (by unfold zin; omega) ?_
        refine z_goto (tgt := 13) dX9_odd_56 (by decide) ?_
        refine zW_to (ih2 (o + 1) (by omega) (by omega) (by omega)) (by
          rw [huo, ← Int.add_assoc]
          first
          | (rw [if_pos ⟨by omega, by omega⟩]; done)
          | (rw [if_neg (fun z => by omega)]; done)) rfl rfl
end ZMOI

