section ZLK
set_option maxRecDepth 100000 in
set_option maxHeartbeats 8000000 in
theorem l_isFigure9 {d : Nat} {sp : zSP} {me : zMe} {Q : zQ} {A : zAb} {B k : Int} {N : Nat} (hd : 22 ≤ d) (hN : sp.2.2 = N) (hW : gLW sp) (hI : zIA B A) (hR : gRR me A) (k0 : 0 ≤ k) (k1 : k < 8) (hQ : ∀ sp' me', zXt 2 sp sp' → gRR me' A → Q (some (zI 1)) sp' me') : zCall mL_isFigure d 2 20 [zR 1, zR 170, zR 171, zR 172, zR 174, zR 175, zI k] sp me Q := by
  refine z_met kL_isFigure (by simp) (by simp) ?_
  show zW mL_isFigure d 2 20 Q 0 [zR 1, zR 170, zR 171, zR 172, zR 174, zR 175, zI k, zU, zU, zU, zU, zU, zU, zU, zU] [] sp me
  have hW0 := hW
  obtain ⟨hx, hsz, hp, hf, hh, hm, ho, hc, ht, he, hg⟩ := hW
  have hWN : 175 ≤ N := by rw [← hN]; exact hsz
  have hv : zfv (qS A) (qC A) := hI.1.2.2.2.1
  have hlm : zlim (qS A) (qC A) := hI.1.2.2.2.2.1
  have hE := zgR_E hI k0 k1
  have hPm : gPm (zpl (zE A k).1) := ⟨(zpl_map hE).1, (zpl_map hE).2⟩
  have hzol := zol_pos hE 10 (by omega)
  have hvk := hv k k0 k1
  have hcb := zcm_b hv k0 k1
  refine z_L4R (pc' := 2) dL_isFigure_0 rfl ?_
  refine z_L5R (pc' := 4) dL_isFigure_2 rfl ?_
  refine z_L1R (pc' := 5) dL_isFigure_4 rfl ?_
  refine z_L2R (pc' := 6) dL_isFigure_5 rfl ?_
  refine z_L3R (pc' := 7) dL_isFigure_6 rfl ?_
  refine z_L6I (pc' := 9) dL_isFigure_7 rfl ?_
  refine z_S60 (pc' := 12) kL_effect lL_68 dL_isFigure_9 rfl (by omega) (Nat.le_of_ble_eq_true rfl) ?_
  refine l_effect (by omega) he hg hm ho hc (by decide) (by decide) (by decide) (by decide) (by decide) (by decide) (by decide) hv hlm hR.2.2.2.1 hR.2.2.2.2.1 k0 k1 (fun me1 hD1 hF1 => zK0_i ?_)
  have hR1 : gQE me1 A (zE A k) := ⟨hR.cg (fun a _ h2 => hF1 a (by omega) (by omega)), hD1⟩
  refine z_iconst (pc' := 13) dL_isFigure_12 rfl (by unfold zin; decide) ?_
  refine z_S7I (pc' := 15) rfl dL_isFigure_13 rfl ?_
  refine z_iconst (pc' := 16) dL_isFigure_15 rfl (by unfold zin; decide) ?_
  refine z_S8I (pc' := 18) rfl dL_isFigure_16 rfl ?_
  refine z_iconst (pc' := 19) dL_isFigure_18 rfl (by unfold zin; decide) ?_
  refine z_S9I (pc' := 21) rfl dL_isFigure_19 rfl ?_
  refine z_iconst (pc' := 22) dL_isFigure_21 rfl (by unfold zin; decide) ?_
  refine z_S10I (pc' := 24) rfl dL_isFigure_22 rfl ?_
  refine z_L0R (pc' := 25) dL_isFigure_24 rfl ?_
  refine z_L6I (pc' := 27) dL_isFigure_25 rfl ?_
  refine z_iconst (pc' := 28) dL_isFigure_27 rfl (by unfold zin; decide) ?_
  refine z_V2v (pc' := 31) (ci := 8) kX8_figure lL_72 dL_isFigure_28 rfl (by omega) (Nat.le_of_ble_eq_true rfl) (by decide) rfl hx.s ?_
  refine x_figure (by omega) hx hR1.1.1 hI (fun me2 hX2 hF2 => zKv_i ?_)
  have hR2 := hR1.x hX2 hF2
  rw [vF0 k0 k1]
  have hc2 := (hR2.1.2.2.2.1 k k0 k1).1
  refine z_L3R (pc' := 32) dL_isFigure_31 rfl ?_
  refine z_L6I (pc' := 34) dL_isFigure_32 rfl ?_
  refine z_ild (pc' := 35) dL_isFigure_34 rfl hc (by omega) (by omega) ?_
  refine z_icmp_ne (tgt := 104) (pc' := 38) dL_isFigure_35 (by decide) rfl (fun h35 => absurd h35 (by omega)) (fun h35 => ?_)
  refine z_L0R (pc' := 39) dL_isFigure_38 rfl ?_
  refine z_L6I (pc' := 41) dL_isFigure_39 rfl ?_
  refine z_iconst (pc' := 42) dL_isFigure_41 rfl (by unfold zin; decide) ?_
  refine z_V2v (pc' := 45) (ci := 8) kX8_figure lL_72 dL_isFigure_42 rfl (by omega) (Nat.le_of_ble_eq_true rfl) (by decide) rfl hx.s ?_
  refine x_figure (by omega) hx hR2.1.1 hI (fun me3 hX3 hF3 => zKv_i ?_)
  have hR3 := hR2.x hX3 hF3
  rw [vF1 k0 k1]
  have hc3 := hR3.1.2.2.2.2.1 k k0 k1
  refine z_L3R (pc' := 46) dL_isFigure_45 rfl ?_
  refine z_bipush (pc' := 48) dL_isFigure_46 rfl (by decide) ?_
  refine z_L6I (pc' := 50) dL_isFigure_48 rfl ?_
  refine z_iadd (pc' := 51) dL_isFigure_50 rfl (by unfold zin; omega) ?_
  refine z_ild (pc' := 52) dL_isFigure_51 rfl hc (by omega) (by omega) ?_
  refine z_icmp_ne (tgt := 104) (pc' := 55) dL_isFigure_52 (by decide) rfl (fun h52 => absurd h52 (by omega)) (fun h52 => ?_)
  refine z_L0R (pc' := 56) dL_isFigure_55 rfl ?_
  refine z_L6I (pc' := 58) dL_isFigure_56 rfl ?_
  refine z_iconst (pc' := 59) dL_isFigure_58 rfl (by unfold zin; decide) ?_
  refine z_V2v (pc' := 62) (ci := 8) kX8_figure lL_72 dL_isFigure_59 rfl (by omega) (Nat.le_of_ble_eq_true rfl) (by decide) rfl hx.s ?_
  refine x_figure (by omega) hx hR3.1.1 hI (fun me4 hX4 hF4 => zKv_i ?_)
  have hR4 := hR3.x hX4 hF4
  rw [vF2 hI k0 k1]
  refine z_L4R (pc' := 64) dL_isFigure_62 rfl ?_
  refine z_L5R (pc' := 66) dL_isFigure_64 rfl ?_
  refine z_T2v (pc' := 69) (mc := 2) (ms := 20) (r1' := 0) (r2' := 0) kL_order lL_75 dL_isFigure_66 rfl (by omega) (Nat.le_of_ble_eq_true rfl) (by omega) (by omega) ?_
  refine l_order (by omega) hN he hg (by omega) (by omega) hE hR4.2 (fun sp1 me5 hY1 hF5 => zKv_i ?_)
  have hR5 : gQE me5 A (zE A k) := ⟨hR4.1.cg (fun a _ h2 => hF5 a (by omega)), hR4.2.fr (hF5 174 (by omega)) (hF5 175 (by omega))⟩
  have hW1 := hW0.mono hY1
  obtain ⟨gx, gsz, gp, gf, gh, gm, go, gc, gt, ge, gg⟩ := hW1
  refine z_icmp_ne (tgt := 104) (pc' := 72) dL_isFigure_69 (by decide) rfl (fun h69 => absurd h69 (by omega)) (fun h69 => ?_)
  refine z_L0R (pc' := 73) dL_isFigure_72 rfl ?_
  refine z_L6I (pc' := 75) dL_isFigure_73 rfl ?_
  refine z_bipush (pc' := 77) dL_isFigure_75 rfl (by decide) ?_
  refine z_V2v (pc' := 80) (ci := 8) kX8_figure lL_72 dL_isFigure_77 rfl (by omega) (Nat.le_of_ble_eq_true rfl) (by decide) rfl gx.s ?_
  refine x_figure (by omega) gx hR5.1.1 hI (fun me6 hX6 hF6 => zKv_i ?_)
  have hR6 := hR5.x hX6 hF6
  rw [vF8 k0 k1]
  refine z_bipush (pc' := 82) dL_isFigure_80 rfl (by decide) ?_
  refine z_icmp_ne (tgt := 104) (pc' := 85) dL_isFigure_82 (by decide) rfl (fun h82 => absurd h82 (by omega)) (fun h82 => ?_)
  refine z_L0R (pc' := 86) dL_isFigure_85 rfl ?_
  refine z_L6I (pc' := 88) dL_isFigure_86 rfl ?_
  refine z_L3R (pc' := 89) dL_isFigure_88 rfl ?_
  refine z_L6I (pc' := 91) dL_isFigure_89 rfl ?_
  refine z_ild (pc' := 92) dL_isFigure_91 rfl gc (by omega) (by omega) ?_
  refine z_iconst (pc' := 93) dL_isFigure_92 rfl (by unfold zin; decide) ?_
  refine z_V3v (pc' := 96) (ci := 8) kX8_move lL_79 dL_isFigure_93 rfl (by omega) (Nat.le_of_ble_eq_true rfl) (by decide) rfl gx.s ?_
  rw [(hR6.1.2.2.2.1 k k0 k1).1]
  refine x_move (by omega) gx hR6.1.1 hI (fun me7 hX7 hF7 => zKv_i ?_)
  have hR7 := hR6.x hX7 hF7
  rw [vMe]
  refine z_iconst (pc' := 97) dL_isFigure_96 rfl (by unfold zin; decide) ?_
  refine z_icmp_ne (tgt := 104) (pc' := 100) dL_isFigure_97 (by decide) rfl (fun h97 => absurd h97 (by omega)) (fun h97 => ?_)
  refine z_iconst (pc' := 101) dL_isFigure_100 rfl (by unfold zin; decide) ?_
  refine z_goto (tgt := 105) dL_isFigure_101 (by decide) ?_
  refine z_S11I (pc' := 107) rfl dL_isFigure_105 rfl ?_
  refine z_iconst (pc' := 108) dL_isFigure_107 rfl (by unfold zin; decide) ?_
  refine z_S12I (pc' := 110) rfl dL_isFigure_108 rfl ?_
  suffices H : ∀ (n : Nat) (j : Int) (v13 : zV) (me8 : zMe), 0 ≤ j → j ≤ qS A k → qS A k - j < n → zndv v13 = true → gQE me8 A (zE A k) → zW mL_isFigure d 0 0 Q 110 [zR 1, zR 170, zR 171, zR 172, zR 174, zR 175, zI k, zI 0, zI 0, zI 0, zI 0, zI 1, zI j, v13, zU] [] sp1 me8 by
    exact H 11 0 zU me7 (by omega) (by omega) (by omega) rfl hR7
  intro n
  induction n with
  | zero => intro j v13 me8 h0 h1 h2; omega
  | succ n ih =>
  intro j v13 me8 hj0 hj1 hj2 hv13 hR8
  have hc8 := (hR8.1.2.2.2.1 k k0 k1).1
  refine z_L12I (pc' := 112) dL_isFigure_110 rfl ?_
  refine z_L3R (pc' := 113) dL_isFigure_112 rfl ?_
  refine z_L6I (pc' := 115) dL_isFigure_113 rfl ?_
  refine z_ild (pc' := 116) dL_isFigure_115 rfl gc (by omega) (by omega) ?_
  refine z_icmp_ge (tgt := 202) (pc' := 119) dL_isFigure_116 (by decide) rfl (fun h116 => ?_) (fun h116 => ?_)
  · have ejs : j = qS A k := by omega
    subst ejs
    refine z_iconst (pc' := 203) dL_isFigure_202 rfl (by unfold zin; decide) ?_
    refine z_S12I (pc' := 205) rfl dL_isFigure_203 rfl ?_
    suffices H : ∀ (n : Nat) (i M T C : Int) (s : Nat) (v13 : zV) (me9 : zMe), 0 ≤ i → i ≤ 10 → 10 - i < n → s < 1024 → zndv v13 = true → M = zSm (fun i => if zpl (zE A k).1 i = i then 0 else 1) i → T = zSm (fun i => if (zE A k).2 (zpl (zE A k).1 i) > 0 then 1 else 0) i → C = zSm (gCy (zpl (zE A k).1)) i → gSn (zpl (zE A k).1) s i → gQE me9 A (zE A k) → zW mL_isFigure d 0 0 Q 205 [zR 1, zR 170, zR 171, zR 172, zR 174, zR 175, zI k, zI M, zI T, zI C, zI (s : Int), zI 1, zI i, v13, zU] [] sp1 me9 by
      exact H 11 0 0 0 0 0 v13 me8 (by omega) (by omega) (by omega) (by decide) hv13 rfl rfl rfl (fun q q0 q1 => by
        rw [Nat.zero_testBit]
        exact ⟨fun z => absurd z (by decide), fun ⟨j, j0, j1, _⟩ => absurd j0 (by omega)⟩) hR8
    intro n
    induction n with
    | zero => intro i M T C s v13 me9 h0 h1 h2; omega
    | succ n ih2 =>
    intro i M T C s v13 me9 hi0 hi1 hi2 hs hv13 hM hT hC hSn hR9
    have hbM := zSm_bd (g := fun i => if zpl (zE A k).1 i = i then 0 else 1) (a := 0) (b := 1) (fun p _ => by split <;> omega) i hi0
    have hbT := zSm_bd (g := fun i => if (zE A k).2 (zpl (zE A k).1 i) > 0 then 1 else 0) (a := 0) (b := 1) (fun p _ => by split <;> omega) i hi0
    have hbC := zSm_bd (g := gCy (zpl (zE A k).1)) (a := 0) (b := 1) (fun p _ => by
      by_cases e : ∃ j, 0 ≤ j ∧ j < p ∧ ∃ t, zit (zpl (zE A k).1) j t = p
      · rw [gCy_0 e]; omega
      · rw [gCy_1 e]; omega) i hi0
    refine z_L12I (pc' := 207) dL_isFigure_205 rfl ?_
    refine z_bipush (pc' := 209) dL_isFigure_207 rfl (by decide) ?_
    refine z_icmp_ge (tgt := 355) (pc' := 212) dL_isFigure_209 (by decide) rfl (fun h209 => ?_) (fun h209 => ?_)
    · obtain rfl : i = 10 := by omega
      refine z_iconst (pc' := 356) dL_isFigure_355 rfl (by unfold zin; decide) ?_
      refine z_S12I (pc' := 358) rfl dL_isFigure_356 rfl ?_
      refine z_iconst (pc' := 359) dL_isFigure_358 rfl (by unfold zin; decide) ?_
      refine z_S13I (pc' := 361) rfl dL_isFigure_359 rfl ?_
      refine z_iconst (pc' := 362) dL_isFigure_361 rfl (by unfold zin; decide) ?_
      refine z_S14I (pc' := 364) rfl dL_isFigure_362 rfl ?_
      suffices H : ∀ (n : Nat) (j : Nat), j ≤ 8 → 8 - j < n → zW mL_isFigure d 0 0 Q 364 [zR 1, zR 170, zR 171, zR 172, zR 174, zR 175, zI k, zI M, zI T, zI C, zI (s : Int), zI 1, zI ((gCd (zcm (qS A) (qC A) k).toNat j : Nat) : Int), zI (zclr (zcm (qS A) (qC A)) k j), zI (j : Int)] [] sp1 me9 by
        exact H 9 0 (by omega) (by omega)
      intro n
      induction n with
      | zero => intro j h0 h1; omega
      | succ n ih4 =>
      intro j hj0 hj1
      have hcl := gCd_s (s := (zcm (qS A) (qC A) k).toNat) (n := j)
      have hcr := zclr_s hv k0 k1 (n := j)
      have hcn := zclr_n (sz := qS A) (cd := qC A) hv (f := k) j hj0
      have hpz := Int.natCast_nonneg (2 ^ (j : Int).toNat)
      refine z_L14I (pc' := 366) dL_isFigure_364 rfl ?_
      refine z_bipush (pc' := 368) dL_isFigure_366 rfl (by decide) ?_
      refine z_icmp_ge (tgt := 429) (pc' := 371) dL_isFigure_368 (by decide) rfl (fun h368 => ?_) (fun h368 => ?_)
      · have ej8 : j = 8 := by omega
        subst ej8
        have ec8 := gCd_8 _ hcb.1
        refine z_L11I (pc' := 431) dL_isFigure_429 rfl ?_
        refine z_if_eq (tgt := 505) (pc' := 434) dL_isFigure_431 (by decide) rfl (fun h431 => absurd h431 (by omega)) (fun h431 => ?_)
        refine z_L0R (pc' := 435) dL_isFigure_434 rfl ?_
        refine z_L6I (pc' := 437) dL_isFigure_435 rfl ?_
        refine z_iconst (pc' := 438) dL_isFigure_437 rfl (by unfold zin; decide) ?_
        refine z_V2v (pc' := 441) (ci := 8) kX8_figure lL_72 dL_isFigure_438 rfl (by omega) (Nat.le_of_ble_eq_true rfl) (by decide) rfl gx.s ?_
        refine x_figure (by omega) gx hR9.1.1 hI (fun me12 hX12 hF12 => zKv_i ?_)
        have hR12 := hR9.x hX12 hF12
        rw [vF3 k0 k1, ← gmoved hE]
        refine z_L7I (pc' := 443) dL_isFigure_441 rfl ?_
        refine z_icmp_ne (tgt := 505) (pc' := 446) dL_isFigure_443 (by decide) rfl (fun h443 => absurd h443 (by omega)) (fun h443 => ?_)
        refine z_L0R (pc' := 447) dL_isFigure_446 rfl ?_
        refine z_L6I (pc' := 449) dL_isFigure_447 rfl ?_
        refine z_iconst (pc' := 450) dL_isFigure_449 rfl (by unfold zin; decide) ?_
        refine z_V2v (pc' := 453) (ci := 8) kX8_figure lL_72 dL_isFigure_450 rfl (by omega) (Nat.le_of_ble_eq_true rfl) (by decide) rfl gx.s ?_
        refine x_figure (by omega) gx hR12.1.1 hI (fun me13 hX13 hF13 => zKv_i ?_)
        have hR13 := hR12.x hX13 hF13
        rw [vF4 k0 k1, ← gturned hE]
        refine z_L8I (pc' := 455) dL_isFigure_453 rfl ?_
        refine z_icmp_ne (tgt := 505) (pc' := 458) dL_isFigure_455 (by decide) rfl (fun h455 => absurd h455 (by omega)) (fun h455 => ?_)
        refine z_L0R (pc' := 459) dL_isFigure_458 rfl ?_
        refine z_L6I (pc' := 461) dL_isFigure_459 rfl ?_
        refine z_iconst (pc' := 462) dL_isFigure_461 rfl (by unfold zin; decide) ?_
        refine z_V2v (pc' := 465) (ci := 8) kX8_figure lL_72 dL_isFigure_462 rfl (by omega) (Nat.le_of_ble_eq_true rfl) (by decide) rfl gx.s ?_
        refine x_figure (by omega) gx hR13.1.1 hI (fun me14 hX14 hF14 => zKv_i ?_)
        have hR14 := hR13.x hX14 hF14
        rw [vF5 hI k0 k1, ← hC]
        obtain ⟨c9, hc9⟩ := Int.eq_ofNat_of_zero_le (show 0 ≤ 10 - C by omega)
        refine z_bipush (pc' := 467) dL_isFigure_465 rfl (by decide) ?_
        refine z_L9I (pc' := 469) dL_isFigure_467 rfl ?_
        refine z_isub (pc' := 470) dL_isFigure_469 rfl (by unfold zin; omega) ?_
        refine z_iconst (pc' := 471) dL_isFigure_470 rfl (by unfold zin; decide) ?_
        rw [hc9]
        refine z_iand (pc' := 472) dL_isFigure_471 rfl ?_
        rw [gand_n (by omega), Nat.and_one_is_mod]
        refine z_icmp_ne (tgt := 505) (pc' := 475) dL_isFigure_472 (by decide) rfl (fun h472 => absurd h472 (by omega)) (fun h472 => ?_)
        refine z_L0R (pc' := 476) dL_isFigure_475 rfl ?_
        refine z_L6I (pc' := 478) dL_isFigure_476 rfl ?_
        refine z_bipush (pc' := 480) dL_isFigure_478 rfl (by decide) ?_
        refine z_V2v (pc' := 483) (ci := 8) kX8_figure lL_72 dL_isFigure_480 rfl (by omega) (Nat.le_of_ble_eq_true rfl) (by decide) rfl gx.s ?_
        refine x_figure (by omega) gx hR14.1.1 hI (fun me15 hX15 hF15 => zKv_i ?_)
        have hR15 := hR14.x hX15 hF15
        rw [vF6 k0 k1]
        have e6 : zcm (qS A) (qC A) k = ((gCd (zcm (qS A) (qC A) k).toNat 8 : Nat) : Int) := by rw [ec8]; exact hcb.2.1
        refine z_L12I (pc' := 485) dL_isFigure_483 rfl ?_
        refine z_icmp_ne (tgt := 505) (pc' := 488) dL_isFigure_485 (by decide) rfl (fun h485 => absurd h485 (by omega)) (fun h485 => ?_)
        refine z_L0R (pc' := 489) dL_isFigure_488 rfl ?_
        refine z_L6I (pc' := 491) dL_isFigure_489 rfl ?_
        refine z_bipush (pc' := 493) dL_isFigure_491 rfl (by decide) ?_
        refine z_V2v (pc' := 496) (ci := 8) kX8_figure lL_72 dL_isFigure_493 rfl (by omega) (Nat.le_of_ble_eq_true rfl) (by decide) rfl gx.s ?_
        refine x_figure (by omega) gx hR15.1.1 hI (fun me16 hX16 hF16 => zKv_i ?_)
        have hR16 := hR15.x hX16 hF16
        rw [vF7 k0 k1]
        refine z_L13I (pc' := 498) dL_isFigure_496 rfl ?_
        refine z_icmp_ne (tgt := 505) (pc' := 501) dL_isFigure_498 (by decide) rfl (fun h498 => absurd h498 (by omega)) (fun h498 => ?_)
        refine z_iconst (pc' := 502) dL_isFigure_501 rfl (by unfold zin; decide) ?_
        refine z_goto (tgt := 506) dL_isFigure_502 (by decide) ?_
        refine z_zreturn rfl rfl dL_isFigure_506 (by omega) ?_
        exact hQ sp1 me16 hY1 hR16.1
      · refine z_L12I (pc' := 373) dL_isFigure_371 rfl ?_
        refine z_L1R (pc' := 374) dL_isFigure_373 rfl ?_
        refine z_L2R (pc' := 375) dL_isFigure_374 rfl ?_
        refine z_L3R (pc' := 376) dL_isFigure_375 rfl ?_
        refine z_L6I (pc' := 378) dL_isFigure_376 rfl ?_
        refine z_L14I (pc' := 380) dL_isFigure_378 rfl ?_
        refine z_S5v (pc' := 383) kL_calls lL_85 dL_isFigure_380 rfl (by omega) (Nat.le_of_ble_eq_true rfl) ?_
        have hpj := zpw_lt' (a := (j : Int)) (by omega)
        have htn : ((j : Int)).toNat = j := Int.toNat_natCast j
        have hcl2 := hcl (by omega)
        have hcr2 := hcr (by omega)
        refine l_calls9 (by omega) gm go gc hv hR9.1.2.2.2.1 k0 k1 (by omega) (by omega) (fun hb => zKv_i ?_) (fun hb => zKv_i ?_)
        · refine z_if_eq (tgt := 393) (pc' := 386) dL_isFigure_383 (by decide) rfl (fun z => absurd z (by decide)) (fun z => ?_)
          refine z_iconst (pc' := 387) dL_isFigure_386 rfl (by unfold zin; decide) ?_
          refine z_L14I (pc' := 389) dL_isFigure_387 rfl ?_
          refine z_ishl (pc' := 390) dL_isFigure_389 rfl (by decide) (by omega) (by omega) (by rw [zpw]; unfold zin; omega) ?_
          refine z_goto (tgt := 394) dL_isFigure_390 (by decide) ?_
          refine z_ior (pc' := 395) dL_isFigure_394 rfl ?_
          rw [hcl2.1 (by rw [← htn]; exact hb)]
          refine z_S12I (pc' := 397) rfl dL_isFigure_395 rfl ?_
          refine z_L13I (pc' := 399) dL_isFigure_397 rfl ?_
          refine z_L1R (pc' := 400) dL_isFigure_399 rfl ?_
          refine z_L2R (pc' := 401) dL_isFigure_400 rfl ?_
          refine z_L3R (pc' := 402) dL_isFigure_401 rfl ?_
          refine z_L14I (pc' := 404) dL_isFigure_402 rfl ?_
          refine z_L6I (pc' := 406) dL_isFigure_404 rfl ?_
          refine z_S5v (pc' := 409) kL_calls lL_85 dL_isFigure_406 rfl (by omega) (Nat.le_of_ble_eq_true rfl) ?_
          refine l_calls9 (by omega) gm go gc hv hR9.1.2.2.2.1 (by omega) (by omega) k0 k1 (fun hb2 => zKv_i ?_) (fun hb2 => zKv_i ?_)
          · refine z_if_eq (tgt := 419) (pc' := 412) dL_isFigure_409 (by decide) rfl (fun z => absurd z (by decide)) (fun z => ?_)
            refine z_iconst (pc' := 413) dL_isFigure_412 rfl (by unfold zin; decide) ?_
            refine z_L14I (pc' := 415) dL_isFigure_413 rfl ?_
            refine z_ishl (pc' := 416) dL_isFigure_415 rfl (by decide) (by omega) (by omega) (by rw [zpw]; unfold zin; omega) ?_
            refine z_goto (tgt := 420) dL_isFigure_416 (by decide) ?_
            refine z_ior (pc' := 421) dL_isFigure_420 rfl ?_
            rw [if_pos hb2] at hcr2
            rw [← hcr2]
            refine z_S13I (pc' := 423) rfl dL_isFigure_421 rfl ?_
            refine z_inc14 (pc' := 426) rfl dL_isFigure_423 rfl (by unfold zin; omega) ?_
            refine z_goto (tgt := 364) dL_isFigure_426 (by decide) ?_
            refine zW_to (ih4 (j + 1) (by omega) (by omega)) ?_ rfl rfl
            rw [show ((j + 1 : Nat) : Int) = (j : Int) + 1 by omega]
          · refine z_if_eq (tgt := 419) (pc' := 412) dL_isFigure_409 (by decide) rfl (fun z => ?_) (fun z => absurd rfl z)
            refine z_iconst (pc' := 420) dL_isFigure_419 rfl (by unfold zin; decide) ?_
            refine z_ior (pc' := 421) dL_isFigure_420 rfl ?_
            rw [if_neg hb2, Int.zero_mul] at hcr2
            rw [← hcr2]
            refine z_S13I (pc' := 423) rfl dL_isFigure_421 rfl ?_
            refine z_inc14 (pc' := 426) rfl dL_isFigure_423 rfl (by unfold zin; omega) ?_
            refine z_goto (tgt := 364) dL_isFigure_426 (by decide) ?_
            refine zW_to (ih4 (j + 1) (by omega) (by omega)) ?_ rfl rfl
            rw [show ((j + 1 : Nat) : Int) = (j : Int) + 1 by omega]
          skip
        · refine z_if_eq (tgt := 393) (pc' := 386) dL_isFigure_383 (by decide) rfl (fun z => ?_) (fun z => absurd rfl z)
          refine z_iconst (pc' := 394) dL_isFigure_393 rfl (by unfold zin; decide) ?_
          refine z_ior (pc' := 395) dL_isFigure_394 rfl ?_
          rw [hcl2.2 (by rw [← htn]; exact hb)]
          refine z_S12I (pc' := 397) rfl dL_isFigure_395 rfl ?_
          refine z_L13I (pc' := 399) dL_isFigure_397 rfl ?_
          refine z_L1R (pc' := 400) dL_isFigure_399 rfl ?_
          refine z_L2R (pc' := 401) dL_isFigure_400 rfl ?_
          refine z_L3R (pc' := 402) dL_isFigure_401 rfl ?_
          refine z_L14I (pc' := 404) dL_isFigure_402 rfl ?_
          refine z_L6I (pc' := 406) dL_isFigure_404 rfl ?_
          refine z_S5v (pc' := 409) kL_calls lL_85 dL_isFigure_406 rfl (by omega) (Nat.le_of_ble_eq_true rfl) ?_
          refine l_calls9 (by omega) gm go gc hv hR9.1.2.2.2.1 (by omega) (by omega) k0 k1 (fun hb2 => zKv_i ?_) (fun hb2 => zKv_i ?_)
          · refine z_if_eq (tgt := 419) (pc' := 412) dL_isFigure_409 (by decide) rfl (fun z => absurd z (by decide)) (fun z => ?_)
            refine z_iconst (pc' := 413) dL_isFigure_412 rfl (by unfold zin; decide) ?_
            refine z_L14I (pc' := 415) dL_isFigure_413 rfl ?_
            refine z_ishl (pc' := 416) dL_isFigure_415 rfl (by decide) (by omega) (by omega) (by rw [zpw]; unfold zin; omega) ?_
            refine z_goto (tgt := 420) dL_isFigure_416 (by decide) ?_
            refine z_ior (pc' := 421) dL_isFigure_420 rfl ?_
            rw [if_pos hb2] at hcr2
            rw [← hcr2]
            refine z_S13I (pc' := 423) rfl dL_isFigure_421 rfl ?_
            refine z_inc14 (pc' := 426) rfl dL_isFigure_423 rfl (by unfold zin; omega) ?_
            refine z_goto (tgt := 364) dL_isFigure_426 (by decide) ?_
            refine zW_to (ih4 (j + 1) (by omega) (by omega)) ?_ rfl rfl
            rw [show ((j + 1 : Nat) : Int) = (j : Int) + 1 by omega]
          · refine z_if_eq (tgt := 419) (pc' := 412) dL_isFigure_409 (by decide) rfl (fun z => ?_) (fun z => absurd rfl z)
            refine z_iconst (pc' := 420) dL_isFigure_419 rfl (by unfold zin; decide) ?_
            refine z_ior (pc' := 421) dL_isFigure_420 rfl ?_
            rw [if_neg hb2, Int.zero_mul] at hcr2
            rw [← hcr2]
            refine z_S13I (pc' := 423) rfl dL_isFigure_421 rfl ?_
            refine z_inc14 (pc' := 426) rfl dL_isFigure_423 rfl (by unfold zin; omega) ?_
            refine z_goto (tgt := 364) dL_isFigure_426 (by decide) ?_
            refine zW_to (ih4 (j + 1) (by omega) (by omega)) ?_ rfl rfl
            rw [show ((j + 1 : Nat) : Int) = (j : Int) + 1 by omega]
          skip
        skip
    · refine z_L11I (pc' := 214) dL_isFigure_212 rfl ?_
      refine z_if_eq (tgt := 255) (pc' := 217) dL_isFigure_214 (by decide) rfl (fun h214 => absurd h214 (by omega)) (fun h214 => ?_)
      refine z_L0R (pc' := 218) dL_isFigure_217 rfl ?_
      refine z_L6I (pc' := 220) dL_isFigure_218 rfl ?_
      refine z_L12I (pc' := 222) dL_isFigure_220 rfl ?_
      refine z_iconst (pc' := 223) dL_isFigure_222 rfl (by unfold zin; decide) ?_
      refine z_V3v (pc' := 226) (ci := 8) kX8_effect lL_82 dL_isFigure_223 rfl (by omega) (Nat.le_of_ble_eq_true rfl) (by decide) rfl gx.s ?_
      refine x_effect (by omega) gx hR9.1.1 hI (fun me10 hX10 hF10 => zKv_i ?_)
      have hR10 := hR9.x hX10 hF10
      rw [vE0 k0 k1 hi0 (by omega)]
      have q10 := hR10.2 i hi0 (by omega)
      refine z_L4R (pc' := 228) dL_isFigure_226 rfl ?_
      refine z_L12I (pc' := 230) dL_isFigure_228 rfl ?_
      refine z_ild (pc' := 231) dL_isFigure_230 rfl ge (by omega) (by omega) ?_
      refine z_icmp_ne (tgt := 255) (pc' := 234) dL_isFigure_231 (by decide) rfl (fun h231 => absurd h231 (by omega)) (fun h231 => ?_)
      refine z_L0R (pc' := 235) dL_isFigure_234 rfl ?_
      refine z_L6I (pc' := 237) dL_isFigure_235 rfl ?_
      refine z_L12I (pc' := 239) dL_isFigure_237 rfl ?_
      refine z_iconst (pc' := 240) dL_isFigure_239 rfl (by unfold zin; decide) ?_
      refine z_V3v (pc' := 243) (ci := 8) kX8_effect lL_82 dL_isFigure_240 rfl (by omega) (Nat.le_of_ble_eq_true rfl) (by decide) rfl gx.s ?_
      refine x_effect (by omega) gx hR10.1.1 hI (fun me11 hX11 hF11 => zKv_i ?_)
      have hR11 := hR10.x hX11 hF11
      rw [vE1 k0 k1 hi0 (by omega)]
      have q11 := hR11.2 i hi0 (by omega)
      have b11 := hR11.2.bd hE hi0 (show i < 10 by omega)
      have hsi := gsh hs hi0 (show i < 10 by omega)
      have hln := zln_spec hPm.1 hPm.2 hi0 (show i < 10 by omega)
      have hin := zit_in hPm.1 hi0 (show i < 10 by omega)
      refine z_L5R (pc' := 245) dL_isFigure_243 rfl ?_
      refine z_L12I (pc' := 247) dL_isFigure_245 rfl ?_
      refine z_ild (pc' := 248) dL_isFigure_247 rfl gg (by omega) (by omega) ?_
      refine z_icmp_ne (tgt := 255) (pc' := 251) dL_isFigure_248 (by decide) rfl (fun h248 => absurd h248 (by omega)) (fun h248 => ?_)
      refine z_iconst (pc' := 252) dL_isFigure_251 rfl (by unfold zin; decide) ?_
      refine z_goto (tgt := 256) dL_isFigure_252 (by decide) ?_
      refine z_S11I (pc' := 258) rfl dL_isFigure_256 rfl ?_
      have key316 : ∀ MM TT CC : Int, MM = zSm (fun i => if zpl (zE A k).1 i = i then 0 else 1) (i + 1) → TT = zSm (fun i => if (zE A k).2 (zpl (zE A k).1 i) > 0 then 1 else 0) (i + 1) → CC = zSm (gCy (zpl (zE A k).1)) (i + 1) → zW mL_isFigure d 0 0 Q 316 [zR 1, zR 170, zR 171, zR 172, zR 174, zR 175, zI k, zI MM, zI TT, zI CC, zI (s : Int), zI 1, zI i, v13, zU] [] sp1 me11 := fun MM TT CC hM2 hTT2 hC2 => by
        refine z_L12I (pc' := 318) dL_isFigure_316 rfl ?_
        refine z_S13I (pc' := 320) rfl dL_isFigure_318 rfl ?_
        suffices H : ∀ (n2 m s2 : Nat), m ≤ zln (zpl (zE A k).1) i → zln (zpl (zE A k).1) i - m < n2 → s2 < 1024 → (∀ q, 0 ≤ q → q < 10 → (s2.testBit q.toNat = true ↔ s.testBit q.toNat = true ∨ ∃ t, t < m ∧ zit (zpl (zE A k).1) i t = q)) → zW mL_isFigure d 0 0 Q 320 [zR 1, zR 170, zR 171, zR 172, zR 174, zR 175, zI k, zI MM, zI TT, zI CC, zI (s2 : Int), zI 1, zI i, zI (zit (zpl (zE A k).1) i m), zU] [] sp1 me11 by
          exact H 11 0 s (by omega) (by omega) hs (fun q q0 q1 => ⟨fun z => Or.inl z, fun z => by
            rcases z with z | ⟨t, ht, _⟩
            · exact z
            · omega⟩)
        intro n2
        induction n2 with
        | zero => intro m s2 h0 h1; omega
        | succ n2 ih3 =>
        intro m s2 hm hm2 hs2 hT2
        have hat := hin m
        have hsa := gsh hs2 hat.1 hat.2
        refine z_L10I (pc' := 322) dL_isFigure_320 rfl ?_
        refine z_L13I (pc' := 324) dL_isFigure_322 rfl ?_
        refine z_ishr (pc' := 325) dL_isFigure_324 rfl (by omega) (by omega) (by omega) ?_
        refine z_iconst (pc' := 326) dL_isFigure_325 rfl (by unfold zin; decide) ?_
        refine z_iand (pc' := 327) dL_isFigure_326 rfl ?_
        rw [hsa]
        refine z_if_ne (tgt := 349) (pc' := 330) dL_isFigure_327 (by decide) rfl (fun h327 => ?_) (fun h327 => ?_)
        · have hSn2 := gSn_s hPm hi0 (show i < 10 by omega) hSn hm hT2 (by
            by_cases z : s2.testBit (zit (zpl (zE A k).1) i m).toNat = true
            · exact z
            · rw [if_neg z] at h327; omega)
          refine z_inc12 (pc' := 352) rfl dL_isFigure_349 rfl (by unfold zin; omega) ?_
          refine z_goto (tgt := 205) dL_isFigure_352 (by decide) ?_
          exact ih2 (i + 1) _ _ _ s2 _ me11 (by omega) (by omega) (by omega) hs2 rfl hM2 hTT2 hC2 hSn2 hR11
        · have hx := gSn_m hPm hi0 (show i < 10 by omega) hm hT2 (fun z => by rw [if_pos z] at h327; omega)
          refine z_L10I (pc' := 332) dL_isFigure_330 rfl ?_
          refine z_iconst (pc' := 333) dL_isFigure_332 rfl (by unfold zin; decide) ?_
          refine z_L13I (pc' := 335) dL_isFigure_333 rfl ?_
          refine z_ishl (pc' := 336) dL_isFigure_335 rfl (by decide) (by omega) (by omega) (by rw [zpw]; have := gpw hat.2; have := Int.natCast_nonneg (2 ^ (zit (zpl (zE A k).1) i m).toNat); unfold zin; omega) ?_
          refine z_ior (pc' := 337) dL_isFigure_336 rfl ?_
          rw [(gor_pw hs2 hat.2).1]
          refine z_S10I (pc' := 339) rfl dL_isFigure_337 rfl ?_
          refine z_L4R (pc' := 341) dL_isFigure_339 rfl ?_
          refine z_L13I (pc' := 343) dL_isFigure_341 rfl ?_
          refine z_ild (pc' := 344) dL_isFigure_343 rfl ge (by omega) (by omega) ?_
          rw [(hR11.2 _ hat.1 hat.2).1]
          refine z_S13I (pc' := 346) rfl dL_isFigure_344 rfl ?_
          refine z_goto (tgt := 320) dL_isFigure_346 (by decide) ?_
          refine ih3 (m + 1) _ (by omega) (by omega) (gor_pw hs2 hat.2).2 hx.2
      refine z_L7I (pc' := 260) dL_isFigure_258 rfl ?_
      refine z_L4R (pc' := 262) dL_isFigure_260 rfl ?_
      refine z_L12I (pc' := 264) dL_isFigure_262 rfl ?_
      refine z_ild (pc' := 265) dL_isFigure_264 rfl ge (by omega) (by omega) ?_
      refine z_L12I (pc' := 267) dL_isFigure_265 rfl ?_
      refine z_icmp_eq (tgt := 274) (pc' := 270) dL_isFigure_267 (by decide) rfl (fun h267 => ?_) (fun h267 => ?_)
      · refine z_iconst (pc' := 275) dL_isFigure_274 rfl (by unfold zin; decide) ?_
        refine z_iadd (pc' := 276) dL_isFigure_275 rfl (by unfold zin; omega) ?_
        refine z_S7I (pc' := 278) rfl dL_isFigure_276 rfl ?_
        refine z_L8I (pc' := 280) dL_isFigure_278 rfl ?_
        refine z_L5R (pc' := 282) dL_isFigure_280 rfl ?_
        refine z_L12I (pc' := 284) dL_isFigure_282 rfl ?_
        refine z_ild (pc' := 285) dL_isFigure_284 rfl gg (by omega) (by omega) ?_
        refine z_if_le (tgt := 292) (pc' := 288) dL_isFigure_285 (by decide) rfl (fun h285 => ?_) (fun h285 => ?_)
        · refine z_iconst (pc' := 293) dL_isFigure_292 rfl (by unfold zin; decide) ?_
          refine z_iadd (pc' := 294) dL_isFigure_293 rfl (by unfold zin; omega) ?_
          refine z_S8I (pc' := 296) rfl dL_isFigure_294 rfl ?_
          refine z_L9I (pc' := 298) dL_isFigure_296 rfl ?_
          refine z_L10I (pc' := 300) dL_isFigure_298 rfl ?_
          refine z_L12I (pc' := 302) dL_isFigure_300 rfl ?_
          refine z_ishr (pc' := 303) dL_isFigure_302 rfl (by omega) (by omega) (by omega) ?_
          refine z_iconst (pc' := 304) dL_isFigure_303 rfl (by unfold zin; decide) ?_
          refine z_iand (pc' := 305) dL_isFigure_304 rfl ?_
          rw [hsi]
          refine z_if_ne (tgt := 312) (pc' := 308) dL_isFigure_305 (by decide) rfl (fun h305 => ?_) (fun h305 => ?_)
          · refine z_iconst (pc' := 313) dL_isFigure_312 rfl (by unfold zin; decide) ?_
            refine z_iadd (pc' := 314) dL_isFigure_313 rfl (by unfold zin; omega) ?_
            refine z_S9I (pc' := 316) rfl dL_isFigure_314 rfl ?_
            refine key316 _ _ _ ?_ ?_ ?_
            · rw [zSm_up _ _ hi0, hM]
              (try dsimp only)
              split <;> omega
            · rw [zSm_up _ _ hi0, hT]
              (try dsimp only)
              split <;> omega
            · rw [zSm_up _ _ hi0, hC]
              by_cases e : s.testBit i.toNat = true
              · first
                | (rw [gCy_0 ((hSn i hi0 (by omega)).1 e)]; done)
                | (exfalso; rw [if_pos e] at h305; omega)
              · first
                | (rw [gCy_1 (fun z => e ((hSn i hi0 (by omega)).2 z))]; done)
                | (exfalso; rw [if_neg e] at h305; omega)
          · refine z_iconst (pc' := 309) dL_isFigure_308 rfl (by unfold zin; decide) ?_
            refine z_goto (tgt := 313) dL_isFigure_309 (by decide) ?_
            refine z_iadd (pc' := 314) dL_isFigure_313 rfl (by unfold zin; omega) ?_
            refine z_S9I (pc' := 316) rfl dL_isFigure_314 rfl ?_
            refine key316 _ _ _ ?_ ?_ ?_
            · rw [zSm_up _ _ hi0, hM]
              (try dsimp only)
              split <;> omega
            · rw [zSm_up _ _ hi0, hT]
              (try dsimp only)
              split <;> omega
            · rw [zSm_up _ _ hi0, hC]
              by_cases e : s.testBit i.toNat = true
              · first
                | (rw [gCy_0 ((hSn i hi0 (by omega)).1 e)]; done)
                | (exfalso; rw [if_pos e] at h305; omega)
              · first
                | (rw [gCy_1 (fun z => e ((hSn i hi0 (by omega)).2 z))]; done)
                | (exfalso; rw [if_neg e] at h305; omega)
        · refine z_iconst (pc' := 289) dL_isFigure_288 rfl (by unfold zin; decide) ?_
          refine z_goto (tgt := 293) dL_isFigure_289 (by decide) ?_
          refine z_iadd (pc' := 294) dL_isFigure_293 rfl (by unfold zin; omega) ?_
          refine z_S8I (pc' := 296) rfl dL_isFigure_294 rfl ?_
          refine z_L9I (pc' := 298) dL_isFigure_296 rfl ?_
          refine z_L10I (pc' := 300) dL_isFigure_298 rfl ?_
          refine z_L12I (pc' := 302) dL_isFigure_300 rfl ?_
          refine z_ishr (pc' := 303) dL_isFigure_302 rfl (by omega) (by omega) (by omega) ?_
          refine z_iconst (pc' := 304) dL_isFigure_303 rfl (by unfold zin; decide) ?_
          refine z_iand (pc' := 305) dL_isFigure_304 rfl ?_
          rw [hsi]
          refine z_if_ne (tgt := 312) (pc' := 308) dL_isFigure_305 (by decide) rfl (fun h305 => ?_) (fun h305 => ?_)
          · refine z_iconst (pc' := 313) dL_isFigure_312 rfl (by unfold zin; decide) ?_
            refine z_iadd (pc' := 314) dL_isFigure_313 rfl (by unfold zin; omega) ?_
            refine z_S9I (pc' := 316) rfl dL_isFigure_314 rfl ?_
            refine key316 _ _ _ ?_ ?_ ?_
            · rw [zSm_up _ _ hi0, hM]
              (try dsimp only)
              split <;> omega
            · rw [zSm_up _ _ hi0, hT]
              (try dsimp only)
              split <;> omega
            · rw [zSm_up _ _ hi0, hC]
              by_cases e : s.testBit i.toNat = true
              · first
                | (rw [gCy_0 ((hSn i hi0 (by omega)).1 e)]; done)
                | (exfalso; rw [if_pos e] at h305; omega)
              · first
                | (rw [gCy_1 (fun z => e ((hSn i hi0 (by omega)).2 z))]; done)
                | (exfalso; rw [if_neg e] at h305; omega)
          · refine z_iconst (pc' := 309) dL_isFigure_308 rfl (by unfold zin; decide) ?_
            refine z_goto (tgt := 313) dL_isFigure_309 (by decide) ?_
            refine z_iadd (pc' := 314) dL_isFigure_313 rfl (by unfold zin; omega) ?_
            refine z_S9I (pc' := 316) rfl dL_isFigure_314 rfl ?_
            refine key316 _ _ _ ?_ ?_ ?_
            · rw [zSm_up _ _ hi0, hM]
              (try dsimp only)
              split <;> omega
            · rw [zSm_up _ _ hi0, hT]
              (try dsimp only)
              split <;> omega
            · rw [zSm_up _ _ hi0, hC]
              by_cases e : s.testBit i.toNat = true
              · first
                | (rw [gCy_0 ((hSn i hi0 (by omega)).1 e)]; done)
                | (exfalso; rw [if_pos e] at h305; omega)
              · first
                | (rw [gCy_1 (fun z => e ((hSn i hi0 (by omega)).2 z))]; done)
                | (exfalso; rw [if_neg e] at h305; omega)
      · refine z_iconst (pc' := 271) dL_isFigure_270 rfl (by unfold zin; decide) ?_
        refine z_goto (tgt := 275) dL_isFigure_271 (by decide) ?_
        refine z_iadd (pc' := 276) dL_isFigure_275 rfl (by unfold zin; omega) ?_
        refine z_S7I (pc' := 278) rfl dL_isFigure_276 rfl ?_
        refine z_L8I (pc' := 280) dL_isFigure_278 rfl ?_
        refine z_L5R (pc' := 282) dL_isFigure_280 rfl ?_
        refine z_L12I (pc' := 284) dL_isFigure_282 rfl ?_
        refine z_ild (pc' := 285) dL_isFigure_284 rfl gg (by omega) (by omega) ?_
        refine z_if_le (tgt := 292) (pc' := 288) dL_isFigure_285 (by decide) rfl (fun h285 => ?_) (fun h285 => ?_)
        · refine z_iconst (pc' := 293) dL_isFigure_292 rfl (by unfold zin; decide) ?_
          refine z_iadd (pc' := 294) dL_isFigure_293 rfl (by unfold zin; omega) ?_
          refine z_S8I (pc' := 296) rfl dL_isFigure_294 rfl ?_
          refine z_L9I (pc' := 298) dL_isFigure_296 rfl ?_
          refine z_L10I (pc' := 300) dL_isFigure_298 rfl ?_
          refine z_L12I (pc' := 302) dL_isFigure_300 rfl ?_
          refine z_ishr (pc' := 303) dL_isFigure_302 rfl (by omega) (by omega) (by omega) ?_
          refine z_iconst (pc' := 304) dL_isFigure_303 rfl (by unfold zin; decide) ?_
          refine z_iand (pc' := 305) dL_isFigure_304 rfl ?_
          rw [hsi]
          refine z_if_ne (tgt := 312) (pc' := 308) dL_isFigure_305 (by decide) rfl (fun h305 => ?_) (fun h305 => ?_)
          · refine z_iconst (pc' := 313) dL_isFigure_312 rfl (by unfold zin; decide) ?_
            refine z_iadd (pc' := 314) dL_isFigure_313 rfl (by unfold zin; omega) ?_
            refine z_S9I (pc' := 316) rfl dL_isFigure_314 rfl ?_
            refine key316 _ _ _ ?_ ?_ ?_
            · rw [zSm_up _ _ hi0, hM]
              (try dsimp only)
              split <;> omega
            · rw [zSm_up _ _ hi0, hT]
              (try dsimp only)
              split <;> omega
            · rw [zSm_up _ _ hi0, hC]
              by_cases e : s.testBit i.toNat = true
              · first
                | (rw [gCy_0 ((hSn i hi0 (by omega)).1 e)]; done)
                | (exfalso; rw [if_pos e] at h305; omega)
              · first
                | (rw [gCy_1 (fun z => e ((hSn i hi0 (by omega)).2 z))]; done)
                | (exfalso; rw [if_neg e] at h305; omega)
          · refine z_iconst (pc' := 309) dL_isFigure_308 rfl (by unfold zin; decide) ?_
            refine z_goto (tgt := 313) dL_isFigure_309 (by decide) ?_
            refine z_iadd (pc' := 314) dL_isFigure_313 rfl (by unfold zin; omega) ?_
            refine z_S9I (pc' := 316) rfl dL_isFigure_314 rfl ?_
            refine key316 _ _ _ ?_ ?_ ?_
            · rw [zSm_up _ _ hi0, hM]
              (try dsimp only)
              split <;> omega
            · rw [zSm_up _ _ hi0, hT]
              (try dsimp only)
              split <;> omega
            · rw [zSm_up _ _ hi0, hC]
              by_cases e : s.testBit i.toNat = true
              · first
                | (rw [gCy_0 ((hSn i hi0 (by omega)).1 e)]; done)
                | (exfalso; rw [if_pos e] at h305; omega)
              · first
                | (rw [gCy_1 (fun z => e ((hSn i hi0 (by omega)).2 z))]; done)
                | (exfalso; rw [if_neg e] at h305; omega)
        · refine z_iconst (pc' := 289) dL_isFigure_288 rfl (by unfold zin; decide) ?_
          refine z_goto (tgt := 293) dL_isFigure_289 (by decide) ?_
          refine z_iadd (pc' := 294) dL_isFigure_293 rfl (by unfold zin; omega) ?_
          refine z_S8I (pc' := 296) rfl dL_isFigure_294 rfl ?_
          refine z_L9I (pc' := 298) dL_isFigure_296 rfl ?_
          refine z_L10I (pc' := 300) dL_isFigure_298 rfl ?_
          refine z_L12I (pc' := 302) dL_isFigure_300 rfl ?_
          refine z_ishr (pc' := 303) dL_isFigure_302 rfl (by omega) (by omega) (by omega) ?_
          refine z_iconst (pc' := 304) dL_isFigure_303 rfl (by unfold zin; decide) ?_
          refine z_iand (pc' := 305) dL_isFigure_304 rfl ?_
          rw [hsi]
          refine z_if_ne (tgt := 312) (pc' := 308) dL_isFigure_305 (by decide) rfl (fun h305 => ?_) (fun h305 => ?_)
          · refine z_iconst (pc' := 313) dL_isFigure_312 rfl (by unfold zin; decide) ?_
            refine z_iadd (pc' := 314) dL_isFigure_313 rfl (by unfold zin; omega) ?_
            refine z_S9I (pc' := 316) rfl dL_isFigure_314 rfl ?_
            refine key316 _ _ _ ?_ ?_ ?_
            · rw [zSm_up _ _ hi0, hM]
              (try dsimp only)
              split <;> omega
            · rw [zSm_up _ _ hi0, hT]
              (try dsimp only)
              split <;> omega
            · rw [zSm_up _ _ hi0, hC]
              by_cases e : s.testBit i.toNat = true
              · first
                | (rw [gCy_0 ((hSn i hi0 (by omega)).1 e)]; done)
                | (exfalso; rw [if_pos e] at h305; omega)
              · first
                | (rw [gCy_1 (fun z => e ((hSn i hi0 (by omega)).2 z))]; done)
                | (exfalso; rw [if_neg e] at h305; omega)
          · refine z_iconst (pc' := 309) dL_isFigure_308 rfl (by unfold zin; decide) ?_
            refine z_goto (tgt := 313) dL_isFigure_309 (by decide) ?_
            refine z_iadd (pc' := 314) dL_isFigure_313 rfl (by unfold zin; omega) ?_
            refine z_S9I (pc' := 316) rfl dL_isFigure_314 rfl ?_
            refine key316 _ _ _ ?_ ?_ ?_
            · rw [zSm_up _ _ hi0, hM]
              (try dsimp only)
              split <;> omega
            · rw [zSm_up _ _ hi0, hT]
              (try dsimp only)
              split <;> omega
            · rw [zSm_up _ _ hi0, hC]
              by_cases e : s.testBit i.toNat = true
              · first
                | (rw [gCy_0 ((hSn i hi0 (by omega)).1 e)]; done)
                | (exfalso; rw [if_pos e] at h305; omega)
              · first
                | (rw [gCy_1 (fun z => e ((hSn i hi0 (by omega)).2 z))]; done)
                | (exfalso; rw [if_neg e] at h305; omega)
  · have hjs : j < qS A k := by omega
    have hmv := (hR8.1.2.2.2.1 k k0 k1).2 j hj0 hjs
    have hgs := (gsg_c hv k0 k1 hj0 hjs).2.2
    refine z_L1R (pc' := 120) dL_isFigure_119 rfl ?_
    refine z_L2R (pc' := 121) dL_isFigure_120 rfl ?_
    refine z_L6I (pc' := 123) dL_isFigure_121 rfl ?_
    refine z_L12I (pc' := 125) dL_isFigure_123 rfl ?_
    refine z_S4v (pc' := 128) kL_move lL_9 dL_isFigure_125 rfl (by omega) (Nat.le_of_ble_eq_true rfl) ?_
    refine l_move gm go k0 k1 hj0 (by omega) (zKv_i ?_)
    rw [hmv]
    refine z_S13I (pc' := 130) rfl dL_isFigure_128 rfl ?_
    refine z_L11I (pc' := 132) dL_isFigure_130 rfl ?_
    refine z_if_eq (tgt := 193) (pc' := 135) dL_isFigure_132 (by decide) rfl (fun h132 => absurd h132 (by omega)) (fun h132 => ?_)
    refine z_L0R (pc' := 136) dL_isFigure_135 rfl ?_
    refine z_L6I (pc' := 138) dL_isFigure_136 rfl ?_
    refine z_L12I (pc' := 140) dL_isFigure_138 rfl ?_
    refine z_iconst (pc' := 141) dL_isFigure_140 rfl (by unfold zin; decide) ?_
    refine z_V3v (pc' := 144) (ci := 8) kX8_move lL_79 dL_isFigure_141 rfl (by omega) (Nat.le_of_ble_eq_true rfl) (by decide) rfl gx.s ?_
    refine x_move (by omega) gx hR8.1.1 hI (fun me9 hX9 hF9 => zKv_i ?_)
    have hR9 := hR8.x hX9 hF9
    rw [vM0 k0 k1 hj0 hjs]
    refine z_L13I (pc' := 146) dL_isFigure_144 rfl ?_
    refine z_bipush (pc' := 148) dL_isFigure_146 rfl (by decide) ?_
    refine z_idiv (pc' := 149) dL_isFigure_148 rfl (by omega) (by omega) ?_
    refine z_icmp_ne (tgt := 193) (pc' := 152) dL_isFigure_149 (by decide) rfl (fun h149 => absurd h149 (by omega)) (fun h149 => ?_)
    refine z_L0R (pc' := 153) dL_isFigure_152 rfl ?_
    refine z_L6I (pc' := 155) dL_isFigure_153 rfl ?_
    refine z_L12I (pc' := 157) dL_isFigure_155 rfl ?_
    refine z_iconst (pc' := 158) dL_isFigure_157 rfl (by unfold zin; decide) ?_
    refine z_V3v (pc' := 161) (ci := 8) kX8_move lL_79 dL_isFigure_158 rfl (by omega) (Nat.le_of_ble_eq_true rfl) (by decide) rfl gx.s ?_
    refine x_move (by omega) gx hR9.1.1 hI (fun me10 hX10 hF10 => zKv_i ?_)
    have hR10 := hR9.x hX10 hF10
    rw [vM1 k0 k1 hj0 hjs]
    refine z_L13I (pc' := 163) dL_isFigure_161 rfl ?_
    refine z_bipush (pc' := 165) dL_isFigure_163 rfl (by decide) ?_
    refine z_idiv (pc' := 166) dL_isFigure_165 rfl (by omega) (by omega) ?_
    refine z_bipush (pc' := 168) dL_isFigure_166 rfl (by decide) ?_
    refine z_irem (pc' := 169) dL_isFigure_168 rfl (by omega) (by omega) ?_
    refine z_icmp_ne (tgt := 193) (pc' := 172) dL_isFigure_169 (by decide) rfl (fun h169 => absurd h169 (by omega)) (fun h169 => ?_)
    refine z_L0R (pc' := 173) dL_isFigure_172 rfl ?_
    refine z_L6I (pc' := 175) dL_isFigure_173 rfl ?_
    refine z_L12I (pc' := 177) dL_isFigure_175 rfl ?_
    refine z_iconst (pc' := 178) dL_isFigure_177 rfl (by unfold zin; decide) ?_
    refine z_V3v (pc' := 181) (ci := 8) kX8_move lL_79 dL_isFigure_178 rfl (by omega) (Nat.le_of_ble_eq_true rfl) (by decide) rfl gx.s ?_
    refine x_move (by omega) gx hR10.1.1 hI (fun me11 hX11 hF11 => zKv_i ?_)
    have hR11 := hR10.x hX11 hF11
    rw [vM2 k0 k1 hj0 hjs]
    refine z_L13I (pc' := 183) dL_isFigure_181 rfl ?_
    refine z_bipush (pc' := 185) dL_isFigure_183 rfl (by decide) ?_
    refine z_irem (pc' := 186) dL_isFigure_185 rfl (by omega) (by omega) ?_
    refine z_icmp_ne (tgt := 193) (pc' := 189) dL_isFigure_186 (by decide) rfl (fun h186 => absurd h186 (by omega)) (fun h186 => ?_)
    refine z_iconst (pc' := 190) dL_isFigure_189 rfl (by unfold zin; decide) ?_
    refine z_goto (tgt := 194) dL_isFigure_190 (by decide) ?_
    refine z_S11I (pc' := 196) rfl dL_isFigure_194 rfl ?_
    refine z_inc12 (pc' := 199) rfl dL_isFigure_196 rfl (by unfold zin; omega) ?_
    refine z_goto (tgt := 110) dL_isFigure_199 (by decide) ?_
    exact ih (j + 1) _ me11 (by omega) (by omega) (by omega) rfl hR11
end ZLK

