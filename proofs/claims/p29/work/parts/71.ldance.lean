section ZL12
set_option maxRecDepth 100000 in
set_option maxHeartbeats 8000000 in
theorem l_acts_b0 {d : Nat} {sp : zSP} {me : zMe} {Q : zQ} {A : zAb} {B z kind : Int} {N : Nat} (hd : 24 ≤ d) (hN : sp.2.2 = N) (hW : gLW sp) (hI : zIA B A) (hB : B ≤ 900000000) (hB0 : 0 ≤ B) (hR : gRR me A) (h6 : qS A 6 = 0) (h7 : qS A 7 = 0) (hQ : ∀ sp' me' A', zXt 4 sp sp' → gRR me' A' → zIA (B + 100000) A' → qS A' 6 = 0 → qS A' 7 = 0 → Q (some (zI 1)) sp' me') : zW mL_acts d 4 40 Q 298 [zR 1, zR 167, zR 168, zR 169, zR 170, zR 171, zR 172, zR 173, zI kind, zI z, zU, zU, zU, zU, zU, zU, zU, zU, zU, zU, zU, zU] [] sp me := by
  have hWN : 175 ≤ N := by rw [← hN]; exact hW.2.1
  have hok : zHok (qH A) := hI.1.2.1
  have hv : zfv (qS A) (qC A) := hI.1.2.2.2.1
  have hlm : zlim (qS A) (qC A) := hI.1.2.2.2.2.1
  have hgA : zgR (qW A) (qF A) := hI.1.1
  have hIm : zIA (B + 100000) A := zIA_mono hI (by omega)
  have hut := zut hI
  refine z_bipush (pc' := 300) dL_acts_298 rfl (by decide) ?_
  refine z_nar (pc' := 302) (r1' := 3) (r2' := 30) (a := N + 1) dL_acts_300 rfl (by decide) (by decide) (by omega) (by omega) (by omega) (fun sp1 me1 hX1 hn1 hka1 hm1 => ?_)
  refine z_S15R (pc' := 304) rfl dL_acts_302 rfl ?_
  refine z_bipush (pc' := 306) dL_acts_304 rfl (by decide) ?_
  refine z_nar (pc' := 308) (r1' := 2) (r2' := 20) (a := N + 2) dL_acts_306 rfl (by decide) (by decide) (by omega) (by omega) (by omega) (fun sp2 me2 hX2 hn2 hka2 hm2 => ?_)
  have hX := hX1.tr hX2
  have hW2 := hW.mono hX
  have g1 : sp2.1 (N + 1) = (1, 10) := hX2.s (by omega) hka1
  have g2 : sp2.1 (N + 2) = (1, 10) := hka2
  have hm2a : ∀ a, a ≤ N → me2 a = me a := fun a ha => by rw [hm2, hm1, zset_ne _ _ _ (by omega), zset_ne _ _ _ (by omega)]
  have hR2 : gRR me2 A := hR.cg (fun a _ h2 => hm2a a (by omega))
  obtain ⟨wx, wsz, wp, wf, wh, wm, wo, wc, wt, we, wg⟩ := hW2
  refine z_S16R (pc' := 310) rfl dL_acts_308 rfl ?_
  refine z_L9I (pc' := 312) dL_acts_310 rfl ?_
  refine z_bipush (pc' := 314) dL_acts_312 rfl (by decide) ?_
  refine z_S2v (pc' := 317) kL_low lL_113 dL_acts_314 rfl (by omega) (Nat.le_of_ble_eq_true rfl) ?_
  refine l_low (by decide) (zKv_i ?_)
  have bF := gLow_bd z (show (0 : Int) < 6 by decide)
  revert bF
  generalize gLow z 6 = F
  intro bF
  have hlF := hlm F bF.1 (by omega)
  refine z_S17I (pc' := 319) rfl dL_acts_317 rfl ?_
  have key345 : ∀ v : Int, 0 ≤ v → v < 9 → zW mL_acts d 2 20 Q 345 [zR 1, zR 167, zR 168, zR 169, zR 170, zR 171, zR 172, zR 173, zI kind, zI z, zU, zU, zU, zU, zU, zR (N + 1), zR (N + 2), zI F, zU, zU, zU, zU] [zI v, zI 1] sp2 me2 := fun v v0 v1 => by
    refine z_iadd (pc' := 346) dL_acts_345 rfl (by unfold zin; omega) ?_
    refine z_S18I (pc' := 348) rfl dL_acts_346 rfl ?_
    refine z_L9I (pc' := 350) dL_acts_348 rfl ?_
    refine z_bipush (pc' := 352) dL_acts_350 rfl (by decide) ?_
    refine z_ishra (pc' := 353) dL_acts_352 rfl ?_
    refine z_iconst (pc' := 354) dL_acts_353 rfl (by unfold zin; decide) ?_
    refine z_S2v (pc' := 357) kL_low lL_113 dL_acts_354 rfl (by omega) (Nat.le_of_ble_eq_true rfl) ?_
    refine l_low (by decide) (zKv_i ?_)
    have key365 : ∀ b : Int, (b = 0 ∨ b = 1) → zW mL_acts d 2 20 Q 365 [zR 1, zR 167, zR 168, zR 169, zR 170, zR 171, zR 172, zR 173, zI kind, zI z, zU, zU, zU, zU, zU, zR (N + 1), zR (N + 2), zI F, zI (1 + v), zU, zU, zU] [zI b] sp2 me2 := fun b hb => by
      refine z_S19I (pc' := 367) rfl dL_acts_365 rfl ?_
      refine z_L1R (pc' := 368) dL_acts_367 rfl ?_
      refine z_L15R (pc' := 370) dL_acts_368 rfl ?_
      refine z_S20 (pc' := 373) kL_copy lL_27 dL_acts_370 rfl (by omega) (Nat.le_of_ble_eq_true rfl) ?_
      refine l_copy wp g1 (by omega) (fun me3 hA3 hF3 => zK0_i ?_)
      have hR3 : gRR me3 A := hR2.cg (fun a _ h2 => hF3 a (by omega))
      refine z_L2R (pc' := 374) dL_acts_373 rfl ?_
      refine z_L16R (pc' := 376) dL_acts_374 rfl ?_
      refine z_S20 (pc' := 379) kL_copy lL_27 dL_acts_376 rfl (by omega) (Nat.le_of_ble_eq_true rfl) ?_
      refine l_copy wf g2 (by omega) (fun me4 hA4 hF4 => zK0_i ?_)
      have hR4 : gRR me4 A := hR3.cg (fun a _ h2 => hF4 a (by omega))
      have hD4 : gDn me4 (N + 1) (N + 2) (qW A, qF A) := fun i i0 i1 => by
        rw [hF4 _ (by omega), hA3 i i0 i1, hA4 i i0 i1, hF3 168 (by omega)]
        exact hR2.2.1 i i0 i1
      refine z_L15R (pc' := 381) dL_acts_379 rfl ?_
      refine z_L16R (pc' := 383) dL_acts_381 rfl ?_
      refine z_L3R (pc' := 384) dL_acts_383 rfl ?_
      refine z_L4R (pc' := 386) dL_acts_384 rfl ?_
      refine z_L5R (pc' := 388) dL_acts_386 rfl ?_
      refine z_L6R (pc' := 390) dL_acts_388 rfl ?_
      refine z_L17I (pc' := 392) dL_acts_390 rfl ?_
      refine z_L18I (pc' := 394) dL_acts_392 rfl ?_
      refine z_L19I (pc' := 396) dL_acts_394 rfl ?_
      refine z_T9v (pc' := 399) (mc := 2) (ms := 20) (r1' := 0) (r2' := 0) kL_dances lL_95 dL_acts_396 rfl (by omega) (Nat.le_of_ble_eq_true rfl) (by omega) (by omega) ?_
      refine l_dances (by omega) hn2 g1 g2 wh wm wo wc (by omega) (by omega) (by omega) (by omega) (by omega) (by omega) (by omega) (by omega) (by omega) (by omega) (by omega) (by omega) (by omega) (by omega) (by omega) hv hlm hR4.2.2.2.1 hR4.2.2.2.2.1 (R := (qW A, qF A)) hgA hok hD4 hR4.2.2.1 bF.1 (by omega) (by omega) (by omega) (fun sp5 me5 made hX5 hF5 hmade => zKv_i ?_)
      have hR5 : gRR me5 A := hR4.cg (fun a _ h2 => hF5 a (by omega) (by omega) (by omega))
      have hXX := hX.tr hX5
      have hW5 := hW.mono hXX
      have e1 : sp5.1 (N + 1) = (1, 10) := hX5.s (by omega) g1
      have e2 : sp5.1 (N + 2) = (1, 10) := hX5.s (by omega) g2
      obtain ⟨vx, vsz, vp, vf, vh, vm, vo, vc, vt, ve, vg⟩ := hW5
      have hLL : zrep (1 + v).toNat (zord (zsteps (qS A) (qC A) F) b) = zLL A F (1 + v) b := rfl
      have hLn : ((zLL A F (1 + v) b).length : Int) = (1 + v) * ((zsteps (qS A) (qC A) F).length : Int) := by
        have h1 := zrep_len (1 + v).toNat (zord (zsteps (qS A) (qC A) F) b)
        rw [zord_len, hLL] at h1
        rw [h1, Int.natCast_mul, Int.toNat_of_nonneg (by omega)]
      rw [hLL] at hmade
      have hmul : (1 + v) * ((zsteps (qS A) (qC A) F).length : Int) ≤ 9 * 120 := Int.mul_le_mul (by omega) (by omega) (by omega) (by omega)
      have hmu0 : 0 ≤ (1 + v) * ((zsteps (qS A) (qC A) F).length : Int) := Int.mul_nonneg (by omega) (by omega)
      have hcF := hR5.2.2.2.2.1 F bF.1 (by omega)
      have hmb : 0 ≤ made ∧ made ≤ 1080 := by
        rcases hmade with h | h
        · omega
        · omega
      have hdn : (ztry (qH A) (zLL A F (1 + v) b) (qW A, qF A) 0 = -5 → zoDance A F (1 + v) b = (((zLL A F (1 + v) b).length : Int), zdo A (qst (zfo (qW A, qF A) (zLL A F (1 + v) b)).1 (zfo (qW A, qF A) (zLL A F (1 + v) b)).2 (qH A) (qP A) (qS A) (qC A) (qT0 A + 1) (qT1 A + ((zLL A F (1 + v) b).length : Int)) (qT2 A)))) ∧ (ztry (qH A) (zLL A F (1 + v) b) (qW A, qF A) 0 ≠ -5 → zoDance A F (1 + v) b = (-100 - ztry (qH A) (zLL A F (1 + v) b) (qW A, qF A) 0, A)) := by
        unfold zoDance
        rw [zif_neg (by omega), zif_neg (by omega)]
        exact ⟨fun e => zif_neg (fun z => z e), fun e => zif_pos e⟩
      have hIA5 := zIA_dance (k := F) (T := 1 + v) (b := b) hI
      refine z_S20I (pc' := 401) rfl dL_acts_399 rfl ?_
      refine z_L20I (pc' := 403) dL_acts_401 rfl ?_
      refine z_L18I (pc' := 405) dL_acts_403 rfl ?_
      refine z_L6R (pc' := 407) dL_acts_405 rfl ?_
      refine z_bipush (pc' := 409) dL_acts_407 rfl (by decide) ?_
      refine z_L17I (pc' := 411) dL_acts_409 rfl ?_
      refine z_iadd (pc' := 412) dL_acts_411 rfl (by unfold zin; omega) ?_
      refine z_ild (pc' := 413) dL_acts_412 rfl vc (by omega) (by omega) ?_
      rw [hcF]
      refine z_imul (pc' := 414) dL_acts_413 rfl (by unfold zin; omega) ?_
      refine z_icmp_ne (tgt := 421) (pc' := 417) dL_acts_414 (by decide) rfl (fun h414 => ?_) (fun h414 => ?_)
      · refine z_iconst (pc' := 422) dL_acts_421 rfl (by unfold zin; decide) ?_
        refine z_S21I (pc' := 424) rfl dL_acts_422 rfl ?_
        refine z_L21I (pc' := 426) dL_acts_424 rfl ?_
        refine z_if_eq (tgt := 458) (pc' := 429) dL_acts_426 (by decide) rfl (fun h426 => ?_) (fun h426 => ?_)
        · have hok9 : (ztry (qH A) (zLL A F (1 + v) b) (qW A, qF A) 0 = -5 ∧ made = ((zLL A F (1 + v) b).length : Int) ∧ gDn me5 (N + 1) (N + 2) (zfo (qW A, qF A) (zLL A F (1 + v) b))) ∨ (ztry (qH A) (zLL A F (1 + v) b) (qW A, qF A) 0 = made ∧ 0 ≤ made ∧ made < ((zLL A F (1 + v) b).length : Int)) := hmade
          refine z_L0R (pc' := 459) dL_acts_458 rfl ?_
          refine z_L17I (pc' := 461) dL_acts_459 rfl ?_
          refine z_L18I (pc' := 463) dL_acts_461 rfl ?_
          refine z_L19I (pc' := 465) dL_acts_463 rfl ?_
          refine z_V3v (pc' := 468) (ci := 8) kX8_dance lL_144 dL_acts_465 rfl (by omega) (Nat.le_of_ble_eq_true rfl) (by decide) rfl vx.s ?_
          first
          | (refine x_dance (by omega) vx (zRX_congr (me := me5) (fun a h1 h2 => by rw [zset_ne _ _ _ (by omega), zset_ne _ _ _ (by omega), hF7 _ (by omega), hF6 _ (by omega)]) hR5.1) hI hB (fun me9 hX9 hF9 => zKv_i ?_)
             have hs : ztry (qH A) (zLL A F (1 + v) b) (qW A, qF A) 0 = -5 ∧ made = ((zLL A F (1 + v) b).length : Int) ∧ gDn me5 (N + 1) (N + 2) (zfo (qW A, qF A) (zLL A F (1 + v) b)) := by
               rcases hmade with h | h
               · exact h
               · omega
             have hd9 := hdn.1 hs.1
             have hv9 : (zoDance A F (1 + v) b).1 = made := by rw [hd9]; exact hs.2.1.symm
             rw [hd9] at hX9 hIA5
             have hfin : Q (some (zI 1)) sp5 me9 := by
               obtain ⟨q1, q2, q3, q4, q5, q6, q7⟩ := hR5.2
               have o9 : ∀ x, 167 ≤ x → x ≠ 167 → x ≠ 168 → x ≠ 173 → me9 x = me5 x := fun x h1 h2 h3 h4 => by rw [hF9 x (Or.inr (by omega)), zset_ne _ _ _ h4, zset_ne _ _ _ h4, hF7 x h3, hF6 x h2]
               have o173 : me9 173 = zup (zup (me5 173) 0 (qT0 A + 1)) 1 (qT1 A + made) := by rw [hF9 173 (Or.inr (by omega)), zset_eq, zset_eq]
               refine hQ sp5 me9 (zdo A (qst (zfo (qW A, qF A) (zLL A F (1 + v) b)).1 (zfo (qW A, qF A) (zLL A F (1 + v) b)).2 (qH A) (qP A) (qS A) (qC A) (qT0 A + 1) (qT1 A + ((zLL A F (1 + v) b).length : Int)) (qT2 A))) hXX ⟨hX9, ?_, ?_, ?_, ?_, ?_, ?_, ?_⟩ hIA5 h6 h7
               · intro i i0 i1
                 rw [hF9 167 (Or.inr (by omega)), hF9 168 (Or.inr (by omega)), zset_ne _ _ _ (by decide), zset_ne _ _ _ (by decide), zset_ne _ _ _ (by decide), zset_ne _ _ _ (by decide), hF7 167 (by decide), hA6 i i0 i1, hA7 i i0 i1, hF6 (N + 2) (by omega)]
                 exact hs.2.2 i i0 i1
               · intro i i0 i1; rw [o9 169 (by decide) (by decide) (by decide) (by decide)]; exact q2 i i0 i1
               · exact q3.cg (o9 _ (by decide) (by decide) (by decide) (by decide)) (o9 _ (by decide) (by decide) (by decide) (by decide)) (fun k _ _ => by rw [o9 172 (by decide) (by decide) (by decide) (by decide)])
               · exact q4.cg (o9 _ (by decide) (by decide) (by decide) (by decide))
               · rw [o173, zup_ne _ _ _ (by decide), zup_eq]; rfl
               · rw [o173, zup_eq, hs.2.1]; rfl
               · rw [o173, zup_ne _ _ _ (by decide), zup_ne _ _ _ (by decide)]; exact q7)
          | (refine x_dance (by omega) vx hR5.1 hI hB (fun me9 hX9 hF9 => zKv_i ?_)
             have hs : ztry (qH A) (zLL A F (1 + v) b) (qW A, qF A) 0 = made ∧ 0 ≤ made := by
               rcases hmade with h | h
               · omega
               · exact ⟨h.1, h.2.1⟩
             have hd9 := hdn.2 (by omega)
             have hv9 : (zoDance A F (1 + v) b).1 = -100 - made := by rw [hd9]; show -100 - ztry (qH A) (zLL A F (1 + v) b) (qW A, qF A) 0 = _; rw [hs.1]
             rw [hd9] at hX9
             have hfin : Q (some (zI 1)) sp5 me9 := hQ sp5 me9 A hXX (hR5.x hX9 hF9) hIm h6 h7)
          refine z_L21I (pc' := 470) dL_acts_468 rfl ?_
          refine z_if_eq (tgt := 478) (pc' := 473) dL_acts_470 (by decide) rfl (fun h470 => ?_) (fun h470 => ?_)
          · refine z_bipush (pc' := 480) dL_acts_478 rfl (by decide) ?_
            refine z_L20I (pc' := 482) dL_acts_480 rfl ?_
            refine z_isub (pc' := 483) dL_acts_482 rfl (by unfold zin; omega) ?_
            refine z_icmp_ne (tgt := 490) (pc' := 486) dL_acts_483 (by decide) rfl (fun h483 => absurd h483 (by omega)) (fun h483 => ?_)
            refine z_iconst (pc' := 487) dL_acts_486 rfl (by unfold zin; decide) ?_
            refine z_goto (tgt := 491) dL_acts_487 (by decide) ?_
            refine z_zreturn rfl rfl dL_acts_491 (by omega) ?_
            exact hfin
          · refine z_L20I (pc' := 475) dL_acts_473 rfl ?_
            refine z_goto (tgt := 483) dL_acts_475 (by decide) ?_
            refine z_icmp_ne (tgt := 490) (pc' := 486) dL_acts_483 (by decide) rfl (fun h483 => absurd h483 (by omega)) (fun h483 => ?_)
            refine z_iconst (pc' := 487) dL_acts_486 rfl (by unfold zin; decide) ?_
            refine z_goto (tgt := 491) dL_acts_487 (by decide) ?_
            refine z_zreturn rfl rfl dL_acts_491 (by omega) ?_
            exact hfin
        · refine z_L15R (pc' := 431) dL_acts_429 rfl ?_
          refine z_L1R (pc' := 432) dL_acts_431 rfl ?_
          refine z_S20 (pc' := 435) kL_copy lL_27 dL_acts_432 rfl (by omega) (Nat.le_of_ble_eq_true rfl) ?_
          refine l_copy e1 vp (by omega) (fun me6 hA6 hF6 => zK0_i ?_)
          refine z_L16R (pc' := 437) dL_acts_435 rfl ?_
          refine z_L2R (pc' := 438) dL_acts_437 rfl ?_
          refine z_S20 (pc' := 441) kL_copy lL_27 dL_acts_438 rfl (by omega) (Nat.le_of_ble_eq_true rfl) ?_
          refine l_copy e2 vf (by omega) (fun me7 hA7 hF7 => zK0_i ?_)
          have t7 : me7 173 = me5 173 := by rw [hF7 _ (by omega), hF6 _ (by omega)]
          refine z_L7R (pc' := 443) dL_acts_441 rfl ?_
          refine z_iconst (pc' := 444) dL_acts_443 rfl (by unfold zin; decide) ?_
          refine z_dup2 (pc' := 445) dL_acts_444 rfl ?_
          refine z_ild (pc' := 446) dL_acts_445 rfl vt (by omega) (by omega) ?_
          rw [t7, hR5.2.2.2.2.2.1]
          refine z_iconst (pc' := 447) dL_acts_446 rfl (by unfold zin; decide) ?_
          refine z_iadd (pc' := 448) dL_acts_447 rfl (by unfold zin; omega) ?_
          refine z_ist (pc' := 449) dL_acts_448 rfl vt (by omega) (by omega) ?_
          refine z_L7R (pc' := 451) dL_acts_449 rfl ?_
          refine z_iconst (pc' := 452) dL_acts_451 rfl (by unfold zin; decide) ?_
          refine z_dup2 (pc' := 453) dL_acts_452 rfl ?_
          refine z_ild (pc' := 454) dL_acts_453 rfl vt (by omega) (by omega) ?_
          rw [zset_eq, zup_ne _ _ _ (by decide), t7, hR5.2.2.2.2.2.2.1]
          refine z_L20I (pc' := 456) dL_acts_454 rfl ?_
          refine z_iadd (pc' := 457) dL_acts_456 rfl (by unfold zin; omega) ?_
          refine z_ist (pc' := 458) dL_acts_457 rfl vt (by omega) (by omega) ?_
          have hok9 : (ztry (qH A) (zLL A F (1 + v) b) (qW A, qF A) 0 = -5 ∧ made = ((zLL A F (1 + v) b).length : Int) ∧ gDn me5 (N + 1) (N + 2) (zfo (qW A, qF A) (zLL A F (1 + v) b))) ∨ (ztry (qH A) (zLL A F (1 + v) b) (qW A, qF A) 0 = made ∧ 0 ≤ made ∧ made < ((zLL A F (1 + v) b).length : Int)) := hmade
          refine z_L0R (pc' := 459) dL_acts_458 rfl ?_
          refine z_L17I (pc' := 461) dL_acts_459 rfl ?_
          refine z_L18I (pc' := 463) dL_acts_461 rfl ?_
          refine z_L19I (pc' := 465) dL_acts_463 rfl ?_
          refine z_V3v (pc' := 468) (ci := 8) kX8_dance lL_144 dL_acts_465 rfl (by omega) (Nat.le_of_ble_eq_true rfl) (by decide) rfl vx.s ?_
          first
          | (refine x_dance (by omega) vx (zRX_congr (me := me5) (fun a h1 h2 => by rw [zset_ne _ _ _ (by omega), zset_ne _ _ _ (by omega), hF7 _ (by omega), hF6 _ (by omega)]) hR5.1) hI hB (fun me9 hX9 hF9 => zKv_i ?_)
             have hs : ztry (qH A) (zLL A F (1 + v) b) (qW A, qF A) 0 = -5 ∧ made = ((zLL A F (1 + v) b).length : Int) ∧ gDn me5 (N + 1) (N + 2) (zfo (qW A, qF A) (zLL A F (1 + v) b)) := by
               rcases hmade with h | h
               · exact h
               · omega
             have hd9 := hdn.1 hs.1
             have hv9 : (zoDance A F (1 + v) b).1 = made := by rw [hd9]; exact hs.2.1.symm
             rw [hd9] at hX9 hIA5
             have hfin : Q (some (zI 1)) sp5 me9 := by
               obtain ⟨q1, q2, q3, q4, q5, q6, q7⟩ := hR5.2
               have o9 : ∀ x, 167 ≤ x → x ≠ 167 → x ≠ 168 → x ≠ 173 → me9 x = me5 x := fun x h1 h2 h3 h4 => by rw [hF9 x (Or.inr (by omega)), zset_ne _ _ _ h4, zset_ne _ _ _ h4, hF7 x h3, hF6 x h2]
               have o173 : me9 173 = zup (zup (me5 173) 0 (qT0 A + 1)) 1 (qT1 A + made) := by rw [hF9 173 (Or.inr (by omega)), zset_eq, zset_eq]
               refine hQ sp5 me9 (zdo A (qst (zfo (qW A, qF A) (zLL A F (1 + v) b)).1 (zfo (qW A, qF A) (zLL A F (1 + v) b)).2 (qH A) (qP A) (qS A) (qC A) (qT0 A + 1) (qT1 A + ((zLL A F (1 + v) b).length : Int)) (qT2 A))) hXX ⟨hX9, ?_, ?_, ?_, ?_, ?_, ?_, ?_⟩ hIA5 h6 h7
               · intro i i0 i1
                 rw [hF9 167 (Or.inr (by omega)), hF9 168 (Or.inr (by omega)), zset_ne _ _ _ (by decide), zset_ne _ _ _ (by decide), zset_ne _ _ _ (by decide), zset_ne _ _ _ (by decide), hF7 167 (by decide), hA6 i i0 i1, hA7 i i0 i1, hF6 (N + 2) (by omega)]
                 exact hs.2.2 i i0 i1
               · intro i i0 i1; rw [o9 169 (by decide) (by decide) (by decide) (by decide)]; exact q2 i i0 i1
               · exact q3.cg (o9 _ (by decide) (by decide) (by decide) (by decide)) (o9 _ (by decide) (by decide) (by decide) (by decide)) (fun k _ _ => by rw [o9 172 (by decide) (by decide) (by decide) (by decide)])
               · exact q4.cg (o9 _ (by decide) (by decide) (by decide) (by decide))
               · rw [o173, zup_ne _ _ _ (by decide), zup_eq]; rfl
               · rw [o173, zup_eq, hs.2.1]; rfl
               · rw [o173, zup_ne _ _ _ (by decide), zup_ne _ _ _ (by decide)]; exact q7)
          | (refine x_dance (by omega) vx hR5.1 hI hB (fun me9 hX9 hF9 => zKv_i ?_)
             have hs : ztry (qH A) (zLL A F (1 + v) b) (qW A, qF A) 0 = made ∧ 0 ≤ made := by
               rcases hmade with h | h
               · omega
               · exact ⟨h.1, h.2.1⟩
             have hd9 := hdn.2 (by omega)
             have hv9 : (zoDance A F (1 + v) b).1 = -100 - made := by rw [hd9]; show -100 - ztry (qH A) (zLL A F (1 + v) b) (qW A, qF A) 0 = _; rw [hs.1]
             rw [hd9] at hX9
             have hfin : Q (some (zI 1)) sp5 me9 := hQ sp5 me9 A hXX (hR5.x hX9 hF9) hIm h6 h7)
          refine z_L21I (pc' := 470) dL_acts_468 rfl ?_
          refine z_if_eq (tgt := 478) (pc' := 473) dL_acts_470 (by decide) rfl (fun h470 => ?_) (fun h470 => ?_)
          · refine z_bipush (pc' := 480) dL_acts_478 rfl (by decide) ?_
            refine z_L20I (pc' := 482) dL_acts_480 rfl ?_
            refine z_isub (pc' := 483) dL_acts_482 rfl (by unfold zin; omega) ?_
            refine z_icmp_ne (tgt := 490) (pc' := 486) dL_acts_483 (by decide) rfl (fun h483 => absurd h483 (by omega)) (fun h483 => ?_)
            refine z_iconst (pc' := 487) dL_acts_486 rfl (by unfold zin; decide) ?_
            refine z_goto (tgt := 491) dL_acts_487 (by decide) ?_
            refine z_zreturn rfl rfl dL_acts_491 (by omega) ?_
            exact hfin
          · refine z_L20I (pc' := 475) dL_acts_473 rfl ?_
            refine z_goto (tgt := 483) dL_acts_475 (by decide) ?_
            refine z_icmp_ne (tgt := 490) (pc' := 486) dL_acts_483 (by decide) rfl (fun h483 => absurd h483 (by omega)) (fun h483 => ?_)
            refine z_iconst (pc' := 487) dL_acts_486 rfl (by unfold zin; decide) ?_
            refine z_goto (tgt := 491) dL_acts_487 (by decide) ?_
            refine z_zreturn rfl rfl dL_acts_491 (by omega) ?_
            exact hfin
      · refine z_iconst (pc' := 418) dL_acts_417 rfl (by unfold zin; decide) ?_
        refine z_goto (tgt := 422) dL_acts_418 (by decide) ?_
        refine z_S21I (pc' := 424) rfl dL_acts_422 rfl ?_
        refine z_L21I (pc' := 426) dL_acts_424 rfl ?_
        refine z_if_eq (tgt := 458) (pc' := 429) dL_acts_426 (by decide) rfl (fun h426 => ?_) (fun h426 => ?_)
        · have hok9 : (ztry (qH A) (zLL A F (1 + v) b) (qW A, qF A) 0 = -5 ∧ made = ((zLL A F (1 + v) b).length : Int) ∧ gDn me5 (N + 1) (N + 2) (zfo (qW A, qF A) (zLL A F (1 + v) b))) ∨ (ztry (qH A) (zLL A F (1 + v) b) (qW A, qF A) 0 = made ∧ 0 ≤ made ∧ made < ((zLL A F (1 + v) b).length : Int)) := hmade
          refine z_L0R (pc' := 459) dL_acts_458 rfl ?_
          refine z_L17I (pc' := 461) dL_acts_459 rfl ?_
          refine z_L18I (pc' := 463) dL_acts_461 rfl ?_
          refine z_L19I (pc' := 465) dL_acts_463 rfl ?_
          refine z_V3v (pc' := 468) (ci := 8) kX8_dance lL_144 dL_acts_465 rfl (by omega) (Nat.le_of_ble_eq_true rfl) (by decide) rfl vx.s ?_
          first
          | (refine x_dance (by omega) vx (zRX_congr (me := me5) (fun a h1 h2 => by rw [zset_ne _ _ _ (by omega), zset_ne _ _ _ (by omega), hF7 _ (by omega), hF6 _ (by omega)]) hR5.1) hI hB (fun me9 hX9 hF9 => zKv_i ?_)
             have hs : ztry (qH A) (zLL A F (1 + v) b) (qW A, qF A) 0 = -5 ∧ made = ((zLL A F (1 + v) b).length : Int) ∧ gDn me5 (N + 1) (N + 2) (zfo (qW A, qF A) (zLL A F (1 + v) b)) := by
               rcases hmade with h | h
               · exact h
               · omega
             have hd9 := hdn.1 hs.1
             have hv9 : (zoDance A F (1 + v) b).1 = made := by rw [hd9]; exact hs.2.1.symm
             rw [hd9] at hX9 hIA5
             have hfin : Q (some (zI 1)) sp5 me9 := by
               obtain ⟨q1, q2, q3, q4, q5, q6, q7⟩ := hR5.2
               have o9 : ∀ x, 167 ≤ x → x ≠ 167 → x ≠ 168 → x ≠ 173 → me9 x = me5 x := fun x h1 h2 h3 h4 => by rw [hF9 x (Or.inr (by omega)), zset_ne _ _ _ h4, zset_ne _ _ _ h4, hF7 x h3, hF6 x h2]
               have o173 : me9 173 = zup (zup (me5 173) 0 (qT0 A + 1)) 1 (qT1 A + made) := by rw [hF9 173 (Or.inr (by omega)), zset_eq, zset_eq]
               refine hQ sp5 me9 (zdo A (qst (zfo (qW A, qF A) (zLL A F (1 + v) b)).1 (zfo (qW A, qF A) (zLL A F (1 + v) b)).2 (qH A) (qP A) (qS A) (qC A) (qT0 A + 1) (qT1 A + ((zLL A F (1 + v) b).length : Int)) (qT2 A))) hXX ⟨hX9, ?_, ?_, ?_, ?_, ?_, ?_, ?_⟩ hIA5 h6 h7
               · intro i i0 i1
                 rw [hF9 167 (Or.inr (by omega)), hF9 168 (Or.inr (by omega)), zset_ne _ _ _ (by decide), zset_ne _ _ _ (by decide), zset_ne _ _ _ (by decide), zset_ne _ _ _ (by decide), hF7 167 (by decide), hA6 i i0 i1, hA7 i i0 i1, hF6 (N + 2) (by omega)]
                 exact hs.2.2 i i0 i1
               · intro i i0 i1; rw [o9 169 (by decide) (by decide) (by decide) (by decide)]; exact q2 i i0 i1
               · exact q3.cg (o9 _ (by decide) (by decide) (by decide) (by decide)) (o9 _ (by decide) (by decide) (by decide) (by decide)) (fun k _ _ => by rw [o9 172 (by decide) (by decide) (by decide) (by decide)])
               · exact q4.cg (o9 _ (by decide) (by decide) (by decide) (by decide))
               · rw [o173, zup_ne _ _ _ (by decide), zup_eq]; rfl
               · rw [o173, zup_eq, hs.2.1]; rfl
               · rw [o173, zup_ne _ _ _ (by decide), zup_ne _ _ _ (by decide)]; exact q7)
          | (refine x_dance (by omega) vx hR5.1 hI hB (fun me9 hX9 hF9 => zKv_i ?_)
             have hs : ztry (qH A) (zLL A F (1 + v) b) (qW A, qF A) 0 = made ∧ 0 ≤ made := by
               rcases hmade with h | h
               · omega
               · exact ⟨h.1, h.2.1⟩
             have hd9 := hdn.2 (by omega)
             have hv9 : (zoDance A F (1 + v) b).1 = -100 - made := by rw [hd9]; show -100 - ztry (qH A) (zLL A F (1 + v) b) (qW A, qF A) 0 = _; rw [hs.1]
             rw [hd9] at hX9
             have hfin : Q (some (zI 1)) sp5 me9 := hQ sp5 me9 A hXX (hR5.x hX9 hF9) hIm h6 h7)
          refine z_L21I (pc' := 470) dL_acts_468 rfl ?_
          refine z_if_eq (tgt := 478) (pc' := 473) dL_acts_470 (by decide) rfl (fun h470 => ?_) (fun h470 => ?_)
          · refine z_bipush (pc' := 480) dL_acts_478 rfl (by decide) ?_
            refine z_L20I (pc' := 482) dL_acts_480 rfl ?_
            refine z_isub (pc' := 483) dL_acts_482 rfl (by unfold zin; omega) ?_
            refine z_icmp_ne (tgt := 490) (pc' := 486) dL_acts_483 (by decide) rfl (fun h483 => absurd h483 (by omega)) (fun h483 => ?_)
            refine z_iconst (pc' := 487) dL_acts_486 rfl (by unfold zin; decide) ?_
            refine z_goto (tgt := 491) dL_acts_487 (by decide) ?_
            refine z_zreturn rfl rfl dL_acts_491 (by omega) ?_
            exact hfin
          · refine z_L20I (pc' := 475) dL_acts_473 rfl ?_
            refine z_goto (tgt := 483) dL_acts_475 (by decide) ?_
            refine z_icmp_ne (tgt := 490) (pc' := 486) dL_acts_483 (by decide) rfl (fun h483 => absurd h483 (by omega)) (fun h483 => ?_)
            refine z_iconst (pc' := 487) dL_acts_486 rfl (by unfold zin; decide) ?_
            refine z_goto (tgt := 491) dL_acts_487 (by decide) ?_
            refine z_zreturn rfl rfl dL_acts_491 (by omega) ?_
            exact hfin
        · refine z_L15R (pc' := 431) dL_acts_429 rfl ?_
          refine z_L1R (pc' := 432) dL_acts_431 rfl ?_
          refine z_S20 (pc' := 435) kL_copy lL_27 dL_acts_432 rfl (by omega) (Nat.le_of_ble_eq_true rfl) ?_
          refine l_copy e1 vp (by omega) (fun me6 hA6 hF6 => zK0_i ?_)
          refine z_L16R (pc' := 437) dL_acts_435 rfl ?_
          refine z_L2R (pc' := 438) dL_acts_437 rfl ?_
          refine z_S20 (pc' := 441) kL_copy lL_27 dL_acts_438 rfl (by omega) (Nat.le_of_ble_eq_true rfl) ?_
          refine l_copy e2 vf (by omega) (fun me7 hA7 hF7 => zK0_i ?_)
          have t7 : me7 173 = me5 173 := by rw [hF7 _ (by omega), hF6 _ (by omega)]
          refine z_L7R (pc' := 443) dL_acts_441 rfl ?_
          refine z_iconst (pc' := 444) dL_acts_443 rfl (by unfold zin; decide) ?_
          refine z_dup2 (pc' := 445) dL_acts_444 rfl ?_
          refine z_ild (pc' := 446) dL_acts_445 rfl vt (by omega) (by omega) ?_
          rw [t7, hR5.2.2.2.2.2.1]
          refine z_iconst (pc' := 447) dL_acts_446 rfl (by unfold zin; decide) ?_
          refine z_iadd (pc' := 448) dL_acts_447 rfl (by unfold zin; omega) ?_
          refine z_ist (pc' := 449) dL_acts_448 rfl vt (by omega) (by omega) ?_
          refine z_L7R (pc' := 451) dL_acts_449 rfl ?_
          refine z_iconst (pc' := 452) dL_acts_451 rfl (by unfold zin; decide) ?_
          refine z_dup2 (pc' := 453) dL_acts_452 rfl ?_
          refine z_ild (pc' := 454) dL_acts_453 rfl vt (by omega) (by omega) ?_
          rw [zset_eq, zup_ne _ _ _ (by decide), t7, hR5.2.2.2.2.2.2.1]
          refine z_L20I (pc' := 456) dL_acts_454 rfl ?_
          refine z_iadd (pc' := 457) dL_acts_456 rfl (by unfold zin; omega) ?_
          refine z_ist (pc' := 458) dL_acts_457 rfl vt (by omega) (by omega) ?_
          have hok9 : (ztry (qH A) (zLL A F (1 + v) b) (qW A, qF A) 0 = -5 ∧ made = ((zLL A F (1 + v) b).length : Int) ∧ gDn me5 (N + 1) (N + 2) (zfo (qW A, qF A) (zLL A F (1 + v) b))) ∨ (ztry (qH A) (zLL A F (1 + v) b) (qW A, qF A) 0 = made ∧ 0 ≤ made ∧ made < ((zLL A F (1 + v) b).length : Int)) := hmade
          refine z_L0R (pc' := 459) dL_acts_458 rfl ?_
          refine z_L17I (pc' := 461) dL_acts_459 rfl ?_
          refine z_L18I (pc' := 463) dL_acts_461 rfl ?_
          refine z_L19I (pc' := 465) dL_acts_463 rfl ?_
          refine z_V3v (pc' := 468) (ci := 8) kX8_dance lL_144 dL_acts_465 rfl (by omega) (Nat.le_of_ble_eq_true rfl) (by decide) rfl vx.s ?_
          first
          | (refine x_dance (by omega) vx (zRX_congr (me := me5) (fun a h1 h2 => by rw [zset_ne _ _ _ (by omega), zset_ne _ _ _ (by omega), hF7 _ (by omega), hF6 _ (by omega)]) hR5.1) hI hB (fun me9 hX9 hF9 => zKv_i ?_)
             have hs : ztry (qH A) (zLL A F (1 + v) b) (qW A, qF A) 0 = -5 ∧ made = ((zLL A F (1 + v) b).length : Int) ∧ gDn me5 (N + 1) (N + 2) (zfo (qW A, qF A) (zLL A F (1 + v) b)) := by
               rcases hmade with h | h
               · exact h
               · omega
             have hd9 := hdn.1 hs.1
             have hv9 : (zoDance A F (1 + v) b).1 = made := by rw [hd9]; exact hs.2.1.symm
             rw [hd9] at hX9 hIA5
             have hfin : Q (some (zI 1)) sp5 me9 := by
               obtain ⟨q1, q2, q3, q4, q5, q6, q7⟩ := hR5.2
               have o9 : ∀ x, 167 ≤ x → x ≠ 167 → x ≠ 168 → x ≠ 173 → me9 x = me5 x := fun x h1 h2 h3 h4 => by rw [hF9 x (Or.inr (by omega)), zset_ne _ _ _ h4, zset_ne _ _ _ h4, hF7 x h3, hF6 x h2]
               have o173 : me9 173 = zup (zup (me5 173) 0 (qT0 A + 1)) 1 (qT1 A + made) := by rw [hF9 173 (Or.inr (by omega)), zset_eq, zset_eq]
               refine hQ sp5 me9 (zdo A (qst (zfo (qW A, qF A) (zLL A F (1 + v) b)).1 (zfo (qW A, qF A) (zLL A F (1 + v) b)).2 (qH A) (qP A) (qS A) (qC A) (qT0 A + 1) (qT1 A + ((zLL A F (1 + v) b).length : Int)) (qT2 A))) hXX ⟨hX9, ?_, ?_, ?_, ?_, ?_, ?_, ?_⟩ hIA5 h6 h7
               · intro i i0 i1
                 rw [hF9 167 (Or.inr (by omega)), hF9 168 (Or.inr (by omega)), zset_ne _ _ _ (by decide), zset_ne _ _ _ (by decide), zset_ne _ _ _ (by decide), zset_ne _ _ _ (by decide), hF7 167 (by decide), hA6 i i0 i1, hA7 i i0 i1, hF6 (N + 2) (by omega)]
                 exact hs.2.2 i i0 i1
               · intro i i0 i1; rw [o9 169 (by decide) (by decide) (by decide) (by decide)]; exact q2 i i0 i1
               · exact q3.cg (o9 _ (by decide) (by decide) (by decide) (by decide)) (o9 _ (by decide) (by decide) (by decide) (by decide)) (fun k _ _ => by rw [o9 172 (by decide) (by decide) (by decide) (by decide)])
               · exact q4.cg (o9 _ (by decide) (by decide) (by decide) (by decide))
               · rw [o173, zup_ne _ _ _ (by decide), zup_eq]; rfl
               · rw [o173, zup_eq, hs.2.1]; rfl
               · rw [o173, zup_ne _ _ _ (by decide), zup_ne _ _ _ (by decide)]; exact q7)
          | (refine x_dance (by omega) vx hR5.1 hI hB (fun me9 hX9 hF9 => zKv_i ?_)
             have hs : ztry (qH A) (zLL A F (1 + v) b) (qW A, qF A) 0 = made ∧ 0 ≤ made := by
               rcases hmade with h | h
               · omega
               · exact ⟨h.1, h.2.1⟩
             have hd9 := hdn.2 (by omega)
             have hv9 : (zoDance A F (1 + v) b).1 = -100 - made := by rw [hd9]; show -100 - ztry (qH A) (zLL A F (1 + v) b) (qW A, qF A) 0 = _; rw [hs.1]
             rw [hd9] at hX9
             have hfin : Q (some (zI 1)) sp5 me9 := hQ sp5 me9 A hXX (hR5.x hX9 hF9) hIm h6 h7)
          refine z_L21I (pc' := 470) dL_acts_468 rfl ?_
          refine z_if_eq (tgt := 478) (pc' := 473) dL_acts_470 (by decide) rfl (fun h470 => ?_) (fun h470 => ?_)
          · refine z_bipush (pc' := 480) dL_acts_478 rfl (by decide) ?_
            refine z_L20I (pc' := 482) dL_acts_480 rfl ?_
            refine z_isub (pc' := 483) dL_acts_482 rfl (by unfold zin; omega) ?_
            refine z_icmp_ne (tgt := 490) (pc' := 486) dL_acts_483 (by decide) rfl (fun h483 => absurd h483 (by omega)) (fun h483 => ?_)
            refine z_iconst (pc' := 487) dL_acts_486 rfl (by unfold zin; decide) ?_
            refine z_goto (tgt := 491) dL_acts_487 (by decide) ?_
            refine z_zreturn rfl rfl dL_acts_491 (by omega) ?_
            exact hfin
          · refine z_L20I (pc' := 475) dL_acts_473 rfl ?_
            refine z_goto (tgt := 483) dL_acts_475 (by decide) ?_
            refine z_icmp_ne (tgt := 490) (pc' := 486) dL_acts_483 (by decide) rfl (fun h483 => absurd h483 (by omega)) (fun h483 => ?_)
            refine z_iconst (pc' := 487) dL_acts_486 rfl (by unfold zin; decide) ?_
            refine z_goto (tgt := 491) dL_acts_487 (by decide) ?_
            refine z_zreturn rfl rfl dL_acts_491 (by omega) ?_
            exact hfin
    refine z_if_ne (tgt := 364) (pc' := 360) dL_acts_357 (by decide) rfl (fun h357 => ?_) (fun h357 => ?_)
    · refine z_iconst (pc' := 365) dL_acts_364 rfl (by unfold zin; decide) ?_
      exact key365 _ (by omega)
    · refine z_iconst (pc' := 361) dL_acts_360 rfl (by unfold zin; decide) ?_
      refine z_goto (tgt := 365) dL_acts_361 (by decide) ?_
      exact key365 _ (by omega)
  refine z_iconst (pc' := 320) dL_acts_319 rfl (by unfold zin; decide) ?_
  refine z_L9I (pc' := 322) dL_acts_320 rfl ?_
  refine z_iconst (pc' := 323) dL_acts_322 rfl (by unfold zin; decide) ?_
  refine z_ishra (pc' := 324) dL_acts_323 rfl ?_
  refine z_L9I (pc' := 326) dL_acts_324 rfl ?_
  refine z_bipush (pc' := 328) dL_acts_326 rfl (by decide) ?_
  refine z_ishra (pc' := 329) dL_acts_328 rfl ?_
  refine z_iconst (pc' := 330) dL_acts_329 rfl (by unfold zin; decide) ?_
  refine z_S2v (pc' := 333) kL_low lL_113 dL_acts_330 rfl (by omega) (Nat.le_of_ble_eq_true rfl) ?_
  refine l_low (by decide) (zKv_i ?_)
  refine z_if_ne (tgt := 341) (pc' := 336) dL_acts_333 (by decide) rfl (fun h333 => ?_) (fun h333 => ?_)
  · refine z_iconst (pc' := 342) dL_acts_341 rfl (by unfold zin; decide) ?_
    refine z_S2v (pc' := 345) kL_low lL_113 dL_acts_342 rfl (by omega) (Nat.le_of_ble_eq_true rfl) ?_
    refine l_low (by decide) (zKv_i ?_)
    have bn9 := gLow_bd (zsar z 4) (show (0 : Int) < 9 by decide)
    have bn2 := gLow_bd (zsar z 4) (show (0 : Int) < 2 by decide)
    exact key345 _ (by omega) (by omega)
    skip
  · refine z_bipush (pc' := 338) dL_acts_336 rfl (by decide) ?_
    refine z_goto (tgt := 342) dL_acts_338 (by decide) ?_
    refine z_S2v (pc' := 345) kL_low lL_113 dL_acts_342 rfl (by omega) (Nat.le_of_ble_eq_true rfl) ?_
    refine l_low (by decide) (zKv_i ?_)
    have bn9 := gLow_bd (zsar z 4) (show (0 : Int) < 9 by decide)
    have bn2 := gLow_bd (zsar z 4) (show (0 : Int) < 2 by decide)
    exact key345 _ (by omega) (by omega)
    skip
set_option maxRecDepth 100000 in
set_option maxHeartbeats 1000000 in
theorem l_acts_b {d : Nat} {sp : zSP} {me : zMe} {Q : zQ} {A : zAb} {B z kind : Int} {N : Nat} (hd : 24 ≤ d) (hN : sp.2.2 = N) (hW : gLW sp) (hI : zIA B A) (hB : B ≤ 900000000) (hB0 : 0 ≤ B) (hR : gRR me A) (h6 : qS A 6 = 0) (h7 : qS A 7 = 0) (k8 : 8 ≤ kind) (hQ : ∀ sp' me' A', zXt 4 sp sp' → gRR me' A' → zIA (B + 100000) A' → qS A' 6 = 0 → qS A' 7 = 0 → Q (some (zI 1)) sp' me') : zCall mL_acts d 4 40 [zR 1, zR 167, zR 168, zR 169, zR 170, zR 171, zR 172, zR 173, zI kind, zI z] sp me Q := by
  refine z_met kL_acts (by simp) (by simp) ?_
  show zW mL_acts d 4 40 Q 0 [zR 1, zR 167, zR 168, zR 169, zR 170, zR 171, zR 172, zR 173, zI kind, zI z, zU, zU, zU, zU, zU, zU, zU, zU, zU, zU, zU, zU] [] sp me
  refine z_L8I (pc' := 2) dL_acts_0 rfl ?_
  refine z_tswOut (tgt := 298) dL_acts_2 (Or.inr (by omega)) (by decide) ?_
  exact l_acts_b0 hd hN hW hI hB hB0 hR h6 h7 hQ
end ZL12

