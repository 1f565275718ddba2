section ZLL9
set_option maxRecDepth 100000 in
set_option maxHeartbeats 8000000 in
theorem l_would9 {d : Nat} {sp : zSP} {me : zMe} {Q : zQ} {A : zAb} {B k b : Int} {N : Nat} (hd : 22 ≤ d) (hN : sp.2.2 = N) (hW : gLW sp) (hI : zIA B A) (hR : gRR me A) (k0 : 0 ≤ k) (k1 : k < 8) (hQ : ∀ sp' me', zXt 8 sp sp' → gRR me' A → Q (some (zI 1)) sp' me') : zCall mL_would d 8 80 [zR 1, zR 167, zR 168, zR 169, zR 170, zR 171, zR 172, zI k, zI b] sp me Q := by
  refine z_met kL_would (by simp) (by simp) ?_
  show zW mL_would d 8 80 Q 0 [zR 1, zR 167, zR 168, zR 169, zR 170, zR 171, zR 172, zI k, zI b, zU, zU, zU, zU, zU, zU, zU] [] sp me
  have hWN : 175 ≤ N := by rw [← hN]; exact hW.2.1
  have hv : zfv (qS A) (qC A) := hI.1.2.2.2.1
  have hlm : zlim (qS A) (qC A) := hI.1.2.2.2.2.1
  have hE := zgR_E hI k0 k1
  have hgA : zgR (qW A) (qF A) := hI.1.1
  have hok : zHok (qH A) := hI.1.2.1
  have hzol := zol_pos hE 10 (by omega)
  have hlk := hlm k k0 k1
  refine z_bipush (pc' := 2) dL_would_0 rfl (by decide) ?_
  refine z_nar (pc' := 4) (r1' := 7) (r2' := 70) (a := N + 1) dL_would_2 rfl (by decide) (by decide) (by omega) (by omega) (by omega) (fun sp1 me1 hX1 hn1 hka1 hm1 => ?_)
  refine z_S9R (pc' := 6) rfl dL_would_4 rfl ?_
  refine z_bipush (pc' := 8) dL_would_6 rfl (by decide) ?_
  refine z_nar (pc' := 10) (r1' := 6) (r2' := 60) (a := N + 2) dL_would_8 rfl (by decide) (by decide) (by omega) (by omega) (by omega) (fun sp2 me2 hX2 hn2 hka2 hm2 => ?_)
  refine z_S10R (pc' := 12) rfl dL_would_10 rfl ?_
  refine z_bipush (pc' := 14) dL_would_12 rfl (by decide) ?_
  refine z_nar (pc' := 16) (r1' := 5) (r2' := 50) (a := N + 3) dL_would_14 rfl (by decide) (by decide) (by omega) (by omega) (by omega) (fun sp3 me3 hX3 hn3 hka3 hm3 => ?_)
  refine z_S11R (pc' := 18) rfl dL_would_16 rfl ?_
  refine z_bipush (pc' := 20) dL_would_18 rfl (by decide) ?_
  refine z_nar (pc' := 22) (r1' := 4) (r2' := 40) (a := N + 4) dL_would_20 rfl (by decide) (by decide) (by omega) (by omega) (by omega) (fun sp4 me4 hX4 hn4 hka4 hm4 => ?_)
  have hX := ((hX1.tr hX2).tr hX3).tr hX4
  have hW4 := hW.mono hX
  have g1 : sp4.1 (N + 1) = (1, 10) := ((hX2.tr hX3).tr hX4).s (by omega) hka1
  have g2 : sp4.1 (N + 2) = (1, 10) := (hX3.tr hX4).s (by omega) hka2
  have g3 : sp4.1 (N + 3) = (1, 10) := hX4.s (by omega) hka3
  have g4 : sp4.1 (N + 4) = (1, 10) := hka4
  have hm4a : ∀ a, a ≤ N → me4 a = me a := fun a ha => by rw [hm4, hm3, hm2, hm1, zset_ne _ _ _ (by omega), zset_ne _ _ _ (by omega), zset_ne _ _ _ (by omega), zset_ne _ _ _ (by omega)]
  have hR4 : gRR me4 A := hR.cg (fun a _ h2 => hm4a a (by omega))
  obtain ⟨wx, wsz, wp, wf, wh, wm, wo, wc, wt, we, wg⟩ := hW4
  refine z_S12R (pc' := 24) rfl dL_would_22 rfl ?_
  refine z_L1R (pc' := 25) dL_would_24 rfl ?_
  refine z_L9R (pc' := 27) dL_would_25 rfl ?_
  refine z_S20 (pc' := 30) kL_copy lL_27 dL_would_27 rfl (by omega) (Nat.le_of_ble_eq_true rfl) ?_
  refine l_copy wp g1 (by omega) (fun me5 hA5 hF5 => zK0_i ?_)
  have hR5 : gRR me5 A := hR4.cg (fun a _ h2 => hF5 a (by omega))
  refine z_L2R (pc' := 31) dL_would_30 rfl ?_
  refine z_L10R (pc' := 33) dL_would_31 rfl ?_
  refine z_S20 (pc' := 36) kL_copy lL_27 dL_would_33 rfl (by omega) (Nat.le_of_ble_eq_true rfl) ?_
  refine l_copy wf g2 (by omega) (fun me6 hA6 hF6 => zK0_i ?_)
  have hR6 : gRR me6 A := hR5.cg (fun a _ h2 => hF6 a (by omega))
  have hD6 : gDn me6 (N + 1) (N + 2) (qW A, qF A) := fun i i0 i1 => by
    rw [hF6 _ (by omega), hA5 i i0 i1, hA6 i i0 i1, hF5 168 (by omega)]
    exact hR4.2.1 i i0 i1
  refine z_L9R (pc' := 38) dL_would_36 rfl ?_
  refine z_L10R (pc' := 40) dL_would_38 rfl ?_
  refine z_L3R (pc' := 41) dL_would_40 rfl ?_
  refine z_L4R (pc' := 43) dL_would_41 rfl ?_
  refine z_L5R (pc' := 45) dL_would_43 rfl ?_
  refine z_L6R (pc' := 47) dL_would_45 rfl ?_
  refine z_L7I (pc' := 49) dL_would_47 rfl ?_
  refine z_iconst (pc' := 50) dL_would_49 rfl (by unfold zin; decide) ?_
  refine z_L8I (pc' := 52) dL_would_50 rfl ?_
  refine z_T9v (pc' := 55) (mc := 2) (ms := 20) (r1' := 2) (r2' := 20) kL_dances lL_95 dL_would_52 rfl (by omega) (Nat.le_of_ble_eq_true rfl) (by omega) (by omega) ?_
  refine l_dances (by omega) hn4 g1 g2 wh wm wo wc (by omega) (by omega) (by omega) (by omega) (by omega) (by omega) (by omega) (by omega) (by omega) (by omega) (by omega) (by omega) (by omega) (by omega) (by omega) hv hlm hR6.2.2.2.1 hR6.2.2.2.2.1 (R := (qW A, qF A)) hgA hok hD6 hR6.2.2.1 k0 k1 (by omega) (by omega) (fun sp5 me7 made hX5 hF7 hmade => zKv_i ?_)
  have hR7 : gRR me7 A := hR6.cg (fun a _ h2 => hF7 a (by omega) (by omega) (by omega))
  have hW5 := (hW.mono hX).mono hX5
  have e1 : sp5.1 (N + 1) = (1, 10) := hX5.s (by omega) g1
  have e2 : sp5.1 (N + 2) = (1, 10) := hX5.s (by omega) g2
  have e3 : sp5.1 (N + 3) = (1, 10) := hX5.s (by omega) g3
  have e4 : sp5.1 (N + 4) = (1, 10) := hX5.s (by omega) g4
  have hn5 : sp5.2.2 = N + 6 := by rw [hX5.1, hn4]
  obtain ⟨vx, vsz, vp, vf, vh, vm, vo, vc, vt, ve, vg⟩ := hW5
  have hLL : zrep (1 : Int).toNat (zord (zsteps (qS A) (qC A) k) b) = zLL A k 1 b := rfl
  rw [hLL] at hmade
  have hLn : ((zLL A k 1 b).length : Int) = ((zsteps (qS A) (qC A) k).length : Int) := by
    have h1 := zrep_len (1 : Int).toNat (zord (zsteps (qS A) (qC A) k) b)
    rw [zord_len, hLL, show (1 : Int).toNat = 1 from rfl, Nat.one_mul] at h1
    rw [h1]
  refine z_S13I (pc' := 57) rfl dL_would_55 rfl ?_
  refine z_L11R (pc' := 59) dL_would_57 rfl ?_
  refine z_L12R (pc' := 61) dL_would_59 rfl ?_
  refine z_L4R (pc' := 63) dL_would_61 rfl ?_
  refine z_L5R (pc' := 65) dL_would_63 rfl ?_
  refine z_L6R (pc' := 67) dL_would_65 rfl ?_
  refine z_L7I (pc' := 69) dL_would_67 rfl ?_
  refine z_S60 (pc' := 72) kL_effect lL_68 dL_would_69 rfl (by omega) (Nat.le_of_ble_eq_true rfl) ?_
  refine l_effect (by omega) e3 e4 vm vo vc (by omega) (by omega) (by omega) (by omega) (by omega) (by omega) (by omega) hv hlm hR7.2.2.2.1 hR7.2.2.2.2.1 k0 k1 (fun me8 hD8 hF8 => zK0_i ?_)
  have hR8 : gRR me8 A := hR7.cg (fun a _ h2 => hF8 a (by omega) (by omega))
  refine z_L1R (pc' := 73) dL_would_72 rfl ?_
  refine z_L9R (pc' := 75) dL_would_73 rfl ?_
  refine z_S20 (pc' := 78) kL_copy lL_27 dL_would_75 rfl (by omega) (Nat.le_of_ble_eq_true rfl) ?_
  refine l_copy vp e1 (by omega) (fun me9 hA9 hF9 => zK0_i ?_)
  have hR9 : gRR me9 A := hR8.cg (fun a _ h2 => hF9 a (by omega))
  refine z_L2R (pc' := 79) dL_would_78 rfl ?_
  refine z_L10R (pc' := 81) dL_would_79 rfl ?_
  refine z_S20 (pc' := 84) kL_copy lL_27 dL_would_81 rfl (by omega) (Nat.le_of_ble_eq_true rfl) ?_
  refine l_copy vf e2 (by omega) (fun me10 hA10 hF10 => zK0_i ?_)
  have hR10 : gRR me10 A := hR9.cg (fun a _ h2 => hF10 a (by omega))
  have hD10 : gDn me10 (N + 1) (N + 2) (qW A, qF A) := fun i i0 i1 => by
    rw [hF10 _ (by omega), hA9 i i0 i1, hA10 i i0 i1, hF9 168 (by omega)]
    exact hR8.2.1 i i0 i1
  have hG10 : gDn me10 (N + 3) (N + 4) (zE A k) := (hD8 : gDn me8 (N + 3) (N + 4) (zE A k)).fr (by rw [hF10 _ (by omega), hF9 _ (by omega)]) (by rw [hF10 _ (by omega), hF9 _ (by omega)])
  refine z_L11R (pc' := 86) dL_would_84 rfl ?_
  refine z_L12R (pc' := 88) dL_would_86 rfl ?_
  refine z_T2v (pc' := 91) (mc := 2) (ms := 20) (r1' := 0) (r2' := 0) kL_order lL_75 dL_would_88 rfl (by omega) (Nat.le_of_ble_eq_true rfl) (by omega) (by omega) ?_
  refine l_order (by omega) hn5 e3 e4 (by omega) (by omega) hE hG10 (fun sp6 me11 hX6 hF11 => zKv_i ?_)
  have hR11 : gRR me11 A := hR10.cg (fun a _ h2 => hF11 a (by omega))
  have hD11 : gDn me11 (N + 1) (N + 2) (zrt (zE A k) (qW A, qF A) 0) := hD10.fr (hF11 _ (by omega)) (hF11 _ (by omega))
  have hG11 : gDn me11 (N + 3) (N + 4) (zE A k) := hG10.fr (hF11 _ (by omega)) (hF11 _ (by omega))
  have hW6 := ((hW.mono hX).mono hX5).mono hX6
  have hXX := (hX.tr hX5).tr hX6
  have f1 : sp6.1 (N + 1) = (1, 10) := hX6.s (by omega) e1
  have f2 : sp6.1 (N + 2) = (1, 10) := hX6.s (by omega) e2
  have f3 : sp6.1 (N + 3) = (1, 10) := hX6.s (by omega) e3
  have f4 : sp6.1 (N + 4) = (1, 10) := hX6.s (by omega) e4
  obtain ⟨gx, gsz, gp, gf, gh, gm, go, gc, gt, ge, gg⟩ := hW6
  have hRt := fun j => zrt_g hE (R := (qW A, qF A)) hgA j
  refine z_S14I (pc' := 93) rfl dL_would_91 rfl ?_
  refine z_iconst (pc' := 94) dL_would_93 rfl (by unfold zin; decide) ?_
  refine z_S15I (pc' := 96) rfl dL_would_94 rfl ?_
  suffices H : ∀ (n : Nat) (j : Nat) (me12 : zMe), j ≤ zol (zE A k) 10 → zol (zE A k) 10 - j < n → gDn me12 (N + 1) (N + 2) (zrt (zE A k) (qW A, qF A) j) → gDn me12 (N + 3) (N + 4) (zE A k) → (∀ i, i < j → ¬ zhb (zrt (zE A k) (qW A, qF A) i) = true) → gRR me12 A → zW mL_would d 0 0 Q 96 [zR 1, zR 167, zR 168, zR 169, zR 170, zR 171, zR 172, zI k, zI b, zR (N + 1), zR (N + 2), zR (N + 3), zR (N + 4), zI made, zI ((zol (zE A k) 10 : Nat) : Int), zI (j : Int)] [] sp6 me12 by
    exact H (zol (zE A k) 10 + 1) 0 me11 (by omega) (by omega) hD11 hG11 (fun i hi => absurd hi (Nat.not_lt_zero i)) hR11
  intro n
  induction n with
  | zero => intro j me12 h0 h1; omega
  | succ n ih =>
  intro j me12 hj0 hj1 hD12 hG12 hno hR12
  have hhb := gHome_hb (hRt j) hD12
  refine z_L15I (pc' := 98) dL_would_96 rfl ?_
  refine z_L14I (pc' := 100) dL_would_98 rfl ?_
  refine z_icmp_ge (tgt := 133) (pc' := 103) dL_would_100 (by decide) rfl (fun h100 => ?_) (fun h100 => ?_)
  · have hend : (zhb (zrt (zE A k) (qW A, qF A) j) = true ∧ zoHomeIn A k = (j : Int)) ∨ (¬ zhb (zrt (zE A k) (qW A, qF A) j) = true ∧ zoHomeIn A k = -5) := by
      have eh : zoHomeIn A k = zth (zE A k) 120 (qW A, qF A) 0 := zif_pos ⟨k0, k1⟩
      by_cases z : zhb (zrt (zE A k) (qW A, qF A) j) = true
      · refine Or.inl ⟨z, ?_⟩
        have hjz : j < zol (zE A k) 10 := by
          by_cases e : j = zol (zE A k) 10
          · exfalso
            rw [e] at z
            have h9 := (zrt_per hE (R := (qW A, qF A)) hgA 0).1 z
            exact hno 0 (by omega) h9
          · omega
        rw [eh, zth_eq 120 _ 0 j (by omega) z (fun i hi => hno i hi)]
        omega
      · refine Or.inr ⟨z, ?_⟩
        have hjz : j = zol (zE A k) 10 := by
          first
          | omega
          | (exfalso; have := hhb.2 z; omega)
        rw [eh]
        exact zth_no 120 _ 0 (fun i _ => zrt_never hE (R := (qW A, qF A)) hgA (fun i hi => hno i (by omega)) i)
    refine z_L0R (pc' := 134) dL_would_133 rfl ?_
    refine z_L7I (pc' := 136) dL_would_134 rfl ?_
    refine z_L8I (pc' := 138) dL_would_136 rfl ?_
    refine z_V2v (pc' := 141) (ci := 8) kX8_blockedAt lL_99 dL_would_138 rfl (by omega) (Nat.le_of_ble_eq_true rfl) (by decide) rfl gx.s ?_
    refine x_blockedAt (by omega) gx hR12.1 hI (fun me14 hX14 hF14 => zKv_i ?_)
    have hR14 := hR12.x hX14 hF14
    have hD14 : gDn me14 (N + 1) (N + 2) (zrt (zE A k) (qW A, qF A) j) := hD12.fr (hF14 _ (Or.inr (by omega))) (hF14 _ (Or.inr (by omega)))
    have hbl : zoBlocked A k b = ztry (qH A) (zLL A k 1 b) (qW A, qF A) 0 := zif_pos ⟨k0, k1⟩
    have hc14 := hR14.2.2.2.2.1 k k0 k1
    rw [hbl]
    refine z_L13I (pc' := 143) dL_would_141 rfl ?_
    refine z_L6R (pc' := 145) dL_would_143 rfl ?_
    refine z_bipush (pc' := 147) dL_would_145 rfl (by decide) ?_
    refine z_L7I (pc' := 149) dL_would_147 rfl ?_
    refine z_iadd (pc' := 150) dL_would_149 rfl (by unfold zin; omega) ?_
    refine z_ild (pc' := 151) dL_would_150 rfl gc (by omega) (by omega) ?_
    refine z_icmp_ge (tgt := 159) (pc' := 154) dL_would_151 (by decide) rfl (fun h151 => ?_) (fun h151 => ?_)
    · refine z_bipush (pc' := 161) dL_would_159 rfl (by decide) ?_
      refine z_icmp_ne (tgt := 197) (pc' := 164) dL_would_161 (by decide) rfl (fun h161 => absurd h161 (by omega)) (fun h161 => ?_)
      refine z_L0R (pc' := 165) dL_would_164 rfl ?_
      refine z_L7I (pc' := 167) dL_would_165 rfl ?_
      refine z_V1v (pc' := 170) (ci := 8) kX8_homeIn lL_103 dL_would_167 rfl (by omega) (Nat.le_of_ble_eq_true rfl) (by decide) rfl gx.s ?_
      refine x_homeIn (by omega) gx hR14.1 hI (fun me15 hX15 hF15 => zKv_i ?_)
      have hR15 := hR14.x hX15 hF15
      have hD15 : gDn me15 (N + 1) (N + 2) (zrt (zE A k) (qW A, qF A) j) := hD14.fr (hF15 _ (Or.inr (by omega))) (hF15 _ (Or.inr (by omega)))
      have hhb2 := gHome_hb (hRt j) hD15
      refine z_L9R (pc' := 172) dL_would_170 rfl ?_
      refine z_L10R (pc' := 174) dL_would_172 rfl ?_
      refine z_iconst (pc' := 175) dL_would_174 rfl (by unfold zin; decide) ?_
      refine z_S3v (pc' := 178) kL_home lL_39 dL_would_175 rfl (by omega) (Nat.le_of_ble_eq_true rfl) ?_
      refine l_home f1 f2 (zKv_i ?_)
      refine z_bipush (pc' := 180) dL_would_178 rfl (by decide) ?_
      refine z_icmp_ne (tgt := 188) (pc' := 183) dL_would_180 (by decide) rfl (fun h180 => ?_) (fun h180 => ?_)
      · refine z_bipush (pc' := 190) dL_would_188 rfl (by decide) ?_
        have hfin : (gHome (me15 (N + 1)) (me15 (N + 2)) 1 = 10 → zoHomeIn A k = (j : Int)) ∧ (gHome (me15 (N + 1)) (me15 (N + 2)) 1 ≠ 10 → zoHomeIn A k = -5) := by
          constructor
          · intro z
            rcases hend with ⟨h1, h2⟩ | ⟨h1, h2⟩
            · exact h2
            · have := hhb2.2 h1; omega
          · intro z
            rcases hend with ⟨h1, h2⟩ | ⟨h1, h2⟩
            · exact absurd (hhb2.1 h1) z
            · exact h2
        refine z_icmp_ne (tgt := 197) (pc' := 193) dL_would_190 (by decide) rfl (fun h190 => absurd h190 (by omega)) (fun h190 => ?_)
        refine z_iconst (pc' := 194) dL_would_193 rfl (by unfold zin; decide) ?_
        refine z_goto (tgt := 198) dL_would_194 (by decide) ?_
        refine z_zreturn rfl rfl dL_would_198 (by omega) ?_
        exact hQ sp6 me15 hXX hR15
      · refine z_L15I (pc' := 185) dL_would_183 rfl ?_
        refine z_goto (tgt := 190) dL_would_185 (by decide) ?_
        have hfin : (gHome (me15 (N + 1)) (me15 (N + 2)) 1 = 10 → zoHomeIn A k = (j : Int)) ∧ (gHome (me15 (N + 1)) (me15 (N + 2)) 1 ≠ 10 → zoHomeIn A k = -5) := by
          constructor
          · intro z
            rcases hend with ⟨h1, h2⟩ | ⟨h1, h2⟩
            · exact h2
            · have := hhb2.2 h1; omega
          · intro z
            rcases hend with ⟨h1, h2⟩ | ⟨h1, h2⟩
            · exact absurd (hhb2.1 h1) z
            · exact h2
        refine z_icmp_ne (tgt := 197) (pc' := 193) dL_would_190 (by decide) rfl (fun h190 => absurd h190 (by omega)) (fun h190 => ?_)
        refine z_iconst (pc' := 194) dL_would_193 rfl (by unfold zin; decide) ?_
        refine z_goto (tgt := 198) dL_would_194 (by decide) ?_
        refine z_zreturn rfl rfl dL_would_198 (by omega) ?_
        exact hQ sp6 me15 hXX hR15
    · refine z_L13I (pc' := 156) dL_would_154 rfl ?_
      refine z_goto (tgt := 161) dL_would_156 (by decide) ?_
      refine z_icmp_ne (tgt := 197) (pc' := 164) dL_would_161 (by decide) rfl (fun h161 => absurd h161 (by omega)) (fun h161 => ?_)
      refine z_L0R (pc' := 165) dL_would_164 rfl ?_
      refine z_L7I (pc' := 167) dL_would_165 rfl ?_
      refine z_V1v (pc' := 170) (ci := 8) kX8_homeIn lL_103 dL_would_167 rfl (by omega) (Nat.le_of_ble_eq_true rfl) (by decide) rfl gx.s ?_
      refine x_homeIn (by omega) gx hR14.1 hI (fun me15 hX15 hF15 => zKv_i ?_)
      have hR15 := hR14.x hX15 hF15
      have hD15 : gDn me15 (N + 1) (N + 2) (zrt (zE A k) (qW A, qF A) j) := hD14.fr (hF15 _ (Or.inr (by omega))) (hF15 _ (Or.inr (by omega)))
      have hhb2 := gHome_hb (hRt j) hD15
      refine z_L9R (pc' := 172) dL_would_170 rfl ?_
      refine z_L10R (pc' := 174) dL_would_172 rfl ?_
      refine z_iconst (pc' := 175) dL_would_174 rfl (by unfold zin; decide) ?_
      refine z_S3v (pc' := 178) kL_home lL_39 dL_would_175 rfl (by omega) (Nat.le_of_ble_eq_true rfl) ?_
      refine l_home f1 f2 (zKv_i ?_)
      refine z_bipush (pc' := 180) dL_would_178 rfl (by decide) ?_
      refine z_icmp_ne (tgt := 188) (pc' := 183) dL_would_180 (by decide) rfl (fun h180 => ?_) (fun h180 => ?_)
      · refine z_bipush (pc' := 190) dL_would_188 rfl (by decide) ?_
        have hfin : (gHome (me15 (N + 1)) (me15 (N + 2)) 1 = 10 → zoHomeIn A k = (j : Int)) ∧ (gHome (me15 (N + 1)) (me15 (N + 2)) 1 ≠ 10 → zoHomeIn A k = -5) := by
          constructor
          · intro z
            rcases hend with ⟨h1, h2⟩ | ⟨h1, h2⟩
            · exact h2
            · have := hhb2.2 h1; omega
          · intro z
            rcases hend with ⟨h1, h2⟩ | ⟨h1, h2⟩
            · exact absurd (hhb2.1 h1) z
            · exact h2
        refine z_icmp_ne (tgt := 197) (pc' := 193) dL_would_190 (by decide) rfl (fun h190 => absurd h190 (by omega)) (fun h190 => ?_)
        refine z_iconst (pc' := 194) dL_would_193 rfl (by unfold zin; decide) ?_
        refine z_goto (tgt := 198) dL_would_194 (by decide) ?_
        refine z_zreturn rfl rfl dL_would_198 (by omega) ?_
        exact hQ sp6 me15 hXX hR15
      · refine z_L15I (pc' := 185) dL_would_183 rfl ?_
        refine z_goto (tgt := 190) dL_would_185 (by decide) ?_
        have hfin : (gHome (me15 (N + 1)) (me15 (N + 2)) 1 = 10 → zoHomeIn A k = (j : Int)) ∧ (gHome (me15 (N + 1)) (me15 (N + 2)) 1 ≠ 10 → zoHomeIn A k = -5) := by
          constructor
          · intro z
            rcases hend with ⟨h1, h2⟩ | ⟨h1, h2⟩
            · exact h2
            · have := hhb2.2 h1; omega
          · intro z
            rcases hend with ⟨h1, h2⟩ | ⟨h1, h2⟩
            · exact absurd (hhb2.1 h1) z
            · exact h2
        refine z_icmp_ne (tgt := 197) (pc' := 193) dL_would_190 (by decide) rfl (fun h190 => absurd h190 (by omega)) (fun h190 => ?_)
        refine z_iconst (pc' := 194) dL_would_193 rfl (by unfold zin; decide) ?_
        refine z_goto (tgt := 198) dL_would_194 (by decide) ?_
        refine z_zreturn rfl rfl dL_would_198 (by omega) ?_
        exact hQ sp6 me15 hXX hR15
  · refine z_L9R (pc' := 105) dL_would_103 rfl ?_
    refine z_L10R (pc' := 107) dL_would_105 rfl ?_
    refine z_iconst (pc' := 108) dL_would_107 rfl (by unfold zin; decide) ?_
    refine z_S3v (pc' := 111) kL_home lL_39 dL_would_108 rfl (by omega) (Nat.le_of_ble_eq_true rfl) ?_
    refine l_home f1 f2 (zKv_i ?_)
    refine z_bipush (pc' := 113) dL_would_111 rfl (by decide) ?_
    refine z_icmp_ge (tgt := 133) (pc' := 116) dL_would_113 (by decide) rfl (fun h113 => ?_) (fun h113 => ?_)
    · have hend : (zhb (zrt (zE A k) (qW A, qF A) j) = true ∧ zoHomeIn A k = (j : Int)) ∨ (¬ zhb (zrt (zE A k) (qW A, qF A) j) = true ∧ zoHomeIn A k = -5) := by
        have eh : zoHomeIn A k = zth (zE A k) 120 (qW A, qF A) 0 := zif_pos ⟨k0, k1⟩
        by_cases z : zhb (zrt (zE A k) (qW A, qF A) j) = true
        · refine Or.inl ⟨z, ?_⟩
          have hjz : j < zol (zE A k) 10 := by
            by_cases e : j = zol (zE A k) 10
            · exfalso
              rw [e] at z
              have h9 := (zrt_per hE (R := (qW A, qF A)) hgA 0).1 z
              exact hno 0 (by omega) h9
            · omega
          rw [eh, zth_eq 120 _ 0 j (by omega) z (fun i hi => hno i hi)]
          omega
        · refine Or.inr ⟨z, ?_⟩
          have hjz : j = zol (zE A k) 10 := by
            first
            | omega
            | (exfalso; have := hhb.2 z; omega)
          rw [eh]
          exact zth_no 120 _ 0 (fun i _ => zrt_never hE (R := (qW A, qF A)) hgA (fun i hi => hno i (by omega)) i)
      refine z_L0R (pc' := 134) dL_would_133 rfl ?_
      refine z_L7I (pc' := 136) dL_would_134 rfl ?_
      refine z_L8I (pc' := 138) dL_would_136 rfl ?_
      refine z_V2v (pc' := 141) (ci := 8) kX8_blockedAt lL_99 dL_would_138 rfl (by omega) (Nat.le_of_ble_eq_true rfl) (by decide) rfl gx.s ?_
      refine x_blockedAt (by omega) gx hR12.1 hI (fun me14 hX14 hF14 => zKv_i ?_)
      have hR14 := hR12.x hX14 hF14
      have hD14 : gDn me14 (N + 1) (N + 2) (zrt (zE A k) (qW A, qF A) j) := hD12.fr (hF14 _ (Or.inr (by omega))) (hF14 _ (Or.inr (by omega)))
      have hbl : zoBlocked A k b = ztry (qH A) (zLL A k 1 b) (qW A, qF A) 0 := zif_pos ⟨k0, k1⟩
      have hc14 := hR14.2.2.2.2.1 k k0 k1
      rw [hbl]
      refine z_L13I (pc' := 143) dL_would_141 rfl ?_
      refine z_L6R (pc' := 145) dL_would_143 rfl ?_
      refine z_bipush (pc' := 147) dL_would_145 rfl (by decide) ?_
      refine z_L7I (pc' := 149) dL_would_147 rfl ?_
      refine z_iadd (pc' := 150) dL_would_149 rfl (by unfold zin; omega) ?_
      refine z_ild (pc' := 151) dL_would_150 rfl gc (by omega) (by omega) ?_
      refine z_icmp_ge (tgt := 159) (pc' := 154) dL_would_151 (by decide) rfl (fun h151 => ?_) (fun h151 => ?_)
      · refine z_bipush (pc' := 161) dL_would_159 rfl (by decide) ?_
        refine z_icmp_ne (tgt := 197) (pc' := 164) dL_would_161 (by decide) rfl (fun h161 => absurd h161 (by omega)) (fun h161 => ?_)
        refine z_L0R (pc' := 165) dL_would_164 rfl ?_
        refine z_L7I (pc' := 167) dL_would_165 rfl ?_
        refine z_V1v (pc' := 170) (ci := 8) kX8_homeIn lL_103 dL_would_167 rfl (by omega) (Nat.le_of_ble_eq_true rfl) (by decide) rfl gx.s ?_
        refine x_homeIn (by omega) gx hR14.1 hI (fun me15 hX15 hF15 => zKv_i ?_)
        have hR15 := hR14.x hX15 hF15
        have hD15 : gDn me15 (N + 1) (N + 2) (zrt (zE A k) (qW A, qF A) j) := hD14.fr (hF15 _ (Or.inr (by omega))) (hF15 _ (Or.inr (by omega)))
        have hhb2 := gHome_hb (hRt j) hD15
        refine z_L9R (pc' := 172) dL_would_170 rfl ?_
        refine z_L10R (pc' := 174) dL_would_172 rfl ?_
        refine z_iconst (pc' := 175) dL_would_174 rfl (by unfold zin; decide) ?_
        refine z_S3v (pc' := 178) kL_home lL_39 dL_would_175 rfl (by omega) (Nat.le_of_ble_eq_true rfl) ?_
        refine l_home f1 f2 (zKv_i ?_)
        refine z_bipush (pc' := 180) dL_would_178 rfl (by decide) ?_
        refine z_icmp_ne (tgt := 188) (pc' := 183) dL_would_180 (by decide) rfl (fun h180 => ?_) (fun h180 => ?_)
        · refine z_bipush (pc' := 190) dL_would_188 rfl (by decide) ?_
          have hfin : (gHome (me15 (N + 1)) (me15 (N + 2)) 1 = 10 → zoHomeIn A k = (j : Int)) ∧ (gHome (me15 (N + 1)) (me15 (N + 2)) 1 ≠ 10 → zoHomeIn A k = -5) := by
            constructor
            · intro z
              rcases hend with ⟨h1, h2⟩ | ⟨h1, h2⟩
              · exact h2
              · have := hhb2.2 h1; omega
            · intro z
              rcases hend with ⟨h1, h2⟩ | ⟨h1, h2⟩
              · exact absurd (hhb2.1 h1) z
              · exact h2
          refine z_icmp_ne (tgt := 197) (pc' := 193) dL_would_190 (by decide) rfl (fun h190 => absurd h190 (by omega)) (fun h190 => ?_)
          refine z_iconst (pc' := 194) dL_would_193 rfl (by unfold zin; decide) ?_
          refine z_goto (tgt := 198) dL_would_194 (by decide) ?_
          refine z_zreturn rfl rfl dL_would_198 (by omega) ?_
          exact hQ sp6 me15 hXX hR15
        · refine z_L15I (pc' := 185) dL_would_183 rfl ?_
          refine z_goto (tgt := 190) dL_would_185 (by decide) ?_
          have hfin : (gHome (me15 (N + 1)) (me15 (N + 2)) 1 = 10 → zoHomeIn A k = (j : Int)) ∧ (gHome (me15 (N + 1)) (me15 (N + 2)) 1 ≠ 10 → zoHomeIn A k = -5) := by
            constructor
            · intro z
              rcases hend with ⟨h1, h2⟩ | ⟨h1, h2⟩
              · exact h2
              · have := hhb2.2 h1; omega
            · intro z
              rcases hend with ⟨h1, h2⟩ | ⟨h1, h2⟩
              · exact absurd (hhb2.1 h1) z
              · exact h2
          refine z_icmp_ne (tgt := 197) (pc' := 193) dL_would_190 (by decide) rfl (fun h190 => absurd h190 (by omega)) (fun h190 => ?_)
          refine z_iconst (pc' := 194) dL_would_193 rfl (by unfold zin; decide) ?_
          refine z_goto (tgt := 198) dL_would_194 (by decide) ?_
          refine z_zreturn rfl rfl dL_would_198 (by omega) ?_
          exact hQ sp6 me15 hXX hR15
      · refine z_L13I (pc' := 156) dL_would_154 rfl ?_
        refine z_goto (tgt := 161) dL_would_156 (by decide) ?_
        refine z_icmp_ne (tgt := 197) (pc' := 164) dL_would_161 (by decide) rfl (fun h161 => absurd h161 (by omega)) (fun h161 => ?_)
        refine z_L0R (pc' := 165) dL_would_164 rfl ?_
        refine z_L7I (pc' := 167) dL_would_165 rfl ?_
        refine z_V1v (pc' := 170) (ci := 8) kX8_homeIn lL_103 dL_would_167 rfl (by omega) (Nat.le_of_ble_eq_true rfl) (by decide) rfl gx.s ?_
        refine x_homeIn (by omega) gx hR14.1 hI (fun me15 hX15 hF15 => zKv_i ?_)
        have hR15 := hR14.x hX15 hF15
        have hD15 : gDn me15 (N + 1) (N + 2) (zrt (zE A k) (qW A, qF A) j) := hD14.fr (hF15 _ (Or.inr (by omega))) (hF15 _ (Or.inr (by omega)))
        have hhb2 := gHome_hb (hRt j) hD15
        refine z_L9R (pc' := 172) dL_would_170 rfl ?_
        refine z_L10R (pc' := 174) dL_would_172 rfl ?_
        refine z_iconst (pc' := 175) dL_would_174 rfl (by unfold zin; decide) ?_
        refine z_S3v (pc' := 178) kL_home lL_39 dL_would_175 rfl (by omega) (Nat.le_of_ble_eq_true rfl) ?_
        refine l_home f1 f2 (zKv_i ?_)
        refine z_bipush (pc' := 180) dL_would_178 rfl (by decide) ?_
        refine z_icmp_ne (tgt := 188) (pc' := 183) dL_would_180 (by decide) rfl (fun h180 => ?_) (fun h180 => ?_)
        · refine z_bipush (pc' := 190) dL_would_188 rfl (by decide) ?_
          have hfin : (gHome (me15 (N + 1)) (me15 (N + 2)) 1 = 10 → zoHomeIn A k = (j : Int)) ∧ (gHome (me15 (N + 1)) (me15 (N + 2)) 1 ≠ 10 → zoHomeIn A k = -5) := by
            constructor
            · intro z
              rcases hend with ⟨h1, h2⟩ | ⟨h1, h2⟩
              · exact h2
              · have := hhb2.2 h1; omega
            · intro z
              rcases hend with ⟨h1, h2⟩ | ⟨h1, h2⟩
              · exact absurd (hhb2.1 h1) z
              · exact h2
          refine z_icmp_ne (tgt := 197) (pc' := 193) dL_would_190 (by decide) rfl (fun h190 => absurd h190 (by omega)) (fun h190 => ?_)
          refine z_iconst (pc' := 194) dL_would_193 rfl (by unfold zin; decide) ?_
          refine z_goto (tgt := 198) dL_would_194 (by decide) ?_
          refine z_zreturn rfl rfl dL_would_198 (by omega) ?_
          exact hQ sp6 me15 hXX hR15
        · refine z_L15I (pc' := 185) dL_would_183 rfl ?_
          refine z_goto (tgt := 190) dL_would_185 (by decide) ?_
          have hfin : (gHome (me15 (N + 1)) (me15 (N + 2)) 1 = 10 → zoHomeIn A k = (j : Int)) ∧ (gHome (me15 (N + 1)) (me15 (N + 2)) 1 ≠ 10 → zoHomeIn A k = -5) := by
            constructor
            · intro z
              rcases hend with ⟨h1, h2⟩ | ⟨h1, h2⟩
              · exact h2
              · have := hhb2.2 h1; omega
            · intro z
              rcases hend with ⟨h1, h2⟩ | ⟨h1, h2⟩
              · exact absurd (hhb2.1 h1) z
              · exact h2
          refine z_icmp_ne (tgt := 197) (pc' := 193) dL_would_190 (by decide) rfl (fun h190 => absurd h190 (by omega)) (fun h190 => ?_)
          refine z_iconst (pc' := 194) dL_would_193 rfl (by unfold zin; decide) ?_
          refine z_goto (tgt := 198) dL_would_194 (by decide) ?_
          refine z_zreturn rfl rfl dL_would_198 (by omega) ?_
          exact hQ sp6 me15 hXX hR15
    · refine z_L9R (pc' := 118) dL_would_116 rfl ?_
      refine z_L10R (pc' := 120) dL_would_118 rfl ?_
      refine z_L11R (pc' := 122) dL_would_120 rfl ?_
      refine z_L12R (pc' := 124) dL_would_122 rfl ?_
      refine z_S40 (pc' := 127) kL_does lL_43 dL_would_124 rfl (by omega) (Nat.le_of_ble_eq_true rfl) ?_
      refine l_does f1 f2 f3 f4 (by omega) (by omega) (by omega) (by omega) (by omega) (hRt j) hE hD12 hG12 (fun me13 hD13 hF13 => zK0_i ?_)
      have hnj : ¬ zhb (zrt (zE A k) (qW A, qF A) j) = true := fun z => by have := hhb.1 z; omega
      refine z_inc15 (pc' := 130) rfl dL_would_127 rfl (by unfold zin; omega) ?_
      refine z_goto (tgt := 96) dL_would_130 (by decide) ?_
      refine ih (j + 1) me13 (by omega) (by omega) hD13 (hG12.fr (hF13 _ (by omega) (by omega)) (hF13 _ (by omega) (by omega))) (fun i hi => ?_) (hR12.cg (fun a _ h2 => hF13 a (by omega) (by omega)))
      by_cases e : i = j
      · subst e; exact hnj
      · exact hno i (by omega)
end ZLL9

