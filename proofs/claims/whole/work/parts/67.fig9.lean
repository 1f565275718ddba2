section ZMOY
set_option maxRecDepth 100000 in
set_option maxHeartbeats 1000000 in
theorem m_ofFigure {d : Nat} {sp : zSP} {me : zMe} {Q : zQ} {y F : Nat} {A : zAb} {B q : Int} (hd : 10 ≤ d) (hy : zMod sp y) (hX : zMX me y A) (hI : zIA B A) (hk1 : (F : Int) < 8) (hq0 : 0 ≤ q) (hq7 : q ≤ 7) (hQ : ∀ me', zMX me' y A → zMF y me me' → Q (some (zI (zoFigure A (F : Int) q))) sp me') : zCall mX9_ofFigure d 0 0 [zR y, zI (F : Int), zI q] sp me Q := by
  refine z_met kX9_ofFigure (by simp) (by simp) ?_
  show zW mX9_ofFigure d 0 0 Q 0 [zR y, zI (F : Int), zI q] [] sp me
  have hIS := hI.1
  have hgA : zgR (qW A) (qF A) := hIS.1
  have hokA : zHok (qH A) := hIS.2.1
  have hpnA : qP A = zpn (qH A) := hIS.2.2.1
  have hvA : zfv (qS A) (qC A) := hIS.2.2.2.1
  have hlA : zlim (qS A) (qC A) := hIS.2.2.2.2.1
  have hRw : ∀ p, 0 ≤ p → p < 10 → me (y + 1) p = qW A p := hX.1.1
  have hRf : ∀ i, 0 ≤ i → i < 10 → me (y + 1) (10 + i) = qF A (zpl (qW A) i) := fun i a b => zMR_f hI.1 hX.1 a b
  have hRh : ∀ i, 0 ≤ i → i < 10 → me (y + 1) (20 + i) = qH A i := hX.1.2.2.1
  have hRs : ∀ k, 0 ≤ k → k < 8 → me (y + 1) (30 + 31 * k) = qS A k := fun k a b => (hX.1.2.2.2.1 k a b).1
  have hRc : ∀ k, 0 ≤ k → k < 8 → ∀ m, 0 ≤ m → m < qS A k → ∀ q, 0 ≤ q → q < 3 → me (y + 1) (30 + 31 * k + 1 + 3 * m + q) = zdig (qC A (k * 10 + m)) q := fun k a b => (hX.1.2.2.2.1 k a b).2
  have hk0 : (0 : Int) ≤ (F : Int) := by omega
  have hgE := zgR_E hI hk0 hk1
  refine z_L0R (pc' := 1) dX9_ofFigure_0 rfl ?_
  refine z_V00 (pc' := 4) (ci := 9) kX9_followAll lX9_188 dX9_ofFigure_1 rfl (by omega) (Nat.le_of_ble_eq_true rfl) (by decide) rfl hy.s ?_
  refine m_followAll (by omega) hy hvA hlA hRs hRc (fun me1 hU1 hG1 hf1 => zK0_i ?_)
  have hq := zMQ_f hf1
  have hQ1 := hQ me1 (hq.mx hX) hq.fr
  unfold zoFigure at hQ1
  have her : me1 (y + 1) = me (y + 1) := hf1 _ (by omega) (by omega) (by omega) (by omega) (by omega) (by omega)
  have hRs1 : ∀ k, 0 ≤ k → k < 8 → me1 (y + 1) (30 + 31 * k) = qS A k := by rw [her]; exact hRs
  have hRc1 : ∀ k, 0 ≤ k → k < 8 → ∀ m, 0 ≤ m → m < qS A k → ∀ q, 0 ≤ q → q < 3 → me1 (y + 1) (30 + 31 * k + 1 + 3 * m + q) = zdig (qC A (k * 10 + m)) q := by rw [her]; exact hRc
  have hGk : zGk me1 y (F : Int) (zE A (F : Int)) := hG1 _ hk0 hk1
  refine z_L2I (pc' := 5) dX9_ofFigure_4 rfl ?_
  have hqq : q = 0 ∨ q = 1 ∨ q = 2 ∨ q = 3 ∨ q = 4 ∨ q = 5 ∨ q = 6 ∨ (q < 0 ∨ 6 < q) := by omega
  rcases hqq with hqq | hqq | hqq | hqq | hqq | hqq | hqq | hqq
  · subst hqq
    refine z_tswIn (tgt := 48) dX9_ofFigure_5 (by decide) (by decide) rfl (by decide) ?_
    refine z_L0R (pc' := 49) dX9_ofFigure_48 rfl ?_
    refine z_L1I (pc' := 50) dX9_ofFigure_49 rfl ?_
    refine z_V1v (pc' := 53) (ci := 9) kX9_moves lX9_81 dX9_ofFigure_50 rfl (by omega) (Nat.le_of_ble_eq_true rfl) (by decide) rfl hy.s ?_
    refine m_moves hy hk0 hk1 (zKv_i ?_)
    rw [hRs1 _ hk0 hk1]
    rw [zif_neg (by omega), zif_pos rfl] at hQ1
    refine z_ireturn rfl rfl dX9_ofFigure_53 ?_
    exact hQ1
  · subst hqq
    refine z_tswIn (tgt := 54) dX9_ofFigure_5 (by decide) (by decide) rfl (by decide) ?_
    refine z_L0R (pc' := 55) dX9_ofFigure_54 rfl ?_
    refine z_getR (pc' := 58) (ki := 5) 5 fX9_19.l rfl rfl dX9_ofFigure_55 rfl hy.s hy.p5 ?_
    refine z_L1I (pc' := 59) dX9_ofFigure_58 rfl ?_
    refine z_ild (pc' := 60) dX9_ofFigure_59 rfl hy.a4 (by omega) (by omega) ?_
    rw [(hU1 _ hk0 hk1).1]
    rw [zif_neg (by omega), zif_neg (by omega), zif_pos rfl] at hQ1
    refine z_ireturn rfl rfl dX9_ofFigure_60 ?_
    exact hQ1
  · subst hqq
    refine z_tswIn (tgt := 61) dX9_ofFigure_5 (by decide) (by decide) rfl (by decide) ?_
    refine z_L0R (pc' := 62) dX9_ofFigure_61 rfl ?_
    refine z_L1I (pc' := 63) dX9_ofFigure_62 rfl ?_
    refine z_V1v (pc' := 66) (ci := 9) kX9_order lX9_191 dX9_ofFigure_63 rfl (by omega) (Nat.le_of_ble_eq_true rfl) (by decide) rfl hy.s ?_
    refine m_order (by omega) hy hk0 hk1 hgE hGk (zKv_i ?_)
    rw [← zol_zth hgE]
    rw [zif_neg (by omega), zif_neg (by omega), zif_neg (by omega), zif_pos rfl] at hQ1
    refine z_ireturn rfl rfl dX9_ofFigure_66 ?_
    exact hQ1
  · subst hqq
    refine z_tswIn (tgt := 67) dX9_ofFigure_5 (by decide) (by decide) rfl (by decide) ?_
    refine z_L0R (pc' := 68) dX9_ofFigure_67 rfl ?_
    refine z_L1I (pc' := 69) dX9_ofFigure_68 rfl ?_
    refine z_iconst (pc' := 70) dX9_ofFigure_69 rfl (by unfold zin; decide) ?_
    refine z_V2v (pc' := 73) (ci := 9) kX9_moved lX9_194 dX9_ofFigure_70 rfl (by omega) (Nat.le_of_ble_eq_true rfl) (by decide) rfl hy.s ?_
    refine m_moved hy hk0 hk1 hgE hGk (zKv_i ?_)
    rw [if_pos rfl]
    rw [zif_neg (by omega), zif_neg (by omega), zif_neg (by omega), zif_neg (by omega), zif_pos rfl] at hQ1
    refine z_ireturn rfl rfl dX9_ofFigure_73 ?_
    exact hQ1
  · subst hqq
    refine z_tswIn (tgt := 74) dX9_ofFigure_5 (by decide) (by decide) rfl (by decide) ?_
    refine z_L0R (pc' := 75) dX9_ofFigure_74 rfl ?_
    refine z_L1I (pc' := 76) dX9_ofFigure_75 rfl ?_
    refine z_iconst (pc' := 77) dX9_ofFigure_76 rfl (by unfold zin; decide) ?_
    refine z_V2v (pc' := 80) (ci := 9) kX9_moved lX9_194 dX9_ofFigure_77 rfl (by omega) (Nat.le_of_ble_eq_true rfl) (by decide) rfl hy.s ?_
    refine m_moved hy hk0 hk1 hgE hGk (zKv_i ?_)
    rw [if_neg (by decide)]
    rw [zif_neg (by omega), zif_neg (by omega), zif_neg (by omega), zif_neg (by omega), zif_neg (by omega), zif_pos rfl] at hQ1
    refine z_ireturn rfl rfl dX9_ofFigure_80 ?_
    exact hQ1
  · subst hqq
    refine z_tswIn (tgt := 81) dX9_ofFigure_5 (by decide) (by decide) rfl (by decide) ?_
    refine z_L0R (pc' := 82) dX9_ofFigure_81 rfl ?_
    refine z_L1I (pc' := 83) dX9_ofFigure_82 rfl ?_
    refine z_V1v (pc' := 86) (ci := 9) kX9_odd lX9_198 dX9_ofFigure_83 rfl (by omega) (Nat.le_of_ble_eq_true rfl) (by decide) rfl hy.s ?_
    refine m_odd hy hk0 hk1 hgE hGk (zKv_i ?_)
    rw [zif_neg (by omega), zif_neg (by omega), zif_neg (by omega), zif_neg (by omega), zif_neg (by omega), zif_neg (by omega), zif_pos rfl] at hQ1
    refine z_ireturn rfl rfl dX9_ofFigure_86 ?_
    exact hQ1
  · subst hqq
    refine z_tswIn (tgt := 87) dX9_ofFigure_5 (by decide) (by decide) rfl (by decide) ?_
    refine z_L0R (pc' := 88) dX9_ofFigure_87 rfl ?_
    refine z_L1I (pc' := 89) dX9_ofFigure_88 rfl ?_
    refine z_V1v (pc' := 92) (ci := 9) kX9_calledBy lX9_185 dX9_ofFigure_89 rfl (by omega) (Nat.le_of_ble_eq_true rfl) (by decide) rfl hy.s ?_
    refine m_calledBy (by omega) hy hvA hk0 hk1 hRs1 hRc1 (zKv_i ?_)
    rw [zif_neg (by omega), zif_neg (by omega), zif_neg (by omega), zif_neg (by omega), zif_neg (by omega), zif_neg (by omega), zif_neg (by omega), zif_pos rfl] at hQ1
    refine z_ireturn rfl rfl dX9_ofFigure_92 ?_
    exact hQ1
  · refine z_tswOut (tgt := 93) dX9_ofFigure_5 (by omega) (by decide) ?_
    refine z_L0R (pc' := 94) dX9_ofFigure_93 rfl ?_
    refine z_L1I (pc' := 95) dX9_ofFigure_94 rfl ?_
    refine z_V1v (pc' := 98) (ci := 9) kX9_callers lX9_201 dX9_ofFigure_95 rfl (by omega) (Nat.le_of_ble_eq_true rfl) (by decide) rfl hy.s ?_
    refine m_callers (by omega) hy hvA hk1 hRs1 hRc1 (zKv_i ?_)
    rw [zif_neg (by omega), zif_neg (by omega), zif_neg (by omega), zif_neg (by omega), zif_neg (by omega), zif_neg (by omega), zif_neg (by omega), zif_neg (by omega), zif_pos (by omega)] at hQ1
    refine z_ireturn rfl rfl dX9_ofFigure_98 ?_
    exact hQ1
set_option maxRecDepth 100000 in
set_option maxHeartbeats 1000000 in
theorem y_figure {d : Nat} {sp : zSP} {me : zMe} {Q : zQ} {y : Nat} {A : zAb} {B k q : Int} (hd : 20 ≤ d) (hy : zMod sp y) (hX : zMX me y A) (hI : zIA B A) (hQ : ∀ me', zMX me' y A → zMF y me me' → Q (some (zI (zoFigure A k q))) sp me') : zCall mX9_figure d 0 0 [zR y, zI k, zI q] sp me Q := by
  refine z_met kX9_figure (by simp) (by simp) ?_
  show zW mX9_figure d 0 0 Q 0 [zR y, zI k, zI q] [] sp me
  have hQ1 := hQ me hX zMF.rf
  unfold zoFigure at hQ1
  refine z_L1I (pc' := 1) dX9_figure_0 rfl ?_
  refine z_S1v (pc' := 4) kX9_isFigure lX9_97 dX9_figure_1 rfl (by omega) (Nat.le_of_ble_eq_true rfl) ?_
  refine m_isFig2 (by omega) (fun b1 hb1 => zKv_i ?_)
  refine z_if_ne (tgt := 9) (pc' := 7) dX9_figure_4 (by decide) rfl (fun h4 => ?_) (fun h4 => ?_)
  · refine z_L2I (pc' := 10) dX9_figure_9 rfl ?_
    refine z_iconst (pc' := 11) dX9_figure_10 rfl (by unfold zin; decide) ?_
    refine z_bipush (pc' := 13) dX9_figure_11 rfl (by decide) ?_
    refine z_S3v (pc' := 16) kX9_in lX9_62 dX9_figure_13 rfl (by omega) (Nat.le_of_ble_eq_true rfl) ?_
    refine m_in2 (fun b2 hb2 => zKv_i ?_)
    refine z_if_eq (tgt := 28) (pc' := 19) dX9_figure_16 (by decide) rfl (fun h16 => ?_) (fun h16 => ?_)
    · rw [zif_neg (by omega), zif_neg (by omega), zif_neg (by omega), zif_neg (by omega), zif_neg (by omega), zif_neg (by omega), zif_neg (by omega), zif_neg (by omega), zif_neg (by omega)] at hQ1
      refine z_bipush (pc' := 30) dX9_figure_28 rfl (by decide) ?_
      refine z_ireturn rfl rfl dX9_figure_30 ?_
      first
      | exact hQ1
      | exact hQ me' hX' hF'
    · refine z_L0R (pc' := 20) dX9_figure_19 rfl ?_
      refine z_L1I (pc' := 21) dX9_figure_20 rfl ?_
      refine z_L2I (pc' := 22) dX9_figure_21 rfl ?_
      refine z_V2v (pc' := 25) (ci := 9) kX9_ofFigure lX9_204 dX9_figure_22 rfl (by omega) (Nat.le_of_ble_eq_true rfl) (by decide) rfl hy.s ?_
      obtain ⟨F, rfl⟩ := Int.eq_ofNat_of_zero_le (show 0 ≤ k by omega)
      refine m_ofFigure (by omega) hy hX hI (by omega) (by omega) (by omega) (fun me' hX' hF' => zKv_i ?_)
      refine z_goto (tgt := 30) dX9_figure_25 (by decide) ?_
      refine z_ireturn rfl rfl dX9_figure_30 ?_
      first
      | exact hQ1
      | exact hQ me' hX' hF'
  · refine z_iconst (pc' := 8) dX9_figure_7 rfl (by unfold zin; decide) ?_
    refine z_ireturn rfl rfl dX9_figure_8 ?_
    rw [zif_pos (by omega)] at hQ1
    exact hQ1
end ZMOY

