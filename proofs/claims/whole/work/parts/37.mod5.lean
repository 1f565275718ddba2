section ZMO5
theorem zMR_fig {r r' : Int → Int} {w f h sz cd sz' cd' : Int → Int} {pr a b c : Int} (hg : zgR w f) (hR : zMR r (w, f, h, pr, sz, cd, a, b, c)) (h1 : ∀ q, 0 ≤ q → q < 281 → ¬ (30 ≤ q ∧ q < 278) → r' q = r q) (h2 : ∀ k, 0 ≤ k → k < 8 → r' (30 + 31 * k) = sz' k ∧ ∀ m, 0 ≤ m → m < sz' k → ∀ q, 0 ≤ q → q < 3 → r' (30 + 31 * k + 1 + 3 * m + q) = zdig (cd' (k * 10 + m)) q) : zMR r' (qst w f h pr sz' cd' a b c) := by
  obtain ⟨g1, g2, g3, g4, g5, g6, g7⟩ := hR
  refine ⟨fun p p0 p1 => ?_, fun p p0 p1 => ?_, fun p p0 p1 => ?_, h2, ?_, ?_, ?_⟩
  · rw [h1 _ (by omega) (by omega) (by omega)]; exact g1 p p0 p1
  · have := (hg.1 p p0 p1)
    exact (h1 _ (show 0 ≤ 10 + w p by omega) (by omega) (by omega)).trans (g2 p p0 p1)
  · rw [h1 _ (by omega) (by omega) (by omega)]; exact g3 p p0 p1
  · rw [h1 _ (by omega) (by omega) (by omega)]; exact g5
  · rw [h1 _ (by omega) (by omega) (by omega)]; exact g6
  · rw [h1 _ (by omega) (by omega) (by omega)]; exact g7
theorem zMR_drop {r r' : Int → Int} {w f h sz cd : Int → Int} {pr a b c k0 : Int} (hg : zgR w f) (hv : zfv sz cd) (hR : zMR r (w, f, h, pr, sz, cd, a, b, c)) (h0 : 0 ≤ k0) (h8 : k0 < 8) (hs : sz k0 ≠ 0) (he : r' = zup (zup (zup (zup r (30 + 31 * k0) (sz k0 - 1)) (30 + 31 * k0 + 1 + 3 * (sz k0 - 1)) 0) (30 + 31 * k0 + 1 + 3 * (sz k0 - 1) + 1) 0) (30 + 31 * k0 + 1 + 3 * (sz k0 - 1) + 2) 0) : zMR r' (qst w f h pr (zup sz k0 (sz k0 - 1)) cd a b c) := by
  have hvk := hv k0 h0 h8
  refine zMR_fig hg hR (fun q q0 q1 q2 => ?_) (fun k k0' k1 => ?_)
  · rw [he, zup_ne _ _ _ (by omega), zup_ne _ _ _ (by omega), zup_ne _ _ _ (by omega), zup_ne _ _ _ (by omega)]
  · have g4 := hR.2.2.2.1 k k0' k1
    have hvk2 := hv k k0' k1
    by_cases e : k = k0
    · subst e
      rw [zup_eq]
      refine ⟨?_, fun m m0 m1 q q0 q1 => ?_⟩
      · rw [he, zup_ne _ _ _ (by omega), zup_ne _ _ _ (by omega), zup_ne _ _ _ (by omega), zup_eq]
      · rw [he, zup_ne _ _ _ (by omega), zup_ne _ _ _ (by omega), zup_ne _ _ _ (by omega), zup_ne _ _ _ (by omega)]
        exact g4.2 m m0 (show m < sz k by omega) q q0 q1
    · rw [zup_ne _ _ _ e]
      have e2 : k < k0 ∨ k0 < k := by omega
      refine ⟨?_, fun m m0 m1 q q0 q1 => ?_⟩
      · rw [he, zup_ne _ _ _ (by omega), zup_ne _ _ _ (by omega), zup_ne _ _ _ (by omega), zup_ne _ _ _ (by omega)]
        exact g4.1
      · rw [he, zup_ne _ _ _ (by omega), zup_ne _ _ _ (by omega), zup_ne _ _ _ (by omega), zup_ne _ _ _ (by omega)]
        exact g4.2 m m0 m1 q q0 q1
set_option maxRecDepth 100000 in
set_option maxHeartbeats 1000000 in
theorem y_drop {d : Nat} {sp : zSP} {me : zMe} {Q : zQ} {y : Nat} {A : zAb} {B k : Int} (hd : 20 ≤ d) (hy : zMod sp y) (hX : zMX me y A) (hI : zIA B A) (hQ : ∀ me', zMX me' y (zoDrop A k).2 → zMF y me me' → Q (some (zI (zoDrop A k).1)) sp me') : zCall mX9_drop d 0 0 [zR y, zI k] sp me Q := by
  refine z_met kX9_drop (by simp) (by simp) ?_
  show zW mX9_drop d 0 0 Q 0 [zR y, zI k, zU] [] sp me
  have hIS := hI.1
  have hgA : zgR (qW A) (qF A) := hIS.1
  have hokA : zHok (qH A) := hIS.2.1
  have hpnA : qP A = zpn (qH A) := hIS.2.2.1
  have hvA : zfv (qS A) (qC A) := hIS.2.2.2.1
  have hlA : zlim (qS A) (qC A) := hIS.2.2.2.2.1
  have hRw : ∀ p, 0 ≤ p → p < 10 → me (y + 1) p = qW A p := hX.1.1
  have hRf : ∀ i, 0 ≤ i → i < 10 → me (y + 1) (10 + i) = qF A (zpl (qW A) i) := fun i a b => zMR_f hI.1 hX.1 a b
  have hRh : ∀ i, 0 ≤ i → i < 10 → me (y + 1) (20 + i) = qH A i := hX.1.2.2.1
  have hRs : ∀ k, 0 ≤ k → k < 8 → me (y + 1) (30 + 31 * k) = qS A k := fun k a b => (hX.1.2.2.2.1 k a b).1
  have hRc : ∀ k, 0 ≤ k → k < 8 → ∀ m, 0 ≤ m → m < qS A k → ∀ q, 0 ≤ q → q < 3 → me (y + 1) (30 + 31 * k + 1 + 3 * m + q) = zdig (qC A (k * 10 + m)) q := fun k a b => (hX.1.2.2.2.1 k a b).2
  unfold zoDrop at hQ
  refine z_L1I (pc' := 1) dX9_drop_0 rfl ?_
  refine z_S1v (pc' := 4) kX9_isFigure lX9_97 dX9_drop_1 rfl (by omega) (Nat.le_of_ble_eq_true rfl) ?_
  refine m_isFig2 (by omega) (fun b hb => zKv_i ?_)
  refine z_if_ne (tgt := 9) (pc' := 7) dX9_drop_4 (by decide) rfl (fun h4 => ?_) (fun h4 => ?_)
  · rw [zif_neg (by omega)] at hQ
    have hvk := hvA k (by omega) (by omega)
    refine z_L0R (pc' := 10) dX9_drop_9 rfl ?_
    refine z_L1I (pc' := 11) dX9_drop_10 rfl ?_
    refine z_V1v (pc' := 14) (ci := 9) kX9_moves lX9_81 dX9_drop_11 rfl (by omega) (Nat.le_of_ble_eq_true rfl) (by decide) rfl hy.s ?_
    refine m_moves hy (by omega) (by omega) (zKv_i ?_)
    rw [hRs k (by omega) (by omega)]
    refine z_if_ne (tgt := 20) (pc' := 17) dX9_drop_14 (by decide) rfl (fun h14 => ?_) (fun h14 => ?_)
    · rw [zif_neg (by omega)] at hQ
      refine z_L0R (pc' := 21) dX9_drop_20 rfl ?_
      refine z_V00 (pc' := 24) (ci := 9) kX9_record lX9_78 dX9_drop_21 rfl (by omega) (Nat.le_of_ble_eq_true rfl) (by decide) rfl hy.s ?_
      refine m_record hy hI.1 hI.2.1 hX.1 hX.2.1 (fun me1 hH1 hm1 hm2 => zK0_i ?_)
      have hr1 : me1 (y + 1) = me (y + 1) := hm1 _ (by omega) (by omega)
      refine z_L0R (pc' := 25) dX9_drop_24 rfl ?_
      refine z_getR (pc' := 28) (ki := 0) 0 fX9_7.l rfl rfl dX9_drop_25 rfl hy.s hy.p0 ?_
      refine z_bipush (pc' := 30) dX9_drop_28 rfl (by decide) ?_
      refine z_bipush (pc' := 32) dX9_drop_30 rfl (by decide) ?_
      refine z_L1I (pc' := 33) dX9_drop_32 rfl ?_
      refine z_imul (pc' := 34) dX9_drop_33 rfl (by unfold zin; omega) ?_
      refine z_iadd (pc' := 35) dX9_drop_34 rfl (by unfold zin; omega) ?_
      refine z_dup2 (pc' := 36) dX9_drop_35 rfl ?_
      refine z_ild (pc' := 37) dX9_drop_36 rfl hy.a1 (by omega) (by omega) ?_
      rw [hr1, hRs k (by omega) (by omega)]
      refine z_iconst (pc' := 38) dX9_drop_37 rfl (by unfold zin; decide) ?_
      refine z_isub (pc' := 39) dX9_drop_38 rfl (by unfold zin; omega) ?_
      refine z_ist (pc' := 40) dX9_drop_39 rfl hy.a1 (by omega) (by omega) ?_
      refine z_bipush (pc' := 42) dX9_drop_40 rfl (by decide) ?_
      refine z_bipush (pc' := 44) dX9_drop_42 rfl (by decide) ?_
      refine z_L1I (pc' := 45) dX9_drop_44 rfl ?_
      refine z_imul (pc' := 46) dX9_drop_45 rfl (by unfold zin; omega) ?_
      refine z_iadd (pc' := 47) dX9_drop_46 rfl (by unfold zin; omega) ?_
      refine z_iconst (pc' := 48) dX9_drop_47 rfl (by unfold zin; decide) ?_
      refine z_iadd (pc' := 49) dX9_drop_48 rfl (by unfold zin; omega) ?_
      refine z_iconst (pc' := 50) dX9_drop_49 rfl (by unfold zin; decide) ?_
      refine z_L0R (pc' := 51) dX9_drop_50 rfl ?_
      refine z_L1I (pc' := 52) dX9_drop_51 rfl ?_
      refine z_V1v (pc' := 55) (ci := 9) kX9_moves lX9_81 dX9_drop_52 rfl (by omega) (Nat.le_of_ble_eq_true rfl) (by decide) rfl hy.s ?_
      refine m_moves hy (by omega) (by omega) (zKv_i ?_)
      rw [zset_eq, zup_eq]
      refine z_imul (pc' := 56) dX9_drop_55 rfl (by unfold zin; omega) ?_
      refine z_iadd (pc' := 57) dX9_drop_56 rfl (by unfold zin; omega) ?_
      refine z_S2I (pc' := 58) rfl dX9_drop_57 rfl ?_
      refine z_L0R (pc' := 59) dX9_drop_58 rfl ?_
      refine z_getR (pc' := 62) (ki := 0) 0 fX9_7.l rfl rfl dX9_drop_59 rfl hy.s hy.p0 ?_
      refine z_L2I (pc' := 63) dX9_drop_62 rfl ?_
      refine z_iconst (pc' := 64) dX9_drop_63 rfl (by unfold zin; decide) ?_
      refine z_ist (pc' := 65) dX9_drop_64 rfl hy.a1 (by omega) (by omega) ?_
      refine z_L0R (pc' := 66) dX9_drop_65 rfl ?_
      refine z_getR (pc' := 69) (ki := 0) 0 fX9_7.l rfl rfl dX9_drop_66 rfl hy.s hy.p0 ?_
      refine z_L2I (pc' := 70) dX9_drop_69 rfl ?_
      refine z_iconst (pc' := 71) dX9_drop_70 rfl (by unfold zin; decide) ?_
      refine z_iadd (pc' := 72) dX9_drop_71 rfl (by unfold zin; omega) ?_
      refine z_iconst (pc' := 73) dX9_drop_72 rfl (by unfold zin; decide) ?_
      refine z_ist (pc' := 74) dX9_drop_73 rfl hy.a1 (by omega) (by omega) ?_
      refine z_L0R (pc' := 75) dX9_drop_74 rfl ?_
      refine z_getR (pc' := 78) (ki := 0) 0 fX9_7.l rfl rfl dX9_drop_75 rfl hy.s hy.p0 ?_
      refine z_L2I (pc' := 79) dX9_drop_78 rfl ?_
      refine z_iconst (pc' := 80) dX9_drop_79 rfl (by unfold zin; decide) ?_
      refine z_iadd (pc' := 81) dX9_drop_80 rfl (by unfold zin; omega) ?_
      refine z_iconst (pc' := 82) dX9_drop_81 rfl (by unfold zin; decide) ?_
      refine z_ist (pc' := 83) dX9_drop_82 rfl hy.a1 (by omega) (by omega) ?_
      refine z_L0R (pc' := 84) dX9_drop_83 rfl ?_
      refine z_L1I (pc' := 85) dX9_drop_84 rfl ?_
      refine z_V1v (pc' := 88) (ci := 9) kX9_moves lX9_81 dX9_drop_85 rfl (by omega) (Nat.le_of_ble_eq_true rfl) (by decide) rfl hy.s ?_
      refine m_moves hy (by omega) (by omega) (zKv_i ?_)
      generalize hm : zset (zset _ (y + 1) _) (y + 1) _ = me2
      have o2 : ∀ a, a ≠ y + 1 → me2 a = me1 a := fun a ha => by rw [← hm, zset_ne _ _ _ ha, zset_ne _ _ _ ha, zset_ne _ _ _ ha, zset_ne _ _ _ ha]
      have e2 : me2 (y + 1) = zup (zup (zup (zup (me (y + 1)) (30 + 31 * k) (qS A k - 1)) (30 + 31 * k + 1 + 3 * (qS A k - 1)) 0) (30 + 31 * k + 1 + 3 * (qS A k - 1) + 1) 0) (30 + 31 * k + 1 + 3 * (qS A k - 1) + 2) 0 := by rw [← hm, zset_eq, zset_eq, zset_eq, zset_eq, hr1]
      have hRS : zMR (me2 (y + 1)) (qst (qW A) (qF A) (qH A) (qP A) (zup (qS A) k (qS A k - 1)) (qC A) (qT0 A) (qT1 A) (qT2 A)) := zMR_drop hgA hvA hX.1 (by omega) (by omega) (by omega) e2
      have hsz : me2 (y + 1) (30 + 31 * k) = qS A k - 1 := by have := (hRS.2.2.2.1 k (by omega) (by omega)).1; rw [this]; exact zup_eq _ _ _
      rw [hsz]
      refine z_ireturn rfl rfl dX9_drop_88 ?_
      refine hQ me2 (zMX_do hX hRS ?_ ?_ ?_ ?_ ?_) (fun a ha => by rw [o2 a (by omega), hm1 a (by omega) (by omega)])
      · obtain ⟨k1, k2, k3⟩ := hH1
        exact ⟨by rw [o2 _ (by omega)]; exact k1, k2, by rw [o2 _ (by omega)]; exact k3⟩
      · rw [o2 _ (by omega)]; exact hm2 _ (by omega)
      · rw [o2 _ (by omega)]; exact hm2 _ (by omega)
      · rw [o2 _ (by omega)]; exact hm1 _ (by omega) (by omega)
      · rw [o2 _ (by omega)]; exact hm1 _ (by omega) (by omega)
    · rw [zif_pos (by omega)] at hQ
      refine z_bipush (pc' := 19) dX9_drop_17 rfl (by decide) ?_
      refine z_ireturn rfl rfl dX9_drop_19 ?_
      exact hQ me hX zMF.rf
  · rw [zif_pos (by omega)] at hQ
    refine z_iconst (pc' := 8) dX9_drop_7 rfl (by unfold zin; decide) ?_
    refine z_ireturn rfl rfl dX9_drop_8 ?_
    exact hQ me hX zMF.rf
def zgh (r : Int → Int) (k : Int) : Int → Int := fun q => if 0 ≤ q ∧ q < k then q else if 10 ≤ q ∧ q < 10 + k then 0 else r q
theorem zgh_up {r : Int → Int} {k : Int} (h0 : 0 ≤ k) (h1 : k < 10) : zup (zup (zgh r k) (0 + k) k) (10 + k) 0 = zgh r (k + 1) := by
  funext q
  unfold zup zgh
  ((repeat' split) <;> first | rfl | (exfalso; omega) | (congr 1; omega) | (congr 2; omega) | (congr 3; omega) | omega)
def zg2 (r h : Int → Int) (t k : Int) : Int → Int := fun q => if 20 ≤ q ∧ q < 30 then zhh h k (q - 20) else if q = 280 then t + zhc h k else r q
theorem zg2_h {r h : Int → Int} {t k : Int} {i : Int} (h0 : 0 ≤ i) (h1 : i < 10) : zg2 r h t k (20 + i) = zhh h k i := by
  unfold zg2; rw [if_pos (by omega)]; congr 1; omega
theorem zhc_up (h : Int → Int) (k : Int) (h0 : 0 ≤ k) : zhc h (k + 1) = zhc h k + (if k < h k ∧ ¬ (h k - k = 1 ∨ h k - k = 9) then 1 else 0) := zSm_up _ _ h0
theorem zhh_s0 {h : Int → Int} (hok : zHok h) {k : Int} (k0 : 0 ≤ k) (k1 : k < 10) (hk : ¬ (k < h k ∧ ¬ (h k - k = 1 ∨ h k - k = 9))) : zhh h (k + 1) = zhh h k := by
  funext i
  have hi := hok.1 i
  have hkk := hok.1 k k0 k1
  unfold zhh
  by_cases e2 : i = k
  · rw [e2]; split <;> split <;> omega
  · have e3 : 0 ≤ i → i < 10 → h i = k → h k = i := fun h1 h2 h3 => by
      have h4 := hi h1 h2
      rw [h3] at h4
      omega
    ((repeat' split) <;> first | rfl | (exfalso; omega) | (congr 1; omega) | (congr 2; omega) | (congr 3; omega) | omega)
theorem zhh_s1 {h : Int → Int} (hok : zHok h) {k : Int} (k0 : 0 ≤ k) (k1 : k < 10) (hk : k < h k ∧ ¬ (h k - k = 1 ∨ h k - k = 9)) : zup (zup (zhh h k) k (-5)) (h k) (-5) = zhh h (k + 1) := by
  funext i
  have hi := hok.1 i
  have hi2 := hok.2 i
  have hkk := hok.1 k k0 k1
  unfold zup zhh
  by_cases e1 : i = h k
  · rw [if_pos e1]
    have e2 : h i = k := by rw [e1]; omega
    rw [if_pos (by omega)]
  · rw [if_neg e1]
    by_cases e2 : i = k
    · rw [if_pos e2, if_pos (by rw [e2]; omega)]
    · rw [if_neg e2]
      have e3 : 0 ≤ i → i < 10 → h i ≠ k := fun h1 h2 h3 => by
        have h4 := hi h1 h2
        rw [h3] at h4
        omega
      ((repeat' split) <;> first | rfl | (exfalso; omega) | (congr 1; omega) | (congr 2; omega) | (congr 3; omega) | omega)
theorem zg2_up {r h : Int → Int} {t k : Int} (hok : zHok h) (k0 : 0 ≤ k) (k1 : k < 10) (hk : k < h k ∧ ¬ (h k - k = 1 ∨ h k - k = 9)) : zup (zup (zup (zg2 r h t k) (20 + k) (-5)) (20 + h k) (-5)) 280 (t + zhc h k + 1) = zg2 r h t (k + 1) := by
  have e9 := zhc_up h k k0
  rw [if_pos hk] at e9
  have hh := hok.1 k k0 k1
  have eS := fun i => congrFun (zhh_s1 hok k0 k1 hk) i
  funext q
  by_cases c1 : q = 280
  · rw [c1, zup_eq]
    unfold zg2
    rw [if_neg (by omega), if_pos rfl, e9]
    omega
  · rw [zup_ne _ _ _ c1]
    by_cases c2 : 20 ≤ q ∧ q < 30
    · obtain ⟨i, rfl⟩ : ∃ i, q = 20 + i := ⟨q - 20, by omega⟩
      rw [zg2_h (by omega) (by omega), ← eS i]
      by_cases c3 : i = h k
      · rw [c3, zup_eq, zup_eq]
      · rw [zup_ne _ _ _ (by omega), zup_ne (zup (zhh h k) k (-5)) _ _ c3]
        by_cases c4 : i = k
        · rw [c4, zup_eq, zup_eq]
        · rw [zup_ne _ _ _ (by omega), zup_ne _ _ _ c4, zg2_h (by omega) (by omega)]
    · rw [zup_ne _ _ _ (by omega), zup_ne _ _ _ (by omega)]
      unfold zg2
      rw [if_neg c2, if_neg c1, if_neg c2, if_neg c1]
set_option maxRecDepth 100000 in
set_option maxHeartbeats 1000000 in
theorem y_goHome {d : Nat} {sp : zSP} {me : zMe} {Q : zQ} {y : Nat} {A : zAb} {B : Int} (hd : 20 ≤ d) (hy : zMod sp y) (hX : zMX me y A) (hI : zIA B A) (hB : B ≤ 900000000) (hQ : ∀ me', zMX me' y (zoGoHome A).2 → zMF y me me' → Q (some (zI (zoGoHome A).1)) sp me') : zCall mX9_goHome d 0 0 [zR y] sp me Q := by
  refine z_met kX9_goHome (by simp) (by simp) ?_
  show zW mX9_goHome d 0 0 Q 0 [zR y, zU, zU, zU] [] sp me
  have hIS := hI.1
  have hgA : zgR (qW A) (qF A) := hIS.1
  have hokA : zHok (qH A) := hIS.2.1
  have hpnA : qP A = zpn (qH A) := hIS.2.2.1
  have hvA : zfv (qS A) (qC A) := hIS.2.2.2.1
  have hlA : zlim (qS A) (qC A) := hIS.2.2.2.2.1
  have hRw : ∀ p, 0 ≤ p → p < 10 → me (y + 1) p = qW A p := hX.1.1
  have hRf : ∀ i, 0 ≤ i → i < 10 → me (y + 1) (10 + i) = qF A (zpl (qW A) i) := fun i a b => zMR_f hI.1 hX.1 a b
  have hRh : ∀ i, 0 ≤ i → i < 10 → me (y + 1) (20 + i) = qH A i := hX.1.2.2.1
  have hRs : ∀ k, 0 ≤ k → k < 8 → me (y + 1) (30 + 31 * k) = qS A k := fun k a b => (hX.1.2.2.2.1 k a b).1
  have hRc : ∀ k, 0 ≤ k → k < 8 → ∀ m, 0 ≤ m → m < qS A k → ∀ q, 0 ≤ q → q < 3 → me (y + 1) (30 + 31 * k + 1 + 3 * m + q) = zdig (qC A (k * 10 + m)) q := fun k a b => (hX.1.2.2.2.1 k a b).2
  have hT2 : 0 ≤ qT2 A ∧ qT2 A ≤ B := hIS.2.2.2.2.2.2.2
  have hhb := zSm_bd (g := fun p => if qW A p = p ∧ qF A p = 0 then 1 else 0) (a := 0) (b := 1) (fun i _ => by split <;> omega) 10 (by omega)
  have hhb2 : 0 ≤ zhcnt (qW A) (qF A) ∧ zhcnt (qW A) (qF A) ≤ 10 := by unfold zhcnt; omega
  unfold zoGoHome at hQ
  refine z_L0R (pc' := 1) dX9_goHome_0 rfl ?_
  refine z_V00 (pc' := 4) (ci := 9) kX9_record lX9_78 dX9_goHome_1 rfl (by omega) (Nat.le_of_ble_eq_true rfl) (by decide) rfl hy.s ?_
  refine m_record hy hI.1 hI.2.1 hX.1 hX.2.1 (fun me1 hH1 hm1 hm2 => zK0_i ?_)
  have hr1 : me1 (y + 1) = me (y + 1) := hm1 _ (by omega) (by omega)
  refine z_bipush (pc' := 6) dX9_goHome_4 rfl (by decide) ?_
  refine z_L0R (pc' := 7) dX9_goHome_6 rfl ?_
  refine z_iconst (pc' := 8) dX9_goHome_7 rfl (by unfold zin; decide) ?_
  refine z_V1v (pc' := 11) (ci := 9) kX9_atHome lX9_74 dX9_goHome_8 rfl (by omega) (Nat.le_of_ble_eq_true rfl) (by decide) rfl hy.s ?_
  refine m_atHome hy (zKv_i ?_)
  rw [hr1, zMR_home hX.1]
  rw [show zhcnt A.1.1 A.1.2.1 = zhcnt (qW A) (qF A) from rfl]
  refine z_isub (pc' := 12) dX9_goHome_11 rfl (by unfold zin; omega) ?_
  refine z_S1I (pc' := 13) rfl dX9_goHome_12 rfl ?_
  refine z_iconst (pc' := 14) dX9_goHome_13 rfl (by unfold zin; decide) ?_
  refine z_S2I (pc' := 15) rfl dX9_goHome_14 rfl ?_
  suffices H : ∀ (n : Nat) (k : Int), 0 ≤ k → k ≤ 10 → 10 - k < n → zW mX9_goHome d 0 0 Q 15 [zR y, zI (10 - zhcnt (qW A) (qF A)), zI k, zU] [] sp (zset me1 (y + 1) (zgh (me (y + 1)) k)) by
    refine zW_to (H ((10 - 0 + 1 : Int).toNat) (0) (by omega) (by omega) (by omega) ) rfl rfl ?_
    rw [show zgh (me (y + 1)) 0 = me1 (y + 1) from by
      funext q
      rw [hr1]
      unfold zgh
      rw [if_neg (by omega), if_neg (by omega)], zset_self]
  intro n
  induction n with
  | zero => intro k hk0 hk1 hk2; omega
  | succ n ih =>
  intro k hk0 hk1 hk2
  refine z_L2I (pc' := 16) dX9_goHome_15 rfl ?_
  refine z_bipush (pc' := 18) dX9_goHome_16 rfl (by decide) ?_
  refine z_icmp_ge (tgt := 46) (pc' := 21) dX9_goHome_18 (by decide) rfl (fun h18 => ?_) (fun h18 => ?_)
  · refine z_iconst (pc' := 47) dX9_goHome_46 rfl (by unfold zin; decide) ?_
    refine z_S2I (pc' := 48) rfl dX9_goHome_47 rfl ?_
    suffices H : ∀ (n : Nat) (k : Int) (v : zV), 0 ≤ k → k ≤ 10 → 10 - k < n → zW mX9_goHome d 0 0 Q 48 [zR y, zI (10 - zhcnt (qW A) (qF A)), zI k, v] [] sp (zset me1 (y + 1) (zg2 (zgh (me (y + 1)) 10) (qH A) (qT2 A) k)) by
      obtain rfl : k = 10 := by omega
      refine zW_to (H 11 0 zU (by omega) (by omega) (by omega)) rfl rfl ?_
      refine congrArg (zset me1 (y + 1)) ?_
      funext q
      have e0 : zhc (qH A) 0 = 0 := zSm_0 _
      unfold zg2
      rw [e0, Int.add_zero]
      by_cases e1 : 20 ≤ q ∧ q < 30
      · rw [if_pos e1]
        have h1 := hRh (q - 20) (by omega) (by omega)
        have h2 := hokA.1 (q - 20) (by omega) (by omega)
        unfold zgh zhh
        rw [if_neg (by omega), if_neg (by omega), if_neg (by omega), ← h1]
        congr 1
        omega
      · rw [if_neg e1]
        by_cases e2 : q = 280
        · rw [if_pos e2, e2]
          unfold zgh
          rw [if_neg (by omega), if_neg (by omega)]
          exact hX.1.2.2.2.2.2.2
        · rw [if_neg e2]
    intro n
    induction n with
    | zero => intro k v hk0 hk1 hk2; omega
    | succ n ih =>
    intro k v hk0 hk1 hk2
    have hbd := zSm_bd (g := fun i => if i < qH A i ∧ ¬ (qH A i - i = 1 ∨ qH A i - i = 9) then 1 else 0) (a := 0) (b := 1) (fun p _ => by split <;> omega) k hk0
    have hbd : 0 ≤ zhc (qH A) k ∧ zhc (qH A) k ≤ 10 := by unfold zhc; omega
    have e9 := zhc_up (qH A) k hk0
    refine z_L2I (pc' := 49) dX9_goHome_48 rfl ?_
    refine z_bipush (pc' := 51) dX9_goHome_49 rfl (by decide) ?_
    refine z_icmp_ge (tgt := 118) (pc' := 54) dX9_goHome_51 (by decide) rfl (fun h51 => ?_) (fun h51 => ?_)
    · refine z_L1I (pc' := 119) dX9_goHome_118 rfl ?_
      refine z_ireturn rfl rfl dX9_goHome_119 ?_
      obtain rfl : k = 10 := by omega
      have o2 : ∀ a, a ≠ y + 1 → zset me1 (y + 1) (zg2 (zgh (me (y + 1)) 10) (qH A) (qT2 A) 10) a = me1 a := fun a ha => zset_ne _ _ _ ha
      refine hQ _ (zMX_do hX ?_ ?_ ?_ ?_ ?_ ?_) (fun a ha => by rw [o2 a (by omega), hm1 a (by omega) (by omega)])
      · rw [zset_eq]
        have g := hX.1.2.2.2
        refine ⟨fun p p0 p1 => ?_, fun p p0 p1 => ?_, fun p p0 p1 => zg2_h p0 p1, fun k k0 k1 => ⟨?_, fun m m0 m1 q q0 q1 => ?_⟩, ?_, ?_, ?_⟩
        · show _ = zcut 10 (fun p => p) p
          rw [zcut_in _ _ _ p0 p1]
          unfold zg2 zgh
          rw [if_neg (by omega), if_neg (by omega), if_pos (by omega)]
        · show zg2 _ _ _ _ (10 + zcut 10 (fun p => p) p) = zcut 10 (fun _ => 0) p
          rw [zcut_in _ _ _ p0 p1, zcut_in _ _ _ p0 p1]
          unfold zg2 zgh
          rw [if_neg (by omega), if_neg (by omega), if_neg (by omega), if_pos (by omega)]
        · unfold zg2 zgh
          rw [if_neg (by omega), if_neg (by omega), if_neg (by omega), if_neg (by omega)]
          exact (g.1 k k0 k1).1
        · have m2 : m < qS A k := m1
          have := hvA k k0 k1
          unfold zg2 zgh
          rw [if_neg (by omega), if_neg (by omega), if_neg (by omega), if_neg (by omega)]
          exact (g.1 k k0 k1).2 m m0 m1 q q0 q1
        · unfold zg2 zgh
          rw [if_neg (by omega), if_neg (by omega), if_neg (by omega), if_neg (by omega)]
          exact g.2.1
        · unfold zg2 zgh
          rw [if_neg (by omega), if_neg (by omega), if_neg (by omega), if_neg (by omega)]
          exact g.2.2.1
        · unfold zg2
          rw [if_neg (by omega), if_pos rfl]
          rfl
      · obtain ⟨k1, k2, k3⟩ := hH1
        exact ⟨by rw [o2 _ (by omega)]; exact k1, k2, by rw [o2 _ (by omega)]; exact k3⟩
      · rw [o2 _ (by omega)]; exact hm2 _ (by omega)
      · rw [o2 _ (by omega)]; exact hm2 _ (by omega)
      · rw [o2 _ (by omega)]; exact hm1 _ (by omega) (by omega)
      · rw [o2 _ (by omega)]; exact hm1 _ (by omega) (by omega)
    · refine z_L0R (pc' := 55) dX9_goHome_54 rfl ?_
      refine z_getR (pc' := 58) (ki := 0) 0 fX9_7.l rfl rfl dX9_goHome_55 rfl hy.s hy.p0 ?_
      refine z_bipush (pc' := 60) dX9_goHome_58 rfl (by decide) ?_
      refine z_L2I (pc' := 61) dX9_goHome_60 rfl ?_
      refine z_iadd (pc' := 62) dX9_goHome_61 rfl (by unfold zin; omega) ?_
      refine z_ild (pc' := 63) dX9_goHome_62 rfl hy.a1 (by omega) (by omega) ?_
      have hokk := hokA.1 k hk0 (by omega)
      have ehv : zhh (qH A) k k = if (¬ qH A k = -5) ∧ ¬ (qH A k - k = 1 ∨ k - qH A k = 1 ∨ qH A k - k = 9 ∨ k - qH A k = 9) ∧ qH A k < k then -5 else qH A k := by
        unfold zhh
        by_cases e : (¬ qH A k = -5) ∧ ¬ (qH A k - k = 1 ∨ k - qH A k = 1 ∨ qH A k - k = 9 ∨ k - qH A k = 9) ∧ qH A k < k
        · rw [if_pos e, if_pos (by omega)]
        · rw [if_neg e, if_neg (by omega)]
      rw [zset_eq, zg2_h hk0 (by omega)]
      refine z_S3I (pc' := 64) rfl dX9_goHome_63 rfl ?_
      refine z_L3I (pc' := 65) dX9_goHome_64 rfl ?_
      refine z_bipush (pc' := 67) dX9_goHome_65 rfl (by decide) ?_
      refine z_icmp_eq (tgt := 112) (pc' := 70) dX9_goHome_67 (by decide) rfl (fun h67 => ?_) (fun h67 => ?_)
      · first
        | (have hnk : ¬ (k < qH A k ∧ ¬ (qH A k - k = 1 ∨ qH A k - k = 9)) := by
             by_cases e : (¬ qH A k = -5) ∧ ¬ (qH A k - k = 1 ∨ k - qH A k = 1 ∨ qH A k - k = 9 ∨ k - qH A k = 9) ∧ qH A k < k
             · omega
             · rw [if_neg e] at ehv; omega
           rw [if_neg hnk] at e9
           refine z_inc2 (pc' := 115) rfl dX9_goHome_112 rfl (by unfold zin; omega) ?_
           refine z_goto (tgt := 48) dX9_goHome_115 (by decide) ?_
           refine zW_to (ih (k + 1) _ (by omega) (by omega) (by omega)) rfl rfl ?_
           unfold zg2
           rw [e9, Int.add_zero, zhh_s0 hokA hk0 (by omega) hnk])
        | (refine z_inc2 (pc' := 115) rfl dX9_goHome_112 rfl (by unfold zin; omega) ?_
           refine z_goto (tgt := 48) dX9_goHome_115 (by decide) ?_
           refine zW_to (ih (k + 1) _ (by omega) (by omega) (by omega)) rfl rfl ?_
           simp only [zset_11, zset_eq]
           exact congrArg (zset me1 (y + 1)) (zg2_up hokA hk0 (by omega) hnk))
      · refine z_L2I (pc' := 71) dX9_goHome_70 rfl ?_
        refine z_L3I (pc' := 72) dX9_goHome_71 rfl ?_
        refine z_S2v (pc' := 75) kX9_areNeighbors lX9_126 dX9_goHome_72 rfl (by omega) (Nat.le_of_ble_eq_true rfl) ?_
        have ehk : zhh (qH A) k k = qH A k := by
          rw [ehv]
          by_cases e : (¬ qH A k = -5) ∧ ¬ (qH A k - k = 1 ∨ k - qH A k = 1 ∨ qH A k - k = 9 ∨ k - qH A k = 9) ∧ qH A k < k
          · rw [ehv, if_pos e] at h67; exact absurd rfl h67
          · rw [if_neg e]
        rw [ehk] at h67 ⊢
        refine m_areNb (by omega) hk0 (by omega) (by omega) (by omega) (fun hn => zKv_i ?_) (fun hn => zKv_i ?_)
        · refine z_if_ne (tgt := 112) (pc' := 78) dX9_goHome_75 (by decide) rfl (fun h4 => ?_) (fun h4 => absurd h4 (by decide))
          unfold znb at hn
          have hnk : ¬ (k < qH A k ∧ ¬ (qH A k - k = 1 ∨ qH A k - k = 9)) := by omega
          rw [if_neg hnk] at e9
          refine z_inc2 (pc' := 115) rfl dX9_goHome_112 rfl (by unfold zin; omega) ?_
          refine z_goto (tgt := 48) dX9_goHome_115 (by decide) ?_
          refine zW_to (ih (k + 1) _ (by omega) (by omega) (by omega)) rfl rfl ?_
          unfold zg2
          rw [e9, Int.add_zero, zhh_s0 hokA hk0 (by omega) hnk]
        unfold znb at hn
        have hnk : k < qH A k ∧ ¬ (qH A k - k = 1 ∨ qH A k - k = 9) := by
          by_cases e : (¬ qH A k = -5) ∧ ¬ (qH A k - k = 1 ∨ k - qH A k = 1 ∨ qH A k - k = 9 ∨ k - qH A k = 9) ∧ qH A k < k
          · rw [if_pos e] at ehv; omega
          · omega
        rw [if_pos hnk] at e9
        refine z_if_ne (tgt := 112) (pc' := 78) dX9_goHome_75 (by decide) rfl (fun h75 => absurd h75 (by omega)) (fun h75 => ?_)
        refine z_L0R (pc' := 79) dX9_goHome_78 rfl ?_
        refine z_getR (pc' := 82) (ki := 0) 0 fX9_7.l rfl rfl dX9_goHome_79 rfl hy.s hy.p0 ?_
        refine z_bipush (pc' := 84) dX9_goHome_82 rfl (by decide) ?_
        refine z_L2I (pc' := 85) dX9_goHome_84 rfl ?_
        refine z_iadd (pc' := 86) dX9_goHome_85 rfl (by unfold zin; omega) ?_
        refine z_bipush (pc' := 88) dX9_goHome_86 rfl (by decide) ?_
        refine z_ist (pc' := 89) dX9_goHome_88 rfl hy.a1 (by omega) (by omega) ?_
        refine z_L0R (pc' := 90) dX9_goHome_89 rfl ?_
        refine z_getR (pc' := 93) (ki := 0) 0 fX9_7.l rfl rfl dX9_goHome_90 rfl hy.s hy.p0 ?_
        refine z_bipush (pc' := 95) dX9_goHome_93 rfl (by decide) ?_
        refine z_L3I (pc' := 96) dX9_goHome_95 rfl ?_
        refine z_iadd (pc' := 97) dX9_goHome_96 rfl (by unfold zin; omega) ?_
        refine z_bipush (pc' := 99) dX9_goHome_97 rfl (by decide) ?_
        refine z_ist (pc' := 100) dX9_goHome_99 rfl hy.a1 (by omega) (by omega) ?_
        refine z_L0R (pc' := 101) dX9_goHome_100 rfl ?_
        refine z_getR (pc' := 104) (ki := 0) 0 fX9_7.l rfl rfl dX9_goHome_101 rfl hy.s hy.p0 ?_
        refine z_sipush (pc' := 107) dX9_goHome_104 rfl (by decide) ?_
        refine z_dup2 (pc' := 108) dX9_goHome_107 rfl ?_
        refine z_ild (pc' := 109) dX9_goHome_108 rfl hy.a1 (by omega) (by omega) ?_
        have e280 : ∀ u v : Int, zset (zset (zset me1 (y + 1) (zg2 (zgh (me (y + 1)) 10) (qH A) (qT2 A) k)) (y + 1) (zup (zg2 (zgh (me (y + 1)) 10) (qH A) (qT2 A) k) (20 + k) u)) (y + 1) (zup (zset (zset me1 (y + 1) (zg2 (zgh (me (y + 1)) 10) (qH A) (qT2 A) k)) (y + 1) (zup (zg2 (zgh (me (y + 1)) 10) (qH A) (qT2 A) k) (20 + k) u) (y + 1)) (20 + qH A k) v) (y + 1) 280 = qT2 A + zhc (qH A) k := fun u v => by
          rw [zset_eq, zset_eq, zup_ne _ _ _ (by omega), zup_ne _ _ _ (by omega)]
          unfold zg2
          rw [if_neg (by omega), if_pos rfl]
        simp only [zset_eq, zset_11]
        rw [show zup (zup (zg2 (zgh (me (y + 1)) 10) (qH A) (qT2 A) k) (20 + k) (-5)) (20 + qH A k) (-5) 280 = qT2 A + zhc (qH A) k from by
          rw [zup_ne _ _ _ (by omega), zup_ne _ _ _ (by omega)]
          unfold zg2
          rw [if_neg (by omega), if_pos rfl]]
        refine z_iconst (pc' := 110) dX9_goHome_109 rfl (by unfold zin; decide) ?_
        refine z_iadd (pc' := 111) dX9_goHome_110 rfl (by unfold zin; omega) ?_
        refine z_ist (pc' := 112) dX9_goHome_111 rfl hy.a1 (by omega) (by omega) ?_
        first
        | (have hnk : ¬ (k < qH A k ∧ ¬ (qH A k - k = 1 ∨ qH A k - k = 9)) := by
             by_cases e : (¬ qH A k = -5) ∧ ¬ (qH A k - k = 1 ∨ k - qH A k = 1 ∨ qH A k - k = 9 ∨ k - qH A k = 9) ∧ qH A k < k
             · omega
             · rw [if_neg e] at ehv; omega
           rw [if_neg hnk] at e9
           refine z_inc2 (pc' := 115) rfl dX9_goHome_112 rfl (by unfold zin; omega) ?_
           refine z_goto (tgt := 48) dX9_goHome_115 (by decide) ?_
           refine zW_to (ih (k + 1) _ (by omega) (by omega) (by omega)) rfl rfl ?_
           unfold zg2
           rw [e9, Int.add_zero, zhh_s0 hokA hk0 (by omega) hnk])
        | (refine z_inc2 (pc' := 115) rfl dX9_goHome_112 rfl (by unfold zin; omega) ?_
           refine z_goto (tgt := 48) dX9_goHome_115 (by decide) ?_
           refine zW_to (ih (k + 1) _ (by omega) (by omega) (by omega)) rfl rfl ?_
           simp only [zset_11, zset_eq]
           exact congrArg (zset me1 (y + 1)) (zg2_up hokA hk0 (by omega) hnk))
  · refine z_L0R (pc' := 22) dX9_goHome_21 rfl ?_
    refine z_getR (pc' := 25) (ki := 0) 0 fX9_7.l rfl rfl dX9_goHome_22 rfl hy.s hy.p0 ?_
    refine z_iconst (pc' := 26) dX9_goHome_25 rfl (by unfold zin; decide) ?_
    refine z_L2I (pc' := 27) dX9_goHome_26 rfl ?_
    refine z_iadd (pc' := 28) dX9_goHome_27 rfl (by unfold zin; omega) ?_
    refine z_L2I (pc' := 29) dX9_goHome_28 rfl ?_
    refine z_ist (pc' := 30) dX9_goHome_29 rfl hy.a1 (by omega) (by omega) ?_
    refine z_L0R (pc' := 31) dX9_goHome_30 rfl ?_
    refine z_getR (pc' := 34) (ki := 0) 0 fX9_7.l rfl rfl dX9_goHome_31 rfl hy.s hy.p0 ?_
    refine z_bipush (pc' := 36) dX9_goHome_34 rfl (by decide) ?_
    refine z_L2I (pc' := 37) dX9_goHome_36 rfl ?_
    refine z_iadd (pc' := 38) dX9_goHome_37 rfl (by unfold zin; omega) ?_
    refine z_iconst (pc' := 39) dX9_goHome_38 rfl (by unfold zin; decide) ?_
    refine z_ist (pc' := 40) dX9_goHome_39 rfl hy.a1 (by omega) (by omega) ?_
    refine z_inc2 (pc' := 43) rfl dX9_goHome_40 rfl (by unfold zin; omega) ?_
    refine z_goto (tgt := 15) dX9_goHome_43 (by decide) ?_
    refine zW_to (ih (k + 1) (by omega) (by omega) (by omega) ) rfl rfl ?_
    rw [zset_11, zset_11, zset_eq, zset_eq, zgh_up hk0 (by omega)]
end ZMO5

