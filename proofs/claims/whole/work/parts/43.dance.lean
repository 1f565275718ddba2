section ZMOB
theorem zMR_dn {r r' : Int → Int} {w f h sz cd w' f' : Int → Int} {pr a b c : Int} {n : Int} (hg : zgR w' f') (hv : zfv sz cd) (hR : zMR r (w, f, h, pr, sz, cd, a, b, c)) (h1 : ∀ p, 0 ≤ p → p < 10 → r' p = w' p) (h2 : ∀ p, 0 ≤ p → p < 10 → r' (10 + w' p) = f' p) (h3 : ∀ q, ¬ (0 ≤ q ∧ q < 20) → r' q = r q) : zMR (zup (zup r' 278 (r' 278 + 1)) 279 (r' 279 + n)) (qst w' f' h pr sz cd (a + 1) (b + n) c) := by
  obtain ⟨g1, g2, g3, g4, g5, g6, g7⟩ := hR
  have o : ∀ q, q ≠ 278 → q ≠ 279 → zup (zup r' 278 (r' 278 + 1)) 279 (r' 279 + n) q = r' q := fun q a b => by rw [zup_ne _ _ _ b, zup_ne _ _ _ a]
  refine ⟨fun p p0 p1 => ?_, fun p p0 p1 => ?_, fun p p0 p1 => ?_, fun k k0 k1 => ⟨?_, fun m m0 m1 q q0 q1 => ?_⟩, ?_, ?_, ?_⟩
  · rw [o _ (by omega) (by omega)]; exact h1 p p0 p1
  · have := hg.1 p p0 p1
    exact (o _ (show 10 + w' p ≠ 278 by omega) (by omega)).trans (h2 p p0 p1)
  · rw [o _ (by omega) (by omega), h3 _ (by omega)]; exact g3 p p0 p1
  · rw [o _ (by omega) (by omega), h3 _ (by omega)]; exact (g4 k k0 k1).1
  · have m2 : m < sz k := m1
    have := hv k k0 k1
    rw [o _ (by omega) (by omega), h3 _ (by omega)]; exact (g4 k k0 k1).2 m m0 m1 q q0 q1
  · rw [zup_ne _ _ _ (by omega), zup_eq, h3 _ (by omega), g5]; rfl
  · rw [zup_eq, h3 _ (by omega), g6]; rfl
  · rw [o _ (by omega) (by omega), h3 _ (by omega)]; exact g7
/-- the memory but for the row and the scratch of a dance -/
def zDf (y : Nat) (me me' : zMe) : Prop := ∀ a, a ≠ y + 1 → a ≠ y + 4 → a ≠ y + 5 → a ≠ y + 7 → a ≠ y + 8 → a ≠ y + 9 → a ≠ y + 10 → me' a = me a
set_option maxRecDepth 100000 in
set_option maxHeartbeats 1000000 in
theorem m_danceNow {d : Nat} {sp : zSP} {me : zMe} {Q : zQ} {y : Nat} {k T b B : Int} {S : zSt} (hd : 9 ≤ d) (hy : zMod sp y) (hI : zIS B S) (hB : B ≤ 1000000000) (hR : zMR (me (y + 1)) S) (hk0 : 0 ≤ k) (hk1 : k < 8) (hT0 : 1 ≤ T) (hT1 : T ≤ 9) (hQ1 : ztry S.2.2.1 (zrep T.toNat (zord (zsteps S.2.2.2.2.1 S.2.2.2.2.2.1 k) b)) (S.1, S.2.1) 0 = -5 → ∀ me', zMR (me' (y + 1)) (qst (zfo (S.1, S.2.1) (zrep T.toNat (zord (zsteps S.2.2.2.2.1 S.2.2.2.2.2.1 k) b))).1 (zfo (S.1, S.2.1) (zrep T.toNat (zord (zsteps S.2.2.2.2.1 S.2.2.2.2.2.1 k) b))).2 S.2.2.1 S.2.2.2.1 S.2.2.2.2.1 S.2.2.2.2.2.1 (S.2.2.2.2.2.2.1 + 1) (S.2.2.2.2.2.2.2.1 + ((zrep T.toNat (zord (zsteps S.2.2.2.2.1 S.2.2.2.2.2.1 k) b)).length : Int)) S.2.2.2.2.2.2.2.2) → zGf y me me' → Q (some (zI ((zrep T.toNat (zord (zsteps S.2.2.2.2.1 S.2.2.2.2.2.1 k) b)).length : Int))) sp me') (hQ0 : ztry S.2.2.1 (zrep T.toNat (zord (zsteps S.2.2.2.2.1 S.2.2.2.2.2.1 k) b)) (S.1, S.2.1) 0 ≠ -5 → ∀ me', me' (y + 1) = me (y + 1) → zGf y me me' → Q (some (zI (-100 - ztry S.2.2.1 (zrep T.toNat (zord (zsteps S.2.2.2.2.1 S.2.2.2.2.2.1 k) b)) (S.1, S.2.1) 0))) sp me') : zCall mX9_danceNow d 0 0 [zR y, zI k, zI T, zI b] sp me Q := by
  refine z_met kX9_danceNow (by simp) (by simp) ?_
  show zW mX9_danceNow d 0 0 Q 0 [zR y, zI k, zI T, zI b, zU] [] sp me
  obtain ⟨w, f, h, pr, sz, cd, t0, t1, t2⟩ := S
  have hg : zgR w f := hI.1
  have hok : zHok h := hI.2.1
  have hv : zfv sz cd := hI.2.2.2.1
  have hl : zlim sz cd := hI.2.2.2.2.1
  have ht0 : 0 ≤ t0 ∧ t0 ≤ B := hI.2.2.2.2.2.1
  have ht1 : 0 ≤ t1 ∧ t1 ≤ B := hI.2.2.2.2.2.2.1
  have hLv := zsteps_ok hv hk0 hk1
  have hOv := zord_vs (b := b) hLv
  have hLl := hl k hk0 hk1
  have hOl := zord_len (zsteps sz cd k) b
  (try dsimp only at hQ1 hQ0)
  have hLLl : (zrep T.toNat (zord (zsteps sz cd k) b)).length = T.toNat * (zsteps sz cd k).length := by rw [zrep_len, hOl]
  have hLLm : T.toNat * (zsteps sz cd k).length ≤ 9 * 120 := Nat.mul_le_mul (by omega) hLl
  have hLLi : T * ((zsteps sz cd k).length : Int) = ((zrep T.toNat (zord (zsteps sz cd k) b)).length : Int) := by rw [hLLl, Int.natCast_mul, Int.toNat_of_nonneg (by omega)]
  have hbd := ztry_bd (h := h) (zrep T.toNat (zord (zsteps sz cd k) b)) (w, f) 0 (by omega)
  have hgo := zgR_fo (L := zrep T.toNat (zord (zsteps sz cd k) b)) (zrep_vs hOv) (R := (w, f)) hg
  refine z_L0R (pc' := 1) dX9_danceNow_0 rfl ?_
  refine z_L1I (pc' := 2) dX9_danceNow_1 rfl ?_
  refine z_L2I (pc' := 3) dX9_danceNow_2 rfl ?_
  refine z_L3I (pc' := 4) dX9_danceNow_3 rfl ?_
  refine z_V3v (pc' := 7) (ci := 9) kX9_go lX9_140 dX9_danceNow_4 rfl (by omega) (Nat.le_of_ble_eq_true rfl) (by decide) rfl hy.s ?_
  refine m_go (by omega) hy hg hok hv hl hk0 hk1 hT0 hT1 hR.1 hR.2.1 hR.2.2.1 (fun k a b => (hR.2.2.2.1 k a b).1) (fun k a b => (hR.2.2.2.1 k a b).2) (fun made me1 hmd hm4 hr hbk hfr => zKv_i ?_)
  have hmb : 0 ≤ made ∧ made ≤ 1080 := by omega
  refine z_S4I (pc' := 9) rfl dX9_danceNow_7 rfl ?_
  refine z_L4I (pc' := 11) dX9_danceNow_9 rfl ?_
  refine z_L2I (pc' := 12) dX9_danceNow_11 rfl ?_
  refine z_L0R (pc' := 13) dX9_danceNow_12 rfl ?_
  refine z_getR (pc' := 16) (ki := 5) 5 fX9_19.l rfl rfl dX9_danceNow_13 rfl hy.s hy.p5 ?_
  refine z_L1I (pc' := 17) dX9_danceNow_16 rfl ?_
  refine z_ild (pc' := 18) dX9_danceNow_17 rfl hy.a4 (by omega) (by omega) ?_
  rw [hm4]
  refine z_imul (pc' := 19) dX9_danceNow_18 rfl (by unfold zin; omega) ?_
  rw [hLLi]
  refine z_icmp_ge (tgt := 32) (pc' := 22) dX9_danceNow_19 (by decide) rfl (fun h19 => ?_) (fun h19 => ?_)
  · have hmd1 := hmd.resolve_right (fun z => by omega)
    have e278 : me1 (y + 1) 278 = t0 := by rw [hr _ (by omega)]; exact hR.2.2.2.2.1
    have e279 : me1 (y + 1) 279 = t1 := by rw [hr _ (by omega)]; exact hR.2.2.2.2.2.1
    refine z_L0R (pc' := 33) dX9_danceNow_32 rfl ?_
    refine z_getR (pc' := 36) (ki := 0) 0 fX9_7.l rfl rfl dX9_danceNow_33 rfl hy.s hy.p0 ?_
    refine z_sipush (pc' := 39) dX9_danceNow_36 rfl (by decide) ?_
    refine z_dup2 (pc' := 40) dX9_danceNow_39 rfl ?_
    refine z_ild (pc' := 41) dX9_danceNow_40 rfl hy.a1 (by omega) (by omega) ?_
    rw [e278]
    refine z_iconst (pc' := 42) dX9_danceNow_41 rfl (by unfold zin; decide) ?_
    refine z_iadd (pc' := 43) dX9_danceNow_42 rfl (by unfold zin; omega) ?_
    refine z_ist (pc' := 44) dX9_danceNow_43 rfl hy.a1 (by omega) (by omega) ?_
    refine z_L0R (pc' := 45) dX9_danceNow_44 rfl ?_
    refine z_getR (pc' := 48) (ki := 0) 0 fX9_7.l rfl rfl dX9_danceNow_45 rfl hy.s hy.p0 ?_
    refine z_sipush (pc' := 51) dX9_danceNow_48 rfl (by decide) ?_
    refine z_dup2 (pc' := 52) dX9_danceNow_51 rfl ?_
    refine z_ild (pc' := 53) dX9_danceNow_52 rfl hy.a1 (by omega) (by omega) ?_
    rw [zset_eq, zup_ne _ _ _ (by omega), e279]
    refine z_L4I (pc' := 55) dX9_danceNow_53 rfl ?_
    refine z_iadd (pc' := 56) dX9_danceNow_55 rfl (by unfold zin; omega) ?_
    refine z_ist (pc' := 57) dX9_danceNow_56 rfl hy.a1 (by omega) (by omega) ?_
    refine z_L4I (pc' := 59) dX9_danceNow_57 rfl ?_
    refine z_ireturn rfl rfl dX9_danceNow_59 ?_
    rw [hmd1.2.1]
    refine hQ1 hmd1.1 _ ?_ (fun a h1 h2 h3 h4 h5 h6 h7 => by rw [zset_ne _ _ _ h1, zset_ne _ _ _ h1]; exact hfr a h1 h2 h3 h4 h5 h6 h7)
    rw [zset_eq, zset_eq]
    have := zMR_dn (n := ((zrep T.toNat (zord (zsteps sz cd k) b)).length : Int)) hgo hv hR hmd1.2.2.1 hmd1.2.2.2 hr
    rw [e278, e279] at this
    exact this
  · refine z_L0R (pc' := 23) dX9_danceNow_22 rfl ?_
    refine z_V00 (pc' := 26) (ci := 9) kX9_goBack lX9_144 dX9_danceNow_23 rfl (by omega) (Nat.le_of_ble_eq_true rfl) (by decide) rfl hy.s ?_
    refine m_goBack hy (zK0_i ?_)
    have hmd2 := hmd.resolve_left (fun z => by omega)
    refine z_bipush (pc' := 28) dX9_danceNow_26 rfl (by decide) ?_
    refine z_L4I (pc' := 30) dX9_danceNow_28 rfl ?_
    refine z_isub (pc' := 31) dX9_danceNow_30 rfl (by unfold zin; omega) ?_
    refine z_ireturn rfl rfl dX9_danceNow_31 ?_
    rw [hmd2.2]
    refine hQ0 hmd2.1 _ ?_ (fun a h1 h2 h3 h4 h5 h6 h7 => by rw [zset_ne _ _ _ h1]; exact hfr a h1 h2 h3 h4 h5 h6 h7)
    rw [zset_eq]
    funext q
    by_cases e : 0 ≤ q ∧ q < 20
    · rw [zfil_in _ _ _ _ e.1 e.2]; exact hbk q e.1 e.2
    · rw [zfil_out _ _ _ _ e]; exact hr q e
theorem zGf.q {y : Nat} {me me' : zMe} (h : zGf y me me') (h1 : me' (y + 1) = me (y + 1)) : zMQ y me me' :=
  ⟨fun a ha => h a (by omega) (by omega) (by omega) (by omega) (by omega) (by omega) (by omega), h1, h _ (by omega) (by omega) (by omega) (by omega) (by omega) (by omega) (by omega), h _ (by omega) (by omega) (by omega) (by omega) (by omega) (by omega) (by omega), h _ (by omega) (by omega) (by omega) (by omega) (by omega) (by omega) (by omega), by rw [h y (by omega) (by omega) (by omega) (by omega) (by omega) (by omega) (by omega)], by rw [h y (by omega) (by omega) (by omega) (by omega) (by omega) (by omega) (by omega)], by rw [h y (by omega) (by omega) (by omega) (by omega) (by omega) (by omega) (by omega)]⟩
theorem zgoBack {me me1 : zMe} {y : Nat} (hr : ∀ q, ¬ (0 ≤ q ∧ q < 20) → me1 (y + 1) q = me (y + 1) q) (hbk : ∀ q, 0 ≤ q → q < 20 → me1 (y + 10) q = me (y + 1) q) (hfr : zGf y me me1) : zMQ y me (zset me1 (y + 1) (zfil (me1 (y + 1)) (me1 (y + 10)) 20)) := by
  refine zGf.q (fun a h1 h2 h3 h4 h5 h6 h7 => by rw [zset_ne _ _ _ h1]; exact hfr a h1 h2 h3 h4 h5 h6 h7) ?_
  rw [zset_eq]
  funext q
  by_cases e : 0 ≤ q ∧ q < 20
  · rw [zfil_in _ _ _ _ e.1 e.2]; exact hbk q e.1 e.2
  · rw [zfil_out _ _ _ _ e]; exact hr q e
set_option maxRecDepth 100000 in
set_option maxHeartbeats 1000000 in
theorem y_dance {d : Nat} {sp : zSP} {me : zMe} {Q : zQ} {y : Nat} {A : zAb} {B k T b : Int} (hd : 20 ≤ d) (hy : zMod sp y) (hX : zMX me y A) (hI : zIA B A) (hB : B ≤ 900000000) (hQ : ∀ me', zMX me' y (zoDance A k T b).2 → zMF y me me' → Q (some (zI (zoDance A k T b).1)) sp me') : zCall mX9_dance d 0 0 [zR y, zI k, zI T, zI b] sp me Q := by
  refine z_met kX9_dance (by simp) (by simp) ?_
  show zW mX9_dance d 0 0 Q 0 [zR y, zI k, zI T, zI b, zU] [] sp me
  have hIS := hI.1
  have hgA : zgR (qW A) (qF A) := hIS.1
  have hokA : zHok (qH A) := hIS.2.1
  have hpnA : qP A = zpn (qH A) := hIS.2.2.1
  have hvA : zfv (qS A) (qC A) := hIS.2.2.2.1
  have hlA : zlim (qS A) (qC A) := hIS.2.2.2.2.1
  have hRw : ∀ p, 0 ≤ p → p < 10 → me (y + 1) p = qW A p := hX.1.1
  have hRf : ∀ i, 0 ≤ i → i < 10 → me (y + 1) (10 + i) = qF A (zpl (qW A) i) := fun i a b => zMR_f hI.1 hX.1 a b
  have hRh : ∀ i, 0 ≤ i → i < 10 → me (y + 1) (20 + i) = qH A i := hX.1.2.2.1
  have hRs : ∀ k, 0 ≤ k → k < 8 → me (y + 1) (30 + 31 * k) = qS A k := fun k a b => (hX.1.2.2.2.1 k a b).1
  have hRc : ∀ k, 0 ≤ k → k < 8 → ∀ m, 0 ≤ m → m < qS A k → ∀ q, 0 ≤ q → q < 3 → me (y + 1) (30 + 31 * k + 1 + 3 * m + q) = zdig (qC A (k * 10 + m)) q := fun k a b => (hX.1.2.2.2.1 k a b).2
  unfold zoDance at hQ
  refine z_L1I (pc' := 1) dX9_dance_0 rfl ?_
  refine z_S1v (pc' := 4) kX9_isFigure lX9_97 dX9_dance_1 rfl (by omega) (Nat.le_of_ble_eq_true rfl) ?_
  refine m_isFig2 (by omega) (fun b1 hb1 => zKv_i ?_)
  refine z_if_ne (tgt := 9) (pc' := 7) dX9_dance_4 (by decide) rfl (fun h4 => ?_) (fun h4 => ?_)
  · rw [zif_neg (by omega)] at hQ
    refine z_L2I (pc' := 10) dX9_dance_9 rfl ?_
    refine z_iconst (pc' := 11) dX9_dance_10 rfl (by unfold zin; decide) ?_
    refine z_bipush (pc' := 13) dX9_dance_11 rfl (by decide) ?_
    refine z_S3v (pc' := 16) kX9_in lX9_62 dX9_dance_13 rfl (by omega) (Nat.le_of_ble_eq_true rfl) ?_
    refine m_in2 (fun b2 hb2 => zKv_i ?_)
    refine z_if_ne (tgt := 22) (pc' := 19) dX9_dance_16 (by decide) rfl (fun h16 => ?_) (fun h16 => ?_)
    · rw [zif_neg (by omega)] at hQ
      have hLl := hlA k (by omega) (by omega)
      have eLL : zLL A k T b = zrep T.toNat (zord (zsteps (qS A) (qC A) k) b) := rfl
      have hLLl : (zLL A k T b).length = T.toNat * (zsteps (qS A) (qC A) k).length := by rw [eLL, zrep_len, zord_len]
      have hLLm : T.toNat * (zsteps (qS A) (qC A) k).length ≤ 9 * 120 := Nat.mul_le_mul (by omega) hLl
      have hLLi : T * ((zsteps (qS A) (qC A) k).length : Int) = ((zLL A k T b).length : Int) := by rw [hLLl, Int.natCast_mul, Int.toNat_of_nonneg (by omega)]
      have hbd := ztry_bd (h := qH A) (zLL A k T b) (qW A, qF A) 0 (by omega)
      refine z_L0R (pc' := 23) dX9_dance_22 rfl ?_
      refine z_L1I (pc' := 24) dX9_dance_23 rfl ?_
      refine z_L2I (pc' := 25) dX9_dance_24 rfl ?_
      refine z_L3I (pc' := 26) dX9_dance_25 rfl ?_
      refine z_V3v (pc' := 29) (ci := 9) kX9_go lX9_140 dX9_dance_26 rfl (by omega) (Nat.le_of_ble_eq_true rfl) (by decide) rfl hy.s ?_
      refine m_go (by omega) hy hgA hokA hvA hlA (by omega) (by omega) (by omega) (by omega) hRw (fun p p0 p1 => hX.1.2.1 p p0 p1) hRh hRs hRc (fun made me1 hmd hm4 hr hbk hfr => zKv_i ?_)
      rw [← eLL] at hmd
      refine z_S4I (pc' := 31) rfl dX9_dance_29 rfl ?_
      refine z_L0R (pc' := 32) dX9_dance_31 rfl ?_
      refine z_V00 (pc' := 35) (ci := 9) kX9_goBack lX9_144 dX9_dance_32 rfl (by omega) (Nat.le_of_ble_eq_true rfl) (by decide) rfl hy.s ?_
      refine m_goBack hy (zK0_i ?_)
      have hq := zgoBack hr hbk hfr
      have hX2 := hq.mx hX
      have hm42 : zset me1 (y + 1) (zfil (me1 (y + 1)) (me1 (y + 10)) 20) (y + 4) k = ((zsteps (qS A) (qC A) k).length : Int) := by rw [zset_ne _ _ _ (by omega)]; exact hm4
      revert hq hX2 hm42
      generalize zset me1 (y + 1) (zfil (me1 (y + 1)) (me1 (y + 10)) 20) = me2
      intro hq hX2 hm42
      refine z_L4I (pc' := 37) dX9_dance_35 rfl ?_
      refine z_L2I (pc' := 38) dX9_dance_37 rfl ?_
      refine z_L0R (pc' := 39) dX9_dance_38 rfl ?_
      refine z_getR (pc' := 42) (ki := 5) 5 fX9_19.l rfl rfl dX9_dance_39 rfl hy.s hy.p5 ?_
      refine z_L1I (pc' := 43) dX9_dance_42 rfl ?_
      refine z_ild (pc' := 44) dX9_dance_43 rfl hy.a4 (by omega) (by omega) ?_
      rw [hm42]
      refine z_imul (pc' := 45) dX9_dance_44 rfl (by unfold zin; omega) ?_
      rw [hLLi]
      refine z_icmp_ge (tgt := 54) (pc' := 48) dX9_dance_45 (by decide) rfl (fun h45 => ?_) (fun h45 => ?_)
      · have hmd1 := hmd.resolve_right (fun z => by omega)
        rw [zif_neg (fun z => z hmd1.1)] at hQ
        refine z_L0R (pc' := 55) dX9_dance_54 rfl ?_
        refine z_V00 (pc' := 58) (ci := 9) kX9_record lX9_78 dX9_dance_55 rfl (by omega) (Nat.le_of_ble_eq_true rfl) (by decide) rfl hy.s ?_
        refine m_record hy hI.1 hI.2.1 hX2.1 hX2.2.1 (fun me3 hH3 hm1 hm2 => zK0_i ?_)
        refine z_L0R (pc' := 59) dX9_dance_58 rfl ?_
        refine z_L1I (pc' := 60) dX9_dance_59 rfl ?_
        refine z_L2I (pc' := 61) dX9_dance_60 rfl ?_
        refine z_L3I (pc' := 62) dX9_dance_61 rfl ?_
        refine z_V3v (pc' := 65) (ci := 9) kX9_danceNow lX9_154 dX9_dance_62 rfl (by omega) (Nat.le_of_ble_eq_true rfl) (by decide) rfl hy.s ?_
        refine m_danceNow (B := B) (S := A.1) (by omega) hy hI.1 (by omega) (by rw [hm1 (y + 1) (by omega) (by omega)]; exact hX2.1) (by omega) (by omega) (by omega) (by omega) (fun hz me4 hR4 hg4 => zKv_i ?_) (fun hz => absurd hmd1.1 hz)
        refine z_ireturn rfl rfl dX9_dance_65 ?_
        refine hQ me4 (zMX_do hX2 hR4 ?_ ?_ ?_ ?_ ?_) (fun a ha => by rw [hg4 a (by omega) (by omega) (by omega) (by omega) (by omega) (by omega) (by omega), hm1 a (by omega) (by omega), hq.1 a ha])
        · obtain ⟨k1, k2, k3⟩ := hH3
          exact ⟨by rw [hg4 _ (by omega) (by omega) (by omega) (by omega) (by omega) (by omega) (by omega)]; exact k1, k2, by rw [hg4 _ (by omega) (by omega) (by omega) (by omega) (by omega) (by omega) (by omega)]; exact k3⟩
        · rw [hg4 _ (by omega) (by omega) (by omega) (by omega) (by omega) (by omega) (by omega)]; exact hm2 _ (by omega)
        · rw [hg4 _ (by omega) (by omega) (by omega) (by omega) (by omega) (by omega) (by omega)]; exact hm2 _ (by omega)
        · rw [hg4 _ (by omega) (by omega) (by omega) (by omega) (by omega) (by omega) (by omega)]; exact hm1 _ (by omega) (by omega)
        · rw [hg4 _ (by omega) (by omega) (by omega) (by omega) (by omega) (by omega) (by omega)]; exact hm1 _ (by omega) (by omega)
      · have hmd2 := hmd.resolve_left (fun z => by omega)
        rw [zif_pos hmd2.1, ← hmd2.2] at hQ
        refine z_bipush (pc' := 50) dX9_dance_48 rfl (by decide) ?_
        refine z_L4I (pc' := 52) dX9_dance_50 rfl ?_
        refine z_isub (pc' := 53) dX9_dance_52 rfl (by unfold zin; omega) ?_
        refine z_ireturn rfl rfl dX9_dance_53 ?_
        exact hQ me2 hX2 hq.fr
    · rw [zif_pos (by omega)] at hQ
      refine z_bipush (pc' := 21) dX9_dance_19 rfl (by decide) ?_
      refine z_ireturn rfl rfl dX9_dance_21 ?_
      exact hQ me hX zMF.rf
  · rw [zif_pos (by omega)] at hQ
    refine z_iconst (pc' := 8) dX9_dance_7 rfl (by unfold zin; decide) ?_
    refine z_ireturn rfl rfl dX9_dance_8 ?_
    exact hQ me hX zMF.rf
set_option maxRecDepth 100000 in
set_option maxHeartbeats 1000000 in
theorem y_blockedAt {d : Nat} {sp : zSP} {me : zMe} {Q : zQ} {y : Nat} {A : zAb} {B k b : Int} (hd : 20 ≤ d) (hy : zMod sp y) (hX : zMX me y A) (hI : zIA B A) (hQ : ∀ me', zMX me' y A → zMF y me me' → Q (some (zI (zoBlocked A k b))) sp me') : zCall mX9_blockedAt d 0 0 [zR y, zI k, zI b] sp me Q := by
  refine z_met kX9_blockedAt (by simp) (by simp) ?_
  show zW mX9_blockedAt d 0 0 Q 0 [zR y, zI k, zI b, zU] [] sp me
  have hIS := hI.1
  have hgA : zgR (qW A) (qF A) := hIS.1
  have hokA : zHok (qH A) := hIS.2.1
  have hpnA : qP A = zpn (qH A) := hIS.2.2.1
  have hvA : zfv (qS A) (qC A) := hIS.2.2.2.1
  have hlA : zlim (qS A) (qC A) := hIS.2.2.2.2.1
  have hRw : ∀ p, 0 ≤ p → p < 10 → me (y + 1) p = qW A p := hX.1.1
  have hRf : ∀ i, 0 ≤ i → i < 10 → me (y + 1) (10 + i) = qF A (zpl (qW A) i) := fun i a b => zMR_f hI.1 hX.1 a b
  have hRh : ∀ i, 0 ≤ i → i < 10 → me (y + 1) (20 + i) = qH A i := hX.1.2.2.1
  have hRs : ∀ k, 0 ≤ k → k < 8 → me (y + 1) (30 + 31 * k) = qS A k := fun k a b => (hX.1.2.2.2.1 k a b).1
  have hRc : ∀ k, 0 ≤ k → k < 8 → ∀ m, 0 ≤ m → m < qS A k → ∀ q, 0 ≤ q → q < 3 → me (y + 1) (30 + 31 * k + 1 + 3 * m + q) = zdig (qC A (k * 10 + m)) q := fun k a b => (hX.1.2.2.2.1 k a b).2
  unfold zoBlocked at hQ
  refine z_L1I (pc' := 1) dX9_blockedAt_0 rfl ?_
  refine z_S1v (pc' := 4) kX9_isFigure lX9_97 dX9_blockedAt_1 rfl (by omega) (Nat.le_of_ble_eq_true rfl) ?_
  refine m_isFig2 (by omega) (fun b1 hb1 => zKv_i ?_)
  refine z_if_ne (tgt := 9) (pc' := 7) dX9_blockedAt_4 (by decide) rfl (fun h4 => ?_) (fun h4 => ?_)
  · rw [zif_pos (by omega)] at hQ
    have eLL : zLL A k 1 b = zrep (1 : Int).toNat (zord (zsteps (qS A) (qC A) k) b) := rfl
    have hLLl : (zLL A k 1 b).length = (zsteps (qS A) (qC A) k).length := by
      rw [eLL, zrep_len, zord_len]
      exact Nat.one_mul _
    have hbd := ztry_bd (h := qH A) (zLL A k 1 b) (qW A, qF A) 0 (by omega)
    refine z_L0R (pc' := 10) dX9_blockedAt_9 rfl ?_
    refine z_L1I (pc' := 11) dX9_blockedAt_10 rfl ?_
    refine z_iconst (pc' := 12) dX9_blockedAt_11 rfl (by unfold zin; decide) ?_
    refine z_L2I (pc' := 13) dX9_blockedAt_12 rfl ?_
    refine z_V3v (pc' := 16) (ci := 9) kX9_go lX9_140 dX9_blockedAt_13 rfl (by omega) (Nat.le_of_ble_eq_true rfl) (by decide) rfl hy.s ?_
    refine m_go (by omega) hy hgA hokA hvA hlA (by omega) (by omega) (by omega) (by omega) hRw (fun p p0 p1 => hX.1.2.1 p p0 p1) hRh hRs hRc (fun made me1 hmd hm4 hr hbk hfr => zKv_i ?_)
    rw [← eLL] at hmd
    refine z_S3I (pc' := 17) rfl dX9_blockedAt_16 rfl ?_
    refine z_L0R (pc' := 18) dX9_blockedAt_17 rfl ?_
    refine z_V00 (pc' := 21) (ci := 9) kX9_goBack lX9_144 dX9_blockedAt_18 rfl (by omega) (Nat.le_of_ble_eq_true rfl) (by decide) rfl hy.s ?_
    refine m_goBack hy (zK0_i ?_)
    have hq := zgoBack hr hbk hfr
    have hX2 := hq.mx hX
    have hm42 : zset me1 (y + 1) (zfil (me1 (y + 1)) (me1 (y + 10)) 20) (y + 4) k = ((zsteps (qS A) (qC A) k).length : Int) := by rw [zset_ne _ _ _ (by omega)]; exact hm4
    revert hq hX2 hm42
    generalize zset me1 (y + 1) (zfil (me1 (y + 1)) (me1 (y + 10)) 20) = me2
    intro hq hX2 hm42
    refine z_L3I (pc' := 22) dX9_blockedAt_21 rfl ?_
    refine z_L0R (pc' := 23) dX9_blockedAt_22 rfl ?_
    refine z_getR (pc' := 26) (ki := 5) 5 fX9_19.l rfl rfl dX9_blockedAt_23 rfl hy.s hy.p5 ?_
    refine z_L1I (pc' := 27) dX9_blockedAt_26 rfl ?_
    refine z_ild (pc' := 28) dX9_blockedAt_27 rfl hy.a4 (by omega) (by omega) ?_
    rw [hm42]
    refine z_icmp_ge (tgt := 35) (pc' := 31) dX9_blockedAt_28 (by decide) rfl (fun h28 => ?_) (fun h28 => ?_)
    · refine z_bipush (pc' := 37) dX9_blockedAt_35 rfl (by decide) ?_
      refine z_ireturn rfl rfl dX9_blockedAt_37 ?_
      first
      | (have hmd2 := (hmd.resolve_left (fun z => by omega)).2
         rw [hmd2]
         exact hQ me2 hX2 hq.fr)
      | (have hmd1 := (hmd.resolve_right (fun z => by omega)).1
         rw [hmd1] at hQ
         exact hQ me2 hX2 hq.fr)
    · refine z_L3I (pc' := 32) dX9_blockedAt_31 rfl ?_
      refine z_goto (tgt := 37) dX9_blockedAt_32 (by decide) ?_
      refine z_ireturn rfl rfl dX9_blockedAt_37 ?_
      first
      | (have hmd2 := (hmd.resolve_left (fun z => by omega)).2
         rw [hmd2]
         exact hQ me2 hX2 hq.fr)
      | (have hmd1 := (hmd.resolve_right (fun z => by omega)).1
         rw [hmd1] at hQ
         exact hQ me2 hX2 hq.fr)
  · rw [zif_neg (by omega)] at hQ
    refine z_iconst (pc' := 8) dX9_blockedAt_7 rfl (by unfold zin; decide) ?_
    refine z_ireturn rfl rfl dX9_blockedAt_8 ?_
    exact hQ me hX zMF.rf
set_option maxRecDepth 100000 in
set_option maxHeartbeats 1000000 in
theorem y_distance {d : Nat} {sp : zSP} {me : zMe} {Q : zQ} {y : Nat} {A : zAb} {B : Int} (hd : 20 ≤ d) (hy : zMod sp y) (hX : zMX me y A) (hI : zIA B A) (hQ : ∀ me', zMX me' y A → zMF y me me' → Q (some (zD (zdd (zoDist A)))) sp me') : zCall mX9_distance d 0 0 [zR y] sp me Q := by
  refine z_met kX9_distance (by simp) (by simp) ?_
  show zW mX9_distance d 0 0 Q 0 [zR y, zU, zU, zU] [] sp me
  have hIS := hI.1
  have hgA : zgR (qW A) (qF A) := hIS.1
  have hokA : zHok (qH A) := hIS.2.1
  have hpnA : qP A = zpn (qH A) := hIS.2.2.1
  have hvA : zfv (qS A) (qC A) := hIS.2.2.2.1
  have hlA : zlim (qS A) (qC A) := hIS.2.2.2.2.1
  have hRw : ∀ p, 0 ≤ p → p < 10 → me (y + 1) p = qW A p := hX.1.1
  have hRf : ∀ i, 0 ≤ i → i < 10 → me (y + 1) (10 + i) = qF A (zpl (qW A) i) := fun i a b => zMR_f hI.1 hX.1 a b
  have hRh : ∀ i, 0 ≤ i → i < 10 → me (y + 1) (20 + i) = qH A i := hX.1.2.2.1
  have hRs : ∀ k, 0 ≤ k → k < 8 → me (y + 1) (30 + 31 * k) = qS A k := fun k a b => (hX.1.2.2.2.1 k a b).1
  have hRc : ∀ k, 0 ≤ k → k < 8 → ∀ m, 0 ≤ m → m < qS A k → ∀ q, 0 ≤ q → q < 3 → me (y + 1) (30 + 31 * k + 1 + 3 * m + q) = zdig (qC A (k * 10 + m)) q := fun k a b => (hX.1.2.2.2.1 k a b).2
  have hbj : ∀ j : Int, 0 ≤ j → j ≤ 10 → 0 ≤ zSm (fun i => zdist (zpl (qW A) i) i) j ∧ zSm (fun i => zdist (zpl (qW A) i) i) j ≤ 5 * j := by
    intro j hj
    refine zSm_ind (P := fun j s => j ≤ 10 → 0 ≤ s ∧ s ≤ 5 * j) _ (fun _ => by omega) (fun j s hj hs hj2 => ?_) j hj
    have h1 := hs (by omega)
    have h2 := zpl_ok hgA hj (show j < 10 by omega)
    have h3 := zdist_in h2.1 h2.2.1 hj (show j < 10 by omega)
    omega
  have hsum : zSm (fun i => zdist (zpl (qW A) i) i) 10 = zoDist A := by
    have h1 := zSm_perm 10 (zpl (qW A)) (fun p p0 p1 => ⟨(zpl_ok hgA p0 p1).1, (zpl_ok hgA p0 p1).2.1⟩) (fun p q p0 p1 q0 q1 hh => by
      have e1 := (zpl_ok hgA p0 p1).2.2
      have e2 := (zpl_ok hgA q0 q1).2.2
      rw [← e1, hh, e2]) (fun p => zdist p (qW A p))
    unfold zoDist
    rw [show (10 : Int) = ((10 : Nat) : Int) from rfl, ← h1]
    refine zSm_congr _ (fun p p0 p1 => ?_)
    (try dsimp only)
    rw [(zpl_ok hgA p0 p1).2.2]
  have hbd := hbj 10 (by omega) (by omega)
  rw [hsum] at hbd
  refine z_iconst (pc' := 1) dX9_distance_0 rfl (by unfold zin; decide) ?_
  refine z_S1I (pc' := 2) rfl dX9_distance_1 rfl ?_
  refine z_iconst (pc' := 3) dX9_distance_2 rfl (by unfold zin; decide) ?_
  refine z_S2I (pc' := 4) rfl dX9_distance_3 rfl ?_
  suffices H : ∀ (n : Nat) (k : Int) (v : zV), 0 ≤ k → k ≤ 10 → 10 - k < n → zndv v = true → zW mX9_distance d 0 0 Q 4 [zR y, zI (zSm (fun i => zdist (zpl (qW A) i) i) k), zI k, v] [] sp me by
    exact H 11 0 zU (by omega) (by omega) (by omega) rfl
  intro n
  induction n with
  | zero => intro k v hk0 hk1 hk2; omega
  | succ n ih =>
  intro k v hk0 hk1 hk2 hv
  have hbk := hbj k hk0 hk1
  refine z_L2I (pc' := 5) dX9_distance_4 rfl ?_
  refine z_bipush (pc' := 7) dX9_distance_5 rfl (by decide) ?_
  refine z_icmp_ge (tgt := 46) (pc' := 10) dX9_distance_7 (by decide) rfl (fun h7 => ?_) (fun h7 => ?_)
  · obtain rfl : k = 10 := by omega
    rw [hsum]
    refine z_L1I (pc' := 47) dX9_distance_46 rfl ?_
    refine z_i2d (pc' := 48) dX9_distance_47 rfl ?_
    refine z_ldc2 (pc' := 51) dX9_distance_48 rfl uX9_222 ?_
    refine z_ddiv (pc' := 52) dX9_distance_51 rfl (by have h9 := zdd_ok (zoDist A).toNat (by omega); rw [Int.toNat_of_nonneg hbd.1] at h9; exact h9) ?_
    refine z_dreturn rfl rfl dX9_distance_52 ?_
    exact hQ me hX zMF.rf
  · have hpk := zpl_ok hgA hk0 (show k < 10 by omega)
    refine z_L0R (pc' := 11) dX9_distance_10 rfl ?_
    refine z_L2I (pc' := 12) dX9_distance_11 rfl ?_
    refine z_V1v (pc' := 15) (ci := 9) kX9_placeOf lX9_123 dX9_distance_12 rfl (by omega) (Nat.le_of_ble_eq_true rfl) (by decide) rfl hy.s ?_
    refine m_pl hy hgA hRw (by omega) (by omega) (zKv_i ?_)
    refine z_L2I (pc' := 16) dX9_distance_15 rfl ?_
    refine z_isub (pc' := 17) dX9_distance_16 rfl (by unfold zin; omega) ?_
    refine z_bipush (pc' := 19) dX9_distance_17 rfl (by decide) ?_
    refine z_iadd (pc' := 20) dX9_distance_19 rfl (by unfold zin; omega) ?_
    refine z_bipush (pc' := 22) dX9_distance_20 rfl (by decide) ?_
    refine z_irem (pc' := 23) dX9_distance_22 rfl (by omega) (by omega) ?_
    refine z_S3I (pc' := 24) rfl dX9_distance_23 rfl ?_
    refine z_L1I (pc' := 25) dX9_distance_24 rfl ?_
    refine z_L3I (pc' := 26) dX9_distance_25 rfl ?_
    refine z_iconst (pc' := 27) dX9_distance_26 rfl (by unfold zin; decide) ?_
    refine z_icmp_le (tgt := 37) (pc' := 30) dX9_distance_27 (by decide) rfl (fun h27 => ?_) (fun h27 => ?_)
    · refine z_L3I (pc' := 38) dX9_distance_37 rfl ?_
      refine z_iadd (pc' := 39) dX9_distance_38 rfl (by unfold zin; omega) ?_
      refine z_S1I (pc' := 40) rfl dX9_distance_39 rfl ?_
      refine z_inc2 (pc' := 43) rfl dX9_distance_40 rfl (by unfold zin; omega) ?_
      refine z_goto (tgt := 4) dX9_distance_43 (by decide) ?_
      refine zW_to (ih (k + 1) _ (by omega) (by omega) (by omega) rfl) (by
        rw [zSm_up _ _ hk0]
        unfold zdist
        congr 3
        (repeat' split) <;> omega) rfl rfl
    · refine z_bipush (pc' := 32) dX9_distance_30 rfl (by decide) ?_
      refine z_L3I (pc' := 33) dX9_distance_32 rfl ?_
      refine z_isub (pc' := 34) dX9_distance_33 rfl (by unfold zin; omega) ?_
      refine z_goto (tgt := 38) dX9_distance_34 (by decide) ?_
      refine z_iadd (pc' := 39) dX9_distance_38 rfl (by unfold zin; omega) ?_
      refine z_S1I (pc' := 40) rfl dX9_distance_39 rfl ?_
      refine z_inc2 (pc' := 43) rfl dX9_distance_40 rfl (by unfold zin; omega) ?_
      refine z_goto (tgt := 4) dX9_distance_43 (by decide) ?_
      refine zW_to (ih (k + 1) _ (by omega) (by omega) (by omega) rfl) (by
        rw [zSm_up _ _ hk0]
        unfold zdist
        congr 3
        (repeat' split) <;> omega) rfl rfl
end ZMOB

