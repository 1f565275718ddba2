section ZMO3
set_option maxRecDepth 100000 in
set_option maxHeartbeats 1000000 in
theorem y_at {d : Nat} {sp : zSP} {me : zMe} {Q : zQ} {y : Nat} {A : zAb} {B p : Int} (hd : 20 ≤ d) (hy : zMod sp y) (hX : zMX me y A) (hI : zIA B A) (hQ : ∀ me', zMX me' y A → zMF y me me' → Q (some (zI (zoAt A p))) sp me') : zCall mX9_at d 0 0 [zR y, zI p] sp me Q := by
  refine z_met kX9_at (by simp) (by simp) ?_
  show zW mX9_at d 0 0 Q 0 [zR y, zI p] [] sp me
  have hIS := hI.1
  have hgA : zgR (qW A) (qF A) := hIS.1
  have hokA : zHok (qH A) := hIS.2.1
  have hpnA : qP A = zpn (qH A) := hIS.2.2.1
  have hvA : zfv (qS A) (qC A) := hIS.2.2.2.1
  have hlA : zlim (qS A) (qC A) := hIS.2.2.2.2.1
  have hRw : ∀ p, 0 ≤ p → p < 10 → me (y + 1) p = qW A p := hX.1.1
  have hRf : ∀ i, 0 ≤ i → i < 10 → me (y + 1) (10 + i) = qF A (zpl (qW A) i) := fun i a b => zMR_f hI.1 hX.1 a b
  have hRh : ∀ i, 0 ≤ i → i < 10 → me (y + 1) (20 + i) = qH A i := hX.1.2.2.1
  have hRs : ∀ k, 0 ≤ k → k < 8 → me (y + 1) (30 + 31 * k) = qS A k := fun k a b => (hX.1.2.2.2.1 k a b).1
  have hRc : ∀ k, 0 ≤ k → k < 8 → ∀ m, 0 ≤ m → m < qS A k → ∀ q, 0 ≤ q → q < 3 → me (y + 1) (30 + 31 * k + 1 + 3 * m + q) = zdig (qC A (k * 10 + m)) q := fun k a b => (hX.1.2.2.2.1 k a b).2
  unfold zoAt at hQ
  refine z_L1I (pc' := 1) dX9_at_0 rfl ?_
  refine z_S1v (pc' := 4) kX9_isDancer lX9_147 dX9_at_1 rfl (by omega) (Nat.le_of_ble_eq_true rfl) ?_
  refine m_isDan2 (by omega) (fun b hb => zKv_i ?_)
  refine z_if_eq (tgt := 18) (pc' := 7) dX9_at_4 (by decide) rfl (fun h4 => ?_) (fun h4 => ?_)
  · rw [zif_neg (by omega)] at hQ
    refine z_iconst (pc' := 19) dX9_at_18 rfl (by unfold zin; decide) ?_
    refine z_ireturn rfl rfl dX9_at_19 ?_
    exact hQ me hX zMF.rf
  · refine z_L0R (pc' := 8) dX9_at_7 rfl ?_
    refine z_getR (pc' := 11) (ki := 0) 0 fX9_7.l rfl rfl dX9_at_8 rfl hy.s hy.p0 ?_
    refine z_iconst (pc' := 12) dX9_at_11 rfl (by unfold zin; decide) ?_
    refine z_L1I (pc' := 13) dX9_at_12 rfl ?_
    refine z_iadd (pc' := 14) dX9_at_13 rfl (by unfold zin; omega) ?_
    refine z_ild (pc' := 15) dX9_at_14 rfl hy.a1 (by omega) (by omega) ?_
    rw [zif_pos (by omega)] at hQ
    rw [Int.zero_add, hRw p (by omega) (by omega)]
    refine z_goto (tgt := 19) dX9_at_15 (by decide) ?_
    refine z_ireturn rfl rfl dX9_at_19 ?_
    exact hQ me hX zMF.rf
set_option maxRecDepth 100000 in
set_option maxHeartbeats 1000000 in
theorem y_dancer {d : Nat} {sp : zSP} {me : zMe} {Q : zQ} {y : Nat} {A : zAb} {B i q : Int} (hd : 20 ≤ d) (hy : zMod sp y) (hX : zMX me y A) (hI : zIA B A) (hQ : ∀ me', zMX me' y A → zMF y me me' → Q (some (zI (zoDancer A i q))) sp me') : zCall mX9_dancer d 0 0 [zR y, zI i, zI q] sp me Q := by
  refine z_met kX9_dancer (by simp) (by simp) ?_
  show zW mX9_dancer d 0 0 Q 0 [zR y, zI i, zI q] [] sp me
  have hIS := hI.1
  have hgA : zgR (qW A) (qF A) := hIS.1
  have hokA : zHok (qH A) := hIS.2.1
  have hpnA : qP A = zpn (qH A) := hIS.2.2.1
  have hvA : zfv (qS A) (qC A) := hIS.2.2.2.1
  have hlA : zlim (qS A) (qC A) := hIS.2.2.2.2.1
  have hRw : ∀ p, 0 ≤ p → p < 10 → me (y + 1) p = qW A p := hX.1.1
  have hRf : ∀ i, 0 ≤ i → i < 10 → me (y + 1) (10 + i) = qF A (zpl (qW A) i) := fun i a b => zMR_f hI.1 hX.1 a b
  have hRh : ∀ i, 0 ≤ i → i < 10 → me (y + 1) (20 + i) = qH A i := hX.1.2.2.1
  have hRs : ∀ k, 0 ≤ k → k < 8 → me (y + 1) (30 + 31 * k) = qS A k := fun k a b => (hX.1.2.2.2.1 k a b).1
  have hRc : ∀ k, 0 ≤ k → k < 8 → ∀ m, 0 ≤ m → m < qS A k → ∀ q, 0 ≤ q → q < 3 → me (y + 1) (30 + 31 * k + 1 + 3 * m + q) = zdig (qC A (k * 10 + m)) q := fun k a b => (hX.1.2.2.2.1 k a b).2
  unfold zoDancer at hQ
  refine z_L1I (pc' := 1) dX9_dancer_0 rfl ?_
  refine z_S1v (pc' := 4) kX9_isDancer lX9_147 dX9_dancer_1 rfl (by omega) (Nat.le_of_ble_eq_true rfl) ?_
  refine m_isDan2 (by omega) (fun b hb => zKv_i ?_)
  refine z_if_ne (tgt := 9) (pc' := 7) dX9_dancer_4 (by decide) rfl (fun h4 => ?_) (fun h4 => ?_)
  · rw [zif_neg (by omega)] at hQ
    refine z_L2I (pc' := 10) dX9_dancer_9 rfl ?_
    refine z_if_ne (tgt := 21) (pc' := 13) dX9_dancer_10 (by decide) rfl (fun h10 => ?_) (fun h10 => ?_)
    · refine z_L2I (pc' := 22) dX9_dancer_21 rfl ?_
      refine z_iconst (pc' := 23) dX9_dancer_22 rfl (by unfold zin; decide) ?_
      refine z_icmp_ne (tgt := 38) (pc' := 26) dX9_dancer_23 (by decide) rfl (fun h23 => ?_) (fun h23 => ?_)
      · refine z_L2I (pc' := 39) dX9_dancer_38 rfl ?_
        refine z_iconst (pc' := 40) dX9_dancer_39 rfl (by unfold zin; decide) ?_
        refine z_icmp_ne (tgt := 55) (pc' := 43) dX9_dancer_40 (by decide) rfl (fun h40 => ?_) (fun h40 => ?_)
        · rw [zif_neg (by omega), zif_neg (by omega), zif_neg (by omega)] at hQ
          refine z_bipush (pc' := 57) dX9_dancer_55 rfl (by decide) ?_
          refine z_ireturn rfl rfl dX9_dancer_57 ?_
          exact hQ me hX zMF.rf
        · refine z_L0R (pc' := 44) dX9_dancer_43 rfl ?_
          refine z_getR (pc' := 47) (ki := 0) 0 fX9_7.l rfl rfl dX9_dancer_44 rfl hy.s hy.p0 ?_
          refine z_bipush (pc' := 49) dX9_dancer_47 rfl (by decide) ?_
          refine z_L1I (pc' := 50) dX9_dancer_49 rfl ?_
          refine z_iadd (pc' := 51) dX9_dancer_50 rfl (by unfold zin; omega) ?_
          refine z_ild (pc' := 52) dX9_dancer_51 rfl hy.a1 (by omega) (by omega) ?_
          rw [zif_neg (by omega), zif_neg (by omega), zif_pos (by omega)] at hQ
          rw [hRh i (by omega) (by omega)]
          refine z_goto (tgt := 57) dX9_dancer_52 (by decide) ?_
          refine z_ireturn rfl rfl dX9_dancer_57 ?_
          exact hQ me hX zMF.rf
      · refine z_L0R (pc' := 27) dX9_dancer_26 rfl ?_
        refine z_getR (pc' := 30) (ki := 0) 0 fX9_7.l rfl rfl dX9_dancer_27 rfl hy.s hy.p0 ?_
        refine z_bipush (pc' := 32) dX9_dancer_30 rfl (by decide) ?_
        refine z_L1I (pc' := 33) dX9_dancer_32 rfl ?_
        refine z_iadd (pc' := 34) dX9_dancer_33 rfl (by unfold zin; omega) ?_
        refine z_ild (pc' := 35) dX9_dancer_34 rfl hy.a1 (by omega) (by omega) ?_
        rw [zif_neg (by omega), zif_pos (by omega)] at hQ
        rw [hRf i (by omega) (by omega)]
        refine z_goto (tgt := 57) dX9_dancer_35 (by decide) ?_
        refine z_ireturn rfl rfl dX9_dancer_57 ?_
        exact hQ me hX zMF.rf
    · refine z_L0R (pc' := 14) dX9_dancer_13 rfl ?_
      refine z_L1I (pc' := 15) dX9_dancer_14 rfl ?_
      refine z_V1v (pc' := 18) (ci := 9) kX9_placeOf lX9_123 dX9_dancer_15 rfl (by omega) (Nat.le_of_ble_eq_true rfl) (by decide) rfl hy.s ?_
      refine m_pl hy hgA hRw (by omega) (by omega) (zKv_i ?_)
      rw [zif_pos (by omega)] at hQ
      refine z_goto (tgt := 57) dX9_dancer_18 (by decide) ?_
      refine z_ireturn rfl rfl dX9_dancer_57 ?_
      exact hQ me hX zMF.rf
  · rw [zif_pos (by omega)] at hQ
    refine z_iconst (pc' := 8) dX9_dancer_7 rfl (by unfold zin; decide) ?_
    refine z_ireturn rfl rfl dX9_dancer_8 ?_
    exact hQ me hX zMF.rf
set_option maxRecDepth 100000 in
set_option maxHeartbeats 1000000 in
theorem y_move {d : Nat} {sp : zSP} {me : zMe} {Q : zQ} {y : Nat} {A : zAb} {B k m q : Int} (hd : 20 ≤ d) (hy : zMod sp y) (hX : zMX me y A) (hI : zIA B A) (hQ : ∀ me', zMX me' y A → zMF y me me' → Q (some (zI (zoMove A k m q))) sp me') : zCall mX9_move d 0 0 [zR y, zI k, zI m, zI q] sp me Q := by
  refine z_met kX9_move (by simp) (by simp) ?_
  show zW mX9_move d 0 0 Q 0 [zR y, zI k, zI m, zI q] [] sp me
  have hIS := hI.1
  have hgA : zgR (qW A) (qF A) := hIS.1
  have hokA : zHok (qH A) := hIS.2.1
  have hpnA : qP A = zpn (qH A) := hIS.2.2.1
  have hvA : zfv (qS A) (qC A) := hIS.2.2.2.1
  have hlA : zlim (qS A) (qC A) := hIS.2.2.2.2.1
  have hRw : ∀ p, 0 ≤ p → p < 10 → me (y + 1) p = qW A p := hX.1.1
  have hRf : ∀ i, 0 ≤ i → i < 10 → me (y + 1) (10 + i) = qF A (zpl (qW A) i) := fun i a b => zMR_f hI.1 hX.1 a b
  have hRh : ∀ i, 0 ≤ i → i < 10 → me (y + 1) (20 + i) = qH A i := hX.1.2.2.1
  have hRs : ∀ k, 0 ≤ k → k < 8 → me (y + 1) (30 + 31 * k) = qS A k := fun k a b => (hX.1.2.2.2.1 k a b).1
  have hRc : ∀ k, 0 ≤ k → k < 8 → ∀ m, 0 ≤ m → m < qS A k → ∀ q, 0 ≤ q → q < 3 → me (y + 1) (30 + 31 * k + 1 + 3 * m + q) = zdig (qC A (k * 10 + m)) q := fun k a b => (hX.1.2.2.2.1 k a b).2
  unfold zoMove at hQ
  refine z_L1I (pc' := 1) dX9_move_0 rfl ?_
  refine z_S1v (pc' := 4) kX9_isFigure lX9_97 dX9_move_1 rfl (by omega) (Nat.le_of_ble_eq_true rfl) ?_
  refine m_isFig2 (by omega) (fun b hb => zKv_i ?_)
  refine z_if_eq (tgt := 22) (pc' := 7) dX9_move_4 (by decide) rfl (fun h4 => ?_) (fun h4 => ?_)
  · rw [zif_pos (by omega)] at hQ
    refine z_iconst (pc' := 23) dX9_move_22 rfl (by unfold zin; decide) ?_
    refine z_ireturn rfl rfl dX9_move_23 ?_
    exact hQ me hX zMF.rf
  · refine z_L2I (pc' := 8) dX9_move_7 rfl ?_
    refine z_iconst (pc' := 9) dX9_move_8 rfl (by unfold zin; decide) ?_
    refine z_L0R (pc' := 10) dX9_move_9 rfl ?_
    refine z_L1I (pc' := 11) dX9_move_10 rfl ?_
    refine z_V1v (pc' := 14) (ci := 9) kX9_moves lX9_81 dX9_move_11 rfl (by omega) (Nat.le_of_ble_eq_true rfl) (by decide) rfl hy.s ?_
    have hvk := hvA k (by omega) (by omega)
    refine m_moves hy (by omega) (by omega) (zKv_i ?_)
    rw [hRs k (by omega) (by omega)]
    refine z_iconst (pc' := 15) dX9_move_14 rfl (by unfold zin; decide) ?_
    refine z_isub (pc' := 16) dX9_move_15 rfl (by unfold zin; omega) ?_
    refine z_S3v (pc' := 19) kX9_in lX9_62 dX9_move_16 rfl (by omega) (Nat.le_of_ble_eq_true rfl) ?_
    refine m_in2 (fun b2 hb2 => zKv_i ?_)
    refine z_if_ne (tgt := 24) (pc' := 22) dX9_move_19 (by decide) rfl (fun h19 => ?_) (fun h19 => ?_)
    · rw [zif_neg (by omega)] at hQ
      refine z_L3I (pc' := 25) dX9_move_24 rfl ?_
      refine z_iconst (pc' := 26) dX9_move_25 rfl (by unfold zin; decide) ?_
      refine z_iconst (pc' := 27) dX9_move_26 rfl (by unfold zin; decide) ?_
      refine z_S3v (pc' := 30) kX9_in lX9_62 dX9_move_27 rfl (by omega) (Nat.le_of_ble_eq_true rfl) ?_
      refine m_in2 (fun b3 hb3 => zKv_i ?_)
      refine z_if_eq (tgt := 43) (pc' := 33) dX9_move_30 (by decide) rfl (fun h30 => ?_) (fun h30 => ?_)
      · rw [zif_neg (by omega), zif_neg (by omega), zif_neg (by omega)] at hQ
        refine z_bipush (pc' := 45) dX9_move_43 rfl (by decide) ?_
        refine z_ireturn rfl rfl dX9_move_45 ?_
        first
        | exact hQ me hX zMF.rf
        | (have hq : q = 0 ∨ q = 1 ∨ q = 2 := by omega
           rcases hq with hq | hq | hq
           · rw [zif_pos hq] at hQ
             unfold zdig
             rw [if_pos hq]
             exact hQ me hX zMF.rf
           · rw [zif_neg (by omega), zif_pos hq] at hQ
             unfold zdig
             rw [if_neg (by omega), if_pos hq]
             exact hQ me hX zMF.rf
           · rw [zif_neg (by omega), zif_neg (by omega), zif_pos hq] at hQ
             unfold zdig
             rw [if_neg (by omega), if_neg (by omega)]
             exact hQ me hX zMF.rf)
      · refine z_L0R (pc' := 34) dX9_move_33 rfl ?_
        refine z_L1I (pc' := 35) dX9_move_34 rfl ?_
        refine z_L2I (pc' := 36) dX9_move_35 rfl ?_
        refine z_L3I (pc' := 37) dX9_move_36 rfl ?_
        refine z_V3v (pc' := 40) (ci := 9) kX9_ofMove lX9_85 dX9_move_37 rfl (by omega) (Nat.le_of_ble_eq_true rfl) (by decide) rfl hy.s ?_
        refine m_ofMove hy (by omega) (by omega) (by omega) (by omega) (by omega) (by omega) (zKv_i ?_)
        rw [hRc k (by omega) (by omega) m (by omega) (by omega) q (by omega) (by omega)]
        refine z_goto (tgt := 45) dX9_move_40 (by decide) ?_
        refine z_ireturn rfl rfl dX9_move_45 ?_
        first
        | exact hQ me hX zMF.rf
        | (have hq : q = 0 ∨ q = 1 ∨ q = 2 := by omega
           rcases hq with hq | hq | hq
           · rw [zif_pos hq] at hQ
             unfold zdig
             rw [if_pos hq]
             exact hQ me hX zMF.rf
           · rw [zif_neg (by omega), zif_pos hq] at hQ
             unfold zdig
             rw [if_neg (by omega), if_pos hq]
             exact hQ me hX zMF.rf
           · rw [zif_neg (by omega), zif_neg (by omega), zif_pos hq] at hQ
             unfold zdig
             rw [if_neg (by omega), if_neg (by omega)]
             exact hQ me hX zMF.rf)
    · rw [zif_pos (by omega)] at hQ
      refine z_iconst (pc' := 23) dX9_move_22 rfl (by unfold zin; decide) ?_
      refine z_ireturn rfl rfl dX9_move_23 ?_
      exact hQ me hX zMF.rf
set_option maxRecDepth 100000 in
set_option maxHeartbeats 1000000 in
theorem y_total {d : Nat} {sp : zSP} {me : zMe} {Q : zQ} {y : Nat} {A : zAb} {B q : Int} (hd : 20 ≤ d) (hy : zMod sp y) (hX : zMX me y A) (hI : zIA B A) (hQ : ∀ me', zMX me' y A → zMF y me me' → Q (some (zI (zoTotal A q))) sp me') : zCall mX9_total d 0 0 [zR y, zI q] sp me Q := by
  refine z_met kX9_total (by simp) (by simp) ?_
  show zW mX9_total d 0 0 Q 0 [zR y, zI q] [] sp me
  have hIS := hI.1
  have hgA : zgR (qW A) (qF A) := hIS.1
  have hokA : zHok (qH A) := hIS.2.1
  have hpnA : qP A = zpn (qH A) := hIS.2.2.1
  have hvA : zfv (qS A) (qC A) := hIS.2.2.2.1
  have hlA : zlim (qS A) (qC A) := hIS.2.2.2.2.1
  have hRw : ∀ p, 0 ≤ p → p < 10 → me (y + 1) p = qW A p := hX.1.1
  have hRf : ∀ i, 0 ≤ i → i < 10 → me (y + 1) (10 + i) = qF A (zpl (qW A) i) := fun i a b => zMR_f hI.1 hX.1 a b
  have hRh : ∀ i, 0 ≤ i → i < 10 → me (y + 1) (20 + i) = qH A i := hX.1.2.2.1
  have hRs : ∀ k, 0 ≤ k → k < 8 → me (y + 1) (30 + 31 * k) = qS A k := fun k a b => (hX.1.2.2.2.1 k a b).1
  have hRc : ∀ k, 0 ≤ k → k < 8 → ∀ m, 0 ≤ m → m < qS A k → ∀ q, 0 ≤ q → q < 3 → me (y + 1) (30 + 31 * k + 1 + 3 * m + q) = zdig (qC A (k * 10 + m)) q := fun k a b => (hX.1.2.2.2.1 k a b).2
  unfold zoTotal at hQ
  refine z_L1I (pc' := 1) dX9_total_0 rfl ?_
  refine z_iconst (pc' := 2) dX9_total_1 rfl (by unfold zin; decide) ?_
  refine z_iconst (pc' := 3) dX9_total_2 rfl (by unfold zin; decide) ?_
  refine z_S3v (pc' := 6) kX9_in lX9_62 dX9_total_3 rfl (by omega) (Nat.le_of_ble_eq_true rfl) ?_
  refine m_in2 (fun b hb => zKv_i ?_)
  refine z_if_eq (tgt := 22) (pc' := 9) dX9_total_6 (by decide) rfl (fun h6 => ?_) (fun h6 => ?_)
  · rw [zif_neg (by omega), zif_neg (by omega), zif_neg (by omega)] at hQ
    refine z_bipush (pc' := 24) dX9_total_22 rfl (by decide) ?_
    refine z_ireturn rfl rfl dX9_total_24 ?_
    first
    | exact hQ me hX zMF.rf
    | (have hq : q = 0 ∨ q = 1 ∨ q = 2 := by omega
       rcases hq with hq | hq | hq
       · rw [zif_pos hq] at hQ
         subst hq
         refine (congrArg (fun v => Q (some (zI v)) sp me) (show me (y + 1) (278 + 0) = qT0 A from hX.1.2.2.2.2.1)).mpr ?_
         exact hQ me hX zMF.rf
       · rw [zif_neg (by omega), zif_pos hq] at hQ
         subst hq
         refine (congrArg (fun v => Q (some (zI v)) sp me) (show me (y + 1) (278 + 1) = qT1 A from hX.1.2.2.2.2.2.1)).mpr ?_
         exact hQ me hX zMF.rf
       · rw [zif_neg (by omega), zif_neg (by omega), zif_pos hq] at hQ
         subst hq
         refine (congrArg (fun v => Q (some (zI v)) sp me) (show me (y + 1) (278 + 2) = qT2 A from hX.1.2.2.2.2.2.2)).mpr ?_
         exact hQ me hX zMF.rf)
  · refine z_L0R (pc' := 10) dX9_total_9 rfl ?_
    refine z_getR (pc' := 13) (ki := 0) 0 fX9_7.l rfl rfl dX9_total_10 rfl hy.s hy.p0 ?_
    refine z_sipush (pc' := 16) dX9_total_13 rfl (by decide) ?_
    refine z_L1I (pc' := 17) dX9_total_16 rfl ?_
    refine z_iadd (pc' := 18) dX9_total_17 rfl (by unfold zin; omega) ?_
    refine z_ild (pc' := 19) dX9_total_18 rfl hy.a1 (by omega) (by omega) ?_
    refine z_goto (tgt := 24) dX9_total_19 (by decide) ?_
    refine z_ireturn rfl rfl dX9_total_24 ?_
    first
    | exact hQ me hX zMF.rf
    | (have hq : q = 0 ∨ q = 1 ∨ q = 2 := by omega
       rcases hq with hq | hq | hq
       · rw [zif_pos hq] at hQ
         subst hq
         refine (congrArg (fun v => Q (some (zI v)) sp me) (show me (y + 1) (278 + 0) = qT0 A from hX.1.2.2.2.2.1)).mpr ?_
         exact hQ me hX zMF.rf
       · rw [zif_neg (by omega), zif_pos hq] at hQ
         subst hq
         refine (congrArg (fun v => Q (some (zI v)) sp me) (show me (y + 1) (278 + 1) = qT1 A from hX.1.2.2.2.2.2.1)).mpr ?_
         exact hQ me hX zMF.rf
       · rw [zif_neg (by omega), zif_neg (by omega), zif_pos hq] at hQ
         subst hq
         refine (congrArg (fun v => Q (some (zI v)) sp me) (show me (y + 1) (278 + 2) = qT2 A from hX.1.2.2.2.2.2.2)).mpr ?_
         exact hQ me hX zMF.rf)
set_option maxRecDepth 100000 in
set_option maxHeartbeats 1000000 in
theorem y_count {d : Nat} {sp : zSP} {me : zMe} {Q : zQ} {y : Nat} {A : zAb} {B q : Int} (hd : 20 ≤ d) (hy : zMod sp y) (hX : zMX me y A) (hI : zIA B A) (hQ : ∀ me', zMX me' y A → zMF y me me' → Q (some (zI (zoCount A q))) sp me') : zCall mX9_count d 0 0 [zR y, zI q] sp me Q := by
  refine z_met kX9_count (by simp) (by simp) ?_
  show zW mX9_count d 0 0 Q 0 [zR y, zI q] [] sp me
  have hIS := hI.1
  have hgA : zgR (qW A) (qF A) := hIS.1
  have hokA : zHok (qH A) := hIS.2.1
  have hpnA : qP A = zpn (qH A) := hIS.2.2.1
  have hvA : zfv (qS A) (qC A) := hIS.2.2.2.1
  have hlA : zlim (qS A) (qC A) := hIS.2.2.2.2.1
  have hRw : ∀ p, 0 ≤ p → p < 10 → me (y + 1) p = qW A p := hX.1.1
  have hRf : ∀ i, 0 ≤ i → i < 10 → me (y + 1) (10 + i) = qF A (zpl (qW A) i) := fun i a b => zMR_f hI.1 hX.1 a b
  have hRh : ∀ i, 0 ≤ i → i < 10 → me (y + 1) (20 + i) = qH A i := hX.1.2.2.1
  have hRs : ∀ k, 0 ≤ k → k < 8 → me (y + 1) (30 + 31 * k) = qS A k := fun k a b => (hX.1.2.2.2.1 k a b).1
  have hRc : ∀ k, 0 ≤ k → k < 8 → ∀ m, 0 ≤ m → m < qS A k → ∀ q, 0 ≤ q → q < 3 → me (y + 1) (30 + 31 * k + 1 + 3 * m + q) = zdig (qC A (k * 10 + m)) q := fun k a b => (hX.1.2.2.2.1 k a b).2
  unfold zoCount at hQ
  refine z_L1I (pc' := 1) dX9_count_0 rfl ?_
  have hq : q = 0 ∨ q = 1 ∨ q = 2 ∨ q = 3 ∨ q = 4 ∨ q = 5 ∨ (q < 0 ∨ 5 < q) := by omega
  rcases hq with hq | hq | hq | hq | hq | hq | hq
  · subst hq
    refine z_tswIn (tgt := 40) dX9_count_1 (by decide) (by decide) rfl (by decide) ?_
    refine z_L0R (pc' := 41) dX9_count_40 rfl ?_
    refine z_iconst (pc' := 42) dX9_count_41 rfl (by unfold zin; decide) ?_
    refine z_V1v (pc' := 45) (ci := 9) kX9_atHome lX9_74 dX9_count_42 rfl (by omega) (Nat.le_of_ble_eq_true rfl) (by decide) rfl hy.s ?_
    refine m_atHome hy (zKv_i ?_)
    rw [zMR_home hX.1]
    rw [zif_pos rfl] at hQ
    refine z_ireturn rfl rfl dX9_count_45 ?_
    exact hQ me hX zMF.rf
  · subst hq
    refine z_tswIn (tgt := 46) dX9_count_1 (by decide) (by decide) rfl (by decide) ?_
    refine z_L0R (pc' := 47) dX9_count_46 rfl ?_
    refine z_iconst (pc' := 48) dX9_count_47 rfl (by unfold zin; decide) ?_
    refine z_V1v (pc' := 51) (ci := 9) kX9_atHome lX9_74 dX9_count_48 rfl (by omega) (Nat.le_of_ble_eq_true rfl) (by decide) rfl hy.s ?_
    refine m_atHome hy (zKv_i ?_)
    rw [show zSm (fun p => if me (y + 1) p = p ∧ ((0 : Int) = 0 ∨ me (y + 1) (10 + p) = 0) then (1 : Int) else 0) 10 = zSm (fun p => if qW A p = p then 1 else 0) 10 from zSm_congr _ (fun p p0 p1 => by
      (try dsimp only)
      rw [hRw p p0 p1]
      by_cases e : qW A p = p
      · rw [if_pos ⟨e, Or.inl rfl⟩, if_pos e]
      · rw [if_neg (fun z => e z.1), if_neg e])]
    rw [zif_neg (by omega), zif_pos rfl] at hQ
    refine z_ireturn rfl rfl dX9_count_51 ?_
    exact hQ me hX zMF.rf
  · subst hq
    refine z_tswIn (tgt := 52) dX9_count_1 (by decide) (by decide) rfl (by decide) ?_
    refine z_L0R (pc' := 53) dX9_count_52 rfl ?_
    refine z_V0v (pc' := 56) (ci := 9) kX9_pairs lX9_150 dX9_count_53 rfl (by omega) (Nat.le_of_ble_eq_true rfl) (by decide) rfl hy.s ?_
    refine m_pairs hy (zKv_i ?_)
    rw [show zSm (fun i => if me (y + 1) (20 + i) ≠ -5 then (1 : Int) else 0) 10 = zSm (fun i => if qH A i ≠ -5 then 1 else 0) 10 from zSm_congr _ (fun p p0 p1 => by (try dsimp only); rw [hRh p p0 p1]), zpn_cnt hokA, ← hpnA]
    rw [zif_neg (by omega), zif_neg (by omega), zif_pos rfl] at hQ
    refine z_ireturn rfl rfl dX9_count_56 ?_
    exact hQ me hX zMF.rf
  · subst hq
    refine z_tswIn (tgt := 57) dX9_count_1 (by decide) (by decide) rfl (by decide) ?_
    refine z_L0R (pc' := 58) dX9_count_57 rfl ?_
    refine z_V0v (pc' := 61) (ci := 9) kX9_figuresWithMoves lX9_207 dX9_count_58 rfl (by omega) (Nat.le_of_ble_eq_true rfl) (by decide) rfl hy.s ?_
    refine m_used (by omega) hy (zKv_i ?_)
    rw [show zSm (fun k => if 0 < me (y + 1) (30 + 31 * k) then (1 : Int) else 0) 8 = zSm (fun k => if 0 < qS A k then 1 else 0) 8 from zSm_congr _ (fun p p0 p1 => by (try dsimp only); rw [hRs p p0 p1])]
    rw [zif_neg (by omega), zif_neg (by omega), zif_neg (by omega), zif_pos rfl] at hQ
    refine z_ireturn rfl rfl dX9_count_61 ?_
    exact hQ me hX zMF.rf
  · subst hq
    refine z_tswIn (tgt := 62) dX9_count_1 (by decide) (by decide) rfl (by decide) ?_
    refine z_L0R (pc' := 63) dX9_count_62 rfl ?_
    refine z_getI (pc' := 66) (ki := 2) 2 fX9_66.l rfl rfl dX9_count_63 rfl hy.s ?_
    refine z_ireturn rfl rfl dX9_count_66 ?_
    rw [zif_neg (by omega), zif_neg (by omega), zif_neg (by omega), zif_neg (by omega), zif_pos rfl] at hQ
    rw [hX.2.1.1]
    exact hQ me hX zMF.rf
  · subst hq
    refine z_tswIn (tgt := 67) dX9_count_1 (by decide) (by decide) rfl (by decide) ?_
    refine z_L0R (pc' := 68) dX9_count_67 rfl ?_
    refine z_getI (pc' := 71) (ki := 13) 13 fX9_157.l rfl rfl dX9_count_68 rfl hy.s ?_
    refine z_ireturn rfl rfl dX9_count_71 ?_
    rw [zif_neg (by omega), zif_neg (by omega), zif_neg (by omega), zif_neg (by omega), zif_neg (by omega), zif_pos rfl] at hQ
    rw [hX.2.2.2.1]
    exact hQ me hX zMF.rf
  · refine z_tswOut (tgt := 72) dX9_count_1 (by omega) (by decide) ?_
    rw [zif_neg (by omega), zif_neg (by omega), zif_neg (by omega), zif_neg (by omega), zif_neg (by omega), zif_neg (by omega)] at hQ
    refine z_bipush (pc' := 74) dX9_count_72 rfl (by decide) ?_
    refine z_ireturn rfl rfl dX9_count_74 ?_
    exact hQ me hX zMF.rf
set_option maxRecDepth 100000 in
set_option maxHeartbeats 1000000 in
theorem y_append {d : Nat} {sp : zSP} {me : zMe} {Q : zQ} {y : Nat} {A : zAb} {B c : Int} (hd : 20 ≤ d) (hy : zMod sp y) (hX : zMX me y A) (hI : zIA B A) (hQ : ∀ me', zMX me' y (zoAppend A c).2 → zMF y me me' → Q (some (zI (zoAppend A c).1)) sp me') : zCall mX9_append d 0 0 [zR y, zI c] sp me Q := by
  refine z_met kX9_append (by simp) (by simp) ?_
  show zW mX9_append d 0 0 Q 0 [zR y, zI c] [] sp me
  have hIS := hI.1
  have hgA : zgR (qW A) (qF A) := hIS.1
  have hokA : zHok (qH A) := hIS.2.1
  have hpnA : qP A = zpn (qH A) := hIS.2.2.1
  have hvA : zfv (qS A) (qC A) := hIS.2.2.2.1
  have hlA : zlim (qS A) (qC A) := hIS.2.2.2.2.1
  have hRw : ∀ p, 0 ≤ p → p < 10 → me (y + 1) p = qW A p := hX.1.1
  have hRf : ∀ i, 0 ≤ i → i < 10 → me (y + 1) (10 + i) = qF A (zpl (qW A) i) := fun i a b => zMR_f hI.1 hX.1 a b
  have hRh : ∀ i, 0 ≤ i → i < 10 → me (y + 1) (20 + i) = qH A i := hX.1.2.2.1
  have hRs : ∀ k, 0 ≤ k → k < 8 → me (y + 1) (30 + 31 * k) = qS A k := fun k a b => (hX.1.2.2.2.1 k a b).1
  have hRc : ∀ k, 0 ≤ k → k < 8 → ∀ m, 0 ≤ m → m < qS A k → ∀ q, 0 ≤ q → q < 3 → me (y + 1) (30 + 31 * k + 1 + 3 * m + q) = zdig (qC A (k * 10 + m)) q := fun k a b => (hX.1.2.2.2.1 k a b).2
  have hN := hI.2.2.2.1
  have e13 : me y 13 = qN A := hX.2.2.2.1
  have e11 : me (y + 11) = qG A := hX.2.2.2.2
  unfold zoAppend at hQ
  refine z_L1I (pc' := 1) dX9_append_0 rfl ?_
  refine z_bipush (pc' := 3) dX9_append_1 rfl (by decide) ?_
  refine z_bipush (pc' := 5) dX9_append_3 rfl (by decide) ?_
  refine z_S3v (pc' := 8) kX9_in lX9_62 dX9_append_5 rfl (by omega) (Nat.le_of_ble_eq_true rfl) ?_
  refine m_in2 (fun b hb => zKv_i ?_)
  refine z_if_ne (tgt := 14) (pc' := 11) dX9_append_8 (by decide) rfl (fun h8 => ?_) (fun h8 => ?_)
  · rw [zif_neg (by omega)] at hQ
    refine z_L0R (pc' := 15) dX9_append_14 rfl ?_
    refine z_getI (pc' := 18) (ki := 13) 13 fX9_157.l rfl rfl dX9_append_15 rfl hy.s ?_
    refine z_bipush (pc' := 20) dX9_append_18 rfl (by decide) ?_
    refine z_icmp_ne (tgt := 26) (pc' := 23) dX9_append_20 (by decide) rfl (fun h20 => ?_) (fun h20 => ?_)
    · rw [zif_neg (by omega)] at hQ
      refine z_L0R (pc' := 27) dX9_append_26 rfl ?_
      refine z_getR (pc' := 30) (ki := 12) 12 fX9_40.l rfl rfl dX9_append_27 rfl hy.s hy.p12 ?_
      refine z_L0R (pc' := 31) dX9_append_30 rfl ?_
      refine z_getI (pc' := 34) (ki := 13) 13 fX9_157.l rfl rfl dX9_append_31 rfl hy.s ?_
      refine z_L1I (pc' := 35) dX9_append_34 rfl ?_
      refine z_ist (pc' := 36) dX9_append_35 rfl hy.a11 (by omega) (by omega) ?_
      refine z_L0R (pc' := 37) dX9_append_36 rfl ?_
      refine z_dupR (pc' := 38) dX9_append_37 rfl ?_
      refine z_getI (pc' := 41) (ki := 13) 13 fX9_157.l rfl rfl dX9_append_38 rfl hy.s ?_
      rw [zset_ne _ _ _ (by omega), e13]
      refine z_iconst (pc' := 42) dX9_append_41 rfl (by unfold zin; decide) ?_
      refine z_iadd (pc' := 43) dX9_append_42 rfl (by unfold zin; omega) ?_
      refine z_putI (pc' := 46) (ki := 13) 13 fX9_157.l rfl (Or.inl rfl) rfl dX9_append_43 rfl hy.s ?_
      refine z_L0R (pc' := 47) dX9_append_46 rfl ?_
      refine z_getI (pc' := 50) (ki := 13) 13 fX9_157.l rfl rfl dX9_append_47 rfl hy.s ?_
      refine z_ireturn rfl rfl dX9_append_50 ?_
      rw [e11]
      generalize hm : zset (zset me (y + 11) (zup (qG A) (qN A) c)) y _ = me2
      have o2 : ∀ a, a ≠ y → a ≠ y + 11 → me2 a = me a := fun a ha hb => by rw [← hm, zset_ne _ _ _ ha, zset_ne _ _ _ hb]
      have h11 : me2 (y + 11) = zup (qG A) (qN A) c := by rw [← hm, zset_ne _ _ _ (by omega), zset_eq]
      have hf : ∀ i, i ≠ 13 → me2 y i = me y i := fun i hi => by rw [← hm, zset_eq, zup_ne _ _ _ hi, zset_ne _ _ _ (by omega)]
      have h13 : me2 y 13 = qN A + 1 := by rw [← hm, zset_eq]; exact zup_eq _ _ _
      rw [h13]
      obtain ⟨g1, ⟨k1, k2, k3⟩, g3, g4, g5⟩ := hX
      refine hQ me2 ⟨by rw [o2 _ (by omega) (by omega)]; exact g1, ⟨by rw [hf _ (by omega)]; exact k1, k2, by rw [o2 _ (by omega) (by omega)]; exact k3⟩, by rw [hf _ (by omega), o2 _ (by omega) (by omega)]; exact g3, h13, h11⟩ (fun a ha => o2 a (by omega) (by omega))
    · rw [zif_pos (by omega)] at hQ
      refine z_bipush (pc' := 25) dX9_append_23 rfl (by decide) ?_
      refine z_ireturn rfl rfl dX9_append_25 ?_
      exact hQ me hX zMF.rf
  · rw [zif_pos (by omega)] at hQ
    refine z_bipush (pc' := 13) dX9_append_11 rfl (by decide) ?_
    refine z_ireturn rfl rfl dX9_append_13 ?_
    exact hQ me hX zMF.rf
set_option maxRecDepth 100000 in
set_option maxHeartbeats 1000000 in
theorem y_clear {d : Nat} {sp : zSP} {me : zMe} {Q : zQ} {y : Nat} {A : zAb} {B : Int} (hd : 20 ≤ d) (hy : zMod sp y) (hX : zMX me y A) (hI : zIA B A) (hQ : ∀ me', zMX me' y (zoClear A).2 → zMF y me me' → Q (some (zI (zoClear A).1)) sp me') : zCall mX9_clearText d 0 0 [zR y] sp me Q := by
  refine z_met kX9_clearText (by simp) (by simp) ?_
  show zW mX9_clearText d 0 0 Q 0 [zR y, zU] [] sp me
  have e13 : me y 13 = qN A := hX.2.2.2.1
  unfold zoClear at hQ
  refine z_L0R (pc' := 1) dX9_clearText_0 rfl ?_
  refine z_getI (pc' := 4) (ki := 13) 13 fX9_157.l rfl rfl dX9_clearText_1 rfl hy.s ?_
  refine z_S1I (pc' := 5) rfl dX9_clearText_4 rfl ?_
  refine z_L0R (pc' := 6) dX9_clearText_5 rfl ?_
  refine z_iconst (pc' := 7) dX9_clearText_6 rfl (by unfold zin; decide) ?_
  refine z_putI (pc' := 10) (ki := 13) 13 fX9_157.l rfl (Or.inl rfl) rfl dX9_clearText_7 rfl hy.s ?_
  refine z_L1I (pc' := 11) dX9_clearText_10 rfl ?_
  refine z_ireturn rfl rfl dX9_clearText_11 ?_
  rw [e13]
  have hf : ∀ i, i ≠ 13 → zset me y (zup (me y) 13 0) y i = me y i := fun i hi => by rw [zset_eq, zup_ne _ _ _ hi]
  have o2 : ∀ a, a ≠ y → zset me y (zup (me y) 13 0) a = me a := fun a ha => zset_ne _ _ _ ha
  obtain ⟨g1, ⟨k1, k2, k3⟩, g3, g4, g5⟩ := hX
  refine hQ _ ⟨by rw [o2 _ (by omega)]; exact g1, ⟨by rw [hf _ (by omega)]; exact k1, k2, by rw [o2 _ (by omega)]; exact k3⟩, by rw [hf _ (by omega), o2 _ (by omega)]; exact g3, by rw [zset_eq]; exact zup_eq _ _ _, by rw [o2 _ (by omega)]; exact g5⟩ (fun a ha => o2 a (by omega))
end ZMO3

