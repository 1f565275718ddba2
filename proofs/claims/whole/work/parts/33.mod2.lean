section ZMO2
set_option maxRecDepth 100000 in
set_option maxHeartbeats 1000000 in
theorem m_in2 {d : Nat} {sp : zSP} {me : zMe} {Q : zQ} {v lo hi : Int} (hQ : ∀ b, (b = 1 ∧ lo ≤ v ∧ v ≤ hi) ∨ (b = 0 ∧ (v < lo ∨ hi < v)) → Q (some (zI b)) sp me) : zCall mX9_in d 0 0 [zI v, zI lo, zI hi] sp me Q := by
  refine z_met kX9_in (by simp) (by simp) ?_
  show zW mX9_in d 0 0 Q 0 [zI v, zI lo, zI hi] [] sp me
  refine z_L0I (pc' := 1) dX9_in_0 rfl ?_
  refine z_L1I (pc' := 2) dX9_in_1 rfl ?_
  refine z_icmp_lt (tgt := 14) (pc' := 5) dX9_in_2 (by decide) rfl (fun h2 => ?_) (fun h2 => ?_)
  · refine z_iconst (pc' := 15) dX9_in_14 rfl (by unfold zin; decide) ?_
    refine z_zreturn rfl rfl dX9_in_15 (by omega) ?_
    exact hQ _ (by omega)
  · refine z_L0I (pc' := 6) dX9_in_5 rfl ?_
    refine z_L2I (pc' := 7) dX9_in_6 rfl ?_
    refine z_icmp_gt (tgt := 14) (pc' := 10) dX9_in_7 (by decide) rfl (fun h7 => ?_) (fun h7 => ?_)
    · refine z_iconst (pc' := 15) dX9_in_14 rfl (by unfold zin; decide) ?_
      refine z_zreturn rfl rfl dX9_in_15 (by omega) ?_
      exact hQ _ (by omega)
    · refine z_iconst (pc' := 11) dX9_in_10 rfl (by unfold zin; decide) ?_
      refine z_goto (tgt := 15) dX9_in_11 (by decide) ?_
      refine z_zreturn rfl rfl dX9_in_15 (by omega) ?_
      exact hQ _ (by omega)
set_option maxRecDepth 100000 in
set_option maxHeartbeats 1000000 in
theorem m_isFig2 {d : Nat} {sp : zSP} {me : zMe} {Q : zQ} {v : Int} (hd : 1 ≤ d) (hQ : ∀ b, (b = 1 ∧ 0 ≤ v ∧ v < 8) ∨ (b = 0 ∧ (v < 0 ∨ 8 ≤ v)) → Q (some (zI b)) sp me) : zCall mX9_isFigure d 0 0 [zI v] sp me Q := by
  refine z_met kX9_isFigure (by simp) (by simp) ?_
  show zW mX9_isFigure d 0 0 Q 0 [zI v] [] sp me
  refine z_L0I (pc' := 1) dX9_isFigure_0 rfl ?_
  refine z_iconst (pc' := 2) dX9_isFigure_1 rfl (by unfold zin; decide) ?_
  refine z_bipush (pc' := 4) dX9_isFigure_2 rfl (by decide) ?_
  refine z_S3v (pc' := 7) kX9_in lX9_62 dX9_isFigure_4 rfl (by omega) (Nat.le_of_ble_eq_true rfl) ?_
  refine m_in2 (fun b hb => zKv_i ?_)
  refine z_zreturn rfl rfl dX9_isFigure_7 (by omega) ?_
  exact hQ _ (by omega)
set_option maxRecDepth 100000 in
set_option maxHeartbeats 1000000 in
theorem m_isDan2 {d : Nat} {sp : zSP} {me : zMe} {Q : zQ} {v : Int} (hd : 1 ≤ d) (hQ : ∀ b, (b = 1 ∧ 0 ≤ v ∧ v < 10) ∨ (b = 0 ∧ (v < 0 ∨ 10 ≤ v)) → Q (some (zI b)) sp me) : zCall mX9_isDancer d 0 0 [zI v] sp me Q := by
  refine z_met kX9_isDancer (by simp) (by simp) ?_
  show zW mX9_isDancer d 0 0 Q 0 [zI v] [] sp me
  refine z_L0I (pc' := 1) dX9_isDancer_0 rfl ?_
  refine z_iconst (pc' := 2) dX9_isDancer_1 rfl (by unfold zin; decide) ?_
  refine z_bipush (pc' := 4) dX9_isDancer_2 rfl (by decide) ?_
  refine z_S3v (pc' := 7) kX9_in lX9_62 dX9_isDancer_4 rfl (by omega) (Nat.le_of_ble_eq_true rfl) ?_
  refine m_in2 (fun b hb => zKv_i ?_)
  refine z_zreturn rfl rfl dX9_isDancer_7 (by omega) ?_
  exact hQ _ (by omega)
set_option maxRecDepth 100000 in
set_option maxHeartbeats 1000000 in
theorem m_isMove {d : Nat} {sp : zSP} {me : zMe} {Q : zQ} {f k a b : Int} (hd : 1 ≤ d) (hf0 : 0 ≤ f) (hf8 : f < 8) (hQ : ∀ v, (v = 1 ∧ zmv f k a b) ∨ (v = 0 ∧ ¬ zmv f k a b) → Q (some (zI v)) sp me) : zCall mX9_isMove d 0 0 [zI f, zI k, zI a, zI b] sp me Q := by
  refine z_met kX9_isMove (by simp) (by simp) ?_
  show zW mX9_isMove d 0 0 Q 0 [zI f, zI k, zI a, zI b] [] sp me
  unfold zmv at hQ
  refine z_L1I (pc' := 1) dX9_isMove_0 rfl ?_
  have hk : k = 0 ∨ k = 1 ∨ k = 2 ∨ k = 3 ∨ k = 4 ∨ (k < 0 ∨ 4 < k) := by omega
  rcases hk with hk | hk | hk | hk | hk | hk
  · subst hk
    refine z_tswIn (tgt := 36) dX9_isMove_1 (by decide) (by decide) rfl (by decide) ?_
    refine z_L2I (pc' := 37) dX9_isMove_36 rfl ?_
    refine z_iconst (pc' := 38) dX9_isMove_37 rfl (by unfold zin; decide) ?_
    refine z_bipush (pc' := 40) dX9_isMove_38 rfl (by decide) ?_
    refine z_S3v (pc' := 43) kX9_in lX9_62 dX9_isMove_40 rfl (by omega) (Nat.le_of_ble_eq_true rfl) ?_
    refine m_in2 (fun b1 hb1 => zKv_i ?_)
    refine z_if_eq (tgt := 62) (pc' := 46) dX9_isMove_43 (by decide) rfl (fun h43 => ?_) (fun h43 => ?_)
    · refine z_iconst (pc' := 63) dX9_isMove_62 rfl (by unfold zin; decide) ?_
      refine z_zreturn rfl rfl dX9_isMove_63 (by omega) ?_
      exact hQ _ (by omega)
    · refine z_L3I (pc' := 47) dX9_isMove_46 rfl ?_
      refine z_L2I (pc' := 48) dX9_isMove_47 rfl ?_
      refine z_iconst (pc' := 49) dX9_isMove_48 rfl (by unfold zin; decide) ?_
      refine z_iadd (pc' := 50) dX9_isMove_49 rfl (by unfold zin; omega) ?_
      refine z_bipush (pc' := 52) dX9_isMove_50 rfl (by decide) ?_
      refine z_S3v (pc' := 55) kX9_in lX9_62 dX9_isMove_52 rfl (by omega) (Nat.le_of_ble_eq_true rfl) ?_
      refine m_in2 (fun b2 hb2 => zKv_i ?_)
      refine z_if_eq (tgt := 62) (pc' := 58) dX9_isMove_55 (by decide) rfl (fun h55 => ?_) (fun h55 => ?_)
      · refine z_iconst (pc' := 63) dX9_isMove_62 rfl (by unfold zin; decide) ?_
        refine z_zreturn rfl rfl dX9_isMove_63 (by omega) ?_
        exact hQ _ (by omega)
      · refine z_iconst (pc' := 59) dX9_isMove_58 rfl (by unfold zin; decide) ?_
        refine z_goto (tgt := 63) dX9_isMove_59 (by decide) ?_
        refine z_zreturn rfl rfl dX9_isMove_63 (by omega) ?_
        exact hQ _ (by omega)
  · subst hk
    refine z_tswIn (tgt := 64) dX9_isMove_1 (by decide) (by decide) rfl (by decide) ?_
    refine z_L2I (pc' := 65) dX9_isMove_64 rfl ?_
    refine z_iconst (pc' := 66) dX9_isMove_65 rfl (by unfold zin; decide) ?_
    refine z_bipush (pc' := 68) dX9_isMove_66 rfl (by decide) ?_
    refine z_S3v (pc' := 71) kX9_in lX9_62 dX9_isMove_68 rfl (by omega) (Nat.le_of_ble_eq_true rfl) ?_
    refine m_in2 (fun b1 hb1 => zKv_i ?_)
    refine z_if_eq (tgt := 87) (pc' := 74) dX9_isMove_71 (by decide) rfl (fun h71 => ?_) (fun h71 => ?_)
    · refine z_iconst (pc' := 88) dX9_isMove_87 rfl (by unfold zin; decide) ?_
      refine z_zreturn rfl rfl dX9_isMove_88 (by omega) ?_
      exact hQ _ (by omega)
    · refine z_L3I (pc' := 75) dX9_isMove_74 rfl ?_
      refine z_iconst (pc' := 76) dX9_isMove_75 rfl (by unfold zin; decide) ?_
      refine z_iconst (pc' := 77) dX9_isMove_76 rfl (by unfold zin; decide) ?_
      refine z_S3v (pc' := 80) kX9_in lX9_62 dX9_isMove_77 rfl (by omega) (Nat.le_of_ble_eq_true rfl) ?_
      refine m_in2 (fun b2 hb2 => zKv_i ?_)
      refine z_if_eq (tgt := 87) (pc' := 83) dX9_isMove_80 (by decide) rfl (fun h80 => ?_) (fun h80 => ?_)
      · refine z_iconst (pc' := 88) dX9_isMove_87 rfl (by unfold zin; decide) ?_
        refine z_zreturn rfl rfl dX9_isMove_88 (by omega) ?_
        exact hQ _ (by omega)
      · refine z_iconst (pc' := 84) dX9_isMove_83 rfl (by unfold zin; decide) ?_
        refine z_goto (tgt := 88) dX9_isMove_84 (by decide) ?_
        refine z_zreturn rfl rfl dX9_isMove_88 (by omega) ?_
        exact hQ _ (by omega)
  · subst hk
    refine z_tswIn (tgt := 89) dX9_isMove_1 (by decide) (by decide) rfl (by decide) ?_
    refine z_L2I (pc' := 90) dX9_isMove_89 rfl ?_
    refine z_iconst (pc' := 91) dX9_isMove_90 rfl (by unfold zin; decide) ?_
    refine z_bipush (pc' := 93) dX9_isMove_91 rfl (by decide) ?_
    refine z_S3v (pc' := 96) kX9_in lX9_62 dX9_isMove_93 rfl (by omega) (Nat.le_of_ble_eq_true rfl) ?_
    refine m_in2 (fun b1 hb1 => zKv_i ?_)
    refine z_if_eq (tgt := 107) (pc' := 99) dX9_isMove_96 (by decide) rfl (fun h96 => ?_) (fun h96 => ?_)
    · refine z_iconst (pc' := 108) dX9_isMove_107 rfl (by unfold zin; decide) ?_
      refine z_zreturn rfl rfl dX9_isMove_108 (by omega) ?_
      exact hQ _ (by omega)
    · refine z_L3I (pc' := 100) dX9_isMove_99 rfl ?_
      refine z_if_ne (tgt := 107) (pc' := 103) dX9_isMove_100 (by decide) rfl (fun h100 => ?_) (fun h100 => ?_)
      · refine z_iconst (pc' := 108) dX9_isMove_107 rfl (by unfold zin; decide) ?_
        refine z_zreturn rfl rfl dX9_isMove_108 (by omega) ?_
        exact hQ _ (by omega)
      · refine z_iconst (pc' := 104) dX9_isMove_103 rfl (by unfold zin; decide) ?_
        refine z_goto (tgt := 108) dX9_isMove_104 (by decide) ?_
        refine z_zreturn rfl rfl dX9_isMove_108 (by omega) ?_
        exact hQ _ (by omega)
  · subst hk
    refine z_tswIn (tgt := 36) dX9_isMove_1 (by decide) (by decide) rfl (by decide) ?_
    refine z_L2I (pc' := 37) dX9_isMove_36 rfl ?_
    refine z_iconst (pc' := 38) dX9_isMove_37 rfl (by unfold zin; decide) ?_
    refine z_bipush (pc' := 40) dX9_isMove_38 rfl (by decide) ?_
    refine z_S3v (pc' := 43) kX9_in lX9_62 dX9_isMove_40 rfl (by omega) (Nat.le_of_ble_eq_true rfl) ?_
    refine m_in2 (fun b1 hb1 => zKv_i ?_)
    refine z_if_eq (tgt := 62) (pc' := 46) dX9_isMove_43 (by decide) rfl (fun h43 => ?_) (fun h43 => ?_)
    · refine z_iconst (pc' := 63) dX9_isMove_62 rfl (by unfold zin; decide) ?_
      refine z_zreturn rfl rfl dX9_isMove_63 (by omega) ?_
      exact hQ _ (by omega)
    · refine z_L3I (pc' := 47) dX9_isMove_46 rfl ?_
      refine z_L2I (pc' := 48) dX9_isMove_47 rfl ?_
      refine z_iconst (pc' := 49) dX9_isMove_48 rfl (by unfold zin; decide) ?_
      refine z_iadd (pc' := 50) dX9_isMove_49 rfl (by unfold zin; omega) ?_
      refine z_bipush (pc' := 52) dX9_isMove_50 rfl (by decide) ?_
      refine z_S3v (pc' := 55) kX9_in lX9_62 dX9_isMove_52 rfl (by omega) (Nat.le_of_ble_eq_true rfl) ?_
      refine m_in2 (fun b2 hb2 => zKv_i ?_)
      refine z_if_eq (tgt := 62) (pc' := 58) dX9_isMove_55 (by decide) rfl (fun h55 => ?_) (fun h55 => ?_)
      · refine z_iconst (pc' := 63) dX9_isMove_62 rfl (by unfold zin; decide) ?_
        refine z_zreturn rfl rfl dX9_isMove_63 (by omega) ?_
        exact hQ _ (by omega)
      · refine z_iconst (pc' := 59) dX9_isMove_58 rfl (by unfold zin; decide) ?_
        refine z_goto (tgt := 63) dX9_isMove_59 (by decide) ?_
        refine z_zreturn rfl rfl dX9_isMove_63 (by omega) ?_
        exact hQ _ (by omega)
  · subst hk
    refine z_tswIn (tgt := 109) dX9_isMove_1 (by decide) (by decide) rfl (by decide) ?_
    refine z_L2I (pc' := 110) dX9_isMove_109 rfl ?_
    refine z_iconst (pc' := 111) dX9_isMove_110 rfl (by unfold zin; decide) ?_
    refine z_L0I (pc' := 112) dX9_isMove_111 rfl ?_
    refine z_iconst (pc' := 113) dX9_isMove_112 rfl (by unfold zin; decide) ?_
    refine z_isub (pc' := 114) dX9_isMove_113 rfl (by unfold zin; omega) ?_
    refine z_S3v (pc' := 117) kX9_in lX9_62 dX9_isMove_114 rfl (by omega) (Nat.le_of_ble_eq_true rfl) ?_
    refine m_in2 (fun b1 hb1 => zKv_i ?_)
    refine z_if_eq (tgt := 128) (pc' := 120) dX9_isMove_117 (by decide) rfl (fun h117 => ?_) (fun h117 => ?_)
    · refine z_iconst (pc' := 129) dX9_isMove_128 rfl (by unfold zin; decide) ?_
      refine z_zreturn rfl rfl dX9_isMove_129 (by omega) ?_
      exact hQ _ (by omega)
    · refine z_L3I (pc' := 121) dX9_isMove_120 rfl ?_
      refine z_if_ne (tgt := 128) (pc' := 124) dX9_isMove_121 (by decide) rfl (fun h121 => ?_) (fun h121 => ?_)
      · refine z_iconst (pc' := 129) dX9_isMove_128 rfl (by unfold zin; decide) ?_
        refine z_zreturn rfl rfl dX9_isMove_129 (by omega) ?_
        exact hQ _ (by omega)
      · refine z_iconst (pc' := 125) dX9_isMove_124 rfl (by unfold zin; decide) ?_
        refine z_goto (tgt := 129) dX9_isMove_125 (by decide) ?_
        refine z_zreturn rfl rfl dX9_isMove_129 (by omega) ?_
        exact hQ _ (by omega)
  · refine z_tswOut (tgt := 130) dX9_isMove_1 (by omega) (by decide) ?_
    refine z_iconst (pc' := 131) dX9_isMove_130 rfl (by unfold zin; decide) ?_
    refine z_zreturn rfl rfl dX9_isMove_131 (by omega) ?_
    exact hQ _ (by omega)
set_option maxRecDepth 100000 in
set_option maxHeartbeats 1000000 in
theorem m_atHome {d : Nat} {sp : zSP} {me : zMe} {Q : zQ} {y : Nat} {b : Int} (hy : zMod sp y) (hQ : Q (some (zI (zSm (fun p => if me (y + 1) p = p ∧ (b = 0 ∨ me (y + 1) (10 + p) = 0) then 1 else 0) 10))) sp me) : zCall mX9_atHome d 0 0 [zR y, zI b] sp me Q := by
  refine z_met kX9_atHome (by simp) (by simp) ?_
  show zW mX9_atHome d 0 0 Q 0 [zR y, zI b, zU, zU] [] sp me
  refine z_iconst (pc' := 1) dX9_atHome_0 rfl (by unfold zin; decide) ?_
  refine z_S2I (pc' := 2) rfl dX9_atHome_1 rfl ?_
  refine z_iconst (pc' := 3) dX9_atHome_2 rfl (by unfold zin; decide) ?_
  refine z_S3I (pc' := 4) rfl dX9_atHome_3 rfl ?_
  suffices H : ∀ (n : Nat) (k : Int), 0 ≤ k → k ≤ 10 → 10 - k < n → zW mX9_atHome d 0 0 Q 4 [zR y, zI b, zI (zSm (fun p => if me (y + 1) p = p ∧ (b = 0 ∨ me (y + 1) (10 + p) = 0) then 1 else 0) k), zI k] [] sp (me) by
    refine zW_to (H ((10 - 0 + 1 : Int).toNat) (0) (by omega) (by omega) (by omega) ) rfl rfl ?_
    rfl
  intro n
  induction n with
  | zero => intro k hk0 hk1 hk2; omega
  | succ n ih =>
  intro k hk0 hk1 hk2
  refine z_L3I (pc' := 5) dX9_atHome_4 rfl ?_
  refine z_bipush (pc' := 7) dX9_atHome_5 rfl (by decide) ?_
  refine z_icmp_ge (tgt := 52) (pc' := 10) dX9_atHome_7 (by decide) rfl (fun h7 => ?_) (fun h7 => ?_)
  · obtain rfl : k = 10 := by omega
    refine z_L2I (pc' := 53) dX9_atHome_52 rfl ?_
    refine z_ireturn rfl rfl dX9_atHome_53 ?_
    exact hQ
  · have hbd := zSm_bd (g := fun p => if me (y + 1) p = p ∧ (b = 0 ∨ me (y + 1) (10 + p) = 0) then 1 else 0) (a := 0) (b := 1) (fun p _ => by split <;> omega) k hk0
    refine z_L2I (pc' := 11) dX9_atHome_10 rfl ?_
    refine z_L0R (pc' := 12) dX9_atHome_11 rfl ?_
    refine z_getR (pc' := 15) (ki := 0) 0 fX9_7.l rfl rfl dX9_atHome_12 rfl hy.s hy.p0 ?_
    refine z_iconst (pc' := 16) dX9_atHome_15 rfl (by unfold zin; decide) ?_
    refine z_L3I (pc' := 17) dX9_atHome_16 rfl ?_
    refine z_iadd (pc' := 18) dX9_atHome_17 rfl (by unfold zin; omega) ?_
    refine z_ild (pc' := 19) dX9_atHome_18 rfl hy.a1 (by omega) (by omega) ?_
    rw [Int.zero_add]
    refine z_L3I (pc' := 20) dX9_atHome_19 rfl ?_
    refine z_icmp_ne (tgt := 43) (pc' := 23) dX9_atHome_20 (by decide) rfl (fun h20 => ?_) (fun h20 => ?_)
    · refine z_iconst (pc' := 44) dX9_atHome_43 rfl (by unfold zin; decide) ?_
      refine z_iadd (pc' := 45) dX9_atHome_44 rfl (by unfold zin; omega) ?_
      refine z_S2I (pc' := 46) rfl dX9_atHome_45 rfl ?_
      refine z_inc3 (pc' := 49) rfl dX9_atHome_46 rfl (by unfold zin; omega) ?_
      refine z_goto (tgt := 4) dX9_atHome_49 (by decide) ?_
      refine zW_to (ih (k + 1) (by omega) (by omega) (by omega) ) (by rw [zSm_up _ _ hk0]; first | (rw [if_pos ⟨h20, Or.inl h24⟩]; done) | (rw [if_pos ⟨h20, Or.inr h36⟩]; done) | (rw [if_neg (fun z => h20 z.1)]; done) | (rw [if_neg (fun z => z.2.elim (fun z => h24 z) (fun z => h36 z))]; done)) rfl ?_
      rfl
    · refine z_L1I (pc' := 24) dX9_atHome_23 rfl ?_
      refine z_if_eq (tgt := 39) (pc' := 27) dX9_atHome_24 (by decide) rfl (fun h24 => ?_) (fun h24 => ?_)
      · refine z_iconst (pc' := 40) dX9_atHome_39 rfl (by unfold zin; decide) ?_
        refine z_goto (tgt := 44) dX9_atHome_40 (by decide) ?_
        refine z_iadd (pc' := 45) dX9_atHome_44 rfl (by unfold zin; omega) ?_
        refine z_S2I (pc' := 46) rfl dX9_atHome_45 rfl ?_
        refine z_inc3 (pc' := 49) rfl dX9_atHome_46 rfl (by unfold zin; omega) ?_
        refine z_goto (tgt := 4) dX9_atHome_49 (by decide) ?_
        refine zW_to (ih (k + 1) (by omega) (by omega) (by omega) ) (by rw [zSm_up _ _ hk0]; first | (rw [if_pos ⟨h20, Or.inl h24⟩]; done) | (rw [if_pos ⟨h20, Or.inr h36⟩]; done) | (rw [if_neg (fun z => h20 z.1)]; done) | (rw [if_neg (fun z => z.2.elim (fun z => h24 z) (fun z => h36 z))]; done)) rfl ?_
        rfl
      · refine z_L0R (pc' := 28) dX9_atHome_27 rfl ?_
        refine z_getR (pc' := 31) (ki := 0) 0 fX9_7.l rfl rfl dX9_atHome_28 rfl hy.s hy.p0 ?_
        refine z_bipush (pc' := 33) dX9_atHome_31 rfl (by decide) ?_
        refine z_L3I (pc' := 34) dX9_atHome_33 rfl ?_
        refine z_iadd (pc' := 35) dX9_atHome_34 rfl (by unfold zin; omega) ?_
        refine z_ild (pc' := 36) dX9_atHome_35 rfl hy.a1 (by omega) (by omega) ?_
        refine z_if_ne (tgt := 43) (pc' := 39) dX9_atHome_36 (by decide) rfl (fun h36 => ?_) (fun h36 => ?_)
        · refine z_iconst (pc' := 44) dX9_atHome_43 rfl (by unfold zin; decide) ?_
          refine z_iadd (pc' := 45) dX9_atHome_44 rfl (by unfold zin; omega) ?_
          refine z_S2I (pc' := 46) rfl dX9_atHome_45 rfl ?_
          refine z_inc3 (pc' := 49) rfl dX9_atHome_46 rfl (by unfold zin; omega) ?_
          refine z_goto (tgt := 4) dX9_atHome_49 (by decide) ?_
          refine zW_to (ih (k + 1) (by omega) (by omega) (by omega) ) (by rw [zSm_up _ _ hk0]; first | (rw [if_pos ⟨h20, Or.inl h24⟩]; done) | (rw [if_pos ⟨h20, Or.inr h36⟩]; done) | (rw [if_neg (fun z => h20 z.1)]; done) | (rw [if_neg (fun z => z.2.elim (fun z => h24 z) (fun z => h36 z))]; done)) rfl ?_
          rfl
        · refine z_iconst (pc' := 40) dX9_atHome_39 rfl (by unfold zin; decide) ?_
          refine z_goto (tgt := 44) dX9_atHome_40 (by decide) ?_
          refine z_iadd (pc' := 45) dX9_atHome_44 rfl (by unfold zin; omega) ?_
          refine z_S2I (pc' := 46) rfl dX9_atHome_45 rfl ?_
          refine z_inc3 (pc' := 49) rfl dX9_atHome_46 rfl (by unfold zin; omega) ?_
          refine z_goto (tgt := 4) dX9_atHome_49 (by decide) ?_
          refine zW_to (ih (k + 1) (by omega) (by omega) (by omega) ) (by rw [zSm_up _ _ hk0]; first | (rw [if_pos ⟨h20, Or.inl h24⟩]; done) | (rw [if_pos ⟨h20, Or.inr h36⟩]; done) | (rw [if_neg (fun z => h20 z.1)]; done) | (rw [if_neg (fun z => z.2.elim (fun z => h24 z) (fun z => h36 z))]; done)) rfl ?_
          rfl
set_option maxRecDepth 100000 in
set_option maxHeartbeats 1000000 in
theorem m_pairs {d : Nat} {sp : zSP} {me : zMe} {Q : zQ} {y : Nat} (hy : zMod sp y) (hQ : Q (some (zI (zSm (fun i => if me (y + 1) (20 + i) ≠ -5 then 1 else 0) 10 / 2))) sp me) : zCall mX9_pairs d 0 0 [zR y] sp me Q := by
  refine z_met kX9_pairs (by simp) (by simp) ?_
  show zW mX9_pairs d 0 0 Q 0 [zR y, zU, zU] [] sp me
  have hb2 := zSm_bd (g := fun i => if me (y + 1) (20 + i) ≠ -5 then 1 else 0) (a := 0) (b := 1) (fun p _ => by split <;> omega) 10 (by omega)
  refine z_iconst (pc' := 1) dX9_pairs_0 rfl (by unfold zin; decide) ?_
  refine z_S1I (pc' := 2) rfl dX9_pairs_1 rfl ?_
  refine z_iconst (pc' := 3) dX9_pairs_2 rfl (by unfold zin; decide) ?_
  refine z_S2I (pc' := 4) rfl dX9_pairs_3 rfl ?_
  suffices H : ∀ (n : Nat) (k : Int), 0 ≤ k → k ≤ 10 → 10 - k < n → zW mX9_pairs d 0 0 Q 4 [zR y, zI (zSm (fun i => if me (y + 1) (20 + i) ≠ -5 then 1 else 0) k), zI k] [] sp (me) by
    refine zW_to (H ((10 - 0 + 1 : Int).toNat) (0) (by omega) (by omega) (by omega) ) rfl rfl ?_
    rfl
  intro n
  induction n with
  | zero => intro k hk0 hk1 hk2; omega
  | succ n ih =>
  intro k hk0 hk1 hk2
  refine z_L2I (pc' := 5) dX9_pairs_4 rfl ?_
  refine z_bipush (pc' := 7) dX9_pairs_5 rfl (by decide) ?_
  refine z_icmp_ge (tgt := 38) (pc' := 10) dX9_pairs_7 (by decide) rfl (fun h7 => ?_) (fun h7 => ?_)
  · obtain rfl : k = 10 := by omega
    refine z_L1I (pc' := 39) dX9_pairs_38 rfl ?_
    refine z_iconst (pc' := 40) dX9_pairs_39 rfl (by unfold zin; decide) ?_
    refine z_idiv (pc' := 41) dX9_pairs_40 rfl (by omega) (by omega) ?_
    refine z_ireturn rfl rfl dX9_pairs_41 ?_
    exact hQ
  · have hbd := zSm_bd (g := fun i => if me (y + 1) (20 + i) ≠ -5 then 1 else 0) (a := 0) (b := 1) (fun p _ => by split <;> omega) k hk0
    refine z_L1I (pc' := 11) dX9_pairs_10 rfl ?_
    refine z_L0R (pc' := 12) dX9_pairs_11 rfl ?_
    refine z_getR (pc' := 15) (ki := 0) 0 fX9_7.l rfl rfl dX9_pairs_12 rfl hy.s hy.p0 ?_
    refine z_bipush (pc' := 17) dX9_pairs_15 rfl (by decide) ?_
    refine z_L2I (pc' := 18) dX9_pairs_17 rfl ?_
    refine z_iadd (pc' := 19) dX9_pairs_18 rfl (by unfold zin; omega) ?_
    refine z_ild (pc' := 20) dX9_pairs_19 rfl hy.a1 (by omega) (by omega) ?_
    refine z_bipush (pc' := 22) dX9_pairs_20 rfl (by decide) ?_
    refine z_icmp_eq (tgt := 29) (pc' := 25) dX9_pairs_22 (by decide) rfl (fun h22 => ?_) (fun h22 => ?_)
    · refine z_iconst (pc' := 30) dX9_pairs_29 rfl (by unfold zin; decide) ?_
      refine z_iadd (pc' := 31) dX9_pairs_30 rfl (by unfold zin; omega) ?_
      refine z_S1I (pc' := 32) rfl dX9_pairs_31 rfl ?_
      refine z_inc2 (pc' := 35) rfl dX9_pairs_32 rfl (by unfold zin; omega) ?_
      refine z_goto (tgt := 4) dX9_pairs_35 (by decide) ?_
      refine zW_to (ih (k + 1) (by omega) (by omega) (by omega) ) (by rw [zSm_up _ _ hk0]; first | (rw [if_pos h22]; done) | (rw [if_neg (fun z => z h22)]; done)) rfl ?_
      rfl
    · refine z_iconst (pc' := 26) dX9_pairs_25 rfl (by unfold zin; decide) ?_
      refine z_goto (tgt := 30) dX9_pairs_26 (by decide) ?_
      refine z_iadd (pc' := 31) dX9_pairs_30 rfl (by unfold zin; omega) ?_
      refine z_S1I (pc' := 32) rfl dX9_pairs_31 rfl ?_
      refine z_inc2 (pc' := 35) rfl dX9_pairs_32 rfl (by unfold zin; omega) ?_
      refine z_goto (tgt := 4) dX9_pairs_35 (by decide) ?_
      refine zW_to (ih (k + 1) (by omega) (by omega) (by omega) ) (by rw [zSm_up _ _ hk0]; first | (rw [if_pos h22]; done) | (rw [if_neg (fun z => z h22)]; done)) rfl ?_
      rfl
set_option maxRecDepth 100000 in
set_option maxHeartbeats 1000000 in
theorem m_used {d : Nat} {sp : zSP} {me : zMe} {Q : zQ} {y : Nat} (hd : 1 ≤ d) (hy : zMod sp y) (hQ : Q (some (zI (zSm (fun k => if 0 < me (y + 1) (30 + 31 * k) then 1 else 0) 8))) sp me) : zCall mX9_figuresWithMoves d 0 0 [zR y] sp me Q := by
  refine z_met kX9_figuresWithMoves (by simp) (by simp) ?_
  show zW mX9_figuresWithMoves d 0 0 Q 0 [zR y, zU, zU] [] sp me
  refine z_iconst (pc' := 1) dX9_figuresWithMoves_0 rfl (by unfold zin; decide) ?_
  refine z_S1I (pc' := 2) rfl dX9_figuresWithMoves_1 rfl ?_
  refine z_iconst (pc' := 3) dX9_figuresWithMoves_2 rfl (by unfold zin; decide) ?_
  refine z_S2I (pc' := 4) rfl dX9_figuresWithMoves_3 rfl ?_
  suffices H : ∀ (n : Nat) (k : Int), 0 ≤ k → k ≤ 8 → 8 - k < n → zW mX9_figuresWithMoves d 0 0 Q 4 [zR y, zI (zSm (fun k => if 0 < me (y + 1) (30 + 31 * k) then 1 else 0) k), zI k] [] sp (me) by
    refine zW_to (H ((8 - 0 + 1 : Int).toNat) (0) (by omega) (by omega) (by omega) ) rfl rfl ?_
    rfl
  intro n
  induction n with
  | zero => intro k hk0 hk1 hk2; omega
  | succ n ih =>
  intro k hk0 hk1 hk2
  refine z_L2I (pc' := 5) dX9_figuresWithMoves_4 rfl ?_
  refine z_bipush (pc' := 7) dX9_figuresWithMoves_5 rfl (by decide) ?_
  refine z_icmp_ge (tgt := 32) (pc' := 10) dX9_figuresWithMoves_7 (by decide) rfl (fun h7 => ?_) (fun h7 => ?_)
  · obtain rfl : k = 8 := by omega
    refine z_L1I (pc' := 33) dX9_figuresWithMoves_32 rfl ?_
    refine z_ireturn rfl rfl dX9_figuresWithMoves_33 ?_
    exact hQ
  · have hbd := zSm_bd (g := fun k => if 0 < me (y + 1) (30 + 31 * k) then 1 else 0) (a := 0) (b := 1) (fun p _ => by split <;> omega) k hk0
    refine z_L1I (pc' := 11) dX9_figuresWithMoves_10 rfl ?_
    refine z_L0R (pc' := 12) dX9_figuresWithMoves_11 rfl ?_
    refine z_L2I (pc' := 13) dX9_figuresWithMoves_12 rfl ?_
    refine z_V1v (pc' := 16) (ci := 9) kX9_moves lX9_81 dX9_figuresWithMoves_13 rfl (by omega) (Nat.le_of_ble_eq_true rfl) (by decide) rfl hy.s ?_
    refine m_moves hy hk0 (by omega) (zKv_i ?_)
    refine z_if_le (tgt := 23) (pc' := 19) dX9_figuresWithMoves_16 (by decide) rfl (fun h16 => ?_) (fun h16 => ?_)
    · refine z_iconst (pc' := 24) dX9_figuresWithMoves_23 rfl (by unfold zin; decide) ?_
      refine z_iadd (pc' := 25) dX9_figuresWithMoves_24 rfl (by unfold zin; omega) ?_
      refine z_S1I (pc' := 26) rfl dX9_figuresWithMoves_25 rfl ?_
      refine z_inc2 (pc' := 29) rfl dX9_figuresWithMoves_26 rfl (by unfold zin; omega) ?_
      refine z_goto (tgt := 4) dX9_figuresWithMoves_29 (by decide) ?_
      refine zW_to (ih (k + 1) (by omega) (by omega) (by omega) ) (by rw [zSm_up _ _ hk0]; first | (rw [if_pos h16]; done) | (rw [if_neg (by omega)]; done)) rfl ?_
      rfl
    · refine z_iconst (pc' := 20) dX9_figuresWithMoves_19 rfl (by unfold zin; decide) ?_
      refine z_goto (tgt := 24) dX9_figuresWithMoves_20 (by decide) ?_
      refine z_iadd (pc' := 25) dX9_figuresWithMoves_24 rfl (by unfold zin; omega) ?_
      refine z_S1I (pc' := 26) rfl dX9_figuresWithMoves_25 rfl ?_
      refine z_inc2 (pc' := 29) rfl dX9_figuresWithMoves_26 rfl (by unfold zin; omega) ?_
      refine z_goto (tgt := 4) dX9_figuresWithMoves_29 (by decide) ?_
      refine zW_to (ih (k + 1) (by omega) (by omega) (by omega) ) (by rw [zSm_up _ _ hk0]; first | (rw [if_pos h16]; done) | (rw [if_neg (by omega)]; done)) rfl ?_
      rfl
theorem zMH_rec {me me' : zMe} {y : Nat} {HL : List zSt} {S : zSt} {s1 B : Int} {H1 : Int → Int} (hI : zIS B S) (hIH : ∀ S ∈ HL, zIS B S) (hS : zMR (me (y + 1)) S) (hH : zMH me y HL) (h1 : (me y 2 = 5 ∧ s1 = 4 ∧ H1 = zfil (me (y + 2)) (fun k => me (y + 2) (k + 281)) 1124) ∨ (me y 2 ≠ 5 ∧ s1 = me y 2 ∧ H1 = me (y + 2))) (e1 : me' y 2 = s1 + 1) (e2 : me' (y + 2) = zseg H1 (me (y + 1)) (281 * s1) 281) : zMH me' y ((S :: HL).take 5) := by
  obtain ⟨g1, g2, g3⟩ := hH
  have hlen : (((S :: HL).take 5).length : Int) = s1 + 1 := by
    rw [List.length_take, List.length_cons]
    rcases h1 with h | h <;> omega
  refine ⟨by rw [e1, hlen], by rw [List.length_take]; omega, fun j T hj => ?_⟩
  rw [hlen, e2]
  cases j with
  | zero =>
    have e : S = T := by
      rw [List.getElem?_take] at hj
      simpa using hj
    subst e
    refine zMR_congr hI hS (fun q q0 q1 => ?_)
    show zseg _ _ _ _ _ = _
    rw [show 281 * (s1 + 1 - 1 - ((0 : Nat) : Int)) + q = 281 * s1 + q by omega]
    exact zseg_in _ _ _ _ _ q0 q1
  | succ j =>
    have hj5 : j + 1 < 5 := by
      rcases Nat.lt_or_ge (j + 1) 5 with h | h
      · exact h
      · rw [List.getElem?_take, if_neg (by omega)] at hj; cases hj
    have hj2 : HL[j]? = some T := by
      rw [List.getElem?_take, if_pos hj5] at hj
      simpa using hj
    have hjl : j < HL.length := by
      rcases Nat.lt_or_ge j HL.length with h | h
      · exact h
      · rw [List.getElem?_eq_none h] at hj2; cases hj2
    have hT := hIH T (List.mem_of_getElem? hj2)
    refine zMR_congr hT (g3 j T hj2) (fun q q0 q1 => ?_)
    show zseg _ _ _ _ _ = _
    rw [zseg_out _ _ _ _ _ (by omega)]
    rcases h1 with ⟨a1, a2, a3⟩ | ⟨a1, a2, a3⟩
    · rw [a3, zfil_in _ _ _ _ (by omega) (by omega)]
      show me (y + 2) _ = me (y + 2) _
      congr 1
      omega
    · rw [a3]
      show me (y + 2) _ = me (y + 2) _
      congr 1
      omega
set_option maxRecDepth 100000 in
set_option maxHeartbeats 1000000 in
theorem m_record {d : Nat} {sp : zSP} {me : zMe} {Q : zQ} {y : Nat} {HL : List zSt} {S : zSt} {B : Int} (hy : zMod sp y) (hI : zIS B S) (hIH : ∀ S ∈ HL, zIS B S) (hS : zMR (me (y + 1)) S) (hH : zMH me y HL) (hQ : ∀ me', zMH me' y ((S :: HL).take 5) → (∀ a, a ≠ y → a ≠ y + 2 → me' a = me a) → (∀ i, i ≠ 2 → me' y i = me y i) → Q none sp me') : zCall mX9_record d 0 0 [zR y] sp me Q := by
  refine z_met kX9_record (by simp) (by simp) ?_
  show zW mX9_record d 0 0 Q 0 [zR y, zU] [] sp me
  have hs0 : 0 ≤ me y 2 ∧ me y 2 ≤ 5 := by rw [hH.1]; have := hH.2.1; omega
  have H49 : ∀ (s1 : Int) (H1 : Int → Int) (z : zV), (me y 2 = 5 ∧ s1 = 4 ∧ H1 = zfil (me (y + 2)) (fun k => me (y + 2) (k + 281)) 1124) ∨ (me y 2 ≠ 5 ∧ s1 = me y 2 ∧ H1 = me (y + 2)) → zW mX9_record d 0 0 Q 49 [zR y, z] [] sp (zset (zset me (y + 2) H1) y (zup (me y) 2 s1)) := by
    intro s1 H1 z h1
    have hs1 : 0 ≤ s1 ∧ s1 ≤ 4 := by omega
    have hm1 : ∀ a, a ≠ y → a ≠ y + 2 → zset (zset me (y + 2) H1) y (zup (me y) 2 s1) a = me a := fun a ha hb => by rw [zset_ne _ _ _ ha, zset_ne _ _ _ hb]
    have hm2 : zset (zset me (y + 2) H1) y (zup (me y) 2 s1) (y + 2) = H1 := by rw [zset_ne _ _ _ (by omega), zset_eq]
    have hm3 : zset (zset me (y + 2) H1) y (zup (me y) 2 s1) y = zup (me y) 2 s1 := zset_eq _ _ _
    revert hm1 hm2 hm3
    generalize zset (zset me (y + 2) H1) y (zup (me y) 2 s1) = me1
    intro hm1 hm2 hm3
    have hm4 : me1 y 2 = s1 := by rw [hm3]; exact zup_eq _ _ _
    refine z_iconst (pc' := 50) dX9_record_49 rfl (by unfold zin; decide) ?_
    refine z_S1I (pc' := 51) rfl dX9_record_50 rfl ?_
    suffices H : ∀ (n : Nat) (k : Int), 0 ≤ k → k ≤ 281 → 281 - k < n → zW mX9_record d 0 0 Q 51 [zR y, zI k] [] sp (zset me1 (y + 2) (zseg (me1 (y + 2)) (me1 (y + 1)) (281 * s1) k)) by
      refine zW_to (H ((281 - 0 + 1 : Int).toNat) (0) (by omega) (by omega) (by omega) ) rfl rfl ?_
      rw [zseg_0, zset_self]
    intro n
    induction n with
    | zero => intro k hk0 hk1 hk2; omega
    | succ n ih =>
    intro k hk0 hk1 hk2
    refine z_L1I (pc' := 52) dX9_record_51 rfl ?_
    refine z_sipush (pc' := 55) dX9_record_52 rfl (by decide) ?_
    refine z_icmp_ge (tgt := 85) (pc' := 58) dX9_record_55 (by decide) rfl (fun h55 => ?_) (fun h55 => ?_)
    · refine z_L0R (pc' := 86) dX9_record_85 rfl ?_
      refine z_dupR (pc' := 87) dX9_record_86 rfl ?_
      refine z_getI (pc' := 90) (ki := 2) 2 fX9_66.l rfl rfl dX9_record_87 rfl hy.s ?_
      rw [zset_ne me1 _ _ (show y ≠ y + 2 by omega), hm4]
      refine z_iconst (pc' := 91) dX9_record_90 rfl (by unfold zin; decide) ?_
      refine z_iadd (pc' := 92) dX9_record_91 rfl (by unfold zin; omega) ?_
      refine z_putI (pc' := 95) (ki := 2) 2 fX9_66.l rfl (Or.inl rfl) rfl dX9_record_92 rfl hy.s ?_
      refine z_return rfl rfl dX9_record_95 ?_
      obtain rfl : k = 281 := by omega
      have hR1 : me1 (y + 1) = me (y + 1) := hm1 _ (by omega) (by omega)
      refine hQ _ (zMH_rec hI hIH hS hH h1 ?_ ?_) (fun a ha hb => ?_) (fun i hi => ?_)
      · rw [zset_eq, zup_eq]
      · rw [zset_ne _ _ _ (by omega), zset_eq, hm2, hR1]
      · rw [zset_ne _ _ _ ha, zset_ne _ _ _ hb]; exact hm1 a ha hb
      · rw [zset_eq, zup_ne _ _ _ hi, zset_ne me1 _ _ (show y ≠ y + 2 by omega), hm3, zup_ne _ _ _ hi]
    · refine z_L0R (pc' := 59) dX9_record_58 rfl ?_
      refine z_getR (pc' := 62) (ki := 1) 1 fX9_13.l rfl rfl dX9_record_59 rfl hy.s hy.p1 ?_
      refine z_sipush (pc' := 65) dX9_record_62 rfl (by decide) ?_
      refine z_L0R (pc' := 66) dX9_record_65 rfl ?_
      refine z_getI (pc' := 69) (ki := 2) 2 fX9_66.l rfl rfl dX9_record_66 rfl hy.s ?_
      rw [zset_ne me1 _ _ (show y ≠ y + 2 by omega), hm4]
      refine z_imul (pc' := 70) dX9_record_69 rfl (by unfold zin; omega) ?_
      refine z_L1I (pc' := 71) dX9_record_70 rfl ?_
      refine z_iadd (pc' := 72) dX9_record_71 rfl (by unfold zin; omega) ?_
      refine z_L0R (pc' := 73) dX9_record_72 rfl ?_
      refine z_getR (pc' := 76) (ki := 0) 0 fX9_7.l rfl rfl dX9_record_73 rfl hy.s hy.p0 ?_
      refine z_L1I (pc' := 77) dX9_record_76 rfl ?_
      refine z_ild (pc' := 78) dX9_record_77 rfl hy.a1 (by omega) (by omega) ?_
      refine z_ist (pc' := 79) dX9_record_78 rfl hy.a2 (by omega) (by omega) ?_
      refine z_inc1 (pc' := 82) rfl dX9_record_79 rfl (by unfold zin; omega) ?_
      refine z_goto (tgt := 51) dX9_record_82 (by decide) ?_
      refine zW_to (ih (k + 1) (by omega) (by omega) (by omega) ) rfl rfl ?_
      rw [zset_11, zset_eq]
      exact congrArg (zset me1 (y + 2)) (zseg_up _ _ _ _ _ hk0 (by rw [zset_ne _ _ _ (by omega)]))
  refine z_L0R (pc' := 1) dX9_record_0 rfl ?_
  refine z_getI (pc' := 4) (ki := 2) 2 fX9_66.l rfl rfl dX9_record_1 rfl hy.s ?_
  refine z_iconst (pc' := 5) dX9_record_4 rfl (by unfold zin; decide) ?_
  refine z_icmp_ne (tgt := 49) (pc' := 8) dX9_record_5 (by decide) rfl (fun h5 => ?_) (fun h5 => ?_)
  · first
    | exact zW_to (H49 4 _ _ (Or.inl ⟨by omega, rfl, rfl⟩)) rfl rfl (by
        obtain rfl : k = 1124 := by omega
        rw [zset_ne me _ _ (show y ≠ y + 2 by omega)]
        congr 2
        omega)
    | exact zW_to (H49 (me y 2) (me (y + 2)) _ (Or.inr ⟨by omega, rfl, rfl⟩)) rfl rfl (by rw [zset_self, zup_self, zset_self])
  · refine z_iconst (pc' := 9) dX9_record_8 rfl (by unfold zin; decide) ?_
    refine z_S1I (pc' := 10) rfl dX9_record_9 rfl ?_
    suffices H : ∀ (n : Nat) (k : Int), 0 ≤ k → k ≤ 1124 → 1124 - k < n → zW mX9_record d 0 0 Q 10 [zR y, zI k] [] sp (zset me (y + 2) (zfil (me (y + 2)) (fun k => me (y + 2) (k + 281)) k)) by
      refine zW_to (H ((1124 - 0 + 1 : Int).toNat) (0) (by omega) (by omega) (by omega) ) rfl rfl ?_
      simp only [zfil_0, zset_self]
    intro n
    induction n with
    | zero => intro k hk0 hk1 hk2; omega
    | succ n ih =>
    intro k hk0 hk1 hk2
    refine z_L1I (pc' := 11) dX9_record_10 rfl ?_
    refine z_sipush (pc' := 14) dX9_record_11 rfl (by decide) ?_
    refine z_icmp_ge (tgt := 39) (pc' := 17) dX9_record_14 (by decide) rfl (fun h14 => ?_) (fun h14 => ?_)
    · refine z_L0R (pc' := 40) dX9_record_39 rfl ?_
      refine z_dupR (pc' := 41) dX9_record_40 rfl ?_
      refine z_getI (pc' := 44) (ki := 2) 2 fX9_66.l rfl rfl dX9_record_41 rfl hy.s ?_
      rw [zset_ne me _ _ (show y ≠ y + 2 by omega)]
      refine z_iconst (pc' := 45) dX9_record_44 rfl (by unfold zin; decide) ?_
      refine z_isub (pc' := 46) dX9_record_45 rfl (by unfold zin; omega) ?_
      refine z_putI (pc' := 49) (ki := 2) 2 fX9_66.l rfl (Or.inl rfl) rfl dX9_record_46 rfl hy.s ?_
      first
      | exact zW_to (H49 4 _ _ (Or.inl ⟨by omega, rfl, rfl⟩)) rfl rfl (by
          obtain rfl : k = 1124 := by omega
          rw [zset_ne me _ _ (show y ≠ y + 2 by omega)]
          congr 2
          omega)
      | exact zW_to (H49 (me y 2) (me (y + 2)) _ (Or.inr ⟨by omega, rfl, rfl⟩)) rfl rfl (by rw [zset_self, zup_self, zset_self])
    · refine z_L0R (pc' := 18) dX9_record_17 rfl ?_
      refine z_getR (pc' := 21) (ki := 1) 1 fX9_13.l rfl rfl dX9_record_18 rfl hy.s hy.p1 ?_
      refine z_L1I (pc' := 22) dX9_record_21 rfl ?_
      refine z_L0R (pc' := 23) dX9_record_22 rfl ?_
      refine z_getR (pc' := 26) (ki := 1) 1 fX9_13.l rfl rfl dX9_record_23 rfl hy.s hy.p1 ?_
      refine z_L1I (pc' := 27) dX9_record_26 rfl ?_
      refine z_sipush (pc' := 30) dX9_record_27 rfl (by decide) ?_
      refine z_iadd (pc' := 31) dX9_record_30 rfl (by unfold zin; omega) ?_
      refine z_ild (pc' := 32) dX9_record_31 rfl hy.a2 (by omega) (by omega) ?_
      refine z_ist (pc' := 33) dX9_record_32 rfl hy.a2 (by omega) (by omega) ?_
      refine z_inc1 (pc' := 36) rfl dX9_record_33 rfl (by unfold zin; omega) ?_
      refine z_goto (tgt := 10) dX9_record_36 (by decide) ?_
      refine zW_to (ih (k + 1) (by omega) (by omega) (by omega) ) rfl rfl ?_
      rw [zset_11, zset_eq]
      exact congrArg (zset me (y + 2)) (zfil_up _ _ _ _ hk0 (zfil_out _ _ _ _ (by omega)))
end ZMO2

