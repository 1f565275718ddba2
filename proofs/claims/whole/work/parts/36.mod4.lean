section ZMO4
theorem zMR_h {r r' : Int → Int} {w f h sz cd h' : Int → Int} {pr a b c pr' : Int} (hg : zgR w f) (hv : zfv sz cd) (hR : zMR r (w, f, h, pr, sz, cd, a, b, c)) (h1 : ∀ q, 0 ≤ q → q < 281 → ¬ (20 ≤ q ∧ q < 30) → r' q = r q) (h2 : ∀ i, 0 ≤ i → i < 10 → r' (20 + i) = h' i) : zMR r' (qst w f h' pr' sz cd a b c) := by
  obtain ⟨g1, g2, g3, g4, g5, g6, g7⟩ := hR
  refine ⟨fun p p0 p1 => ?_, fun p p0 p1 => ?_, h2, fun k k0 k1 => ⟨?_, fun m m0 m1 q q0 q1 => ?_⟩, ?_, ?_, ?_⟩
  · rw [h1 _ (by omega) (by omega) (by omega)]; exact g1 p p0 p1
  · have := (hg.1 p p0 p1)
    exact (h1 _ (show 0 ≤ 10 + w p by omega) (by omega) (by omega)).trans (g2 p p0 p1)
  · rw [h1 _ (by omega) (by omega) (by omega)]; exact (g4 k k0 k1).1
  · have m2 : m < sz k := m1
    have := hv k k0 k1
    rw [h1 _ (by omega) (by omega) (by omega)]; exact (g4 k k0 k1).2 m m0 m1 q q0 q1
  · rw [h1 _ (by omega) (by omega) (by omega)]; exact g5
  · rw [h1 _ (by omega) (by omega) (by omega)]; exact g6
  · rw [h1 _ (by omega) (by omega) (by omega)]; exact g7
set_option maxRecDepth 100000 in
set_option maxHeartbeats 1000000 in
theorem y_undo {d : Nat} {sp : zSP} {me : zMe} {Q : zQ} {y : Nat} {A : zAb} {B : Int} (hd : 20 ≤ d) (hy : zMod sp y) (hX : zMX me y A) (hI : zIA B A) (hQ : ∀ me', zMX me' y (zoUndo A).2 → zMF y me me' → Q (some (zI (zoUndo A).1)) sp me') : zCall mX9_undo d 0 0 [zR y] sp me Q := by
  refine z_met kX9_undo (by simp) (by simp) ?_
  show zW mX9_undo d 0 0 Q 0 [zR y, zU] [] sp me
  have hl := hX.2.1.1
  have hl5 := hX.2.1.2.1
  refine z_L0R (pc' := 1) dX9_undo_0 rfl ?_
  refine z_getI (pc' := 4) (ki := 2) 2 fX9_66.l rfl rfl dX9_undo_1 rfl hy.s ?_
  refine z_if_ne (tgt := 10) (pc' := 7) dX9_undo_4 (by decide) rfl (fun h4 => ?_) (fun h4 => ?_)
  · obtain ⟨S, T, hE⟩ : ∃ S T, A.2.1 = S :: T := by
      cases hE : A.2.1 with
      | nil => rw [hE] at hl; exact absurd hl h4
      | cons S T => exact ⟨S, T, rfl⟩
    have hz : zoUndo A = ((T.length : Int), (S, T, A.2.2)) := by unfold zoUndo; rw [hE]
    rw [hz] at hQ
    have hIS := hI.2.1 S (by rw [hE]; exact List.mem_cons_self)
    have hlT : me y 2 - 1 = (T.length : Int) := by rw [hl, hE, List.length_cons]; omega
    refine z_L0R (pc' := 11) dX9_undo_10 rfl ?_
    refine z_dupR (pc' := 12) dX9_undo_11 rfl ?_
    refine z_getI (pc' := 15) (ki := 2) 2 fX9_66.l rfl rfl dX9_undo_12 rfl hy.s ?_
    refine z_iconst (pc' := 16) dX9_undo_15 rfl (by unfold zin; decide) ?_
    refine z_isub (pc' := 17) dX9_undo_16 rfl (by unfold zin; omega) ?_
    refine z_putI (pc' := 20) (ki := 2) 2 fX9_66.l rfl (Or.inl rfl) rfl dX9_undo_17 rfl hy.s ?_
    have hm1 : ∀ a, a ≠ y → zset me y (zup (me y) 2 (me y 2 - 1)) a = me a := fun a ha => zset_ne _ _ _ ha
    have hm2 : zset me y (zup (me y) 2 (me y 2 - 1)) y 2 = (T.length : Int) := by rw [zset_eq, zup_eq]; exact hlT
    have hm3 : ∀ i, i ≠ 2 → zset me y (zup (me y) 2 (me y 2 - 1)) y i = me y i := fun i hi => by rw [zset_eq, zup_ne _ _ _ hi]
    revert hm1 hm2 hm3
    generalize zset me y (zup (me y) 2 (me y 2 - 1)) = me1
    intro hm1 hm2 hm3
    have hT5 : T.length < 5 := by
      have := hl5
      rw [hE, List.length_cons] at this
      omega
    refine z_iconst (pc' := 21) dX9_undo_20 rfl (by unfold zin; decide) ?_
    refine z_S1I (pc' := 22) rfl dX9_undo_21 rfl ?_
    suffices H : ∀ (n : Nat) (k : Int), 0 ≤ k → k ≤ 281 → 281 - k < n → zW mX9_undo d 0 0 Q 22 [zR y, zI k] [] sp (zset me1 (y + 1) (zfil (me1 (y + 1)) (fun q => me1 (y + 2) (281 * (T.length : Int) + q)) k)) by
      refine zW_to (H ((281 - 0 + 1 : Int).toNat) (0) (by omega) (by omega) (by omega) ) rfl rfl ?_
      simp only [zfil_0, zset_self]
    intro n
    induction n with
    | zero => intro k hk0 hk1 hk2; omega
    | succ n ih =>
    intro k hk0 hk1 hk2
    refine z_L1I (pc' := 23) dX9_undo_22 rfl ?_
    refine z_sipush (pc' := 26) dX9_undo_23 rfl (by decide) ?_
    refine z_icmp_ge (tgt := 56) (pc' := 29) dX9_undo_26 (by decide) rfl (fun h26 => ?_) (fun h26 => ?_)
    · refine z_L0R (pc' := 57) dX9_undo_56 rfl ?_
      refine z_getI (pc' := 60) (ki := 2) 2 fX9_66.l rfl rfl dX9_undo_57 rfl hy.s ?_
      refine z_ireturn rfl rfl dX9_undo_60 ?_
      obtain rfl : k = 281 := by omega
      rw [zset_ne me1 _ _ (show y ≠ y + 1 by omega), hm2]
      obtain ⟨g1, ⟨k1, k2, k3⟩, g3, g4, g5⟩ := hX
      refine hQ _ ⟨?_, ⟨?_, by show T.length ≤ 5; omega, fun j S' hj => ?_⟩, ?_, ?_, ?_⟩ (fun a ha => by rw [zset_ne _ _ _ (by omega), hm1 a (by omega)])
      · rw [zset_eq]
        refine zMR_congr hIS (k3 0 S (by rw [hE]; rfl)) (fun q q0 q1 => ?_)
        rw [zfil_in _ _ _ _ q0 q1, hm1 _ (by omega)]
        (try dsimp only)
        rw [hE, List.length_cons]
        congr 1
        omega
      · rw [zset_ne me1 _ _ (show y ≠ y + 1 by omega)]; exact hm2
      · rw [zset_ne me1 _ _ (show y + 2 ≠ y + 1 by omega), hm1 _ (by omega)]
        have hS' := hI.2.1 S' (by rw [hE]; exact List.mem_cons_of_mem _ (List.mem_of_getElem? hj))
        refine zMR_congr hS' (k3 (j + 1) S' (by rw [hE]; exact hj)) (fun q q0 q1 => ?_)
        (try dsimp only)
        rw [hE, List.length_cons]
        congr 1
        show 281 * ((T.length : Int) - 1 - (j : Int)) + q = _
        omega
      · rw [zset_ne me1 _ _ (show y ≠ y + 1 by omega), hm3 _ (by omega), zset_ne me1 _ _ (show y + 3 ≠ y + 1 by omega), hm1 _ (by omega)]; exact g3
      · rw [zset_ne me1 _ _ (show y ≠ y + 1 by omega), hm3 _ (by omega)]; exact g4
      · rw [zset_ne me1 _ _ (show y + 11 ≠ y + 1 by omega), hm1 _ (by omega)]; exact g5
    · refine z_L0R (pc' := 30) dX9_undo_29 rfl ?_
      refine z_getR (pc' := 33) (ki := 0) 0 fX9_7.l rfl rfl dX9_undo_30 rfl hy.s hy.p0 ?_
      refine z_L1I (pc' := 34) dX9_undo_33 rfl ?_
      refine z_L0R (pc' := 35) dX9_undo_34 rfl ?_
      refine z_getR (pc' := 38) (ki := 1) 1 fX9_13.l rfl rfl dX9_undo_35 rfl hy.s hy.p1 ?_
      refine z_sipush (pc' := 41) dX9_undo_38 rfl (by decide) ?_
      refine z_L0R (pc' := 42) dX9_undo_41 rfl ?_
      refine z_getI (pc' := 45) (ki := 2) 2 fX9_66.l rfl rfl dX9_undo_42 rfl hy.s ?_
      rw [zset_ne me1 _ _ (show y ≠ y + 1 by omega), hm2]
      refine z_imul (pc' := 46) dX9_undo_45 rfl (by unfold zin; omega) ?_
      refine z_L1I (pc' := 47) dX9_undo_46 rfl ?_
      refine z_iadd (pc' := 48) dX9_undo_47 rfl (by unfold zin; omega) ?_
      refine z_ild (pc' := 49) dX9_undo_48 rfl hy.a2 (by omega) (by omega) ?_
      refine z_ist (pc' := 50) dX9_undo_49 rfl hy.a1 (by omega) (by omega) ?_
      refine z_inc1 (pc' := 53) rfl dX9_undo_50 rfl (by unfold zin; omega) ?_
      refine z_goto (tgt := 22) dX9_undo_53 (by decide) ?_
      refine zW_to (ih (k + 1) (by omega) (by omega) (by omega) ) rfl rfl ?_
      rw [zset_11, zset_eq]
      exact congrArg (zset me1 (y + 1)) (zfil_up _ _ _ _ hk0 (by rw [zset_ne _ _ _ (by omega)]))
  · have hE : A.2.1 = [] := List.eq_nil_of_length_eq_zero (by omega)
    have hz : zoUndo A = (-5, A) := by unfold zoUndo; rw [hE]
    rw [hz] at hQ
    refine z_bipush (pc' := 9) dX9_undo_7 rfl (by decide) ?_
    refine z_ireturn rfl rfl dX9_undo_9 ?_
    exact hQ me hX zMF.rf
set_option maxRecDepth 100000 in
set_option maxHeartbeats 1000000 in
theorem y_save {d : Nat} {sp : zSP} {me : zMe} {Q : zQ} {y : Nat} {A : zAb} {B : Int} (hd : 20 ≤ d) (hy : zMod sp y) (hX : zMX me y A) (hI : zIA B A) (hQ : ∀ me', zMX me' y (zoSave A).2 → zMF y me me' → Q (some (zI (zoSave A).1)) sp me') : zCall mX9_save d 0 0 [zR y] sp me Q := by
  refine z_met kX9_save (by simp) (by simp) ?_
  show zW mX9_save d 0 0 Q 0 [zR y, zU] [] sp me
  unfold zoSave at hQ
  refine z_iconst (pc' := 1) dX9_save_0 rfl (by unfold zin; decide) ?_
  refine z_S1I (pc' := 2) rfl dX9_save_1 rfl ?_
  suffices H : ∀ (n : Nat) (k : Int), 0 ≤ k → k ≤ 281 → 281 - k < n → zW mX9_save d 0 0 Q 2 [zR y, zI k] [] sp (zset me (y + 3) (zfil (me (y + 3)) (me (y + 1)) k)) by
    refine zW_to (H ((281 - 0 + 1 : Int).toNat) (0) (by omega) (by omega) (by omega) ) rfl rfl ?_
    simp only [zfil_0, zset_self]
  intro n
  induction n with
  | zero => intro k hk0 hk1 hk2; omega
  | succ n ih =>
  intro k hk0 hk1 hk2
  refine z_L1I (pc' := 3) dX9_save_2 rfl ?_
  refine z_sipush (pc' := 6) dX9_save_3 rfl (by decide) ?_
  refine z_icmp_ge (tgt := 27) (pc' := 9) dX9_save_6 (by decide) rfl (fun h6 => ?_) (fun h6 => ?_)
  · refine z_L0R (pc' := 28) dX9_save_27 rfl ?_
    refine z_iconst (pc' := 29) dX9_save_28 rfl (by unfold zin; decide) ?_
    refine z_putI (pc' := 32) (ki := 4) 4 fX9_70.l rfl (Or.inr ⟨rfl, (by omega)⟩) rfl dX9_save_29 rfl hy.s ?_
    obtain rfl : k = 281 := by omega
    generalize hm : zset (zset me (y + 3) (zfil (me (y + 3)) (me (y + 1)) 281)) y _ = me1
    have hm1 : ∀ a, a ≠ y → a ≠ y + 3 → me1 a = me a := fun a ha hb => by rw [← hm, zset_ne _ _ _ ha, zset_ne _ _ _ hb]
    have hm2 : me1 y 4 = 1 := by rw [← hm, zset_eq]; exact zup_eq _ _ _
    have hm3 : ∀ i, i ≠ 4 → me1 y i = me y i := fun i hi => by rw [← hm, zset_eq, zup_ne _ _ _ hi, zset_ne _ _ _ (by omega)]
    have hm4 : me1 (y + 3) = zfil (me (y + 3)) (me (y + 1)) 281 := by rw [← hm, zset_ne _ _ _ (by omega), zset_eq]
    refine z_L0R (pc' := 33) dX9_save_32 rfl ?_
    refine z_iconst (pc' := 34) dX9_save_33 rfl (by unfold zin; decide) ?_
    refine z_V1v (pc' := 37) (ci := 9) kX9_atHome lX9_74 dX9_save_34 rfl (by omega) (Nat.le_of_ble_eq_true rfl) (by decide) rfl hy.s ?_
    refine m_atHome hy (zKv_i ?_)
    rw [hm1 (y + 1) (by omega) (by omega), zMR_home hX.1]
    refine z_ireturn rfl rfl dX9_save_37 ?_
    obtain ⟨g1, ⟨k1, k2, k3⟩, g3, g4, g5⟩ := hX
    refine hQ _ ⟨by rw [hm1 _ (by omega) (by omega)]; exact g1, ⟨by rw [hm3 _ (by omega)]; exact k1, k2, by rw [hm1 _ (by omega) (by omega)]; exact k3⟩, Or.inr ⟨hm2, A.1, rfl, ?_⟩, by rw [hm3 _ (by omega)]; exact g4, by rw [hm1 _ (by omega) (by omega)]; exact g5⟩ (fun a ha => hm1 a (by omega) (by omega))
    rw [hm4]
    exact zMR_congr hI.1 g1 (fun q q0 q1 => zfil_in _ _ _ _ q0 q1)
  · refine z_L0R (pc' := 10) dX9_save_9 rfl ?_
    refine z_getR (pc' := 13) (ki := 3) 3 fX9_16.l rfl rfl dX9_save_10 rfl hy.s hy.p3 ?_
    refine z_L1I (pc' := 14) dX9_save_13 rfl ?_
    refine z_L0R (pc' := 15) dX9_save_14 rfl ?_
    refine z_getR (pc' := 18) (ki := 0) 0 fX9_7.l rfl rfl dX9_save_15 rfl hy.s hy.p0 ?_
    refine z_L1I (pc' := 19) dX9_save_18 rfl ?_
    refine z_ild (pc' := 20) dX9_save_19 rfl hy.a1 (by omega) (by omega) ?_
    refine z_ist (pc' := 21) dX9_save_20 rfl hy.a3 (by omega) (by omega) ?_
    refine z_inc1 (pc' := 24) rfl dX9_save_21 rfl (by unfold zin; omega) ?_
    refine z_goto (tgt := 2) dX9_save_24 (by decide) ?_
    refine zW_to (ih (k + 1) (by omega) (by omega) (by omega) ) rfl rfl ?_
    rw [zset_11, zset_eq]
    exact congrArg (zset me (y + 3)) (zfil_up _ _ _ _ hk0 (by rw [zset_ne _ _ _ (by omega)]))
set_option maxRecDepth 100000 in
set_option maxHeartbeats 1000000 in
theorem y_restore {d : Nat} {sp : zSP} {me : zMe} {Q : zQ} {y : Nat} {A : zAb} {B : Int} (hd : 20 ≤ d) (hy : zMod sp y) (hX : zMX me y A) (hI : zIA B A) (hQ : ∀ me', zMX me' y (zoRestore A).2 → zMF y me me' → Q (some (zI (zoRestore A).1)) sp me') : zCall mX9_restore d 0 0 [zR y] sp me Q := by
  refine z_met kX9_restore (by simp) (by simp) ?_
  show zW mX9_restore d 0 0 Q 0 [zR y, zU] [] sp me
  refine z_L0R (pc' := 1) dX9_restore_0 rfl ?_
  refine z_getI (pc' := 4) (ki := 4) 4 fX9_70.l rfl rfl dX9_restore_1 rfl hy.s ?_
  refine z_if_ne (tgt := 10) (pc' := 7) dX9_restore_4 (by decide) rfl (fun h4 => ?_) (fun h4 => ?_)
  · obtain ⟨hE0, S, hE, hRS⟩ := hX.2.2.1.resolve_left (fun z => by omega)
    have hz : zoRestore A = (zhcnt S.1 S.2.1, zdo A S) := by unfold zoRestore; rw [hE]
    rw [hz] at hQ
    have hIS := hI.2.2.1 _ hE
    refine z_L0R (pc' := 11) dX9_restore_10 rfl ?_
    refine z_V00 (pc' := 14) (ci := 9) kX9_record lX9_78 dX9_restore_11 rfl (by omega) (Nat.le_of_ble_eq_true rfl) (by decide) rfl hy.s ?_
    refine m_record hy hI.1 hI.2.1 hX.1 hX.2.1 (fun me1 hH1 hm1 hm2 => zK0_i ?_)
    refine z_iconst (pc' := 15) dX9_restore_14 rfl (by unfold zin; decide) ?_
    refine z_S1I (pc' := 16) rfl dX9_restore_15 rfl ?_
    suffices H : ∀ (n : Nat) (k : Int), 0 ≤ k → k ≤ 281 → 281 - k < n → zW mX9_restore d 0 0 Q 16 [zR y, zI k] [] sp (zset me1 (y + 1) (zfil (me1 (y + 1)) (me1 (y + 3)) k)) by
      refine zW_to (H ((281 - 0 + 1 : Int).toNat) (0) (by omega) (by omega) (by omega) ) rfl rfl ?_
      simp only [zfil_0, zset_self]
    intro n
    induction n with
    | zero => intro k hk0 hk1 hk2; omega
    | succ n ih =>
    intro k hk0 hk1 hk2
    refine z_L1I (pc' := 17) dX9_restore_16 rfl ?_
    refine z_sipush (pc' := 20) dX9_restore_17 rfl (by decide) ?_
    refine z_icmp_ge (tgt := 41) (pc' := 23) dX9_restore_20 (by decide) rfl (fun h20 => ?_) (fun h20 => ?_)
    · obtain rfl : k = 281 := by omega
      have hn : zMR (zset me1 (y + 1) (zfil (me1 (y + 1)) (me1 (y + 3)) 281) (y + 1)) S := by
        rw [zset_eq, hm1 (y + 3) (by omega) (by omega)]
        exact zMR_congr hIS hRS (fun q q0 q1 => zfil_in _ _ _ _ q0 q1)
      refine z_L0R (pc' := 42) dX9_restore_41 rfl ?_
      refine z_iconst (pc' := 43) dX9_restore_42 rfl (by unfold zin; decide) ?_
      refine z_V1v (pc' := 46) (ci := 9) kX9_atHome lX9_74 dX9_restore_43 rfl (by omega) (Nat.le_of_ble_eq_true rfl) (by decide) rfl hy.s ?_
      refine m_atHome hy (zKv_i ?_)
      rw [zMR_home hn]
      refine z_ireturn rfl rfl dX9_restore_46 ?_
      refine hQ _ (zMX_do hX hn ?_ ?_ ?_ ?_ ?_) (fun a ha => by rw [zset_ne _ _ _ (by omega), hm1 a (by omega) (by omega)])
      · obtain ⟨k1, k2, k3⟩ := hH1
        exact ⟨by rw [zset_ne me1 _ _ (by omega)]; exact k1, k2, by rw [zset_ne me1 _ _ (by omega)]; exact k3⟩
      · rw [zset_ne me1 _ _ (by omega)]; exact hm2 _ (by omega)
      · rw [zset_ne me1 _ _ (by omega)]; exact hm2 _ (by omega)
      · rw [zset_ne me1 _ _ (by omega)]; exact hm1 _ (by omega) (by omega)
      · rw [zset_ne me1 _ _ (by omega)]; exact hm1 _ (by omega) (by omega)
    · refine z_L0R (pc' := 24) dX9_restore_23 rfl ?_
      refine z_getR (pc' := 27) (ki := 0) 0 fX9_7.l rfl rfl dX9_restore_24 rfl hy.s hy.p0 ?_
      refine z_L1I (pc' := 28) dX9_restore_27 rfl ?_
      refine z_L0R (pc' := 29) dX9_restore_28 rfl ?_
      refine z_getR (pc' := 32) (ki := 3) 3 fX9_16.l rfl rfl dX9_restore_29 rfl hy.s hy.p3 ?_
      refine z_L1I (pc' := 33) dX9_restore_32 rfl ?_
      refine z_ild (pc' := 34) dX9_restore_33 rfl hy.a3 (by omega) (by omega) ?_
      refine z_ist (pc' := 35) dX9_restore_34 rfl hy.a1 (by omega) (by omega) ?_
      refine z_inc1 (pc' := 38) rfl dX9_restore_35 rfl (by unfold zin; omega) ?_
      refine z_goto (tgt := 16) dX9_restore_38 (by decide) ?_
      refine zW_to (ih (k + 1) (by omega) (by omega) (by omega) ) rfl rfl ?_
      rw [zset_11, zset_eq]
      exact congrArg (zset me1 (y + 1)) (zfil_up _ _ _ _ hk0 (by rw [zset_ne _ _ _ (by omega)]))
  · obtain ⟨hE0, hE⟩ := hX.2.2.1.resolve_right (fun z => by omega)
    have hz : zoRestore A = (-4, A) := by unfold zoRestore; rw [hE]
    rw [hz] at hQ
    refine z_bipush (pc' := 9) dX9_restore_7 rfl (by decide) ?_
    refine z_ireturn rfl rfl dX9_restore_9 ?_
    exact hQ me hX zMF.rf
set_option maxRecDepth 100000 in
set_option maxHeartbeats 1000000 in
theorem y_hold {d : Nat} {sp : zSP} {me : zMe} {Q : zQ} {y : Nat} {A : zAb} {B i j : Int} (hd : 20 ≤ d) (hy : zMod sp y) (hX : zMX me y A) (hI : zIA B A) (hQ : ∀ me', zMX me' y (zoHold A i j).2 → zMF y me me' → Q (some (zI (zoHold A i j).1)) sp me') : zCall mX9_hold d 0 0 [zR y, zI i, zI j] sp me Q := by
  refine z_met kX9_hold (by simp) (by simp) ?_
  show zW mX9_hold d 0 0 Q 0 [zR y, zI i, zI j] [] sp me
  have hIS := hI.1
  have hgA : zgR (qW A) (qF A) := hIS.1
  have hokA : zHok (qH A) := hIS.2.1
  have hpnA : qP A = zpn (qH A) := hIS.2.2.1
  have hvA : zfv (qS A) (qC A) := hIS.2.2.2.1
  have hlA : zlim (qS A) (qC A) := hIS.2.2.2.2.1
  have hRw : ∀ p, 0 ≤ p → p < 10 → me (y + 1) p = qW A p := hX.1.1
  have hRf : ∀ i, 0 ≤ i → i < 10 → me (y + 1) (10 + i) = qF A (zpl (qW A) i) := fun i a b => zMR_f hI.1 hX.1 a b
  have hRh : ∀ i, 0 ≤ i → i < 10 → me (y + 1) (20 + i) = qH A i := hX.1.2.2.1
  have hRs : ∀ k, 0 ≤ k → k < 8 → me (y + 1) (30 + 31 * k) = qS A k := fun k a b => (hX.1.2.2.2.1 k a b).1
  have hRc : ∀ k, 0 ≤ k → k < 8 → ∀ m, 0 ≤ m → m < qS A k → ∀ q, 0 ≤ q → q < 3 → me (y + 1) (30 + 31 * k + 1 + 3 * m + q) = zdig (qC A (k * 10 + m)) q := fun k a b => (hX.1.2.2.2.1 k a b).2
  unfold zoHold at hQ
  refine z_L1I (pc' := 1) dX9_hold_0 rfl ?_
  refine z_S1v (pc' := 4) kX9_isDancer lX9_147 dX9_hold_1 rfl (by omega) (Nat.le_of_ble_eq_true rfl) ?_
  refine m_isDan2 (by omega) (fun b hb => zKv_i ?_)
  refine z_if_eq (tgt := 14) (pc' := 7) dX9_hold_4 (by decide) rfl (fun h4 => ?_) (fun h4 => ?_)
  · rw [zif_pos (by omega)] at hQ
    refine z_iconst (pc' := 15) dX9_hold_14 rfl (by unfold zin; decide) ?_
    refine z_ireturn rfl rfl dX9_hold_15 ?_
    exact hQ me hX zMF.rf
  · refine z_L2I (pc' := 8) dX9_hold_7 rfl ?_
    refine z_S1v (pc' := 11) kX9_isDancer lX9_147 dX9_hold_8 rfl (by omega) (Nat.le_of_ble_eq_true rfl) ?_
    refine m_isDan2 (by omega) (fun b2 hb2 => zKv_i ?_)
    refine z_if_ne (tgt := 16) (pc' := 14) dX9_hold_11 (by decide) rfl (fun h11 => ?_) (fun h11 => ?_)
    · rw [zif_neg (by omega)] at hQ
      have hpi := zpl_ok hgA (show 0 ≤ i by omega) (show i < 10 by omega)
      have hpj := zpl_ok hgA (show 0 ≤ j by omega) (show j < 10 by omega)
      refine z_L1I (pc' := 17) dX9_hold_16 rfl ?_
      refine z_L2I (pc' := 18) dX9_hold_17 rfl ?_
      refine z_icmp_ne (tgt := 24) (pc' := 21) dX9_hold_18 (by decide) rfl (fun h18 => ?_) (fun h18 => ?_)
      · rw [zif_neg (by omega)] at hQ
        refine z_L0R (pc' := 25) dX9_hold_24 rfl ?_
        refine z_getR (pc' := 28) (ki := 0) 0 fX9_7.l rfl rfl dX9_hold_25 rfl hy.s hy.p0 ?_
        refine z_bipush (pc' := 30) dX9_hold_28 rfl (by decide) ?_
        refine z_L1I (pc' := 31) dX9_hold_30 rfl ?_
        refine z_iadd (pc' := 32) dX9_hold_31 rfl (by unfold zin; omega) ?_
        refine z_ild (pc' := 33) dX9_hold_32 rfl hy.a1 (by omega) (by omega) ?_
        rw [hRh i (by omega) (by omega)]
        refine z_bipush (pc' := 35) dX9_hold_33 rfl (by decide) ?_
        refine z_icmp_ne (tgt := 68) (pc' := 38) dX9_hold_35 (by decide) rfl (fun h35 => ?_) (fun h35 => ?_)
        · rw [zif_pos (by first | exact Or.inl h35 | exact Or.inr (Or.inl h49))] at hQ
          refine z_bipush (pc' := 70) dX9_hold_68 rfl (by decide) ?_
          refine z_ireturn rfl rfl dX9_hold_70 ?_
          exact hQ me hX zMF.rf
        · refine z_L0R (pc' := 39) dX9_hold_38 rfl ?_
          refine z_getR (pc' := 42) (ki := 0) 0 fX9_7.l rfl rfl dX9_hold_39 rfl hy.s hy.p0 ?_
          refine z_bipush (pc' := 44) dX9_hold_42 rfl (by decide) ?_
          refine z_L2I (pc' := 45) dX9_hold_44 rfl ?_
          refine z_iadd (pc' := 46) dX9_hold_45 rfl (by unfold zin; omega) ?_
          refine z_ild (pc' := 47) dX9_hold_46 rfl hy.a1 (by omega) (by omega) ?_
          rw [hRh j (by omega) (by omega)]
          refine z_bipush (pc' := 49) dX9_hold_47 rfl (by decide) ?_
          refine z_icmp_ne (tgt := 68) (pc' := 52) dX9_hold_49 (by decide) rfl (fun h49 => ?_) (fun h49 => ?_)
          · rw [zif_pos (by first | exact Or.inl h35 | exact Or.inr (Or.inl h49))] at hQ
            refine z_bipush (pc' := 70) dX9_hold_68 rfl (by decide) ?_
            refine z_ireturn rfl rfl dX9_hold_70 ?_
            exact hQ me hX zMF.rf
          · refine z_L0R (pc' := 53) dX9_hold_52 rfl ?_
            refine z_L1I (pc' := 54) dX9_hold_53 rfl ?_
            refine z_V1v (pc' := 57) (ci := 9) kX9_placeOf lX9_123 dX9_hold_54 rfl (by omega) (Nat.le_of_ble_eq_true rfl) (by decide) rfl hy.s ?_
            refine m_pl hy hgA hRw (by omega) (by omega) (zKv_i ?_)
            refine z_L0R (pc' := 58) dX9_hold_57 rfl ?_
            refine z_L2I (pc' := 59) dX9_hold_58 rfl ?_
            refine z_V1v (pc' := 62) (ci := 9) kX9_placeOf lX9_123 dX9_hold_59 rfl (by omega) (Nat.le_of_ble_eq_true rfl) (by decide) rfl hy.s ?_
            refine m_pl hy hgA hRw (by omega) (by omega) (zKv_i ?_)
            refine z_S2v (pc' := 65) kX9_areNeighbors lX9_126 dX9_hold_62 rfl (by omega) (Nat.le_of_ble_eq_true rfl) ?_
            refine m_areNb (by omega) hpi.1 hpi.2.1 hpj.1 hpj.2.1 (fun hn => zKv_i ?_) (fun hn => zKv_i ?_)
            rotate_left
            · refine z_if_ne (tgt := 71) (pc' := 68) dX9_hold_65 (by decide) rfl (fun h4 => absurd rfl h4) (fun h4 => ?_)
              refine z_bipush (pc' := 70) dX9_hold_68 rfl (by decide) ?_
              refine z_ireturn rfl rfl dX9_hold_70 ?_
              rw [zif_pos (Or.inr (Or.inr hn))] at hQ
              exact hQ me hX zMF.rf
            rw [zif_neg (fun z => z.elim (fun z => z (by omega)) (fun z => z.elim (fun z => z (by omega)) (fun z => z hn)))] at hQ
            refine z_if_ne (tgt := 71) (pc' := 68) dX9_hold_65 (by decide) rfl (fun h65 => ?_) (fun h65 => absurd h65 (by omega))
            refine z_L0R (pc' := 72) dX9_hold_71 rfl ?_
            refine z_V00 (pc' := 75) (ci := 9) kX9_record lX9_78 dX9_hold_72 rfl (by omega) (Nat.le_of_ble_eq_true rfl) (by decide) rfl hy.s ?_
            refine m_record hy hI.1 hI.2.1 hX.1 hX.2.1 (fun me1 hH1 hm1 hm2 => zK0_i ?_)
            refine z_L0R (pc' := 76) dX9_hold_75 rfl ?_
            refine z_getR (pc' := 79) (ki := 0) 0 fX9_7.l rfl rfl dX9_hold_76 rfl hy.s hy.p0 ?_
            refine z_bipush (pc' := 81) dX9_hold_79 rfl (by decide) ?_
            refine z_L1I (pc' := 82) dX9_hold_81 rfl ?_
            refine z_iadd (pc' := 83) dX9_hold_82 rfl (by unfold zin; omega) ?_
            refine z_L2I (pc' := 84) dX9_hold_83 rfl ?_
            refine z_ist (pc' := 85) dX9_hold_84 rfl hy.a1 (by omega) (by omega) ?_
            refine z_L0R (pc' := 86) dX9_hold_85 rfl ?_
            refine z_getR (pc' := 89) (ki := 0) 0 fX9_7.l rfl rfl dX9_hold_86 rfl hy.s hy.p0 ?_
            refine z_bipush (pc' := 91) dX9_hold_89 rfl (by decide) ?_
            refine z_L2I (pc' := 92) dX9_hold_91 rfl ?_
            refine z_iadd (pc' := 93) dX9_hold_92 rfl (by unfold zin; omega) ?_
            refine z_L1I (pc' := 94) dX9_hold_93 rfl ?_
            refine z_ist (pc' := 95) dX9_hold_94 rfl hy.a1 (by omega) (by omega) ?_
            generalize hm : zset (zset me1 (y + 1) _) (y + 1) _ = me2
            have o2 : ∀ a, a ≠ y + 1 → me2 a = me1 a := fun a ha => by rw [← hm, zset_ne _ _ _ ha, zset_ne _ _ _ ha]
            have e2 : me2 (y + 1) = zup (zup (me (y + 1)) (20 + i) j) (20 + j) i := by rw [← hm, zset_eq, zset_eq, hm1 _ (by omega) (by omega)]
            have hn2 : ∀ p, 0 ≤ p → p < 10 → me2 (y + 1) (20 + p) = zup (zup (qH A) i j) j i p := fun p p0 p1 => by
              rw [e2]
              by_cases e : p = j
              · rw [e, zup_eq, zup_eq]
              · rw [zup_ne _ _ _ (by omega), zup_ne (zup (qH A) i j) _ _ e]
                by_cases e' : p = i
                · rw [e', zup_eq, zup_eq]
                · rw [zup_ne _ _ _ (by omega), zup_ne _ _ _ e']; exact hRh p p0 p1
            have hn1 : ∀ q, 0 ≤ q → q < 281 → ¬ (20 ≤ q ∧ q < 30) → me2 (y + 1) q = me (y + 1) q := fun q q0 q1 q2 => by
              rw [e2, zup_ne _ _ _ (by omega), zup_ne _ _ _ (by omega)]
            have hRS : zMR (me2 (y + 1)) (qst (qW A) (qF A) (zup (zup (qH A) i j) j i) (qP A + 1) (qS A) (qC A) (qT0 A) (qT1 A) (qT2 A)) := zMR_h hgA hvA hX.1 hn1 hn2
            refine z_L0R (pc' := 96) dX9_hold_95 rfl ?_
            refine z_V0v (pc' := 99) (ci := 9) kX9_pairs lX9_150 dX9_hold_96 rfl (by omega) (Nat.le_of_ble_eq_true rfl) (by decide) rfl hy.s ?_
            refine m_pairs hy (zKv_i ?_)
            rw [show zSm (fun i => if me2 (y + 1) (20 + i) ≠ -5 then (1 : Int) else 0) 10 = zSm (fun p => if zup (zup (qH A) i j) j i p ≠ -5 then 1 else 0) 10 from zSm_congr _ (fun p p0 p1 => by (try dsimp only); rw [hn2 p p0 p1]), zpn_cnt (zHok_join hokA (by omega) (by omega) (by omega) (by omega) h18 (by omega) (by omega)), zpn_join (by omega) (by omega) (by omega) (by omega) h18 (by omega) (by omega), ← hpnA]
            refine z_ireturn rfl rfl dX9_hold_99 ?_
            refine hQ me2 (zMX_do hX hRS ?_ ?_ ?_ ?_ ?_) (fun a ha => by rw [o2 a (by omega), hm1 a (by omega) (by omega)])
            · obtain ⟨k1, k2, k3⟩ := hH1
              exact ⟨by rw [o2 _ (by omega)]; exact k1, k2, by rw [o2 _ (by omega)]; exact k3⟩
            · rw [o2 _ (by omega)]; exact hm2 _ (by omega)
            · rw [o2 _ (by omega)]; exact hm2 _ (by omega)
            · rw [o2 _ (by omega)]; exact hm1 _ (by omega) (by omega)
            · rw [o2 _ (by omega)]; exact hm1 _ (by omega) (by omega)
      · rw [zif_pos (by omega)] at hQ
        refine z_bipush (pc' := 23) dX9_hold_21 rfl (by decide) ?_
        refine z_ireturn rfl rfl dX9_hold_23 ?_
        exact hQ me hX zMF.rf
    · rw [zif_pos (by omega)] at hQ
      refine z_iconst (pc' := 15) dX9_hold_14 rfl (by unfold zin; decide) ?_
      refine z_ireturn rfl rfl dX9_hold_15 ?_
      exact hQ me hX zMF.rf
set_option maxRecDepth 100000 in
set_option maxHeartbeats 1000000 in
theorem y_release {d : Nat} {sp : zSP} {me : zMe} {Q : zQ} {y : Nat} {A : zAb} {B i : Int} (hd : 20 ≤ d) (hy : zMod sp y) (hX : zMX me y A) (hI : zIA B A) (hQ : ∀ me', zMX me' y (zoRelease A i).2 → zMF y me me' → Q (some (zI (zoRelease A i).1)) sp me') : zCall mX9_release d 0 0 [zR y, zI i] sp me Q := by
  refine z_met kX9_release (by simp) (by simp) ?_
  show zW mX9_release d 0 0 Q 0 [zR y, zI i, zU] [] sp me
  have hIS := hI.1
  have hgA : zgR (qW A) (qF A) := hIS.1
  have hokA : zHok (qH A) := hIS.2.1
  have hpnA : qP A = zpn (qH A) := hIS.2.2.1
  have hvA : zfv (qS A) (qC A) := hIS.2.2.2.1
  have hlA : zlim (qS A) (qC A) := hIS.2.2.2.2.1
  have hRw : ∀ p, 0 ≤ p → p < 10 → me (y + 1) p = qW A p := hX.1.1
  have hRf : ∀ i, 0 ≤ i → i < 10 → me (y + 1) (10 + i) = qF A (zpl (qW A) i) := fun i a b => zMR_f hI.1 hX.1 a b
  have hRh : ∀ i, 0 ≤ i → i < 10 → me (y + 1) (20 + i) = qH A i := hX.1.2.2.1
  have hRs : ∀ k, 0 ≤ k → k < 8 → me (y + 1) (30 + 31 * k) = qS A k := fun k a b => (hX.1.2.2.2.1 k a b).1
  have hRc : ∀ k, 0 ≤ k → k < 8 → ∀ m, 0 ≤ m → m < qS A k → ∀ q, 0 ≤ q → q < 3 → me (y + 1) (30 + 31 * k + 1 + 3 * m + q) = zdig (qC A (k * 10 + m)) q := fun k a b => (hX.1.2.2.2.1 k a b).2
  unfold zoRelease at hQ
  refine z_L1I (pc' := 1) dX9_release_0 rfl ?_
  refine z_S1v (pc' := 4) kX9_isDancer lX9_147 dX9_release_1 rfl (by omega) (Nat.le_of_ble_eq_true rfl) ?_
  refine m_isDan2 (by omega) (fun b hb => zKv_i ?_)
  refine z_if_ne (tgt := 9) (pc' := 7) dX9_release_4 (by decide) rfl (fun h4 => ?_) (fun h4 => ?_)
  · rw [zif_neg (by omega)] at hQ
    have hki := hokA.1 i (by omega) (by omega)
    refine z_L0R (pc' := 10) dX9_release_9 rfl ?_
    refine z_getR (pc' := 13) (ki := 0) 0 fX9_7.l rfl rfl dX9_release_10 rfl hy.s hy.p0 ?_
    refine z_bipush (pc' := 15) dX9_release_13 rfl (by decide) ?_
    refine z_L1I (pc' := 16) dX9_release_15 rfl ?_
    refine z_iadd (pc' := 17) dX9_release_16 rfl (by unfold zin; omega) ?_
    refine z_ild (pc' := 18) dX9_release_17 rfl hy.a1 (by omega) (by omega) ?_
    rw [hRh i (by omega) (by omega)]
    refine z_bipush (pc' := 20) dX9_release_18 rfl (by decide) ?_
    refine z_icmp_ne (tgt := 26) (pc' := 23) dX9_release_20 (by decide) rfl (fun h20 => ?_) (fun h20 => ?_)
    · rw [zif_neg (by omega)] at hQ
      refine z_L0R (pc' := 27) dX9_release_26 rfl ?_
      refine z_V00 (pc' := 30) (ci := 9) kX9_record lX9_78 dX9_release_27 rfl (by omega) (Nat.le_of_ble_eq_true rfl) (by decide) rfl hy.s ?_
      refine m_record hy hI.1 hI.2.1 hX.1 hX.2.1 (fun me1 hH1 hm1 hm2 => zK0_i ?_)
      refine z_L0R (pc' := 31) dX9_release_30 rfl ?_
      refine z_getR (pc' := 34) (ki := 0) 0 fX9_7.l rfl rfl dX9_release_31 rfl hy.s hy.p0 ?_
      refine z_bipush (pc' := 36) dX9_release_34 rfl (by decide) ?_
      refine z_L1I (pc' := 37) dX9_release_36 rfl ?_
      refine z_iadd (pc' := 38) dX9_release_37 rfl (by unfold zin; omega) ?_
      refine z_ild (pc' := 39) dX9_release_38 rfl hy.a1 (by omega) (by omega) ?_
      rw [hm1 (y + 1) (by omega) (by omega), hRh i (by omega) (by omega)]
      refine z_S2I (pc' := 40) rfl dX9_release_39 rfl ?_
      refine z_L0R (pc' := 41) dX9_release_40 rfl ?_
      refine z_getR (pc' := 44) (ki := 0) 0 fX9_7.l rfl rfl dX9_release_41 rfl hy.s hy.p0 ?_
      refine z_bipush (pc' := 46) dX9_release_44 rfl (by decide) ?_
      refine z_L1I (pc' := 47) dX9_release_46 rfl ?_
      refine z_iadd (pc' := 48) dX9_release_47 rfl (by unfold zin; omega) ?_
      refine z_bipush (pc' := 50) dX9_release_48 rfl (by decide) ?_
      refine z_ist (pc' := 51) dX9_release_50 rfl hy.a1 (by omega) (by omega) ?_
      refine z_L0R (pc' := 52) dX9_release_51 rfl ?_
      refine z_getR (pc' := 55) (ki := 0) 0 fX9_7.l rfl rfl dX9_release_52 rfl hy.s hy.p0 ?_
      refine z_bipush (pc' := 57) dX9_release_55 rfl (by decide) ?_
      refine z_L2I (pc' := 58) dX9_release_57 rfl ?_
      refine z_iadd (pc' := 59) dX9_release_58 rfl (by unfold zin; omega) ?_
      refine z_bipush (pc' := 61) dX9_release_59 rfl (by decide) ?_
      refine z_ist (pc' := 62) dX9_release_61 rfl hy.a1 (by omega) (by omega) ?_
      generalize hm : zset (zset me1 (y + 1) _) (y + 1) _ = me2
      have o2 : ∀ a, a ≠ y + 1 → me2 a = me1 a := fun a ha => by rw [← hm, zset_ne _ _ _ ha, zset_ne _ _ _ ha]
      have e2 : me2 (y + 1) = zup (zup (me (y + 1)) (20 + i) (-5)) (20 + qH A i) (-5) := by rw [← hm, zset_eq, zset_eq, hm1 _ (by omega) (by omega)]
      have hn2 : ∀ p, 0 ≤ p → p < 10 → me2 (y + 1) (20 + p) = zup (zup (qH A) i (-5)) (qH A i) (-5) p := fun p p0 p1 => by
        rw [e2]
        by_cases e : p = qH A i
        · rw [e, zup_eq, zup_eq]
        · rw [zup_ne _ _ _ (by omega), zup_ne (zup (qH A) i (-5)) _ _ e]
          by_cases e' : p = i
          · rw [e', zup_eq, zup_eq]
          · rw [zup_ne _ _ _ (by omega), zup_ne _ _ _ e']; exact hRh p p0 p1
      have hn1 : ∀ q, 0 ≤ q → q < 281 → ¬ (20 ≤ q ∧ q < 30) → me2 (y + 1) q = me (y + 1) q := fun q q0 q1 q2 => by
        rw [e2, zup_ne _ _ _ (by omega), zup_ne _ _ _ (by omega)]
      have hRS : zMR (me2 (y + 1)) (qst (qW A) (qF A) (zup (zup (qH A) i (-5)) (qH A i) (-5)) (qP A - 1) (qS A) (qC A) (qT0 A) (qT1 A) (qT2 A)) := zMR_h hgA hvA hX.1 hn1 hn2
      refine z_L2I (pc' := 63) dX9_release_62 rfl ?_
      refine z_ireturn rfl rfl dX9_release_63 ?_
      refine hQ me2 (zMX_do hX hRS ?_ ?_ ?_ ?_ ?_) (fun a ha => by rw [o2 a (by omega), hm1 a (by omega) (by omega)])
      · obtain ⟨k1, k2, k3⟩ := hH1
        exact ⟨by rw [o2 _ (by omega)]; exact k1, k2, by rw [o2 _ (by omega)]; exact k3⟩
      · rw [o2 _ (by omega)]; exact hm2 _ (by omega)
      · rw [o2 _ (by omega)]; exact hm2 _ (by omega)
      · rw [o2 _ (by omega)]; exact hm1 _ (by omega) (by omega)
      · rw [o2 _ (by omega)]; exact hm1 _ (by omega) (by omega)
    · rw [zif_pos (by omega)] at hQ
      refine z_bipush (pc' := 25) dX9_release_23 rfl (by decide) ?_
      refine z_ireturn rfl rfl dX9_release_25 ?_
      exact hQ me hX zMF.rf
  · rw [zif_pos (by omega)] at hQ
    refine z_iconst (pc' := 8) dX9_release_7 rfl (by unfold zin; decide) ?_
    refine z_ireturn rfl rfl dX9_release_8 ?_
    exact hQ me hX zMF.rf
end ZMO4

