section ZDANCE
def zkb (w h : Int → Int) : Bool := (List.range 10).all (fun n => decide (h (w (n : Int)) = -5) || (decide (h (w (n : Int)) = w (((n : Int) + 1) % 10)) || decide (h (w (n : Int)) = w (((n : Int) + 10 - 1) % 10))))
theorem zkb_iff {w h : Int → Int} : zkb w h = true ↔ zkall w h := by
  unfold zkb zkall zkept
  rw [List.all_eq_true]
  constructor
  · intro H p h0 h1
    obtain ⟨n, rfl⟩ := Int.eq_ofNat_of_zero_le h0
    have := H n (List.mem_range.mpr (by omega))
    simp only [Bool.or_eq_true, decide_eq_true_eq] at this
    exact this
  · intro H n hn
    have := H (n : Int) (by omega) (by have := List.mem_range.mp hn; omega)
    simp only [Bool.or_eq_true, decide_eq_true_eq]
    exact this
/-- steps tried one after the other: how many before the first that isn't possible, -5 if all are -/
def ztry (h : Int → Int) : List Int → zRg → Int → Int
  | [], _, _ => -5
  | c :: L, R, m => if zkb (zac R c).1 h = true then ztry h L (zac R c) (m + 1) else m
def zrep : Nat → List Int → List Int
  | 0, _ => []
  | n + 1, L => L ++ zrep n L
theorem zrep_len (n : Nat) (L : List Int) : (zrep n L).length = n * L.length := by
  induction n with
  | zero => simp [zrep]
  | succ n ih => unfold zrep; rw [List.length_append, ih, Nat.succ_mul]; omega
theorem ztry_bd {h : Int → Int} : ∀ (L : List Int) (R : zRg) (m : Int), 0 ≤ m → ztry h L R m = -5 ∨ (m ≤ ztry h L R m ∧ ztry h L R m < m + L.length) := by
  intro L
  induction L with
  | nil => intro R m _; exact Or.inl rfl
  | cons c L ih =>
    intro R m hm
    have h1 := ih (zac R c) (m + 1) (by omega)
    rw [List.length_cons]
    by_cases hk : zkb (zac R c).1 h = true
    · have e : ztry h (c :: L) R m = ztry h L (zac R c) (m + 1) := if_pos hk
      rw [e]; omega
    · have e : ztry h (c :: L) R m = m := if_neg hk
      rw [e]; omega
set_option maxRecDepth 100000 in
set_option maxHeartbeats 1000000 in
theorem c_tryOut {d : Nat} {sp : zSP} {me : zMe} {Q : zQ} {x : Nat} {k T b cm : Int} {L : List Int} (hd : 6 ≤ d) (hx : zObj sp x) (hk0 : 0 ≤ k) (hk1 : k < 8) (hT0 : 0 ≤ T) (hT1 : T ≤ 9) (hK : zPk me (x + 82) k L cm) (hvL : ∀ c ∈ L, zvs c ∧ c < 400) (hl : L.length ≤ 120) (hg : zgR (me (x + 1 + 1 + 1)) (me (x + 1 + 1 + 2))) (hpr : me (x + 1 + 6) 1 = 0 → ∀ i, 0 ≤ i → i < 10 → me (x + 1 + 6 + 1) i = -5) (hQ : ∀ j3 j4 W F, (ztry (me (x + 1 + 6 + 1)) (zrep T.toNat (zord L b)) (me (x + 1 + 1 + 1), me (x + 1 + 1 + 2)) 0 = -5 → (W, F) = zfo (me (x + 1 + 1 + 1), me (x + 1 + 1 + 2)) (zrep T.toNat (zord L b))) → Q (some (zI (ztry (me (x + 1 + 6 + 1)) (zrep T.toNat (zord L b)) (me (x + 1 + 1 + 1), me (x + 1 + 1 + 2)) 0))) sp (zr4 me (x + 156) j3 j4 W F)) : zCall mX8_tryOut d 0 0 [zR x, zI k, zI T, zI b] sp me Q := by
  refine z_met kX8_tryOut (by simp) (by simp) ?_
  show zW mX8_tryOut d 0 0 Q 0 [zR x, zI k, zI T, zI b, zU, zU, zU, zU] [] sp me
  have hO := zord_vs (b := b) hvL
  have hOl := zord_len L b
  refine z_L0R (pc' := 1) dX8_tryOut_0 rfl ?_
  refine z_getR (pc' := 4) (ki := 7) 7 fX8_54.l rfl rfl dX8_tryOut_1 rfl hx.s hx.p7 ?_
  refine z_L0R (pc' := 5) dX8_tryOut_4 rfl ?_
  refine z_getR (pc' := 8) (ki := 0) 0 fX8_10.l rfl rfl dX8_tryOut_5 rfl hx.s hx.p0 ?_
  refine z_getR (pc' := 11) (ki := 0) 0 fX8_118 rfl rfl dX8_tryOut_8 rfl (by first | exact hx.o1.s | exact hx.o12.s) (by first | exact hx.o1.p0 | exact hx.o12.p0) ?_
  refine z_V10 (pc' := 14) (ci := 4) kX4_copyFrom lX8_227 dX8_tryOut_11 rfl (by omega) (Nat.le_of_ble_eq_true rfl) (by decide) rfl hx.o156.s ?_
  refine c_ringCopy (by omega) hx.o156 hx.o1.o1 (by omega) (zK0_i ?_)
  rw [zr4_set]
  have ea : ∀ a b W F y, (y < x + 157 ∨ x + 160 < y) → zr4 me (x + 156) a b W F y = me y := fun a b W F y hy => zr4_o _ _ _ _ _ _ _ (by omega)
  have eK : ∀ a b W F, zPk (zr4 me (x + 156) a b W F) (x + 82) k L cm := fun a b W F => by
    obtain ⟨g1, g2, g3, g4, g5⟩ := hK
    exact ⟨by rw [ea _ _ _ _ _ (by omega)]; exact g1, fun i hi => by rw [ea _ _ _ _ _ (by omega)]; exact g2 i hi, by rw [ea _ _ _ _ _ (by omega)]; exact g3, by rw [ea _ _ _ _ _ (by omega)]; exact g4, by rw [ea _ _ _ _ _ (by omega)]; exact g5⟩
  refine z_L0R (pc' := 15) dX8_tryOut_14 rfl ?_
  refine z_getR (pc' := 18) (ki := 5) 5 fX8_40.l rfl rfl dX8_tryOut_15 rfl hx.s hx.p5 ?_
  refine z_L1I (pc' := 19) dX8_tryOut_18 rfl ?_
  refine z_V1v (pc' := 22) (ci := 3) kX3_stepCount lX8_73 dX8_tryOut_19 rfl (by omega) (Nat.le_of_ble_eq_true rfl) (by decide) rfl hx.o82.s ?_
  refine c_stepCount (by omega) hx.o82 (zKv_i ?_)
  rw [ea _ _ _ _ _ (by omega), hK.1]
  refine z_S4I (pc' := 24) rfl dX8_tryOut_22 rfl ?_
  refine z_iconst (pc' := 25) dX8_tryOut_24 rfl (by unfold zin; decide) ?_
  refine z_S5I (pc' := 27) rfl dX8_tryOut_25 rfl ?_
  refine z_iconst (pc' := 28) dX8_tryOut_27 rfl (by unfold zin; decide) ?_
  refine z_S6I (pc' := 30) rfl dX8_tryOut_28 rfl ?_
  suffices H : ∀ (n t : Nat) (made : Int) (v7 : zV) (j3 j4 W F : Int → Int), (t : Int) ≤ T → T - t < n → 0 ≤ made → made ≤ 120 * t → zgR W F → ztry (me (x + 1 + 6 + 1)) (zrep (T.toNat - t) (zord L b)) (W, F) made = ztry (me (x + 1 + 6 + 1)) (zrep T.toNat (zord L b)) (me (x + 1 + 1 + 1), me (x + 1 + 1 + 2)) 0 → zfo (W, F) (zrep (T.toNat - t) (zord L b)) = zfo (me (x + 1 + 1 + 1), me (x + 1 + 1 + 2)) (zrep T.toNat (zord L b)) → zW mX8_tryOut d 0 0 Q 30 [zR x, zI k, zI T, zI b, zI (L.length : Int), zI made, zI (t : Int), v7] [] sp (zr4 me (x + 156) j3 j4 W F) by
    exact H 10 0 0 zU _ _ _ _ (by omega) (by omega) (by omega) (by omega) hg rfl rfl
  intro n
  induction n with
  | zero => intro t made v7 j3 j4 W F h1 h2; omega
  | succ n ih =>
  intro t made v7 j3 j4 W F ht0 ht1 hm0 hm1 hgW hz hzf
  refine z_L6I (pc' := 32) dX8_tryOut_30 rfl ?_
  refine z_L2I (pc' := 33) dX8_tryOut_32 rfl ?_
  refine z_icmp_ge (tgt := 99) (pc' := 36) dX8_tryOut_33 (by decide) rfl (fun h33 => ?_) (fun h33 => ?_)
  · refine z_bipush (pc' := 101) dX8_tryOut_99 rfl (by decide) ?_
    refine z_ireturn rfl rfl dX8_tryOut_101 ?_
    obtain rfl : t = T.toNat := by omega
    rw [Nat.sub_self] at hz hzf
    have hz : (-5 : Int) = ztry (me (x + 1 + 6 + 1)) (zrep T.toNat (zord L b)) (me (x + 1 + 1 + 1), me (x + 1 + 1 + 2)) 0 := hz
    rw [hz]
    exact hQ _ _ _ _ (fun _ => hzf)
  · obtain ⟨r, hr⟩ : ∃ r, T.toNat - t = r + 1 := ⟨T.toNat - t - 1, by omega⟩
    have hr2 : T.toNat - (t + 1) = r := by omega
    rw [hr] at hz hzf
    refine z_iconst (pc' := 37) dX8_tryOut_36 rfl (by unfold zin; decide) ?_
    refine z_S7I (pc' := 39) rfl dX8_tryOut_37 rfl ?_
    suffices H : ∀ (n2 i : Nat) (made2 : Int) (j3 j4 W F : Int → Int), i ≤ L.length → L.length - i < n2 → made2 = made + i → zgR W F → ztry (me (x + 1 + 6 + 1)) ((zord L b).drop i ++ zrep r (zord L b)) (W, F) made2 = ztry (me (x + 1 + 6 + 1)) (zrep T.toNat (zord L b)) (me (x + 1 + 1 + 1), me (x + 1 + 1 + 2)) 0 → zfo (W, F) ((zord L b).drop i ++ zrep r (zord L b)) = zfo (me (x + 1 + 1 + 1), me (x + 1 + 1 + 2)) (zrep T.toNat (zord L b)) → zW mX8_tryOut d 0 0 Q 39 [zR x, zI k, zI T, zI b, zI (L.length : Int), zI made2, zI (t : Int), zI (i : Int)] [] sp (zr4 me (x + 156) j3 j4 W F) by
      exact H (L.length + 1) 0 made j3 j4 W F (by omega) (by omega) (by simp) hgW hz hzf
    intro n2
    induction n2 with
    | zero => intro i made2 j3 j4 W F h1 h2; omega
    | succ n2 ih2 =>
    intro i made2 j3 j4 W F hi0 hi1 hmm hgW2 hz2 hzf2
    refine z_L7I (pc' := 41) dX8_tryOut_39 rfl ?_
    refine z_L4I (pc' := 43) dX8_tryOut_41 rfl ?_
    refine z_icmp_ge (tgt := 93) (pc' := 46) dX8_tryOut_43 (by decide) rfl (fun h43 => ?_) (fun h43 => ?_)
    · obtain rfl : i = L.length := by omega
      rw [List.drop_eq_nil_of_le (by omega), List.nil_append, ← hr2] at hz2 hzf2
      refine z_inc6 (pc' := 96) rfl dX8_tryOut_93 rfl (by unfold zin; omega) ?_
      refine z_goto (tgt := 30) dX8_tryOut_96 (by decide) ?_
      exact ih (t + 1) made2 _ j3 j4 W F (by omega) (by omega) (by omega) (by omega) hgW2 hz2 hzf2
    · have hil : i < (zord L b).length := by omega
      have hdr : (zord L b).drop i = (zord L b).getD i 0 :: (zord L b).drop (i + 1) := by
        rw [List.drop_eq_getElem_cons hil]
        congr 1
        simp only [List.getD_eq_getElem?_getD]
        rw [List.getElem?_eq_getElem hil]
        rfl
      have hci : zvs ((zord L b).getD i 0) := by
        refine hO _ ?_
        simp only [List.getD_eq_getElem?_getD]
        rw [List.getElem?_eq_getElem hil]
        exact List.getElem_mem _
      rw [hdr, List.cons_append] at hz2 hzf2
      refine z_L0R (pc' := 47) dX8_tryOut_46 rfl ?_
      refine z_getR (pc' := 50) (ki := 7) 7 fX8_54.l rfl rfl dX8_tryOut_47 rfl hx.s hx.p7 ?_
      refine z_L0R (pc' := 51) dX8_tryOut_50 rfl ?_
      refine z_getR (pc' := 54) (ki := 5) 5 fX8_40.l rfl rfl dX8_tryOut_51 rfl hx.s hx.p5 ?_
      refine z_L1I (pc' := 55) dX8_tryOut_54 rfl ?_
      refine z_L7I (pc' := 57) dX8_tryOut_55 rfl ?_
      refine z_L3I (pc' := 58) dX8_tryOut_57 rfl ?_
      refine z_V3v (pc' := 61) (ci := 3) kX3_stepInOrder lX8_258 dX8_tryOut_58 rfl (by omega) (Nat.le_of_ble_eq_true rfl) (by decide) rfl hx.o82.s ?_
      refine c_stepInOrder (by omega) hx.o82 hk0 hk1 (eK _ _ _ _) hvL (by omega) hl (zKv_i ?_)
      refine z_V10 (pc' := 64) (ci := 4) kX4_make lX8_261 dX8_tryOut_61 rfl (by omega) (Nat.le_of_ble_eq_true rfl) (by decide) rfl hx.o156.s ?_
      refine c_make (by omega) hx.o156 hci (by rw [zr4_1, zr4_2]; exact hgW2) (fun j5 j6 => zK0_i ?_)
      rw [zr4_1, zr4_2, zr4_zr4]
      refine z_L0R (pc' := 65) dX8_tryOut_64 rfl ?_
      refine z_getR (pc' := 68) (ki := 0) 0 fX8_10.l rfl rfl dX8_tryOut_65 rfl hx.s hx.p0 ?_
      refine z_getR (pc' := 71) (ki := 1) 1 fX8_109 rfl rfl dX8_tryOut_68 rfl (by first | exact hx.o1.s | exact hx.o12.s) (by first | exact hx.o1.p1 | exact hx.o12.p1) ?_
      refine z_L0R (pc' := 72) dX8_tryOut_71 rfl ?_
      refine z_getR (pc' := 75) (ki := 7) 7 fX8_54.l rfl rfl dX8_tryOut_72 rfl hx.s hx.p7 ?_
      refine z_V1v (pc' := 78) (ci := 2) kX2_areKept lX8_264 dX8_tryOut_75 rfl (by omega) (Nat.le_of_ble_eq_true rfl) (by decide) rfl hx.o1.o6.s ?_
      have hz3 : (if zkb (zac (W, F) ((zord L b).getD i 0)).1 (me (x + 1 + 6 + 1)) = true then ztry (me (x + 1 + 6 + 1)) ((zord L b).drop (i + 1) ++ zrep r (zord L b)) (zac (W, F) ((zord L b).getD i 0)) (made2 + 1) else made2) = ztry (me (x + 1 + 6 + 1)) (zrep T.toNat (zord L b)) (me (x + 1 + 1 + 1), me (x + 1 + 1 + 2)) 0 := hz2
      refine c_areKept (by omega) hx.o1.o6 hx.o156 (by rw [zr4_1, zr4_2]; exact zgR_step hgW2 hci) (by rw [ea _ _ _ _ _ (by omega), ea _ _ _ _ _ (by omega)]; exact hpr) (fun hh => zKv_i ?_) (fun hh => zKv_i ?_)
      rotate_left
      · rw [zr4_1, ea _ _ _ _ _ (by omega)] at hh
        have hh : ¬ zkall (zac (W, F) ((zord L b).getD i 0)).1 (me (x + 1 + 6 + 1)) := hh
        rw [if_neg (fun z => hh (zkb_iff.mp z))] at hz3
        refine z_if_ne (tgt := 84) (pc' := 81) dX8_tryOut_78 (by decide) rfl (fun h23 => absurd rfl h23) (fun h23 => ?_)
        refine z_L5I (pc' := 83) dX8_tryOut_81 rfl ?_
        refine z_ireturn rfl rfl dX8_tryOut_83 ?_
        rw [hz3]
        exact hQ _ _ _ _ (fun z => by omega)
      rw [zr4_1, ea _ _ _ _ _ (by omega)] at hh
      have hh : zkall (zac (W, F) ((zord L b).getD i 0)).1 (me (x + 1 + 6 + 1)) := hh
      rw [if_pos (zkb_iff.mpr hh)] at hz3
      refine z_if_ne (tgt := 84) (pc' := 81) dX8_tryOut_78 (by decide) rfl (fun h78 => ?_) (fun h78 => absurd h78 (by omega))
      refine z_inc5 (pc' := 87) rfl dX8_tryOut_84 rfl (by unfold zin; omega) ?_
      refine z_inc7 (pc' := 90) rfl dX8_tryOut_87 rfl (by unfold zin; omega) ?_
      refine z_goto (tgt := 39) dX8_tryOut_90 (by decide) ?_
      exact ih2 (i + 1) (made2 + 1) j5 j6 _ _ (by omega) (by omega) (by omega) (zgR_step hgW2 hci) hz3 hzf2
set_option maxRecDepth 100000 in
set_option maxHeartbeats 1000000 in
theorem c_carryOut {d : Nat} {sp : zSP} {me : zMe} {Q : zQ} {x : Nat} {k T : Int} {n : Nat} (hd : 4 ≤ d) (hx : zObj sp x) (hk0 : 0 ≤ k) (hk1 : k < 8) (hT0 : 0 ≤ T) (hT1 : T ≤ 9) (hn : me (x + 82 + 1) k = (n : Int)) (hl : n ≤ 120) (ht0 : 0 ≤ me (x + 1) 3) (ht1 : me (x + 1) 3 ≤ 1000000000) (ht2 : 0 ≤ me (x + 1) 4) (ht3 : me (x + 1) 4 ≤ 1000000000) (hQ : Q (some (zI ((n : Int) * T))) sp (zset (zset (zset me (x + 1 + 1 + 1) (me (x + 156 + 1))) (x + 1 + 1 + 2) (me (x + 156 + 2))) (x + 1) (zup (zup (me (x + 1)) 3 (me (x + 1) 3 + 1)) 4 (me (x + 1) 4 + (n : Int) * T)))) : zCall mX8_carryOut d 0 0 [zR x, zI k, zI T] sp me Q := by
  refine z_met kX8_carryOut (by simp) (by simp) ?_
  show zW mX8_carryOut d 0 0 Q 0 [zR x, zI k, zI T, zU] [] sp me
  have hnT : 0 ≤ (n : Int) * T ∧ (n : Int) * T ≤ 1080 := by
    refine ⟨Int.mul_nonneg (by omega) hT0, ?_⟩
    have h1 : (n : Int) * T ≤ 120 * T := Int.mul_le_mul_of_nonneg_right (by omega) hT0
    omega
  refine z_L0R (pc' := 1) dX8_carryOut_0 rfl ?_
  refine z_getR (pc' := 4) (ki := 5) 5 fX8_40.l rfl rfl dX8_carryOut_1 rfl hx.s hx.p5 ?_
  refine z_L1I (pc' := 5) dX8_carryOut_4 rfl ?_
  refine z_V1v (pc' := 8) (ci := 3) kX3_stepCount lX8_73 dX8_carryOut_5 rfl (by omega) (Nat.le_of_ble_eq_true rfl) (by decide) rfl hx.o82.s ?_
  refine c_stepCount (by omega) hx.o82 (zKv_i ?_)
  rw [hn]
  refine z_L2I (pc' := 9) dX8_carryOut_8 rfl ?_
  refine z_imul (pc' := 10) dX8_carryOut_9 rfl (by unfold zin; omega) ?_
  refine z_S3I (pc' := 11) rfl dX8_carryOut_10 rfl ?_
  refine z_L0R (pc' := 12) dX8_carryOut_11 rfl ?_
  refine z_getR (pc' := 15) (ki := 0) 0 fX8_10.l rfl rfl dX8_carryOut_12 rfl hx.s hx.p0 ?_
  refine z_getR (pc' := 18) (ki := 0) 0 fX8_118 rfl rfl dX8_carryOut_15 rfl (by first | exact hx.o1.s | exact hx.o12.s) (by first | exact hx.o1.p0 | exact hx.o12.p0) ?_
  refine z_L0R (pc' := 19) dX8_carryOut_18 rfl ?_
  refine z_getR (pc' := 22) (ki := 7) 7 fX8_54.l rfl rfl dX8_carryOut_19 rfl hx.s hx.p7 ?_
  refine z_V10 (pc' := 25) (ci := 4) kX4_copyFrom lX8_227 dX8_carryOut_22 rfl (by omega) (Nat.le_of_ble_eq_true rfl) (by decide) rfl hx.o1.o1.s ?_
  refine c_ringCopy (by omega) hx.o1.o1 hx.o156 (by omega) (zK0_i ?_)
  have e1 : zset (zset me (x + 1 + 1 + 1) (me (x + 156 + 1))) (x + 1 + 1 + 2) (me (x + 156 + 2)) (x + 1) = me (x + 1) := by rw [zset_ne _ _ _ (by omega), zset_ne _ _ _ (by omega)]
  refine z_L0R (pc' := 26) dX8_carryOut_25 rfl ?_
  refine z_getR (pc' := 29) (ki := 0) 0 fX8_10.l rfl rfl dX8_carryOut_26 rfl hx.s hx.p0 ?_
  refine z_dupR (pc' := 30) dX8_carryOut_29 rfl ?_
  refine z_getI (pc' := 33) (ki := 3) 3 fX8_236 rfl rfl dX8_carryOut_30 rfl (by first | exact hx.o1.s | exact hx.o12.s) ?_
  rw [e1]
  refine z_iconst (pc' := 34) dX8_carryOut_33 rfl (by unfold zin; decide) ?_
  refine z_iadd (pc' := 35) dX8_carryOut_34 rfl (by unfold zin; omega) ?_
  refine z_putI (pc' := 38) (ki := 3) 3 fX8_236 rfl (Or.inl rfl) rfl dX8_carryOut_35 rfl (by first | exact hx.o1.s | exact hx.o12.s) ?_
  rw [e1]
  refine z_L0R (pc' := 39) dX8_carryOut_38 rfl ?_
  refine z_getR (pc' := 42) (ki := 0) 0 fX8_10.l rfl rfl dX8_carryOut_39 rfl hx.s hx.p0 ?_
  refine z_dupR (pc' := 43) dX8_carryOut_42 rfl ?_
  refine z_getI (pc' := 46) (ki := 4) 4 fX8_239 rfl rfl dX8_carryOut_43 rfl (by first | exact hx.o1.s | exact hx.o12.s) ?_
  rw [zset_eq, zup_ne _ _ _ (show (4 : Int) ≠ 3 by omega)]
  refine z_L3I (pc' := 47) dX8_carryOut_46 rfl ?_
  refine z_iadd (pc' := 48) dX8_carryOut_47 rfl (by unfold zin; omega) ?_
  refine z_putI (pc' := 51) (ki := 4) 4 fX8_239 rfl (Or.inl rfl) rfl dX8_carryOut_48 rfl (by first | exact hx.o1.s | exact hx.o12.s) ?_
  rw [zset_eq, zset_11]
  refine z_L3I (pc' := 52) dX8_carryOut_51 rfl ?_
  refine z_ireturn rfl rfl dX8_carryOut_52 ?_
  exact hQ
theorem zget_inj {me : zMe} {s : Nat} {w f h sz cd : Int → Int} {pr a b c : Int} (hz : zget me s = (w, f, h, pr, sz, cd, a, b, c)) : me (s + 1 + 1) = w ∧ me (s + 1 + 2) = f ∧ me (s + 6 + 1) = h ∧ me (s + 6) 1 = pr ∧ me (s + 8 + 1) = sz ∧ me (s + 8 + 2) = cd ∧ me s 3 = a ∧ me s 4 = b ∧ me s 5 = c := by
  unfold zget at hz
  simp only [Prod.mk.injEq] at hz
  exact hz
/-- the calls of a text -/
def zpc (g : Int → Int) (n : Int) : Nat → Int → Int → Int → Int → List (Int × Int × Int)
  | 0, _, _, _, _ => []
  | m + 1, i, f, t, b =>
    if (if i < n then g i else 32) = 32 then (f, t, b) :: zpc g n m (i + 1) f t b
    else if 65 ≤ (if i < n then g i else 32) ∧ (if i < n then g i else 32) < 73 then zpc g n m (i + 1) ((if i < n then g i else 32) - 65) 1 0
    else if (if i < n then g i else 32) = 39 then zpc g n m (i + 1) f t 1
    else zpc g n m (i + 1) f ((if i < n then g i else 32) - 48) b
def zcalls (g : Int → Int) (n : Int) : List (Int × Int × Int) := zpc g n (n + 1).toNat 0 0 1 0
/-- calls carried out one after the other: who stands where, calls danced, steps made, calls here -/
def zrn (h : Int → Int) (E : Int → List Int) : List (Int × Int × Int) → zRg × Int × Int × Int → zRg × Int × Int × Int
  | [], s => s
  | c :: cs, s => if ztry h (zrep c.2.1.toNat (zord (E c.1) c.2.2)) s.1 0 = -5 then zrn h E cs (zfo s.1 (zrep c.2.1.toNat (zord (E c.1) c.2.2)), s.2.1 + 1, s.2.2.1 + ((zrep c.2.1.toNat (zord (E c.1) c.2.2)).length : Int), s.2.2.2 + 1) else s
theorem zrep_vs {n : Nat} {L : List Int} (h : ∀ c ∈ L, zvs c) : ∀ c ∈ zrep n L, zvs c := by
  induction n with
  | zero => intro c hc; exact absurd hc List.not_mem_nil
  | succ n ih =>
    intro c hc
    rcases List.mem_append.mp hc with h1 | h1
    · exact h c h1
    · exact ih c h1
end ZDANCE

