section ZDANCE
def zkb (w h : Int → Int) : Bool := (List.range 10).all (fun n => decide (h (w (n : Int)) = -5) || (decide (h (w (n : Int)) = w (((n : Int) + 1) % 10)) || decide (h (w (n : Int)) = w (((n : Int) + 10 - 1) % 10))))
theorem zkb_iff {w h : Int → Int} : zkb w h = true ↔ zkall w h := by
  unfold zkb zkall zkept
  rw [List.all_eq_true]
  constructor
  · intro H p h0 h1
    obtain ⟨n, rfl⟩ := Int.eq_ofNat_of_zero_le h0
    have := H n (List.mem_range.mpr (by omega))
    simp only [Bool.or_eq_true, decide_eq_true_eq] at this
    exact this
  · intro H n hn
    have := H (n : Int) (by omega) (by have := List.mem_range.mp hn; omega)
    simp only [Bool.or_eq_true, decide_eq_true_eq]
    exact this
/-- steps tried one after the other: how many before the first that isn't possible, -5 if all are -/
def ztry (h : Int → Int) : List Int → zRg → Int → Int
  | [], _, _ => -5
  | c :: L, R, m => if zkb (zac R c).1 h = true then ztry h L (zac R c) (m + 1) else m
def zrep : Nat → List Int → List Int
  | 0, _ => []
  | n + 1, L => L ++ zrep n L
theorem zrep_len (n : Nat) (L : List Int) : (zrep n L).length = n * L.length := by
  induction n with
  | zero => simp [zrep]
  | succ n ih => unfold zrep; rw [List.length_append, ih, Nat.succ_mul]; omega
theorem ztry_bd {h : Int → Int} : ∀ (L : List Int) (R : zRg) (m : Int), 0 ≤ m → ztry h L R m = -5 ∨ (m ≤ ztry h L R m ∧ ztry h L R m < m + L.length) := by
  intro L
  induction L with
  | nil => intro R m _; exact Or.inl rfl
  | cons c L ih =>
    intro R m hm
    have h1 := ih (zac R c) (m + 1) (by omega)
    rw [List.length_cons]
    by_cases hk : zkb (zac R c).1 h = true
    · have e : ztry h (c :: L) R m = ztry h L (zac R c) (m + 1) := if_pos hk
      rw [e]; omega
    · have e : ztry h (c :: L) R m = m := if_neg hk
      rw [e]; omega
set_option maxRecDepth 100000 in
set_option maxHeartbeats 1000000 in
theorem c_tryOut {d : Nat} {sp : zSP} {me : zMe} {Q : zQ} {x : Nat} {k T b cm : Int} {L : List Int} (hd : 6 ≤ d) (hx : zObj sp x) (hk0 : 0 ≤ k) (hk1 : k < 8) (hT0 : 0 ≤ T) (hT1 : T ≤ 9) (hK : zPk me (x + 82) k L cm) (hvL : ∀ c ∈ L, zvs c ∧ c < 400) (hl : L.length ≤ 120) (hg : zgR (me (x + 1 + 1 + 1)) (me (x + 1 + 1 + 2))) (hpr : me (x + 1 + 6) 1 = 0 → ∀ i, 0 ≤ i → i < 10 → me (x + 1 + 6 + 1) i = -5) (hQ : ∀ j3 j4 W F, (ztry (me (x + 1 + 6 + 1)) (zrep T.toNat (zord L b)) (me (x + 1 + 1 + 1), me (x + 1 + 1 + 2)) 0 = -5 → (W, F) = zfo (me (x + 1 + 1 + 1), me (x + 1 + 1 + 2)) (zrep T.toNat (zord L b))) → Q (some (zI (ztry (me (x + 1 + 6 + 1)) (zrep T.toNat (zord L b)) (me (x + 1 + 1 + 1), me (x + 1 + 1 + 2)) 0))) sp (zr4 me (x + 156) j3 j4 W F)) : zCall mX8_tryOut d 0 0 [zR x, zI k, zI T, zI b] sp me Q := by
  refine z_met kX8_tryOut (by simp) (by simp) ?_
  show zW mX8_tryOut d 0 0 Q 0 [zR x, zI k, zI T, zI b, zU, zU, zU, zU] [] sp me
  have hO := zord_vs (b := b) hvL
  have hOl := zord_len L b
  refine z_L0R (pc' := 1) dX8_tryOut_0 rfl ?_
  refine z_getR (pc' := 4) (ki := 7) 7 fX8_54.l rfl rfl dX8_tryOut_1 rfl hx.s hx.p7 ?_
  refine z_L0R (pc' := 5) dX8_tryOut_4 rfl ?_
  refine z_getR (pc' := 8) (ki := 0) 0 fX8_10.l rfl rfl dX8_tryOut_5 rfl hx.s hx.p0 ?_
  refine z_getR (pc' := 11) (ki := 0) 0 fX8_118 rfl rfl dX8_tryOut_8 rfl (by first | exact hx.o1.s | exact hx.o12.s) (by first | exact hx.o1.p0 | exact hx.o12.p0) ?_
  refine z_V10 (pc' := 14) (ci := 4) kX4_copyFrom lX8_227 dX8_tryOut_11 rfl (by omega) (Nat.le_of_ble_eq_true rfl) (by decide) rfl hx.o156.s ?_
  refine c_ringCopy (by omega) hx.o156 hx.o1.o1 (by omega) (zK0_i ?_)
  rw [zr4_set]
  have ea : ∀ a b W F y, (y < x + 157 ∨ x + 160 < y) → zr4 me (x + 156) a b W F y = me y := fun a b W F y hy => zr4_o _ _ _ _ _ _ _ (by omega)
  have eK : ∀ a b W F, zPk (zr4 me (x + 156) a b W F) (x + 82) k L cm := fun a b W F => by
    obtain ⟨g1, g2, g3, g4, g5⟩ := hK
    exact ⟨by rw [ea _ _ _ _ _ (by omega)]; exact g1, fun i hi => by rw [ea _ _ _ _ _ (by omega)]; exact g2 i hi, by rw [ea _ _ _ _ _ (by omega)]; exact g3, by rw [ea _ _ _ _ _ (by omega)]; exact g4, by rw [ea _ _ _ _ _ (by omega)]; exact g5⟩
  refine z_L0R (pc' := 15) dX8_tryOut_14 rfl ?_
  refine z_getR (pc' := 18) (ki := 5) 5 fX8_40.l rfl rfl dX8_tryOut_15 rfl hx.s hx.p5 ?_
  refine z_L1I (pc' := 19) dX8_tryOut_18 rfl ?_
  refine z_V1v (pc' := 22) (ci := 3) kX3_stepCount lX8_73 dX8_tryOut_19 rfl (by omega) (Nat.le_of_ble_eq_true rfl) (by decide) rfl hx.o82.s ?_
  refine c_stepCount (by omega) hx.o82 (zKv_i ?_)
  rw [ea _ _ _ _ _ (by omega), hK.1]
  refine z_S4I (pc' := 24) rfl dX8_tryOut_22 rfl ?_
  refine z_iconst (pc' := 25) dX8_tryOut_24 rfl (by unfold zin; decide) ?_
  refine z_S5I (pc' := 27) rfl dX8_tryOut_25 rfl ?_
  refine z_iconst (pc' := 28) dX8_tryOut_27 rfl (by unfold zin; decide) ?_
  refine z_S6I (pc' := 30) rfl dX8_tryOut_28 rfl ?_
  suffices H : ∀ (n t : Nat) (made : Int) (v7 : zV) (j3 j4 W F : Int → Int), (t : Int) ≤ T → T - t < n → 0 ≤ made → made ≤ 120 * t → zgR W F → ztry (me (x + 1 + 6 + 1)) (zrep (T.toNat - t) (zord L b)) (W, F) made = ztry (me (x + 1 + 6 + 1)) (zrep T.toNat (zord L b)) (me (x + 1 + 1 + 1), me (x + 1 + 1 + 2)) 0 → zfo (W, F) (zrep (T.toNat - t) (zord L b)) = zfo (me (x + 1 + 1 + 1), me (x + 1 + 1 + 2)) (zrep T.toNat (zord L b)) → zW mX8_tryOut d 0 0 Q 30 [zR x, zI k, zI T, zI b, zI (L.length : Int), zI made, zI (t : Int), v7] [] sp (zr4 me (x + 156) j3 j4 W F) by
    exact H 10 0 0 zU _ _ _ _ (by omega) (by omega) (by omega) (by omega) hg rfl rfl
  intro n
  induction n with
  | zero => intro t made v7 j3 j4 W F h1 h2; omega
  | succ n ih =>
  intro t made v7 j3 j4 W F ht0 ht1 hm0 hm1 hgW hz hzf
  refine z_L6I (pc' := 32) dX8_tryOut_30 rfl ?_
  refine z_L2I (pc' := 33) dX8_tryOut_32 rfl ?_
  refine z_icmp_ge (tgt := 99) (pc' := 36) dX8_tryOut_33 (by decide) rfl (fun h33 => ?_) (fun h33 => ?_)
  · refine z_bipush (pc' := 101) dX8_tryOut_99 rfl (by decide) ?_
    refine z_ireturn rfl rfl dX8_tryOut_101 ?_
    obtain rfl : t = T.toNat := by omega
    rw [Nat.sub_self] at hz hzf
    have hz : (-5 : Int) = ztry (me (x + 1 + 6 + 1)) (zrep T.toNat (zord L b)) (me (x + 1 + 1 + 1), me (x + 1 + 1 + 2)) 0 := hz
    rw [hz]
    exact hQ _ _ _ _ (fun _ => hzf)
  · obtain ⟨r, hr⟩ : ∃ r, T.toNat - t = r + 1 := ⟨T.toNat - t - 1, by omega⟩
    have hr2 : T.toNat - (t + 1) = r := by omega
    rw [hr] at hz hzf
    refine z_iconst (pc' := 37) dX8_tryOut_36 rfl (by unfold zin; decide) ?_
    refine z_S7I (pc' := 39) rfl dX8_tryOut_37 rfl ?_
    suffices H : ∀ (n2 i : Nat) (made2 : Int) (j3 j4 W F : Int → Int), i ≤ L.length → L.length - i < n2 → made2 = made + i → zgR W F → ztry (me (x + 1 + 6 + 1)) ((zord L b).drop i ++ zrep r (zord L b)) (W, F) made2 = ztry (me (x + 1 + 6 + 1)) (zrep T.toNat (zord L b)) (me (x + 1 + 1 + 1), me (x + 1 + 1 + 2)) 0 → zfo (W, F) ((zord L b).drop i ++ zrep r (zord L b)) = zfo (me (x + 1 + 1 + 1), me (x + 1 + 1 + 2)) (zrep T.toNat (zord L b)) → zW mX8_tryOut d 0 0 Q 39 [zR x, zI k, zI T, zI b, zI (L.length : Int), zI made2, zI (t : Int), zI (i : Int)] [] sp (zr4 me (x + 156) j3 j4 W F) by
      exact H (L.length + 1) 0 made j3 j4 W F (by omega) (by omega) (by simp) hgW hz hzf
    intro n2
    induction n2 with
    | zero => intro i made2 j3 j4 W F h1 h2; omega
    | succ n2 ih2 =>
    intro i made2 j3 j4 W F hi0 hi1 hmm hgW2 hz2 hzf2
    refine z_L7I (pc' := 41) dX8_tryOut_39 rfl ?_
    refine z_L4I (pc' := 43) dX8_tryOut_41 rfl ?_
    refine z_icmp_ge (tgt := 93) (pc' := 46) dX8_tryOut_43 (by decide) rfl (fun h43 => ?_) (fun h43 => ?_)
    · obtain rfl : i = L.length := by omega
      rw [List.drop_eq_nil_of_le (by omega), List.nil_append, ← hr2] at hz2 hzf2
      refine z_inc6 (pc' := 96) rfl dX8_tryOut_93 rfl (by unfold zin; omega) ?_
      refine z_goto (tgt := 30) dX8_tryOut_96 (by decide) ?_
      exact ih (t + 1) made2 _ j3 j4 W F (by omega) (by omega) (by omega) (by omega) hgW2 hz2 hzf2
    · have hil : i < (zord L b).length := by omega
      have hdr : (zord L b).drop i = (zord L b).getD i 0 :: (zord L b).drop (i + 1) := by
        rw [List.drop_eq_getElem_cons hil]
        congr 1
        simp only [List.getD_eq_getElem?_getD]
        rw [List.getElem?_eq_getElem hil]
        rfl
      have hci : zvs ((zord L b).getD i 0) := by
        refine hO _ ?_
        simp only [List.getD_eq_getElem?_getD]
        rw [List.getElem?_eq_getElem hil]
        exact List.getElem_mem _
      rw [hdr, List.cons_append] at hz2 hzf2
      refine z_L0R (pc' := 47) dX8_tryOut_46 rfl ?_
      refine z_getR (pc' := 50) (ki := 7) 7 fX8_54.l rfl rfl dX8_tryOut_47 rfl hx.s hx.p7 ?_
      refine z_L0R (pc' := 51) dX8_tryOut_50 rfl ?_
      refine z_getR (pc' := 54) (ki := 5) 5 fX8_40.l rfl rfl dX8_tryOut_51 rfl hx.s hx.p5 ?_
      refine z_L1I (pc' := 55) dX8_tryOut_54 rfl ?_
      refine z_L7I (pc' := 57) dX8_tryOut_55 rfl ?_
      refine z_L3I (pc' := 58) dX8_tryOut_57 rfl ?_
      refine z_V3v (pc' := 61) (ci := 3) kX3_stepInOrder lX8_258 dX8_tryOut_58 rfl (by omega) (Nat.le_of_ble_eq_true rfl) (by decide) rfl hx.o82.s ?_
      refine c_stepInOrder (by omega) hx.o82 hk0 hk1 (eK _ _ _ _) hvL (by omega) hl (zKv_i ?_)
      refine z_V10 (pc' := 64) (ci := 4) kX4_make lX8_261 dX8_tryOut_61 rfl (by omega) (Nat.le_of_ble_eq_true rfl) (by decide) rfl hx.o156.s ?_
      refine c_make (by omega) hx.o156 hci (by rw [zr4_1, zr4_2]; exact hgW2) (fun j5 j6 => zK0_i ?_)
      rw [zr4_1, zr4_2, zr4_zr4]
      refine z_L0R (pc' := 65) dX8_tryOut_64 rfl ?_
      refine z_getR (pc' := 68) (ki := 0) 0 fX8_10.l rfl rfl dX8_tryOut_65 rfl hx.s hx.p0 ?_
      refine z_getR (pc' := 71) (ki := 1) 1 fX8_109 rfl rfl dX8_tryOut_68 rfl (by first | exact hx.o1.s | exact hx.o12.s) (by first | exact hx.o1.p1 | exact hx.o12.p1) ?_
      refine z_L0R (pc' := 72) dX8_tryOut_71 rfl ?_
      refine z_getR (pc' := 75) (ki := 7) 7 fX8_54.l rfl rfl dX8_tryOut_72 rfl hx.s hx.p7 ?_
      refine z_V1v (pc' := 78) (ci := 2) kX2_areKept lX8_264 dX8_tryOut_75 rfl (by omega) (Nat.le_of_ble_eq_true rfl) (by decide) rfl hx.o1.o6.s ?_
      have hz3 : (if zkb (zac (W, F) ((zord L b).getD i 0)).1 (me (x + 1 + 6 + 1)) = true then ztry (me (x + 1 + 6 + 1)) ((zord L b).drop (i + 1) ++ zrep r (zord L b)) (zac (W, F) ((zord L b).getD i 0)) (made2 + 1) else made2) = ztry (me (x + 1 + 6 + 1)) (zrep T.toNat (zord L b)) (me (x + 1 + 1 + 1), me (x + 1 + 1 + 2)) 0 := hz2
      refine c_areKept (by omega) hx.o1.o6 hx.o156 (by rw [zr4_1, zr4_2]; exact zgR_step hgW2 hci) (by rw [ea _ _ _ _ _ (by omega), ea _ _ _ _ _ (by omega)]; exact hpr) (fun hh => zKv_i ?_) (fun hh => zKv_i ?_)
      rotate_left
      · rw [zr4_1, ea _ _ _ _ _ (by omega)] at hh
        have hh : ¬ zkall (zac (W, F) ((zord L b).getD i 0)).1 (me (x + 1 + 6 + 1)) := hh
        rw [if_neg (fun z => hh (zkb_iff.mp z))] at hz3
        refine z_if_ne (tgt := 84) (pc' := 81) dX8_tryOut_78 (by decide) rfl (fun h23 => absurd rfl h23) (fun h23 => ?_)
        refine z_L5I (pc' := 83) dX8_tryOut_81 rfl ?_
        refine z_ireturn rfl rfl dX8_tryOut_83 ?_
        rw [hz3]
        exact hQ _ _ _ _ (fun z => by omega)
      rw [zr4_1, ea _ _ _ _ _ (by omega)] at hh
      have hh : zkall (zac (W, F) ((zord L b).getD i 0)).1 (me (x + 1 + 6 + 1)) := hh
      rw [if_pos (zkb_iff.mpr hh)] at hz3
      refine z_if_ne (tgt := 84) (pc' := 81) dX8_tryOut_78 (by decide) rfl (fun h78 => ?_) (fun h78 => absurd h78 (by omega))
      refine z_inc5 (pc' := 87) rfl dX8_tryOut_84 rfl (by unfold zin; omega) ?_
      refine z_inc7 (pc' := 90) rfl dX8_tryOut_87 rfl (by unfold zin; omega) ?_
      refine z_goto (tgt := 39) dX8_tryOut_90 (by decide) ?_
      exact ih2 (i + 1) (made2 + 1) j5 j6 _ _ (by omega) (by omega) (by omega) (zgR_step hgW2 hci) hz3 hzf2
set_option maxRecDepth 100000 in
set_option maxHeartbeats 1000000 in
theorem c_carryOut {d : Nat} {sp : zSP} {me : zMe} {Q : zQ} {x : Nat} {k T : Int} {n : Nat} (hd : 4 ≤ d) (hx : zObj sp x) (hk0 : 0 ≤ k) (hk1 : k < 8) (hT0 : 0 ≤ T) (hT1 : T ≤ 9) (hn : me (x + 82 + 1) k = (n : Int)) (hl : n ≤ 120) (ht0 : 0 ≤ me (x + 1) 3) (ht1 : me (x + 1) 3 ≤ 1000000000) (ht2 : 0 ≤ me (x + 1) 4) (ht3 : me (x + 1) 4 ≤ 1000000000) (hQ : Q (some (zI ((n : Int) * T))) sp (zset (zset (zset me (x + 1 + 1 + 1) (me (x + 156 + 1))) (x + 1 + 1 + 2) (me (x + 156 + 2))) (x + 1) (zup (zup (me (x + 1)) 3 (me (x + 1) 3 + 1)) 4 (me (x + 1) 4 + (n : Int) * T)))) : zCall mX8_carryOut d 0 0 [zR x, zI k, zI T] sp me Q := by
  refine z_met kX8_carryOut (by simp) (by simp) ?_
  show zW mX8_carryOut d 0 0 Q 0 [zR x, zI k, zI T, zU] [] sp me
  have hnT : 0 ≤ (n : Int) * T ∧ (n : Int) * T ≤ 1080 := by
    refine ⟨Int.mul_nonneg (by omega) hT0, ?_⟩
    have h1 : (n : Int) * T ≤ 120 * T := Int.mul_le_mul_of_nonneg_right (by omega) hT0
    omega
  refine z_L0R (pc' := 1) dX8_carryOut_0 rfl ?_
  refine z_getR (pc' := 4) (ki := 5) 5 fX8_40.l rfl rfl dX8_carryOut_1 rfl hx.s hx.p5 ?_
  refine z_L1I (pc' := 5) dX8_carryOut_4 rfl ?_
  refine z_V1v (pc' := 8) (ci := 3) kX3_stepCount lX8_73 dX8_carryOut_5 rfl (by omega) (Nat.le_of_ble_eq_true rfl) (by decide) rfl hx.o82.s ?_
  refine c_stepCount (by omega) hx.o82 (zKv_i ?_)
  rw [hn]
  refine z_L2I (pc' := 9) dX8_carryOut_8 rfl ?_
  refine z_imul (pc' := 10) dX8_carryOut_9 rfl (by unfold zin; omega) ?_
  refine z_S3I (pc' := 11) rfl dX8_carryOut_10 rfl ?_
  refine z_L0R (pc' := 12) dX8_carryOut_11 rfl ?_
  refine z_getR (pc' := 15) (ki := 0) 0 fX8_10.l rfl rfl dX8_carryOut_12 rfl hx.s hx.p0 ?_
  refine z_getR (pc' := 18) (ki := 0) 0 fX8_118 rfl rfl dX8_carryOut_15 rfl (by first | exact hx.o1.s | exact hx.o12.s) (by first | exact hx.o1.p0 | exact hx.o12.p0) ?_
  refine z_L0R (pc' := 19) dX8_carryOut_18 rfl ?_
  refine z_getR (pc' := 22) (ki := 7) 7 fX8_54.l rfl rfl dX8_carryOut_19 rfl hx.s hx.p7 ?_
  refine z_V10 (pc' := 25) (ci := 4) kX4_copyFrom lX8_227 dX8_carryOut_22 rfl (by omega) (Nat.le_of_ble_eq_true rfl) (by decide) rfl hx.o1.o1.s ?_
  refine c_ringCopy (by omega) hx.o1.o1 hx.o156 (by omega) (zK0_i ?_)
  have e1 : zset (zset me (x + 1 + 1 + 1) (me (x + 156 + 1))) (x + 1 + 1 + 2) (me (x + 156 + 2)) (x + 1) = me (x + 1) := by rw [zset_ne _ _ _ (by omega), zset_ne _ _ _ (by omega)]
  refine z_L0R (pc' := 26) dX8_carryOut_25 rfl ?_
  refine z_getR (pc' := 29) (ki := 0) 0 fX8_10.l rfl rfl dX8_carryOut_26 rfl hx.s hx.p0 ?_
  refine z_dupR (pc' := 30) dX8_carryOut_29 rfl ?_
  refine z_getI (pc' := 33) (ki := 3) 3 fX8_236 rfl rfl dX8_carryOut_30 rfl (by first | exact hx.o1.s | exact hx.o12.s) ?_
  rw [e1]
  refine z_iconst (pc' := 34) dX8_carryOut_33 rfl (by unfold zin; decide) ?_
  refine z_iadd (pc' := 35) dX8_carryOut_34 rfl (by unfold zin; omega) ?_
  refine z_putI (pc' := 38) (ki := 3) 3 fX8_236 rfl (Or.inl rfl) rfl dX8_carryOut_35 rfl (by first | exact hx.o1.s | exact hx.o12.s) ?_
  rw [e1]
  refine z_L0R (pc' := 39) dX8_carryOut_38 rfl ?_
  refine z_getR (pc' := 42) (ki := 0) 0 fX8_10.l rfl rfl dX8_carryOut_39 rfl hx.s hx.p0 ?_
  refine z_dupR (pc' := 43) dX8_carryOut_42 rfl ?_
  refine z_getI (pc' := 46) (ki := 4) 4 fX8_239 rfl rfl dX8_carryOut_43 rfl (by first | exact hx.o1.s | exact hx.o12.s) ?_
  rw [zset_eq, zup_ne _ _ _ (show (4 : Int) ≠ 3 by omega)]
  refine z_L3I (pc' := 47) dX8_carryOut_46 rfl ?_
  refine z_iadd (pc' := 48) dX8_carryOut_47 rfl (by unfold zin; omega) ?_
  refine z_putI (pc' := 51) (ki := 4) 4 fX8_239 rfl (Or.inl rfl) rfl dX8_carryOut_48 rfl (by first | exact hx.o1.s | exact hx.o12.s) ?_
  rw [zset_eq, zset_11]
  refine z_L3I (pc' := 52) dX8_carryOut_51 rfl ?_
  refine z_ireturn rfl rfl dX8_carryOut_52 ?_
  exact hQ
theorem zget_inj {me : zMe} {s : Nat} {w f h sz cd : Int → Int} {pr a b c : Int} (hz : zget me s = (w, f, h, pr, sz, cd, a, b, c)) : me (s + 1 + 1) = w ∧ me (s + 1 + 2) = f ∧ me (s + 6 + 1) = h ∧ me (s + 6) 1 = pr ∧ me (s + 8 + 1) = sz ∧ me (s + 8 + 2) = cd ∧ me s 3 = a ∧ me s 4 = b ∧ me s 5 = c := by
  unfold zget at hz
  simp only [Prod.mk.injEq] at hz
  exact hz
/-- the calls of a text -/
def zpc (g : Int → Int) (n : Int) : Nat → Int → Int → Int → Int → List (Int × Int × Int)
  | 0, _, _, _, _ => []
  | m + 1, i, f, t, b =>
    if (if i < n then g i else 32) = 32 then (f, t, b) :: zpc g n m (i + 1) f t b
    else if 65 ≤ (if i < n then g i else 32) ∧ (if i < n then g i else 32) < 73 then zpc g n m (i + 1) ((if i < n then g i else 32) - 65) 1 0
    else if (if i < n then g i else 32) = 39 then zpc g n m (i + 1) f t 1
    else zpc g n m (i + 1) f ((if i < n then g i else 32) - 48) b
def zcalls (g : Int → Int) (n : Int) : List (Int × Int × Int) := zpc g n (n + 1).toNat 0 0 1 0
/-- calls carried out one after the other: who stands where, calls danced, steps made, calls here -/
def zrn (h : Int → Int) (E : Int → List Int) : List (Int × Int × Int) → zRg × Int × Int × Int → zRg × Int × Int × Int
  | [], s => s
  | c :: cs, s => if ztry h (zrep c.2.1.toNat (zord (E c.1) c.2.2)) s.1 0 = -5 then zrn h E cs (zfo s.1 (zrep c.2.1.toNat (zord (E c.1) c.2.2)), s.2.1 + 1, s.2.2.1 + ((zrep c.2.1.toNat (zord (E c.1) c.2.2)).length : Int), s.2.2.2 + 1) else s
theorem zrep_vs {n : Nat} {L : List Int} (h : ∀ c ∈ L, zvs c) : ∀ c ∈ zrep n L, zvs c := by
  induction n with
  | zero => intro c hc; exact absurd hc List.not_mem_nil
  | succ n ih =>
    intro c hc
    rcases List.mem_append.mp hc with h1 | h1
    · exact h c h1
    · exact ih c h1
set_option maxRecDepth 100000 in
set_option maxHeartbeats 1000000 in
theorem c_script {d : Nat} {sp : zSP} {me : zMe} {Q : zQ} {x : Nat} {w f h sz cd : Int → Int} {pr t0 t1 t2 : Int} (hd : 8 ≤ d) (hx : zObj sp x) (hS : zget me (x + 1) = (w, f, h, pr, sz, cd, t0, t1, t2)) (hv : zfv sz cd) (hl : zlim sz cd) (hR : zRP me (x + 82) sz cd) (hn0 : 0 ≤ me (x + 80) 1) (hn1 : me (x + 80) 1 ≤ 80) (hok : zfault (me (x + 80 + 1)) (me (x + 80) 1) = -5) (hg : zgR w f) (hpr : pr = 0 → ∀ i, 0 ≤ i → i < 10 → h i = -5) (ht0 : 0 ≤ t0) (ht1 : t0 ≤ 900000000) (ht2 : 0 ≤ t1) (ht3 : t1 ≤ 900000000) (hQ : ∀ me', zget me' (x + 1) = ((zrn h (zsteps sz cd) (zcalls (me (x + 80 + 1)) (me (x + 80) 1)) ((w, f), t0, t1, 0)).1.1, (zrn h (zsteps sz cd) (zcalls (me (x + 80 + 1)) (me (x + 80) 1)) ((w, f), t0, t1, 0)).1.2, h, pr, sz, cd, (zrn h (zsteps sz cd) (zcalls (me (x + 80 + 1)) (me (x + 80) 1)) ((w, f), t0, t1, 0)).2.1, (zrn h (zsteps sz cd) (zcalls (me (x + 80 + 1)) (me (x + 80) 1)) ((w, f), t0, t1, 0)).2.2.1, t2) → (∀ a, (a < x + 1 ∨ x + 11 < a) → (a < x + 157 ∨ x + 160 < a) → me' a = me a) → Q (some (zI (zrn h (zsteps sz cd) (zcalls (me (x + 80 + 1)) (me (x + 80) 1)) ((w, f), t0, t1, 0)).2.2.2)) sp me') : zCall mX8_carryOutScript d 0 0 [zR x] sp me Q := by
  refine z_met kX8_carryOutScript (by simp) (by simp) ?_
  show zW mX8_carryOutScript d 0 0 Q 0 [zR x, zU, zU, zU, zU, zU, zU] [] sp me
  generalize hRR : zrn h (zsteps sz cd) (zcalls (me (x + 80 + 1)) (me (x + 80) 1)) ((w, f), t0, t1, 0) = RR at hQ
  generalize hnn : me (x + 80) 1 = N at hn0 hn1 hok hRR
  generalize hgg : me (x + 80 + 1) = G at hok hRR
  refine z_iconst (pc' := 1) dX8_carryOutScript_0 rfl (by unfold zin; decide) ?_
  refine z_S1I (pc' := 2) rfl dX8_carryOutScript_1 rfl ?_
  refine z_iconst (pc' := 3) dX8_carryOutScript_2 rfl (by unfold zin; decide) ?_
  refine z_S2I (pc' := 4) rfl dX8_carryOutScript_3 rfl ?_
  refine z_iconst (pc' := 5) dX8_carryOutScript_4 rfl (by unfold zin; decide) ?_
  refine z_S3I (pc' := 6) rfl dX8_carryOutScript_5 rfl ?_
  refine z_iconst (pc' := 7) dX8_carryOutScript_6 rfl (by unfold zin; decide) ?_
  refine z_S4I (pc' := 9) rfl dX8_carryOutScript_7 rfl ?_
  refine z_iconst (pc' := 10) dX8_carryOutScript_9 rfl (by unfold zin; decide) ?_
  refine z_S5I (pc' := 12) rfl dX8_carryOutScript_10 rfl ?_
  suffices H : ∀ (q : Nat) (i l fg tm bk cnt u0 u1 : Int) (v6 : zV) (W F : Int → Int) (me1 : zMe), N + 1 - i < q → 0 ≤ i → i ≤ N + 1 → 0 ≤ l → (i ≤ N → zff G (N - i).toNat l i = -5) → (1 ≤ l → 0 ≤ fg ∧ fg < 8 ∧ 1 ≤ tm ∧ tm ≤ 9) → 0 ≤ cnt → cnt ≤ i → u0 = t0 + cnt → t1 ≤ u1 → u1 ≤ t1 + 1080 * cnt → zgR W F → zget me1 (x + 1) = (W, F, h, pr, sz, cd, u0, u1, t2) → (∀ a, (a < x + 1 ∨ x + 11 < a) → (a < x + 157 ∨ x + 160 < a) → me1 a = me a) → zrn h (zsteps sz cd) (zpc G N (N + 1 - i).toNat i fg tm bk) ((W, F), u0, u1, cnt) = RR → zW mX8_carryOutScript d 0 0 Q 12 [zR x, zI cnt, zI fg, zI tm, zI bk, zI i, v6] [] sp me1 by
    exact H 90 0 0 0 1 0 0 t0 t1 zU w f me (by omega) (by omega) (by omega) (by omega) (fun _ => by rw [Int.sub_zero]; exact hok) (by omega) (by omega) (by omega) (by omega) (by omega) (by omega) hg hS (fun _ _ _ => rfl) (by rw [Int.sub_zero]; exact hRR)
  intro q
  induction q with
  | zero => intro i l fg tm bk cnt u0 u1 v6 W F me1 h1 h2 h3; omega
  | succ q ih =>
  intro i l fg tm bk cnt u0 u1 v6 W F me1 hq hi0 hi1 hl0 hzf hlv hc0 hc1 hu0 hu1 hu2 hgW hS1 hfr hz
  have e80 : me1 (x + 80) 1 = N := by rw [hfr _ (by omega) (by omega)]; exact hnn
  have e81 : me1 (x + 80 + 1) = G := by rw [hfr _ (by omega) (by omega)]; exact hgg
  have hSi := zget_inj hS1
  refine z_L5I (pc' := 14) dX8_carryOutScript_12 rfl ?_
  refine z_L0R (pc' := 15) dX8_carryOutScript_14 rfl ?_
  refine z_getR (pc' := 18) (ki := 4) 4 fX8_33.l rfl rfl dX8_carryOutScript_15 rfl hx.s hx.p4 ?_
  refine z_V0v (pc' := 21) (ci := 5) kX5_length lX8_160 dX8_carryOutScript_18 rfl (by omega) (Nat.le_of_ble_eq_true rfl) (by decide) rfl hx.o80.s ?_
  refine c_scrLen hx.o80 (zKv_i ?_)
  rw [e80]
  refine z_icmp_gt (tgt := 117) (pc' := 24) dX8_carryOutScript_21 (by decide) rfl (fun h21 => ?_) (fun h21 => ?_)
  · refine z_L1I (pc' := 118) dX8_carryOutScript_117 rfl ?_
    refine z_ireturn rfl rfl dX8_carryOutScript_118 ?_
    obtain rfl : i = N + 1 := by omega
    rw [show (N + 1 - (N + 1)).toNat = 0 by omega] at hz
    have hz : ((W, F), u0, u1, cnt) = RR := hz
    rw [← hz] at hQ
    exact hQ me1 hS1 hfr
  · refine z_L0R (pc' := 25) dX8_carryOutScript_24 rfl ?_
    refine z_getR (pc' := 28) (ki := 4) 4 fX8_33.l rfl rfl dX8_carryOutScript_25 rfl hx.s hx.p4 ?_
    refine z_L5I (pc' := 30) dX8_carryOutScript_28 rfl ?_
    refine z_V1v (pc' := 33) (ci := 5) kX5_signOrEnd lX8_267 dX8_carryOutScript_30 rfl (by omega) (Nat.le_of_ble_eq_true rfl) (by decide) rfl hx.o80.s ?_
    refine c_signOrEnd (by omega) hx.o80 (zKv_i ?_)
    rw [e80, e81]
    obtain ⟨m', hm'⟩ : ∃ m', (N + 1 - i).toNat = m' + 1 := ⟨(N + 1 - i).toNat - 1, by omega⟩
    have hm2 : (N + 1 - (i + 1)).toNat = m' := by omega
    rw [hm'] at hz
    have hzc : zpc G N (m' + 1) i fg tm bk = (if (if i < N then G i else 32) = 32 then (fg, tm, bk) :: zpc G N m' (i + 1) fg tm bk else if 65 ≤ (if i < N then G i else 32) ∧ (if i < N then G i else 32) < 73 then zpc G N m' (i + 1) ((if i < N then G i else 32) - 65) 1 0 else if (if i < N then G i else 32) = 39 then zpc G N m' (i + 1) fg tm 1 else zpc G N m' (i + 1) fg ((if i < N then G i else 32) - 48) bk) := rfl
    rw [hzc] at hz
    have hstep : i < N → zaft l (G i) ≠ 4 ∧ zff G (N - (i + 1)).toNat (zaft l (G i)) (i + 1) = -5 := fun hiN => by
      have h1 := hzf (by omega)
      obtain ⟨r, hr⟩ : ∃ r, (N - i).toNat = r + 1 := ⟨(N - i).toNat - 1, by omega⟩
      rw [hr] at h1
      have h1 : (if zaft l (G i) = 4 then i else zff G r (zaft l (G i)) (i + 1)) = -5 := h1
      by_cases e : zaft l (G i) = 4
      · rw [if_pos e] at h1; omega
      · rw [if_neg e] at h1
        rw [show (N - (i + 1)).toNat = r by omega]
        exact ⟨e, h1⟩
    generalize hs : (if i < N then G i else 32) = s at hz
    have hsN : s ≠ 32 → i < N ∧ G i = s := fun h1 => by
      by_cases e : i < N
      · rw [if_pos e] at hs; exact ⟨e, hs⟩
      · rw [if_neg e] at hs; omega
    refine z_S6I (pc' := 35) rfl dX8_carryOutScript_33 rfl ?_
    refine z_L6I (pc' := 37) dX8_carryOutScript_35 rfl ?_
    refine z_bipush (pc' := 39) dX8_carryOutScript_37 rfl (by decide) ?_
    refine z_icmp_ne (tgt := 70) (pc' := 42) dX8_carryOutScript_39 (by decide) rfl (fun h39 => ?_) (fun h39 => ?_)
    · refine z_L6I (pc' := 72) dX8_carryOutScript_70 rfl ?_
      refine z_S1v (pc' := 75) kX5_isLetter lX8_270 dX8_carryOutScript_72 rfl (by omega) (Nat.le_of_ble_eq_true rfl) ?_
      rw [if_neg h39] at hz
      have hsn := hsN h39
      have hst := hstep hsn.1
      rw [hsn.2] at hst
      refine c_isLetter (fun hlt => zKv_i ?_) (fun hlt => zKv_i ?_)
      rotate_left
      · rw [if_neg hlt] at hz
        refine z_if_eq (tgt := 92) (pc' := 78) dX8_carryOutScript_75 (by decide) rfl (fun h75 => ?_) (fun h75 => absurd rfl h75)
        refine z_L6I (pc' := 94) dX8_carryOutScript_92 rfl ?_
        refine z_bipush (pc' := 96) dX8_carryOutScript_94 rfl (by decide) ?_
        refine z_icmp_ne (tgt := 105) (pc' := 99) dX8_carryOutScript_96 (by decide) rfl (fun h96 => ?_) (fun h96 => ?_)
        · rw [if_neg h96] at hz
          have hl9 : l ≠ 0 ∧ (50 ≤ s ∧ s ≤ 57) ∧ zaft l s = 2 := by
            by_cases e : l = 0
            · have h2 : zaft l s = 4 := by unfold zaft; rw [if_pos e, if_neg (by omega)]
              exact absurd h2 hst.1
            · refine ⟨e, ?_⟩
              by_cases e2 : l = 1 ∧ 50 ≤ s ∧ s ≤ 57
              · refine ⟨e2.2, ?_⟩
                unfold zaft; rw [if_neg e, if_neg h39, if_neg (by omega), if_pos e2]
              · have h2 : zaft l s = 4 := by unfold zaft; rw [if_neg e, if_neg h39, if_neg (by omega), if_neg e2]
                exact absurd h2 hst.1
          refine z_L6I (pc' := 107) dX8_carryOutScript_105 rfl ?_
          refine z_bipush (pc' := 109) dX8_carryOutScript_107 rfl (by decide) ?_
          refine z_isub (pc' := 110) dX8_carryOutScript_109 rfl (by unfold zin; omega) ?_
          refine z_S3I (pc' := 111) rfl dX8_carryOutScript_110 rfl ?_
          refine z_inc5 (pc' := 114) rfl dX8_carryOutScript_111 rfl (by unfold zin; omega) ?_
          refine z_goto (tgt := 12) dX8_carryOutScript_114 (by decide) ?_
          rw [← hm2] at hz
          rw [hl9.2.2] at hst
          exact ih (i + 1) 2 fg (s - 48) bk cnt u0 u1 _ W F me1 (by omega) (by omega) (by omega) (by omega) (fun _ => hst.2) (fun _ => by have := hlv (by omega); omega) (by omega) (by omega) (by omega) (by omega) (by omega) hgW hS1 hfr hz
        · rw [if_pos h96] at hz
          refine z_iconst (pc' := 100) dX8_carryOutScript_99 rfl (by unfold zin; decide) ?_
          refine z_S4I (pc' := 102) rfl dX8_carryOutScript_100 rfl ?_
          refine z_goto (tgt := 111) dX8_carryOutScript_102 (by decide) ?_
          refine z_inc5 (pc' := 114) rfl dX8_carryOutScript_111 rfl (by unfold zin; omega) ?_
          refine z_goto (tgt := 12) dX8_carryOutScript_114 (by decide) ?_
          rw [← hm2] at hz
          have hl9 : l ≠ 0 ∧ zaft l s = 3 := by
            by_cases e : l = 0
            · have h2 : zaft l s = 4 := by unfold zaft; rw [if_pos e, if_neg (by omega)]
              exact absurd h2 hst.1
            · refine ⟨e, ?_⟩
              by_cases e2 : l = 3
              · have h2 : zaft l s = 4 := by unfold zaft; rw [if_neg e, if_neg h39, if_neg (by omega), if_neg (by omega)]
                exact absurd h2 hst.1
              · unfold zaft; rw [if_neg e, if_neg h39, if_pos ⟨h96, e2⟩]
          rw [hl9.2] at hst
          exact ih (i + 1) 3 fg tm 1 cnt u0 u1 _ W F me1 (by omega) (by omega) (by omega) (by omega) (fun _ => hst.2) (fun _ => hlv (by omega)) (by omega) (by omega) (by omega) (by omega) (by omega) hgW hS1 hfr hz
      rw [if_pos hlt] at hz
      refine z_if_eq (tgt := 92) (pc' := 78) dX8_carryOutScript_75 (by decide) rfl (fun h75 => absurd h75 (by omega)) (fun h75 => ?_)
      refine z_L6I (pc' := 80) dX8_carryOutScript_78 rfl ?_
      refine z_bipush (pc' := 82) dX8_carryOutScript_80 rfl (by decide) ?_
      refine z_isub (pc' := 83) dX8_carryOutScript_82 rfl (by unfold zin; omega) ?_
      refine z_S2I (pc' := 84) rfl dX8_carryOutScript_83 rfl ?_
      refine z_iconst (pc' := 85) dX8_carryOutScript_84 rfl (by unfold zin; decide) ?_
      refine z_S3I (pc' := 86) rfl dX8_carryOutScript_85 rfl ?_
      refine z_iconst (pc' := 87) dX8_carryOutScript_86 rfl (by unfold zin; decide) ?_
      refine z_S4I (pc' := 89) rfl dX8_carryOutScript_87 rfl ?_
      refine z_goto (tgt := 111) dX8_carryOutScript_89 (by decide) ?_
      refine z_inc5 (pc' := 114) rfl dX8_carryOutScript_111 rfl (by unfold zin; omega) ?_
      refine z_goto (tgt := 12) dX8_carryOutScript_114 (by decide) ?_
      rw [← hm2] at hz
      have hl9 : zaft l s = 1 := by
        by_cases e : l = 0
        · unfold zaft; rw [if_pos e, if_pos hlt]
        · have h2 : zaft l s = 4 := by unfold zaft; rw [if_neg e, if_neg h39, if_neg (by omega), if_neg (by omega)]
          exact absurd h2 hst.1
      rw [hl9] at hst
      exact ih (i + 1) 1 (s - 65) 1 0 cnt u0 u1 _ W F me1 (by omega) (by omega) (by omega) (by omega) (fun _ => hst.2) (fun _ => by omega) (by omega) (by omega) (by omega) (by omega) (by omega) hgW hS1 hfr hz
    · rw [if_pos h39] at hz
      have hl1 : 1 ≤ l := by
        by_cases e : i < N
        · have h1 := hstep e
          rw [if_pos e] at hs
          rw [hs, h39] at h1
          by_cases e2 : l = 0
          · exact absurd (show zaft l 32 = 4 by unfold zaft; rw [if_pos e2, if_neg (by omega)]) h1.1
          · omega
        · have h1 := hzf (by omega)
          rw [show (N - i).toNat = 0 by omega] at h1
          have h1 : (if l = 0 then i else -5) = -5 := h1
          by_cases e2 : l = 0
          · rw [if_pos e2] at h1; omega
          · omega
      have hfg := hlv hl1
      have hrow : zPk me1 (x + 82) fg (zsteps sz cd fg) (zcm sz cd fg) := by
        obtain ⟨g1, g2, g3, g4, g5⟩ := hR fg hfg.1 hfg.2.1
        exact ⟨by rw [hfr _ (by omega) (by omega)]; exact g1, fun i hi => by rw [hfr _ (by omega) (by omega)]; exact g2 i hi, by rw [hfr _ (by omega) (by omega)]; exact g3, by rw [hfr _ (by omega) (by omega)]; exact g4, by rw [hfr _ (by omega) (by omega)]; exact g5⟩
      have hvs := zsteps_ok hv hfg.1 hfg.2.1
      have hzr : zrn h (zsteps sz cd) ((fg, tm, bk) :: zpc G N m' (i + 1) fg tm bk) ((W, F), u0, u1, cnt) = if ztry h (zrep tm.toNat (zord (zsteps sz cd fg) bk)) (W, F) 0 = -5 then zrn h (zsteps sz cd) (zpc G N m' (i + 1) fg tm bk) (zfo (W, F) (zrep tm.toNat (zord (zsteps sz cd fg) bk)), u0 + 1, u1 + ((zrep tm.toNat (zord (zsteps sz cd fg) bk)).length : Int), cnt + 1) else ((W, F), u0, u1, cnt) := rfl
      rw [hzr] at hz
      have hlen : ((zrep tm.toNat (zord (zsteps sz cd fg) bk)).length : Int) = ((zsteps sz cd fg).length : Int) * tm := by
        rw [zrep_len, zord_len, Int.natCast_mul, Int.mul_comm, Int.toNat_of_nonneg (by omega)]
      have hlf := hl fg hfg.1 hfg.2.1
      have hlen2 : 0 ≤ ((zsteps sz cd fg).length : Int) * tm ∧ ((zsteps sz cd fg).length : Int) * tm ≤ 1080 := by
        refine ⟨Int.mul_nonneg (by omega) (by omega), ?_⟩
        have h1 : ((zsteps sz cd fg).length : Int) * tm ≤ 120 * tm := Int.mul_le_mul_of_nonneg_right (by omega) (by omega)
        omega
      refine z_L0R (pc' := 43) dX8_carryOutScript_42 rfl ?_
      refine z_L2I (pc' := 44) dX8_carryOutScript_43 rfl ?_
      refine z_L3I (pc' := 45) dX8_carryOutScript_44 rfl ?_
      refine z_L4I (pc' := 47) dX8_carryOutScript_45 rfl ?_
      refine z_V3v (pc' := 50) (ci := 8) kX8_tryOut lX8_138 dX8_carryOutScript_47 rfl (by omega) (Nat.le_of_ble_eq_true rfl) (by decide) rfl hx.s ?_
      refine c_tryOut (by omega) hx hfg.1 hfg.2.1 (by omega) (by omega) hrow hvs hlf (by rw [hSi.1, hSi.2.1]; exact hgW) (by rw [hSi.2.2.1, hSi.2.2.2.1]; exact hpr) (fun j3 j4 W2 F2 hWF => zKv_i ?_)
      rw [hSi.1, hSi.2.1, hSi.2.2.1] at hWF ⊢
      generalize hme2 : zr4 me1 (x + 156) j3 j4 W2 F2 = me2
      have ea : ∀ a, (a < x + 157 ∨ x + 160 < a) → me2 a = me1 a := fun a ha => by rw [← hme2]; exact zr4_o _ _ _ _ _ _ _ (by omega)
      refine z_bipush (pc' := 52) dX8_carryOutScript_50 rfl (by decide) ?_
      refine z_icmp_eq (tgt := 57) (pc' := 55) dX8_carryOutScript_52 (by decide) rfl (fun h52 => ?_) (fun h52 => ?_)
      · rw [if_pos h52, hlen] at hz
        have hWF := hWF h52
        have e157 : me2 (x + 156 + 1) = W2 := by rw [← hme2, zr4_1]
        have e158 : me2 (x + 156 + 2) = F2 := by rw [← hme2, zr4_2]
        refine z_L0R (pc' := 58) dX8_carryOutScript_57 rfl ?_
        refine z_L2I (pc' := 59) dX8_carryOutScript_58 rfl ?_
        refine z_L3I (pc' := 60) dX8_carryOutScript_59 rfl ?_
        refine z_V2v (pc' := 63) (ci := 8) kX8_carryOut lX8_142 dX8_carryOutScript_60 rfl (by omega) (Nat.le_of_ble_eq_true rfl) (by decide) rfl hx.s ?_
        refine c_carryOut (n := (zsteps sz cd fg).length) (by omega) hx hfg.1 hfg.2.1 (by omega) (by omega) (by rw [ea _ (by omega)]; exact hrow.1) hlf (by rw [ea _ (by omega), hSi.2.2.2.2.2.2.1]; omega) (by rw [ea _ (by omega), hSi.2.2.2.2.2.2.1]; omega) (by rw [ea _ (by omega), hSi.2.2.2.2.2.2.2.1]; omega) (by rw [ea _ (by omega), hSi.2.2.2.2.2.2.2.1]; omega) (zKv_i ?_)
        rw [e157, e158, ea (x + 1) (by omega), hSi.2.2.2.2.2.2.1, hSi.2.2.2.2.2.2.2.1]
        refine z_popI (pc' := 64) dX8_carryOutScript_63 rfl ?_
        refine z_inc1 (pc' := 67) rfl dX8_carryOutScript_64 rfl (by unfold zin; omega) ?_
        refine z_goto (tgt := 111) dX8_carryOutScript_67 (by decide) ?_
        refine z_inc5 (pc' := 114) rfl dX8_carryOutScript_111 rfl (by unfold zin; omega) ?_
        refine z_goto (tgt := 12) dX8_carryOutScript_114 (by decide) ?_
        rw [← hWF, ← hm2] at hz
        refine ih (i + 1) 0 fg tm bk (cnt + 1) (u0 + 1) (u1 + ((zsteps sz cd fg).length : Int) * tm) _ W2 F2 _ (by omega) (by omega) (by omega) (by omega) (fun h1 => ?_) (by omega) (by omega) (by omega) (by omega) (by omega) (by omega) ?_ ?_ (fun a h1 h2 => ?_) hz
        · have h2 := hstep (by omega)
          rw [if_pos (show i < N by omega)] at hs
          rw [hs, h39, show zaft l 32 = 0 by unfold zaft; rw [if_neg (by omega), if_pos rfl]] at h2
          exact h2.2
        · have := zgR_fo (zrep_vs (n := tm.toNat) (zord_vs (b := bk) hvs)) (R := (W, F)) hgW
          rw [← hWF] at this
          exact this
        · unfold zget
          simp only [Prod.mk.injEq]
          refine ⟨?_, ?_, ?_, ?_, ?_, ?_, ?_, ?_, ?_⟩
          · rw [zset_ne _ _ _ (by omega), zset_ne _ _ _ (by omega), zset_eq]
          · rw [zset_ne _ _ _ (by omega), zset_eq]
          · rw [zset_ne _ _ _ (by omega), zset_ne _ _ _ (by omega), zset_ne _ _ _ (by omega), ea _ (by omega)]; exact hSi.2.2.1
          · rw [zset_ne _ _ _ (by omega), zset_ne _ _ _ (by omega), zset_ne _ _ _ (by omega), ea _ (by omega)]; exact hSi.2.2.2.1
          · rw [zset_ne _ _ _ (by omega), zset_ne _ _ _ (by omega), zset_ne _ _ _ (by omega), ea _ (by omega)]; exact hSi.2.2.2.2.1
          · rw [zset_ne _ _ _ (by omega), zset_ne _ _ _ (by omega), zset_ne _ _ _ (by omega), ea _ (by omega)]; exact hSi.2.2.2.2.2.1
          · rw [zset_eq, zup_ne _ _ _ (by omega), zup_eq]
          · rw [zset_eq, zup_eq]
          · rw [zset_eq, zup_ne _ _ _ (by omega), zup_ne _ _ _ (by omega)]; exact hSi.2.2.2.2.2.2.2.2
        · rw [zset_ne _ _ _ (by omega), zset_ne _ _ _ (by omega), zset_ne _ _ _ (by omega), ea a (by omega)]
          exact hfr a h1 h2
      · refine z_L1I (pc' := 56) dX8_carryOutScript_55 rfl ?_
        refine z_ireturn rfl rfl dX8_carryOutScript_56 ?_
        rw [if_neg h52] at hz
        rw [← hz] at hQ
        refine hQ me2 ?_ (fun a h1 h2 => by rw [ea a h2]; exact hfr a h1 h2)
        rw [zget_congr (fun a h1 h2 => ea a (by omega))]
        exact hS1
end ZDANCE

