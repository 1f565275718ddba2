section ZHOLD
set_option maxRecDepth 100000 in
set_option maxHeartbeats 1000000 in
theorem c_isFigure {d : Nat} {sp : zSP} {me : zMe} {Q : zQ} {x : Int} (hQ1 : 0 ≤ x ∧ x < 8 → Q (some (zI 1)) sp me) (hQ0 : ¬ (0 ≤ x ∧ x < 8) → Q (some (zI 0)) sp me) : zCall mX8_isFigure d 0 0 [zI x] sp me Q := by
  refine z_met kX8_isFigure (by simp) (by simp) ?_
  show zW mX8_isFigure d 0 0 Q 0 [zI x] [] sp me
  refine z_L0I (pc' := 1) dX8_isFigure_0 rfl ?_
  refine z_if_lt (tgt := 14) (pc' := 4) dX8_isFigure_1 (by decide) rfl (fun h1 => ?_) (fun h1 => ?_)
  · refine z_iconst (pc' := 15) dX8_isFigure_14 rfl (by unfold zin; decide) ?_
    refine z_zreturn rfl rfl dX8_isFigure_15 (by omega) ?_
    first | exact hQ1 (by omega) | exact hQ0 (by omega)
  · refine z_L0I (pc' := 5) dX8_isFigure_4 rfl ?_
    refine z_bipush (pc' := 7) dX8_isFigure_5 rfl (by decide) ?_
    refine z_icmp_ge (tgt := 14) (pc' := 10) dX8_isFigure_7 (by decide) rfl (fun h7 => ?_) (fun h7 => ?_)
    · refine z_iconst (pc' := 15) dX8_isFigure_14 rfl (by unfold zin; decide) ?_
      refine z_zreturn rfl rfl dX8_isFigure_15 (by omega) ?_
      first | exact hQ1 (by omega) | exact hQ0 (by omega)
    · refine z_iconst (pc' := 11) dX8_isFigure_10 rfl (by unfold zin; decide) ?_
      refine z_goto (tgt := 15) dX8_isFigure_11 (by decide) ?_
      refine z_zreturn rfl rfl dX8_isFigure_15 (by omega) ?_
      first | exact hQ1 (by omega) | exact hQ0 (by omega)
set_option maxRecDepth 100000 in
set_option maxHeartbeats 1000000 in
theorem c_isPlace {d : Nat} {sp : zSP} {me : zMe} {Q : zQ} {x : Int} (hQ1 : 0 ≤ x ∧ x < 10 → Q (some (zI 1)) sp me) (hQ0 : ¬ (0 ≤ x ∧ x < 10) → Q (some (zI 0)) sp me) : zCall mX8_isPlace d 0 0 [zI x] sp me Q := by
  refine z_met kX8_isPlace (by simp) (by simp) ?_
  show zW mX8_isPlace d 0 0 Q 0 [zI x] [] sp me
  refine z_L0I (pc' := 1) dX8_isPlace_0 rfl ?_
  refine z_if_lt (tgt := 14) (pc' := 4) dX8_isPlace_1 (by decide) rfl (fun h1 => ?_) (fun h1 => ?_)
  · refine z_iconst (pc' := 15) dX8_isPlace_14 rfl (by unfold zin; decide) ?_
    refine z_zreturn rfl rfl dX8_isPlace_15 (by omega) ?_
    first | exact hQ1 (by omega) | exact hQ0 (by omega)
  · refine z_L0I (pc' := 5) dX8_isPlace_4 rfl ?_
    refine z_bipush (pc' := 7) dX8_isPlace_5 rfl (by decide) ?_
    refine z_icmp_ge (tgt := 14) (pc' := 10) dX8_isPlace_7 (by decide) rfl (fun h7 => ?_) (fun h7 => ?_)
    · refine z_iconst (pc' := 15) dX8_isPlace_14 rfl (by unfold zin; decide) ?_
      refine z_zreturn rfl rfl dX8_isPlace_15 (by omega) ?_
      first | exact hQ1 (by omega) | exact hQ0 (by omega)
    · refine z_iconst (pc' := 11) dX8_isPlace_10 rfl (by unfold zin; decide) ?_
      refine z_goto (tgt := 15) dX8_isPlace_11 (by decide) ?_
      refine z_zreturn rfl rfl dX8_isPlace_15 (by omega) ?_
      first | exact hQ1 (by omega) | exact hQ0 (by omega)
/-- neighbors in the ring -/
def znb (p q : Int) : Prop := p - q = 1 ∨ q - p = 1 ∨ p - q = 9 ∨ q - p = 9
set_option maxRecDepth 100000 in
set_option maxHeartbeats 1000000 in
theorem c_areNb {d : Nat} {sp : zSP} {me : zMe} {Q : zQ} {x y : Int} (hd : 1 ≤ d) (hx0 : 0 ≤ x) (hx1 : x < 10) (hy0 : 0 ≤ y) (hy1 : y < 10) (hQ1 : znb x y → Q (some (zI 1)) sp me) (hQ0 : ¬ znb x y → Q (some (zI 0)) sp me) : zCall mX8_areNeighbors d 0 0 [zI x, zI y] sp me Q := by
  refine z_met kX8_areNeighbors (by simp) (by simp) ?_
  show zW mX8_areNeighbors d 0 0 Q 0 [zI x, zI y, zU] [] sp me
  unfold znb at hQ1 hQ0
  refine z_L0I (pc' := 1) dX8_areNeighbors_0 rfl ?_
  refine z_L1I (pc' := 2) dX8_areNeighbors_1 rfl ?_
  refine z_isub (pc' := 3) dX8_areNeighbors_2 rfl (by unfold zin; omega) ?_
  refine z_abs (pc' := 6) hX8_277 dX8_areNeighbors_3 rfl (by omega) (Nat.le_of_ble_eq_true rfl) (by unfold zin; omega) ?_
  have e1 : (if 0 ≤ x - y then x - y else -(x - y)) = x - y ∨ (if 0 ≤ x - y then x - y else -(x - y)) = y - x := by split <;> omega
  have e2 : 0 ≤ (if 0 ≤ x - y then x - y else -(x - y)) := by split <;> omega
  refine z_S2I (pc' := 7) rfl dX8_areNeighbors_6 rfl ?_
  refine z_L2I (pc' := 8) dX8_areNeighbors_7 rfl ?_
  refine z_iconst (pc' := 9) dX8_areNeighbors_8 rfl (by unfold zin; decide) ?_
  refine z_icmp_eq (tgt := 18) (pc' := 12) dX8_areNeighbors_9 (by decide) rfl (fun h9 => ?_) (fun h9 => ?_)
  · refine z_iconst (pc' := 19) dX8_areNeighbors_18 rfl (by unfold zin; decide) ?_
    refine z_goto (tgt := 23) dX8_areNeighbors_19 (by decide) ?_
    refine z_zreturn rfl rfl dX8_areNeighbors_23 (by omega) ?_
    first | exact hQ1 (by omega) | exact hQ0 (by omega)
  · refine z_L2I (pc' := 13) dX8_areNeighbors_12 rfl ?_
    refine z_bipush (pc' := 15) dX8_areNeighbors_13 rfl (by decide) ?_
    refine z_icmp_ne (tgt := 22) (pc' := 18) dX8_areNeighbors_15 (by decide) rfl (fun h15 => ?_) (fun h15 => ?_)
    · refine z_iconst (pc' := 23) dX8_areNeighbors_22 rfl (by unfold zin; decide) ?_
      refine z_zreturn rfl rfl dX8_areNeighbors_23 (by omega) ?_
      first | exact hQ1 (by omega) | exact hQ0 (by omega)
    · refine z_iconst (pc' := 19) dX8_areNeighbors_18 rfl (by unfold zin; decide) ?_
      refine z_goto (tgt := 23) dX8_areNeighbors_19 (by decide) ?_
      refine z_zreturn rfl rfl dX8_areNeighbors_23 (by omega) ?_
      first | exact hQ1 (by omega) | exact hQ0 (by omega)
set_option maxRecDepth 100000 in
set_option maxHeartbeats 1000000 in
theorem c_partner {d : Nat} {sp : zSP} {me : zMe} {Q : zQ} {h : Nat} {i : Int} (hd : 1 ≤ d) (hh : zHold sp h) (hQ : Q (some (zI (me (h + 1) i))) sp me) : zCall mX2_partner d 0 0 [zR h, zI i] sp me Q := by
  refine z_met kX2_partner (by simp) (by simp) ?_
  show zW mX2_partner d 0 0 Q 0 [zR h, zI i] [] sp me
  refine z_L0R (pc' := 1) dX2_partner_0 rfl ?_
  refine z_getR (pc' := 4) (ki := 0) 0 fX2_9.l rfl rfl dX2_partner_1 rfl hh.s hh.p0 ?_
  refine z_L1I (pc' := 5) dX2_partner_4 rfl ?_
  refine z_S2v (pc' := 8) kX8_read lX2_23 dX2_partner_5 rfl (by omega) (Nat.le_of_ble_eq_true rfl) ?_
  refine c_read hh.a1 (zKv_i ?_)
  refine z_ireturn rfl rfl dX2_partner_8 ?_
  exact hQ
set_option maxRecDepth 100000 in
set_option maxHeartbeats 1000000 in
theorem c_pairs {d : Nat} {sp : zSP} {me : zMe} {Q : zQ} {h : Nat} (hh : zHold sp h) (hQ : Q (some (zI (me h 1))) sp me) : zCall mX2_pairs d 0 0 [zR h] sp me Q := by
  refine z_met kX2_pairs (by simp) (by simp) ?_
  show zW mX2_pairs d 0 0 Q 0 [zR h] [] sp me
  refine z_L0R (pc' := 1) dX2_pairs_0 rfl ?_
  refine z_getI (pc' := 4) (ki := 1) 1 fX2_15.l rfl rfl dX2_pairs_1 rfl hh.s ?_
  refine z_ireturn rfl rfl dX2_pairs_4 ?_
  exact hQ
set_option maxRecDepth 100000 in
set_option maxHeartbeats 1000000 in
theorem c_holdCopy {d : Nat} {sp : zSP} {me : zMe} {Q : zQ} {h e : Nat} (hd : 2 ≤ d) (hh : zHold sp h) (he : zHold sp e) (hne : h = e ∨ h + 1 < e ∨ e + 1 < h) (hQ : Q none sp (zset (zset me (h + 1) (me (e + 1))) h (zup (me h) 1 (me e 1)))) : zCall mX2_copyFrom d 0 0 [zR h, zR e] sp me Q := by
  refine z_met kX2_copyFrom (by simp) (by simp) ?_
  show zW mX2_copyFrom d 0 0 Q 0 [zR h, zR e] [] sp me
  refine z_L1R (pc' := 1) dX2_copyFrom_0 rfl ?_
  refine z_getR (pc' := 4) (ki := 0) 0 fX2_9.l rfl rfl dX2_copyFrom_1 rfl (by first | exact hh.s | exact he.s) (by first | exact hh.p0 | exact he.p0) ?_
  refine z_L0R (pc' := 5) dX2_copyFrom_4 rfl ?_
  refine z_getR (pc' := 8) (ki := 0) 0 fX2_9.l rfl rfl dX2_copyFrom_5 rfl (by first | exact hh.s | exact he.s) (by first | exact hh.p0 | exact he.p0) ?_
  refine z_S20 (pc' := 11) kX8_copy lX2_19 dX2_copyFrom_8 rfl (by omega) (Nat.le_of_ble_eq_true rfl) ?_
  refine c_copy (by omega) he.a1 hh.a1 (zK0_i ?_)
  refine z_L0R (pc' := 12) dX2_copyFrom_11 rfl ?_
  refine z_L1R (pc' := 13) dX2_copyFrom_12 rfl ?_
  refine z_getI (pc' := 16) (ki := 1) 1 fX2_15.l rfl rfl dX2_copyFrom_13 rfl (by first | exact hh.s | exact he.s) ?_
  refine z_putI (pc' := 19) (ki := 1) 1 fX2_15.l rfl (Or.inl rfl) rfl dX2_copyFrom_16 rfl (by first | exact hh.s | exact he.s) ?_
  rw [zset_ne _ _ _ (show e ≠ h + 1 by omega), zset_ne _ _ _ (show h ≠ h + 1 by omega)]
  refine z_return rfl rfl dX2_copyFrom_19 ?_
  exact hQ
set_option maxRecDepth 100000 in
set_option maxHeartbeats 1000000 in
theorem c_join {d : Nat} {sp : zSP} {me : zMe} {Q : zQ} {h : Nat} {i j : Int} (hd : 1 ≤ d) (hh : zHold sp h) (hi0 : 0 ≤ i) (hi1 : i < 10) (hj0 : 0 ≤ j) (hj1 : j < 10) (hp0 : -100 ≤ me h 1) (hp1 : me h 1 ≤ 100) (hQ : Q none sp (zset (zset me (h + 1) (zup (zup (me (h + 1)) i j) j i)) h (zup (me h) 1 (me h 1 + 1)))) : zCall mX2_join d 0 0 [zR h, zI i, zI j] sp me Q := by
  refine z_met kX2_join (by simp) (by simp) ?_
  show zW mX2_join d 0 0 Q 0 [zR h, zI i, zI j] [] sp me
  refine z_L0R (pc' := 1) dX2_join_0 rfl ?_
  refine z_getR (pc' := 4) (ki := 0) 0 fX2_9.l rfl rfl dX2_join_1 rfl hh.s hh.p0 ?_
  refine z_L1I (pc' := 5) dX2_join_4 rfl ?_
  refine z_L2I (pc' := 6) dX2_join_5 rfl ?_
  refine z_S30 (pc' := 9) kX8_write lX2_27 dX2_join_6 rfl (by omega) (Nat.le_of_ble_eq_true rfl) ?_
  refine c_write hh.a1 (by omega) (by omega) (zK0_i ?_)
  refine z_L0R (pc' := 10) dX2_join_9 rfl ?_
  refine z_getR (pc' := 13) (ki := 0) 0 fX2_9.l rfl rfl dX2_join_10 rfl hh.s hh.p0 ?_
  refine z_L2I (pc' := 14) dX2_join_13 rfl ?_
  refine z_L1I (pc' := 15) dX2_join_14 rfl ?_
  refine z_S30 (pc' := 18) kX8_write lX2_27 dX2_join_15 rfl (by omega) (Nat.le_of_ble_eq_true rfl) ?_
  refine c_write hh.a1 (by omega) (by omega) (zK0_i ?_)
  simp (disch := first | omega | rfl) only [zset_eq, zset_ne, zset_11, zset_21, zset_31, zset_41, zfil_up, zup_eq, zup_ne]
  refine z_L0R (pc' := 19) dX2_join_18 rfl ?_
  refine z_dupR (pc' := 20) dX2_join_19 rfl ?_
  refine z_getI (pc' := 23) (ki := 1) 1 fX2_15.l rfl rfl dX2_join_20 rfl hh.s ?_
  refine z_iconst (pc' := 24) dX2_join_23 rfl (by unfold zin; decide) ?_
  rw [zset_ne _ _ _ (show h ≠ h + 1 by omega)]
  refine z_iadd (pc' := 25) dX2_join_24 rfl (by unfold zin; omega) ?_
  refine z_putI (pc' := 28) (ki := 1) 1 fX2_15.l rfl (Or.inl rfl) rfl dX2_join_25 rfl hh.s ?_
  rw [zset_ne _ _ _ (show h ≠ h + 1 by omega)]
  refine z_return rfl rfl dX2_join_28 ?_
  exact hQ
set_option maxRecDepth 100000 in
set_option maxHeartbeats 1000000 in
theorem c_part {d : Nat} {sp : zSP} {me : zMe} {Q : zQ} {h : Nat} {i j : Int} (hd : 1 ≤ d) (hh : zHold sp h) (hi0 : 0 ≤ i) (hi1 : i < 10) (hj0 : 0 ≤ j) (hj1 : j < 10) (hp0 : -100 ≤ me h 1) (hp1 : me h 1 ≤ 100) (hQ : Q none sp (zset (zset me (h + 1) (zup (zup (me (h + 1)) i (-5)) j (-5))) h (zup (me h) 1 (me h 1 - 1)))) : zCall mX2_part d 0 0 [zR h, zI i, zI j] sp me Q := by
  refine z_met kX2_part (by simp) (by simp) ?_
  show zW mX2_part d 0 0 Q 0 [zR h, zI i, zI j] [] sp me
  refine z_L0R (pc' := 1) dX2_part_0 rfl ?_
  refine z_getR (pc' := 4) (ki := 0) 0 fX2_9.l rfl rfl dX2_part_1 rfl hh.s hh.p0 ?_
  refine z_L1I (pc' := 5) dX2_part_4 rfl ?_
  refine z_bipush (pc' := 7) dX2_part_5 rfl (by decide) ?_
  refine z_S30 (pc' := 10) kX8_write lX2_27 dX2_part_7 rfl (by omega) (Nat.le_of_ble_eq_true rfl) ?_
  refine c_write hh.a1 (by omega) (by omega) (zK0_i ?_)
  refine z_L0R (pc' := 11) dX2_part_10 rfl ?_
  refine z_getR (pc' := 14) (ki := 0) 0 fX2_9.l rfl rfl dX2_part_11 rfl hh.s hh.p0 ?_
  refine z_L2I (pc' := 15) dX2_part_14 rfl ?_
  refine z_bipush (pc' := 17) dX2_part_15 rfl (by decide) ?_
  refine z_S30 (pc' := 20) kX8_write lX2_27 dX2_part_17 rfl (by omega) (Nat.le_of_ble_eq_true rfl) ?_
  refine c_write hh.a1 (by omega) (by omega) (zK0_i ?_)
  simp (disch := first | omega | rfl) only [zset_eq, zset_ne, zset_11, zset_21, zset_31, zset_41, zfil_up, zup_eq, zup_ne]
  refine z_L0R (pc' := 21) dX2_part_20 rfl ?_
  refine z_dupR (pc' := 22) dX2_part_21 rfl ?_
  refine z_getI (pc' := 25) (ki := 1) 1 fX2_15.l rfl rfl dX2_part_22 rfl hh.s ?_
  refine z_iconst (pc' := 26) dX2_part_25 rfl (by unfold zin; decide) ?_
  rw [zset_ne _ _ _ (show h ≠ h + 1 by omega)]
  refine z_isub (pc' := 27) dX2_part_26 rfl (by unfold zin; omega) ?_
  refine z_putI (pc' := 30) (ki := 1) 1 fX2_15.l rfl (Or.inl rfl) rfl dX2_part_27 rfl hh.s ?_
  rw [zset_ne _ _ _ (show h ≠ h + 1 by omega)]
  refine z_return rfl rfl dX2_part_30 ?_
  exact hQ
/-- those who hold each other stay neighbors -/
def zkept (w h : Int → Int) (p : Int) : Prop := h (w p) = -5 ∨ h (w p) = w ((p + 1) % 10) ∨ h (w p) = w ((p + 10 - 1) % 10)
def zkall (w h : Int → Int) : Prop := ∀ p, 0 ≤ p → p < 10 → zkept w h p
set_option maxRecDepth 100000 in
set_option maxHeartbeats 1000000 in
theorem c_isKeptAt {d : Nat} {sp : zSP} {me : zMe} {Q : zQ} {h r : Nat} {p : Int} (hd : 2 ≤ d) (hh : zHold sp h) (hr : zRing sp r) (hp0 : 0 ≤ p) (hp1 : p < 10) (hQ1 : zkept (me (r + 1)) (me (h + 1)) p → Q (some (zI 1)) sp me) (hQ0 : ¬ zkept (me (r + 1)) (me (h + 1)) p → Q (some (zI 0)) sp me) : zCall mX2_isKeptAt d 0 0 [zR h, zR r, zI p] sp me Q := by
  refine z_met kX2_isKeptAt (by simp) (by simp) ?_
  show zW mX2_isKeptAt d 0 0 Q 0 [zR h, zR r, zI p, zU] [] sp me
  unfold zkept at hQ1 hQ0
  refine z_L0R (pc' := 1) dX2_isKeptAt_0 rfl ?_
  refine z_L1R (pc' := 2) dX2_isKeptAt_1 rfl ?_
  refine z_L2I (pc' := 3) dX2_isKeptAt_2 rfl ?_
  refine z_V1v (pc' := 6) (ci := 4) kX4_dancerAt lX2_35 dX2_isKeptAt_3 rfl (by omega) (Nat.le_of_ble_eq_true rfl) (by decide) rfl hr.s ?_
  refine c_dancerAt (by omega) hr (zKv_i ?_)
  refine z_V1v (pc' := 9) (ci := 2) kX2_partner lX2_41 dX2_isKeptAt_6 rfl (by omega) (Nat.le_of_ble_eq_true rfl) (by decide) rfl hh.s ?_
  refine c_partner (by omega) hh (zKv_i ?_)
  refine z_S3I (pc' := 10) rfl dX2_isKeptAt_9 rfl ?_
  refine z_L3I (pc' := 11) dX2_isKeptAt_10 rfl ?_
  refine z_bipush (pc' := 13) dX2_isKeptAt_11 rfl (by decide) ?_
  refine z_icmp_eq (tgt := 47) (pc' := 16) dX2_isKeptAt_13 (by decide) rfl (fun h13 => ?_) (fun h13 => ?_)
  · refine z_iconst (pc' := 48) dX2_isKeptAt_47 rfl (by unfold zin; decide) ?_
    refine z_goto (tgt := 52) dX2_isKeptAt_48 (by decide) ?_
    refine z_zreturn rfl rfl dX2_isKeptAt_52 (by omega) ?_
    first | exact hQ1 (Or.inl h13) | exact hQ1 (Or.inr (Or.inl h27)) | exact hQ1 (Or.inr (Or.inr h44)) | exact hQ0 (fun z => z.elim h13 (fun z => z.elim h27 h44))
  · refine z_L3I (pc' := 17) dX2_isKeptAt_16 rfl ?_
    refine z_L1R (pc' := 18) dX2_isKeptAt_17 rfl ?_
    refine z_L2I (pc' := 19) dX2_isKeptAt_18 rfl ?_
    refine z_iconst (pc' := 20) dX2_isKeptAt_19 rfl (by unfold zin; decide) ?_
    refine z_iadd (pc' := 21) dX2_isKeptAt_20 rfl (by unfold zin; omega) ?_
    refine z_bipush (pc' := 23) dX2_isKeptAt_21 rfl (by decide) ?_
    refine z_irem (pc' := 24) dX2_isKeptAt_23 rfl (by omega) (by omega) ?_
    refine z_V1v (pc' := 27) (ci := 4) kX4_dancerAt lX2_35 dX2_isKeptAt_24 rfl (by omega) (Nat.le_of_ble_eq_true rfl) (by decide) rfl hr.s ?_
    refine c_dancerAt (by omega) hr (zKv_i ?_)
    refine z_icmp_eq (tgt := 47) (pc' := 30) dX2_isKeptAt_27 (by decide) rfl (fun h27 => ?_) (fun h27 => ?_)
    · refine z_iconst (pc' := 48) dX2_isKeptAt_47 rfl (by unfold zin; decide) ?_
      refine z_goto (tgt := 52) dX2_isKeptAt_48 (by decide) ?_
      refine z_zreturn rfl rfl dX2_isKeptAt_52 (by omega) ?_
      first | exact hQ1 (Or.inl h13) | exact hQ1 (Or.inr (Or.inl h27)) | exact hQ1 (Or.inr (Or.inr h44)) | exact hQ0 (fun z => z.elim h13 (fun z => z.elim h27 h44))
    · refine z_L3I (pc' := 31) dX2_isKeptAt_30 rfl ?_
      refine z_L1R (pc' := 32) dX2_isKeptAt_31 rfl ?_
      refine z_L2I (pc' := 33) dX2_isKeptAt_32 rfl ?_
      refine z_bipush (pc' := 35) dX2_isKeptAt_33 rfl (by decide) ?_
      refine z_iadd (pc' := 36) dX2_isKeptAt_35 rfl (by unfold zin; omega) ?_
      refine z_iconst (pc' := 37) dX2_isKeptAt_36 rfl (by unfold zin; decide) ?_
      refine z_isub (pc' := 38) dX2_isKeptAt_37 rfl (by unfold zin; omega) ?_
      refine z_bipush (pc' := 40) dX2_isKeptAt_38 rfl (by decide) ?_
      refine z_irem (pc' := 41) dX2_isKeptAt_40 rfl (by omega) (by omega) ?_
      refine z_V1v (pc' := 44) (ci := 4) kX4_dancerAt lX2_35 dX2_isKeptAt_41 rfl (by omega) (Nat.le_of_ble_eq_true rfl) (by decide) rfl hr.s ?_
      refine c_dancerAt (by omega) hr (zKv_i ?_)
      refine z_icmp_ne (tgt := 51) (pc' := 47) dX2_isKeptAt_44 (by decide) rfl (fun h44 => ?_) (fun h44 => ?_)
      · refine z_iconst (pc' := 52) dX2_isKeptAt_51 rfl (by unfold zin; decide) ?_
        refine z_zreturn rfl rfl dX2_isKeptAt_52 (by omega) ?_
        first | exact hQ1 (Or.inl h13) | exact hQ1 (Or.inr (Or.inl h27)) | exact hQ1 (Or.inr (Or.inr h44)) | exact hQ0 (fun z => z.elim h13 (fun z => z.elim h27 h44))
      · refine z_iconst (pc' := 48) dX2_isKeptAt_47 rfl (by unfold zin; decide) ?_
        refine z_goto (tgt := 52) dX2_isKeptAt_48 (by decide) ?_
        refine z_zreturn rfl rfl dX2_isKeptAt_52 (by omega) ?_
        first | exact hQ1 (Or.inl h13) | exact hQ1 (Or.inr (Or.inl h27)) | exact hQ1 (Or.inr (Or.inr h44)) | exact hQ0 (fun z => z.elim h13 (fun z => z.elim h27 h44))
set_option maxRecDepth 100000 in
set_option maxHeartbeats 1000000 in
theorem c_areKept {d : Nat} {sp : zSP} {me : zMe} {Q : zQ} {h r : Nat} (hd : 3 ≤ d) (hh : zHold sp h) (hr : zRing sp r) (hg : zgR (me (r + 1)) (me (r + 2))) (hpr : me h 1 = 0 → ∀ i, 0 ≤ i → i < 10 → me (h + 1) i = -5) (hQ1 : zkall (me (r + 1)) (me (h + 1)) → Q (some (zI 1)) sp me) (hQ0 : ¬ zkall (me (r + 1)) (me (h + 1)) → Q (some (zI 0)) sp me) : zCall mX2_areKept d 0 0 [zR h, zR r] sp me Q := by
  refine z_met kX2_areKept (by simp) (by simp) ?_
  show zW mX2_areKept d 0 0 Q 0 [zR h, zR r, zU] [] sp me
  refine z_L0R (pc' := 1) dX2_areKept_0 rfl ?_
  refine z_getI (pc' := 4) (ki := 1) 1 fX2_15.l rfl rfl dX2_areKept_1 rfl hh.s ?_
  refine z_if_ne (tgt := 9) (pc' := 7) dX2_areKept_4 (by decide) rfl (fun h4 => ?_) (fun h4 => ?_)
  · refine z_iconst (pc' := 10) dX2_areKept_9 rfl (by unfold zin; decide) ?_
    refine z_S2I (pc' := 11) rfl dX2_areKept_10 rfl ?_
    suffices H : ∀ (n : Nat) (k : Int), 0 ≤ k → k ≤ 10 → 10 - k < n → (∀ p, 0 ≤ p → p < k → zkept (me (r + 1)) (me (h + 1)) p) → zW mX2_areKept d 0 0 Q 11 [zR h, zR r, zI k] [] sp me by
      exact H 11 0 (by omega) (by omega) (by omega) (fun p h0 h1 => by omega)
    intro n
    induction n with
    | zero => intro k hk0 hk1 hk2; omega
    | succ n ih =>
    intro k hk0 hk1 hk2 hall
    refine z_L2I (pc' := 12) dX2_areKept_11 rfl ?_
    refine z_bipush (pc' := 14) dX2_areKept_12 rfl (by decide) ?_
    refine z_icmp_ge (tgt := 34) (pc' := 17) dX2_areKept_14 (by decide) rfl (fun h14 => ?_) (fun h14 => ?_)
    · refine z_iconst (pc' := 35) dX2_areKept_34 rfl (by unfold zin; decide) ?_
      refine z_zreturn rfl rfl dX2_areKept_35 (by omega) ?_
      exact hQ1 (fun p h0 h1 => hall p h0 (by omega))
    · refine z_L0R (pc' := 18) dX2_areKept_17 rfl ?_
      refine z_L1R (pc' := 19) dX2_areKept_18 rfl ?_
      refine z_L2I (pc' := 20) dX2_areKept_19 rfl ?_
      refine z_V2v (pc' := 23) (ci := 2) kX2_isKeptAt lX2_31 dX2_areKept_20 rfl (by omega) (Nat.le_of_ble_eq_true rfl) (by decide) rfl hh.s ?_
      refine c_isKeptAt (by omega) hh hr (by omega) (by omega) (fun hkk => zKv_i ?_) (fun hkk => zKv_i ?_)
      rotate_left
      · refine z_if_ne (tgt := 28) (pc' := 26) dX2_areKept_23 (by decide) rfl (fun h23 => absurd rfl h23) (fun h23 => ?_)
        refine z_iconst (pc' := 27) dX2_areKept_26 rfl (by unfold zin; decide) ?_
        refine z_zreturn rfl rfl dX2_areKept_27 (by omega) ?_
        exact hQ0 (fun z => hkk (z k (by omega) (by omega)))
      refine z_if_ne (tgt := 28) (pc' := 26) dX2_areKept_23 (by decide) rfl (fun h23 => ?_) (fun h23 => absurd h23 (by omega))
      refine z_inc2 (pc' := 31) rfl dX2_areKept_28 rfl (by unfold zin; omega) ?_
      refine z_goto (tgt := 11) dX2_areKept_31 (by decide) ?_
      refine ih (k + 1) (by omega) (by omega) (by omega) (fun p h0 h1 => ?_)
      by_cases e1 : p = k
      · subst e1; exact hkk
      · exact hall p h0 (by omega)
  · refine z_iconst (pc' := 8) dX2_areKept_7 rfl (by unfold zin; decide) ?_
    refine z_zreturn rfl rfl dX2_areKept_8 (by omega) ?_
    exact hQ1 (fun p h0 h1 => Or.inl (hpr (by omega) _ (hg.1 p h0 h1).1 (hg.1 p h0 h1).2.1))
/-- the holds: each one's partner holds back -/
def zHok (h : Int → Int) : Prop := (∀ i, 0 ≤ i → i < 10 → h i = -5 ∨ (0 ≤ h i ∧ h i < 10 ∧ h i ≠ i ∧ h (h i) = i)) ∧ ∀ i, ¬ (0 ≤ i ∧ i < 10) → h i = 0
/-- who must let go when all are home -/
def zunk (h : Int → Int) (i : Int) : Prop := h i ≠ -5 ∧ ¬ znb i (h i)
def zhh (h : Int → Int) (k : Int) : Int → Int := fun i => if 0 ≤ i ∧ i < 10 ∧ h i ≠ -5 ∧ ¬ (h i - i = 1 ∨ i - h i = 1 ∨ h i - i = 9 ∨ i - h i = 9) ∧ (i < k ∨ h i < k) then -5 else h i
def zhc (h : Int → Int) (k : Int) : Int := zSm (fun i => if i < h i ∧ ¬ (h i - i = 1 ∨ h i - i = 9) then 1 else 0) k
theorem zhh_10 (h : Int → Int) (k : Int) (hk : 10 ≤ k) : zhh h k = zhh h 10 := by
  funext i
  unfold zhh
  ((repeat' split) <;> first | rfl | (exfalso; omega) | (congr 1; omega) | (congr 2; omega) | (congr 3; omega) | omega)
set_option maxRecDepth 100000 in
set_option maxHeartbeats 1000000 in
theorem c_partNN {d : Nat} {sp : zSP} {me : zMe} {Q : zQ} {h r : Nat} (hd : 3 ≤ d) (hh : zHold sp h) (hr : zRing sp r) (hdis : r + 4 < h ∨ h + 1 < r) (hw : ∀ p, 0 ≤ p → p < 10 → me (r + 1) p = p) (hok : zHok (me (h + 1))) (hp0 : 0 ≤ me h 1) (hp1 : me h 1 ≤ 20) (hQ : Q (some (zI (zhc (me (h + 1)) 10))) sp (zset (zset me (h + 1) (zhh (me (h + 1)) 10)) h (zup (me h) 1 (me h 1 - zhc (me (h + 1)) 10)))) : zCall mX2_partNotNeighbors d 0 0 [zR h, zR r] sp me Q := by
  refine z_met kX2_partNotNeighbors (by simp) (by simp) ?_
  show zW mX2_partNotNeighbors d 0 0 Q 0 [zR h, zR r, zU, zU, zU] [] sp me
  refine z_iconst (pc' := 1) dX2_partNotNeighbors_0 rfl (by unfold zin; decide) ?_
  refine z_S2I (pc' := 2) rfl dX2_partNotNeighbors_1 rfl ?_
  refine z_iconst (pc' := 3) dX2_partNotNeighbors_2 rfl (by unfold zin; decide) ?_
  refine z_S3I (pc' := 4) rfl dX2_partNotNeighbors_3 rfl ?_
  suffices H : ∀ (n : Nat) (k : Int) (v : zV), 0 ≤ k → k ≤ 10 → 10 - k < n → zW mX2_partNotNeighbors d 0 0 Q 4 [zR h, zR r, zI (zhc (me (h + 1)) k), zI k, v] [] sp (zset (zset me (h + 1) (zhh (me (h + 1)) k)) h (zup (me h) 1 (me h 1 - zhc (me (h + 1)) k))) by
    refine zW_to (H 11 0 zU (by omega) (by omega) (by omega)) rfl rfl ?_
    have e0 : zhc (me (h + 1)) 0 = 0 := zSm_0 _
    have e1 : zhh (me (h + 1)) 0 = me (h + 1) := by
      funext i
      have := hok.1 i
      unfold zhh
      ((repeat' split) <;> first | rfl | (exfalso; omega) | (congr 1; omega) | (congr 2; omega) | (congr 3; omega) | omega)
    rw [e0, e1, Int.sub_zero, zup_self, zset_self, zset_self]
  intro n
  induction n with
  | zero => intro k v hk0 hk1 hk2; omega
  | succ n ih =>
  intro k v hk0 hk1 hk2
  have hbd := zSm_bd (g := fun i => if i < me (h + 1) i ∧ ¬ (me (h + 1) i - i = 1 ∨ me (h + 1) i - i = 9) then 1 else 0) (a := 0) (b := 1) (fun p _ => by split <;> omega) k hk0
  have hbd : 0 ≤ zhc (me (h + 1)) k ∧ zhc (me (h + 1)) k ≤ 10 := by unfold zhc; omega
  have e9 : zhc (me (h + 1)) (k + 1) = zhc (me (h + 1)) k + (if k < me (h + 1) k ∧ ¬ (me (h + 1) k - k = 1 ∨ me (h + 1) k - k = 9) then 1 else 0) := zSm_up _ _ hk0
  refine z_L3I (pc' := 5) dX2_partNotNeighbors_4 rfl ?_
  refine z_bipush (pc' := 7) dX2_partNotNeighbors_5 rfl (by decide) ?_
  refine z_icmp_ge (tgt := 47) (pc' := 10) dX2_partNotNeighbors_7 (by decide) rfl (fun h7 => ?_) (fun h7 => ?_)
  · obtain rfl : k = 10 := by omega
    refine z_L2I (pc' := 48) dX2_partNotNeighbors_47 rfl ?_
    refine z_ireturn rfl rfl dX2_partNotNeighbors_48 ?_
    exact hQ
  · refine z_L0R (pc' := 11) dX2_partNotNeighbors_10 rfl ?_
    refine z_L1R (pc' := 12) dX2_partNotNeighbors_11 rfl ?_
    refine z_L3I (pc' := 13) dX2_partNotNeighbors_12 rfl ?_
    refine z_V2v (pc' := 16) (ci := 2) kX2_isKeptAt lX2_31 dX2_partNotNeighbors_13 rfl (by omega) (Nat.le_of_ble_eq_true rfl) (by decide) rfl hh.s ?_
    have er1 : ∀ F G, zset (zset me (h + 1) F) h G (r + 1) = me (r + 1) := fun F G => by rw [zset_ne _ _ _ (by omega), zset_ne _ _ _ (by omega)]
    have eh1 : ∀ F G, zset (zset me (h + 1) F) h G (h + 1) = F := fun F G => by rw [zset_ne _ _ _ (by omega), zset_eq]
    have hokk := hok.1 k hk0 (by omega)
    have ekept : zkept (me (r + 1)) (zhh (me (h + 1)) k) k ↔ ¬ (k < me (h + 1) k ∧ ¬ (me (h + 1) k - k = 1 ∨ me (h + 1) k - k = 9)) := by
      unfold zkept
      rw [hw k hk0 (by omega), hw ((k + 1) % 10) (by omega) (by omega), hw ((k + 10 - 1) % 10) (by omega) (by omega)]
      unfold zhh
      split <;> omega
    refine c_isKeptAt (by omega) hh hr (by omega) (by omega) (fun hkk => zKv_i ?_) (fun hkk => zKv_i ?_)
    rotate_left
    · rw [er1, eh1, ekept] at hkk
      have hkk : k < me (h + 1) k ∧ ¬ (me (h + 1) k - k = 1 ∨ me (h + 1) k - k = 9) := Decidable.not_not.mp hkk
      refine z_if_ne (tgt := 41) (pc' := 19) dX2_partNotNeighbors_16 (by decide) rfl (fun h23 => absurd rfl h23) (fun h23 => ?_)
      refine z_L1R (pc' := 20) dX2_partNotNeighbors_19 rfl ?_
      refine z_L3I (pc' := 21) dX2_partNotNeighbors_20 rfl ?_
      refine z_V1v (pc' := 24) (ci := 4) kX4_dancerAt lX2_35 dX2_partNotNeighbors_21 rfl (by omega) (Nat.le_of_ble_eq_true rfl) (by decide) rfl hr.s ?_
      refine c_dancerAt (by omega) hr (zKv_i ?_)
      rw [er1, hw k hk0 (by omega)]
      refine z_S4I (pc' := 26) rfl dX2_partNotNeighbors_24 rfl ?_
      refine z_L0R (pc' := 27) dX2_partNotNeighbors_26 rfl ?_
      refine z_L4I (pc' := 29) dX2_partNotNeighbors_27 rfl ?_
      refine z_L0R (pc' := 30) dX2_partNotNeighbors_29 rfl ?_
      refine z_L4I (pc' := 32) dX2_partNotNeighbors_30 rfl ?_
      refine z_V1v (pc' := 35) (ci := 2) kX2_partner lX2_41 dX2_partNotNeighbors_32 rfl (by omega) (Nat.le_of_ble_eq_true rfl) (by decide) rfl hh.s ?_
      refine c_partner (by omega) hh (zKv_i ?_)
      have ek : zhh (me (h + 1)) k k = me (h + 1) k := by unfold zhh; rw [if_neg (by omega)]
      rw [eh1, ek]
      refine z_V20 (pc' := 38) (ci := 2) kX2_part lX2_44 dX2_partNotNeighbors_35 rfl (by omega) (Nat.le_of_ble_eq_true rfl) (by decide) rfl hh.s ?_
      refine c_part (by omega) hh hk0 (by omega) (by omega) (by omega) (by rw [zset_eq, zup_eq]; omega) (by rw [zset_eq, zup_eq]; omega) (zK0_i ?_)
      refine z_inc2 (pc' := 41) rfl dX2_partNotNeighbors_38 rfl (by unfold zin; omega) ?_
      refine z_inc3 (pc' := 44) rfl dX2_partNotNeighbors_41 rfl (by unfold zin; omega) ?_
      refine z_goto (tgt := 4) dX2_partNotNeighbors_44 (by decide) ?_
      rw [if_pos hkk] at e9
      refine zW_to (ih (k + 1) (zI k) (by omega) (by omega) (by omega)) (by rw [e9]) rfl ?_
      simp (disch := first | omega | rfl) only [zset_eq, zset_ne, zset_11, zset_21, zset_31, zset_41, zfil_up, zup_eq, zup_ne]
      have e10 : zup (zup (zhh (me (h + 1)) k) k (-5)) (me (h + 1) k) (-5) = zhh (me (h + 1)) (k + 1) := by
        funext i
        have hi := hok.1 i
        have hi2 := hok.2 i
        unfold zup zhh
        by_cases e1 : i = me (h + 1) k
        · rw [if_pos e1]
          have e2 : me (h + 1) i = k := by rw [e1]; omega
          rw [if_pos (by omega)]
        · rw [if_neg e1]
          by_cases e2 : i = k
          · rw [if_pos e2, if_pos (by rw [e2]; omega)]
          · rw [if_neg e2]
            have e3 : 0 ≤ i → i < 10 → me (h + 1) i ≠ k := fun h1 h2 h3 => by
              have h4 := hi h1 h2
              rw [h3] at h4
              omega
            ((repeat' split) <;> first | rfl | (exfalso; omega) | (congr 1; omega) | (congr 2; omega) | (congr 3; omega) | omega)
      rw [e10, e9, zup_zup]
      congr 2
      omega
    rw [er1, eh1, ekept] at hkk
    rw [if_neg hkk] at e9
    have e10 : zhh (me (h + 1)) k = zhh (me (h + 1)) (k + 1) := by
      funext i
      have hi := hok.1 i
      unfold zhh
      by_cases e2 : i = k
      · rw [e2]; split <;> split <;> omega
      · have e3 : 0 ≤ i → i < 10 → me (h + 1) i = k → me (h + 1) k = i := fun h1 h2 h3 => by
          have h4 := hi h1 h2
          rw [h3] at h4
          omega
        ((repeat' split) <;> first | rfl | (exfalso; omega) | (congr 1; omega) | (congr 2; omega) | (congr 3; omega) | omega)
    refine z_if_ne (tgt := 41) (pc' := 19) dX2_partNotNeighbors_16 (by decide) rfl (fun h16 => ?_) (fun h16 => absurd h16 (by omega))
    refine z_inc3 (pc' := 44) rfl dX2_partNotNeighbors_41 rfl (by unfold zin; omega) ?_
    refine z_goto (tgt := 4) dX2_partNotNeighbors_44 (by decide) ?_
    refine zW_to (ih (k + 1) v (by omega) (by omega) (by omega)) (by rw [e9, Int.add_zero]) rfl ?_
    rw [e9, Int.add_zero, ← e10]
end ZHOLD

