section ZSMALL
set_option maxRecDepth 100000 in
set_option maxHeartbeats 1000000 in
theorem c_read {d : Nat} {sp : zSP} {me : zMe} {Q : zQ} {a n : Nat} {i : Int} (hs : sp.1 a = (1, n)) (hQ : Q (some (zI (me a i))) sp me) : zCall mX8_read d 0 0 [zR a, zI i] sp me Q := by
  refine z_met kX8_read (by simp) (by simp) ?_
  show zW mX8_read d 0 0 Q 0 [zR a, zI i] [] sp me
  refine z_wf (fun hwf => ?_)
  refine z_L1I (pc' := 1) dX8_read_0 rfl ?_
  refine z_if_lt (tgt := 16) (pc' := 4) dX8_read_1 (by decide) rfl (fun h1 => ?_) (fun h1 => ?_)
  · have hv := zwf_out hwf hs (i := i) (by omega)
    rw [hv] at hQ
    refine z_iconst (pc' := 17) dX8_read_16 rfl (by unfold zin; decide) ?_
    refine z_ireturn rfl rfl dX8_read_17 ?_
    exact hQ
  · refine z_L1I (pc' := 5) dX8_read_4 rfl ?_
    refine z_L0R (pc' := 6) dX8_read_5 rfl ?_
    refine z_al (pc' := 7) dX8_read_6 rfl hs ?_
    refine z_icmp_ge (tgt := 16) (pc' := 10) dX8_read_7 (by decide) rfl (fun h7 => ?_) (fun h7 => ?_)
    · have hv := zwf_out hwf hs (i := i) (by omega)
      rw [hv] at hQ
      refine z_iconst (pc' := 17) dX8_read_16 rfl (by unfold zin; decide) ?_
      refine z_ireturn rfl rfl dX8_read_17 ?_
      exact hQ
    · refine z_L0R (pc' := 11) dX8_read_10 rfl ?_
      refine z_L1I (pc' := 12) dX8_read_11 rfl ?_
      refine z_ild (pc' := 13) dX8_read_12 rfl hs (by omega) (by omega) ?_
      refine z_goto (tgt := 17) dX8_read_13 (by decide) ?_
      refine z_ireturn rfl rfl dX8_read_17 ?_
      exact hQ
set_option maxRecDepth 100000 in
set_option maxHeartbeats 1000000 in
theorem c_write {d : Nat} {sp : zSP} {me : zMe} {Q : zQ} {a n : Nat} {i x : Int} (hs : sp.1 a = (1, n)) (h0 : 0 ≤ i) (h1 : i < (n : Int)) (hQ : Q none sp (zset me a (zup (me a) i x))) : zCall mX8_write d 0 0 [zR a, zI i, zI x] sp me Q := by
  refine z_met kX8_write (by simp) (by simp) ?_
  show zW mX8_write d 0 0 Q 0 [zR a, zI i, zI x] [] sp me
  refine z_L1I (pc' := 1) dX8_write_0 rfl ?_
  refine z_if_lt (tgt := 14) (pc' := 4) dX8_write_1 (by decide) rfl (fun h1 => absurd h1 (by omega)) (fun h1 => ?_)
  refine z_L1I (pc' := 5) dX8_write_4 rfl ?_
  refine z_L0R (pc' := 6) dX8_write_5 rfl ?_
  refine z_al (pc' := 7) dX8_write_6 rfl hs ?_
  refine z_icmp_ge (tgt := 14) (pc' := 10) dX8_write_7 (by decide) rfl (fun h7 => absurd h7 (by omega)) (fun h7 => ?_)
  refine z_L0R (pc' := 11) dX8_write_10 rfl ?_
  refine z_L1I (pc' := 12) dX8_write_11 rfl ?_
  refine z_L2I (pc' := 13) dX8_write_12 rfl ?_
  refine z_ist (pc' := 14) dX8_write_13 rfl hs (by omega) (by omega) ?_
  refine z_return rfl rfl dX8_write_14 ?_
  exact hQ
set_option maxRecDepth 100000 in
set_option maxHeartbeats 1000000 in
theorem c_copy {d : Nat} {sp : zSP} {me : zMe} {Q : zQ} {a b n : Nat} (hd : 1 ≤ d) (ha : sp.1 a = (1, n)) (hb : sp.1 b = (1, n)) (hQ : Q none sp (zset me b (me a))) : zCall mX8_copy d 0 0 [zR a, zR b] sp me Q := by
  refine z_met kX8_copy (by simp) (by simp) ?_
  show zW mX8_copy d 0 0 Q 0 [zR a, zR b] [] sp me
  refine z_L0R (pc' := 1) dX8_copy_0 rfl ?_
  refine z_iconst (pc' := 2) dX8_copy_1 rfl (by unfold zin; decide) ?_
  refine z_L1R (pc' := 3) dX8_copy_2 rfl ?_
  refine z_iconst (pc' := 4) dX8_copy_3 rfl (by unfold zin; decide) ?_
  refine z_L0R (pc' := 5) dX8_copy_4 rfl ?_
  refine z_al (pc' := 6) dX8_copy_5 rfl (by first | exact ha | exact hb) ?_
  refine z_L1R (pc' := 7) dX8_copy_6 rfl ?_
  refine z_al (pc' := 8) dX8_copy_7 rfl (by first | exact ha | exact hb) ?_
  refine z_min (pc' := 11) hX8_282 dX8_copy_8 rfl (by omega) (Nat.le_of_ble_eq_true rfl) ?_
  rw [if_neg (Int.lt_irrefl _)]
  refine z_copy (pc' := 14) pX8_285 dX8_copy_11 rfl (by omega) rfl ha hb ?_
  refine z_return rfl rfl dX8_copy_14 ?_
  exact hQ
set_option maxRecDepth 100000 in
set_option maxHeartbeats 1000000 in
theorem c_kindOf {d : Nat} {sp : zSP} {me : zMe} {Q : zQ} {x : Int} (h0 : 0 ≤ x) (hQ : Q (some (zI (x / 100))) sp me) : zCall mX8_kindOf d 0 0 [zI x] sp me Q := by
  refine z_met kX8_kindOf (by simp) (by simp) ?_
  show zW mX8_kindOf d 0 0 Q 0 [zI x] [] sp me
  refine z_L0I (pc' := 1) dX8_kindOf_0 rfl ?_
  refine z_bipush (pc' := 3) dX8_kindOf_1 rfl (by decide) ?_
  refine z_idiv (pc' := 4) dX8_kindOf_3 rfl (by omega) (by omega) ?_
  refine z_ireturn rfl rfl dX8_kindOf_4 ?_
  exact hQ
set_option maxRecDepth 100000 in
set_option maxHeartbeats 1000000 in
theorem c_firstOf {d : Nat} {sp : zSP} {me : zMe} {Q : zQ} {x : Int} (h0 : 0 ≤ x) (hQ : Q (some (zI (x / 10 % 10))) sp me) : zCall mX8_firstOf d 0 0 [zI x] sp me Q := by
  refine z_met kX8_firstOf (by simp) (by simp) ?_
  show zW mX8_firstOf d 0 0 Q 0 [zI x] [] sp me
  refine z_L0I (pc' := 1) dX8_firstOf_0 rfl ?_
  refine z_bipush (pc' := 3) dX8_firstOf_1 rfl (by decide) ?_
  refine z_idiv (pc' := 4) dX8_firstOf_3 rfl (by omega) (by omega) ?_
  refine z_bipush (pc' := 6) dX8_firstOf_4 rfl (by decide) ?_
  refine z_irem (pc' := 7) dX8_firstOf_6 rfl (by omega) (by omega) ?_
  refine z_ireturn rfl rfl dX8_firstOf_7 ?_
  exact hQ
set_option maxRecDepth 100000 in
set_option maxHeartbeats 1000000 in
theorem c_secondOf {d : Nat} {sp : zSP} {me : zMe} {Q : zQ} {x : Int} (h0 : 0 ≤ x) (hQ : Q (some (zI (x % 10))) sp me) : zCall mX8_secondOf d 0 0 [zI x] sp me Q := by
  refine z_met kX8_secondOf (by simp) (by simp) ?_
  show zW mX8_secondOf d 0 0 Q 0 [zI x] [] sp me
  refine z_L0I (pc' := 1) dX8_secondOf_0 rfl ?_
  refine z_bipush (pc' := 3) dX8_secondOf_1 rfl (by decide) ?_
  refine z_irem (pc' := 4) dX8_secondOf_3 rfl (by omega) (by omega) ?_
  refine z_ireturn rfl rfl dX8_secondOf_4 ?_
  exact hQ
set_option maxRecDepth 100000 in
set_option maxHeartbeats 1000000 in
theorem c_settle {d : Nat} {sp : zSP} {me : zMe} {Q : zQ} {r : Nat} (hr : zRing sp r) (hQ : Q none sp (zset (zset me (r + 1) (zcut 10 (fun p => p))) (r + 2) (zcut 10 (fun _ => 0)))) : zCall mX4_settle d 0 0 [zR r] sp me Q := by
  refine z_met kX4_settle (by simp) (by simp) ?_
  show zW mX4_settle d 0 0 Q 0 [zR r, zU] [] sp me
  refine z_wf (fun hwf => ?_)
  refine z_iconst (pc' := 1) dX4_settle_0 rfl (by unfold zin; decide) ?_
  refine z_S1I (pc' := 2) rfl dX4_settle_1 rfl ?_
  suffices H : ∀ (n : Nat) (k : Int), 0 ≤ k → k ≤ 10 → 10 - k < n → zW mX4_settle d 0 0 Q 2 [zR r, zI k] [] sp (zset (zset me (r + 1) (zfil (me (r + 1)) (fun p => p) k)) (r + 2) (zfil (me (r + 2)) (fun _ => 0) k)) by
    refine zW_to (H ((10 - 0 + 1 : Int).toNat) (0) (by omega) (by omega) (by omega) ) rfl rfl ?_
    simp only [zfil_0, zset_self]
  intro n
  induction n with
  | zero => intro k hk0 hk1 hk2; omega
  | succ n ih =>
  intro k hk0 hk1 hk2
  refine z_L1I (pc' := 3) dX4_settle_2 rfl ?_
  refine z_bipush (pc' := 5) dX4_settle_3 rfl (by decide) ?_
  refine z_icmp_ge (tgt := 28) (pc' := 8) dX4_settle_5 (by decide) rfl (fun h5 => ?_) (fun h5 => ?_)
  · obtain rfl : k = 10 := by omega
    rw [zfil_cut (m := 10) _ hwf hr.a1 rfl, zfil_cut (m := 10) _ hwf hr.a2 rfl]
    refine z_return rfl rfl dX4_settle_28 ?_
    exact hQ
  · refine z_L0R (pc' := 9) dX4_settle_8 rfl ?_
    refine z_getR (pc' := 12) (ki := 0) 0 fX4_9.l rfl rfl dX4_settle_9 rfl hr.s hr.p0 ?_
    refine z_L1I (pc' := 13) dX4_settle_12 rfl ?_
    refine z_L1I (pc' := 14) dX4_settle_13 rfl ?_
    refine z_ist (pc' := 15) dX4_settle_14 rfl (by first | exact hr.a1 | exact hr.a2 | exact hr.a3 | exact hr.a4) (by omega) (by omega) ?_
    refine z_L0R (pc' := 16) dX4_settle_15 rfl ?_
    refine z_getR (pc' := 19) (ki := 1) 1 fX4_15.l rfl rfl dX4_settle_16 rfl hr.s hr.p1 ?_
    refine z_L1I (pc' := 20) dX4_settle_19 rfl ?_
    refine z_iconst (pc' := 21) dX4_settle_20 rfl (by unfold zin; decide) ?_
    refine z_ist (pc' := 22) dX4_settle_21 rfl (by first | exact hr.a1 | exact hr.a2 | exact hr.a3 | exact hr.a4) (by omega) (by omega) ?_
    refine z_inc1 (pc' := 25) rfl dX4_settle_22 rfl (by unfold zin; omega) ?_
    refine z_goto (tgt := 2) dX4_settle_25 (by decide) ?_
    refine zW_to (ih (k + 1) (by omega) (by omega) (by omega) ) rfl rfl ?_
    simp (disch := first | omega | rfl) only [zset_eq, zset_ne, zset_11, zset_21, zset_31, zset_41, zfil_up, zup_eq, zup_ne]
set_option maxRecDepth 100000 in
set_option maxHeartbeats 1000000 in
theorem c_ringCopy {d : Nat} {sp : zSP} {me : zMe} {Q : zQ} {r e : Nat} (hd : 2 ≤ d) (hr : zRing sp r) (he : zRing sp e) (hne : r = e ∨ r + 4 < e ∨ e + 4 < r) (hQ : Q none sp (zset (zset me (r + 1) (me (e + 1))) (r + 2) (me (e + 2)))) : zCall mX4_copyFrom d 0 0 [zR r, zR e] sp me Q := by
  refine z_met kX4_copyFrom (by simp) (by simp) ?_
  show zW mX4_copyFrom d 0 0 Q 0 [zR r, zR e] [] sp me
  refine z_L1R (pc' := 1) dX4_copyFrom_0 rfl ?_
  refine z_getR (pc' := 4) (ki := 0) 0 fX4_9.l rfl rfl dX4_copyFrom_1 rfl (by first | exact hr.s | exact he.s) (by first | exact hr.p0 | exact he.p0) ?_
  refine z_L0R (pc' := 5) dX4_copyFrom_4 rfl ?_
  refine z_getR (pc' := 8) (ki := 0) 0 fX4_9.l rfl rfl dX4_copyFrom_5 rfl (by first | exact hr.s | exact he.s) (by first | exact hr.p0 | exact he.p0) ?_
  refine z_S20 (pc' := 11) kX8_copy lX4_27 dX4_copyFrom_8 rfl (by omega) (Nat.le_of_ble_eq_true rfl) ?_
  refine c_copy (by omega) he.a1 hr.a1 (zK0_i ?_)
  refine z_L1R (pc' := 12) dX4_copyFrom_11 rfl ?_
  refine z_getR (pc' := 15) (ki := 1) 1 fX4_15.l rfl rfl dX4_copyFrom_12 rfl (by first | exact hr.s | exact he.s) (by first | exact hr.p1 | exact he.p1) ?_
  refine z_L0R (pc' := 16) dX4_copyFrom_15 rfl ?_
  refine z_getR (pc' := 19) (ki := 1) 1 fX4_15.l rfl rfl dX4_copyFrom_16 rfl (by first | exact hr.s | exact he.s) (by first | exact hr.p1 | exact he.p1) ?_
  refine z_S20 (pc' := 22) kX8_copy lX4_27 dX4_copyFrom_19 rfl (by omega) (Nat.le_of_ble_eq_true rfl) ?_
  refine c_copy (by omega) he.a2 hr.a2 (zK0_i ?_)
  rw [zset_ne _ _ _ (by omega)]
  refine z_return rfl rfl dX4_copyFrom_22 ?_
  exact hQ
set_option maxRecDepth 100000 in
set_option maxHeartbeats 1000000 in
theorem c_remember {d : Nat} {sp : zSP} {me : zMe} {Q : zQ} {r : Nat} (hd : 2 ≤ d) (hr : zRing sp r) (hQ : Q none sp (zset (zset me (r + 3) (me (r + 1))) (r + 4) (me (r + 2)))) : zCall mX4_remember d 0 0 [zR r] sp me Q := by
  refine z_met kX4_remember (by simp) (by simp) ?_
  show zW mX4_remember d 0 0 Q 0 [zR r] [] sp me
  refine z_L0R (pc' := 1) dX4_remember_0 rfl ?_
  refine z_getR (pc' := 4) (ki := 0) 0 fX4_9.l rfl rfl dX4_remember_1 rfl hr.s hr.p0 ?_
  refine z_L0R (pc' := 5) dX4_remember_4 rfl ?_
  refine z_getR (pc' := 8) (ki := 2) 2 fX4_18.l rfl rfl dX4_remember_5 rfl hr.s hr.p2 ?_
  refine z_S20 (pc' := 11) kX8_copy lX4_27 dX4_remember_8 rfl (by omega) (Nat.le_of_ble_eq_true rfl) ?_
  refine c_copy (by omega) hr.a1 hr.a3 (zK0_i ?_)
  refine z_L0R (pc' := 12) dX4_remember_11 rfl ?_
  refine z_getR (pc' := 15) (ki := 1) 1 fX4_15.l rfl rfl dX4_remember_12 rfl hr.s hr.p1 ?_
  refine z_L0R (pc' := 16) dX4_remember_15 rfl ?_
  refine z_getR (pc' := 19) (ki := 3) 3 fX4_21.l rfl rfl dX4_remember_16 rfl hr.s hr.p3 ?_
  refine z_S20 (pc' := 22) kX8_copy lX4_27 dX4_remember_19 rfl (by omega) (Nat.le_of_ble_eq_true rfl) ?_
  refine c_copy (by omega) hr.a2 hr.a4 (zK0_i ?_)
  rw [zset_ne _ _ _ (by omega)]
  refine z_return rfl rfl dX4_remember_22 ?_
  exact hQ
set_option maxRecDepth 100000 in
set_option maxHeartbeats 1000000 in
theorem c_dancerAt {d : Nat} {sp : zSP} {me : zMe} {Q : zQ} {r : Nat} {i : Int} (hd : 1 ≤ d) (hr : zRing sp r) (hQ : Q (some (zI (me (r + 1) i))) sp me) : zCall mX4_dancerAt d 0 0 [zR r, zI i] sp me Q := by
  refine z_met kX4_dancerAt (by simp) (by simp) ?_
  show zW mX4_dancerAt d 0 0 Q 0 [zR r, zI i] [] sp me
  refine z_L0R (pc' := 1) dX4_dancerAt_0 rfl ?_
  refine z_getR (pc' := 4) (ki := 0) 0 fX4_9.l rfl rfl dX4_dancerAt_1 rfl hr.s hr.p0 ?_
  refine z_L1I (pc' := 5) dX4_dancerAt_4 rfl ?_
  refine z_S2v (pc' := 8) kX8_read lX4_31 dX4_dancerAt_5 rfl (by omega) (Nat.le_of_ble_eq_true rfl) ?_
  refine c_read hr.a1 (zKv_i ?_)
  refine z_ireturn rfl rfl dX4_dancerAt_8 ?_
  exact hQ
set_option maxRecDepth 100000 in
set_option maxHeartbeats 1000000 in
theorem c_faceAt {d : Nat} {sp : zSP} {me : zMe} {Q : zQ} {r : Nat} {i : Int} (hd : 1 ≤ d) (hr : zRing sp r) (hQ : Q (some (zI (me (r + 2) i))) sp me) : zCall mX4_faceAt d 0 0 [zR r, zI i] sp me Q := by
  refine z_met kX4_faceAt (by simp) (by simp) ?_
  show zW mX4_faceAt d 0 0 Q 0 [zR r, zI i] [] sp me
  refine z_L0R (pc' := 1) dX4_faceAt_0 rfl ?_
  refine z_getR (pc' := 4) (ki := 1) 1 fX4_15.l rfl rfl dX4_faceAt_1 rfl hr.s hr.p1 ?_
  refine z_L1I (pc' := 5) dX4_faceAt_4 rfl ?_
  refine z_S2v (pc' := 8) kX8_read lX4_31 dX4_faceAt_5 rfl (by omega) (Nat.le_of_ble_eq_true rfl) ?_
  refine c_read hr.a2 (zKv_i ?_)
  refine z_ireturn rfl rfl dX4_faceAt_8 ?_
  exact hQ
end ZSMALL

