section ZFIGS
set_option maxRecDepth 100000 in
set_option maxHeartbeats 1000000 in
theorem c_size {d : Nat} {sp : zSP} {me : zMe} {Q : zQ} {f : Nat} {k : Int} (hd : 1 ≤ d) (hf : zFigs sp f) (hQ : Q (some (zI (me (f + 1) k))) sp me) : zCall mX0_size d 0 0 [zR f, zI k] sp me Q := by
  refine z_met kX0_size (by simp) (by simp) ?_
  show zW mX0_size d 0 0 Q 0 [zR f, zI k] [] sp me
  refine z_L0R (pc' := 1) dX0_size_0 rfl ?_
  refine z_getR (pc' := 4) (ki := 0) 0 fX0_9.l rfl rfl dX0_size_1 rfl hf.s hf.p0 ?_
  refine z_L1I (pc' := 5) dX0_size_4 rfl ?_
  refine z_S2v (pc' := 8) kX8_read lX0_22 dX0_size_5 rfl (by omega) (Nat.le_of_ble_eq_true rfl) ?_
  refine c_read hf.a1 (zKv_i ?_)
  refine z_ireturn rfl rfl dX0_size_8 ?_
  exact hQ
set_option maxRecDepth 100000 in
set_option maxHeartbeats 1000000 in
theorem c_code {d : Nat} {sp : zSP} {me : zMe} {Q : zQ} {f : Nat} {k j : Int} (hd : 1 ≤ d) (hf : zFigs sp f) (hk0 : 0 ≤ k) (hk1 : k < 8) (hj0 : 0 ≤ j) (hj1 : j ≤ 10) (hQ : Q (some (zI (me (f + 2) (k * 10 + j)))) sp me) : zCall mX0_code d 0 0 [zR f, zI k, zI j] sp me Q := by
  refine z_met kX0_code (by simp) (by simp) ?_
  show zW mX0_code d 0 0 Q 0 [zR f, zI k, zI j] [] sp me
  refine z_L0R (pc' := 1) dX0_code_0 rfl ?_
  refine z_getR (pc' := 4) (ki := 1) 1 fX0_15.l rfl rfl dX0_code_1 rfl hf.s hf.p1 ?_
  refine z_L1I (pc' := 5) dX0_code_4 rfl ?_
  refine z_bipush (pc' := 7) dX0_code_5 rfl (by decide) ?_
  refine z_imul (pc' := 8) dX0_code_7 rfl (by unfold zin; omega) ?_
  refine z_L2I (pc' := 9) dX0_code_8 rfl ?_
  refine z_iadd (pc' := 10) dX0_code_9 rfl (by unfold zin; omega) ?_
  refine z_S2v (pc' := 13) kX8_read lX0_22 dX0_code_10 rfl (by omega) (Nat.le_of_ble_eq_true rfl) ?_
  refine c_read hf.a2 (zKv_i ?_)
  refine z_ireturn rfl rfl dX0_code_13 ?_
  exact hQ
set_option maxRecDepth 100000 in
set_option maxHeartbeats 1000000 in
theorem c_put {d : Nat} {sp : zSP} {me : zMe} {Q : zQ} {f : Nat} {k c : Int} (hd : 2 ≤ d) (hf : zFigs sp f) (hk0 : 0 ≤ k) (hk1 : k < 8) (hs0 : 0 ≤ me (f + 1) k) (hs1 : me (f + 1) k < 10) (hQ : Q none sp (zset (zset me (f + 2) (zup (me (f + 2)) (k * 10 + me (f + 1) k) c)) (f + 1) (zup (me (f + 1)) k (me (f + 1) k + 1)))) : zCall mX0_put d 0 0 [zR f, zI k, zI c] sp me Q := by
  refine z_met kX0_put (by simp) (by simp) ?_
  show zW mX0_put d 0 0 Q 0 [zR f, zI k, zI c, zU] [] sp me
  refine z_L0R (pc' := 1) dX0_put_0 rfl ?_
  refine z_L1I (pc' := 2) dX0_put_1 rfl ?_
  refine z_V1v (pc' := 5) (ci := 0) kX0_size lX0_26 dX0_put_2 rfl (by omega) (Nat.le_of_ble_eq_true rfl) (by decide) rfl hf.s ?_
  refine c_size (by omega) hf (zKv_i ?_)
  refine z_S3I (pc' := 6) rfl dX0_put_5 rfl ?_
  refine z_L0R (pc' := 7) dX0_put_6 rfl ?_
  refine z_getR (pc' := 10) (ki := 1) 1 fX0_15.l rfl rfl dX0_put_7 rfl hf.s hf.p1 ?_
  refine z_L1I (pc' := 11) dX0_put_10 rfl ?_
  refine z_bipush (pc' := 13) dX0_put_11 rfl (by decide) ?_
  refine z_imul (pc' := 14) dX0_put_13 rfl (by unfold zin; omega) ?_
  refine z_L3I (pc' := 15) dX0_put_14 rfl ?_
  refine z_iadd (pc' := 16) dX0_put_15 rfl (by unfold zin; omega) ?_
  refine z_L2I (pc' := 17) dX0_put_16 rfl ?_
  refine z_S30 (pc' := 20) kX8_write lX0_30 dX0_put_17 rfl (by omega) (Nat.le_of_ble_eq_true rfl) ?_
  refine c_write hf.a2 (by omega) (by omega) (zK0_i ?_)
  refine z_L0R (pc' := 21) dX0_put_20 rfl ?_
  refine z_getR (pc' := 24) (ki := 0) 0 fX0_9.l rfl rfl dX0_put_21 rfl hf.s hf.p0 ?_
  refine z_L1I (pc' := 25) dX0_put_24 rfl ?_
  refine z_L3I (pc' := 26) dX0_put_25 rfl ?_
  refine z_iconst (pc' := 27) dX0_put_26 rfl (by unfold zin; decide) ?_
  refine z_iadd (pc' := 28) dX0_put_27 rfl (by unfold zin; omega) ?_
  refine z_S30 (pc' := 31) kX8_write lX0_30 dX0_put_28 rfl (by omega) (Nat.le_of_ble_eq_true rfl) ?_
  refine c_write hf.a1 (by omega) (by omega) (zK0_i ?_)
  rw [zset_ne _ _ _ (show f + 1 ≠ f + 2 by omega)]
  refine z_return rfl rfl dX0_put_31 ?_
  exact hQ
set_option maxRecDepth 100000 in
set_option maxHeartbeats 1000000 in
theorem c_cut {d : Nat} {sp : zSP} {me : zMe} {Q : zQ} {f : Nat} {k : Int} (hd : 2 ≤ d) (hf : zFigs sp f) (hk0 : 0 ≤ k) (hk1 : k < 8) (hs0 : 0 ≤ me (f + 1) k) (hs1 : me (f + 1) k ≤ 10) (hQ : Q none sp (zset me (f + 1) (zup (me (f + 1)) k (me (f + 1) k - 1)))) : zCall mX0_cut d 0 0 [zR f, zI k] sp me Q := by
  refine z_met kX0_cut (by simp) (by simp) ?_
  show zW mX0_cut d 0 0 Q 0 [zR f, zI k] [] sp me
  refine z_L0R (pc' := 1) dX0_cut_0 rfl ?_
  refine z_getR (pc' := 4) (ki := 0) 0 fX0_9.l rfl rfl dX0_cut_1 rfl hf.s hf.p0 ?_
  refine z_L1I (pc' := 5) dX0_cut_4 rfl ?_
  refine z_L0R (pc' := 6) dX0_cut_5 rfl ?_
  refine z_L1I (pc' := 7) dX0_cut_6 rfl ?_
  refine z_V1v (pc' := 10) (ci := 0) kX0_size lX0_26 dX0_cut_7 rfl (by omega) (Nat.le_of_ble_eq_true rfl) (by decide) rfl hf.s ?_
  refine c_size (by omega) hf (zKv_i ?_)
  refine z_iconst (pc' := 11) dX0_cut_10 rfl (by unfold zin; decide) ?_
  refine z_isub (pc' := 12) dX0_cut_11 rfl (by unfold zin; omega) ?_
  refine z_S30 (pc' := 15) kX8_write lX0_30 dX0_cut_12 rfl (by omega) (Nat.le_of_ble_eq_true rfl) ?_
  refine c_write hf.a1 (by omega) (by omega) (zK0_i ?_)
  refine z_return rfl rfl dX0_cut_15 ?_
  exact hQ
set_option maxRecDepth 100000 in
set_option maxHeartbeats 1000000 in
theorem c_usedCount {d : Nat} {sp : zSP} {me : zMe} {Q : zQ} {f : Nat} (hf : zFigs sp f) (hQ : Q (some (zI (zSm (fun k => if 0 < me (f + 1) k then 1 else 0) 8))) sp me) : zCall mX0_usedCount d 0 0 [zR f] sp me Q := by
  refine z_met kX0_usedCount (by simp) (by simp) ?_
  show zW mX0_usedCount d 0 0 Q 0 [zR f, zU, zU] [] sp me
  refine z_iconst (pc' := 1) dX0_usedCount_0 rfl (by unfold zin; decide) ?_
  refine z_S1I (pc' := 2) rfl dX0_usedCount_1 rfl ?_
  refine z_iconst (pc' := 3) dX0_usedCount_2 rfl (by unfold zin; decide) ?_
  refine z_S2I (pc' := 4) rfl dX0_usedCount_3 rfl ?_
  suffices H : ∀ (n : Nat) (k : Int), 0 ≤ k → k ≤ 8 → 8 - k < n → zW mX0_usedCount d 0 0 Q 4 [zR f, zI (zSm (fun k => if 0 < me (f + 1) k then 1 else 0) k), zI k] [] sp (me) by
    refine zW_to (H ((8 - 0 + 1 : Int).toNat) (0) (by omega) (by omega) (by omega) ) rfl rfl ?_
    rfl
  intro n
  induction n with
  | zero => intro k hk0 hk1 hk2; omega
  | succ n ih =>
  intro k hk0 hk1 hk2
  refine z_L2I (pc' := 5) dX0_usedCount_4 rfl ?_
  refine z_bipush (pc' := 7) dX0_usedCount_5 rfl (by decide) ?_
  refine z_icmp_ge (tgt := 28) (pc' := 10) dX0_usedCount_7 (by decide) rfl (fun h7 => ?_) (fun h7 => ?_)
  · obtain rfl : k = 8 := by omega
    refine z_L1I (pc' := 29) dX0_usedCount_28 rfl ?_
    refine z_ireturn rfl rfl dX0_usedCount_29 ?_
    exact hQ
  · have hbd := zSm_bd (g := fun k => if 0 < me (f + 1) k then 1 else 0) (a := 0) (b := 1) (fun p _ => by split <;> omega) k hk0
    refine z_L0R (pc' := 11) dX0_usedCount_10 rfl ?_
    refine z_getR (pc' := 14) (ki := 0) 0 fX0_9.l rfl rfl dX0_usedCount_11 rfl hf.s hf.p0 ?_
    refine z_L2I (pc' := 15) dX0_usedCount_14 rfl ?_
    refine z_ild (pc' := 16) dX0_usedCount_15 rfl (by first | exact hf.a1 | exact hf.a2) (by omega) (by omega) ?_
    refine z_if_le (tgt := 22) (pc' := 19) dX0_usedCount_16 (by decide) rfl (fun h16 => ?_) (fun h16 => ?_)
    · refine z_inc2 (pc' := 25) rfl dX0_usedCount_22 rfl (by unfold zin; omega) ?_
      refine z_goto (tgt := 4) dX0_usedCount_25 (by decide) ?_
      refine zW_to (ih (k + 1) (by omega) (by omega) (by omega) ) (by rw [zSm_up _ _ hk0]; first | (rw [if_pos h16]; done) | (rw [if_neg (by omega), Int.add_zero]; done)) rfl ?_
      rfl
    · refine z_inc1 (pc' := 22) rfl dX0_usedCount_19 rfl (by unfold zin; omega) ?_
      refine z_inc2 (pc' := 25) rfl dX0_usedCount_22 rfl (by unfold zin; omega) ?_
      refine z_goto (tgt := 4) dX0_usedCount_25 (by decide) ?_
      refine zW_to (ih (k + 1) (by omega) (by omega) (by omega) ) (by rw [zSm_up _ _ hk0]; first | (rw [if_pos h16]; done) | (rw [if_neg (by omega), Int.add_zero]; done)) rfl ?_
      rfl
set_option maxRecDepth 100000 in
set_option maxHeartbeats 1000000 in
theorem c_figsCopy {d : Nat} {sp : zSP} {me : zMe} {Q : zQ} {f e : Nat} (hd : 2 ≤ d) (hf : zFigs sp f) (he : zFigs sp e) (hne : f = e ∨ f + 2 < e ∨ e + 2 < f) (hQ : Q none sp (zset (zset me (f + 1) (me (e + 1))) (f + 2) (me (e + 2)))) : zCall mX0_copyFrom d 0 0 [zR f, zR e] sp me Q := by
  refine z_met kX0_copyFrom (by simp) (by simp) ?_
  show zW mX0_copyFrom d 0 0 Q 0 [zR f, zR e] [] sp me
  refine z_L1R (pc' := 1) dX0_copyFrom_0 rfl ?_
  refine z_getR (pc' := 4) (ki := 0) 0 fX0_9.l rfl rfl dX0_copyFrom_1 rfl (by first | exact hf.s | exact he.s) (by first | exact hf.p0 | exact he.p0) ?_
  refine z_L0R (pc' := 5) dX0_copyFrom_4 rfl ?_
  refine z_getR (pc' := 8) (ki := 0) 0 fX0_9.l rfl rfl dX0_copyFrom_5 rfl (by first | exact hf.s | exact he.s) (by first | exact hf.p0 | exact he.p0) ?_
  refine z_S20 (pc' := 11) kX8_copy lX0_18 dX0_copyFrom_8 rfl (by omega) (Nat.le_of_ble_eq_true rfl) ?_
  refine c_copy (by omega) he.a1 hf.a1 (zK0_i ?_)
  refine z_L1R (pc' := 12) dX0_copyFrom_11 rfl ?_
  refine z_getR (pc' := 15) (ki := 1) 1 fX0_15.l rfl rfl dX0_copyFrom_12 rfl (by first | exact hf.s | exact he.s) (by first | exact hf.p1 | exact he.p1) ?_
  refine z_L0R (pc' := 16) dX0_copyFrom_15 rfl ?_
  refine z_getR (pc' := 19) (ki := 1) 1 fX0_15.l rfl rfl dX0_copyFrom_16 rfl (by first | exact hf.s | exact he.s) (by first | exact hf.p1 | exact he.p1) ?_
  refine z_S20 (pc' := 22) kX8_copy lX0_18 dX0_copyFrom_19 rfl (by omega) (Nat.le_of_ble_eq_true rfl) ?_
  refine c_copy (by omega) he.a2 hf.a2 (zK0_i ?_)
  rw [zset_ne _ _ _ (by omega)]
  refine z_return rfl rfl dX0_copyFrom_22 ?_
  exact hQ
/-- what undo and restore bring back: who, face, partners, pairs, sizes, codes, the three totals -/
abbrev zSt : Type := (Int → Int) × (Int → Int) × (Int → Int) × Int × (Int → Int) × (Int → Int) × Int × Int × Int
def zget (me : zMe) (s : Nat) : zSt := (me (s + 1 + 1), me (s + 1 + 2), me (s + 6 + 1), me (s + 6) 1, me (s + 8 + 1), me (s + 8 + 2), me s 3, me s 4, me s 5)
theorem zget_congr {me me' : zMe} {s : Nat} (h : ∀ a, s ≤ a → a ≤ s + 10 → me' a = me a) : zget me' s = zget me s := by
  unfold zget
  rw [h _ (by omega) (by omega), h _ (by omega) (by omega), h _ (by omega) (by omega), h (s + 6) (by omega) (by omega), h _ (by omega) (by omega), h _ (by omega) (by omega), h s (by omega) (by omega)]
set_option maxRecDepth 100000 in
set_option maxHeartbeats 1000000 in
theorem c_staCopy {d : Nat} {sp : zSP} {me : zMe} {Q : zQ} {s o : Nat} (hd : 3 ≤ d) (hs : zSta sp s) (ho : zSta sp o) (hne : s + 10 < o ∨ o + 10 < s) (hQ : ∀ me', zget me' s = zget me o → (∀ a, a < s ∨ s + 10 < a → me' a = me a) → Q none sp me') : zCall mX7_copyFrom d 0 0 [zR s, zR o] sp me Q := by
  refine z_met kX7_copyFrom (by simp) (by simp) ?_
  show zW mX7_copyFrom d 0 0 Q 0 [zR s, zR o] [] sp me
  refine z_L0R (pc' := 1) dX7_copyFrom_0 rfl ?_
  refine z_getR (pc' := 4) (ki := 0) 0 fX7_10.l rfl rfl dX7_copyFrom_1 rfl (by first | exact hs.s | exact ho.s) (by first | exact hs.p0 | exact ho.p0) ?_
  refine z_L1R (pc' := 5) dX7_copyFrom_4 rfl ?_
  refine z_getR (pc' := 8) (ki := 0) 0 fX7_10.l rfl rfl dX7_copyFrom_5 rfl (by first | exact hs.s | exact ho.s) (by first | exact hs.p0 | exact ho.p0) ?_
  refine z_V10 (pc' := 11) (ci := 4) kX4_copyFrom lX7_40 dX7_copyFrom_8 rfl (by omega) (Nat.le_of_ble_eq_true rfl) (by decide) rfl hs.o1.s ?_
  refine c_ringCopy (by omega) hs.o1 ho.o1 (by omega) (zK0_i ?_)
  refine z_L0R (pc' := 12) dX7_copyFrom_11 rfl ?_
  refine z_getR (pc' := 15) (ki := 1) 1 fX7_19.l rfl rfl dX7_copyFrom_12 rfl (by first | exact hs.s | exact ho.s) (by first | exact hs.p1 | exact ho.p1) ?_
  refine z_L1R (pc' := 16) dX7_copyFrom_15 rfl ?_
  refine z_getR (pc' := 19) (ki := 1) 1 fX7_19.l rfl rfl dX7_copyFrom_16 rfl (by first | exact hs.s | exact ho.s) (by first | exact hs.p1 | exact ho.p1) ?_
  refine z_V10 (pc' := 22) (ci := 2) kX2_copyFrom lX7_44 dX7_copyFrom_19 rfl (by omega) (Nat.le_of_ble_eq_true rfl) (by decide) rfl hs.o6.s ?_
  refine c_holdCopy (by omega) hs.o6 ho.o6 (by omega) (zK0_i ?_)
  refine z_L0R (pc' := 23) dX7_copyFrom_22 rfl ?_
  refine z_getR (pc' := 26) (ki := 2) 2 fX7_26.l rfl rfl dX7_copyFrom_23 rfl (by first | exact hs.s | exact ho.s) (by first | exact hs.p2 | exact ho.p2) ?_
  refine z_L1R (pc' := 27) dX7_copyFrom_26 rfl ?_
  refine z_getR (pc' := 30) (ki := 2) 2 fX7_26.l rfl rfl dX7_copyFrom_27 rfl (by first | exact hs.s | exact ho.s) (by first | exact hs.p2 | exact ho.p2) ?_
  refine z_V10 (pc' := 33) (ci := 0) kX0_copyFrom lX7_47 dX7_copyFrom_30 rfl (by omega) (Nat.le_of_ble_eq_true rfl) (by decide) rfl hs.o8.s ?_
  refine c_figsCopy (by omega) hs.o8 ho.o8 (by omega) (zK0_i ?_)
  simp (disch := first | omega | rfl) only [zset_eq, zset_ne, zset_11, zset_21, zset_31, zset_41, zfil_up, zup_eq, zup_ne]
  refine z_L0R (pc' := 34) dX7_copyFrom_33 rfl ?_
  refine z_L1R (pc' := 35) dX7_copyFrom_34 rfl ?_
  refine z_getI (pc' := 38) (ki := 3) 3 fX7_30.l rfl rfl dX7_copyFrom_35 rfl (by first | exact hs.s | exact ho.s) ?_
  refine z_putI (pc' := 41) (ki := 3) 3 fX7_30.l rfl (Or.inl rfl) rfl dX7_copyFrom_38 rfl (by first | exact hs.s | exact ho.s) ?_
  refine z_L0R (pc' := 42) dX7_copyFrom_41 rfl ?_
  refine z_L1R (pc' := 43) dX7_copyFrom_42 rfl ?_
  refine z_getI (pc' := 46) (ki := 4) 4 fX7_34.l rfl rfl dX7_copyFrom_43 rfl (by first | exact hs.s | exact ho.s) ?_
  refine z_putI (pc' := 49) (ki := 4) 4 fX7_34.l rfl (Or.inl rfl) rfl dX7_copyFrom_46 rfl (by first | exact hs.s | exact ho.s) ?_
  refine z_L0R (pc' := 50) dX7_copyFrom_49 rfl ?_
  refine z_L1R (pc' := 51) dX7_copyFrom_50 rfl ?_
  refine z_getI (pc' := 54) (ki := 5) 5 fX7_37.l rfl rfl dX7_copyFrom_51 rfl (by first | exact hs.s | exact ho.s) ?_
  refine z_putI (pc' := 57) (ki := 5) 5 fX7_37.l rfl (Or.inl rfl) rfl dX7_copyFrom_54 rfl (by first | exact hs.s | exact ho.s) ?_
  simp (disch := first | omega | rfl) only [zset_eq, zset_ne, zset_11, zset_21, zset_31, zset_41, zfil_up, zup_eq, zup_ne]
  refine z_return rfl rfl dX7_copyFrom_57 ?_
  refine hQ _ ?_ (fun a ha => ?_)
  · unfold zget
    simp (disch := first | omega | rfl) only [zset_eq, zset_ne, zset_11, zset_21, zset_31, zset_41, zfil_up, zup_eq, zup_ne]
  · simp (disch := first | omega | rfl) only [zset_eq, zset_ne, zset_11, zset_21, zset_31, zset_41, zfil_up, zup_eq, zup_ne]
/-- the history: the latest first -/
def zRH (me : zMe) (h : Nat) (HL : List zSt) : Prop := me h 1 = (HL.length : Int) ∧ HL.length ≤ 5 ∧ 0 ≤ me h 2 ∧ me h 2 < 5 ∧ ∀ j : Nat, j < HL.length → HL[j]? = some (zget me (h + 2 + 11 * ((me h 2 + 4 - j) % 5).toNat))
theorem zRH_congr {me me' : zMe} {h : Nat} {HL : List zSt} (hR : zRH me h HL) (hc : ∀ a, h ≤ a → a ≤ h + 56 → me' a = me a) : zRH me' h HL := by
  obtain ⟨h1, h2, h3, h4, h5⟩ := hR
  have e := hc h (by omega) (by omega)
  refine ⟨by rw [e]; exact h1, h2, by rw [e]; exact h3, by rw [e]; exact h4, fun j hj => ?_⟩
  rw [e, h5 j hj]
  rw [zget_congr (fun a h6 h7 => hc a (by omega) (by omega))]
set_option maxRecDepth 100000 in
set_option maxHeartbeats 1000000 in
theorem c_histSize {d : Nat} {sp : zSP} {me : zMe} {Q : zQ} {h : Nat} (hh : zHis sp h) (hQ : Q (some (zI (me h 1))) sp me) : zCall mX1_size d 0 0 [zR h] sp me Q := by
  refine z_met kX1_size (by simp) (by simp) ?_
  show zW mX1_size d 0 0 Q 0 [zR h] [] sp me
  refine z_L0R (pc' := 1) dX1_size_0 rfl ?_
  refine z_getI (pc' := 4) (ki := 1) 1 fX1_17.l rfl rfl dX1_size_1 rfl hh.s ?_
  refine z_ireturn rfl rfl dX1_size_4 ?_
  exact hQ
set_option maxRecDepth 100000 in
set_option maxHeartbeats 1000000 in
theorem c_keep {d : Nat} {sp : zSP} {me : zMe} {Q : zQ} {h s : Nat} {HL : List zSt} (hd : 4 ≤ d) (hh : zHis sp h) (hs : zSta sp s) (hdis : s + 10 < h ∨ h + 56 < s) (hR : zRH me h HL) (hQ : ∀ me', zRH me' h ((zget me s :: HL).take 5) → (∀ a, a < h ∨ h + 56 < a → me' a = me a) → Q none sp me') : zCall mX1_keep d 0 0 [zR h, zR s] sp me Q := by
  refine z_met kX1_keep (by simp) (by simp) ?_
  show zW mX1_keep d 0 0 Q 0 [zR h, zR s] [] sp me
  obtain ⟨hR1, hR2, hR3, hR4, hR5⟩ := hR
  have hq := hh.q (me h 2) hR3 hR4
  refine z_L0R (pc' := 1) dX1_keep_0 rfl ?_
  refine z_getI (pc' := 4) (ki := 2) 2 fX1_21.l rfl rfl dX1_keep_1 rfl hh.s ?_
  refine z_if_lt (tgt := 28) (pc' := 7) dX1_keep_4 (by decide) rfl (fun h4 => absurd h4 (by omega)) (fun h4 => ?_)
  refine z_L0R (pc' := 8) dX1_keep_7 rfl ?_
  refine z_getI (pc' := 11) (ki := 2) 2 fX1_21.l rfl rfl dX1_keep_8 rfl hh.s ?_
  refine z_iconst (pc' := 12) dX1_keep_11 rfl (by unfold zin; decide) ?_
  refine z_icmp_ge (tgt := 28) (pc' := 15) dX1_keep_12 (by decide) rfl (fun h12 => absurd h12 (by omega)) (fun h12 => ?_)
  refine z_L0R (pc' := 16) dX1_keep_15 rfl ?_
  refine z_getR (pc' := 19) (ki := 0) 0 fX1_11.l rfl rfl dX1_keep_16 rfl hh.s hh.p0 ?_
  refine z_L0R (pc' := 20) dX1_keep_19 rfl ?_
  refine z_getI (pc' := 23) (ki := 2) 2 fX1_21.l rfl rfl dX1_keep_20 rfl hh.s ?_
  refine z_qld (pc' := 24) 4 dX1_keep_23 rfl hh.a1 (by omega) (by omega) (by omega) hq.1 ?_
  refine z_L1R (pc' := 25) dX1_keep_24 rfl ?_
  refine z_V10 (pc' := 28) (ci := 7) kX7_copyFrom lX1_25 dX1_keep_25 rfl (by omega) (Nat.le_of_ble_eq_true rfl) (by decide) rfl hq.2.s ?_
  refine c_staCopy (by omega) hq.2 hs (by omega) (fun me1 hg1 hf1 => zK0_i ?_)
  have eh : me1 h = me h := hf1 h (by omega)
  refine z_L0R (pc' := 29) dX1_keep_28 rfl ?_
  refine z_L0R (pc' := 30) dX1_keep_29 rfl ?_
  refine z_getI (pc' := 33) (ki := 2) 2 fX1_21.l rfl rfl dX1_keep_30 rfl hh.s ?_
  rw [eh]
  refine z_iconst (pc' := 34) dX1_keep_33 rfl (by unfold zin; decide) ?_
  refine z_iadd (pc' := 35) dX1_keep_34 rfl (by unfold zin; omega) ?_
  refine z_iconst (pc' := 36) dX1_keep_35 rfl (by unfold zin; decide) ?_
  refine z_irem (pc' := 37) dX1_keep_36 rfl (by omega) (by omega) ?_
  refine z_putI (pc' := 40) (ki := 2) 2 fX1_21.l rfl (Or.inl rfl) rfl dX1_keep_37 rfl hh.s ?_
  rw [eh]
  refine z_L0R (pc' := 41) dX1_keep_40 rfl ?_
  refine z_L0R (pc' := 42) dX1_keep_41 rfl ?_
  refine z_getI (pc' := 45) (ki := 1) 1 fX1_17.l rfl rfl dX1_keep_42 rfl hh.s ?_
  rw [zset_eq, zup_ne _ _ _ (show (1 : Int) ≠ 2 by omega)]
  refine z_iconst (pc' := 46) dX1_keep_45 rfl (by unfold zin; decide) ?_
  refine z_iadd (pc' := 47) dX1_keep_46 rfl (by unfold zin; omega) ?_
  refine z_iconst (pc' := 48) dX1_keep_47 rfl (by unfold zin; decide) ?_
  refine z_min (pc' := 51) hX1_29 dX1_keep_48 rfl (by omega) (Nat.le_of_ble_eq_true rfl) ?_
  refine z_putI (pc' := 54) (ki := 1) 1 fX1_17.l rfl (Or.inl rfl) rfl dX1_keep_51 rfl hh.s ?_
  rw [zset_eq, zset_11]
  refine z_return rfl rfl dX1_keep_54 ?_
  refine hQ _ ?_ (fun a ha => by rw [zset_ne _ _ _ (by omega)]; exact hf1 a (by omega))
  have e1 : zset me1 h (zup (zup (me h) 2 ((me h 2 + 1) % 5)) 1 (if 5 < me h 1 + 1 then 5 else me h 1 + 1)) h = zup (zup (me h) 2 ((me h 2 + 1) % 5)) 1 (if 5 < me h 1 + 1 then 5 else me h 1 + 1) := zset_eq _ _ _
  refine ⟨?_, by simp; omega, ?_, ?_, fun j hj => ?_⟩
  · rw [e1, zup_eq]
    simp only [List.length_take, List.length_cons]
    split <;> omega
  · rw [e1, zup_ne _ _ _ (by omega), zup_eq]; omega
  · rw [e1, zup_ne _ _ _ (by omega), zup_eq]; omega
  · rw [e1, zup_ne _ _ _ (show (2 : Int) ≠ 1 by omega), zup_eq]
    rw [zget_congr (me := me1) (fun a h1 h2 => zset_ne _ _ _ (by omega))]
    simp only [List.length_take, List.length_cons] at hj
    rw [List.getElem?_take_of_lt (by omega)]
    cases j with
    | zero =>
      rw [List.getElem?_cons_zero]
      rw [show ((me h 2 + 1) % 5 + 4 - ((0 : Nat) : Int)) % 5 = me h 2 by omega, hg1]
    | succ j =>
      rw [List.getElem?_cons_succ, hR5 j (by omega)]
      rw [show ((me h 2 + 1) % 5 + 4 - ((j + 1 : Nat) : Int)) % 5 = (me h 2 + 4 - (j : Int)) % 5 by omega]
      rw [zget_congr (me := me) (me' := me1) (fun a h1 h2 => hf1 a (by omega))]
end ZFIGS

