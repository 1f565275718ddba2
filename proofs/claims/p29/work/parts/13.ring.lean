section ZRING
def zr4 (me : zMe) (r : Nat) (j3 j4 W F : Int → Int) : zMe := zset (zset (zset (zset me (r + 3) j3) (r + 4) j4) (r + 1) W) (r + 2) F
theorem zr4_1 (me : zMe) (r : Nat) (j3 j4 W F : Int → Int) : zr4 me r j3 j4 W F (r + 1) = W := by
  unfold zr4; rw [zset_ne _ _ _ (by omega), zset_eq]
theorem zr4_2 (me : zMe) (r : Nat) (j3 j4 W F : Int → Int) : zr4 me r j3 j4 W F (r + 2) = F := by
  unfold zr4; rw [zset_eq]
theorem zr4_3 (me : zMe) (r : Nat) (j3 j4 W F : Int → Int) : zr4 me r j3 j4 W F (r + 3) = j3 := by
  unfold zr4; rw [zset_ne _ _ _ (by omega), zset_ne _ _ _ (by omega), zset_ne _ _ _ (by omega), zset_eq]
theorem zr4_4 (me : zMe) (r : Nat) (j3 j4 W F : Int → Int) : zr4 me r j3 j4 W F (r + 4) = j4 := by
  unfold zr4; rw [zset_ne _ _ _ (by omega), zset_ne _ _ _ (by omega), zset_eq]
theorem zr4_o (me : zMe) (r : Nat) (j3 j4 W F : Int → Int) (a : Nat) (h : a < r + 1 ∨ r + 4 < a) : zr4 me r j3 j4 W F a = me a := by
  unfold zr4; rw [zset_ne _ _ _ (by omega), zset_ne _ _ _ (by omega), zset_ne _ _ _ (by omega), zset_ne _ _ _ (by omega)]
theorem zr4_ext {me me' : zMe} {r : Nat} (h : ∀ a, (a < r + 1 ∨ r + 4 < a) → me' a = me a) : me' = zr4 me r (me' (r + 3)) (me' (r + 4)) (me' (r + 1)) (me' (r + 2)) := by
  funext a
  by_cases h1 : a = r + 1
  · rw [h1, zr4_1]
  by_cases h2 : a = r + 2
  · rw [h2, zr4_2]
  by_cases h3 : a = r + 3
  · rw [h3, zr4_3]
  by_cases h4 : a = r + 4
  · rw [h4, zr4_4]
  rw [zr4_o _ _ _ _ _ _ _ (by omega), h a (by omega)]
theorem zr4_zr4 (me : zMe) (r : Nat) (j3 j4 W F k3 k4 W' F' : Int → Int) : zr4 (zr4 me r j3 j4 W F) r k3 k4 W' F' = zr4 me r k3 k4 W' F' := by
  funext a
  by_cases h1 : a = r + 1
  · rw [h1, zr4_1, zr4_1]
  by_cases h2 : a = r + 2
  · rw [h2, zr4_2, zr4_2]
  by_cases h3 : a = r + 3
  · rw [h3, zr4_3, zr4_3]
  by_cases h4 : a = r + 4
  · rw [h4, zr4_4, zr4_4]
  rw [zr4_o _ _ _ _ _ _ _ (by omega), zr4_o _ _ _ _ _ _ _ (by omega), zr4_o _ _ _ _ _ _ _ (by omega)]
theorem zr4_set (me : zMe) (r : Nat) (W F : Int → Int) : zset (zset me (r + 1) W) (r + 2) F = zr4 me r (me (r + 3)) (me (r + 4)) W F := by
  unfold zr4
  rw [zset_self, zset_self]
/-- two change places in a row -/
def zex (g : Int → Int) (p o : Int) : Int → Int := zup (zup g p (g o)) o (g p)
/-- the step with a code: from where who comes to a place, and by how many quarters -/
def zg (c q : Int) : Int :=
  if c / 100 = 0 then (if q = c / 10 % 10 then c % 10 else if q = c % 10 then c / 10 % 10 else q)
  else if c / 100 = 1 then q
  else if c / 100 = 2 then (q - c / 10 % 10 + 10) % 10
  else (if c / 10 % 10 ≤ q ∧ q ≤ c % 10 then c / 10 % 10 + c % 10 - q else q)
def zt (c q : Int) : Int :=
  if c / 100 = 1 then (if q = c / 10 % 10 then c % 10 else 0)
  else if c / 100 = 3 then (if c / 10 % 10 ≤ q ∧ q ≤ c % 10 then 2 else 0)
  else 0
def zvs (c : Int) : Prop := 0 ≤ c ∧ ((c / 100 = 0 ∧ c / 10 % 10 < c % 10) ∨ (c / 100 = 1 ∧ 1 ≤ c % 10 ∧ c % 10 ≤ 3) ∨ (c / 100 = 2 ∧ 1 ≤ c / 10 % 10 ∧ c % 10 = 0) ∨ (c / 100 = 3 ∧ c / 10 % 10 < c % 10))
/-- who stands where, with which face -/
def zgR (w f : Int → Int) : Prop := (∀ p, 0 ≤ p → p < 10 → 0 ≤ w p ∧ w p < 10 ∧ 0 ≤ f p ∧ f p < 4) ∧ (∀ p q, 0 ≤ p → p < 10 → 0 ≤ q → q < 10 → w p = w q → p = q) ∧ (∀ p, ¬ (0 ≤ p ∧ p < 10) → w p = 0 ∧ f p = 0)
/-- what an effect (g, t) makes of them -/
def zaw (w g : Int → Int) : Int → Int := zcut 10 (fun q => w (g q))
def zaf (f g t : Int → Int) : Int → Int := zcut 10 (fun q => (f (g q) + t q) % 4)
set_option maxRecDepth 100000 in
set_option maxHeartbeats 1000000 in
theorem c_placeOf {d : Nat} {sp : zSP} {me : zMe} {Q : zQ} {r : Nat} {i p : Int} (hr : zRing sp r) (h0 : 0 ≤ p) (h1 : p < 10) (hp : me (r + 1) p = i) (hlt : ∀ q, 0 ≤ q → q < p → me (r + 1) q ≠ i) (hQ : Q (some (zI p)) sp me) : zCall mX4_placeOf d 0 0 [zR r, zI i] sp me Q := by
  refine z_met kX4_placeOf (by simp) (by simp) ?_
  show zW mX4_placeOf d 0 0 Q 0 [zR r, zI i, zU] [] sp me
  refine z_iconst (pc' := 1) dX4_placeOf_0 rfl (by unfold zin; decide) ?_
  refine z_S2I (pc' := 2) rfl dX4_placeOf_1 rfl ?_
  suffices H : ∀ (n : Nat) (k : Int), 0 ≤ k → k ≤ p → p - k < n → zW mX4_placeOf d 0 0 Q 2 [zR r, zI i, zI k] [] sp (me) by
    refine zW_to (H ((p - 0 + 1 : Int).toNat) (0) (by omega) (by omega) (by omega) ) rfl rfl ?_
    rfl
  intro n
  induction n with
  | zero => intro k hk0 hk1 hk2; omega
  | succ n ih =>
  intro k hk0 hk1 hk2
  refine z_L2I (pc' := 3) dX4_placeOf_2 rfl ?_
  refine z_bipush (pc' := 5) dX4_placeOf_3 rfl (by decide) ?_
  refine z_icmp_ge (tgt := 26) (pc' := 8) dX4_placeOf_5 (by decide) rfl (fun h5 => absurd h5 (by omega)) (fun h5 => ?_)
  refine z_L0R (pc' := 9) dX4_placeOf_8 rfl ?_
  refine z_getR (pc' := 12) (ki := 0) 0 fX4_9.l rfl rfl dX4_placeOf_9 rfl hr.s hr.p0 ?_
  refine z_L2I (pc' := 13) dX4_placeOf_12 rfl ?_
  refine z_ild (pc' := 14) dX4_placeOf_13 rfl (by first | exact hr.a1 | exact hr.a2 | exact hr.a3 | exact hr.a4) (by omega) (by omega) ?_
  refine z_L1I (pc' := 15) dX4_placeOf_14 rfl ?_
  refine z_icmp_ne (tgt := 20) (pc' := 18) dX4_placeOf_15 (by decide) rfl (fun h15 => ?_) (fun h15 => ?_)
  · have e1 : k ≠ p := fun e => h15 (by rw [e]; exact hp)
    refine z_inc2 (pc' := 23) rfl dX4_placeOf_20 rfl (by unfold zin; omega) ?_
    refine z_goto (tgt := 2) dX4_placeOf_23 (by decide) ?_
    refine zW_to (ih (k + 1) (by omega) (by omega) (by omega) ) rfl rfl ?_
    rfl
  · have e1 : k = p := by
      by_cases h : k < p
      · exact absurd h15 (hlt k hk0 h)
      · omega
    subst e1
    refine z_L2I (pc' := 19) dX4_placeOf_18 rfl ?_
    refine z_ireturn rfl rfl dX4_placeOf_19 ?_
    exact hQ
set_option maxRecDepth 100000 in
set_option maxHeartbeats 1000000 in
theorem c_exchange {d : Nat} {sp : zSP} {me : zMe} {Q : zQ} {r : Nat} {p o : Int} (hd : 1 ≤ d) (hr : zRing sp r) (hp0 : 0 ≤ p) (hp1 : p < 10) (ho0 : 0 ≤ o) (ho1 : o < 10) (hQ : Q none sp (zset (zset me (r + 1) (zex (me (r + 1)) p o)) (r + 2) (zex (me (r + 2)) p o))) : zCall mX4_exchange d 0 0 [zR r, zI p, zI o] sp me Q := by
  refine z_met kX4_exchange (by simp) (by simp) ?_
  show zW mX4_exchange d 0 0 Q 0 [zR r, zI p, zI o, zU, zU] [] sp me
  refine z_L0R (pc' := 1) dX4_exchange_0 rfl ?_
  refine z_getR (pc' := 4) (ki := 0) 0 fX4_9.l rfl rfl dX4_exchange_1 rfl hr.s hr.p0 ?_
  refine z_L1I (pc' := 5) dX4_exchange_4 rfl ?_
  refine z_S2v (pc' := 8) kX8_read lX4_31 dX4_exchange_5 rfl (by omega) (Nat.le_of_ble_eq_true rfl) ?_
  refine c_read hr.a1 (zKv_i ?_)
  refine z_S3I (pc' := 9) rfl dX4_exchange_8 rfl ?_
  refine z_L0R (pc' := 10) dX4_exchange_9 rfl ?_
  refine z_getR (pc' := 13) (ki := 1) 1 fX4_15.l rfl rfl dX4_exchange_10 rfl hr.s hr.p1 ?_
  refine z_L1I (pc' := 14) dX4_exchange_13 rfl ?_
  refine z_S2v (pc' := 17) kX8_read lX4_31 dX4_exchange_14 rfl (by omega) (Nat.le_of_ble_eq_true rfl) ?_
  refine c_read hr.a2 (zKv_i ?_)
  refine z_S4I (pc' := 19) rfl dX4_exchange_17 rfl ?_
  refine z_L0R (pc' := 20) dX4_exchange_19 rfl ?_
  refine z_getR (pc' := 23) (ki := 0) 0 fX4_9.l rfl rfl dX4_exchange_20 rfl hr.s hr.p0 ?_
  refine z_L1I (pc' := 24) dX4_exchange_23 rfl ?_
  refine z_L0R (pc' := 25) dX4_exchange_24 rfl ?_
  refine z_getR (pc' := 28) (ki := 0) 0 fX4_9.l rfl rfl dX4_exchange_25 rfl hr.s hr.p0 ?_
  refine z_L2I (pc' := 29) dX4_exchange_28 rfl ?_
  refine z_S2v (pc' := 32) kX8_read lX4_31 dX4_exchange_29 rfl (by omega) (Nat.le_of_ble_eq_true rfl) ?_
  refine c_read hr.a1 (zKv_i ?_)
  refine z_S30 (pc' := 35) kX8_write lX4_59 dX4_exchange_32 rfl (by omega) (Nat.le_of_ble_eq_true rfl) ?_
  refine c_write hr.a1 (by omega) (by omega) (zK0_i ?_)
  refine z_L0R (pc' := 36) dX4_exchange_35 rfl ?_
  refine z_getR (pc' := 39) (ki := 1) 1 fX4_15.l rfl rfl dX4_exchange_36 rfl hr.s hr.p1 ?_
  refine z_L1I (pc' := 40) dX4_exchange_39 rfl ?_
  refine z_L0R (pc' := 41) dX4_exchange_40 rfl ?_
  refine z_getR (pc' := 44) (ki := 1) 1 fX4_15.l rfl rfl dX4_exchange_41 rfl hr.s hr.p1 ?_
  refine z_L2I (pc' := 45) dX4_exchange_44 rfl ?_
  refine z_S2v (pc' := 48) kX8_read lX4_31 dX4_exchange_45 rfl (by omega) (Nat.le_of_ble_eq_true rfl) ?_
  refine c_read hr.a2 (zKv_i ?_)
  refine z_S30 (pc' := 51) kX8_write lX4_59 dX4_exchange_48 rfl (by omega) (Nat.le_of_ble_eq_true rfl) ?_
  refine c_write hr.a2 (by omega) (by omega) (zK0_i ?_)
  refine z_L0R (pc' := 52) dX4_exchange_51 rfl ?_
  refine z_getR (pc' := 55) (ki := 0) 0 fX4_9.l rfl rfl dX4_exchange_52 rfl hr.s hr.p0 ?_
  refine z_L2I (pc' := 56) dX4_exchange_55 rfl ?_
  refine z_L3I (pc' := 57) dX4_exchange_56 rfl ?_
  refine z_S30 (pc' := 60) kX8_write lX4_59 dX4_exchange_57 rfl (by omega) (Nat.le_of_ble_eq_true rfl) ?_
  refine c_write hr.a1 (by omega) (by omega) (zK0_i ?_)
  refine z_L0R (pc' := 61) dX4_exchange_60 rfl ?_
  refine z_getR (pc' := 64) (ki := 1) 1 fX4_15.l rfl rfl dX4_exchange_61 rfl hr.s hr.p1 ?_
  refine z_L2I (pc' := 65) dX4_exchange_64 rfl ?_
  refine z_L4I (pc' := 67) dX4_exchange_65 rfl ?_
  refine z_S30 (pc' := 70) kX8_write lX4_59 dX4_exchange_67 rfl (by omega) (Nat.le_of_ble_eq_true rfl) ?_
  refine c_write hr.a2 (by omega) (by omega) (zK0_i ?_)
  simp (disch := first | omega | rfl) only [zset_eq, zset_ne, zset_11, zset_21, zset_31, zset_41, zfil_up, zup_eq, zup_ne]
  refine z_return rfl rfl dX4_exchange_70 ?_
  exact hQ
set_option maxRecDepth 100000 in
set_option maxHeartbeats 1000000 in
theorem c_turn {d : Nat} {sp : zSP} {me : zMe} {Q : zQ} {r : Nat} {p x : Int} (hd : 1 ≤ d) (hr : zRing sp r) (hp0 : 0 ≤ p) (hp1 : p < 10) (hf0 : 0 ≤ me (r + 2) p) (hf1 : me (r + 2) p < 4) (hx0 : 0 ≤ x) (hx1 : x < 10) (hQ : Q none sp (zset me (r + 2) (zup (me (r + 2)) p ((me (r + 2) p + x) % 4)))) : zCall mX4_turn d 0 0 [zR r, zI p, zI x] sp me Q := by
  refine z_met kX4_turn (by simp) (by simp) ?_
  show zW mX4_turn d 0 0 Q 0 [zR r, zI p, zI x] [] sp me
  refine z_L0R (pc' := 1) dX4_turn_0 rfl ?_
  refine z_getR (pc' := 4) (ki := 1) 1 fX4_15.l rfl rfl dX4_turn_1 rfl hr.s hr.p1 ?_
  refine z_L1I (pc' := 5) dX4_turn_4 rfl ?_
  refine z_L0R (pc' := 6) dX4_turn_5 rfl ?_
  refine z_getR (pc' := 9) (ki := 1) 1 fX4_15.l rfl rfl dX4_turn_6 rfl hr.s hr.p1 ?_
  refine z_L1I (pc' := 10) dX4_turn_9 rfl ?_
  refine z_S2v (pc' := 13) kX8_read lX4_31 dX4_turn_10 rfl (by omega) (Nat.le_of_ble_eq_true rfl) ?_
  refine c_read hr.a2 (zKv_i ?_)
  refine z_L2I (pc' := 14) dX4_turn_13 rfl ?_
  refine z_iadd (pc' := 15) dX4_turn_14 rfl (by unfold zin; omega) ?_
  refine z_iconst (pc' := 16) dX4_turn_15 rfl (by unfold zin; decide) ?_
  refine z_irem (pc' := 17) dX4_turn_16 rfl (by omega) (by omega) ?_
  refine z_S30 (pc' := 20) kX8_write lX4_59 dX4_turn_17 rfl (by omega) (Nat.le_of_ble_eq_true rfl) ?_
  refine c_write hr.a2 (by omega) (by omega) (zK0_i ?_)
  refine z_return rfl rfl dX4_turn_20 ?_
  exact hQ
set_option maxRecDepth 100000 in
set_option maxHeartbeats 1000000 in
theorem c_shift {d : Nat} {sp : zSP} {me : zMe} {Q : zQ} {r : Nat} {b : Int} (hd : 3 ≤ d) (hr : zRing sp r) (hb0 : 0 ≤ b) (hb1 : b < 10) (hQ : ∀ j3 j4, Q none sp (zr4 me r j3 j4 (zcut 10 (fun t => me (r + 1) ((t - b + 10) % 10))) (zcut 10 (fun t => me (r + 2) ((t - b + 10) % 10))))) : zCall mX4_shift d 0 0 [zR r, zI b] sp me Q := by
  refine z_met kX4_shift (by simp) (by simp) ?_
  show zW mX4_shift d 0 0 Q 0 [zR r, zI b, zU, zU] [] sp me
  refine z_wf (fun hwf => ?_)
  refine z_L0R (pc' := 1) dX4_shift_0 rfl ?_
  refine z_V00 (pc' := 4) (ci := 4) kX4_remember lX4_63 dX4_shift_1 rfl (by omega) (Nat.le_of_ble_eq_true rfl) (by decide) rfl hr.s ?_
  refine c_remember (by omega) hr (zK0_i ?_)
  refine z_iconst (pc' := 5) dX4_shift_4 rfl (by unfold zin; decide) ?_
  refine z_S2I (pc' := 6) rfl dX4_shift_5 rfl ?_
  suffices H : ∀ (n : Nat) (k : Int) (v : zV) (W F : Int → Int), 0 ≤ k → k ≤ 10 → 10 - k < n → zndv v = true → (∀ t, 0 ≤ t → t < 10 → (t - b + 10) % 10 < k → W t = me (r + 1) ((t - b + 10) % 10) ∧ F t = me (r + 2) ((t - b + 10) % 10)) → (∀ t, ¬ (0 ≤ t ∧ t < 10) → W t = 0 ∧ F t = 0) → zW mX4_shift d 0 0 Q 6 [zR r, zI b, zI k, v] [] sp (zr4 me r (me (r + 1)) (me (r + 2)) W F) by
    refine zW_to (H 11 0 zU (me (r + 1)) (me (r + 2)) (by omega) (by omega) (by omega) rfl (fun t h0 h1 h2 => ?_) (fun t h => ⟨zwf_out hwf hr.a1 h, zwf_out hwf hr.a2 h⟩)) rfl rfl ?_
    · omega
    · unfold zr4
      rw [zset_id _ (r + 2) _ (by simp (disch := first | omega | rfl) only [zset_eq, zset_ne, zset_11, zset_21, zset_31, zset_41, zfil_up, zup_eq, zup_ne]), zset_id _ (r + 1) _ (by simp (disch := first | omega | rfl) only [zset_eq, zset_ne, zset_11, zset_21, zset_31, zset_41, zfil_up, zup_eq, zup_ne])]
  intro n
  induction n with
  | zero => intro k v W F hk0 hk1 hk2; omega
  | succ n ih =>
  intro k v W F hk0 hk1 hk2 hv hWF hout
  refine z_L2I (pc' := 7) dX4_shift_6 rfl ?_
  refine z_bipush (pc' := 9) dX4_shift_7 rfl (by decide) ?_
  refine z_icmp_ge (tgt := 53) (pc' := 12) dX4_shift_9 (by decide) rfl (fun h9 => ?_) (fun h9 => ?_)
  · obtain rfl : k = 10 := by omega
    have eW : W = zcut 10 (fun t => me (r + 1) ((t - b + 10) % 10)) := by
      funext t
      by_cases h : 0 ≤ t ∧ t < 10
      · rw [zcut_in _ _ _ h.1 h.2]; exact (hWF t h.1 h.2 (by omega)).1
      · rw [zcut_out _ _ _ h]; exact (hout t h).1
    have eF : F = zcut 10 (fun t => me (r + 2) ((t - b + 10) % 10)) := by
      funext t
      by_cases h : 0 ≤ t ∧ t < 10
      · rw [zcut_in _ _ _ h.1 h.2]; exact (hWF t h.1 h.2 (by omega)).2
      · rw [zcut_out _ _ _ h]; exact (hout t h).2
    rw [eW, eF]
    refine z_return rfl rfl dX4_shift_53 ?_
    exact hQ _ _
  · refine z_L2I (pc' := 13) dX4_shift_12 rfl ?_
    refine z_L1I (pc' := 14) dX4_shift_13 rfl ?_
    refine z_iadd (pc' := 15) dX4_shift_14 rfl (by unfold zin; omega) ?_
    refine z_bipush (pc' := 17) dX4_shift_15 rfl (by decide) ?_
    refine z_irem (pc' := 18) dX4_shift_17 rfl (by omega) (by omega) ?_
    refine z_S3I (pc' := 19) rfl dX4_shift_18 rfl ?_
    refine z_L0R (pc' := 20) dX4_shift_19 rfl ?_
    refine z_getR (pc' := 23) (ki := 0) 0 fX4_9.l rfl rfl dX4_shift_20 rfl hr.s hr.p0 ?_
    refine z_L3I (pc' := 24) dX4_shift_23 rfl ?_
    refine z_L0R (pc' := 25) dX4_shift_24 rfl ?_
    refine z_getR (pc' := 28) (ki := 2) 2 fX4_18.l rfl rfl dX4_shift_25 rfl hr.s hr.p2 ?_
    refine z_L2I (pc' := 29) dX4_shift_28 rfl ?_
    refine z_ild (pc' := 30) dX4_shift_29 rfl (by first | exact hr.a1 | exact hr.a2 | exact hr.a3 | exact hr.a4) (by omega) (by omega) ?_
    refine z_S30 (pc' := 33) kX8_write lX4_59 dX4_shift_30 rfl (by omega) (Nat.le_of_ble_eq_true rfl) ?_
    refine c_write hr.a1 (by omega) (by omega) (zK0_i ?_)
    simp only [zr4_1, zr4_2, zr4_3, zr4_4]
    refine z_L0R (pc' := 34) dX4_shift_33 rfl ?_
    refine z_getR (pc' := 37) (ki := 1) 1 fX4_15.l rfl rfl dX4_shift_34 rfl hr.s hr.p1 ?_
    refine z_L3I (pc' := 38) dX4_shift_37 rfl ?_
    refine z_L0R (pc' := 39) dX4_shift_38 rfl ?_
    refine z_getR (pc' := 42) (ki := 3) 3 fX4_21.l rfl rfl dX4_shift_39 rfl hr.s hr.p3 ?_
    refine z_L2I (pc' := 43) dX4_shift_42 rfl ?_
    refine z_ild (pc' := 44) dX4_shift_43 rfl (by first | exact hr.a1 | exact hr.a2 | exact hr.a3 | exact hr.a4) (by omega) (by omega) ?_
    refine z_S30 (pc' := 47) kX8_write lX4_59 dX4_shift_44 rfl (by omega) (Nat.le_of_ble_eq_true rfl) ?_
    refine c_write hr.a2 (by omega) (by omega) (zK0_i ?_)
    refine z_inc2 (pc' := 50) rfl dX4_shift_47 rfl (by unfold zin; omega) ?_
    refine z_goto (tgt := 6) dX4_shift_50 (by decide) ?_
    refine zW_to (ih (k + 1) (zI ((k + b) % 10)) (zup W ((k + b) % 10) (me (r + 1) k)) (zup F ((k + b) % 10) (me (r + 2) k)) (by omega) (by omega) (by omega) rfl (fun t h0 h1 h2 => ?_) (fun t h => ?_)) rfl rfl ?_
    · by_cases e : t = (k + b) % 10
      · have e2 : (t - b + 10) % 10 = k := by omega
        rw [e2, e, zup_eq, zup_eq]
        exact ⟨rfl, rfl⟩
      · rw [zup_ne _ _ _ e, zup_ne _ _ _ e]
        exact hWF t h0 h1 (by omega)
    · rw [zup_ne _ _ _ (by omega), zup_ne _ _ _ (by omega)]
      exact hout t h
    · unfold zr4
      simp (disch := first | omega | rfl) only [zset_eq, zset_ne, zset_11, zset_21, zset_31, zset_41, zfil_up, zup_eq, zup_ne]
end ZRING

