section ZRING3
/-- all at home -/
def zhm (w f : Int → Int) : Prop := ∀ p, 0 ≤ p → p < 10 → w p = p ∧ f p = 0
def zdist (p q : Int) : Int := if 10 - (if 0 ≤ p - q then p - q else -(p - q)) < (if 0 ≤ p - q then p - q else -(p - q)) then 10 - (if 0 ≤ p - q then p - q else -(p - q)) else (if 0 ≤ p - q then p - q else -(p - q))
theorem zdist_in {p q : Int} (h0 : 0 ≤ p) (h1 : p < 10) (h2 : 0 ≤ q) (h3 : q < 10) : 0 ≤ zdist p q ∧ zdist p q ≤ 5 := by
  unfold zdist
  refine ⟨?_, ?_⟩ <;> (repeat' split) <;> omega
theorem zhm_cnt {w f : Int → Int} : zSm (fun p => if w p = p ∧ f p = 0 then 1 else 0) 10 = 10 ↔ zhm w f := by
  have key : ∀ n : Nat, zSm (fun p => if w p = p ∧ f p = 0 then 1 else 0) (n : Int) ≤ n ∧ (zSm (fun p => if w p = p ∧ f p = 0 then 1 else 0) (n : Int) = n ↔ ∀ p, 0 ≤ p → p < (n : Int) → w p = p ∧ f p = 0) := by
    intro n
    induction n with
    | zero => exact ⟨Int.le_refl _, fun _ p h0 h1 => by omega, fun _ => rfl⟩
    | succ n ih =>
      have h1 : zSm (fun p => if w p = p ∧ f p = 0 then 1 else 0) ((n : Int) + 1) = zSm (fun p => if w p = p ∧ f p = 0 then 1 else 0) (n : Int) + (if w (n : Int) = (n : Int) ∧ f (n : Int) = 0 then 1 else 0) := zSm_up _ _ (by omega)
      have e : ((n + 1 : Nat) : Int) = (n : Int) + 1 := by omega
      rw [e, h1]
      by_cases h : w (n : Int) = (n : Int) ∧ f (n : Int) = 0
      · rw [if_pos h]
        refine ⟨by omega, fun h2 p h3 h4 => ?_, fun h2 => ?_⟩
        · by_cases e2 : p = (n : Int)
          · rw [e2]; exact h
          · exact ih.2.mp (by omega) p h3 (by omega)
        · rw [ih.2.mpr (fun p h3 h4 => h2 p h3 (by omega))]
      · rw [if_neg h]
        refine ⟨by omega, fun h2 => by omega, fun h2 => absurd (h2 (n : Int) (by omega) (by omega)) h⟩
  exact (key 10).2
set_option maxRecDepth 100000 in
set_option maxHeartbeats 1000000 in
theorem c_follow {d : Nat} {sp : zSP} {me : zMe} {Q : zQ} {r e : Nat} (hd : 4 ≤ d) (hr : zRing sp r) (he : zRing sp e) (hne : r + 4 < e ∨ e + 4 < r) (hg : zgR (me (r + 1)) (me (r + 2))) (hge : zgR (me (e + 1)) (me (e + 2))) (hQ : ∀ j3 j4, Q none sp (zr4 me r j3 j4 (zaw (me (r + 1)) (me (e + 1))) (zaf (me (r + 2)) (me (e + 1)) (me (e + 2))))) : zCall mX4_follow d 0 0 [zR r, zR e] sp me Q := by
  refine z_met kX4_follow (by simp) (by simp) ?_
  show zW mX4_follow d 0 0 Q 0 [zR r, zR e, zU, zU] [] sp me
  refine z_wf (fun hwf => ?_)
  refine z_L0R (pc' := 1) dX4_follow_0 rfl ?_
  refine z_V00 (pc' := 4) (ci := 4) kX4_remember lX4_63 dX4_follow_1 rfl (by omega) (Nat.le_of_ble_eq_true rfl) (by decide) rfl (by first | exact hr.s | exact he.s) ?_
  refine c_remember (by omega) hr (zK0_i ?_)
  refine z_iconst (pc' := 5) dX4_follow_4 rfl (by unfold zin; decide) ?_
  refine z_S2I (pc' := 6) rfl dX4_follow_5 rfl ?_
  suffices H : ∀ (n : Nat) (k : Int) (v : zV), 0 ≤ k → k ≤ 10 → 10 - k < n → zndv v = true → zW mX4_follow d 0 0 Q 6 [zR r, zR e, zI k, v] [] sp (zr4 me r (me (r + 1)) (me (r + 2)) (zfil (me (r + 1)) (fun q => me (r + 1) (me (e + 1) q)) k) (zfil (me (r + 2)) (fun q => (me (r + 2) (me (e + 1) q) + me (e + 2) q) % 4) k)) by
    refine zW_to (H 11 0 zU (by omega) (by omega) (by omega) rfl) rfl rfl ?_
    unfold zr4
    rw [zfil_0, zfil_0, zset_id _ (r + 2) _ (by simp (disch := first | omega | rfl) only [zset_eq, zset_ne, zset_11, zset_21, zset_31, zset_41, zfil_up, zup_eq, zup_ne]), zset_id _ (r + 1) _ (by simp (disch := first | omega | rfl) only [zset_eq, zset_ne, zset_11, zset_21, zset_31, zset_41, zfil_up, zup_eq, zup_ne])]
  intro n
  induction n with
  | zero => intro k v hk0 hk1 hk2; omega
  | succ n ih =>
  intro k v hk0 hk1 hk2 hv
  refine z_L2I (pc' := 7) dX4_follow_6 rfl ?_
  refine z_bipush (pc' := 9) dX4_follow_7 rfl (by decide) ?_
  have ge := hge.1 k
  have eq1 : zr4 me r (me (r + 1)) (me (r + 2)) (zfil (me (r + 1)) (fun q => me (r + 1) (me (e + 1) q)) k) (zfil (me (r + 2)) (fun q => (me (r + 2) (me (e + 1) q) + me (e + 2) q) % 4) k) (e + 1) = me (e + 1) := zr4_o _ _ _ _ _ _ _ (by omega)
  have eq2 : zr4 me r (me (r + 1)) (me (r + 2)) (zfil (me (r + 1)) (fun q => me (r + 1) (me (e + 1) q)) k) (zfil (me (r + 2)) (fun q => (me (r + 2) (me (e + 1) q) + me (e + 2) q) % 4) k) (e + 2) = me (e + 2) := zr4_o _ _ _ _ _ _ _ (by omega)
  refine z_icmp_ge (tgt := 62) (pc' := 12) dX4_follow_9 (by decide) rfl (fun h9 => ?_) (fun h9 => ?_)
  · obtain rfl : k = 10 := by omega
    rw [zfil_cut (m := 10) _ hwf hr.a1 rfl, zfil_cut (m := 10) _ hwf hr.a2 rfl]
    refine z_return rfl rfl dX4_follow_62 ?_
    exact hQ _ _
  · refine z_L1R (pc' := 13) dX4_follow_12 rfl ?_
    refine z_getR (pc' := 16) (ki := 0) 0 fX4_9.l rfl rfl dX4_follow_13 rfl (by first | exact hr.s | exact he.s) (by first | exact hr.p0 | exact he.p0) ?_
    refine z_L2I (pc' := 17) dX4_follow_16 rfl ?_
    refine z_ild (pc' := 18) dX4_follow_17 rfl (by first | exact hr.a1 | exact hr.a2 | exact hr.a3 | exact hr.a4 | exact he.a1 | exact he.a2 | exact he.a3 | exact he.a4) (by omega) (by omega) ?_
    rw [eq1]
    refine z_S3I (pc' := 19) rfl dX4_follow_18 rfl ?_
    refine z_L0R (pc' := 20) dX4_follow_19 rfl ?_
    refine z_getR (pc' := 23) (ki := 0) 0 fX4_9.l rfl rfl dX4_follow_20 rfl (by first | exact hr.s | exact he.s) (by first | exact hr.p0 | exact he.p0) ?_
    refine z_L2I (pc' := 24) dX4_follow_23 rfl ?_
    refine z_L0R (pc' := 25) dX4_follow_24 rfl ?_
    refine z_getR (pc' := 28) (ki := 2) 2 fX4_18.l rfl rfl dX4_follow_25 rfl (by first | exact hr.s | exact he.s) (by first | exact hr.p2 | exact he.p2) ?_
    refine z_L3I (pc' := 29) dX4_follow_28 rfl ?_
    refine z_S2v (pc' := 32) kX8_read lX4_31 dX4_follow_29 rfl (by omega) (Nat.le_of_ble_eq_true rfl) ?_
    refine c_read hr.a3 (zKv_i ?_)
    simp only [zr4_3]
    refine z_ist (pc' := 33) dX4_follow_32 rfl (by first | exact hr.a1 | exact hr.a2 | exact hr.a3 | exact hr.a4 | exact he.a1 | exact he.a2 | exact he.a3 | exact he.a4) (by omega) (by omega) ?_
    refine z_L0R (pc' := 34) dX4_follow_33 rfl ?_
    refine z_getR (pc' := 37) (ki := 1) 1 fX4_15.l rfl rfl dX4_follow_34 rfl (by first | exact hr.s | exact he.s) (by first | exact hr.p1 | exact he.p1) ?_
    refine z_L2I (pc' := 38) dX4_follow_37 rfl ?_
    refine z_L0R (pc' := 39) dX4_follow_38 rfl ?_
    refine z_getR (pc' := 42) (ki := 3) 3 fX4_21.l rfl rfl dX4_follow_39 rfl (by first | exact hr.s | exact he.s) (by first | exact hr.p3 | exact he.p3) ?_
    refine z_L3I (pc' := 43) dX4_follow_42 rfl ?_
    refine z_S2v (pc' := 46) kX8_read lX4_31 dX4_follow_43 rfl (by omega) (Nat.le_of_ble_eq_true rfl) ?_
    have g4 := hg.1 (me (e + 1) k) (by omega) (by omega)
    refine c_read hr.a4 (zKv_i ?_)
    rw [zset_ne _ _ _ (by omega), zr4_4]
    refine z_L1R (pc' := 47) dX4_follow_46 rfl ?_
    refine z_getR (pc' := 50) (ki := 1) 1 fX4_15.l rfl rfl dX4_follow_47 rfl (by first | exact hr.s | exact he.s) (by first | exact hr.p1 | exact he.p1) ?_
    refine z_L2I (pc' := 51) dX4_follow_50 rfl ?_
    refine z_ild (pc' := 52) dX4_follow_51 rfl (by first | exact hr.a1 | exact hr.a2 | exact hr.a3 | exact hr.a4 | exact he.a1 | exact he.a2 | exact he.a3 | exact he.a4) (by omega) (by omega) ?_
    rw [zset_ne _ _ _ (by omega), eq2]
    refine z_iadd (pc' := 53) dX4_follow_52 rfl (by unfold zin; omega) ?_
    refine z_iconst (pc' := 54) dX4_follow_53 rfl (by unfold zin; decide) ?_
    refine z_irem (pc' := 55) dX4_follow_54 rfl (by omega) (by omega) ?_
    refine z_ist (pc' := 56) dX4_follow_55 rfl (by first | exact hr.a1 | exact hr.a2 | exact hr.a3 | exact hr.a4 | exact he.a1 | exact he.a2 | exact he.a3 | exact he.a4) (by omega) (by omega) ?_
    refine z_inc2 (pc' := 59) rfl dX4_follow_56 rfl (by unfold zin; omega) ?_
    refine z_goto (tgt := 6) dX4_follow_59 (by decide) ?_
    refine zW_to (ih (k + 1) (zI (me (e + 1) k)) (by omega) (by omega) (by omega) rfl) rfl rfl ?_
    unfold zr4
    simp (disch := first | omega | rfl) only [zset_eq, zset_ne, zset_11, zset_21, zset_31, zset_41, zfil_up, zup_eq, zup_ne]
set_option maxRecDepth 100000 in
set_option maxHeartbeats 1000000 in
theorem c_isBrought {d : Nat} {sp : zSP} {me : zMe} {Q : zQ} {r e : Nat} (hd : 2 ≤ d) (hr : zRing sp r) (he : zRing sp e) (hg : zgR (me (r + 1)) (me (r + 2))) (hge : zgR (me (e + 1)) (me (e + 2))) (hQ1 : zhm (zaw (me (r + 1)) (me (e + 1))) (zaf (me (r + 2)) (me (e + 1)) (me (e + 2))) → Q (some (zI 1)) sp me) (hQ0 : ¬ zhm (zaw (me (r + 1)) (me (e + 1))) (zaf (me (r + 2)) (me (e + 1)) (me (e + 2))) → Q (some (zI 0)) sp me) : zCall mX4_isBroughtHomeBy d 0 0 [zR r, zR e] sp me Q := by
  refine z_met kX4_isBroughtHomeBy (by simp) (by simp) ?_
  show zW mX4_isBroughtHomeBy d 0 0 Q 0 [zR r, zR e, zU, zU] [] sp me
  refine z_iconst (pc' := 1) dX4_isBroughtHomeBy_0 rfl (by unfold zin; decide) ?_
  refine z_S2I (pc' := 2) rfl dX4_isBroughtHomeBy_1 rfl ?_
  suffices H : ∀ (n : Nat) (k : Int) (v : zV), 0 ≤ k → k ≤ 10 → 10 - k < n → zndv v = true → (∀ p, 0 ≤ p → p < k → me (r + 1) (me (e + 1) p) = p ∧ (me (r + 2) (me (e + 1) p) + me (e + 2) p) % 4 = 0) → zW mX4_isBroughtHomeBy d 0 0 Q 2 [zR r, zR e, zI k, v] [] sp me by
    exact H 11 0 zU (by omega) (by omega) (by omega) rfl (fun p h0 h1 => by omega)
  intro n
  induction n with
  | zero => intro k v hk0 hk1 hk2; omega
  | succ n ih =>
  intro k v hk0 hk1 hk2 hv hall
  refine z_L2I (pc' := 3) dX4_isBroughtHomeBy_2 rfl ?_
  refine z_bipush (pc' := 5) dX4_isBroughtHomeBy_3 rfl (by decide) ?_
  refine z_icmp_ge (tgt := 55) (pc' := 8) dX4_isBroughtHomeBy_5 (by decide) rfl (fun h5 => ?_) (fun h5 => ?_)
  · refine z_iconst (pc' := 56) dX4_isBroughtHomeBy_55 rfl (by unfold zin; decide) ?_
    refine z_zreturn rfl rfl dX4_isBroughtHomeBy_56 (by omega) ?_
    refine hQ1 (fun p h0 h1 => ?_)
    unfold zaw zaf
    rw [zcut_in _ _ _ h0 h1, zcut_in _ _ _ h0 h1]
    exact hall p h0 (by omega)
  · have ge := hge.1 k hk0 (by omega)
    refine z_L1R (pc' := 9) dX4_isBroughtHomeBy_8 rfl ?_
    refine z_getR (pc' := 12) (ki := 0) 0 fX4_9.l rfl rfl dX4_isBroughtHomeBy_9 rfl (by first | exact hr.s | exact he.s) (by first | exact hr.p0 | exact he.p0) ?_
    refine z_L2I (pc' := 13) dX4_isBroughtHomeBy_12 rfl ?_
    refine z_ild (pc' := 14) dX4_isBroughtHomeBy_13 rfl (by first | exact hr.a1 | exact hr.a2 | exact hr.a3 | exact hr.a4 | exact he.a1 | exact he.a2 | exact he.a3 | exact he.a4) (by omega) (by omega) ?_
    refine z_S3I (pc' := 15) rfl dX4_isBroughtHomeBy_14 rfl ?_
    refine z_L0R (pc' := 16) dX4_isBroughtHomeBy_15 rfl ?_
    refine z_getR (pc' := 19) (ki := 0) 0 fX4_9.l rfl rfl dX4_isBroughtHomeBy_16 rfl (by first | exact hr.s | exact he.s) (by first | exact hr.p0 | exact he.p0) ?_
    refine z_L3I (pc' := 20) dX4_isBroughtHomeBy_19 rfl ?_
    refine z_S2v (pc' := 23) kX8_read lX4_31 dX4_isBroughtHomeBy_20 rfl (by omega) (Nat.le_of_ble_eq_true rfl) ?_
    refine c_read hr.a1 (zKv_i ?_)
    refine z_L2I (pc' := 24) dX4_isBroughtHomeBy_23 rfl ?_
    refine z_icmp_ne (tgt := 47) (pc' := 27) dX4_isBroughtHomeBy_24 (by decide) rfl (fun h24 => ?_) (fun h24 => ?_)
    · have hno : ¬ zhm (zaw (me (r + 1)) (me (e + 1))) (zaf (me (r + 2)) (me (e + 1)) (me (e + 2))) := fun z => by
        have z1 := z k hk0 (by omega)
        unfold zaw zaf at z1
        rw [zcut_in _ _ _ hk0 (by omega), zcut_in _ _ _ hk0 (by omega)] at z1
        first | exact h24 z1.1 | exact h44 z1.2
      refine z_iconst (pc' := 48) dX4_isBroughtHomeBy_47 rfl (by unfold zin; decide) ?_
      refine z_zreturn rfl rfl dX4_isBroughtHomeBy_48 (by omega) ?_
      exact hQ0 hno
    · refine z_L0R (pc' := 28) dX4_isBroughtHomeBy_27 rfl ?_
      refine z_getR (pc' := 31) (ki := 1) 1 fX4_15.l rfl rfl dX4_isBroughtHomeBy_28 rfl (by first | exact hr.s | exact he.s) (by first | exact hr.p1 | exact he.p1) ?_
      refine z_L3I (pc' := 32) dX4_isBroughtHomeBy_31 rfl ?_
      refine z_S2v (pc' := 35) kX8_read lX4_31 dX4_isBroughtHomeBy_32 rfl (by omega) (Nat.le_of_ble_eq_true rfl) ?_
      have g4 := hg.1 (me (e + 1) k) (by omega) (by omega)
      refine c_read hr.a2 (zKv_i ?_)
      refine z_L1R (pc' := 36) dX4_isBroughtHomeBy_35 rfl ?_
      refine z_getR (pc' := 39) (ki := 1) 1 fX4_15.l rfl rfl dX4_isBroughtHomeBy_36 rfl (by first | exact hr.s | exact he.s) (by first | exact hr.p1 | exact he.p1) ?_
      refine z_L2I (pc' := 40) dX4_isBroughtHomeBy_39 rfl ?_
      refine z_ild (pc' := 41) dX4_isBroughtHomeBy_40 rfl (by first | exact hr.a1 | exact hr.a2 | exact hr.a3 | exact hr.a4 | exact he.a1 | exact he.a2 | exact he.a3 | exact he.a4) (by omega) (by omega) ?_
      refine z_iadd (pc' := 42) dX4_isBroughtHomeBy_41 rfl (by unfold zin; omega) ?_
      refine z_iconst (pc' := 43) dX4_isBroughtHomeBy_42 rfl (by unfold zin; decide) ?_
      refine z_irem (pc' := 44) dX4_isBroughtHomeBy_43 rfl (by omega) (by omega) ?_
      refine z_if_eq (tgt := 49) (pc' := 47) dX4_isBroughtHomeBy_44 (by decide) rfl (fun h44 => ?_) (fun h44 => ?_)
      · refine z_inc2 (pc' := 52) rfl dX4_isBroughtHomeBy_49 rfl (by unfold zin; omega) ?_
        refine z_goto (tgt := 2) dX4_isBroughtHomeBy_52 (by decide) ?_
        refine ih (k + 1) _ (by omega) (by omega) (by omega) rfl (fun p h0 h1 => ?_)
        by_cases e1 : p = k
        · subst e1; exact ⟨h24, h44⟩
        · exact hall p h0 (by omega)
      · have hno : ¬ zhm (zaw (me (r + 1)) (me (e + 1))) (zaf (me (r + 2)) (me (e + 1)) (me (e + 2))) := fun z => by
          have z1 := z k hk0 (by omega)
          unfold zaw zaf at z1
          rw [zcut_in _ _ _ hk0 (by omega), zcut_in _ _ _ hk0 (by omega)] at z1
          first | exact h24 z1.1 | exact h44 z1.2
        refine z_iconst (pc' := 48) dX4_isBroughtHomeBy_47 rfl (by unfold zin; decide) ?_
        refine z_zreturn rfl rfl dX4_isBroughtHomeBy_48 (by omega) ?_
        exact hQ0 hno
set_option maxRecDepth 100000 in
set_option maxHeartbeats 1000000 in
theorem c_isSame {d : Nat} {sp : zSP} {me : zMe} {Q : zQ} {r e : Nat} (hr : zRing sp r) (he : zRing sp e) (hQ1 : (∀ p, 0 ≤ p → p < 10 → me (r + 1) p = me (e + 1) p ∧ me (r + 2) p = me (e + 2) p) → Q (some (zI 1)) sp me) (hQ0 : ¬ (∀ p, 0 ≤ p → p < 10 → me (r + 1) p = me (e + 1) p ∧ me (r + 2) p = me (e + 2) p) → Q (some (zI 0)) sp me) : zCall mX4_isSameAs d 0 0 [zR r, zR e] sp me Q := by
  refine z_met kX4_isSameAs (by simp) (by simp) ?_
  show zW mX4_isSameAs d 0 0 Q 0 [zR r, zR e, zU] [] sp me
  refine z_iconst (pc' := 1) dX4_isSameAs_0 rfl (by unfold zin; decide) ?_
  refine z_S2I (pc' := 2) rfl dX4_isSameAs_1 rfl ?_
  suffices H : ∀ (n : Nat) (k : Int), 0 ≤ k → k ≤ 10 → 10 - k < n → (∀ p, 0 ≤ p → p < k → me (r + 1) p = me (e + 1) p ∧ me (r + 2) p = me (e + 2) p) → zW mX4_isSameAs d 0 0 Q 2 [zR r, zR e, zI k] [] sp me by
    exact H 11 0 (by omega) (by omega) (by omega) (fun p h0 h1 => by omega)
  intro n
  induction n with
  | zero => intro k hk0 hk1 hk2; omega
  | succ n ih =>
  intro k hk0 hk1 hk2 hall
  refine z_L2I (pc' := 3) dX4_isSameAs_2 rfl ?_
  refine z_bipush (pc' := 5) dX4_isSameAs_3 rfl (by decide) ?_
  refine z_icmp_ge (tgt := 46) (pc' := 8) dX4_isSameAs_5 (by decide) rfl (fun h5 => ?_) (fun h5 => ?_)
  · refine z_iconst (pc' := 47) dX4_isSameAs_46 rfl (by unfold zin; decide) ?_
    refine z_zreturn rfl rfl dX4_isSameAs_47 (by omega) ?_
    exact hQ1 (fun p h0 h1 => hall p h0 (by omega))
  · refine z_L0R (pc' := 9) dX4_isSameAs_8 rfl ?_
    refine z_getR (pc' := 12) (ki := 0) 0 fX4_9.l rfl rfl dX4_isSameAs_9 rfl (by first | exact hr.s | exact he.s) (by first | exact hr.p0 | exact he.p0) ?_
    refine z_L2I (pc' := 13) dX4_isSameAs_12 rfl ?_
    refine z_ild (pc' := 14) dX4_isSameAs_13 rfl (by first | exact hr.a1 | exact hr.a2 | exact hr.a3 | exact hr.a4 | exact he.a1 | exact he.a2 | exact he.a3 | exact he.a4) (by omega) (by omega) ?_
    refine z_L1R (pc' := 15) dX4_isSameAs_14 rfl ?_
    refine z_getR (pc' := 18) (ki := 0) 0 fX4_9.l rfl rfl dX4_isSameAs_15 rfl (by first | exact hr.s | exact he.s) (by first | exact hr.p0 | exact he.p0) ?_
    refine z_L2I (pc' := 19) dX4_isSameAs_18 rfl ?_
    refine z_ild (pc' := 20) dX4_isSameAs_19 rfl (by first | exact hr.a1 | exact hr.a2 | exact hr.a3 | exact hr.a4 | exact he.a1 | exact he.a2 | exact he.a3 | exact he.a4) (by omega) (by omega) ?_
    refine z_icmp_ne (tgt := 38) (pc' := 23) dX4_isSameAs_20 (by decide) rfl (fun h20 => ?_) (fun h20 => ?_)
    · refine z_iconst (pc' := 39) dX4_isSameAs_38 rfl (by unfold zin; decide) ?_
      refine z_zreturn rfl rfl dX4_isSameAs_39 (by omega) ?_
      exact hQ0 (fun z => by first | exact h20 (z k hk0 (by omega)).1 | exact h35 (z k hk0 (by omega)).2)
    · refine z_L0R (pc' := 24) dX4_isSameAs_23 rfl ?_
      refine z_getR (pc' := 27) (ki := 1) 1 fX4_15.l rfl rfl dX4_isSameAs_24 rfl (by first | exact hr.s | exact he.s) (by first | exact hr.p1 | exact he.p1) ?_
      refine z_L2I (pc' := 28) dX4_isSameAs_27 rfl ?_
      refine z_ild (pc' := 29) dX4_isSameAs_28 rfl (by first | exact hr.a1 | exact hr.a2 | exact hr.a3 | exact hr.a4 | exact he.a1 | exact he.a2 | exact he.a3 | exact he.a4) (by omega) (by omega) ?_
      refine z_L1R (pc' := 30) dX4_isSameAs_29 rfl ?_
      refine z_getR (pc' := 33) (ki := 1) 1 fX4_15.l rfl rfl dX4_isSameAs_30 rfl (by first | exact hr.s | exact he.s) (by first | exact hr.p1 | exact he.p1) ?_
      refine z_L2I (pc' := 34) dX4_isSameAs_33 rfl ?_
      refine z_ild (pc' := 35) dX4_isSameAs_34 rfl (by first | exact hr.a1 | exact hr.a2 | exact hr.a3 | exact hr.a4 | exact he.a1 | exact he.a2 | exact he.a3 | exact he.a4) (by omega) (by omega) ?_
      refine z_icmp_eq (tgt := 40) (pc' := 38) dX4_isSameAs_35 (by decide) rfl (fun h35 => ?_) (fun h35 => ?_)
      · refine z_inc2 (pc' := 43) rfl dX4_isSameAs_40 rfl (by unfold zin; omega) ?_
        refine z_goto (tgt := 2) dX4_isSameAs_43 (by decide) ?_
        refine ih (k + 1) (by omega) (by omega) (by omega) (fun p h0 h1 => ?_)
        by_cases e1 : p = k
        · subst e1; exact ⟨h20, h35⟩
        · exact hall p h0 (by omega)
      · refine z_iconst (pc' := 39) dX4_isSameAs_38 rfl (by unfold zin; decide) ?_
        refine z_zreturn rfl rfl dX4_isSameAs_39 (by omega) ?_
        exact hQ0 (fun z => by first | exact h20 (z k hk0 (by omega)).1 | exact h35 (z k hk0 (by omega)).2)
set_option maxRecDepth 100000 in
set_option maxHeartbeats 1000000 in
theorem c_homeCount {d : Nat} {sp : zSP} {me : zMe} {Q : zQ} {r : Nat} (hr : zRing sp r) (hQ : Q (some (zI (zSm (fun p => if me (r + 1) p = p ∧ me (r + 2) p = 0 then 1 else 0) 10))) sp me) : zCall mX4_homeCount d 0 0 [zR r] sp me Q := by
  refine z_met kX4_homeCount (by simp) (by simp) ?_
  show zW mX4_homeCount d 0 0 Q 0 [zR r, zU, zU] [] sp me
  refine z_iconst (pc' := 1) dX4_homeCount_0 rfl (by unfold zin; decide) ?_
  refine z_S1I (pc' := 2) rfl dX4_homeCount_1 rfl ?_
  refine z_iconst (pc' := 3) dX4_homeCount_2 rfl (by unfold zin; decide) ?_
  refine z_S2I (pc' := 4) rfl dX4_homeCount_3 rfl ?_
  suffices H : ∀ (n : Nat) (k : Int), 0 ≤ k → k ≤ 10 → 10 - k < n → zW mX4_homeCount d 0 0 Q 4 [zR r, zI (zSm (fun p => if me (r + 1) p = p ∧ me (r + 2) p = 0 then 1 else 0) k), zI k] [] sp (me) by
    refine zW_to (H ((10 - 0 + 1 : Int).toNat) (0) (by omega) (by omega) (by omega) ) rfl rfl ?_
    rfl
  intro n
  induction n with
  | zero => intro k hk0 hk1 hk2; omega
  | succ n ih =>
  intro k hk0 hk1 hk2
  refine z_L2I (pc' := 5) dX4_homeCount_4 rfl ?_
  refine z_bipush (pc' := 7) dX4_homeCount_5 rfl (by decide) ?_
  refine z_icmp_ge (tgt := 38) (pc' := 10) dX4_homeCount_7 (by decide) rfl (fun h7 => ?_) (fun h7 => ?_)
  · obtain rfl : k = 10 := by omega
    refine z_L1I (pc' := 39) dX4_homeCount_38 rfl ?_
    refine z_ireturn rfl rfl dX4_homeCount_39 ?_
    exact hQ
  · have hbd := zSm_bd (g := fun p => if me (r + 1) p = p ∧ me (r + 2) p = 0 then 1 else 0) (a := 0) (b := 1) (fun p _ => by split <;> omega) k hk0
    refine z_L0R (pc' := 11) dX4_homeCount_10 rfl ?_
    refine z_getR (pc' := 14) (ki := 0) 0 fX4_9.l rfl rfl dX4_homeCount_11 rfl hr.s hr.p0 ?_
    refine z_L2I (pc' := 15) dX4_homeCount_14 rfl ?_
    refine z_ild (pc' := 16) dX4_homeCount_15 rfl (by first | exact hr.a1 | exact hr.a2 | exact hr.a3 | exact hr.a4) (by omega) (by omega) ?_
    refine z_L2I (pc' := 17) dX4_homeCount_16 rfl ?_
    refine z_icmp_ne (tgt := 32) (pc' := 20) dX4_homeCount_17 (by decide) rfl (fun h17 => ?_) (fun h17 => ?_)
    · refine z_inc2 (pc' := 35) rfl dX4_homeCount_32 rfl (by unfold zin; omega) ?_
      refine z_goto (tgt := 4) dX4_homeCount_35 (by decide) ?_
      refine zW_to (ih (k + 1) (by omega) (by omega) (by omega) ) (by rw [zSm_up _ _ hk0]; first | (simp [h17, h26]; done) | (simp [h17]; done)) rfl ?_
      rfl
    · refine z_L0R (pc' := 21) dX4_homeCount_20 rfl ?_
      refine z_getR (pc' := 24) (ki := 1) 1 fX4_15.l rfl rfl dX4_homeCount_21 rfl hr.s hr.p1 ?_
      refine z_L2I (pc' := 25) dX4_homeCount_24 rfl ?_
      refine z_ild (pc' := 26) dX4_homeCount_25 rfl (by first | exact hr.a1 | exact hr.a2 | exact hr.a3 | exact hr.a4) (by omega) (by omega) ?_
      refine z_if_ne (tgt := 32) (pc' := 29) dX4_homeCount_26 (by decide) rfl (fun h26 => ?_) (fun h26 => ?_)
      · refine z_inc2 (pc' := 35) rfl dX4_homeCount_32 rfl (by unfold zin; omega) ?_
        refine z_goto (tgt := 4) dX4_homeCount_35 (by decide) ?_
        refine zW_to (ih (k + 1) (by omega) (by omega) (by omega) ) (by rw [zSm_up _ _ hk0]; first | (simp [h17, h26]; done) | (simp [h17]; done)) rfl ?_
        rfl
      · refine z_inc1 (pc' := 32) rfl dX4_homeCount_29 rfl (by unfold zin; omega) ?_
        refine z_inc2 (pc' := 35) rfl dX4_homeCount_32 rfl (by unfold zin; omega) ?_
        refine z_goto (tgt := 4) dX4_homeCount_35 (by decide) ?_
        refine zW_to (ih (k + 1) (by omega) (by omega) (by omega) ) (by rw [zSm_up _ _ hk0]; first | (simp [h17, h26]; done) | (simp [h17]; done)) rfl ?_
        rfl
set_option maxRecDepth 100000 in
set_option maxHeartbeats 1000000 in
theorem c_isHome {d : Nat} {sp : zSP} {me : zMe} {Q : zQ} {r : Nat} (hd : 1 ≤ d) (hr : zRing sp r) (hQ1 : zhm (me (r + 1)) (me (r + 2)) → Q (some (zI 1)) sp me) (hQ0 : ¬ zhm (me (r + 1)) (me (r + 2)) → Q (some (zI 0)) sp me) : zCall mX4_isHome d 0 0 [zR r] sp me Q := by
  refine z_met kX4_isHome (by simp) (by simp) ?_
  show zW mX4_isHome d 0 0 Q 0 [zR r] [] sp me
  refine z_L0R (pc' := 1) dX4_isHome_0 rfl ?_
  refine z_V0v (pc' := 4) (ci := 4) kX4_homeCount lX4_66 dX4_isHome_1 rfl (by omega) (Nat.le_of_ble_eq_true rfl) (by decide) rfl hr.s ?_
  refine c_homeCount hr (zKv_i ?_)
  refine z_bipush (pc' := 6) dX4_isHome_4 rfl (by decide) ?_
  refine z_icmp_ne (tgt := 13) (pc' := 9) dX4_isHome_6 (by decide) rfl (fun h6 => ?_) (fun h6 => ?_)
  · refine z_iconst (pc' := 14) dX4_isHome_13 rfl (by unfold zin; decide) ?_
    refine z_zreturn rfl rfl dX4_isHome_14 (by omega) ?_
    first | exact hQ1 (zhm_cnt.mp h6) | exact hQ0 (fun z => h6 (zhm_cnt.mpr z))
  · refine z_iconst (pc' := 10) dX4_isHome_9 rfl (by unfold zin; decide) ?_
    refine z_goto (tgt := 14) dX4_isHome_10 (by decide) ?_
    refine z_zreturn rfl rfl dX4_isHome_14 (by omega) ?_
    first | exact hQ1 (zhm_cnt.mp h6) | exact hQ0 (fun z => h6 (zhm_cnt.mpr z))
set_option maxRecDepth 100000 in
set_option maxHeartbeats 1000000 in
theorem c_placedCount {d : Nat} {sp : zSP} {me : zMe} {Q : zQ} {r : Nat} (hr : zRing sp r) (hQ : Q (some (zI (zSm (fun p => if me (r + 1) p = p then 1 else 0) 10))) sp me) : zCall mX4_placedCount d 0 0 [zR r] sp me Q := by
  refine z_met kX4_placedCount (by simp) (by simp) ?_
  show zW mX4_placedCount d 0 0 Q 0 [zR r, zU, zU] [] sp me
  refine z_iconst (pc' := 1) dX4_placedCount_0 rfl (by unfold zin; decide) ?_
  refine z_S1I (pc' := 2) rfl dX4_placedCount_1 rfl ?_
  refine z_iconst (pc' := 3) dX4_placedCount_2 rfl (by unfold zin; decide) ?_
  refine z_S2I (pc' := 4) rfl dX4_placedCount_3 rfl ?_
  suffices H : ∀ (n : Nat) (k : Int), 0 ≤ k → k ≤ 10 → 10 - k < n → zW mX4_placedCount d 0 0 Q 4 [zR r, zI (zSm (fun p => if me (r + 1) p = p then 1 else 0) k), zI k] [] sp (me) by
    refine zW_to (H ((10 - 0 + 1 : Int).toNat) (0) (by omega) (by omega) (by omega) ) rfl rfl ?_
    rfl
  intro n
  induction n with
  | zero => intro k hk0 hk1 hk2; omega
  | succ n ih =>
  intro k hk0 hk1 hk2
  refine z_L2I (pc' := 5) dX4_placedCount_4 rfl ?_
  refine z_bipush (pc' := 7) dX4_placedCount_5 rfl (by decide) ?_
  refine z_icmp_ge (tgt := 29) (pc' := 10) dX4_placedCount_7 (by decide) rfl (fun h7 => ?_) (fun h7 => ?_)
  · obtain rfl : k = 10 := by omega
    refine z_L1I (pc' := 30) dX4_placedCount_29 rfl ?_
    refine z_ireturn rfl rfl dX4_placedCount_30 ?_
    exact hQ
  · have hbd := zSm_bd (g := fun p => if me (r + 1) p = p then 1 else 0) (a := 0) (b := 1) (fun p _ => by split <;> omega) k hk0
    refine z_L0R (pc' := 11) dX4_placedCount_10 rfl ?_
    refine z_getR (pc' := 14) (ki := 0) 0 fX4_9.l rfl rfl dX4_placedCount_11 rfl hr.s hr.p0 ?_
    refine z_L2I (pc' := 15) dX4_placedCount_14 rfl ?_
    refine z_ild (pc' := 16) dX4_placedCount_15 rfl (by first | exact hr.a1 | exact hr.a2 | exact hr.a3 | exact hr.a4) (by omega) (by omega) ?_
    refine z_L2I (pc' := 17) dX4_placedCount_16 rfl ?_
    refine z_icmp_ne (tgt := 23) (pc' := 20) dX4_placedCount_17 (by decide) rfl (fun h17 => ?_) (fun h17 => ?_)
    · refine z_inc2 (pc' := 26) rfl dX4_placedCount_23 rfl (by unfold zin; omega) ?_
      refine z_goto (tgt := 4) dX4_placedCount_26 (by decide) ?_
      refine zW_to (ih (k + 1) (by omega) (by omega) (by omega) ) (by rw [zSm_up _ _ hk0]; simp [h17]) rfl ?_
      rfl
    · refine z_inc1 (pc' := 23) rfl dX4_placedCount_20 rfl (by unfold zin; omega) ?_
      refine z_inc2 (pc' := 26) rfl dX4_placedCount_23 rfl (by unfold zin; omega) ?_
      refine z_goto (tgt := 4) dX4_placedCount_26 (by decide) ?_
      refine zW_to (ih (k + 1) (by omega) (by omega) (by omega) ) (by rw [zSm_up _ _ hk0]; simp [h17]) rfl ?_
      rfl
set_option maxRecDepth 100000 in
set_option maxHeartbeats 1000000 in
theorem c_straightCount {d : Nat} {sp : zSP} {me : zMe} {Q : zQ} {r : Nat} (hr : zRing sp r) (hQ : Q (some (zI (zSm (fun p => if me (r + 2) p = 0 then 1 else 0) 10))) sp me) : zCall mX4_straightCount d 0 0 [zR r] sp me Q := by
  refine z_met kX4_straightCount (by simp) (by simp) ?_
  show zW mX4_straightCount d 0 0 Q 0 [zR r, zU, zU] [] sp me
  refine z_iconst (pc' := 1) dX4_straightCount_0 rfl (by unfold zin; decide) ?_
  refine z_S1I (pc' := 2) rfl dX4_straightCount_1 rfl ?_
  refine z_iconst (pc' := 3) dX4_straightCount_2 rfl (by unfold zin; decide) ?_
  refine z_S2I (pc' := 4) rfl dX4_straightCount_3 rfl ?_
  suffices H : ∀ (n : Nat) (k : Int), 0 ≤ k → k ≤ 10 → 10 - k < n → zW mX4_straightCount d 0 0 Q 4 [zR r, zI (zSm (fun p => if me (r + 2) p = 0 then 1 else 0) k), zI k] [] sp (me) by
    refine zW_to (H ((10 - 0 + 1 : Int).toNat) (0) (by omega) (by omega) (by omega) ) rfl rfl ?_
    rfl
  intro n
  induction n with
  | zero => intro k hk0 hk1 hk2; omega
  | succ n ih =>
  intro k hk0 hk1 hk2
  refine z_L2I (pc' := 5) dX4_straightCount_4 rfl ?_
  refine z_bipush (pc' := 7) dX4_straightCount_5 rfl (by decide) ?_
  refine z_icmp_ge (tgt := 28) (pc' := 10) dX4_straightCount_7 (by decide) rfl (fun h7 => ?_) (fun h7 => ?_)
  · obtain rfl : k = 10 := by omega
    refine z_L1I (pc' := 29) dX4_straightCount_28 rfl ?_
    refine z_ireturn rfl rfl dX4_straightCount_29 ?_
    exact hQ
  · have hbd := zSm_bd (g := fun p => if me (r + 2) p = 0 then 1 else 0) (a := 0) (b := 1) (fun p _ => by split <;> omega) k hk0
    refine z_L0R (pc' := 11) dX4_straightCount_10 rfl ?_
    refine z_getR (pc' := 14) (ki := 1) 1 fX4_15.l rfl rfl dX4_straightCount_11 rfl hr.s hr.p1 ?_
    refine z_L2I (pc' := 15) dX4_straightCount_14 rfl ?_
    refine z_ild (pc' := 16) dX4_straightCount_15 rfl (by first | exact hr.a1 | exact hr.a2 | exact hr.a3 | exact hr.a4) (by omega) (by omega) ?_
    refine z_if_ne (tgt := 22) (pc' := 19) dX4_straightCount_16 (by decide) rfl (fun h16 => ?_) (fun h16 => ?_)
    · refine z_inc2 (pc' := 25) rfl dX4_straightCount_22 rfl (by unfold zin; omega) ?_
      refine z_goto (tgt := 4) dX4_straightCount_25 (by decide) ?_
      refine zW_to (ih (k + 1) (by omega) (by omega) (by omega) ) (by rw [zSm_up _ _ hk0]; simp [h16]) rfl ?_
      rfl
    · refine z_inc1 (pc' := 22) rfl dX4_straightCount_19 rfl (by unfold zin; omega) ?_
      refine z_inc2 (pc' := 25) rfl dX4_straightCount_22 rfl (by unfold zin; omega) ?_
      refine z_goto (tgt := 4) dX4_straightCount_25 (by decide) ?_
      refine zW_to (ih (k + 1) (by omega) (by omega) (by omega) ) (by rw [zSm_up _ _ hk0]; simp [h16]) rfl ?_
      rfl
/-- how many later ones stand ahead -/
def zinv (w : Int → Int) (p l : Int) : Int := zSm (fun j => if p < j ∧ w p > w j then 1 else 0) l
theorem zinv_bd (w : Int → Int) (p l : Int) (h : 0 ≤ l) : 0 ≤ zinv w p l ∧ zinv w p l ≤ l := by
  have := zSm_bd (g := fun j => if p < j ∧ w p > w j then 1 else 0) (a := 0) (b := 1) (fun j _ => by split <;> omega) l h
  unfold zinv
  omega
theorem zinv_0 (w : Int → Int) (p : Int) (h : 0 ≤ p) : zinv w p (p + 1) = 0 := by
  unfold zinv
  rw [zSm_congr (g' := fun _ => 0) _ (fun j h0 h1 => by rw [if_neg (by omega)])]
  have := zSm_bd (g := fun _ => 0) (a := 0) (b := 0) (fun j _ => by omega) (p + 1) (by omega)
  omega
set_option maxRecDepth 100000 in
set_option maxHeartbeats 1000000 in
theorem c_oddness {d : Nat} {sp : zSP} {me : zMe} {Q : zQ} {r : Nat} (hr : zRing sp r) (hQ : Q (some (zI (zSm (fun p => zinv (me (r + 1)) p 10) 10 % 2))) sp me) : zCall mX4_oddness d 0 0 [zR r] sp me Q := by
  refine z_met kX4_oddness (by simp) (by simp) ?_
  show zW mX4_oddness d 0 0 Q 0 [zR r, zU, zU, zU] [] sp me
  refine z_iconst (pc' := 1) dX4_oddness_0 rfl (by unfold zin; decide) ?_
  refine z_S1I (pc' := 2) rfl dX4_oddness_1 rfl ?_
  refine z_iconst (pc' := 3) dX4_oddness_2 rfl (by unfold zin; decide) ?_
  refine z_S2I (pc' := 4) rfl dX4_oddness_3 rfl ?_
  suffices H : ∀ (n : Nat) (k : Int) (v : zV), 0 ≤ k → k ≤ 10 → 10 - k < n → zW mX4_oddness d 0 0 Q 4 [zR r, zI (zSm (fun p => zinv (me (r + 1)) p 10) k), zI k, v] [] sp me by
    exact H 11 0 zU (by omega) (by omega) (by omega)
  intro n
  induction n with
  | zero => intro k v hk0 hk1 hk2; omega
  | succ n ih =>
  intro k v hk0 hk1 hk2
  have hbd := zSm_bd (g := fun p => zinv (me (r + 1)) p 10) (a := 0) (b := 10) (fun p _ => zinv_bd _ _ 10 (by omega)) k hk0
  refine z_L2I (pc' := 5) dX4_oddness_4 rfl ?_
  refine z_bipush (pc' := 7) dX4_oddness_5 rfl (by decide) ?_
  refine z_icmp_ge (tgt := 50) (pc' := 10) dX4_oddness_7 (by decide) rfl (fun h7 => ?_) (fun h7 => ?_)
  · obtain rfl : k = 10 := by omega
    refine z_L1I (pc' := 51) dX4_oddness_50 rfl ?_
    refine z_iconst (pc' := 52) dX4_oddness_51 rfl (by unfold zin; decide) ?_
    refine z_irem (pc' := 53) dX4_oddness_52 rfl (by omega) (by omega) ?_
    refine z_ireturn rfl rfl dX4_oddness_53 ?_
    exact hQ
  · refine z_L2I (pc' := 11) dX4_oddness_10 rfl ?_
    refine z_iconst (pc' := 12) dX4_oddness_11 rfl (by unfold zin; decide) ?_
    refine z_iadd (pc' := 13) dX4_oddness_12 rfl (by unfold zin; omega) ?_
    refine z_S3I (pc' := 14) rfl dX4_oddness_13 rfl ?_
    suffices H : ∀ (n2 : Nat) (l : Int), k + 1 ≤ l → l ≤ 10 → 10 - l < n2 → zW mX4_oddness d 0 0 Q 14 [zR r, zI (zSm (fun p => zinv (me (r + 1)) p 10) k + zinv (me (r + 1)) k l), zI k, zI l] [] sp me by
      have := H 11 (k + 1) (by omega) (by omega) (by omega)
      rw [zinv_0 _ _ hk0, Int.add_zero] at this
      exact this
    intro n2
    induction n2 with
    | zero => intro l hl0 hl1 hl2; omega
    | succ n2 ih2 =>
    intro l hl0 hl1 hl2
    have hbd2 := zinv_bd (me (r + 1)) k l (by omega)
    refine z_L3I (pc' := 15) dX4_oddness_14 rfl ?_
    refine z_bipush (pc' := 17) dX4_oddness_15 rfl (by decide) ?_
    refine z_icmp_ge (tgt := 44) (pc' := 20) dX4_oddness_17 (by decide) rfl (fun h17 => ?_) (fun h17 => ?_)
    · refine z_inc2 (pc' := 47) rfl dX4_oddness_44 rfl (by unfold zin; omega) ?_
      refine z_goto (tgt := 4) dX4_oddness_47 (by decide) ?_
      obtain rfl : l = 10 := by omega
      refine zW_to (ih (k + 1) (zI 10) (by omega) (by omega) (by omega)) (by rw [zSm_up _ _ hk0]) rfl rfl
    · refine z_L0R (pc' := 21) dX4_oddness_20 rfl ?_
      refine z_getR (pc' := 24) (ki := 0) 0 fX4_9.l rfl rfl dX4_oddness_21 rfl hr.s hr.p0 ?_
      refine z_L2I (pc' := 25) dX4_oddness_24 rfl ?_
      refine z_ild (pc' := 26) dX4_oddness_25 rfl (by first | exact hr.a1 | exact hr.a2 | exact hr.a3 | exact hr.a4) (by omega) (by omega) ?_
      refine z_L0R (pc' := 27) dX4_oddness_26 rfl ?_
      refine z_getR (pc' := 30) (ki := 0) 0 fX4_9.l rfl rfl dX4_oddness_27 rfl hr.s hr.p0 ?_
      refine z_L3I (pc' := 31) dX4_oddness_30 rfl ?_
      refine z_ild (pc' := 32) dX4_oddness_31 rfl (by first | exact hr.a1 | exact hr.a2 | exact hr.a3 | exact hr.a4) (by omega) (by omega) ?_
      refine z_icmp_le (tgt := 38) (pc' := 35) dX4_oddness_32 (by decide) rfl (fun h32 => ?_) (fun h32 => ?_)
      · refine z_inc3 (pc' := 41) rfl dX4_oddness_38 rfl (by unfold zin; omega) ?_
        refine z_goto (tgt := 14) dX4_oddness_41 (by decide) ?_
        refine zW_to (ih2 (l + 1) (by omega) (by omega) (by omega)) ?_ rfl rfl
        have e1 : zinv (me (r + 1)) k (l + 1) = zinv (me (r + 1)) k l + (if k < l ∧ me (r + 1) k > me (r + 1) l then 1 else 0) := zSm_up _ _ (by omega)
        rw [e1]
        first | rw [if_neg (by omega), Int.add_zero] | rw [if_pos (by omega), Int.add_assoc]
      · refine z_inc1 (pc' := 38) rfl dX4_oddness_35 rfl (by unfold zin; omega) ?_
        refine z_inc3 (pc' := 41) rfl dX4_oddness_38 rfl (by unfold zin; omega) ?_
        refine z_goto (tgt := 14) dX4_oddness_41 (by decide) ?_
        refine zW_to (ih2 (l + 1) (by omega) (by omega) (by omega)) ?_ rfl rfl
        have e1 : zinv (me (r + 1)) k (l + 1) = zinv (me (r + 1)) k l + (if k < l ∧ me (r + 1) k > me (r + 1) l then 1 else 0) := zSm_up _ _ (by omega)
        rw [e1]
        first | rw [if_neg (by omega), Int.add_zero] | rw [if_pos (by omega), Int.add_assoc]
set_option maxRecDepth 100000 in
set_option maxHeartbeats 1000000 in
theorem c_placesFromHome {d : Nat} {sp : zSP} {me : zMe} {Q : zQ} {r : Nat} (hd : 1 ≤ d) (hr : zRing sp r) (hg : zgR (me (r + 1)) (me (r + 2))) (hQ : Q (some (zI (zSm (fun p => zdist p (me (r + 1) p)) 10))) sp me) : zCall mX4_placesFromHome d 0 0 [zR r] sp me Q := by
  refine z_met kX4_placesFromHome (by simp) (by simp) ?_
  show zW mX4_placesFromHome d 0 0 Q 0 [zR r, zU, zU, zU] [] sp me
  refine z_iconst (pc' := 1) dX4_placesFromHome_0 rfl (by unfold zin; decide) ?_
  refine z_S1I (pc' := 2) rfl dX4_placesFromHome_1 rfl ?_
  refine z_iconst (pc' := 3) dX4_placesFromHome_2 rfl (by unfold zin; decide) ?_
  refine z_S2I (pc' := 4) rfl dX4_placesFromHome_3 rfl ?_
  suffices H : ∀ (n : Nat) (k : Int) (v : zV), 0 ≤ k → k ≤ 10 → 10 - k < n → zW mX4_placesFromHome d 0 0 Q 4 [zR r, zI (zSm (fun p => zdist p (me (r + 1) p)) k), zI k, v] [] sp me by
    exact H 11 0 zU (by omega) (by omega) (by omega)
  intro n
  induction n with
  | zero => intro k v hk0 hk1 hk2; omega
  | succ n ih =>
  intro k v hk0 hk1 hk2
  have hbd : 0 ≤ zSm (fun p => zdist p (me (r + 1) p)) k ∧ zSm (fun p => zdist p (me (r + 1) p)) k ≤ 5 * k := by
    have : ∀ j : Int, 0 ≤ j → j ≤ 10 → 0 ≤ zSm (fun p => zdist p (me (r + 1) p)) j ∧ zSm (fun p => zdist p (me (r + 1) p)) j ≤ 5 * j := by
      intro j hj
      refine zSm_ind (P := fun j s => j ≤ 10 → 0 ≤ s ∧ s ≤ 5 * j) _ (fun _ => by omega) (fun j s hj hs hj2 => ?_) j hj
      have h1 := hs (by omega)
      have h2 := hg.1 j hj (by omega)
      have h3 := zdist_in hj (show j < 10 by omega) h2.1 h2.2.1
      omega
    exact this k hk0 hk1
  refine z_L2I (pc' := 5) dX4_placesFromHome_4 rfl ?_
  refine z_bipush (pc' := 7) dX4_placesFromHome_5 rfl (by decide) ?_
  refine z_icmp_ge (tgt := 39) (pc' := 10) dX4_placesFromHome_7 (by decide) rfl (fun h7 => ?_) (fun h7 => ?_)
  · obtain rfl : k = 10 := by omega
    refine z_L1I (pc' := 40) dX4_placesFromHome_39 rfl ?_
    refine z_ireturn rfl rfl dX4_placesFromHome_40 ?_
    exact hQ
  · have g4 := hg.1 k
    refine z_L2I (pc' := 11) dX4_placesFromHome_10 rfl ?_
    refine z_L0R (pc' := 12) dX4_placesFromHome_11 rfl ?_
    refine z_getR (pc' := 15) (ki := 0) 0 fX4_9.l rfl rfl dX4_placesFromHome_12 rfl hr.s hr.p0 ?_
    refine z_L2I (pc' := 16) dX4_placesFromHome_15 rfl ?_
    refine z_ild (pc' := 17) dX4_placesFromHome_16 rfl (by first | exact hr.a1 | exact hr.a2 | exact hr.a3 | exact hr.a4) (by omega) (by omega) ?_
    refine z_isub (pc' := 18) dX4_placesFromHome_17 rfl (by unfold zin; omega) ?_
    refine z_abs (pc' := 21) hX4_70 dX4_placesFromHome_18 rfl (by omega) (Nat.le_of_ble_eq_true rfl) (by unfold zin; omega) ?_
    have e9 : 0 ≤ (if 0 ≤ k - me (r + 1) k then k - me (r + 1) k else -(k - me (r + 1) k)) ∧ (if 0 ≤ k - me (r + 1) k then k - me (r + 1) k else -(k - me (r + 1) k)) < 10 := by
      constructor <;> split <;> omega
    refine z_S3I (pc' := 22) rfl dX4_placesFromHome_21 rfl ?_
    refine z_L1I (pc' := 23) dX4_placesFromHome_22 rfl ?_
    refine z_L3I (pc' := 24) dX4_placesFromHome_23 rfl ?_
    refine z_bipush (pc' := 26) dX4_placesFromHome_24 rfl (by decide) ?_
    refine z_L3I (pc' := 27) dX4_placesFromHome_26 rfl ?_
    refine z_isub (pc' := 28) dX4_placesFromHome_27 rfl (by unfold zin; omega) ?_
    refine z_min (pc' := 31) hX4_75 dX4_placesFromHome_28 rfl (by omega) (Nat.le_of_ble_eq_true rfl) ?_
    refine z_iadd (pc' := 32) dX4_placesFromHome_31 rfl (by unfold zin; have := zdist_in hk0 (show k < 10 by omega) (g4 hk0 (by omega)).1 (g4 hk0 (by omega)).2.1; unfold zdist at this; omega) ?_
    refine z_S1I (pc' := 33) rfl dX4_placesFromHome_32 rfl ?_
    refine z_inc2 (pc' := 36) rfl dX4_placesFromHome_33 rfl (by unfold zin; omega) ?_
    refine z_goto (tgt := 4) dX4_placesFromHome_36 (by decide) ?_
    refine zW_to (ih (k + 1) _ (by omega) (by omega) (by omega)) (by rw [zSm_up _ _ hk0]; rfl) rfl rfl
end ZRING3

