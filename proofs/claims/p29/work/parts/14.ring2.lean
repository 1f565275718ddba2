section ZRING2
set_option maxRecDepth 100000 in
set_option maxHeartbeats 1000000 in
theorem c_mirror {d : Nat} {sp : zSP} {me : zMe} {Q : zQ} {r : Nat} {a b : Int} (hd : 2 ≤ d) (hr : zRing sp r) (ha0 : 0 ≤ a) (hab : a < b) (hb1 : b < 10) (hf : ∀ p, 0 ≤ p → p < 10 → 0 ≤ me (r + 2) p ∧ me (r + 2) p < 4) (hQ : Q none sp (zset (zset me (r + 1) (fun q => if a ≤ q ∧ q ≤ b then me (r + 1) (a + b - q) else me (r + 1) q)) (r + 2) (fun q => if a ≤ q ∧ q ≤ b then (me (r + 2) (a + b - q) + 2) % 4 else me (r + 2) q))) : zCall mX4_mirror d 0 0 [zR r, zI a, zI b] sp me Q := by
  refine z_met kX4_mirror (by simp) (by simp) ?_
  show zW mX4_mirror d 0 0 Q 0 [zR r, zI a, zI b, zU] [] sp me
  refine z_L1I (pc' := 1) dX4_mirror_0 rfl ?_
  refine z_S3I (pc' := 2) rfl dX4_mirror_1 rfl ?_
  suffices H : ∀ (n : Nat) (k : Int), a ≤ k → k ≤ b + 1 → b + 1 - k < n → zW mX4_mirror d 0 0 Q 2 [zR r, zI a, zI b, zI k] [] sp (zset me (r + 2) (fun q => if a ≤ q ∧ q < k then (me (r + 2) q + 2) % 4 else me (r + 2) q)) by
    refine zW_to (H 11 a (by omega) (by omega) (by omega)) rfl rfl ?_
    symm
    apply zset_id
    funext q
    rw [if_neg (by omega)]
  intro n
  induction n with
  | zero => intro k hk0 hk1 hk2; omega
  | succ n ih =>
  intro k hk0 hk1 hk2
  refine z_L3I (pc' := 3) dX4_mirror_2 rfl ?_
  refine z_L2I (pc' := 4) dX4_mirror_3 rfl ?_
  refine z_icmp_gt (tgt := 19) (pc' := 7) dX4_mirror_4 (by decide) rfl (fun h4 => ?_) (fun h4 => ?_)
  · obtain rfl : k = b + 1 := by omega
    clear ih
    refine z_iconst (pc' := 20) dX4_mirror_19 rfl (by unfold zin; decide) ?_
    refine z_S3I (pc' := 21) rfl dX4_mirror_20 rfl ?_
    suffices H : ∀ (n : Nat) (k : Int), 0 ≤ k → 2 * k ≤ b - a + 1 → b - a + 1 - 2 * k < n → zW mX4_mirror d 0 0 Q 21 [zR r, zI a, zI b, zI k] [] sp (zset (zset me (r + 1) (fun q => if a ≤ q ∧ q ≤ b ∧ (q < a + k ∨ b - k < q) then me (r + 1) (a + b - q) else me (r + 1) q)) (r + 2) (fun q => if a ≤ q ∧ q ≤ b then (me (r + 2) (if q < a + k ∨ b - k < q then a + b - q else q) + 2) % 4 else me (r + 2) q)) by
      refine zW_to (H 11 0 (by omega) (by omega) (by omega)) rfl rfl ?_
      rw [zset_id me (r + 1) _ (by funext q; rw [if_neg (by omega)])]
      congr 1
      funext q
      ((repeat' split) <;> first | rfl | (exfalso; omega) | (congr 1; omega) | (congr 2; omega) | (congr 3; omega) | omega)
    intro n2
    induction n2 with
    | zero => intro k hk0 hk1 hk2; omega
    | succ n2 ih =>
    intro k hk0 hk1 hk2
    refine z_L1I (pc' := 22) dX4_mirror_21 rfl ?_
    refine z_L3I (pc' := 23) dX4_mirror_22 rfl ?_
    refine z_iadd (pc' := 24) dX4_mirror_23 rfl (by unfold zin; omega) ?_
    refine z_L2I (pc' := 25) dX4_mirror_24 rfl ?_
    refine z_L3I (pc' := 26) dX4_mirror_25 rfl ?_
    refine z_isub (pc' := 27) dX4_mirror_26 rfl (by unfold zin; omega) ?_
    refine z_icmp_ge (tgt := 46) (pc' := 30) dX4_mirror_27 (by decide) rfl (fun h27 => ?_) (fun h27 => ?_)
    · refine z_return rfl rfl dX4_mirror_46 ?_
      have e1 : (fun q => if a ≤ q ∧ q ≤ b ∧ (q < a + k ∨ b - k < q) then me (r + 1) (a + b - q) else me (r + 1) q) = (fun q => if a ≤ q ∧ q ≤ b then me (r + 1) (a + b - q) else me (r + 1) q) := by
        funext q
        ((repeat' split) <;> first | rfl | (exfalso; omega) | (congr 1; omega) | (congr 2; omega) | (congr 3; omega) | omega)
      have e2 : (fun q => if a ≤ q ∧ q ≤ b then (me (r + 2) (if q < a + k ∨ b - k < q then a + b - q else q) + 2) % 4 else me (r + 2) q) = (fun q => if a ≤ q ∧ q ≤ b then (me (r + 2) (a + b - q) + 2) % 4 else me (r + 2) q) := by
        funext q
        ((repeat' split) <;> first | rfl | (exfalso; omega) | (congr 1; omega) | (congr 2; omega) | (congr 3; omega) | omega)
      rw [e1, e2]
      exact hQ
    · refine z_L0R (pc' := 31) dX4_mirror_30 rfl ?_
      refine z_L1I (pc' := 32) dX4_mirror_31 rfl ?_
      refine z_L3I (pc' := 33) dX4_mirror_32 rfl ?_
      refine z_iadd (pc' := 34) dX4_mirror_33 rfl (by unfold zin; omega) ?_
      refine z_L2I (pc' := 35) dX4_mirror_34 rfl ?_
      refine z_L3I (pc' := 36) dX4_mirror_35 rfl ?_
      refine z_isub (pc' := 37) dX4_mirror_36 rfl (by unfold zin; omega) ?_
      refine z_V20 (pc' := 40) (ci := 4) kX4_exchange lX4_45 dX4_mirror_37 rfl (by omega) (Nat.le_of_ble_eq_true rfl) (by decide) rfl hr.s ?_
      refine c_exchange (by omega) hr (by omega) (by omega) (by omega) (by omega) (zK0_i ?_)
      refine z_inc3 (pc' := 43) rfl dX4_mirror_40 rfl (by unfold zin; omega) ?_
      refine z_goto (tgt := 21) dX4_mirror_43 (by decide) ?_
      refine zW_to (ih (k + 1) (by omega) (by omega) (by omega)) rfl rfl ?_
      simp (disch := first | omega | rfl) only [zset_eq, zset_ne, zset_11, zset_21, zset_31, zset_41, zfil_up, zup_eq, zup_ne]
      congr 1
      · congr 1
        funext q
        unfold zex zup
        dsimp only
        ((repeat' split) <;> first | rfl | (exfalso; omega) | (congr 1; omega) | (congr 2; omega) | (congr 3; omega) | omega)
      · funext q
        unfold zex zup
        dsimp only
        ((repeat' split) <;> first | rfl | (exfalso; omega) | (congr 1; omega) | (congr 2; omega) | (congr 3; omega) | omega)
  · refine z_L0R (pc' := 8) dX4_mirror_7 rfl ?_
    refine z_L3I (pc' := 9) dX4_mirror_8 rfl ?_
    refine z_iconst (pc' := 10) dX4_mirror_9 rfl (by unfold zin; decide) ?_
    refine z_V20 (pc' := 13) (ci := 4) kX4_turn lX4_49 dX4_mirror_10 rfl (by omega) (Nat.le_of_ble_eq_true rfl) (by decide) rfl hr.s ?_
    have hfk := hf k (by omega) (by omega)
    refine c_turn (by omega) hr (by omega) (by omega) (by rw [zset_eq, if_neg (by omega)]; omega) (by rw [zset_eq, if_neg (by omega)]; omega) (by omega) (by omega) (zK0_i ?_)
    refine z_inc3 (pc' := 16) rfl dX4_mirror_13 rfl (by unfold zin; omega) ?_
    refine z_goto (tgt := 2) dX4_mirror_16 (by decide) ?_
    refine zW_to (ih (k + 1) (by omega) (by omega) (by omega)) rfl rfl ?_
    rw [zset_eq, zset_11]
    congr 1
    funext q
    unfold zup
    dsimp only
    ((repeat' split) <;> first | rfl | (exfalso; omega) | (congr 1; omega) | (congr 2; omega) | (congr 3; omega) | omega)
theorem zg_in {c q : Int} (hc : zvs c) (h0 : 0 ≤ q) (h1 : q < 10) : 0 ≤ zg c q ∧ zg c q < 10 := by
  obtain ⟨h, hc⟩ := hc
  unfold zg
  refine ⟨?_, ?_⟩ <;> (repeat' split) <;> omega
theorem zg_inj {c q q' : Int} (hc : zvs c) (h0 : 0 ≤ q) (h1 : q < 10) (h2 : 0 ≤ q') (h3 : q' < 10) (h : zg c q = zg c q') : q = q' := by
  obtain ⟨h9, hc⟩ := hc
  unfold zg at h
  (repeat' split at h) <;> omega
theorem zt_in {c q : Int} (hc : zvs c) : 0 ≤ zt c q ∧ zt c q < 4 := by
  obtain ⟨h, hc⟩ := hc
  unfold zt
  refine ⟨?_, ?_⟩ <;> (repeat' split) <;> omega
theorem zgR_act {w f g t : Int → Int} (h : zgR w f) (hg : ∀ q, 0 ≤ q → q < 10 → 0 ≤ g q ∧ g q < 10) (hi : ∀ q q', 0 ≤ q → q < 10 → 0 ≤ q' → q' < 10 → g q = g q' → q = q') : zgR (zaw w g) (zaf f g t) := by
  obtain ⟨h1, h2, h3⟩ := h
  refine ⟨fun p h0 h9 => ?_, fun p q hp0 hp1 hq0 hq1 h => ?_, fun p hp => ?_⟩
  · unfold zaw zaf
    rw [zcut_in _ _ _ h0 h9, zcut_in _ _ _ h0 h9]
    have := hg p h0 h9
    have := h1 (g p) this.1 this.2
    omega
  · unfold zaw at h
    rw [zcut_in _ _ _ hp0 hp1, zcut_in _ _ _ hq0 hq1] at h
    have e1 := hg p hp0 hp1
    have e2 := hg q hq0 hq1
    exact hi p q hp0 hp1 hq0 hq1 (h2 _ _ e1.1 e1.2 e2.1 e2.2 h)
  · unfold zaw zaf
    rw [zcut_out _ _ _ hp, zcut_out _ _ _ hp]
    exact ⟨rfl, rfl⟩
theorem zgR_step {w f : Int → Int} {c : Int} (h : zgR w f) (hc : zvs c) : zgR (zaw w (zg c)) (zaf f (zg c) (zt c)) := zgR_act h (fun q h0 h1 => zg_in hc h0 h1) (fun q q' h0 h1 h2 h3 h4 => zg_inj hc h0 h1 h2 h3 h4)
theorem zgR_ring {w f g t : Int → Int} (h : zgR w f) (he : zgR g t) : zgR (zaw w g) (zaf f g t) := zgR_act h (fun q h0 h1 => ⟨(he.1 q h0 h1).1, (he.1 q h0 h1).2.1⟩) he.2.1
theorem zr4_set2 (me : zMe) (r : Nat) (F : Int → Int) : zset me (r + 2) F = zr4 me r (me (r + 3)) (me (r + 4)) (me (r + 1)) F := by
  unfold zr4
  rw [zset_self, zset_self, zset_self]
theorem zmk0 {w f : Int → Int} {c : Int} (hg : zgR w f) (hc : 0 ≤ c) (h0 : c / 100 = 0) (hab : c / 10 % 10 < c % 10) : zex w (c / 10 % 10) (c % 10) = zaw w (zg c) ∧ zex f (c / 10 % 10) (c % 10) = zaf f (zg c) (zt c) := by
  have a2 := hg.1 (c % 10) (by omega) (by omega)
  have a3 := hg.1 (c / 10 % 10) (by omega) (by omega)
  constructor
  · funext q
    have a1 := hg.1 q
    have a4 := hg.2.2 q
    unfold zaw zcut zg zex zup
    dsimp only
    ((repeat' split) <;> first | rfl | (exfalso; omega) | (congr 1; omega) | (congr 2; omega) | (congr 3; omega) | omega)
  · funext q
    have a1 := hg.1 q
    have a4 := hg.2.2 q
    unfold zaf zcut zg zex zup zt
    dsimp only
    ((repeat' split) <;> first | rfl | (exfalso; omega) | (congr 1; omega) | (congr 2; omega) | (congr 3; omega) | omega)
theorem zmk1 {w f : Int → Int} {c : Int} (hg : zgR w f) (hc : 0 ≤ c) (h0 : c / 100 = 1) : w = zaw w (zg c) ∧ zup f (c / 10 % 10) ((f (c / 10 % 10) + c % 10) % 4) = zaf f (zg c) (zt c) := by
  constructor
  · funext q
    have a1 := hg.1 q
    have a4 := hg.2.2 q
    unfold zaw zcut zg
    dsimp only
    ((repeat' split) <;> first | rfl | (exfalso; omega) | (congr 1; omega) | (congr 2; omega) | (congr 3; omega) | omega)
  · funext q
    have a1 := hg.1 q
    have a4 := hg.2.2 q
    unfold zaf zcut zg zup zt
    dsimp only
    ((repeat' split) <;> first | rfl | (exfalso; omega) | (congr 1; omega) | (congr 2; omega) | (congr 3; omega) | omega)
theorem zmk2 {w f : Int → Int} {c : Int} (hg : zgR w f) (hc : 0 ≤ c) (h0 : c / 100 = 2) : zcut 10 (fun t => w ((t - c / 10 % 10 + 10) % 10)) = zaw w (zg c) ∧ zcut 10 (fun t => f ((t - c / 10 % 10 + 10) % 10)) = zaf f (zg c) (zt c) := by
  constructor
  · apply zcut_congr
    intro q h1 h2
    unfold zg
    ((repeat' split) <;> first | rfl | (exfalso; omega) | (congr 1; omega) | (congr 2; omega) | (congr 3; omega) | omega)
  · apply zcut_congr
    intro q h1 h2
    have a1 := hg.1 ((q - c / 10 % 10 + 10) % 10) (by omega) (by omega)
    unfold zg zt
    ((repeat' split) <;> first | rfl | (exfalso; omega) | (congr 1; omega) | (congr 2; omega) | (congr 3; omega) | omega)
theorem zmk3 {w f : Int → Int} {c : Int} (hg : zgR w f) (hc : 0 ≤ c) (h0 : c / 100 = 3) : (fun q => if c / 10 % 10 ≤ q ∧ q ≤ c % 10 then w (c / 10 % 10 + c % 10 - q) else w q) = zaw w (zg c) ∧ (fun q => if c / 10 % 10 ≤ q ∧ q ≤ c % 10 then (f (c / 10 % 10 + c % 10 - q) + 2) % 4 else f q) = zaf f (zg c) (zt c) := by
  constructor
  · funext q
    have a1 := hg.1 q
    have a4 := hg.2.2 q
    unfold zaw zcut zg
    dsimp only
    ((repeat' split) <;> first | rfl | (exfalso; omega) | (congr 1; omega) | (congr 2; omega) | (congr 3; omega) | omega)
  · funext q
    have a1 := hg.1 q
    have a4 := hg.2.2 q
    unfold zaf zcut zg zt
    dsimp only
    ((repeat' split) <;> first | rfl | (exfalso; omega) | (congr 1; omega) | (congr 2; omega) | (congr 3; omega) | omega)
set_option maxRecDepth 100000 in
set_option maxHeartbeats 1000000 in
theorem c_make {d : Nat} {sp : zSP} {me : zMe} {Q : zQ} {r : Nat} {c : Int} (hd : 4 ≤ d) (hr : zRing sp r) (hc : zvs c) (hg : zgR (me (r + 1)) (me (r + 2))) (hQ : ∀ j3 j4, Q none sp (zr4 me r j3 j4 (zaw (me (r + 1)) (zg c)) (zaf (me (r + 2)) (zg c) (zt c)))) : zCall mX4_make d 0 0 [zR r, zI c] sp me Q := by
  refine z_met kX4_make (by simp) (by simp) ?_
  show zW mX4_make d 0 0 Q 0 [zR r, zI c, zU, zU] [] sp me
  have hc0 := hc
  obtain ⟨hcp, hcc⟩ := hc
  refine z_L1I (pc' := 1) dX4_make_0 rfl ?_
  refine z_S1v (pc' := 4) kX8_firstOf lX4_35 dX4_make_1 rfl (by omega) (Nat.le_of_ble_eq_true rfl) ?_
  refine c_firstOf hcp (zKv_i ?_)
  refine z_S2I (pc' := 5) rfl dX4_make_4 rfl ?_
  refine z_L1I (pc' := 6) dX4_make_5 rfl ?_
  refine z_S1v (pc' := 9) kX8_secondOf lX4_39 dX4_make_6 rfl (by omega) (Nat.le_of_ble_eq_true rfl) ?_
  refine c_secondOf hcp (zKv_i ?_)
  refine z_S3I (pc' := 10) rfl dX4_make_9 rfl ?_
  refine z_L1I (pc' := 11) dX4_make_10 rfl ?_
  refine z_S1v (pc' := 14) kX8_kindOf lX4_42 dX4_make_11 rfl (by omega) (Nat.le_of_ble_eq_true rfl) ?_
  refine c_kindOf hcp (zKv_i ?_)
  have e4 : c / 100 = 0 ∨ c / 100 = 1 ∨ c / 100 = 2 ∨ c / 100 = 3 ∨ (3 < c / 100) := by omega
  rcases e4 with e4 | e4 | e4 | e4 | e4
  · rw [e4]
    refine z_tswIn (tgt := 44) dX4_make_14 (by decide) (by decide) rfl (by decide) ?_
    refine z_L0R (pc' := 45) dX4_make_44 rfl ?_
    refine z_L2I (pc' := 46) dX4_make_45 rfl ?_
    refine z_L3I (pc' := 47) dX4_make_46 rfl ?_
    refine z_V20 (pc' := 50) (ci := 4) kX4_exchange lX4_45 dX4_make_47 rfl (by omega) (Nat.le_of_ble_eq_true rfl) (by decide) rfl hr.s ?_
    refine c_exchange (by omega) hr (by omega) (by omega) (by omega) (by omega) (zK0_i ?_)
    rw [zr4_set, (zmk0 hg hcp e4 (by omega)).1, (zmk0 hg hcp e4 (by omega)).2]
    refine z_goto (tgt := 79) dX4_make_50 (by decide) ?_
    first | omega | (refine z_return rfl rfl dX4_make_79 ?_; exact hQ _ _)
  · rw [e4]
    refine z_tswIn (tgt := 53) dX4_make_14 (by decide) (by decide) rfl (by decide) ?_
    refine z_L0R (pc' := 54) dX4_make_53 rfl ?_
    refine z_L2I (pc' := 55) dX4_make_54 rfl ?_
    refine z_L3I (pc' := 56) dX4_make_55 rfl ?_
    refine z_V20 (pc' := 59) (ci := 4) kX4_turn lX4_49 dX4_make_56 rfl (by omega) (Nat.le_of_ble_eq_true rfl) (by decide) rfl hr.s ?_
    have a3 := hg.1 (c / 10 % 10) (by omega) (by omega)
    refine c_turn (by omega) hr (by omega) (by omega) (by omega) (by omega) (by omega) (by omega) (zK0_i ?_)
    have e5 := zmk1 hg hcp e4
    refine zW_to (me := zr4 me r (me (r + 3)) (me (r + 4)) (zaw (me (r + 1)) (zg c)) (zaf (me (r + 2)) (zg c) (zt c))) ?_ rfl rfl (by rw [← e5.1, ← e5.2]; exact zr4_set2 _ _ _)
    refine z_goto (tgt := 79) dX4_make_59 (by decide) ?_
    first | omega | (refine z_return rfl rfl dX4_make_79 ?_; exact hQ _ _)
  · rw [e4]
    refine z_tswIn (tgt := 62) dX4_make_14 (by decide) (by decide) rfl (by decide) ?_
    refine z_L0R (pc' := 63) dX4_make_62 rfl ?_
    refine z_L2I (pc' := 64) dX4_make_63 rfl ?_
    refine z_V10 (pc' := 67) (ci := 4) kX4_shift lX4_52 dX4_make_64 rfl (by omega) (Nat.le_of_ble_eq_true rfl) (by decide) rfl hr.s ?_
    refine c_shift (by omega) hr (by omega) (by omega) (fun j3 j4 => zK0_i ?_)
    rw [(zmk2 hg hcp e4).1, (zmk2 hg hcp e4).2]
    refine z_goto (tgt := 79) dX4_make_67 (by decide) ?_
    first | omega | (refine z_return rfl rfl dX4_make_79 ?_; exact hQ _ _)
  · rw [e4]
    refine z_tswIn (tgt := 70) dX4_make_14 (by decide) (by decide) rfl (by decide) ?_
    refine z_L0R (pc' := 71) dX4_make_70 rfl ?_
    refine z_L2I (pc' := 72) dX4_make_71 rfl ?_
    refine z_L3I (pc' := 73) dX4_make_72 rfl ?_
    refine z_V20 (pc' := 76) (ci := 4) kX4_mirror lX4_56 dX4_make_73 rfl (by omega) (Nat.le_of_ble_eq_true rfl) (by decide) rfl hr.s ?_
    refine c_mirror (by omega) hr (by omega) (by omega) (by omega) (fun p h0 h1 => ⟨(hg.1 p h0 h1).2.2.1, (hg.1 p h0 h1).2.2.2⟩) (zK0_i ?_)
    rw [zr4_set, (zmk3 hg hcp e4).1, (zmk3 hg hcp e4).2]
    refine z_goto (tgt := 79) dX4_make_76 (by decide) ?_
    first | omega | (refine z_return rfl rfl dX4_make_79 ?_; exact hQ _ _)
  · refine z_tswOut (tgt := 79) dX4_make_14 (by omega) (by decide) ?_
    first | omega | (refine z_return rfl rfl dX4_make_79 ?_; exact hQ _ _)
end ZRING2

