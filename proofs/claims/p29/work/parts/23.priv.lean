section ZPRIV
theorem zfst_len {F : Int → Option (List Int)} {m : Nat} (hF : ∀ k t, F k = some t → t.length = m) : ∀ (n : Nat) (k : Int) (t : List Int), zfst F n k = some t → t.length = m + 1 := by
  intro n
  induction n with
  | zero => intro k t h; cases h
  | succ n ih =>
    intro k t h
    cases hk : F k with
    | none => rw [zfst_n hk] at h; exact ih _ _ h
    | some t' =>
      rw [zfst_s hk] at h
      cases h
      rw [List.length_cons, hF k t' hk]
theorem zlh_len {E : Int → zRg} : ∀ (m : Nat) (R : zRg) (t : List Int), zlh E m R = some t → t.length = m := by
  intro m
  induction m with
  | zero =>
    intro R t h
    unfold zlh at h
    split at h
    · cases h; rfl
    · cases h
  | succ m ih =>
    intro R t h
    exact zfst_len (fun k t h => ih _ t h) 8 0 t h
/-- the shortest row, from m figures on -/
def zwy (E : Int → zRg) (R : zRg) : Nat → Nat → Option (List Int)
  | 0, _ => none
  | n + 1, m => match zlh E m R with
    | some t => some t
    | none => zwy E R n (m + 1)
theorem zwy_s {E : Int → zRg} {R : zRg} {n m : Nat} {t : List Int} (h : zlh E m R = some t) : zwy E R (n + 1) m = some t := by unfold zwy; rw [h]
theorem zwy_n {E : Int → zRg} {R : zRg} {n m : Nat} (h : zlh E m R = none) : zwy E R (n + 1) m = zwy E R n (m + 1) := by
  show (match zlh E m R with
    | some t => some t
    | none => zwy E R n (m + 1)) = _
  rw [h]
def zway (E : Int → zRg) (R : zRg) : Option (List Int) := zwy E R 5 0
set_option maxRecDepth 100000 in
set_option maxHeartbeats 1000000 in
theorem c_shortest {d : Nat} {sp : zSP} {me : zMe} {Q : zQ} {q p r : Nat} {E : Int → zRg} (hd : 11 ≤ d) (hq : zSea sp q) (hp : zPlan sp p) (hr : zRing sp r) (hdisp : q + 22 < p ∨ p + 50 < q) (hrr : r + 4 < q ∨ q + 22 < r) (hrp : r + 4 < p ∨ p + 50 < r) (hgr : zgR (me (r + 1)) (me (r + 2))) (hE : ∀ k, 0 ≤ k → k < 8 → me (p + 11 + 5 * k.toNat + 1) = (E k).1 ∧ me (p + 11 + 5 * k.toNat + 2) = (E k).2 ∧ zgR (E k).1 (E k).2) (hQ1 : ∀ t, zway E (me (r + 1), me (r + 2)) = some t → t.length ≤ 4 → ∀ me', (∀ i : Nat, i < t.length → me' (q + 1) (i : Int) = t.getD i 0) → zLf q 0 me me' → Q (some (zI (t.length : Int))) sp me') (hQ0 : zway E (me (r + 1), me (r + 2)) = none → ∀ me', zLf q 0 me me' → Q (some (zI (-5))) sp me') : zCall mX6_shortest d 0 0 [zR q, zR r, zR p] sp me Q := by
  refine z_met kX6_shortest (by simp) (by simp) ?_
  show zW mX6_shortest d 0 0 Q 0 [zR q, zR r, zR p, zU] [] sp me
  refine z_L1R (pc' := 1) dX6_shortest_0 rfl ?_
  refine z_V0v (pc' := 4) (ci := 4) kX4_isHome lX6_26 dX6_shortest_1 rfl (by omega) (Nat.le_of_ble_eq_true rfl) (by decide) rfl hr.s ?_
  refine c_isHome (by omega) hr (fun hh => zKv_i ?_) (fun hh => zKv_i ?_)
  · refine z_if_eq (tgt := 9) (pc' := 7) dX6_shortest_4 (by decide) rfl (fun h4 => absurd h4 (by omega)) (fun h4 => ?_)
    refine z_iconst (pc' := 8) dX6_shortest_7 rfl (by unfold zin; decide) ?_
    refine z_ireturn rfl rfl dX6_shortest_8 ?_
    have e5 : zlh E 0 (me (r + 1), me (r + 2)) = some [] := if_pos (zhb_iff.mpr hh)
    exact hQ1 [] (zwy_s e5) (by simp) me (fun i hi => absurd hi (Nat.not_lt_zero _)) zLf.rf
  have e5 : zlh E 0 (me (r + 1), me (r + 2)) = none := if_neg (fun z => hh (zhb_iff.mp z))
  refine z_if_eq (tgt := 9) (pc' := 7) dX6_shortest_4 (by decide) rfl (fun h4 => ?_) (fun h4 => absurd h4 (by omega))
  refine z_iconst (pc' := 10) dX6_shortest_9 rfl (by unfold zin; decide) ?_
  refine z_S3I (pc' := 11) rfl dX6_shortest_10 rfl ?_
  suffices H : ∀ (n m : Nat) (me1 : zMe), 1 ≤ m → m ≤ 5 → 5 - m < n → zLf q 0 me me1 → zway E (me (r + 1), me (r + 2)) = zwy E (me (r + 1), me (r + 2)) (5 - m) m → zW mX6_shortest d 0 0 Q 11 [zR q, zR r, zR p, zI (m : Int)] [] sp me1 by
    exact H 5 1 me (by omega) (by omega) (by omega) zLf.rf (zwy_n e5)
  intro n
  induction n with
  | zero => intro m me1 h1 h2 h3; omega
  | succ n ih =>
  intro m me1 hm0 hm1 hm2 hF hz
  refine z_L3I (pc' := 12) dX6_shortest_11 rfl ?_
  refine z_iconst (pc' := 13) dX6_shortest_12 rfl (by unfold zin; decide) ?_
  refine z_icmp_gt (tgt := 35) (pc' := 16) dX6_shortest_13 (by decide) rfl (fun h13 => ?_) (fun h13 => ?_)
  · refine z_bipush (pc' := 37) dX6_shortest_35 rfl (by decide) ?_
    refine z_ireturn rfl rfl dX6_shortest_37 ?_
    obtain rfl : m = 5 := by omega
    exact hQ0 hz me1 hF
  · refine z_L0R (pc' := 17) dX6_shortest_16 rfl ?_
    refine z_L2R (pc' := 18) dX6_shortest_17 rfl ?_
    refine z_L1R (pc' := 19) dX6_shortest_18 rfl ?_
    refine z_iconst (pc' := 20) dX6_shortest_19 rfl (by unfold zin; decide) ?_
    refine z_L3I (pc' := 21) dX6_shortest_20 rfl ?_
    refine z_S5v (pc' := 24) kX6_leadsHome lX6_30 dX6_shortest_21 rfl (by omega) (Nat.le_of_ble_eq_true rfl) ?_
    obtain ⟨n5, hn5⟩ : ∃ n5, 5 - m = n5 + 1 := ⟨5 - m - 1, by omega⟩
    have hn6 : 5 - (m + 1) = n5 := by omega
    rw [hn5] at hz
    have er1 : me1 (r + 1) = me (r + 1) := hF.1 _ (by omega) (by omega)
    have er2 : me1 (r + 2) = me (r + 2) := hF.1 _ (by omega) (by omega)
    refine c_leads m (E := E) (by omega) hq hp hr (by omega) (by omega) (by omega) (by omega) hdisp (by omega) hrp (by rw [er1, er2]; exact hgr) (fun k h0 h8 => by rw [hF.1 _ (by omega) (by omega), hF.1 _ (by omega) (by omega)]; exact hE k h0 h8) (fun t ht me2 h2 hF2 => zKv_i ?_) (fun ht me2 hF2 => zKv_i ?_)
    · rw [er1, er2] at ht
      refine z_if_eq (tgt := 29) (pc' := 27) dX6_shortest_24 (by decide) rfl (fun h24 => absurd h24 (by omega)) (fun h24 => ?_)
      refine z_L3I (pc' := 28) dX6_shortest_27 rfl ?_
      refine z_ireturn rfl rfl dX6_shortest_28 ?_
      rw [zwy_s ht] at hz
      have hl := zlh_len m _ t ht
      have h3 := hQ1 t hz (by omega) me2 (fun i hi => by
        have := h2 i (by omega)
        rw [Int.zero_add] at this
        exact this) (hF.trans hF2)
      rw [hl] at h3
      exact h3
    rw [er1, er2] at ht
    rw [zwy_n ht, ← hn6] at hz
    refine z_if_eq (tgt := 29) (pc' := 27) dX6_shortest_24 (by decide) rfl (fun h24 => ?_) (fun h24 => absurd h24 (by omega))
    refine z_inc3 (pc' := 32) rfl dX6_shortest_29 rfl (by unfold zin; omega) ?_
    refine z_goto (tgt := 11) dX6_shortest_32 (by decide) ?_
    exact ih (m + 1) me2 (by omega) (by omega) (by omega) (hF.trans hF2) hz
set_option maxRecDepth 100000 in
set_option maxHeartbeats 1000000 in
theorem c_figureOf {d : Nat} {sp : zSP} {me : zMe} {Q : zQ} {q : Nat} {i : Int} (hd : 1 ≤ d) (hq : zSea sp q) (hQ : Q (some (zI (me (q + 1) i))) sp me) : zCall mX6_figureOf d 0 0 [zR q, zI i] sp me Q := by
  refine z_met kX6_figureOf (by simp) (by simp) ?_
  show zW mX6_figureOf d 0 0 Q 0 [zR q, zI i] [] sp me
  refine z_L0R (pc' := 1) dX6_figureOf_0 rfl ?_
  refine z_getR (pc' := 4) (ki := 0) 0 fX6_9.l rfl rfl dX6_figureOf_1 rfl hq.s hq.p0 ?_
  refine z_L1I (pc' := 5) dX6_figureOf_4 rfl ?_
  refine z_S2v (pc' := 8) kX8_read lX6_22 dX6_figureOf_5 rfl (by omega) (Nat.le_of_ble_eq_true rfl) ?_
  refine c_read hq.a1 (zKv_i ?_)
  refine z_ireturn rfl rfl dX6_figureOf_8 ?_
  exact hQ
/-- after how many times all are home, from t on, at most n more -/
def zth (E : zRg) : Nat → zRg → Int → Int
  | 0, _, _ => -5
  | n + 1, R, t => if zhb R = true then t else zth E n (zact R E) (t + 1)
set_option maxRecDepth 100000 in
set_option maxHeartbeats 1000000 in
theorem c_timesUntil {d : Nat} {sp : zSP} {me : zMe} {Q : zQ} {r e : Nat} (hd : 5 ≤ d) (hr : zRing sp r) (he : zRing sp e) (hne : r + 4 < e ∨ e + 4 < r) (hg : zgR (me (r + 1)) (me (r + 2))) (hge : zgR (me (e + 1)) (me (e + 2))) (hQ : ∀ j3 j4 W F, Q (some (zI (zth (me (e + 1), me (e + 2)) 120 (me (r + 1), me (r + 2)) 0))) sp (zr4 me r j3 j4 W F)) : zCall mX8_timesUntilHome d 0 0 [zR r, zR e] sp me Q := by
  refine z_met kX8_timesUntilHome (by simp) (by simp) ?_
  show zW mX8_timesUntilHome d 0 0 Q 0 [zR r, zR e, zU] [] sp me
  refine z_iconst (pc' := 1) dX8_timesUntilHome_0 rfl (by unfold zin; decide) ?_
  refine z_S2I (pc' := 2) rfl dX8_timesUntilHome_1 rfl ?_
  suffices H : ∀ (n k : Nat) (j3 j4 W F : Int → Int), k ≤ 120 → 120 - k < n → zgR W F → zth (me (e + 1), me (e + 2)) (120 - k) (W, F) (k : Int) = zth (me (e + 1), me (e + 2)) 120 (me (r + 1), me (r + 2)) 0 → zW mX8_timesUntilHome d 0 0 Q 2 [zR r, zR e, zI (k : Int)] [] sp (zr4 me r j3 j4 W F) by
    refine zW_to (H 121 0 (me (r + 3)) (me (r + 4)) (me (r + 1)) (me (r + 2)) (by omega) (by omega) hg rfl) rfl rfl ?_
    rw [← zr4_set, zset_self, zset_self]
  intro n
  induction n with
  | zero => intro k j3 j4 W F h1 h2; omega
  | succ n ih =>
  intro k j3 j4 W F hk0 hk1 hgW hz
  refine z_L2I (pc' := 3) dX8_timesUntilHome_2 rfl ?_
  refine z_bipush (pc' := 5) dX8_timesUntilHome_3 rfl (by decide) ?_
  refine z_icmp_ge (tgt := 28) (pc' := 8) dX8_timesUntilHome_5 (by decide) rfl (fun h5 => ?_) (fun h5 => ?_)
  · refine z_bipush (pc' := 30) dX8_timesUntilHome_28 rfl (by decide) ?_
    refine z_ireturn rfl rfl dX8_timesUntilHome_30 ?_
    obtain rfl : k = 120 := by omega
    have hz : (-5 : Int) = zth (me (e + 1), me (e + 2)) 120 (me (r + 1), me (r + 2)) 0 := hz
    rw [hz]
    exact hQ _ _ _ _
  · refine z_L0R (pc' := 9) dX8_timesUntilHome_8 rfl ?_
    refine z_V0v (pc' := 12) (ci := 4) kX4_isHome lX8_273 dX8_timesUntilHome_9 rfl (by omega) (Nat.le_of_ble_eq_true rfl) (by decide) rfl (by first | exact hr.s | exact he.s) ?_
    obtain ⟨n9, hn9⟩ : ∃ n9, 120 - k = n9 + 1 := ⟨120 - k - 1, by omega⟩
    rw [hn9] at hz
    have hz : (if zhb (W, F) = true then (k : Int) else zth (me (e + 1), me (e + 2)) n9 (zact (W, F) (me (e + 1), me (e + 2))) ((k : Int) + 1)) = zth (me (e + 1), me (e + 2)) 120 (me (r + 1), me (r + 2)) 0 := hz
    refine c_isHome (by omega) hr (fun hh => zKv_i ?_) (fun hh => zKv_i ?_)
    · refine z_if_eq (tgt := 17) (pc' := 15) dX8_timesUntilHome_12 (by decide) rfl (fun h4 => absurd h4 (by omega)) (fun h4 => ?_)
      refine z_L2I (pc' := 16) dX8_timesUntilHome_15 rfl ?_
      refine z_ireturn rfl rfl dX8_timesUntilHome_16 ?_
      rw [zr4_1, zr4_2] at hh
      rw [if_pos (zhb_iff.mpr hh)] at hz
      rw [hz]
      exact hQ _ _ _ _
    rw [zr4_1, zr4_2] at hh
    rw [if_neg (fun z => hh (zhb_iff.mp z))] at hz
    refine z_if_eq (tgt := 17) (pc' := 15) dX8_timesUntilHome_12 (by decide) rfl (fun h12 => ?_) (fun h12 => absurd h12 (by omega))
    refine z_L0R (pc' := 18) dX8_timesUntilHome_17 rfl ?_
    refine z_L1R (pc' := 19) dX8_timesUntilHome_18 rfl ?_
    refine z_V10 (pc' := 22) (ci := 4) kX4_follow lX8_230 dX8_timesUntilHome_19 rfl (by omega) (Nat.le_of_ble_eq_true rfl) (by decide) rfl (by first | exact hr.s | exact he.s) ?_
    have e1 : zr4 me r j3 j4 W F (e + 1) = me (e + 1) := zr4_o _ _ _ _ _ _ _ (by omega)
    have e2 : zr4 me r j3 j4 W F (e + 2) = me (e + 2) := zr4_o _ _ _ _ _ _ _ (by omega)
    refine c_follow (by omega) hr he hne (by rw [zr4_1, zr4_2]; exact hgW) (by rw [e1, e2]; exact hge) (fun j5 j6 => zK0_i ?_)
    rw [zr4_1, zr4_2, e1, e2, zr4_zr4]
    refine z_inc2 (pc' := 25) rfl dX8_timesUntilHome_22 rfl (by unfold zin; omega) ?_
    refine z_goto (tgt := 2) dX8_timesUntilHome_25 (by decide) ?_
    refine ih (k + 1) j5 j6 _ _ (by omega) (by omega) (zgR_ring hgW hge) ?_
    rw [show 120 - (k + 1) = n9 by omega]
    exact hz
set_option maxRecDepth 100000 in
set_option maxHeartbeats 1000000 in
theorem c_orderOf {d : Nat} {sp : zSP} {me : zMe} {Q : zQ} {x e : Nat} (hd : 6 ≤ d) (hx : zObj sp x) (he : zRing sp e) (hne : x + 156 + 4 < e ∨ e + 4 < x + 156) (hge : zgR (me (e + 1)) (me (e + 2))) (hQ : ∀ j3 j4 W F, Q (some (zI (1 + zth (me (e + 1), me (e + 2)) 120 (me (e + 1), me (e + 2)) 0))) sp (zr4 me (x + 156) j3 j4 W F)) (hbd : -5 ≤ zth (me (e + 1), me (e + 2)) 120 (me (e + 1), me (e + 2)) 0 ∧ zth (me (e + 1), me (e + 2)) 120 (me (e + 1), me (e + 2)) 0 ≤ 120) : zCall mX8_orderOf d 0 0 [zR x, zR e] sp me Q := by
  refine z_met kX8_orderOf (by simp) (by simp) ?_
  show zW mX8_orderOf d 0 0 Q 0 [zR x, zR e] [] sp me
  refine z_L0R (pc' := 1) dX8_orderOf_0 rfl ?_
  refine z_getR (pc' := 4) (ki := 7) 7 fX8_54.l rfl rfl dX8_orderOf_1 rfl hx.s hx.p7 ?_
  refine z_L1R (pc' := 5) dX8_orderOf_4 rfl ?_
  refine z_V10 (pc' := 8) (ci := 4) kX4_copyFrom lX8_227 dX8_orderOf_5 rfl (by omega) (Nat.le_of_ble_eq_true rfl) (by decide) rfl hx.o156.s ?_
  refine c_ringCopy (by omega) hx.o156 he (by omega) (zK0_i ?_)
  rw [zr4_set]
  refine z_iconst (pc' := 9) dX8_orderOf_8 rfl (by unfold zin; decide) ?_
  refine z_L0R (pc' := 10) dX8_orderOf_9 rfl ?_
  refine z_getR (pc' := 13) (ki := 7) 7 fX8_54.l rfl rfl dX8_orderOf_10 rfl hx.s hx.p7 ?_
  refine z_L1R (pc' := 14) dX8_orderOf_13 rfl ?_
  refine z_S2v (pc' := 17) kX8_timesUntilHome lX8_242 dX8_orderOf_14 rfl (by omega) (Nat.le_of_ble_eq_true rfl) ?_
  have e1 : ∀ a b W F, zr4 me (x + 156) a b W F (e + 1) = me (e + 1) := fun a b W F => zr4_o _ _ _ _ _ _ _ (by omega)
  have e2 : ∀ a b W F, zr4 me (x + 156) a b W F (e + 2) = me (e + 2) := fun a b W F => zr4_o _ _ _ _ _ _ _ (by omega)
  refine c_timesUntil (by omega) hx.o156 he hne (by rw [zr4_1, zr4_2]; exact hge) (by rw [e1, e2]; exact hge) (fun j3 j4 W F => zKv_i ?_)
  rw [zr4_1, zr4_2, e1, e2, zr4_zr4]
  refine z_iadd (pc' := 18) dX8_orderOf_17 rfl (by unfold zin; omega) ?_
  refine z_ireturn rfl rfl dX8_orderOf_18 ?_
  exact hQ _ _ _ _
end ZPRIV

