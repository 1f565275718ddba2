section ZPLAN3
/-- what the calls of a figure would grow by -/
def zgs (cd g : Int → Int) (k : Int) : Nat → Int
  | 0 => 0
  | j + 1 => zgs cd g k j + (if cd (k * 10 + (j : Int)) / 100 = 4 then g (cd (k * 10 + (j : Int)) / 10 % 10) else 0)
def zgrw (sz cd : Int → Int) (fi x : Int) : Nat → Int → Int
  | 0, _ => 0
  | n + 1, k => if k = fi then x else zgs cd (zgrw sz cd fi x n) k (sz k).toNat
def zgw (sz cd : Int → Int) (fi x k : Int) : Int := zgrw sz cd fi x 9 k
theorem zgs_congr {cd g g' : Int → Int} {k : Int} (n : Nat) (h : ∀ j : Nat, j < n → cd (k * 10 + (j : Int)) / 100 = 4 → g (cd (k * 10 + (j : Int)) / 10 % 10) = g' (cd (k * 10 + (j : Int)) / 10 % 10)) : zgs cd g k n = zgs cd g' k n := by
  induction n with
  | zero => rfl
  | succ n ih =>
    unfold zgs
    rw [ih (fun j hj => h j (by omega))]
    congr 1
    split
    · next h1 => exact h n (by omega) h1
    · rfl
theorem zgrw_fuel {sz cd : Int → Int} {fi x : Int} (hv : zfv sz cd) : ∀ (n m : Nat) (k : Int), 0 ≤ k → k < 8 → k < n → k < m → zgrw sz cd fi x n k = zgrw sz cd fi x m k := by
  intro n
  induction n with
  | zero => intro m k h0 _ h1; omega
  | succ n ih =>
    intro m k h0 h8 h1 h2
    cases m with
    | zero => omega
    | succ m =>
      show (if k = fi then x else zgs cd (zgrw sz cd fi x n) k (sz k).toNat) = (if k = fi then x else zgs cd (zgrw sz cd fi x m) k (sz k).toNat)
      split
      · rfl
      · refine zgs_congr _ (fun j hj hc => ?_)
        have h3 := (hv k h0 h8).2.2 (j : Int) (by omega) (by omega)
        unfold zvm at h3
        exact ih m _ (by omega) (by omega) (by omega) (by omega)
theorem zgw_eq {sz cd : Int → Int} {fi x : Int} (hv : zfv sz cd) {k : Int} (h0 : 0 ≤ k) (h8 : k < 8) (hk : k ≠ fi) : zgw sz cd fi x k = zgs cd (zgw sz cd fi x) k (sz k).toNat := by
  show (if k = fi then x else zgs cd (zgrw sz cd fi x 8) k (sz k).toNat) = _
  rw [if_neg hk]
  refine zgs_congr _ (fun j hj hc => ?_)
  have h3 := (hv k h0 h8).2.2 (j : Int) (by omega) (by omega)
  unfold zvm at h3
  exact zgrw_fuel hv 8 9 _ (by omega) (by omega) (by omega) (by omega)
theorem zgw_fi {sz cd : Int → Int} {fi x : Int} : zgw sz cd fi x fi = x := if_pos rfl
theorem zgs_bd {cd g : Int → Int} {k b : Int} (hb : 0 ≤ b) (n : Nat) (h : ∀ j : Nat, j < n → cd (k * 10 + (j : Int)) / 100 = 4 → 0 ≤ g (cd (k * 10 + (j : Int)) / 10 % 10) ∧ g (cd (k * 10 + (j : Int)) / 10 % 10) ≤ b) : 0 ≤ zgs cd g k n ∧ zgs cd g k n ≤ b * (n : Int) := by
  induction n with
  | zero => unfold zgs; simp
  | succ n ih =>
    have h1 := ih (fun j hj => h j (by omega))
    have e : b * ((n + 1 : Nat) : Int) = b * (n : Int) + b := by rw [Int.natCast_add, Int.mul_add]; simp
    unfold zgs
    rw [e]
    split
    · next h2 => have := h n (by omega) h2; omega
    · omega
set_option maxRecDepth 100000 in
set_option maxHeartbeats 1000000 in
theorem c_growth {d : Nat} {sp : zSP} {me : zMe} {Q : zQ} {p f : Nat} {k : Int} (hd : 3 ≤ d) (hp : zPlan sp p) (hf : zFigs sp f) (hk0 : 0 ≤ k) (hk1 : k < 8) (hv : zfv (me (f + 1)) (me (f + 2))) (hg : ∀ a, 0 ≤ a → a < k → 0 ≤ me (p + 4) a ∧ me (p + 4) a ≤ 120) (hQ : Q (some (zI (zgs (me (f + 2)) (me (p + 4)) k (me (f + 1) k).toNat))) sp me) : zCall mX3_growthByCalls d 0 0 [zR p, zR f, zI k] sp me Q := by
  refine z_met kX3_growthByCalls (by simp) (by simp) ?_
  show zW mX3_growthByCalls d 0 0 Q 0 [zR p, zR f, zI k, zU, zU, zU, zU] [] sp me
  have hvk := hv k hk0 hk1
  refine z_iconst (pc' := 1) dX3_growthByCalls_0 rfl (by unfold zin; decide) ?_
  refine z_S3I (pc' := 2) rfl dX3_growthByCalls_1 rfl ?_
  refine z_L1R (pc' := 3) dX3_growthByCalls_2 rfl ?_
  refine z_L2I (pc' := 4) dX3_growthByCalls_3 rfl ?_
  refine z_V1v (pc' := 7) (ci := 0) kX0_size lX3_38 dX3_growthByCalls_4 rfl (by omega) (Nat.le_of_ble_eq_true rfl) (by decide) rfl hf.s ?_
  refine c_size (by omega) hf (zKv_i ?_)
  refine z_S4I (pc' := 9) rfl dX3_growthByCalls_7 rfl ?_
  refine z_iconst (pc' := 10) dX3_growthByCalls_9 rfl (by unfold zin; decide) ?_
  refine z_S5I (pc' := 12) rfl dX3_growthByCalls_10 rfl ?_
  suffices H : ∀ (n j : Nat) (v : zV), (j : Int) ≤ me (f + 1) k → me (f + 1) k - j < n → zndv v = true → zW mX3_growthByCalls d 0 0 Q 12 [zR p, zR f, zI k, zI (zgs (me (f + 2)) (me (p + 4)) k j), zI (me (f + 1) k), zI (j : Int), v] [] sp me by
    exact H 11 0 zU (by omega) (by omega) rfl
  intro n
  induction n with
  | zero => intro j v h1 h2; omega
  | succ n ih =>
  intro j v hj0 hj1 hv6
  refine z_L5I (pc' := 14) dX3_growthByCalls_12 rfl ?_
  refine z_L4I (pc' := 16) dX3_growthByCalls_14 rfl ?_
  refine z_icmp_ge (tgt := 58) (pc' := 19) dX3_growthByCalls_16 (by decide) rfl (fun h16 => ?_) (fun h16 => ?_)
  · obtain rfl : j = (me (f + 1) k).toNat := by omega
    refine z_L3I (pc' := 59) dX3_growthByCalls_58 rfl ?_
    refine z_ireturn rfl rfl dX3_growthByCalls_59 ?_
    exact hQ
  · have hvj := hvk.2.2 (j : Int) (by omega) (by omega)
    unfold zvm at hvj
    have hc0 : 0 ≤ me (f + 2) (k * 10 + (j : Int)) := by rcases hvj with h | h; exact h.2.1; exact h.1
    have hbd := zgs_bd (cd := me (f + 2)) (g := me (p + 4)) (k := k) (b := 120) (by omega) j (fun i hi hc => by
      have hvi := hvk.2.2 (i : Int) (by omega) (by omega)
      unfold zvm at hvi
      exact hg _ (by omega) (by omega))
    refine z_L1R (pc' := 20) dX3_growthByCalls_19 rfl ?_
    refine z_L2I (pc' := 21) dX3_growthByCalls_20 rfl ?_
    refine z_L5I (pc' := 23) dX3_growthByCalls_21 rfl ?_
    refine z_V2v (pc' := 26) (ci := 0) kX0_code lX3_44 dX3_growthByCalls_23 rfl (by omega) (Nat.le_of_ble_eq_true rfl) (by decide) rfl hf.s ?_
    refine c_code (by omega) hf hk0 hk1 (by omega) (by omega) (zKv_i ?_)
    refine z_S6I (pc' := 28) rfl dX3_growthByCalls_26 rfl ?_
    refine z_L6I (pc' := 30) dX3_growthByCalls_28 rfl ?_
    refine z_S1v (pc' := 33) kX8_kindOf lX3_52 dX3_growthByCalls_30 rfl (by omega) (Nat.le_of_ble_eq_true rfl) ?_
    refine c_kindOf hc0 (zKv_i ?_)
    refine z_iconst (pc' := 34) dX3_growthByCalls_33 rfl (by unfold zin; decide) ?_
    refine z_icmp_ne (tgt := 52) (pc' := 37) dX3_growthByCalls_34 (by decide) rfl (fun h34 => ?_) (fun h34 => ?_)
    · refine z_inc5 (pc' := 55) rfl dX3_growthByCalls_52 rfl (by unfold zin; omega) ?_
      refine z_goto (tgt := 12) dX3_growthByCalls_55 (by decide) ?_
      refine zW_to (ih (j + 1) (zI (me (f + 2) (k * 10 + (j : Int)))) (by omega) (by omega) rfl) (by
        have e : zgs (me (f + 2)) (me (p + 4)) k (j + 1) = zgs (me (f + 2)) (me (p + 4)) k j + (if me (f + 2) (k * 10 + (j : Int)) / 100 = 4 then me (p + 4) (me (f + 2) (k * 10 + (j : Int)) / 10 % 10) else 0) := rfl
        rw [e]
        first | (rw [if_pos h34]; rfl) | (rw [if_neg h34, Int.add_zero]; rfl)) rfl rfl
    · refine z_L3I (pc' := 38) dX3_growthByCalls_37 rfl ?_
      refine z_L0R (pc' := 39) dX3_growthByCalls_38 rfl ?_
      refine z_getR (pc' := 42) (ki := 3) 3 fX3_21.l rfl rfl dX3_growthByCalls_39 rfl hp.s hp.p3 ?_
      refine z_L6I (pc' := 44) dX3_growthByCalls_42 rfl ?_
      refine z_S1v (pc' := 47) kX8_firstOf lX3_55 dX3_growthByCalls_44 rfl (by omega) (Nat.le_of_ble_eq_true rfl) ?_
      refine c_firstOf hc0 (zKv_i ?_)
      refine z_S2v (pc' := 50) kX8_read lX3_75 dX3_growthByCalls_47 rfl (by omega) (Nat.le_of_ble_eq_true rfl) ?_
      have hga := hg (me (f + 2) (k * 10 + (j : Int)) / 10 % 10) (by omega) (by omega)
      refine c_read hp.a4 (zKv_i ?_)
      refine z_iadd (pc' := 51) dX3_growthByCalls_50 rfl (by unfold zin; omega) ?_
      refine z_S3I (pc' := 52) rfl dX3_growthByCalls_51 rfl ?_
      refine z_inc5 (pc' := 55) rfl dX3_growthByCalls_52 rfl (by unfold zin; omega) ?_
      refine z_goto (tgt := 12) dX3_growthByCalls_55 (by decide) ?_
      refine zW_to (ih (j + 1) (zI (me (f + 2) (k * 10 + (j : Int)))) (by omega) (by omega) rfl) (by
        have e : zgs (me (f + 2)) (me (p + 4)) k (j + 1) = zgs (me (f + 2)) (me (p + 4)) k j + (if me (f + 2) (k * 10 + (j : Int)) / 100 = 4 then me (p + 4) (me (f + 2) (k * 10 + (j : Int)) / 10 % 10) else 0) := rfl
        rw [e]
        first | (rw [if_pos h34]; rfl) | (rw [if_neg h34, Int.add_zero]; rfl)) rfl rfl
set_option maxRecDepth 100000 in
set_option maxHeartbeats 1000000 in
theorem c_hasRoom {d : Nat} {sp : zSP} {me : zMe} {Q : zQ} {p f : Nat} {fi x : Int} (hd : 4 ≤ d) (hp : zPlan sp p) (hf : zFigs sp f) (hdis : f + 2 < p ∨ p + 50 < f) (hv : zfv (me (f + 1)) (me (f + 2))) (hR : zRP me p (me (f + 1)) (me (f + 2))) (hl : zlim (me (f + 1)) (me (f + 2))) (hx0 : 0 ≤ x) (hx1 : x ≤ 120) (hQ1 : (∀ k, 0 ≤ k → k < 8 → ((zsteps (me (f + 1)) (me (f + 2)) k).length : Int) + zgw (me (f + 1)) (me (f + 2)) fi x k ≤ 120) → ∀ G, Q (some (zI 1)) sp (zset me (p + 4) G)) (hQ0 : ¬ (∀ k, 0 ≤ k → k < 8 → ((zsteps (me (f + 1)) (me (f + 2)) k).length : Int) + zgw (me (f + 1)) (me (f + 2)) fi x k ≤ 120) → ∀ G, Q (some (zI 0)) sp (zset me (p + 4) G)) : zCall mX3_hasRoom d 0 0 [zR p, zR f, zI fi, zI x] sp me Q := by
  refine z_met kX3_hasRoom (by simp) (by simp) ?_
  show zW mX3_hasRoom d 0 0 Q 0 [zR p, zR f, zI fi, zI x, zU] [] sp me
  refine z_iconst (pc' := 1) dX3_hasRoom_0 rfl (by unfold zin; decide) ?_
  refine z_S4I (pc' := 3) rfl dX3_hasRoom_1 rfl ?_
  suffices H : ∀ (n : Nat) (k : Int) (G : Int → Int), 0 ≤ k → k ≤ 8 → 8 - k < n → (∀ a, 0 ≤ a → a < k → G a = zgw (me (f + 1)) (me (f + 2)) fi x a ∧ 0 ≤ G a ∧ G a ≤ 120 ∧ ((zsteps (me (f + 1)) (me (f + 2)) a).length : Int) + G a ≤ 120) → zW mX3_hasRoom d 0 0 Q 3 [zR p, zR f, zI fi, zI x, zI k] [] sp (zset me (p + 4) G) by
    refine zW_to (H 9 0 (me (p + 4)) (by omega) (by omega) (by omega) (fun a h0 h1 => by omega)) rfl rfl (zset_self _ _).symm
  intro n
  induction n with
  | zero => intro k G h0 h1 h2; omega
  | succ n ih =>
  intro k G hk0 hk1 hk2 hG
  refine z_L4I (pc' := 5) dX3_hasRoom_3 rfl ?_
  refine z_bipush (pc' := 7) dX3_hasRoom_5 rfl (by decide) ?_
  refine z_icmp_ge (tgt := 62) (pc' := 10) dX3_hasRoom_7 (by decide) rfl (fun h7 => ?_) (fun h7 => ?_)
  · refine z_iconst (pc' := 63) dX3_hasRoom_62 rfl (by unfold zin; decide) ?_
    refine z_zreturn rfl rfl dX3_hasRoom_63 (by omega) ?_
    exact hQ1 (fun a ha0 ha1 => by have := hG a ha0 (by omega); omega) _
  · refine z_L0R (pc' := 11) dX3_hasRoom_10 rfl ?_
    refine z_getR (pc' := 14) (ki := 3) 3 fX3_21.l rfl rfl dX3_hasRoom_11 rfl hp.s hp.p3 ?_
    refine z_L4I (pc' := 16) dX3_hasRoom_14 rfl ?_
    refine z_L4I (pc' := 18) dX3_hasRoom_16 rfl ?_
    refine z_L2I (pc' := 19) dX3_hasRoom_18 rfl ?_
    refine z_icmp_ne (tgt := 26) (pc' := 22) dX3_hasRoom_19 (by decide) rfl (fun h19 => ?_) (fun h19 => ?_)
    · refine z_L0R (pc' := 27) dX3_hasRoom_26 rfl ?_
      refine z_L1R (pc' := 28) dX3_hasRoom_27 rfl ?_
      refine z_L4I (pc' := 30) dX3_hasRoom_28 rfl ?_
      refine z_V2v (pc' := 33) (ci := 3) kX3_growthByCalls lX3_97 dX3_hasRoom_30 rfl (by omega) (Nat.le_of_ble_eq_true rfl) (by decide) rfl hp.s ?_
      have e1 : zset me (p + 4) G (f + 1) = me (f + 1) := zset_ne _ _ _ (by omega)
      have e2 : zset me (p + 4) G (f + 2) = me (f + 2) := zset_ne _ _ _ (by omega)
      refine c_growth (by omega) hp hf hk0 (by omega) (by rw [e1, e2]; exact hv) (fun a h0 h1 => by rw [zset_eq]; exact ⟨(hG a h0 h1).2.1, (hG a h0 h1).2.2.1⟩) (zKv_i ?_)
      rw [e1, e2, zset_eq]
      have hgk : ∃ y, y = zgw (me (f + 1)) (me (f + 2)) fi x k ∧ 0 ≤ y ∧ y ≤ 1200 := ⟨_, rfl, by
        by_cases e : k = fi
        · rw [e, zgw_fi]; omega
        · have hvk := hv k hk0 (by omega)
          rw [zgw_eq hv hk0 (by omega) e]
          have := zgs_bd (cd := me (f + 2)) (g := zgw (me (f + 1)) (me (f + 2)) fi x) (k := k) (b := 120) (by omega) (me (f + 1) k).toNat (fun i hi hc => by
            have hvi := hvk.2.2 (i : Int) (by omega) (by omega)
            unfold zvm at hvi
            have := hG (me (f + 2) (k * 10 + (i : Int)) / 10 % 10) (by omega) (by omega)
            rw [← this.1]; exact ⟨this.2.1, this.2.2.1⟩)
          omega⟩
      obtain ⟨y, hy, hy0, hy1⟩ := hgk
      have hlk := hl k hk0 (by omega)
      have hck : me (p + 1) k = ((zsteps (me (f + 1)) (me (f + 2)) k).length : Int) := (hR k hk0 (by omega)).1
      refine zW_to (st := [zI y, zI k, zR (p + 4)]) ?_ rfl (by
        first
        | rw [show x = y by rw [hy, ← h19, h19, zgw_fi]]
        | rw [show zgs (me (f + 2)) G k (me (f + 1) k).toNat = y by
            rw [hy, zgw_eq hv hk0 (by omega) h19]
            refine zgs_congr _ (fun i hi hc => ?_)
            have hvi := (hv k hk0 (by omega)).2.2 (i : Int) (by omega) (by omega)
            unfold zvm at hvi
            exact (hG _ (by omega) (by omega)).1]) rfl
      refine z_ist (pc' := 34) dX3_hasRoom_33 rfl (by first | exact hp.a1 | exact hp.a2 | exact hp.a3 | exact hp.a4 | exact hf.a1 | exact hf.a2) (by omega) (by omega) ?_
      rw [zset_eq, zset_11]
      refine z_L0R (pc' := 35) dX3_hasRoom_34 rfl ?_
      refine z_getR (pc' := 38) (ki := 0) 0 fX3_9.l rfl rfl dX3_hasRoom_35 rfl hp.s hp.p0 ?_
      refine z_L4I (pc' := 40) dX3_hasRoom_38 rfl ?_
      refine z_ild (pc' := 41) dX3_hasRoom_40 rfl (by first | exact hp.a1 | exact hp.a2 | exact hp.a3 | exact hp.a4 | exact hf.a1 | exact hf.a2) (by omega) (by omega) ?_
      rw [zset_ne _ _ _ (show p + 1 ≠ p + 4 by omega), hck]
      refine z_L0R (pc' := 42) dX3_hasRoom_41 rfl ?_
      refine z_getR (pc' := 45) (ki := 3) 3 fX3_21.l rfl rfl dX3_hasRoom_42 rfl hp.s hp.p3 ?_
      refine z_L4I (pc' := 47) dX3_hasRoom_45 rfl ?_
      refine z_ild (pc' := 48) dX3_hasRoom_47 rfl (by first | exact hp.a1 | exact hp.a2 | exact hp.a3 | exact hp.a4 | exact hf.a1 | exact hf.a2) (by omega) (by omega) ?_
      rw [zset_eq, zup_eq]
      refine z_iadd (pc' := 49) dX3_hasRoom_48 rfl (by unfold zin; omega) ?_
      refine z_bipush (pc' := 51) dX3_hasRoom_49 rfl (by decide) ?_
      refine z_icmp_le (tgt := 56) (pc' := 54) dX3_hasRoom_51 (by decide) rfl (fun h51 => ?_) (fun h51 => ?_)
      · refine z_inc4 (pc' := 59) rfl dX3_hasRoom_56 rfl (by unfold zin; omega) ?_
        refine z_goto (tgt := 3) dX3_hasRoom_59 (by decide) ?_
        exact ih (k + 1) (zup G k y) (by omega) (by omega) (by omega) (fun a ha0 ha1 => by
          by_cases e : a = k
          · subst e; rw [zup_eq]; exact ⟨hy, hy0, by omega, by omega⟩
          · rw [zup_ne _ _ _ e]; exact hG a ha0 (by omega))
      · refine z_iconst (pc' := 55) dX3_hasRoom_54 rfl (by unfold zin; decide) ?_
        refine z_zreturn rfl rfl dX3_hasRoom_55 (by omega) ?_
        exact hQ0 (fun z => by have := z k hk0 (by omega); omega) _
    · refine z_L3I (pc' := 23) dX3_hasRoom_22 rfl ?_
      refine z_goto (tgt := 33) dX3_hasRoom_23 (by decide) ?_
      have hgk : ∃ y, y = zgw (me (f + 1)) (me (f + 2)) fi x k ∧ 0 ≤ y ∧ y ≤ 1200 := ⟨_, rfl, by
        by_cases e : k = fi
        · rw [e, zgw_fi]; omega
        · have hvk := hv k hk0 (by omega)
          rw [zgw_eq hv hk0 (by omega) e]
          have := zgs_bd (cd := me (f + 2)) (g := zgw (me (f + 1)) (me (f + 2)) fi x) (k := k) (b := 120) (by omega) (me (f + 1) k).toNat (fun i hi hc => by
            have hvi := hvk.2.2 (i : Int) (by omega) (by omega)
            unfold zvm at hvi
            have := hG (me (f + 2) (k * 10 + (i : Int)) / 10 % 10) (by omega) (by omega)
            rw [← this.1]; exact ⟨this.2.1, this.2.2.1⟩)
          omega⟩
      obtain ⟨y, hy, hy0, hy1⟩ := hgk
      have hlk := hl k hk0 (by omega)
      have hck : me (p + 1) k = ((zsteps (me (f + 1)) (me (f + 2)) k).length : Int) := (hR k hk0 (by omega)).1
      refine zW_to (st := [zI y, zI k, zR (p + 4)]) ?_ rfl (by
        first
        | rw [show x = y by rw [hy, ← h19, h19, zgw_fi]]
        | rw [show zgs (me (f + 2)) G k (me (f + 1) k).toNat = y by
            rw [hy, zgw_eq hv hk0 (by omega) h19]
            refine zgs_congr _ (fun i hi hc => ?_)
            have hvi := (hv k hk0 (by omega)).2.2 (i : Int) (by omega) (by omega)
            unfold zvm at hvi
            exact (hG _ (by omega) (by omega)).1]) rfl
      refine z_ist (pc' := 34) dX3_hasRoom_33 rfl (by first | exact hp.a1 | exact hp.a2 | exact hp.a3 | exact hp.a4 | exact hf.a1 | exact hf.a2) (by omega) (by omega) ?_
      rw [zset_eq, zset_11]
      refine z_L0R (pc' := 35) dX3_hasRoom_34 rfl ?_
      refine z_getR (pc' := 38) (ki := 0) 0 fX3_9.l rfl rfl dX3_hasRoom_35 rfl hp.s hp.p0 ?_
      refine z_L4I (pc' := 40) dX3_hasRoom_38 rfl ?_
      refine z_ild (pc' := 41) dX3_hasRoom_40 rfl (by first | exact hp.a1 | exact hp.a2 | exact hp.a3 | exact hp.a4 | exact hf.a1 | exact hf.a2) (by omega) (by omega) ?_
      rw [zset_ne _ _ _ (show p + 1 ≠ p + 4 by omega), hck]
      refine z_L0R (pc' := 42) dX3_hasRoom_41 rfl ?_
      refine z_getR (pc' := 45) (ki := 3) 3 fX3_21.l rfl rfl dX3_hasRoom_42 rfl hp.s hp.p3 ?_
      refine z_L4I (pc' := 47) dX3_hasRoom_45 rfl ?_
      refine z_ild (pc' := 48) dX3_hasRoom_47 rfl (by first | exact hp.a1 | exact hp.a2 | exact hp.a3 | exact hp.a4 | exact hf.a1 | exact hf.a2) (by omega) (by omega) ?_
      rw [zset_eq, zup_eq]
      refine z_iadd (pc' := 49) dX3_hasRoom_48 rfl (by unfold zin; omega) ?_
      refine z_bipush (pc' := 51) dX3_hasRoom_49 rfl (by decide) ?_
      refine z_icmp_le (tgt := 56) (pc' := 54) dX3_hasRoom_51 (by decide) rfl (fun h51 => ?_) (fun h51 => ?_)
      · refine z_inc4 (pc' := 59) rfl dX3_hasRoom_56 rfl (by unfold zin; omega) ?_
        refine z_goto (tgt := 3) dX3_hasRoom_59 (by decide) ?_
        exact ih (k + 1) (zup G k y) (by omega) (by omega) (by omega) (fun a ha0 ha1 => by
          by_cases e : a = k
          · subst e; rw [zup_eq]; exact ⟨hy, hy0, by omega, by omega⟩
          · rw [zup_ne _ _ _ e]; exact hG a ha0 (by omega))
      · refine z_iconst (pc' := 55) dX3_hasRoom_54 rfl (by unfold zin; decide) ?_
        refine z_zreturn rfl rfl dX3_hasRoom_55 (by omega) ?_
        exact hQ0 (fun z => by have := z k hk0 (by omega); omega) _
def zord (L : List Int) (b : Int) : List Int := if b = 0 then L else L.reverse.map zund
theorem zord_len (L : List Int) (b : Int) : (zord L b).length = L.length := by unfold zord; split <;> simp
theorem zord_vs {L : List Int} {b : Int} (h : ∀ c ∈ L, zvs c ∧ c < 400) : ∀ c ∈ zord L b, zvs c := by
  unfold zord
  split
  · exact fun c hc => (h c hc).1
  · intro c hc
    obtain ⟨c', h1, rfl⟩ := List.mem_map.mp hc
    exact zund_vs (h c' (List.mem_reverse.mp h1)).1
set_option maxRecDepth 100000 in
set_option maxHeartbeats 1000000 in
theorem c_stepInOrder {d : Nat} {sp : zSP} {me : zMe} {Q : zQ} {p : Nat} {k b cm : Int} {i : Nat} {L : List Int} (hd : 2 ≤ d) (hp : zPlan sp p) (hk0 : 0 ≤ k) (hk1 : k < 8) (hK : zPk me p k L cm) (hvL : ∀ c ∈ L, zvs c ∧ c < 400) (hi : i < L.length) (hl : L.length ≤ 120) (hQ : Q (some (zI ((zord L b).getD i 0))) sp me) : zCall mX3_stepInOrder d 0 0 [zR p, zI k, zI (i : Int), zI b] sp me Q := by
  refine z_met kX3_stepInOrder (by simp) (by simp) ?_
  show zW mX3_stepInOrder d 0 0 Q 0 [zR p, zI k, zI (i : Int), zI b, zU] [] sp me
  obtain ⟨hK1, hK2, hK3, hK4, hK5⟩ := hK
  unfold zord at hQ
  refine z_L1I (pc' := 1) dX3_stepInOrder_0 rfl ?_
  refine z_bipush (pc' := 3) dX3_stepInOrder_1 rfl (by decide) ?_
  refine z_imul (pc' := 4) dX3_stepInOrder_3 rfl (by unfold zin; omega) ?_
  refine z_S4I (pc' := 6) rfl dX3_stepInOrder_4 rfl ?_
  refine z_L3I (pc' := 7) dX3_stepInOrder_6 rfl ?_
  refine z_if_eq (tgt := 35) (pc' := 10) dX3_stepInOrder_7 (by decide) rfl (fun h7 => ?_) (fun h7 => ?_)
  · refine z_L0R (pc' := 36) dX3_stepInOrder_35 rfl ?_
    refine z_getR (pc' := 39) (ki := 1) 1 fX3_15.l rfl rfl dX3_stepInOrder_36 rfl hp.s hp.p1 ?_
    refine z_L4I (pc' := 41) dX3_stepInOrder_39 rfl ?_
    refine z_L2I (pc' := 42) dX3_stepInOrder_41 rfl ?_
    refine z_iadd (pc' := 43) dX3_stepInOrder_42 rfl (by unfold zin; omega) ?_
    refine z_S2v (pc' := 46) kX8_read lX3_75 dX3_stepInOrder_43 rfl (by omega) (Nat.le_of_ble_eq_true rfl) ?_
    refine c_read hp.a2 (zKv_i ?_)
    rw [hK2 i hi]
    refine z_ireturn rfl rfl dX3_stepInOrder_46 ?_
    first
    | (rw [if_pos h7] at hQ; exact hQ)
    | (rw [if_neg h7] at hQ
       have e3 : (L.reverse.map zund).getD i 0 = zund (L.getD (L.length - 1 - i) 0) := by
         simp only [List.getD_eq_getElem?_getD]
         rw [List.getElem?_map, List.getElem?_reverse hi, List.getElem?_eq_getElem (by omega)]
         rfl
       rw [e3] at hQ
       exact hQ)
  · refine z_L0R (pc' := 11) dX3_stepInOrder_10 rfl ?_
    refine z_getR (pc' := 14) (ki := 1) 1 fX3_15.l rfl rfl dX3_stepInOrder_11 rfl hp.s hp.p1 ?_
    refine z_L4I (pc' := 16) dX3_stepInOrder_14 rfl ?_
    refine z_L0R (pc' := 17) dX3_stepInOrder_16 rfl ?_
    refine z_L1I (pc' := 18) dX3_stepInOrder_17 rfl ?_
    refine z_V1v (pc' := 21) (ci := 3) kX3_stepCount lX3_72 dX3_stepInOrder_18 rfl (by omega) (Nat.le_of_ble_eq_true rfl) (by decide) rfl hp.s ?_
    refine c_stepCount (by omega) hp (zKv_i ?_)
    rw [hK1]
    refine z_iadd (pc' := 22) dX3_stepInOrder_21 rfl (by unfold zin; omega) ?_
    refine z_iconst (pc' := 23) dX3_stepInOrder_22 rfl (by unfold zin; decide) ?_
    refine z_isub (pc' := 24) dX3_stepInOrder_23 rfl (by unfold zin; omega) ?_
    refine z_L2I (pc' := 25) dX3_stepInOrder_24 rfl ?_
    refine z_isub (pc' := 26) dX3_stepInOrder_25 rfl (by unfold zin; omega) ?_
    refine z_S2v (pc' := 29) kX8_read lX3_75 dX3_stepInOrder_26 rfl (by omega) (Nat.le_of_ble_eq_true rfl) ?_
    refine c_read hp.a2 (zKv_i ?_)
    have e1 : me (p + 2) (k * 120 + (L.length : Int) - 1 - (i : Int)) = L.getD (L.length - 1 - i) 0 := by
      rw [← hK2 (L.length - 1 - i) (by omega)]
      congr 1
      omega
    rw [e1]
    have e2 : L.getD (L.length - 1 - i) 0 ∈ L := by
      simp only [List.getD_eq_getElem?_getD]
      rw [List.getElem?_eq_getElem (by omega)]
      exact List.getElem_mem _
    refine z_S1v (pc' := 32) kX8_undoing lX3_90 dX3_stepInOrder_29 rfl (by omega) (Nat.le_of_ble_eq_true rfl) ?_
    refine c_undoing (by omega) (hvL _ e2).1 (zKv_i ?_)
    refine z_goto (tgt := 46) dX3_stepInOrder_32 (by decide) ?_
    refine z_ireturn rfl rfl dX3_stepInOrder_46 ?_
    first
    | (rw [if_pos h7] at hQ; exact hQ)
    | (rw [if_neg h7] at hQ
       have e3 : (L.reverse.map zund).getD i 0 = zund (L.getD (L.length - 1 - i) 0) := by
         simp only [List.getD_eq_getElem?_getD]
         rw [List.getElem?_map, List.getElem?_reverse hi, List.getElem?_eq_getElem (by omega)]
         rfl
       rw [e3] at hQ
       exact hQ)
def zclr (g : Int → Int) (k : Int) : Nat → Int
  | 0 => 0
  | n + 1 => if zand (g (n : Int)) (1 * 2 ^ k.toNat) ≠ 0 then zor (zclr g k n) (1 * 2 ^ (n : Int).toNat) else zclr g k n
set_option maxRecDepth 100000 in
set_option maxHeartbeats 1000000 in
theorem c_callersOf {d : Nat} {sp : zSP} {me : zMe} {Q : zQ} {p : Nat} {k : Int} (hp : zPlan sp p) (hk0 : 0 ≤ k) (hk1 : k < 8) (hQ : Q (some (zI (zclr (me (p + 3)) k 8))) sp me) : zCall mX3_callersOf d 0 0 [zR p, zI k] sp me Q := by
  refine z_met kX3_callersOf (by simp) (by simp) ?_
  show zW mX3_callersOf d 0 0 Q 0 [zR p, zI k, zU, zU] [] sp me
  have hpk := zpow hk0 (show k < 10 by omega)
  refine z_iconst (pc' := 1) dX3_callersOf_0 rfl (by unfold zin; decide) ?_
  refine z_S2I (pc' := 2) rfl dX3_callersOf_1 rfl ?_
  refine z_iconst (pc' := 3) dX3_callersOf_2 rfl (by unfold zin; decide) ?_
  refine z_S3I (pc' := 4) rfl dX3_callersOf_3 rfl ?_
  suffices H : ∀ (n j : Nat), j ≤ 8 → 8 - j < n → zW mX3_callersOf d 0 0 Q 4 [zR p, zI k, zI (zclr (me (p + 3)) k j), zI (j : Int)] [] sp me by
    exact H 9 0 (by omega) (by omega)
  intro n
  induction n with
  | zero => intro j h1 h2; omega
  | succ n ih =>
  intro j hj0 hj1
  have hpj := zpow (a := (j : Int)) (by omega) (show (j : Int) < 10 by omega)
  refine z_L3I (pc' := 5) dX3_callersOf_4 rfl ?_
  refine z_bipush (pc' := 7) dX3_callersOf_5 rfl (by decide) ?_
  refine z_icmp_ge (tgt := 35) (pc' := 10) dX3_callersOf_7 (by decide) rfl (fun h7 => ?_) (fun h7 => ?_)
  · obtain rfl : j = 8 := by omega
    refine z_L2I (pc' := 36) dX3_callersOf_35 rfl ?_
    refine z_ireturn rfl rfl dX3_callersOf_36 ?_
    exact hQ
  · refine z_L0R (pc' := 11) dX3_callersOf_10 rfl ?_
    refine z_getR (pc' := 14) (ki := 2) 2 fX3_18.l rfl rfl dX3_callersOf_11 rfl hp.s hp.p2 ?_
    refine z_L3I (pc' := 15) dX3_callersOf_14 rfl ?_
    refine z_ild (pc' := 16) dX3_callersOf_15 rfl (by first | exact hp.a1 | exact hp.a2 | exact hp.a3 | exact hp.a4) (by omega) (by omega) ?_
    refine z_iconst (pc' := 17) dX3_callersOf_16 rfl (by unfold zin; decide) ?_
    refine z_L1I (pc' := 18) dX3_callersOf_17 rfl ?_
    refine z_ishl (pc' := 19) dX3_callersOf_18 rfl (by omega) (by omega) (by omega) (by unfold zin; omega) ?_
    refine z_iand (pc' := 20) dX3_callersOf_19 rfl ?_
    refine z_if_eq (tgt := 29) (pc' := 23) dX3_callersOf_20 (by decide) rfl (fun h20 => ?_) (fun h20 => ?_)
    · refine z_inc3 (pc' := 32) rfl dX3_callersOf_29 rfl (by unfold zin; omega) ?_
      refine z_goto (tgt := 4) dX3_callersOf_32 (by decide) ?_
      refine zW_to (ih (j + 1) (by omega) (by omega)) (by
        have e : zclr (me (p + 3)) k (j + 1) = if zand (me (p + 3) (j : Int)) (1 * 2 ^ k.toNat) ≠ 0 then zor (zclr (me (p + 3)) k j) (1 * 2 ^ (j : Int).toNat) else zclr (me (p + 3)) k j := rfl
        rw [e]
        first | (rw [if_pos h20]; rfl) | (rw [if_neg (fun z => z h20)]; rfl)) rfl rfl
    · refine z_L2I (pc' := 24) dX3_callersOf_23 rfl ?_
      refine z_iconst (pc' := 25) dX3_callersOf_24 rfl (by unfold zin; decide) ?_
      refine z_L3I (pc' := 26) dX3_callersOf_25 rfl ?_
      refine z_ishl (pc' := 27) dX3_callersOf_26 rfl (by omega) (by omega) (by omega) (by unfold zin; omega) ?_
      refine z_ior (pc' := 28) dX3_callersOf_27 rfl ?_
      refine z_S2I (pc' := 29) rfl dX3_callersOf_28 rfl ?_
      refine z_inc3 (pc' := 32) rfl dX3_callersOf_29 rfl (by unfold zin; omega) ?_
      refine z_goto (tgt := 4) dX3_callersOf_32 (by decide) ?_
      refine zW_to (ih (j + 1) (by omega) (by omega)) (by
        have e : zclr (me (p + 3)) k (j + 1) = if zand (me (p + 3) (j : Int)) (1 * 2 ^ k.toNat) ≠ 0 then zor (zclr (me (p + 3)) k j) (1 * 2 ^ (j : Int).toNat) else zclr (me (p + 3)) k j := rfl
        rw [e]
        first | (rw [if_pos h20]; rfl) | (rw [if_neg (fun z => z h20)]; rfl)) rfl rfl
end ZPLAN3

