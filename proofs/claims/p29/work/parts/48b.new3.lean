section ZNY
theorem zXR_1 : ∀ c sp me, zXR c sp me → (sp.1 c).1 = 10 + 4 := fun _ _ _ h => h.1.s
theorem zXS_1 : ∀ c sp me, zXS c sp me → (sp.1 c).1 = 10 + 7 := fun _ _ _ h => h.1.s
set_option maxRecDepth 100000 in
set_option maxHeartbeats 1000000 in
theorem n_his0 {d : Nat} {sp : zSP} {me : zMe} {Q : zQ} {a : Nat} (hd : 3 ≤ d) (hn : sp.2.2 = a) (hs : sp.1 a = (10 + 1, zN 1)) (hp : sp.2.1 a = (fun _ => none)) (hm : me a = (fun _ => 0)) (hQ : ∀ sp' me', sp'.2.2 = a + 56 → (∀ b, b < a → zEq sp sp' me me' b) → zXI a sp' me' → Q none sp' me') : zCall mX1_init d 56 765 [zR a] sp me Q := by
  refine z_met kX1_init (by simp) (by simp) ?_
  show zW mX1_init d 56 765 Q 0 [zR a, zU] [] sp me
  have hC0 := zCo_0 hn hm hp
  refine z_L0R (pc' := 1) dX1_init_0 rfl ?_
  refine z_objinit (pc' := 4) oX1_3 dX1_init_1 rfl (by omega) (Nat.le_of_ble_eq_true rfl) ?_
  refine z_L0R (pc' := 5) dX1_init_4 rfl ?_
  refine z_iconst (pc' := 6) dX1_init_5 rfl (by unfold zin; decide) ?_
  refine z_naA (N' := a + 1) (r1' := 55) (r2' := 760) (pc1 := 9) (pc' := 12) true 0 hC0 hs rfl aX1_9 dX1_init_6 rfl (by decide) (by decide) rfl rfl fX1_11 rfl ⟨_, rfl⟩ rfl rfl rfl dX1_init_9 rfl (fun sp1 me1 hC1 => ?_)
  refine z_L0R (pc' := 13) dX1_init_12 rfl ?_
  refine z_iconst (pc' := 14) dX1_init_13 rfl (by unfold zin; decide) ?_
  refine z_puC (pc' := 17) 1 hC1 hs rfl fX1_17.l (Or.inl rfl) rfl dX1_init_14 rfl ?_
  refine z_L0R (pc' := 18) dX1_init_17 rfl ?_
  refine z_iconst (pc' := 19) dX1_init_18 rfl (by unfold zin; decide) ?_
  refine z_puC (pc' := 22) 2 hC1 hs rfl fX1_21.l (Or.inl rfl) rfl dX1_init_19 rfl ?_
  refine z_iconst (pc' := 23) dX1_init_22 rfl (by unfold zin; decide) ?_
  refine z_S1I (pc' := 24) rfl dX1_init_23 rfl ?_
  suffices H : ∀ (n i : Nat) (sp' : zSP) (me' : zMe), i ≤ 5 → 5 - i < n → zAr (a + 1) (a + 2) (10 + 1) zXS i sp1 sp' me1 me' → zW mX1_init d (11 * (5 - i)) (152 * (5 - i)) Q 24 [zR a, zI (i : Int)] [] sp' me' by
    exact H 6 0 sp1 me1 (by omega) (by omega) (zAr_0 (by omega) (by rw [hC1.1]))
  intro n
  induction n with
  | zero => intro i sp' me' h0 h1; omega
  | succ n ih =>
  intro i sp' me' hi0 hi1 hA
  have hea := hA.2.2.1 a (by omega) (by omega)
  have hpa : sp'.2.1 a 0 = some (a + 1) := by rw [hea.2.1]; exact zCo.p hC1 rfl
  refine z_L1I (pc' := 25) dX1_init_24 rfl ?_
  refine z_iconst (pc' := 26) dX1_init_25 rfl (by unfold zin; decide) ?_
  refine z_icmp_ge (tgt := 48) (pc' := 29) dX1_init_26 (by decide) rfl (fun h26 => ?_) (fun h26 => ?_)
  · obtain rfl : i = 5 := by omega
    refine z_return rfl rfl dX1_init_48 ?_
    refine hQ sp' me' (by have := hA.2.1; omega) (fun b hb => (zCo.f hC1 b hb).tr (hA.2.2.1 b (by omega) (by omega))) ⟨⟨by rw [hea.1]; exact zCo.s hC1 hs, hpa, by rw [hA.2.2.2.1]; exact ((zCo.c hC1 List.mem_cons_self)).1, fun j j0 j1 => ?_⟩, by rw [hea.2.2, zCo.m hC1], by rw [hea.2.2, zCo.m hC1]⟩
    have h := hA.2.2.2.2.2 j.toNat (by omega)
    rw [show ((j.toNat : Nat) : Int) = j by omega] at h
    exact ⟨h.1, h.2.1⟩
  · refine z_L0R (pc' := 30) dX1_init_29 rfl ?_
    refine z_getR (pc' := 33) (ki := 0) 0 fX1_11.l rfl rfl dX1_init_30 rfl (by rw [hea.1, zCo.s hC1 hs]) hpa ?_
    refine z_L1I (pc' := 34) dX1_init_33 rfl ?_
    rw [show 11 * (5 - i) = 11 * (5 - (i + 1)) + (10 + 1) by omega, show 152 * (5 - i) = 152 * (5 - (i + 1)) + (146 + 6) by omega]
    refine z_arr (kd := 4) (n := 5) n_sta zXS_lc zXS_1 kX7_init rfl nX1_9 dX1_init_34 dX1_init_37 lX1_24 dX1_init_38 dX1_init_41 rfl (by omega) (Nat.le_of_ble_eq_true rfl) rfl rfl hA ((zCo.c hC1 List.mem_cons_self)).1 (Or.inr ⟨rfl, rfl⟩) (by omega) (fun sp2 me2 hA2 => ?_)
    refine z_inc1 (pc' := 45) rfl dX1_init_42 rfl (by unfold zin; omega) ?_
    refine z_goto (tgt := 24) dX1_init_45 (by decide) ?_
    exact ih (i + 1) sp2 me2 (by omega) (by omega) hA2
theorem n_his : zNew mX1_init 3 56 765 1 zXI := fun _ _ _ _ _ hd hn hs hp hm hQ => n_his0 hd hn hs hp hm hQ
set_option maxRecDepth 100000 in
set_option maxHeartbeats 1000000 in
theorem n_sea0 {d : Nat} {sp : zSP} {me : zMe} {Q : zQ} {a : Nat} (hd : 2 ≤ d) (hn : sp.2.2 = a) (hs : sp.1 a = (10 + 6, zN 6)) (hp : sp.2.1 a = (fun _ => none)) (hm : me a = (fun _ => 0)) (hQ : ∀ sp' me', sp'.2.2 = a + 22 → (∀ b, b < a → zEq sp sp' me me' b) → zXQ a sp' me' → Q none sp' me') : zCall mX6_init d 22 184 [zR a] sp me Q := by
  refine z_met kX6_init (by simp) (by simp) ?_
  show zW mX6_init d 22 184 Q 0 [zR a, zU] [] sp me
  have hC0 := zCo_0 hn hm hp
  refine z_L0R (pc' := 1) dX6_init_0 rfl ?_
  refine z_objinit (pc' := 4) oX6_3 dX6_init_1 rfl (by omega) (Nat.le_of_ble_eq_true rfl) ?_
  refine z_L0R (pc' := 5) dX6_init_4 rfl ?_
  refine z_iconst (pc' := 6) dX6_init_5 rfl (by unfold zin; decide) ?_
  refine z_naC (N' := a + 1) (r1' := 21) (r2' := 180) (pc1 := 8) (pc' := 11) false 0 hC0 hs rfl dX6_init_6 rfl (by decide) (by decide) rfl rfl fX6_9 rfl ⟨_, rfl⟩ rfl rfl rfl dX6_init_8 rfl (fun sp1 me1 hC1 => ?_)
  refine z_L0R (pc' := 12) dX6_init_11 rfl ?_
  refine z_iconst (pc' := 13) dX6_init_12 rfl (by unfold zin; decide) ?_
  refine z_naA (N' := a + 2) (r1' := 20) (r2' := 176) (pc1 := 16) (pc' := 19) false 1 hC1 hs rfl aX6_15 dX6_init_13 rfl (by decide) (by decide) rfl rfl fX6_17 rfl ⟨_, rfl⟩ rfl rfl rfl dX6_init_16 rfl (fun sp2 me2 hC2 => ?_)
  refine z_iconst (pc' := 20) dX6_init_19 rfl (by unfold zin; decide) ?_
  refine z_S1I (pc' := 21) rfl dX6_init_20 rfl ?_
  suffices H : ∀ (n i : Nat) (sp' : zSP) (me' : zMe), i ≤ 4 → 4 - i < n → zAr (a + 2) (a + 3) (4 + 1) zXR i sp2 sp' me2 me' → zW mX6_init d (5 * (4 - i)) (44 * (4 - i)) Q 21 [zR a, zI (i : Int)] [] sp' me' by
    exact H 5 0 sp2 me2 (by omega) (by omega) (zAr_0 (by omega) (by rw [hC2.1]))
  intro n
  induction n with
  | zero => intro i sp' me' h0 h1; omega
  | succ n ih =>
  intro i sp' me' hi0 hi1 hA
  have hea := hA.2.2.1 a (by omega) (by omega)
  have hpa : sp'.2.1 a 1 = some (a + 2) := by rw [hea.2.1]; exact zCo.p hC2 rfl
  refine z_L1I (pc' := 22) dX6_init_21 rfl ?_
  refine z_iconst (pc' := 23) dX6_init_22 rfl (by unfold zin; decide) ?_
  refine z_icmp_ge (tgt := 45) (pc' := 26) dX6_init_23 (by decide) rfl (fun h23 => ?_) (fun h23 => ?_)
  · obtain rfl : i = 4 := by omega
    refine z_return rfl rfl dX6_init_45 ?_
    refine hQ sp' me' (by have := hA.2.1; omega) (fun b hb => (zCo.f hC2 b hb).tr (hA.2.2.1 b (by omega) (by omega))) ⟨by rw [hea.1]; exact zCo.s hC2 hs, by rw [hea.2.1]; exact zCo.p hC2 rfl, hpa, by rw [(hA.2.2.1 (a + 1) (by omega) (by omega)).1]; exact ((zCo.c hC2 (List.mem_cons_of_mem _ List.mem_cons_self))).1, by rw [hA.2.2.2.1]; exact ((zCo.c hC2 List.mem_cons_self)).1, fun j j0 j1 => ?_⟩
    have h := hA.2.2.2.2.2 j.toNat (by omega)
    rw [show ((j.toNat : Nat) : Int) = j by omega] at h
    exact ⟨h.1, h.2.1⟩
  · refine z_L0R (pc' := 27) dX6_init_26 rfl ?_
    refine z_getR (pc' := 30) (ki := 1) 1 fX6_17.l rfl rfl dX6_init_27 rfl (by rw [hea.1, zCo.s hC2 hs]) hpa ?_
    refine z_L1I (pc' := 31) dX6_init_30 rfl ?_
    rw [show 5 * (4 - i) = 5 * (4 - (i + 1)) + (4 + 1) by omega, show 44 * (4 - i) = 44 * (4 - (i + 1)) + (40 + 4) by omega]
    refine z_arr (kd := 3) (n := 4) n_ring zXR_lc zXR_1 kX4_init rfl nX6_15 dX6_init_31 dX6_init_34 lX6_21 dX6_init_35 dX6_init_38 rfl (by omega) (Nat.le_of_ble_eq_true rfl) rfl rfl hA ((zCo.c hC2 List.mem_cons_self)).1 (Or.inl ⟨rfl, rfl⟩) (by omega) (fun sp3 me3 hA3 => ?_)
    refine z_inc1 (pc' := 42) rfl dX6_init_39 rfl (by unfold zin; omega) ?_
    refine z_goto (tgt := 21) dX6_init_42 (by decide) ?_
    exact ih (i + 1) sp3 me3 (by omega) (by omega) hA3
theorem n_sea : zNew mX6_init 2 22 184 6 zXQ := fun _ _ _ _ _ hd hn hs hp hm hQ => n_sea0 hd hn hs hp hm hQ
set_option maxRecDepth 100000 in
set_option maxHeartbeats 1000000 in
theorem n_plan0 {d : Nat} {sp : zSP} {me : zMe} {Q : zQ} {a : Nat} (hd : 2 ≤ d) (hn : sp.2.2 = a) (hs : sp.1 a = (10 + 3, zN 3)) (hp : sp.2.1 a = (fun _ => none)) (hm : me a = (fun _ => 0)) (hQ : ∀ sp' me', sp'.2.2 = a + 50 → (∀ b, b < a → zEq sp sp' me me' b) → zXP a sp' me' → Q none sp' me') : zCall mX3_init d 50 1388 [zR a] sp me Q := by
  refine z_met kX3_init (by simp) (by simp) ?_
  show zW mX3_init d 50 1388 Q 0 [zR a, zU] [] sp me
  have hC0 := zCo_0 hn hm hp
  refine z_L0R (pc' := 1) dX3_init_0 rfl ?_
  refine z_objinit (pc' := 4) oX3_3 dX3_init_1 rfl (by omega) (Nat.le_of_ble_eq_true rfl) ?_
  refine z_L0R (pc' := 5) dX3_init_4 rfl ?_
  refine z_bipush (pc' := 7) dX3_init_5 rfl (by decide) ?_
  refine z_naC (N' := a + 1) (r1' := 49) (r2' := 1380) (pc1 := 9) (pc' := 12) false 0 hC0 hs rfl dX3_init_7 rfl (by decide) (by decide) rfl rfl fX3_9 rfl ⟨_, rfl⟩ rfl rfl rfl dX3_init_9 rfl (fun sp1 me1 hC1 => ?_)
  refine z_L0R (pc' := 13) dX3_init_12 rfl ?_
  refine z_sipush (pc' := 16) dX3_init_13 rfl (by decide) ?_
  refine z_naC (N' := a + 2) (r1' := 48) (r2' := 420) (pc1 := 18) (pc' := 21) false 1 hC1 hs rfl dX3_init_16 rfl (by decide) (by decide) rfl rfl fX3_15 rfl ⟨_, rfl⟩ rfl rfl rfl dX3_init_18 rfl (fun sp2 me2 hC2 => ?_)
  refine z_L0R (pc' := 22) dX3_init_21 rfl ?_
  refine z_bipush (pc' := 24) dX3_init_22 rfl (by decide) ?_
  refine z_naC (N' := a + 3) (r1' := 47) (r2' := 412) (pc1 := 26) (pc' := 29) false 2 hC2 hs rfl dX3_init_24 rfl (by decide) (by decide) rfl rfl fX3_18 rfl ⟨_, rfl⟩ rfl rfl rfl dX3_init_26 rfl (fun sp3 me3 hC3 => ?_)
  refine z_L0R (pc' := 30) dX3_init_29 rfl ?_
  refine z_bipush (pc' := 32) dX3_init_30 rfl (by decide) ?_
  refine z_naC (N' := a + 4) (r1' := 46) (r2' := 404) (pc1 := 34) (pc' := 37) false 3 hC3 hs rfl dX3_init_32 rfl (by decide) (by decide) rfl rfl fX3_21 rfl ⟨_, rfl⟩ rfl rfl rfl dX3_init_34 rfl (fun sp4 me4 hC4 => ?_)
  refine z_L0R (pc' := 38) dX3_init_37 rfl ?_
  refine z_bipush (pc' := 40) dX3_init_38 rfl (by decide) ?_
  refine z_naA (N' := a + 5) (r1' := 45) (r2' := 396) (pc1 := 43) (pc' := 46) false 4 hC4 hs rfl aX3_24 dX3_init_40 rfl (by decide) (by decide) rfl rfl fX3_26 rfl ⟨_, rfl⟩ rfl rfl rfl dX3_init_43 rfl (fun sp5 me5 hC5 => ?_)
  refine z_L0R (pc' := 47) dX3_init_46 rfl ?_
  refine z_nwC (z := a + 6) (N' := a + 10) (r1' := 40) (r2' := 352) (pc' := 57) 5 hC5 hs (by omega) (by omega) n_ring zXR_lc kX4_init rfl nX3_24 dX3_init_47 dX3_init_50 lX3_30 dX3_init_51 (by omega) (Nat.le_of_ble_eq_true rfl) rfl rfl fX3_31 rfl ⟨_, rfl⟩ rfl rfl rfl dX3_init_54 rfl (fun sp6 me6 hC6 => ?_)
  refine z_iconst (pc' := 58) dX3_init_57 rfl (by unfold zin; decide) ?_
  refine z_S1I (pc' := 59) rfl dX3_init_58 rfl ?_
  suffices H : ∀ (n i : Nat) (sp' : zSP) (me' : zMe), i ≤ 8 → 8 - i < n → zAr (a + 5) (a + 11) (4 + 1) zXR i sp6 sp' me6 me' → zW mX3_init d (5 * (8 - i)) (44 * (8 - i)) Q 59 [zR a, zI (i : Int)] [] sp' me' by
    exact H 9 0 sp6 me6 (by omega) (by omega) (zAr_0 (by omega) (by rw [hC6.1]))
  intro n
  induction n with
  | zero => intro i sp' me' h0 h1; omega
  | succ n ih =>
  intro i sp' me' hi0 hi1 hA
  have hea := hA.2.2.1 a (by omega) (by omega)
  have hpa : sp'.2.1 a 4 = some (a + 5) := by rw [hea.2.1]; exact zCo.p hC6 rfl
  refine z_L1I (pc' := 60) dX3_init_59 rfl ?_
  refine z_bipush (pc' := 62) dX3_init_60 rfl (by decide) ?_
  refine z_icmp_ge (tgt := 84) (pc' := 65) dX3_init_62 (by decide) rfl (fun h62 => ?_) (fun h62 => ?_)
  · obtain rfl : i = 8 := by omega
    refine z_return rfl rfl dX3_init_84 ?_
    have e1 := hA.2.2.1 (a + 1) (by omega) (by omega)
    have e2 := hA.2.2.1 (a + 2) (by omega) (by omega)
    have e3 := hA.2.2.1 (a + 3) (by omega) (by omega)
    have e4 := hA.2.2.1 (a + 4) (by omega) (by omega)
    have hno : zXR (a + 6) sp' me' := zXR_lc (a + 6) sp6 sp' me6 me' (fun b g1 g2 => hA.2.2.1 b (by omega) (by omega)) ((zCo.c hC6 List.mem_cons_self))
    refine hQ sp' me' (by have := hA.2.1; omega) (fun b hb => (zCo.f hC6 b hb).tr (hA.2.2.1 b (by omega) (by omega))) ⟨⟨by rw [hea.1]; exact zCo.s hC6 hs, by rw [hea.2.1]; exact zCo.p hC6 rfl, by rw [hea.2.1]; exact zCo.p hC6 rfl, by rw [hea.2.1]; exact zCo.p hC6 rfl, by rw [hea.2.1]; exact zCo.p hC6 rfl, hpa, by rw [hea.2.1]; exact zCo.p hC6 rfl, by rw [e1.1]; exact ((zCo.c hC6 (List.mem_cons_of_mem _ (List.mem_cons_of_mem _ (List.mem_cons_of_mem _ (List.mem_cons_of_mem _ (List.mem_cons_of_mem _ List.mem_cons_self))))))).1, by rw [e2.1]; exact ((zCo.c hC6 (List.mem_cons_of_mem _ (List.mem_cons_of_mem _ (List.mem_cons_of_mem _ (List.mem_cons_of_mem _ List.mem_cons_self)))))).1, by rw [e3.1]; exact ((zCo.c hC6 (List.mem_cons_of_mem _ (List.mem_cons_of_mem _ (List.mem_cons_of_mem _ List.mem_cons_self))))).1, by rw [e4.1]; exact ((zCo.c hC6 (List.mem_cons_of_mem _ (List.mem_cons_of_mem _ List.mem_cons_self)))).1, by rw [hA.2.2.2.1]; exact ((zCo.c hC6 (List.mem_cons_of_mem _ List.mem_cons_self))).1, hno.1, fun j j0 j1 => ?_⟩, fun j j0 j1 => ?_⟩
    · have h := hA.2.2.2.2.2 j.toNat (by omega)
      rw [show ((j.toNat : Nat) : Int) = j by omega] at h
      exact ⟨h.1, h.2.1⟩
    · have h := hA.2.2.2.2.2 j.toNat (by omega)
      exact ⟨by rw [e1.2.2, ((zCo.c hC6 (List.mem_cons_of_mem _ (List.mem_cons_of_mem _ (List.mem_cons_of_mem _ (List.mem_cons_of_mem _ (List.mem_cons_of_mem _ List.mem_cons_self))))))).2]; rfl, fun i hi => absurd hi (Nat.not_lt_zero i), by rw [e3.2.2, ((zCo.c hC6 (List.mem_cons_of_mem _ (List.mem_cons_of_mem _ (List.mem_cons_of_mem _ List.mem_cons_self))))).2]; rfl, h.2.2.1, h.2.2.2⟩
  · refine z_L0R (pc' := 66) dX3_init_65 rfl ?_
    refine z_getR (pc' := 69) (ki := 4) 4 fX3_26.l rfl rfl dX3_init_66 rfl (by rw [hea.1, zCo.s hC6 hs]) hpa ?_
    refine z_L1I (pc' := 70) dX3_init_69 rfl ?_
    rw [show 5 * (8 - i) = 5 * (8 - (i + 1)) + (4 + 1) by omega, show 44 * (8 - i) = 44 * (8 - (i + 1)) + (40 + 4) by omega]
    refine z_arr (kd := 3) (n := 8) n_ring zXR_lc zXR_1 kX4_init rfl nX3_24 dX3_init_70 dX3_init_73 lX3_30 dX3_init_74 dX3_init_77 rfl (by omega) (Nat.le_of_ble_eq_true rfl) rfl rfl hA ((zCo.c hC6 (List.mem_cons_of_mem _ List.mem_cons_self))).1 (Or.inl ⟨rfl, rfl⟩) (by omega) (fun sp7 me7 hA7 => ?_)
    refine z_inc1 (pc' := 81) rfl dX3_init_78 rfl (by unfold zin; omega) ?_
    refine z_goto (tgt := 59) dX3_init_81 (by decide) ?_
    exact ih (i + 1) sp7 me7 (by omega) (by omega) hA7
theorem n_plan : zNew mX3_init 2 50 1388 3 zXP := fun _ _ _ _ _ hd hn hs hp hm hQ => n_plan0 hd hn hs hp hm hQ
set_option maxRecDepth 100000 in
set_option maxHeartbeats 1000000 in
theorem n_obj0 {d : Nat} {sp : zSP} {me : zMe} {Q : zQ} {a : Nat} (hd : 4 ≤ d) (hn : sp.2.2 = a) (hs : sp.1 a = (10 + 8, zN 8)) (hp : sp.2.1 a = (fun _ => none)) (hm : me a = (fun _ => 0)) (hQ : ∀ sp' me', sp'.2.2 = a + 165 → (∀ b, b < a → zEq sp sp' me me' b) → zXO a sp' me' → Q none sp' me') : zCall mX8_init d 165 2822 [zR a] sp me Q := by
  refine z_met kX8_init (by simp) (by simp) ?_
  show zW mX8_init d 165 2822 Q 0 [zR a] [] sp me
  have hC0 := zCo_0 hn hm hp
  refine z_L0R (pc' := 1) dX8_init_0 rfl ?_
  refine z_objinit (pc' := 4) oX8_1 dX8_init_1 rfl (by omega) (Nat.le_of_ble_eq_true rfl) ?_
  refine z_L0R (pc' := 5) dX8_init_4 rfl ?_
  refine z_nwC (z := a + 1) (N' := a + 11) (r1' := 154) (r2' := 2670) (pc' := 15) 0 hC0 hs (by omega) (by omega) n_sta zXS_lc kX7_init rfl nX8_7 dX8_init_5 dX8_init_8 lX8_9 dX8_init_9 (by omega) (Nat.le_of_ble_eq_true rfl) rfl rfl fX8_10 rfl ⟨_, rfl⟩ rfl rfl rfl dX8_init_12 rfl (fun sp1 me1 hC1 => ?_)
  refine z_L0R (pc' := 16) dX8_init_15 rfl ?_
  refine z_nwC (z := a + 12) (N' := a + 22) (r1' := 143) (r2' := 2518) (pc' := 26) 1 hC1 hs (by omega) (by omega) n_sta zXS_lc kX7_init rfl nX8_7 dX8_init_16 dX8_init_19 lX8_9 dX8_init_20 (by omega) (Nat.le_of_ble_eq_true rfl) rfl rfl fX8_16 rfl ⟨_, rfl⟩ rfl rfl rfl dX8_init_23 rfl (fun sp2 me2 hC2 => ?_)
  refine z_L0R (pc' := 27) dX8_init_26 rfl ?_
  refine z_iconst (pc' := 28) dX8_init_27 rfl (by unfold zin; decide) ?_
  refine z_puC (pc' := 31) 2 hC2 hs rfl fX8_19.l (Or.inr rfl) rfl dX8_init_28 rfl ?_
  refine z_L0R (pc' := 32) dX8_init_31 rfl ?_
  refine z_nwC (z := a + 23) (N' := a + 79) (r1' := 86) (r2' := 1750) (pc' := 42) 3 hC2 hs (by omega) (by omega) n_his zXI_lc kX1_init rfl nX8_23 dX8_init_32 dX8_init_35 lX8_25 dX8_init_36 (by omega) (Nat.le_of_ble_eq_true rfl) rfl rfl fX8_26 rfl ⟨_, rfl⟩ rfl rfl rfl dX8_init_39 rfl (fun sp3 me3 hC3 => ?_)
  refine z_L0R (pc' := 43) dX8_init_42 rfl ?_
  refine z_nwC (z := a + 80) (N' := a + 81) (r1' := 84) (r2' := 1668) (pc' := 53) 4 hC3 hs (by omega) (by omega) n_scr zXT_lc kX5_init rfl nX8_30 dX8_init_43 dX8_init_46 lX8_32 dX8_init_47 (by omega) (Nat.le_of_ble_eq_true rfl) rfl rfl fX8_33 rfl ⟨_, rfl⟩ rfl rfl rfl dX8_init_50 rfl (fun sp4 me4 hC4 => ?_)
  refine z_L0R (pc' := 54) dX8_init_53 rfl ?_
  refine z_nwC (z := a + 82) (N' := a + 132) (r1' := 33) (r2' := 274) (pc' := 64) 5 hC4 hs (by omega) (by omega) n_plan zXP_lc kX3_init rfl nX8_37 dX8_init_54 dX8_init_57 lX8_39 dX8_init_58 (by omega) (Nat.le_of_ble_eq_true rfl) rfl rfl fX8_40 rfl ⟨_, rfl⟩ rfl rfl rfl dX8_init_61 rfl (fun sp5 me5 hC5 => ?_)
  refine z_L0R (pc' := 65) dX8_init_64 rfl ?_
  refine z_nwC (z := a + 133) (N' := a + 155) (r1' := 10) (r2' := 88) (pc' := 75) 6 hC5 hs (by omega) (by omega) n_sea zXQ_lc kX6_init rfl nX8_44 dX8_init_65 dX8_init_68 lX8_46 dX8_init_69 (by omega) (Nat.le_of_ble_eq_true rfl) rfl rfl fX8_47 rfl ⟨_, rfl⟩ rfl rfl rfl dX8_init_72 rfl (fun sp6 me6 hC6 => ?_)
  refine z_L0R (pc' := 76) dX8_init_75 rfl ?_
  refine z_nwC (z := a + 156) (N' := a + 160) (r1' := 5) (r2' := 44) (pc' := 86) 7 hC6 hs (by omega) (by omega) n_ring zXR_lc kX4_init rfl nX8_51 dX8_init_76 dX8_init_79 lX8_53 dX8_init_80 (by omega) (Nat.le_of_ble_eq_true rfl) rfl rfl fX8_54 rfl ⟨_, rfl⟩ rfl rfl rfl dX8_init_83 rfl (fun sp7 me7 hC7 => ?_)
  refine z_L0R (pc' := 87) dX8_init_86 rfl ?_
  refine z_nwC (z := a + 161) (N' := a + 165) (r1' := 0) (r2' := 0) (pc' := 97) 8 hC7 hs (by omega) (by omega) n_ring zXR_lc kX4_init rfl nX8_51 dX8_init_87 dX8_init_90 lX8_53 dX8_init_91 (by omega) (Nat.le_of_ble_eq_true rfl) rfl rfl fX8_58 rfl ⟨_, rfl⟩ rfl rfl rfl dX8_init_94 rfl (fun sp8 me8 hC8 => ?_)
  refine z_return rfl rfl dX8_init_97 ?_
  have m1 := (zCo.c hC8 (List.mem_cons_of_mem _ (List.mem_cons_of_mem _ (List.mem_cons_of_mem _ (List.mem_cons_of_mem _ (List.mem_cons_of_mem _ (List.mem_cons_of_mem _ (List.mem_cons_of_mem _ List.mem_cons_self))))))))
  have m2 := (zCo.c hC8 (List.mem_cons_of_mem _ (List.mem_cons_of_mem _ (List.mem_cons_of_mem _ (List.mem_cons_of_mem _ (List.mem_cons_of_mem _ (List.mem_cons_of_mem _ List.mem_cons_self)))))))
  have m3 := (zCo.c hC8 (List.mem_cons_of_mem _ (List.mem_cons_of_mem _ (List.mem_cons_of_mem _ (List.mem_cons_of_mem _ (List.mem_cons_of_mem _ List.mem_cons_self))))))
  have m4 := (zCo.c hC8 (List.mem_cons_of_mem _ (List.mem_cons_of_mem _ (List.mem_cons_of_mem _ (List.mem_cons_of_mem _ List.mem_cons_self)))))
  have m5 := (zCo.c hC8 (List.mem_cons_of_mem _ (List.mem_cons_of_mem _ (List.mem_cons_of_mem _ List.mem_cons_self))))
  have m6 := (zCo.c hC8 (List.mem_cons_of_mem _ (List.mem_cons_of_mem _ List.mem_cons_self)))
  have m7 := (zCo.c hC8 (List.mem_cons_of_mem _ List.mem_cons_self))
  have m8 := (zCo.c hC8 List.mem_cons_self)
  refine hQ sp8 me8 hC8.1 (zCo.f hC8) ⟨⟨zCo.s hC8 hs, zCo.p hC8 rfl, zCo.p hC8 rfl, zCo.p hC8 rfl, zCo.p hC8 rfl, zCo.p hC8 rfl, zCo.p hC8 rfl, zCo.p hC8 rfl, zCo.p hC8 rfl, m1.1, m2.1, m3.1, m4.1, m5.1, m6, m7.1, m8.1⟩, m1.2, ⟨m3.2.1, by decide, by rw [m3.2.2]; decide, by rw [m3.2.2]; decide, fun j hj => absurd hj (Nat.not_lt_zero j)⟩, Or.inl ⟨by rw [zCo.m hC8], rfl⟩, m4.2.1, m4.2.2, m5.2⟩
theorem n_obj : zNew mX8_init 4 165 2822 8 zXO := fun _ _ _ _ _ hd hn hs hp hm hQ => n_obj0 hd hn hs hp hm hQ
end ZNY

