section ZNX
theorem zCo.s {y N : Nat} {sp0 sp : zSP} {me0 me : zMe} {P : Int → Option Nat} {Cs : List zCm} {v : Nat × Nat} (h : zCo y N sp0 sp me0 me P Cs) (hs : sp0.1 y = v) : sp.1 y = v := h.2.2.2.1.trans hs
theorem zCo.p {y N : Nat} {sp0 sp : zSP} {me0 me : zMe} {P : Int → Option Nat} {Cs : List zCm} {k : Int} {v : Option Nat} (h : zCo y N sp0 sp me0 me P Cs) (hs : P k = v) : sp.2.1 y k = v := by rw [h.2.2.2.2.2.1]; exact hs
theorem zCo.c {y N : Nat} {sp0 sp : zSP} {me0 me : zMe} {P : Int → Option Nat} {Cs : List zCm} {c : zCm} (h : zCo y N sp0 sp me0 me P Cs) (hc : c ∈ Cs) : c.2.2 sp me := (h.2.2.2.2.2.2 c hc).2.2.2
theorem zCo.l {y N : Nat} {sp0 sp : zSP} {me0 me : zMe} {P : Int → Option Nat} {Cs : List zCm} {c : zCm} (h : zCo y N sp0 sp me0 me P Cs) (hc : c ∈ Cs) : zLoc c.1 c.2.1 c.2.2 := (h.2.2.2.2.2.2 c hc).2.2.1
theorem zCo.m {y N : Nat} {sp0 sp : zSP} {me0 me : zMe} {P : Int → Option Nat} {Cs : List zCm} (h : zCo y N sp0 sp me0 me P Cs) : me y = (fun _ => 0) := h.2.2.2.2.1
theorem zCo.f {y N : Nat} {sp0 sp : zSP} {me0 me : zMe} {P : Int → Option Nat} {Cs : List zCm} (h : zCo y N sp0 sp me0 me P Cs) : ∀ b, b < y → zEq sp0 sp me0 me b := h.2.2.1
/-! what stays where its cells stay -/
theorem zRing_lc {sp sp' : zSP} {a : Nat} (h : ∀ b, a ≤ b → b ≤ a + 4 → sp'.1 b = sp.1 b ∧ sp'.2.1 b = sp.2.1 b) (hr : zRing sp a) : zRing sp' a := by
  unfold zRing at hr ⊢
  rw [(h a (by omega) (by omega)).1, (h a (by omega) (by omega)).2, (h (a + 1) (by omega) (by omega)).1, (h (a + 2) (by omega) (by omega)).1, (h (a + 3) (by omega) (by omega)).1, (h (a + 4) (by omega) (by omega)).1]
  exact hr
theorem zHold_lc {sp sp' : zSP} {a : Nat} (h : ∀ b, a ≤ b → b ≤ a + 1 → sp'.1 b = sp.1 b ∧ sp'.2.1 b = sp.2.1 b) (hr : zHold sp a) : zHold sp' a := by
  unfold zHold at hr ⊢
  rw [(h a (by omega) (by omega)).1, (h a (by omega) (by omega)).2, (h (a + 1) (by omega) (by omega)).1]
  exact hr
theorem zFigs_lc {sp sp' : zSP} {a : Nat} (h : ∀ b, a ≤ b → b ≤ a + 2 → sp'.1 b = sp.1 b ∧ sp'.2.1 b = sp.2.1 b) (hr : zFigs sp a) : zFigs sp' a := by
  unfold zFigs at hr ⊢
  rw [(h a (by omega) (by omega)).1, (h a (by omega) (by omega)).2, (h (a + 1) (by omega) (by omega)).1, (h (a + 2) (by omega) (by omega)).1]
  exact hr
theorem zSta_lc {sp sp' : zSP} {a : Nat} (h : ∀ b, a ≤ b → b ≤ a + 10 → sp'.1 b = sp.1 b ∧ sp'.2.1 b = sp.2.1 b) (hr : zSta sp a) : zSta sp' a := by
  obtain ⟨h1, h2, h3, h4, h5, h6, h7⟩ := hr
  have h0 := h a (by omega) (by omega)
  exact ⟨h0.1.trans h1, by rw [h0.2]; exact h2, by rw [h0.2]; exact h3, by rw [h0.2]; exact h4, zRing_lc (fun b g1 g2 => h b (by omega) (by omega)) h5, zHold_lc (fun b g1 g2 => h b (by omega) (by omega)) h6, zFigs_lc (fun b g1 g2 => h b (by omega) (by omega)) h7⟩
theorem zHis_lc {sp sp' : zSP} {a : Nat} (h : ∀ b, a ≤ b → b ≤ a + 56 → sp'.1 b = sp.1 b ∧ sp'.2.1 b = sp.2.1 b) (hr : zHis sp a) : zHis sp' a := by
  obtain ⟨h1, h2, h3, h4⟩ := hr
  have h0 := h a (by omega) (by omega)
  have h01 := h (a + 1) (by omega) (by omega)
  exact ⟨h0.1.trans h1, by rw [h0.2]; exact h2, h01.1.trans h3, fun i i0 i1 => ⟨by rw [h01.2]; exact (h4 i i0 i1).1, zSta_lc (fun b g1 g2 => h b (by omega) (by omega)) (h4 i i0 i1).2⟩⟩
theorem zScr_lc {sp sp' : zSP} {a : Nat} (h : ∀ b, a ≤ b → b ≤ a + 1 → sp'.1 b = sp.1 b ∧ sp'.2.1 b = sp.2.1 b) (hr : zScr sp a) : zScr sp' a := by
  unfold zScr at hr ⊢
  rw [(h a (by omega) (by omega)).1, (h a (by omega) (by omega)).2, (h (a + 1) (by omega) (by omega)).1]
  exact hr
theorem zPlan_lc {sp sp' : zSP} {a : Nat} (h : ∀ b, a ≤ b → b ≤ a + 50 → sp'.1 b = sp.1 b ∧ sp'.2.1 b = sp.2.1 b) (hr : zPlan sp a) : zPlan sp' a := by
  obtain ⟨h1, h2, h3, h4, h5, h6, h7, h8, h9, h10, h11, h12, h13, h14⟩ := hr
  have h0 := h a (by omega) (by omega)
  have h05 := h (a + 5) (by omega) (by omega)
  exact ⟨h0.1.trans h1, by rw [h0.2]; exact h2, by rw [h0.2]; exact h3, by rw [h0.2]; exact h4, by rw [h0.2]; exact h5, by rw [h0.2]; exact h6, by rw [h0.2]; exact h7, (h (a + 1) (by omega) (by omega)).1.trans h8, (h (a + 2) (by omega) (by omega)).1.trans h9, (h (a + 3) (by omega) (by omega)).1.trans h10, (h (a + 4) (by omega) (by omega)).1.trans h11, h05.1.trans h12, zRing_lc (fun b g1 g2 => h b (by omega) (by omega)) h13, fun i i0 i1 => ⟨by rw [h05.2]; exact (h14 i i0 i1).1, zRing_lc (fun b g1 g2 => h b (by omega) (by omega)) (h14 i i0 i1).2⟩⟩
theorem zSea_lc {sp sp' : zSP} {a : Nat} (h : ∀ b, a ≤ b → b ≤ a + 22 → sp'.1 b = sp.1 b ∧ sp'.2.1 b = sp.2.1 b) (hr : zSea sp a) : zSea sp' a := by
  obtain ⟨h1, h2, h3, h4, h5, h6⟩ := hr
  have h0 := h a (by omega) (by omega)
  have h02 := h (a + 2) (by omega) (by omega)
  exact ⟨h0.1.trans h1, by rw [h0.2]; exact h2, by rw [h0.2]; exact h3, (h (a + 1) (by omega) (by omega)).1.trans h4, h02.1.trans h5, fun i i0 i1 => ⟨by rw [h02.2]; exact (h6 i i0 i1).1, zRing_lc (fun b g1 g2 => h b (by omega) (by omega)) (h6 i i0 i1).2⟩⟩
theorem zObj_lc {sp sp' : zSP} {a : Nat} (h : ∀ b, a ≤ b → b ≤ a + 165 → sp'.1 b = sp.1 b ∧ sp'.2.1 b = sp.2.1 b) (hr : zObj sp a) : zObj sp' a := by
  obtain ⟨h1, h2, h3, h4, h5, h6, h7, h8, h9, g1, g2, g3, g4, g5, g6, g7, g8⟩ := hr
  have h0 := h a (by omega) (by omega)
  exact ⟨h0.1.trans h1, by rw [h0.2]; exact h2, by rw [h0.2]; exact h3, by rw [h0.2]; exact h4, by rw [h0.2]; exact h5, by rw [h0.2]; exact h6, by rw [h0.2]; exact h7, by rw [h0.2]; exact h8, by rw [h0.2]; exact h9, zSta_lc (fun b i1 i2 => h b (by omega) (by omega)) g1, zSta_lc (fun b i1 i2 => h b (by omega) (by omega)) g2, zHis_lc (fun b i1 i2 => h b (by omega) (by omega)) g3, zScr_lc (fun b i1 i2 => h b (by omega) (by omega)) g4, zPlan_lc (fun b i1 i2 => h b (by omega) (by omega)) g5, zSea_lc (fun b i1 i2 => h b (by omega) (by omega)) g6, zRing_lc (fun b i1 i2 => h b (by omega) (by omega)) g7, zRing_lc (fun b i1 i2 => h b (by omega) (by omega)) g8⟩
/-! what a new one is -/
def zS0 : zSt := (zid.1, zid.2, zcut 10 (fun _ => -5), 0, fun _ => 0, fun _ => 0, 0, 0, 0)
def zA0 : zAb := (zS0, [], none, 0, fun _ => 0)
def zXR (a : Nat) : zSP → zMe → Prop := fun sp me => zRing sp a ∧ me (a + 1) = zid.1 ∧ me (a + 2) = zid.2
def zXH (a : Nat) : zSP → zMe → Prop := fun sp me => zHold sp a ∧ me a 1 = 0 ∧ me (a + 1) = zcut 10 (fun _ => -5)
def zXF (a : Nat) : zSP → zMe → Prop := fun sp me => zFigs sp a ∧ me (a + 1) = (fun _ => 0) ∧ me (a + 2) = (fun _ => 0)
def zXS (a : Nat) : zSP → zMe → Prop := fun sp me => zSta sp a ∧ zget me a = zS0
def zXI (a : Nat) : zSP → zMe → Prop := fun sp me => zHis sp a ∧ me a 1 = 0 ∧ me a 2 = 0
def zXT (a : Nat) : zSP → zMe → Prop := fun sp me => zScr sp a ∧ me a 1 = 0 ∧ me (a + 1) = (fun _ => 0)
def zXP (a : Nat) : zSP → zMe → Prop := fun sp me => zPlan sp a ∧ zRP me a (fun _ => 0) (fun _ => 0)
def zXQ (a : Nat) : zSP → zMe → Prop := fun sp _ => zSea sp a
def zXO (a : Nat) : zSP → zMe → Prop := fun sp me => zObj sp a ∧ zRX me a zA0
theorem zXR_lc (a : Nat) : zLoc a (a + 4) (zXR a) := fun sp sp' me me' h hx => ⟨zRing_lc (fun b g1 g2 => ⟨(h b g1 g2).1, (h b g1 g2).2.1⟩) hx.1, by rw [(h (a + 1) (by omega) (by omega)).2.2]; exact hx.2.1, by rw [(h (a + 2) (by omega) (by omega)).2.2]; exact hx.2.2⟩
theorem zXH_lc (a : Nat) : zLoc a (a + 1) (zXH a) := fun sp sp' me me' h hx => ⟨zHold_lc (fun b g1 g2 => ⟨(h b g1 g2).1, (h b g1 g2).2.1⟩) hx.1, by rw [(h a (by omega) (by omega)).2.2]; exact hx.2.1, by rw [(h (a + 1) (by omega) (by omega)).2.2]; exact hx.2.2⟩
theorem zXF_lc (a : Nat) : zLoc a (a + 2) (zXF a) := fun sp sp' me me' h hx => ⟨zFigs_lc (fun b g1 g2 => ⟨(h b g1 g2).1, (h b g1 g2).2.1⟩) hx.1, by rw [(h (a + 1) (by omega) (by omega)).2.2]; exact hx.2.1, by rw [(h (a + 2) (by omega) (by omega)).2.2]; exact hx.2.2⟩
theorem zXS_lc (a : Nat) : zLoc a (a + 10) (zXS a) := fun sp sp' me me' h hx => ⟨zSta_lc (fun b g1 g2 => ⟨(h b g1 g2).1, (h b g1 g2).2.1⟩) hx.1, by rw [zget_congr (me := me) (me' := me') (s := a) (fun b g1 g2 => (h b (by omega) (by omega)).2.2)]; exact hx.2⟩
theorem zXI_lc (a : Nat) : zLoc a (a + 56) (zXI a) := fun sp sp' me me' h hx => ⟨zHis_lc (fun b g1 g2 => ⟨(h b g1 g2).1, (h b g1 g2).2.1⟩) hx.1, by rw [(h a (by omega) (by omega)).2.2]; exact hx.2.1, by rw [(h a (by omega) (by omega)).2.2]; exact hx.2.2⟩
theorem zXT_lc (a : Nat) : zLoc a (a + 1) (zXT a) := fun sp sp' me me' h hx => ⟨zScr_lc (fun b g1 g2 => ⟨(h b g1 g2).1, (h b g1 g2).2.1⟩) hx.1, by rw [(h a (by omega) (by omega)).2.2]; exact hx.2.1, by rw [(h (a + 1) (by omega) (by omega)).2.2]; exact hx.2.2⟩
theorem zXP_lc (a : Nat) : zLoc a (a + 50) (zXP a) := fun sp sp' me me' h hx => ⟨zPlan_lc (fun b g1 g2 => ⟨(h b g1 g2).1, (h b g1 g2).2.1⟩) hx.1, zRP_congr (fun b g1 g2 => (h b (by omega) (by omega)).2.2) hx.2⟩
theorem zXQ_lc (a : Nat) : zLoc a (a + 22) (zXQ a) := fun sp sp' me me' h hx => zSea_lc (fun b g1 g2 => ⟨(h b g1 g2).1, (h b g1 g2).2.1⟩) hx
theorem zXO_lc (a : Nat) : zLoc a (a + 165) (zXO a) := fun sp sp' me me' h hx => ⟨zObj_lc (fun b g1 g2 => ⟨(h b g1 g2).1, (h b g1 g2).2.1⟩) hx.1, zRX_congr (fun b g1 g2 => (h b (by omega) (by omega)).2.2) hx.2⟩
set_option maxRecDepth 100000 in
set_option maxHeartbeats 1000000 in
theorem n_ring0 {d : Nat} {sp : zSP} {me : zMe} {Q : zQ} {a : Nat} (hd : 1 ≤ d) (hn : sp.2.2 = a) (hs : sp.1 a = (10 + 4, zN 4)) (hp : sp.2.1 a = (fun _ => none)) (hm : me a = (fun _ => 0)) (hQ : ∀ sp' me', sp'.2.2 = a + 4 → (∀ b, b < a → zEq sp sp' me me' b) → zXR a sp' me' → Q none sp' me') : zCall mX4_init d 4 40 [zR a] sp me Q := by
  refine z_met kX4_init (by simp) (by simp) ?_
  show zW mX4_init d 4 40 Q 0 [zR a] [] sp me
  have hC0 := zCo_0 hn hm hp
  refine z_L0R (pc' := 1) dX4_init_0 rfl ?_
  refine z_objinit (pc' := 4) oX4_3 dX4_init_1 rfl (by omega) (Nat.le_of_ble_eq_true rfl) ?_
  refine z_L0R (pc' := 5) dX4_init_4 rfl ?_
  refine z_bipush (pc' := 7) dX4_init_5 rfl (by decide) ?_
  refine z_naC (N' := a + 1) (r1' := 3) (r2' := 30) (pc1 := 9) (pc' := 12) false 0 hC0 hs rfl dX4_init_7 rfl (by decide) (by decide) rfl rfl fX4_9 rfl ⟨_, rfl⟩ rfl rfl rfl dX4_init_9 rfl (fun sp1 me1 hC1 => ?_)
  refine z_L0R (pc' := 13) dX4_init_12 rfl ?_
  refine z_bipush (pc' := 15) dX4_init_13 rfl (by decide) ?_
  refine z_naC (N' := a + 2) (r1' := 2) (r2' := 20) (pc1 := 17) (pc' := 20) false 1 hC1 hs rfl dX4_init_15 rfl (by decide) (by decide) rfl rfl fX4_15 rfl ⟨_, rfl⟩ rfl rfl rfl dX4_init_17 rfl (fun sp2 me2 hC2 => ?_)
  refine z_L0R (pc' := 21) dX4_init_20 rfl ?_
  refine z_bipush (pc' := 23) dX4_init_21 rfl (by decide) ?_
  refine z_naC (N' := a + 3) (r1' := 1) (r2' := 10) (pc1 := 25) (pc' := 28) false 2 hC2 hs rfl dX4_init_23 rfl (by decide) (by decide) rfl rfl fX4_18 rfl ⟨_, rfl⟩ rfl rfl rfl dX4_init_25 rfl (fun sp3 me3 hC3 => ?_)
  refine z_L0R (pc' := 29) dX4_init_28 rfl ?_
  refine z_bipush (pc' := 31) dX4_init_29 rfl (by decide) ?_
  refine z_naC (N' := a + 4) (r1' := 0) (r2' := 0) (pc1 := 33) (pc' := 36) false 3 hC3 hs rfl dX4_init_31 rfl (by decide) (by decide) rfl rfl fX4_21 rfl ⟨_, rfl⟩ rfl rfl rfl dX4_init_33 rfl (fun sp4 me4 hC4 => ?_)
  have hR : zRing sp4 a := ⟨zCo.s hC4 hs, zCo.p hC4 rfl, zCo.p hC4 rfl, zCo.p hC4 rfl, zCo.p hC4 rfl, ((zCo.c hC4 (List.mem_cons_of_mem _ (List.mem_cons_of_mem _ (List.mem_cons_of_mem _ List.mem_cons_self))))).1, ((zCo.c hC4 (List.mem_cons_of_mem _ (List.mem_cons_of_mem _ List.mem_cons_self)))).1, ((zCo.c hC4 (List.mem_cons_of_mem _ List.mem_cons_self))).1, ((zCo.c hC4 List.mem_cons_self)).1⟩
  refine z_L0R (pc' := 37) dX4_init_36 rfl ?_
  refine z_V00 (pc' := 40) (ci := 4) kX4_settle lX4_24 dX4_init_37 rfl (by omega) (Nat.le_of_ble_eq_true rfl) (by decide) rfl hR.s ?_
  refine c_settle hR (zK0_i ?_)
  refine z_return rfl rfl dX4_init_40 ?_
  refine hQ sp4 _ hC4.1 (fun b hb => ?_) ⟨hR, ?_, zset_eq _ _ _⟩
  · have h := zCo.f hC4 b hb
    exact ⟨h.1, h.2.1, by rw [zset_ne _ _ _ (by omega), zset_ne _ _ _ (by omega)]; exact h.2.2⟩
  · rw [zset_ne _ _ _ (by omega), zset_eq]; rfl
theorem n_ring : zNew mX4_init 1 4 40 4 zXR := fun _ _ _ _ _ hd hn hs hp hm hQ => n_ring0 hd hn hs hp hm hQ
set_option maxRecDepth 100000 in
set_option maxHeartbeats 1000000 in
theorem n_hold0 {d : Nat} {sp : zSP} {me : zMe} {Q : zQ} {a : Nat} (hd : 1 ≤ d) (hn : sp.2.2 = a) (hs : sp.1 a = (10 + 2, zN 2)) (hp : sp.2.1 a = (fun _ => none)) (hm : me a = (fun _ => 0)) (hQ : ∀ sp' me', sp'.2.2 = a + 1 → (∀ b, b < a → zEq sp sp' me me' b) → zXH a sp' me' → Q none sp' me') : zCall mX2_init d 1 10 [zR a] sp me Q := by
  refine z_met kX2_init (by simp) (by simp) ?_
  show zW mX2_init d 1 10 Q 0 [zR a, zU] [] sp me
  have hC0 := zCo_0 hn hm hp
  refine z_L0R (pc' := 1) dX2_init_0 rfl ?_
  refine z_objinit (pc' := 4) oX2_3 dX2_init_1 rfl (by omega) (Nat.le_of_ble_eq_true rfl) ?_
  refine z_L0R (pc' := 5) dX2_init_4 rfl ?_
  refine z_bipush (pc' := 7) dX2_init_5 rfl (by decide) ?_
  refine z_naC (N' := a + 1) (r1' := 0) (r2' := 0) (pc1 := 9) (pc' := 12) false 0 hC0 hs rfl dX2_init_7 rfl (by decide) (by decide) rfl rfl fX2_9 rfl ⟨_, rfl⟩ rfl rfl rfl dX2_init_9 rfl (fun sp1 me1 hC1 => ?_)
  refine z_L0R (pc' := 13) dX2_init_12 rfl ?_
  refine z_iconst (pc' := 14) dX2_init_13 rfl (by unfold zin; decide) ?_
  refine z_puC (pc' := 17) 1 hC1 hs rfl fX2_15.l (Or.inl rfl) rfl dX2_init_14 rfl ?_
  have hh : zHold sp1 a := ⟨zCo.s hC1 hs, zCo.p hC1 rfl, ((zCo.c hC1 List.mem_cons_self)).1⟩
  refine z_iconst (pc' := 18) dX2_init_17 rfl (by unfold zin; decide) ?_
  refine z_S1I (pc' := 19) rfl dX2_init_18 rfl ?_
  suffices H : ∀ (n : Nat) (k : Int), 0 ≤ k → k ≤ 10 → 10 - k < n → zW mX2_init d 0 0 Q 19 [zR a, zI k] [] sp1 (zset me1 (a + 1) (zfil (me1 (a + 1)) (fun _ => -5) k)) by
    refine zW_to (H 11 0 (by omega) (by omega) (by omega)) rfl rfl ?_
    rw [zfil_0, zset_self]
  intro n
  induction n with
  | zero => intro k h0 h1 h2; omega
  | succ n ih =>
  intro k hk0 hk1 hk2
  refine z_L1I (pc' := 20) dX2_init_19 rfl ?_
  refine z_bipush (pc' := 22) dX2_init_20 rfl (by decide) ?_
  refine z_icmp_ge (tgt := 39) (pc' := 25) dX2_init_22 (by decide) rfl (fun h22 => ?_) (fun h22 => ?_)
  · refine z_return rfl rfl dX2_init_39 ?_
    obtain rfl : k = 10 := by omega
    have h0 : me1 (a + 1) = (fun _ => 0) := ((zCo.c hC1 List.mem_cons_self)).2
    rw [h0]
    refine hQ sp1 _ hC1.1 (fun b hb => ?_) ⟨hh, ?_, ?_⟩
    · have h := zCo.f hC1 b hb
      exact ⟨h.1, h.2.1, by rw [zset_ne _ _ _ (by omega)]; exact h.2.2⟩
    · rw [zset_ne _ _ _ (by omega), zCo.m hC1]
    · rw [zset_eq]; rfl
  · refine z_L0R (pc' := 26) dX2_init_25 rfl ?_
    refine z_getR (pc' := 29) (ki := 0) 0 fX2_9.l rfl rfl dX2_init_26 rfl hh.s hh.p0 ?_
    refine z_L1I (pc' := 30) dX2_init_29 rfl ?_
    refine z_bipush (pc' := 32) dX2_init_30 rfl (by decide) ?_
    refine z_ist (pc' := 33) dX2_init_32 rfl hh.a1 (by omega) (by omega) ?_
    refine z_inc1 (pc' := 36) rfl dX2_init_33 rfl (by unfold zin; omega) ?_
    refine z_goto (tgt := 19) dX2_init_36 (by decide) ?_
    refine zW_to (ih (k + 1) (by omega) (by omega) (by omega)) rfl rfl ?_
    simp (disch := first | omega | rfl) only [zset_eq, zset_ne, zset_11, zset_21, zset_31, zset_41, zfil_up, zup_eq, zup_ne]
theorem n_hold : zNew mX2_init 1 1 10 2 zXH := fun _ _ _ _ _ hd hn hs hp hm hQ => n_hold0 hd hn hs hp hm hQ
set_option maxRecDepth 100000 in
set_option maxHeartbeats 1000000 in
theorem n_figs0 {d : Nat} {sp : zSP} {me : zMe} {Q : zQ} {a : Nat} (hd : 1 ≤ d) (hn : sp.2.2 = a) (hs : sp.1 a = (10 + 0, zN 0)) (hp : sp.2.1 a = (fun _ => none)) (hm : me a = (fun _ => 0)) (hQ : ∀ sp' me', sp'.2.2 = a + 2 → (∀ b, b < a → zEq sp sp' me me' b) → zXF a sp' me' → Q none sp' me') : zCall mX0_init d 2 88 [zR a] sp me Q := by
  refine z_met kX0_init (by simp) (by simp) ?_
  show zW mX0_init d 2 88 Q 0 [zR a] [] sp me
  have hC0 := zCo_0 hn hm hp
  refine z_L0R (pc' := 1) dX0_init_0 rfl ?_
  refine z_objinit (pc' := 4) oX0_3 dX0_init_1 rfl (by omega) (Nat.le_of_ble_eq_true rfl) ?_
  refine z_L0R (pc' := 5) dX0_init_4 rfl ?_
  refine z_bipush (pc' := 7) dX0_init_5 rfl (by decide) ?_
  refine z_naC (N' := a + 1) (r1' := 1) (r2' := 80) (pc1 := 9) (pc' := 12) false 0 hC0 hs rfl dX0_init_7 rfl (by decide) (by decide) rfl rfl fX0_9 rfl ⟨_, rfl⟩ rfl rfl rfl dX0_init_9 rfl (fun sp1 me1 hC1 => ?_)
  refine z_L0R (pc' := 13) dX0_init_12 rfl ?_
  refine z_bipush (pc' := 15) dX0_init_13 rfl (by decide) ?_
  refine z_naC (N' := a + 2) (r1' := 0) (r2' := 0) (pc1 := 17) (pc' := 20) false 1 hC1 hs rfl dX0_init_15 rfl (by decide) (by decide) rfl rfl fX0_15 rfl ⟨_, rfl⟩ rfl rfl rfl dX0_init_17 rfl (fun sp2 me2 hC2 => ?_)
  refine z_return rfl rfl dX0_init_20 ?_
  exact hQ sp2 me2 hC2.1 (zCo.f hC2) ⟨⟨zCo.s hC2 hs, zCo.p hC2 rfl, zCo.p hC2 rfl, ((zCo.c hC2 (List.mem_cons_of_mem _ List.mem_cons_self))).1, ((zCo.c hC2 List.mem_cons_self)).1⟩, ((zCo.c hC2 (List.mem_cons_of_mem _ List.mem_cons_self))).2, ((zCo.c hC2 List.mem_cons_self)).2⟩
theorem n_figs : zNew mX0_init 1 2 88 0 zXF := fun _ _ _ _ _ hd hn hs hp hm hQ => n_figs0 hd hn hs hp hm hQ
set_option maxRecDepth 100000 in
set_option maxHeartbeats 1000000 in
theorem n_scr0 {d : Nat} {sp : zSP} {me : zMe} {Q : zQ} {a : Nat} (hd : 1 ≤ d) (hn : sp.2.2 = a) (hs : sp.1 a = (10 + 5, zN 5)) (hp : sp.2.1 a = (fun _ => none)) (hm : me a = (fun _ => 0)) (hQ : ∀ sp' me', sp'.2.2 = a + 1 → (∀ b, b < a → zEq sp sp' me me' b) → zXT a sp' me' → Q none sp' me') : zCall mX5_init d 1 80 [zR a] sp me Q := by
  refine z_met kX5_init (by simp) (by simp) ?_
  show zW mX5_init d 1 80 Q 0 [zR a] [] sp me
  have hC0 := zCo_0 hn hm hp
  refine z_L0R (pc' := 1) dX5_init_0 rfl ?_
  refine z_objinit (pc' := 4) oX5_3 dX5_init_1 rfl (by omega) (Nat.le_of_ble_eq_true rfl) ?_
  refine z_L0R (pc' := 5) dX5_init_4 rfl ?_
  refine z_bipush (pc' := 7) dX5_init_5 rfl (by decide) ?_
  refine z_naC (N' := a + 1) (r1' := 0) (r2' := 0) (pc1 := 9) (pc' := 12) false 0 hC0 hs rfl dX5_init_7 rfl (by decide) (by decide) rfl rfl fX5_9 rfl ⟨_, rfl⟩ rfl rfl rfl dX5_init_9 rfl (fun sp1 me1 hC1 => ?_)
  refine z_L0R (pc' := 13) dX5_init_12 rfl ?_
  refine z_iconst (pc' := 14) dX5_init_13 rfl (by unfold zin; decide) ?_
  refine z_puC (pc' := 17) 1 hC1 hs rfl fX5_15.l (Or.inl rfl) rfl dX5_init_14 rfl ?_
  refine z_return rfl rfl dX5_init_17 ?_
  exact hQ sp1 me1 hC1.1 (zCo.f hC1) ⟨⟨zCo.s hC1 hs, zCo.p hC1 rfl, ((zCo.c hC1 List.mem_cons_self)).1⟩, by rw [zCo.m hC1], ((zCo.c hC1 List.mem_cons_self)).2⟩
theorem n_scr : zNew mX5_init 1 1 80 5 zXT := fun _ _ _ _ _ hd hn hs hp hm hQ => n_scr0 hd hn hs hp hm hQ
set_option maxRecDepth 100000 in
set_option maxHeartbeats 1000000 in
theorem n_sta0 {d : Nat} {sp : zSP} {me : zMe} {Q : zQ} {a : Nat} (hd : 2 ≤ d) (hn : sp.2.2 = a) (hs : sp.1 a = (10 + 7, zN 7)) (hp : sp.2.1 a = (fun _ => none)) (hm : me a = (fun _ => 0)) (hQ : ∀ sp' me', sp'.2.2 = a + 10 → (∀ b, b < a → zEq sp sp' me me' b) → zXS a sp' me' → Q none sp' me') : zCall mX7_init d 10 146 [zR a] sp me Q := by
  refine z_met kX7_init (by simp) (by simp) ?_
  show zW mX7_init d 10 146 Q 0 [zR a] [] sp me
  have hC0 := zCo_0 hn hm hp
  refine z_L0R (pc' := 1) dX7_init_0 rfl ?_
  refine z_objinit (pc' := 4) oX7_1 dX7_init_1 rfl (by omega) (Nat.le_of_ble_eq_true rfl) ?_
  refine z_L0R (pc' := 5) dX7_init_4 rfl ?_
  refine z_nwC (z := a + 1) (N' := a + 5) (r1' := 5) (r2' := 102) (pc' := 15) 0 hC0 hs (by omega) (by omega) n_ring zXR_lc kX4_init rfl nX7_7 dX7_init_5 dX7_init_8 lX7_9 dX7_init_9 (by omega) (Nat.le_of_ble_eq_true rfl) rfl rfl fX7_10 rfl ⟨_, rfl⟩ rfl rfl rfl dX7_init_12 rfl (fun sp1 me1 hC1 => ?_)
  refine z_L0R (pc' := 16) dX7_init_15 rfl ?_
  refine z_nwC (z := a + 6) (N' := a + 7) (r1' := 3) (r2' := 90) (pc' := 26) 1 hC1 hs (by omega) (by omega) n_hold zXH_lc kX2_init rfl nX7_16 dX7_init_16 dX7_init_19 lX7_18 dX7_init_20 (by omega) (Nat.le_of_ble_eq_true rfl) rfl rfl fX7_19 rfl ⟨_, rfl⟩ rfl rfl rfl dX7_init_23 rfl (fun sp2 me2 hC2 => ?_)
  refine z_L0R (pc' := 27) dX7_init_26 rfl ?_
  refine z_nwC (z := a + 8) (N' := a + 10) (r1' := 0) (r2' := 0) (pc' := 37) 2 hC2 hs (by omega) (by omega) n_figs zXF_lc kX0_init rfl nX7_23 dX7_init_27 dX7_init_30 lX7_25 dX7_init_31 (by omega) (Nat.le_of_ble_eq_true rfl) rfl rfl fX7_26 rfl ⟨_, rfl⟩ rfl rfl rfl dX7_init_34 rfl (fun sp3 me3 hC3 => ?_)
  refine z_L0R (pc' := 38) dX7_init_37 rfl ?_
  refine z_iconst (pc' := 39) dX7_init_38 rfl (by unfold zin; decide) ?_
  refine z_puC (pc' := 42) 3 hC3 hs rfl fX7_30.l (Or.inl rfl) rfl dX7_init_39 rfl ?_
  refine z_L0R (pc' := 43) dX7_init_42 rfl ?_
  refine z_iconst (pc' := 44) dX7_init_43 rfl (by unfold zin; decide) ?_
  refine z_puC (pc' := 47) 4 hC3 hs rfl fX7_34.l (Or.inl rfl) rfl dX7_init_44 rfl ?_
  refine z_L0R (pc' := 48) dX7_init_47 rfl ?_
  refine z_iconst (pc' := 49) dX7_init_48 rfl (by unfold zin; decide) ?_
  refine z_puC (pc' := 52) 5 hC3 hs rfl fX7_37.l (Or.inl rfl) rfl dX7_init_49 rfl ?_
  refine z_return rfl rfl dX7_init_52 ?_
  refine hQ sp3 me3 hC3.1 (zCo.f hC3) ⟨⟨zCo.s hC3 hs, zCo.p hC3 rfl, zCo.p hC3 rfl, zCo.p hC3 rfl, ((zCo.c hC3 (List.mem_cons_of_mem _ (List.mem_cons_of_mem _ List.mem_cons_self)))).1, ((zCo.c hC3 (List.mem_cons_of_mem _ List.mem_cons_self))).1, ((zCo.c hC3 List.mem_cons_self)).1⟩, ?_⟩
  unfold zget
  rw [((zCo.c hC3 (List.mem_cons_of_mem _ (List.mem_cons_of_mem _ List.mem_cons_self)))).2.1, ((zCo.c hC3 (List.mem_cons_of_mem _ (List.mem_cons_of_mem _ List.mem_cons_self)))).2.2, ((zCo.c hC3 (List.mem_cons_of_mem _ List.mem_cons_self))).2.1, ((zCo.c hC3 (List.mem_cons_of_mem _ List.mem_cons_self))).2.2, ((zCo.c hC3 List.mem_cons_self)).2.1, ((zCo.c hC3 List.mem_cons_self)).2.2, zCo.m hC3]
  rfl
theorem n_sta : zNew mX7_init 2 10 146 7 zXS := fun _ _ _ _ _ hd hn hs hp hm hQ => n_sta0 hd hn hs hp hm hQ
end ZNX

