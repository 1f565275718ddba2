section ZMATH
/-! figures unrolled: steps, effects, those that are called -/
def zpr (cd : Int → Int) (T : Int → List Int) (k : Int) : Nat → List Int
  | 0 => []
  | j + 1 => zpr cd T k j ++ (if cd (k * 10 + (j : Int)) / 100 = 4 then T (cd (k * 10 + (j : Int)) / 10 % 10) else [cd (k * 10 + (j : Int))])
def zst (sz cd : Int → Int) : Nat → Int → List Int
  | 0, _ => []
  | n + 1, k => zpr cd (zst sz cd n) k (sz k).toNat
def zsteps (sz cd : Int → Int) (k : Int) : List Int := zst sz cd 9 k
def zadd (sz cd : Int → Int) (c : Int) : List Int := if c / 100 = 4 then zsteps sz cd (c / 10 % 10) else [c]
def zvm (k c : Int) : Prop := (c < 400 ∧ zvs c) ∨ (0 ≤ c ∧ c / 100 = 4 ∧ c / 10 % 10 < k ∧ c % 10 = 0)
/-- the figures are well made -/
def zfv (sz cd : Int → Int) : Prop := ∀ k, 0 ≤ k → k < 8 → 0 ≤ sz k ∧ sz k ≤ 10 ∧ ∀ j, 0 ≤ j → j < sz k → zvm k (cd (k * 10 + j))
theorem zpr_congr {cd : Int → Int} {T T' : Int → List Int} {k : Int} (n : Nat) (h : ∀ j : Nat, j < n → cd (k * 10 + (j : Int)) / 100 = 4 → T (cd (k * 10 + (j : Int)) / 10 % 10) = T' (cd (k * 10 + (j : Int)) / 10 % 10)) : zpr cd T k n = zpr cd T' k n := by
  induction n with
  | zero => rfl
  | succ n ih =>
    show zpr cd T k n ++ _ = zpr cd T' k n ++ _
    rw [ih (fun j hj => h j (by omega))]
    congr 1
    split
    · next h1 => exact h n (by omega) h1
    · rfl
theorem zst_fuel {sz cd : Int → Int} (hv : zfv sz cd) : ∀ (n m : Nat) (k : Int), 0 ≤ k → k < 8 → k < n → k < m → zst sz cd n k = zst sz cd m k := by
  intro n
  induction n with
  | zero => intro m k h0 _ h1; omega
  | succ n ih =>
    intro m k h0 h8 h1 h2
    cases m with
    | zero => omega
    | succ m =>
      show zpr cd (zst sz cd n) k (sz k).toNat = zpr cd (zst sz cd m) k (sz k).toNat
      refine zpr_congr _ (fun j hj hc => ?_)
      have h3 := (hv k h0 h8).2.2 (j : Int) (by omega) (by omega)
      unfold zvm at h3
      exact ih m _ (by omega) (by omega) (by omega) (by omega)
theorem zsteps_eq {sz cd : Int → Int} (hv : zfv sz cd) {k : Int} (h0 : 0 ≤ k) (h8 : k < 8) : zsteps sz cd k = zpr cd (zsteps sz cd) k (sz k).toNat := by
  show zpr cd (zst sz cd 8) k (sz k).toNat = _
  refine zpr_congr _ (fun j hj hc => ?_)
  have h3 := (hv k h0 h8).2.2 (j : Int) (by omega) (by omega)
  unfold zvm at h3
  exact zst_fuel hv 8 9 _ (by omega) (by omega) (by omega) (by omega)
theorem zpr_vs {sz cd : Int → Int} {k : Int} (n : Nat) (hv : ∀ j : Nat, j < n → zvm k (cd (k * 10 + (j : Int)))) (ha : ∀ a, 0 ≤ a → a < k → ∀ c ∈ zsteps sz cd a, zvs c ∧ c < 400) : ∀ c ∈ zpr cd (zsteps sz cd) k n, zvs c ∧ c < 400 := by
  induction n with
  | zero => intro c hc; exact absurd hc List.not_mem_nil
  | succ n ih =>
    intro c hc
    rcases List.mem_append.mp hc with h | h
    · exact ih (fun j hj => hv j (by omega)) c h
    · have h1 := hv n (by omega)
      unfold zvm at h1
      split at h
      · exact ha _ (by omega) (by omega) c h
      · rw [List.mem_singleton] at h
        subst h
        rcases h1 with h1 | h1
        · exact ⟨h1.2, h1.1⟩
        · omega
theorem zsteps_vs {sz cd : Int → Int} (hv : zfv sz cd) : ∀ (n : Nat) (k : Int), 0 ≤ k → k < 8 → k < n → ∀ c ∈ zsteps sz cd k, zvs c ∧ c < 400 := by
  intro n
  induction n with
  | zero => intro k h0 _ h1; omega
  | succ n ih =>
    intro k h0 h8 h1
    rw [zsteps_eq hv h0 h8]
    exact zpr_vs _ (fun j hj => (hv k h0 h8).2.2 _ (by omega) (by omega)) (fun a ha0 ha1 => ih a ha0 (by omega) (by omega))
theorem zsteps_ok {sz cd : Int → Int} (hv : zfv sz cd) {k : Int} (h0 : 0 ≤ k) (h8 : k < 8) : ∀ c ∈ zsteps sz cd k, zvs c ∧ c < 400 := zsteps_vs hv 8 k h0 h8 (by omega)
def zpm (cd : Int → Int) (T : Int → Int) (k : Int) : Nat → Int
  | 0 => 0
  | j + 1 => if cd (k * 10 + (j : Int)) / 100 = 4 then zor (zor (zpm cd T k j) (T (cd (k * 10 + (j : Int)) / 10 % 10))) (1 * 2 ^ (cd (k * 10 + (j : Int)) / 10 % 10).toNat) else zpm cd T k j
def zmk (sz cd : Int → Int) : Nat → Int → Int
  | 0, _ => 0
  | n + 1, k => zpm cd (zmk sz cd n) k (sz k).toNat
/-- the figures that a figure calls, as a mask -/
def zcm (sz cd : Int → Int) (k : Int) : Int := zmk sz cd 9 k
theorem zpm_congr {cd : Int → Int} {T T' : Int → Int} {k : Int} (n : Nat) (h : ∀ j : Nat, j < n → cd (k * 10 + (j : Int)) / 100 = 4 → T (cd (k * 10 + (j : Int)) / 10 % 10) = T' (cd (k * 10 + (j : Int)) / 10 % 10)) : zpm cd T k n = zpm cd T' k n := by
  induction n with
  | zero => rfl
  | succ n ih =>
    unfold zpm
    rw [ih (fun j hj => h j (by omega))]
    split
    · next h1 => rw [h n (by omega) h1]
    · rfl
theorem zmk_fuel {sz cd : Int → Int} (hv : zfv sz cd) : ∀ (n m : Nat) (k : Int), 0 ≤ k → k < 8 → k < n → k < m → zmk sz cd n k = zmk sz cd m k := by
  intro n
  induction n with
  | zero => intro m k h0 _ h1; omega
  | succ n ih =>
    intro m k h0 h8 h1 h2
    cases m with
    | zero => omega
    | succ m =>
      show zpm cd (zmk sz cd n) k (sz k).toNat = zpm cd (zmk sz cd m) k (sz k).toNat
      refine zpm_congr _ (fun j hj hc => ?_)
      have h3 := (hv k h0 h8).2.2 (j : Int) (by omega) (by omega)
      unfold zvm at h3
      exact ih m _ (by omega) (by omega) (by omega) (by omega)
theorem zcm_eq {sz cd : Int → Int} (hv : zfv sz cd) {k : Int} (h0 : 0 ≤ k) (h8 : k < 8) : zcm sz cd k = zpm cd (zcm sz cd) k (sz k).toNat := by
  show zpm cd (zmk sz cd 8) k (sz k).toNat = _
  refine zpm_congr _ (fun j hj hc => ?_)
  have h3 := (hv k h0 h8).2.2 (j : Int) (by omega) (by omega)
  unfold zvm at h3
  exact zmk_fuel hv 8 9 _ (by omega) (by omega) (by omega) (by omega)
/-! effects -/
abbrev zRg : Type := (Int → Int) × (Int → Int)
def zac (R : zRg) (c : Int) : zRg := (zaw R.1 (zg c), zaf R.2 (zg c) (zt c))
def zfo (R : zRg) (L : List Int) : zRg := L.foldl zac R
def zid : zRg := (zcut 10 (fun p => p), zcut 10 (fun _ => 0))
def zeff (L : List Int) : zRg := zfo zid L
def zact (R E : zRg) : zRg := (zaw R.1 E.1, zaf R.2 E.1 E.2)
theorem zgR_id : zgR zid.1 zid.2 := by
  refine ⟨fun p h0 h1 => ?_, fun p q h0 h1 h2 h3 h => ?_, fun p h => ?_⟩
  · unfold zid; dsimp only; rw [zcut_in _ _ _ h0 h1, zcut_in _ _ _ h0 h1]; omega
  · unfold zid at h; dsimp only at h; rw [zcut_in _ _ _ h0 h1, zcut_in _ _ _ h2 h3] at h; exact h
  · unfold zid; dsimp only; rw [zcut_out _ _ _ h, zcut_out _ _ _ h]; exact ⟨rfl, rfl⟩
theorem zgR_fo {L : List Int} (hL : ∀ c ∈ L, zvs c) : ∀ {R : zRg}, zgR R.1 R.2 → zgR (zfo R L).1 (zfo R L).2 := by
  induction L with
  | nil => intro R h; exact h
  | cons c L ih =>
    intro R h
    exact ih (fun c hc => hL c (List.mem_cons_of_mem _ hc)) (R := zac R c) (zgR_step h (hL c List.mem_cons_self))
theorem zgR_eff {L : List Int} (hL : ∀ c ∈ L, zvs c) : zgR (zeff L).1 (zeff L).2 := zgR_fo hL zgR_id
theorem zact_ac {R E : zRg} {c : Int} (hE : zgR E.1 E.2) (hc : zvs c) : zac (zact R E) c = zact R (zac E c) := by
  unfold zac zact
  congr 1
  · apply zcut_congr
    intro q h0 h1
    have h2 := zg_in hc h0 h1
    show zaw R.1 E.1 (zg c q) = R.1 (zaw E.1 (zg c) q)
    unfold zaw
    rw [zcut_in _ _ _ h2.1 h2.2, zcut_in _ _ _ h0 h1]
  · apply zcut_congr
    intro q h0 h1
    have h2 := zg_in hc h0 h1
    show (zaf R.2 E.1 E.2 (zg c q) + zt c q) % 4 = (R.2 (zaw E.1 (zg c) q) + zaf E.2 (zg c) (zt c) q) % 4
    unfold zaw zaf
    rw [zcut_in _ _ _ h2.1 h2.2, zcut_in _ _ _ h0 h1, zcut_in _ _ _ h0 h1]
    omega
theorem zact_fo {R : zRg} {L : List Int} (hL : ∀ c ∈ L, zvs c) : ∀ {E : zRg}, zgR E.1 E.2 → zfo (zact R E) L = zact R (zfo E L) := by
  induction L with
  | nil => intro E _; rfl
  | cons c L ih =>
    intro E hE
    have hc := hL c List.mem_cons_self
    show zfo (zac (zact R E) c) L = zact R (zfo (zac E c) L)
    rw [zact_ac hE hc]
    exact ih (fun c hc => hL c (List.mem_cons_of_mem _ hc)) (zgR_step hE hc)
theorem zact_id {R : zRg} (hR : zgR R.1 R.2) : zact R zid = R := by
  obtain ⟨w, f⟩ := R
  unfold zact zid
  have h1 : zaw w (zcut 10 (fun p => p)) = w := by
    funext q
    unfold zaw
    by_cases h : 0 ≤ q ∧ q < 10
    · rw [zcut_in _ _ _ h.1 h.2, zcut_in _ _ _ h.1 h.2]
    · rw [zcut_out _ _ _ h]; exact (hR.2.2 q h).1.symm
  have h2 : zaf f (zcut 10 (fun p => p)) (zcut 10 (fun _ => 0)) = f := by
    funext q
    unfold zaf
    by_cases h : 0 ≤ q ∧ q < 10
    · rw [zcut_in _ _ _ h.1 h.2, zcut_in _ _ _ h.1 h.2, zcut_in _ _ _ h.1 h.2]
      have := hR.1 q h.1 h.2
      dsimp only at this
      omega
    · rw [zcut_out _ _ _ h]; exact (hR.2.2 q h).2.symm
  dsimp only
  rw [h1, h2]
/-- to do steps is to follow their effect -/
theorem zfo_eff {R : zRg} (hR : zgR R.1 R.2) {L : List Int} (hL : ∀ c ∈ L, zvs c) : zfo R L = zact R (zeff L) := by
  have h := zact_fo (R := R) hL zgR_id
  rw [zact_id hR] at h
  exact h
theorem zeff_app {L1 L2 : List Int} (h1 : ∀ c ∈ L1, zvs c) (h2 : ∀ c ∈ L2, zvs c) : zeff (L1 ++ L2) = zact (zeff L1) (zeff L2) := by
  show zfo zid (L1 ++ L2) = _
  unfold zfo
  rw [List.foldl_append]
  exact zfo_eff (zgR_eff h1) h2
theorem zeff_snoc (L : List Int) (c : Int) : zeff (L ++ [c]) = zac (zeff L) c := by
  show zfo zid (L ++ [c]) = _
  unfold zfo
  rw [List.foldl_append]
  rfl
theorem zpow {a : Int} (h0 : 0 ≤ a) (h1 : a < 10) : 1 ≤ (2 : Int) ^ a.toNat ∧ (2 : Int) ^ a.toNat ≤ 512 := by
  have h : a = 0 ∨ a = 1 ∨ a = 2 ∨ a = 3 ∨ a = 4 ∨ a = 5 ∨ a = 6 ∨ a = 7 ∨ a = 8 ∨ a = 9 := by omega
  rcases h with h | h | h | h | h | h | h | h | h | h <;> subst h <;> decide
/-! the plan -/
/-- the row of the plan for the figure k: steps L, those called -/
def zPk (me : zMe) (p : Nat) (k : Int) (L : List Int) (cm : Int) : Prop := me (p + 1) k = (L.length : Int) ∧ (∀ i : Nat, i < L.length → me (p + 2) (k * 120 + (i : Int)) = L.getD i 0) ∧ me (p + 3) k = cm ∧ me (p + 11 + 5 * k.toNat + 1) = (zeff L).1 ∧ me (p + 11 + 5 * k.toNat + 2) = (zeff L).2
def zPf (me me' : zMe) (p : Nat) (k : Int) : Prop := (∀ k' L' cm', 0 ≤ k' → k' < 8 → k' ≠ k → L'.length ≤ 120 → zPk me p k' L' cm' → zPk me' p k' L' cm') ∧ ∀ a, a < p ∨ p + 50 < a → me' a = me a
theorem zPf.trans {me me1 me2 : zMe} {p : Nat} {k : Int} (h1 : zPf me me1 p k) (h2 : zPf me1 me2 p k) : zPf me me2 p k :=
  ⟨fun k' L' cm' a b c e h => h2.1 k' L' cm' a b c e (h1.1 k' L' cm' a b c e h), fun a ha => (h2.2 a ha).trans (h1.2 a ha)⟩
theorem zPf.rf {me : zMe} {p : Nat} {k : Int} : zPf me me p k := ⟨fun _ _ _ _ _ _ _ h => h, fun _ _ => rfl⟩
set_option maxRecDepth 100000 in
set_option maxHeartbeats 1000000 in
theorem c_stepCount {d : Nat} {sp : zSP} {me : zMe} {Q : zQ} {p : Nat} {k : Int} (hd : 1 ≤ d) (hp : zPlan sp p) (hQ : Q (some (zI (me (p + 1) k))) sp me) : zCall mX3_stepCount d 0 0 [zR p, zI k] sp me Q := by
  refine z_met kX3_stepCount (by simp) (by simp) ?_
  show zW mX3_stepCount d 0 0 Q 0 [zR p, zI k] [] sp me
  refine z_L0R (pc' := 1) dX3_stepCount_0 rfl ?_
  refine z_getR (pc' := 4) (ki := 0) 0 fX3_9.l rfl rfl dX3_stepCount_1 rfl hp.s hp.p0 ?_
  refine z_L1I (pc' := 5) dX3_stepCount_4 rfl ?_
  refine z_S2v (pc' := 8) kX8_read lX3_75 dX3_stepCount_5 rfl (by omega) (Nat.le_of_ble_eq_true rfl) ?_
  refine c_read hp.a1 (zKv_i ?_)
  refine z_ireturn rfl rfl dX3_stepCount_8 ?_
  exact hQ
set_option maxRecDepth 100000 in
set_option maxHeartbeats 1000000 in
theorem c_calledBy {d : Nat} {sp : zSP} {me : zMe} {Q : zQ} {p : Nat} {k : Int} (hd : 1 ≤ d) (hp : zPlan sp p) (hQ : Q (some (zI (me (p + 3) k))) sp me) : zCall mX3_calledBy d 0 0 [zR p, zI k] sp me Q := by
  refine z_met kX3_calledBy (by simp) (by simp) ?_
  show zW mX3_calledBy d 0 0 Q 0 [zR p, zI k] [] sp me
  refine z_L0R (pc' := 1) dX3_calledBy_0 rfl ?_
  refine z_getR (pc' := 4) (ki := 2) 2 fX3_18.l rfl rfl dX3_calledBy_1 rfl hp.s hp.p2 ?_
  refine z_L1I (pc' := 5) dX3_calledBy_4 rfl ?_
  refine z_S2v (pc' := 8) kX8_read lX3_75 dX3_calledBy_5 rfl (by omega) (Nat.le_of_ble_eq_true rfl) ?_
  refine c_read hp.a3 (zKv_i ?_)
  refine z_ireturn rfl rfl dX3_calledBy_8 ?_
  exact hQ
set_option maxRecDepth 100000 in
set_option maxHeartbeats 1000000 in
theorem c_effectOf {d : Nat} {sp : zSP} {me : zMe} {Q : zQ} {p : Nat} {k : Int} (hd : 1 ≤ d) (hp : zPlan sp p) (hk0 : 0 ≤ k) (hk1 : k < 8) (hQ : Q (some (zR (p + 11 + 5 * k.toNat))) sp me) : zCall mX3_effectOf d 0 0 [zR p, zI k] sp me Q := by
  refine z_met kX3_effectOf (by simp) (by simp) ?_
  show zW mX3_effectOf d 0 0 Q 0 [zR p, zI k] [] sp me
  refine z_L1I (pc' := 1) dX3_effectOf_0 rfl ?_
  refine z_S1v (pc' := 4) kX8_isFigure lX3_93 dX3_effectOf_1 rfl (by omega) (Nat.le_of_ble_eq_true rfl) ?_
  refine c_isFigure (fun hf => zKv_i ?_) (fun hf => absurd ⟨hk0, hk1⟩ hf)
  refine z_if_eq (tgt := 16) (pc' := 7) dX3_effectOf_4 (by decide) rfl (fun h4 => absurd h4 (by omega)) (fun h4 => ?_)
  refine z_L0R (pc' := 8) dX3_effectOf_7 rfl ?_
  refine z_getR (pc' := 11) (ki := 4) 4 fX3_26.l rfl rfl dX3_effectOf_8 rfl hp.s hp.p4 ?_
  refine z_L1I (pc' := 12) dX3_effectOf_11 rfl ?_
  refine z_qld (pc' := 13) 3 dX3_effectOf_12 rfl hp.a5 (by omega) (by omega) (by omega) (hp.q k hk0 hk1).1 ?_
  refine z_goto (tgt := 20) dX3_effectOf_13 (by decide) ?_
  refine z_areturn rfl rfl dX3_effectOf_20 ?_
  exact hQ
set_option maxRecDepth 100000 in
set_option maxHeartbeats 1000000 in
theorem c_putStep {d : Nat} {sp : zSP} {me : zMe} {Q : zQ} {p : Nat} {k c : Int} {L : List Int} (hd : 2 ≤ d) (hp : zPlan sp p) (hk0 : 0 ≤ k) (hk1 : k < 8) (hL : me (p + 1) k = (L.length : Int)) (hl : L.length < 120) (hQ : Q none sp (zset (zset me (p + 2) (zup (me (p + 2)) (k * 120 + (L.length : Int)) c)) (p + 1) (zup (me (p + 1)) k ((L.length : Int) + 1)))) : zCall mX3_putStep d 0 0 [zR p, zI k, zI c] sp me Q := by
  refine z_met kX3_putStep (by simp) (by simp) ?_
  show zW mX3_putStep d 0 0 Q 0 [zR p, zI k, zI c, zU] [] sp me
  refine z_L0R (pc' := 1) dX3_putStep_0 rfl ?_
  refine z_L1I (pc' := 2) dX3_putStep_1 rfl ?_
  refine z_V1v (pc' := 5) (ci := 3) kX3_stepCount lX3_72 dX3_putStep_2 rfl (by omega) (Nat.le_of_ble_eq_true rfl) (by decide) rfl hp.s ?_
  refine c_stepCount (by omega) hp (zKv_i ?_)
  rw [hL]
  refine z_S3I (pc' := 6) rfl dX3_putStep_5 rfl ?_
  refine z_L3I (pc' := 7) dX3_putStep_6 rfl ?_
  refine z_bipush (pc' := 9) dX3_putStep_7 rfl (by decide) ?_
  refine z_icmp_ge (tgt := 37) (pc' := 12) dX3_putStep_9 (by decide) rfl (fun h9 => absurd h9 (by omega)) (fun h9 => ?_)
  refine z_L0R (pc' := 13) dX3_putStep_12 rfl ?_
  refine z_getR (pc' := 16) (ki := 1) 1 fX3_15.l rfl rfl dX3_putStep_13 rfl hp.s hp.p1 ?_
  refine z_L1I (pc' := 17) dX3_putStep_16 rfl ?_
  refine z_bipush (pc' := 19) dX3_putStep_17 rfl (by decide) ?_
  refine z_imul (pc' := 20) dX3_putStep_19 rfl (by unfold zin; omega) ?_
  refine z_L3I (pc' := 21) dX3_putStep_20 rfl ?_
  refine z_iadd (pc' := 22) dX3_putStep_21 rfl (by unfold zin; omega) ?_
  refine z_L2I (pc' := 23) dX3_putStep_22 rfl ?_
  refine z_S30 (pc' := 26) kX8_write lX3_86 dX3_putStep_23 rfl (by omega) (Nat.le_of_ble_eq_true rfl) ?_
  refine c_write hp.a2 (by omega) (by omega) (zK0_i ?_)
  refine z_L0R (pc' := 27) dX3_putStep_26 rfl ?_
  refine z_getR (pc' := 30) (ki := 0) 0 fX3_9.l rfl rfl dX3_putStep_27 rfl hp.s hp.p0 ?_
  refine z_L1I (pc' := 31) dX3_putStep_30 rfl ?_
  refine z_L3I (pc' := 32) dX3_putStep_31 rfl ?_
  refine z_iconst (pc' := 33) dX3_putStep_32 rfl (by unfold zin; decide) ?_
  refine z_iadd (pc' := 34) dX3_putStep_33 rfl (by unfold zin; omega) ?_
  refine z_S30 (pc' := 37) kX8_write lX3_86 dX3_putStep_34 rfl (by omega) (Nat.le_of_ble_eq_true rfl) ?_
  refine c_write hp.a1 (by omega) (by omega) (zK0_i ?_)
  rw [zset_ne _ _ _ (show p + 1 ≠ p + 2 by omega)]
  refine z_return rfl rfl dX3_putStep_37 ?_
  exact hQ
end ZMATH

