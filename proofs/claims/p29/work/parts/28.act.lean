section ZACT
theorem zg_all {me : zMe} {s : Nat} {A : zAb} (h : zget me s = A.1) : me (s + 1 + 1) = qW A ∧ me (s + 1 + 2) = qF A ∧ me (s + 6 + 1) = qH A ∧ me (s + 6) 1 = qP A ∧ me (s + 8 + 1) = qS A ∧ me (s + 8 + 2) = qC A ∧ me s 3 = qT0 A ∧ me s 4 = qT1 A ∧ me s 5 = qT2 A :=
  ⟨congrArg (fun S : zSt => S.1) h, congrArg (fun S : zSt => S.2.1) h, congrArg (fun S : zSt => S.2.2.1) h, congrArg (fun S : zSt => S.2.2.2.1) h, congrArg (fun S : zSt => S.2.2.2.2.1) h, congrArg (fun S : zSt => S.2.2.2.2.2.1) h, congrArg (fun S : zSt => S.2.2.2.2.2.2.1) h, congrArg (fun S : zSt => S.2.2.2.2.2.2.2.1) h, congrArg (fun S : zSt => S.2.2.2.2.2.2.2.2) h⟩
theorem zg_mk {me : zMe} {s : Nat} {w f h sz cd : Int → Int} {pr a b c : Int} (h1 : me (s + 1 + 1) = w) (h2 : me (s + 1 + 2) = f) (h3 : me (s + 6 + 1) = h) (h4 : me (s + 6) 1 = pr) (h5 : me (s + 8 + 1) = sz) (h6 : me (s + 8 + 2) = cd) (h7 : me s 3 = a) (h8 : me s 4 = b) (h9 : me s 5 = c) : zget me s = qst w f h pr sz cd a b c := by
  unfold zget qst
  rw [h1, h2, h3, h4, h5, h6, h7, h8, h9]
theorem zRX_do {me me3 : zMe} {x : Nat} {A : zAb} {S : zSt} (hX : zRX me x A) (hS : zget me3 (x + 1) = S) (hH : zRH me3 (x + 23) ((A.1 :: A.2.1).take 5)) (hsame : ∀ a, (a = x ∨ (x + 12 ≤ a ∧ a ≤ x + 22) ∨ a = x + 80 ∨ a = x + 81) → me3 a = me a) (hP : zRP me3 (x + 82) S.2.2.2.2.1 S.2.2.2.2.2.1) : zRX me3 x (zdo A S) := by
  obtain ⟨h1, h2, h3, h4, h5, h6⟩ := hX
  refine ⟨hS, hH, ?_, ?_, ?_, hP⟩
  · rw [hsame x (Or.inl rfl), zget_congr (me := me) (me' := me3) (s := x + 12) (fun a g1 g2 => hsame a (by omega))]; exact h3
  · rw [hsame _ (by omega)]; exact h4
  · rw [hsame _ (by omega)]; exact h5
theorem zlen_mono {sz sz' cd : Int → Int} (hv : zfv sz cd) (hv' : zfv sz' cd) (hle : ∀ k, 0 ≤ k → k < 8 → sz' k ≤ sz k) : ∀ (n : Nat) (k : Int), 0 ≤ k → k < 8 → k < n → (zsteps sz' cd k).length ≤ (zsteps sz cd k).length := by
  intro n
  induction n with
  | zero => intro k h0 _ h1; omega
  | succ n ih =>
    intro k h0 h8 h1
    rw [zsteps_eq hv h0 h8, zsteps_eq hv' h0 h8]
    have h2 := hle k h0 h8
    have h3 : ∀ j : Nat, (j : Int) ≤ sz' k → (zpr cd (zsteps sz' cd) k j).length ≤ (zpr cd (zsteps sz cd) k j).length := by
      intro j
      induction j with
      | zero => intro _; exact Nat.le_refl _
      | succ j ihj =>
        intro hj
        have h4 := ihj (by omega)
        have h5 := (hv' k h0 h8).2.2 (j : Int) (by omega) (by omega)
        unfold zvm at h5
        show (zpr cd (zsteps sz' cd) k j ++ _).length ≤ (zpr cd (zsteps sz cd) k j ++ _).length
        rw [List.length_append, List.length_append]
        by_cases e : cd (k * 10 + (j : Int)) / 100 = 4
        · rw [if_pos e, if_pos e]
          have := ih (cd (k * 10 + (j : Int)) / 10 % 10) (by omega) (by omega) (by omega)
          omega
        · rw [if_neg e, if_neg e]
          simp only [List.length_singleton]
          omega
    have h6 := (hv' k h0 h8).1
    exact Nat.le_trans (h3 (sz' k).toNat (by omega)) (zpr_len _ _ (by omega))
theorem zfv_drop {sz cd : Int → Int} {k : Int} (hv : zfv sz cd) (h0 : 0 ≤ k) (h8 : k < 8) (hs : sz k ≠ 0) : zfv (zup sz k (sz k - 1)) cd := by
  intro j j0 j8
  have hj := hv j j0 j8
  by_cases e : j = k
  · subst e
    rw [zup_eq]
    exact ⟨by omega, by omega, fun i i0 i1 => hj.2.2 i i0 (by omega)⟩
  · rw [zup_ne _ _ _ e]; exact hj
theorem zlim_drop {sz cd : Int → Int} {k : Int} (hv : zfv sz cd) (hl : zlim sz cd) (h0 : 0 ≤ k) (h8 : k < 8) (hs : sz k ≠ 0) : zlim (zup sz k (sz k - 1)) cd := by
  intro j j0 j8
  refine Nat.le_trans (zlen_mono hv (zfv_drop hv h0 h8 hs) (fun i i0 i8 => ?_) 8 j j0 j8 (by omega)) (hl j j0 j8)
  by_cases e : i = k
  · subst e; rw [zup_eq]; omega
  · rw [zup_ne _ _ _ e]; exact Int.le_refl _
theorem zvm_of {k kd a b : Int} (hm : zmv k kd a b) (h0 : 0 ≤ k) (h8 : k < 8) : zvm k (kd * 100 + a * 10 + b) := by
  unfold zmv at hm
  have ha : 0 ≤ a ∧ a < 10 := by rcases hm with h | h | h | h <;> omega
  have hb : 0 ≤ b ∧ b < 10 := by rcases hm with h | h | h | h <;> omega
  have hk : 0 ≤ kd := by rcases hm with h | h | h | h <;> omega
  have e1 : (kd * 100 + a * 10 + b) / 100 = kd := by clear hm; omega
  have e2 : (kd * 100 + a * 10 + b) / 10 % 10 = a := by clear hm; omega
  have e3 : (kd * 100 + a * 10 + b) % 10 = b := by clear hm; omega
  unfold zvm zvs
  rw [e1, e2, e3]
  clear e1 e2 e3
  rcases hm with ⟨h | h, h1⟩ | h | h | h
  · exact Or.inl ⟨by omega, by omega, Or.inl ⟨h, h1.2.1⟩⟩
  · exact Or.inl ⟨by omega, by omega, Or.inr (Or.inr (Or.inr ⟨h, h1.2.1⟩))⟩
  · exact Or.inl ⟨by omega, by omega, Or.inr (Or.inl ⟨h.1, by omega, by omega⟩)⟩
  · exact Or.inl ⟨by omega, by omega, Or.inr (Or.inr (Or.inl ⟨h.1, h.2.1, h.2.2.2⟩))⟩
  · exact Or.inr ⟨by omega, h.1, by omega, h.2.2.2⟩
theorem zfv_add {sz cd : Int → Int} {k kd a b : Int} (hv : zfv sz cd) (h0 : 0 ≤ k) (h8 : k < 8) (hs : sz k < 10) (hm : zmv k kd a b) : zfv (zup sz k (sz k + 1)) (zup cd (k * 10 + sz k) (kd * 100 + a * 10 + b)) := by
  intro j j0 j8
  have hj := hv j j0 j8
  have hk := hv k h0 h8
  by_cases e : j = k
  · subst e
    rw [zup_eq]
    refine ⟨by omega, by omega, fun i i0 i1 => ?_⟩
    by_cases e2 : i = sz j
    · subst e2
      rw [zup_eq]
      exact zvm_of hm h0 h8
    · rw [zup_ne _ _ _ (by omega)]
      exact hj.2.2 i i0 (by omega)
  · rw [zup_ne _ _ _ e]
    refine ⟨hj.1, hj.2.1, fun i i0 i1 => ?_⟩
    rw [zup_ne _ _ _ (by omega)]
    exact hj.2.2 i i0 i1
theorem zgw_lt {sz cd : Int → Int} {fi x : Int} (hv : zfv sz cd) : ∀ (n : Nat) (k : Int), 0 ≤ k → k < 8 → k < fi → k < n → zgw sz cd fi x k = 0 := by
  intro n
  induction n with
  | zero => intro k h0 _ _ h1; omega
  | succ n ih =>
    intro k h0 h8 hf h1
    rw [zgw_eq hv h0 h8 (by omega)]
    have h3 : ∀ j : Nat, (j : Int) ≤ sz k → zgs cd (zgw sz cd fi x) k j = 0 := by
      intro j
      induction j with
      | zero => intro _; rfl
      | succ j ihj =>
        intro hj
        have h5 := (hv k h0 h8).2.2 (j : Int) (by omega) (by omega)
        unfold zvm at h5
        unfold zgs
        rw [ihj (by omega)]
        by_cases e : cd (k * 10 + (j : Int)) / 100 = 4
        · rw [if_pos e, ih _ (by omega) (by omega) (by omega) (by omega)]; rfl
        · rw [if_neg e]; rfl
    have h6 := (hv k h0 h8).1
    exact h3 (sz k).toNat (by omega)
/-- how many steps the figures have behind one more move -/
theorem zlen_add {sz cd : Int → Int} {fi kd a b : Int} (hv : zfv sz cd) (h0 : 0 ≤ fi) (h8 : fi < 8) (hs : sz fi < 10) (hm : zmv fi kd a b) : ∀ (n : Nat) (k : Int), 0 ≤ k → k < 8 → k < n → ((zsteps (zup sz fi (sz fi + 1)) (zup cd (fi * 10 + sz fi) (kd * 100 + a * 10 + b)) k).length : Int) = ((zsteps sz cd k).length : Int) + zgw sz cd fi (if kd = 4 then ((zsteps sz cd a).length : Int) else 1) k := by
  have hv' := zfv_add hv h0 h8 hs hm
  intro n
  induction n with
  | zero => intro k h0 _ h1; omega
  | succ n ih =>
    intro k k0 k8 h1
    rw [zsteps_eq hv' k0 k8, zsteps_eq hv k0 k8]
    have hvk := hv k k0 k8
    have hpre : ∀ j : Nat, (j : Int) ≤ sz k → ((zpr (zup cd (fi * 10 + sz fi) (kd * 100 + a * 10 + b)) (zsteps (zup sz fi (sz fi + 1)) (zup cd (fi * 10 + sz fi) (kd * 100 + a * 10 + b))) k j).length : Int) = ((zpr cd (zsteps sz cd) k j).length : Int) + zgs cd (zgw sz cd fi (if kd = 4 then ((zsteps sz cd a).length : Int) else 1)) k j := by
      intro j
      induction j with
      | zero => intro _; rfl
      | succ j ihj =>
        intro hj
        have h4 := ihj (by omega)
        have h5 := hvk.2.2 (j : Int) (by omega) (by omega)
        unfold zvm at h5
        have hfi := hv fi h0 h8
        have e0 : zup cd (fi * 10 + sz fi) (kd * 100 + a * 10 + b) (k * 10 + (j : Int)) = cd (k * 10 + (j : Int)) := zup_ne _ _ _ (by
          intro z
          by_cases e : k = fi
          · rw [e] at z hj; omega
          · omega)
        show ((zpr _ _ k j ++ _).length : Int) = ((zpr _ _ k j ++ _).length : Int) + (zgs _ _ k j + _)
        rw [List.length_append, List.length_append, e0]
        by_cases e : cd (k * 10 + (j : Int)) / 100 = 4
        · rw [if_pos e, if_pos e, if_pos e]
          have := ih (cd (k * 10 + (j : Int)) / 10 % 10) (by omega) (by omega) (by omega)
          omega
        · rw [if_neg e, if_neg e, if_neg e]
          simp only [List.length_singleton]
          omega
    by_cases e : k = fi
    · subst e
      rw [zup_eq, zgw_fi]
      have h6 : (sz k + 1).toNat = (sz k).toNat + 1 := by omega
      rw [h6]
      have h7 := hpre (sz k).toNat (by omega)
      have h9 : zgs cd (zgw sz cd k (if kd = 4 then ((zsteps sz cd a).length : Int) else 1)) k (sz k).toNat = 0 := by
        have h3 : ∀ j : Nat, (j : Int) ≤ sz k → zgs cd (zgw sz cd k (if kd = 4 then ((zsteps sz cd a).length : Int) else 1)) k j = 0 := by
          intro j
          induction j with
          | zero => intro _; rfl
          | succ j ihj =>
            intro hj
            have h5 := hvk.2.2 (j : Int) (by omega) (by omega)
            unfold zvm at h5
            unfold zgs
            rw [ihj (by omega)]
            by_cases e : cd (k * 10 + (j : Int)) / 100 = 4
            · rw [if_pos e, zgw_lt hv 8 _ (by omega) (by omega) (by omega) (by omega)]; rfl
            · rw [if_neg e]; rfl
        exact h3 _ (by omega)
      show ((zpr _ _ k (sz k).toNat ++ _).length : Int) = _
      rw [List.length_append]
      have e1 : (((sz k).toNat : Nat) : Int) = sz k := Int.toNat_of_nonneg hvk.1
      rw [e1, zup_eq]
      unfold zmv at hm
      by_cases e4 : kd = 4
      · rw [if_pos (show (kd * 100 + a * 10 + b) / 100 = 4 by omega), if_pos e4]
        have e5 : (kd * 100 + a * 10 + b) / 10 % 10 = a := by omega
        rw [e5]
        have h10 := ih a (by omega) (by omega) (by omega)
        have h11 := zgw_lt (x := if kd = 4 then ((zsteps sz cd a).length : Int) else 1) hv 8 a (by omega) (by omega) (show a < k by omega) (by omega)
        rw [h11] at h10
        omega
      · rw [if_neg (show ¬ (kd * 100 + a * 10 + b) / 100 = 4 by omega), if_neg e4]
        simp only [List.length_singleton]
        omega
    · rw [zup_ne _ _ _ e, zgw_eq hv k0 k8 e]
      exact hpre _ (by omega)
theorem zlim_add {sz cd : Int → Int} {fi kd a b : Int} (hv : zfv sz cd) (h0 : 0 ≤ fi) (h8 : fi < 8) (hs : sz fi < 10) (hm : zmv fi kd a b) : zlim (zup sz fi (sz fi + 1)) (zup cd (fi * 10 + sz fi) (kd * 100 + a * 10 + b)) ↔ ∀ k, 0 ≤ k → k < 8 → ((zsteps sz cd k).length : Int) + zgw sz cd fi (if kd = 4 then ((zsteps sz cd a).length : Int) else 1) k ≤ 120 := by
  constructor
  · intro h k k0 k8
    have h1 := h k k0 k8
    have h2 := zlen_add hv h0 h8 hs hm 8 k k0 k8 (by omega)
    omega
  · intro h k k0 k8
    have h1 := h k k0 k8
    have h2 := zlen_add hv h0 h8 hs hm 8 k k0 k8 (by omega)
    omega
set_option maxRecDepth 100000 in
set_option maxHeartbeats 1000000 in
theorem x_drop {d : Nat} {sp : zSP} {me : zMe} {Q : zQ} {x : Nat} {A : zAb} {B k : Int} (hd : 20 ≤ d) (hx : zObj sp x) (hX : zRX me x A) (hI : zIA B A) (hQ : ∀ me', zRX me' x (zoDrop A k).2 → zFr x me me' → Q (some (zI (zoDrop A k).1)) sp me') : zCall mX8_drop d 0 0 [zR x, zI k] sp me Q := by
  refine z_met kX8_drop (by simp) (by simp) ?_
  show zW mX8_drop d 0 0 Q 0 [zR x, zI k, zU] [] sp me
  have hw := zx_w hX
  have hf := zx_f hX
  have hh := zx_h hX
  have hp := zx_p hX
  have hs := zx_s hX
  have hc := zx_c hX
  have hIS := hI.1
  have hgA : zgR (qW A) (qF A) := hIS.1
  have hokA : zHok (qH A) := hIS.2.1
  have hpnA : qP A = zpn (qH A) := hIS.2.2.1
  have hvA : zfv (qS A) (qC A) := hIS.2.2.2.1
  have hlA : zlim (qS A) (qC A) := hIS.2.2.2.2.1
  unfold zoDrop at hQ
  refine z_L1I (pc' := 1) dX8_drop_0 rfl ?_
  refine z_S1v (pc' := 4) kX8_isFigure lX8_61 dX8_drop_1 rfl (by omega) (Nat.le_of_ble_eq_true rfl) ?_
  refine c_isFigure (fun hk => zKv_i ?_) (fun hk => zKv_i ?_)
  rotate_left
  · refine z_if_ne (tgt := 9) (pc' := 7) dX8_drop_4 (by decide) rfl (fun h4 => absurd rfl h4) (fun h4 => ?_)
    refine z_iconst (pc' := 8) dX8_drop_7 rfl (by unfold zin; decide) ?_
    refine z_ireturn rfl rfl dX8_drop_8 ?_
    rw [zif_pos hk] at hQ
    exact hQ me hX zFr.rf
  rw [zif_neg (fun z => z hk)] at hQ
  have hvk := hvA k hk.1 hk.2
  refine z_if_ne (tgt := 9) (pc' := 7) dX8_drop_4 (by decide) rfl (fun h4 => ?_) (fun h4 => absurd h4 (by omega))
  refine z_L0R (pc' := 10) dX8_drop_9 rfl ?_
  refine z_getR (pc' := 13) (ki := 0) 0 fX8_10.l rfl rfl dX8_drop_10 rfl hx.s hx.p0 ?_
  refine z_getR (pc' := 16) (ki := 2) 2 fX8_69 rfl rfl dX8_drop_13 rfl (by first | exact hx.o1.s | exact hx.o12.s) (by first | exact hx.o1.p2 | exact hx.o12.p2) ?_
  refine z_S2R (pc' := 17) rfl dX8_drop_16 rfl ?_
  refine z_L2R (pc' := 18) dX8_drop_17 rfl ?_
  refine z_L1I (pc' := 19) dX8_drop_18 rfl ?_
  refine z_V1v (pc' := 22) (ci := 0) kX0_size lX8_77 dX8_drop_19 rfl (by omega) (Nat.le_of_ble_eq_true rfl) (by decide) rfl hx.o1.o8.s ?_
  refine c_size (by omega) hx.o1.o8 (zKv_i ?_)
  rw [hs]
  refine z_if_ne (tgt := 28) (pc' := 25) dX8_drop_22 (by decide) rfl (fun h22 => ?_) (fun h22 => ?_)
  · rw [zif_neg h22] at hQ
    refine z_L0R (pc' := 29) dX8_drop_28 rfl ?_
    refine z_getR (pc' := 32) (ki := 3) 3 fX8_26.l rfl rfl dX8_drop_29 rfl hx.s hx.p3 ?_
    refine z_L0R (pc' := 33) dX8_drop_32 rfl ?_
    refine z_getR (pc' := 36) (ki := 0) 0 fX8_10.l rfl rfl dX8_drop_33 rfl hx.s hx.p0 ?_
    refine z_V10 (pc' := 39) (ci := 1) kX1_keep lX8_86 dX8_drop_36 rfl (by omega) (Nat.le_of_ble_eq_true rfl) (by decide) rfl hx.o23.s ?_
    refine c_keep (by omega) hx.o23 hx.o1 (by omega) hX.2.1 (fun me1 hH1 hf1 => zK0_i ?_)
    rw [hX.1] at hH1
    have g1 := zg_all (me := me1) (s := x + 1) (A := A) (by rw [zget_congr (fun a h1 h2 => hf1 a (by omega))]; exact hX.1)
    refine z_L2R (pc' := 40) dX8_drop_39 rfl ?_
    refine z_L1I (pc' := 41) dX8_drop_40 rfl ?_
    refine z_V10 (pc' := 44) (ci := 0) kX0_cut lX8_102 dX8_drop_41 rfl (by omega) (Nat.le_of_ble_eq_true rfl) (by decide) rfl hx.o1.o8.s ?_
    refine c_cut (by omega) hx.o1.o8 hk.1 hk.2 (by rw [g1.2.2.2.2.1]; exact hvk.1) (by rw [g1.2.2.2.2.1]; exact hvk.2.1) (zK0_i ?_)
    rw [g1.2.2.2.2.1]
    generalize hme2 : zset me1 (x + 1 + 8 + 1) (zup (qS A) k (qS A k - 1)) = me2
    have o2 : ∀ a, a ≠ x + 1 + 8 + 1 → me2 a = me1 a := fun a ha => by rw [← hme2]; exact zset_ne _ _ _ ha
    have s2 : me2 (x + 1 + 8 + 1) = zup (qS A) k (qS A k - 1) := by rw [← hme2]; exact zset_eq _ _ _
    have c2 : me2 (x + 1 + 8 + 2) = qC A := by rw [o2 _ (by omega)]; exact g1.2.2.2.2.2.1
    refine z_L0R (pc' := 45) dX8_drop_44 rfl ?_
    refine z_getR (pc' := 48) (ki := 5) 5 fX8_40.l rfl rfl dX8_drop_45 rfl hx.s hx.p5 ?_
    refine z_L2R (pc' := 49) dX8_drop_48 rfl ?_
    refine z_V10 (pc' := 52) (ci := 3) kX3_workOut lX8_98 dX8_drop_49 rfl (by omega) (Nat.le_of_ble_eq_true rfl) (by decide) rfl hx.o82.s ?_
    refine c_workOut (by omega) hx.o82 hx.o1.o8 (by omega) (by rw [s2, c2]; exact zfv_drop hvA hk.1 hk.2 h22) (by rw [s2, c2]; exact zlim_drop hvA hlA hk.1 hk.2 h22) (fun me3 hP3 hf3 => zK0_i ?_)
    rw [s2, c2] at hP3
    refine z_L2R (pc' := 53) dX8_drop_52 rfl ?_
    refine z_L1I (pc' := 54) dX8_drop_53 rfl ?_
    refine z_V1v (pc' := 57) (ci := 0) kX0_size lX8_77 dX8_drop_54 rfl (by omega) (Nat.le_of_ble_eq_true rfl) (by decide) rfl hx.o1.o8.s ?_
    refine c_size (by omega) hx.o1.o8 (zKv_i ?_)
    rw [hf3 _ (by omega), s2, zup_eq]
    refine z_ireturn rfl rfl dX8_drop_57 ?_
    refine hQ me3 (zRX_do hX (zg_mk ?_ ?_ ?_ ?_ ?_ ?_ ?_ ?_ ?_) (zRH_congr hH1 (fun a h1 h2 => by rw [hf3 a (by omega), o2 a (by omega)])) (fun a ha => by rw [hf3 a (by omega), o2 a (by omega), hf1 a (by omega)]) hP3) (fun a ha => by rw [hf3 a (by omega), o2 a (by omega), hf1 a (by omega)])
    · rw [hf3 _ (by omega), o2 _ (by omega)]; exact g1.1
    · rw [hf3 _ (by omega), o2 _ (by omega)]; exact g1.2.1
    · rw [hf3 _ (by omega), o2 _ (by omega)]; exact g1.2.2.1
    · rw [hf3 _ (by omega), o2 _ (by omega)]; exact g1.2.2.2.1
    · rw [hf3 _ (by omega)]; exact s2
    · rw [hf3 _ (by omega)]; exact c2
    · rw [hf3 _ (by omega), o2 _ (by omega)]; exact g1.2.2.2.2.2.2.1
    · rw [hf3 _ (by omega), o2 _ (by omega)]; exact g1.2.2.2.2.2.2.2.1
    · rw [hf3 _ (by omega), o2 _ (by omega)]; exact g1.2.2.2.2.2.2.2.2
  · refine z_bipush (pc' := 27) dX8_drop_25 rfl (by decide) ?_
    refine z_ireturn rfl rfl dX8_drop_27 ?_
    rw [zif_pos h22] at hQ
    exact hQ me hX zFr.rf
end ZACT

