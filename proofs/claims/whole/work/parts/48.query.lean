section ZMOG
theorem zMQ_f {y : Nat} {me me' : zMe} (h : ∀ a, a ≠ y + 4 → a ≠ y + 5 → a ≠ y + 7 → a ≠ y + 8 → a ≠ y + 15 → a ≠ y + 16 → me' a = me a) : zMQ y me me' :=
  ⟨fun a ha => h a (by omega) (by omega) (by omega) (by omega) (by omega) (by omega), h _ (by omega) (by omega) (by omega) (by omega) (by omega) (by omega), h _ (by omega) (by omega) (by omega) (by omega) (by omega) (by omega), h _ (by omega) (by omega) (by omega) (by omega) (by omega) (by omega), h _ (by omega) (by omega) (by omega) (by omega) (by omega) (by omega), by rw [h y (by omega) (by omega) (by omega) (by omega) (by omega) (by omega)], by rw [h y (by omega) (by omega) (by omega) (by omega) (by omega) (by omega)], by rw [h y (by omega) (by omega) (by omega) (by omega) (by omega) (by omega)]⟩
set_option maxRecDepth 100000 in
set_option maxHeartbeats 1000000 in
theorem m_followAll {d : Nat} {sp : zSP} {me : zMe} {Q : zQ} {y : Nat} {sz cd : Int → Int} (hd : 5 ≤ d) (hy : zMod sp y) (hv : zfv sz cd) (hl : zlim sz cd) (hRs : ∀ k, 0 ≤ k → k < 8 → me (y + 1) (30 + 31 * k) = sz k) (hRc : ∀ k, 0 ≤ k → k < 8 → ∀ m, 0 ≤ m → m < sz k → ∀ q, 0 ≤ q → q < 3 → me (y + 1) (30 + 31 * k + 1 + 3 * m + q) = zdig (cd (k * 10 + m)) q) (hQ : ∀ me', zUP me' y sz cd → (∀ k, 0 ≤ k → k < 8 → zGk me' y k (zeff (zsteps sz cd k))) → (∀ a, a ≠ y + 4 → a ≠ y + 5 → a ≠ y + 7 → a ≠ y + 8 → a ≠ y + 15 → a ≠ y + 16 → me' a = me a) → Q none sp me') : zCall mX9_followAll d 0 0 [zR y] sp me Q := by
  refine z_met kX9_followAll (by simp) (by simp) ?_
  show zW mX9_followAll d 0 0 Q 0 [zR y, zU] [] sp me
  refine z_L0R (pc' := 1) dX9_followAll_0 rfl ?_
  refine z_V00 (pc' := 4) (ci := 9) kX9_unroll lX9_112 dX9_followAll_1 rfl (by omega) (Nat.le_of_ble_eq_true rfl) (by decide) rfl hy.s ?_
  refine m_unroll (by omega) hy hv hl hRs hRc (fun me1 hP1 hf1 => zK0_i ?_)
  refine z_iconst (pc' := 5) dX9_followAll_4 rfl (by unfold zin; decide) ?_
  refine z_S1I (pc' := 6) rfl dX9_followAll_5 rfl ?_
  suffices H : ∀ (n : Nat) (k : Int) (me' : zMe), 0 ≤ k → k ≤ 8 → 8 - k < n → (∀ j, 0 ≤ j → j < k → zGk me' y j (zeff (zsteps sz cd j))) → (∀ a, a ≠ y + 7 → a ≠ y + 8 → a ≠ y + 15 → a ≠ y + 16 → me' a = me1 a) → zW mX9_followAll d 0 0 Q 6 [zR y, zI k] [] sp me' by
    exact H 9 0 me1 (by omega) (by omega) (by omega) (fun j j0 j1 => by omega) (fun _ _ _ _ _ => rfl)
  intro n
  induction n with
  | zero => intro k me' h0 h1 h2; omega
  | succ n ih =>
  intro k me' hk0 hk1 hk2 hG hF
  have hU2 : ∀ j, 0 ≤ j → j < 8 → zUk me' y j (zsteps sz cd j) := fun j j0 j1 => by
    have hu := hP1 j j0 j1
    exact ⟨by rw [hF _ (by omega) (by omega) (by omega) (by omega)]; exact hu.1, fun i hi q q0 q1 => by rw [hF _ (by omega) (by omega) (by omega) (by omega)]; exact hu.2 i hi q q0 q1⟩
  refine z_L1I (pc' := 7) dX9_followAll_6 rfl ?_
  refine z_bipush (pc' := 9) dX9_followAll_7 rfl (by decide) ?_
  refine z_icmp_ge (tgt := 23) (pc' := 12) dX9_followAll_9 (by decide) rfl (fun h9 => ?_) (fun h9 => ?_)
  · refine z_return rfl rfl dX9_followAll_23 ?_
    obtain rfl : k = 8 := by omega
    exact hQ me' (fun k k0 k1 => hU2 k k0 k1) hG (fun a a1 a2 a3 a4 a5 a6 => by rw [hF a a3 a4 a5 a6]; exact hf1 a a1 a2)
  · refine z_L0R (pc' := 13) dX9_followAll_12 rfl ?_
    refine z_L1I (pc' := 14) dX9_followAll_13 rfl ?_
    refine z_V10 (pc' := 17) (ci := 9) kX9_follow lX9_175 dX9_followAll_14 rfl (by omega) (Nat.le_of_ble_eq_true rfl) (by decide) rfl hy.s ?_
    refine m_follow (by omega) hy hk0 (by omega) (hU2 k hk0 (by omega)) (zsteps_ok hv hk0 (by omega)) (hl k hk0 (by omega)) (fun me2 hG2 hO2 hF2 => zK0_i ?_)
    refine z_inc1 (pc' := 20) rfl dX9_followAll_17 rfl (by unfold zin; omega) ?_
    refine z_goto (tgt := 6) dX9_followAll_20 (by decide) ?_
    exact ih (k + 1) me2 (by omega) (by omega) (by omega) (fun j j0 j1 => by
      by_cases e : j = k
      · subst e; exact hG2
      · exact hO2 j _ e (hG j j0 (by omega))) (fun a a1 a2 a3 a4 => by rw [hF2 a a1 a2 a3 a4]; exact hF a a1 a2 a3 a4)
theorem zGk_pl {me : zMe} {y : Nat} {k : Int} {R : zRg} (hg : zgR R.1 R.2) (h : zGk me y k R) {p : Int} (p0 : 0 ≤ p) (p1 : p < 10) : me (y + 15) (10 * k + p) = zpl R.1 p ∧ me (y + 16) (10 * k + p) = R.2 (zpl R.1 p) := by
  have hp := h p p0 p1
  have e : me (y + 15) (10 * k + p) = zpl R.1 p := (zpl_of hg hp.1 hp.2.1 hp.2.2.1).symm
  exact ⟨e, by rw [hp.2.2.2, e]⟩
theorem zsame_iff {R R' : zRg} (hg : zgR R.1 R.2) (hg' : zgR R'.1 R'.2) : zsame R R' ↔ ∀ p, 0 ≤ p → p < 10 → zpl R.1 p = zpl R'.1 p ∧ R.2 (zpl R.1 p) = R'.2 (zpl R'.1 p) := by
  constructor
  · intro h p p0 p1
    have hp := zpl_ok hg p0 p1
    have hs := h _ hp.1 hp.2.1
    have e : zpl R'.1 p = zpl R.1 p := zpl_of hg' hp.1 hp.2.1 (by rw [← hs.1]; exact hp.2.2)
    rw [e]
    exact ⟨rfl, hs.2⟩
  · intro h q q0 q1
    have hr := hg.1 q q0 q1
    have e1 : zpl R.1 (R.1 q) = q := zpl_of hg q0 q1 rfl
    have hs := h (R.1 q) hr.1 hr.2.1
    have hp' := zpl_ok hg' hr.1 hr.2.1
    rw [e1] at hs
    rw [← hs.1] at hp' hs
    exact ⟨hp'.2.2.symm, hs.2⟩
theorem zgR_act2 {R E : zRg} (hR : zgR R.1 R.2) (hE : zgR E.1 E.2) : zgR (zact R E).1 (zact R E).2 := zgR_ring hR hE
theorem zact_pl {R E : zRg} (hR : zgR R.1 R.2) (hE : zgR E.1 E.2) {p : Int} (p0 : 0 ≤ p) (p1 : p < 10) : zpl (zact R E).1 p = zpl E.1 (zpl R.1 p) ∧ (zact R E).2 (zpl E.1 (zpl R.1 p)) = (R.2 (zpl R.1 p) + E.2 (zpl E.1 (zpl R.1 p))) % 4 := by
  have hp := zpl_ok hR p0 p1
  have hq := zpl_ok hE hp.1 hp.2.1
  have e1 : (zact R E).1 (zpl E.1 (zpl R.1 p)) = p := by
    show zaw R.1 E.1 _ = p
    unfold zaw
    rw [zcut_in _ _ _ hq.1 hq.2.1, hq.2.2, hp.2.2]
  refine ⟨zpl_of (zgR_act2 hR hE) hq.1 hq.2.1 e1, ?_⟩
  show zaf R.2 E.1 E.2 _ = _
  unfold zaf
  rw [zcut_in _ _ _ hq.1 hq.2.1, hq.2.2]
set_option maxRecDepth 100000 in
set_option maxHeartbeats 1000000 in
theorem y_effect {d : Nat} {sp : zSP} {me : zMe} {Q : zQ} {y : Nat} {A : zAb} {B k p fc : Int} (hd : 20 ≤ d) (hy : zMod sp y) (hX : zMX me y A) (hI : zIA B A) (hQ : ∀ me', zMX me' y A → zMF y me me' → Q (some (zI (zoEffect A k p fc))) sp me') : zCall mX9_effect d 0 0 [zR y, zI k, zI p, zI fc] sp me Q := by
  refine z_met kX9_effect (by simp) (by simp) ?_
  show zW mX9_effect d 0 0 Q 0 [zR y, zI k, zI p, zI fc] [] sp me
  have hIS := hI.1
  have hgA : zgR (qW A) (qF A) := hIS.1
  have hokA : zHok (qH A) := hIS.2.1
  have hpnA : qP A = zpn (qH A) := hIS.2.2.1
  have hvA : zfv (qS A) (qC A) := hIS.2.2.2.1
  have hlA : zlim (qS A) (qC A) := hIS.2.2.2.2.1
  have hRw : ∀ p, 0 ≤ p → p < 10 → me (y + 1) p = qW A p := hX.1.1
  have hRf : ∀ i, 0 ≤ i → i < 10 → me (y + 1) (10 + i) = qF A (zpl (qW A) i) := fun i a b => zMR_f hI.1 hX.1 a b
  have hRh : ∀ i, 0 ≤ i → i < 10 → me (y + 1) (20 + i) = qH A i := hX.1.2.2.1
  have hRs : ∀ k, 0 ≤ k → k < 8 → me (y + 1) (30 + 31 * k) = qS A k := fun k a b => (hX.1.2.2.2.1 k a b).1
  have hRc : ∀ k, 0 ≤ k → k < 8 → ∀ m, 0 ≤ m → m < qS A k → ∀ q, 0 ≤ q → q < 3 → me (y + 1) (30 + 31 * k + 1 + 3 * m + q) = zdig (qC A (k * 10 + m)) q := fun k a b => (hX.1.2.2.2.1 k a b).2
  unfold zoEffect at hQ
  refine z_L1I (pc' := 1) dX9_effect_0 rfl ?_
  refine z_S1v (pc' := 4) kX9_isFigure lX9_97 dX9_effect_1 rfl (by omega) (Nat.le_of_ble_eq_true rfl) ?_
  refine m_isFig2 (by omega) (fun b1 hb1 => zKv_i ?_)
  refine z_if_eq (tgt := 14) (pc' := 7) dX9_effect_4 (by decide) rfl (fun h4 => ?_) (fun h4 => ?_)
  · rw [zif_pos (by omega)] at hQ
    refine z_iconst (pc' := 15) dX9_effect_14 rfl (by unfold zin; decide) ?_
    refine z_ireturn rfl rfl dX9_effect_15 ?_
    exact hQ me hX zMF.rf
  · refine z_L2I (pc' := 8) dX9_effect_7 rfl ?_
    refine z_S1v (pc' := 11) kX9_isDancer lX9_147 dX9_effect_8 rfl (by omega) (Nat.le_of_ble_eq_true rfl) ?_
    refine m_isDan2 (by omega) (fun b2 hb2 => zKv_i ?_)
    refine z_if_ne (tgt := 16) (pc' := 14) dX9_effect_11 (by decide) rfl (fun h11 => ?_) (fun h11 => ?_)
    · rw [zif_neg (by omega)] at hQ
      have hgE := zgR_E hI (show 0 ≤ k by omega) (show k < 8 by omega)
      refine z_L0R (pc' := 17) dX9_effect_16 rfl ?_
      refine z_V00 (pc' := 20) (ci := 9) kX9_followAll lX9_188 dX9_effect_17 rfl (by omega) (Nat.le_of_ble_eq_true rfl) (by decide) rfl hy.s ?_
      refine m_followAll (by omega) hy hvA hlA hRs hRc (fun me1 hU1 hG1 hf1 => zK0_i ?_)
      have hq := zMQ_f hf1
      have hpl := zGk_pl (R := zE A k) hgE (hG1 k (by omega) (by omega)) (show 0 ≤ p by omega) (show p < 10 by omega)
      refine z_L3I (pc' := 21) dX9_effect_20 rfl ?_
      refine z_if_eq (tgt := 38) (pc' := 24) dX9_effect_21 (by decide) rfl (fun h21 => ?_) (fun h21 => ?_)
      · refine z_L0R (pc' := 39) dX9_effect_38 rfl ?_
        refine z_getR (pc' := 42) (ki := 19) 19 fX9_53.l rfl rfl dX9_effect_39 rfl hy.s hy.p19 ?_
        refine z_bipush (pc' := 44) dX9_effect_42 rfl (by decide) ?_
        refine z_L1I (pc' := 45) dX9_effect_44 rfl ?_
        refine z_imul (pc' := 46) dX9_effect_45 rfl (by unfold zin; omega) ?_
        refine z_L2I (pc' := 47) dX9_effect_46 rfl ?_
        refine z_iadd (pc' := 48) dX9_effect_47 rfl (by unfold zin; omega) ?_
        refine z_ild (pc' := 49) dX9_effect_48 rfl hy.a15 (by omega) (by omega) ?_
        refine z_ireturn rfl rfl dX9_effect_49 ?_
        first
        | exact hQ me1 (hq.mx hX) hq.fr
        | (rw [zif_pos (by omega)] at hQ
           rw [hpl.1]
           exact hQ me1 (hq.mx hX) hq.fr)
      · refine z_L0R (pc' := 25) dX9_effect_24 rfl ?_
        refine z_getR (pc' := 28) (ki := 20) 20 fX9_56.l rfl rfl dX9_effect_25 rfl hy.s hy.p20 ?_
        refine z_bipush (pc' := 30) dX9_effect_28 rfl (by decide) ?_
        refine z_L1I (pc' := 31) dX9_effect_30 rfl ?_
        refine z_imul (pc' := 32) dX9_effect_31 rfl (by unfold zin; omega) ?_
        refine z_L2I (pc' := 33) dX9_effect_32 rfl ?_
        refine z_iadd (pc' := 34) dX9_effect_33 rfl (by unfold zin; omega) ?_
        refine z_ild (pc' := 35) dX9_effect_34 rfl hy.a16 (by omega) (by omega) ?_
        rw [zif_neg (by omega)] at hQ
        rw [hpl.2]
        refine z_goto (tgt := 49) dX9_effect_35 (by decide) ?_
        refine z_ireturn rfl rfl dX9_effect_49 ?_
        first
        | exact hQ me1 (hq.mx hX) hq.fr
        | (rw [zif_pos (by omega)] at hQ
           rw [hpl.1]
           exact hQ me1 (hq.mx hX) hq.fr)
    · rw [zif_pos (by omega)] at hQ
      refine z_iconst (pc' := 15) dX9_effect_14 rfl (by unfold zin; decide) ?_
      refine z_ireturn rfl rfl dX9_effect_15 ?_
      exact hQ me hX zMF.rf
set_option maxRecDepth 100000 in
set_option maxHeartbeats 1000000 in
theorem y_alike {d : Nat} {sp : zSP} {me : zMe} {Q : zQ} {y : Nat} {A : zAb} {B k j : Int} (hd : 20 ≤ d) (hy : zMod sp y) (hX : zMX me y A) (hI : zIA B A) (hQ : ∀ me', zMX me' y A → zMF y me me' → Q (some (zI (zoAlike A k j))) sp me') : zCall mX9_alike d 0 0 [zR y, zI k, zI j] sp me Q := by
  refine z_met kX9_alike (by simp) (by simp) ?_
  show zW mX9_alike d 0 0 Q 0 [zR y, zI k, zI j, zU, zU] [] sp me
  have hIS := hI.1
  have hgA : zgR (qW A) (qF A) := hIS.1
  have hokA : zHok (qH A) := hIS.2.1
  have hpnA : qP A = zpn (qH A) := hIS.2.2.1
  have hvA : zfv (qS A) (qC A) := hIS.2.2.2.1
  have hlA : zlim (qS A) (qC A) := hIS.2.2.2.2.1
  have hRw : ∀ p, 0 ≤ p → p < 10 → me (y + 1) p = qW A p := hX.1.1
  have hRf : ∀ i, 0 ≤ i → i < 10 → me (y + 1) (10 + i) = qF A (zpl (qW A) i) := fun i a b => zMR_f hI.1 hX.1 a b
  have hRh : ∀ i, 0 ≤ i → i < 10 → me (y + 1) (20 + i) = qH A i := hX.1.2.2.1
  have hRs : ∀ k, 0 ≤ k → k < 8 → me (y + 1) (30 + 31 * k) = qS A k := fun k a b => (hX.1.2.2.2.1 k a b).1
  have hRc : ∀ k, 0 ≤ k → k < 8 → ∀ m, 0 ≤ m → m < qS A k → ∀ q, 0 ≤ q → q < 3 → me (y + 1) (30 + 31 * k + 1 + 3 * m + q) = zdig (qC A (k * 10 + m)) q := fun k a b => (hX.1.2.2.2.1 k a b).2
  unfold zoAlike at hQ
  refine z_L1I (pc' := 1) dX9_alike_0 rfl ?_
  refine z_S1v (pc' := 4) kX9_isFigure lX9_97 dX9_alike_1 rfl (by omega) (Nat.le_of_ble_eq_true rfl) ?_
  refine m_isFig2 (by omega) (fun b1 hb1 => zKv_i ?_)
  refine z_if_eq (tgt := 14) (pc' := 7) dX9_alike_4 (by decide) rfl (fun h4 => ?_) (fun h4 => ?_)
  · rw [zif_pos (by omega)] at hQ
    refine z_iconst (pc' := 15) dX9_alike_14 rfl (by unfold zin; decide) ?_
    refine z_ireturn rfl rfl dX9_alike_15 ?_
    exact hQ me hX zMF.rf
  · refine z_L2I (pc' := 8) dX9_alike_7 rfl ?_
    refine z_S1v (pc' := 11) kX9_isFigure lX9_97 dX9_alike_8 rfl (by omega) (Nat.le_of_ble_eq_true rfl) ?_
    refine m_isFig2 (by omega) (fun b2 hb2 => zKv_i ?_)
    refine z_if_ne (tgt := 16) (pc' := 14) dX9_alike_11 (by decide) rfl (fun h11 => ?_) (fun h11 => ?_)
    · rw [zif_neg (by omega)] at hQ
      have hgE := zgR_E hI (show 0 ≤ k by omega) (show k < 8 by omega)
      have hgJ := zgR_E hI (show 0 ≤ j by omega) (show j < 8 by omega)
      have hiff := zsame_iff hgE hgJ
      refine z_L0R (pc' := 17) dX9_alike_16 rfl ?_
      refine z_V00 (pc' := 20) (ci := 9) kX9_followAll lX9_188 dX9_alike_17 rfl (by omega) (Nat.le_of_ble_eq_true rfl) (by decide) rfl hy.s ?_
      refine m_followAll (by omega) hy hvA hlA hRs hRc (fun me1 hU1 hG1 hf1 => zK0_i ?_)
      have hq := zMQ_f hf1
      have hpk : ∀ p, 0 ≤ p → p < 10 → me1 (y + 15) (10 * k + p) = zpl (zE A k).1 p ∧ me1 (y + 16) (10 * k + p) = (zE A k).2 (zpl (zE A k).1 p) := fun p p0 p1 => zGk_pl (R := zE A k) hgE (hG1 k (by omega) (by omega)) p0 p1
      have hpj : ∀ p, 0 ≤ p → p < 10 → me1 (y + 15) (10 * j + p) = zpl (zE A j).1 p ∧ me1 (y + 16) (10 * j + p) = (zE A j).2 (zpl (zE A j).1 p) := fun p p0 p1 => zGk_pl (R := zE A j) hgJ (hG1 j (by omega) (by omega)) p0 p1
      refine z_iconst (pc' := 21) dX9_alike_20 rfl (by unfold zin; decide) ?_
      refine z_S3I (pc' := 22) rfl dX9_alike_21 rfl ?_
      refine z_iconst (pc' := 23) dX9_alike_22 rfl (by unfold zin; decide) ?_
      refine z_S4I (pc' := 25) rfl dX9_alike_23 rfl ?_
      suffices H : ∀ (n : Nat) (p b : Int), 0 ≤ p → p ≤ 10 → 10 - p < n → ((b = 1 ∧ ∀ q, 0 ≤ q → q < p → (zpl (zE A k).1 q = zpl (zE A j).1 q ∧ (zE A k).2 (zpl (zE A k).1 q) = (zE A j).2 (zpl (zE A j).1 q))) ∨ (b = 0 ∧ ¬ zsame (zE A k) (zE A j))) → zW mX9_alike d 0 0 Q 25 [zR y, zI k, zI j, zI b, zI p] [] sp me1 by
        exact H 11 0 1 (by omega) (by omega) (by omega) (Or.inl ⟨rfl, fun q q0 q1 => by omega⟩)
      intro n
      induction n with
      | zero => intro p b h0 h1 h2; omega
      | succ n ih =>
      intro p b hp0 hp1 hp2 hb
      refine z_L4I (pc' := 27) dX9_alike_25 rfl ?_
      refine z_bipush (pc' := 29) dX9_alike_27 rfl (by decide) ?_
      refine z_icmp_ge (tgt := 102) (pc' := 32) dX9_alike_29 (by decide) rfl (fun h29 => ?_) (fun h29 => ?_)
      · refine z_L3I (pc' := 103) dX9_alike_102 rfl ?_
        refine z_if_eq (tgt := 110) (pc' := 106) dX9_alike_103 (by decide) rfl (fun h103 => ?_) (fun h103 => ?_)
        · refine z_iconst (pc' := 111) dX9_alike_110 rfl (by unfold zin; decide) ?_
          refine z_ireturn rfl rfl dX9_alike_111 ?_
          obtain rfl : p = 10 := by omega
          first
          | (rw [zif_pos (hiff.2 (hb.resolve_right (fun z => h103 z.1)).2)] at hQ
             exact hQ me1 (hq.mx hX) hq.fr)
          | (rw [zif_neg (hb.resolve_left (fun z => by omega)).2] at hQ
             exact hQ me1 (hq.mx hX) hq.fr)
        · refine z_iconst (pc' := 107) dX9_alike_106 rfl (by unfold zin; decide) ?_
          refine z_goto (tgt := 111) dX9_alike_107 (by decide) ?_
          refine z_ireturn rfl rfl dX9_alike_111 ?_
          obtain rfl : p = 10 := by omega
          first
          | (rw [zif_pos (hiff.2 (hb.resolve_right (fun z => h103 z.1)).2)] at hQ
             exact hQ me1 (hq.mx hX) hq.fr)
          | (rw [zif_neg (hb.resolve_left (fun z => by omega)).2] at hQ
             exact hQ me1 (hq.mx hX) hq.fr)
      · refine z_L3I (pc' := 33) dX9_alike_32 rfl ?_
        refine z_if_eq (tgt := 94) (pc' := 36) dX9_alike_33 (by decide) rfl (fun h33 => ?_) (fun h33 => ?_)
        · refine z_iconst (pc' := 95) dX9_alike_94 rfl (by unfold zin; decide) ?_
          refine z_S3I (pc' := 96) rfl dX9_alike_95 rfl ?_
          refine z_inc4 (pc' := 99) rfl dX9_alike_96 rfl (by unfold zin; omega) ?_
          refine z_goto (tgt := 25) dX9_alike_99 (by decide) ?_
          refine ih (p + 1) _ (by omega) (by omega) (by omega) ?_
          first
          | exact Or.inl ⟨rfl, zall_up (hb.resolve_right (fun z => h33 z.1)).2 ⟨h60, h87⟩⟩
          | exact Or.inr ⟨rfl, fun z => h87 (hiff.1 z p hp0 (by omega)).2⟩
          | exact Or.inr ⟨rfl, fun z => h60 (hiff.1 z p hp0 (by omega)).1⟩
          | exact Or.inr ⟨rfl, (hb.resolve_left (fun z => by omega)).2⟩
        · refine z_L0R (pc' := 37) dX9_alike_36 rfl ?_
          refine z_getR (pc' := 40) (ki := 19) 19 fX9_53.l rfl rfl dX9_alike_37 rfl hy.s hy.p19 ?_
          refine z_bipush (pc' := 42) dX9_alike_40 rfl (by decide) ?_
          refine z_L1I (pc' := 43) dX9_alike_42 rfl ?_
          refine z_imul (pc' := 44) dX9_alike_43 rfl (by unfold zin; omega) ?_
          refine z_L4I (pc' := 46) dX9_alike_44 rfl ?_
          refine z_iadd (pc' := 47) dX9_alike_46 rfl (by unfold zin; omega) ?_
          refine z_ild (pc' := 48) dX9_alike_47 rfl hy.a15 (by omega) (by omega) ?_
          rw [(hpk p hp0 (by omega)).1]
          refine z_L0R (pc' := 49) dX9_alike_48 rfl ?_
          refine z_getR (pc' := 52) (ki := 19) 19 fX9_53.l rfl rfl dX9_alike_49 rfl hy.s hy.p19 ?_
          refine z_bipush (pc' := 54) dX9_alike_52 rfl (by decide) ?_
          refine z_L2I (pc' := 55) dX9_alike_54 rfl ?_
          refine z_imul (pc' := 56) dX9_alike_55 rfl (by unfold zin; omega) ?_
          refine z_L4I (pc' := 58) dX9_alike_56 rfl ?_
          refine z_iadd (pc' := 59) dX9_alike_58 rfl (by unfold zin; omega) ?_
          refine z_ild (pc' := 60) dX9_alike_59 rfl hy.a15 (by omega) (by omega) ?_
          rw [(hpj p hp0 (by omega)).1]
          refine z_icmp_ne (tgt := 94) (pc' := 63) dX9_alike_60 (by decide) rfl (fun h60 => ?_) (fun h60 => ?_)
          · refine z_iconst (pc' := 95) dX9_alike_94 rfl (by unfold zin; decide) ?_
            refine z_S3I (pc' := 96) rfl dX9_alike_95 rfl ?_
            refine z_inc4 (pc' := 99) rfl dX9_alike_96 rfl (by unfold zin; omega) ?_
            refine z_goto (tgt := 25) dX9_alike_99 (by decide) ?_
            refine ih (p + 1) _ (by omega) (by omega) (by omega) ?_
            first
            | exact Or.inl ⟨rfl, zall_up (hb.resolve_right (fun z => h33 z.1)).2 ⟨h60, h87⟩⟩
            | exact Or.inr ⟨rfl, fun z => h87 (hiff.1 z p hp0 (by omega)).2⟩
            | exact Or.inr ⟨rfl, fun z => h60 (hiff.1 z p hp0 (by omega)).1⟩
            | exact Or.inr ⟨rfl, (hb.resolve_left (fun z => by omega)).2⟩
          · refine z_L0R (pc' := 64) dX9_alike_63 rfl ?_
            refine z_getR (pc' := 67) (ki := 20) 20 fX9_56.l rfl rfl dX9_alike_64 rfl hy.s hy.p20 ?_
            refine z_bipush (pc' := 69) dX9_alike_67 rfl (by decide) ?_
            refine z_L1I (pc' := 70) dX9_alike_69 rfl ?_
            refine z_imul (pc' := 71) dX9_alike_70 rfl (by unfold zin; omega) ?_
            refine z_L4I (pc' := 73) dX9_alike_71 rfl ?_
            refine z_iadd (pc' := 74) dX9_alike_73 rfl (by unfold zin; omega) ?_
            refine z_ild (pc' := 75) dX9_alike_74 rfl hy.a16 (by omega) (by omega) ?_
            rw [(hpk p hp0 (by omega)).2]
            refine z_L0R (pc' := 76) dX9_alike_75 rfl ?_
            refine z_getR (pc' := 79) (ki := 20) 20 fX9_56.l rfl rfl dX9_alike_76 rfl hy.s hy.p20 ?_
            refine z_bipush (pc' := 81) dX9_alike_79 rfl (by decide) ?_
            refine z_L2I (pc' := 82) dX9_alike_81 rfl ?_
            refine z_imul (pc' := 83) dX9_alike_82 rfl (by unfold zin; omega) ?_
            refine z_L4I (pc' := 85) dX9_alike_83 rfl ?_
            refine z_iadd (pc' := 86) dX9_alike_85 rfl (by unfold zin; omega) ?_
            refine z_ild (pc' := 87) dX9_alike_86 rfl hy.a16 (by omega) (by omega) ?_
            rw [(hpj p hp0 (by omega)).2]
            refine z_icmp_ne (tgt := 94) (pc' := 90) dX9_alike_87 (by decide) rfl (fun h87 => ?_) (fun h87 => ?_)
            · refine z_iconst (pc' := 95) dX9_alike_94 rfl (by unfold zin; decide) ?_
              refine z_S3I (pc' := 96) rfl dX9_alike_95 rfl ?_
              refine z_inc4 (pc' := 99) rfl dX9_alike_96 rfl (by unfold zin; omega) ?_
              refine z_goto (tgt := 25) dX9_alike_99 (by decide) ?_
              refine ih (p + 1) _ (by omega) (by omega) (by omega) ?_
              first
              | exact Or.inl ⟨rfl, zall_up (hb.resolve_right (fun z => h33 z.1)).2 ⟨h60, h87⟩⟩
              | exact Or.inr ⟨rfl, fun z => h87 (hiff.1 z p hp0 (by omega)).2⟩
              | exact Or.inr ⟨rfl, fun z => h60 (hiff.1 z p hp0 (by omega)).1⟩
              | exact Or.inr ⟨rfl, (hb.resolve_left (fun z => by omega)).2⟩
            · refine z_iconst (pc' := 91) dX9_alike_90 rfl (by unfold zin; decide) ?_
              refine z_goto (tgt := 95) dX9_alike_91 (by decide) ?_
              refine z_S3I (pc' := 96) rfl dX9_alike_95 rfl ?_
              refine z_inc4 (pc' := 99) rfl dX9_alike_96 rfl (by unfold zin; omega) ?_
              refine z_goto (tgt := 25) dX9_alike_99 (by decide) ?_
              refine ih (p + 1) _ (by omega) (by omega) (by omega) ?_
              first
              | exact Or.inl ⟨rfl, zall_up (hb.resolve_right (fun z => h33 z.1)).2 ⟨h60, h87⟩⟩
              | exact Or.inr ⟨rfl, fun z => h87 (hiff.1 z p hp0 (by omega)).2⟩
              | exact Or.inr ⟨rfl, fun z => h60 (hiff.1 z p hp0 (by omega)).1⟩
              | exact Or.inr ⟨rfl, (hb.resolve_left (fun z => by omega)).2⟩
    · rw [zif_pos (by omega)] at hQ
      refine z_iconst (pc' := 15) dX9_alike_14 rfl (by unfold zin; decide) ?_
      refine z_ireturn rfl rfl dX9_alike_15 ?_
      exact hQ me hX zMF.rf
end ZMOG

