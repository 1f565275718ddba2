section ZPLAN2
theorem zPf_of {me me' : zMe} {p : Nat} {k : Int} (hk0 : 0 ≤ k) (hk1 : k < 8) (h1 : ∀ j, j ≠ k → me' (p + 1) j = me (p + 1) j) (h2 : ∀ x, x < k * 120 ∨ k * 120 + 120 ≤ x → me' (p + 2) x = me (p + 2) x) (h3 : ∀ j, j ≠ k → me' (p + 3) j = me (p + 3) j) (h4 : ∀ a, a ≠ p + 1 → a ≠ p + 2 → a ≠ p + 3 → (a < p + 11 + 5 * k.toNat + 1 ∨ p + 11 + 5 * k.toNat + 4 < a) → me' a = me a) : zPf me me' p k := by
  refine ⟨fun k' L' cm' a b e hl ⟨g1, g2, g3, g4, g5⟩ => ⟨by rw [h1 k' e]; exact g1, fun i hi => by rw [h2 _ (by omega)]; exact g2 i hi, by rw [h3 k' e]; exact g3, ?_, ?_⟩, fun a ha => h4 a (by omega) (by omega) (by omega) (by omega)⟩
  · rw [h4 _ (by omega) (by omega) (by omega) (by omega)]; exact g4
  · rw [h4 _ (by omega) (by omega) (by omega) (by omega)]; exact g5
theorem zgetD_app (L : List Int) (c : Int) (F : Int → Int) (b : Int) (h : ∀ i : Nat, i < L.length → F (b + (i : Int)) = L.getD i 0) : ∀ i : Nat, i < (L ++ [c]).length → zup F (b + (L.length : Int)) c (b + (i : Int)) = (L ++ [c]).getD i 0 := by
  intro i hi
  rw [List.length_append, List.length_singleton] at hi
  by_cases e : i = L.length
  · subst e
    rw [zup_eq]
    simp
  · rw [zup_ne _ _ _ (by omega), h i (by omega)]
    simp only [List.getD_eq_getElem?_getD]
    rw [List.getElem?_append_left (by omega)]
set_option maxRecDepth 100000 in
set_option maxHeartbeats 1000000 in
theorem c_includeCall {d : Nat} {sp : zSP} {me : zMe} {Q : zQ} {p : Nat} {k a cm cma : Int} {L La : List Int} (hd : 5 ≤ d) (hp : zPlan sp p) (hk1 : k < 8) (ha0 : 0 ≤ a) (hak : a < k) (hK : zPk me p k L cm) (hA : zPk me p a La cma) (hl : L.length + La.length ≤ 120) (hvL : ∀ c ∈ L, zvs c) (hvA : ∀ c ∈ La, zvs c) (hQ : ∀ me', zPk me' p k (L ++ La) (zor (zor cm cma) (1 * 2 ^ a.toNat)) → zPf me me' p k → Q none sp me') : zCall mX3_includeCall d 0 0 [zR p, zI k, zI a] sp me Q := by
  refine z_met kX3_includeCall (by simp) (by simp) ?_
  show zW mX3_includeCall d 0 0 Q 0 [zR p, zI k, zI a, zU, zU] [] sp me
  obtain ⟨hK1, hK2, hK3, hK4, hK5⟩ := hK
  obtain ⟨hA1, hA2, hA3, hA4, hA5⟩ := hA
  refine z_L0R (pc' := 1) dX3_includeCall_0 rfl ?_
  refine z_L2I (pc' := 2) dX3_includeCall_1 rfl ?_
  refine z_V1v (pc' := 5) (ci := 3) kX3_stepCount lX3_72 dX3_includeCall_2 rfl (by omega) (Nat.le_of_ble_eq_true rfl) (by decide) rfl hp.s ?_
  refine c_stepCount (by omega) hp (zKv_i ?_)
  rw [hA1]
  refine z_S3I (pc' := 6) rfl dX3_includeCall_5 rfl ?_
  refine z_iconst (pc' := 7) dX3_includeCall_6 rfl (by unfold zin; decide) ?_
  refine z_S4I (pc' := 9) rfl dX3_includeCall_7 rfl ?_
  suffices H : ∀ (n i : Nat) (F G : Int → Int), i ≤ La.length → La.length - i < n → G k = ((L ++ La.take i).length : Int) → (∀ j, j ≠ k → G j = me (p + 1) j) → (∀ t : Nat, t < (L ++ La.take i).length → F (k * 120 + (t : Int)) = (L ++ La.take i).getD t 0) → (∀ x, x < k * 120 ∨ k * 120 + 120 ≤ x → F x = me (p + 2) x) → zW mX3_includeCall d 0 0 Q 9 [zR p, zI k, zI a, zI (La.length : Int), zI (i : Int)] [] sp (zset (zset me (p + 2) F) (p + 1) G) by
    refine zW_to (H (La.length + 1) 0 (me (p + 2)) (me (p + 1)) (by omega) (by omega) (by simpa using hK1) (fun _ _ => rfl) (by simpa using hK2) (fun _ _ => rfl)) rfl rfl ?_
    rw [zset_self, zset_self]
  intro n
  induction n with
  | zero => intro i F G h1 h2; omega
  | succ n ih =>
  intro i F G hi0 hi1 hG1 hG2 hF1 hF2
  have hlen : (L ++ La.take i).length = L.length + i := by simp; omega
  refine z_L4I (pc' := 11) dX3_includeCall_9 rfl ?_
  refine z_L3I (pc' := 12) dX3_includeCall_11 rfl ?_
  refine z_icmp_ge (tgt := 40) (pc' := 15) dX3_includeCall_12 (by decide) rfl (fun h12 => ?_) (fun h12 => ?_)
  · obtain rfl : i = La.length := by omega
    rw [List.take_length] at hG1 hF1 hlen
    have er : ∀ x, p + 11 ≤ x → zset (zset me (p + 2) F) (p + 1) G x = me x := fun x hx => by rw [zset_ne _ _ _ (by omega), zset_ne _ _ _ (by omega)]
    have hrk := (hp.q k (by omega) (by omega)).2
    have hra := (hp.q a (by omega) (by omega)).2
    refine z_L0R (pc' := 41) dX3_includeCall_40 rfl ?_
    refine z_L1I (pc' := 42) dX3_includeCall_41 rfl ?_
    refine z_V1v (pc' := 45) (ci := 3) kX3_effectOf lX3_64 dX3_includeCall_42 rfl (by omega) (Nat.le_of_ble_eq_true rfl) (by decide) rfl hp.s ?_
    refine c_effectOf (by omega) hp (by omega) (by omega) (zKv_i ?_)
    refine z_L0R (pc' := 46) dX3_includeCall_45 rfl ?_
    refine z_L2I (pc' := 47) dX3_includeCall_46 rfl ?_
    refine z_V1v (pc' := 50) (ci := 3) kX3_effectOf lX3_64 dX3_includeCall_47 rfl (by omega) (Nat.le_of_ble_eq_true rfl) (by decide) rfl hp.s ?_
    refine c_effectOf (by omega) hp (by omega) (by omega) (zKv_i ?_)
    refine z_V10 (pc' := 53) (ci := 4) kX4_follow lX3_79 dX3_includeCall_50 rfl (by omega) (Nat.le_of_ble_eq_true rfl) (by decide) rfl hrk.s ?_
    refine c_follow (by omega) hrk hra (by omega) (by rw [er _ (by omega), er _ (by omega), hK4, hK5]; exact zgR_eff hvL) (by rw [er _ (by omega), er _ (by omega), hA4, hA5]; exact zgR_eff hvA) (fun j3 j4 => zK0_i ?_)
    rw [er (p + 11 + 5 * k.toNat + 1) (by omega), er (p + 11 + 5 * k.toNat + 2) (by omega), er (p + 11 + 5 * a.toNat + 1) (by omega), er (p + 11 + 5 * a.toNat + 2) (by omega), hK4, hK5, hA4, hA5]
    generalize hme2 : zr4 (zset (zset me (p + 2) F) (p + 1) G) (p + 11 + 5 * k.toNat) j3 j4 (zaw (zeff L).1 (zeff La).1) (zaf (zeff L).2 (zeff La).1 (zeff La).2) = me2
    have e2 : ∀ x, (x < p + 11 + 5 * k.toNat + 1 ∨ p + 11 + 5 * k.toNat + 4 < x) → me2 x = zset (zset me (p + 2) F) (p + 1) G x := fun x hx => by rw [← hme2]; exact zr4_o _ _ _ _ _ _ _ hx
    have e3 : me2 (p + 3) = me (p + 3) := by rw [e2 _ (by omega), zset_ne _ _ _ (by omega), zset_ne _ _ _ (by omega)]
    have e4 := zpow ha0 (show a < 10 by omega)
    refine z_L0R (pc' := 54) dX3_includeCall_53 rfl ?_
    refine z_getR (pc' := 57) (ki := 2) 2 fX3_18.l rfl rfl dX3_includeCall_54 rfl hp.s hp.p2 ?_
    refine z_L1I (pc' := 58) dX3_includeCall_57 rfl ?_
    refine z_L0R (pc' := 59) dX3_includeCall_58 rfl ?_
    refine z_L1I (pc' := 60) dX3_includeCall_59 rfl ?_
    refine z_V1v (pc' := 63) (ci := 3) kX3_calledBy lX3_83 dX3_includeCall_60 rfl (by omega) (Nat.le_of_ble_eq_true rfl) (by decide) rfl hp.s ?_
    refine c_calledBy (by omega) hp (zKv_i ?_)
    rw [e3, hK3]
    refine z_L0R (pc' := 64) dX3_includeCall_63 rfl ?_
    refine z_L2I (pc' := 65) dX3_includeCall_64 rfl ?_
    refine z_V1v (pc' := 68) (ci := 3) kX3_calledBy lX3_83 dX3_includeCall_65 rfl (by omega) (Nat.le_of_ble_eq_true rfl) (by decide) rfl hp.s ?_
    refine c_calledBy (by omega) hp (zKv_i ?_)
    rw [e3, hA3]
    refine z_ior (pc' := 69) dX3_includeCall_68 rfl ?_
    refine z_iconst (pc' := 70) dX3_includeCall_69 rfl (by unfold zin; decide) ?_
    refine z_L2I (pc' := 71) dX3_includeCall_70 rfl ?_
    refine z_ishl (pc' := 72) dX3_includeCall_71 rfl (by omega) (by omega) (by omega) (by unfold zin; omega) ?_
    refine z_ior (pc' := 73) dX3_includeCall_72 rfl ?_
    refine z_S30 (pc' := 76) kX8_write lX3_86 dX3_includeCall_73 rfl (by omega) (Nat.le_of_ble_eq_true rfl) ?_
    refine c_write hp.a3 (by omega) (by omega) (zK0_i ?_)
    refine z_return rfl rfl dX3_includeCall_76 ?_
    have e5 : zeff (L ++ La) = (zaw (zeff L).1 (zeff La).1, zaf (zeff L).2 (zeff La).1 (zeff La).2) := zeff_app hvL hvA
    refine hQ _ ⟨?_, fun t ht => ?_, ?_, ?_, ?_⟩ (zPf_of (by omega) hk1 (fun j hj => ?_) (fun x hx => ?_) (fun j hj => ?_) (fun x h1 h2 h3 h4 => ?_))
    · rw [zset_ne _ _ _ (by omega), e2 _ (by omega), zset_eq, hG1]
    · rw [zset_ne _ _ _ (by omega), e2 _ (by omega), zset_ne _ _ _ (by omega), zset_eq]; exact hF1 t ht
    · rw [zset_eq, zup_eq]
    · rw [zset_ne _ _ _ (by omega), ← hme2, zr4_1, e5]
    · rw [zset_ne _ _ _ (by omega), ← hme2, zr4_2, e5]
    · rw [zset_ne _ _ _ (by omega), e2 _ (by omega), zset_eq, hG2 j hj]
    · rw [zset_ne _ _ _ (by omega), e2 _ (by omega), zset_ne _ _ _ (by omega), zset_eq, hF2 x hx]
    · rw [zset_eq, zup_ne _ _ _ hj, e3]
    · rw [zset_ne _ _ _ (by omega), e2 _ (by omega), zset_ne _ _ _ (by omega), zset_ne _ _ _ (by omega)]
  · refine z_L0R (pc' := 16) dX3_includeCall_15 rfl ?_
    refine z_L1I (pc' := 17) dX3_includeCall_16 rfl ?_
    refine z_L0R (pc' := 18) dX3_includeCall_17 rfl ?_
    refine z_getR (pc' := 21) (ki := 1) 1 fX3_15.l rfl rfl dX3_includeCall_18 rfl hp.s hp.p1 ?_
    refine z_L2I (pc' := 22) dX3_includeCall_21 rfl ?_
    refine z_bipush (pc' := 24) dX3_includeCall_22 rfl (by decide) ?_
    refine z_imul (pc' := 25) dX3_includeCall_24 rfl (by unfold zin; omega) ?_
    refine z_L4I (pc' := 27) dX3_includeCall_25 rfl ?_
    refine z_iadd (pc' := 28) dX3_includeCall_27 rfl (by unfold zin; omega) ?_
    refine z_S2v (pc' := 31) kX8_read lX3_75 dX3_includeCall_28 rfl (by omega) (Nat.le_of_ble_eq_true rfl) ?_
    refine c_read hp.a2 (zKv_i ?_)
    rw [zset_ne _ _ _ (show p + 2 ≠ p + 1 by omega), zset_eq, hF2 _ (by omega), hA2 i (by omega)]
    refine z_V20 (pc' := 34) (ci := 3) kX3_putStep lX3_61 dX3_includeCall_31 rfl (by omega) (Nat.le_of_ble_eq_true rfl) (by decide) rfl hp.s ?_
    refine c_putStep (L := L ++ La.take i) (by omega) hp (by omega) (by omega) (by rw [zset_eq]; exact hG1) (by omega) (zK0_i ?_)
    simp (disch := first | omega | rfl) only [zset_eq, zset_ne, zset_11, zset_21, zset_31, zset_41, zfil_up, zup_eq, zup_ne]
    refine z_inc4 (pc' := 37) rfl dX3_includeCall_34 rfl (by unfold zin; omega) ?_
    refine z_goto (tgt := 9) dX3_includeCall_37 (by decide) ?_
    have e1 : L ++ La.take (i + 1) = (L ++ La.take i) ++ [La.getD i 0] := by
      rw [List.append_assoc]
      congr 1
      rw [List.take_succ]
      congr 1
      simp only [List.getD_eq_getElem?_getD]
      rw [List.getElem?_eq_getElem (by omega)]
      rfl
    refine zW_to (ih (i + 1) (zup F (k * 120 + ((L ++ La.take i).length : Int)) (La.getD i 0)) (zup G k (((L ++ La.take i).length : Int) + 1)) (by omega) (by omega) ?_ (fun j hj => by rw [zup_ne _ _ _ hj]; exact hG2 j hj) ?_ (fun x hx => by rw [zup_ne _ _ _ (by omega)]; exact hF2 x hx)) rfl rfl rfl
    · rw [zup_eq, e1]; simp; omega
    · rw [e1]; exact zgetD_app _ _ _ _ hF1
set_option maxRecDepth 100000 in
set_option maxHeartbeats 1000000 in
theorem c_include {d : Nat} {sp : zSP} {me : zMe} {Q : zQ} {p : Nat} {k c cm : Int} {L : List Int} {sz cd : Int → Int} (hd : 6 ≤ d) (hp : zPlan sp p) (hk0 : 0 ≤ k) (hk1 : k < 8) (hv : zfv sz cd) (hm : zvm k c) (hrows : ∀ a, 0 ≤ a → a < k → zPk me p a (zsteps sz cd a) (zcm sz cd a)) (hK : zPk me p k L cm) (hl : (L ++ zadd sz cd c).length ≤ 120) (hvL : ∀ c ∈ L, zvs c) (hQ : ∀ me', zPk me' p k (L ++ zadd sz cd c) (if c / 100 = 4 then zor (zor cm (zcm sz cd (c / 10 % 10))) (1 * 2 ^ (c / 10 % 10).toNat) else cm) → zPf me me' p k → Q none sp me') : zCall mX3_include d 0 0 [zR p, zI k, zI c] sp me Q := by
  refine z_met kX3_include (by simp) (by simp) ?_
  show zW mX3_include d 0 0 Q 0 [zR p, zI k, zI c] [] sp me
  have hm0 := hm
  unfold zvm at hm
  have hc0 : 0 ≤ c := by rcases hm with h | h; exact h.2.1; exact h.1
  unfold zadd at hl hQ
  refine z_L2I (pc' := 1) dX3_include_0 rfl ?_
  refine z_S1v (pc' := 4) kX8_kindOf lX3_52 dX3_include_1 rfl (by omega) (Nat.le_of_ble_eq_true rfl) ?_
  refine c_kindOf hc0 (zKv_i ?_)
  refine z_iconst (pc' := 5) dX3_include_4 rfl (by unfold zin; decide) ?_
  refine z_icmp_ne (tgt := 20) (pc' := 8) dX3_include_5 (by decide) rfl (fun h5 => ?_) (fun h5 => ?_)
  · refine z_L0R (pc' := 21) dX3_include_20 rfl ?_
    refine z_L1I (pc' := 22) dX3_include_21 rfl ?_
    refine z_L2I (pc' := 23) dX3_include_22 rfl ?_
    refine z_V20 (pc' := 26) (ci := 3) kX3_putStep lX3_61 dX3_include_23 rfl (by omega) (Nat.le_of_ble_eq_true rfl) (by decide) rfl hp.s ?_
    rw [if_neg h5] at hl
    rw [List.length_append, List.length_singleton] at hl
    have hvc : zvs c := by rcases hm with h | h; exact h.2; exact absurd h.2.1 h5
    obtain ⟨hK1, hK2, hK3, hK4, hK5⟩ := hK
    refine c_putStep (L := L) (by omega) hp hk0 hk1 hK1 (by omega) (zK0_i ?_)
    have er : ∀ x, p + 3 ≤ x → ∀ F G, zset (zset me (p + 2) F) (p + 1) G x = me x := fun x hx F G => by rw [zset_ne _ _ _ (by omega), zset_ne _ _ _ (by omega)]
    have hrk := (hp.q k (by omega) (by omega)).2
    refine z_L0R (pc' := 27) dX3_include_26 rfl ?_
    refine z_L1I (pc' := 28) dX3_include_27 rfl ?_
    refine z_V1v (pc' := 31) (ci := 3) kX3_effectOf lX3_64 dX3_include_28 rfl (by omega) (Nat.le_of_ble_eq_true rfl) (by decide) rfl hp.s ?_
    refine c_effectOf (by omega) hp (by omega) (by omega) (zKv_i ?_)
    refine z_L2I (pc' := 32) dX3_include_31 rfl ?_
    refine z_V10 (pc' := 35) (ci := 4) kX4_make lX3_68 dX3_include_32 rfl (by omega) (Nat.le_of_ble_eq_true rfl) (by decide) rfl hrk.s ?_
    refine c_make (by omega) hrk hvc (by rw [er _ (by omega), er _ (by omega), hK4, hK5]; exact zgR_eff hvL) (fun j3 j4 => zK0_i ?_)
    rw [er (p + 11 + 5 * k.toNat + 1) (by omega), er (p + 11 + 5 * k.toNat + 2) (by omega), hK4, hK5]
    refine z_return rfl rfl dX3_include_35 ?_
    have h3 := hQ (zr4 (zset (zset me (p + 2) (zup (me (p + 2)) (k * 120 + (L.length : Int)) c)) (p + 1) (zup (me (p + 1)) k ((L.length : Int) + 1))) (p + 11 + 5 * k.toNat) j3 j4 (zaw (zeff L).1 (zg c)) (zaf (zeff L).2 (zg c) (zt c)))
    rw [if_neg h5, if_neg h5] at h3
    have e2 : ∀ x, (x < p + 11 + 5 * k.toNat + 1 ∨ p + 11 + 5 * k.toNat + 4 < x) → zr4 (zset (zset me (p + 2) (zup (me (p + 2)) (k * 120 + (L.length : Int)) c)) (p + 1) (zup (me (p + 1)) k ((L.length : Int) + 1))) (p + 11 + 5 * k.toNat) j3 j4 (zaw (zeff L).1 (zg c)) (zaf (zeff L).2 (zg c) (zt c)) x = zset (zset me (p + 2) (zup (me (p + 2)) (k * 120 + (L.length : Int)) c)) (p + 1) (zup (me (p + 1)) k ((L.length : Int) + 1)) x := fun x hx => zr4_o _ _ _ _ _ _ _ hx
    refine h3 ⟨?_, fun t ht => ?_, ?_, ?_, ?_⟩ (zPf_of (by omega) hk1 (fun j hj => ?_) (fun x hx => ?_) (fun j hj => ?_) (fun x h1 h2 h3 h4 => ?_))
    · rw [e2 _ (by omega), zset_eq, zup_eq, List.length_append, List.length_singleton]; omega
    · rw [e2 _ (by omega), zset_ne _ _ _ (by omega), zset_eq]
      exact zgetD_app L c _ _ hK2 t ht
    · rw [e2 _ (by omega), er _ (by omega)]; exact hK3
    · rw [zr4_1, zeff_snoc]; rfl
    · rw [zr4_2, zeff_snoc]; rfl
    · rw [e2 _ (by omega), zset_eq, zup_ne _ _ _ hj]
    · rw [e2 _ (by omega), zset_ne _ _ _ (by omega), zset_eq, zup_ne _ _ _ (by omega)]
    · rw [e2 _ (by omega), er _ (by omega)]
    · rw [e2 _ (by omega), zset_ne _ _ _ (by omega), zset_ne _ _ _ (by omega)]
  · refine z_L0R (pc' := 9) dX3_include_8 rfl ?_
    refine z_L1I (pc' := 10) dX3_include_9 rfl ?_
    refine z_L2I (pc' := 11) dX3_include_10 rfl ?_
    refine z_S1v (pc' := 14) kX8_firstOf lX3_55 dX3_include_11 rfl (by omega) (Nat.le_of_ble_eq_true rfl) ?_
    refine c_firstOf hc0 (zKv_i ?_)
    refine z_V20 (pc' := 17) (ci := 3) kX3_includeCall lX3_58 dX3_include_14 rfl (by omega) (Nat.le_of_ble_eq_true rfl) (by decide) rfl hp.s ?_
    rw [if_pos h5] at hl
    have hl2 := hl
    rw [List.length_append] at hl2
    refine c_includeCall (by omega) hp hk1 (by omega) (by omega) hK (hrows (c / 10 % 10) (by omega) (by omega)) (by omega) hvL (fun c' hc' => (zsteps_ok hv (by omega) (by omega) c' hc').1) (fun me' h1 h2 => zK0_i ?_)
    refine z_goto (tgt := 35) dX3_include_17 (by decide) ?_
    refine z_return rfl rfl dX3_include_35 ?_
    have h3 := hQ me'
    rw [if_pos h5, if_pos h5] at h3
    exact h3 h1 h2
/-- no figure has too many steps -/
def zlim (sz cd : Int → Int) : Prop := ∀ k, 0 ≤ k → k < 8 → (zsteps sz cd k).length ≤ 120
theorem zpr_len {cd : Int → Int} {T : Int → List Int} {k : Int} (j n : Nat) (h : j ≤ n) : (zpr cd T k j).length ≤ (zpr cd T k n).length := by
  induction n with
  | zero => have : j = 0 := by omega
            subst this; exact Nat.le_refl _
  | succ n ih =>
    by_cases e : j = n + 1
    · subst e; exact Nat.le_refl _
    · have := ih (by omega)
      show _ ≤ (zpr cd T k n ++ _).length
      rw [List.length_append]
      omega
/-- the plan is that of the figures -/
def zRP (me : zMe) (p : Nat) (sz cd : Int → Int) : Prop := ∀ k, 0 ≤ k → k < 8 → zPk me p k (zsteps sz cd k) (zcm sz cd k)
set_option maxRecDepth 100000 in
set_option maxHeartbeats 1000000 in
theorem c_workOut {d : Nat} {sp : zSP} {me : zMe} {Q : zQ} {p f : Nat} (hd : 7 ≤ d) (hp : zPlan sp p) (hf : zFigs sp f) (hdis : f + 2 < p ∨ p + 50 < f) (hv : zfv (me (f + 1)) (me (f + 2))) (hl : zlim (me (f + 1)) (me (f + 2))) (hQ : ∀ me', zRP me' p (me (f + 1)) (me (f + 2)) → (∀ a, a < p ∨ p + 50 < a → me' a = me a) → Q none sp me') : zCall mX3_workOut d 0 0 [zR p, zR f] sp me Q := by
  refine z_met kX3_workOut (by simp) (by simp) ?_
  show zW mX3_workOut d 0 0 Q 0 [zR p, zR f, zU, zU, zU] [] sp me
  refine z_iconst (pc' := 1) dX3_workOut_0 rfl (by unfold zin; decide) ?_
  refine z_S2I (pc' := 2) rfl dX3_workOut_1 rfl ?_
  suffices H : ∀ (n : Nat) (k : Int) (v3 v4 : zV) (me' : zMe), 0 ≤ k → k ≤ 8 → 8 - k < n → zndv v3 = true → (∀ a, 0 ≤ a → a < k → zPk me' p a (zsteps (me (f + 1)) (me (f + 2)) a) (zcm (me (f + 1)) (me (f + 2)) a)) → (∀ a, a < p ∨ p + 50 < a → me' a = me a) → zW mX3_workOut d 0 0 Q 2 [zR p, zR f, zI k, v3, v4] [] sp me' by
    exact H 9 0 zU zU me (by omega) (by omega) (by omega) rfl (fun a h0 h1 => by omega) (fun _ _ => rfl)
  intro n
  induction n with
  | zero => intro k v3 v4 me' hk0 hk1 hk2; omega
  | succ n ih =>
  intro k v3 v4 me' hk0 hk1 hk2 hv3 hrows hfr
  refine z_L2I (pc' := 3) dX3_workOut_2 rfl ?_
  refine z_bipush (pc' := 5) dX3_workOut_3 rfl (by decide) ?_
  refine z_icmp_ge (tgt := 70) (pc' := 8) dX3_workOut_5 (by decide) rfl (fun h5 => ?_) (fun h5 => ?_)
  · obtain rfl : k = 8 := by omega
    refine z_return rfl rfl dX3_workOut_70 ?_
    exact hQ me' (fun k h0 h1 => hrows k h0 h1) hfr
  · have hrk := (hp.q k hk0 (by omega)).2
    have hvk := hv k hk0 (by omega)
    refine z_L0R (pc' := 9) dX3_workOut_8 rfl ?_
    refine z_getR (pc' := 12) (ki := 0) 0 fX3_9.l rfl rfl dX3_workOut_9 rfl hp.s hp.p0 ?_
    refine z_L2I (pc' := 13) dX3_workOut_12 rfl ?_
    refine z_iconst (pc' := 14) dX3_workOut_13 rfl (by unfold zin; decide) ?_
    refine z_ist (pc' := 15) dX3_workOut_14 rfl (by first | exact hp.a1 | exact hp.a2 | exact hp.a3 | exact hp.a4 | exact hf.a1 | exact hf.a2) (by omega) (by omega) ?_
    refine z_L0R (pc' := 16) dX3_workOut_15 rfl ?_
    refine z_getR (pc' := 19) (ki := 2) 2 fX3_18.l rfl rfl dX3_workOut_16 rfl hp.s hp.p2 ?_
    refine z_L2I (pc' := 20) dX3_workOut_19 rfl ?_
    refine z_iconst (pc' := 21) dX3_workOut_20 rfl (by unfold zin; decide) ?_
    refine z_ist (pc' := 22) dX3_workOut_21 rfl (by first | exact hp.a1 | exact hp.a2 | exact hp.a3 | exact hp.a4 | exact hf.a1 | exact hf.a2) (by omega) (by omega) ?_
    refine z_L0R (pc' := 23) dX3_workOut_22 rfl ?_
    refine z_getR (pc' := 26) (ki := 4) 4 fX3_26.l rfl rfl dX3_workOut_23 rfl hp.s hp.p4 ?_
    refine z_L2I (pc' := 27) dX3_workOut_26 rfl ?_
    refine z_qld (pc' := 28) 3 dX3_workOut_27 rfl hp.a5 (by omega) (by omega) (by omega) (hp.q k hk0 (by omega)).1 ?_
    refine z_V00 (pc' := 31) (ci := 4) kX4_settle lX3_35 dX3_workOut_28 rfl (by omega) (Nat.le_of_ble_eq_true rfl) (by decide) rfl hrk.s ?_
    refine c_settle hrk (zK0_i ?_)
    rw [zset_ne me' (p + 1) _ (show p + 3 ≠ p + 1 by omega)]
    generalize hm1 : zset (zset (zset (zset me' (p + 1) (zup (me' (p + 1)) k 0)) (p + 3) (zup (me' (p + 3)) k 0)) (p + 11 + 5 * k.toNat + 1) (zcut 10 fun p => p)) (p + 11 + 5 * k.toNat + 2) (zcut 10 fun _ => 0) = me1
    have hK1 : zPk me1 p k [] 0 := by
      rw [← hm1]
      refine ⟨?_, fun i hi => absurd hi (Nat.not_lt_zero _), ?_, ?_, ?_⟩
      · rw [zset_ne _ _ _ (by omega), zset_ne _ _ _ (by omega), zset_ne _ _ _ (by omega), zset_eq, zup_eq]; rfl
      · rw [zset_ne _ _ _ (by omega), zset_ne _ _ _ (by omega), zset_eq, zup_eq]
      · rw [zset_ne _ _ _ (by omega), zset_eq]; rfl
      · rw [zset_eq]; rfl
    have hF1 : zPf me' me1 p k := by
      rw [← hm1]
      refine zPf_of hk0 (by omega) (fun j hj => ?_) (fun x hx => ?_) (fun j hj => ?_) (fun x h1 h2 h3 h4 => ?_)
      · rw [zset_ne _ _ _ (by omega), zset_ne _ _ _ (by omega), zset_ne _ _ _ (by omega), zset_eq, zup_ne _ _ _ hj]
      · rw [zset_ne _ _ _ (by omega), zset_ne _ _ _ (by omega), zset_ne _ _ _ (by omega), zset_ne _ _ _ (by omega)]
      · rw [zset_ne _ _ _ (by omega), zset_ne _ _ _ (by omega), zset_eq, zup_ne _ _ _ hj]
      · rw [zset_ne _ _ _ (by omega), zset_ne _ _ _ (by omega), zset_ne _ _ _ (by omega), zset_ne _ _ _ (by omega)]
    have hef : ∀ x, f ≤ x → x ≤ f + 2 → me1 x = me x := fun x h1 h2 => by rw [hF1.2 x (by omega), hfr x (by omega)]
    refine z_L1R (pc' := 32) dX3_workOut_31 rfl ?_
    refine z_L2I (pc' := 33) dX3_workOut_32 rfl ?_
    refine z_V1v (pc' := 36) (ci := 0) kX0_size lX3_38 dX3_workOut_33 rfl (by omega) (Nat.le_of_ble_eq_true rfl) (by decide) rfl hf.s ?_
    refine c_size (by omega) hf (zKv_i ?_)
    rw [hef _ (by omega) (by omega)]
    refine z_S3I (pc' := 37) rfl dX3_workOut_36 rfl ?_
    refine z_iconst (pc' := 38) dX3_workOut_37 rfl (by unfold zin; decide) ?_
    refine z_S4I (pc' := 40) rfl dX3_workOut_38 rfl ?_
    suffices H : ∀ (n2 : Nat) (j : Nat) (me2 : zMe), (j : Int) ≤ me (f + 1) k → me (f + 1) k - j < n2 → zPk me2 p k (zpr (me (f + 2)) (zsteps (me (f + 1)) (me (f + 2))) k j) (zpm (me (f + 2)) (zcm (me (f + 1)) (me (f + 2))) k j) → zPf me' me2 p k → zW mX3_workOut d 0 0 Q 40 [zR p, zR f, zI k, zI (me (f + 1) k), zI (j : Int)] [] sp me2 by
      exact H 11 0 me1 (by omega) (by omega) hK1 hF1
    intro n2
    induction n2 with
    | zero => intro j me2 h1 h2; omega
    | succ n2 ih2 =>
    intro j me2 hj0 hj1 hK2 hF2
    have hef2 : ∀ x, f ≤ x → x ≤ f + 2 → me2 x = me x := fun x h1 h2 => by rw [hF2.2 x (by omega), hfr x (by omega)]
    refine z_L4I (pc' := 42) dX3_workOut_40 rfl ?_
    refine z_L3I (pc' := 43) dX3_workOut_42 rfl ?_
    refine z_icmp_ge (tgt := 64) (pc' := 46) dX3_workOut_43 (by decide) rfl (fun h43 => ?_) (fun h43 => ?_)
    · obtain rfl : j = (me (f + 1) k).toNat := by omega
      rw [← zsteps_eq hv hk0 (by omega), ← zcm_eq hv hk0 (by omega)] at hK2
      have hagain : ∀ v3 v4, zndv v3 = true → zW mX3_workOut d 0 0 Q 2 [zR p, zR f, zI (k + 1), v3, v4] [] sp me2 := fun v3 v4 hv3 => ih (k + 1) v3 v4 me2 (by omega) (by omega) (by omega) hv3 (fun a ha0 ha1 => by
        by_cases e : a = k
        · subst e; exact hK2
        · exact hF2.1 a _ _ ha0 (by omega) e (hl a ha0 (by omega)) (hrows a ha0 (by omega))) (fun a ha => by rw [hF2.2 a ha, hfr a ha])
      refine z_inc2 (pc' := 67) rfl dX3_workOut_64 rfl (by unfold zin; omega) ?_
      refine z_goto (tgt := 2) dX3_workOut_67 (by decide) ?_
      exact hagain _ _ rfl
    · have hvj := hvk.2.2 (j : Int) (by omega) (by omega)
      have hlen := hl k hk0 (by omega)
      rw [zsteps_eq hv hk0 (by omega)] at hlen
      refine z_L0R (pc' := 47) dX3_workOut_46 rfl ?_
      refine z_L2I (pc' := 48) dX3_workOut_47 rfl ?_
      refine z_L1R (pc' := 49) dX3_workOut_48 rfl ?_
      refine z_L2I (pc' := 50) dX3_workOut_49 rfl ?_
      refine z_L4I (pc' := 52) dX3_workOut_50 rfl ?_
      refine z_V2v (pc' := 55) (ci := 0) kX0_code lX3_44 dX3_workOut_52 rfl (by omega) (Nat.le_of_ble_eq_true rfl) (by decide) rfl hf.s ?_
      refine c_code (by omega) hf hk0 (by omega) (by omega) (by omega) (zKv_i ?_)
      rw [hef2 _ (by omega) (by omega)]
      refine z_V20 (pc' := 58) (ci := 3) kX3_include lX3_48 dX3_workOut_55 rfl (by omega) (Nat.le_of_ble_eq_true rfl) (by decide) rfl hp.s ?_
      refine c_include (sz := me (f + 1)) (cd := me (f + 2)) (by omega) hp hk0 (by omega) hv hvj (fun a ha0 ha1 => hF2.1 a _ _ ha0 (by omega) (by omega) (hl a ha0 (by omega)) (hrows a ha0 ha1)) hK2 (Nat.le_trans (zpr_len (cd := me (f + 2)) (T := zsteps (me (f + 1)) (me (f + 2))) (k := k) (j + 1) _ (by omega)) hlen) (fun c hc => (zpr_vs j (fun i hi => hvk.2.2 _ (by omega) (by omega)) (fun a h1 h2 => zsteps_ok hv h1 (by omega)) c hc).1) (fun me3 hK3 hF3 => zK0_i ?_)
      refine z_inc4 (pc' := 61) rfl dX3_workOut_58 rfl (by unfold zin; omega) ?_
      refine z_goto (tgt := 40) dX3_workOut_61 (by decide) ?_
      exact ih2 (j + 1) me3 (by omega) (by omega) hK3 (hF2.trans hF3)
end ZPLAN2

