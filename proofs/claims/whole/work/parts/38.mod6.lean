section ZMO6
def zUk (me : zMe) (y : Nat) (k : Int) (L : List Int) : Prop := me (y + 4) k = (L.length : Int) ∧ ∀ i : Nat, i < L.length → ∀ q, 0 ≤ q → q < 3 → me (y + 5) (3 * (120 * k + (i : Int)) + q) = zdig (L.getD i 0) q
def zUf (me me' : zMe) (y : Nat) (k : Int) : Prop := (∀ k' L', k' ≠ k → L'.length ≤ 120 → zUk me y k' L' → zUk me' y k' L') ∧ ∀ a, a ≠ y + 4 → a ≠ y + 5 → me' a = me a
theorem zUf.rf {me : zMe} {y : Nat} {k : Int} : zUf me me y k := ⟨fun _ _ _ _ h => h, fun _ _ _ => rfl⟩
theorem zUf.trans {m1 m2 m3 : zMe} {y : Nat} {k : Int} (h : zUf m1 m2 y k) (g : zUf m2 m3 y k) : zUf m1 m3 y k := ⟨fun k' L' a b c => g.1 k' L' a b (h.1 k' L' a b c), fun a ha hb => (g.2 a ha hb).trans (h.2 a ha hb)⟩
theorem zUf_of {me me' : zMe} {y : Nat} {k : Int} (h1 : ∀ j, j ≠ k → me' (y + 4) j = me (y + 4) j) (h2 : ∀ x, (x < 3 * (120 * k) ∨ 3 * (120 * k) + 360 ≤ x) → me' (y + 5) x = me (y + 5) x) (h3 : ∀ a, a ≠ y + 4 → a ≠ y + 5 → me' a = me a) : zUf me me' y k := by
  refine ⟨fun k' L' e hl h => ⟨by rw [h1 _ e]; exact h.1, fun i hi q q0 q1 => ?_⟩, h3⟩
  have e2 : k' < k ∨ k < k' := by omega
  rw [h2 _ (by omega)]
  exact h.2 i hi q q0 q1
theorem zgetA (L : List Int) (c : Int) (i : Nat) (h : i < L.length) : (L ++ [c]).getD i 0 = L.getD i 0 := by
  simp only [List.getD_eq_getElem?_getD]
  rw [List.getElem?_append_left h]
theorem zgetB (L : List Int) (c : Int) : (L ++ [c]).getD L.length 0 = c := by
  simp [List.getD_eq_getElem?_getD]
theorem zdig0 (c : Int) : zdig c 0 = c / 100 := rfl
set_option maxRecDepth 100000 in
set_option maxHeartbeats 1000000 in
theorem m_addStep {d : Nat} {sp : zSP} {me : zMe} {Q : zQ} {y : Nat} {k c : Int} {L : List Int} (hy : zMod sp y) (hk0 : 0 ≤ k) (hk1 : k < 8) (hU : zUk me y k L) (hl : L.length < 120) (hQ : ∀ me', zUk me' y k (L ++ [c]) → zUf me me' y k → Q none sp me') : zCall mX9_addStep d 0 0 [zR y, zI k, zI (zdig c 0), zI (zdig c 1), zI (zdig c 2)] sp me Q := by
  refine z_met kX9_addStep (by simp) (by simp) ?_
  show zW mX9_addStep d 0 0 Q 0 [zR y, zI k, zI (zdig c 0), zI (zdig c 1), zI (zdig c 2), zU] [] sp me
  refine z_iconst (pc' := 1) dX9_addStep_0 rfl (by unfold zin; decide) ?_
  refine z_bipush (pc' := 3) dX9_addStep_1 rfl (by decide) ?_
  refine z_L1I (pc' := 4) dX9_addStep_3 rfl ?_
  refine z_imul (pc' := 5) dX9_addStep_4 rfl (by unfold zin; omega) ?_
  refine z_L0R (pc' := 6) dX9_addStep_5 rfl ?_
  refine z_getR (pc' := 9) (ki := 5) 5 fX9_19.l rfl rfl dX9_addStep_6 rfl hy.s hy.p5 ?_
  refine z_L1I (pc' := 10) dX9_addStep_9 rfl ?_
  refine z_ild (pc' := 11) dX9_addStep_10 rfl hy.a4 (by omega) (by omega) ?_
  rw [hU.1]
  refine z_iadd (pc' := 12) dX9_addStep_11 rfl (by unfold zin; omega) ?_
  refine z_imul (pc' := 13) dX9_addStep_12 rfl (by unfold zin; omega) ?_
  refine z_S5I (pc' := 15) rfl dX9_addStep_13 rfl ?_
  refine z_L0R (pc' := 16) dX9_addStep_15 rfl ?_
  refine z_getR (pc' := 19) (ki := 6) 6 fX9_22.l rfl rfl dX9_addStep_16 rfl hy.s hy.p6 ?_
  refine z_L5I (pc' := 21) dX9_addStep_19 rfl ?_
  refine z_L2I (pc' := 22) dX9_addStep_21 rfl ?_
  refine z_ist (pc' := 23) dX9_addStep_22 rfl hy.a5 (by omega) (by omega) ?_
  refine z_L0R (pc' := 24) dX9_addStep_23 rfl ?_
  refine z_getR (pc' := 27) (ki := 6) 6 fX9_22.l rfl rfl dX9_addStep_24 rfl hy.s hy.p6 ?_
  refine z_L5I (pc' := 29) dX9_addStep_27 rfl ?_
  refine z_iconst (pc' := 30) dX9_addStep_29 rfl (by unfold zin; decide) ?_
  refine z_iadd (pc' := 31) dX9_addStep_30 rfl (by unfold zin; omega) ?_
  refine z_L3I (pc' := 32) dX9_addStep_31 rfl ?_
  refine z_ist (pc' := 33) dX9_addStep_32 rfl hy.a5 (by omega) (by omega) ?_
  refine z_L0R (pc' := 34) dX9_addStep_33 rfl ?_
  refine z_getR (pc' := 37) (ki := 6) 6 fX9_22.l rfl rfl dX9_addStep_34 rfl hy.s hy.p6 ?_
  refine z_L5I (pc' := 39) dX9_addStep_37 rfl ?_
  refine z_iconst (pc' := 40) dX9_addStep_39 rfl (by unfold zin; decide) ?_
  refine z_iadd (pc' := 41) dX9_addStep_40 rfl (by unfold zin; omega) ?_
  refine z_L4I (pc' := 43) dX9_addStep_41 rfl ?_
  refine z_ist (pc' := 44) dX9_addStep_43 rfl hy.a5 (by omega) (by omega) ?_
  refine z_L0R (pc' := 45) dX9_addStep_44 rfl ?_
  refine z_getR (pc' := 48) (ki := 5) 5 fX9_19.l rfl rfl dX9_addStep_45 rfl hy.s hy.p5 ?_
  refine z_L1I (pc' := 49) dX9_addStep_48 rfl ?_
  refine z_dup2 (pc' := 50) dX9_addStep_49 rfl ?_
  refine z_ild (pc' := 51) dX9_addStep_50 rfl hy.a4 (by omega) (by omega) ?_
  simp only [zset_11, zset_eq]
  rw [zset_ne _ _ _ (show y + 4 ≠ y + 5 by omega), hU.1]
  refine z_iconst (pc' := 52) dX9_addStep_51 rfl (by unfold zin; decide) ?_
  refine z_iadd (pc' := 53) dX9_addStep_52 rfl (by unfold zin; omega) ?_
  refine z_ist (pc' := 54) dX9_addStep_53 rfl hy.a4 (by omega) (by omega) ?_
  refine z_return rfl rfl dX9_addStep_54 ?_
  refine hQ _ ⟨?_, fun i hi q q0 q1 => ?_⟩ (zUf_of (fun j hj => ?_) (fun x hx => ?_) (fun a ha hb => ?_))
  · rw [zset_eq, zup_eq, List.length_append, List.length_singleton]; omega
  · rw [zset_ne _ _ _ (by omega), zset_eq]
    rw [List.length_append, List.length_singleton] at hi
    by_cases e : i = L.length
    · subst e
      rw [zgetB]
      have eq : q = 0 ∨ q = 1 ∨ q = 2 := by omega
      rcases eq with eq | eq | eq
      · subst eq; rw [zup_ne _ _ _ (by omega), zup_ne _ _ _ (by omega), Int.add_zero, zup_eq]
      · subst eq; rw [zup_ne _ _ _ (by omega), zup_eq]
      · subst eq; rw [zup_eq]
    · rw [zgetA _ _ _ (by omega), zup_ne _ _ _ (by omega), zup_ne _ _ _ (by omega), zup_ne _ _ _ (by omega)]
      exact hU.2 i (by omega) q q0 q1
  · rw [zset_eq, zset_ne _ _ _ (by omega), zup_ne _ _ _ hj]
  · rw [zset_ne _ _ _ (by omega), zset_eq, zup_ne _ _ _ (by omega), zup_ne _ _ _ (by omega), zup_ne _ _ _ (by omega)]
  · rw [zset_ne _ _ _ ha, zset_ne _ _ _ hb]
set_option maxRecDepth 100000 in
set_option maxHeartbeats 1000000 in
theorem m_addAll {d : Nat} {sp : zSP} {me : zMe} {Q : zQ} {y : Nat} {k a : Int} {L La : List Int} (hd : 1 ≤ d) (hy : zMod sp y) (hk0 : 0 ≤ k) (hk1 : k < 8) (ha0 : 0 ≤ a) (ha1 : a < k) (hU : zUk me y k L) (hA : zUk me y a La) (hl : L.length + La.length ≤ 120) (hQ : ∀ me', zUk me' y k (L ++ La) → zUf me me' y k → Q none sp me') : zCall mX9_addAll d 0 0 [zR y, zI k, zI a] sp me Q := by
  refine z_met kX9_addAll (by simp) (by simp) ?_
  show zW mX9_addAll d 0 0 Q 0 [zR y, zI k, zI a, zU, zU] [] sp me
  refine z_iconst (pc' := 1) dX9_addAll_0 rfl (by unfold zin; decide) ?_
  refine z_S3I (pc' := 2) rfl dX9_addAll_1 rfl ?_
  suffices H : ∀ (n i : Nat) (v : zV) (me' : zMe), i ≤ La.length → La.length - i < n → zndv v = true → zUk me' y k (L ++ La.take i) → zUf me me' y k → zW mX9_addAll d 0 0 Q 2 [zR y, zI k, zI a, zI (i : Int), v] [] sp me' by
    exact H (La.length + 1) 0 zU me (by omega) (by omega) rfl (by simpa using hU) zUf.rf
  intro n
  induction n with
  | zero => intro i v me' h1 h2; omega
  | succ n ih =>
  intro i v me' hi0 hi1 hv hU2 hF2
  have hA2 := hF2.1 a La (by omega) (by omega) hA
  have hlen : (L ++ La.take i).length = L.length + i := by simp; omega
  refine z_L3I (pc' := 3) dX9_addAll_2 rfl ?_
  refine z_L0R (pc' := 4) dX9_addAll_3 rfl ?_
  refine z_getR (pc' := 7) (ki := 5) 5 fX9_19.l rfl rfl dX9_addAll_4 rfl hy.s hy.p5 ?_
  refine z_L2I (pc' := 8) dX9_addAll_7 rfl ?_
  refine z_ild (pc' := 9) dX9_addAll_8 rfl hy.a4 (by omega) (by omega) ?_
  rw [hA2.1]
  refine z_icmp_ge (tgt := 58) (pc' := 12) dX9_addAll_9 (by decide) rfl (fun h9 => ?_) (fun h9 => ?_)
  · refine z_return rfl rfl dX9_addAll_58 ?_
    obtain rfl : i = La.length := by omega
    rw [List.take_length] at hU2
    exact hQ _ hU2 hF2
  · refine z_iconst (pc' := 13) dX9_addAll_12 rfl (by unfold zin; decide) ?_
    refine z_bipush (pc' := 15) dX9_addAll_13 rfl (by decide) ?_
    refine z_L2I (pc' := 16) dX9_addAll_15 rfl ?_
    refine z_imul (pc' := 17) dX9_addAll_16 rfl (by unfold zin; omega) ?_
    refine z_L3I (pc' := 18) dX9_addAll_17 rfl ?_
    refine z_iadd (pc' := 19) dX9_addAll_18 rfl (by unfold zin; omega) ?_
    refine z_imul (pc' := 20) dX9_addAll_19 rfl (by unfold zin; omega) ?_
    refine z_S4I (pc' := 22) rfl dX9_addAll_20 rfl ?_
    refine z_L0R (pc' := 23) dX9_addAll_22 rfl ?_
    refine z_L1I (pc' := 24) dX9_addAll_23 rfl ?_
    refine z_L0R (pc' := 25) dX9_addAll_24 rfl ?_
    refine z_getR (pc' := 28) (ki := 6) 6 fX9_22.l rfl rfl dX9_addAll_25 rfl hy.s hy.p6 ?_
    refine z_L4I (pc' := 30) dX9_addAll_28 rfl ?_
    refine z_ild (pc' := 31) dX9_addAll_30 rfl hy.a5 (by omega) (by omega) ?_
    rw [← Int.add_zero (3 * (120 * a + (i : Int))), hA2.2 i (by omega) 0 (by omega) (by omega), Int.add_zero]
    refine z_L0R (pc' := 32) dX9_addAll_31 rfl ?_
    refine z_getR (pc' := 35) (ki := 6) 6 fX9_22.l rfl rfl dX9_addAll_32 rfl hy.s hy.p6 ?_
    refine z_L4I (pc' := 37) dX9_addAll_35 rfl ?_
    refine z_iconst (pc' := 38) dX9_addAll_37 rfl (by unfold zin; decide) ?_
    refine z_iadd (pc' := 39) dX9_addAll_38 rfl (by unfold zin; omega) ?_
    refine z_ild (pc' := 40) dX9_addAll_39 rfl hy.a5 (by omega) (by omega) ?_
    rw [hA2.2 i (by omega) 1 (by omega) (by omega)]
    refine z_L0R (pc' := 41) dX9_addAll_40 rfl ?_
    refine z_getR (pc' := 44) (ki := 6) 6 fX9_22.l rfl rfl dX9_addAll_41 rfl hy.s hy.p6 ?_
    refine z_L4I (pc' := 46) dX9_addAll_44 rfl ?_
    refine z_iconst (pc' := 47) dX9_addAll_46 rfl (by unfold zin; decide) ?_
    refine z_iadd (pc' := 48) dX9_addAll_47 rfl (by unfold zin; omega) ?_
    refine z_ild (pc' := 49) dX9_addAll_48 rfl hy.a5 (by omega) (by omega) ?_
    refine z_V40 (pc' := 52) (ci := 9) kX9_addStep lX9_93 dX9_addAll_49 rfl (by omega) (Nat.le_of_ble_eq_true rfl) (by decide) rfl hy.s ?_
    rw [hA2.2 i (by omega) 2 (by omega) (by omega)]
    refine m_addStep (L := L ++ La.take i) hy hk0 hk1 hU2 (by omega) (fun me3 hU3 hF3 => zK0_i ?_)
    refine z_inc3 (pc' := 55) rfl dX9_addAll_52 rfl (by unfold zin; omega) ?_
    refine z_goto (tgt := 2) dX9_addAll_55 (by decide) ?_
    have e1 : L ++ La.take (i + 1) = (L ++ La.take i) ++ [La.getD i 0] := by
      rw [List.append_assoc]
      congr 1
      rw [List.take_succ]
      congr 1
      simp only [List.getD_eq_getElem?_getD]
      rw [List.getElem?_eq_getElem (by omega)]
      rfl
    exact ih (i + 1) _ me3 (by omega) (by omega) rfl (by rw [e1]; exact hU3) (hF2.trans hF3)
def zUP (me : zMe) (y : Nat) (sz cd : Int → Int) : Prop := ∀ k, 0 ≤ k → k < 8 → zUk me y k (zsteps sz cd k)
set_option maxRecDepth 100000 in
set_option maxHeartbeats 1000000 in
theorem m_unroll {d : Nat} {sp : zSP} {me : zMe} {Q : zQ} {y : Nat} {sz cd : Int → Int} (hd : 4 ≤ d) (hy : zMod sp y) (hv : zfv sz cd) (hl : zlim sz cd) (hRs : ∀ k, 0 ≤ k → k < 8 → me (y + 1) (30 + 31 * k) = sz k) (hRc : ∀ k, 0 ≤ k → k < 8 → ∀ m, 0 ≤ m → m < sz k → ∀ q, 0 ≤ q → q < 3 → me (y + 1) (30 + 31 * k + 1 + 3 * m + q) = zdig (cd (k * 10 + m)) q) (hQ : ∀ me', zUP me' y sz cd → (∀ a, a ≠ y + 4 → a ≠ y + 5 → me' a = me a) → Q none sp me') : zCall mX9_unroll d 0 0 [zR y] sp me Q := by
  refine z_met kX9_unroll (by simp) (by simp) ?_
  show zW mX9_unroll d 0 0 Q 0 [zR y, zU, zU] [] sp me
  refine z_iconst (pc' := 1) dX9_unroll_0 rfl (by unfold zin; decide) ?_
  refine z_S1I (pc' := 2) rfl dX9_unroll_1 rfl ?_
  suffices H : ∀ (n : Nat) (k : Int) (v : zV) (me' : zMe), 0 ≤ k → k ≤ 8 → 8 - k < n → zndv v = true → (∀ a, 0 ≤ a → a < k → zUk me' y a (zsteps sz cd a)) → (∀ a, a ≠ y + 4 → a ≠ y + 5 → me' a = me a) → zW mX9_unroll d 0 0 Q 2 [zR y, zI k, v] [] sp me' by
    exact H 9 0 zU me (by omega) (by omega) (by omega) rfl (fun a h0 h1 => by omega) (fun _ _ _ => rfl)
  intro n
  induction n with
  | zero => intro k v me' hk0 hk1 hk2; omega
  | succ n ih =>
  intro k v me' hk0 hk1 hk2 hv3 hrows hfr
  refine z_L1I (pc' := 3) dX9_unroll_2 rfl ?_
  refine z_bipush (pc' := 5) dX9_unroll_3 rfl (by decide) ?_
  refine z_icmp_ge (tgt := 90) (pc' := 8) dX9_unroll_5 (by decide) rfl (fun h5 => ?_) (fun h5 => ?_)
  · refine z_return rfl rfl dX9_unroll_90 ?_
    obtain rfl : k = 8 := by omega
    exact hQ me' (fun k h0 h1 => hrows k h0 h1) hfr
  · refine z_L0R (pc' := 9) dX9_unroll_8 rfl ?_
    refine z_getR (pc' := 12) (ki := 5) 5 fX9_19.l rfl rfl dX9_unroll_9 rfl hy.s hy.p5 ?_
    refine z_L1I (pc' := 13) dX9_unroll_12 rfl ?_
    refine z_iconst (pc' := 14) dX9_unroll_13 rfl (by unfold zin; decide) ?_
    refine z_ist (pc' := 15) dX9_unroll_14 rfl hy.a4 (by omega) (by omega) ?_
    have hvk := hv k hk0 (by omega)
    generalize hm1 : zset me' (y + 4) (zup (me' (y + 4)) k 0) = me1
    have hK1 : zUk me1 y k [] := by
      rw [← hm1]
      refine ⟨?_, fun i hi => absurd hi (Nat.not_lt_zero _)⟩
      rw [zset_eq, zup_eq]; rfl
    have hF1 : zUf me' me1 y k := by
      rw [← hm1]
      refine zUf_of (fun j hj => ?_) (fun x hx => ?_) (fun a ha hb => ?_)
      · rw [zset_eq, zup_ne _ _ _ hj]
      · rw [zset_ne _ _ _ (by omega)]
      · rw [zset_ne _ _ _ ha]
    refine z_iconst (pc' := 16) dX9_unroll_15 rfl (by unfold zin; decide) ?_
    refine z_S2I (pc' := 17) rfl dX9_unroll_16 rfl ?_
    suffices H : ∀ (n2 : Nat) (j : Nat) (me2 : zMe), (j : Int) ≤ sz k → sz k - j < n2 → zUk me2 y k (zpr cd (zsteps sz cd) k j) → zUf me' me2 y k → zW mX9_unroll d 0 0 Q 17 [zR y, zI k, zI (j : Int)] [] sp me2 by
      exact H 11 0 me1 (by omega) (by omega) hK1 hF1
    intro n2
    induction n2 with
    | zero => intro j me2 h1 h2; omega
    | succ n2 ih2 =>
    intro j me2 hj0 hj1 hK2 hF2
    have her : me2 (y + 1) = me (y + 1) := by rw [hF2.2 _ (by omega) (by omega), hfr _ (by omega) (by omega)]
    refine z_L2I (pc' := 18) dX9_unroll_17 rfl ?_
    refine z_L0R (pc' := 19) dX9_unroll_18 rfl ?_
    refine z_L1I (pc' := 20) dX9_unroll_19 rfl ?_
    refine z_V1v (pc' := 23) (ci := 9) kX9_moves lX9_81 dX9_unroll_20 rfl (by omega) (Nat.le_of_ble_eq_true rfl) (by decide) rfl hy.s ?_
    refine m_moves hy hk0 (by omega) (zKv_i ?_)
    rw [her, hRs k hk0 (by omega)]
    refine z_icmp_ge (tgt := 84) (pc' := 26) dX9_unroll_23 (by decide) rfl (fun h23 => ?_) (fun h23 => ?_)
    · obtain rfl : j = (sz k).toNat := by omega
      rw [← zsteps_eq hv hk0 (by omega)] at hK2
      have hagain : ∀ v3, zndv v3 = true → zW mX9_unroll d 0 0 Q 2 [zR y, zI (k + 1), v3] [] sp me2 := fun v3 hv3 => ih (k + 1) v3 me2 (by omega) (by omega) (by omega) hv3 (fun a ha0 ha1 => by
        by_cases e : a = k
        · subst e; exact hK2
        · exact hF2.1 a _ e (hl a ha0 (by omega)) (hrows a ha0 (by omega))) (fun a ha hb => by rw [hF2.2 a ha hb, hfr a ha hb])
      refine z_inc1 (pc' := 87) rfl dX9_unroll_84 rfl (by unfold zin; omega) ?_
      refine z_goto (tgt := 2) dX9_unroll_87 (by decide) ?_
      exact hagain _ rfl
    · have hvj := hvk.2.2 (j : Int) (by omega) (by omega)
      unfold zvm at hvj
      have hlen := hl k hk0 (by omega)
      rw [zsteps_eq hv hk0 (by omega)] at hlen
      have hlen2 := Nat.le_trans (zpr_len (cd := cd) (T := zsteps sz cd) (k := k) (j + 1) (sz k).toNat (by omega)) hlen
      have epr : zpr cd (zsteps sz cd) k (j + 1) = zpr cd (zsteps sz cd) k j ++ (if cd (k * 10 + (j : Int)) / 100 = 4 then zsteps sz cd (cd (k * 10 + (j : Int)) / 10 % 10) else [cd (k * 10 + (j : Int))]) := rfl
      have ec : ∀ q, 0 ≤ q → q < 3 → me2 (y + 1) (30 + 31 * k + 1 + 3 * (j : Int) + q) = zdig (cd (k * 10 + (j : Int))) q := fun q q0 q1 => by rw [her]; exact hRc k hk0 (by omega) (j : Int) (by omega) (by omega) q q0 q1
      refine z_L0R (pc' := 27) dX9_unroll_26 rfl ?_
      refine z_L1I (pc' := 28) dX9_unroll_27 rfl ?_
      refine z_L2I (pc' := 29) dX9_unroll_28 rfl ?_
      refine z_iconst (pc' := 30) dX9_unroll_29 rfl (by unfold zin; decide) ?_
      refine z_V3v (pc' := 33) (ci := 9) kX9_ofMove lX9_85 dX9_unroll_30 rfl (by omega) (Nat.le_of_ble_eq_true rfl) (by decide) rfl hy.s ?_
      refine m_ofMove hy hk0 (by omega) (by omega) (by omega) (by omega) (by omega) (zKv_i ?_)
      rw [ec 0 (by omega) (by omega)]
      refine z_iconst (pc' := 34) dX9_unroll_33 rfl (by unfold zin; decide) ?_
      refine z_icmp_ne (tgt := 52) (pc' := 37) dX9_unroll_34 (by decide) rfl (fun h34 => ?_) (fun h34 => ?_)
      · refine z_L0R (pc' := 53) dX9_unroll_52 rfl ?_
        refine z_L1I (pc' := 54) dX9_unroll_53 rfl ?_
        refine z_L0R (pc' := 55) dX9_unroll_54 rfl ?_
        refine z_L1I (pc' := 56) dX9_unroll_55 rfl ?_
        refine z_L2I (pc' := 57) dX9_unroll_56 rfl ?_
        refine z_iconst (pc' := 58) dX9_unroll_57 rfl (by unfold zin; decide) ?_
        refine z_V3v (pc' := 61) (ci := 9) kX9_ofMove lX9_85 dX9_unroll_58 rfl (by omega) (Nat.le_of_ble_eq_true rfl) (by decide) rfl hy.s ?_
        rw [show zdig (cd (k * 10 + (j : Int))) 0 = cd (k * 10 + (j : Int)) / 100 from rfl] at h34
        refine m_ofMove hy hk0 (by omega) (by omega) (by omega) (by omega) (by omega) (zKv_i ?_)
        rw [ec 0 (by omega) (by omega)]
        refine z_L0R (pc' := 62) dX9_unroll_61 rfl ?_
        refine z_L1I (pc' := 63) dX9_unroll_62 rfl ?_
        refine z_L2I (pc' := 64) dX9_unroll_63 rfl ?_
        refine z_iconst (pc' := 65) dX9_unroll_64 rfl (by unfold zin; decide) ?_
        refine z_V3v (pc' := 68) (ci := 9) kX9_ofMove lX9_85 dX9_unroll_65 rfl (by omega) (Nat.le_of_ble_eq_true rfl) (by decide) rfl hy.s ?_
        refine m_ofMove hy hk0 (by omega) (by omega) (by omega) (by omega) (by omega) (zKv_i ?_)
        rw [ec 1 (by omega) (by omega)]
        refine z_L0R (pc' := 69) dX9_unroll_68 rfl ?_
        refine z_L1I (pc' := 70) dX9_unroll_69 rfl ?_
        refine z_L2I (pc' := 71) dX9_unroll_70 rfl ?_
        refine z_iconst (pc' := 72) dX9_unroll_71 rfl (by unfold zin; decide) ?_
        refine z_V3v (pc' := 75) (ci := 9) kX9_ofMove lX9_85 dX9_unroll_72 rfl (by omega) (Nat.le_of_ble_eq_true rfl) (by decide) rfl hy.s ?_
        refine m_ofMove hy hk0 (by omega) (by omega) (by omega) (by omega) (by omega) (zKv_i ?_)
        rw [ec 2 (by omega) (by omega)]
        refine z_V40 (pc' := 78) (ci := 9) kX9_addStep lX9_93 dX9_unroll_75 rfl (by omega) (Nat.le_of_ble_eq_true rfl) (by decide) rfl hy.s ?_
        rw [epr, if_neg h34, List.length_append, List.length_singleton] at hlen2
        refine m_addStep hy hk0 (by omega) hK2 (by omega) (fun me3 hU3 hF3 => zK0_i ?_)
        refine z_inc2 (pc' := 81) rfl dX9_unroll_78 rfl (by unfold zin; omega) ?_
        refine z_goto (tgt := 17) dX9_unroll_81 (by decide) ?_
        refine ih2 (j + 1) me3 (by omega) (by omega) ?_ (hF2.trans hF3)
        rw [epr]
        first
        | (rw [if_pos h34]; exact hU3)
        | (rw [if_neg h34]; exact hU3)
      · refine z_L0R (pc' := 38) dX9_unroll_37 rfl ?_
        refine z_L1I (pc' := 39) dX9_unroll_38 rfl ?_
        refine z_L0R (pc' := 40) dX9_unroll_39 rfl ?_
        refine z_L1I (pc' := 41) dX9_unroll_40 rfl ?_
        refine z_L2I (pc' := 42) dX9_unroll_41 rfl ?_
        refine z_iconst (pc' := 43) dX9_unroll_42 rfl (by unfold zin; decide) ?_
        refine z_V3v (pc' := 46) (ci := 9) kX9_ofMove lX9_85 dX9_unroll_43 rfl (by omega) (Nat.le_of_ble_eq_true rfl) (by decide) rfl hy.s ?_
        rw [show zdig (cd (k * 10 + (j : Int))) 0 = cd (k * 10 + (j : Int)) / 100 from rfl] at h34
        refine m_ofMove hy hk0 (by omega) (by omega) (by omega) (by omega) (by omega) (zKv_i ?_)
        rw [ec 1 (by omega) (by omega), show zdig (cd (k * 10 + (j : Int))) 1 = cd (k * 10 + (j : Int)) / 10 % 10 from rfl]
        refine z_V20 (pc' := 49) (ci := 9) kX9_addAll lX9_89 dX9_unroll_46 rfl (by omega) (Nat.le_of_ble_eq_true rfl) (by decide) rfl hy.s ?_
        rw [epr, if_pos h34, List.length_append] at hlen2
        refine m_addAll (by omega) hy hk0 (by omega) (by omega) (by omega) hK2 (hF2.1 _ _ (by omega) (hl _ (by omega) (by omega)) (hrows _ (by omega) (by omega))) (by omega) (fun me3 hU3 hF3 => zK0_i ?_)
        refine z_goto (tgt := 78) dX9_unroll_49 (by decide) ?_
        refine z_inc2 (pc' := 81) rfl dX9_unroll_78 rfl (by unfold zin; omega) ?_
        refine z_goto (tgt := 17) dX9_unroll_81 (by decide) ?_
        refine ih2 (j + 1) me3 (by omega) (by omega) ?_ (hF2.trans hF3)
        rw [epr]
        first
        | (rw [if_pos h34]; exact hU3)
        | (rw [if_neg h34]; exact hU3)
set_option maxRecDepth 100000 in
set_option maxHeartbeats 1000000 in
theorem m_stepsOf {d : Nat} {sp : zSP} {me : zMe} {Q : zQ} {y : Nat} {a : Int} {sz cd : Int → Int} (hd : 5 ≤ d) (hy : zMod sp y) (hv : zfv sz cd) (hl : zlim sz cd) (ha0 : 0 ≤ a) (ha8 : a < 8) (hRs : ∀ k, 0 ≤ k → k < 8 → me (y + 1) (30 + 31 * k) = sz k) (hRc : ∀ k, 0 ≤ k → k < 8 → ∀ m, 0 ≤ m → m < sz k → ∀ q, 0 ≤ q → q < 3 → me (y + 1) (30 + 31 * k + 1 + 3 * m + q) = zdig (cd (k * 10 + m)) q) (hQ : ∀ me', (∀ a, a ≠ y + 4 → a ≠ y + 5 → me' a = me a) → Q (some (zI ((zsteps sz cd a).length : Int))) sp me') : zCall mX9_stepsOf d 0 0 [zR y, zI a] sp me Q := by
  refine z_met kX9_stepsOf (by simp) (by simp) ?_
  show zW mX9_stepsOf d 0 0 Q 0 [zR y, zI a] [] sp me
  refine z_L0R (pc' := 1) dX9_stepsOf_0 rfl ?_
  refine z_V00 (pc' := 4) (ci := 9) kX9_unroll lX9_112 dX9_stepsOf_1 rfl (by omega) (Nat.le_of_ble_eq_true rfl) (by decide) rfl hy.s ?_
  refine m_unroll (by omega) hy hv hl hRs hRc (fun me1 hP1 hf1 => zK0_i ?_)
  refine z_L0R (pc' := 5) dX9_stepsOf_4 rfl ?_
  refine z_getR (pc' := 8) (ki := 5) 5 fX9_19.l rfl rfl dX9_stepsOf_5 rfl hy.s hy.p5 ?_
  refine z_L1I (pc' := 9) dX9_stepsOf_8 rfl ?_
  refine z_ild (pc' := 10) dX9_stepsOf_9 rfl hy.a4 (by omega) (by omega) ?_
  refine z_ireturn rfl rfl dX9_stepsOf_10 ?_
  rw [(hP1 a ha0 ha8).1]
  exact hQ me1 hf1
end ZMO6

