section ZLC
/-- the figures as the law keeps them -/
def gFg (me : zMe) (m o c : Nat) (sz cd : Int → Int) : Prop := ∀ k, 0 ≤ k → k < 8 → me c k = sz k ∧ ∀ j, 0 ≤ j → j < sz k → gMv me m o k j = cd (k * 10 + j)
def gCt (me : zMe) (c : Nat) (sz cd : Int → Int) : Prop := ∀ k, 0 ≤ k → k < 8 → me c (8 + k) = ((zsteps sz cd k).length : Int)
theorem gMv_cg {me me' : zMe} {m o : Nat} {k j : Int} (hm : me' m = me m) (ho : me' o = me o) : gMv me' m o k j = gMv me m o k j := by unfold gMv; rw [hm, ho]
theorem gFg.cg {me me' : zMe} {m o c : Nat} {sz cd : Int → Int} (h : gFg me m o c sz cd) (hm : me' m = me m) (ho : me' o = me o) (hc : ∀ k, 0 ≤ k → k < 8 → me' c k = me c k) : gFg me' m o c sz cd := fun k k0 k1 => ⟨by rw [hc k k0 k1]; exact (h k k0 k1).1, fun j j0 j1 => by rw [gMv_cg hm ho]; exact (h k k0 k1).2 j j0 j1⟩
theorem gCt.cg {me me' : zMe} {c : Nat} {sz cd : Int → Int} (h : gCt me c sz cd) (hc : me' c = me c) : gCt me' c sz cd := fun k k0 k1 => by rw [hc]; exact h k k0 k1
theorem gpre (cd : Int → Int) (T : Int → List Int) (k : Int) : ∀ n j : Nat, j ≤ n → ∃ t, zpr cd T k n = zpr cd T k j ++ t := by
  intro n
  induction n with
  | zero => intro j hj; obtain rfl : j = 0 := by omega
            exact ⟨[], (List.append_nil _).symm⟩
  | succ n ih =>
    intro j hj
    by_cases e : j = n + 1
    · subst e; exact ⟨[], (List.append_nil _).symm⟩
    · obtain ⟨t, ht⟩ := ih j (by omega)
      refine ⟨t ++ (if cd (k * 10 + (n : Int)) / 100 = 4 then T (cd (k * 10 + (n : Int)) / 10 % 10) else [cd (k * 10 + (n : Int))]), ?_⟩
      show zpr cd T k n ++ _ = _
      rw [ht, List.append_assoc]
theorem gapp_l {A B : List Int} {i : Nat} (h : i < A.length) : (A ++ B).getD i 0 = A.getD i 0 := by
  simp only [List.getD_eq_getElem?_getD]
  rw [List.getElem?_append_left h]
theorem gapp_r {A B : List Int} (i : Nat) : (A ++ B).getD (A.length + i) 0 = B.getD i 0 := by
  simp only [List.getD_eq_getElem?_getD]
  rw [List.getElem?_append_right (Nat.le_add_right _ _), Nat.add_sub_cancel_left]
/-- what a move of a figure adds -/
def gsg (sz cd : Int → Int) (k : Int) (j : Nat) : List Int := if cd (k * 10 + (j : Int)) / 100 = 4 then zsteps sz cd (cd (k * 10 + (j : Int)) / 10 % 10) else [cd (k * 10 + (j : Int))]
theorem gzp_s {sz cd : Int → Int} {k : Int} {j : Nat} : zpr cd (zsteps sz cd) k (j + 1) = zpr cd (zsteps sz cd) k j ++ gsg sz cd k j := rfl
theorem gzp_at {sz cd : Int → Int} {k : Int} {n j i : Nat} (hj : j < n) (hi : i < (gsg sz cd k j).length) : (zpr cd (zsteps sz cd) k n).getD ((zpr cd (zsteps sz cd) k j).length + i) 0 = (gsg sz cd k j).getD i 0 := by
  obtain ⟨t, ht⟩ := gpre cd (zsteps sz cd) k n (j + 1) hj
  rw [ht, gzp_s, List.append_assoc, gapp_r, gapp_l hi]
theorem gzp_len {sz cd : Int → Int} {k : Int} {n j : Nat} (hj : j < n) : (zpr cd (zsteps sz cd) k j).length + (gsg sz cd k j).length ≤ (zpr cd (zsteps sz cd) k n).length := by
  obtain ⟨t, ht⟩ := gpre cd (zsteps sz cd) k n (j + 1) hj
  rw [ht, gzp_s, List.length_append, List.length_append]
  omega
theorem gln {sz cd : Int → Int} (hv : zfv sz cd) : ∀ (n : Nat) (k : Int), 0 ≤ k → k < 8 → k < n → (zsteps sz cd k).length ≤ 10 ^ (k.toNat + 1) := by
  intro n
  induction n with
  | zero => intro k h0 _ h1; omega
  | succ n ih =>
    intro k k0 k1 k2
    have hs := hv k k0 k1
    rw [zsteps_eq hv k0 k1]
    have hb : ∀ j : Nat, (j : Int) ≤ sz k → (zpr cd (zsteps sz cd) k j).length ≤ j * 10 ^ k.toNat := by
      intro j
      induction j with
      | zero => intro _; exact Nat.zero_le _
      | succ j ihj =>
        intro hj
        have h1 := ihj (by omega)
        have hp : 0 < 10 ^ k.toNat := Nat.pow_pos (by decide)
        rw [gzp_s, List.length_append, Nat.succ_mul]
        have h2 : (gsg sz cd k j).length ≤ 10 ^ k.toNat := by
          have h3 := hs.2.2 (j : Int) (by omega) (by omega)
          unfold gsg
          by_cases e : cd (k * 10 + (j : Int)) / 100 = 4
          · rw [if_pos e]
            unfold zvm at h3
            have ha : 0 ≤ cd (k * 10 + (j : Int)) / 10 % 10 ∧ cd (k * 10 + (j : Int)) / 10 % 10 < k := by omega
            revert ha
            generalize cd (k * 10 + (j : Int)) / 10 % 10 = a
            intro ha
            have h4 := ih a ha.1 (by omega) (by omega)
            exact Nat.le_trans h4 (Nat.pow_le_pow_right (by decide) (by omega))
          · rw [if_neg e]; exact hp
        omega
    have h5 := hb (sz k).toNat (by omega)
    refine Nat.le_trans h5 ?_
    rw [Nat.pow_succ, Nat.mul_comm]
    exact Nat.mul_le_mul_left _ (by omega)
theorem gln8 {sz cd : Int → Int} (hv : zfv sz cd) {k : Int} (k0 : 0 ≤ k) (k1 : k < 8) : (zsteps sz cd k).length ≤ 100000000 := by
  refine Nat.le_trans (gln hv 8 k k0 k1 (by omega)) ?_
  have h : (10 : Nat) ^ (k.toNat + 1) ≤ 10 ^ 8 := Nat.pow_le_pow_right (by decide) (by omega)
  exact Nat.le_trans h (by decide)
theorem gzl {sz cd : Int → Int} (hv : zfv sz cd) {k : Int} (k0 : 0 ≤ k) (k1 : k < 8) {j : Nat} (hj : (j : Int) < sz k) : (zpr cd (zsteps sz cd) k j).length + (gsg sz cd k j).length ≤ (zsteps sz cd k).length := by
  rw [zsteps_eq hv k0 k1]
  exact gzp_len (by omega)
/-- a move: a step, or a call -/
theorem gsg_c {sz cd : Int → Int} (hv : zfv sz cd) {k : Int} (k0 : 0 ≤ k) (k1 : k < 8) {j : Int} (j0 : 0 ≤ j) (j1 : j < sz k) : (399 < cd (k * 10 + j) → 0 ≤ cd (k * 10 + j) / 10 % 10 ∧ cd (k * 10 + j) / 10 % 10 < k ∧ gsg sz cd k j.toNat = zsteps sz cd (cd (k * 10 + j) / 10 % 10)) ∧ (cd (k * 10 + j) ≤ 399 → gsg sz cd k j.toNat = [cd (k * 10 + j)]) ∧ 0 ≤ cd (k * 10 + j) ∧ cd (k * 10 + j) < 500 := by
  have h3 := (hv k k0 k1).2.2 j j0 j1
  have e : ((j.toNat : Nat) : Int) = j := Int.toNat_of_nonneg j0
  unfold gsg
  rw [e]
  unfold zvm zvs at h3
  refine ⟨fun h => ⟨by omega, by omega, if_pos (by omega)⟩, fun h => if_neg (by omega), by omega, by omega⟩
set_option maxRecDepth 100000 in
set_option maxHeartbeats 4000000 in
theorem l_count {d : Nat} {sp : zSP} {me : zMe} {Q : zQ} {m o c : Nat} {sz cd : Int → Int} (hd : 1 ≤ d) (hm : sp.1 m = (1, 40)) (ho : sp.1 o = (1, 40)) (hc : sp.1 c = (1, 16)) (hcm : c ≠ m) (hco : c ≠ o) (hv : zfv sz cd) (hF : gFg me m o c sz cd) (hQ : ∀ me', (∀ k, 0 ≤ k → k < 8 → me' c k = me c k) → gCt me' c sz cd → (∀ a, a ≠ c → me' a = me a) → Q none sp me') : zCall mL_count d 0 0 [zR m, zR o, zR c] sp me Q := by
  refine z_met kL_count (by simp) (by simp) ?_
  show zW mL_count d 0 0 Q 0 [zR m, zR o, zR c, zU, zU, zU] [] sp me
  refine z_iconst (pc' := 1) dL_count_0 rfl (by unfold zin; decide) ?_
  refine z_S3I (pc' := 2) rfl dL_count_1 rfl ?_
  suffices H : ∀ (n : Nat) (k : Int) (v4 v5 : zV) (me' : zMe), 0 ≤ k → k ≤ 8 → 8 - k < n → zndv v4 = true → zndv v5 = true → (∀ a, 0 ≤ a → a < 8 → me' c a = me c a) → (∀ a, 0 ≤ a → a < k → me' c (8 + a) = ((zsteps sz cd a).length : Int)) → (∀ a, a ≠ c → me' a = me a) → zW mL_count d 0 0 Q 2 [zR m, zR o, zR c, zI k, v4, v5] [] sp me' by
    exact H 9 0 zU zU me (by omega) (by omega) (by omega) rfl rfl (fun _ _ _ => rfl) (fun a a0 a1 => by omega) (fun _ _ => rfl)
  intro n
  induction n with
  | zero => intro k v4 v5 me' h0 h1 h2; omega
  | succ n ih =>
  intro k v4 v5 me' hk0 hk1 hk2 hv4 hv5 hA hB hO
  refine z_L3I (pc' := 3) dL_count_2 rfl ?_
  refine z_bipush (pc' := 5) dL_count_3 rfl (by decide) ?_
  refine z_icmp_ge (tgt := 82) (pc' := 8) dL_count_5 (by decide) rfl (fun h5 => ?_) (fun h5 => ?_)
  · refine z_return rfl rfl dL_count_82 ?_
    obtain rfl : k = 8 := by omega
    exact hQ me' hA (fun a a0 a1 => hB a a0 a1) hO
  · have hs := hv k hk0 (by omega)
    have hln := gln8 hv hk0 (show k < 8 by omega)
    refine z_L2R (pc' := 9) dL_count_8 rfl ?_
    refine z_bipush (pc' := 11) dL_count_9 rfl (by decide) ?_
    refine z_L3I (pc' := 12) dL_count_11 rfl ?_
    refine z_iadd (pc' := 13) dL_count_12 rfl (by unfold zin; omega) ?_
    refine z_iconst (pc' := 14) dL_count_13 rfl (by unfold zin; decide) ?_
    refine z_ist (pc' := 15) dL_count_14 rfl hc (by omega) (by omega) ?_
    refine z_iconst (pc' := 16) dL_count_15 rfl (by unfold zin; decide) ?_
    refine z_S4I (pc' := 18) rfl dL_count_16 rfl ?_
    suffices H : ∀ (n2 : Nat) (j : Int) (v5 : zV) (me2 : zMe), 0 ≤ j → j ≤ sz k → sz k - j < n2 → zndv v5 = true → (∀ a, 0 ≤ a → a < 8 → me2 c a = me c a) → (∀ a, 0 ≤ a → a < k → me2 c (8 + a) = ((zsteps sz cd a).length : Int)) → me2 c (8 + k) = ((zpr cd (zsteps sz cd) k j.toNat).length : Int) → (∀ a, a ≠ c → me2 a = me a) → zW mL_count d 0 0 Q 18 [zR m, zR o, zR c, zI k, zI j, v5] [] sp me2 by
      refine H 11 0 _ _ (by omega) (by omega) (by omega) hv5 (fun a a0 a1 => ?_) (fun a a0 a1 => ?_) ?_ (fun a ha => by rw [zset_ne _ _ _ ha]; exact hO a ha)
      · rw [zset_eq, zup_ne _ _ _ (by omega)]; exact hA a a0 a1
      · rw [zset_eq, zup_ne _ _ _ (by omega)]; exact hB a a0 a1
      · rw [zset_eq, zup_eq]; rfl
    intro n2
    induction n2 with
    | zero => intro j v5 me2 h0 h1 h2; omega
    | succ n2 ih2 =>
    intro j v5 me2 hj0 hj1 hj2 hv5 hA2 hB2 hC2 hO2
    have hck := hA2 k hk0 (by omega)
    have hfk := hF k hk0 (by omega)
    refine z_L4I (pc' := 20) dL_count_18 rfl ?_
    refine z_L2R (pc' := 21) dL_count_20 rfl ?_
    refine z_L3I (pc' := 22) dL_count_21 rfl ?_
    refine z_ild (pc' := 23) dL_count_22 rfl hc (by omega) (by omega) ?_
    refine z_icmp_ge (tgt := 76) (pc' := 26) dL_count_23 (by decide) rfl (fun h23 => ?_) (fun h23 => ?_)
    · refine z_inc3 (pc' := 79) rfl dL_count_76 rfl (by unfold zin; omega) ?_
      refine z_goto (tgt := 2) dL_count_79 (by decide) ?_
      refine ih (k + 1) _ _ me2 (by omega) (by omega) (by omega) rfl hv5 hA2 (fun a a0 a1 => ?_) hO2
      by_cases e : a = k
      · subst e
        obtain rfl : j = sz a := by omega
        rw [hC2, zsteps_eq hv hk0 (by omega)]
      · exact hB2 a a0 (by omega)
    · have hjj : j < sz k := by omega
      have hmv : gMv me2 m o k j = cd (k * 10 + j) := by rw [gMv_cg (hO2 m (Ne.symm hcm)) (hO2 o (Ne.symm hco))]; exact hfk.2 j hj0 hjj
      have hg := gsg_c hv hk0 (show k < 8 by omega) hj0 hjj
      have hzl := gzl hv hk0 (show k < 8 by omega) (show ((j.toNat : Nat) : Int) < sz k by omega)
      have hjn : (j + 1).toNat = j.toNat + 1 := by omega
      have hsz := gzp_s (sz := sz) (cd := cd) (k := k) (j := j.toNat)
      refine z_L0R (pc' := 27) dL_count_26 rfl ?_
      refine z_L1R (pc' := 28) dL_count_27 rfl ?_
      refine z_L3I (pc' := 29) dL_count_28 rfl ?_
      refine z_L4I (pc' := 31) dL_count_29 rfl ?_
      refine z_S4v (pc' := 34) kL_move lL_9 dL_count_31 rfl (by omega) (Nat.le_of_ble_eq_true rfl) ?_
      refine l_move hm ho hk0 (by omega) hj0 (by omega) (zKv_i ?_)
      rw [hmv]
      refine z_S5I (pc' := 36) rfl dL_count_34 rfl ?_
      refine z_L2R (pc' := 37) dL_count_36 rfl ?_
      refine z_bipush (pc' := 39) dL_count_37 rfl (by decide) ?_
      refine z_L3I (pc' := 40) dL_count_39 rfl ?_
      refine z_iadd (pc' := 41) dL_count_40 rfl (by unfold zin; omega) ?_
      refine z_dup2 (pc' := 42) dL_count_41 rfl ?_
      refine z_ild (pc' := 43) dL_count_42 rfl hc (by omega) (by omega) ?_
      refine z_L5I (pc' := 45) dL_count_43 rfl ?_
      refine z_sipush (pc' := 48) dL_count_45 rfl (by decide) ?_
      refine z_icmp_le (tgt := 67) (pc' := 51) dL_count_48 (by decide) rfl (fun h48 => ?_) (fun h48 => ?_)
      · refine z_iconst (pc' := 68) dL_count_67 rfl (by unfold zin; decide) ?_
        refine z_iadd (pc' := 69) dL_count_68 rfl (by first | (rw [hC2, hb9, ← hl9]; unfold zin; omega) | (rw [hC2]; have hl8 := congrArg List.length (hg.2.1 (by omega)); simp only [List.length_cons, List.length_nil] at hl8; unfold zin; omega)) ?_
        refine z_ist (pc' := 70) dL_count_69 rfl hc (by omega) (by omega) ?_
        refine z_inc4 (pc' := 73) rfl dL_count_70 rfl (by unfold zin; omega) ?_
        refine z_goto (tgt := 18) dL_count_73 (by decide) ?_
        first
        | (refine ih2 (j + 1) _ _ (by omega) (by omega) (by omega) rfl (fun a a0 a1 => ?_) (fun a a0 a1 => ?_) ?_ (fun a ha => by rw [zset_ne _ _ _ ha]; exact hO2 a ha)
           · rw [zset_eq, zup_ne _ _ _ (by omega)]; exact hA2 a a0 a1
           · rw [zset_eq, zup_ne _ _ _ (by omega)]; exact hB2 a a0 a1
           · rw [zset_eq, zup_eq, hjn, hsz, List.length_append, hC2, hb9, ← hl9]; omega)
        | (refine ih2 (j + 1) _ _ (by omega) (by omega) (by omega) rfl (fun a a0 a1 => ?_) (fun a a0 a1 => ?_) ?_ (fun a ha => by rw [zset_ne _ _ _ ha]; exact hO2 a ha)
           · rw [zset_eq, zup_ne _ _ _ (by omega)]; exact hA2 a a0 a1
           · rw [zset_eq, zup_ne _ _ _ (by omega)]; exact hB2 a a0 a1
           · have hl8 := congrArg List.length (hg.2.1 (by omega))
             simp only [List.length_cons, List.length_nil] at hl8
             rw [zset_eq, zup_eq, hjn, hsz, List.length_append, hC2]; omega)
      · have hb9 := hB2 (cd (k * 10 + j) / 10 % 10) (by omega) (by omega)
        have hl9 := congrArg List.length (hg.1 (by omega)).2.2
        refine z_L2R (pc' := 52) dL_count_51 rfl ?_
        refine z_bipush (pc' := 54) dL_count_52 rfl (by decide) ?_
        refine z_L5I (pc' := 56) dL_count_54 rfl ?_
        refine z_bipush (pc' := 58) dL_count_56 rfl (by decide) ?_
        refine z_idiv (pc' := 59) dL_count_58 rfl (by omega) (by omega) ?_
        refine z_bipush (pc' := 61) dL_count_59 rfl (by decide) ?_
        refine z_irem (pc' := 62) dL_count_61 rfl (by omega) (by omega) ?_
        refine z_iadd (pc' := 63) dL_count_62 rfl (by unfold zin; omega) ?_
        refine z_ild (pc' := 64) dL_count_63 rfl hc (by omega) (by omega) ?_
        refine z_goto (tgt := 68) dL_count_64 (by decide) ?_
        refine z_iadd (pc' := 69) dL_count_68 rfl (by first | (rw [hC2, hb9, ← hl9]; unfold zin; omega) | (rw [hC2]; have hl8 := congrArg List.length (hg.2.1 (by omega)); simp only [List.length_cons, List.length_nil] at hl8; unfold zin; omega)) ?_
        refine z_ist (pc' := 70) dL_count_69 rfl hc (by omega) (by omega) ?_
        refine z_inc4 (pc' := 73) rfl dL_count_70 rfl (by unfold zin; omega) ?_
        refine z_goto (tgt := 18) dL_count_73 (by decide) ?_
        first
        | (refine ih2 (j + 1) _ _ (by omega) (by omega) (by omega) rfl (fun a a0 a1 => ?_) (fun a a0 a1 => ?_) ?_ (fun a ha => by rw [zset_ne _ _ _ ha]; exact hO2 a ha)
           · rw [zset_eq, zup_ne _ _ _ (by omega)]; exact hA2 a a0 a1
           · rw [zset_eq, zup_ne _ _ _ (by omega)]; exact hB2 a a0 a1
           · rw [zset_eq, zup_eq, hjn, hsz, List.length_append, hC2, hb9, ← hl9]; omega)
        | (refine ih2 (j + 1) _ _ (by omega) (by omega) (by omega) rfl (fun a a0 a1 => ?_) (fun a a0 a1 => ?_) ?_ (fun a ha => by rw [zset_ne _ _ _ ha]; exact hO2 a ha)
           · rw [zset_eq, zup_ne _ _ _ (by omega)]; exact hA2 a a0 a1
           · rw [zset_eq, zup_ne _ _ _ (by omega)]; exact hB2 a a0 a1
           · have hl8 := congrArg List.length (hg.2.1 (by omega))
             simp only [List.length_cons, List.length_nil] at hl8
             rw [zset_eq, zup_eq, hjn, hsz, List.length_append, hC2]; omega)
set_option maxRecDepth 100000 in
set_option maxHeartbeats 4000000 in
theorem l_step {d : Nat} {sp : zSP} {me : zMe} {Q : zQ} {m o c : Nat} {sz cd : Int → Int} {k0 n0 : Int} (hd : 1 ≤ d) (hm : sp.1 m = (1, 40)) (ho : sp.1 o = (1, 40)) (hc : sp.1 c = (1, 16)) (hv : zfv sz cd) (hF : gFg me m o c sz cd) (hC : gCt me c sz cd) (hk0 : 0 ≤ k0) (hk1 : k0 < 8) (hn0 : 0 ≤ n0) (hn1 : n0 < ((zsteps sz cd k0).length : Int)) (hQ : Q (some (zI ((zsteps sz cd k0).getD n0.toNat 0))) sp me) : zCall mL_step d 0 0 [zR m, zR o, zR c, zI k0, zI n0] sp me Q := by
  refine z_met kL_step (by simp) (by simp) ?_
  show zW mL_step d 0 0 Q 0 [zR m, zR o, zR c, zI k0, zI n0, zU, zU, zU, zU, zU] [] sp me
  refine z_L3I (pc' := 1) dL_step_0 rfl ?_
  refine z_S5I (pc' := 3) rfl dL_step_1 rfl ?_
  refine z_L4I (pc' := 5) dL_step_3 rfl ?_
  refine z_S6I (pc' := 7) rfl dL_step_5 rfl ?_
  refine z_iconst (pc' := 8) dL_step_7 rfl (by unfold zin; decide) ?_
  refine z_S7I (pc' := 10) rfl dL_step_8 rfl ?_
  suffices H : ∀ (n : Nat) (a l j : Int) (v8 v9 : zV), 0 ≤ a → a < 8 → 0 ≤ j → j ≤ sz a → 0 ≤ l → ((zpr cd (zsteps sz cd) a j.toNat).length : Int) + l < ((zsteps sz cd a).length : Int) → 11 * a + 10 - j < n → zndv v8 = true → zndv v9 = true → (zsteps sz cd k0).getD n0.toNat 0 = (zsteps sz cd a).getD ((zpr cd (zsteps sz cd) a j.toNat).length + l.toNat) 0 → zW mL_step d 0 0 Q 10 [zR m, zR o, zR c, zI k0, zI n0, zI a, zI l, zI j, v8, v9] [] sp me by
    have h0 := (hv k0 hk0 hk1).1
    refine H 100 k0 n0 0 zU zU hk0 hk1 (by omega) h0 hn0 (by show (0 : Int) + n0 < _; omega) (by omega) rfl rfl ?_
    show _ = (zsteps sz cd k0).getD (0 + n0.toNat) 0
    rw [Nat.zero_add]
  intro n
  induction n with
  | zero => intro a l j v8 v9 h0 h1 h2 h3 h4 h5 h6; have := (hv a h0 h1).1; have := (hv a h0 h1).2.1; omega
  | succ n ih =>
  intro a l j v8 v9 ha0 ha1 hj0 hj1 hl0 hl1 hn hv8 hv9 hE
  have hs := hv a ha0 ha1
  have hln := gln8 hv ha0 ha1
  have hjs : j < sz a := by
    by_cases e : j = sz a
    · subst e
      rw [zsteps_eq hv ha0 ha1] at hl1
      omega
    · omega
  have hfk := hF a ha0 ha1
  have hmv := hfk.2 j hj0 hjs
  have hg := gsg_c hv ha0 ha1 hj0 hjs
  have hzl := gzl hv ha0 ha1 (show ((j.toNat : Nat) : Int) < sz a by omega)
  have hjn : (j + 1).toNat = j.toNat + 1 := by omega
  have hsz := gzp_s (sz := sz) (cd := cd) (k := a) (j := j.toNat)
  have hszl := congrArg List.length hsz
  rw [List.length_append] at hszl
  have hat := fun (i : Nat) (hi : i < (gsg sz cd a j.toNat).length) => gzp_at (sz := sz) (cd := cd) (k := a) (n := (sz a).toNat) (j := j.toNat) (i := i) (by omega) hi
  rw [← zsteps_eq hv ha0 ha1] at hat
  refine z_L0R (pc' := 11) dL_step_10 rfl ?_
  refine z_L1R (pc' := 12) dL_step_11 rfl ?_
  refine z_L5I (pc' := 14) dL_step_12 rfl ?_
  refine z_L7I (pc' := 16) dL_step_14 rfl ?_
  refine z_S4v (pc' := 19) kL_move lL_9 dL_step_16 rfl (by omega) (Nat.le_of_ble_eq_true rfl) ?_
  refine l_move hm ho ha0 (by omega) hj0 (by omega) (zKv_i ?_)
  rw [hmv]
  refine z_S8I (pc' := 21) rfl dL_step_19 rfl ?_
  refine z_L8I (pc' := 23) dL_step_21 rfl ?_
  refine z_sipush (pc' := 26) dL_step_23 rfl (by decide) ?_
  refine z_icmp_le (tgt := 45) (pc' := 29) dL_step_26 (by decide) rfl (fun h26 => ?_) (fun h26 => ?_)
  · have hseg := hg.2.1 (by omega)
    have hl8 := congrArg List.length hseg
    simp only [List.length_cons, List.length_nil] at hl8
    refine z_iconst (pc' := 46) dL_step_45 rfl (by unfold zin; decide) ?_
    refine z_S9I (pc' := 48) rfl dL_step_46 rfl ?_
    refine z_L6I (pc' := 50) dL_step_48 rfl ?_
    refine z_L9I (pc' := 52) dL_step_50 rfl ?_
    refine z_icmp_lt (tgt := 68) (pc' := 55) dL_step_52 (by decide) rfl (fun h52 => ?_) (fun h52 => ?_)
    · refine z_L8I (pc' := 70) dL_step_68 rfl ?_
      refine z_sipush (pc' := 73) dL_step_70 rfl (by decide) ?_
      refine z_icmp_le (tgt := 92) (pc' := 76) dL_step_73 (by decide) rfl (fun h73 => ?_) (fun h73 => ?_)
      · refine z_L8I (pc' := 94) dL_step_92 rfl ?_
        refine z_ireturn rfl rfl dL_step_94 ?_
        first
        | (exfalso; omega)
        | (have el : l.toNat = 0 := by omega
           rw [hE, hat l.toNat (by omega), hseg, el] at hQ
           exact hQ)
      · refine z_L8I (pc' := 78) dL_step_76 rfl ?_
        refine z_bipush (pc' := 80) dL_step_78 rfl (by decide) ?_
        refine z_idiv (pc' := 81) dL_step_80 rfl (by omega) (by omega) ?_
        refine z_bipush (pc' := 83) dL_step_81 rfl (by decide) ?_
        refine z_irem (pc' := 84) dL_step_83 rfl (by omega) (by omega) ?_
        refine z_S5I (pc' := 86) rfl dL_step_84 rfl ?_
        refine z_iconst (pc' := 87) dL_step_86 rfl (by unfold zin; decide) ?_
        refine z_S7I (pc' := 89) rfl dL_step_87 rfl ?_
        refine z_goto (tgt := 95) dL_step_89 (by decide) ?_
        refine z_goto (tgt := 10) dL_step_95 (by decide) ?_
        first
        | (exfalso; omega)
        | (refine ih a _ (j + 1) _ _ ha0 ha1 (by omega) (by omega) (by omega) (by rw [hjn]; omega) (by omega) rfl rfl ?_
           rw [hE]
           congr 1
           rw [hjn]; omega)
        | (refine ih (cd (a * 10 + j) / 10 % 10) l 0 _ _ h99.1 (by omega) (by omega) (hv _ h99.1 (by omega)).1 hl0 (by show (0 : Int) + l < _; omega) (by omega) rfl rfl ?_
           rw [hE, hat l.toNat (by omega), hseg]
           show _ = (zsteps sz cd _).getD (0 + l.toNat) 0
           rw [Nat.zero_add])
    · refine z_L6I (pc' := 57) dL_step_55 rfl ?_
      refine z_L9I (pc' := 59) dL_step_57 rfl ?_
      refine z_isub (pc' := 60) dL_step_59 rfl (by unfold zin; omega) ?_
      refine z_S6I (pc' := 62) rfl dL_step_60 rfl ?_
      refine z_inc7 (pc' := 65) rfl dL_step_62 rfl (by unfold zin; omega) ?_
      refine z_goto (tgt := 95) dL_step_65 (by decide) ?_
      refine z_goto (tgt := 10) dL_step_95 (by decide) ?_
      first
      | (exfalso; omega)
      | (refine ih a _ (j + 1) _ _ ha0 ha1 (by omega) (by omega) (by omega) (by rw [hjn]; omega) (by omega) rfl rfl ?_
         rw [hE]
         congr 1
         rw [hjn]; omega)
      | (refine ih (cd (a * 10 + j) / 10 % 10) l 0 _ _ h99.1 (by omega) (by omega) (hv _ h99.1 (by omega)).1 hl0 (by show (0 : Int) + l < _; omega) (by omega) rfl rfl ?_
         rw [hE, hat l.toNat (by omega), hseg]
         show _ = (zsteps sz cd _).getD (0 + l.toNat) 0
         rw [Nat.zero_add])
  · have hb9 := hC (cd (a * 10 + j) / 10 % 10) (by omega) (by omega)
    have hl9 := congrArg List.length (hg.1 (by omega)).2.2
    have hseg := (hg.1 (by omega)).2.2
    have h99 := hg.1 (by omega)
    refine z_L2R (pc' := 30) dL_step_29 rfl ?_
    refine z_bipush (pc' := 32) dL_step_30 rfl (by decide) ?_
    refine z_L8I (pc' := 34) dL_step_32 rfl ?_
    refine z_bipush (pc' := 36) dL_step_34 rfl (by decide) ?_
    refine z_idiv (pc' := 37) dL_step_36 rfl (by omega) (by omega) ?_
    refine z_bipush (pc' := 39) dL_step_37 rfl (by decide) ?_
    refine z_irem (pc' := 40) dL_step_39 rfl (by omega) (by omega) ?_
    refine z_iadd (pc' := 41) dL_step_40 rfl (by unfold zin; omega) ?_
    refine z_ild (pc' := 42) dL_step_41 rfl hc (by omega) (by omega) ?_
    rw [hb9]
    refine z_goto (tgt := 46) dL_step_42 (by decide) ?_
    refine z_S9I (pc' := 48) rfl dL_step_46 rfl ?_
    refine z_L6I (pc' := 50) dL_step_48 rfl ?_
    refine z_L9I (pc' := 52) dL_step_50 rfl ?_
    refine z_icmp_lt (tgt := 68) (pc' := 55) dL_step_52 (by decide) rfl (fun h52 => ?_) (fun h52 => ?_)
    · refine z_L8I (pc' := 70) dL_step_68 rfl ?_
      refine z_sipush (pc' := 73) dL_step_70 rfl (by decide) ?_
      refine z_icmp_le (tgt := 92) (pc' := 76) dL_step_73 (by decide) rfl (fun h73 => ?_) (fun h73 => ?_)
      · refine z_L8I (pc' := 94) dL_step_92 rfl ?_
        refine z_ireturn rfl rfl dL_step_94 ?_
        first
        | (exfalso; omega)
        | (have el : l.toNat = 0 := by omega
           rw [hE, hat l.toNat (by omega), hseg, el] at hQ
           exact hQ)
      · refine z_L8I (pc' := 78) dL_step_76 rfl ?_
        refine z_bipush (pc' := 80) dL_step_78 rfl (by decide) ?_
        refine z_idiv (pc' := 81) dL_step_80 rfl (by omega) (by omega) ?_
        refine z_bipush (pc' := 83) dL_step_81 rfl (by decide) ?_
        refine z_irem (pc' := 84) dL_step_83 rfl (by omega) (by omega) ?_
        refine z_S5I (pc' := 86) rfl dL_step_84 rfl ?_
        refine z_iconst (pc' := 87) dL_step_86 rfl (by unfold zin; decide) ?_
        refine z_S7I (pc' := 89) rfl dL_step_87 rfl ?_
        refine z_goto (tgt := 95) dL_step_89 (by decide) ?_
        refine z_goto (tgt := 10) dL_step_95 (by decide) ?_
        first
        | (exfalso; omega)
        | (refine ih a _ (j + 1) _ _ ha0 ha1 (by omega) (by omega) (by omega) (by rw [hjn]; omega) (by omega) rfl rfl ?_
           rw [hE]
           congr 1
           rw [hjn]; omega)
        | (refine ih (cd (a * 10 + j) / 10 % 10) l 0 _ _ h99.1 (by omega) (by omega) (hv _ h99.1 (by omega)).1 hl0 (by show (0 : Int) + l < _; omega) (by omega) rfl rfl ?_
           rw [hE, hat l.toNat (by omega), hseg]
           show _ = (zsteps sz cd _).getD (0 + l.toNat) 0
           rw [Nat.zero_add])
    · refine z_L6I (pc' := 57) dL_step_55 rfl ?_
      refine z_L9I (pc' := 59) dL_step_57 rfl ?_
      refine z_isub (pc' := 60) dL_step_59 rfl (by unfold zin; omega) ?_
      refine z_S6I (pc' := 62) rfl dL_step_60 rfl ?_
      refine z_inc7 (pc' := 65) rfl dL_step_62 rfl (by unfold zin; omega) ?_
      refine z_goto (tgt := 95) dL_step_65 (by decide) ?_
      refine z_goto (tgt := 10) dL_step_95 (by decide) ?_
      first
      | (exfalso; omega)
      | (refine ih a _ (j + 1) _ _ ha0 ha1 (by omega) (by omega) (by omega) (by rw [hjn]; omega) (by omega) rfl rfl ?_
         rw [hE]
         congr 1
         rw [hjn]; omega)
      | (refine ih (cd (a * 10 + j) / 10 % 10) l 0 _ _ h99.1 (by omega) (by omega) (hv _ h99.1 (by omega)).1 hl0 (by show (0 : Int) + l < _; omega) (by omega) rfl rfl ?_
         rw [hE, hat l.toNat (by omega), hseg]
         show _ = (zsteps sz cd _).getD (0 + l.toNat) 0
         rw [Nat.zero_add])
end ZLC

