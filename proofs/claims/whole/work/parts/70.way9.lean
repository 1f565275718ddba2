section ZMPA
theorem zMQ_17 {y : Nat} {me me' : zMe} (h : ∀ a, a ≠ y + 17 → me' a = me a) : zMQ y me me' := by
  have hs : me' = zset me (y + 17) (me' (y + 17)) := by
    funext a
    by_cases e : a = y + 17
    · rw [e, zset_eq]
    · rw [zset_ne _ _ _ e]; exact h a e
  rw [hs]
  exact zMQ_s (by omega) (by omega) (by omega)
set_option maxRecDepth 100000 in
set_option maxHeartbeats 1000000 in
theorem m_shortest {d : Nat} {sp : zSP} {me : zMe} {Q : zQ} {y : Nat} {A : zAb} {B : Int} (hd : 10 ≤ d) (hy : zMod sp y) (hX : zMX me y A) (hI : zIA B A) (hQ : ∀ me' (v : Int), ((v = 0 ∧ zway (zE A) (qW A, qF A) = none) ∨ ∃ m c : Nat, v = (c : Int) ∧ m ≤ 4 ∧ 8 ^ m ≤ c ∧ c < 2 * 8 ^ m ∧ zway (zE A) (qW A, qF A) = some (zdg m c)) → zMX me' y A → zMF y me me' → Q (some (zI v)) sp me') : zCall mX9_shortest d 0 0 [zR y] sp me Q := by
  refine z_met kX9_shortest (by simp) (by simp) ?_
  show zW mX9_shortest d 0 0 Q 0 [zR y, zU, zU, zU] [] sp me
  have hIS := hI.1
  have hgA : zgR (qW A) (qF A) := hIS.1
  have hokA : zHok (qH A) := hIS.2.1
  have hpnA : qP A = zpn (qH A) := hIS.2.2.1
  have hvA : zfv (qS A) (qC A) := hIS.2.2.2.1
  have hlA : zlim (qS A) (qC A) := hIS.2.2.2.2.1
  have hRw : ∀ p, 0 ≤ p → p < 10 → me (y + 1) p = qW A p := hX.1.1
  have hRf : ∀ i, 0 ≤ i → i < 10 → me (y + 1) (10 + i) = qF A (zpl (qW A) i) := fun i a b => zMR_f hI.1 hX.1 a b
  have hRh : ∀ i, 0 ≤ i → i < 10 → me (y + 1) (20 + i) = qH A i := hX.1.2.2.1
  have hRs : ∀ k, 0 ≤ k → k < 8 → me (y + 1) (30 + 31 * k) = qS A k := fun k a b => (hX.1.2.2.2.1 k a b).1
  have hRc : ∀ k, 0 ≤ k → k < 8 → ∀ m, 0 ≤ m → m < qS A k → ∀ q, 0 ≤ q → q < 3 → me (y + 1) (30 + 31 * k + 1 + 3 * m + q) = zdig (qC A (k * 10 + m)) q := fun k a b => (hX.1.2.2.2.1 k a b).2
  refine z_L0R (pc' := 1) dX9_shortest_0 rfl ?_
  refine z_V00 (pc' := 4) (ci := 9) kX9_followAll lX9_188 dX9_shortest_1 rfl (by omega) (Nat.le_of_ble_eq_true rfl) (by decide) rfl hy.s ?_
  refine m_followAll (by omega) hy hvA hlA hRs hRc (fun me1 hU1 hG1 hf1 => zK0_i ?_)
  have hq := zMQ_f hf1
  have her : me1 (y + 1) = me (y + 1) := hf1 _ (by omega) (by omega) (by omega) (by omega) (by omega) (by omega)
  refine z_iconst (pc' := 5) dX9_shortest_4 rfl (by unfold zin; decide) ?_
  refine z_S1I (pc' := 6) rfl dX9_shortest_5 rfl ?_
  suffices H : ∀ (n m : Nat) (v2 v3 : zV) (me' : zMe), m ≤ 5 → 5 - m < n → zndv v2 = true → zndv v3 = true → (∀ a, a ≠ y + 17 → me' a = me1 a) → zway (zE A) (qW A, qF A) = zwy (zE A) (qW A, qF A) (5 - m) m → zW mX9_shortest d 0 0 Q 6 [zR y, zI (m : Int), v2, v3] [] sp me' by
    exact H 6 0 zU zU me1 (by omega) (by omega) rfl rfl (fun _ _ => rfl) rfl
  intro n
  induction n with
  | zero => intro m v2 v3 me' h0 h1; omega
  | succ n ih =>
  intro m v2 v3 me2 hm0 hm1 hv2 hv3 hF2 hz
  refine z_L1I (pc' := 7) dX9_shortest_6 rfl ?_
  refine z_iconst (pc' := 8) dX9_shortest_7 rfl (by unfold zin; decide) ?_
  refine z_icmp_gt (tgt := 77) (pc' := 11) dX9_shortest_8 (by decide) rfl (fun h8 => ?_) (fun h8 => ?_)
  · refine z_iconst (pc' := 78) dX9_shortest_77 rfl (by unfold zin; decide) ?_
    refine z_ireturn rfl rfl dX9_shortest_78 ?_
    obtain rfl : m = 5 := by omega
    have hq5 := hq.trans (zMQ_17 hF2)
    exact hQ me2 _ (Or.inl ⟨rfl, hz⟩) (hq5.mx hX) hq5.fr
  · have hm4 : m ≤ 4 := by omega
    have he8 := zpw8 hm4
    have hp8 := z8p m
    obtain ⟨P, hP⟩ : ∃ P, P = 8 ^ m := ⟨_, rfl⟩
    rw [← hP] at he8 hp8
    refine z_iconst (pc' := 12) dX9_shortest_11 rfl (by unfold zin; decide) ?_
    refine z_iconst (pc' := 13) dX9_shortest_12 rfl (by unfold zin; decide) ?_
    refine z_L1I (pc' := 14) dX9_shortest_13 rfl ?_
    refine z_imul (pc' := 15) dX9_shortest_14 rfl (by unfold zin; omega) ?_
    refine z_ishl (pc' := 16) dX9_shortest_15 rfl (by omega) (by omega) (by omega) (by rw [he8.1]; unfold zin; omega) ?_
    rw [he8.1, Int.one_mul]
    refine z_S2I (pc' := 17) rfl dX9_shortest_16 rfl ?_
    suffices H : ∀ (n2 x : Nat) (v3 : zV) (me' : zMe), x ≤ P → P - x < n2 → zndv v3 = true → (∀ a, a ≠ y + 17 → me' a = me1 a) → (∀ x', x' < x → zhb (zap (zE A) m (8 ^ m * 1 + x') (qW A, qF A)) ≠ true) → zW mX9_shortest d 0 0 Q 17 [zR y, zI (m : Int), zI ((P : Int) + (x : Int)), v3] [] sp me' by
      refine zW_to (H (P + 1) 0 v3 me2 (by omega) (by omega) hv3 hF2 (fun x' hx' => absurd hx' (Nat.not_lt_zero x'))) ?_ rfl rfl
      rw [show (P : Int) + ((0 : Nat) : Int) = (P : Int) by omega]
    intro n2
    induction n2 with
    | zero => intro x v3 me' h0 h1; omega
    | succ n2 ih2 =>
    intro x v3 me3 hx0 hx1 hv3 hF3 hno
    refine z_L2I (pc' := 18) dX9_shortest_17 rfl ?_
    refine z_iconst (pc' := 19) dX9_shortest_18 rfl (by unfold zin; decide) ?_
    refine z_iconst (pc' := 20) dX9_shortest_19 rfl (by unfold zin; decide) ?_
    refine z_L1I (pc' := 21) dX9_shortest_20 rfl ?_
    refine z_imul (pc' := 22) dX9_shortest_21 rfl (by unfold zin; omega) ?_
    refine z_ishl (pc' := 23) dX9_shortest_22 rfl (by omega) (by omega) (by omega) (by rw [he8.1]; unfold zin; omega) ?_
    rw [he8.1]
    refine z_icmp_ge (tgt := 71) (pc' := 26) dX9_shortest_23 (by decide) rfl (fun h23 => ?_) (fun h23 => ?_)
    · have hB := zapB m 1 (qW A, qF A) (fun x' hx' => hno x' (by omega))
      refine z_inc1 (pc' := 74) rfl dX9_shortest_71 rfl (by unfold zin; omega) ?_
      refine z_goto (tgt := 6) dX9_shortest_74 (by decide) ?_
      exact zW_to (ih (m + 1) _ _ me3 (by omega) (by omega) rfl hv3 hF3 (by
        rw [hz, show 5 - m = (5 - (m + 1)) + 1 by omega]
        exact zwy_n hB)) rfl rfl rfl
    · refine z_L0R (pc' := 27) dX9_shortest_26 rfl ?_
      refine z_V00 (pc' := 30) (ci := 9) kX9_begin lX9_210 dX9_shortest_27 rfl (by omega) (Nat.le_of_ble_eq_true rfl) (by decide) rfl hy.s ?_
      refine m_begin (w := qW A) (f := qF A) (by omega) hy hgA (by rw [hF3 (y + 1) (by omega), her]; exact hRw) (by rw [hF3 (y + 1) (by omega), her]; exact hRf) (fun me4 hN4 hf4 => zK0_i ?_)
      refine z_L1I (pc' := 31) dX9_shortest_30 rfl ?_
      refine z_iconst (pc' := 32) dX9_shortest_31 rfl (by unfold zin; decide) ?_
      refine z_isub (pc' := 33) dX9_shortest_32 rfl (by unfold zin; omega) ?_
      refine z_S3I (pc' := 34) rfl dX9_shortest_33 rfl ?_
      suffices H : ∀ (n3 j : Nat) (Rc : zRg) (me' : zMe), j ≤ m → j < n3 → zgR Rc.1 Rc.2 → zNw me' y Rc → (∀ a, a ≠ y + 17 → me' a = me1 a) → zap (zE A) j (P + x) Rc = zap (zE A) m (P + x) (qW A, qF A) → zW mX9_shortest d 0 0 Q 34 [zR y, zI (m : Int), zI ((P : Int) + (x : Int)), zI ((j : Int) - 1)] [] sp me' by
        exact H (m + 1) m (qW A, qF A) me4 (by omega) (by omega) hgA hN4 (fun a ha => by rw [hf4 a ha]; exact hF3 a ha) rfl
      intro n3
      induction n3 with
      | zero => intro j Rc me' h0 h1; omega
      | succ n3 ih3 =>
      intro j Rc me5 hj0 hj1 hgc hN5 hF5 hap
      refine z_L3I (pc' := 35) dX9_shortest_34 rfl ?_
      refine z_if_lt (tgt := 56) (pc' := 38) dX9_shortest_35 (by decide) rfl (fun h35 => ?_) (fun h35 => ?_)
      · obtain rfl : j = 0 := by omega
        have hap3 : Rc = zap (zE A) m (8 ^ m * 1 + x) (qW A, qF A) := by
          rw [Nat.mul_one, ← hP]; exact hap
        refine z_L0R (pc' := 57) dX9_shortest_56 rfl ?_
        refine z_V0v (pc' := 60) (ci := 9) kX9_isHome lX9_213 dX9_shortest_57 rfl (by omega) (Nat.le_of_ble_eq_true rfl) (by decide) rfl hy.s ?_
        refine m_isHome hy hgc hN5 (fun b hb => zKv_i ?_)
        refine z_if_eq (tgt := 65) (pc' := 63) dX9_shortest_60 (by decide) rfl (fun h60 => ?_) (fun h60 => ?_)
        · have hnh := (hb.resolve_left (fun z => by omega)).2
          rw [hap3] at hnh
          refine z_inc2 (pc' := 68) rfl dX9_shortest_65 rfl (by unfold zin; omega) ?_
          refine z_goto (tgt := 17) dX9_shortest_68 (by decide) ?_
          exact zW_to (ih2 (x + 1) _ me5 (by omega) (by omega) rfl hF5 (fun x' hx' => by
            by_cases e : x' = x
            · subst e; exact hnh
            · exact hno x' (by omega))) (by rw [show (P : Int) + (x : Int) + 1 = (P : Int) + ((x + 1 : Nat) : Int) by omega]) rfl rfl
        · refine z_L2I (pc' := 64) dX9_shortest_63 rfl ?_
          refine z_ireturn rfl rfl dX9_shortest_64 ?_
          have hhm := (hb.resolve_right (fun z => h60 z.1)).2
          rw [hap3] at hhm
          have hA := zapA m 1 x (qW A, qF A) (by omega) hhm hno
          have hq5 := hq.trans (zMQ_17 hF5)
          refine hQ me5 _ (Or.inr ⟨m, 8 ^ m * 1 + x, by rw [Nat.mul_one, ← hP]; rfl, hm4, by omega, by omega, ?_⟩) (hq5.mx hX) hq5.fr
          rw [hz, show 5 - m = (4 - m) + 1 by omega]
          exact zwy_s hA
      · obtain ⟨j', rfl⟩ : ∃ j', j = j' + 1 := ⟨j - 1, by omega⟩
        have hj8 := zpw8 (m := j') (by omega)
        refine z_L0R (pc' := 39) dX9_shortest_38 rfl ?_
        refine z_L2I (pc' := 40) dX9_shortest_39 rfl ?_
        refine z_iconst (pc' := 41) dX9_shortest_40 rfl (by unfold zin; decide) ?_
        refine z_L3I (pc' := 42) dX9_shortest_41 rfl ?_
        refine z_imul (pc' := 43) dX9_shortest_42 rfl (by unfold zin; omega) ?_
        refine z_ishr (pc' := 44) dX9_shortest_43 rfl (by omega) (by omega) (by omega) ?_
        refine z_bipush (pc' := 46) dX9_shortest_44 rfl (by decide) ?_
        refine z_iand (pc' := 47) dX9_shortest_46 rfl ?_
        refine z_V10 (pc' := 50) (ci := 9) kX9_apply lX9_216 dX9_shortest_47 rfl (by omega) (Nat.le_of_ble_eq_true rfl) (by decide) rfl hy.s ?_
        rw [zcd (c := P + x) (j := j') (by omega) (by omega) (k := ((j' + 1 : Nat) : Int) - 1) (v := (P : Int) + (x : Int)) (by omega) (by omega)]
        have hdl : (P + x) / 8 ^ j' % 8 < 8 := Nat.mod_lt _ (by decide)
        have hap2 : zap (zE A) j' (P + x) (zact Rc (zE A (((P + x) / 8 ^ j' % 8 : Nat) : Int))) = zap (zE A) m (P + x) (qW A, qF A) := hap
        revert hdl hap2
        generalize (P + x) / 8 ^ j' % 8 = dg
        intro hdl hap2
        have hgd := zgR_E hI (show (0 : Int) ≤ (dg : Int) by omega) (show (dg : Int) < 8 by omega)
        refine m_apply hy (by omega) (by omega) hgc hgd hN5 (zGk_congr (fun p p0 p1 => by rw [hF5 _ (by omega)]) (fun p p0 p1 => by rw [hF5 _ (by omega)]) (hG1 (dg : Int) (by omega) (by omega))) (fun me6 hN6 hf6 => zK0_i ?_)
        refine z_inc3 (pc' := 53) rfl dX9_shortest_50 rfl (by unfold zin; omega) ?_
        refine z_goto (tgt := 34) dX9_shortest_53 (by decide) ?_
        refine zW_to (ih3 j' _ me6 (by omega) (by omega) (zgR_act2 hgc hgd) hN6 (fun a ha => by rw [hf6 a ha]; exact hF5 a ha) hap2) ?_ rfl rfl
        rw [show ((j' + 1 : Nat) : Int) - 1 + -1 = (j' : Int) - 1 by omega]
set_option maxRecDepth 100000 in
set_option maxHeartbeats 1000000 in
theorem y_wayHome {d : Nat} {sp : zSP} {me : zMe} {Q : zQ} {y : Nat} {A : zAb} {B q : Int} (hd : 20 ≤ d) (hy : zMod sp y) (hX : zMX me y A) (hI : zIA B A) (hQ : ∀ me', zMX me' y A → zMF y me me' → Q (some (zI (zoWay A q))) sp me') : zCall mX9_wayHome d 0 0 [zR y, zI q] sp me Q := by
  refine z_met kX9_wayHome (by simp) (by simp) ?_
  show zW mX9_wayHome d 0 0 Q 0 [zR y, zI q, zU, zU] [] sp me
  unfold zoWay at hQ
  refine z_L1I (pc' := 1) dX9_wayHome_0 rfl ?_
  refine z_iconst (pc' := 2) dX9_wayHome_1 rfl (by unfold zin; decide) ?_
  refine z_iconst (pc' := 3) dX9_wayHome_2 rfl (by unfold zin; decide) ?_
  refine z_S3v (pc' := 6) kX9_in lX9_62 dX9_wayHome_3 rfl (by omega) (Nat.le_of_ble_eq_true rfl) ?_
  refine m_in2 (fun b hb => zKv_i ?_)
  refine z_if_ne (tgt := 12) (pc' := 9) dX9_wayHome_6 (by decide) rfl (fun h6 => ?_) (fun h6 => ?_)
  · rw [zif_neg (by omega)] at hQ
    refine z_L0R (pc' := 13) dX9_wayHome_12 rfl ?_
    refine z_V0v (pc' := 16) (ci := 9) kX9_shortest lX9_219 dX9_wayHome_13 rfl (by omega) (Nat.le_of_ble_eq_true rfl) (by decide) rfl hy.s ?_
    refine m_shortest (by omega) hy hX hI (fun me1 v hv hX1 hF1 => zKv_i ?_)
    have hQ1 := hQ me1 hX1 hF1
    have hLd : (v = 0 ∧ zwlen (zway (zE A) (qW A, qF A)) = -5) ∨ (zwlen (zway (zE A) (qW A, qF A)) = 0 ∧ 1 ≤ v ∧ v < 2) ∨ (zwlen (zway (zE A) (qW A, qF A)) = 1 ∧ 8 ≤ v ∧ v < 16) ∨ (zwlen (zway (zE A) (qW A, qF A)) = 2 ∧ 64 ≤ v ∧ v < 128) ∨ (zwlen (zway (zE A) (qW A, qF A)) = 3 ∧ 512 ≤ v ∧ v < 1024) ∨ (zwlen (zway (zE A) (qW A, qF A)) = 4 ∧ 4096 ≤ v ∧ v < 8192) := by
      rcases hv with ⟨h1, h2⟩ | ⟨m, c, h1, h2, h3, h4, h5⟩
      · rw [h2]; exact Or.inl ⟨h1, rfl⟩
      · rw [h5]
        have el : zwlen (some (zdg m c)) = (m : Int) := by
          show ((zdg m c).length : Int) = (m : Int)
          rw [zdg_len]
        rw [el]
        have e : m = 0 ∨ m = 1 ∨ m = 2 ∨ m = 3 ∨ m = 4 := by omega
        rcases e with e | e | e | e | e <;> subst e <;> omega
    have hdig : 1 ≤ q → q ≤ zwlen (zway (zE A) (qW A, qF A)) → zand (v / 2 ^ (3 * (zwlen (zway (zE A) (qW A, qF A)) - q)).toNat) 7 = zwat (zway (zE A) (qW A, qF A)) (q - 1).toNat := by
      intro q0 q1
      rcases hv with ⟨h1, h2⟩ | ⟨m, c, h1, h2, h3, h4, h5⟩
      · rw [h2] at q1
        have : zwlen none = -5 := rfl
        omega
      · rw [h5] at q1 ⊢
        have el : zwlen (some (zdg m c)) = (m : Int) := by
          show ((zdg m c).length : Int) = (m : Int)
          rw [zdg_len]
        rw [el] at q1 ⊢
        have hm8 := (zpw8 h2).2
        rw [zcd (c := c) (j := m - q.toNat) (by omega) (by omega) (k := (m : Int) - q) (v := v) (by omega) h1]
        show _ = (zdg m c).getD (q - 1).toNat 0
        rw [zdg_get m c _ (by omega), show m - 1 - (q - 1).toNat = m - q.toNat by omega]
    revert hQ1 hLd hdig
    generalize zwlen (zway (zE A) (qW A, qF A)) = LL
    intro hQ1 hLd hdig
    have key0 : q = 0 → ∀ M, LL = M → Q (some (zI M)) sp me1 := fun e M hM => by
      rw [zif_pos e, hM] at hQ1; exact hQ1
    have keyN : q ≠ 0 → ¬ q ≤ LL → Q (some (zI (-5))) sp me1 := fun e1 e2 => by
      rw [zif_neg e1, zif_neg e2] at hQ1; exact hQ1
    have keyD : 1 ≤ q → q ≤ LL → ∀ M, LL = M → Q (some (zI (zand (v / 2 ^ (3 * (M - q)).toNat) 7))) sp me1 := fun e1 e2 M hM => by
      rw [zif_neg (by omega), zif_pos e2, ← hdig e1 e2, hM] at hQ1; exact hQ1
    clear hQ1 hdig hv
    refine z_S2I (pc' := 17) rfl dX9_wayHome_16 rfl ?_
    refine z_L2I (pc' := 18) dX9_wayHome_17 rfl ?_
    refine z_if_ne (tgt := 26) (pc' := 21) dX9_wayHome_18 (by decide) rfl (fun h18 => ?_) (fun h18 => ?_)
    · refine z_L2I (pc' := 27) dX9_wayHome_26 rfl ?_
      refine z_bipush (pc' := 29) dX9_wayHome_27 rfl (by decide) ?_
      refine z_icmp_ge (tgt := 36) (pc' := 32) dX9_wayHome_29 (by decide) rfl (fun h29 => ?_) (fun h29 => ?_)
      · refine z_L2I (pc' := 37) dX9_wayHome_36 rfl ?_
        refine z_bipush (pc' := 39) dX9_wayHome_37 rfl (by decide) ?_
        refine z_icmp_ge (tgt := 46) (pc' := 42) dX9_wayHome_39 (by decide) rfl (fun h39 => ?_) (fun h39 => ?_)
        · refine z_L2I (pc' := 47) dX9_wayHome_46 rfl ?_
          refine z_sipush (pc' := 50) dX9_wayHome_47 rfl (by decide) ?_
          refine z_icmp_ge (tgt := 57) (pc' := 53) dX9_wayHome_50 (by decide) rfl (fun h50 => ?_) (fun h50 => ?_)
          · refine z_L2I (pc' := 58) dX9_wayHome_57 rfl ?_
            refine z_sipush (pc' := 61) dX9_wayHome_58 rfl (by decide) ?_
            refine z_icmp_ge (tgt := 68) (pc' := 64) dX9_wayHome_61 (by decide) rfl (fun h61 => ?_) (fun h61 => ?_)
            · refine z_iconst (pc' := 69) dX9_wayHome_68 rfl (by unfold zin; decide) ?_
              refine z_S3I (pc' := 70) rfl dX9_wayHome_69 rfl ?_
              refine z_L1I (pc' := 71) dX9_wayHome_70 rfl ?_
              refine z_if_ne (tgt := 78) (pc' := 74) dX9_wayHome_71 (by decide) rfl (fun h71 => ?_) (fun h71 => ?_)
              · refine z_L1I (pc' := 79) dX9_wayHome_78 rfl ?_
                refine z_L3I (pc' := 80) dX9_wayHome_79 rfl ?_
                refine z_icmp_le (tgt := 88) (pc' := 83) dX9_wayHome_80 (by decide) rfl (fun h80 => ?_) (fun h80 => ?_)
                · have hq1 : 1 ≤ q := by omega
                  refine z_L2I (pc' := 89) dX9_wayHome_88 rfl ?_
                  refine z_iconst (pc' := 90) dX9_wayHome_89 rfl (by unfold zin; decide) ?_
                  refine z_L3I (pc' := 91) dX9_wayHome_90 rfl ?_
                  refine z_L1I (pc' := 92) dX9_wayHome_91 rfl ?_
                  refine z_isub (pc' := 93) dX9_wayHome_92 rfl (by unfold zin; omega) ?_
                  refine z_imul (pc' := 94) dX9_wayHome_93 rfl (by unfold zin; omega) ?_
                  refine z_ishr (pc' := 95) dX9_wayHome_94 rfl (by omega) (by omega) (by omega) ?_
                  refine z_bipush (pc' := 97) dX9_wayHome_95 rfl (by decide) ?_
                  refine z_iand (pc' := 98) dX9_wayHome_97 rfl ?_
                  refine z_ireturn rfl rfl dX9_wayHome_98 ?_
                  exact keyD (by omega) (by omega) _ (by omega)
                · refine z_bipush (pc' := 85) dX9_wayHome_83 rfl (by decide) ?_
                  refine z_goto (tgt := 98) dX9_wayHome_85 (by decide) ?_
                  refine z_ireturn rfl rfl dX9_wayHome_98 ?_
                  exact keyN (by omega) (by omega)
              · refine z_L3I (pc' := 75) dX9_wayHome_74 rfl ?_
                refine z_goto (tgt := 98) dX9_wayHome_75 (by decide) ?_
                refine z_ireturn rfl rfl dX9_wayHome_98 ?_
                exact key0 (by omega) _ (by omega)
            · refine z_iconst (pc' := 65) dX9_wayHome_64 rfl (by unfold zin; decide) ?_
              refine z_goto (tgt := 69) dX9_wayHome_65 (by decide) ?_
              refine z_S3I (pc' := 70) rfl dX9_wayHome_69 rfl ?_
              refine z_L1I (pc' := 71) dX9_wayHome_70 rfl ?_
              refine z_if_ne (tgt := 78) (pc' := 74) dX9_wayHome_71 (by decide) rfl (fun h71 => ?_) (fun h71 => ?_)
              · refine z_L1I (pc' := 79) dX9_wayHome_78 rfl ?_
                refine z_L3I (pc' := 80) dX9_wayHome_79 rfl ?_
                refine z_icmp_le (tgt := 88) (pc' := 83) dX9_wayHome_80 (by decide) rfl (fun h80 => ?_) (fun h80 => ?_)
                · have hq1 : 1 ≤ q := by omega
                  refine z_L2I (pc' := 89) dX9_wayHome_88 rfl ?_
                  refine z_iconst (pc' := 90) dX9_wayHome_89 rfl (by unfold zin; decide) ?_
                  refine z_L3I (pc' := 91) dX9_wayHome_90 rfl ?_
                  refine z_L1I (pc' := 92) dX9_wayHome_91 rfl ?_
                  refine z_isub (pc' := 93) dX9_wayHome_92 rfl (by unfold zin; omega) ?_
                  refine z_imul (pc' := 94) dX9_wayHome_93 rfl (by unfold zin; omega) ?_
                  refine z_ishr (pc' := 95) dX9_wayHome_94 rfl (by omega) (by omega) (by omega) ?_
                  refine z_bipush (pc' := 97) dX9_wayHome_95 rfl (by decide) ?_
                  refine z_iand (pc' := 98) dX9_wayHome_97 rfl ?_
                  refine z_ireturn rfl rfl dX9_wayHome_98 ?_
                  exact keyD (by omega) (by omega) _ (by omega)
                · refine z_bipush (pc' := 85) dX9_wayHome_83 rfl (by decide) ?_
                  refine z_goto (tgt := 98) dX9_wayHome_85 (by decide) ?_
                  refine z_ireturn rfl rfl dX9_wayHome_98 ?_
                  exact keyN (by omega) (by omega)
              · refine z_L3I (pc' := 75) dX9_wayHome_74 rfl ?_
                refine z_goto (tgt := 98) dX9_wayHome_75 (by decide) ?_
                refine z_ireturn rfl rfl dX9_wayHome_98 ?_
                exact key0 (by omega) _ (by omega)
          · refine z_iconst (pc' := 54) dX9_wayHome_53 rfl (by unfold zin; decide) ?_
            refine z_goto (tgt := 69) dX9_wayHome_54 (by decide) ?_
            refine z_S3I (pc' := 70) rfl dX9_wayHome_69 rfl ?_
            refine z_L1I (pc' := 71) dX9_wayHome_70 rfl ?_
            refine z_if_ne (tgt := 78) (pc' := 74) dX9_wayHome_71 (by decide) rfl (fun h71 => ?_) (fun h71 => ?_)
            · refine z_L1I (pc' := 79) dX9_wayHome_78 rfl ?_
              refine z_L3I (pc' := 80) dX9_wayHome_79 rfl ?_
              refine z_icmp_le (tgt := 88) (pc' := 83) dX9_wayHome_80 (by decide) rfl (fun h80 => ?_) (fun h80 => ?_)
              · have hq1 : 1 ≤ q := by omega
                refine z_L2I (pc' := 89) dX9_wayHome_88 rfl ?_
                refine z_iconst (pc' := 90) dX9_wayHome_89 rfl (by unfold zin; decide) ?_
                refine z_L3I (pc' := 91) dX9_wayHome_90 rfl ?_
                refine z_L1I (pc' := 92) dX9_wayHome_91 rfl ?_
                refine z_isub (pc' := 93) dX9_wayHome_92 rfl (by unfold zin; omega) ?_
                refine z_imul (pc' := 94) dX9_wayHome_93 rfl (by unfold zin; omega) ?_
                refine z_ishr (pc' := 95) dX9_wayHome_94 rfl (by omega) (by omega) (by omega) ?_
                refine z_bipush (pc' := 97) dX9_wayHome_95 rfl (by decide) ?_
                refine z_iand (pc' := 98) dX9_wayHome_97 rfl ?_
                refine z_ireturn rfl rfl dX9_wayHome_98 ?_
                exact keyD (by omega) (by omega) _ (by omega)
              · refine z_bipush (pc' := 85) dX9_wayHome_83 rfl (by decide) ?_
                refine z_goto (tgt := 98) dX9_wayHome_85 (by decide) ?_
                refine z_ireturn rfl rfl dX9_wayHome_98 ?_
                exact keyN (by omega) (by omega)
            · refine z_L3I (pc' := 75) dX9_wayHome_74 rfl ?_
              refine z_goto (tgt := 98) dX9_wayHome_75 (by decide) ?_
              refine z_ireturn rfl rfl dX9_wayHome_98 ?_
              exact key0 (by omega) _ (by omega)
        · refine z_iconst (pc' := 43) dX9_wayHome_42 rfl (by unfold zin; decide) ?_
          refine z_goto (tgt := 69) dX9_wayHome_43 (by decide) ?_
          refine z_S3I (pc' := 70) rfl dX9_wayHome_69 rfl ?_
          refine z_L1I (pc' := 71) dX9_wayHome_70 rfl ?_
          refine z_if_ne (tgt := 78) (pc' := 74) dX9_wayHome_71 (by decide) rfl (fun h71 => ?_) (fun h71 => ?_)
          · refine z_L1I (pc' := 79) dX9_wayHome_78 rfl ?_
            refine z_L3I (pc' := 80) dX9_wayHome_79 rfl ?_
            refine z_icmp_le (tgt := 88) (pc' := 83) dX9_wayHome_80 (by decide) rfl (fun h80 => ?_) (fun h80 => ?_)
            · have hq1 : 1 ≤ q := by omega
              refine z_L2I (pc' := 89) dX9_wayHome_88 rfl ?_
              refine z_iconst (pc' := 90) dX9_wayHome_89 rfl (by unfold zin; decide) ?_
              refine z_L3I (pc' := 91) dX9_wayHome_90 rfl ?_
              refine z_L1I (pc' := 92) dX9_wayHome_91 rfl ?_
              refine z_isub (pc' := 93) dX9_wayHome_92 rfl (by unfold zin; omega) ?_
              refine z_imul (pc' := 94) dX9_wayHome_93 rfl (by unfold zin; omega) ?_
              refine z_ishr (pc' := 95) dX9_wayHome_94 rfl (by omega) (by omega) (by omega) ?_
              refine z_bipush (pc' := 97) dX9_wayHome_95 rfl (by decide) ?_
              refine z_iand (pc' := 98) dX9_wayHome_97 rfl ?_
              refine z_ireturn rfl rfl dX9_wayHome_98 ?_
              exact keyD (by omega) (by omega) _ (by omega)
            · refine z_bipush (pc' := 85) dX9_wayHome_83 rfl (by decide) ?_
              refine z_goto (tgt := 98) dX9_wayHome_85 (by decide) ?_
              refine z_ireturn rfl rfl dX9_wayHome_98 ?_
              exact keyN (by omega) (by omega)
          · refine z_L3I (pc' := 75) dX9_wayHome_74 rfl ?_
            refine z_goto (tgt := 98) dX9_wayHome_75 (by decide) ?_
            refine z_ireturn rfl rfl dX9_wayHome_98 ?_
            exact key0 (by omega) _ (by omega)
      · refine z_iconst (pc' := 33) dX9_wayHome_32 rfl (by unfold zin; decide) ?_
        refine z_goto (tgt := 69) dX9_wayHome_33 (by decide) ?_
        refine z_S3I (pc' := 70) rfl dX9_wayHome_69 rfl ?_
        refine z_L1I (pc' := 71) dX9_wayHome_70 rfl ?_
        refine z_if_ne (tgt := 78) (pc' := 74) dX9_wayHome_71 (by decide) rfl (fun h71 => ?_) (fun h71 => ?_)
        · refine z_L1I (pc' := 79) dX9_wayHome_78 rfl ?_
          refine z_L3I (pc' := 80) dX9_wayHome_79 rfl ?_
          refine z_icmp_le (tgt := 88) (pc' := 83) dX9_wayHome_80 (by decide) rfl (fun h80 => ?_) (fun h80 => ?_)
          · have hq1 : 1 ≤ q := by omega
            refine z_L2I (pc' := 89) dX9_wayHome_88 rfl ?_
            refine z_iconst (pc' := 90) dX9_wayHome_89 rfl (by unfold zin; decide) ?_
            refine z_L3I (pc' := 91) dX9_wayHome_90 rfl ?_
            refine z_L1I (pc' := 92) dX9_wayHome_91 rfl ?_
            refine z_isub (pc' := 93) dX9_wayHome_92 rfl (by unfold zin; omega) ?_
            refine z_imul (pc' := 94) dX9_wayHome_93 rfl (by unfold zin; omega) ?_
            refine z_ishr (pc' := 95) dX9_wayHome_94 rfl (by omega) (by omega) (by omega) ?_
            refine z_bipush (pc' := 97) dX9_wayHome_95 rfl (by decide) ?_
            refine z_iand (pc' := 98) dX9_wayHome_97 rfl ?_
            refine z_ireturn rfl rfl dX9_wayHome_98 ?_
            exact keyD (by omega) (by omega) _ (by omega)
          · refine z_bipush (pc' := 85) dX9_wayHome_83 rfl (by decide) ?_
            refine z_goto (tgt := 98) dX9_wayHome_85 (by decide) ?_
            refine z_ireturn rfl rfl dX9_wayHome_98 ?_
            exact keyN (by omega) (by omega)
        · refine z_L3I (pc' := 75) dX9_wayHome_74 rfl ?_
          refine z_goto (tgt := 98) dX9_wayHome_75 (by decide) ?_
          refine z_ireturn rfl rfl dX9_wayHome_98 ?_
          exact key0 (by omega) _ (by omega)
    · refine z_bipush (pc' := 23) dX9_wayHome_21 rfl (by decide) ?_
      refine z_goto (tgt := 69) dX9_wayHome_23 (by decide) ?_
      refine z_S3I (pc' := 70) rfl dX9_wayHome_69 rfl ?_
      refine z_L1I (pc' := 71) dX9_wayHome_70 rfl ?_
      refine z_if_ne (tgt := 78) (pc' := 74) dX9_wayHome_71 (by decide) rfl (fun h71 => ?_) (fun h71 => ?_)
      · refine z_L1I (pc' := 79) dX9_wayHome_78 rfl ?_
        refine z_L3I (pc' := 80) dX9_wayHome_79 rfl ?_
        refine z_icmp_le (tgt := 88) (pc' := 83) dX9_wayHome_80 (by decide) rfl (fun h80 => ?_) (fun h80 => ?_)
        · have hq1 : 1 ≤ q := by omega
          refine z_L2I (pc' := 89) dX9_wayHome_88 rfl ?_
          refine z_iconst (pc' := 90) dX9_wayHome_89 rfl (by unfold zin; decide) ?_
          refine z_L3I (pc' := 91) dX9_wayHome_90 rfl ?_
          refine z_L1I (pc' := 92) dX9_wayHome_91 rfl ?_
          refine z_isub (pc' := 93) dX9_wayHome_92 rfl (by unfold zin; omega) ?_
          refine z_imul (pc' := 94) dX9_wayHome_93 rfl (by unfold zin; omega) ?_
          refine z_ishr (pc' := 95) dX9_wayHome_94 rfl (by omega) (by omega) (by omega) ?_
          refine z_bipush (pc' := 97) dX9_wayHome_95 rfl (by decide) ?_
          refine z_iand (pc' := 98) dX9_wayHome_97 rfl ?_
          refine z_ireturn rfl rfl dX9_wayHome_98 ?_
          exact keyD (by omega) (by omega) _ (by omega)
        · refine z_bipush (pc' := 85) dX9_wayHome_83 rfl (by decide) ?_
          refine z_goto (tgt := 98) dX9_wayHome_85 (by decide) ?_
          refine z_ireturn rfl rfl dX9_wayHome_98 ?_
          exact keyN (by omega) (by omega)
      · refine z_L3I (pc' := 75) dX9_wayHome_74 rfl ?_
        refine z_goto (tgt := 98) dX9_wayHome_75 (by decide) ?_
        refine z_ireturn rfl rfl dX9_wayHome_98 ?_
        exact key0 (by omega) _ (by omega)
  · refine z_bipush (pc' := 11) dX9_wayHome_9 rfl (by decide) ?_
    refine z_ireturn rfl rfl dX9_wayHome_11 ?_
    rw [zif_pos (by omega)] at hQ
    exact hQ me hX zMF.rf
end ZMPA

