section ZMOX
theorem zor_0 {s : Nat} (hs : s < 256) : zor (s : Int) 0 = (s : Int) := by
  rw [show (0 : Int) = ((0 : Nat) : Int) from rfl, zor_n hs (by decide), Nat.or_zero]
theorem zdig1 (c : Int) : zdig c 1 = c / 10 % 10 := rfl
set_option maxRecDepth 100000 in
set_option maxHeartbeats 1000000 in
theorem m_calledBy {d : Nat} {sp : zSP} {me : zMe} {Q : zQ} {y : Nat} {f : Int} {sz cd : Int → Int} (hd : 1 ≤ d) (hy : zMod sp y) (hv : zfv sz cd) (hf0 : 0 ≤ f) (hf1 : f < 8) (hRs : ∀ k, 0 ≤ k → k < 8 → me (y + 1) (30 + 31 * k) = sz k) (hRc : ∀ k, 0 ≤ k → k < 8 → ∀ m, 0 ≤ m → m < sz k → ∀ q, 0 ≤ q → q < 3 → me (y + 1) (30 + 31 * k + 1 + 3 * m + q) = zdig (cd (k * 10 + m)) q) (hQ : Q (some (zI (zcm sz cd f))) sp me) : zCall mX9_calledBy d 0 0 [zR y, zI f] sp me Q := by
  refine z_met kX9_calledBy (by simp) (by simp) ?_
  show zW mX9_calledBy d 0 0 Q 0 [zR y, zI f, zU, zU, zU] [] sp me
  refine z_iconst (pc' := 1) dX9_calledBy_0 rfl (by unfold zin; decide) ?_
  refine z_S2I (pc' := 2) rfl dX9_calledBy_1 rfl ?_
  refine z_L1I (pc' := 3) dX9_calledBy_2 rfl ?_
  refine z_S3I (pc' := 4) rfl dX9_calledBy_3 rfl ?_
  suffices H : ∀ (n : Nat) (k : Int) (s : Nat) (v : zV), -1 ≤ k → k ≤ f → k + 1 < n → zndv v = true → s < 256 → (∀ i : Nat, s.testBit i = true → (zcm sz cd f).toNat.testBit i = true) → (∀ r, k < r → r < 8 → (r = f ∨ s.testBit r.toNat = true) → ∀ a, zcal cd r (sz r).toNat a → s.testBit a.toNat = true) → zW mX9_calledBy d 0 0 Q 4 [zR y, zI f, zI (s : Int), zI k, v] [] sp me by
    exact H 9 f 0 zU (by omega) (by omega) (by omega) rfl (by decide) (fun i hi => by rw [Nat.zero_testBit] at hi; cases hi) (fun r r0 r1 hr a ha => by
      rcases hr with hr | hr
      · omega
      · rw [Nat.zero_testBit] at hr; cases hr)
  intro n
  induction n with
  | zero => intro k s v h0 h1 h2; omega
  | succ n ih =>
  intro k s0 v hk0 hk1 hk2 hv4 hs0 hsub0 hcl0
  refine z_L3I (pc' := 5) dX9_calledBy_4 rfl ?_
  refine z_if_lt (tgt := 76) (pc' := 8) dX9_calledBy_5 (by decide) rfl (fun h5 => ?_) (fun h5 => ?_)
  · refine z_L2I (pc' := 77) dX9_calledBy_76 rfl ?_
    refine z_ireturn rfl rfl dX9_calledBy_77 ?_
    have e : (zcm sz cd f).toNat = s0 := Nat.eq_of_testBit_eq (fun i => by
      have h1 := hsub0 i
      have h2 := zcm_sub hv (f := f) (s := s0) (fun r r0 r1 => hcl0 r (by omega) r1) 8 f hf0 hf1 (by omega) (Or.inl rfl) i
      exact Bool.eq_iff_iff.2 ⟨h2, h1⟩)
    rw [(zcm_b hv hf0 hf1).2.1, e] at hQ
    exact hQ
  · have hvk := hv k (by omega) (by omega)
    refine z_iconst (pc' := 9) dX9_calledBy_8 rfl (by unfold zin; decide) ?_
    refine z_S4I (pc' := 11) rfl dX9_calledBy_9 rfl ?_
    suffices H : ∀ (n2 m s : Nat), (m : Int) ≤ sz k → sz k - m < n2 → s < 256 → (∀ i : Nat, s.testBit i = true → (zcm sz cd f).toNat.testBit i = true) → (∀ r, k < r → r < 8 → (r = f ∨ s.testBit r.toNat = true) → ∀ a, zcal cd r (sz r).toNat a → s.testBit a.toNat = true) → (∀ a, zcal cd k m a → s.testBit a.toNat = true) → zW mX9_calledBy d 0 0 Q 11 [zR y, zI f, zI (s : Int), zI k, zI (m : Int)] [] sp me by
      exact H 11 0 s0 (by omega) (by omega) hs0 hsub0 hcl0 (fun a ⟨m, hm, _⟩ => absurd hm (Nat.not_lt_zero m))
    intro n2
    induction n2 with
    | zero => intro m s h1 h2; omega
    | succ n2 ih2 =>
    intro m s hm0 hm1 hs hsub hcl hcal
    refine z_L4I (pc' := 13) dX9_calledBy_11 rfl ?_
    refine z_L0R (pc' := 14) dX9_calledBy_13 rfl ?_
    refine z_L3I (pc' := 15) dX9_calledBy_14 rfl ?_
    refine z_V1v (pc' := 18) (ci := 9) kX9_moves lX9_81 dX9_calledBy_15 rfl (by omega) (Nat.le_of_ble_eq_true rfl) (by decide) rfl hy.s ?_
    refine m_moves hy (by omega) (by omega) (zKv_i ?_)
    rw [hRs k (by omega) (by omega)]
    refine z_icmp_ge (tgt := 70) (pc' := 21) dX9_calledBy_18 (by decide) rfl (fun h18 => ?_) (fun h18 => ?_)
    · have hclk : ∀ r, k + -1 < r → r < 8 → (r = f ∨ s.testBit r.toNat = true) → ∀ a, zcal cd r (sz r).toNat a → s.testBit a.toNat = true := by
        intro r r0 r1 hr a ha
        by_cases e : r = k
        · subst e
          first
          | (exfalso
             rcases hr with hr | hr
             · exact h23 hr
             · rw [hsh, if_pos hr] at h32; exact absurd rfl h32)
          | (have em : (sz r).toNat = m := by omega
             rw [em] at ha
             exact hcal a ha)
        · exact hcl r (by omega) r1 hr a ha
      refine z_inc3 (pc' := 73) rfl dX9_calledBy_70 rfl (by unfold zin; omega) ?_
      refine z_goto (tgt := 4) dX9_calledBy_73 (by decide) ?_
      exact ih (k + -1) s _ (by omega) (by omega) (by omega) rfl hs hsub hclk
    · refine z_L3I (pc' := 22) dX9_calledBy_21 rfl ?_
      refine z_L1I (pc' := 23) dX9_calledBy_22 rfl ?_
      refine z_icmp_eq (tgt := 35) (pc' := 26) dX9_calledBy_23 (by decide) rfl (fun h23 => ?_) (fun h23 => ?_)
      · have hact : k = f ∨ s.testBit k.toNat = true := by
          first
          | exact Or.inl h23
          | (by_cases hb : s.testBit k.toNat = true
             · exact Or.inr hb
             · rw [hsh, if_neg hb] at h32; exact absurd h32 (by decide))
        have hvm := hvk.2.2 (m : Int) (by omega) (by omega)
        unfold zvm at hvm
        refine z_L2I (pc' := 36) dX9_calledBy_35 rfl ?_
        refine z_L0R (pc' := 37) dX9_calledBy_36 rfl ?_
        refine z_L3I (pc' := 38) dX9_calledBy_37 rfl ?_
        refine z_L4I (pc' := 40) dX9_calledBy_38 rfl ?_
        refine z_iconst (pc' := 41) dX9_calledBy_40 rfl (by unfold zin; decide) ?_
        refine z_V3v (pc' := 44) (ci := 9) kX9_ofMove lX9_85 dX9_calledBy_41 rfl (by omega) (Nat.le_of_ble_eq_true rfl) (by decide) rfl hy.s ?_
        refine m_ofMove hy (by omega) (by omega) (by omega) (by omega) (by omega) (by omega) (zKv_i ?_)
        rw [hRc k (by omega) (by omega) (m : Int) (by omega) (by omega) 0 (by omega) (by omega), zdig0]
        refine z_iconst (pc' := 45) dX9_calledBy_44 rfl (by unfold zin; decide) ?_
        refine z_icmp_ne (tgt := 61) (pc' := 48) dX9_calledBy_45 (by decide) rfl (fun h45 => ?_) (fun h45 => ?_)
        · have hgo : zW mX9_calledBy d 0 0 Q 11 [zR y, zI f, zI (zor (s : Int) 0), zI k, zI ((m : Int) + 1)] [] sp me := by
            rw [zor_0 hs]
            refine ih2 (m + 1) s (by omega) (by omega) hs hsub hcl (fun b ⟨m', hm', hb1, hb2⟩ => ?_)
            by_cases e : m' = m
            · subst e; exact absurd hb1 h45
            · exact hcal b ⟨m', by omega, hb1, hb2⟩
          refine z_iconst (pc' := 62) dX9_calledBy_61 rfl (by unfold zin; decide) ?_
          refine z_ior (pc' := 63) dX9_calledBy_62 rfl ?_
          refine z_S2I (pc' := 64) rfl dX9_calledBy_63 rfl ?_
          refine z_inc4 (pc' := 67) rfl dX9_calledBy_64 rfl (by unfold zin; omega) ?_
          refine z_goto (tgt := 11) dX9_calledBy_67 (by decide) ?_
          exact hgo
        · refine z_iconst (pc' := 49) dX9_calledBy_48 rfl (by unfold zin; decide) ?_
          refine z_L0R (pc' := 50) dX9_calledBy_49 rfl ?_
          refine z_L3I (pc' := 51) dX9_calledBy_50 rfl ?_
          refine z_L4I (pc' := 53) dX9_calledBy_51 rfl ?_
          refine z_iconst (pc' := 54) dX9_calledBy_53 rfl (by unfold zin; decide) ?_
          refine z_V3v (pc' := 57) (ci := 9) kX9_ofMove lX9_85 dX9_calledBy_54 rfl (by omega) (Nat.le_of_ble_eq_true rfl) (by decide) rfl hy.s ?_
          refine m_ofMove hy (by omega) (by omega) (by omega) (by omega) (by omega) (by omega) (zKv_i ?_)
          rw [hRc k (by omega) (by omega) (m : Int) (by omega) (by omega) 1 (by omega) (by omega), zdig1]
          have hc45 : zcal cd k (m + 1) (cd (k * 10 + (m : Int)) / 10 % 10) := ⟨m, Nat.lt_succ_self m, h45, rfl⟩
          have hcall : zcal cd k (sz k).toNat (cd (k * 10 + (m : Int)) / 10 % 10) := ⟨m, by omega, h45, rfl⟩
          have hlast : ∀ b, zcal cd k (m + 1) b → zcal cd k m b ∨ b = cd (k * 10 + (m : Int)) / 10 % 10 := fun b ⟨m', hm', hb1, hb2⟩ => by
            by_cases e : m' = m
            · subst e; exact Or.inr hb2.symm
            · exact Or.inl ⟨m', by omega, hb1, hb2⟩
          have hak := zcal_in hv (show 0 ≤ k by omega) (show k < 8 by omega) (show (((sz k).toNat : Nat) : Int) ≤ sz k by omega) hcall
          revert hc45 hcall hlast hak
          generalize cd (k * 10 + (m : Int)) / 10 % 10 = a
          intro hc45 hcall hlast hak
          have hpa := zpow (a := a) hak.1 (by omega)
          have hor := zor_pw hs (show a < 8 by omega)
          have hgo : zW mX9_calledBy d 0 0 Q 11 [zR y, zI f, zI (zor (s : Int) (1 * 2 ^ a.toNat)), zI k, zI ((m : Int) + 1)] [] sp me := by
            rw [hor.1]
            refine ih2 (m + 1) (s ||| 2 ^ a.toNat) (by omega) (by omega) hor.2 (fun i hi => ?_) (fun r r0 r1 hr b hb => ?_) (fun b hb => ?_)
            · rcases (zor_bit _ _ _).1 hi with h | h
              · exact hsub i h
              · subst h
                rcases hact with h | h
                · subst h
                  exact ((zcm_b hv hf0 hf1).2.2 a.toNat).2 ⟨a, hcall, Or.inl (by omega)⟩
                · exact zcm_tr hv (by omega) (by omega) hcall 8 f hf0 hf1 (by omega) (hsub _ h)
            · refine (zor_bit _ _ _).2 (Or.inl (hcl r r0 r1 ?_ b hb))
              rcases hr with hr | hr
              · exact Or.inl hr
              · rcases (zor_bit _ _ _).1 hr with h | h
                · exact Or.inr h
                · omega
            · rcases hlast b hb with h | h
              · exact (zor_bit _ _ _).2 (Or.inl (hcal b h))
              · subst h; exact (zor_bit _ _ _).2 (Or.inr rfl)
          refine z_ishl (pc' := 58) dX9_calledBy_57 rfl (by omega) (by omega) (by omega) (by unfold zin; omega) ?_
          refine z_goto (tgt := 62) dX9_calledBy_58 (by decide) ?_
          refine z_ior (pc' := 63) dX9_calledBy_62 rfl ?_
          refine z_S2I (pc' := 64) rfl dX9_calledBy_63 rfl ?_
          refine z_inc4 (pc' := 67) rfl dX9_calledBy_64 rfl (by unfold zin; omega) ?_
          refine z_goto (tgt := 11) dX9_calledBy_67 (by decide) ?_
          exact hgo
      · refine z_L2I (pc' := 27) dX9_calledBy_26 rfl ?_
        refine z_L3I (pc' := 28) dX9_calledBy_27 rfl ?_
        refine z_ishr (pc' := 29) dX9_calledBy_28 rfl (by omega) (by omega) (by omega) ?_
        refine z_iconst (pc' := 30) dX9_calledBy_29 rfl (by unfold zin; decide) ?_
        refine z_iand (pc' := 31) dX9_calledBy_30 rfl ?_
        refine z_iconst (pc' := 32) dX9_calledBy_31 rfl (by unfold zin; decide) ?_
        have hsh := zsh1 hs (show 0 ≤ k by omega) (show k < 8 by omega)
        refine z_icmp_ne (tgt := 70) (pc' := 35) dX9_calledBy_32 (by decide) rfl (fun h32 => ?_) (fun h32 => ?_)
        · have hclk : ∀ r, k + -1 < r → r < 8 → (r = f ∨ s.testBit r.toNat = true) → ∀ a, zcal cd r (sz r).toNat a → s.testBit a.toNat = true := by
            intro r r0 r1 hr a ha
            by_cases e : r = k
            · subst e
              first
              | (exfalso
                 rcases hr with hr | hr
                 · exact h23 hr
                 · rw [hsh, if_pos hr] at h32; exact absurd rfl h32)
              | (have em : (sz r).toNat = m := by omega
                 rw [em] at ha
                 exact hcal a ha)
            · exact hcl r (by omega) r1 hr a ha
          refine z_inc3 (pc' := 73) rfl dX9_calledBy_70 rfl (by unfold zin; omega) ?_
          refine z_goto (tgt := 4) dX9_calledBy_73 (by decide) ?_
          exact ih (k + -1) s _ (by omega) (by omega) (by omega) rfl hs hsub hclk
        · have hact : k = f ∨ s.testBit k.toNat = true := by
            first
            | exact Or.inl h23
            | (by_cases hb : s.testBit k.toNat = true
               · exact Or.inr hb
               · rw [hsh, if_neg hb] at h32; exact absurd h32 (by decide))
          have hvm := hvk.2.2 (m : Int) (by omega) (by omega)
          unfold zvm at hvm
          refine z_L2I (pc' := 36) dX9_calledBy_35 rfl ?_
          refine z_L0R (pc' := 37) dX9_calledBy_36 rfl ?_
          refine z_L3I (pc' := 38) dX9_calledBy_37 rfl ?_
          refine z_L4I (pc' := 40) dX9_calledBy_38 rfl ?_
          refine z_iconst (pc' := 41) dX9_calledBy_40 rfl (by unfold zin; decide) ?_
          refine z_V3v (pc' := 44) (ci := 9) kX9_ofMove lX9_85 dX9_calledBy_41 rfl (by omega) (Nat.le_of_ble_eq_true rfl) (by decide) rfl hy.s ?_
          refine m_ofMove hy (by omega) (by omega) (by omega) (by omega) (by omega) (by omega) (zKv_i ?_)
          rw [hRc k (by omega) (by omega) (m : Int) (by omega) (by omega) 0 (by omega) (by omega), zdig0]
          refine z_iconst (pc' := 45) dX9_calledBy_44 rfl (by unfold zin; decide) ?_
          refine z_icmp_ne (tgt := 61) (pc' := 48) dX9_calledBy_45 (by decide) rfl (fun h45 => ?_) (fun h45 => ?_)
          · have hgo : zW mX9_calledBy d 0 0 Q 11 [zR y, zI f, zI (zor (s : Int) 0), zI k, zI ((m : Int) + 1)] [] sp me := by
              rw [zor_0 hs]
              refine ih2 (m + 1) s (by omega) (by omega) hs hsub hcl (fun b ⟨m', hm', hb1, hb2⟩ => ?_)
              by_cases e : m' = m
              · subst e; exact absurd hb1 h45
              · exact hcal b ⟨m', by omega, hb1, hb2⟩
            refine z_iconst (pc' := 62) dX9_calledBy_61 rfl (by unfold zin; decide) ?_
            refine z_ior (pc' := 63) dX9_calledBy_62 rfl ?_
            refine z_S2I (pc' := 64) rfl dX9_calledBy_63 rfl ?_
            refine z_inc4 (pc' := 67) rfl dX9_calledBy_64 rfl (by unfold zin; omega) ?_
            refine z_goto (tgt := 11) dX9_calledBy_67 (by decide) ?_
            exact hgo
          · refine z_iconst (pc' := 49) dX9_calledBy_48 rfl (by unfold zin; decide) ?_
            refine z_L0R (pc' := 50) dX9_calledBy_49 rfl ?_
            refine z_L3I (pc' := 51) dX9_calledBy_50 rfl ?_
            refine z_L4I (pc' := 53) dX9_calledBy_51 rfl ?_
            refine z_iconst (pc' := 54) dX9_calledBy_53 rfl (by unfold zin; decide) ?_
            refine z_V3v (pc' := 57) (ci := 9) kX9_ofMove lX9_85 dX9_calledBy_54 rfl (by omega) (Nat.le_of_ble_eq_true rfl) (by decide) rfl hy.s ?_
            refine m_ofMove hy (by omega) (by omega) (by omega) (by omega) (by omega) (by omega) (zKv_i ?_)
            rw [hRc k (by omega) (by omega) (m : Int) (by omega) (by omega) 1 (by omega) (by omega), zdig1]
            have hc45 : zcal cd k (m + 1) (cd (k * 10 + (m : Int)) / 10 % 10) := ⟨m, Nat.lt_succ_self m, h45, rfl⟩
            have hcall : zcal cd k (sz k).toNat (cd (k * 10 + (m : Int)) / 10 % 10) := ⟨m, by omega, h45, rfl⟩
            have hlast : ∀ b, zcal cd k (m + 1) b → zcal cd k m b ∨ b = cd (k * 10 + (m : Int)) / 10 % 10 := fun b ⟨m', hm', hb1, hb2⟩ => by
              by_cases e : m' = m
              · subst e; exact Or.inr hb2.symm
              · exact Or.inl ⟨m', by omega, hb1, hb2⟩
            have hak := zcal_in hv (show 0 ≤ k by omega) (show k < 8 by omega) (show (((sz k).toNat : Nat) : Int) ≤ sz k by omega) hcall
            revert hc45 hcall hlast hak
            generalize cd (k * 10 + (m : Int)) / 10 % 10 = a
            intro hc45 hcall hlast hak
            have hpa := zpow (a := a) hak.1 (by omega)
            have hor := zor_pw hs (show a < 8 by omega)
            have hgo : zW mX9_calledBy d 0 0 Q 11 [zR y, zI f, zI (zor (s : Int) (1 * 2 ^ a.toNat)), zI k, zI ((m : Int) + 1)] [] sp me := by
              rw [hor.1]
              refine ih2 (m + 1) (s ||| 2 ^ a.toNat) (by omega) (by omega) hor.2 (fun i hi => ?_) (fun r r0 r1 hr b hb => ?_) (fun b hb => ?_)
              · rcases (zor_bit _ _ _).1 hi with h | h
                · exact hsub i h
                · subst h
                  rcases hact with h | h
                  · subst h
                    exact ((zcm_b hv hf0 hf1).2.2 a.toNat).2 ⟨a, hcall, Or.inl (by omega)⟩
                  · exact zcm_tr hv (by omega) (by omega) hcall 8 f hf0 hf1 (by omega) (hsub _ h)
              · refine (zor_bit _ _ _).2 (Or.inl (hcl r r0 r1 ?_ b hb))
                rcases hr with hr | hr
                · exact Or.inl hr
                · rcases (zor_bit _ _ _).1 hr with h | h
                  · exact Or.inr h
                  · omega
              · rcases hlast b hb with h | h
                · exact (zor_bit _ _ _).2 (Or.inl (hcal b h))
                · subst h; exact (zor_bit _ _ _).2 (Or.inr rfl)
            refine z_ishl (pc' := 58) dX9_calledBy_57 rfl (by omega) (by omega) (by omega) (by unfold zin; omega) ?_
            refine z_goto (tgt := 62) dX9_calledBy_58 (by decide) ?_
            refine z_ior (pc' := 63) dX9_calledBy_62 rfl ?_
            refine z_S2I (pc' := 64) rfl dX9_calledBy_63 rfl ?_
            refine z_inc4 (pc' := 67) rfl dX9_calledBy_64 rfl (by unfold zin; omega) ?_
            refine z_goto (tgt := 11) dX9_calledBy_67 (by decide) ?_
            exact hgo
theorem zclr_n {sz cd : Int → Int} (hv : zfv sz cd) {f : Int} : ∀ n : Nat, n ≤ 8 → ∃ s : Nat, s < 256 ∧ zclr (zcm sz cd) f n = (s : Int) := by
  intro n
  induction n with
  | zero => intro _; exact ⟨0, by decide, rfl⟩
  | succ n ih =>
    intro hn
    obtain ⟨s, s1, s2⟩ := ih (by omega)
    unfold zclr
    rw [s2]
    split
    · have h := zor_pw s1 (a := (n : Int)) (by omega)
      exact ⟨_, h.2, h.1⟩
    · exact ⟨s, s1, rfl⟩
theorem zclr_s {sz cd : Int → Int} (hv : zfv sz cd) {f : Int} (f0 : 0 ≤ f) (f1 : f < 8) {n : Nat} (hn : n < 8) : zclr (zcm sz cd) f (n + 1) = zor (zclr (zcm sz cd) f n) ((if (zcm sz cd (n : Int)).toNat.testBit f.toNat = true then 1 else 0) * 2 ^ (n : Int).toNat) := by
  have e : zclr (zcm sz cd) f (n + 1) = if zand (zcm sz cd (n : Int)) (1 * 2 ^ f.toNat) ≠ 0 then zor (zclr (zcm sz cd) f n) (1 * 2 ^ (n : Int).toNat) else zclr (zcm sz cd) f n := rfl
  have hb := zcm_b hv (show 0 ≤ (n : Int) by omega) (show (n : Int) < 8 by omega)
  have hp := zand_pw hb.1 f0 f1
  rw [← hb.2.1] at hp
  rw [e]
  by_cases h : (zcm sz cd (n : Int)).toNat.testBit f.toNat = true
  · rw [if_pos (hp.2 h), if_pos h]
  · rw [if_neg (fun z => h (hp.1 z)), if_neg h, Int.zero_mul]
    obtain ⟨s, s1, s2⟩ := zclr_n hv (f := f) n (by omega)
    rw [s2, zor_0 s1]
theorem zclr_lo {sz cd : Int → Int} (hv : zfv sz cd) {f : Int} (f0 : 0 ≤ f) (f1 : f < 8) : ∀ n : Nat, (n : Int) ≤ f + 1 → zclr (zcm sz cd) f n = 0 := by
  intro n
  induction n with
  | zero => intro _; rfl
  | succ n ih =>
    intro hn
    have hlt : ¬ (zcm sz cd (n : Int)).toNat.testBit f.toNat = true := fun z => by
      have := zcm_lt hv 8 (n : Int) (by omega) (by omega) (by omega) f.toNat z
      omega
    rw [zclr_s hv f0 f1 (by omega), ih (by omega), if_neg hlt, Int.zero_mul]
    exact zor_0 (s := 0) (by decide)
set_option maxRecDepth 100000 in
set_option maxHeartbeats 1000000 in
theorem m_callers {d : Nat} {sp : zSP} {me : zMe} {Q : zQ} {y : Nat} {F : Nat} {sz cd : Int → Int} (hd : 2 ≤ d) (hy : zMod sp y) (hv : zfv sz cd) (hf1 : (F : Int) < 8) (hRs : ∀ k, 0 ≤ k → k < 8 → me (y + 1) (30 + 31 * k) = sz k) (hRc : ∀ k, 0 ≤ k → k < 8 → ∀ m, 0 ≤ m → m < sz k → ∀ q, 0 ≤ q → q < 3 → me (y + 1) (30 + 31 * k + 1 + 3 * m + q) = zdig (cd (k * 10 + m)) q) (hQ : Q (some (zI (zclr (zcm sz cd) (F : Int) 8))) sp me) : zCall mX9_callers d 0 0 [zR y, zI (F : Int)] sp me Q := by
  refine z_met kX9_callers (by simp) (by simp) ?_
  show zW mX9_callers d 0 0 Q 0 [zR y, zI (F : Int), zU, zU] [] sp me
  refine z_iconst (pc' := 1) dX9_callers_0 rfl (by unfold zin; decide) ?_
  refine z_S2I (pc' := 2) rfl dX9_callers_1 rfl ?_
  refine z_L1I (pc' := 3) dX9_callers_2 rfl ?_
  refine z_iconst (pc' := 4) dX9_callers_3 rfl (by unfold zin; decide) ?_
  refine z_iadd (pc' := 5) dX9_callers_4 rfl (by unfold zin; omega) ?_
  refine z_S3I (pc' := 6) rfl dX9_callers_5 rfl ?_
  suffices H : ∀ (n j : Nat), F + 1 ≤ j → j ≤ 8 → 8 - j < n → zW mX9_callers d 0 0 Q 6 [zR y, zI (F : Int), zI (zclr (zcm sz cd) (F : Int) j), zI (j : Int)] [] sp me by
    refine zW_to (H 9 (F + 1) (by omega) (by omega) (by omega)) ?_ rfl rfl
    rw [zclr_lo hv (by omega) hf1 (F + 1) (by omega)]
    rfl
  intro n
  induction n with
  | zero => intro j h0 h1 h2; omega
  | succ n ih =>
  intro j hj0 hj1 hj2
  refine z_L3I (pc' := 7) dX9_callers_6 rfl ?_
  refine z_bipush (pc' := 9) dX9_callers_7 rfl (by decide) ?_
  refine z_icmp_ge (tgt := 32) (pc' := 12) dX9_callers_9 (by decide) rfl (fun h9 => ?_) (fun h9 => ?_)
  · refine z_L2I (pc' := 33) dX9_callers_32 rfl ?_
    refine z_ireturn rfl rfl dX9_callers_33 ?_
    obtain rfl : j = 8 := by omega
    exact hQ
  · refine z_L2I (pc' := 13) dX9_callers_12 rfl ?_
    refine z_L0R (pc' := 14) dX9_callers_13 rfl ?_
    refine z_L3I (pc' := 15) dX9_callers_14 rfl ?_
    refine z_V1v (pc' := 18) (ci := 9) kX9_calledBy lX9_185 dX9_callers_15 rfl (by omega) (Nat.le_of_ble_eq_true rfl) (by decide) rfl hy.s ?_
    refine m_calledBy (by omega) hy hv (by omega) (by omega) hRs hRc (zKv_i ?_)
    have hb := zcm_b hv (show 0 ≤ (j : Int) by omega) (show (j : Int) < 8 by omega)
    have hst := zclr_s hv (show 0 ≤ (F : Int) by omega) hf1 (show j < 8 by omega)
    have hpj := zpow (a := (j : Int)) (by omega) (show (j : Int) < 10 by omega)
    rw [hb.2.1]
    refine z_L1I (pc' := 19) dX9_callers_18 rfl ?_
    refine z_ishr (pc' := 20) dX9_callers_19 rfl (by omega) (by omega) (by omega) ?_
    refine z_iconst (pc' := 21) dX9_callers_20 rfl (by unfold zin; decide) ?_
    refine z_iand (pc' := 22) dX9_callers_21 rfl ?_
    rw [zsh1 hb.1 (by omega) hf1]
    have hbb : ∀ P : Prop, ∀ h : Decidable P, (@ite Int P h 1 0) = 0 ∨ (@ite Int P h 1 0) = 1 := fun P h => by
      by_cases e : P
      · rw [if_pos e]; exact Or.inr rfl
      · rw [if_neg e]; exact Or.inl rfl
    have hb2 := hbb ((zcm sz cd (j : Int)).toNat.testBit (F : Int).toNat = true) inferInstance
    revert hst hb2
    generalize (if (zcm sz cd (j : Int)).toNat.testBit (F : Int).toNat = true then 1 else 0 : Int) = b
    intro hst hb2
    refine z_L3I (pc' := 23) dX9_callers_22 rfl ?_
    refine z_ishl (pc' := 24) dX9_callers_23 rfl (by omega) (by omega) (by omega) (by rcases hb2 with e | e <;> rw [e] <;> unfold zin <;> omega) ?_
    refine z_ior (pc' := 25) dX9_callers_24 rfl ?_
    refine z_S2I (pc' := 26) rfl dX9_callers_25 rfl ?_
    refine z_inc3 (pc' := 29) rfl dX9_callers_26 rfl (by unfold zin; omega) ?_
    refine z_goto (tgt := 6) dX9_callers_29 (by decide) ?_
    refine zW_to (ih (j + 1) (by omega) (by omega) (by omega)) ?_ rfl rfl
    rw [hst]
    rfl
end ZMOX

