section ZLF
theorem gcl {sz cd : Int → Int} (hv : zfv sz cd) {oth : Int} (o0 : 0 ≤ oth) {s : Nat} (hC : ∀ j, oth < j → j < 8 → s.testBit j.toNat = true → ∀ a, zcal cd j (sz j).toNat a → s.testBit a.toNat = true) : ∀ (n : Nat) (j : Int), 0 ≤ j → j < 8 → j < n → s.testBit j.toNat = true → (zcm sz cd j).toNat.testBit oth.toNat = true → s.testBit oth.toNat = true := by
  intro n
  induction n with
  | zero => intro j h0 _ h1; omega
  | succ n ih =>
    intro j j0 j1 j2 hj ho
    have hlt := zcm_lt hv 8 j j0 j1 (by omega) oth.toNat ho
    obtain ⟨a, ha, h⟩ := ((zcm_b hv j0 j1).2.2 oth.toNat).1 ho
    have hs := hv j j0 j1
    have hin := zcal_in hv j0 j1 (by omega) ha
    have hsa := hC j (by omega) j1 hj a ha
    rcases h with h | h
    · rw [show oth.toNat = a.toNat by omega]; exact hsa
    · exact ih a hin.1 (by omega) (by omega) hsa h
theorem gsx {s : Nat} {a : Int} (ha0 : 0 ≤ a) {j : Int} (hj : 0 ≤ j) : (s ||| 2 ^ a.toNat).testBit j.toNat = true ↔ s.testBit j.toNat = true ∨ j = a := by
  rw [zor_bit]
  constructor
  · rintro (h | h)
    · exact Or.inl h
    · exact Or.inr (by omega)
  · rintro (h | h)
    · exact Or.inl h
    · exact Or.inr (by rw [h])
set_option maxRecDepth 100000 in
set_option maxHeartbeats 4000000 in
theorem l_calls9 {d : Nat} {sp : zSP} {me : zMe} {Q : zQ} {m o c : Nat} {sz cd : Int → Int} {fig oth : Int} (hd : 1 ≤ d) (hm : sp.1 m = (1, 40)) (ho : sp.1 o = (1, 40)) (hc : sp.1 c = (1, 16)) (hv : zfv sz cd) (hF : gFg me m o c sz cd) (f0 : 0 ≤ fig) (f1 : fig < 8) (o0 : 0 ≤ oth) (o1 : oth < 8) (hQ1 : (zcm sz cd fig).toNat.testBit oth.toNat = true → Q (some (zI 1)) sp me) (hQ0 : ¬ (zcm sz cd fig).toNat.testBit oth.toNat = true → Q (some (zI 0)) sp me) : zCall mL_calls d 0 0 [zR m, zR o, zR c, zI fig, zI oth] sp me Q := by
  refine z_met kL_calls (by simp) (by simp) ?_
  show zW mL_calls d 0 0 Q 0 [zR m, zR o, zR c, zI fig, zI oth, zU, zU, zU] [] sp me
  refine z_iconst (pc' := 1) dL_calls_0 rfl (by unfold zin; decide) ?_
  refine z_L3I (pc' := 2) dL_calls_1 rfl ?_
  refine z_ishl (pc' := 3) dL_calls_2 rfl (by decide) (by omega) (by omega) (by rw [zpw]; have := zpw_lt' f1; have := Int.natCast_nonneg (2 ^ fig.toNat); unfold zin; omega) ?_
  refine z_S5I (pc' := 5) rfl dL_calls_3 rfl ?_
  refine z_L3I (pc' := 6) dL_calls_5 rfl ?_
  refine z_S6I (pc' := 8) rfl dL_calls_6 rfl ?_
  suffices HH : ∀ (n : Nat) (k : Int) (v7 : zV) (s : Nat), s < 256 → 0 ≤ k → k ≤ fig → (oth ≤ k ∨ k = fig) → k < n → zndv v7 = true → (∀ a, 0 ≤ a → s.testBit a.toNat = true → a = fig ∨ (zcm sz cd fig).toNat.testBit a.toNat = true) → s.testBit fig.toNat = true → (∀ j, k < j → j < 8 → s.testBit j.toNat = true → ∀ a, zcal cd j (sz j).toNat a → s.testBit a.toNat = true) → zW mL_calls d 0 0 Q 8 [zR m, zR o, zR c, zI fig, zI oth, zI (s : Int), zI k, v7] [] sp me by
    rw [zpw]
    refine HH 9 fig zU (2 ^ fig.toNat) (zpw_lt' f1) f0 (Int.le_refl _) (Or.inr rfl) (by omega) rfl (fun a a0 h => ?_) ?_ (fun j j0 j1 h => ?_)
    · rw [Nat.testBit_two_pow, decide_eq_true_eq] at h; exact Or.inl (by omega)
    · rw [Nat.testBit_two_pow, decide_eq_true_eq]
    · rw [Nat.testBit_two_pow, decide_eq_true_eq] at h; omega
  intro n
  induction n with
  | zero => intro k v7 s _ h0 _ _ h1; omega
  | succ n ih =>
  intro k v7 s hs hk0 hk1 hk2 hk3 hv7 hS hFg hC
  refine z_L6I (pc' := 10) dL_calls_8 rfl ?_
  refine z_L4I (pc' := 12) dL_calls_10 rfl ?_
  refine z_icmp_le (tgt := 91) (pc' := 15) dL_calls_12 (by decide) rfl (fun h12 => ?_) (fun h12 => ?_)
  · have hno : ∀ i9 : Nat, (zcm sz cd fig).toNat.testBit i9 = true → (i9 : Int) < fig := fun i9 => zcm_lt hv 8 fig f0 f1 (by omega) i9
    have hso := zsh1 hs o0 o1
    have hbo : ((if s.testBit oth.toNat = true then 1 else 0 : Int) = 1) ↔ s.testBit oth.toNat = true := by split <;> simp_all
    refine z_L3I (pc' := 92) dL_calls_91 rfl ?_
    refine z_L4I (pc' := 94) dL_calls_92 rfl ?_
    refine z_icmp_eq (tgt := 112) (pc' := 97) dL_calls_94 (by decide) rfl (fun h94 => ?_) (fun h94 => ?_)
    · refine z_iconst (pc' := 113) dL_calls_112 rfl (by unfold zin; decide) ?_
      refine z_zreturn rfl rfl dL_calls_113 (by omega) ?_
      first
      | (refine hQ0 (fun z => ?_)
         have := hno _ z
         omega)
      | (refine hQ1 ?_
         rcases hS oth o0 (hbo.1 (by omega)) with h | h
         · omega
         · exact h)
      | (refine hQ0 (fun z => ?_)
         have hzz := hno _ z
         have ek : k = oth := by omega
         subst ek
         have h9 := gcl hv o0 hC 8 fig f0 f1 (by omega) hFg z
         have := hbo.2 h9
         omega)
    · refine z_L5I (pc' := 99) dL_calls_97 rfl ?_
      refine z_L4I (pc' := 101) dL_calls_99 rfl ?_
      refine z_ishr (pc' := 102) dL_calls_101 rfl (by omega) (by omega) (by omega) ?_
      refine z_iconst (pc' := 103) dL_calls_102 rfl (by unfold zin; decide) ?_
      refine z_iand (pc' := 104) dL_calls_103 rfl ?_
      refine z_iconst (pc' := 105) dL_calls_104 rfl (by unfold zin; decide) ?_
      rw [hso]
      refine z_icmp_ne (tgt := 112) (pc' := 108) dL_calls_105 (by decide) rfl (fun h105 => ?_) (fun h105 => ?_)
      · refine z_iconst (pc' := 113) dL_calls_112 rfl (by unfold zin; decide) ?_
        refine z_zreturn rfl rfl dL_calls_113 (by omega) ?_
        first
        | (refine hQ0 (fun z => ?_)
           have := hno _ z
           omega)
        | (refine hQ1 ?_
           rcases hS oth o0 (hbo.1 (by omega)) with h | h
           · omega
           · exact h)
        | (refine hQ0 (fun z => ?_)
           have hzz := hno _ z
           have ek : k = oth := by omega
           subst ek
           have h9 := gcl hv o0 hC 8 fig f0 f1 (by omega) hFg z
           have := hbo.2 h9
           omega)
      · refine z_iconst (pc' := 109) dL_calls_108 rfl (by unfold zin; decide) ?_
        refine z_goto (tgt := 113) dL_calls_109 (by decide) ?_
        refine z_zreturn rfl rfl dL_calls_113 (by omega) ?_
        first
        | (refine hQ0 (fun z => ?_)
           have := hno _ z
           omega)
        | (refine hQ1 ?_
           rcases hS oth o0 (hbo.1 (by omega)) with h | h
           · omega
           · exact h)
        | (refine hQ0 (fun z => ?_)
           have hzz := hno _ z
           have ek : k = oth := by omega
           subst ek
           have h9 := gcl hv o0 hC 8 fig f0 f1 (by omega) hFg z
           have := hbo.2 h9
           omega)
  · have hk8 : k < 8 := by omega
    have hfk := hF k hk0 hk8
    have hvk := hv k hk0 hk8
    refine z_iconst (pc' := 16) dL_calls_15 rfl (by unfold zin; decide) ?_
    refine z_S7I (pc' := 18) rfl dL_calls_16 rfl ?_
    suffices HH : ∀ (n2 : Nat) (i : Int) (s2 : Nat), s2 < 256 → 0 ≤ i → i ≤ sz k → sz k - i < n2 → (∀ a, 0 ≤ a → s2.testBit a.toNat = true → a = fig ∨ (zcm sz cd fig).toNat.testBit a.toNat = true) → s2.testBit fig.toNat = true → (∀ j, k < j → j < 8 → s2.testBit j.toNat = true → ∀ a, zcal cd j (sz j).toNat a → s2.testBit a.toNat = true) → (s2.testBit k.toNat = true → ∀ a, zcal cd k i.toNat a → s2.testBit a.toNat = true) → zW mL_calls d 0 0 Q 18 [zR m, zR o, zR c, zI fig, zI oth, zI (s2 : Int), zI k, zI i] [] sp me by
      exact HH 11 0 s hs (by omega) (by omega) (by omega) hS hFg hC (fun _ a ⟨q, hq, _⟩ => absurd hq (Nat.not_lt_zero q))
    intro n2
    induction n2 with
    | zero => intro i s2 _ h0 h1 h2; omega
    | succ n2 ih2 =>
    intro i s2 hs2 hi0 hi1 hi2 hS2 hF2 hC2 hD2
    have hsh := zsh1 hs2 hk0 hk8
    have hp256 := zpw_lt' hk8
    refine z_L7I (pc' := 20) dL_calls_18 rfl ?_
    refine z_L2R (pc' := 21) dL_calls_20 rfl ?_
    refine z_L6I (pc' := 23) dL_calls_21 rfl ?_
    refine z_ild (pc' := 24) dL_calls_23 rfl hc (by omega) (by omega) ?_
    refine z_icmp_ge (tgt := 85) (pc' := 27) dL_calls_24 (by decide) rfl (fun h24 => ?_) (fun h24 => ?_)
    · have hend : i = sz k ∨ ¬ s2.testBit k.toNat = true := by
        first
        | exact Or.inl (by omega)
        | exact Or.inr (fun z => by have := hbit.2 z; omega)
      refine z_inc6 (pc' := 88) rfl dL_calls_85 rfl (by unfold zin; omega) ?_
      refine z_goto (tgt := 8) dL_calls_88 (by decide) ?_
      rcases hend with hend | hend
      · refine ih (k + -1) _ s2 hs2 (by omega) (by omega) (Or.inl (by omega)) (by omega) rfl hS2 hF2 (fun j j0 j1 hj => ?_)
        by_cases e : j = k
        · subst e
          have := hD2 hj
          rw [show i.toNat = (sz j).toNat by omega] at this
          exact this
        · exact hC2 j (by omega) j1 hj
      · refine ih (k + -1) _ s2 hs2 (by omega) (by omega) (Or.inl (by omega)) (by omega) rfl hS2 hF2 (fun j j0 j1 hj => ?_)
        by_cases e : j = k
        · subst e
          exact absurd hj hend
        · exact hC2 j (by omega) j1 hj
    · refine z_L5I (pc' := 29) dL_calls_27 rfl ?_
      refine z_L6I (pc' := 31) dL_calls_29 rfl ?_
      refine z_ishr (pc' := 32) dL_calls_31 rfl (by omega) (by omega) (by omega) ?_
      refine z_iconst (pc' := 33) dL_calls_32 rfl (by unfold zin; decide) ?_
      refine z_iand (pc' := 34) dL_calls_33 rfl ?_
      refine z_iconst (pc' := 35) dL_calls_34 rfl (by unfold zin; decide) ?_
      rw [hsh]
      have hbit : ((if s2.testBit k.toNat = true then 1 else 0 : Int) = 1) ↔ s2.testBit k.toNat = true := by split <;> simp_all
      refine z_icmp_ne (tgt := 85) (pc' := 38) dL_calls_35 (by decide) rfl (fun h35 => ?_) (fun h35 => ?_)
      · have hend : i = sz k ∨ ¬ s2.testBit k.toNat = true := by
          first
          | exact Or.inl (by omega)
          | exact Or.inr (fun z => by have := hbit.2 z; omega)
        refine z_inc6 (pc' := 88) rfl dL_calls_85 rfl (by unfold zin; omega) ?_
        refine z_goto (tgt := 8) dL_calls_88 (by decide) ?_
        rcases hend with hend | hend
        · refine ih (k + -1) _ s2 hs2 (by omega) (by omega) (Or.inl (by omega)) (by omega) rfl hS2 hF2 (fun j j0 j1 hj => ?_)
          by_cases e : j = k
          · subst e
            have := hD2 hj
            rw [show i.toNat = (sz j).toNat by omega] at this
            exact this
          · exact hC2 j (by omega) j1 hj
        · refine ih (k + -1) _ s2 hs2 (by omega) (by omega) (Or.inl (by omega)) (by omega) rfl hS2 hF2 (fun j j0 j1 hj => ?_)
          by_cases e : j = k
          · subst e
            exact absurd hj hend
          · exact hC2 j (by omega) j1 hj
      · have hb1 : s2.testBit k.toNat = true := hbit.1 (by omega)
        have hmv := hfk.2 i hi0 (by omega)
        have hg := gsg_c hv hk0 hk8 hi0 (show i < sz k by omega)
        have hin1 : (i + 1).toNat = i.toNat + 1 := by omega
        have hvm := hvk.2.2 i hi0 (by omega)
        refine z_L5I (pc' := 40) dL_calls_38 rfl ?_
        refine z_L0R (pc' := 41) dL_calls_40 rfl ?_
        refine z_L1R (pc' := 42) dL_calls_41 rfl ?_
        refine z_L6I (pc' := 44) dL_calls_42 rfl ?_
        refine z_L7I (pc' := 46) dL_calls_44 rfl ?_
        refine z_S4v (pc' := 49) kL_move lL_9 dL_calls_46 rfl (by omega) (Nat.le_of_ble_eq_true rfl) ?_
        refine l_move hm ho hk0 hk8 hi0 (by omega) (zKv_i ?_)
        rw [hmv]
        refine z_sipush (pc' := 52) dL_calls_49 rfl (by decide) ?_
        refine z_icmp_le (tgt := 75) (pc' := 55) dL_calls_52 (by decide) rfl (fun h52 => ?_) (fun h52 => ?_)
        · refine z_iconst (pc' := 76) dL_calls_75 rfl (by unfold zin; decide) ?_
          refine z_ior (pc' := 77) dL_calls_76 rfl ?_
          first
          | rw [(zor_pw hs2 (a := cd (k * 10 + i) / 10 % 10) (by omega)).1]
          | rw [zor_0 hs2]
          refine z_S5I (pc' := 79) rfl dL_calls_77 rfl ?_
          have hdirect : ∀ a, 0 ≤ a → zcal cd k (sz k).toNat a → (zcm sz cd fig).toNat.testBit a.toNat = true := fun a a0 ha => by
            rcases hS2 k hk0 hb1 with h | h
            · subst h
              exact ((zcm_b hv hk0 hk8).2.2 a.toNat).2 ⟨a, ha, Or.inl (by omega)⟩
            · exact zcm_tr hv hk0 hk8 ha 8 fig f0 f1 (by omega) h
          refine z_inc7 (pc' := 82) rfl dL_calls_79 rfl (by unfold zin; omega) ?_
          refine z_goto (tgt := 18) dL_calls_82 (by decide) ?_
          first
          | (have hz := hvm
             unfold zvm at hz
             have hcal : zcal cd k (sz k).toNat (cd (k * 10 + i) / 10 % 10) := ⟨i.toNat, by omega, by rw [show ((i.toNat : Nat) : Int) = i by omega]; omega, by rw [show ((i.toNat : Nat) : Int) = i by omega]⟩
             refine ih2 (i + 1) _ (zor_pw hs2 (a := cd (k * 10 + i) / 10 % 10) (by omega)).2 (by omega) (by omega) (by omega) (fun a a0 h => ?_) ((gsx hcl.1 f0).2 (Or.inl hF2)) (fun j j0 j1 hj a ha => ?_) (fun hb a ha => ?_)
             · rcases (gsx hcl.1 a0).1 h with h | h
               · exact hS2 a a0 h
               · rw [h]; exact Or.inr (hdirect _ hcl.1 hcal)
             · have hjj : s2.testBit j.toNat = true := by
                 rcases (gsx hcl.1 (by omega)).1 hj with h | h
                 · exact h
                 · omega
               have hsj := hv j (by omega) j1
               have hin9 := zcal_in hv (show 0 ≤ j by omega) j1 (by omega) ha
               exact (gsx hcl.1 hin9.1).2 (Or.inl (hC2 j j0 j1 hjj a ha))
             · rw [hin1] at ha
               obtain ⟨q, hq, e1, e2⟩ := ha
               by_cases eq : q = i.toNat
               · subst eq
                 rw [show ((i.toNat : Nat) : Int) = i by omega] at e2
                 exact (gsx hcl.1 (by omega)).2 (Or.inr e2.symm)
               · exact (gsx hcl.1 (by omega)).2 (Or.inl (hD2 hb1 a ⟨q, by omega, e1, e2⟩)))
          | (have hz := hvm
             unfold zvm at hz
             refine ih2 (i + 1) s2 hs2 (by omega) (by omega) (by omega) hS2 hF2 hC2 (fun hb a ha => ?_)
             rw [hin1] at ha
             obtain ⟨q, hq, e1, e2⟩ := ha
             by_cases eq : q = i.toNat
             · subst eq
               rw [show ((i.toNat : Nat) : Int) = i by omega] at e1
               omega
             · exact hD2 hb1 a ⟨q, by omega, e1, e2⟩)
        · refine z_iconst (pc' := 56) dL_calls_55 rfl (by unfold zin; decide) ?_
          refine z_L0R (pc' := 57) dL_calls_56 rfl ?_
          refine z_L1R (pc' := 58) dL_calls_57 rfl ?_
          refine z_L6I (pc' := 60) dL_calls_58 rfl ?_
          refine z_L7I (pc' := 62) dL_calls_60 rfl ?_
          refine z_S4v (pc' := 65) kL_move lL_9 dL_calls_62 rfl (by omega) (Nat.le_of_ble_eq_true rfl) ?_
          refine l_move hm ho hk0 hk8 hi0 (by omega) (zKv_i ?_)
          rw [hmv]
          have hcl := hg.1 (by omega)
          have ha256 := zpw_lt' (a := cd (k * 10 + i) / 10 % 10) (by omega)
          refine z_bipush (pc' := 67) dL_calls_65 rfl (by decide) ?_
          refine z_idiv (pc' := 68) dL_calls_67 rfl (by omega) (by omega) ?_
          refine z_bipush (pc' := 70) dL_calls_68 rfl (by decide) ?_
          refine z_irem (pc' := 71) dL_calls_70 rfl (by omega) (by omega) ?_
          refine z_ishl (pc' := 72) dL_calls_71 rfl (by decide) (by omega) (by omega) (by rw [zpw]; have := Int.natCast_nonneg (2 ^ (cd (k * 10 + i) / 10 % 10).toNat); unfold zin; omega) ?_
          refine z_goto (tgt := 76) dL_calls_72 (by decide) ?_
          refine z_ior (pc' := 77) dL_calls_76 rfl ?_
          first
          | rw [(zor_pw hs2 (a := cd (k * 10 + i) / 10 % 10) (by omega)).1]
          | rw [zor_0 hs2]
          refine z_S5I (pc' := 79) rfl dL_calls_77 rfl ?_
          have hdirect : ∀ a, 0 ≤ a → zcal cd k (sz k).toNat a → (zcm sz cd fig).toNat.testBit a.toNat = true := fun a a0 ha => by
            rcases hS2 k hk0 hb1 with h | h
            · subst h
              exact ((zcm_b hv hk0 hk8).2.2 a.toNat).2 ⟨a, ha, Or.inl (by omega)⟩
            · exact zcm_tr hv hk0 hk8 ha 8 fig f0 f1 (by omega) h
          refine z_inc7 (pc' := 82) rfl dL_calls_79 rfl (by unfold zin; omega) ?_
          refine z_goto (tgt := 18) dL_calls_82 (by decide) ?_
          first
          | (have hz := hvm
             unfold zvm at hz
             have hcal : zcal cd k (sz k).toNat (cd (k * 10 + i) / 10 % 10) := ⟨i.toNat, by omega, by rw [show ((i.toNat : Nat) : Int) = i by omega]; omega, by rw [show ((i.toNat : Nat) : Int) = i by omega]⟩
             refine ih2 (i + 1) _ (zor_pw hs2 (a := cd (k * 10 + i) / 10 % 10) (by omega)).2 (by omega) (by omega) (by omega) (fun a a0 h => ?_) ((gsx hcl.1 f0).2 (Or.inl hF2)) (fun j j0 j1 hj a ha => ?_) (fun hb a ha => ?_)
             · rcases (gsx hcl.1 a0).1 h with h | h
               · exact hS2 a a0 h
               · rw [h]; exact Or.inr (hdirect _ hcl.1 hcal)
             · have hjj : s2.testBit j.toNat = true := by
                 rcases (gsx hcl.1 (by omega)).1 hj with h | h
                 · exact h
                 · omega
               have hsj := hv j (by omega) j1
               have hin9 := zcal_in hv (show 0 ≤ j by omega) j1 (by omega) ha
               exact (gsx hcl.1 hin9.1).2 (Or.inl (hC2 j j0 j1 hjj a ha))
             · rw [hin1] at ha
               obtain ⟨q, hq, e1, e2⟩ := ha
               by_cases eq : q = i.toNat
               · subst eq
                 rw [show ((i.toNat : Nat) : Int) = i by omega] at e2
                 exact (gsx hcl.1 (by omega)).2 (Or.inr e2.symm)
               · exact (gsx hcl.1 (by omega)).2 (Or.inl (hD2 hb1 a ⟨q, by omega, e1, e2⟩)))
          | (have hz := hvm
             unfold zvm at hz
             refine ih2 (i + 1) s2 hs2 (by omega) (by omega) (by omega) hS2 hF2 hC2 (fun hb a ha => ?_)
             rw [hin1] at ha
             obtain ⟨q, hq, e1, e2⟩ := ha
             by_cases eq : q = i.toNat
             · subst eq
               rw [show ((i.toNat : Nat) : Int) = i by omega] at e1
               omega
             · exact hD2 hb1 a ⟨q, by omega, e1, e2⟩)
end ZLF

