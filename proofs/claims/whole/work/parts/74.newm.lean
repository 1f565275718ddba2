section ZNZ
set_option maxRecDepth 100000 in
set_option maxHeartbeats 1000000 in
theorem n_mod0 {d : Nat} {sp : zSP} {me : zMe} {Q : zQ} {a : Nat} (hd : 1 ≤ d) (hn : sp.2.2 = a) (hs : sp.1 a = (10 + 9, zN 9)) (hp : sp.2.1 a = (fun _ => none)) (hm : me a = (fun _ => 0)) (hQ : ∀ sp' me', sp'.2.2 = a + 17 → (∀ b, b < a → zEq sp sp' me me' b) → zXM a sp' me' → Q none sp' me') : zCall mX9_init d 17 5293 [zR a] sp me Q := by
  refine z_met kX9_init (by simp) (by simp) ?_
  show zW mX9_init d 17 5293 Q 0 [zR a, zU] [] sp me
  have hC0 := zCo_0 hn hm hp
  refine z_L0R (pc' := 1) dX9_init_0 rfl ?_
  refine z_objinit (pc' := 4) oX9_1 dX9_init_1 rfl (by omega) (Nat.le_of_ble_eq_true rfl) ?_
  refine z_L0R (pc' := 5) dX9_init_4 rfl ?_
  refine z_sipush (pc' := 8) dX9_init_5 rfl (by decide) ?_
  refine z_naC (N' := a + 1) (r1' := 16) (r2' := 5012) (pc1 := 10) (pc' := 13) false 0 hC0 hs rfl dX9_init_8 rfl (by decide) (by decide) rfl rfl fX9_7 rfl ⟨_, rfl⟩ rfl rfl rfl dX9_init_10 rfl (fun sp1 me1 hC1 => ?_)
  refine z_L0R (pc' := 14) dX9_init_13 rfl ?_
  refine z_sipush (pc' := 17) dX9_init_14 rfl (by decide) ?_
  refine z_naC (N' := a + 2) (r1' := 15) (r2' := 3607) (pc1 := 19) (pc' := 22) false 1 hC1 hs rfl dX9_init_17 rfl (by decide) (by decide) rfl rfl fX9_13 rfl ⟨_, rfl⟩ rfl rfl rfl dX9_init_19 rfl (fun sp2 me2 hC2 => ?_)
  refine z_L0R (pc' := 23) dX9_init_22 rfl ?_
  refine z_sipush (pc' := 26) dX9_init_23 rfl (by decide) ?_
  refine z_naC (N' := a + 3) (r1' := 14) (r2' := 3326) (pc1 := 28) (pc' := 31) false 3 hC2 hs rfl dX9_init_26 rfl (by decide) (by decide) rfl rfl fX9_16 rfl ⟨_, rfl⟩ rfl rfl rfl dX9_init_28 rfl (fun sp3 me3 hC3 => ?_)
  refine z_L0R (pc' := 32) dX9_init_31 rfl ?_
  refine z_bipush (pc' := 34) dX9_init_32 rfl (by decide) ?_
  refine z_naC (N' := a + 4) (r1' := 13) (r2' := 3318) (pc1 := 36) (pc' := 39) false 5 hC3 hs rfl dX9_init_34 rfl (by decide) (by decide) rfl rfl fX9_19 rfl ⟨_, rfl⟩ rfl rfl rfl dX9_init_36 rfl (fun sp4 me4 hC4 => ?_)
  refine z_L0R (pc' := 40) dX9_init_39 rfl ?_
  refine z_sipush (pc' := 43) dX9_init_40 rfl (by decide) ?_
  refine z_naC (N' := a + 5) (r1' := 12) (r2' := 438) (pc1 := 45) (pc' := 48) false 6 hC4 hs rfl dX9_init_43 rfl (by decide) (by decide) rfl rfl fX9_22 rfl ⟨_, rfl⟩ rfl rfl rfl dX9_init_45 rfl (fun sp5 me5 hC5 => ?_)
  refine z_L0R (pc' := 49) dX9_init_48 rfl ?_
  refine z_bipush (pc' := 51) dX9_init_49 rfl (by decide) ?_
  refine z_naC (N' := a + 6) (r1' := 11) (r2' := 430) (pc1 := 53) (pc' := 56) false 7 hC5 hs rfl dX9_init_51 rfl (by decide) (by decide) rfl rfl fX9_25 rfl ⟨_, rfl⟩ rfl rfl rfl dX9_init_53 rfl (fun sp6 me6 hC6 => ?_)
  refine z_L0R (pc' := 57) dX9_init_56 rfl ?_
  refine z_bipush (pc' := 59) dX9_init_57 rfl (by decide) ?_
  refine z_naC (N' := a + 7) (r1' := 10) (r2' := 420) (pc1 := 61) (pc' := 64) false 8 hC6 hs rfl dX9_init_59 rfl (by decide) (by decide) rfl rfl fX9_28 rfl ⟨_, rfl⟩ rfl rfl rfl dX9_init_61 rfl (fun sp7 me7 hC7 => ?_)
  refine z_L0R (pc' := 65) dX9_init_64 rfl ?_
  refine z_bipush (pc' := 67) dX9_init_65 rfl (by decide) ?_
  refine z_naC (N' := a + 8) (r1' := 9) (r2' := 410) (pc1 := 69) (pc' := 72) false 9 hC7 hs rfl dX9_init_67 rfl (by decide) (by decide) rfl rfl fX9_31 rfl ⟨_, rfl⟩ rfl rfl rfl dX9_init_69 rfl (fun sp8 me8 hC8 => ?_)
  refine z_L0R (pc' := 73) dX9_init_72 rfl ?_
  refine z_bipush (pc' := 75) dX9_init_73 rfl (by decide) ?_
  refine z_naC (N' := a + 9) (r1' := 8) (r2' := 400) (pc1 := 77) (pc' := 80) false 10 hC8 hs rfl dX9_init_75 rfl (by decide) (by decide) rfl rfl fX9_34 rfl ⟨_, rfl⟩ rfl rfl rfl dX9_init_77 rfl (fun sp9 me9 hC9 => ?_)
  refine z_L0R (pc' := 81) dX9_init_80 rfl ?_
  refine z_bipush (pc' := 83) dX9_init_81 rfl (by decide) ?_
  refine z_naC (N' := a + 10) (r1' := 7) (r2' := 380) (pc1 := 85) (pc' := 88) false 11 hC9 hs rfl dX9_init_83 rfl (by decide) (by decide) rfl rfl fX9_37 rfl ⟨_, rfl⟩ rfl rfl rfl dX9_init_85 rfl (fun sp10 me10 hC10 => ?_)
  refine z_L0R (pc' := 89) dX9_init_88 rfl ?_
  refine z_bipush (pc' := 91) dX9_init_89 rfl (by decide) ?_
  refine z_naC (N' := a + 11) (r1' := 6) (r2' := 300) (pc1 := 93) (pc' := 96) false 12 hC10 hs rfl dX9_init_91 rfl (by decide) (by decide) rfl rfl fX9_40 rfl ⟨_, rfl⟩ rfl rfl rfl dX9_init_93 rfl (fun sp11 me11 hC11 => ?_)
  refine z_L0R (pc' := 97) dX9_init_96 rfl ?_
  refine z_bipush (pc' := 99) dX9_init_97 rfl (by decide) ?_
  refine z_naC (N' := a + 12) (r1' := 5) (r2' := 260) (pc1 := 101) (pc' := 104) false 16 hC11 hs rfl dX9_init_99 rfl (by decide) (by decide) rfl rfl fX9_43 rfl ⟨_, rfl⟩ rfl rfl rfl dX9_init_101 rfl (fun sp12 me12 hC12 => ?_)
  refine z_L0R (pc' := 105) dX9_init_104 rfl ?_
  refine z_bipush (pc' := 107) dX9_init_105 rfl (by decide) ?_
  refine z_naC (N' := a + 13) (r1' := 4) (r2' := 220) (pc1 := 109) (pc' := 112) false 17 hC12 hs rfl dX9_init_107 rfl (by decide) (by decide) rfl rfl fX9_46 rfl ⟨_, rfl⟩ rfl rfl rfl dX9_init_109 rfl (fun sp13 me13 hC13 => ?_)
  refine z_L0R (pc' := 113) dX9_init_112 rfl ?_
  refine z_bipush (pc' := 115) dX9_init_113 rfl (by decide) ?_
  refine z_naC (N' := a + 14) (r1' := 3) (r2' := 180) (pc1 := 117) (pc' := 120) true 18 hC13 hs rfl dX9_init_115 rfl (by decide) (by decide) rfl rfl fX9_49 rfl ⟨_, rfl⟩ rfl rfl rfl dX9_init_117 rfl (fun sp14 me14 hC14 => ?_)
  refine z_L0R (pc' := 121) dX9_init_120 rfl ?_
  refine z_bipush (pc' := 123) dX9_init_121 rfl (by decide) ?_
  refine z_naC (N' := a + 15) (r1' := 2) (r2' := 100) (pc1 := 125) (pc' := 128) false 19 hC14 hs rfl dX9_init_123 rfl (by decide) (by decide) rfl rfl fX9_53 rfl ⟨_, rfl⟩ rfl rfl rfl dX9_init_125 rfl (fun sp15 me15 hC15 => ?_)
  refine z_L0R (pc' := 129) dX9_init_128 rfl ?_
  refine z_bipush (pc' := 131) dX9_init_129 rfl (by decide) ?_
  refine z_naC (N' := a + 16) (r1' := 1) (r2' := 20) (pc1 := 133) (pc' := 136) false 20 hC15 hs rfl dX9_init_131 rfl (by decide) (by decide) rfl rfl fX9_56 rfl ⟨_, rfl⟩ rfl rfl rfl dX9_init_133 rfl (fun sp16 me16 hC16 => ?_)
  refine z_L0R (pc' := 137) dX9_init_136 rfl ?_
  refine z_bipush (pc' := 139) dX9_init_137 rfl (by decide) ?_
  refine z_naC (N' := a + 17) (r1' := 0) (r2' := 0) (pc1 := 141) (pc' := 144) false 21 hC16 hs rfl dX9_init_139 rfl (by decide) (by decide) rfl rfl fX9_59 rfl ⟨_, rfl⟩ rfl rfl rfl dX9_init_141 rfl (fun sp17 me17 hC17 => ?_)
  have hY : zMod sp17 a := ⟨zCo.s hC17 hs, zCo.p hC17 rfl, zCo.p hC17 rfl, zCo.p hC17 rfl, zCo.p hC17 rfl, zCo.p hC17 rfl, zCo.p hC17 rfl, zCo.p hC17 rfl, zCo.p hC17 rfl, zCo.p hC17 rfl, zCo.p hC17 rfl, zCo.p hC17 rfl, zCo.p hC17 rfl, zCo.p hC17 rfl, zCo.p hC17 rfl, zCo.p hC17 rfl, zCo.p hC17 rfl, zCo.p hC17 rfl, ((zCo.c hC17 (List.mem_cons_of_mem _ (List.mem_cons_of_mem _ (List.mem_cons_of_mem _ (List.mem_cons_of_mem _ (List.mem_cons_of_mem _ (List.mem_cons_of_mem _ (List.mem_cons_of_mem _ (List.mem_cons_of_mem _ (List.mem_cons_of_mem _ (List.mem_cons_of_mem _ (List.mem_cons_of_mem _ (List.mem_cons_of_mem _ (List.mem_cons_of_mem _ (List.mem_cons_of_mem _ (List.mem_cons_of_mem _ (List.mem_cons_of_mem _ List.mem_cons_self)))))))))))))))))).1, ((zCo.c hC17 (List.mem_cons_of_mem _ (List.mem_cons_of_mem _ (List.mem_cons_of_mem _ (List.mem_cons_of_mem _ (List.mem_cons_of_mem _ (List.mem_cons_of_mem _ (List.mem_cons_of_mem _ (List.mem_cons_of_mem _ (List.mem_cons_of_mem _ (List.mem_cons_of_mem _ (List.mem_cons_of_mem _ (List.mem_cons_of_mem _ (List.mem_cons_of_mem _ (List.mem_cons_of_mem _ (List.mem_cons_of_mem _ List.mem_cons_self))))))))))))))))).1, ((zCo.c hC17 (List.mem_cons_of_mem _ (List.mem_cons_of_mem _ (List.mem_cons_of_mem _ (List.mem_cons_of_mem _ (List.mem_cons_of_mem _ (List.mem_cons_of_mem _ (List.mem_cons_of_mem _ (List.mem_cons_of_mem _ (List.mem_cons_of_mem _ (List.mem_cons_of_mem _ (List.mem_cons_of_mem _ (List.mem_cons_of_mem _ (List.mem_cons_of_mem _ (List.mem_cons_of_mem _ List.mem_cons_self)))))))))))))))).1, ((zCo.c hC17 (List.mem_cons_of_mem _ (List.mem_cons_of_mem _ (List.mem_cons_of_mem _ (List.mem_cons_of_mem _ (List.mem_cons_of_mem _ (List.mem_cons_of_mem _ (List.mem_cons_of_mem _ (List.mem_cons_of_mem _ (List.mem_cons_of_mem _ (List.mem_cons_of_mem _ (List.mem_cons_of_mem _ (List.mem_cons_of_mem _ (List.mem_cons_of_mem _ List.mem_cons_self))))))))))))))).1, ((zCo.c hC17 (List.mem_cons_of_mem _ (List.mem_cons_of_mem _ (List.mem_cons_of_mem _ (List.mem_cons_of_mem _ (List.mem_cons_of_mem _ (List.mem_cons_of_mem _ (List.mem_cons_of_mem _ (List.mem_cons_of_mem _ (List.mem_cons_of_mem _ (List.mem_cons_of_mem _ (List.mem_cons_of_mem _ (List.mem_cons_of_mem _ List.mem_cons_self)))))))))))))).1, ((zCo.c hC17 (List.mem_cons_of_mem _ (List.mem_cons_of_mem _ (List.mem_cons_of_mem _ (List.mem_cons_of_mem _ (List.mem_cons_of_mem _ (List.mem_cons_of_mem _ (List.mem_cons_of_mem _ (List.mem_cons_of_mem _ (List.mem_cons_of_mem _ (List.mem_cons_of_mem _ (List.mem_cons_of_mem _ List.mem_cons_self))))))))))))).1, ((zCo.c hC17 (List.mem_cons_of_mem _ (List.mem_cons_of_mem _ (List.mem_cons_of_mem _ (List.mem_cons_of_mem _ (List.mem_cons_of_mem _ (List.mem_cons_of_mem _ (List.mem_cons_of_mem _ (List.mem_cons_of_mem _ (List.mem_cons_of_mem _ (List.mem_cons_of_mem _ List.mem_cons_self)))))))))))).1, ((zCo.c hC17 (List.mem_cons_of_mem _ (List.mem_cons_of_mem _ (List.mem_cons_of_mem _ (List.mem_cons_of_mem _ (List.mem_cons_of_mem _ (List.mem_cons_of_mem _ (List.mem_cons_of_mem _ (List.mem_cons_of_mem _ (List.mem_cons_of_mem _ List.mem_cons_self))))))))))).1, ((zCo.c hC17 (List.mem_cons_of_mem _ (List.mem_cons_of_mem _ (List.mem_cons_of_mem _ (List.mem_cons_of_mem _ (List.mem_cons_of_mem _ (List.mem_cons_of_mem _ (List.mem_cons_of_mem _ (List.mem_cons_of_mem _ List.mem_cons_self)))))))))).1, ((zCo.c hC17 (List.mem_cons_of_mem _ (List.mem_cons_of_mem _ (List.mem_cons_of_mem _ (List.mem_cons_of_mem _ (List.mem_cons_of_mem _ (List.mem_cons_of_mem _ (List.mem_cons_of_mem _ List.mem_cons_self))))))))).1, ((zCo.c hC17 (List.mem_cons_of_mem _ (List.mem_cons_of_mem _ (List.mem_cons_of_mem _ (List.mem_cons_of_mem _ (List.mem_cons_of_mem _ (List.mem_cons_of_mem _ List.mem_cons_self)))))))).1, ((zCo.c hC17 (List.mem_cons_of_mem _ (List.mem_cons_of_mem _ (List.mem_cons_of_mem _ (List.mem_cons_of_mem _ (List.mem_cons_of_mem _ List.mem_cons_self))))))).1, ((zCo.c hC17 (List.mem_cons_of_mem _ (List.mem_cons_of_mem _ (List.mem_cons_of_mem _ (List.mem_cons_of_mem _ List.mem_cons_self)))))).1, ((zCo.c hC17 (List.mem_cons_of_mem _ (List.mem_cons_of_mem _ (List.mem_cons_of_mem _ List.mem_cons_self))))).1, ((zCo.c hC17 (List.mem_cons_of_mem _ (List.mem_cons_of_mem _ List.mem_cons_self)))).1, ((zCo.c hC17 (List.mem_cons_of_mem _ List.mem_cons_self))).1, ((zCo.c hC17 List.mem_cons_self)).1⟩
  have hr0 : me17 (a + 1) = (fun _ => 0) := ((zCo.c hC17 (List.mem_cons_of_mem _ (List.mem_cons_of_mem _ (List.mem_cons_of_mem _ (List.mem_cons_of_mem _ (List.mem_cons_of_mem _ (List.mem_cons_of_mem _ (List.mem_cons_of_mem _ (List.mem_cons_of_mem _ (List.mem_cons_of_mem _ (List.mem_cons_of_mem _ (List.mem_cons_of_mem _ (List.mem_cons_of_mem _ (List.mem_cons_of_mem _ (List.mem_cons_of_mem _ (List.mem_cons_of_mem _ (List.mem_cons_of_mem _ List.mem_cons_self)))))))))))))))))).2
  have ht0 : me17 (a + 11) = (fun _ => 0) := ((zCo.c hC17 (List.mem_cons_of_mem _ (List.mem_cons_of_mem _ (List.mem_cons_of_mem _ (List.mem_cons_of_mem _ (List.mem_cons_of_mem _ (List.mem_cons_of_mem _ List.mem_cons_self)))))))).2
  refine z_iconst (pc' := 145) dX9_init_144 rfl (by unfold zin; decide) ?_
  refine z_S1I (pc' := 146) rfl dX9_init_145 rfl ?_
  suffices H : ∀ (n : Nat) (k : Int) (me' : zMe), 0 ≤ k → k ≤ 10 → 10 - k < n → (∀ p, 0 ≤ p → p < k → me' (a + 1) p = p ∧ me' (a + 1) (20 + p) = -5) → (∀ p, ¬ (0 ≤ p ∧ p < k) → ¬ (20 ≤ p ∧ p < 20 + k) → me' (a + 1) p = 0) → (∀ b, b ≠ a + 1 → me' b = me17 b) → zW mX9_init d 0 0 Q 146 [zR a, zI k] [] sp17 me' by
    exact H 11 0 me17 (by omega) (by omega) (by omega) (fun p p0 p1 => by omega) (fun p _ _ => by rw [hr0]) (fun _ _ => rfl)
  intro n
  induction n with
  | zero => intro k me' h0 h1 h2; omega
  | succ n ih =>
  intro k me' hk0 hk1 hk2 hrow hrest hfr
  refine z_L1I (pc' := 147) dX9_init_146 rfl ?_
  refine z_bipush (pc' := 149) dX9_init_147 rfl (by decide) ?_
  refine z_icmp_ge (tgt := 178) (pc' := 152) dX9_init_149 (by decide) rfl (fun h149 => ?_) (fun h149 => ?_)
  · refine z_return rfl rfl dX9_init_178 ?_
    obtain rfl : k = 10 := by omega
    have hz1 : ∀ p, 0 ≤ p → p < 10 → zid.1 p = p := fun p p0 p1 => (show zcut 10 (fun q => q) p = p from zcut_in _ _ _ p0 p1)
    have hz2 : ∀ p, 0 ≤ p → p < 10 → zid.2 p = 0 := fun p p0 p1 => (show zcut 10 (fun _ => 0) p = 0 from zcut_in _ _ _ p0 p1)
    refine hQ sp17 me' hC17.1 (fun b hb => ?_) ⟨hY, ⟨fun p p0 p1 => ?_, fun p p0 p1 => ?_, fun i i0 i1 => ?_, fun k k0 k1 => ⟨?_, fun m m0 m1 => ?_⟩, ?_, ?_, ?_⟩, ⟨?_, by decide, fun j S hj => ?_⟩, Or.inl ⟨?_, rfl⟩, ?_, ?_⟩
    · have h := zCo.f hC17 b hb
      exact ⟨h.1, h.2.1, by rw [hfr b (by omega)]; exact h.2.2⟩
    · show me' (a + 1) p = zid.1 p
      rw [hz1 p p0 p1]; exact (hrow p p0 p1).1
    · show me' (a + 1) (10 + zid.1 p) = zid.2 p
      rw [hz1 p p0 p1, hz2 p p0 p1]; exact hrest _ (by omega) (by omega)
    · show me' (a + 1) (20 + i) = zcut 10 (fun _ => -5) i
      rw [zcut_in _ _ _ i0 i1]; exact (hrow i i0 i1).2
    · exact hrest _ (by omega) (by omega)
    · have m2 : m < 0 := m1
      omega
    · exact hrest _ (by omega) (by omega)
    · exact hrest _ (by omega) (by omega)
    · exact hrest _ (by omega) (by omega)
    · rw [hfr a (by omega), zCo.m hC17]; rfl
    · cases hj
    · rw [hfr a (by omega), zCo.m hC17]
    · rw [hfr a (by omega), zCo.m hC17]; rfl
    · rw [hfr (a + 11) (by omega), ht0]; rfl
  · refine z_L0R (pc' := 153) dX9_init_152 rfl ?_
    refine z_getR (pc' := 156) (ki := 0) 0 fX9_7.l rfl rfl dX9_init_153 rfl hY.s hY.p0 ?_
    refine z_iconst (pc' := 157) dX9_init_156 rfl (by unfold zin; decide) ?_
    refine z_L1I (pc' := 158) dX9_init_157 rfl ?_
    refine z_iadd (pc' := 159) dX9_init_158 rfl (by unfold zin; omega) ?_
    refine z_L1I (pc' := 160) dX9_init_159 rfl ?_
    refine z_ist (pc' := 161) dX9_init_160 rfl hY.a1 (by omega) (by omega) ?_
    refine z_L0R (pc' := 162) dX9_init_161 rfl ?_
    refine z_getR (pc' := 165) (ki := 0) 0 fX9_7.l rfl rfl dX9_init_162 rfl hY.s hY.p0 ?_
    refine z_bipush (pc' := 167) dX9_init_165 rfl (by decide) ?_
    refine z_L1I (pc' := 168) dX9_init_167 rfl ?_
    refine z_iadd (pc' := 169) dX9_init_168 rfl (by unfold zin; omega) ?_
    refine z_bipush (pc' := 171) dX9_init_169 rfl (by decide) ?_
    refine z_ist (pc' := 172) dX9_init_171 rfl hY.a1 (by omega) (by omega) ?_
    refine z_inc1 (pc' := 175) rfl dX9_init_172 rfl (by unfold zin; omega) ?_
    refine z_goto (tgt := 146) dX9_init_175 (by decide) ?_
    refine ih (k + 1) _ (by omega) (by omega) (by omega) (fun p p0 p1 => ?_) (fun p p0 p1 => ?_) (fun b hb => by rw [zset_ne _ _ _ hb, zset_ne _ _ _ hb]; exact hfr b hb)
    · rw [zset_eq, zset_eq]
      by_cases e : p = k
      · subst e
        rw [zup_ne _ _ _ (by omega), show (0 : Int) + p = p by omega, zup_eq, zup_eq]
        exact ⟨rfl, rfl⟩
      · rw [zup_ne _ _ _ (by omega), zup_ne _ _ _ (by omega), zup_ne _ _ _ (by omega), zup_ne _ _ _ (by omega)]
        exact hrow p p0 (by omega)
    · rw [zset_eq, zset_eq, zup_ne _ _ _ (by omega), zup_ne _ _ _ (by omega)]
      exact hrest p (by omega) (by omega)
theorem n_mod : zNew mX9_init 1 17 5293 9 zXM := fun _ _ _ _ _ hd hn hs hp hm hQ => n_mod0 hd hn hs hp hm hQ
theorem zIA_0 : zIA 0 zA0 := by
  have hz1 : ∀ p, 0 ≤ p → p < 10 → zcut 10 (fun _ => -5) p = -5 := fun p p0 p1 => zcut_in _ _ _ p0 p1
  refine ⟨⟨zgR_id, ?_, ?_, ?_, ?_, ⟨by decide, by decide⟩, ⟨by decide, by decide⟩, ⟨by decide, by decide⟩⟩, fun S hS => absurd hS List.not_mem_nil, fun S hS => (by cases hS), ⟨by decide, by decide⟩, by decide⟩
  · show zHok (zcut 10 (fun _ => -5))
    exact ⟨fun i i0 i1 => Or.inl (hz1 i i0 i1), fun i hi => zcut_out _ _ _ hi⟩
  · show (0 : Int) = zpn (zcut 10 (fun _ => -5))
    have e : zpn (zcut 10 (fun _ => -5)) = zSm (fun _ => 0) 10 := zSm_congr _ (fun p p0 p1 => by
      (try dsimp only)
      rw [hz1 p p0 p1, if_neg (by omega)])
    rw [e]
    rfl
  · show zfv (fun _ => 0) (fun _ => 0)
    intro k _ _
    refine ⟨Int.le_refl _, by show (0 : Int) ≤ 10; decide, fun j j0 j1 => ?_⟩
    have : j < 0 := j1
    omega
  · show zlim (fun _ => 0) (fun _ => 0)
    intro k _ _
    show ([] : List Int).length ≤ 120
    decide
end ZNZ

