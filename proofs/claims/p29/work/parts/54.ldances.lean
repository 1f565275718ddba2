section ZLE
theorem ztry_s {H : Int → Int} {c : Int} {L : List Int} {R : zRg} {m : Int} (h : zkall (zac R c).1 H) : ztry H (c :: L) R m = ztry H L (zac R c) (m + 1) := if_pos (zkb_iff.2 h)
theorem ztry_e {H : Int → Int} {c : Int} {L : List Int} {R : zRg} {m : Int} (h : ¬ zkall (zac R c).1 H) : ztry H (c :: L) R m = m := if_neg (fun z => h (zkb_iff.1 z))
set_option maxRecDepth 100000 in
set_option maxHeartbeats 4000000 in
theorem l_dances {d : Nat} {sp : zSP} {me : zMe} {Q : zQ} {p f h m o c N : Nat} {sz cd H : Int → Int} {R : zRg} {k T b : Int} (hd : 3 ≤ d) (hN : sp.2.2 = N) (hp : sp.1 p = (1, 10)) (hf : sp.1 f = (1, 10)) (hh : sp.1 h = (1, 10)) (hm : sp.1 m = (1, 40)) (ho : sp.1 o = (1, 40)) (hc : sp.1 c = (1, 16)) (hpN : p ≤ N) (hfN : f ≤ N) (hhN : h ≤ N) (hmN : m ≤ N) (hoN : o ≤ N) (hcN : c ≤ N) (hpf : p ≠ f) (hph : p ≠ h) (hpm : p ≠ m) (hpo : p ≠ o) (hpc : p ≠ c) (hfh : f ≠ h) (hfm : f ≠ m) (hfo : f ≠ o) (hfc : f ≠ c) (hv : zfv sz cd) (hlm : zlim sz cd) (hF : gFg me m o c sz cd) (hC : gCt me c sz cd) (hR : zgR R.1 R.2) (hok : zHok H) (hD : gDn me p f R) (hH : ∀ i, 0 ≤ i → i < 10 → me h i = H i) (hk0 : 0 ≤ k) (hk1 : k < 8) (hT0 : 1 ≤ T) (hT1 : T ≤ 9) (hQ : ∀ sp' me' v, zXt 2 sp sp' → (∀ a, a ≤ N → a ≠ p → a ≠ f → me' a = me a) → ((ztry H (zrep T.toNat (zord (zsteps sz cd k) b)) R 0 = -5 ∧ v = ((zrep T.toNat (zord (zsteps sz cd k) b)).length : Int) ∧ gDn me' p f (zfo R (zrep T.toNat (zord (zsteps sz cd k) b)))) ∨ (ztry H (zrep T.toNat (zord (zsteps sz cd k) b)) R 0 = v ∧ 0 ≤ v ∧ v < ((zrep T.toNat (zord (zsteps sz cd k) b)).length : Int))) → Q (some (zI v)) sp' me') : zCall mL_dances d 2 20 [zR p, zR f, zR h, zR m, zR o, zR c, zI k, zI T, zI b] sp me Q := by
  refine z_met kL_dances (by simp) (by simp) ?_
  show zW mL_dances d 2 20 Q 0 [zR p, zR f, zR h, zR m, zR o, zR c, zI k, zI T, zI b, zU, zU, zU, zU, zU, zU] [] sp me
  refine z_bipush (pc' := 2) dL_dances_0 rfl (by decide) ?_
  refine z_nar (pc' := 4) (r1' := 1) (r2' := 10) (a := N + 1) dL_dances_2 rfl (by decide) (by decide) (by omega) (by omega) (by omega) (fun sp1 me1 hX1 hn1 hka1 hm1 => ?_)
  refine z_S9R (pc' := 6) rfl dL_dances_4 rfl ?_
  refine z_bipush (pc' := 8) dL_dances_6 rfl (by decide) ?_
  refine z_nar (pc' := 10) (r1' := 0) (r2' := 0) (a := N + 2) dL_dances_8 rfl (by decide) (by decide) (by omega) (by omega) (by omega) (fun sp2 me2 hX2 hn2 hka2 hm2 => ?_)
  have hX := hX1.tr hX2
  have hkb : sp2.1 (N + 1) = (1, 10) := hX2.s (by omega) hka1
  have hks : sp2.1 (N + 2) = (1, 10) := hka2
  have gp : sp2.1 p = (1, 10) := hX.s (by omega) hp
  have gf : sp2.1 f = (1, 10) := hX.s (by omega) hf
  have gh : sp2.1 h = (1, 10) := hX.s (by omega) hh
  have gm : sp2.1 m = (1, 40) := hX.s (by omega) hm
  have go : sp2.1 o = (1, 40) := hX.s (by omega) ho
  have gc : sp2.1 c = (1, 16) := hX.s (by omega) hc
  have hm2a : ∀ a, a ≤ N → me2 a = me a := fun a ha => by rw [hm2, hm1, zset_ne _ _ _ (by omega), zset_ne _ _ _ (by omega)]
  have hl120 := hlm k hk0 hk1
  have hck : me2 c (8 + k) = ((zsteps sz cd k).length : Int) := by rw [hm2a c hcN]; exact hC k hk0 hk1
  have hst := zsteps_ok hv hk0 hk1
  have hord := zord_vs (b := b) hst
  have hol := zord_len (zsteps sz cd k) b
  have hrl := zrep_len T.toNat (zord (zsteps sz cd k) b)
  rw [hol] at hrl
  have hrep := zrep_vs (n := T.toNat) hord
  have hrl2 : ((zrep T.toNat (zord (zsteps sz cd k) b)).length : Int) = T * ((zsteps sz cd k).length : Int) := by
    rw [hrl, Int.natCast_mul, Int.toNat_of_nonneg (by omega)]
  have hmul : T * ((zsteps sz cd k).length : Int) ≤ 9 * 120 := Int.mul_le_mul hT1 (by omega) (by omega) (by omega)
  have hmu0 : 0 ≤ T * ((zsteps sz cd k).length : Int) := Int.mul_nonneg (by omega) (by omega)
  refine z_S10R (pc' := 12) rfl dL_dances_10 rfl ?_
  refine z_L7I (pc' := 14) dL_dances_12 rfl ?_
  refine z_L5R (pc' := 16) dL_dances_14 rfl ?_
  refine z_bipush (pc' := 18) dL_dances_16 rfl (by decide) ?_
  refine z_L6I (pc' := 20) dL_dances_18 rfl ?_
  refine z_iadd (pc' := 21) dL_dances_20 rfl (by unfold zin; omega) ?_
  refine z_ild (pc' := 22) dL_dances_21 rfl gc (by omega) (by omega) ?_
  rw [hck]
  refine z_imul (pc' := 23) dL_dances_22 rfl (by unfold zin; omega) ?_
  refine z_S11I (pc' := 25) rfl dL_dances_23 rfl ?_
  refine z_iconst (pc' := 26) dL_dances_25 rfl (by unfold zin; decide) ?_
  refine z_S12I (pc' := 28) rfl dL_dances_26 rfl ?_
  suffices HH : ∀ (n : Nat) (j : Nat) (v13 v14 : zV) (me3 : zMe), j ≤ (zrep T.toNat (zord (zsteps sz cd k) b)).length → (zrep T.toNat (zord (zsteps sz cd k) b)).length - j < n → zndv v13 = true → zndv v14 = true → gDn me3 p f (zfo R ((zrep T.toNat (zord (zsteps sz cd k) b)).take j)) → ztry H ((zrep T.toNat (zord (zsteps sz cd k) b)).drop j) (zfo R ((zrep T.toNat (zord (zsteps sz cd k) b)).take j)) (j : Int) = ztry H (zrep T.toNat (zord (zsteps sz cd k) b)) R 0 → (∀ a, a ≤ N → a ≠ p → a ≠ f → me3 a = me a) → zW mL_dances d 0 0 Q 28 [zR p, zR f, zR h, zR m, zR o, zR c, zI k, zI T, zI b, zR (N + 1), zR (N + 2), zI (T * ((zsteps sz cd k).length : Int)), zI (j : Int), v13, v14] [] sp2 me3 by
    exact HH ((zrep T.toNat (zord (zsteps sz cd k) b)).length + 1) 0 zU zU me2 (by omega) (by omega) rfl rfl (hD.fr (hm2a p hpN) (hm2a f hfN)) rfl (fun a ha _ _ => hm2a a ha)
  intro n
  induction n with
  | zero => intro j v13 v14 me3 h0 h1; omega
  | succ n ih =>
  intro j v13 v14 me3 hj0 hj1 hv13 hv14 hN3 hT3 hF3
  refine z_L12I (pc' := 30) dL_dances_28 rfl ?_
  refine z_L11I (pc' := 32) dL_dances_30 rfl ?_
  refine z_icmp_ge (tgt := 144) (pc' := 35) dL_dances_32 (by decide) rfl (fun h32 => ?_) (fun h32 => ?_)
  · refine z_L11I (pc' := 146) dL_dances_144 rfl ?_
    refine z_ireturn rfl rfl dL_dances_146 ?_
    have ej : j = (zrep T.toNat (zord (zsteps sz cd k) b)).length := by omega
    subst ej
    rw [List.take_length] at hN3
    rw [List.drop_length] at hT3
    rw [← hrl2]
    exact hQ sp2 me3 _ hX hF3 (Or.inl ⟨hT3.symm, rfl, hN3⟩)
  · have hjl : j < (zrep T.toNat (zord (zsteps sz cd k) b)).length := by omega
    have hm3 := hF3 m hmN (Ne.symm hpm) (Ne.symm hfm)
    have ho3 := hF3 o hoN (Ne.symm hpo) (Ne.symm hfo)
    have hc3 := hF3 c hcN (Ne.symm hpc) (Ne.symm hfc)
    have hh3 := hF3 h hhN (Ne.symm hph) (Ne.symm hfh)
    have hck3 : me3 c (8 + k) = ((zsteps sz cd k).length : Int) := by rw [hc3]; exact hC k hk0 hk1
    have hlp : 0 < (zsteps sz cd k).length := by
      rcases Nat.eq_zero_or_pos (zsteps sz cd k).length with z | z
      · rw [z, Nat.mul_zero] at hrl; omega
      · exact z
    have hrg := zrep_get (O := zord (zsteps sz cd k) b) T.toNat j (by rw [hol, ← hrl]; exact hjl)
    rw [hol] at hrg
    have hmod : (j : Int) % ((zsteps sz cd k).length : Int) = ((j % (zsteps sz cd k).length : Nat) : Int) := (Int.natCast_emod _ _).symm
    have hml := Nat.mod_lt j hlp
    have hFg3 : gFg me3 m o c sz cd := hF.cg hm3 ho3 (fun k _ _ => by rw [hc3])
    have hCt3 : gCt me3 c sz cd := hC.cg hc3
    have hcv := hrep _ (zgetD_mem hjl)
    have hcv4 : (zrep T.toNat (zord (zsteps sz cd k) b)).getD j 0 < 400 := by unfold zvs at hcv; omega
    have hRg := zgR_fo (L := (zrep T.toNat (zord (zsteps sz cd k) b)).take j) (fun c hc => hrep c (List.mem_of_mem_take hc)) (R := R) hR
    have hRg2 := zgR_ac hRg hcv
    have hdc := zdrop_cons hjl
    refine z_L12I (pc' := 37) dL_dances_35 rfl ?_
    refine z_L5R (pc' := 39) dL_dances_37 rfl ?_
    refine z_bipush (pc' := 41) dL_dances_39 rfl (by decide) ?_
    refine z_L6I (pc' := 43) dL_dances_41 rfl ?_
    refine z_iadd (pc' := 44) dL_dances_43 rfl (by unfold zin; omega) ?_
    refine z_ild (pc' := 45) dL_dances_44 rfl gc (by omega) (by omega) ?_
    rw [hck3]
    refine z_irem (pc' := 46) dL_dances_45 rfl (by omega) (by omega) ?_
    rw [hmod]
    refine z_S13I (pc' := 48) rfl dL_dances_46 rfl ?_
    have key94 : ∀ v : Int, v = (zrep T.toNat (zord (zsteps sz cd k) b)).getD j 0 → zW mL_dances d 0 0 Q 94 [zR p, zR f, zR h, zR m, zR o, zR c, zI k, zI T, zI b, zR (N + 1), zR (N + 2), zI (T * ((zsteps sz cd k).length : Int)), zI (j : Int), zI ((j % (zsteps sz cd k).length : Nat) : Int), v14] [zI v] sp2 me3 := fun v hvv => by
      subst hvv
      refine z_S14I (pc' := 96) rfl dL_dances_94 rfl ?_
      refine z_L0R (pc' := 97) dL_dances_96 rfl ?_
      refine z_L9R (pc' := 99) dL_dances_97 rfl ?_
      refine z_S20 (pc' := 102) kL_copy lL_27 dL_dances_99 rfl (by omega) (Nat.le_of_ble_eq_true rfl) ?_
      refine l_copy gp hkb (by omega) (fun me4 hA4 hF4 => zK0_i ?_)
      refine z_L1R (pc' := 103) dL_dances_102 rfl ?_
      refine z_L10R (pc' := 105) dL_dances_103 rfl ?_
      refine z_S20 (pc' := 108) kL_copy lL_27 dL_dances_105 rfl (by omega) (Nat.le_of_ble_eq_true rfl) ?_
      refine l_copy gf hks (by omega) (fun me5 hA5 hF5 => zK0_i ?_)
      have hD5 : gDn me5 p f (zfo R ((zrep T.toNat (zord (zsteps sz cd k) b)).take j)) := hN3.fr (by rw [hF5 p (by omega), hF4 p (by omega)]) (by rw [hF5 f (by omega), hF4 f (by omega)])
      refine z_L0R (pc' := 109) dL_dances_108 rfl ?_
      refine z_L1R (pc' := 110) dL_dances_109 rfl ?_
      refine z_L14I (pc' := 112) dL_dances_110 rfl ?_
      refine z_S30 (pc' := 115) kL_make lL_31 dL_dances_112 rfl (by omega) (Nat.le_of_ble_eq_true rfl) ?_
      refine l_make gp gf hpf hRg hcv hcv4 hD5 (fun me6 hD6 hF6 => zK0_i ?_)
      have hF6a : ∀ a, a ≤ N → a ≠ p → a ≠ f → me6 a = me a := fun a ha h1 h2 => by rw [hF6 a h1 h2, hF5 a (by omega), hF4 a (by omega)]; exact hF3 a ha h1 h2
      refine z_L0R (pc' := 116) dL_dances_115 rfl ?_
      refine z_L2R (pc' := 117) dL_dances_116 rfl ?_
      refine z_S2v (pc' := 120) kL_holds lL_35 dL_dances_117 rfl (by omega) (Nat.le_of_ble_eq_true rfl) ?_
      refine l_holdsR (by omega) gp gh hRg2 hok (fun i i0 i1 => (hD6 i i0 i1).1) (fun i i0 i1 => by rw [hF6a h hhN (Ne.symm hph) (Ne.symm hfh)]; exact hH i i0 i1) (fun hka => zKv_i ?_) (fun hka => zKv_i ?_)
      · refine z_if_ne (tgt := 138) (pc' := 123) dL_dances_120 (by decide) rfl (fun z => ?_) (fun z => absurd z (by decide))
        refine z_inc12 (pc' := 141) rfl dL_dances_138 rfl (by unfold zin; omega) ?_
        refine z_goto (tgt := 28) dL_dances_141 (by decide) ?_
        refine ih (j + 1) _ _ me6 (by omega) (by omega) rfl rfl (by rw [zfo_take hjl]; exact hD6) ?_ hF6a
        rw [hdc, ztry_s hka] at hT3
        rw [zfo_take hjl]
        exact hT3
      · refine z_if_ne (tgt := 138) (pc' := 123) dL_dances_120 (by decide) rfl (fun z => absurd rfl z) (fun z => ?_)
        refine z_L9R (pc' := 125) dL_dances_123 rfl ?_
        refine z_L0R (pc' := 126) dL_dances_125 rfl ?_
        refine z_S20 (pc' := 129) kL_copy lL_27 dL_dances_126 rfl (by omega) (Nat.le_of_ble_eq_true rfl) ?_
        refine l_copy hkb gp (by omega) (fun me7 hA7 hF7 => zK0_i ?_)
        refine z_L10R (pc' := 131) dL_dances_129 rfl ?_
        refine z_L1R (pc' := 132) dL_dances_131 rfl ?_
        refine z_S20 (pc' := 135) kL_copy lL_27 dL_dances_132 rfl (by omega) (Nat.le_of_ble_eq_true rfl) ?_
        refine l_copy hks gf (by omega) (fun me8 hA8 hF8 => zK0_i ?_)
        refine z_L12I (pc' := 137) dL_dances_135 rfl ?_
        refine z_ireturn rfl rfl dL_dances_137 ?_
        refine hQ sp2 me8 (j : Int) hX (fun a ha h1 h2 => by rw [hF8 a h2, hF7 a h1]; exact hF6a a ha h1 h2) (Or.inr ⟨?_, by omega, by omega⟩)
        rw [hdc, ztry_e hka] at hT3
        exact hT3.symm
      skip
    refine z_L8I (pc' := 50) dL_dances_48 rfl ?_
    refine z_if_eq (tgt := 82) (pc' := 53) dL_dances_50 (by decide) rfl (fun h50 => ?_) (fun h50 => ?_)
    · refine z_L3R (pc' := 83) dL_dances_82 rfl ?_
      refine z_L4R (pc' := 85) dL_dances_83 rfl ?_
      refine z_L5R (pc' := 87) dL_dances_85 rfl ?_
      refine z_L6I (pc' := 89) dL_dances_87 rfl ?_
      refine z_L13I (pc' := 91) dL_dances_89 rfl ?_
      refine z_S5v (pc' := 94) kL_step lL_19 dL_dances_91 rfl (by omega) (Nat.le_of_ble_eq_true rfl) ?_
      refine l_step (by omega) gm go gc hv hFg3 hCt3 hk0 hk1 (by omega) (by omega) (zKv_i ?_)
      refine key94 _ ?_
      rw [hrg, Int.toNat_natCast, show zord (zsteps sz cd k) b = zsteps sz cd k from if_pos (by omega)]
      skip
    · refine z_L3R (pc' := 54) dL_dances_53 rfl ?_
      refine z_L4R (pc' := 56) dL_dances_54 rfl ?_
      refine z_L5R (pc' := 58) dL_dances_56 rfl ?_
      refine z_L6I (pc' := 60) dL_dances_58 rfl ?_
      refine z_L5R (pc' := 62) dL_dances_60 rfl ?_
      refine z_bipush (pc' := 64) dL_dances_62 rfl (by decide) ?_
      refine z_L6I (pc' := 66) dL_dances_64 rfl ?_
      refine z_iadd (pc' := 67) dL_dances_66 rfl (by unfold zin; omega) ?_
      refine z_ild (pc' := 68) dL_dances_67 rfl gc (by omega) (by omega) ?_
      rw [hck3]
      refine z_iconst (pc' := 69) dL_dances_68 rfl (by unfold zin; decide) ?_
      refine z_isub (pc' := 70) dL_dances_69 rfl (by unfold zin; omega) ?_
      refine z_L13I (pc' := 72) dL_dances_70 rfl ?_
      refine z_isub (pc' := 73) dL_dances_72 rfl (by unfold zin; omega) ?_
      refine z_S5v (pc' := 76) kL_step lL_19 dL_dances_73 rfl (by omega) (Nat.le_of_ble_eq_true rfl) ?_
      refine l_step (by omega) gm go gc hv hFg3 hCt3 hk0 hk1 (by omega) (by omega) (zKv_i ?_)
      refine z_S1v (pc' := 79) kL_backwards lL_23 dL_dances_76 rfl (by omega) (Nat.le_of_ble_eq_true rfl) ?_
      have hi2 : (((zsteps sz cd k).length : Int) - 1 - ((j % (zsteps sz cd k).length : Nat) : Int)).toNat = (zsteps sz cd k).length - 1 - j % (zsteps sz cd k).length := by omega
      rw [hi2]
      have hs9 := hst _ (zgetD_mem (L := zsteps sz cd k) (i := (zsteps sz cd k).length - 1 - j % (zsteps sz cd k).length) (by omega))
      refine l_backwards hs9.1 hs9.2 (zKv_i ?_)
      refine z_goto (tgt := 94) dL_dances_79 (by decide) ?_
      refine key94 _ ?_
      rw [hrg, zord_get (by omega) hml]
      skip
end ZLE

