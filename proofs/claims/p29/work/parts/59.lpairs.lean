section ZLI
theorem vAl {A : zAb} {k j : Int} (k0 : 0 ≤ k) (k1 : k < 8) (j0 : 0 ≤ j) (j1 : j < 8) : (zsame (zE A k) (zE A j) → zoAlike A k j = 1) ∧ (¬ zsame (zE A k) (zE A j) → zoAlike A k j = 0) := by
  unfold zoAlike
  rw [zif_neg (by omega)]
  exact ⟨fun h => zif_pos h, fun h => zif_neg h⟩
theorem vAl8 {A : zAb} : zoAlike A 8 0 = -1 := zif_pos (by omega)
theorem vCo {A : zAb} {k j : Int} (k0 : 0 ≤ k) (k1 : k < 8) (j0 : 0 ≤ j) (j1 : j < 8) : (zsame (zact (zE A k) (zE A j)) (zact (zE A j) (zE A k)) → zoCommute A k j = 1) ∧ (¬ zsame (zact (zE A k) (zE A j)) (zact (zE A j) (zE A k)) → zoCommute A k j = 0) := by
  unfold zoCommute
  rw [zif_neg (by omega)]
  exact ⟨fun h => zif_pos h, fun h => zif_neg h⟩
theorem zsame_sy {R R' : zRg} (h : zsame R R') : zsame R' R := fun p p0 p1 => ⟨(h p p0 p1).1.symm, (h p p0 p1).2.symm⟩
def gFl (v : Int) (P : Int → Prop) (i : Int) : Prop := (v = 1 ∧ ∀ j, 0 ≤ j → j < i → P j) ∨ (v = 0 ∧ ¬ ∀ j, 0 ≤ j → j < 10 → P j)
theorem gFl.s {v : Int} {P : Int → Prop} {i : Int} (h : gFl v P i) (hp : P i) : gFl v P (i + 1) := by
  rcases h with ⟨h1, h2⟩ | h
  · exact Or.inl ⟨h1, zall_up h2 hp⟩
  · exact Or.inr h
theorem gFl.n {P : Int → Prop} {i : Int} (i0 : 0 ≤ i) (i1 : i < 10) (hp : ¬ P i) : gFl 0 P (i + 1) := Or.inr ⟨rfl, fun z => hp (z i i0 i1)⟩
set_option maxRecDepth 100000 in
set_option maxHeartbeats 4000000 in
theorem l_arePairs9 {d : Nat} {sp : zSP} {me : zMe} {Q : zQ} {A : zAb} {B k j : Int} {N : Nat} (hd : 22 ≤ d) (hN : sp.2.2 = N) (hW : gLW sp) (hI : zIA B A) (hR : gRR me A) (k0 : 0 ≤ k) (k1 : k < 8) (j0 : 0 ≤ j) (j1 : j < 8) (hQ : ∀ sp' me', zXt 4 sp sp' → gRR me' A → Q (some (zI 1)) sp' me') : zCall mL_arePairs d 4 40 [zR 1, zR 170, zR 171, zR 172, zI k, zI j] sp me Q := by
  refine z_met kL_arePairs (by simp) (by simp) ?_
  show zW mL_arePairs d 4 40 Q 0 [zR 1, zR 170, zR 171, zR 172, zI k, zI j, zU, zU, zU, zU, zU, zU, zU] [] sp me
  have hWN : 175 ≤ N := by rw [← hN]; exact hW.2.1
  refine z_bipush (pc' := 2) dL_arePairs_0 rfl (by decide) ?_
  refine z_nar (pc' := 4) (r1' := 3) (r2' := 30) (a := N + 1) dL_arePairs_2 rfl (by decide) (by decide) (by omega) (by omega) (by omega) (fun sp1 me1 hX1 hn1 hka1 hm1 => ?_)
  refine z_S6R (pc' := 6) rfl dL_arePairs_4 rfl ?_
  refine z_bipush (pc' := 8) dL_arePairs_6 rfl (by decide) ?_
  refine z_nar (pc' := 10) (r1' := 2) (r2' := 20) (a := N + 2) dL_arePairs_8 rfl (by decide) (by decide) (by omega) (by omega) (by omega) (fun sp2 me2 hX2 hn2 hka2 hm2 => ?_)
  refine z_S7R (pc' := 12) rfl dL_arePairs_10 rfl ?_
  refine z_bipush (pc' := 14) dL_arePairs_12 rfl (by decide) ?_
  refine z_nar (pc' := 16) (r1' := 1) (r2' := 10) (a := N + 3) dL_arePairs_14 rfl (by decide) (by decide) (by omega) (by omega) (by omega) (fun sp3 me3 hX3 hn3 hka3 hm3 => ?_)
  refine z_S8R (pc' := 18) rfl dL_arePairs_16 rfl ?_
  refine z_bipush (pc' := 20) dL_arePairs_18 rfl (by decide) ?_
  refine z_nar (pc' := 22) (r1' := 0) (r2' := 0) (a := N + 4) dL_arePairs_20 rfl (by decide) (by decide) (by omega) (by omega) (by omega) (fun sp4 me4 hX4 hn4 hka4 hm4 => ?_)
  have hX := ((hX1.tr hX2).tr hX3).tr hX4
  have hW4 := hW.mono hX
  have g1 : sp4.1 (N + 1) = (1, 10) := ((hX2.tr hX3).tr hX4).s (by omega) hka1
  have g2 : sp4.1 (N + 2) = (1, 10) := (hX3.tr hX4).s (by omega) hka2
  have g3 : sp4.1 (N + 3) = (1, 10) := hX4.s (by omega) hka3
  have g4 : sp4.1 (N + 4) = (1, 10) := hka4
  have hm4a : ∀ a, a ≤ N → me4 a = me a := fun a ha => by rw [hm4, hm3, hm2, hm1, zset_ne _ _ _ (by omega), zset_ne _ _ _ (by omega), zset_ne _ _ _ (by omega), zset_ne _ _ _ (by omega)]
  have hR4 : gRR me4 A := hR.cg (fun a _ h2 => hm4a a (by omega))
  obtain ⟨hx, hsz, hp, hf, hh, hm, ho, hc, ht, he, hg⟩ := hW4
  have hv := hI.1.2.2.2.1
  have hlm := hI.1.2.2.2.2.1
  have hE1 := zgR_E hI k0 k1
  have hE2 := zgR_E hI j0 j1
  refine z_S9R (pc' := 24) rfl dL_arePairs_22 rfl ?_
  refine z_L6R (pc' := 26) dL_arePairs_24 rfl ?_
  refine z_L7R (pc' := 28) dL_arePairs_26 rfl ?_
  refine z_L1R (pc' := 29) dL_arePairs_28 rfl ?_
  refine z_L2R (pc' := 30) dL_arePairs_29 rfl ?_
  refine z_L3R (pc' := 31) dL_arePairs_30 rfl ?_
  refine z_L4I (pc' := 33) dL_arePairs_31 rfl ?_
  refine z_S60 (pc' := 36) kL_effect lL_68 dL_arePairs_33 rfl (by omega) (Nat.le_of_ble_eq_true rfl) ?_
  refine l_effect (by omega) g1 g2 hm ho hc (by omega) (by omega) (by omega) (by omega) (by omega) (by omega) (by omega) hv hlm hR4.2.2.2.1 hR4.2.2.2.2.1 k0 k1 (fun me5 hD5 hF5 => zK0_i ?_)
  have hR5 : gRR me5 A := hR4.cg (fun a _ h2 => hF5 a (by omega) (by omega))
  refine z_L8R (pc' := 38) dL_arePairs_36 rfl ?_
  refine z_L9R (pc' := 40) dL_arePairs_38 rfl ?_
  refine z_L1R (pc' := 41) dL_arePairs_40 rfl ?_
  refine z_L2R (pc' := 42) dL_arePairs_41 rfl ?_
  refine z_L3R (pc' := 43) dL_arePairs_42 rfl ?_
  refine z_L5I (pc' := 45) dL_arePairs_43 rfl ?_
  refine z_S60 (pc' := 48) kL_effect lL_68 dL_arePairs_45 rfl (by omega) (Nat.le_of_ble_eq_true rfl) ?_
  refine l_effect (by omega) g3 g4 hm ho hc (by omega) (by omega) (by omega) (by omega) (by omega) (by omega) (by omega) hv hlm hR5.2.2.2.1 hR5.2.2.2.2.1 j0 j1 (fun me6 hD6 hF6 => zK0_i ?_)
  have hR6 : gRR me6 A := hR5.cg (fun a _ h2 => hF6 a (by omega) (by omega))
  have hG1 : gDn me6 (N + 1) (N + 2) (zE A k) := hD5.fr (hF6 _ (by omega) (by omega)) (hF6 _ (by omega) (by omega))
  have hG2 : gDn me6 (N + 3) (N + 4) (zE A j) := hD6
  refine z_iconst (pc' := 49) dL_arePairs_48 rfl (by unfold zin; decide) ?_
  refine z_S10I (pc' := 51) rfl dL_arePairs_49 rfl ?_
  refine z_iconst (pc' := 52) dL_arePairs_51 rfl (by unfold zin; decide) ?_
  refine z_S11I (pc' := 54) rfl dL_arePairs_52 rfl ?_
  refine z_iconst (pc' := 55) dL_arePairs_54 rfl (by unfold zin; decide) ?_
  refine z_S12I (pc' := 57) rfl dL_arePairs_55 rfl ?_
  suffices H : ∀ (n : Nat) (i a b : Int), 0 ≤ i → i ≤ 10 → 10 - i < n → gFl a (fun i => me6 (N + 1) i = me6 (N + 3) i ∧ me6 (N + 2) i = me6 (N + 4) i) i → gFl b (fun i => me6 (N + 3) (me6 (N + 1) i) = me6 (N + 1) (me6 (N + 3) i) ∧ (me6 (N + 2) i + me6 (N + 4) (me6 (N + 1) i) - me6 (N + 4) i - me6 (N + 2) (me6 (N + 3) i)) % 4 = 0) i → zW mL_arePairs d 0 0 Q 57 [zR 1, zR 170, zR 171, zR 172, zI k, zI j, zR (N + 1), zR (N + 2), zR (N + 3), zR (N + 4), zI a, zI b, zI i] [] sp4 me6 by
    exact H 11 0 1 1 (by omega) (by omega) (by omega) (Or.inl ⟨rfl, fun j j0 j1 => by omega⟩) (Or.inl ⟨rfl, fun j j0 j1 => by omega⟩)
  intro n
  induction n with
  | zero => intro i a b h0 h1 h2; omega
  | succ n ih =>
  intro i a b hi0 hi1 hi2 ha hb
  refine z_L12I (pc' := 59) dL_arePairs_57 rfl ?_
  refine z_bipush (pc' := 61) dL_arePairs_59 rfl (by decide) ?_
  refine z_icmp_ge (tgt := 165) (pc' := 64) dL_arePairs_61 (by decide) rfl (fun h61 => ?_) (fun h61 => ?_)
  · obtain rfl : i = 10 := by omega
    have hal := vAl (A := A) k0 k1 j0 j1
    have hco := vCo (A := A) k0 k1 j0 j1
    have hoc := vCo (A := A) j0 j1 k0 k1
    have eal : zoAlike A k j = a := by
      rcases ha with ⟨h1, h2⟩ | ⟨h1, h2⟩
      · rw [h1]
        refine hal.1 ((zsame_iff hE1 hE2).2 (fun p p0 p1 => ?_))
        have h3 : me6 (N + 1) p = me6 (N + 3) p ∧ me6 (N + 2) p = me6 (N + 4) p := h2 p p0 p1
        rw [(hG1 p p0 p1).1, (hG2 p p0 p1).1, (hG1 p p0 p1).2, (hG2 p p0 p1).2] at h3
        exact h3
      · rw [h1]
        refine hal.2 (fun z => h2 (fun p p0 p1 => ?_))
        have h3 := (zsame_iff hE1 hE2).1 z p p0 p1
        show me6 (N + 1) p = me6 (N + 3) p ∧ me6 (N + 2) p = me6 (N + 4) p
        rw [(hG1 p p0 p1).1, (hG2 p p0 p1).1, (hG1 p p0 p1).2, (hG2 p p0 p1).2]
        exact h3
    have hkey : ∀ p, 0 ≤ p → p < 10 → ((me6 (N + 3) (me6 (N + 1) p) = me6 (N + 1) (me6 (N + 3) p) ∧ (me6 (N + 2) p + me6 (N + 4) (me6 (N + 1) p) - me6 (N + 4) p - me6 (N + 2) (me6 (N + 3) p)) % 4 = 0) ↔ (zpl (zE A j).1 (zpl (zE A k).1 p) = zpl (zE A k).1 (zpl (zE A j).1 p) ∧ ((zE A k).2 (zpl (zE A k).1 p) + (zE A j).2 (zpl (zE A j).1 (zpl (zE A k).1 p))) % 4 = ((zE A j).2 (zpl (zE A j).1 p) + (zE A k).2 (zpl (zE A k).1 (zpl (zE A j).1 p))) % 4)) := fun p p0 p1 => by
      have c1 := hG1 p p0 p1
      have c2 := hG2 p p0 p1
      have d1 := zpl_ok hE1 p0 p1
      have d2 := zpl_ok hE2 p0 p1
      have c3 := hG2 _ d1.1 d1.2.1
      have c4 := hG1 _ d2.1 d2.2.1
      rw [c1.1, c2.1, c3.1, c4.1, c1.2, c2.2, c3.2, c4.2]
      omega
    have eco : zoCommute A k j = b ∧ zoCommute A j k = b := by
      rcases hb with ⟨h1, h2⟩ | ⟨h1, h2⟩
      · rw [h1]
        have hs := (zact_same hE1 hE2).2 (fun p p0 p1 => (hkey p p0 p1).1 (h2 p p0 p1))
        exact ⟨hco.1 hs, hoc.1 (zsame_sy hs)⟩
      · rw [h1]
        have hs : ¬ zsame (zact (zE A k) (zE A j)) (zact (zE A j) (zE A k)) := fun z => h2 (fun p p0 p1 => (hkey p p0 p1).2 ((zact_same hE1 hE2).1 z p p0 p1))
        exact ⟨hco.2 hs, hoc.2 (fun z => hs (zsame_sy z))⟩
    refine z_L0R (pc' := 166) dL_arePairs_165 rfl ?_
    refine z_L4I (pc' := 168) dL_arePairs_166 rfl ?_
    refine z_L5I (pc' := 170) dL_arePairs_168 rfl ?_
    refine z_V2v (pc' := 173) (ci := 8) kX8_alike lL_89 dL_arePairs_170 rfl (by omega) (Nat.le_of_ble_eq_true rfl) (by decide) rfl hx.s ?_
    refine x_alike (by omega) hx hR6.1 hI (fun me7 hX7 hF7 => zKv_i ?_)
    have hR7 := hR6.x hX7 hF7
    rw [eal]
    refine z_L10I (pc' := 175) dL_arePairs_173 rfl ?_
    refine z_icmp_ne (tgt := 219) (pc' := 178) dL_arePairs_175 (by decide) rfl (fun h175 => absurd h175 (by omega)) (fun h175 => ?_)
    refine z_L0R (pc' := 179) dL_arePairs_178 rfl ?_
    refine z_L4I (pc' := 181) dL_arePairs_179 rfl ?_
    refine z_L5I (pc' := 183) dL_arePairs_181 rfl ?_
    refine z_V2v (pc' := 186) (ci := 8) kX8_commute lL_92 dL_arePairs_183 rfl (by omega) (Nat.le_of_ble_eq_true rfl) (by decide) rfl hx.s ?_
    refine x_commute (by omega) hx hR7.1 hI (fun me8 hX8 hF8 => zKv_i ?_)
    have hR8 := hR7.x hX8 hF8
    rw [eco.1]
    refine z_L11I (pc' := 188) dL_arePairs_186 rfl ?_
    refine z_icmp_ne (tgt := 219) (pc' := 191) dL_arePairs_188 (by decide) rfl (fun h188 => absurd h188 (by omega)) (fun h188 => ?_)
    refine z_L0R (pc' := 192) dL_arePairs_191 rfl ?_
    refine z_L5I (pc' := 194) dL_arePairs_192 rfl ?_
    refine z_L4I (pc' := 196) dL_arePairs_194 rfl ?_
    refine z_V2v (pc' := 199) (ci := 8) kX8_commute lL_92 dL_arePairs_196 rfl (by omega) (Nat.le_of_ble_eq_true rfl) (by decide) rfl hx.s ?_
    refine x_commute (by omega) hx hR8.1 hI (fun me9 hX9 hF9 => zKv_i ?_)
    have hR9 := hR8.x hX9 hF9
    rw [eco.2]
    refine z_L11I (pc' := 201) dL_arePairs_199 rfl ?_
    refine z_icmp_ne (tgt := 219) (pc' := 204) dL_arePairs_201 (by decide) rfl (fun h201 => absurd h201 (by omega)) (fun h201 => ?_)
    refine z_L0R (pc' := 205) dL_arePairs_204 rfl ?_
    refine z_bipush (pc' := 207) dL_arePairs_205 rfl (by decide) ?_
    refine z_iconst (pc' := 208) dL_arePairs_207 rfl (by unfold zin; decide) ?_
    refine z_V2v (pc' := 211) (ci := 8) kX8_alike lL_89 dL_arePairs_208 rfl (by omega) (Nat.le_of_ble_eq_true rfl) (by decide) rfl hx.s ?_
    refine x_alike (by omega) hx hR9.1 hI (fun me10 hX10 hF10 => zKv_i ?_)
    have hR10 := hR9.x hX10 hF10
    rw [vAl8]
    refine z_iconst (pc' := 212) dL_arePairs_211 rfl (by unfold zin; decide) ?_
    refine z_icmp_ne (tgt := 219) (pc' := 215) dL_arePairs_212 (by decide) rfl (fun h212 => absurd h212 (by omega)) (fun h212 => ?_)
    refine z_iconst (pc' := 216) dL_arePairs_215 rfl (by unfold zin; decide) ?_
    refine z_goto (tgt := 220) dL_arePairs_216 (by decide) ?_
    refine z_zreturn rfl rfl dL_arePairs_220 (by omega) ?_
    exact hQ sp4 me10 hX hR10
  · have b1 := hG1.bd hE1 hi0 (show i < 10 by omega)
    have b2 := hG2.bd hE2 hi0 (show i < 10 by omega)
    have b3 := hG2.bd hE2 b1.1 b1.2.1
    have b4 := hG1.bd hE1 b2.1 b2.2.1
    have hrm := gRm_4 (x := me6 (N + 2) i + me6 (N + 4) (me6 (N + 1) i) - me6 (N + 4) i - me6 (N + 2) (me6 (N + 3) i)) (by omega) (by omega)
    refine z_L6R (pc' := 66) dL_arePairs_64 rfl ?_
    refine z_L12I (pc' := 68) dL_arePairs_66 rfl ?_
    refine z_ild (pc' := 69) dL_arePairs_68 rfl g1 (by omega) (by omega) ?_
    refine z_L8R (pc' := 71) dL_arePairs_69 rfl ?_
    refine z_L12I (pc' := 73) dL_arePairs_71 rfl ?_
    refine z_ild (pc' := 74) dL_arePairs_73 rfl g3 (by omega) (by omega) ?_
    refine z_icmp_ne (tgt := 95) (pc' := 77) dL_arePairs_74 (by decide) rfl (fun h74 => ?_) (fun h74 => ?_)
    · refine z_iconst (pc' := 96) dL_arePairs_95 rfl (by unfold zin; decide) ?_
      refine z_S10I (pc' := 98) rfl dL_arePairs_96 rfl ?_
      refine z_L8R (pc' := 100) dL_arePairs_98 rfl ?_
      refine z_L6R (pc' := 102) dL_arePairs_100 rfl ?_
      refine z_L12I (pc' := 104) dL_arePairs_102 rfl ?_
      refine z_ild (pc' := 105) dL_arePairs_104 rfl g1 (by omega) (by omega) ?_
      refine z_ild (pc' := 106) dL_arePairs_105 rfl g3 (by omega) (by omega) ?_
      refine z_L6R (pc' := 108) dL_arePairs_106 rfl ?_
      refine z_L8R (pc' := 110) dL_arePairs_108 rfl ?_
      refine z_L12I (pc' := 112) dL_arePairs_110 rfl ?_
      refine z_ild (pc' := 113) dL_arePairs_112 rfl g3 (by omega) (by omega) ?_
      refine z_ild (pc' := 114) dL_arePairs_113 rfl g1 (by omega) (by omega) ?_
      refine z_icmp_ne (tgt := 156) (pc' := 117) dL_arePairs_114 (by decide) rfl (fun h114 => ?_) (fun h114 => ?_)
      · refine z_iconst (pc' := 157) dL_arePairs_156 rfl (by unfold zin; decide) ?_
        refine z_S11I (pc' := 159) rfl dL_arePairs_157 rfl ?_
        refine z_inc12 (pc' := 162) rfl dL_arePairs_159 rfl (by unfold zin; omega) ?_
        refine z_goto (tgt := 57) dL_arePairs_162 (by decide) ?_
        refine ih (i + 1) _ _ (by omega) (by omega) (by omega) ?_ ?_
        · first
          | exact ha.s ⟨by omega, by omega⟩
          | exact gFl.n hi0 (by omega) (fun z => by have := z.1; have := z.2; omega)
        · first
          | exact hb.s ⟨by omega, by omega⟩
          | exact gFl.n hi0 (by omega) (fun z => by have := z.1; have := z.2; omega)
      · refine z_L7R (pc' := 119) dL_arePairs_117 rfl ?_
        refine z_L12I (pc' := 121) dL_arePairs_119 rfl ?_
        refine z_ild (pc' := 122) dL_arePairs_121 rfl g2 (by omega) (by omega) ?_
        refine z_L9R (pc' := 124) dL_arePairs_122 rfl ?_
        refine z_L6R (pc' := 126) dL_arePairs_124 rfl ?_
        refine z_L12I (pc' := 128) dL_arePairs_126 rfl ?_
        refine z_ild (pc' := 129) dL_arePairs_128 rfl g1 (by omega) (by omega) ?_
        refine z_ild (pc' := 130) dL_arePairs_129 rfl g4 (by omega) (by omega) ?_
        refine z_iadd (pc' := 131) dL_arePairs_130 rfl (by unfold zin; omega) ?_
        refine z_L9R (pc' := 133) dL_arePairs_131 rfl ?_
        refine z_L12I (pc' := 135) dL_arePairs_133 rfl ?_
        refine z_ild (pc' := 136) dL_arePairs_135 rfl g4 (by omega) (by omega) ?_
        refine z_isub (pc' := 137) dL_arePairs_136 rfl (by unfold zin; omega) ?_
        refine z_L7R (pc' := 139) dL_arePairs_137 rfl ?_
        refine z_L8R (pc' := 141) dL_arePairs_139 rfl ?_
        refine z_L12I (pc' := 143) dL_arePairs_141 rfl ?_
        refine z_ild (pc' := 144) dL_arePairs_143 rfl g3 (by omega) (by omega) ?_
        refine z_ild (pc' := 145) dL_arePairs_144 rfl g2 (by omega) (by omega) ?_
        refine z_isub (pc' := 146) dL_arePairs_145 rfl (by unfold zin; omega) ?_
        refine z_iconst (pc' := 147) dL_arePairs_146 rfl (by unfold zin; decide) ?_
        refine z_iremn (pc' := 148) dL_arePairs_147 rfl (by omega) ?_
        refine z_if_ne (tgt := 156) (pc' := 151) dL_arePairs_148 (by decide) rfl (fun h148 => ?_) (fun h148 => ?_)
        · refine z_iconst (pc' := 157) dL_arePairs_156 rfl (by unfold zin; decide) ?_
          refine z_S11I (pc' := 159) rfl dL_arePairs_157 rfl ?_
          refine z_inc12 (pc' := 162) rfl dL_arePairs_159 rfl (by unfold zin; omega) ?_
          refine z_goto (tgt := 57) dL_arePairs_162 (by decide) ?_
          refine ih (i + 1) _ _ (by omega) (by omega) (by omega) ?_ ?_
          · first
            | exact ha.s ⟨by omega, by omega⟩
            | exact gFl.n hi0 (by omega) (fun z => by have := z.1; have := z.2; omega)
          · first
            | exact hb.s ⟨by omega, by omega⟩
            | exact gFl.n hi0 (by omega) (fun z => by have := z.1; have := z.2; omega)
        · refine z_L11I (pc' := 153) dL_arePairs_151 rfl ?_
          refine z_goto (tgt := 157) dL_arePairs_153 (by decide) ?_
          refine z_S11I (pc' := 159) rfl dL_arePairs_157 rfl ?_
          refine z_inc12 (pc' := 162) rfl dL_arePairs_159 rfl (by unfold zin; omega) ?_
          refine z_goto (tgt := 57) dL_arePairs_162 (by decide) ?_
          refine ih (i + 1) _ _ (by omega) (by omega) (by omega) ?_ ?_
          · first
            | exact ha.s ⟨by omega, by omega⟩
            | exact gFl.n hi0 (by omega) (fun z => by have := z.1; have := z.2; omega)
          · first
            | exact hb.s ⟨by omega, by omega⟩
            | exact gFl.n hi0 (by omega) (fun z => by have := z.1; have := z.2; omega)
    · refine z_L7R (pc' := 79) dL_arePairs_77 rfl ?_
      refine z_L12I (pc' := 81) dL_arePairs_79 rfl ?_
      refine z_ild (pc' := 82) dL_arePairs_81 rfl g2 (by omega) (by omega) ?_
      refine z_L9R (pc' := 84) dL_arePairs_82 rfl ?_
      refine z_L12I (pc' := 86) dL_arePairs_84 rfl ?_
      refine z_ild (pc' := 87) dL_arePairs_86 rfl g4 (by omega) (by omega) ?_
      refine z_icmp_ne (tgt := 95) (pc' := 90) dL_arePairs_87 (by decide) rfl (fun h87 => ?_) (fun h87 => ?_)
      · refine z_iconst (pc' := 96) dL_arePairs_95 rfl (by unfold zin; decide) ?_
        refine z_S10I (pc' := 98) rfl dL_arePairs_96 rfl ?_
        refine z_L8R (pc' := 100) dL_arePairs_98 rfl ?_
        refine z_L6R (pc' := 102) dL_arePairs_100 rfl ?_
        refine z_L12I (pc' := 104) dL_arePairs_102 rfl ?_
        refine z_ild (pc' := 105) dL_arePairs_104 rfl g1 (by omega) (by omega) ?_
        refine z_ild (pc' := 106) dL_arePairs_105 rfl g3 (by omega) (by omega) ?_
        refine z_L6R (pc' := 108) dL_arePairs_106 rfl ?_
        refine z_L8R (pc' := 110) dL_arePairs_108 rfl ?_
        refine z_L12I (pc' := 112) dL_arePairs_110 rfl ?_
        refine z_ild (pc' := 113) dL_arePairs_112 rfl g3 (by omega) (by omega) ?_
        refine z_ild (pc' := 114) dL_arePairs_113 rfl g1 (by omega) (by omega) ?_
        refine z_icmp_ne (tgt := 156) (pc' := 117) dL_arePairs_114 (by decide) rfl (fun h114 => ?_) (fun h114 => ?_)
        · refine z_iconst (pc' := 157) dL_arePairs_156 rfl (by unfold zin; decide) ?_
          refine z_S11I (pc' := 159) rfl dL_arePairs_157 rfl ?_
          refine z_inc12 (pc' := 162) rfl dL_arePairs_159 rfl (by unfold zin; omega) ?_
          refine z_goto (tgt := 57) dL_arePairs_162 (by decide) ?_
          refine ih (i + 1) _ _ (by omega) (by omega) (by omega) ?_ ?_
          · first
            | exact ha.s ⟨by omega, by omega⟩
            | exact gFl.n hi0 (by omega) (fun z => by have := z.1; have := z.2; omega)
          · first
            | exact hb.s ⟨by omega, by omega⟩
            | exact gFl.n hi0 (by omega) (fun z => by have := z.1; have := z.2; omega)
        · refine z_L7R (pc' := 119) dL_arePairs_117 rfl ?_
          refine z_L12I (pc' := 121) dL_arePairs_119 rfl ?_
          refine z_ild (pc' := 122) dL_arePairs_121 rfl g2 (by omega) (by omega) ?_
          refine z_L9R (pc' := 124) dL_arePairs_122 rfl ?_
          refine z_L6R (pc' := 126) dL_arePairs_124 rfl ?_
          refine z_L12I (pc' := 128) dL_arePairs_126 rfl ?_
          refine z_ild (pc' := 129) dL_arePairs_128 rfl g1 (by omega) (by omega) ?_
          refine z_ild (pc' := 130) dL_arePairs_129 rfl g4 (by omega) (by omega) ?_
          refine z_iadd (pc' := 131) dL_arePairs_130 rfl (by unfold zin; omega) ?_
          refine z_L9R (pc' := 133) dL_arePairs_131 rfl ?_
          refine z_L12I (pc' := 135) dL_arePairs_133 rfl ?_
          refine z_ild (pc' := 136) dL_arePairs_135 rfl g4 (by omega) (by omega) ?_
          refine z_isub (pc' := 137) dL_arePairs_136 rfl (by unfold zin; omega) ?_
          refine z_L7R (pc' := 139) dL_arePairs_137 rfl ?_
          refine z_L8R (pc' := 141) dL_arePairs_139 rfl ?_
          refine z_L12I (pc' := 143) dL_arePairs_141 rfl ?_
          refine z_ild (pc' := 144) dL_arePairs_143 rfl g3 (by omega) (by omega) ?_
          refine z_ild (pc' := 145) dL_arePairs_144 rfl g2 (by omega) (by omega) ?_
          refine z_isub (pc' := 146) dL_arePairs_145 rfl (by unfold zin; omega) ?_
          refine z_iconst (pc' := 147) dL_arePairs_146 rfl (by unfold zin; decide) ?_
          refine z_iremn (pc' := 148) dL_arePairs_147 rfl (by omega) ?_
          refine z_if_ne (tgt := 156) (pc' := 151) dL_arePairs_148 (by decide) rfl (fun h148 => ?_) (fun h148 => ?_)
          · refine z_iconst (pc' := 157) dL_arePairs_156 rfl (by unfold zin; decide) ?_
            refine z_S11I (pc' := 159) rfl dL_arePairs_157 rfl ?_
            refine z_inc12 (pc' := 162) rfl dL_arePairs_159 rfl (by unfold zin; omega) ?_
            refine z_goto (tgt := 57) dL_arePairs_162 (by decide) ?_
            refine ih (i + 1) _ _ (by omega) (by omega) (by omega) ?_ ?_
            · first
              | exact ha.s ⟨by omega, by omega⟩
              | exact gFl.n hi0 (by omega) (fun z => by have := z.1; have := z.2; omega)
            · first
              | exact hb.s ⟨by omega, by omega⟩
              | exact gFl.n hi0 (by omega) (fun z => by have := z.1; have := z.2; omega)
          · refine z_L11I (pc' := 153) dL_arePairs_151 rfl ?_
            refine z_goto (tgt := 157) dL_arePairs_153 (by decide) ?_
            refine z_S11I (pc' := 159) rfl dL_arePairs_157 rfl ?_
            refine z_inc12 (pc' := 162) rfl dL_arePairs_159 rfl (by unfold zin; omega) ?_
            refine z_goto (tgt := 57) dL_arePairs_162 (by decide) ?_
            refine ih (i + 1) _ _ (by omega) (by omega) (by omega) ?_ ?_
            · first
              | exact ha.s ⟨by omega, by omega⟩
              | exact gFl.n hi0 (by omega) (fun z => by have := z.1; have := z.2; omega)
            · first
              | exact hb.s ⟨by omega, by omega⟩
              | exact gFl.n hi0 (by omega) (fun z => by have := z.1; have := z.2; omega)
      · refine z_L10I (pc' := 92) dL_arePairs_90 rfl ?_
        refine z_goto (tgt := 96) dL_arePairs_92 (by decide) ?_
        refine z_S10I (pc' := 98) rfl dL_arePairs_96 rfl ?_
        refine z_L8R (pc' := 100) dL_arePairs_98 rfl ?_
        refine z_L6R (pc' := 102) dL_arePairs_100 rfl ?_
        refine z_L12I (pc' := 104) dL_arePairs_102 rfl ?_
        refine z_ild (pc' := 105) dL_arePairs_104 rfl g1 (by omega) (by omega) ?_
        refine z_ild (pc' := 106) dL_arePairs_105 rfl g3 (by omega) (by omega) ?_
        refine z_L6R (pc' := 108) dL_arePairs_106 rfl ?_
        refine z_L8R (pc' := 110) dL_arePairs_108 rfl ?_
        refine z_L12I (pc' := 112) dL_arePairs_110 rfl ?_
        refine z_ild (pc' := 113) dL_arePairs_112 rfl g3 (by omega) (by omega) ?_
        refine z_ild (pc' := 114) dL_arePairs_113 rfl g1 (by omega) (by omega) ?_
        refine z_icmp_ne (tgt := 156) (pc' := 117) dL_arePairs_114 (by decide) rfl (fun h114 => ?_) (fun h114 => ?_)
        · refine z_iconst (pc' := 157) dL_arePairs_156 rfl (by unfold zin; decide) ?_
          refine z_S11I (pc' := 159) rfl dL_arePairs_157 rfl ?_
          refine z_inc12 (pc' := 162) rfl dL_arePairs_159 rfl (by unfold zin; omega) ?_
          refine z_goto (tgt := 57) dL_arePairs_162 (by decide) ?_
          refine ih (i + 1) _ _ (by omega) (by omega) (by omega) ?_ ?_
          · first
            | exact ha.s ⟨by omega, by omega⟩
            | exact gFl.n hi0 (by omega) (fun z => by have := z.1; have := z.2; omega)
          · first
            | exact hb.s ⟨by omega, by omega⟩
            | exact gFl.n hi0 (by omega) (fun z => by have := z.1; have := z.2; omega)
        · refine z_L7R (pc' := 119) dL_arePairs_117 rfl ?_
          refine z_L12I (pc' := 121) dL_arePairs_119 rfl ?_
          refine z_ild (pc' := 122) dL_arePairs_121 rfl g2 (by omega) (by omega) ?_
          refine z_L9R (pc' := 124) dL_arePairs_122 rfl ?_
          refine z_L6R (pc' := 126) dL_arePairs_124 rfl ?_
          refine z_L12I (pc' := 128) dL_arePairs_126 rfl ?_
          refine z_ild (pc' := 129) dL_arePairs_128 rfl g1 (by omega) (by omega) ?_
          refine z_ild (pc' := 130) dL_arePairs_129 rfl g4 (by omega) (by omega) ?_
          refine z_iadd (pc' := 131) dL_arePairs_130 rfl (by unfold zin; omega) ?_
          refine z_L9R (pc' := 133) dL_arePairs_131 rfl ?_
          refine z_L12I (pc' := 135) dL_arePairs_133 rfl ?_
          refine z_ild (pc' := 136) dL_arePairs_135 rfl g4 (by omega) (by omega) ?_
          refine z_isub (pc' := 137) dL_arePairs_136 rfl (by unfold zin; omega) ?_
          refine z_L7R (pc' := 139) dL_arePairs_137 rfl ?_
          refine z_L8R (pc' := 141) dL_arePairs_139 rfl ?_
          refine z_L12I (pc' := 143) dL_arePairs_141 rfl ?_
          refine z_ild (pc' := 144) dL_arePairs_143 rfl g3 (by omega) (by omega) ?_
          refine z_ild (pc' := 145) dL_arePairs_144 rfl g2 (by omega) (by omega) ?_
          refine z_isub (pc' := 146) dL_arePairs_145 rfl (by unfold zin; omega) ?_
          refine z_iconst (pc' := 147) dL_arePairs_146 rfl (by unfold zin; decide) ?_
          refine z_iremn (pc' := 148) dL_arePairs_147 rfl (by omega) ?_
          refine z_if_ne (tgt := 156) (pc' := 151) dL_arePairs_148 (by decide) rfl (fun h148 => ?_) (fun h148 => ?_)
          · refine z_iconst (pc' := 157) dL_arePairs_156 rfl (by unfold zin; decide) ?_
            refine z_S11I (pc' := 159) rfl dL_arePairs_157 rfl ?_
            refine z_inc12 (pc' := 162) rfl dL_arePairs_159 rfl (by unfold zin; omega) ?_
            refine z_goto (tgt := 57) dL_arePairs_162 (by decide) ?_
            refine ih (i + 1) _ _ (by omega) (by omega) (by omega) ?_ ?_
            · first
              | exact ha.s ⟨by omega, by omega⟩
              | exact gFl.n hi0 (by omega) (fun z => by have := z.1; have := z.2; omega)
            · first
              | exact hb.s ⟨by omega, by omega⟩
              | exact gFl.n hi0 (by omega) (fun z => by have := z.1; have := z.2; omega)
          · refine z_L11I (pc' := 153) dL_arePairs_151 rfl ?_
            refine z_goto (tgt := 157) dL_arePairs_153 (by decide) ?_
            refine z_S11I (pc' := 159) rfl dL_arePairs_157 rfl ?_
            refine z_inc12 (pc' := 162) rfl dL_arePairs_159 rfl (by unfold zin; omega) ?_
            refine z_goto (tgt := 57) dL_arePairs_162 (by decide) ?_
            refine ih (i + 1) _ _ (by omega) (by omega) (by omega) ?_ ?_
            · first
              | exact ha.s ⟨by omega, by omega⟩
              | exact gFl.n hi0 (by omega) (fun z => by have := z.1; have := z.2; omega)
            · first
              | exact hb.s ⟨by omega, by omega⟩
              | exact gFl.n hi0 (by omega) (fun z => by have := z.1; have := z.2; omega)
end ZLI

