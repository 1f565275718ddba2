section ZL15
set_option maxRecDepth 100000 in
set_option maxHeartbeats 8000000 in
theorem law_go {d : Nat} {sp : zSP} {me : zMe} {Q : zQ} {Ns c1 c2 : Nat} {f : Int → Int} (hd : 30 ≤ d) (hn : sp.2.2 = 0) (hc1 : c1 = grc Ns f 44) (hc2 : c2 = grs Ns f 44) (hQ : ∀ sp' me', Q (some (zI 1)) sp' me') : zW (mL Ns f) d (c1 + 175) (c2 + 2980) Q 0 [zR 0, zU, zU, zU, zU, zU, zU, zU, zU, zU, zU, zU, zU, zU] [] sp me := by
  refine z_nwi (r1' := c1 + 9) (r2' := c2 + 149) (pc' := 7) n_obj kX8_init rfl nL_48 dL_law_0 dL_law_3 lL_147 dL_law_4 rfl (by omega) (Nat.le_of_ble_eq_true rfl) (by omega) (by show c2 + 149 + (2822 + 9) = c2 + 2980; omega) (fun sp1 me1 g1 g2 g3 => ?_)
  rw [hn] at g1 g2 g3 ⊢
  refine z_S1R (pc' := 8) rfl dL_law_7 rfl ?_
  refine z_bipush (pc' := 10) dL_law_8 rfl (by decide) ?_
  refine z_nar (pc' := 12) (r1' := c1 + 8) (r2' := c2 + 139) (a := 167) dL_law_10 rfl (by decide) (by decide) (by omega) (by omega) (by omega) (fun sp2 me2 hX2 hn2 hka2 hm2 => ?_)
  refine z_S2R (pc' := 13) rfl dL_law_12 rfl ?_
  refine z_bipush (pc' := 15) dL_law_13 rfl (by decide) ?_
  refine z_nar (pc' := 17) (r1' := c1 + 7) (r2' := c2 + 129) (a := 168) dL_law_15 rfl (by decide) (by decide) (by omega) (by omega) (by omega) (fun sp3 me3 hX3 hn3 hka3 hm3 => ?_)
  refine z_S3R (pc' := 18) rfl dL_law_17 rfl ?_
  refine z_bipush (pc' := 20) dL_law_18 rfl (by decide) ?_
  refine z_nar (pc' := 22) (r1' := c1 + 6) (r2' := c2 + 119) (a := 169) dL_law_20 rfl (by decide) (by decide) (by omega) (by omega) (by omega) (fun sp4 me4 hX4 hn4 hka4 hm4 => ?_)
  refine z_S4R (pc' := 24) rfl dL_law_22 rfl ?_
  refine z_bipush (pc' := 26) dL_law_24 rfl (by decide) ?_
  refine z_nar (pc' := 28) (r1' := c1 + 5) (r2' := c2 + 79) (a := 170) dL_law_26 rfl (by decide) (by decide) (by omega) (by omega) (by omega) (fun sp5 me5 hX5 hn5 hka5 hm5 => ?_)
  refine z_S5R (pc' := 30) rfl dL_law_28 rfl ?_
  refine z_bipush (pc' := 32) dL_law_30 rfl (by decide) ?_
  refine z_nar (pc' := 34) (r1' := c1 + 4) (r2' := c2 + 39) (a := 171) dL_law_32 rfl (by decide) (by decide) (by omega) (by omega) (by omega) (fun sp6 me6 hX6 hn6 hka6 hm6 => ?_)
  refine z_S6R (pc' := 36) rfl dL_law_34 rfl ?_
  refine z_bipush (pc' := 38) dL_law_36 rfl (by decide) ?_
  refine z_nar (pc' := 40) (r1' := c1 + 3) (r2' := c2 + 23) (a := 172) dL_law_38 rfl (by decide) (by decide) (by omega) (by omega) (by omega) (fun sp7 me7 hX7 hn7 hka7 hm7 => ?_)
  refine z_S7R (pc' := 42) rfl dL_law_40 rfl ?_
  refine z_iconst (pc' := 43) dL_law_42 rfl (by unfold zin; decide) ?_
  refine z_nar (pc' := 45) (r1' := c1 + 2) (r2' := c2 + 20) (a := 173) dL_law_43 rfl (by decide) (by decide) (by omega) (by omega) (by omega) (fun sp8 me8 hX8 hn8 hka8 hm8 => ?_)
  refine z_S8R (pc' := 47) rfl dL_law_45 rfl ?_
  refine z_bipush (pc' := 49) dL_law_47 rfl (by decide) ?_
  refine z_nar (pc' := 51) (r1' := c1 + 1) (r2' := c2 + 10) (a := 174) dL_law_49 rfl (by decide) (by decide) (by omega) (by omega) (by omega) (fun sp9 me9 hX9 hn9 hka9 hm9 => ?_)
  refine z_S9R (pc' := 53) rfl dL_law_51 rfl ?_
  refine z_bipush (pc' := 55) dL_law_53 rfl (by decide) ?_
  refine z_nar (pc' := 57) (r1' := c1) (r2' := c2) (a := 175) dL_law_55 rfl (by decide) (by decide) (by omega) (by omega) (by omega) (fun sp10 me10 hX10 hn10 hka10 hm10 => ?_)
  have hXX : zXt _ sp1 sp10 := hX2.tr (hX3.tr (hX4.tr (hX5.tr (hX6.tr (hX7.tr (hX8.tr (hX9.tr hX10)))))))
  have hO := zObj_lc (a := 1) (fun b h1 h2 => hXX.2 b (by omega)) g3.1
  have s167 : sp10.1 167 = (1, 10) := (hX3.tr (hX4.tr (hX5.tr (hX6.tr (hX7.tr (hX8.tr (hX9.tr hX10))))))).s (by omega) hka2
  have s168 : sp10.1 168 = (1, 10) := (hX4.tr (hX5.tr (hX6.tr (hX7.tr (hX8.tr (hX9.tr hX10)))))).s (by omega) hka3
  have s169 : sp10.1 169 = (1, 10) := (hX5.tr (hX6.tr (hX7.tr (hX8.tr (hX9.tr hX10))))).s (by omega) hka4
  have s170 : sp10.1 170 = (1, 40) := (hX6.tr (hX7.tr (hX8.tr (hX9.tr hX10)))).s (by omega) hka5
  have s171 : sp10.1 171 = (1, 40) := (hX7.tr (hX8.tr (hX9.tr hX10))).s (by omega) hka6
  have s172 : sp10.1 172 = (1, 16) := (hX8.tr (hX9.tr hX10)).s (by omega) hka7
  have s173 : sp10.1 173 = (1, 3) := (hX9.tr hX10).s (by omega) hka8
  have s174 : sp10.1 174 = (1, 10) := hX10.s (by omega) hka9
  have s175 : sp10.1 175 = (1, 10) := hka10
  have hW : gLW sp10 := ⟨hO, by rw [hn10]; decide, s167, s168, s169, s170, s171, s172, s173, s174, s175⟩
  have hlow : ∀ a, a ≤ 166 → me10 a = me1 a := fun a ha => by rw [hm10, hm9, hm8, hm7, hm6, hm5, hm4, hm3, hm2, zset_ne _ _ _ (by omega), zset_ne _ _ _ (by omega), zset_ne _ _ _ (by omega), zset_ne _ _ _ (by omega), zset_ne _ _ _ (by omega), zset_ne _ _ _ (by omega), zset_ne _ _ _ (by omega), zset_ne _ _ _ (by omega), zset_ne _ _ _ (by omega)]
  have z167 : me10 167 = (fun _ => 0) := by rw [hm10, hm9, hm8, hm7, hm6, hm5, hm4, hm3, hm2, zset_ne _ _ _ (by decide), zset_ne _ _ _ (by decide), zset_ne _ _ _ (by decide), zset_ne _ _ _ (by decide), zset_ne _ _ _ (by decide), zset_ne _ _ _ (by decide), zset_ne _ _ _ (by decide), zset_ne _ _ _ (by decide), zset_eq]
  have z168 : me10 168 = (fun _ => 0) := by rw [hm10, hm9, hm8, hm7, hm6, hm5, hm4, hm3, zset_ne _ _ _ (by decide), zset_ne _ _ _ (by decide), zset_ne _ _ _ (by decide), zset_ne _ _ _ (by decide), zset_ne _ _ _ (by decide), zset_ne _ _ _ (by decide), zset_ne _ _ _ (by decide), zset_eq]
  have z169 : me10 169 = (fun _ => 0) := by rw [hm10, hm9, hm8, hm7, hm6, hm5, hm4, zset_ne _ _ _ (by decide), zset_ne _ _ _ (by decide), zset_ne _ _ _ (by decide), zset_ne _ _ _ (by decide), zset_ne _ _ _ (by decide), zset_ne _ _ _ (by decide), zset_eq]
  have z170 : me10 170 = (fun _ => 0) := by rw [hm10, hm9, hm8, hm7, hm6, hm5, zset_ne _ _ _ (by decide), zset_ne _ _ _ (by decide), zset_ne _ _ _ (by decide), zset_ne _ _ _ (by decide), zset_ne _ _ _ (by decide), zset_eq]
  have z171 : me10 171 = (fun _ => 0) := by rw [hm10, hm9, hm8, hm7, hm6, zset_ne _ _ _ (by decide), zset_ne _ _ _ (by decide), zset_ne _ _ _ (by decide), zset_ne _ _ _ (by decide), zset_eq]
  have z172 : me10 172 = (fun _ => 0) := by rw [hm10, hm9, hm8, hm7, zset_ne _ _ _ (by decide), zset_ne _ _ _ (by decide), zset_ne _ _ _ (by decide), zset_eq]
  have z173 : me10 173 = (fun _ => 0) := by rw [hm10, hm9, hm8, zset_ne _ _ _ (by decide), zset_ne _ _ _ (by decide), zset_eq]
  have z174 : me10 174 = (fun _ => 0) := by rw [hm10, hm9, zset_ne _ _ _ (by decide), zset_eq]
  have z175 : me10 175 = (fun _ => 0) := by rw [hm10, zset_eq]
  refine z_S10R (pc' := 59) rfl dL_law_57 rfl ?_
  refine z_iconst (pc' := 60) dL_law_59 rfl (by unfold zin; decide) ?_
  refine z_S11I (pc' := 62) rfl dL_law_60 rfl ?_
  suffices H : ∀ (n : Nat) (i : Int) (me' : zMe), 0 ≤ i → i ≤ 10 → 10 - i < n → (∀ j, 0 ≤ j → j < i → me' 167 j = j ∧ me' 169 j = -5) → (∀ a, a ≠ 167 → a ≠ 169 → me' a = me10 a) → zW (mL Ns f) d c1 c2 Q 62 [zR 0, zR 1, zR 167, zR 168, zR 169, zR 170, zR 171, zR 172, zR 173, zR 174, zR 175, zI i, zU, zU] [] sp10 me' by
    exact H 11 0 me10 (by omega) (by omega) (by omega) (fun j j0 j1 => by omega) (fun _ _ _ => rfl)
  intro n
  induction n with
  | zero => intro i me' h0 h1 h2; omega
  | succ n ih =>
  intro i me' hi0 hi1 hi2 hN hF
  refine z_L11I (pc' := 64) dL_law_62 rfl ?_
  refine z_bipush (pc' := 66) dL_law_64 rfl (by decide) ?_
  refine z_icmp_ge (tgt := 88) (pc' := 69) dL_law_66 (by decide) rfl (fun h66 => ?_) (fun h66 => ?_)
  · obtain rfl : i = 10 := by omega
    have hRR : gRR me' zA0 := by
      refine ⟨zRX_congr (fun a h1 h2 => by rw [hF a (by omega) (by omega)]; exact hlow a (by omega)) g3.2, ?_, ?_, ?_, ?_, ?_, ?_, ?_⟩
      · exact gdn_id (fun i i0 i1 => (hN i i0 i1).1) (fun i _ _ => by rw [hF 168 (by decide) (by decide), z168])
      · intro i i0 i1
        rw [(hN i i0 i1).2]
        exact (show zcut 10 (fun _ => -5) i = -5 from zcut_in _ _ _ i0 i1).symm
      · intro k k0 k1
        refine ⟨by rw [hF 172 (by decide) (by decide), z172]; rfl, fun j j0 j1 => ?_⟩
        have : j < 0 := j1
        omega
      · intro k k0 k1
        rw [hF 172 (by decide) (by decide), z172]
        rfl
      · rw [hF 173 (by decide) (by decide), z173]; rfl
      · rw [hF 173 (by decide) (by decide), z173]; rfl
      · rw [hF 173 (by decide) (by decide), z173]; rfl
    have hx := hW.1
    have hwy : zway (zE zA0) (qW zA0, qF zA0) = some (gdg 0 0) := by
      unfold zway
      have hz : zhb (qW zA0, qF zA0) = true := by
        rw [zhb_iff]
        intro p p0 p1
        show zcut 10 (fun q => q) p = p ∧ zcut 10 (fun _ => 0) p = 0
        exact ⟨zcut_in _ _ _ p0 p1, zcut_in _ _ _ p0 p1⟩
      have hl : zlh (zE zA0) 0 (qW zA0, qF zA0) = some [] := if_pos hz
      rw [zwy_s hl]
      rfl
    refine z_L1R (pc' := 89) dL_law_88 rfl ?_
    refine z_L2R (pc' := 90) dL_law_89 rfl ?_
    refine z_L3R (pc' := 91) dL_law_90 rfl ?_
    refine z_L4R (pc' := 93) dL_law_91 rfl ?_
    refine z_L7R (pc' := 95) dL_law_93 rfl ?_
    refine z_L8R (pc' := 97) dL_law_95 rfl ?_
    refine z_S6v (pc' := 100) kL_areDancers lL_148 dL_law_97 rfl (by omega) (Nat.le_of_ble_eq_true rfl) ?_
    refine l_areDancers9 (by omega) hW zIA_0 hRR (fun me11 hR11 _ => zKv_i ?_)
    refine z_if_eq (tgt := 125) (pc' := 103) dL_law_100 (by decide) rfl (fun h100 => absurd h100 (by omega)) (fun h100 => ?_)
    refine z_L1R (pc' := 104) dL_law_103 rfl ?_
    refine z_iconst (pc' := 105) dL_law_104 rfl (by unfold zin; decide) ?_
    refine z_V1v (pc' := 108) (ci := 8) kX8_wayHome lL_106 dL_law_105 rfl (by omega) (Nat.le_of_ble_eq_true rfl) (by decide) rfl hx.s ?_
    refine x_wayHome (by omega) hx hR11.1 zIA_0 (fun me12 hX12 hF12 => zKv_i ?_)
    have hR12 := hR11.x hX12 hF12
    rw [vW0 hwy]
    refine z_if_ne (tgt := 125) (pc' := 111) dL_law_108 (by decide) rfl (fun h108 => absurd h108 (by omega)) (fun h108 => ?_)
    refine z_L1R (pc' := 112) dL_law_111 rfl ?_
    refine z_iconst (pc' := 113) dL_law_112 rfl (by unfold zin; decide) ?_
    refine z_V1v (pc' := 116) (ci := 8) kX8_wayHome lL_106 dL_law_113 rfl (by omega) (Nat.le_of_ble_eq_true rfl) (by decide) rfl hx.s ?_
    refine x_wayHome (by omega) hx hR12.1 zIA_0 (fun me13 hX13 hF13 => zKv_i ?_)
    have hR13 := hR12.x hX13 hF13
    rw [show zoWay zA0 1 = -5 from vWn (m := 0) hwy (by decide)]
    refine z_bipush (pc' := 118) dL_law_116 rfl (by decide) ?_
    refine z_icmp_ne (tgt := 125) (pc' := 121) dL_law_118 (by decide) rfl (fun h118 => absurd h118 (by omega)) (fun h118 => ?_)
    refine z_iconst (pc' := 122) dL_law_121 rfl (by unfold zin; decide) ?_
    refine z_goto (tgt := 126) dL_law_122 (by decide) ?_
    refine z_S11I (pc' := 128) rfl dL_law_126 rfl ?_
    refine z_iconst (pc' := 129) dL_law_128 rfl (by unfold zin; decide) ?_
    refine z_S12I (pc' := 131) rfl dL_law_129 rfl ?_
    have K := law_loop (Ns := Ns) (f := f) (Q := Q) hd hW hR13 hQ
    rw [← hc1, ← hc2] at K
    exact K
  · refine z_L2R (pc' := 70) dL_law_69 rfl ?_
    refine z_L11I (pc' := 72) dL_law_70 rfl ?_
    refine z_L11I (pc' := 74) dL_law_72 rfl ?_
    refine z_ist (pc' := 75) dL_law_74 rfl s167 (by omega) (by omega) ?_
    refine z_L4R (pc' := 77) dL_law_75 rfl ?_
    refine z_L11I (pc' := 79) dL_law_77 rfl ?_
    refine z_bipush (pc' := 81) dL_law_79 rfl (by decide) ?_
    refine z_ist (pc' := 82) dL_law_81 rfl s169 (by omega) (by omega) ?_
    refine z_inc11 (pc' := 85) rfl dL_law_82 rfl (by unfold zin; omega) ?_
    refine z_goto (tgt := 62) dL_law_85 (by decide) ?_
    refine ih (i + 1) _ (by omega) (by omega) (by omega) (fun j j0 j1 => ?_) (fun a h1 h2 => by rw [zset_ne _ _ _ h2, zset_ne _ _ _ h1]; exact hF a h1 h2)
    rw [zset_ne _ _ _ (show (167 : Nat) ≠ 169 by decide), zset_eq, zset_eq, zset_ne _ _ _ (show (169 : Nat) ≠ 167 by decide)]
    by_cases e : j = i
    · subst e
      rw [zup_eq, zup_eq]
      exact ⟨rfl, rfl⟩
    · rw [zup_ne _ _ _ (by omega), zup_ne _ _ _ (by omega)]
      exact hN j j0 (by omega)
end ZL15

