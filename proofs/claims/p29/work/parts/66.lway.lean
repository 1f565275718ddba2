section ZL7
/-- the effects of the first n figures, a row of sixty each -/
def gE6 (me : zMe) (e g : Nat) (E : Int → zRg) (n : Int) : Prop := ∀ k, 0 ≤ k → k < n → ∀ i, 0 ≤ i → i < 10 → me e (10 * k + i) = zpl (E k).1 i ∧ me g (10 * k + i) = (E k).2 (zpl (E k).1 i)
theorem gap_st {E : Int → zRg} {j c : Nat} {R : zRg} : gap E (j + 1) c R = gap E j c (zact R (E ((c / 6 ^ j % 6 : Nat) : Int))) := rfl
set_option maxRecDepth 100000 in
set_option maxHeartbeats 8000000 in
theorem l_isWay9 {d : Nat} {sp : zSP} {me : zMe} {Q : zQ} {A : zAb} {B : Int} {N : Nat} (hd : 24 ≤ d) (hN : sp.2.2 = N) (hW : gLW sp) (hI : zIA B A) (hR : gRR me A) (h6 : qS A 6 = 0) (h7 : qS A 7 = 0) (hQ : ∀ sp' me', zXt 4 sp sp' → gRR me' A → Q (some (zI 1)) sp' me') : zCall mL_isWay d 4 140 [zR 1, zR 167, zR 168, zR 170, zR 171, zR 172] sp me Q := by
  refine z_met kL_isWay (by simp) (by simp) ?_
  show zW mL_isWay d 4 140 Q 0 [zR 1, zR 167, zR 168, zR 170, zR 171, zR 172, zU, zU, zU, zU, zU, zU, zU, zU, zU, zU] [] sp me
  have hWN : 175 ≤ N := by rw [← hN]; exact hW.2.1
  have hv : zfv (qS A) (qC A) := hI.1.2.2.2.1
  have hlm : zlim (qS A) (qC A) := hI.1.2.2.2.2.1
  have hgA : zgR (qW A) (qF A) := hI.1.1
  have hEk : ∀ k : Nat, k < 6 → zgR (zE A (k : Int)).1 (zE A (k : Int)).2 := fun k hk => zgR_E hI (by omega) (by omega)
  have hz0 : ∀ k, 0 ≤ k → k < 8 → qS A k = 0 → zE A k = zid := fun k k0 k1 h => by
    show zeff (zsteps (qS A) (qC A) k) = zid
    rw [zsteps_eq hv k0 k1, h]
    rfl
  have hE6 := hz0 6 (by decide) (by decide) h6
  have hE7 := hz0 7 (by decide) (by decide) h7
  refine z_bipush (pc' := 2) dL_isWay_0 rfl (by decide) ?_
  refine z_nar (pc' := 4) (r1' := 3) (r2' := 130) (a := N + 1) dL_isWay_2 rfl (by decide) (by decide) (by omega) (by omega) (by omega) (fun sp1 me1 hX1 hn1 hka1 hm1 => ?_)
  refine z_S6R (pc' := 6) rfl dL_isWay_4 rfl ?_
  refine z_bipush (pc' := 8) dL_isWay_6 rfl (by decide) ?_
  refine z_nar (pc' := 10) (r1' := 2) (r2' := 120) (a := N + 2) dL_isWay_8 rfl (by decide) (by decide) (by omega) (by omega) (by omega) (fun sp2 me2 hX2 hn2 hka2 hm2 => ?_)
  refine z_S7R (pc' := 12) rfl dL_isWay_10 rfl ?_
  refine z_bipush (pc' := 14) dL_isWay_12 rfl (by decide) ?_
  refine z_nar (pc' := 16) (r1' := 1) (r2' := 60) (a := N + 3) dL_isWay_14 rfl (by decide) (by decide) (by omega) (by omega) (by omega) (fun sp3 me3 hX3 hn3 hka3 hm3 => ?_)
  refine z_S8R (pc' := 18) rfl dL_isWay_16 rfl ?_
  refine z_bipush (pc' := 20) dL_isWay_18 rfl (by decide) ?_
  refine z_nar (pc' := 22) (r1' := 0) (r2' := 0) (a := N + 4) dL_isWay_20 rfl (by decide) (by decide) (by omega) (by omega) (by omega) (fun sp4 me4 hX4 hn4 hka4 hm4 => ?_)
  have hX := ((hX1.tr hX2).tr hX3).tr hX4
  have hW4 := hW.mono hX
  have g1 : sp4.1 (N + 1) = (1, 10) := ((hX2.tr hX3).tr hX4).s (by omega) hka1
  have g2 : sp4.1 (N + 2) = (1, 10) := (hX3.tr hX4).s (by omega) hka2
  have g3 : sp4.1 (N + 3) = (1, 60) := hX4.s (by omega) hka3
  have g4 : sp4.1 (N + 4) = (1, 60) := hka4
  have hm4a : ∀ a, a ≤ N → me4 a = me a := fun a ha => by rw [hm4, hm3, hm2, hm1, zset_ne _ _ _ (by omega), zset_ne _ _ _ (by omega), zset_ne _ _ _ (by omega), zset_ne _ _ _ (by omega)]
  have hR4 : gRR me4 A := hR.cg (fun a _ h2 => hm4a a (by omega))
  obtain ⟨gx, gsz, gp, gf, gh, gm, go, gc, gt, ge, gg⟩ := hW4
  refine z_S9R (pc' := 24) rfl dL_isWay_22 rfl ?_
  refine z_iconst (pc' := 25) dL_isWay_24 rfl (by unfold zin; decide) ?_
  refine z_S10I (pc' := 27) rfl dL_isWay_25 rfl ?_
  suffices H : ∀ (n : Nat) (k : Int) (v11 : zV) (me5 : zMe), 0 ≤ k → k ≤ 6 → 6 - k < n → zndv v11 = true → gE6 me5 (N + 3) (N + 4) (zE A) k → gRR me5 A → zW mL_isWay d 0 0 Q 27 [zR 1, zR 167, zR 168, zR 170, zR 171, zR 172, zR (N + 1), zR (N + 2), zR (N + 3), zR (N + 4), zI k, v11, zU, zU, zU, zU] [] sp4 me5 by
    exact H 7 0 zU me4 (by omega) (by omega) (by omega) rfl (fun k k0 k1 => by omega) hR4
  intro n
  induction n with
  | zero => intro k v11 me5 h0 h1 h2; omega
  | succ n ih =>
  intro k v11 me5 hk0 hk1 hk2 hv11 hG5 hR5
  refine z_L10I (pc' := 29) dL_isWay_27 rfl ?_
  refine z_bipush (pc' := 31) dL_isWay_29 rfl (by decide) ?_
  refine z_icmp_ge (tgt := 102) (pc' := 34) dL_isWay_31 (by decide) rfl (fun h31 => ?_) (fun h31 => ?_)
  · obtain rfl : k = 6 := by omega
    refine z_iconst (pc' := 103) dL_isWay_102 rfl (by unfold zin; decide) ?_
    refine z_S10I (pc' := 105) rfl dL_isWay_103 rfl ?_
    refine z_iconst (pc' := 106) dL_isWay_105 rfl (by unfold zin; decide) ?_
    refine z_S11I (pc' := 108) rfl dL_isWay_106 rfl ?_
    suffices H : ∀ (n L P : Nat) (v12 v13 v14 v15 : zV) (me6 : zMe), L ≤ 5 → 5 - L < n → P = 6 ^ L → zndv v12 = true → zndv v13 = true → zndv v14 = true → zndv v15 = true → (∀ m', m' < L → gN6 (zE A) m' (qW A, qF A)) → gE6 me6 (N + 3) (N + 4) (zE A) 6 → gRR me6 A → zW mL_isWay d 0 0 Q 108 [zR 1, zR 167, zR 168, zR 170, zR 171, zR 172, zR (N + 1), zR (N + 2), zR (N + 3), zR (N + 4), zI (P : Int), zI (L : Int), v12, v13, v14, v15] [] sp4 me6 by
      exact H 6 0 1 zU zU zU zU me5 (by omega) (by omega) rfl rfl rfl rfl rfl (fun m' h => absurd h (Nat.not_lt_zero _)) hG5 hR5
    intro n
    induction n with
    | zero => intro L P v12 v13 v14 v15 me6 h0 h1; omega
    | succ n ih3 =>
    intro L P v12 v13 v14 v15 me6 hL0 hL1 hP hv12 hv13 hv14 hv15 hno hG6 hR6
    refine z_L11I (pc' := 110) dL_isWay_108 rfl ?_
    refine z_iconst (pc' := 111) dL_isWay_110 rfl (by unfold zin; decide) ?_
    refine z_icmp_ge (tgt := 268) (pc' := 114) dL_isWay_111 (by decide) rfl (fun h111 => ?_) (fun h111 => ?_)
    · have hL5 : L = 5 := by omega
      subst hL5
      have hwn := gway_n hEk hE6 hE7 (R := (qW A, qF A)) hgA hno
      refine z_L0R (pc' := 269) dL_isWay_268 rfl ?_
      refine z_iconst (pc' := 270) dL_isWay_269 rfl (by unfold zin; decide) ?_
      refine z_V1v (pc' := 273) (ci := 8) kX8_wayHome lL_106 dL_isWay_270 rfl (by omega) (Nat.le_of_ble_eq_true rfl) (by decide) rfl gx.s ?_
      refine x_wayHome (by omega) gx hR6.1 hI (fun me13 hX13 hF13 => zKv_i ?_)
      have hR13 := hR6.x hX13 hF13
      rw [vW_0 hwn]
      refine z_bipush (pc' := 275) dL_isWay_273 rfl (by decide) ?_
      refine z_icmp_ne (tgt := 302) (pc' := 278) dL_isWay_275 (by decide) rfl (fun h275 => absurd h275 (by omega)) (fun h275 => ?_)
      refine z_L0R (pc' := 279) dL_isWay_278 rfl ?_
      refine z_iconst (pc' := 280) dL_isWay_279 rfl (by unfold zin; decide) ?_
      refine z_V1v (pc' := 283) (ci := 8) kX8_wayHome lL_106 dL_isWay_280 rfl (by omega) (Nat.le_of_ble_eq_true rfl) (by decide) rfl gx.s ?_
      refine x_wayHome (by omega) gx hR13.1 hI (fun me14 hX14 hF14 => zKv_i ?_)
      have hR14 := hR13.x hX14 hF14
      rw [vW_q hwn (by decide) (by decide)]
      refine z_bipush (pc' := 285) dL_isWay_283 rfl (by decide) ?_
      refine z_icmp_ne (tgt := 302) (pc' := 288) dL_isWay_285 (by decide) rfl (fun h285 => absurd h285 (by omega)) (fun h285 => ?_)
      refine z_L0R (pc' := 289) dL_isWay_288 rfl ?_
      refine z_iconst (pc' := 290) dL_isWay_289 rfl (by unfold zin; decide) ?_
      refine z_V1v (pc' := 293) (ci := 8) kX8_wayHome lL_106 dL_isWay_290 rfl (by omega) (Nat.le_of_ble_eq_true rfl) (by decide) rfl gx.s ?_
      refine x_wayHome (by omega) gx hR14.1 hI (fun me15 hX15 hF15 => zKv_i ?_)
      have hR15 := hR14.x hX15 hF15
      rw [vW_q hwn (by decide) (by decide)]
      refine z_bipush (pc' := 295) dL_isWay_293 rfl (by decide) ?_
      refine z_icmp_ne (tgt := 302) (pc' := 298) dL_isWay_295 (by decide) rfl (fun h295 => absurd h295 (by omega)) (fun h295 => ?_)
      refine z_iconst (pc' := 299) dL_isWay_298 rfl (by unfold zin; decide) ?_
      refine z_goto (tgt := 303) dL_isWay_299 (by decide) ?_
      refine z_zreturn rfl rfl dL_isWay_303 (by omega) ?_
      exact hQ sp4 me15 hX hR15
    · have hL4 : L ≤ 4 := by omega
      have hP6 : P ≤ 1296 := by rw [hP]; exact g6w hL4
      refine z_iconst (pc' := 115) dL_isWay_114 rfl (by unfold zin; decide) ?_
      refine z_S12I (pc' := 117) rfl dL_isWay_115 rfl ?_
      suffices H : ∀ (n c : Nat) (v13 v14 v15 : zV) (me7 : zMe), c ≤ P → P - c < n → zndv v13 = true → zndv v14 = true → zndv v15 = true → (∀ c', c' < c → ¬ zhb (gap (zE A) L c' (qW A, qF A)) = true) → gE6 me7 (N + 3) (N + 4) (zE A) 6 → gRR me7 A → zW mL_isWay d 0 0 Q 117 [zR 1, zR 167, zR 168, zR 170, zR 171, zR 172, zR (N + 1), zR (N + 2), zR (N + 3), zR (N + 4), zI (P : Int), zI (L : Int), zI (c : Int), v13, v14, v15] [] sp4 me7 by
        exact H (P + 1) 0 _ _ _ me6 (by omega) (by omega) hv13 hv14 hv15 (fun c' h => absurd h (Nat.not_lt_zero _)) hG6 hR6
      intro n
      induction n with
      | zero => intro c v13 v14 v15 me7 h0 h1; omega
      | succ n ih4 =>
      intro c v13 v14 v15 me7 hc0 hc1 hv13' hv14' hv15' hmin hG7 hR7
      refine z_L12I (pc' := 119) dL_isWay_117 rfl ?_
      refine z_L10I (pc' := 121) dL_isWay_119 rfl ?_
      refine z_icmp_ge (tgt := 255) (pc' := 124) dL_isWay_121 (by decide) rfl (fun h121 => ?_) (fun h121 => ?_)
      · refine z_L10I (pc' := 257) dL_isWay_255 rfl ?_
        refine z_bipush (pc' := 259) dL_isWay_257 rfl (by decide) ?_
        refine z_imul (pc' := 260) dL_isWay_259 rfl (by unfold zin; omega) ?_
        refine z_S10I (pc' := 262) rfl dL_isWay_260 rfl ?_
        refine z_inc11 (pc' := 265) rfl dL_isWay_262 rfl (by unfold zin; omega) ?_
        refine z_goto (tgt := 108) dL_isWay_265 (by decide) ?_
        refine zW_to (ih3 (L + 1) (P * 6) (zI (c : Int)) _ _ _ me7 (by omega) (by omega) (by rw [hP, ← Nat.pow_succ]) rfl hv13' hv14' hv15' (fun m' hm' => ?_) hG7 hR7) ?_ rfl rfl
        · by_cases e : m' = L
          · subst e
            intro x hx
            exact hmin x (by omega)
          · exact hno m' (by omega)
        · rw [show ((P * 6 : Nat) : Int) = (P : Int) * 6 by omega, show ((L + 1 : Nat) : Int) = (L : Int) + 1 by omega]
      · refine z_L1R (pc' := 125) dL_isWay_124 rfl ?_
        refine z_L6R (pc' := 127) dL_isWay_125 rfl ?_
        refine z_S20 (pc' := 130) kL_copy lL_27 dL_isWay_127 rfl (by omega) (Nat.le_of_ble_eq_true rfl) ?_
        refine l_copy gp g1 (by omega) (fun me8 hA8 hF8 => zK0_i ?_)
        refine z_L2R (pc' := 131) dL_isWay_130 rfl ?_
        refine z_L7R (pc' := 133) dL_isWay_131 rfl ?_
        refine z_S20 (pc' := 136) kL_copy lL_27 dL_isWay_133 rfl (by omega) (Nat.le_of_ble_eq_true rfl) ?_
        refine l_copy gf g2 (by omega) (fun me9 hA9 hF9 => zK0_i ?_)
        have hR9 : gRR me9 A := (hR7.cg (fun a _ h2 => hF8 a (by omega))).cg (fun a _ h2 => hF9 a (by omega))
        have hD9 : gDn me9 (N + 1) (N + 2) (qW A, qF A) := fun i i0 i1 => by
          rw [hF9 _ (by omega), hA8 i i0 i1, hA9 i i0 i1, hF8 168 (by omega)]
          exact hR7.2.1 i i0 i1
        have hG9 : gE6 me9 (N + 3) (N + 4) (zE A) 6 := fun k' k0' k1' => by rw [hF9 _ (by omega), hF9 _ (by omega), hF8 _ (by omega), hF8 _ (by omega)]; exact hG7 k' k0' k1'
        refine z_L10I (pc' := 138) dL_isWay_136 rfl ?_
        refine z_bipush (pc' := 140) dL_isWay_138 rfl (by decide) ?_
        refine z_idiv (pc' := 141) dL_isWay_140 rfl (by omega) (by omega) ?_
        have hdv : (P : Int) / 6 = ((P / 6 : Nat) : Int) := (Int.natCast_ediv _ _).symm
        rw [hdv]
        refine z_S13I (pc' := 143) rfl dL_isWay_141 rfl ?_
        suffices H : ∀ (j B2 : Nat) (v14 v15 : zV) (me10 : zMe) (R : zRg), j ≤ L → B2 = 6 ^ j / 6 → zndv v14 = true → zndv v15 = true → zgR R.1 R.2 → gap (zE A) j c R = gap (zE A) L c (qW A, qF A) → gDn me10 (N + 1) (N + 2) R → gE6 me10 (N + 3) (N + 4) (zE A) 6 → gRR me10 A → zW mL_isWay d 0 0 Q 143 [zR 1, zR 167, zR 168, zR 170, zR 171, zR 172, zR (N + 1), zR (N + 2), zR (N + 3), zR (N + 4), zI (P : Int), zI (L : Int), zI (c : Int), zI (B2 : Int), v14, v15] [] sp4 me10 by
          exact H L (P / 6) _ _ me9 (qW A, qF A) (Nat.le_refl _) (by rw [hP]) hv14' hv15' hgA rfl hD9 hG9 hR9
        intro j
        induction j with
        | zero =>
          intro B2 v14 v15 me10 R hj hB hv14'' hv15'' hRg hgp hD10 hG10 hR10
          have hB0 : B2 = 0 := by rw [hB]
          subst hB0
          refine z_L13I (pc' := 145) dL_isWay_143 rfl ?_
          refine z_if_le (tgt := 227) (pc' := 148) dL_isWay_145 (by decide) rfl (fun h145 => ?_) (fun h145 => absurd h145 (by decide))
          have hhb := gHome_hb hRg hD10
          have hgp0 : R = gap (zE A) L c (qW A, qF A) := hgp
          rw [hgp0] at hhb
          refine z_L6R (pc' := 229) dL_isWay_227 rfl ?_
          refine z_L7R (pc' := 231) dL_isWay_229 rfl ?_
          refine z_iconst (pc' := 232) dL_isWay_231 rfl (by unfold zin; decide) ?_
          refine z_S3v (pc' := 235) kL_home lL_39 dL_isWay_232 rfl (by omega) (Nat.le_of_ble_eq_true rfl) ?_
          refine l_home g1 g2 (zKv_i ?_)
          refine z_bipush (pc' := 237) dL_isWay_235 rfl (by decide) ?_
          refine z_icmp_ne (tgt := 249) (pc' := 240) dL_isWay_237 (by decide) rfl (fun h237 => ?_) (fun h237 => ?_)
          · refine z_inc12 (pc' := 252) rfl dL_isWay_249 rfl (by unfold zin; omega) ?_
            refine z_goto (tgt := 117) dL_isWay_252 (by decide) ?_
            refine ih4 (c + 1) _ _ _ me10 (by omega) (by omega) rfl hv14'' hv15'' (fun c' hc' => ?_) hG10 hR10
            by_cases e : c' = c
            · subst e
              intro z
              have := hhb.1 z
              omega
            · exact hmin c' (by omega)
          · refine z_L0R (pc' := 241) dL_isWay_240 rfl ?_
            refine z_L12I (pc' := 243) dL_isWay_241 rfl ?_
            refine z_L11I (pc' := 245) dL_isWay_243 rfl ?_
            refine z_S3v (pc' := 248) kL_isRow lL_109 dL_isWay_245 rfl (by omega) (Nat.le_of_ble_eq_true rfl) ?_
            have hz : zhb (gap (zE A) L c (qW A, qF A)) = true := by
              by_cases z : zhb (gap (zE A) L c (qW A, qF A)) = true
              · exact z
              · have := hhb.2 z; omega
            have hwy := gway_y hEk hE6 hE7 (R := (qW A, qF A)) hgA (show L < 5 by omega) hno (by omega) hz hmin
            refine l_isRow9 (by omega) gx hI hR10 hwy hL4 (by omega) (fun me12 hR12 => zKv_i ?_)
            refine z_zreturn rfl rfl dL_isWay_248 (by omega) ?_
            exact hQ sp4 me12 hX hR12
        | succ j ih5 =>
        intro B2 v14 v15 me10 R hj hB hv14'' hv15'' hRg hgp hD10 hG10 hR10
        have hB2 : B2 = 6 ^ j := by rw [hB, Nat.pow_succ]; exact Nat.mul_div_cancel _ (by decide)
        have hBp : 0 < B2 := by rw [hB2]; exact z6p j
        have hB6 : B2 ≤ 1296 := by rw [hB2]; exact g6w (by omega)
        rw [gap_st, ← hB2] at hgp
        have hD6 : c / B2 % 6 < 6 := Nat.mod_lt _ (by decide)
        revert hgp hD6
        generalize hgD : c / B2 % 6 = D
        intro hgp hD6
        have hEd := hEk D hD6
        refine z_L13I (pc' := 145) dL_isWay_143 rfl ?_
        refine z_if_le (tgt := 227) (pc' := 148) dL_isWay_145 (by decide) rfl (fun h145 => absurd h145 (by omega)) (fun h145 => ?_)
        refine z_bipush (pc' := 150) dL_isWay_148 rfl (by decide) ?_
        refine z_L12I (pc' := 152) dL_isWay_150 rfl ?_
        refine z_L13I (pc' := 154) dL_isWay_152 rfl ?_
        refine z_idiv (pc' := 155) dL_isWay_154 rfl (by omega) (by omega) ?_
        refine z_bipush (pc' := 157) dL_isWay_155 rfl (by decide) ?_
        refine z_irem (pc' := 158) dL_isWay_157 rfl (Int.ediv_nonneg (by omega) (by omega)) (by decide) ?_
        have hdc : (c : Int) / (B2 : Int) % 6 = (D : Int) := by rw [← hgD, Int.natCast_emod, Int.natCast_ediv]; rfl
        rw [hdc]
        refine z_imul (pc' := 159) dL_isWay_158 rfl (by unfold zin; omega) ?_
        refine z_S14I (pc' := 161) rfl dL_isWay_159 rfl ?_
        refine z_iconst (pc' := 162) dL_isWay_161 rfl (by unfold zin; decide) ?_
        refine z_S15I (pc' := 164) rfl dL_isWay_162 rfl ?_
        suffices H : ∀ (n : Nat) (i : Int) (me11 : zMe), 0 ≤ i → i ≤ 10 → 10 - i < n → (∀ t, 0 ≤ t → t < i → me11 (N + 1) t = zpl (zact R (zE A (D : Int))).1 t ∧ me11 (N + 2) t = (zact R (zE A (D : Int))).2 (zpl (zact R (zE A (D : Int))).1 t)) → (∀ t, i ≤ t → t < 10 → me11 (N + 1) t = zpl R.1 t ∧ me11 (N + 2) t = R.2 (zpl R.1 t)) → gE6 me11 (N + 3) (N + 4) (zE A) 6 → gRR me11 A → zW mL_isWay d 0 0 Q 164 [zR 1, zR 167, zR 168, zR 170, zR 171, zR 172, zR (N + 1), zR (N + 2), zR (N + 3), zR (N + 4), zI (P : Int), zI (L : Int), zI (c : Int), zI (B2 : Int), zI (10 * (D : Int)), zI i] [] sp4 me11 by
          exact H 11 0 me10 (by omega) (by omega) (by omega) (fun t t0 t1 => by omega) (fun t t0 t1 => hD10 t t0 t1) hG10 hR10
        intro n2
        induction n2 with
        | zero => intro i me11 h0 h1 h2; omega
        | succ n2 ih6 =>
        intro i me11 hi0 hi1 hi2 hN1 hN2 hG11 hR11
        refine z_L15I (pc' := 166) dL_isWay_164 rfl ?_
        refine z_bipush (pc' := 168) dL_isWay_166 rfl (by decide) ?_
        refine z_icmp_ge (tgt := 217) (pc' := 171) dL_isWay_168 (by decide) rfl (fun h168 => ?_) (fun h168 => ?_)
        · have hN11 : gDn me11 (N + 1) (N + 2) (zact R (zE A (D : Int))) := fun t t0 t1 => hN1 t t0 (by omega)
          refine z_L13I (pc' := 219) dL_isWay_217 rfl ?_
          refine z_bipush (pc' := 221) dL_isWay_219 rfl (by decide) ?_
          refine z_idiv (pc' := 222) dL_isWay_221 rfl (by omega) (by omega) ?_
          rw [show (B2 : Int) / 6 = ((B2 / 6 : Nat) : Int) from (Int.natCast_ediv _ _).symm]
          refine z_S13I (pc' := 224) rfl dL_isWay_222 rfl ?_
          refine z_goto (tgt := 143) dL_isWay_224 (by decide) ?_
          refine ih5 (B2 / 6) _ _ me11 (zact R (zE A (D : Int))) (by omega) ?_ rfl rfl (zgR_act2 hRg hEd) hgp hN11 hG11 hR11
          rw [hB2]
        · have hii := hN2 i (Int.le_refl _) (by omega)
          have hp1 := zpl_ok hRg hi0 (show i < 10 by omega)
          have hr := hRg.1 _ hp1.1 hp1.2.1
          have hq := zpl_ok hEd hp1.1 hp1.2.1
          have hee := hEd.1 _ hq.1 hq.2.1
          have hac := zact_pl hRg hEd hi0 (show i < 10 by omega)
          have hgg := hG11 (D : Int) (by omega) (by omega) _ hp1.1 hp1.2.1
          refine z_L7R (pc' := 173) dL_isWay_171 rfl ?_
          refine z_L15I (pc' := 175) dL_isWay_173 rfl ?_
          refine z_L7R (pc' := 177) dL_isWay_175 rfl ?_
          refine z_L15I (pc' := 179) dL_isWay_177 rfl ?_
          refine z_ild (pc' := 180) dL_isWay_179 rfl g2 (by omega) (by omega) ?_
          rw [hii.2]
          refine z_L9R (pc' := 182) dL_isWay_180 rfl ?_
          refine z_L14I (pc' := 184) dL_isWay_182 rfl ?_
          refine z_L6R (pc' := 186) dL_isWay_184 rfl ?_
          refine z_L15I (pc' := 188) dL_isWay_186 rfl ?_
          refine z_ild (pc' := 189) dL_isWay_188 rfl g1 (by omega) (by omega) ?_
          rw [hii.1]
          refine z_iadd (pc' := 190) dL_isWay_189 rfl (by unfold zin; omega) ?_
          refine z_ild (pc' := 191) dL_isWay_190 rfl g4 (by omega) (by omega) ?_
          rw [hgg.2]
          refine z_iadd (pc' := 192) dL_isWay_191 rfl (by unfold zin; omega) ?_
          refine z_iconst (pc' := 193) dL_isWay_192 rfl (by unfold zin; decide) ?_
          refine z_irem (pc' := 194) dL_isWay_193 rfl (by omega) (by omega) ?_
          refine z_ist (pc' := 195) dL_isWay_194 rfl g2 (by omega) (by omega) ?_
          refine z_L6R (pc' := 197) dL_isWay_195 rfl ?_
          refine z_L15I (pc' := 199) dL_isWay_197 rfl ?_
          refine z_L8R (pc' := 201) dL_isWay_199 rfl ?_
          refine z_L14I (pc' := 203) dL_isWay_201 rfl ?_
          refine z_L6R (pc' := 205) dL_isWay_203 rfl ?_
          refine z_L15I (pc' := 207) dL_isWay_205 rfl ?_
          refine z_ild (pc' := 208) dL_isWay_207 rfl g1 (by omega) (by omega) ?_
          rw [zset_ne _ _ _ (show N + 1 ≠ N + 2 by omega), hii.1]
          refine z_iadd (pc' := 209) dL_isWay_208 rfl (by unfold zin; omega) ?_
          refine z_ild (pc' := 210) dL_isWay_209 rfl g3 (by omega) (by omega) ?_
          rw [zset_ne _ _ _ (show N + 3 ≠ N + 2 by omega), hgg.1]
          refine z_ist (pc' := 211) dL_isWay_210 rfl g1 (by omega) (by omega) ?_
          refine z_inc15 (pc' := 214) rfl dL_isWay_211 rfl (by unfold zin; omega) ?_
          refine z_goto (tgt := 164) dL_isWay_214 (by decide) ?_
          refine ih6 (i + 1) _ (by omega) (by omega) (by omega) (fun t t0 t1 => ?_) (fun t t0 t1 => ?_) (fun k' k0' k1' i' i0' i1' => ?_) (hR11.cg (fun a _ h2 => by rw [zset_ne _ _ _ (by omega), zset_ne _ _ _ (by omega)]))
          · rw [zset_eq, zset_ne _ _ _ (show N + 2 ≠ N + 1 by omega), zset_eq, zset_ne _ _ _ (show N + 1 ≠ N + 2 by omega)]
            by_cases e : t = i
            · subst e
              rw [zup_eq, zup_eq, hac.1, hac.2]
              exact ⟨rfl, rfl⟩
            · rw [zup_ne _ _ _ (by omega), zup_ne _ _ _ (by omega)]
              exact hN1 t t0 (by omega)
          · rw [zset_eq, zset_ne _ _ _ (show N + 2 ≠ N + 1 by omega), zset_eq, zset_ne _ _ _ (show N + 1 ≠ N + 2 by omega), zup_ne _ _ _ (by omega), zup_ne _ _ _ (by omega)]
            exact hN2 t (by omega) t1
          · rw [zset_ne _ _ _ (show N + 3 ≠ N + 1 by omega), zset_ne _ _ _ (show N + 3 ≠ N + 2 by omega), zset_ne _ _ _ (show N + 4 ≠ N + 1 by omega), zset_ne _ _ _ (show N + 4 ≠ N + 2 by omega)]
            exact hG11 k' k0' k1' i' i0' i1'
  · refine z_L6R (pc' := 36) dL_isWay_34 rfl ?_
    refine z_L7R (pc' := 38) dL_isWay_36 rfl ?_
    refine z_L3R (pc' := 39) dL_isWay_38 rfl ?_
    refine z_L4R (pc' := 41) dL_isWay_39 rfl ?_
    refine z_L5R (pc' := 43) dL_isWay_41 rfl ?_
    refine z_L10I (pc' := 45) dL_isWay_43 rfl ?_
    refine z_S60 (pc' := 48) kL_effect lL_68 dL_isWay_45 rfl (by omega) (Nat.le_of_ble_eq_true rfl) ?_
    refine l_effect (by omega) g1 g2 gm go gc (by omega) (by omega) (by omega) (by omega) (by omega) (by omega) (by omega) hv hlm hR5.2.2.2.1 hR5.2.2.2.2.1 hk0 (by omega) (fun me6 hD6 hF6 => zK0_i ?_)
    have hR6 : gRR me6 A := hR5.cg (fun a _ h2 => hF6 a (by omega) (by omega))
    have hD6' : gDn me6 (N + 1) (N + 2) (zE A k) := hD6
    have hG6 : gE6 me6 (N + 3) (N + 4) (zE A) k := fun k' k0' k1' => by rw [hF6 _ (by omega) (by omega), hF6 _ (by omega) (by omega)]; exact hG5 k' k0' k1'
    refine z_iconst (pc' := 49) dL_isWay_48 rfl (by unfold zin; decide) ?_
    refine z_S11I (pc' := 51) rfl dL_isWay_49 rfl ?_
    suffices H : ∀ (n : Nat) (i : Int) (me7 : zMe), 0 ≤ i → i ≤ 10 → 10 - i < n → (∀ k', 0 ≤ k' → k' < k → ∀ i, 0 ≤ i → i < 10 → me7 (N + 3) (10 * k' + i) = zpl (zE A k').1 i ∧ me7 (N + 4) (10 * k' + i) = (zE A k').2 (zpl (zE A k').1 i)) → (∀ j, 0 ≤ j → j < i → me7 (N + 3) (10 * k + j) = zpl (zE A k).1 j ∧ me7 (N + 4) (10 * k + j) = (zE A k).2 (zpl (zE A k).1 j)) → gDn me7 (N + 1) (N + 2) (zE A k) → gRR me7 A → zW mL_isWay d 0 0 Q 51 [zR 1, zR 167, zR 168, zR 170, zR 171, zR 172, zR (N + 1), zR (N + 2), zR (N + 3), zR (N + 4), zI k, zI i, zU, zU, zU, zU] [] sp4 me7 by
      exact H 11 0 me6 (by omega) (by omega) (by omega) hG6 (fun j j0 j1 => by omega) hD6' hR6
    intro n
    induction n with
    | zero => intro i me7 h0 h1 h2; omega
    | succ n ih2 =>
    intro i me7 hi0 hi1 hi2 hA7 hB7 hD7 hR7
    refine z_L11I (pc' := 53) dL_isWay_51 rfl ?_
    refine z_bipush (pc' := 55) dL_isWay_53 rfl (by decide) ?_
    refine z_icmp_ge (tgt := 96) (pc' := 58) dL_isWay_55 (by decide) rfl (fun h55 => ?_) (fun h55 => ?_)
    · refine z_inc10 (pc' := 99) rfl dL_isWay_96 rfl (by unfold zin; omega) ?_
      refine z_goto (tgt := 27) dL_isWay_99 (by decide) ?_
      exact ih (k + 1) _ me7 (by omega) (by omega) (by omega) rfl (fun k' k0' k1' => by
        by_cases e : k' = k
        · subst e; exact fun i i0 i1 => hB7 i i0 (by omega)
        · exact hA7 k' k0' (by omega)) hR7
    · refine z_L8R (pc' := 60) dL_isWay_58 rfl ?_
      refine z_bipush (pc' := 62) dL_isWay_60 rfl (by decide) ?_
      refine z_L10I (pc' := 64) dL_isWay_62 rfl ?_
      refine z_imul (pc' := 65) dL_isWay_64 rfl (by unfold zin; omega) ?_
      refine z_L11I (pc' := 67) dL_isWay_65 rfl ?_
      refine z_iadd (pc' := 68) dL_isWay_67 rfl (by unfold zin; omega) ?_
      refine z_L6R (pc' := 70) dL_isWay_68 rfl ?_
      refine z_L11I (pc' := 72) dL_isWay_70 rfl ?_
      refine z_ild (pc' := 73) dL_isWay_72 rfl g1 (by omega) (by omega) ?_
      refine z_ist (pc' := 74) dL_isWay_73 rfl g3 (by omega) (by omega) ?_
      refine z_L9R (pc' := 76) dL_isWay_74 rfl ?_
      refine z_bipush (pc' := 78) dL_isWay_76 rfl (by decide) ?_
      refine z_L10I (pc' := 80) dL_isWay_78 rfl ?_
      refine z_imul (pc' := 81) dL_isWay_80 rfl (by unfold zin; omega) ?_
      refine z_L11I (pc' := 83) dL_isWay_81 rfl ?_
      refine z_iadd (pc' := 84) dL_isWay_83 rfl (by unfold zin; omega) ?_
      refine z_L7R (pc' := 86) dL_isWay_84 rfl ?_
      refine z_L11I (pc' := 88) dL_isWay_86 rfl ?_
      refine z_ild (pc' := 89) dL_isWay_88 rfl g2 (by omega) (by omega) ?_
      refine z_ist (pc' := 90) dL_isWay_89 rfl g4 (by omega) (by omega) ?_
      refine z_inc11 (pc' := 93) rfl dL_isWay_90 rfl (by unfold zin; omega) ?_
      refine z_goto (tgt := 51) dL_isWay_93 (by decide) ?_
      refine ih2 (i + 1) _ (by omega) (by omega) (by omega) (fun k' k0' k1' i' i0' i1' => ?_) (fun j j0 j1 => ?_) (hD7.fr ?_ ?_) (hR7.cg (fun a _ h2 => ?_))
      · rw [zset_ne _ _ _ (show N + 3 ≠ N + 4 by omega), zset_eq, zset_eq, zup_ne _ _ _ (by omega), zup_ne _ _ _ (by omega), zset_ne _ _ _ (show N + 4 ≠ N + 3 by omega)]
        exact hA7 k' k0' k1' i' i0' i1'
      · rw [zset_ne _ _ _ (show N + 3 ≠ N + 4 by omega), zset_eq, zset_eq, zset_ne _ _ _ (show N + 4 ≠ N + 3 by omega), zset_ne _ _ _ (show N + 2 ≠ N + 3 by omega)]
        by_cases e : j = i
        · subst e
          rw [zup_eq, zup_eq]
          exact hD7 j j0 (by omega)
        · rw [zup_ne _ _ _ (by omega), zup_ne _ _ _ (by omega)]
          exact hB7 j j0 (by omega)
      · rw [zset_ne _ _ _ (by omega), zset_ne _ _ _ (by omega)]
      · rw [zset_ne _ _ _ (by omega), zset_ne _ _ _ (by omega)]
      · rw [zset_ne _ _ _ (by omega), zset_ne _ _ _ (by omega)]
end ZL7

