section ZACT2
theorem zRX_gr {me : zMe} {x : Nat} {A : zAb} {G : Int → Int} (hX : zRX me x A) : zRX (zset me (x + 82 + 4) G) x A := by
  have o : ∀ a, a ≠ x + 82 + 4 → zset me (x + 82 + 4) G a = me a := fun a ha => zset_ne _ _ _ ha
  obtain ⟨h1, h2, h3, h4, h5, h6⟩ := hX
  refine ⟨?_, zRH_congr h2 (fun a g1 g2 => o a (by omega)), ?_, ?_, ?_, ?_⟩
  · rw [zget_congr (fun a g1 g2 => o a (by omega))]; exact h1
  · rw [o x (by omega), zget_congr (me := me) (me' := zset me (x + 82 + 4) G) (s := x + 12) (fun a g1 g2 => o a (by omega))]; exact h3
  · rw [o _ (by omega)]; exact h4
  · rw [o _ (by omega)]; exact h5
  · intro k k0 k8
    obtain ⟨g1, g2, g3, g4, g5⟩ := h6 k k0 k8
    exact ⟨by rw [o _ (by omega)]; exact g1, fun i hi => by rw [o _ (by omega)]; exact g2 i hi, by rw [o _ (by omega)]; exact g3, by rw [o _ (by omega)]; exact g4, by rw [o _ (by omega)]; exact g5⟩
set_option maxRecDepth 100000 in
set_option maxHeartbeats 1000000 in
theorem x_add {d : Nat} {sp : zSP} {me : zMe} {Q : zQ} {x : Nat} {A : zAb} {B k kd a b : Int} (hd : 20 ≤ d) (hx : zObj sp x) (hX : zRX me x A) (hI : zIA B A) (hQ : ∀ me', zRX me' x (zoAdd A k kd a b).2 → zFr x me me' → Q (some (zI (zoAdd A k kd a b).1)) sp me') : zCall mX8_add d 0 0 [zR x, zI k, zI kd, zI a, zI b] sp me Q := by
  refine z_met kX8_add (by simp) (by simp) ?_
  show zW mX8_add d 0 0 Q 0 [zR x, zI k, zI kd, zI a, zI b, zU, zU] [] sp me
  have hw := zx_w hX
  have hf := zx_f hX
  have hh := zx_h hX
  have hp := zx_p hX
  have hs := zx_s hX
  have hc := zx_c hX
  have hIS := hI.1
  have hgA : zgR (qW A) (qF A) := hIS.1
  have hokA : zHok (qH A) := hIS.2.1
  have hpnA : qP A = zpn (qH A) := hIS.2.2.1
  have hvA : zfv (qS A) (qC A) := hIS.2.2.2.1
  have hlA : zlim (qS A) (qC A) := hIS.2.2.2.2.1
  unfold zoAdd at hQ
  refine z_L1I (pc' := 1) dX8_add_0 rfl ?_
  refine z_S1v (pc' := 4) kX8_isFigure lX8_61 dX8_add_1 rfl (by omega) (Nat.le_of_ble_eq_true rfl) ?_
  refine c_isFigure (fun hk => zKv_i ?_) (fun hk => zKv_i ?_)
  rotate_left
  · refine z_if_ne (tgt := 9) (pc' := 7) dX8_add_4 (by decide) rfl (fun h4 => absurd rfl h4) (fun h4 => ?_)
    refine z_iconst (pc' := 8) dX8_add_7 rfl (by unfold zin; decide) ?_
    refine z_ireturn rfl rfl dX8_add_8 ?_
    rw [zif_pos hk] at hQ
    exact hQ me hX zFr.rf
  rw [zif_neg (fun z => z hk)] at hQ
  have hvk := hvA k hk.1 hk.2
  refine z_if_ne (tgt := 9) (pc' := 7) dX8_add_4 (by decide) rfl (fun h4 => ?_) (fun h4 => absurd h4 (by omega))
  refine z_L1I (pc' := 10) dX8_add_9 rfl ?_
  refine z_L2I (pc' := 11) dX8_add_10 rfl ?_
  refine z_L3I (pc' := 12) dX8_add_11 rfl ?_
  refine z_L4I (pc' := 14) dX8_add_12 rfl ?_
  refine z_S4v (pc' := 17) kX8_isMove lX8_65 dX8_add_14 rfl (by omega) (Nat.le_of_ble_eq_true rfl) ?_
  refine c_isMove (by omega) (fun hm => zKv_i ?_) (fun hm => zKv_i ?_)
  rotate_left
  · refine z_if_ne (tgt := 23) (pc' := 20) dX8_add_17 (by decide) rfl (fun h4 => absurd rfl h4) (fun h4 => ?_)
    refine z_bipush (pc' := 22) dX8_add_20 rfl (by decide) ?_
    refine z_ireturn rfl rfl dX8_add_22 ?_
    rw [zif_pos hm] at hQ
    exact hQ me hX zFr.rf
  rw [zif_neg (fun z => z hm)] at hQ
  have hlen : ∀ j, 0 ≤ j → j < 8 → me (x + 82 + 1) j = ((zsteps (qS A) (qC A) j).length : Int) := fun j j0 j8 => (hX.2.2.2.2.2 j j0 j8).1
  have hmm := hm
  unfold zmv at hmm
  have H51 : ∀ n : Int, n = (if kd = 4 then ((zsteps (qS A) (qC A) a).length : Int) else 1) → zW mX8_add d 0 0 Q 51 [zR x, zI k, zI kd, zI a, zI b, zR (x + 1 + 8), zI n] [] sp me := by
    intro n hn
    have hn0 : 0 ≤ n ∧ n ≤ 120 := by
      rw [hn]
      by_cases e4 : kd = 4
      · have := hlA a (by omega) (by omega)
        rw [if_pos e4]; omega
      · rw [if_neg e4]; omega
    refine z_L5R (pc' := 53) dX8_add_51 rfl ?_
    refine z_L1I (pc' := 54) dX8_add_53 rfl ?_
    refine z_V1v (pc' := 57) (ci := 0) kX0_size lX8_77 dX8_add_54 rfl (by omega) (Nat.le_of_ble_eq_true rfl) (by decide) rfl hx.o1.o8.s ?_
    refine c_size (by omega) hx.o1.o8 (zKv_i ?_)
    rw [hs]
    refine z_bipush (pc' := 59) dX8_add_57 rfl (by decide) ?_
    refine z_icmp_ge (tgt := 77) (pc' := 62) dX8_add_59 (by decide) rfl (fun h59 => ?_) (fun h59 => ?_)
    · rw [zif_pos (Or.inl h59)] at hQ
      refine z_bipush (pc' := 79) dX8_add_77 rfl (by decide) ?_
      refine z_ireturn rfl rfl dX8_add_79 ?_
      exact hQ me hX zFr.rf
    · refine z_L0R (pc' := 63) dX8_add_62 rfl ?_
      refine z_getR (pc' := 66) (ki := 5) 5 fX8_40.l rfl rfl dX8_add_63 rfl hx.s hx.p5 ?_
      refine z_L5R (pc' := 68) dX8_add_66 rfl ?_
      refine z_L1I (pc' := 69) dX8_add_68 rfl ?_
      refine z_L6I (pc' := 71) dX8_add_69 rfl ?_
      refine z_V3v (pc' := 74) (ci := 3) kX3_hasRoom lX8_82 dX8_add_71 rfl (by omega) (Nat.le_of_ble_eq_true rfl) (by decide) rfl hx.o82.s ?_
      refine c_hasRoom (by omega) hx.o82 hx.o1.o8 (by omega) (by rw [hs, hc]; exact hvA) (by rw [hs, hc]; exact hX.2.2.2.2.2) (by rw [hs, hc]; exact hlA) hn0.1 hn0.2 (fun hr G => zKv_i ?_) (fun hr G => zKv_i ?_)
      rotate_left
      · refine z_if_ne (tgt := 80) (pc' := 77) dX8_add_74 (by decide) rfl (fun h4 => absurd rfl h4) (fun h4 => ?_)
        refine z_bipush (pc' := 79) dX8_add_77 rfl (by decide) ?_
        refine z_ireturn rfl rfl dX8_add_79 ?_
        rw [hs, hc, hn] at hr
        rw [zif_pos (Or.inr (fun z => hr ((zlim_add hvA hk.1 hk.2 (by omega) hm).1 z)))] at hQ
        exact hQ _ (zRX_gr hX) (fun a ha => zset_ne _ _ _ (by omega))
      rw [hs, hc, hn] at hr
      have hl2 := (zlim_add hvA hk.1 hk.2 (by omega) hm).2 hr
      rw [zif_neg (fun z => z.elim (fun z => by omega) (fun z => z hl2))] at hQ
      have hX1 : zRX (zset me (x + 82 + 4) G) x A := zRX_gr hX
      have hf0 : ∀ a, a < x ∨ x + 165 < a → zset me (x + 82 + 4) G a = me a := fun a ha => zset_ne _ _ _ (by omega)
      have hf01 : ∀ a, (a = x ∨ (x + 12 ≤ a ∧ a ≤ x + 22) ∨ a = x + 80 ∨ a = x + 81) → zset me (x + 82 + 4) G a = me a := fun a ha => zset_ne _ _ _ (by omega)
      revert hX1 hf0 hf01
      generalize zset me (x + 82 + 4) G = me1
      intro hX1 hf0 hf01
      refine z_if_ne (tgt := 80) (pc' := 77) dX8_add_74 (by decide) rfl (fun h74 => ?_) (fun h74 => absurd h74 (by omega))
      refine z_L0R (pc' := 81) dX8_add_80 rfl ?_
      refine z_getR (pc' := 84) (ki := 3) 3 fX8_26.l rfl rfl dX8_add_81 rfl hx.s hx.p3 ?_
      refine z_L0R (pc' := 85) dX8_add_84 rfl ?_
      refine z_getR (pc' := 88) (ki := 0) 0 fX8_10.l rfl rfl dX8_add_85 rfl hx.s hx.p0 ?_
      refine z_V10 (pc' := 91) (ci := 1) kX1_keep lX8_86 dX8_add_88 rfl (by omega) (Nat.le_of_ble_eq_true rfl) (by decide) rfl hx.o23.s ?_
      refine c_keep (by omega) hx.o23 hx.o1 (by omega) hX1.2.1 (fun me2 hH1 hf1 => zK0_i ?_)
      rw [hX1.1] at hH1
      have g1 := zg_all (me := me2) (s := x + 1) (A := A) (by rw [zget_congr (fun a h1 h2 => hf1 a (by omega))]; exact hX1.1)
      refine z_L5R (pc' := 93) dX8_add_91 rfl ?_
      refine z_L1I (pc' := 94) dX8_add_93 rfl ?_
      refine z_L2I (pc' := 95) dX8_add_94 rfl ?_
      refine z_L3I (pc' := 96) dX8_add_95 rfl ?_
      refine z_L4I (pc' := 98) dX8_add_96 rfl ?_
      refine z_S3v (pc' := 101) kX8_codeOf lX8_90 dX8_add_98 rfl (by omega) (Nat.le_of_ble_eq_true rfl) ?_
      refine c_codeOf (by omega) (by omega) (by omega) (by omega) (by omega) (by omega) (zKv_i ?_)
      refine z_V20 (pc' := 104) (ci := 0) kX0_put lX8_94 dX8_add_101 rfl (by omega) (Nat.le_of_ble_eq_true rfl) (by decide) rfl hx.o1.o8.s ?_
      refine c_put (by omega) hx.o1.o8 hk.1 hk.2 (by rw [g1.2.2.2.2.1]; omega) (by rw [g1.2.2.2.2.1]; omega) (zK0_i ?_)
      rw [g1.2.2.2.2.1, g1.2.2.2.2.2.1]
      generalize hme2 : zset (zset me2 (x + 1 + 8 + 2) (zup (qC A) (k * 10 + qS A k) (kd * 100 + a * 10 + b))) (x + 1 + 8 + 1) (zup (qS A) k (qS A k + 1)) = me3
      have o2 : ∀ a, a ≠ x + 1 + 8 + 1 → a ≠ x + 1 + 8 + 2 → me3 a = me2 a := fun a ha hb => by rw [← hme2, zset_ne _ _ _ ha, zset_ne _ _ _ hb]
      have s2 : me3 (x + 1 + 8 + 1) = zup (qS A) k (qS A k + 1) := by rw [← hme2]; exact zset_eq _ _ _
      have c2 : me3 (x + 1 + 8 + 2) = zup (qC A) (k * 10 + qS A k) (kd * 100 + a * 10 + b) := by rw [← hme2, zset_ne _ _ _ (by omega)]; exact zset_eq _ _ _
      refine z_L0R (pc' := 105) dX8_add_104 rfl ?_
      refine z_getR (pc' := 108) (ki := 5) 5 fX8_40.l rfl rfl dX8_add_105 rfl hx.s hx.p5 ?_
      refine z_L5R (pc' := 110) dX8_add_108 rfl ?_
      refine z_V10 (pc' := 113) (ci := 3) kX3_workOut lX8_98 dX8_add_110 rfl (by omega) (Nat.le_of_ble_eq_true rfl) (by decide) rfl hx.o82.s ?_
      refine c_workOut (by omega) hx.o82 hx.o1.o8 (by omega) (by rw [s2, c2]; exact zfv_add hvA hk.1 hk.2 (by omega) hm) (by rw [s2, c2]; exact hl2) (fun me4 hP3 hf3 => zK0_i ?_)
      rw [s2, c2] at hP3
      refine z_L5R (pc' := 115) dX8_add_113 rfl ?_
      refine z_L1I (pc' := 116) dX8_add_115 rfl ?_
      refine z_V1v (pc' := 119) (ci := 0) kX0_size lX8_77 dX8_add_116 rfl (by omega) (Nat.le_of_ble_eq_true rfl) (by decide) rfl hx.o1.o8.s ?_
      refine c_size (by omega) hx.o1.o8 (zKv_i ?_)
      rw [hf3 _ (by omega), s2, zup_eq]
      refine z_ireturn rfl rfl dX8_add_119 ?_
      refine hQ me4 (zRX_do hX (zg_mk ?_ ?_ ?_ ?_ ?_ ?_ ?_ ?_ ?_) (zRH_congr hH1 (fun a h1 h2 => by rw [hf3 a (by omega), o2 a (by omega) (by omega)])) (fun a ha => by rw [hf3 a (by omega), o2 a (by omega) (by omega), hf1 a (by omega), hf01 a ha]) hP3) (fun a ha => by rw [hf3 a (by omega), o2 a (by omega) (by omega), hf1 a (by omega), hf0 a (by omega)])
      · rw [hf3 _ (by omega), o2 _ (by omega) (by omega)]; exact g1.1
      · rw [hf3 _ (by omega), o2 _ (by omega) (by omega)]; exact g1.2.1
      · rw [hf3 _ (by omega), o2 _ (by omega) (by omega)]; exact g1.2.2.1
      · rw [hf3 _ (by omega), o2 _ (by omega) (by omega)]; exact g1.2.2.2.1
      · rw [hf3 _ (by omega)]; exact s2
      · rw [hf3 _ (by omega)]; exact c2
      · rw [hf3 _ (by omega), o2 _ (by omega) (by omega)]; exact g1.2.2.2.2.2.2.1
      · rw [hf3 _ (by omega), o2 _ (by omega) (by omega)]; exact g1.2.2.2.2.2.2.2.1
      · rw [hf3 _ (by omega), o2 _ (by omega) (by omega)]; exact g1.2.2.2.2.2.2.2.2
  refine z_if_ne (tgt := 23) (pc' := 20) dX8_add_17 (by decide) rfl (fun h17 => ?_) (fun h17 => absurd h17 (by omega))
  refine z_L0R (pc' := 24) dX8_add_23 rfl ?_
  refine z_getR (pc' := 27) (ki := 0) 0 fX8_10.l rfl rfl dX8_add_24 rfl hx.s hx.p0 ?_
  refine z_getR (pc' := 30) (ki := 2) 2 fX8_69 rfl rfl dX8_add_27 rfl (by first | exact hx.o1.s | exact hx.o12.s) (by first | exact hx.o1.p2 | exact hx.o12.p2) ?_
  refine z_S5R (pc' := 32) rfl dX8_add_30 rfl ?_
  refine z_L2I (pc' := 33) dX8_add_32 rfl ?_
  refine z_iconst (pc' := 34) dX8_add_33 rfl (by unfold zin; decide) ?_
  refine z_icmp_ne (tgt := 48) (pc' := 37) dX8_add_34 (by decide) rfl (fun h34 => ?_) (fun h34 => ?_)
  · refine z_iconst (pc' := 49) dX8_add_48 rfl (by unfold zin; decide) ?_
    refine z_S6I (pc' := 51) rfl dX8_add_49 rfl ?_
    exact H51 _ (by first | rw [if_pos (by omega)] | rw [if_neg (by omega)])
  · refine z_L0R (pc' := 38) dX8_add_37 rfl ?_
    refine z_getR (pc' := 41) (ki := 5) 5 fX8_40.l rfl rfl dX8_add_38 rfl hx.s hx.p5 ?_
    refine z_L3I (pc' := 42) dX8_add_41 rfl ?_
    refine z_V1v (pc' := 45) (ci := 3) kX3_stepCount lX8_73 dX8_add_42 rfl (by omega) (Nat.le_of_ble_eq_true rfl) (by decide) rfl hx.o82.s ?_
    refine c_stepCount (by omega) hx.o82 (zKv_i ?_)
    rw [hlen a (by omega) (by omega)]
    refine z_goto (tgt := 49) dX8_add_45 (by decide) ?_
    refine z_S6I (pc' := 51) rfl dX8_add_49 rfl ?_
    exact H51 _ (by first | rw [if_pos (by omega)] | rw [if_neg (by omega)])
end ZACT2

