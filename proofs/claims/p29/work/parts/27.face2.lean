section ZFACE2
theorem zth_bd (E : zRg) : ∀ (n : Nat) (R : zRg) (t : Int), zth E n R t = -5 ∨ (t ≤ zth E n R t ∧ zth E n R t < t + n) := by
  intro n
  induction n with
  | zero => intro R t; exact Or.inl rfl
  | succ n ih =>
    intro R t
    have h1 := ih (zact R E) (t + 1)
    have e : zth E (n + 1) R t = if zhb R = true then t else zth E n (zact R E) (t + 1) := rfl
    rw [e]
    split
    · right; omega
    · omega
def zdd (n : Int) : UInt64 := FP.ddiv (FP.i2d (Int32.ofInt n)) 4621819117588971520
theorem zdd_ok : ∀ n : Nat, n < 51 → (zdd (n : Int)) &&& 0x7fffffffffffffff ≤ 0x7ff0000000000000 := by decide +kernel
set_option maxRecDepth 100000 in
set_option maxHeartbeats 1000000 in
theorem x_figure {d : Nat} {sp : zSP} {me : zMe} {Q : zQ} {x : Nat} {A : zAb} {B k q : Int} (hd : 20 ≤ d) (hx : zObj sp x) (hX : zRX me x A) (hI : zIA B A) (hQ : ∀ me', zRX me' x A → zFr x me me' → Q (some (zI (zoFigure A k q))) sp me') : zCall mX8_figure d 0 0 [zR x, zI k, zI q] sp me Q := by
  refine z_met kX8_figure (by simp) (by simp) ?_
  show zW mX8_figure d 0 0 Q 0 [zR x, zI k, zI q, zU] [] sp me
  have hw := zx_w hX
  have hf := zx_f hX
  have hh := zx_h hX
  have hp := zx_p hX
  have hs := zx_s hX
  have hc := zx_c hX
  have hIS := hI.1
  have hgA : zgR (qW A) (qF A) := hIS.1
  have hokA : zHok (qH A) := hIS.2.1
  have hpnA : qP A = zpn (qH A) := hIS.2.2.1
  have hvA : zfv (qS A) (qC A) := hIS.2.2.2.1
  have hlA : zlim (qS A) (qC A) := hIS.2.2.2.2.1
  unfold zoFigure at hQ
  refine z_L1I (pc' := 1) dX8_figure_0 rfl ?_
  refine z_S1v (pc' := 4) kX8_isFigure lX8_61 dX8_figure_1 rfl (by omega) (Nat.le_of_ble_eq_true rfl) ?_
  refine c_isFigure (fun hp => zKv_i ?_) (fun hp => zKv_i ?_)
  rotate_left
  · refine z_if_ne (tgt := 9) (pc' := 7) dX8_figure_4 (by decide) rfl (fun h4 => absurd rfl h4) (fun h4 => ?_)
    refine z_iconst (pc' := 8) dX8_figure_7 rfl (by unfold zin; decide) ?_
    refine z_ireturn rfl rfl dX8_figure_8 ?_
    rw [zif_pos hp] at hQ
    exact hQ me hX zFr.rf
  rw [zif_neg (fun z => z hp)] at hQ
  have hrk := (hx.o82.q k hp.1 hp.2).2
  have hek := zx_e hX hp.1 hp.2
  have hgE := zgR_E hI hp.1 hp.2
  have hrow := hX.2.2.2.2.2 k hp.1 hp.2
  have hlk := hlA k hp.1 hp.2
  refine z_if_ne (tgt := 9) (pc' := 7) dX8_figure_4 (by decide) rfl (fun h4 => ?_) (fun h4 => absurd h4 (by omega))
  refine z_L0R (pc' := 10) dX8_figure_9 rfl ?_
  refine z_getR (pc' := 13) (ki := 5) 5 fX8_40.l rfl rfl dX8_figure_10 rfl hx.s hx.p5 ?_
  refine z_L1I (pc' := 14) dX8_figure_13 rfl ?_
  refine z_V1v (pc' := 17) (ci := 3) kX3_effectOf lX8_201 dX8_figure_14 rfl (by omega) (Nat.le_of_ble_eq_true rfl) (by decide) rfl hx.o82.s ?_
  refine c_effectOf (by omega) hx.o82 hp.1 hp.2 (zKv_i ?_)
  refine z_S3R (pc' := 18) rfl dX8_figure_17 rfl ?_
  refine z_L2I (pc' := 19) dX8_figure_18 rfl ?_
  have e4 : q = 0 ∨ q = 1 ∨ q = 2 ∨ q = 3 ∨ q = 4 ∨ q = 5 ∨ q = 6 ∨ q = 7 ∨ (q < 0 ∨ 7 < q) := by omega
  rcases e4 with e4 | e4 | e4 | e4 | e4 | e4 | e4 | e4 | e4
  · subst e4
    refine z_tswIn (tgt := 64) dX8_figure_19 (by decide) (by decide) rfl (by decide) ?_
    refine z_L0R (pc' := 65) dX8_figure_64 rfl ?_
    refine z_getR (pc' := 68) (ki := 0) 0 fX8_10.l rfl rfl dX8_figure_65 rfl hx.s hx.p0 ?_
    refine z_getR (pc' := 71) (ki := 2) 2 fX8_69 rfl rfl dX8_figure_68 rfl (by first | exact hx.o1.s | exact hx.o12.s) (by first | exact hx.o1.p2 | exact hx.o12.p2) ?_
    refine z_L1I (pc' := 72) dX8_figure_71 rfl ?_
    refine z_V1v (pc' := 75) (ci := 0) kX0_size lX8_77 dX8_figure_72 rfl (by omega) (Nat.le_of_ble_eq_true rfl) (by decide) rfl hx.o1.o8.s ?_
    refine c_size (by omega) hx.o1.o8 (zKv_i ?_)
    rw [hs]
    refine z_ireturn rfl rfl dX8_figure_75 ?_
    rw [zif_pos rfl] at hQ; exact hQ me hX zFr.rf
  · subst e4
    refine z_tswIn (tgt := 76) dX8_figure_19 (by decide) (by decide) rfl (by decide) ?_
    refine z_L0R (pc' := 77) dX8_figure_76 rfl ?_
    refine z_getR (pc' := 80) (ki := 5) 5 fX8_40.l rfl rfl dX8_figure_77 rfl hx.s hx.p5 ?_
    refine z_L1I (pc' := 81) dX8_figure_80 rfl ?_
    refine z_V1v (pc' := 84) (ci := 3) kX3_stepCount lX8_73 dX8_figure_81 rfl (by omega) (Nat.le_of_ble_eq_true rfl) (by decide) rfl hx.o82.s ?_
    refine c_stepCount (by omega) hx.o82 (zKv_i ?_)
    rw [hrow.1]
    refine z_ireturn rfl rfl dX8_figure_84 ?_
    rw [zif_neg (by decide), zif_pos rfl] at hQ; exact hQ me hX zFr.rf
  · subst e4
    refine z_tswIn (tgt := 85) dX8_figure_19 (by decide) (by decide) rfl (by decide) ?_
    refine z_L0R (pc' := 86) dX8_figure_85 rfl ?_
    refine z_L3R (pc' := 87) dX8_figure_86 rfl ?_
    refine z_V1v (pc' := 90) (ci := 8) kX8_orderOf lX8_205 dX8_figure_87 rfl (by omega) (Nat.le_of_ble_eq_true rfl) (by decide) rfl hx.s ?_
    refine c_orderOf (by omega) hx hrk (by omega) (by rw [hek.1, hek.2]; exact hgE) (fun j3 j4 W F => zKv_i ?_) (by have := zth_bd (me (x + 82 + 11 + 5 * k.toNat + 1), me (x + 82 + 11 + 5 * k.toNat + 2)) 120 (me (x + 82 + 11 + 5 * k.toNat + 1), me (x + 82 + 11 + 5 * k.toNat + 2)) 0; omega)
    rw [hek.1, hek.2]
    refine z_ireturn rfl rfl dX8_figure_90 ?_
    rw [zif_neg (by decide), zif_neg (by decide), zif_pos rfl] at hQ
    exact hQ _ (zRX_congr (fun a h1 h2 => zr4_o _ _ _ _ _ _ _ (by omega)) hX) (fun a ha => zr4_o _ _ _ _ _ _ _ (by omega))
  · subst e4
    refine z_tswIn (tgt := 91) dX8_figure_19 (by decide) (by decide) rfl (by decide) ?_
    refine z_bipush (pc' := 93) dX8_figure_91 rfl (by decide) ?_
    refine z_L3R (pc' := 94) dX8_figure_93 rfl ?_
    refine z_V0v (pc' := 97) (ci := 4) kX4_placedCount lX8_208 dX8_figure_94 rfl (by omega) (Nat.le_of_ble_eq_true rfl) (by decide) rfl hrk.s ?_
    refine c_placedCount hrk (zKv_i ?_)
    rw [hek.1]
    have hb := zSm_bd (g := fun p => if (zE A k).1 p = p then 1 else 0) (a := 0) (b := 1) (fun i _ => by split <;> omega) 10 (by omega)
    refine z_isub (pc' := 98) dX8_figure_97 rfl (by unfold zin; omega) ?_
    refine z_ireturn rfl rfl dX8_figure_98 ?_
    rw [zif_neg (by decide), zif_neg (by decide), zif_neg (by decide), zif_pos rfl] at hQ; exact hQ me hX zFr.rf
  · subst e4
    refine z_tswIn (tgt := 99) dX8_figure_19 (by decide) (by decide) rfl (by decide) ?_
    refine z_bipush (pc' := 101) dX8_figure_99 rfl (by decide) ?_
    refine z_L3R (pc' := 102) dX8_figure_101 rfl ?_
    refine z_V0v (pc' := 105) (ci := 4) kX4_straightCount lX8_211 dX8_figure_102 rfl (by omega) (Nat.le_of_ble_eq_true rfl) (by decide) rfl hrk.s ?_
    refine c_straightCount hrk (zKv_i ?_)
    rw [hek.2]
    have hb := zSm_bd (g := fun p => if (zE A k).2 p = 0 then 1 else 0) (a := 0) (b := 1) (fun i _ => by split <;> omega) 10 (by omega)
    refine z_isub (pc' := 106) dX8_figure_105 rfl (by unfold zin; omega) ?_
    refine z_ireturn rfl rfl dX8_figure_106 ?_
    rw [zif_neg (by decide), zif_neg (by decide), zif_neg (by decide), zif_neg (by decide), zif_pos rfl] at hQ; exact hQ me hX zFr.rf
  · subst e4
    refine z_tswIn (tgt := 107) dX8_figure_19 (by decide) (by decide) rfl (by decide) ?_
    refine z_L3R (pc' := 108) dX8_figure_107 rfl ?_
    refine z_V0v (pc' := 111) (ci := 4) kX4_oddness lX8_214 dX8_figure_108 rfl (by omega) (Nat.le_of_ble_eq_true rfl) (by decide) rfl hrk.s ?_
    refine c_oddness hrk (zKv_i ?_)
    rw [hek.1]
    refine z_ireturn rfl rfl dX8_figure_111 ?_
    rw [zif_neg (by decide), zif_neg (by decide), zif_neg (by decide), zif_neg (by decide), zif_neg (by decide), zif_pos rfl] at hQ; exact hQ me hX zFr.rf
  · subst e4
    refine z_tswIn (tgt := 112) dX8_figure_19 (by decide) (by decide) rfl (by decide) ?_
    refine z_L0R (pc' := 113) dX8_figure_112 rfl ?_
    refine z_getR (pc' := 116) (ki := 5) 5 fX8_40.l rfl rfl dX8_figure_113 rfl hx.s hx.p5 ?_
    refine z_L1I (pc' := 117) dX8_figure_116 rfl ?_
    refine z_V1v (pc' := 120) (ci := 3) kX3_calledBy lX8_217 dX8_figure_117 rfl (by omega) (Nat.le_of_ble_eq_true rfl) (by decide) rfl hx.o82.s ?_
    refine c_calledBy (by omega) hx.o82 (zKv_i ?_)
    rw [hrow.2.2.1]
    refine z_ireturn rfl rfl dX8_figure_120 ?_
    rw [zif_neg (by decide), zif_neg (by decide), zif_neg (by decide), zif_neg (by decide), zif_neg (by decide), zif_neg (by decide), zif_pos rfl] at hQ; exact hQ me hX zFr.rf
  · subst e4
    refine z_tswIn (tgt := 121) dX8_figure_19 (by decide) (by decide) rfl (by decide) ?_
    refine z_L0R (pc' := 122) dX8_figure_121 rfl ?_
    refine z_getR (pc' := 125) (ki := 5) 5 fX8_40.l rfl rfl dX8_figure_122 rfl hx.s hx.p5 ?_
    refine z_L1I (pc' := 126) dX8_figure_125 rfl ?_
    refine z_V1v (pc' := 129) (ci := 3) kX3_callersOf lX8_220 dX8_figure_126 rfl (by omega) (Nat.le_of_ble_eq_true rfl) (by decide) rfl hx.o82.s ?_
    refine c_callersOf hx.o82 hp.1 hp.2 (zKv_i ?_)
    rw [zclr_congr (g' := zcm (qS A) (qC A)) 8 (fun j hj => (hX.2.2.2.2.2 (j : Int) (by omega) (by omega)).2.2.1)]
    refine z_ireturn rfl rfl dX8_figure_129 ?_
    rw [zif_neg (by decide), zif_neg (by decide), zif_neg (by decide), zif_neg (by decide), zif_neg (by decide), zif_neg (by decide), zif_neg (by decide), zif_pos rfl] at hQ; exact hQ me hX zFr.rf
  · refine z_tswOut (tgt := 130) dX8_figure_19 (by omega) (by decide) ?_
    refine z_bipush (pc' := 132) dX8_figure_130 rfl (by decide) ?_
    refine z_ireturn rfl rfl dX8_figure_132 ?_
    rw [zif_neg (by omega), zif_neg (by omega), zif_neg (by omega), zif_neg (by omega), zif_neg (by omega), zif_neg (by omega), zif_neg (by omega), zif_neg (by omega)] at hQ; exact hQ me hX zFr.rf
set_option maxRecDepth 100000 in
set_option maxHeartbeats 1000000 in
theorem x_effect {d : Nat} {sp : zSP} {me : zMe} {Q : zQ} {x : Nat} {A : zAb} {B k p fc : Int} (hd : 20 ≤ d) (hx : zObj sp x) (hX : zRX me x A) (hI : zIA B A) (hQ : ∀ me', zRX me' x A → zFr x me me' → Q (some (zI (zoEffect A k p fc))) sp me') : zCall mX8_effect d 0 0 [zR x, zI k, zI p, zI fc] sp me Q := by
  refine z_met kX8_effect (by simp) (by simp) ?_
  show zW mX8_effect d 0 0 Q 0 [zR x, zI k, zI p, zI fc, zU, zU] [] sp me
  have hw := zx_w hX
  have hf := zx_f hX
  have hh := zx_h hX
  have hp := zx_p hX
  have hs := zx_s hX
  have hc := zx_c hX
  have hIS := hI.1
  have hgA : zgR (qW A) (qF A) := hIS.1
  have hokA : zHok (qH A) := hIS.2.1
  have hpnA : qP A = zpn (qH A) := hIS.2.2.1
  have hvA : zfv (qS A) (qC A) := hIS.2.2.2.1
  have hlA : zlim (qS A) (qC A) := hIS.2.2.2.2.1
  unfold zoEffect at hQ
  refine z_L1I (pc' := 1) dX8_effect_0 rfl ?_
  refine z_S1v (pc' := 4) kX8_isFigure lX8_61 dX8_effect_1 rfl (by omega) (Nat.le_of_ble_eq_true rfl) ?_
  refine c_isFigure (fun hk => zKv_i ?_) (fun hk => zKv_i ?_)
  rotate_left
  · refine z_if_eq (tgt := 14) (pc' := 7) dX8_effect_4 (by decide) rfl (fun h4 => ?_) (fun h4 => absurd rfl h4)
    refine z_iconst (pc' := 15) dX8_effect_14 rfl (by unfold zin; decide) ?_
    refine z_ireturn rfl rfl dX8_effect_15 ?_
    rw [zif_pos (by omega)] at hQ
    exact hQ me hX zFr.rf
  refine z_if_eq (tgt := 14) (pc' := 7) dX8_effect_4 (by decide) rfl (fun h4 => absurd h4 (by omega)) (fun h4 => ?_)
  refine z_L2I (pc' := 8) dX8_effect_7 rfl ?_
  refine z_S1v (pc' := 11) kX8_isPlace lX8_106 dX8_effect_8 rfl (by omega) (Nat.le_of_ble_eq_true rfl) ?_
  refine c_isPlace (fun hp => zKv_i ?_) (fun hp => zKv_i ?_)
  rotate_left
  · refine z_if_ne (tgt := 16) (pc' := 14) dX8_effect_11 (by decide) rfl (fun h4 => absurd rfl h4) (fun h4 => ?_)
    refine z_iconst (pc' := 15) dX8_effect_14 rfl (by unfold zin; decide) ?_
    refine z_ireturn rfl rfl dX8_effect_15 ?_
    rw [zif_pos (by omega)] at hQ
    exact hQ me hX zFr.rf
  rw [zif_neg (by omega)] at hQ
  have hrk := (hx.o82.q k hk.1 hk.2).2
  have hek := zx_e hX hk.1 hk.2
  have hgE := zgR_E hI hk.1 hk.2
  refine z_if_ne (tgt := 16) (pc' := 14) dX8_effect_11 (by decide) rfl (fun h11 => ?_) (fun h11 => absurd h11 (by omega))
  refine z_L0R (pc' := 17) dX8_effect_16 rfl ?_
  refine z_getR (pc' := 20) (ki := 5) 5 fX8_40.l rfl rfl dX8_effect_17 rfl hx.s hx.p5 ?_
  refine z_L1I (pc' := 21) dX8_effect_20 rfl ?_
  refine z_V1v (pc' := 24) (ci := 3) kX3_effectOf lX8_201 dX8_effect_21 rfl (by omega) (Nat.le_of_ble_eq_true rfl) (by decide) rfl hx.o82.s ?_
  refine c_effectOf (by omega) hx.o82 hk.1 hk.2 (zKv_i ?_)
  refine z_S4R (pc' := 26) rfl dX8_effect_24 rfl ?_
  refine z_L4R (pc' := 28) dX8_effect_26 rfl ?_
  refine z_L2I (pc' := 29) dX8_effect_28 rfl ?_
  refine z_V1v (pc' := 32) (ci := 4) kX4_placeOf lX8_121 dX8_effect_29 rfl (by omega) (Nat.le_of_ble_eq_true rfl) (by decide) rfl hrk.s ?_
  have hpl := zpl_ok hgE hp.1 hp.2
  refine c_placeOf hrk hpl.1 hpl.2.1 (by rw [hek.1]; exact hpl.2.2) (fun r h0 h1 => by rw [hek.1]; exact zpl_lt hgE hp.1 hp.2 h0 h1) (zKv_i ?_)
  refine z_S5I (pc' := 34) rfl dX8_effect_32 rfl ?_
  refine z_L3I (pc' := 35) dX8_effect_34 rfl ?_
  refine z_if_eq (tgt := 48) (pc' := 38) dX8_effect_35 (by decide) rfl (fun h35 => ?_) (fun h35 => ?_)
  · refine z_L5I (pc' := 50) dX8_effect_48 rfl ?_
    refine z_ireturn rfl rfl dX8_effect_50 ?_
    first | (rw [zif_pos h35] at hQ; exact hQ me hX zFr.rf) | (rw [zif_neg h35] at hQ; exact hQ me hX zFr.rf)
  · refine z_L4R (pc' := 40) dX8_effect_38 rfl ?_
    refine z_L5I (pc' := 42) dX8_effect_40 rfl ?_
    refine z_V1v (pc' := 45) (ci := 4) kX4_faceAt lX8_183 dX8_effect_42 rfl (by omega) (Nat.le_of_ble_eq_true rfl) (by decide) rfl hrk.s ?_
    refine c_faceAt (by omega) hrk (zKv_i ?_)
    rw [hek.2]
    refine z_goto (tgt := 50) dX8_effect_45 (by decide) ?_
    refine z_ireturn rfl rfl dX8_effect_50 ?_
    first | (rw [zif_pos h35] at hQ; exact hQ me hX zFr.rf) | (rw [zif_neg h35] at hQ; exact hQ me hX zFr.rf)
set_option maxRecDepth 100000 in
set_option maxHeartbeats 1000000 in
theorem x_alike {d : Nat} {sp : zSP} {me : zMe} {Q : zQ} {x : Nat} {A : zAb} {B k j : Int} (hd : 20 ≤ d) (hx : zObj sp x) (hX : zRX me x A) (hI : zIA B A) (hQ : ∀ me', zRX me' x A → zFr x me me' → Q (some (zI (zoAlike A k j))) sp me') : zCall mX8_alike d 0 0 [zR x, zI k, zI j] sp me Q := by
  refine z_met kX8_alike (by simp) (by simp) ?_
  show zW mX8_alike d 0 0 Q 0 [zR x, zI k, zI j] [] sp me
  have hw := zx_w hX
  have hf := zx_f hX
  have hh := zx_h hX
  have hp := zx_p hX
  have hs := zx_s hX
  have hc := zx_c hX
  have hIS := hI.1
  have hgA : zgR (qW A) (qF A) := hIS.1
  have hokA : zHok (qH A) := hIS.2.1
  have hpnA : qP A = zpn (qH A) := hIS.2.2.1
  have hvA : zfv (qS A) (qC A) := hIS.2.2.2.1
  have hlA : zlim (qS A) (qC A) := hIS.2.2.2.2.1
  unfold zoAlike at hQ
  refine z_L1I (pc' := 1) dX8_alike_0 rfl ?_
  refine z_S1v (pc' := 4) kX8_isFigure lX8_61 dX8_alike_1 rfl (by omega) (Nat.le_of_ble_eq_true rfl) ?_
  refine c_isFigure (fun hk => zKv_i ?_) (fun hk => zKv_i ?_)
  rotate_left
  · refine z_if_eq (tgt := 14) (pc' := 7) dX8_alike_4 (by decide) rfl (fun h4 => ?_) (fun h4 => absurd rfl h4)
    refine z_iconst (pc' := 15) dX8_alike_14 rfl (by unfold zin; decide) ?_
    refine z_ireturn rfl rfl dX8_alike_15 ?_
    rw [zif_pos (by omega)] at hQ
    exact hQ me hX zFr.rf
  refine z_if_eq (tgt := 14) (pc' := 7) dX8_alike_4 (by decide) rfl (fun h4 => absurd h4 (by omega)) (fun h4 => ?_)
  refine z_L2I (pc' := 8) dX8_alike_7 rfl ?_
  refine z_S1v (pc' := 11) kX8_isFigure lX8_61 dX8_alike_8 rfl (by omega) (Nat.le_of_ble_eq_true rfl) ?_
  refine c_isFigure (fun hj => zKv_i ?_) (fun hj => zKv_i ?_)
  rotate_left
  · refine z_if_ne (tgt := 16) (pc' := 14) dX8_alike_11 (by decide) rfl (fun h4 => absurd rfl h4) (fun h4 => ?_)
    refine z_iconst (pc' := 15) dX8_alike_14 rfl (by unfold zin; decide) ?_
    refine z_ireturn rfl rfl dX8_alike_15 ?_
    rw [zif_pos (by omega)] at hQ
    exact hQ me hX zFr.rf
  rw [zif_neg (by omega)] at hQ
  have hrk := (hx.o82.q k hk.1 hk.2).2
  have hek := zx_e hX hk.1 hk.2
  have hrj := (hx.o82.q j hj.1 hj.2).2
  have hej := zx_e hX hj.1 hj.2
  refine z_if_ne (tgt := 16) (pc' := 14) dX8_alike_11 (by decide) rfl (fun h11 => ?_) (fun h11 => absurd h11 (by omega))
  refine z_L0R (pc' := 17) dX8_alike_16 rfl ?_
  refine z_getR (pc' := 20) (ki := 5) 5 fX8_40.l rfl rfl dX8_alike_17 rfl hx.s hx.p5 ?_
  refine z_L1I (pc' := 21) dX8_alike_20 rfl ?_
  refine z_V1v (pc' := 24) (ci := 3) kX3_effectOf lX8_201 dX8_alike_21 rfl (by omega) (Nat.le_of_ble_eq_true rfl) (by decide) rfl hx.o82.s ?_
  refine c_effectOf (by omega) hx.o82 hk.1 hk.2 (zKv_i ?_)
  refine z_L0R (pc' := 25) dX8_alike_24 rfl ?_
  refine z_getR (pc' := 28) (ki := 5) 5 fX8_40.l rfl rfl dX8_alike_25 rfl hx.s hx.p5 ?_
  refine z_L2I (pc' := 29) dX8_alike_28 rfl ?_
  refine z_V1v (pc' := 32) (ci := 3) kX3_effectOf lX8_201 dX8_alike_29 rfl (by omega) (Nat.le_of_ble_eq_true rfl) (by decide) rfl hx.o82.s ?_
  refine c_effectOf (by omega) hx.o82 hj.1 hj.2 (zKv_i ?_)
  refine z_V1v (pc' := 35) (ci := 4) kX4_isSameAs lX8_223 dX8_alike_32 rfl (by omega) (Nat.le_of_ble_eq_true rfl) (by decide) rfl hrk.s ?_
  refine c_isSame hrk hrj (fun hh => zKv_i ?_) (fun hh => zKv_i ?_)
  rotate_left
  · rw [hek.1, hek.2, hej.1, hej.2] at hh
    have hh : ¬ zsame (zE A k) (zE A j) := hh
    rw [zif_neg hh] at hQ
    refine z_if_eq (tgt := 42) (pc' := 38) dX8_alike_35 (by decide) rfl (fun h4 => ?_) (fun h4 => absurd rfl h4)
    refine z_iconst (pc' := 43) dX8_alike_42 rfl (by unfold zin; decide) ?_
    refine z_ireturn rfl rfl dX8_alike_43 ?_
    exact hQ me hX zFr.rf
  rw [hek.1, hek.2, hej.1, hej.2] at hh
  have hh : zsame (zE A k) (zE A j) := hh
  rw [zif_pos hh] at hQ
  refine z_if_eq (tgt := 42) (pc' := 38) dX8_alike_35 (by decide) rfl (fun h35 => absurd h35 (by omega)) (fun h35 => ?_)
  refine z_iconst (pc' := 39) dX8_alike_38 rfl (by unfold zin; decide) ?_
  refine z_goto (tgt := 43) dX8_alike_39 (by decide) ?_
  refine z_ireturn rfl rfl dX8_alike_43 ?_
  exact hQ me hX zFr.rf
set_option maxRecDepth 100000 in
set_option maxHeartbeats 1000000 in
theorem x_commute {d : Nat} {sp : zSP} {me : zMe} {Q : zQ} {x : Nat} {A : zAb} {B k j : Int} (hd : 20 ≤ d) (hx : zObj sp x) (hX : zRX me x A) (hI : zIA B A) (hQ : ∀ me', zRX me' x A → zFr x me me' → Q (some (zI (zoCommute A k j))) sp me') : zCall mX8_commute d 0 0 [zR x, zI k, zI j] sp me Q := by
  refine z_met kX8_commute (by simp) (by simp) ?_
  show zW mX8_commute d 0 0 Q 0 [zR x, zI k, zI j] [] sp me
  have hw := zx_w hX
  have hf := zx_f hX
  have hh := zx_h hX
  have hp := zx_p hX
  have hs := zx_s hX
  have hc := zx_c hX
  have hIS := hI.1
  have hgA : zgR (qW A) (qF A) := hIS.1
  have hokA : zHok (qH A) := hIS.2.1
  have hpnA : qP A = zpn (qH A) := hIS.2.2.1
  have hvA : zfv (qS A) (qC A) := hIS.2.2.2.1
  have hlA : zlim (qS A) (qC A) := hIS.2.2.2.2.1
  unfold zoCommute at hQ
  refine z_L1I (pc' := 1) dX8_commute_0 rfl ?_
  refine z_S1v (pc' := 4) kX8_isFigure lX8_61 dX8_commute_1 rfl (by omega) (Nat.le_of_ble_eq_true rfl) ?_
  refine c_isFigure (fun hk => zKv_i ?_) (fun hk => zKv_i ?_)
  rotate_left
  · refine z_if_eq (tgt := 14) (pc' := 7) dX8_commute_4 (by decide) rfl (fun h4 => ?_) (fun h4 => absurd rfl h4)
    refine z_iconst (pc' := 15) dX8_commute_14 rfl (by unfold zin; decide) ?_
    refine z_ireturn rfl rfl dX8_commute_15 ?_
    rw [zif_pos (by omega)] at hQ
    exact hQ me hX zFr.rf
  refine z_if_eq (tgt := 14) (pc' := 7) dX8_commute_4 (by decide) rfl (fun h4 => absurd h4 (by omega)) (fun h4 => ?_)
  refine z_L2I (pc' := 8) dX8_commute_7 rfl ?_
  refine z_S1v (pc' := 11) kX8_isFigure lX8_61 dX8_commute_8 rfl (by omega) (Nat.le_of_ble_eq_true rfl) ?_
  refine c_isFigure (fun hj => zKv_i ?_) (fun hj => zKv_i ?_)
  rotate_left
  · refine z_if_ne (tgt := 16) (pc' := 14) dX8_commute_11 (by decide) rfl (fun h4 => absurd rfl h4) (fun h4 => ?_)
    refine z_iconst (pc' := 15) dX8_commute_14 rfl (by unfold zin; decide) ?_
    refine z_ireturn rfl rfl dX8_commute_15 ?_
    rw [zif_pos (by omega)] at hQ
    exact hQ me hX zFr.rf
  rw [zif_neg (by omega)] at hQ
  have hrk := (hx.o82.q k hk.1 hk.2).2
  have hek := zx_e hX hk.1 hk.2
  have hgk := zgR_E hI hk.1 hk.2
  have hrj := (hx.o82.q j hj.1 hj.2).2
  have hej := zx_e hX hj.1 hj.2
  have hgj := zgR_E hI hj.1 hj.2
  refine z_if_ne (tgt := 16) (pc' := 14) dX8_commute_11 (by decide) rfl (fun h11 => ?_) (fun h11 => absurd h11 (by omega))
  refine z_L0R (pc' := 17) dX8_commute_16 rfl ?_
  refine z_getR (pc' := 20) (ki := 7) 7 fX8_54.l rfl rfl dX8_commute_17 rfl hx.s hx.p7 ?_
  refine z_L0R (pc' := 21) dX8_commute_20 rfl ?_
  refine z_getR (pc' := 24) (ki := 5) 5 fX8_40.l rfl rfl dX8_commute_21 rfl hx.s hx.p5 ?_
  refine z_L1I (pc' := 25) dX8_commute_24 rfl ?_
  refine z_V1v (pc' := 28) (ci := 3) kX3_effectOf lX8_201 dX8_commute_25 rfl (by omega) (Nat.le_of_ble_eq_true rfl) (by decide) rfl hx.o82.s ?_
  refine c_effectOf (by omega) hx.o82 hk.1 hk.2 (zKv_i ?_)
  refine z_V10 (pc' := 31) (ci := 4) kX4_copyFrom lX8_227 dX8_commute_28 rfl (by omega) (Nat.le_of_ble_eq_true rfl) (by decide) rfl hx.o156.s ?_
  refine c_ringCopy (by omega) hx.o156 hrk (by omega) (zK0_i ?_)
  rw [zr4_set, hek.1, hek.2]
  have ea : ∀ a b W F y, (y < x + 157 ∨ x + 160 < y) → zr4 me (x + 156) a b W F y = me y := fun a b W F y hy => zr4_o _ _ _ _ _ _ _ (by omega)
  refine z_L0R (pc' := 32) dX8_commute_31 rfl ?_
  refine z_getR (pc' := 35) (ki := 7) 7 fX8_54.l rfl rfl dX8_commute_32 rfl hx.s hx.p7 ?_
  refine z_L0R (pc' := 36) dX8_commute_35 rfl ?_
  refine z_getR (pc' := 39) (ki := 5) 5 fX8_40.l rfl rfl dX8_commute_36 rfl hx.s hx.p5 ?_
  refine z_L2I (pc' := 40) dX8_commute_39 rfl ?_
  refine z_V1v (pc' := 43) (ci := 3) kX3_effectOf lX8_201 dX8_commute_40 rfl (by omega) (Nat.le_of_ble_eq_true rfl) (by decide) rfl hx.o82.s ?_
  refine c_effectOf (by omega) hx.o82 hj.1 hj.2 (zKv_i ?_)
  refine z_V10 (pc' := 46) (ci := 4) kX4_follow lX8_230 dX8_commute_43 rfl (by omega) (Nat.le_of_ble_eq_true rfl) (by decide) rfl hx.o156.s ?_
  refine c_follow (by omega) hx.o156 hrj (by omega) (by rw [zr4_1, zr4_2]; exact hgk) (by rw [ea _ _ _ _ _ (by omega), ea _ _ _ _ _ (by omega), hej.1, hej.2]; exact hgj) (fun j3 j4 => zK0_i ?_)
  rw [zr4_1, zr4_2, ea _ _ _ _ _ (by omega), ea _ _ _ _ _ (by omega), hej.1, hej.2, zr4_zr4]
  generalize hme1 : zr4 me (x + 156) j3 j4 (zaw (zE A k).1 (zE A j).1) (zaf (zE A k).2 (zE A j).1 (zE A j).2) = me1
  have ea1 : ∀ y, (y < x + 157 ∨ x + 160 < y) → me1 y = me y := fun y hy => by rw [← hme1]; exact ea _ _ _ _ _ hy
  have t1 : me1 (x + 156 + 1) = zaw (zE A k).1 (zE A j).1 := by rw [← hme1, zr4_1]
  have t2 : me1 (x + 156 + 2) = zaf (zE A k).2 (zE A j).1 (zE A j).2 := by rw [← hme1, zr4_2]
  refine z_L0R (pc' := 47) dX8_commute_46 rfl ?_
  refine z_getR (pc' := 50) (ki := 8) 8 fX8_58.l rfl rfl dX8_commute_47 rfl hx.s hx.p8 ?_
  refine z_L0R (pc' := 51) dX8_commute_50 rfl ?_
  refine z_getR (pc' := 54) (ki := 5) 5 fX8_40.l rfl rfl dX8_commute_51 rfl hx.s hx.p5 ?_
  refine z_L2I (pc' := 55) dX8_commute_54 rfl ?_
  refine z_V1v (pc' := 58) (ci := 3) kX3_effectOf lX8_201 dX8_commute_55 rfl (by omega) (Nat.le_of_ble_eq_true rfl) (by decide) rfl hx.o82.s ?_
  refine c_effectOf (by omega) hx.o82 hj.1 hj.2 (zKv_i ?_)
  refine z_V10 (pc' := 61) (ci := 4) kX4_copyFrom lX8_227 dX8_commute_58 rfl (by omega) (Nat.le_of_ble_eq_true rfl) (by decide) rfl hx.o161.s ?_
  refine c_ringCopy (by omega) hx.o161 hrj (by omega) (zK0_i ?_)
  rw [zr4_set, ea1 (x + 82 + 11 + 5 * j.toNat + 1) (by omega), ea1 (x + 82 + 11 + 5 * j.toNat + 2) (by omega), hej.1, hej.2]
  have eb : ∀ a b W F y, (y < x + 162 ∨ x + 165 < y) → zr4 me1 (x + 161) a b W F y = me1 y := fun a b W F y hy => zr4_o _ _ _ _ _ _ _ (by omega)
  refine z_L0R (pc' := 62) dX8_commute_61 rfl ?_
  refine z_getR (pc' := 65) (ki := 8) 8 fX8_58.l rfl rfl dX8_commute_62 rfl hx.s hx.p8 ?_
  refine z_L0R (pc' := 66) dX8_commute_65 rfl ?_
  refine z_getR (pc' := 69) (ki := 5) 5 fX8_40.l rfl rfl dX8_commute_66 rfl hx.s hx.p5 ?_
  refine z_L1I (pc' := 70) dX8_commute_69 rfl ?_
  refine z_V1v (pc' := 73) (ci := 3) kX3_effectOf lX8_201 dX8_commute_70 rfl (by omega) (Nat.le_of_ble_eq_true rfl) (by decide) rfl hx.o82.s ?_
  refine c_effectOf (by omega) hx.o82 hk.1 hk.2 (zKv_i ?_)
  refine z_V10 (pc' := 76) (ci := 4) kX4_follow lX8_230 dX8_commute_73 rfl (by omega) (Nat.le_of_ble_eq_true rfl) (by decide) rfl hx.o161.s ?_
  refine c_follow (by omega) hx.o161 hrk (by omega) (by rw [zr4_1, zr4_2]; exact hgj) (by rw [eb _ _ _ _ _ (by omega), eb _ _ _ _ _ (by omega), ea1 _ (by omega), ea1 _ (by omega), hek.1, hek.2]; exact hgk) (fun j5 j6 => zK0_i ?_)
  rw [zr4_1, zr4_2, eb _ _ _ _ (x + 82 + 11 + 5 * k.toNat + 1) (by omega), eb _ _ _ _ (x + 82 + 11 + 5 * k.toNat + 2) (by omega), ea1 (x + 82 + 11 + 5 * k.toNat + 1) (by omega), ea1 (x + 82 + 11 + 5 * k.toNat + 2) (by omega), hek.1, hek.2, zr4_zr4]
  generalize hme2 : zr4 me1 (x + 161) j5 j6 (zaw (zE A j).1 (zE A k).1) (zaf (zE A j).2 (zE A k).1 (zE A k).2) = me2
  have eb2 : ∀ y, (y < x + 162 ∨ x + 165 < y) → me2 y = me1 y := fun y hy => by rw [← hme2]; exact eb _ _ _ _ _ hy
  have o1 : me2 (x + 161 + 1) = zaw (zE A j).1 (zE A k).1 := by rw [← hme2, zr4_1]
  have o2 : me2 (x + 161 + 2) = zaf (zE A j).2 (zE A k).1 (zE A k).2 := by rw [← hme2, zr4_2]
  have o3 : me2 (x + 156 + 1) = zaw (zE A k).1 (zE A j).1 := by rw [eb2 _ (by omega)]; exact t1
  have o4 : me2 (x + 156 + 2) = zaf (zE A k).2 (zE A j).1 (zE A j).2 := by rw [eb2 _ (by omega)]; exact t2
  have hQ2 := hQ me2 (zRX_congr (fun a h1 h2 => by rw [eb2 _ (by omega)]; exact ea1 _ (by omega)) hX) (fun a ha => by rw [eb2 _ (by omega)]; exact ea1 _ (by omega))
  refine z_L0R (pc' := 77) dX8_commute_76 rfl ?_
  refine z_getR (pc' := 80) (ki := 7) 7 fX8_54.l rfl rfl dX8_commute_77 rfl hx.s hx.p7 ?_
  refine z_L0R (pc' := 81) dX8_commute_80 rfl ?_
  refine z_getR (pc' := 84) (ki := 8) 8 fX8_58.l rfl rfl dX8_commute_81 rfl hx.s hx.p8 ?_
  refine z_V1v (pc' := 87) (ci := 4) kX4_isSameAs lX8_223 dX8_commute_84 rfl (by omega) (Nat.le_of_ble_eq_true rfl) (by decide) rfl hx.o156.s ?_
  refine c_isSame hx.o156 hx.o161 (fun hh => zKv_i ?_) (fun hh => zKv_i ?_)
  rotate_left
  · rw [o1, o2, o3, o4] at hh
    have hh : ¬ zsame (zact (zE A k) (zE A j)) (zact (zE A j) (zE A k)) := hh
    rw [zif_neg hh] at hQ2
    refine z_if_eq (tgt := 94) (pc' := 90) dX8_commute_87 (by decide) rfl (fun h4 => ?_) (fun h4 => absurd rfl h4)
    refine z_iconst (pc' := 95) dX8_commute_94 rfl (by unfold zin; decide) ?_
    refine z_ireturn rfl rfl dX8_commute_95 ?_
    exact hQ2
  rw [o1, o2, o3, o4] at hh
  have hh : zsame (zact (zE A k) (zE A j)) (zact (zE A j) (zE A k)) := hh
  rw [zif_pos hh] at hQ2
  refine z_if_eq (tgt := 94) (pc' := 90) dX8_commute_87 (by decide) rfl (fun h87 => absurd h87 (by omega)) (fun h87 => ?_)
  refine z_iconst (pc' := 91) dX8_commute_90 rfl (by unfold zin; decide) ?_
  refine z_goto (tgt := 95) dX8_commute_91 (by decide) ?_
  refine z_ireturn rfl rfl dX8_commute_95 ?_
  exact hQ2
set_option maxRecDepth 100000 in
set_option maxHeartbeats 1000000 in
theorem x_count {d : Nat} {sp : zSP} {me : zMe} {Q : zQ} {x : Nat} {A : zAb} {B q : Int} (hd : 20 ≤ d) (hx : zObj sp x) (hX : zRX me x A) (hI : zIA B A) (hQ : ∀ me', zRX me' x A → zFr x me me' → Q (some (zI (zoCount A q))) sp me') : zCall mX8_count d 0 0 [zR x, zI q] sp me Q := by
  refine z_met kX8_count (by simp) (by simp) ?_
  show zW mX8_count d 0 0 Q 0 [zR x, zI q] [] sp me
  have hw := zx_w hX
  have hf := zx_f hX
  have hh := zx_h hX
  have hp := zx_p hX
  have hs := zx_s hX
  have hc := zx_c hX
  have hIS := hI.1
  have hgA : zgR (qW A) (qF A) := hIS.1
  have hokA : zHok (qH A) := hIS.2.1
  have hpnA : qP A = zpn (qH A) := hIS.2.2.1
  have hvA : zfv (qS A) (qC A) := hIS.2.2.2.1
  have hlA : zlim (qS A) (qC A) := hIS.2.2.2.2.1
  have hhis := hX.2.1
  unfold zoCount at hQ
  refine z_L1I (pc' := 1) dX8_count_0 rfl ?_
  have e4 : q = 0 ∨ q = 1 ∨ q = 2 ∨ q = 3 ∨ q = 4 ∨ q = 5 ∨ (q < 0 ∨ 5 < q) := by omega
  rcases e4 with e4 | e4 | e4 | e4 | e4 | e4 | e4
  · subst e4
    refine z_tswIn (tgt := 40) dX8_count_1 (by decide) (by decide) rfl (by decide) ?_
    refine z_L0R (pc' := 41) dX8_count_40 rfl ?_
    refine z_getR (pc' := 44) (ki := 0) 0 fX8_10.l rfl rfl dX8_count_41 rfl hx.s hx.p0 ?_
    refine z_getR (pc' := 47) (ki := 0) 0 fX8_118 rfl rfl dX8_count_44 rfl (by first | exact hx.o1.s | exact hx.o12.s) (by first | exact hx.o1.p0 | exact hx.o12.p0) ?_
    refine z_V0v (pc' := 50) (ci := 4) kX4_homeCount lX8_146 dX8_count_47 rfl (by omega) (Nat.le_of_ble_eq_true rfl) (by decide) rfl hx.o1.o1.s ?_
    refine c_homeCount hx.o1.o1 (zKv_i ?_)
    rw [hw, hf]
    refine z_ireturn rfl rfl dX8_count_50 ?_
    first
    | (rw [zif_pos rfl] at hQ; exact hQ me hX zFr.rf)
    | (rw [zif_neg (by decide), zif_pos rfl] at hQ; exact hQ me hX zFr.rf)
    | (rw [zif_neg (by decide), zif_neg (by decide), zif_pos rfl] at hQ; exact hQ me hX zFr.rf)
    | (rw [zif_neg (by decide), zif_neg (by decide), zif_neg (by decide), zif_pos rfl] at hQ; exact hQ me hX zFr.rf)
    | (rw [zif_neg (by decide), zif_neg (by decide), zif_neg (by decide), zif_neg (by decide), zif_pos rfl] at hQ; exact hQ me hX zFr.rf)
    | (rw [zif_neg (by decide), zif_neg (by decide), zif_neg (by decide), zif_neg (by decide), zif_neg (by decide), zif_pos rfl] at hQ; exact hQ me hX zFr.rf)
    | (rw [zif_neg (by omega), zif_neg (by omega), zif_neg (by omega), zif_neg (by omega), zif_neg (by omega), zif_neg (by omega)] at hQ; exact hQ me hX zFr.rf)
  · subst e4
    refine z_tswIn (tgt := 51) dX8_count_1 (by decide) (by decide) rfl (by decide) ?_
    refine z_L0R (pc' := 52) dX8_count_51 rfl ?_
    refine z_getR (pc' := 55) (ki := 0) 0 fX8_10.l rfl rfl dX8_count_52 rfl hx.s hx.p0 ?_
    refine z_getR (pc' := 58) (ki := 0) 0 fX8_118 rfl rfl dX8_count_55 rfl (by first | exact hx.o1.s | exact hx.o12.s) (by first | exact hx.o1.p0 | exact hx.o12.p0) ?_
    refine z_V0v (pc' := 61) (ci := 4) kX4_placedCount lX8_208 dX8_count_58 rfl (by omega) (Nat.le_of_ble_eq_true rfl) (by decide) rfl hx.o1.o1.s ?_
    refine c_placedCount hx.o1.o1 (zKv_i ?_)
    rw [hw]
    refine z_ireturn rfl rfl dX8_count_61 ?_
    first
    | (rw [zif_pos rfl] at hQ; exact hQ me hX zFr.rf)
    | (rw [zif_neg (by decide), zif_pos rfl] at hQ; exact hQ me hX zFr.rf)
    | (rw [zif_neg (by decide), zif_neg (by decide), zif_pos rfl] at hQ; exact hQ me hX zFr.rf)
    | (rw [zif_neg (by decide), zif_neg (by decide), zif_neg (by decide), zif_pos rfl] at hQ; exact hQ me hX zFr.rf)
    | (rw [zif_neg (by decide), zif_neg (by decide), zif_neg (by decide), zif_neg (by decide), zif_pos rfl] at hQ; exact hQ me hX zFr.rf)
    | (rw [zif_neg (by decide), zif_neg (by decide), zif_neg (by decide), zif_neg (by decide), zif_neg (by decide), zif_pos rfl] at hQ; exact hQ me hX zFr.rf)
    | (rw [zif_neg (by omega), zif_neg (by omega), zif_neg (by omega), zif_neg (by omega), zif_neg (by omega), zif_neg (by omega)] at hQ; exact hQ me hX zFr.rf)
  · subst e4
    refine z_tswIn (tgt := 62) dX8_count_1 (by decide) (by decide) rfl (by decide) ?_
    refine z_L0R (pc' := 63) dX8_count_62 rfl ?_
    refine z_getR (pc' := 66) (ki := 0) 0 fX8_10.l rfl rfl dX8_count_63 rfl hx.s hx.p0 ?_
    refine z_getR (pc' := 69) (ki := 1) 1 fX8_109 rfl rfl dX8_count_66 rfl (by first | exact hx.o1.s | exact hx.o12.s) (by first | exact hx.o1.p1 | exact hx.o12.p1) ?_
    refine z_V0v (pc' := 72) (ci := 2) kX2_pairs lX8_131 dX8_count_69 rfl (by omega) (Nat.le_of_ble_eq_true rfl) (by decide) rfl hx.o1.o6.s ?_
    refine c_pairs hx.o1.o6 (zKv_i ?_)
    rw [hp]
    refine z_ireturn rfl rfl dX8_count_72 ?_
    first
    | (rw [zif_pos rfl] at hQ; exact hQ me hX zFr.rf)
    | (rw [zif_neg (by decide), zif_pos rfl] at hQ; exact hQ me hX zFr.rf)
    | (rw [zif_neg (by decide), zif_neg (by decide), zif_pos rfl] at hQ; exact hQ me hX zFr.rf)
    | (rw [zif_neg (by decide), zif_neg (by decide), zif_neg (by decide), zif_pos rfl] at hQ; exact hQ me hX zFr.rf)
    | (rw [zif_neg (by decide), zif_neg (by decide), zif_neg (by decide), zif_neg (by decide), zif_pos rfl] at hQ; exact hQ me hX zFr.rf)
    | (rw [zif_neg (by decide), zif_neg (by decide), zif_neg (by decide), zif_neg (by decide), zif_neg (by decide), zif_pos rfl] at hQ; exact hQ me hX zFr.rf)
    | (rw [zif_neg (by omega), zif_neg (by omega), zif_neg (by omega), zif_neg (by omega), zif_neg (by omega), zif_neg (by omega)] at hQ; exact hQ me hX zFr.rf)
  · subst e4
    refine z_tswIn (tgt := 73) dX8_count_1 (by decide) (by decide) rfl (by decide) ?_
    refine z_L0R (pc' := 74) dX8_count_73 rfl ?_
    refine z_getR (pc' := 77) (ki := 0) 0 fX8_10.l rfl rfl dX8_count_74 rfl hx.s hx.p0 ?_
    refine z_getR (pc' := 80) (ki := 2) 2 fX8_69 rfl rfl dX8_count_77 rfl (by first | exact hx.o1.s | exact hx.o12.s) (by first | exact hx.o1.p2 | exact hx.o12.p2) ?_
    refine z_V0v (pc' := 83) (ci := 0) kX0_usedCount lX8_233 dX8_count_80 rfl (by omega) (Nat.le_of_ble_eq_true rfl) (by decide) rfl hx.o1.o8.s ?_
    refine c_usedCount hx.o1.o8 (zKv_i ?_)
    rw [hs]
    refine z_ireturn rfl rfl dX8_count_83 ?_
    first
    | (rw [zif_pos rfl] at hQ; exact hQ me hX zFr.rf)
    | (rw [zif_neg (by decide), zif_pos rfl] at hQ; exact hQ me hX zFr.rf)
    | (rw [zif_neg (by decide), zif_neg (by decide), zif_pos rfl] at hQ; exact hQ me hX zFr.rf)
    | (rw [zif_neg (by decide), zif_neg (by decide), zif_neg (by decide), zif_pos rfl] at hQ; exact hQ me hX zFr.rf)
    | (rw [zif_neg (by decide), zif_neg (by decide), zif_neg (by decide), zif_neg (by decide), zif_pos rfl] at hQ; exact hQ me hX zFr.rf)
    | (rw [zif_neg (by decide), zif_neg (by decide), zif_neg (by decide), zif_neg (by decide), zif_neg (by decide), zif_pos rfl] at hQ; exact hQ me hX zFr.rf)
    | (rw [zif_neg (by omega), zif_neg (by omega), zif_neg (by omega), zif_neg (by omega), zif_neg (by omega), zif_neg (by omega)] at hQ; exact hQ me hX zFr.rf)
  · subst e4
    refine z_tswIn (tgt := 84) dX8_count_1 (by decide) (by decide) rfl (by decide) ?_
    refine z_L0R (pc' := 85) dX8_count_84 rfl ?_
    refine z_getR (pc' := 88) (ki := 3) 3 fX8_26.l rfl rfl dX8_count_85 rfl hx.s hx.p3 ?_
    refine z_V0v (pc' := 91) (ci := 1) kX1_size lX8_178 dX8_count_88 rfl (by omega) (Nat.le_of_ble_eq_true rfl) (by decide) rfl hx.o23.s ?_
    refine c_histSize hx.o23 (zKv_i ?_)
    rw [hhis.1]
    refine z_ireturn rfl rfl dX8_count_91 ?_
    first
    | (rw [zif_pos rfl] at hQ; exact hQ me hX zFr.rf)
    | (rw [zif_neg (by decide), zif_pos rfl] at hQ; exact hQ me hX zFr.rf)
    | (rw [zif_neg (by decide), zif_neg (by decide), zif_pos rfl] at hQ; exact hQ me hX zFr.rf)
    | (rw [zif_neg (by decide), zif_neg (by decide), zif_neg (by decide), zif_pos rfl] at hQ; exact hQ me hX zFr.rf)
    | (rw [zif_neg (by decide), zif_neg (by decide), zif_neg (by decide), zif_neg (by decide), zif_pos rfl] at hQ; exact hQ me hX zFr.rf)
    | (rw [zif_neg (by decide), zif_neg (by decide), zif_neg (by decide), zif_neg (by decide), zif_neg (by decide), zif_pos rfl] at hQ; exact hQ me hX zFr.rf)
    | (rw [zif_neg (by omega), zif_neg (by omega), zif_neg (by omega), zif_neg (by omega), zif_neg (by omega), zif_neg (by omega)] at hQ; exact hQ me hX zFr.rf)
  · subst e4
    refine z_tswIn (tgt := 92) dX8_count_1 (by decide) (by decide) rfl (by decide) ?_
    refine z_L0R (pc' := 93) dX8_count_92 rfl ?_
    refine z_getR (pc' := 96) (ki := 4) 4 fX8_33.l rfl rfl dX8_count_93 rfl hx.s hx.p4 ?_
    refine z_V0v (pc' := 99) (ci := 5) kX5_length lX8_160 dX8_count_96 rfl (by omega) (Nat.le_of_ble_eq_true rfl) (by decide) rfl hx.o80.s ?_
    refine c_scrLen hx.o80 (zKv_i ?_)
    rw [hX.2.2.2.1]
    refine z_ireturn rfl rfl dX8_count_99 ?_
    first
    | (rw [zif_pos rfl] at hQ; exact hQ me hX zFr.rf)
    | (rw [zif_neg (by decide), zif_pos rfl] at hQ; exact hQ me hX zFr.rf)
    | (rw [zif_neg (by decide), zif_neg (by decide), zif_pos rfl] at hQ; exact hQ me hX zFr.rf)
    | (rw [zif_neg (by decide), zif_neg (by decide), zif_neg (by decide), zif_pos rfl] at hQ; exact hQ me hX zFr.rf)
    | (rw [zif_neg (by decide), zif_neg (by decide), zif_neg (by decide), zif_neg (by decide), zif_pos rfl] at hQ; exact hQ me hX zFr.rf)
    | (rw [zif_neg (by decide), zif_neg (by decide), zif_neg (by decide), zif_neg (by decide), zif_neg (by decide), zif_pos rfl] at hQ; exact hQ me hX zFr.rf)
    | (rw [zif_neg (by omega), zif_neg (by omega), zif_neg (by omega), zif_neg (by omega), zif_neg (by omega), zif_neg (by omega)] at hQ; exact hQ me hX zFr.rf)
  · refine z_tswOut (tgt := 100) dX8_count_1 (by omega) (by decide) ?_
    refine z_bipush (pc' := 102) dX8_count_100 rfl (by decide) ?_
    refine z_ireturn rfl rfl dX8_count_102 ?_
    first
    | (rw [zif_pos rfl] at hQ; exact hQ me hX zFr.rf)
    | (rw [zif_neg (by decide), zif_pos rfl] at hQ; exact hQ me hX zFr.rf)
    | (rw [zif_neg (by decide), zif_neg (by decide), zif_pos rfl] at hQ; exact hQ me hX zFr.rf)
    | (rw [zif_neg (by decide), zif_neg (by decide), zif_neg (by decide), zif_pos rfl] at hQ; exact hQ me hX zFr.rf)
    | (rw [zif_neg (by decide), zif_neg (by decide), zif_neg (by decide), zif_neg (by decide), zif_pos rfl] at hQ; exact hQ me hX zFr.rf)
    | (rw [zif_neg (by decide), zif_neg (by decide), zif_neg (by decide), zif_neg (by decide), zif_neg (by decide), zif_pos rfl] at hQ; exact hQ me hX zFr.rf)
    | (rw [zif_neg (by omega), zif_neg (by omega), zif_neg (by omega), zif_neg (by omega), zif_neg (by omega), zif_neg (by omega)] at hQ; exact hQ me hX zFr.rf)
set_option maxRecDepth 100000 in
set_option maxHeartbeats 1000000 in
theorem x_total {d : Nat} {sp : zSP} {me : zMe} {Q : zQ} {x : Nat} {A : zAb} {B q : Int} (hd : 20 ≤ d) (hx : zObj sp x) (hX : zRX me x A) (hI : zIA B A) (hQ : ∀ me', zRX me' x A → zFr x me me' → Q (some (zI (zoTotal A q))) sp me') : zCall mX8_total d 0 0 [zR x, zI q] sp me Q := by
  refine z_met kX8_total (by simp) (by simp) ?_
  show zW mX8_total d 0 0 Q 0 [zR x, zI q] [] sp me
  have hw := zx_w hX
  have hf := zx_f hX
  have hh := zx_h hX
  have hp := zx_p hX
  have hs := zx_s hX
  have hc := zx_c hX
  have hIS := hI.1
  have hgA : zgR (qW A) (qF A) := hIS.1
  have hokA : zHok (qH A) := hIS.2.1
  have hpnA : qP A = zpn (qH A) := hIS.2.2.1
  have hvA : zfv (qS A) (qC A) := hIS.2.2.2.1
  have hlA : zlim (qS A) (qC A) := hIS.2.2.2.2.1
  have h0 := zx_0 hX
  have h1 := zx_1 hX
  have h2 := zx_2 hX
  unfold zoTotal at hQ
  refine z_L1I (pc' := 1) dX8_total_0 rfl ?_
  have e4 : q = 0 ∨ q = 1 ∨ q = 2 ∨ (q < 0 ∨ 2 < q) := by omega
  rcases e4 with e4 | e4 | e4 | e4
  · subst e4
    refine z_tswIn (tgt := 28) dX8_total_1 (by decide) (by decide) rfl (by decide) ?_
    refine z_L0R (pc' := 29) dX8_total_28 rfl ?_
    refine z_getR (pc' := 32) (ki := 0) 0 fX8_10.l rfl rfl dX8_total_29 rfl hx.s hx.p0 ?_
    refine z_getI (pc' := 35) (ki := 3) 3 fX8_236 rfl rfl dX8_total_32 rfl (by first | exact hx.o1.s | exact hx.o12.s) ?_
    rw [h0]
    refine z_ireturn rfl rfl dX8_total_35 ?_
    first
    | (rw [zif_pos rfl] at hQ; exact hQ me hX zFr.rf)
    | (rw [zif_neg (by decide), zif_pos rfl] at hQ; exact hQ me hX zFr.rf)
    | (rw [zif_neg (by decide), zif_neg (by decide), zif_pos rfl] at hQ; exact hQ me hX zFr.rf)
    | (rw [zif_neg (by omega), zif_neg (by omega), zif_neg (by omega)] at hQ; exact hQ me hX zFr.rf)
  · subst e4
    refine z_tswIn (tgt := 36) dX8_total_1 (by decide) (by decide) rfl (by decide) ?_
    refine z_L0R (pc' := 37) dX8_total_36 rfl ?_
    refine z_getR (pc' := 40) (ki := 0) 0 fX8_10.l rfl rfl dX8_total_37 rfl hx.s hx.p0 ?_
    refine z_getI (pc' := 43) (ki := 4) 4 fX8_239 rfl rfl dX8_total_40 rfl (by first | exact hx.o1.s | exact hx.o12.s) ?_
    rw [h1]
    refine z_ireturn rfl rfl dX8_total_43 ?_
    first
    | (rw [zif_pos rfl] at hQ; exact hQ me hX zFr.rf)
    | (rw [zif_neg (by decide), zif_pos rfl] at hQ; exact hQ me hX zFr.rf)
    | (rw [zif_neg (by decide), zif_neg (by decide), zif_pos rfl] at hQ; exact hQ me hX zFr.rf)
    | (rw [zif_neg (by omega), zif_neg (by omega), zif_neg (by omega)] at hQ; exact hQ me hX zFr.rf)
  · subst e4
    refine z_tswIn (tgt := 44) dX8_total_1 (by decide) (by decide) rfl (by decide) ?_
    refine z_L0R (pc' := 45) dX8_total_44 rfl ?_
    refine z_getR (pc' := 48) (ki := 0) 0 fX8_10.l rfl rfl dX8_total_45 rfl hx.s hx.p0 ?_
    refine z_getI (pc' := 51) (ki := 5) 5 fX8_152 rfl rfl dX8_total_48 rfl (by first | exact hx.o1.s | exact hx.o12.s) ?_
    rw [h2]
    refine z_ireturn rfl rfl dX8_total_51 ?_
    first
    | (rw [zif_pos rfl] at hQ; exact hQ me hX zFr.rf)
    | (rw [zif_neg (by decide), zif_pos rfl] at hQ; exact hQ me hX zFr.rf)
    | (rw [zif_neg (by decide), zif_neg (by decide), zif_pos rfl] at hQ; exact hQ me hX zFr.rf)
    | (rw [zif_neg (by omega), zif_neg (by omega), zif_neg (by omega)] at hQ; exact hQ me hX zFr.rf)
  · refine z_tswOut (tgt := 52) dX8_total_1 (by omega) (by decide) ?_
    refine z_bipush (pc' := 54) dX8_total_52 rfl (by decide) ?_
    refine z_ireturn rfl rfl dX8_total_54 ?_
    first
    | (rw [zif_pos rfl] at hQ; exact hQ me hX zFr.rf)
    | (rw [zif_neg (by decide), zif_pos rfl] at hQ; exact hQ me hX zFr.rf)
    | (rw [zif_neg (by decide), zif_neg (by decide), zif_pos rfl] at hQ; exact hQ me hX zFr.rf)
    | (rw [zif_neg (by omega), zif_neg (by omega), zif_neg (by omega)] at hQ; exact hQ me hX zFr.rf)
set_option maxRecDepth 100000 in
set_option maxHeartbeats 1000000 in
theorem x_blockedAt {d : Nat} {sp : zSP} {me : zMe} {Q : zQ} {x : Nat} {A : zAb} {B k b : Int} (hd : 20 ≤ d) (hx : zObj sp x) (hX : zRX me x A) (hI : zIA B A) (hQ : ∀ me', zRX me' x A → zFr x me me' → Q (some (zI (zoBlocked A k b))) sp me') : zCall mX8_blockedAt d 0 0 [zR x, zI k, zI b] sp me Q := by
  refine z_met kX8_blockedAt (by simp) (by simp) ?_
  show zW mX8_blockedAt d 0 0 Q 0 [zR x, zI k, zI b] [] sp me
  have hw := zx_w hX
  have hf := zx_f hX
  have hh := zx_h hX
  have hp := zx_p hX
  have hs := zx_s hX
  have hc := zx_c hX
  have hIS := hI.1
  have hgA : zgR (qW A) (qF A) := hIS.1
  have hokA : zHok (qH A) := hIS.2.1
  have hpnA : qP A = zpn (qH A) := hIS.2.2.1
  have hvA : zfv (qS A) (qC A) := hIS.2.2.2.1
  have hlA : zlim (qS A) (qC A) := hIS.2.2.2.2.1
  unfold zoBlocked at hQ
  refine z_L1I (pc' := 1) dX8_blockedAt_0 rfl ?_
  refine z_S1v (pc' := 4) kX8_isFigure lX8_61 dX8_blockedAt_1 rfl (by omega) (Nat.le_of_ble_eq_true rfl) ?_
  refine c_isFigure (fun hk => zKv_i ?_) (fun hk => zKv_i ?_)
  rotate_left
  · refine z_if_eq (tgt := 17) (pc' := 7) dX8_blockedAt_4 (by decide) rfl (fun h4 => ?_) (fun h4 => absurd rfl h4)
    refine z_iconst (pc' := 18) dX8_blockedAt_17 rfl (by unfold zin; decide) ?_
    refine z_ireturn rfl rfl dX8_blockedAt_18 ?_
    rw [zif_neg hk] at hQ
    exact hQ me hX zFr.rf
  rw [zif_pos hk] at hQ
  refine z_if_eq (tgt := 17) (pc' := 7) dX8_blockedAt_4 (by decide) rfl (fun h4 => absurd h4 (by omega)) (fun h4 => ?_)
  refine z_L0R (pc' := 8) dX8_blockedAt_7 rfl ?_
  refine z_L1I (pc' := 9) dX8_blockedAt_8 rfl ?_
  refine z_iconst (pc' := 10) dX8_blockedAt_9 rfl (by unfold zin; decide) ?_
  refine z_L2I (pc' := 11) dX8_blockedAt_10 rfl ?_
  refine z_V3v (pc' := 14) (ci := 8) kX8_tryOut lX8_138 dX8_blockedAt_11 rfl (by omega) (Nat.le_of_ble_eq_true rfl) (by decide) rfl hx.s ?_
  refine c_tryOut (by omega) hx hk.1 hk.2 (by omega) (by omega) (hX.2.2.2.2.2 k hk.1 hk.2) (zsteps_ok hvA hk.1 hk.2) (hlA k hk.1 hk.2) (by rw [hw, hf]; exact hgA) (by rw [hp, hh, hpnA]; exact zpn_0 hokA) (fun j3 j4 W F _ => zKv_i ?_)
  rw [hw, hf, hh]
  refine z_goto (tgt := 18) dX8_blockedAt_14 (by decide) ?_
  refine z_ireturn rfl rfl dX8_blockedAt_18 ?_
  exact hQ _ (zRX_congr (fun a h1 h2 => zr4_o _ _ _ _ _ _ _ (by omega)) hX) (fun a ha => zr4_o _ _ _ _ _ _ _ (by omega))
set_option maxRecDepth 100000 in
set_option maxHeartbeats 1000000 in
theorem x_homeIn {d : Nat} {sp : zSP} {me : zMe} {Q : zQ} {x : Nat} {A : zAb} {B k : Int} (hd : 20 ≤ d) (hx : zObj sp x) (hX : zRX me x A) (hI : zIA B A) (hQ : ∀ me', zRX me' x A → zFr x me me' → Q (some (zI (zoHomeIn A k))) sp me') : zCall mX8_homeIn d 0 0 [zR x, zI k] sp me Q := by
  refine z_met kX8_homeIn (by simp) (by simp) ?_
  show zW mX8_homeIn d 0 0 Q 0 [zR x, zI k] [] sp me
  have hw := zx_w hX
  have hf := zx_f hX
  have hh := zx_h hX
  have hp := zx_p hX
  have hs := zx_s hX
  have hc := zx_c hX
  have hIS := hI.1
  have hgA : zgR (qW A) (qF A) := hIS.1
  have hokA : zHok (qH A) := hIS.2.1
  have hpnA : qP A = zpn (qH A) := hIS.2.2.1
  have hvA : zfv (qS A) (qC A) := hIS.2.2.2.1
  have hlA : zlim (qS A) (qC A) := hIS.2.2.2.2.1
  unfold zoHomeIn at hQ
  refine z_L1I (pc' := 1) dX8_homeIn_0 rfl ?_
  refine z_S1v (pc' := 4) kX8_isFigure lX8_61 dX8_homeIn_1 rfl (by omega) (Nat.le_of_ble_eq_true rfl) ?_
  refine c_isFigure (fun hk => zKv_i ?_) (fun hk => zKv_i ?_)
  rotate_left
  · refine z_if_ne (tgt := 9) (pc' := 7) dX8_homeIn_4 (by decide) rfl (fun h4 => absurd rfl h4) (fun h4 => ?_)
    refine z_iconst (pc' := 8) dX8_homeIn_7 rfl (by unfold zin; decide) ?_
    refine z_ireturn rfl rfl dX8_homeIn_8 ?_
    rw [zif_neg hk] at hQ
    exact hQ me hX zFr.rf
  rw [zif_pos hk] at hQ
  have hrk := (hx.o82.q k hk.1 hk.2).2
  have hek := zx_e hX hk.1 hk.2
  have hgk := zgR_E hI hk.1 hk.2
  refine z_if_ne (tgt := 9) (pc' := 7) dX8_homeIn_4 (by decide) rfl (fun h4 => ?_) (fun h4 => absurd h4 (by omega))
  refine z_L0R (pc' := 10) dX8_homeIn_9 rfl ?_
  refine z_getR (pc' := 13) (ki := 7) 7 fX8_54.l rfl rfl dX8_homeIn_10 rfl hx.s hx.p7 ?_
  refine z_L0R (pc' := 14) dX8_homeIn_13 rfl ?_
  refine z_getR (pc' := 17) (ki := 0) 0 fX8_10.l rfl rfl dX8_homeIn_14 rfl hx.s hx.p0 ?_
  refine z_getR (pc' := 20) (ki := 0) 0 fX8_118 rfl rfl dX8_homeIn_17 rfl (by first | exact hx.o1.s | exact hx.o12.s) (by first | exact hx.o1.p0 | exact hx.o12.p0) ?_
  refine z_V10 (pc' := 23) (ci := 4) kX4_copyFrom lX8_227 dX8_homeIn_20 rfl (by omega) (Nat.le_of_ble_eq_true rfl) (by decide) rfl hx.o156.s ?_
  refine c_ringCopy (by omega) hx.o156 hx.o1.o1 (by omega) (zK0_i ?_)
  rw [zr4_set, hw, hf]
  have ea : ∀ a b W F y, (y < x + 157 ∨ x + 160 < y) → zr4 me (x + 156) a b W F y = me y := fun a b W F y hy => zr4_o _ _ _ _ _ _ _ (by omega)
  refine z_L0R (pc' := 24) dX8_homeIn_23 rfl ?_
  refine z_getR (pc' := 27) (ki := 7) 7 fX8_54.l rfl rfl dX8_homeIn_24 rfl hx.s hx.p7 ?_
  refine z_L0R (pc' := 28) dX8_homeIn_27 rfl ?_
  refine z_getR (pc' := 31) (ki := 5) 5 fX8_40.l rfl rfl dX8_homeIn_28 rfl hx.s hx.p5 ?_
  refine z_L1I (pc' := 32) dX8_homeIn_31 rfl ?_
  refine z_V1v (pc' := 35) (ci := 3) kX3_effectOf lX8_201 dX8_homeIn_32 rfl (by omega) (Nat.le_of_ble_eq_true rfl) (by decide) rfl hx.o82.s ?_
  refine c_effectOf (by omega) hx.o82 hk.1 hk.2 (zKv_i ?_)
  refine z_S2v (pc' := 38) kX8_timesUntilHome lX8_242 dX8_homeIn_35 rfl (by omega) (Nat.le_of_ble_eq_true rfl) ?_
  refine c_timesUntil (by omega) hx.o156 hrk (by omega) (by rw [zr4_1, zr4_2]; exact hgA) (by rw [ea _ _ _ _ _ (by omega), ea _ _ _ _ _ (by omega), hek.1, hek.2]; exact hgk) (fun j3 j4 W F => zKv_i ?_)
  rw [zr4_1, zr4_2, ea _ _ _ _ _ (by omega), ea _ _ _ _ _ (by omega), hek.1, hek.2, zr4_zr4]
  refine z_ireturn rfl rfl dX8_homeIn_38 ?_
  exact hQ _ (zRX_congr (fun a h1 h2 => zr4_o _ _ _ _ _ _ _ (by omega)) hX) (fun a ha => zr4_o _ _ _ _ _ _ _ (by omega))
set_option maxRecDepth 100000 in
set_option maxHeartbeats 1000000 in
theorem x_wayHome {d : Nat} {sp : zSP} {me : zMe} {Q : zQ} {x : Nat} {A : zAb} {B q : Int} (hd : 20 ≤ d) (hx : zObj sp x) (hX : zRX me x A) (hI : zIA B A) (hQ : ∀ me', zRX me' x A → zFr x me me' → Q (some (zI (zoWay A q))) sp me') : zCall mX8_wayHome d 0 0 [zR x, zI q] sp me Q := by
  refine z_met kX8_wayHome (by simp) (by simp) ?_
  show zW mX8_wayHome d 0 0 Q 0 [zR x, zI q, zU] [] sp me
  have hw := zx_w hX
  have hf := zx_f hX
  have hh := zx_h hX
  have hp := zx_p hX
  have hs := zx_s hX
  have hc := zx_c hX
  have hIS := hI.1
  have hgA : zgR (qW A) (qF A) := hIS.1
  have hokA : zHok (qH A) := hIS.2.1
  have hpnA : qP A = zpn (qH A) := hIS.2.2.1
  have hvA : zfv (qS A) (qC A) := hIS.2.2.2.1
  have hlA : zlim (qS A) (qC A) := hIS.2.2.2.2.1
  unfold zoWay at hQ
  refine z_L1I (pc' := 1) dX8_wayHome_0 rfl ?_
  refine z_if_lt (tgt := 9) (pc' := 4) dX8_wayHome_1 (by decide) rfl (fun h1 => ?_) (fun h1 => ?_)
  · refine z_bipush (pc' := 11) dX8_wayHome_9 rfl (by decide) ?_
    refine z_ireturn rfl rfl dX8_wayHome_11 ?_
    rw [zif_pos (by omega)] at hQ
    exact hQ me hX zFr.rf
  · refine z_L1I (pc' := 5) dX8_wayHome_4 rfl ?_
    refine z_iconst (pc' := 6) dX8_wayHome_5 rfl (by unfold zin; decide) ?_
    refine z_icmp_le (tgt := 12) (pc' := 9) dX8_wayHome_6 (by decide) rfl (fun h6 => ?_) (fun h6 => ?_)
    · rw [zif_neg (by omega)] at hQ
      have hX2 : ∀ me', zLf (x + 133) 0 me me' → zRX me' x A := fun me' h => zRX_congr (fun a h1 h2 => h.1 a (by omega) (by omega)) hX
      have hF2 : ∀ me', zLf (x + 133) 0 me me' → zFr x me me' := fun me' h a ha => h.1 a (by omega) (by omega)
      refine z_L0R (pc' := 13) dX8_wayHome_12 rfl ?_
      refine z_getR (pc' := 16) (ki := 6) 6 fX8_47.l rfl rfl dX8_wayHome_13 rfl hx.s hx.p6 ?_
      refine z_L0R (pc' := 17) dX8_wayHome_16 rfl ?_
      refine z_getR (pc' := 20) (ki := 0) 0 fX8_10.l rfl rfl dX8_wayHome_17 rfl hx.s hx.p0 ?_
      refine z_getR (pc' := 23) (ki := 0) 0 fX8_118 rfl rfl dX8_wayHome_20 rfl (by first | exact hx.o1.s | exact hx.o12.s) (by first | exact hx.o1.p0 | exact hx.o12.p0) ?_
      refine z_L0R (pc' := 24) dX8_wayHome_23 rfl ?_
      refine z_getR (pc' := 27) (ki := 5) 5 fX8_40.l rfl rfl dX8_wayHome_24 rfl hx.s hx.p5 ?_
      refine z_V2v (pc' := 30) (ci := 6) kX6_shortest lX8_246 dX8_wayHome_27 rfl (by omega) (Nat.le_of_ble_eq_true rfl) (by decide) rfl hx.o133.s ?_
      refine c_shortest (E := zE A) (by omega) hx.o133 hx.o82 hx.o1.o1 (by omega) (by omega) (by omega) (by rw [hw, hf]; exact hgA) (fun k h0 h8 => ⟨(zx_e hX h0 h8).1, (zx_e hX h0 h8).2, zgR_E hI h0 h8⟩) (fun t ht htl me' hrow hL => zKv_i ?_) (fun ht me' hL => zKv_i ?_)
      rotate_left
      · rw [hw, hf] at ht
        rw [ht] at hQ
        have hQ2 := hQ me' (hX2 me' hL) (hF2 me' hL)
        refine z_S2I (pc' := 31) rfl dX8_wayHome_30 rfl ?_
        refine z_L1I (pc' := 32) dX8_wayHome_31 rfl ?_
        refine z_if_eq (tgt := 41) (pc' := 35) dX8_wayHome_32 (by decide) rfl (fun h32 => ?_) (fun h32 => ?_)
        · refine z_L2I (pc' := 42) dX8_wayHome_41 rfl ?_
          refine z_ireturn rfl rfl dX8_wayHome_42 ?_
          rw [zif_pos h32] at hQ2
          exact hQ2
        · refine z_L2I (pc' := 36) dX8_wayHome_35 rfl ?_
          refine z_bipush (pc' := 38) dX8_wayHome_36 rfl (by decide) ?_
          refine z_icmp_ne (tgt := 43) (pc' := 41) dX8_wayHome_38 (by decide) rfl (fun h38 => absurd rfl h38) (fun h38 => ?_)
          refine z_L2I (pc' := 42) dX8_wayHome_41 rfl ?_
          refine z_ireturn rfl rfl dX8_wayHome_42 ?_
          rw [zif_neg h32, zif_neg (show ¬ q ≤ zwlen none by show ¬ q ≤ -5; omega)] at hQ2
          exact hQ2
      rw [hw, hf] at ht
      rw [ht] at hQ
      have hQ2 := hQ me' (hX2 me' hL) (hF2 me' hL)
      refine z_S2I (pc' := 31) rfl dX8_wayHome_30 rfl ?_
      refine z_L1I (pc' := 32) dX8_wayHome_31 rfl ?_
      refine z_if_eq (tgt := 41) (pc' := 35) dX8_wayHome_32 (by decide) rfl (fun h32 => ?_) (fun h32 => ?_)
      · refine z_L2I (pc' := 42) dX8_wayHome_41 rfl ?_
        refine z_ireturn rfl rfl dX8_wayHome_42 ?_
        first
        | (rw [zif_pos h32] at hQ2; exact hQ2)
        | (rw [zif_neg h32, zif_pos (show q ≤ zwlen (some t) from h45)] at hQ2; exact hQ2)
        | (rw [zif_neg h32, zif_neg (show ¬ q ≤ zwlen (some t) by show ¬ q ≤ (t.length : Int); omega)] at hQ2; exact hQ2)
      · refine z_L2I (pc' := 36) dX8_wayHome_35 rfl ?_
        refine z_bipush (pc' := 38) dX8_wayHome_36 rfl (by decide) ?_
        refine z_icmp_ne (tgt := 43) (pc' := 41) dX8_wayHome_38 (by decide) rfl (fun h38 => ?_) (fun h38 => absurd h38 (by omega))
        refine z_L1I (pc' := 44) dX8_wayHome_43 rfl ?_
        refine z_L2I (pc' := 45) dX8_wayHome_44 rfl ?_
        refine z_icmp_gt (tgt := 61) (pc' := 48) dX8_wayHome_45 (by decide) rfl (fun h45 => ?_) (fun h45 => ?_)
        · refine z_bipush (pc' := 63) dX8_wayHome_61 rfl (by decide) ?_
          refine z_ireturn rfl rfl dX8_wayHome_63 ?_
          first
          | (rw [zif_pos h32] at hQ2; exact hQ2)
          | (rw [zif_neg h32, zif_pos (show q ≤ zwlen (some t) from h45)] at hQ2; exact hQ2)
          | (rw [zif_neg h32, zif_neg (show ¬ q ≤ zwlen (some t) by show ¬ q ≤ (t.length : Int); omega)] at hQ2; exact hQ2)
        · refine z_L0R (pc' := 49) dX8_wayHome_48 rfl ?_
          refine z_getR (pc' := 52) (ki := 6) 6 fX8_47.l rfl rfl dX8_wayHome_49 rfl hx.s hx.p6 ?_
          refine z_L1I (pc' := 53) dX8_wayHome_52 rfl ?_
          refine z_iconst (pc' := 54) dX8_wayHome_53 rfl (by unfold zin; decide) ?_
          refine z_isub (pc' := 55) dX8_wayHome_54 rfl (by unfold zin; omega) ?_
          refine z_V1v (pc' := 58) (ci := 6) kX6_figureOf lX8_250 dX8_wayHome_55 rfl (by omega) (Nat.le_of_ble_eq_true rfl) (by decide) rfl hx.o133.s ?_
          refine c_figureOf (by omega) hx.o133 (zKv_i ?_)
          have e5 : q - 1 = ((q - 1).toNat : Int) := by omega
          rw [e5, hrow (q - 1).toNat (by omega)]
          refine z_goto (tgt := 63) dX8_wayHome_58 (by decide) ?_
          refine z_ireturn rfl rfl dX8_wayHome_63 ?_
          first
          | (rw [zif_pos h32] at hQ2; exact hQ2)
          | (rw [zif_neg h32, zif_pos (show q ≤ zwlen (some t) from h45)] at hQ2; exact hQ2)
          | (rw [zif_neg h32, zif_neg (show ¬ q ≤ zwlen (some t) by show ¬ q ≤ (t.length : Int); omega)] at hQ2; exact hQ2)
    · refine z_bipush (pc' := 11) dX8_wayHome_9 rfl (by decide) ?_
      refine z_ireturn rfl rfl dX8_wayHome_11 ?_
      rw [zif_pos (by omega)] at hQ
      exact hQ me hX zFr.rf
set_option maxRecDepth 100000 in
set_option maxHeartbeats 1000000 in
theorem x_distance {d : Nat} {sp : zSP} {me : zMe} {Q : zQ} {x : Nat} {A : zAb} {B : Int} (hd : 20 ≤ d) (hx : zObj sp x) (hX : zRX me x A) (hI : zIA B A) (hQ : ∀ me', zRX me' x A → zFr x me me' → Q (some (zD (zdd (zoDist A)))) sp me') : zCall mX8_distance d 0 0 [zR x] sp me Q := by
  refine z_met kX8_distance (by simp) (by simp) ?_
  show zW mX8_distance d 0 0 Q 0 [zR x] [] sp me
  have hw := zx_w hX
  have hf := zx_f hX
  have hh := zx_h hX
  have hp := zx_p hX
  have hs := zx_s hX
  have hc := zx_c hX
  have hIS := hI.1
  have hgA : zgR (qW A) (qF A) := hIS.1
  have hokA : zHok (qH A) := hIS.2.1
  have hpnA : qP A = zpn (qH A) := hIS.2.2.1
  have hvA : zfv (qS A) (qC A) := hIS.2.2.2.1
  have hlA : zlim (qS A) (qC A) := hIS.2.2.2.2.1
  have hbd : 0 ≤ zoDist A ∧ zoDist A ≤ 50 := by
    have : ∀ j : Int, 0 ≤ j → j ≤ 10 → 0 ≤ zSm (fun p => zdist p (qW A p)) j ∧ zSm (fun p => zdist p (qW A p)) j ≤ 5 * j := by
      intro j hj
      refine zSm_ind (P := fun j s => j ≤ 10 → 0 ≤ s ∧ s ≤ 5 * j) _ (fun _ => by omega) (fun j s hj hs hj2 => ?_) j hj
      have h1 := hs (by omega)
      have h2 := hgA.1 j hj (by omega)
      have h3 := zdist_in hj (show j < 10 by omega) h2.1 h2.2.1
      omega
    have := this 10 (by omega) (by omega)
    unfold zoDist
    omega
  refine z_L0R (pc' := 1) dX8_distance_0 rfl ?_
  refine z_getR (pc' := 4) (ki := 0) 0 fX8_10.l rfl rfl dX8_distance_1 rfl hx.s hx.p0 ?_
  refine z_getR (pc' := 7) (ki := 0) 0 fX8_118 rfl rfl dX8_distance_4 rfl (by first | exact hx.o1.s | exact hx.o12.s) (by first | exact hx.o1.p0 | exact hx.o12.p0) ?_
  refine z_V0v (pc' := 10) (ci := 4) kX4_placesFromHome lX8_253 dX8_distance_7 rfl (by omega) (Nat.le_of_ble_eq_true rfl) (by decide) rfl hx.o1.o1.s ?_
  refine c_placesFromHome (by omega) hx.o1.o1 (by rw [hw, hf]; exact hgA) (zKv_i ?_)
  rw [hw]
  refine z_i2d (pc' := 11) dX8_distance_10 rfl ?_
  refine z_ldc2 (pc' := 14) dX8_distance_11 rfl uX8_256 ?_
  refine z_ddiv (pc' := 15) dX8_distance_14 rfl (by have h9 := zdd_ok (zoDist A).toNat (by omega); rw [Int.toNat_of_nonneg hbd.1] at h9; exact h9) ?_
  refine z_dreturn rfl rfl dX8_distance_15 ?_
  exact hQ me hX zFr.rf
end ZFACE2

