section ZFACE
def zRX (me : zMe) (x : Nat) (A : zAb) : Prop := zget me (x + 1) = A.1 ∧ zRH me (x + 23) A.2.1 ∧ ((me x 2 = 0 ∧ A.2.2.1 = none) ∨ (me x 2 = 1 ∧ A.2.2.1 = some (zget me (x + 12)))) ∧ me (x + 80) 1 = qN A ∧ me (x + 80 + 1) = qG A ∧ zRP me (x + 82) (qS A) (qC A)
def zFr (x : Nat) (me me' : zMe) : Prop := ∀ a, a < x ∨ x + 165 < a → me' a = me a
theorem zFr.rf {x : Nat} {me : zMe} : zFr x me me := fun _ _ => rfl
theorem zPk_congr {me me' : zMe} {p : Nat} {k : Int} {L : List Int} {cm : Int} (h0 : 0 ≤ k) (h8 : k < 8) (hc : ∀ a, p ≤ a → a ≤ p + 50 → me' a = me a) (h : zPk me p k L cm) : zPk me' p k L cm := by
  obtain ⟨g1, g2, g3, g4, g5⟩ := h
  exact ⟨by rw [hc _ (by omega) (by omega)]; exact g1, fun i hi => by rw [hc _ (by omega) (by omega)]; exact g2 i hi, by rw [hc _ (by omega) (by omega)]; exact g3, by rw [hc _ (by omega) (by omega)]; exact g4, by rw [hc _ (by omega) (by omega)]; exact g5⟩
theorem zRP_congr {me me' : zMe} {p : Nat} {sz cd : Int → Int} (hc : ∀ a, p ≤ a → a ≤ p + 50 → me' a = me a) (h : zRP me p sz cd) : zRP me' p sz cd := fun k h0 h8 => zPk_congr h0 h8 hc (h k h0 h8)
theorem zRX_congr {me me' : zMe} {x : Nat} {A : zAb} (hc : ∀ a, x ≤ a → a ≤ x + 132 → me' a = me a) (h : zRX me x A) : zRX me' x A := by
  obtain ⟨h1, h2, h3, h4, h5, h6⟩ := h
  refine ⟨?_, zRH_congr h2 (fun a g1 g2 => hc a (by omega) (by omega)), ?_, ?_, ?_, zRP_congr (fun a g1 g2 => hc a (by omega) (by omega)) h6⟩
  · rw [zget_congr (fun a g1 g2 => hc a (by omega) (by omega))]; exact h1
  · rw [hc x (by omega) (by omega), zget_congr (me := me) (me' := me') (s := x + 12) (fun a g1 g2 => hc a (by omega) (by omega))]; exact h3
  · rw [hc _ (by omega) (by omega)]; exact h4
  · rw [hc _ (by omega) (by omega)]; exact h5
theorem zx_w {me : zMe} {x : Nat} {A : zAb} (h : zRX me x A) : me (x + 1 + 1 + 1) = qW A := congrArg (fun S : zSt => S.1) h.1
theorem zx_f {me : zMe} {x : Nat} {A : zAb} (h : zRX me x A) : me (x + 1 + 1 + 2) = qF A := congrArg (fun S : zSt => S.2.1) h.1
theorem zx_h {me : zMe} {x : Nat} {A : zAb} (h : zRX me x A) : me (x + 1 + 6 + 1) = qH A := congrArg (fun S : zSt => S.2.2.1) h.1
theorem zx_p {me : zMe} {x : Nat} {A : zAb} (h : zRX me x A) : me (x + 1 + 6) 1 = qP A := congrArg (fun S : zSt => S.2.2.2.1) h.1
theorem zx_s {me : zMe} {x : Nat} {A : zAb} (h : zRX me x A) : me (x + 1 + 8 + 1) = qS A := congrArg (fun S : zSt => S.2.2.2.2.1) h.1
theorem zx_c {me : zMe} {x : Nat} {A : zAb} (h : zRX me x A) : me (x + 1 + 8 + 2) = qC A := congrArg (fun S : zSt => S.2.2.2.2.2.1) h.1
theorem zx_0 {me : zMe} {x : Nat} {A : zAb} (h : zRX me x A) : me (x + 1) 3 = qT0 A := congrArg (fun S : zSt => S.2.2.2.2.2.2.1) h.1
theorem zx_1 {me : zMe} {x : Nat} {A : zAb} (h : zRX me x A) : me (x + 1) 4 = qT1 A := congrArg (fun S : zSt => S.2.2.2.2.2.2.2.1) h.1
theorem zx_2 {me : zMe} {x : Nat} {A : zAb} (h : zRX me x A) : me (x + 1) 5 = qT2 A := congrArg (fun S : zSt => S.2.2.2.2.2.2.2.2) h.1
theorem zx_e {me : zMe} {x : Nat} {A : zAb} (h : zRX me x A) {k : Int} (h0 : 0 ≤ k) (h8 : k < 8) : me (x + 82 + 11 + 5 * k.toNat + 1) = (zE A k).1 ∧ me (x + 82 + 11 + 5 * k.toNat + 2) = (zE A k).2 := ⟨(h.2.2.2.2.2 k h0 h8).2.2.2.1, (h.2.2.2.2.2 k h0 h8).2.2.2.2⟩
theorem zgR_E {A : zAb} {B : Int} (hI : zIA B A) {k : Int} (h0 : 0 ≤ k) (h8 : k < 8) : zgR (zE A k).1 (zE A k).2 := zgR_eff (fun c hc => (zsteps_ok hI.1.2.2.2.1 h0 h8 c hc).1)
set_option maxRecDepth 100000 in
set_option maxHeartbeats 1000000 in
theorem x_at {d : Nat} {sp : zSP} {me : zMe} {Q : zQ} {x : Nat} {A : zAb} {B p : Int} (hd : 20 ≤ d) (hx : zObj sp x) (hX : zRX me x A) (hI : zIA B A) (hQ : ∀ me', zRX me' x A → zFr x me me' → Q (some (zI (zoAt A p))) sp me') : zCall mX8_at d 0 0 [zR x, zI p] sp me Q := by
  refine z_met kX8_at (by simp) (by simp) ?_
  show zW mX8_at d 0 0 Q 0 [zR x, zI p] [] sp me
  have hw := zx_w hX
  have hf := zx_f hX
  have hh := zx_h hX
  have hp := zx_p hX
  have hs := zx_s hX
  have hc := zx_c hX
  have hIS := hI.1
  have hgA : zgR (qW A) (qF A) := hIS.1
  have hokA : zHok (qH A) := hIS.2.1
  have hpnA : qP A = zpn (qH A) := hIS.2.2.1
  have hvA : zfv (qS A) (qC A) := hIS.2.2.2.1
  have hlA : zlim (qS A) (qC A) := hIS.2.2.2.2.1
  unfold zoAt at hQ
  refine z_L1I (pc' := 1) dX8_at_0 rfl ?_
  refine z_S1v (pc' := 4) kX8_isPlace lX8_106 dX8_at_1 rfl (by omega) (Nat.le_of_ble_eq_true rfl) ?_
  refine c_isPlace (fun hp => zKv_i ?_) (fun hp => zKv_i ?_)
  rotate_left
  · refine z_if_eq (tgt := 21) (pc' := 7) dX8_at_4 (by decide) rfl (fun h4 => ?_) (fun h4 => ?_)
    · refine z_iconst (pc' := 22) dX8_at_21 rfl (by unfold zin; decide) ?_
      refine z_ireturn rfl rfl dX8_at_22 ?_
      rw [zif_neg hp] at hQ
      exact hQ me hX zFr.rf
    · omega
  refine z_if_eq (tgt := 21) (pc' := 7) dX8_at_4 (by decide) rfl (fun h4 => absurd h4 (by omega)) (fun h4 => ?_)
  refine z_L0R (pc' := 8) dX8_at_7 rfl ?_
  refine z_getR (pc' := 11) (ki := 0) 0 fX8_10.l rfl rfl dX8_at_8 rfl hx.s hx.p0 ?_
  refine z_getR (pc' := 14) (ki := 0) 0 fX8_118 rfl rfl dX8_at_11 rfl (by first | exact hx.o1.s | exact hx.o12.s) (by first | exact hx.o1.p0 | exact hx.o12.p0) ?_
  refine z_L1I (pc' := 15) dX8_at_14 rfl ?_
  refine z_V1v (pc' := 18) (ci := 4) kX4_dancerAt lX8_186 dX8_at_15 rfl (by omega) (Nat.le_of_ble_eq_true rfl) (by decide) rfl (by first | exact hx.o1.o1.s | exact hx.o156.s | exact hx.o161.s) ?_
  refine c_dancerAt (by omega) hx.o1.o1 (zKv_i ?_)
  rw [hw]
  refine z_goto (tgt := 22) dX8_at_18 (by decide) ?_
  refine z_ireturn rfl rfl dX8_at_22 ?_
  rw [zif_pos hp] at hQ
  exact hQ me hX zFr.rf
set_option maxRecDepth 100000 in
set_option maxHeartbeats 1000000 in
theorem x_dancer {d : Nat} {sp : zSP} {me : zMe} {Q : zQ} {x : Nat} {A : zAb} {B i q : Int} (hd : 20 ≤ d) (hx : zObj sp x) (hX : zRX me x A) (hI : zIA B A) (hQ : ∀ me', zRX me' x A → zFr x me me' → Q (some (zI (zoDancer A i q))) sp me') : zCall mX8_dancer d 0 0 [zR x, zI i, zI q] sp me Q := by
  refine z_met kX8_dancer (by simp) (by simp) ?_
  show zW mX8_dancer d 0 0 Q 0 [zR x, zI i, zI q, zU] [] sp me
  have hw := zx_w hX
  have hf := zx_f hX
  have hh := zx_h hX
  have hp := zx_p hX
  have hs := zx_s hX
  have hc := zx_c hX
  have hIS := hI.1
  have hgA : zgR (qW A) (qF A) := hIS.1
  have hokA : zHok (qH A) := hIS.2.1
  have hpnA : qP A = zpn (qH A) := hIS.2.2.1
  have hvA : zfv (qS A) (qC A) := hIS.2.2.2.1
  have hlA : zlim (qS A) (qC A) := hIS.2.2.2.2.1
  unfold zoDancer at hQ
  refine z_L1I (pc' := 1) dX8_dancer_0 rfl ?_
  refine z_S1v (pc' := 4) kX8_isPlace lX8_106 dX8_dancer_1 rfl (by omega) (Nat.le_of_ble_eq_true rfl) ?_
  refine c_isPlace (fun hp => zKv_i ?_) (fun hp => zKv_i ?_)
  rotate_left
  · refine z_if_ne (tgt := 9) (pc' := 7) dX8_dancer_4 (by decide) rfl (fun h4 => ?_) (fun h4 => ?_)
    · omega
    · refine z_iconst (pc' := 8) dX8_dancer_7 rfl (by unfold zin; decide) ?_
      refine z_ireturn rfl rfl dX8_dancer_8 ?_
      rw [zif_pos hp] at hQ
      exact hQ me hX zFr.rf
  rw [zif_neg (fun z => z hp)] at hQ
  refine z_if_ne (tgt := 9) (pc' := 7) dX8_dancer_4 (by decide) rfl (fun h4 => ?_) (fun h4 => absurd h4 (by omega))
  refine z_L0R (pc' := 10) dX8_dancer_9 rfl ?_
  refine z_getR (pc' := 13) (ki := 0) 0 fX8_10.l rfl rfl dX8_dancer_10 rfl hx.s hx.p0 ?_
  refine z_getR (pc' := 16) (ki := 0) 0 fX8_118 rfl rfl dX8_dancer_13 rfl (by first | exact hx.o1.s | exact hx.o12.s) (by first | exact hx.o1.p0 | exact hx.o12.p0) ?_
  refine z_L1I (pc' := 17) dX8_dancer_16 rfl ?_
  refine z_V1v (pc' := 20) (ci := 4) kX4_placeOf lX8_121 dX8_dancer_17 rfl (by omega) (Nat.le_of_ble_eq_true rfl) (by decide) rfl (by first | exact hx.o1.o1.s | exact hx.o156.s | exact hx.o161.s) ?_
  have hpl := zpl_ok hgA hp.1 hp.2
  refine c_placeOf hx.o1.o1 hpl.1 hpl.2.1 (by rw [hw]; exact hpl.2.2) (fun r h0 h1 => by rw [hw]; exact zpl_lt hgA hp.1 hp.2 h0 h1) (zKv_i ?_)
  refine z_S3I (pc' := 21) rfl dX8_dancer_20 rfl ?_
  refine z_L2I (pc' := 22) dX8_dancer_21 rfl ?_
  have e4 : q = 0 ∨ q = 1 ∨ q = 2 ∨ (q < 0 ∨ 2 < q) := by omega
  rcases e4 with e4 | e4 | e4 | e4
  · subst e4
    refine z_tswIn (tgt := 48) dX8_dancer_22 (by decide) (by decide) rfl (by decide) ?_
    refine z_L3I (pc' := 49) dX8_dancer_48 rfl ?_
    refine z_ireturn rfl rfl dX8_dancer_49 ?_
    first
    | (rw [zif_pos rfl] at hQ; exact hQ me hX zFr.rf)
    | (rw [zif_neg (by decide), zif_pos rfl] at hQ; exact hQ me hX zFr.rf)
    | (rw [zif_neg (by decide), zif_neg (by decide), zif_pos rfl] at hQ; exact hQ me hX zFr.rf)
    | (rw [zif_neg (by omega), zif_neg (by omega), zif_neg (by omega)] at hQ; exact hQ me hX zFr.rf)
  · subst e4
    refine z_tswIn (tgt := 50) dX8_dancer_22 (by decide) (by decide) rfl (by decide) ?_
    refine z_L0R (pc' := 51) dX8_dancer_50 rfl ?_
    refine z_getR (pc' := 54) (ki := 0) 0 fX8_10.l rfl rfl dX8_dancer_51 rfl hx.s hx.p0 ?_
    refine z_getR (pc' := 57) (ki := 0) 0 fX8_118 rfl rfl dX8_dancer_54 rfl (by first | exact hx.o1.s | exact hx.o12.s) (by first | exact hx.o1.p0 | exact hx.o12.p0) ?_
    refine z_L3I (pc' := 58) dX8_dancer_57 rfl ?_
    refine z_V1v (pc' := 61) (ci := 4) kX4_faceAt lX8_183 dX8_dancer_58 rfl (by omega) (Nat.le_of_ble_eq_true rfl) (by decide) rfl (by first | exact hx.o1.o1.s | exact hx.o156.s | exact hx.o161.s) ?_
    refine c_faceAt (by omega) hx.o1.o1 (zKv_i ?_)
    rw [hf]
    refine z_ireturn rfl rfl dX8_dancer_61 ?_
    first
    | (rw [zif_pos rfl] at hQ; exact hQ me hX zFr.rf)
    | (rw [zif_neg (by decide), zif_pos rfl] at hQ; exact hQ me hX zFr.rf)
    | (rw [zif_neg (by decide), zif_neg (by decide), zif_pos rfl] at hQ; exact hQ me hX zFr.rf)
    | (rw [zif_neg (by omega), zif_neg (by omega), zif_neg (by omega)] at hQ; exact hQ me hX zFr.rf)
  · subst e4
    refine z_tswIn (tgt := 62) dX8_dancer_22 (by decide) (by decide) rfl (by decide) ?_
    refine z_L0R (pc' := 63) dX8_dancer_62 rfl ?_
    refine z_getR (pc' := 66) (ki := 0) 0 fX8_10.l rfl rfl dX8_dancer_63 rfl hx.s hx.p0 ?_
    refine z_getR (pc' := 69) (ki := 1) 1 fX8_109 rfl rfl dX8_dancer_66 rfl (by first | exact hx.o1.s | exact hx.o12.s) (by first | exact hx.o1.p1 | exact hx.o12.p1) ?_
    refine z_L1I (pc' := 70) dX8_dancer_69 rfl ?_
    refine z_V1v (pc' := 73) (ci := 2) kX2_partner lX8_113 dX8_dancer_70 rfl (by omega) (Nat.le_of_ble_eq_true rfl) (by decide) rfl hx.o1.o6.s ?_
    refine c_partner (by omega) hx.o1.o6 (zKv_i ?_)
    rw [hh]
    refine z_ireturn rfl rfl dX8_dancer_73 ?_
    first
    | (rw [zif_pos rfl] at hQ; exact hQ me hX zFr.rf)
    | (rw [zif_neg (by decide), zif_pos rfl] at hQ; exact hQ me hX zFr.rf)
    | (rw [zif_neg (by decide), zif_neg (by decide), zif_pos rfl] at hQ; exact hQ me hX zFr.rf)
    | (rw [zif_neg (by omega), zif_neg (by omega), zif_neg (by omega)] at hQ; exact hQ me hX zFr.rf)
  · refine z_tswOut (tgt := 74) dX8_dancer_22 (by omega) (by decide) ?_
    refine z_bipush (pc' := 76) dX8_dancer_74 rfl (by decide) ?_
    refine z_ireturn rfl rfl dX8_dancer_76 ?_
    first
    | (rw [zif_pos rfl] at hQ; exact hQ me hX zFr.rf)
    | (rw [zif_neg (by decide), zif_pos rfl] at hQ; exact hQ me hX zFr.rf)
    | (rw [zif_neg (by decide), zif_neg (by decide), zif_pos rfl] at hQ; exact hQ me hX zFr.rf)
    | (rw [zif_neg (by omega), zif_neg (by omega), zif_neg (by omega)] at hQ; exact hQ me hX zFr.rf)
set_option maxRecDepth 100000 in
set_option maxHeartbeats 1000000 in
theorem x_move {d : Nat} {sp : zSP} {me : zMe} {Q : zQ} {x : Nat} {A : zAb} {B k m q : Int} (hd : 20 ≤ d) (hx : zObj sp x) (hX : zRX me x A) (hI : zIA B A) (hQ : ∀ me', zRX me' x A → zFr x me me' → Q (some (zI (zoMove A k m q))) sp me') : zCall mX8_move d 0 0 [zR x, zI k, zI m, zI q] sp me Q := by
  refine z_met kX8_move (by simp) (by simp) ?_
  show zW mX8_move d 0 0 Q 0 [zR x, zI k, zI m, zI q, zU] [] sp me
  have hw := zx_w hX
  have hf := zx_f hX
  have hh := zx_h hX
  have hp := zx_p hX
  have hs := zx_s hX
  have hc := zx_c hX
  have hIS := hI.1
  have hgA : zgR (qW A) (qF A) := hIS.1
  have hokA : zHok (qH A) := hIS.2.1
  have hpnA : qP A = zpn (qH A) := hIS.2.2.1
  have hvA : zfv (qS A) (qC A) := hIS.2.2.2.1
  have hlA : zlim (qS A) (qC A) := hIS.2.2.2.2.1
  unfold zoMove at hQ
  refine z_L1I (pc' := 1) dX8_move_0 rfl ?_
  refine z_S1v (pc' := 4) kX8_isFigure lX8_61 dX8_move_1 rfl (by omega) (Nat.le_of_ble_eq_true rfl) ?_
  refine c_isFigure (fun hp => zKv_i ?_) (fun hp => zKv_i ?_)
  rotate_left
  · refine z_if_eq (tgt := 26) (pc' := 7) dX8_move_4 (by decide) rfl (fun h4 => ?_) (fun h4 => ?_)
    · refine z_iconst (pc' := 27) dX8_move_26 rfl (by unfold zin; decide) ?_
      refine z_ireturn rfl rfl dX8_move_27 ?_
      rw [zif_pos (by omega)] at hQ
      exact hQ me hX zFr.rf
    · omega
  have hvk := hvA k hp.1 hp.2
  refine z_if_eq (tgt := 26) (pc' := 7) dX8_move_4 (by decide) rfl (fun h4 => absurd h4 (by omega)) (fun h4 => ?_)
  refine z_L2I (pc' := 8) dX8_move_7 rfl ?_
  refine z_if_lt (tgt := 26) (pc' := 11) dX8_move_8 (by decide) rfl (fun h8 => ?_) (fun h8 => ?_)
  · rw [zif_pos (by omega)] at hQ
    refine z_iconst (pc' := 27) dX8_move_26 rfl (by unfold zin; decide) ?_
    refine z_ireturn rfl rfl dX8_move_27 ?_
    exact hQ me hX zFr.rf
  · refine z_L2I (pc' := 12) dX8_move_11 rfl ?_
    refine z_L0R (pc' := 13) dX8_move_12 rfl ?_
    refine z_getR (pc' := 16) (ki := 0) 0 fX8_10.l rfl rfl dX8_move_13 rfl hx.s hx.p0 ?_
    refine z_getR (pc' := 19) (ki := 2) 2 fX8_69 rfl rfl dX8_move_16 rfl (by first | exact hx.o1.s | exact hx.o12.s) (by first | exact hx.o1.p2 | exact hx.o12.p2) ?_
    refine z_L1I (pc' := 20) dX8_move_19 rfl ?_
    refine z_V1v (pc' := 23) (ci := 0) kX0_size lX8_77 dX8_move_20 rfl (by omega) (Nat.le_of_ble_eq_true rfl) (by decide) rfl hx.o1.o8.s ?_
    refine c_size (by omega) hx.o1.o8 (zKv_i ?_)
    rw [hs]
    refine z_icmp_lt (tgt := 28) (pc' := 26) dX8_move_23 (by decide) rfl (fun h23 => ?_) (fun h23 => ?_)
    · rw [zif_neg (by omega)] at hQ
      have hvm := hvk.2.2 m (by omega) (by omega)
      have hc0 : 0 ≤ qC A (k * 10 + m) := by
        unfold zvm at hvm
        rcases hvm with h | h
        · exact h.2.1
        · exact h.1
      refine z_L0R (pc' := 29) dX8_move_28 rfl ?_
      refine z_getR (pc' := 32) (ki := 0) 0 fX8_10.l rfl rfl dX8_move_29 rfl hx.s hx.p0 ?_
      refine z_getR (pc' := 35) (ki := 2) 2 fX8_69 rfl rfl dX8_move_32 rfl (by first | exact hx.o1.s | exact hx.o12.s) (by first | exact hx.o1.p2 | exact hx.o12.p2) ?_
      refine z_L1I (pc' := 36) dX8_move_35 rfl ?_
      refine z_L2I (pc' := 37) dX8_move_36 rfl ?_
      refine z_V2v (pc' := 40) (ci := 0) kX0_code lX8_189 dX8_move_37 rfl (by omega) (Nat.le_of_ble_eq_true rfl) (by decide) rfl hx.o1.o8.s ?_
      refine c_code (by omega) hx.o1.o8 hp.1 hp.2 (by omega) (by omega) (zKv_i ?_)
      rw [hc]
      refine z_S4I (pc' := 42) rfl dX8_move_40 rfl ?_
      refine z_L3I (pc' := 43) dX8_move_42 rfl ?_
      have e4 : q = 0 ∨ q = 1 ∨ q = 2 ∨ (q < 0 ∨ 2 < q) := by omega
      rcases e4 with e4 | e4 | e4 | e4
      · subst e4
        refine z_tswIn (tgt := 68) dX8_move_43 (by decide) (by decide) rfl (by decide) ?_
        refine z_L4I (pc' := 70) dX8_move_68 rfl ?_
        refine z_S1v (pc' := 73) kX8_kindOf lX8_192 dX8_move_70 rfl (by omega) (Nat.le_of_ble_eq_true rfl) ?_
        refine c_kindOf hc0 (zKv_i ?_)
        refine z_ireturn rfl rfl dX8_move_73 ?_
        first
        | (rw [zif_pos rfl] at hQ; exact hQ me hX zFr.rf)
        | (rw [zif_neg (by decide), zif_pos rfl] at hQ; exact hQ me hX zFr.rf)
        | (rw [zif_neg (by decide), zif_neg (by decide), zif_pos rfl] at hQ; exact hQ me hX zFr.rf)
        | (rw [zif_neg (by omega), zif_neg (by omega), zif_neg (by omega)] at hQ; exact hQ me hX zFr.rf)
      · subst e4
        refine z_tswIn (tgt := 74) dX8_move_43 (by decide) (by decide) rfl (by decide) ?_
        refine z_L4I (pc' := 76) dX8_move_74 rfl ?_
        refine z_S1v (pc' := 79) kX8_firstOf lX8_195 dX8_move_76 rfl (by omega) (Nat.le_of_ble_eq_true rfl) ?_
        refine c_firstOf hc0 (zKv_i ?_)
        refine z_ireturn rfl rfl dX8_move_79 ?_
        first
        | (rw [zif_pos rfl] at hQ; exact hQ me hX zFr.rf)
        | (rw [zif_neg (by decide), zif_pos rfl] at hQ; exact hQ me hX zFr.rf)
        | (rw [zif_neg (by decide), zif_neg (by decide), zif_pos rfl] at hQ; exact hQ me hX zFr.rf)
        | (rw [zif_neg (by omega), zif_neg (by omega), zif_neg (by omega)] at hQ; exact hQ me hX zFr.rf)
      · subst e4
        refine z_tswIn (tgt := 80) dX8_move_43 (by decide) (by decide) rfl (by decide) ?_
        refine z_L4I (pc' := 82) dX8_move_80 rfl ?_
        refine z_S1v (pc' := 85) kX8_secondOf lX8_198 dX8_move_82 rfl (by omega) (Nat.le_of_ble_eq_true rfl) ?_
        refine c_secondOf hc0 (zKv_i ?_)
        refine z_ireturn rfl rfl dX8_move_85 ?_
        first
        | (rw [zif_pos rfl] at hQ; exact hQ me hX zFr.rf)
        | (rw [zif_neg (by decide), zif_pos rfl] at hQ; exact hQ me hX zFr.rf)
        | (rw [zif_neg (by decide), zif_neg (by decide), zif_pos rfl] at hQ; exact hQ me hX zFr.rf)
        | (rw [zif_neg (by omega), zif_neg (by omega), zif_neg (by omega)] at hQ; exact hQ me hX zFr.rf)
      · refine z_tswOut (tgt := 86) dX8_move_43 (by omega) (by decide) ?_
        refine z_bipush (pc' := 88) dX8_move_86 rfl (by decide) ?_
        refine z_ireturn rfl rfl dX8_move_88 ?_
        first
        | (rw [zif_pos rfl] at hQ; exact hQ me hX zFr.rf)
        | (rw [zif_neg (by decide), zif_pos rfl] at hQ; exact hQ me hX zFr.rf)
        | (rw [zif_neg (by decide), zif_neg (by decide), zif_pos rfl] at hQ; exact hQ me hX zFr.rf)
        | (rw [zif_neg (by omega), zif_neg (by omega), zif_neg (by omega)] at hQ; exact hQ me hX zFr.rf)
    · rw [zif_pos (by omega)] at hQ
      refine z_iconst (pc' := 27) dX8_move_26 rfl (by unfold zin; decide) ?_
      refine z_ireturn rfl rfl dX8_move_27 ?_
      exact hQ me hX zFr.rf
end ZFACE

