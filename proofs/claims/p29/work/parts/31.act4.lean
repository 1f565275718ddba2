section ZACT4
theorem zff_bd (g : Int → Int) : ∀ (n : Nat) (l i : Int), 0 ≤ i → zff g n l i = -5 ∨ (0 ≤ zff g n l i ∧ zff g n l i ≤ i + n) := by
  intro n
  induction n with
  | zero => intro l i h0; unfold zff; split <;> omega
  | succ n ih =>
    intro l i h0
    have := ih (zaft l (g i)) (i + 1) (by omega)
    unfold zff
    split <;> omega
theorem zfault_bd (g : Int → Int) (n : Int) (h0 : 0 ≤ n) (h1 : n ≤ 80) : -5 ≤ zfault g n ∧ zfault g n ≤ 80 := by
  have := zff_bd g n.toNat 0 0 (Int.le_refl _)
  unfold zfault
  omega
theorem zpn_ok {h : Int → Int} (hok : zHok h) (hp : zpn h = 0) : ∀ i, 0 ≤ i → i < 10 → h i = -5 := zpn_0 hok hp
set_option maxRecDepth 100000 in
set_option maxHeartbeats 1000000 in
theorem x_goHome {d : Nat} {sp : zSP} {me : zMe} {Q : zQ} {x : Nat} {A : zAb} {B : Int} (hd : 20 ≤ d) (hx : zObj sp x) (hX : zRX me x A) (hI : zIA B A) (hB : B ≤ 900000000) (hQ : ∀ me', zRX me' x (zoGoHome A).2 → zFr x me me' → Q (some (zI (zoGoHome A).1)) sp me') : zCall mX8_goHome d 0 0 [zR x] sp me Q := by
  refine z_met kX8_goHome (by simp) (by simp) ?_
  show zW mX8_goHome d 0 0 Q 0 [zR x, zU] [] sp me
  have hw := zx_w hX
  have hf := zx_f hX
  have hh := zx_h hX
  have hp := zx_p hX
  have hs := zx_s hX
  have hc := zx_c hX
  have hIS := hI.1
  have hgA : zgR (qW A) (qF A) := hIS.1
  have hokA : zHok (qH A) := hIS.2.1
  have hpnA : qP A = zpn (qH A) := hIS.2.2.1
  have hvA : zfv (qS A) (qC A) := hIS.2.2.2.1
  have hlA : zlim (qS A) (qC A) := hIS.2.2.2.2.1
  unfold zoGoHome at hQ
  have hpb := zpn_bd (qH A)
  have hhb := zSm_bd (g := fun p => if qW A p = p ∧ qF A p = 0 then 1 else 0) (a := 0) (b := 1) (fun i _ => by split <;> omega) 10 (by omega)
  have hcb := zSm_bd (g := fun i => if i < qH A i ∧ ¬ (qH A i - i = 1 ∨ qH A i - i = 9) then 1 else 0) (a := 0) (b := 1) (fun i _ => by split <;> omega) 10 (by omega)
  have hT2 : 0 ≤ qT2 A ∧ qT2 A ≤ B := hI.1.2.2.2.2.2.2.2
  have e0 := zx_2 hX
  refine z_L0R (pc' := 1) dX8_goHome_0 rfl ?_
  refine z_getR (pc' := 4) (ki := 3) 3 fX8_26.l rfl rfl dX8_goHome_1 rfl hx.s hx.p3 ?_
  refine z_L0R (pc' := 5) dX8_goHome_4 rfl ?_
  refine z_getR (pc' := 8) (ki := 0) 0 fX8_10.l rfl rfl dX8_goHome_5 rfl hx.s hx.p0 ?_
  refine z_V10 (pc' := 11) (ci := 1) kX1_keep lX8_86 dX8_goHome_8 rfl (by omega) (Nat.le_of_ble_eq_true rfl) (by decide) rfl hx.o23.s ?_
  refine c_keep (by omega) hx.o23 hx.o1 (by omega) hX.2.1 (fun me1 hH1 hf1 => zK0_i ?_)
  rw [hX.1] at hH1
  have g1 := zg_all (me := me1) (s := x + 1) (A := A) (by rw [zget_congr (fun a h1 h2 => hf1 a (by omega))]; exact hX.1)
  refine z_bipush (pc' := 13) dX8_goHome_11 rfl (by decide) ?_
  refine z_L0R (pc' := 14) dX8_goHome_13 rfl ?_
  refine z_getR (pc' := 17) (ki := 0) 0 fX8_10.l rfl rfl dX8_goHome_14 rfl hx.s hx.p0 ?_
  refine z_getR (pc' := 20) (ki := 0) 0 fX8_118 rfl rfl dX8_goHome_17 rfl (by first | exact hx.o1.s | exact hx.o12.s) (by first | exact hx.o1.p0 | exact hx.o12.p0) ?_
  refine z_V0v (pc' := 23) (ci := 4) kX4_homeCount lX8_146 dX8_goHome_20 rfl (by omega) (Nat.le_of_ble_eq_true rfl) (by decide) rfl (by first | exact hx.o1.o1.s | exact hx.o156.s | exact hx.o161.s) ?_
  refine c_homeCount hx.o1.o1 (zKv_i ?_)
  rw [g1.1, g1.2.1]
  refine z_isub (pc' := 24) dX8_goHome_23 rfl (by unfold zin; omega) ?_
  refine z_S1I (pc' := 25) rfl dX8_goHome_24 rfl ?_
  refine z_L0R (pc' := 26) dX8_goHome_25 rfl ?_
  refine z_getR (pc' := 29) (ki := 0) 0 fX8_10.l rfl rfl dX8_goHome_26 rfl hx.s hx.p0 ?_
  refine z_getR (pc' := 32) (ki := 0) 0 fX8_118 rfl rfl dX8_goHome_29 rfl (by first | exact hx.o1.s | exact hx.o12.s) (by first | exact hx.o1.p0 | exact hx.o12.p0) ?_
  refine z_V00 (pc' := 35) (ci := 4) kX4_settle lX8_149 dX8_goHome_32 rfl (by omega) (Nat.le_of_ble_eq_true rfl) (by decide) rfl (by first | exact hx.o1.o1.s | exact hx.o156.s | exact hx.o161.s) ?_
  refine c_settle hx.o1.o1 (zK0_i ?_)
  generalize hme2 : zset (zset me1 (x + 1 + 1 + 1) (zcut 10 (fun p => p))) (x + 1 + 1 + 2) (zcut 10 (fun _ => 0)) = me2
  have o2 : ∀ a, a ≠ x + 1 + 1 + 1 → a ≠ x + 1 + 1 + 2 → me2 a = me1 a := fun a ha hb => by rw [← hme2, zset_ne _ _ _ hb, zset_ne _ _ _ ha]
  have w2 : me2 (x + 1 + 1 + 1) = zcut 10 (fun p => p) := by rw [← hme2, zset_ne _ _ _ (by omega)]; exact zset_eq _ _ _
  have f2 : me2 (x + 1 + 1 + 2) = zcut 10 (fun _ => 0) := by rw [← hme2]; exact zset_eq _ _ _
  have t2 : me2 (x + 1) 5 = qT2 A := by rw [o2 _ (by omega) (by omega)]; exact g1.2.2.2.2.2.2.2.2
  refine z_L0R (pc' := 36) dX8_goHome_35 rfl ?_
  refine z_getR (pc' := 39) (ki := 0) 0 fX8_10.l rfl rfl dX8_goHome_36 rfl hx.s hx.p0 ?_
  refine z_dupR (pc' := 40) dX8_goHome_39 rfl ?_
  refine z_getI (pc' := 43) (ki := 5) 5 fX8_152 rfl rfl dX8_goHome_40 rfl (by first | exact hx.o1.s | exact hx.o12.s) ?_
  refine z_L0R (pc' := 44) dX8_goHome_43 rfl ?_
  refine z_getR (pc' := 47) (ki := 0) 0 fX8_10.l rfl rfl dX8_goHome_44 rfl hx.s hx.p0 ?_
  refine z_getR (pc' := 50) (ki := 1) 1 fX8_109 rfl rfl dX8_goHome_47 rfl (by first | exact hx.o1.s | exact hx.o12.s) (by first | exact hx.o1.p1 | exact hx.o12.p1) ?_
  refine z_L0R (pc' := 51) dX8_goHome_50 rfl ?_
  refine z_getR (pc' := 54) (ki := 0) 0 fX8_10.l rfl rfl dX8_goHome_51 rfl hx.s hx.p0 ?_
  refine z_getR (pc' := 57) (ki := 0) 0 fX8_118 rfl rfl dX8_goHome_54 rfl (by first | exact hx.o1.s | exact hx.o12.s) (by first | exact hx.o1.p0 | exact hx.o12.p0) ?_
  refine z_V1v (pc' := 60) (ci := 2) kX2_partNotNeighbors lX8_156 dX8_goHome_57 rfl (by omega) (Nat.le_of_ble_eq_true rfl) (by decide) rfl hx.o1.o6.s ?_
  refine c_partNN (by omega) hx.o1.o6 hx.o1.o1 (by omega) (fun p h0 h1 => by rw [w2, zcut_in _ _ _ h0 h1]) (by rw [o2 _ (by omega) (by omega), g1.2.2.1]; exact hokA) (by rw [o2 _ (by omega) (by omega), g1.2.2.2.1]; omega) (by rw [o2 _ (by omega) (by omega), g1.2.2.2.1]; omega) (zKv_i ?_)
  rw [t2, o2 (x + 1 + 6) (by omega) (by omega), o2 (x + 1 + 6 + 1) (by omega) (by omega), g1.2.2.1, g1.2.2.2.1]
  have hcb2 : 0 ≤ zhc (qH A) 10 ∧ zhc (qH A) 10 ≤ 10 := by unfold zhc; omega
  refine z_iadd (pc' := 61) dX8_goHome_60 rfl (by unfold zin; omega) ?_
  refine z_putI (pc' := 64) (ki := 5) 5 fX8_152 rfl (Or.inl rfl) rfl dX8_goHome_61 rfl (by first | exact hx.o1.s | exact hx.o12.s) ?_
  refine z_L1I (pc' := 65) dX8_goHome_64 rfl ?_
  refine z_ireturn rfl rfl dX8_goHome_65 ?_
  generalize hme3 : zset _ (x + 1) _ = me3
  have o3 : ∀ a, a ≠ x + 1 → a ≠ x + 1 + 6 → a ≠ x + 1 + 6 + 1 → me3 a = me2 a := fun a ha hb hc => by rw [← hme3, zset_ne _ _ _ ha, zset_ne _ _ _ hb, zset_ne _ _ _ hc]
  have oo : ∀ a, (a < x + 1 ∨ x + 11 < a) → (a < x + 23 ∨ x + 79 < a) → me3 a = me a := fun a ha hb => by rw [o3 a (by omega) (by omega) (by omega), o2 a (by omega) (by omega), hf1 a (by omega)]
  refine hQ me3 (zRX_do hX (zg_mk ?_ ?_ ?_ ?_ ?_ ?_ ?_ ?_ ?_) (zRH_congr hH1 (fun a h1 h2 => by rw [o3 a (by omega) (by omega) (by omega), o2 a (by omega) (by omega)])) (fun a ha => oo a (by omega) (by omega)) (zRP_congr (fun a h1 h2 => oo a (by omega) (by omega)) hX.2.2.2.2.2)) (fun a ha => oo a (by omega) (by omega))
  · rw [o3 _ (by omega) (by omega) (by omega)]; exact w2
  · rw [o3 _ (by omega) (by omega) (by omega)]; exact f2
  · rw [← hme3, zset_ne _ _ _ (by omega), zset_ne _ _ _ (by omega)]; exact zset_eq _ _ _
  · rw [← hme3, zset_ne _ _ _ (by omega), zset_eq]; exact zup_eq _ _ _
  · rw [o3 _ (by omega) (by omega) (by omega), o2 _ (by omega) (by omega)]; exact g1.2.2.2.2.1
  · rw [o3 _ (by omega) (by omega) (by omega), o2 _ (by omega) (by omega)]; exact g1.2.2.2.2.2.1
  · rw [← hme3, zset_eq, zup_ne _ _ _ (by omega)]; first | (rw [zset_ne _ _ _ (by omega), zset_ne _ _ _ (by omega), o2 _ (by omega) (by omega)]; exact g1.2.2.2.2.2.2.1) | skip
  · rw [← hme3, zset_eq, zup_ne _ _ _ (by omega)]; first | (rw [zset_ne _ _ _ (by omega), zset_ne _ _ _ (by omega), o2 _ (by omega) (by omega)]; exact g1.2.2.2.2.2.2.2.1) | skip
  · rw [← hme3, zset_eq]; exact zup_eq _ _ _
set_option maxRecDepth 100000 in
set_option maxHeartbeats 1000000 in
theorem x_dance {d : Nat} {sp : zSP} {me : zMe} {Q : zQ} {x : Nat} {A : zAb} {B k T b : Int} (hd : 20 ≤ d) (hx : zObj sp x) (hX : zRX me x A) (hI : zIA B A) (hB : B ≤ 900000000) (hQ : ∀ me', zRX me' x (zoDance A k T b).2 → zFr x me me' → Q (some (zI (zoDance A k T b).1)) sp me') : zCall mX8_dance d 0 0 [zR x, zI k, zI T, zI b] sp me Q := by
  refine z_met kX8_dance (by simp) (by simp) ?_
  show zW mX8_dance d 0 0 Q 0 [zR x, zI k, zI T, zI b, zU] [] sp me
  have hw := zx_w hX
  have hf := zx_f hX
  have hh := zx_h hX
  have hp := zx_p hX
  have hs := zx_s hX
  have hc := zx_c hX
  have hIS := hI.1
  have hgA : zgR (qW A) (qF A) := hIS.1
  have hokA : zHok (qH A) := hIS.2.1
  have hpnA : qP A = zpn (qH A) := hIS.2.2.1
  have hvA : zfv (qS A) (qC A) := hIS.2.2.2.1
  have hlA : zlim (qS A) (qC A) := hIS.2.2.2.2.1
  have hT0 : 0 ≤ qT0 A ∧ qT0 A ≤ B := hI.1.2.2.2.2.2.1
  have hT1 : 0 ≤ qT1 A ∧ qT1 A ≤ B := hI.1.2.2.2.2.2.2.1
  unfold zoDance at hQ
  refine z_L1I (pc' := 1) dX8_dance_0 rfl ?_
  refine z_S1v (pc' := 4) kX8_isFigure lX8_61 dX8_dance_1 rfl (by omega) (Nat.le_of_ble_eq_true rfl) ?_
  refine c_isFigure (fun hk => zKv_i ?_) (fun hk => zKv_i ?_)
  rotate_left
  · refine z_if_ne (tgt := 9) (pc' := 7) dX8_dance_4 (by decide) rfl (fun h4 => absurd rfl h4) (fun h4 => ?_)
    refine z_iconst (pc' := 8) dX8_dance_7 rfl (by unfold zin; decide) ?_
    refine z_ireturn rfl rfl dX8_dance_8 ?_
    rw [zif_pos hk] at hQ
    exact hQ me hX zFr.rf
  rw [zif_neg (fun z => z hk)] at hQ
  have hvL : ∀ c ∈ zsteps (qS A) (qC A) k, zvs c ∧ c < 400 := fun c hcc => (zsteps_ok hvA hk.1 hk.2 c hcc)
  have hlk := hlA k hk.1 hk.2
  have hPk := hX.2.2.2.2.2 k hk.1 hk.2
  refine z_if_ne (tgt := 9) (pc' := 7) dX8_dance_4 (by decide) rfl (fun h4 => ?_) (fun h4 => absurd h4 (by omega))
  refine z_L2I (pc' := 10) dX8_dance_9 rfl ?_
  refine z_iconst (pc' := 11) dX8_dance_10 rfl (by unfold zin; decide) ?_
  refine z_icmp_lt (tgt := 20) (pc' := 14) dX8_dance_11 (by decide) rfl (fun h11 => ?_) (fun h11 => ?_)
  · rw [zif_pos (by omega)] at hQ
    refine z_bipush (pc' := 22) dX8_dance_20 rfl (by decide) ?_
    refine z_ireturn rfl rfl dX8_dance_22 ?_
    exact hQ me hX zFr.rf
  · refine z_L2I (pc' := 15) dX8_dance_14 rfl ?_
    refine z_bipush (pc' := 17) dX8_dance_15 rfl (by decide) ?_
    refine z_icmp_le (tgt := 23) (pc' := 20) dX8_dance_17 (by decide) rfl (fun h17 => ?_) (fun h17 => ?_)
    · have hTT : 1 ≤ T ∧ T ≤ 9 := by omega
      rw [zif_neg (fun z => z hTT)] at hQ
      have eLL : zLL A k T b = zrep T.toNat (zord (zsteps (qS A) (qC A) k) b) := rfl
      have hll : (zLL A k T b).length = T.toNat * (zsteps (qS A) (qC A) k).length := by rw [eLL, zrep_len, zord_len]
      have hlm : T.toNat * (zsteps (qS A) (qC A) k).length ≤ 9 * 120 := Nat.mul_le_mul (by omega) hlk
      have hbd := ztry_bd (h := qH A) (zLL A k T b) (qW A, qF A) 0 (by omega)
      refine z_L0R (pc' := 24) dX8_dance_23 rfl ?_
      refine z_L1I (pc' := 25) dX8_dance_24 rfl ?_
      refine z_L2I (pc' := 26) dX8_dance_25 rfl ?_
      refine z_L3I (pc' := 27) dX8_dance_26 rfl ?_
      refine z_V3v (pc' := 30) (ci := 8) kX8_tryOut lX8_138 dX8_dance_27 rfl (by omega) (Nat.le_of_ble_eq_true rfl) (by decide) rfl hx.s ?_
      refine c_tryOut (by omega) hx hk.1 hk.2 (by omega) (by omega) hPk hvL hlk (by rw [hw, hf]; exact hgA) (by rw [hh, hp]; intro z; exact zpn_0 hokA (by omega)) (fun j3 j4 W F hWF => zKv_i ?_)
      rw [hh, hw, hf, ← eLL] at hWF
      rw [hh, hw, hf, ← eLL]
      have hX1 : zRX (zr4 me (x + 156) j3 j4 W F) x A := zRX_congr (fun a h1 h2 => zr4_o _ _ _ _ _ _ _ (by omega)) hX
      have hf0 : zFr x me (zr4 me (x + 156) j3 j4 W F) := fun a ha => zr4_o _ _ _ _ _ _ _ (by omega)
      have hf01 : ∀ a, a < x + 157 ∨ x + 160 < a → zr4 me (x + 156) j3 j4 W F a = me a := fun a ha => zr4_o _ _ _ _ _ _ _ (by omega)
      have hw1 : zr4 me (x + 156) j3 j4 W F (x + 156 + 1) = W := zr4_1 _ _ _ _ _ _
      have hw2 : zr4 me (x + 156) j3 j4 W F (x + 156 + 2) = F := zr4_2 _ _ _ _ _ _
      revert hX1 hf0 hf01 hw1 hw2
      generalize zr4 me (x + 156) j3 j4 W F = me1
      intro hX1 hf0 hf01 hw1 hw2
      refine z_S4I (pc' := 32) rfl dX8_dance_30 rfl ?_
      refine z_L4I (pc' := 34) dX8_dance_32 rfl ?_
      refine z_bipush (pc' := 36) dX8_dance_34 rfl (by decide) ?_
      refine z_icmp_eq (tgt := 45) (pc' := 39) dX8_dance_36 (by decide) rfl (fun h36 => ?_) (fun h36 => ?_)
      · have h36' : ztry (qH A) (zLL A k T b) (qW A, qF A) 0 = -5 := by omega
        rw [zif_neg (fun z => z h36')] at hQ
        have hWF2 := hWF h36'
        refine z_L0R (pc' := 46) dX8_dance_45 rfl ?_
        refine z_getR (pc' := 49) (ki := 3) 3 fX8_26.l rfl rfl dX8_dance_46 rfl hx.s hx.p3 ?_
        refine z_L0R (pc' := 50) dX8_dance_49 rfl ?_
        refine z_getR (pc' := 53) (ki := 0) 0 fX8_10.l rfl rfl dX8_dance_50 rfl hx.s hx.p0 ?_
        refine z_V10 (pc' := 56) (ci := 1) kX1_keep lX8_86 dX8_dance_53 rfl (by omega) (Nat.le_of_ble_eq_true rfl) (by decide) rfl hx.o23.s ?_
        refine c_keep (by omega) hx.o23 hx.o1 (by omega) hX1.2.1 (fun me2 hH1 hf1 => zK0_i ?_)
        rw [hX1.1] at hH1
        have g1 := zg_all (me := me2) (s := x + 1) (A := A) (by rw [zget_congr (fun a h1 h2 => hf1 a (by omega))]; exact hX1.1)
        refine z_L0R (pc' := 57) dX8_dance_56 rfl ?_
        refine z_L1I (pc' := 58) dX8_dance_57 rfl ?_
        refine z_L2I (pc' := 59) dX8_dance_58 rfl ?_
        refine z_V2v (pc' := 62) (ci := 8) kX8_carryOut lX8_142 dX8_dance_59 rfl (by omega) (Nat.le_of_ble_eq_true rfl) (by decide) rfl hx.s ?_
        refine c_carryOut (n := (zsteps (qS A) (qC A) k).length) (by omega) hx hk.1 hk.2 (by omega) (by omega) (by rw [hf1 _ (by omega)]; exact (hX1.2.2.2.2.2 k hk.1 hk.2).1) hlk (by rw [g1.2.2.2.2.2.2.1]; omega) (by rw [g1.2.2.2.2.2.2.1]; omega) (by rw [g1.2.2.2.2.2.2.2.1]; omega) (by rw [g1.2.2.2.2.2.2.2.1]; omega) (zKv_i ?_)
        rw [g1.2.2.2.2.2.2.1, g1.2.2.2.2.2.2.2.1, hf1 (x + 156 + 1) (by omega), hf1 (x + 156 + 2) (by omega), hw1, hw2]
        have hnT : ((zsteps (qS A) (qC A) k).length : Int) * T = ((zLL A k T b).length : Int) := by
          rw [hll, Int.natCast_mul, Int.toNat_of_nonneg (by omega), Int.mul_comm]
        rw [hnT]
        refine z_ireturn rfl rfl dX8_dance_62 ?_
        generalize hme3 : zset _ (x + 1) _ = me3
        have o3 : ∀ a, a ≠ x + 1 → a ≠ x + 1 + 1 + 1 → a ≠ x + 1 + 1 + 2 → me3 a = me2 a := fun a ha hb hc => by rw [← hme3, zset_ne _ _ _ ha, zset_ne _ _ _ hc, zset_ne _ _ _ hb]
        have oo : ∀ a, (a < x + 1 ∨ x + 11 < a) → (a < x + 23 ∨ x + 79 < a) → me3 a = me1 a := fun a ha hb => by rw [o3 a (by omega) (by omega) (by omega), hf1 a (by omega)]
        refine hQ me3 (zRX_do hX (zg_mk ?_ ?_ ?_ ?_ ?_ ?_ ?_ ?_ ?_) (zRH_congr hH1 (fun a h1 h2 => by rw [o3 a (by omega) (by omega) (by omega)])) (fun a ha => by rw [oo a (by omega) (by omega), hf01 a (by omega)]) (zRP_congr (fun a h1 h2 => by rw [oo a (by omega) (by omega), hf01 a (by omega)]) hX.2.2.2.2.2)) (fun a ha => by rw [oo a (by omega) (by omega), hf0 a ha])
        · rw [← hme3, zset_ne _ _ _ (by omega), zset_ne _ _ _ (by omega), zset_eq, ← hWF2]
        · rw [← hme3, zset_ne _ _ _ (by omega), zset_eq, ← hWF2]
        · rw [o3 _ (by omega) (by omega) (by omega)]; exact g1.2.2.1
        · rw [o3 _ (by omega) (by omega) (by omega)]; exact g1.2.2.2.1
        · rw [o3 _ (by omega) (by omega) (by omega)]; exact g1.2.2.2.2.1
        · rw [o3 _ (by omega) (by omega) (by omega)]; exact g1.2.2.2.2.2.1
        · rw [← hme3, zset_eq, zup_ne _ _ _ (by omega)]; exact zup_eq _ _ _
        · rw [← hme3, zset_eq]; exact zup_eq _ _ _
        · rw [← hme3, zset_eq, zup_ne _ _ _ (by omega), zup_ne _ _ _ (by omega)]; exact g1.2.2.2.2.2.2.2.2
      · rw [zif_pos h36] at hQ
        refine z_bipush (pc' := 41) dX8_dance_39 rfl (by decide) ?_
        refine z_L4I (pc' := 43) dX8_dance_41 rfl ?_
        refine z_isub (pc' := 44) dX8_dance_43 rfl (by unfold zin; omega) ?_
        refine z_ireturn rfl rfl dX8_dance_44 ?_
        exact hQ me1 hX1 hf0
    · rw [zif_pos (by omega)] at hQ
      refine z_bipush (pc' := 22) dX8_dance_20 rfl (by decide) ?_
      refine z_ireturn rfl rfl dX8_dance_22 ?_
      exact hQ me hX zFr.rf
end ZACT4

