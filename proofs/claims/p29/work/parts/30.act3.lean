section ZACT3
theorem zRH_len {me : zMe} {h : Nat} {HL : List zSt} (hR : zRH me h HL) : me h 1 = (HL.length : Int) := hR.1
set_option maxRecDepth 100000 in
set_option maxHeartbeats 1000000 in
theorem x_hold {d : Nat} {sp : zSP} {me : zMe} {Q : zQ} {x : Nat} {A : zAb} {B i j : Int} (hd : 20 ≤ d) (hx : zObj sp x) (hX : zRX me x A) (hI : zIA B A) (hQ : ∀ me', zRX me' x (zoHold A i j).2 → zFr x me me' → Q (some (zI (zoHold A i j).1)) sp me') : zCall mX8_hold d 0 0 [zR x, zI i, zI j] sp me Q := by
  refine z_met kX8_hold (by simp) (by simp) ?_
  show zW mX8_hold d 0 0 Q 0 [zR x, zI i, zI j, zU] [] sp me
  have hw := zx_w hX
  have hf := zx_f hX
  have hh := zx_h hX
  have hp := zx_p hX
  have hs := zx_s hX
  have hc := zx_c hX
  have hIS := hI.1
  have hgA : zgR (qW A) (qF A) := hIS.1
  have hokA : zHok (qH A) := hIS.2.1
  have hpnA : qP A = zpn (qH A) := hIS.2.2.1
  have hvA : zfv (qS A) (qC A) := hIS.2.2.2.1
  have hlA : zlim (qS A) (qC A) := hIS.2.2.2.2.1
  unfold zoHold at hQ
  refine z_L1I (pc' := 1) dX8_hold_0 rfl ?_
  refine z_S1v (pc' := 4) kX8_isPlace lX8_106 dX8_hold_1 rfl (by omega) (Nat.le_of_ble_eq_true rfl) ?_
  refine c_isPlace (fun hi => zKv_i ?_) (fun hi => zKv_i ?_)
  rotate_left
  · refine z_if_eq (tgt := 14) (pc' := 7) dX8_hold_4 (by decide) rfl (fun h4 => ?_) (fun h4 => absurd rfl h4)
    refine z_iconst (pc' := 15) dX8_hold_14 rfl (by unfold zin; decide) ?_
    refine z_ireturn rfl rfl dX8_hold_15 ?_
    rw [zif_pos (fun z => hi ⟨z.1, z.2.1⟩)] at hQ
    exact hQ me hX zFr.rf
  refine z_if_eq (tgt := 14) (pc' := 7) dX8_hold_4 (by decide) rfl (fun h4 => absurd h4 (by omega)) (fun h4 => ?_)
  refine z_L2I (pc' := 8) dX8_hold_7 rfl ?_
  refine z_S1v (pc' := 11) kX8_isPlace lX8_106 dX8_hold_8 rfl (by omega) (Nat.le_of_ble_eq_true rfl) ?_
  refine c_isPlace (fun hj => zKv_i ?_) (fun hj => zKv_i ?_)
  rotate_left
  · refine z_if_ne (tgt := 16) (pc' := 14) dX8_hold_11 (by decide) rfl (fun h4 => absurd rfl h4) (fun h4 => ?_)
    refine z_iconst (pc' := 15) dX8_hold_14 rfl (by unfold zin; decide) ?_
    refine z_ireturn rfl rfl dX8_hold_15 ?_
    rw [zif_pos (fun z => hj z.2.2)] at hQ
    exact hQ me hX zFr.rf
  rw [zif_neg (fun z => z ⟨hi.1, hi.2, hj.1, hj.2⟩)] at hQ
  have hpi := zpl_ok hgA hi.1 hi.2
  have hpj := zpl_ok hgA hj.1 hj.2
  have hpb := zpn_bd (qH A)
  refine z_if_ne (tgt := 16) (pc' := 14) dX8_hold_11 (by decide) rfl (fun h11 => ?_) (fun h11 => absurd h11 (by omega))
  refine z_L1I (pc' := 17) dX8_hold_16 rfl ?_
  refine z_L2I (pc' := 18) dX8_hold_17 rfl ?_
  refine z_icmp_ne (tgt := 24) (pc' := 21) dX8_hold_18 (by decide) rfl (fun h18 => ?_) (fun h18 => ?_)
  · rw [zif_neg (fun z => h18 z)] at hQ
    refine z_L0R (pc' := 25) dX8_hold_24 rfl ?_
    refine z_getR (pc' := 28) (ki := 0) 0 fX8_10.l rfl rfl dX8_hold_25 rfl hx.s hx.p0 ?_
    refine z_getR (pc' := 31) (ki := 1) 1 fX8_109 rfl rfl dX8_hold_28 rfl (by first | exact hx.o1.s | exact hx.o12.s) (by first | exact hx.o1.p1 | exact hx.o12.p1) ?_
    refine z_S3R (pc' := 32) rfl dX8_hold_31 rfl ?_
    refine z_L3R (pc' := 33) dX8_hold_32 rfl ?_
    refine z_L1I (pc' := 34) dX8_hold_33 rfl ?_
    refine z_V1v (pc' := 37) (ci := 2) kX2_partner lX8_113 dX8_hold_34 rfl (by omega) (Nat.le_of_ble_eq_true rfl) (by decide) rfl hx.o1.o6.s ?_
    refine c_partner (by omega) hx.o1.o6 (zKv_i ?_)
    rw [hh]
    refine z_bipush (pc' := 39) dX8_hold_37 rfl (by decide) ?_
    refine z_icmp_ne (tgt := 80) (pc' := 42) dX8_hold_39 (by decide) rfl (fun h39 => ?_) (fun h39 => ?_)
    · rw [zif_pos (by first | exact Or.inl h39 | exact Or.inr (Or.inl h49))] at hQ
      refine z_bipush (pc' := 82) dX8_hold_80 rfl (by decide) ?_
      refine z_ireturn rfl rfl dX8_hold_82 ?_
      exact hQ me hX zFr.rf
    · refine z_L3R (pc' := 43) dX8_hold_42 rfl ?_
      refine z_L2I (pc' := 44) dX8_hold_43 rfl ?_
      refine z_V1v (pc' := 47) (ci := 2) kX2_partner lX8_113 dX8_hold_44 rfl (by omega) (Nat.le_of_ble_eq_true rfl) (by decide) rfl hx.o1.o6.s ?_
      refine c_partner (by omega) hx.o1.o6 (zKv_i ?_)
      rw [hh]
      refine z_bipush (pc' := 49) dX8_hold_47 rfl (by decide) ?_
      refine z_icmp_ne (tgt := 80) (pc' := 52) dX8_hold_49 (by decide) rfl (fun h49 => ?_) (fun h49 => ?_)
      · rw [zif_pos (by first | exact Or.inl h39 | exact Or.inr (Or.inl h49))] at hQ
        refine z_bipush (pc' := 82) dX8_hold_80 rfl (by decide) ?_
        refine z_ireturn rfl rfl dX8_hold_82 ?_
        exact hQ me hX zFr.rf
      · refine z_L0R (pc' := 53) dX8_hold_52 rfl ?_
        refine z_getR (pc' := 56) (ki := 0) 0 fX8_10.l rfl rfl dX8_hold_53 rfl hx.s hx.p0 ?_
        refine z_getR (pc' := 59) (ki := 0) 0 fX8_118 rfl rfl dX8_hold_56 rfl (by first | exact hx.o1.s | exact hx.o12.s) (by first | exact hx.o1.p0 | exact hx.o12.p0) ?_
        refine z_L1I (pc' := 60) dX8_hold_59 rfl ?_
        refine z_V1v (pc' := 63) (ci := 4) kX4_placeOf lX8_121 dX8_hold_60 rfl (by omega) (Nat.le_of_ble_eq_true rfl) (by decide) rfl (by first | exact hx.o1.o1.s | exact hx.o156.s | exact hx.o161.s) ?_
        refine c_placeOf hx.o1.o1 hpi.1 hpi.2.1 (by rw [hw]; exact hpi.2.2) (fun r h0 h1 => by rw [hw]; exact zpl_lt hgA hi.1 hi.2 h0 h1) (zKv_i ?_)
        refine z_L0R (pc' := 64) dX8_hold_63 rfl ?_
        refine z_getR (pc' := 67) (ki := 0) 0 fX8_10.l rfl rfl dX8_hold_64 rfl hx.s hx.p0 ?_
        refine z_getR (pc' := 70) (ki := 0) 0 fX8_118 rfl rfl dX8_hold_67 rfl (by first | exact hx.o1.s | exact hx.o12.s) (by first | exact hx.o1.p0 | exact hx.o12.p0) ?_
        refine z_L2I (pc' := 71) dX8_hold_70 rfl ?_
        refine z_V1v (pc' := 74) (ci := 4) kX4_placeOf lX8_121 dX8_hold_71 rfl (by omega) (Nat.le_of_ble_eq_true rfl) (by decide) rfl (by first | exact hx.o1.o1.s | exact hx.o156.s | exact hx.o161.s) ?_
        refine c_placeOf hx.o1.o1 hpj.1 hpj.2.1 (by rw [hw]; exact hpj.2.2) (fun r h0 h1 => by rw [hw]; exact zpl_lt hgA hj.1 hj.2 h0 h1) (zKv_i ?_)
        refine z_S2v (pc' := 77) kX8_areNeighbors lX8_124 dX8_hold_74 rfl (by omega) (Nat.le_of_ble_eq_true rfl) ?_
        refine c_areNb (by omega) hpi.1 hpi.2.1 hpj.1 hpj.2.1 (fun hn => zKv_i ?_) (fun hn => zKv_i ?_)
        rotate_left
        · refine z_if_ne (tgt := 83) (pc' := 80) dX8_hold_77 (by decide) rfl (fun h4 => absurd rfl h4) (fun h4 => ?_)
          refine z_bipush (pc' := 82) dX8_hold_80 rfl (by decide) ?_
          refine z_ireturn rfl rfl dX8_hold_82 ?_
          rw [zif_pos (Or.inr (Or.inr hn))] at hQ
          exact hQ me hX zFr.rf
        rw [zif_neg (fun z => z.elim (fun z => z (by omega)) (fun z => z.elim (fun z => z (by omega)) (fun z => z hn)))] at hQ
        refine z_if_ne (tgt := 83) (pc' := 80) dX8_hold_77 (by decide) rfl (fun h77 => ?_) (fun h77 => absurd h77 (by omega))
        refine z_L0R (pc' := 84) dX8_hold_83 rfl ?_
        refine z_getR (pc' := 87) (ki := 3) 3 fX8_26.l rfl rfl dX8_hold_84 rfl hx.s hx.p3 ?_
        refine z_L0R (pc' := 88) dX8_hold_87 rfl ?_
        refine z_getR (pc' := 91) (ki := 0) 0 fX8_10.l rfl rfl dX8_hold_88 rfl hx.s hx.p0 ?_
        refine z_V10 (pc' := 94) (ci := 1) kX1_keep lX8_86 dX8_hold_91 rfl (by omega) (Nat.le_of_ble_eq_true rfl) (by decide) rfl hx.o23.s ?_
        refine c_keep (by omega) hx.o23 hx.o1 (by omega) hX.2.1 (fun me1 hH1 hf1 => zK0_i ?_)
        rw [hX.1] at hH1
        have g1 := zg_all (me := me1) (s := x + 1) (A := A) (by rw [zget_congr (fun a h1 h2 => hf1 a (by omega))]; exact hX.1)
        refine z_L3R (pc' := 95) dX8_hold_94 rfl ?_
        refine z_L1I (pc' := 96) dX8_hold_95 rfl ?_
        refine z_L2I (pc' := 97) dX8_hold_96 rfl ?_
        refine z_V20 (pc' := 100) (ci := 2) kX2_join lX8_128 dX8_hold_97 rfl (by omega) (Nat.le_of_ble_eq_true rfl) (by decide) rfl hx.o1.o6.s ?_
        refine c_join (by omega) hx.o1.o6 hi.1 hi.2 hj.1 hj.2 (by rw [g1.2.2.2.1]; omega) (by rw [g1.2.2.2.1]; omega) (zK0_i ?_)
        rw [g1.2.2.1, g1.2.2.2.1]
        generalize hme2 : zset (zset me1 (x + 1 + 6 + 1) (zup (zup (qH A) i j) j i)) (x + 1 + 6) (zup (me1 (x + 1 + 6)) 1 (qP A + 1)) = me2
        have o2 : ∀ a, a ≠ x + 1 + 6 → a ≠ x + 1 + 6 + 1 → me2 a = me1 a := fun a ha hb => by rw [← hme2, zset_ne _ _ _ ha, zset_ne _ _ _ hb]
        have s2 : me2 (x + 1 + 6) 1 = qP A + 1 := by rw [← hme2, zset_eq]; exact zup_eq _ _ _
        have c2 : me2 (x + 1 + 6 + 1) = zup (zup (qH A) i j) j i := by rw [← hme2, zset_ne _ _ _ (by omega)]; exact zset_eq _ _ _
        refine z_L3R (pc' := 101) dX8_hold_100 rfl ?_
        refine z_V0v (pc' := 104) (ci := 2) kX2_pairs lX8_131 dX8_hold_101 rfl (by omega) (Nat.le_of_ble_eq_true rfl) (by decide) rfl hx.o1.o6.s ?_
        refine c_pairs hx.o1.o6 (zKv_i ?_)
        rw [s2]
        refine z_ireturn rfl rfl dX8_hold_104 ?_
        refine hQ me2 (zRX_do hX (zg_mk ?_ ?_ c2 s2 ?_ ?_ ?_ ?_ ?_) (zRH_congr hH1 (fun a h1 h2 => by rw [o2 a (by omega) (by omega)])) (fun a ha => by rw [o2 a (by omega) (by omega), hf1 a (by omega)]) (zRP_congr (fun a h1 h2 => by rw [o2 a (by omega) (by omega), hf1 a (by omega)]) hX.2.2.2.2.2)) (fun a ha => by rw [o2 a (by omega) (by omega), hf1 a (by omega)])
        · rw [o2 _ (by omega) (by omega)]; exact g1.1
        · rw [o2 _ (by omega) (by omega)]; exact g1.2.1
        · rw [o2 _ (by omega) (by omega)]; exact g1.2.2.2.2.1
        · rw [o2 _ (by omega) (by omega)]; exact g1.2.2.2.2.2.1
        · rw [o2 _ (by omega) (by omega)]; exact g1.2.2.2.2.2.2.1
        · rw [o2 _ (by omega) (by omega)]; exact g1.2.2.2.2.2.2.2.1
        · rw [o2 _ (by omega) (by omega)]; exact g1.2.2.2.2.2.2.2.2
  · rw [zif_pos h18] at hQ
    refine z_bipush (pc' := 23) dX8_hold_21 rfl (by decide) ?_
    refine z_ireturn rfl rfl dX8_hold_23 ?_
    exact hQ me hX zFr.rf
set_option maxRecDepth 100000 in
set_option maxHeartbeats 1000000 in
theorem x_release {d : Nat} {sp : zSP} {me : zMe} {Q : zQ} {x : Nat} {A : zAb} {B i : Int} (hd : 20 ≤ d) (hx : zObj sp x) (hX : zRX me x A) (hI : zIA B A) (hQ : ∀ me', zRX me' x (zoRelease A i).2 → zFr x me me' → Q (some (zI (zoRelease A i).1)) sp me') : zCall mX8_release d 0 0 [zR x, zI i] sp me Q := by
  refine z_met kX8_release (by simp) (by simp) ?_
  show zW mX8_release d 0 0 Q 0 [zR x, zI i, zU] [] sp me
  have hw := zx_w hX
  have hf := zx_f hX
  have hh := zx_h hX
  have hp := zx_p hX
  have hs := zx_s hX
  have hc := zx_c hX
  have hIS := hI.1
  have hgA : zgR (qW A) (qF A) := hIS.1
  have hokA : zHok (qH A) := hIS.2.1
  have hpnA : qP A = zpn (qH A) := hIS.2.2.1
  have hvA : zfv (qS A) (qC A) := hIS.2.2.2.1
  have hlA : zlim (qS A) (qC A) := hIS.2.2.2.2.1
  unfold zoRelease at hQ
  refine z_L1I (pc' := 1) dX8_release_0 rfl ?_
  refine z_S1v (pc' := 4) kX8_isPlace lX8_106 dX8_release_1 rfl (by omega) (Nat.le_of_ble_eq_true rfl) ?_
  refine c_isPlace (fun hi => zKv_i ?_) (fun hi => zKv_i ?_)
  rotate_left
  · refine z_if_ne (tgt := 9) (pc' := 7) dX8_release_4 (by decide) rfl (fun h4 => absurd rfl h4) (fun h4 => ?_)
    refine z_iconst (pc' := 8) dX8_release_7 rfl (by unfold zin; decide) ?_
    refine z_ireturn rfl rfl dX8_release_8 ?_
    rw [zif_pos hi] at hQ
    exact hQ me hX zFr.rf
  rw [zif_neg (fun z => z hi)] at hQ
  have hpb := zpn_bd (qH A)
  have hki := hokA.1 i hi.1 hi.2
  refine z_if_ne (tgt := 9) (pc' := 7) dX8_release_4 (by decide) rfl (fun h4 => ?_) (fun h4 => absurd h4 (by omega))
  refine z_L0R (pc' := 10) dX8_release_9 rfl ?_
  refine z_getR (pc' := 13) (ki := 0) 0 fX8_10.l rfl rfl dX8_release_10 rfl hx.s hx.p0 ?_
  refine z_getR (pc' := 16) (ki := 1) 1 fX8_109 rfl rfl dX8_release_13 rfl (by first | exact hx.o1.s | exact hx.o12.s) (by first | exact hx.o1.p1 | exact hx.o12.p1) ?_
  refine z_L1I (pc' := 17) dX8_release_16 rfl ?_
  refine z_V1v (pc' := 20) (ci := 2) kX2_partner lX8_113 dX8_release_17 rfl (by omega) (Nat.le_of_ble_eq_true rfl) (by decide) rfl hx.o1.o6.s ?_
  refine c_partner (by omega) hx.o1.o6 (zKv_i ?_)
  rw [hh]
  refine z_S2I (pc' := 21) rfl dX8_release_20 rfl ?_
  refine z_L2I (pc' := 22) dX8_release_21 rfl ?_
  refine z_bipush (pc' := 24) dX8_release_22 rfl (by decide) ?_
  refine z_icmp_ne (tgt := 30) (pc' := 27) dX8_release_24 (by decide) rfl (fun h24 => ?_) (fun h24 => ?_)
  · rw [zif_neg (fun z => h24 z)] at hQ
    refine z_L0R (pc' := 31) dX8_release_30 rfl ?_
    refine z_getR (pc' := 34) (ki := 3) 3 fX8_26.l rfl rfl dX8_release_31 rfl hx.s hx.p3 ?_
    refine z_L0R (pc' := 35) dX8_release_34 rfl ?_
    refine z_getR (pc' := 38) (ki := 0) 0 fX8_10.l rfl rfl dX8_release_35 rfl hx.s hx.p0 ?_
    refine z_V10 (pc' := 41) (ci := 1) kX1_keep lX8_86 dX8_release_38 rfl (by omega) (Nat.le_of_ble_eq_true rfl) (by decide) rfl hx.o23.s ?_
    refine c_keep (by omega) hx.o23 hx.o1 (by omega) hX.2.1 (fun me1 hH1 hf1 => zK0_i ?_)
    rw [hX.1] at hH1
    have g1 := zg_all (me := me1) (s := x + 1) (A := A) (by rw [zget_congr (fun a h1 h2 => hf1 a (by omega))]; exact hX.1)
    refine z_L0R (pc' := 42) dX8_release_41 rfl ?_
    refine z_getR (pc' := 45) (ki := 0) 0 fX8_10.l rfl rfl dX8_release_42 rfl hx.s hx.p0 ?_
    refine z_getR (pc' := 48) (ki := 1) 1 fX8_109 rfl rfl dX8_release_45 rfl (by first | exact hx.o1.s | exact hx.o12.s) (by first | exact hx.o1.p1 | exact hx.o12.p1) ?_
    refine z_L1I (pc' := 49) dX8_release_48 rfl ?_
    refine z_L2I (pc' := 50) dX8_release_49 rfl ?_
    refine z_V20 (pc' := 53) (ci := 2) kX2_part lX8_135 dX8_release_50 rfl (by omega) (Nat.le_of_ble_eq_true rfl) (by decide) rfl hx.o1.o6.s ?_
    refine c_part (by omega) hx.o1.o6 hi.1 hi.2 (by omega) (by omega) (by rw [g1.2.2.2.1]; omega) (by rw [g1.2.2.2.1]; omega) (zK0_i ?_)
    rw [g1.2.2.1, g1.2.2.2.1]
    generalize hme2 : zset (zset me1 (x + 1 + 6 + 1) (zup (zup (qH A) i (-5)) (qH A i) (-5))) (x + 1 + 6) (zup (me1 (x + 1 + 6)) 1 (qP A - 1)) = me2
    have o2 : ∀ a, a ≠ x + 1 + 6 → a ≠ x + 1 + 6 + 1 → me2 a = me1 a := fun a ha hb => by rw [← hme2, zset_ne _ _ _ ha, zset_ne _ _ _ hb]
    have s2 : me2 (x + 1 + 6) 1 = qP A - 1 := by rw [← hme2, zset_eq]; exact zup_eq _ _ _
    have c2 : me2 (x + 1 + 6 + 1) = zup (zup (qH A) i (-5)) (qH A i) (-5) := by rw [← hme2, zset_ne _ _ _ (by omega)]; exact zset_eq _ _ _
    refine z_L2I (pc' := 54) dX8_release_53 rfl ?_
    refine z_ireturn rfl rfl dX8_release_54 ?_
    refine hQ me2 (zRX_do hX (zg_mk ?_ ?_ c2 s2 ?_ ?_ ?_ ?_ ?_) (zRH_congr hH1 (fun a h1 h2 => by rw [o2 a (by omega) (by omega)])) (fun a ha => by rw [o2 a (by omega) (by omega), hf1 a (by omega)]) (zRP_congr (fun a h1 h2 => by rw [o2 a (by omega) (by omega), hf1 a (by omega)]) hX.2.2.2.2.2)) (fun a ha => by rw [o2 a (by omega) (by omega), hf1 a (by omega)])
    · rw [o2 _ (by omega) (by omega)]; exact g1.1
    · rw [o2 _ (by omega) (by omega)]; exact g1.2.1
    · rw [o2 _ (by omega) (by omega)]; exact g1.2.2.2.2.1
    · rw [o2 _ (by omega) (by omega)]; exact g1.2.2.2.2.2.1
    · rw [o2 _ (by omega) (by omega)]; exact g1.2.2.2.2.2.2.1
    · rw [o2 _ (by omega) (by omega)]; exact g1.2.2.2.2.2.2.2.1
    · rw [o2 _ (by omega) (by omega)]; exact g1.2.2.2.2.2.2.2.2
  · rw [zif_pos h24] at hQ
    refine z_bipush (pc' := 29) dX8_release_27 rfl (by decide) ?_
    refine z_ireturn rfl rfl dX8_release_29 ?_
    exact hQ me hX zFr.rf
end ZACT3

