section ZACT3
theorem zRH_len {me : zMe} {h : Nat} {HL : List zSt} (hR : zRH me h HL) : me h 1 = (HL.length : Int) := hR.1
set_option maxRecDepth 100000 in
set_option maxHeartbeats 1000000 in
theorem x_hold {d : Nat} {sp : zSP} {me : zMe} {Q : zQ} {x : Nat} {A : zAb} {B i j : Int} (hd : 20 ≤ d) (hx : zObj sp x) (hX : zRX me x A) (hI : zIA B A) (hQ : ∀ me', zRX me' x (zoHold A i j).2 → zFr x me me' → Q (some (zI (zoHold A i j).1)) sp me') : zCall mX8_hold d 0 0 [zR x, zI i, zI j] sp me Q := by
  refine z_met kX8_hold (by simp) (by simp) ?_
  show zW mX8_hold d 0 0 Q 0 [zR x, zI i, zI j, zU] [] sp me
  have hw := zx_w hX
  have hf := zx_f hX
  have hh := zx_h hX
  have hp := zx_p hX
  have hs := zx_s hX
  have hc := zx_c hX
  have hIS := hI.1
  have hgA : zgR (qW A) (qF A) := hIS.1
  have hokA : zHok (qH A) := hIS.2.1
  have hpnA : qP A = zpn (qH A) := hIS.2.2.1
  have hvA : zfv (qS A) (qC A) := hIS.2.2.2.1
  have hlA : zlim (qS A) (qC A) := hIS.2.2.2.2.1
  unfold zoHold at hQ
  refine z_L1I (pc' := 1) dX8_hold_0 rfl ?_
  refine z_S1v (pc' := 4) kX8_isPlace lX8_106 dX8_hold_1 rfl (by omega) (Nat.le_of_ble_eq_true rfl) ?_
  refine c_isPlace (fun hi => zKv_i ?_) (fun hi => zKv_i ?_)
  rotate_left
  · refine z_if_eq (tgt := 14) (pc' := 7) dX8_hold_4 (by decide) rfl (fun h4 => ?_) (fun h4 => absurd rfl h4)
    refine z_iconst (pc' := 15) dX8_hold_14 rfl (by unfold zin; decide) ?_
    refine z_ireturn rfl rfl dX8_hold_15 ?_
    rw [zif_pos (fun z => hi ⟨z.1, z.2.1⟩)] at hQ
    exact hQ me hX zFr.rf
  refine z_if_eq (tgt := 14) (pc' := 7) dX8_hold_4 (by decide) rfl (fun h4 => absurd h4 (by omega)) (fun h4 => ?_)
  refine z_L2I (pc' := 8) dX8_hold_7 rfl ?_
  refine z_S1v (pc' := 11) kX8_isPlace lX8_106 dX8_hold_8 rfl (by omega) (Nat.le_of_ble_eq_true rfl) ?_
  refine c_isPlace (fun hj => zKv_i ?_) (fun hj => zKv_i ?_)
  rotate_left
  · refine z_if_ne (tgt := 16) (pc' := 14) dX8_hold_11 (by decide) rfl (fun h4 => absurd rfl h4) (fun h4 => ?_)
    refine z_iconst (pc' := 15) dX8_hold_14 rfl (by unfold zin; decide) ?_
    refine z_ireturn rfl rfl dX8_hold_15 ?_
    rw [zif_pos (fun z => hj z.2.2)] at hQ
    exact hQ me hX zFr.rf
  rw [zif_neg (fun z => z ⟨hi.1, hi.2, hj.1, hj.2⟩)] at hQ
  have hpi := zpl_ok hgA hi.1 hi.2
  have hpj := zpl_ok hgA hj.1 hj.2
  have hpb := zpn_bd (qH A)
  refine z_if_ne (tgt := 16) (pc' := 14) dX8_hold_11 (by decide) rfl (fun h11 => ?_) (fun h11 => absurd h11 (by omega))
  refine z_L1I (pc' := 17) dX8_hold_16 rfl ?_
  refine z_L2I (pc' := 18) dX8_hold_17 rfl ?_
  refine z_icmp_ne (tgt := 24) (pc' := 21) dX8_hold_18 (by decide) rfl (fun h18 => ?_) (fun h18 => ?_)
  · rw [zif_neg (fun z => h18 z)] at hQ
    refine z_L0R (pc' := 25) dX8_hold_24 rfl ?_
    refine z_getR (pc' := 28) (ki := 0) 0 fX8_10.l rfl rfl dX8_hold_25 rfl hx.s hx.p0 ?_
    refine z_getR (pc' := 31) (ki := 1) 1 fX8_109 rfl rfl dX8_hold_28 rfl (by first | exact hx.o1.s | exact hx.o12.s) (by first | exact hx.o1.p1 | exact hx.o12.p1) ?_
    refine z_S3R (pc' := 32) rfl dX8_hold_31 rfl ?_
    refine z_L3R (pc' := 33) dX8_hold_32 rfl ?_
    refine z_L1I (pc' := 34) dX8_hold_33 rfl ?_
    refine z_V1v (pc' := 37) (ci := 2) kX2_partner lX8_113 dX8_hold_34 rfl (by omega) (Nat.le_of_ble_eq_true rfl) (by decide) rfl hx.o1.o6.s ?_
    refine c_partner (by omega) hx.o1.o6 (zKv_i ?_)
    rw [hh]
    refine z_bipush (pc' := 39) dX8_hold_37 rfl (by decide) ?_
    refine z_icmp_ne (tgt := 80) (pc' := 42) dX8_hold_39 (by decide) rfl (fun h39 => ?_) (fun h39 => ?_)
    · rw [zif_pos (by first | exact Or.inl h39 | exact Or.inr (Or.inl h49))] at hQ
      refine z_bipush (pc' := 82) dX8_hold_80 rfl (by decide) ?_
      refine z_ireturn rfl rfl dX8_hold_82 ?_
      exact hQ me hX zFr.rf
    · refine z_L3R (pc' := 43) dX8_hold_42 rfl ?_
      refine z_L2I (pc' := 44) dX8_hold_43 rfl ?_
      refine z_V1v (pc' := 47) (ci := 2) kX2_partner lX8_113 dX8_hold_44 rfl (by omega) (Nat.le_of_ble_eq_true rfl) (by decide) rfl hx.o1.o6.s ?_
      refine c_partner (by omega) hx.o1.o6 (zKv_i ?_)
      rw [hh]
      refine z_bipush (pc' := 49) dX8_hold_47 rfl (by decide) ?_
      refine z_icmp_ne (tgt := 80) (pc' := 52) dX8_hold_49 (by decide) rfl (fun h49 => ?_) (fun h49 => ?_)
      · rw [zif_pos (by first | exact Or.inl h39 | exact Or.inr (Or.inl h49))] at hQ
        refine z_bipush (pc' := 82) dX8_hold_80 rfl (by decide) ?_
        refine z_ireturn rfl rfl dX8_hold_82 ?_
        exact hQ me hX zFr.rf
      · refine z_L0R (pc' := 53) dX8_hold_52 rfl ?_
        refine z_getR (pc' := 56) (ki := 0) 0 fX8_10.l rfl rfl dX8_hold_53 rfl hx.s hx.p0 ?_
        refine z_getR (pc' := 59) (ki := 0) 0 fX8_118 rfl rfl dX8_hold_56 rfl (by first | exact hx.o1.s | exact hx.o12.s) (by first | exact hx.o1.p0 | exact hx.o12.p0) ?_
        refine z_L1I (pc' := 60) dX8_hold_59 rfl ?_
        refine z_V1v (pc' := 63) (ci := 4) kX4_placeOf lX8_121 dX8_hold_60 rfl (by omega) (Nat.le_of_ble_eq_true rfl) (by decide) rfl (by first | exact hx.o1.o1.s | exact hx.o156.s | exact hx.o161.s) ?_
        refine c_placeOf hx.o1.o1 hpi.1 hpi.2.1 (by rw [hw]; exact hpi.2.2) (fun r h0 h1 => by rw [hw]; exact zpl_lt hgA hi.1 hi.2 h0 h1) (zKv_i ?_)
        refine z_L0R (pc' := 64) dX8_hold_63 rfl ?_
        refine z_getR (pc' := 67) (ki := 0) 0 fX8_10.l rfl rfl dX8_hold_64 rfl hx.s hx.p0 ?_
        refine z_getR (pc' := 70) (ki := 0) 0 fX8_118 rfl rfl dX8_hold_67 rfl (by first | exact hx.o1.s | exact hx.o12.s) (by first | exact hx.o1.p0 | exact hx.o12.p0) ?_
        refine z_L2I (pc' := 71) dX8_hold_70 rfl ?_
        refine z_V1v (pc' := 74) (ci := 4) kX4_placeOf lX8_121 dX8_hold_71 rfl (by omega) (Nat.le_of_ble_eq_true rfl) (by decide) rfl (by first | exact hx.o1.o1.s | exact hx.o156.s | exact hx.o161.s) ?_
        refine c_placeOf hx.o1.o1 hpj.1 hpj.2.1 (by rw [hw]; exact hpj.2.2) (fun r h0 h1 => by rw [hw]; exact zpl_lt hgA hj.1 hj.2 h0 h1) (zKv_i ?_)
        refine z_S2v (pc' := 77) kX8_areNeighbors lX8_124 dX8_hold_74 rfl (by omega) (Nat.le_of_ble_eq_true rfl) ?_
        refine c_areNb (by omega) hpi.1 hpi.2.1 hpj.1 hpj.2.1 (fun hn => zKv_i ?_) (fun hn => zKv_i ?_)
        rotate_left
        · refine z_if_ne (tgt := 83) (pc' := 80) dX8_hold_77 (by decide) rfl (fun h4 => absurd rfl h4) (fun h4 => ?_)
          refine z_bipush (pc' := 82) dX8_hold_80 rfl (by decide) ?_
          refine z_ireturn rfl rfl dX8_hold_82 ?_
          rw [zif_pos (Or.inr (Or.inr hn))] at hQ
          exact hQ me hX zFr.rf
        rw [zif_neg (fun z => z.elim (fun z => z (by omega)) (fun z => z.elim (fun z => z (by omega)) (fun z => z hn)))] at hQ
        refine z_if_ne (tgt := 83) (pc' := 80) dX8_hold_77 (by decide) rfl (fun h77 => ?_) (fun h77 => absurd h77 (by omega))
        refine z_L0R (pc' := 84) dX8_hold_83 rfl ?_
        refine z_getR (pc' := 87) (ki := 3) 3 fX8_26.l rfl rfl dX8_hold_84 rfl hx.s hx.p3 ?_
        refine z_L0R (pc' := 88) dX8_hold_87 rfl ?_
        refine z_getR (pc' := 91) (ki := 0) 0 fX8_10.l rfl rfl dX8_hold_88 rfl hx.s hx.p0 ?_
        refine z_V10 (pc' := 94) (ci := 1) kX1_keep lX8_86 dX8_hold_91 rfl (by omega) (Nat.le_of_ble_eq_true rfl) (by decide) rfl hx.o23.s ?_
        refine c_keep (by omega) hx.o23 hx.o1 (by omega) hX.2.1 (fun me1 hH1 hf1 => zK0_i ?_)
        rw [hX.1] at hH1
        have g1 := zg_all (me := me1) (s := x + 1) (A := A) (by rw [zget_congr (fun a h1 h2 => hf1 a (by omega))]; exact hX.1)
        refine z_L3R (pc' := 95) dX8_hold_94 rfl ?_
        refine z_L1I (pc' := 96) dX8_hold_95 rfl ?_
        refine z_L2I (pc' := 97) dX8_hold_96 rfl ?_
        refine z_V20 (pc' := 100) (ci := 2) kX2_join lX8_128 dX8_hold_97 rfl (by omega) (Nat.le_of_ble_eq_true rfl) (by decide) rfl hx.o1.o6.s ?_
        refine c_join (by omega) hx.o1.o6 hi.1 hi.2 hj.1 hj.2 (by rw [g1.2.2.2.1]; omega) (by rw [g1.2.2.2.1]; omega) (zK0_i ?_)
        rw [g1.2.2.1, g1.2.2.2.1]
        generalize hme2 : zset (zset me1 (x + 1 + 6 + 1) (zup (zup (qH A) i j) j i)) (x + 1 + 6) (zup (me1 (x + 1 + 6)) 1 (qP A + 1)) = me2
        have o2 : ∀ a, a ≠ x + 1 + 6 → a ≠ x + 1 + 6 + 1 → me2 a = me1 a := fun a ha hb => by rw [← hme2, zset_ne _ _ _ ha, zset_ne _ _ _ hb]
        have s2 : me2 (x + 1 + 6) 1 = qP A + 1 := by rw [← hme2, zset_eq]; exact zup_eq _ _ _
        have c2 : me2 (x + 1 + 6 + 1) = zup (zup (qH A) i j) j i := by rw [← hme2, zset_ne _ _ _ (by omega)]; exact zset_eq _ _ _
        refine z_L3R (pc' := 101) dX8_hold_100 rfl ?_
        refine z_V0v (pc' := 104) (ci := 2) kX2_pairs lX8_131 dX8_hold_101 rfl (by omega) (Nat.le_of_ble_eq_true rfl) (by decide) rfl hx.o1.o6.s ?_
        refine c_pairs hx.o1.o6 (zKv_i ?_)
        rw [s2]
        refine z_ireturn rfl rfl dX8_hold_104 ?_
        refine hQ me2 (zRX_do hX (zg_mk ?_ ?_ c2 s2 ?_ ?_ ?_ ?_ ?_) (zRH_congr hH1 (fun a h1 h2 => by rw [o2 a (by omega) (by omega)])) (fun a ha => by rw [o2 a (by omega) (by omega), hf1 a (by omega)]) (zRP_congr (fun a h1 h2 => by rw [o2 a (by omega) (by omega), hf1 a (by omega)]) hX.2.2.2.2.2)) (fun a ha => by rw [o2 a (by omega) (by omega), hf1 a (by omega)])
        · rw [o2 _ (by omega) (by omega)]; exact g1.1
        · rw [o2 _ (by omega) (by omega)]; exact g1.2.1
        · rw [o2 _ (by omega) (by omega)]; exact g1.2.2.2.2.1
        · rw [o2 _ (by omega) (by omega)]; exact g1.2.2.2.2.2.1
        · rw [o2 _ (by omega) (by omega)]; exact g1.2.2.2.2.2.2.1
        · rw [o2 _ (by omega) (by omega)]; exact g1.2.2.2.2.2.2.2.1
        · rw [o2 _ (by omega) (by omega)]; exact g1.2.2.2.2.2.2.2.2
  · rw [zif_pos h18] at hQ
    refine z_bipush (pc' := 23) dX8_hold_21 rfl (by decide) ?_
    refine z_ireturn rfl rfl dX8_hold_23 ?_
    exact hQ me hX zFr.rf
set_option maxRecDepth 100000 in
set_option maxHeartbeats 1000000 in
theorem x_release {d : Nat} {sp : zSP} {me : zMe} {Q : zQ} {x : Nat} {A : zAb} {B i : Int} (hd : 20 ≤ d) (hx : zObj sp x) (hX : zRX me x A) (hI : zIA B A) (hQ : ∀ me', zRX me' x (zoRelease A i).2 → zFr x me me' → Q (some (zI (zoRelease A i).1)) sp me') : zCall mX8_release d 0 0 [zR x, zI i] sp me Q := by
  refine z_met kX8_release (by simp) (by simp) ?_
  show zW mX8_release d 0 0 Q 0 [zR x, zI i, zU] [] sp me
  have hw := zx_w hX
  have hf := zx_f hX
  have hh := zx_h hX
  have hp := zx_p hX
  have hs := zx_s hX
  have hc := zx_c hX
  have hIS := hI.1
  have hgA : zgR (qW A) (qF A) := hIS.1
  have hokA : zHok (qH A) := hIS.2.1
  have hpnA : qP A = zpn (qH A) := hIS.2.2.1
  have hvA : zfv (qS A) (qC A) := hIS.2.2.2.1
  have hlA : zlim (qS A) (qC A) := hIS.2.2.2.2.1
  unfold zoRelease at hQ
  refine z_L1I (pc' := 1) dX8_release_0 rfl ?_
  refine z_S1v (pc' := 4) kX8_isPlace lX8_106 dX8_release_1 rfl (by omega) (Nat.le_of_ble_eq_true rfl) ?_
  refine c_isPlace (fun hi => zKv_i ?_) (fun hi => zKv_i ?_)
  rotate_left
  · refine z_if_ne (tgt := 9) (pc' := 7) dX8_release_4 (by decide) rfl (fun h4 => absurd rfl h4) (fun h4 => ?_)
    refine z_iconst (pc' := 8) dX8_release_7 rfl (by unfold zin; decide) ?_
    refine z_ireturn rfl rfl dX8_release_8 ?_
    rw [zif_pos hi] at hQ
    exact hQ me hX zFr.rf
  rw [zif_neg (fun z => z hi)] at hQ
  have hpb := zpn_bd (qH A)
  have hki := hokA.1 i hi.1 hi.2
  refine z_if_ne (tgt := 9) (pc' := 7) dX8_release_4 (by decide) rfl (fun h4 => ?_) (fun h4 => absurd h4 (by omega))
  refine z_L0R (pc' := 10) dX8_release_9 rfl ?_
  refine z_getR (pc' := 13) (ki := 0) 0 fX8_10.l rfl rfl dX8_release_10 rfl hx.s hx.p0 ?_
  refine z_getR (pc' := 16) (ki := 1) 1 fX8_109 rfl rfl dX8_release_13 rfl (by first | exact hx.o1.s | exact hx.o12.s) (by first | exact hx.o1.p1 | exact hx.o12.p1) ?_
  refine z_L1I (pc' := 17) dX8_release_16 rfl ?_
  refine z_V1v (pc' := 20) (ci := 2) kX2_partner lX8_113 dX8_release_17 rfl (by omega) (Nat.le_of_ble_eq_true rfl) (by decide) rfl hx.o1.o6.s ?_
  refine c_partner (by omega) hx.o1.o6 (zKv_i ?_)
  rw [hh]
  refine z_S2I (pc' := 21) rfl dX8_release_20 rfl ?_
  refine z_L2I (pc' := 22) dX8_release_21 rfl ?_
  refine z_bipush (pc' := 24) dX8_release_22 rfl (by decide) ?_
  refine z_icmp_ne (tgt := 30) (pc' := 27) dX8_release_24 (by decide) rfl (fun h24 => ?_) (fun h24 => ?_)
  · rw [zif_neg (fun z => h24 z)] at hQ
    refine z_L0R (pc' := 31) dX8_release_30 rfl ?_
    refine z_getR (pc' := 34) (ki := 3) 3 fX8_26.l rfl rfl dX8_release_31 rfl hx.s hx.p3 ?_
    refine z_L0R (pc' := 35) dX8_release_34 rfl ?_
    refine z_getR (pc' := 38) (ki := 0) 0 fX8_10.l rfl rfl dX8_release_35 rfl hx.s hx.p0 ?_
    refine z_V10 (pc' := 41) (ci := 1) kX1_keep lX8_86 dX8_release_38 rfl (by omega) (Nat.le_of_ble_eq_true rfl) (by decide) rfl hx.o23.s ?_
    refine c_keep (by omega) hx.o23 hx.o1 (by omega) hX.2.1 (fun me1 hH1 hf1 => zK0_i ?_)
    rw [hX.1] at hH1
    have g1 := zg_all (me := me1) (s := x + 1) (A := A) (by rw [zget_congr (fun a h1 h2 => hf1 a (by omega))]; exact hX.1)
    refine z_L0R (pc' := 42) dX8_release_41 rfl ?_
    refine z_getR (pc' := 45) (ki := 0) 0 fX8_10.l rfl rfl dX8_release_42 rfl hx.s hx.p0 ?_
    refine z_getR (pc' := 48) (ki := 1) 1 fX8_109 rfl rfl dX8_release_45 rfl (by first | exact hx.o1.s | exact hx.o12.s) (by first | exact hx.o1.p1 | exact hx.o12.p1) ?_
    refine z_L1I (pc' := 49) dX8_release_48 rfl ?_
    refine z_L2I (pc' := 50) dX8_release_49 rfl ?_
    refine z_V20 (pc' := 53) (ci := 2) kX2_part lX8_135 dX8_release_50 rfl (by omega) (Nat.le_of_ble_eq_true rfl) (by decide) rfl hx.o1.o6.s ?_
    refine c_part (by omega) hx.o1.o6 hi.1 hi.2 (by omega) (by omega) (by rw [g1.2.2.2.1]; omega) (by rw [g1.2.2.2.1]; omega) (zK0_i ?_)
    rw [g1.2.2.1, g1.2.2.2.1]
    generalize hme2 : zset (zset me1 (x + 1 + 6 + 1) (zup (zup (qH A) i (-5)) (qH A i) (-5))) (x + 1 + 6) (zup (me1 (x + 1 + 6)) 1 (qP A - 1)) = me2
    have o2 : ∀ a, a ≠ x + 1 + 6 → a ≠ x + 1 + 6 + 1 → me2 a = me1 a := fun a ha hb => by rw [← hme2, zset_ne _ _ _ ha, zset_ne _ _ _ hb]
    have s2 : me2 (x + 1 + 6) 1 = qP A - 1 := by rw [← hme2, zset_eq]; exact zup_eq _ _ _
    have c2 : me2 (x + 1 + 6 + 1) = zup (zup (qH A) i (-5)) (qH A i) (-5) := by rw [← hme2, zset_ne _ _ _ (by omega)]; exact zset_eq _ _ _
    refine z_L2I (pc' := 54) dX8_release_53 rfl ?_
    refine z_ireturn rfl rfl dX8_release_54 ?_
    refine hQ me2 (zRX_do hX (zg_mk ?_ ?_ c2 s2 ?_ ?_ ?_ ?_ ?_) (zRH_congr hH1 (fun a h1 h2 => by rw [o2 a (by omega) (by omega)])) (fun a ha => by rw [o2 a (by omega) (by omega), hf1 a (by omega)]) (zRP_congr (fun a h1 h2 => by rw [o2 a (by omega) (by omega), hf1 a (by omega)]) hX.2.2.2.2.2)) (fun a ha => by rw [o2 a (by omega) (by omega), hf1 a (by omega)])
    · rw [o2 _ (by omega) (by omega)]; exact g1.1
    · rw [o2 _ (by omega) (by omega)]; exact g1.2.1
    · rw [o2 _ (by omega) (by omega)]; exact g1.2.2.2.2.1
    · rw [o2 _ (by omega) (by omega)]; exact g1.2.2.2.2.2.1
    · rw [o2 _ (by omega) (by omega)]; exact g1.2.2.2.2.2.2.1
    · rw [o2 _ (by omega) (by omega)]; exact g1.2.2.2.2.2.2.2.1
    · rw [o2 _ (by omega) (by omega)]; exact g1.2.2.2.2.2.2.2.2
  · rw [zif_pos h24] at hQ
    refine z_bipush (pc' := 29) dX8_release_27 rfl (by decide) ?_
    refine z_ireturn rfl rfl dX8_release_29 ?_
    exact hQ me hX zFr.rf
set_option maxRecDepth 100000 in
set_option maxHeartbeats 1000000 in
theorem x_append {d : Nat} {sp : zSP} {me : zMe} {Q : zQ} {x : Nat} {A : zAb} {B c : Int} (hd : 20 ≤ d) (hx : zObj sp x) (hX : zRX me x A) (hI : zIA B A) (hQ : ∀ me', zRX me' x (zoAppend A c).2 → zFr x me me' → Q (some (zI (zoAppend A c).1)) sp me') : zCall mX8_append d 0 0 [zR x, zI c] sp me Q := by
  refine z_met kX8_append (by simp) (by simp) ?_
  show zW mX8_append d 0 0 Q 0 [zR x, zI c] [] sp me
  have hw := zx_w hX
  have hf := zx_f hX
  have hh := zx_h hX
  have hp := zx_p hX
  have hs := zx_s hX
  have hc := zx_c hX
  have hIS := hI.1
  have hgA : zgR (qW A) (qF A) := hIS.1
  have hokA : zHok (qH A) := hIS.2.1
  have hpnA : qP A = zpn (qH A) := hIS.2.2.1
  have hvA : zfv (qS A) (qC A) := hIS.2.2.2.1
  have hlA : zlim (qS A) (qC A) := hIS.2.2.2.2.1
  unfold zoAppend at hQ
  refine z_L1I (pc' := 1) dX8_append_0 rfl ?_
  refine z_bipush (pc' := 3) dX8_append_1 rfl (by decide) ?_
  refine z_icmp_lt (tgt := 12) (pc' := 6) dX8_append_3 (by decide) rfl (fun h3 => ?_) (fun h3 => ?_)
  · rw [zif_pos (by omega)] at hQ
    refine z_bipush (pc' := 14) dX8_append_12 rfl (by decide) ?_
    refine z_ireturn rfl rfl dX8_append_14 ?_
    exact hQ me hX zFr.rf
  · refine z_L1I (pc' := 7) dX8_append_6 rfl ?_
    refine z_bipush (pc' := 9) dX8_append_7 rfl (by decide) ?_
    refine z_icmp_le (tgt := 15) (pc' := 12) dX8_append_9 (by decide) rfl (fun h9 => ?_) (fun h9 => ?_)
    · rw [zif_neg (by omega)] at hQ
      refine z_L0R (pc' := 16) dX8_append_15 rfl ?_
      refine z_getR (pc' := 19) (ki := 4) 4 fX8_33.l rfl rfl dX8_append_16 rfl hx.s hx.p4 ?_
      refine z_V0v (pc' := 22) (ci := 5) kX5_length lX8_160 dX8_append_19 rfl (by omega) (Nat.le_of_ble_eq_true rfl) (by decide) rfl hx.o80.s ?_
      refine c_scrLen hx.o80 (zKv_i ?_)
      rw [hX.2.2.2.1]
      refine z_bipush (pc' := 24) dX8_append_22 rfl (by decide) ?_
      refine z_icmp_lt (tgt := 30) (pc' := 27) dX8_append_24 (by decide) rfl (fun h24 => ?_) (fun h24 => ?_)
      · rw [zif_neg (by omega)] at hQ
        refine z_L0R (pc' := 31) dX8_append_30 rfl ?_
        refine z_getR (pc' := 34) (ki := 4) 4 fX8_33.l rfl rfl dX8_append_31 rfl hx.s hx.p4 ?_
        refine z_L1I (pc' := 35) dX8_append_34 rfl ?_
        refine z_V10 (pc' := 38) (ci := 5) kX5_put lX8_163 dX8_append_35 rfl (by omega) (Nat.le_of_ble_eq_true rfl) (by decide) rfl hx.o80.s ?_
        have hN := hI.2.2.2.1
        refine c_scrPut (by omega) hx.o80 (by rw [hX.2.2.2.1]; omega) (by rw [hX.2.2.2.1]; omega) (zK0_i ?_)
        rw [hX.2.2.2.1, hX.2.2.2.2.1]
        generalize hme2 : zset (zset me (x + 80 + 1) (zup (qG A) (qN A) c)) (x + 80) (zup (me (x + 80)) 1 (qN A + 1)) = me2
        have o2 : ∀ a, a ≠ x + 80 → a ≠ x + 80 + 1 → me2 a = me a := fun a ha hb => by rw [← hme2, zset_ne _ _ _ ha, zset_ne _ _ _ hb]
        have s2 : me2 (x + 80) 1 = qN A + 1 := by rw [← hme2, zset_eq]; exact zup_eq _ _ _
        have c2 : me2 (x + 80 + 1) = zup (qG A) (qN A) c := by rw [← hme2, zset_ne _ _ _ (by omega)]; exact zset_eq _ _ _
        refine z_L0R (pc' := 39) dX8_append_38 rfl ?_
        refine z_getR (pc' := 42) (ki := 4) 4 fX8_33.l rfl rfl dX8_append_39 rfl hx.s hx.p4 ?_
        refine z_V0v (pc' := 45) (ci := 5) kX5_length lX8_160 dX8_append_42 rfl (by omega) (Nat.le_of_ble_eq_true rfl) (by decide) rfl hx.o80.s ?_
        refine c_scrLen hx.o80 (zKv_i ?_)
        rw [s2]
        refine z_ireturn rfl rfl dX8_append_45 ?_
        obtain ⟨h1, h2, h3, h4, h5, h6⟩ := hX
        refine hQ me2 ⟨?_, zRH_congr h2 (fun a g1 g2 => o2 a (by omega) (by omega)), ?_, s2, c2, zRP_congr (fun a g1 g2 => o2 a (by omega) (by omega)) h6⟩ (fun a ha => o2 a (by omega) (by omega))
        · rw [zget_congr (fun a g1 g2 => o2 a (by omega) (by omega))]; exact h1
        · rw [o2 x (by omega) (by omega), zget_congr (me := me) (me' := me2) (s := x + 12) (fun a g1 g2 => o2 a (by omega) (by omega))]; exact h3
      · rw [zif_pos (by omega)] at hQ
        refine z_bipush (pc' := 29) dX8_append_27 rfl (by decide) ?_
        refine z_ireturn rfl rfl dX8_append_29 ?_
        exact hQ me hX zFr.rf
    · rw [zif_pos (by omega)] at hQ
      refine z_bipush (pc' := 14) dX8_append_12 rfl (by decide) ?_
      refine z_ireturn rfl rfl dX8_append_14 ?_
      exact hQ me hX zFr.rf
set_option maxRecDepth 100000 in
set_option maxHeartbeats 1000000 in
theorem x_clear {d : Nat} {sp : zSP} {me : zMe} {Q : zQ} {x : Nat} {A : zAb} {B : Int} (hd : 20 ≤ d) (hx : zObj sp x) (hX : zRX me x A) (hI : zIA B A) (hQ : ∀ me', zRX me' x (zoClear A).2 → zFr x me me' → Q (some (zI (zoClear A).1)) sp me') : zCall mX8_clearText d 0 0 [zR x] sp me Q := by
  refine z_met kX8_clearText (by simp) (by simp) ?_
  show zW mX8_clearText d 0 0 Q 0 [zR x, zU] [] sp me
  have hw := zx_w hX
  have hf := zx_f hX
  have hh := zx_h hX
  have hp := zx_p hX
  have hs := zx_s hX
  have hc := zx_c hX
  have hIS := hI.1
  have hgA : zgR (qW A) (qF A) := hIS.1
  have hokA : zHok (qH A) := hIS.2.1
  have hpnA : qP A = zpn (qH A) := hIS.2.2.1
  have hvA : zfv (qS A) (qC A) := hIS.2.2.2.1
  have hlA : zlim (qS A) (qC A) := hIS.2.2.2.2.1
  unfold zoClear at hQ
  refine z_L0R (pc' := 1) dX8_clearText_0 rfl ?_
  refine z_getR (pc' := 4) (ki := 4) 4 fX8_33.l rfl rfl dX8_clearText_1 rfl hx.s hx.p4 ?_
  refine z_V0v (pc' := 7) (ci := 5) kX5_length lX8_160 dX8_clearText_4 rfl (by omega) (Nat.le_of_ble_eq_true rfl) (by decide) rfl hx.o80.s ?_
  refine c_scrLen hx.o80 (zKv_i ?_)
  rw [hX.2.2.2.1]
  refine z_S1I (pc' := 8) rfl dX8_clearText_7 rfl ?_
  refine z_L0R (pc' := 9) dX8_clearText_8 rfl ?_
  refine z_getR (pc' := 12) (ki := 4) 4 fX8_33.l rfl rfl dX8_clearText_9 rfl hx.s hx.p4 ?_
  refine z_V00 (pc' := 15) (ci := 5) kX5_empty lX8_165 dX8_clearText_12 rfl (by omega) (Nat.le_of_ble_eq_true rfl) (by decide) rfl hx.o80.s ?_
  refine c_scrEmpty hx.o80 (zK0_i ?_)
  generalize hme2 : zset me (x + 80) (zup (me (x + 80)) 1 0) = me2
  have o2 : ∀ a, a ≠ x + 80 → me2 a = me a := fun a ha => by rw [← hme2, zset_ne _ _ _ ha]
  have s2 : me2 (x + 80) 1 = 0 := by rw [← hme2, zset_eq]; exact zup_eq _ _ _
  refine z_L1I (pc' := 16) dX8_clearText_15 rfl ?_
  refine z_ireturn rfl rfl dX8_clearText_16 ?_
  obtain ⟨h1, h2, h3, h4, h5, h6⟩ := hX
  refine hQ me2 ⟨?_, zRH_congr h2 (fun a g1 g2 => o2 a (by omega)), ?_, s2, ?_, zRP_congr (fun a g1 g2 => o2 a (by omega)) h6⟩ (fun a ha => o2 a (by omega))
  · rw [zget_congr (fun a g1 g2 => o2 a (by omega))]; exact h1
  · rw [o2 x (by omega), zget_congr (me := me) (me' := me2) (s := x + 12) (fun a g1 g2 => o2 a (by omega))]; exact h3
  · rw [o2 _ (by omega)]; exact h5
set_option maxRecDepth 100000 in
set_option maxHeartbeats 1000000 in
theorem x_fault {d : Nat} {sp : zSP} {me : zMe} {Q : zQ} {x : Nat} {A : zAb} {B : Int} (hd : 20 ≤ d) (hx : zObj sp x) (hX : zRX me x A) (hI : zIA B A) (hQ : ∀ me', zRX me' x (zoFault A).2 → zFr x me me' → Q (some (zI (zoFault A).1)) sp me') : zCall mX8_fault d 0 0 [zR x] sp me Q := by
  refine z_met kX8_fault (by simp) (by simp) ?_
  show zW mX8_fault d 0 0 Q 0 [zR x] [] sp me
  have hN := hI.2.2.2.1
  unfold zoFault at hQ
  refine z_L0R (pc' := 1) dX8_fault_0 rfl ?_
  refine z_getR (pc' := 4) (ki := 4) 4 fX8_33.l rfl rfl dX8_fault_1 rfl hx.s hx.p4 ?_
  refine z_V0v (pc' := 7) (ci := 5) kX5_firstFault lX8_168 dX8_fault_4 rfl (by omega) (Nat.le_of_ble_eq_true rfl) (by decide) rfl hx.o80.s ?_
  refine c_firstFault (by omega) hx.o80 (by rw [hX.2.2.2.1]; omega) (by rw [hX.2.2.2.1]; omega) (zKv_i ?_)
  rw [hX.2.2.2.1, hX.2.2.2.2.1]
  refine z_ireturn rfl rfl dX8_fault_7 ?_
  exact hQ me hX zFr.rf
set_option maxRecDepth 100000 in
set_option maxHeartbeats 1000000 in
theorem x_undo {d : Nat} {sp : zSP} {me : zMe} {Q : zQ} {x : Nat} {A : zAb} {B : Int} (hd : 20 ≤ d) (hx : zObj sp x) (hX : zRX me x A) (hI : zIA B A) (hQ : ∀ me', zRX me' x (zoUndo A).2 → zFr x me me' → Q (some (zI (zoUndo A).1)) sp me') : zCall mX8_undo d 0 0 [zR x] sp me Q := by
  refine z_met kX8_undo (by simp) (by simp) ?_
  show zW mX8_undo d 0 0 Q 0 [zR x] [] sp me
  refine z_L0R (pc' := 1) dX8_undo_0 rfl ?_
  refine z_getR (pc' := 4) (ki := 3) 3 fX8_26.l rfl rfl dX8_undo_1 rfl hx.s hx.p3 ?_
  refine z_L0R (pc' := 5) dX8_undo_4 rfl ?_
  refine z_getR (pc' := 8) (ki := 0) 0 fX8_10.l rfl rfl dX8_undo_5 rfl hx.s hx.p0 ?_
  refine z_V1v (pc' := 11) (ci := 1) kX1_takeLatest lX8_174 dX8_undo_8 rfl (by omega) (Nat.le_of_ble_eq_true rfl) (by decide) rfl hx.o23.s ?_
  refine c_takeLatest (by omega) hx.o23 hx.o1 (by omega) hX.2.1 (fun hE => zKv_i ?_) (fun S T hE me1 hH1 hS1 hf1 => zKv_i ?_)
  · have hz : zoUndo A = (-5, A) := by unfold zoUndo; rw [hE]
    rw [hz] at hQ
    refine z_if_ne (tgt := 17) (pc' := 14) dX8_undo_11 (by decide) rfl (fun h4 => absurd rfl h4) (fun h4 => ?_)
    refine z_bipush (pc' := 16) dX8_undo_14 rfl (by decide) ?_
    refine z_ireturn rfl rfl dX8_undo_16 ?_
    exact hQ me hX zFr.rf
  have hz : zoUndo A = ((T.length : Int), (S, T, A.2.2)) := by unfold zoUndo; rw [hE]
  rw [hz] at hQ
  have hIS := hI.2.1 S (by rw [hE]; exact List.mem_cons_self)
  have g1 := zg_all (me := me1) (s := x + 1) (A := (S, T, A.2.2)) hS1
  refine z_if_ne (tgt := 17) (pc' := 14) dX8_undo_11 (by decide) rfl (fun h11 => ?_) (fun h11 => absurd h11 (by omega))
  refine z_L0R (pc' := 18) dX8_undo_17 rfl ?_
  refine z_getR (pc' := 21) (ki := 5) 5 fX8_40.l rfl rfl dX8_undo_18 rfl hx.s hx.p5 ?_
  refine z_L0R (pc' := 22) dX8_undo_21 rfl ?_
  refine z_getR (pc' := 25) (ki := 0) 0 fX8_10.l rfl rfl dX8_undo_22 rfl hx.s hx.p0 ?_
  refine z_getR (pc' := 28) (ki := 2) 2 fX8_69 rfl rfl dX8_undo_25 rfl (by first | exact hx.o1.s | exact hx.o12.s) (by first | exact hx.o1.p2 | exact hx.o12.p2) ?_
  refine z_V10 (pc' := 31) (ci := 3) kX3_workOut lX8_98 dX8_undo_28 rfl (by omega) (Nat.le_of_ble_eq_true rfl) (by decide) rfl hx.o82.s ?_
  refine c_workOut (by omega) hx.o82 hx.o1.o8 (by omega) (by rw [g1.2.2.2.2.1, g1.2.2.2.2.2.1]; exact hIS.2.2.2.1) (by rw [g1.2.2.2.2.1, g1.2.2.2.2.2.1]; exact hIS.2.2.2.2.1) (fun me2 hP2 hf2 => zK0_i ?_)
  rw [g1.2.2.2.2.1, g1.2.2.2.2.2.1] at hP2
  refine z_L0R (pc' := 32) dX8_undo_31 rfl ?_
  refine z_getR (pc' := 35) (ki := 3) 3 fX8_26.l rfl rfl dX8_undo_32 rfl hx.s hx.p3 ?_
  refine z_V0v (pc' := 38) (ci := 1) kX1_size lX8_178 dX8_undo_35 rfl (by omega) (Nat.le_of_ble_eq_true rfl) (by decide) rfl hx.o23.s ?_
  refine c_histSize hx.o23 (zKv_i ?_)
  rw [hf2 _ (by omega), zRH_len hH1]
  refine z_ireturn rfl rfl dX8_undo_38 ?_
  obtain ⟨h1, h2, h3, h4, h5, h6⟩ := hX
  refine hQ me2 ⟨?_, zRH_congr hH1 (fun a g1 g2 => hf2 a (by omega)), ?_, ?_, ?_, hP2⟩ (fun a ha => by rw [hf2 a (by omega), hf1 a (by omega) (by omega)])
  · rw [zget_congr (fun a g1 g2 => hf2 a (by omega))]; exact hS1
  · rw [hf2 x (by omega), hf1 x (by omega) (by omega), zget_congr (me := me1) (me' := me2) (s := x + 12) (fun a g1 g2 => hf2 a (by omega)), zget_congr (me := me) (me' := me1) (s := x + 12) (fun a g1 g2 => hf1 a (by omega) (by omega))]; exact h3
  · rw [hf2 _ (by omega), hf1 _ (by omega) (by omega)]; exact h4
  · rw [hf2 _ (by omega), hf1 _ (by omega) (by omega)]; exact h5
set_option maxRecDepth 100000 in
set_option maxHeartbeats 1000000 in
theorem x_save {d : Nat} {sp : zSP} {me : zMe} {Q : zQ} {x : Nat} {A : zAb} {B : Int} (hd : 20 ≤ d) (hx : zObj sp x) (hX : zRX me x A) (hI : zIA B A) (hQ : ∀ me', zRX me' x (zoSave A).2 → zFr x me me' → Q (some (zI (zoSave A).1)) sp me') : zCall mX8_save d 0 0 [zR x] sp me Q := by
  refine z_met kX8_save (by simp) (by simp) ?_
  show zW mX8_save d 0 0 Q 0 [zR x] [] sp me
  unfold zoSave at hQ
  refine z_L0R (pc' := 1) dX8_save_0 rfl ?_
  refine z_getR (pc' := 4) (ki := 1) 1 fX8_16.l rfl rfl dX8_save_1 rfl hx.s hx.p1 ?_
  refine z_L0R (pc' := 5) dX8_save_4 rfl ?_
  refine z_getR (pc' := 8) (ki := 0) 0 fX8_10.l rfl rfl dX8_save_5 rfl hx.s hx.p0 ?_
  refine z_V10 (pc' := 11) (ci := 7) kX7_copyFrom lX8_180 dX8_save_8 rfl (by omega) (Nat.le_of_ble_eq_true rfl) (by decide) rfl (by first | exact hx.o1.s | exact hx.o12.s) ?_
  refine c_staCopy (by omega) hx.o12 hx.o1 (by omega) (fun me1 hS1 hf1 => zK0_i ?_)
  rw [hX.1] at hS1
  have g1 := zg_all (me := me1) (s := x + 1) (A := A) (by rw [zget_congr (fun a h1 h2 => hf1 a (by omega))]; exact hX.1)
  refine z_L0R (pc' := 12) dX8_save_11 rfl ?_
  refine z_iconst (pc' := 13) dX8_save_12 rfl (by unfold zin; decide) ?_
  refine z_putI (pc' := 16) (ki := 2) 2 fX8_19.l rfl (Or.inr ⟨rfl, (by omega)⟩) rfl dX8_save_13 rfl hx.s ?_
  generalize hme2 : zset me1 x (zup (me1 x) 2 1) = me2
  have o2 : ∀ a, a ≠ x → me2 a = me1 a := fun a ha => by rw [← hme2, zset_ne _ _ _ ha]
  have s2 : me2 x 2 = 1 := by rw [← hme2, zset_eq]; exact zup_eq _ _ _
  refine z_L0R (pc' := 17) dX8_save_16 rfl ?_
  refine z_getR (pc' := 20) (ki := 0) 0 fX8_10.l rfl rfl dX8_save_17 rfl hx.s hx.p0 ?_
  refine z_getR (pc' := 23) (ki := 0) 0 fX8_118 rfl rfl dX8_save_20 rfl (by first | exact hx.o1.s | exact hx.o12.s) (by first | exact hx.o1.p0 | exact hx.o12.p0) ?_
  refine z_V0v (pc' := 26) (ci := 4) kX4_homeCount lX8_146 dX8_save_23 rfl (by omega) (Nat.le_of_ble_eq_true rfl) (by decide) rfl (by first | exact hx.o1.o1.s | exact hx.o156.s | exact hx.o161.s) ?_
  refine c_homeCount hx.o1.o1 (zKv_i ?_)
  rw [o2 _ (by omega), o2 _ (by omega), g1.1, g1.2.1]
  refine z_ireturn rfl rfl dX8_save_26 ?_
  obtain ⟨h1, h2, h3, h4, h5, h6⟩ := hX
  have oo : ∀ a, a ≠ x → (a < x + 12 ∨ x + 22 < a) → me2 a = me a := fun a ha hb => by rw [o2 a ha, hf1 a (by omega)]
  refine hQ me2 ⟨?_, zRH_congr h2 (fun a g1 g2 => oo a (by omega) (by omega)), Or.inr ⟨s2, ?_⟩, ?_, ?_, zRP_congr (fun a g1 g2 => oo a (by omega) (by omega)) h6⟩ (fun a ha => oo a (by omega) (by omega))
  · rw [zget_congr (fun a g1 g2 => oo a (by omega) (by omega))]; exact h1
  · rw [zget_congr (me := me1) (me' := me2) (s := x + 12) (fun a g1 g2 => o2 a (by omega)), hS1]
  · rw [oo _ (by omega) (by omega)]; exact h4
  · rw [oo _ (by omega) (by omega)]; exact h5
end ZACT3

