section ZMOE
theorem m_danceNow2 {d : Nat} {sp : zSP} {me : zMe} {Q : zQ} {y : Nat} {k T b B : Int} {w f h sz cd : Int → Int} {pr t0 t1 t2 : Int} (hd : 9 ≤ d) (hy : zMod sp y) (hI : zIS B (w, f, h, pr, sz, cd, t0, t1, t2)) (hB : B ≤ 1000000000) (hR : zMR (me (y + 1)) (w, f, h, pr, sz, cd, t0, t1, t2)) (hk0 : 0 ≤ k) (hk1 : k < 8) (hT0 : 1 ≤ T) (hT1 : T ≤ 9) (hQ : ∀ v me', ((ztry h (zrep T.toNat (zord (zsteps sz cd k) b)) (w, f) 0 = -5 ∧ v = ((zrep T.toNat (zord (zsteps sz cd k) b)).length : Int) ∧ zMR (me' (y + 1)) (qst (zfo (w, f) (zrep T.toNat (zord (zsteps sz cd k) b))).1 (zfo (w, f) (zrep T.toNat (zord (zsteps sz cd k) b))).2 h pr sz cd (t0 + 1) (t1 + ((zrep T.toNat (zord (zsteps sz cd k) b)).length : Int)) t2)) ∨ (ztry h (zrep T.toNat (zord (zsteps sz cd k) b)) (w, f) 0 ≠ -5 ∧ v < 0 ∧ me' (y + 1) = me (y + 1))) → zGf y me me' → Q (some (zI v)) sp me') : zCall mX9_danceNow d 0 0 [zR y, zI k, zI T, zI b] sp me Q := by
  have hbd := ztry_bd (h := h) (zrep T.toNat (zord (zsteps sz cd k) b)) (w, f) 0 (by omega)
  exact m_danceNow hd hy hI hB hR hk0 hk1 hT0 hT1 (fun hz me' h1 h2 => hQ _ me' (Or.inl ⟨hz, rfl, h1⟩) h2) (fun hz me' h1 h2 => hQ _ me' (Or.inr ⟨hz, by show -100 - ztry h (zrep T.toNat (zord (zsteps sz cd k) b)) (w, f) 0 < 0; omega, h1⟩) h2)
theorem zIS_mono {B B' : Int} {S : zSt} (h : zIS B S) (hb : B ≤ B') : zIS B' S := by
  obtain ⟨a1, a2, a3, a4, a5, a6, a7, a8⟩ := h
  exact ⟨a1, a2, a3, a4, a5, by omega, by omega, by omega⟩
theorem zIS_dn {B : Int} {w f h sz cd : Int → Int} {pr t0 t1 t2 n : Int} {w' f' : Int → Int} (hS : zIS B (w, f, h, pr, sz, cd, t0, t1, t2)) (hg : zgR w' f') (hn0 : 0 ≤ n) (hn1 : n ≤ 1080) : zIS (B + 2000) (qst w' f' h pr sz cd (t0 + 1) (t1 + n) t2) := by
  obtain ⟨a1, a2, a3, a4, a5, a6, a7, a8⟩ := hS
  have b6 : 0 ≤ t0 ∧ t0 ≤ B := a6
  have b7 : 0 ≤ t1 ∧ t1 ≤ B := a7
  have b8 : 0 ≤ t2 ∧ t2 ≤ B := a8
  refine ⟨hg, a2, a3, a4, a5, ?_, ?_, ?_⟩
  · show 0 ≤ t0 + 1 ∧ t0 + 1 ≤ B + 2000; omega
  · show 0 ≤ t1 + n ∧ t1 + n ≤ B + 2000; omega
  · show 0 ≤ t2 ∧ t2 ≤ B + 2000; omega
theorem zdropc {CL : List (Int × Int × Int)} {j : Nat} (h : j < CL.length) : CL.drop j = CL[j] :: CL.drop (j + 1) := List.drop_eq_getElem_cons h
theorem zrn_go {h : Int → Int} {E : Int → List Int} {c : Int × Int × Int} {cs : List (Int × Int × Int)} {R : zRg} {t0 t1 j : Int} (hz : ztry h (zrep c.2.1.toNat (zord (E c.1) c.2.2)) R 0 = -5) : zrn h E (c :: cs) (R, t0, t1, j) = zrn h E cs (zfo R (zrep c.2.1.toNat (zord (E c.1) c.2.2)), t0 + 1, t1 + ((zrep c.2.1.toNat (zord (E c.1) c.2.2)).length : Int), j + 1) := if_pos hz
theorem zrn_no {h : Int → Int} {E : Int → List Int} {c : Int × Int × Int} {cs : List (Int × Int × Int)} {R : zRg} {t0 t1 j : Int} (hz : ztry h (zrep c.2.1.toNat (zord (E c.1) c.2.2)) R 0 ≠ -5) : zrn h E (c :: cs) (R, t0, t1, j) = (R, t0, t1, j) := if_neg hz
theorem zIA_mono {B B' : Int} {A : zAb} (h : zIA B A) (hb : B ≤ B') : zIA B' A := by
  obtain ⟨h1, h2, h3, h4, h5⟩ := h
  exact ⟨zIS_mono h1 hb, fun S hS => zIS_mono (h2 S hS) hb, fun S hS => zIS_mono (h3 S hS) hb, h4, h5⟩
theorem zIA_do {B B' : Int} {A : zAb} {S : zSt} (h : zIA B A) (hb : B ≤ B') (hS : zIS B' S) : zIA B' (zdo A S) := by
  obtain ⟨h1, h2, h3, h4, h5⟩ := zIA_mono h hb
  refine ⟨hS, fun T hT => ?_, h3, h4, ?_⟩
  · have hT2 := List.mem_of_mem_take hT
    rcases List.mem_cons.mp hT2 with e | e
    · rw [e]; exact h1
    · exact h2 T e
  · show ((A.1 :: A.2.1).take 5).length ≤ 5
    rw [List.length_take]
    omega
set_option maxRecDepth 100000 in
set_option maxHeartbeats 1000000 in
theorem y_run {d : Nat} {sp : zSP} {me : zMe} {Q : zQ} {y : Nat} {A : zAb} {B : Int} (hd : 20 ≤ d) (hy : zMod sp y) (hX : zMX me y A) (hI : zIA B A) (hB : B ≤ 900000000) (hQ : ∀ me', zMX me' y (zoRun A).2 → zMF y me me' → zIA (B + 100000) (zoRun A).2 → Q (some (zI (zoRun A).1)) sp me') : zCall mX9_run d 0 0 [zR y] sp me Q := by
  refine z_met kX9_run (by simp) (by simp) ?_
  show zW mX9_run d 0 0 Q 0 [zR y, zU, zU] [] sp me
  have hN := hI.2.2.2.1
  have e13 : me y 13 = qN A := hX.2.2.2.1
  have e11 : me (y + 11) = qG A := hX.2.2.2.2
  have hfb := zfault_bd (qG A) (qN A) hN.1 hN.2
  unfold zoRun at hQ
  refine z_L0R (pc' := 1) dX9_run_0 rfl ?_
  refine z_V0v (pc' := 4) (ci := 9) kX9_isScript lX9_172 dX9_run_1 rfl (by omega) (Nat.le_of_ble_eq_true rfl) (by decide) rfl hy.s ?_
  refine m_isScript (by omega) hy (by omega) (by omega) (fun v me1 hs1 hv => zKv_i ?_)
  rw [e13, e11] at hv
  have hq := hs1.mq
  have hX1 := hq.mx hX
  refine z_if_ne (tgt := 15) (pc' := 7) dX9_run_4 (by decide) rfl (fun h4 => ?_) (fun h4 => ?_)
  · have hv1 := hv.resolve_right (fun z => h4 z.1)
    rw [zif_neg (fun z => z hv1.2.1)] at hQ
    refine z_L0R (pc' := 16) dX9_run_15 rfl ?_
    refine z_V00 (pc' := 19) (ci := 9) kX9_record lX9_78 dX9_run_16 rfl (by omega) (Nat.le_of_ble_eq_true rfl) (by decide) rfl hy.s ?_
    refine m_record hy hI.1 hI.2.1 hX1.1 hX1.2.1 (fun me3 hH3 hm1 hm2 => zK0_i ?_)
    have hr3 : me3 (y + 1) = me1 (y + 1) := hm1 _ (by omega) (by omega)
    obtain ⟨c1, c2, c3⟩ := hv1.2.2
    have hZR : zRR A = zrn (qH A) (zsteps (qS A) (qC A)) (zcalls (qG A) (qN A)) ((qW A, qF A), qT0 A, qT1 A, 0) := rfl
    revert hZR c1 c2 c3
    generalize zcalls (qG A) (qN A) = CL
    intro c1 c2 c3 hZR
    refine z_iconst (pc' := 20) dX9_run_19 rfl (by unfold zin; decide) ?_
    refine z_S1I (pc' := 21) rfl dX9_run_20 rfl ?_
    refine z_iconst (pc' := 22) dX9_run_21 rfl (by unfold zin; decide) ?_
    refine z_S2I (pc' := 23) rfl dX9_run_22 rfl ?_
    suffices H : ∀ (n j : Nat) (g : Int) (R : zRg) (t0 t1 : Int) (me' : zMe), ((g = 1 ∧ j ≤ CL.length ∧ zRR A = zrn (qH A) (zsteps (qS A) (qC A)) (CL.drop j) (R, t0, t1, (j : Int))) ∨ (g = 0 ∧ zRR A = (R, t0, t1, (j : Int)))) → 2 * (41 - j) + g.toNat < n → j ≤ 40 → zMR (me' (y + 1)) (R.1, R.2, qH A, qP A, qS A, qC A, t0, t1, qT2 A) → zIS (B + 2000 * (j : Int)) (R.1, R.2, qH A, qP A, qS A, qC A, t0, t1, qT2 A) → zGf y me3 me' → zW mX9_run d 0 0 Q 23 [zR y, zI (j : Int), zI g] [] sp me' by
      exact H 84 0 1 (qW A, qF A) (qT0 A) (qT1 A) me3 (Or.inl ⟨rfl, Nat.zero_le _, hZR⟩) (by decide) (by omega) (by rw [hr3]; exact hX1.1) (zIS_mono hI.1 (by omega)) (fun _ _ _ _ _ _ _ _ => rfl)
    intro n
    induction n with
    | zero => intro j g R t0 t1 me' _ h; omega
    | succ n ih =>
    intro j g R t0 t1 me' hg hn hj40 hR hIR hfr
    have hfr2 : ∀ a, a = y + 12 ∨ a = y + 13 ∨ a = y + 14 → me' a = me1 a := fun a ha => by
      rw [hfr a (by omega) (by omega) (by omega) (by omega) (by omega) (by omega) (by omega)]
      exact hm1 a (by omega) (by omega)
    refine z_L1I (pc' := 24) dX9_run_23 rfl ?_
    refine z_L0R (pc' := 25) dX9_run_24 rfl ?_
    refine z_getI (pc' := 28) (ki := 15) 15 fX9_166.l rfl rfl dX9_run_25 rfl hy.s ?_
    rw [hfr y (by omega) (by omega) (by omega) (by omega) (by omega) (by omega) (by omega), hm2 15 (by omega), c1]
    refine z_icmp_ge (tgt := 81) (pc' := 31) dX9_run_28 (by decide) rfl (fun h28 => ?_) (fun h28 => ?_)
    · refine z_L1I (pc' := 82) dX9_run_81 rfl ?_
      refine z_ireturn rfl rfl dX9_run_82 ?_
      have hfin : zRR A = (R, t0, t1, (j : Int)) := by
        rcases hg with e | e
        · have ej : j = CL.length := by omega
          rw [e.2.2, ej, List.drop_length]
          rfl
        · exact e.2
      have hX5 : zMX me' y (zdo A (qst R.1 R.2 (qH A) (qP A) (qS A) (qC A) t0 t1 (qT2 A))) := by
        refine zMX_do hX1 hR ?_ ?_ ?_ ?_ ?_
        · obtain ⟨k1, k2, k3⟩ := hH3
          exact ⟨by rw [hfr _ (by omega) (by omega) (by omega) (by omega) (by omega) (by omega) (by omega)]; exact k1, k2, by rw [hfr _ (by omega) (by omega) (by omega) (by omega) (by omega) (by omega) (by omega)]; exact k3⟩
        · rw [hfr _ (by omega) (by omega) (by omega) (by omega) (by omega) (by omega) (by omega)]; exact hm2 _ (by omega)
        · rw [hfr _ (by omega) (by omega) (by omega) (by omega) (by omega) (by omega) (by omega)]; exact hm2 _ (by omega)
        · rw [hfr _ (by omega) (by omega) (by omega) (by omega) (by omega) (by omega) (by omega)]; exact hm1 _ (by omega) (by omega)
        · rw [hfr _ (by omega) (by omega) (by omega) (by omega) (by omega) (by omega) (by omega)]; exact hm1 _ (by omega) (by omega)
      rw [hfin] at hQ
      exact hQ me' hX5 (fun a ha => by rw [hfr a (by omega) (by omega) (by omega) (by omega) (by omega) (by omega) (by omega), hm1 a (by omega) (by omega), hq.1 a ha]) (zIA_do hI (by omega) (zIS_mono hIR (by omega)))
    · refine z_L2I (pc' := 32) dX9_run_31 rfl ?_
      refine z_if_eq (tgt := 81) (pc' := 35) dX9_run_32 (by decide) rfl (fun h32 => ?_) (fun h32 => ?_)
      · refine z_L1I (pc' := 82) dX9_run_81 rfl ?_
        refine z_ireturn rfl rfl dX9_run_82 ?_
        have hfin : zRR A = (R, t0, t1, (j : Int)) := by
          rcases hg with e | e
          · have ej : j = CL.length := by omega
            rw [e.2.2, ej, List.drop_length]
            rfl
          · exact e.2
        have hX5 : zMX me' y (zdo A (qst R.1 R.2 (qH A) (qP A) (qS A) (qC A) t0 t1 (qT2 A))) := by
          refine zMX_do hX1 hR ?_ ?_ ?_ ?_ ?_
          · obtain ⟨k1, k2, k3⟩ := hH3
            exact ⟨by rw [hfr _ (by omega) (by omega) (by omega) (by omega) (by omega) (by omega) (by omega)]; exact k1, k2, by rw [hfr _ (by omega) (by omega) (by omega) (by omega) (by omega) (by omega) (by omega)]; exact k3⟩
          · rw [hfr _ (by omega) (by omega) (by omega) (by omega) (by omega) (by omega) (by omega)]; exact hm2 _ (by omega)
          · rw [hfr _ (by omega) (by omega) (by omega) (by omega) (by omega) (by omega) (by omega)]; exact hm2 _ (by omega)
          · rw [hfr _ (by omega) (by omega) (by omega) (by omega) (by omega) (by omega) (by omega)]; exact hm1 _ (by omega) (by omega)
          · rw [hfr _ (by omega) (by omega) (by omega) (by omega) (by omega) (by omega) (by omega)]; exact hm1 _ (by omega) (by omega)
        rw [hfin] at hQ
        exact hQ me' hX5 (fun a ha => by rw [hfr a (by omega) (by omega) (by omega) (by omega) (by omega) (by omega) (by omega), hm1 a (by omega) (by omega), hq.1 a ha]) (zIA_do hI (by omega) (zIS_mono hIR (by omega)))
      · have hg1 := (hg.resolve_right (fun z => h32 z.1))
        have hjl : j < CL.length := by omega
        obtain ⟨d1, d2, d3, d4, d5, d6, d7⟩ := c3 j CL[j] (List.getElem?_eq_getElem hjl)
        have hdr := zdropc hjl
        have hst := hg1.2.2
        rw [hdr] at hst
        refine z_L0R (pc' := 36) dX9_run_35 rfl ?_
        refine z_L0R (pc' := 37) dX9_run_36 rfl ?_
        refine z_getR (pc' := 40) (ki := 16) 16 fX9_43.l rfl rfl dX9_run_37 rfl hy.s hy.p16 ?_
        refine z_L1I (pc' := 41) dX9_run_40 rfl ?_
        refine z_ild (pc' := 42) dX9_run_41 rfl hy.a12 (by omega) (by omega) ?_
        rw [hfr2 _ (by omega), d1]
        refine z_L0R (pc' := 43) dX9_run_42 rfl ?_
        refine z_getR (pc' := 46) (ki := 17) 17 fX9_46.l rfl rfl dX9_run_43 rfl hy.s hy.p17 ?_
        refine z_L1I (pc' := 47) dX9_run_46 rfl ?_
        refine z_ild (pc' := 48) dX9_run_47 rfl hy.a13 (by omega) (by omega) ?_
        rw [hfr2 _ (by omega), d2]
        refine z_L0R (pc' := 49) dX9_run_48 rfl ?_
        refine z_getR (pc' := 52) (ki := 18) 18 fX9_49.l rfl rfl dX9_run_49 rfl hy.s hy.p18 ?_
        refine z_L1I (pc' := 53) dX9_run_52 rfl ?_
        refine z_bld (pc' := 54) dX9_run_53 rfl hy.a14 (by omega) (by omega) ?_
        refine z_V3v (pc' := 57) (ci := 9) kX9_danceNow lX9_154 dX9_run_54 rfl (by omega) (Nat.le_of_ble_eq_true rfl) (by decide) rfl hy.s ?_
        rw [hfr2 _ (by omega), d3]
        refine m_danceNow2 (B := B + 2000 * (j : Int)) (w := R.1) (f := R.2) (by omega) hy hIR (by omega) hR d4 d5 d6 d7 (fun v2 me4 hv2 hg4 => zKv_i ?_)
        have hfr4 : zGf y me3 me4 := fun a a1 a2 a3 a4 a5 a6 a7 => (hg4 a a1 a2 a3 a4 a5 a6 a7).trans (hfr a a1 a2 a3 a4 a5 a6 a7)
        refine z_if_lt (tgt := 64) (pc' := 60) dX9_run_57 (by decide) rfl (fun h57 => ?_) (fun h57 => ?_)
        · refine z_iconst (pc' := 65) dX9_run_64 rfl (by unfold zin; decide) ?_
          refine z_S2I (pc' := 66) rfl dX9_run_65 rfl ?_
          refine z_L1I (pc' := 67) dX9_run_66 rfl ?_
          refine z_L2I (pc' := 68) dX9_run_67 rfl ?_
          refine z_if_eq (tgt := 75) (pc' := 71) dX9_run_68 (by decide) rfl (fun h68 => ?_) (fun h68 => ?_)
          · refine z_iconst (pc' := 76) dX9_run_75 rfl (by unfold zin; decide) ?_
            refine z_iadd (pc' := 77) dX9_run_76 rfl (by unfold zin; omega) ?_
            refine z_S1I (pc' := 78) rfl dX9_run_77 rfl ?_
            refine z_goto (tgt := 23) dX9_run_78 (by decide) ?_
            first
            | (exfalso; omega)
            | (have hv3 := hv2.resolve_left (fun z => by omega)
               refine ih j 0 R t0 t1 me4 (Or.inr ⟨rfl, ?_⟩) (by show 2 * (41 - j) + 0 < n; have : g.toNat = 1 := (by rw [hg1.1]; rfl); omega) hj40 (by rw [hv3.2.2]; exact hR) hIR hfr4 |> fun z => zW_to z (by rw [Int.add_zero]) rfl rfl
               rw [hst]
               exact zrn_no hv3.1)
            | (have hv3 := hv2.resolve_right (fun z => by omega)
               have hgo := zgR_fo (L := zrep CL[j].2.1.toNat (zord (zsteps (qS A) (qC A) CL[j].1) CL[j].2.2)) (zrep_vs (zord_vs (zsteps_ok hI.1.2.2.2.1 d4 d5))) (R := (R.1, R.2)) hIR.1
               have hlen : (zrep CL[j].2.1.toNat (zord (zsteps (qS A) (qC A) CL[j].1) CL[j].2.2)).length ≤ 1080 := by
                 rw [zrep_len, zord_len]
                 exact Nat.le_trans (Nat.mul_le_mul (show CL[j].2.1.toNat ≤ 9 by omega) (hI.1.2.2.2.2.1 _ d4 d5)) (by decide)
               refine zW_to (ih (j + 1) 1 _ _ _ me4 (Or.inl ⟨rfl, by omega, ?_⟩) (by show 2 * (41 - (j + 1)) + 1 < n; omega) (by omega) hv3.2.2 (zIS_mono (zIS_dn hIR hgo (by omega) (by omega)) (by omega)) hfr4) rfl rfl rfl
               rw [hst]
               exact zrn_go hv3.1)
          · refine z_iconst (pc' := 72) dX9_run_71 rfl (by unfold zin; decide) ?_
            refine z_goto (tgt := 76) dX9_run_72 (by decide) ?_
            refine z_iadd (pc' := 77) dX9_run_76 rfl (by unfold zin; omega) ?_
            refine z_S1I (pc' := 78) rfl dX9_run_77 rfl ?_
            refine z_goto (tgt := 23) dX9_run_78 (by decide) ?_
            first
            | (exfalso; omega)
            | (have hv3 := hv2.resolve_left (fun z => by omega)
               refine ih j 0 R t0 t1 me4 (Or.inr ⟨rfl, ?_⟩) (by show 2 * (41 - j) + 0 < n; have : g.toNat = 1 := (by rw [hg1.1]; rfl); omega) hj40 (by rw [hv3.2.2]; exact hR) hIR hfr4 |> fun z => zW_to z (by rw [Int.add_zero]) rfl rfl
               rw [hst]
               exact zrn_no hv3.1)
            | (have hv3 := hv2.resolve_right (fun z => by omega)
               have hgo := zgR_fo (L := zrep CL[j].2.1.toNat (zord (zsteps (qS A) (qC A) CL[j].1) CL[j].2.2)) (zrep_vs (zord_vs (zsteps_ok hI.1.2.2.2.1 d4 d5))) (R := (R.1, R.2)) hIR.1
               have hlen : (zrep CL[j].2.1.toNat (zord (zsteps (qS A) (qC A) CL[j].1) CL[j].2.2)).length ≤ 1080 := by
                 rw [zrep_len, zord_len]
                 exact Nat.le_trans (Nat.mul_le_mul (show CL[j].2.1.toNat ≤ 9 by omega) (hI.1.2.2.2.2.1 _ d4 d5)) (by decide)
               refine zW_to (ih (j + 1) 1 _ _ _ me4 (Or.inl ⟨rfl, by omega, ?_⟩) (by show 2 * (41 - (j + 1)) + 1 < n; omega) (by omega) hv3.2.2 (zIS_mono (zIS_dn hIR hgo (by omega) (by omega)) (by omega)) hfr4) rfl rfl rfl
               rw [hst]
               exact zrn_go hv3.1)
        · refine z_iconst (pc' := 61) dX9_run_60 rfl (by unfold zin; decide) ?_
          refine z_goto (tgt := 65) dX9_run_61 (by decide) ?_
          refine z_S2I (pc' := 66) rfl dX9_run_65 rfl ?_
          refine z_L1I (pc' := 67) dX9_run_66 rfl ?_
          refine z_L2I (pc' := 68) dX9_run_67 rfl ?_
          refine z_if_eq (tgt := 75) (pc' := 71) dX9_run_68 (by decide) rfl (fun h68 => ?_) (fun h68 => ?_)
          · refine z_iconst (pc' := 76) dX9_run_75 rfl (by unfold zin; decide) ?_
            refine z_iadd (pc' := 77) dX9_run_76 rfl (by unfold zin; omega) ?_
            refine z_S1I (pc' := 78) rfl dX9_run_77 rfl ?_
            refine z_goto (tgt := 23) dX9_run_78 (by decide) ?_
            first
            | (exfalso; omega)
            | (have hv3 := hv2.resolve_left (fun z => by omega)
               refine ih j 0 R t0 t1 me4 (Or.inr ⟨rfl, ?_⟩) (by show 2 * (41 - j) + 0 < n; have : g.toNat = 1 := (by rw [hg1.1]; rfl); omega) hj40 (by rw [hv3.2.2]; exact hR) hIR hfr4 |> fun z => zW_to z (by rw [Int.add_zero]) rfl rfl
               rw [hst]
               exact zrn_no hv3.1)
            | (have hv3 := hv2.resolve_right (fun z => by omega)
               have hgo := zgR_fo (L := zrep CL[j].2.1.toNat (zord (zsteps (qS A) (qC A) CL[j].1) CL[j].2.2)) (zrep_vs (zord_vs (zsteps_ok hI.1.2.2.2.1 d4 d5))) (R := (R.1, R.2)) hIR.1
               have hlen : (zrep CL[j].2.1.toNat (zord (zsteps (qS A) (qC A) CL[j].1) CL[j].2.2)).length ≤ 1080 := by
                 rw [zrep_len, zord_len]
                 exact Nat.le_trans (Nat.mul_le_mul (show CL[j].2.1.toNat ≤ 9 by omega) (hI.1.2.2.2.2.1 _ d4 d5)) (by decide)
               refine zW_to (ih (j + 1) 1 _ _ _ me4 (Or.inl ⟨rfl, by omega, ?_⟩) (by show 2 * (41 - (j + 1)) + 1 < n; omega) (by omega) hv3.2.2 (zIS_mono (zIS_dn hIR hgo (by omega) (by omega)) (by omega)) hfr4) rfl rfl rfl
               rw [hst]
               exact zrn_go hv3.1)
          · refine z_iconst (pc' := 72) dX9_run_71 rfl (by unfold zin; decide) ?_
            refine z_goto (tgt := 76) dX9_run_72 (by decide) ?_
            refine z_iadd (pc' := 77) dX9_run_76 rfl (by unfold zin; omega) ?_
            refine z_S1I (pc' := 78) rfl dX9_run_77 rfl ?_
            refine z_goto (tgt := 23) dX9_run_78 (by decide) ?_
            first
            | (exfalso; omega)
            | (have hv3 := hv2.resolve_left (fun z => by omega)
               refine ih j 0 R t0 t1 me4 (Or.inr ⟨rfl, ?_⟩) (by show 2 * (41 - j) + 0 < n; have : g.toNat = 1 := (by rw [hg1.1]; rfl); omega) hj40 (by rw [hv3.2.2]; exact hR) hIR hfr4 |> fun z => zW_to z (by rw [Int.add_zero]) rfl rfl
               rw [hst]
               exact zrn_no hv3.1)
            | (have hv3 := hv2.resolve_right (fun z => by omega)
               have hgo := zgR_fo (L := zrep CL[j].2.1.toNat (zord (zsteps (qS A) (qC A) CL[j].1) CL[j].2.2)) (zrep_vs (zord_vs (zsteps_ok hI.1.2.2.2.1 d4 d5))) (R := (R.1, R.2)) hIR.1
               have hlen : (zrep CL[j].2.1.toNat (zord (zsteps (qS A) (qC A) CL[j].1) CL[j].2.2)).length ≤ 1080 := by
                 rw [zrep_len, zord_len]
                 exact Nat.le_trans (Nat.mul_le_mul (show CL[j].2.1.toNat ≤ 9 by omega) (hI.1.2.2.2.2.1 _ d4 d5)) (by decide)
               refine zW_to (ih (j + 1) 1 _ _ _ me4 (Or.inl ⟨rfl, by omega, ?_⟩) (by show 2 * (41 - (j + 1)) + 1 < n; omega) (by omega) hv3.2.2 (zIS_mono (zIS_dn hIR hgo (by omega) (by omega)) (by omega)) hfr4) rfl rfl rfl
               rw [hst]
               exact zrn_go hv3.1)
  · have hv0 := hv.resolve_left (fun z => by omega)
    rw [zif_pos hv0.2.1] at hQ
    refine z_bipush (pc' := 9) dX9_run_7 rfl (by decide) ?_
    refine z_L0R (pc' := 10) dX9_run_9 rfl ?_
    refine z_getI (pc' := 13) (ki := 14) 14 fX9_160.l rfl rfl dX9_run_10 rfl hy.s ?_
    rw [hv0.2.2]
    refine z_isub (pc' := 14) dX9_run_13 rfl (by unfold zin; omega) ?_
    refine z_ireturn rfl rfl dX9_run_14 ?_
    exact hQ me1 hX1 hq.fr (zIA_mono hI (by omega))
end ZMOE

