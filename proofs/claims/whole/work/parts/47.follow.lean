section ZMOF
/-- where a figure takes those at the places, and how it turns them -/
def zGk (me : zMe) (y : Nat) (k : Int) (R : zRg) : Prop := ∀ p, 0 ≤ p → p < 10 → 0 ≤ me (y + 15) (10 * k + p) ∧ me (y + 15) (10 * k + p) < 10 ∧ R.1 (me (y + 15) (10 * k + p)) = p ∧ me (y + 16) (10 * k + p) = R.2 (me (y + 15) (10 * k + p))
theorem zGk_congr {me me' : zMe} {y : Nat} {k : Int} {R : zRg} (h1 : ∀ p, 0 ≤ p → p < 10 → me' (y + 15) (10 * k + p) = me (y + 15) (10 * k + p)) (h2 : ∀ p, 0 ≤ p → p < 10 → me' (y + 16) (10 * k + p) = me (y + 16) (10 * k + p)) (h : zGk me y k R) : zGk me' y k R := fun p p0 p1 => by
  rw [h1 p p0 p1, h2 p p0 p1]; exact h p p0 p1
set_option maxRecDepth 100000 in
set_option maxHeartbeats 1000000 in
theorem m_follow {d : Nat} {sp : zSP} {me : zMe} {Q : zQ} {y : Nat} {k : Int} {L : List Int} (hd : 3 ≤ d) (hy : zMod sp y) (hk0 : 0 ≤ k) (hk1 : k < 8) (hU : zUk me y k L) (hvL : ∀ c ∈ L, zvs c ∧ c < 400) (hl : L.length ≤ 120) (hQ : ∀ me', zGk me' y k (zeff L) → (∀ k' R, k' ≠ k → zGk me y k' R → zGk me' y k' R) → (∀ a, a ≠ y + 7 → a ≠ y + 8 → a ≠ y + 15 → a ≠ y + 16 → me' a = me a) → Q none sp me') : zCall mX9_follow d 0 0 [zR y, zI k] sp me Q := by
  refine z_met kX9_follow (by simp) (by simp) ?_
  show zW mX9_follow d 0 0 Q 0 [zR y, zI k, zU, zU] [] sp me
  refine z_iconst (pc' := 1) dX9_follow_0 rfl (by unfold zin; decide) ?_
  refine z_S2I (pc' := 2) rfl dX9_follow_1 rfl ?_
  suffices H : ∀ (n : Nat) (i : Int), 0 ≤ i → i ≤ 10 → 10 - i < n → zW mX9_follow d 0 0 Q 2 [zR y, zI k, zI i, zU] [] sp (zset (zset me (y + 15) (zseg (me (y + 15)) (fun p => p) (10 * k) i)) (y + 16) (zseg (me (y + 16)) (fun _ => 0) (10 * k) i)) by
    refine zW_to (H ((10 - 0 + 1 : Int).toNat) (0) (by omega) (by omega) (by omega) ) rfl rfl ?_
    rw [zseg_0, zseg_0, zset_self, zset_self]
  intro n
  induction n with
  | zero => intro i hk0 hk1 hk2; omega
  | succ n ih =>
  intro i hk0 hk1 hk2
  refine z_L2I (pc' := 3) dX9_follow_2 rfl ?_
  refine z_bipush (pc' := 5) dX9_follow_3 rfl (by decide) ?_
  refine z_icmp_ge (tgt := 38) (pc' := 8) dX9_follow_5 (by decide) rfl (fun h5 => ?_) (fun h5 => ?_)
  · obtain rfl : i = 10 := by omega
    have hg0 : zGk (zset (zset me (y + 15) (zseg (me (y + 15)) (fun p => p) (10 * k) 10)) (y + 16) (zseg (me (y + 16)) (fun _ => 0) (10 * k) 10)) y k zid := fun p p0 p1 => by
      rw [zset_ne _ _ _ (show y + 15 ≠ y + 16 by omega), zset_eq, zset_eq, zseg_in _ _ _ _ _ p0 p1, zseg_in _ _ _ _ _ p0 p1]
      unfold zid
      (try dsimp only)
      rw [zcut_in _ _ _ p0 p1, zcut_in _ _ _ p0 p1]
      exact ⟨p0, p1, rfl, rfl⟩
    have ho0 : ∀ q, ¬ (10 * k ≤ q ∧ q < 10 * k + 10) → zset (zset me (y + 15) (zseg (me (y + 15)) (fun p => p) (10 * k) 10)) (y + 16) (zseg (me (y + 16)) (fun _ => 0) (10 * k) 10) (y + 15) q = me (y + 15) q ∧ zset (zset me (y + 15) (zseg (me (y + 15)) (fun p => p) (10 * k) 10)) (y + 16) (zseg (me (y + 16)) (fun _ => 0) (10 * k) 10) (y + 16) q = me (y + 16) q := fun q hq => by
      rw [zset_ne _ _ _ (show y + 15 ≠ y + 16 by omega), zset_eq, zset_eq, zseg_out _ _ _ _ _ hq, zseg_out _ _ _ _ _ hq]
      exact ⟨rfl, rfl⟩
    have hf0 : ∀ a, a ≠ y + 15 → a ≠ y + 16 → zset (zset me (y + 15) (zseg (me (y + 15)) (fun p => p) (10 * k) 10)) (y + 16) (zseg (me (y + 16)) (fun _ => 0) (10 * k) 10) a = me a := fun a ha hb => by rw [zset_ne _ _ _ hb, zset_ne _ _ _ ha]
    revert hg0 ho0 hf0
    generalize zset (zset me (y + 15) (zseg (me (y + 15)) (fun p => p) (10 * k) 10)) (y + 16) (zseg (me (y + 16)) (fun _ => 0) (10 * k) 10) = me1
    intro hg0 ho0 hf0
    clear ih
    refine z_iconst (pc' := 39) dX9_follow_38 rfl (by unfold zin; decide) ?_
    refine z_S2I (pc' := 40) rfl dX9_follow_39 rfl ?_
    suffices H : ∀ (n i : Nat) (v : zV) (me' : zMe), i ≤ L.length → L.length - i < n → zndv v = true → zGk me' y k (zfo zid (L.take i)) → (∀ q, ¬ (10 * k ≤ q ∧ q < 10 * k + 10) → me' (y + 15) q = me (y + 15) q ∧ me' (y + 16) q = me (y + 16) q) → (∀ a, a ≠ y + 7 → a ≠ y + 8 → a ≠ y + 15 → a ≠ y + 16 → me' a = me a) → zW mX9_follow d 0 0 Q 40 [zR y, zI k, zI (i : Int), v] [] sp me' by
      exact H (L.length + 1) 0 zU me1 (by omega) (by omega) rfl hg0 ho0 (fun a a1 a2 a3 a4 => hf0 a a3 a4)
    intro n
    induction n with
    | zero => intro i v me' h1 h2; omega
    | succ n ih =>
    intro i v me' hi0 hi1 hv hG hO hF
    have hU2 : zUk me' y k L := ⟨by rw [hF _ (by omega) (by omega) (by omega) (by omega)]; exact hU.1, fun i hi q q0 q1 => by rw [hF _ (by omega) (by omega) (by omega) (by omega)]; exact hU.2 i hi q q0 q1⟩
    refine z_L2I (pc' := 41) dX9_follow_40 rfl ?_
    refine z_L0R (pc' := 42) dX9_follow_41 rfl ?_
    refine z_getR (pc' := 45) (ki := 5) 5 fX9_19.l rfl rfl dX9_follow_42 rfl hy.s hy.p5 ?_
    refine z_L1I (pc' := 46) dX9_follow_45 rfl ?_
    refine z_ild (pc' := 47) dX9_follow_46 rfl hy.a4 (by omega) (by omega) ?_
    rw [hU2.1]
    refine z_icmp_ge (tgt := 128) (pc' := 50) dX9_follow_47 (by decide) rfl (fun h47 => ?_) (fun h47 => ?_)
    · refine z_return rfl rfl dX9_follow_128 ?_
      obtain rfl : i = L.length := by omega
      rw [List.take_length] at hG
      exact hQ me' hG (fun k' R hk' hR => zGk_congr (fun p p0 p1 => (hO _ (by omega)).1) (fun p p0 p1 => (hO _ (by omega)).2) hR) hF
    · refine z_L0R (pc' := 51) dX9_follow_50 rfl ?_
      refine z_L1I (pc' := 52) dX9_follow_51 rfl ?_
      refine z_L2I (pc' := 53) dX9_follow_52 rfl ?_
      refine z_iconst (pc' := 54) dX9_follow_53 rfl (by unfold zin; decide) ?_
      refine z_V30 (pc' := 57) (ci := 9) kX9_layStep lX9_129 dX9_follow_54 rfl (by omega) (Nat.le_of_ble_eq_true rfl) (by decide) rfl hy.s ?_
      have hil : i < L.length := by omega
      have hvc := (hvL _ (zgetD_mem hil)).1
      refine m_layStep (by omega) hy (by assumption) (by assumption) hU2 hvL hil hl (fun TT UU hTT hUU => zK0_i ?_)
      rw [show zord L 0 = L from if_pos rfl] at hTT hUU
      have g7 : zset (zset me' (y + 7) TT) (y + 8) UU (y + 7) = TT := by rw [zset_ne _ _ _ (by omega), zset_eq]
      have g8 : zset (zset me' (y + 7) TT) (y + 8) UU (y + 8) = UU := zset_eq _ _ _
      have go : ∀ a, a ≠ y + 7 → a ≠ y + 8 → zset (zset me' (y + 7) TT) (y + 8) UU a = me' a := fun a h1 h2 => by rw [zset_ne _ _ _ h2, zset_ne _ _ _ h1]
      revert g7 g8 go
      generalize zset (zset me' (y + 7) TT) (y + 8) UU = me3
      intro g7 g8 go
      have e15 : me3 (y + 15) = me' (y + 15) := go _ (by omega) (by omega)
      have e16 : me3 (y + 16) = me' (y + 16) := go _ (by omega) (by omega)
      refine z_bipush (pc' := 59) dX9_follow_57 rfl (by decide) ?_
      refine z_L1I (pc' := 60) dX9_follow_59 rfl ?_
      refine z_imul (pc' := 61) dX9_follow_60 rfl (by unfold zin; omega) ?_
      refine z_S3I (pc' := 62) rfl dX9_follow_61 rfl ?_
      suffices H : ∀ (n2 : Nat) (p : Int), 0 ≤ p → p ≤ 10 → 10 - p < n2 → zW mX9_follow d 0 0 Q 62 [zR y, zI k, zI (i : Int), zI (10 * k + p)] [] sp (zset (zset me3 (y + 16) (zseg (me' (y + 16)) (fun p => (me' (y + 16) (10 * k + p) + UU (me' (y + 15) (10 * k + p))) % 4) (10 * k) p)) (y + 15) (zseg (me' (y + 15)) (fun p => TT (me' (y + 15) (10 * k + p))) (10 * k) p)) by
        refine zW_to (H 11 0 (by omega) (by omega) (by omega)) (by rw [Int.add_zero]) rfl ?_
        rw [zseg_0, zseg_0, ← e15, ← e16, zset_self, zset_self]
      intro n2
      induction n2 with
      | zero => intro p h0 h1 h2; omega
      | succ n2 ih2 =>
      intro p hp0 hp1 hp2
      refine z_L3I (pc' := 63) dX9_follow_62 rfl ?_
      refine z_bipush (pc' := 65) dX9_follow_63 rfl (by decide) ?_
      refine z_L1I (pc' := 66) dX9_follow_65 rfl ?_
      refine z_imul (pc' := 67) dX9_follow_66 rfl (by unfold zin; omega) ?_
      refine z_bipush (pc' := 69) dX9_follow_67 rfl (by decide) ?_
      refine z_iadd (pc' := 70) dX9_follow_69 rfl (by unfold zin; omega) ?_
      refine z_icmp_ge (tgt := 122) (pc' := 73) dX9_follow_70 (by decide) rfl (fun h70 => ?_) (fun h70 => ?_)
      · obtain rfl : p = 10 := by omega
        generalize hm4 : zset (zset me3 (y + 16) _) (y + 15) _ = me4
        have h15 : me4 (y + 15) = zseg (me' (y + 15)) (fun p => TT (me' (y + 15) (10 * k + p))) (10 * k) 10 := by rw [← hm4, zset_eq]
        have h16 : me4 (y + 16) = zseg (me' (y + 16)) (fun p => (me' (y + 16) (10 * k + p) + UU (me' (y + 15) (10 * k + p))) % 4) (10 * k) 10 := by rw [← hm4, zset_ne _ _ _ (by omega), zset_eq]
        have h4o : ∀ a, a ≠ y + 15 → a ≠ y + 16 → me4 a = me3 a := fun a ha hb => by rw [← hm4, zset_ne _ _ _ ha, zset_ne _ _ _ hb]
        clear hm4
        refine z_inc2 (pc' := 125) rfl dX9_follow_122 rfl (by unfold zin; omega) ?_
        refine z_goto (tgt := 40) dX9_follow_125 (by decide) ?_
        refine ih (i + 1) _ me4 (by omega) (by omega) rfl (fun p p0 p1 => ?_) (fun q hq => ?_) (fun a a1 a2 a3 a4 => ?_)
        · have hGp := hG p p0 p1
          have hTp := hTT _ hGp.1 hGp.2.1
          have hUp := hUU _ hGp.1 hGp.2.1
          have hzt := zto_all hvc hGp.1 hGp.2.1
          have hac := zac_at (R := zfo zid (L.take i)) hvc hGp.1 hGp.2.1
          rw [h15, h16, zseg_in _ _ _ _ _ p0 p1, zseg_in _ _ _ _ _ p0 p1, zfo_take hil]
          (try dsimp only)
          rw [hTp, hUp, hac.1, hac.2, hGp.2.2.2]
          exact ⟨hzt.1, hzt.2.1, hGp.2.2.1, rfl⟩
        · rw [h15, h16, zseg_out _ _ _ _ _ hq, zseg_out _ _ _ _ _ hq]; exact hO q hq
        · rw [h4o a a3 a4, go a a1 a2]; exact hF a a1 a2 a3 a4
      · have hGp := hG p hp0 (by omega)
        have hTp := hTT _ hGp.1 hGp.2.1
        have hUp := hUU _ hGp.1 hGp.2.1
        have hzt := zto_all hvc hGp.1 hGp.2.1
        have hRg := zgR_fo (L := L.take i) (fun c hc => (hvL c (List.mem_of_mem_take hc)).1) (R := zid) zgR_id
        have hRp := hRg.1 _ hGp.1 hGp.2.1
        refine z_L0R (pc' := 74) dX9_follow_73 rfl ?_
        refine z_getR (pc' := 77) (ki := 20) 20 fX9_56.l rfl rfl dX9_follow_74 rfl hy.s hy.p20 ?_
        refine z_L3I (pc' := 78) dX9_follow_77 rfl ?_
        refine z_L0R (pc' := 79) dX9_follow_78 rfl ?_
        refine z_getR (pc' := 82) (ki := 20) 20 fX9_56.l rfl rfl dX9_follow_79 rfl hy.s hy.p20 ?_
        refine z_L3I (pc' := 83) dX9_follow_82 rfl ?_
        refine z_ild (pc' := 84) dX9_follow_83 rfl hy.a16 (by omega) (by omega) ?_
        rw [zset_ne _ _ _ (show y + 16 ≠ y + 15 by omega), zset_eq, zseg_out _ _ _ _ _ (by omega)]
        refine z_L0R (pc' := 85) dX9_follow_84 rfl ?_
        refine z_getR (pc' := 88) (ki := 9) 9 fX9_31.l rfl rfl dX9_follow_85 rfl hy.s hy.p9 ?_
        refine z_L0R (pc' := 89) dX9_follow_88 rfl ?_
        refine z_getR (pc' := 92) (ki := 19) 19 fX9_53.l rfl rfl dX9_follow_89 rfl hy.s hy.p19 ?_
        refine z_L3I (pc' := 93) dX9_follow_92 rfl ?_
        refine z_ild (pc' := 94) dX9_follow_93 rfl hy.a15 (by omega) (by omega) ?_
        rw [zset_eq, zseg_out _ _ _ _ _ (by omega)]
        refine z_ild (pc' := 95) dX9_follow_94 rfl hy.a8 (by omega) (by omega) ?_
        rw [zset_ne _ _ _ (show y + 8 ≠ y + 15 by omega), zset_ne _ _ _ (show y + 8 ≠ y + 16 by omega), g8]
        refine z_iadd (pc' := 96) dX9_follow_95 rfl (by unfold zin; omega) ?_
        refine z_iconst (pc' := 97) dX9_follow_96 rfl (by unfold zin; decide) ?_
        refine z_irem (pc' := 98) dX9_follow_97 rfl (by omega) (by omega) ?_
        refine z_ist (pc' := 99) dX9_follow_98 rfl hy.a16 (by omega) (by omega) ?_
        rw [zset_21 _ _ _ _ _ _ (show y + 16 ≠ y + 15 by omega), zset_ne _ _ _ (show y + 16 ≠ y + 15 by omega), zset_eq, zseg_up _ _ _ _ _ hp0 rfl]
        refine z_L0R (pc' := 100) dX9_follow_99 rfl ?_
        refine z_getR (pc' := 103) (ki := 19) 19 fX9_53.l rfl rfl dX9_follow_100 rfl hy.s hy.p19 ?_
        refine z_L3I (pc' := 104) dX9_follow_103 rfl ?_
        refine z_L0R (pc' := 105) dX9_follow_104 rfl ?_
        refine z_getR (pc' := 108) (ki := 8) 8 fX9_28.l rfl rfl dX9_follow_105 rfl hy.s hy.p8 ?_
        refine z_L0R (pc' := 109) dX9_follow_108 rfl ?_
        refine z_getR (pc' := 112) (ki := 19) 19 fX9_53.l rfl rfl dX9_follow_109 rfl hy.s hy.p19 ?_
        refine z_L3I (pc' := 113) dX9_follow_112 rfl ?_
        refine z_ild (pc' := 114) dX9_follow_113 rfl hy.a15 (by omega) (by omega) ?_
        rw [zset_eq, zseg_out _ _ _ _ _ (by omega)]
        refine z_ild (pc' := 115) dX9_follow_114 rfl hy.a7 (by omega) (by omega) ?_
        rw [zset_ne _ _ _ (show y + 7 ≠ y + 15 by omega), zset_ne _ _ _ (show y + 7 ≠ y + 16 by omega), g7]
        refine z_ist (pc' := 116) dX9_follow_115 rfl hy.a15 (by omega) (by omega) ?_
        rw [zset_11, zset_eq, zseg_up _ _ _ _ _ hp0 rfl]
        refine z_inc3 (pc' := 119) rfl dX9_follow_116 rfl (by unfold zin; omega) ?_
        refine z_goto (tgt := 62) dX9_follow_119 (by decide) ?_
        exact zW_to (ih2 (p + 1) (by omega) (by omega) (by omega)) (by rw [Int.add_assoc]) rfl rfl
  · refine z_L0R (pc' := 9) dX9_follow_8 rfl ?_
    refine z_getR (pc' := 12) (ki := 19) 19 fX9_53.l rfl rfl dX9_follow_9 rfl hy.s hy.p19 ?_
    refine z_bipush (pc' := 14) dX9_follow_12 rfl (by decide) ?_
    refine z_L1I (pc' := 15) dX9_follow_14 rfl ?_
    refine z_imul (pc' := 16) dX9_follow_15 rfl (by unfold zin; omega) ?_
    refine z_L2I (pc' := 17) dX9_follow_16 rfl ?_
    refine z_iadd (pc' := 18) dX9_follow_17 rfl (by unfold zin; omega) ?_
    refine z_L2I (pc' := 19) dX9_follow_18 rfl ?_
    refine z_ist (pc' := 20) dX9_follow_19 rfl hy.a15 (by omega) (by omega) ?_
    refine z_L0R (pc' := 21) dX9_follow_20 rfl ?_
    refine z_getR (pc' := 24) (ki := 20) 20 fX9_56.l rfl rfl dX9_follow_21 rfl hy.s hy.p20 ?_
    refine z_bipush (pc' := 26) dX9_follow_24 rfl (by decide) ?_
    refine z_L1I (pc' := 27) dX9_follow_26 rfl ?_
    refine z_imul (pc' := 28) dX9_follow_27 rfl (by unfold zin; omega) ?_
    refine z_L2I (pc' := 29) dX9_follow_28 rfl ?_
    refine z_iadd (pc' := 30) dX9_follow_29 rfl (by unfold zin; omega) ?_
    refine z_iconst (pc' := 31) dX9_follow_30 rfl (by unfold zin; decide) ?_
    refine z_ist (pc' := 32) dX9_follow_31 rfl hy.a16 (by omega) (by omega) ?_
    refine z_inc2 (pc' := 35) rfl dX9_follow_32 rfl (by unfold zin; omega) ?_
    refine z_goto (tgt := 2) dX9_follow_35 (by decide) ?_
    refine zW_to (ih (i + 1) (by omega) (by omega) (by omega) ) rfl rfl ?_
    rw [zset_21 _ _ _ _ _ _ (show y + 15 ≠ y + 16 by omega), zset_11, zset_ne _ _ _ (show y + 15 ≠ y + 16 by omega), zset_eq, zset_eq, zseg_up _ _ _ _ _ hk0 rfl, zseg_up _ _ _ _ _ hk0 rfl]
end ZMOF

