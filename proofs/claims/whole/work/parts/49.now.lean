section ZMOH
theorem zact_same {R E : zRg} (hR : zgR R.1 R.2) (hE : zgR E.1 E.2) : zsame (zact R E) (zact E R) ↔ ∀ p, 0 ≤ p → p < 10 → zpl E.1 (zpl R.1 p) = zpl R.1 (zpl E.1 p) ∧ (R.2 (zpl R.1 p) + E.2 (zpl E.1 (zpl R.1 p))) % 4 = (E.2 (zpl E.1 p) + R.2 (zpl R.1 (zpl E.1 p))) % 4 := by
  rw [zsame_iff (zgR_act2 hR hE) (zgR_act2 hE hR)]
  constructor
  · intro h p p0 p1
    have h1 := h p p0 p1
    have a := zact_pl hR hE p0 p1
    have b := zact_pl hE hR p0 p1
    rw [a.1, b.1] at h1
    exact ⟨h1.1, by rw [← a.2, ← b.2]; exact h1.2⟩
  · intro h p p0 p1
    have h1 := h p p0 p1
    have a := zact_pl hR hE p0 p1
    have b := zact_pl hE hR p0 p1
    rw [a.1, b.1]
    exact ⟨h1.1, by rw [a.2, b.2]; exact h1.2⟩
set_option maxRecDepth 100000 in
set_option maxHeartbeats 1000000 in
theorem y_commute {d : Nat} {sp : zSP} {me : zMe} {Q : zQ} {y : Nat} {A : zAb} {B k j : Int} (hd : 20 ≤ d) (hy : zMod sp y) (hX : zMX me y A) (hI : zIA B A) (hQ : ∀ me', zMX me' y A → zMF y me me' → Q (some (zI (zoCommute A k j))) sp me') : zCall mX9_commute d 0 0 [zR y, zI k, zI j] sp me Q := by
  refine z_met kX9_commute (by simp) (by simp) ?_
  show zW mX9_commute d 0 0 Q 0 [zR y, zI k, zI j, zU, zU, zU, zU, zU, zU] [] sp me
  have hIS := hI.1
  have hgA : zgR (qW A) (qF A) := hIS.1
  have hokA : zHok (qH A) := hIS.2.1
  have hpnA : qP A = zpn (qH A) := hIS.2.2.1
  have hvA : zfv (qS A) (qC A) := hIS.2.2.2.1
  have hlA : zlim (qS A) (qC A) := hIS.2.2.2.2.1
  have hRw : ∀ p, 0 ≤ p → p < 10 → me (y + 1) p = qW A p := hX.1.1
  have hRf : ∀ i, 0 ≤ i → i < 10 → me (y + 1) (10 + i) = qF A (zpl (qW A) i) := fun i a b => zMR_f hI.1 hX.1 a b
  have hRh : ∀ i, 0 ≤ i → i < 10 → me (y + 1) (20 + i) = qH A i := hX.1.2.2.1
  have hRs : ∀ k, 0 ≤ k → k < 8 → me (y + 1) (30 + 31 * k) = qS A k := fun k a b => (hX.1.2.2.2.1 k a b).1
  have hRc : ∀ k, 0 ≤ k → k < 8 → ∀ m, 0 ≤ m → m < qS A k → ∀ q, 0 ≤ q → q < 3 → me (y + 1) (30 + 31 * k + 1 + 3 * m + q) = zdig (qC A (k * 10 + m)) q := fun k a b => (hX.1.2.2.2.1 k a b).2
  unfold zoCommute at hQ
  refine z_L1I (pc' := 1) dX9_commute_0 rfl ?_
  refine z_S1v (pc' := 4) kX9_isFigure lX9_97 dX9_commute_1 rfl (by omega) (Nat.le_of_ble_eq_true rfl) ?_
  refine m_isFig2 (by omega) (fun b1 hb1 => zKv_i ?_)
  refine z_if_eq (tgt := 14) (pc' := 7) dX9_commute_4 (by decide) rfl (fun h4 => ?_) (fun h4 => ?_)
  · rw [zif_pos (by omega)] at hQ
    refine z_iconst (pc' := 15) dX9_commute_14 rfl (by unfold zin; decide) ?_
    refine z_ireturn rfl rfl dX9_commute_15 ?_
    exact hQ me hX zMF.rf
  · refine z_L2I (pc' := 8) dX9_commute_7 rfl ?_
    refine z_S1v (pc' := 11) kX9_isFigure lX9_97 dX9_commute_8 rfl (by omega) (Nat.le_of_ble_eq_true rfl) ?_
    refine m_isFig2 (by omega) (fun b2 hb2 => zKv_i ?_)
    refine z_if_ne (tgt := 16) (pc' := 14) dX9_commute_11 (by decide) rfl (fun h11 => ?_) (fun h11 => ?_)
    · rw [zif_neg (by omega)] at hQ
      have hgE := zgR_E hI (show 0 ≤ k by omega) (show k < 8 by omega)
      have hgJ := zgR_E hI (show 0 ≤ j by omega) (show j < 8 by omega)
      have hiff := zact_same hgE hgJ
      refine z_L0R (pc' := 17) dX9_commute_16 rfl ?_
      refine z_V00 (pc' := 20) (ci := 9) kX9_followAll lX9_188 dX9_commute_17 rfl (by omega) (Nat.le_of_ble_eq_true rfl) (by decide) rfl hy.s ?_
      refine m_followAll (by omega) hy hvA hlA hRs hRc (fun me1 hU1 hG1 hf1 => zK0_i ?_)
      have hq := zMQ_f hf1
      have hpk : ∀ p, 0 ≤ p → p < 10 → me1 (y + 15) (10 * k + p) = zpl (zE A k).1 p ∧ me1 (y + 16) (10 * k + p) = (zE A k).2 (zpl (zE A k).1 p) := fun p p0 p1 => zGk_pl (R := zE A k) hgE (hG1 k (by omega) (by omega)) p0 p1
      have hpj : ∀ p, 0 ≤ p → p < 10 → me1 (y + 15) (10 * j + p) = zpl (zE A j).1 p ∧ me1 (y + 16) (10 * j + p) = (zE A j).2 (zpl (zE A j).1 p) := fun p p0 p1 => zGk_pl (R := zE A j) hgJ (hG1 j (by omega) (by omega)) p0 p1
      refine z_iconst (pc' := 21) dX9_commute_20 rfl (by unfold zin; decide) ?_
      refine z_S3I (pc' := 22) rfl dX9_commute_21 rfl ?_
      refine z_iconst (pc' := 23) dX9_commute_22 rfl (by unfold zin; decide) ?_
      refine z_S4I (pc' := 25) rfl dX9_commute_23 rfl ?_
      suffices H : ∀ (n : Nat) (p b : Int) (v5 v6 v7 v8 : zV), 0 ≤ p → p ≤ 10 → 10 - p < n → zndv v5 = true → zndv v6 = true → zndv v7 = true → zndv v8 = true → ((b = 1 ∧ ∀ q, 0 ≤ q → q < p → (zpl (zE A j).1 (zpl (zE A k).1 q) = zpl (zE A k).1 (zpl (zE A j).1 q) ∧ ((zE A k).2 (zpl (zE A k).1 q) + (zE A j).2 (zpl (zE A j).1 (zpl (zE A k).1 q))) % 4 = ((zE A j).2 (zpl (zE A j).1 q) + (zE A k).2 (zpl (zE A k).1 (zpl (zE A j).1 q))) % 4)) ∨ (b = 0 ∧ ¬ zsame (zact (zE A k) (zE A j)) (zact (zE A j) (zE A k)))) → zW mX9_commute d 0 0 Q 25 [zR y, zI k, zI j, zI b, zI p, v5, v6, v7, v8] [] sp me1 by
        exact H 11 0 1 zU zU zU zU (by omega) (by omega) (by omega) rfl rfl rfl rfl (Or.inl ⟨rfl, fun q q0 q1 => by omega⟩)
      intro n
      induction n with
      | zero => intro p b v5 v6 v7 v8 h0 h1 h2; omega
      | succ n ih =>
      intro p b v5 v6 v7 v8 hp0 hp1 hp2 hv5 hv6 hv7 hv8 hb
      refine z_L4I (pc' := 27) dX9_commute_25 rfl ?_
      refine z_bipush (pc' := 29) dX9_commute_27 rfl (by decide) ?_
      refine z_icmp_ge (tgt := 168) (pc' := 32) dX9_commute_29 (by decide) rfl (fun h29 => ?_) (fun h29 => ?_)
      · refine z_L3I (pc' := 169) dX9_commute_168 rfl ?_
        refine z_if_eq (tgt := 176) (pc' := 172) dX9_commute_169 (by decide) rfl (fun h169 => ?_) (fun h169 => ?_)
        · refine z_iconst (pc' := 177) dX9_commute_176 rfl (by unfold zin; decide) ?_
          refine z_ireturn rfl rfl dX9_commute_177 ?_
          obtain rfl : p = 10 := by omega
          first
          | (rw [zif_pos (hiff.2 (hb.resolve_right (fun z => h169 z.1)).2)] at hQ
             exact hQ me1 (hq.mx hX) hq.fr)
          | (rw [zif_neg (hb.resolve_left (fun z => by omega)).2] at hQ
             exact hQ me1 (hq.mx hX) hq.fr)
        · refine z_iconst (pc' := 173) dX9_commute_172 rfl (by unfold zin; decide) ?_
          refine z_goto (tgt := 177) dX9_commute_173 (by decide) ?_
          refine z_ireturn rfl rfl dX9_commute_177 ?_
          obtain rfl : p = 10 := by omega
          first
          | (rw [zif_pos (hiff.2 (hb.resolve_right (fun z => h169 z.1)).2)] at hQ
             exact hQ me1 (hq.mx hX) hq.fr)
          | (rw [zif_neg (hb.resolve_left (fun z => by omega)).2] at hQ
             exact hQ me1 (hq.mx hX) hq.fr)
      · have hkp := zpl_ok hgE hp0 (show p < 10 by omega)
        have hjp := zpl_ok hgJ hp0 (show p < 10 by omega)
        have f1 := hgE.1 _ hkp.1 hkp.2.1
        have f2 := hgJ.1 _ hjp.1 hjp.2.1
        have hjk := zpl_ok hgJ hkp.1 hkp.2.1
        have hkj := zpl_ok hgE hjp.1 hjp.2.1
        have f3 := hgJ.1 _ hjk.1 hjk.2.1
        have f4 := hgE.1 _ hkj.1 hkj.2.1
        refine z_L0R (pc' := 33) dX9_commute_32 rfl ?_
        refine z_getR (pc' := 36) (ki := 19) 19 fX9_53.l rfl rfl dX9_commute_33 rfl hy.s hy.p19 ?_
        refine z_bipush (pc' := 38) dX9_commute_36 rfl (by decide) ?_
        refine z_L1I (pc' := 39) dX9_commute_38 rfl ?_
        refine z_imul (pc' := 40) dX9_commute_39 rfl (by unfold zin; omega) ?_
        refine z_L4I (pc' := 42) dX9_commute_40 rfl ?_
        refine z_iadd (pc' := 43) dX9_commute_42 rfl (by unfold zin; omega) ?_
        refine z_ild (pc' := 44) dX9_commute_43 rfl hy.a15 (by omega) (by omega) ?_
        rw [(hpk p hp0 (by omega)).1]
        refine z_S5I (pc' := 46) rfl dX9_commute_44 rfl ?_
        refine z_L0R (pc' := 47) dX9_commute_46 rfl ?_
        refine z_getR (pc' := 50) (ki := 19) 19 fX9_53.l rfl rfl dX9_commute_47 rfl hy.s hy.p19 ?_
        refine z_bipush (pc' := 52) dX9_commute_50 rfl (by decide) ?_
        refine z_L2I (pc' := 53) dX9_commute_52 rfl ?_
        refine z_imul (pc' := 54) dX9_commute_53 rfl (by unfold zin; omega) ?_
        refine z_L4I (pc' := 56) dX9_commute_54 rfl ?_
        refine z_iadd (pc' := 57) dX9_commute_56 rfl (by unfold zin; omega) ?_
        refine z_ild (pc' := 58) dX9_commute_57 rfl hy.a15 (by omega) (by omega) ?_
        rw [(hpj p hp0 (by omega)).1]
        refine z_S6I (pc' := 60) rfl dX9_commute_58 rfl ?_
        refine z_L0R (pc' := 61) dX9_commute_60 rfl ?_
        refine z_getR (pc' := 64) (ki := 20) 20 fX9_56.l rfl rfl dX9_commute_61 rfl hy.s hy.p20 ?_
        refine z_bipush (pc' := 66) dX9_commute_64 rfl (by decide) ?_
        refine z_L1I (pc' := 67) dX9_commute_66 rfl ?_
        refine z_imul (pc' := 68) dX9_commute_67 rfl (by unfold zin; omega) ?_
        refine z_L4I (pc' := 70) dX9_commute_68 rfl ?_
        refine z_iadd (pc' := 71) dX9_commute_70 rfl (by unfold zin; omega) ?_
        refine z_ild (pc' := 72) dX9_commute_71 rfl hy.a16 (by omega) (by omega) ?_
        rw [(hpk p hp0 (by omega)).2]
        refine z_L0R (pc' := 73) dX9_commute_72 rfl ?_
        refine z_getR (pc' := 76) (ki := 20) 20 fX9_56.l rfl rfl dX9_commute_73 rfl hy.s hy.p20 ?_
        refine z_bipush (pc' := 78) dX9_commute_76 rfl (by decide) ?_
        refine z_L2I (pc' := 79) dX9_commute_78 rfl ?_
        refine z_imul (pc' := 80) dX9_commute_79 rfl (by unfold zin; omega) ?_
        refine z_L5I (pc' := 82) dX9_commute_80 rfl ?_
        refine z_iadd (pc' := 83) dX9_commute_82 rfl (by unfold zin; omega) ?_
        refine z_ild (pc' := 84) dX9_commute_83 rfl hy.a16 (by omega) (by omega) ?_
        rw [(hpj _ hkp.1 hkp.2.1).2]
        refine z_iadd (pc' := 85) dX9_commute_84 rfl (by unfold zin; omega) ?_
        refine z_S7I (pc' := 87) rfl dX9_commute_85 rfl ?_
        refine z_L0R (pc' := 88) dX9_commute_87 rfl ?_
        refine z_getR (pc' := 91) (ki := 20) 20 fX9_56.l rfl rfl dX9_commute_88 rfl hy.s hy.p20 ?_
        refine z_bipush (pc' := 93) dX9_commute_91 rfl (by decide) ?_
        refine z_L2I (pc' := 94) dX9_commute_93 rfl ?_
        refine z_imul (pc' := 95) dX9_commute_94 rfl (by unfold zin; omega) ?_
        refine z_L4I (pc' := 97) dX9_commute_95 rfl ?_
        refine z_iadd (pc' := 98) dX9_commute_97 rfl (by unfold zin; omega) ?_
        refine z_ild (pc' := 99) dX9_commute_98 rfl hy.a16 (by omega) (by omega) ?_
        rw [(hpj p hp0 (by omega)).2]
        refine z_L0R (pc' := 100) dX9_commute_99 rfl ?_
        refine z_getR (pc' := 103) (ki := 20) 20 fX9_56.l rfl rfl dX9_commute_100 rfl hy.s hy.p20 ?_
        refine z_bipush (pc' := 105) dX9_commute_103 rfl (by decide) ?_
        refine z_L1I (pc' := 106) dX9_commute_105 rfl ?_
        refine z_imul (pc' := 107) dX9_commute_106 rfl (by unfold zin; omega) ?_
        refine z_L6I (pc' := 109) dX9_commute_107 rfl ?_
        refine z_iadd (pc' := 110) dX9_commute_109 rfl (by unfold zin; omega) ?_
        refine z_ild (pc' := 111) dX9_commute_110 rfl hy.a16 (by omega) (by omega) ?_
        rw [(hpk _ hjp.1 hjp.2.1).2]
        refine z_iadd (pc' := 112) dX9_commute_111 rfl (by unfold zin; omega) ?_
        refine z_S8I (pc' := 114) rfl dX9_commute_112 rfl ?_
        refine z_L3I (pc' := 115) dX9_commute_114 rfl ?_
        refine z_if_eq (tgt := 160) (pc' := 118) dX9_commute_115 (by decide) rfl (fun h115 => ?_) (fun h115 => ?_)
        · refine z_iconst (pc' := 161) dX9_commute_160 rfl (by unfold zin; decide) ?_
          refine z_S3I (pc' := 162) rfl dX9_commute_161 rfl ?_
          refine z_inc4 (pc' := 165) rfl dX9_commute_162 rfl (by unfold zin; omega) ?_
          refine z_goto (tgt := 25) dX9_commute_165 (by decide) ?_
          refine ih (p + 1) _ _ _ _ _ (by omega) (by omega) (by omega) rfl rfl rfl rfl ?_
          first
          | exact Or.inl ⟨rfl, zall_up (hb.resolve_right (fun z => h115 z.1)).2 ⟨h142, h153⟩⟩
          | exact Or.inr ⟨rfl, fun z => h153 (hiff.1 z p hp0 (by omega)).2⟩
          | exact Or.inr ⟨rfl, fun z => h142 (hiff.1 z p hp0 (by omega)).1⟩
          | exact Or.inr ⟨rfl, (hb.resolve_left (fun z => by omega)).2⟩
        · refine z_L0R (pc' := 119) dX9_commute_118 rfl ?_
          refine z_getR (pc' := 122) (ki := 19) 19 fX9_53.l rfl rfl dX9_commute_119 rfl hy.s hy.p19 ?_
          refine z_bipush (pc' := 124) dX9_commute_122 rfl (by decide) ?_
          refine z_L2I (pc' := 125) dX9_commute_124 rfl ?_
          refine z_imul (pc' := 126) dX9_commute_125 rfl (by unfold zin; omega) ?_
          refine z_L5I (pc' := 128) dX9_commute_126 rfl ?_
          refine z_iadd (pc' := 129) dX9_commute_128 rfl (by unfold zin; omega) ?_
          refine z_ild (pc' := 130) dX9_commute_129 rfl hy.a15 (by omega) (by omega) ?_
          rw [(hpj _ hkp.1 hkp.2.1).1]
          refine z_L0R (pc' := 131) dX9_commute_130 rfl ?_
          refine z_getR (pc' := 134) (ki := 19) 19 fX9_53.l rfl rfl dX9_commute_131 rfl hy.s hy.p19 ?_
          refine z_bipush (pc' := 136) dX9_commute_134 rfl (by decide) ?_
          refine z_L1I (pc' := 137) dX9_commute_136 rfl ?_
          refine z_imul (pc' := 138) dX9_commute_137 rfl (by unfold zin; omega) ?_
          refine z_L6I (pc' := 140) dX9_commute_138 rfl ?_
          refine z_iadd (pc' := 141) dX9_commute_140 rfl (by unfold zin; omega) ?_
          refine z_ild (pc' := 142) dX9_commute_141 rfl hy.a15 (by omega) (by omega) ?_
          rw [(hpk _ hjp.1 hjp.2.1).1]
          refine z_icmp_ne (tgt := 160) (pc' := 145) dX9_commute_142 (by decide) rfl (fun h142 => ?_) (fun h142 => ?_)
          · refine z_iconst (pc' := 161) dX9_commute_160 rfl (by unfold zin; decide) ?_
            refine z_S3I (pc' := 162) rfl dX9_commute_161 rfl ?_
            refine z_inc4 (pc' := 165) rfl dX9_commute_162 rfl (by unfold zin; omega) ?_
            refine z_goto (tgt := 25) dX9_commute_165 (by decide) ?_
            refine ih (p + 1) _ _ _ _ _ (by omega) (by omega) (by omega) rfl rfl rfl rfl ?_
            first
            | exact Or.inl ⟨rfl, zall_up (hb.resolve_right (fun z => h115 z.1)).2 ⟨h142, h153⟩⟩
            | exact Or.inr ⟨rfl, fun z => h153 (hiff.1 z p hp0 (by omega)).2⟩
            | exact Or.inr ⟨rfl, fun z => h142 (hiff.1 z p hp0 (by omega)).1⟩
            | exact Or.inr ⟨rfl, (hb.resolve_left (fun z => by omega)).2⟩
          · refine z_L7I (pc' := 147) dX9_commute_145 rfl ?_
            refine z_iconst (pc' := 148) dX9_commute_147 rfl (by unfold zin; decide) ?_
            refine z_irem (pc' := 149) dX9_commute_148 rfl (by omega) (by omega) ?_
            refine z_L8I (pc' := 151) dX9_commute_149 rfl ?_
            refine z_iconst (pc' := 152) dX9_commute_151 rfl (by unfold zin; decide) ?_
            refine z_irem (pc' := 153) dX9_commute_152 rfl (by omega) (by omega) ?_
            refine z_icmp_ne (tgt := 160) (pc' := 156) dX9_commute_153 (by decide) rfl (fun h153 => ?_) (fun h153 => ?_)
            · refine z_iconst (pc' := 161) dX9_commute_160 rfl (by unfold zin; decide) ?_
              refine z_S3I (pc' := 162) rfl dX9_commute_161 rfl ?_
              refine z_inc4 (pc' := 165) rfl dX9_commute_162 rfl (by unfold zin; omega) ?_
              refine z_goto (tgt := 25) dX9_commute_165 (by decide) ?_
              refine ih (p + 1) _ _ _ _ _ (by omega) (by omega) (by omega) rfl rfl rfl rfl ?_
              first
              | exact Or.inl ⟨rfl, zall_up (hb.resolve_right (fun z => h115 z.1)).2 ⟨h142, h153⟩⟩
              | exact Or.inr ⟨rfl, fun z => h153 (hiff.1 z p hp0 (by omega)).2⟩
              | exact Or.inr ⟨rfl, fun z => h142 (hiff.1 z p hp0 (by omega)).1⟩
              | exact Or.inr ⟨rfl, (hb.resolve_left (fun z => by omega)).2⟩
            · refine z_iconst (pc' := 157) dX9_commute_156 rfl (by unfold zin; decide) ?_
              refine z_goto (tgt := 161) dX9_commute_157 (by decide) ?_
              refine z_S3I (pc' := 162) rfl dX9_commute_161 rfl ?_
              refine z_inc4 (pc' := 165) rfl dX9_commute_162 rfl (by unfold zin; omega) ?_
              refine z_goto (tgt := 25) dX9_commute_165 (by decide) ?_
              refine ih (p + 1) _ _ _ _ _ (by omega) (by omega) (by omega) rfl rfl rfl rfl ?_
              first
              | exact Or.inl ⟨rfl, zall_up (hb.resolve_right (fun z => h115 z.1)).2 ⟨h142, h153⟩⟩
              | exact Or.inr ⟨rfl, fun z => h153 (hiff.1 z p hp0 (by omega)).2⟩
              | exact Or.inr ⟨rfl, fun z => h142 (hiff.1 z p hp0 (by omega)).1⟩
              | exact Or.inr ⟨rfl, (hb.resolve_left (fun z => by omega)).2⟩
    · rw [zif_pos (by omega)] at hQ
      refine z_iconst (pc' := 15) dX9_commute_14 rfl (by unfold zin; decide) ?_
      refine z_ireturn rfl rfl dX9_commute_15 ?_
      exact hQ me hX zMF.rf
/-- where each dancer is, and how it faces -/
def zNw (me : zMe) (y : Nat) (R : zRg) : Prop := ∀ i, 0 ≤ i → i < 10 → me (y + 17) i = zpl R.1 i ∧ me (y + 17) (10 + i) = R.2 (zpl R.1 i)
set_option maxRecDepth 100000 in
set_option maxHeartbeats 1000000 in
theorem m_begin {d : Nat} {sp : zSP} {me : zMe} {Q : zQ} {y : Nat} {w f : Int → Int} (hd : 1 ≤ d) (hy : zMod sp y) (hg : zgR w f) (hw : ∀ p, 0 ≤ p → p < 10 → me (y + 1) p = w p) (hf : ∀ i, 0 ≤ i → i < 10 → me (y + 1) (10 + i) = f (zpl w i)) (hQ : ∀ me', zNw me' y (w, f) → (∀ a, a ≠ y + 17 → me' a = me a) → Q none sp me') : zCall mX9_begin d 0 0 [zR y] sp me Q := by
  refine z_met kX9_begin (by simp) (by simp) ?_
  show zW mX9_begin d 0 0 Q 0 [zR y, zU] [] sp me
  refine z_iconst (pc' := 1) dX9_begin_0 rfl (by unfold zin; decide) ?_
  refine z_S1I (pc' := 2) rfl dX9_begin_1 rfl ?_
  suffices H : ∀ (n : Nat) (i : Int) (me' : zMe), 0 ≤ i → i ≤ 10 → 10 - i < n → (∀ j, 0 ≤ j → j < i → me' (y + 17) j = zpl w j ∧ me' (y + 17) (10 + j) = f (zpl w j)) → (∀ a, a ≠ y + 17 → me' a = me a) → zW mX9_begin d 0 0 Q 2 [zR y, zI i] [] sp me' by
    exact H 11 0 me (by omega) (by omega) (by omega) (fun j j0 j1 => by omega) (fun _ _ => rfl)
  intro n
  induction n with
  | zero => intro i me' h0 h1 h2; omega
  | succ n ih =>
  intro i me' hi0 hi1 hi2 hN hF
  refine z_L1I (pc' := 3) dX9_begin_2 rfl ?_
  refine z_bipush (pc' := 5) dX9_begin_3 rfl (by decide) ?_
  refine z_icmp_ge (tgt := 43) (pc' := 8) dX9_begin_5 (by decide) rfl (fun h5 => ?_) (fun h5 => ?_)
  · refine z_return rfl rfl dX9_begin_43 ?_
    obtain rfl : i = 10 := by omega
    exact hQ me' hN hF
  · refine z_L0R (pc' := 9) dX9_begin_8 rfl ?_
    refine z_getR (pc' := 12) (ki := 21) 21 fX9_59.l rfl rfl dX9_begin_9 rfl hy.s hy.p21 ?_
    refine z_L1I (pc' := 13) dX9_begin_12 rfl ?_
    refine z_L0R (pc' := 14) dX9_begin_13 rfl ?_
    refine z_L1I (pc' := 15) dX9_begin_14 rfl ?_
    refine z_V1v (pc' := 18) (ci := 9) kX9_placeOf lX9_123 dX9_begin_15 rfl (by omega) (Nat.le_of_ble_eq_true rfl) (by decide) rfl hy.s ?_
    refine m_pl hy hg (by rw [hF _ (by omega)]; exact hw) hi0 (by omega) (zKv_i ?_)
    refine z_ist (pc' := 19) dX9_begin_18 rfl hy.a17 (by omega) (by omega) ?_
    refine z_L0R (pc' := 20) dX9_begin_19 rfl ?_
    refine z_getR (pc' := 23) (ki := 21) 21 fX9_59.l rfl rfl dX9_begin_20 rfl hy.s hy.p21 ?_
    refine z_bipush (pc' := 25) dX9_begin_23 rfl (by decide) ?_
    refine z_L1I (pc' := 26) dX9_begin_25 rfl ?_
    refine z_iadd (pc' := 27) dX9_begin_26 rfl (by unfold zin; omega) ?_
    refine z_L0R (pc' := 28) dX9_begin_27 rfl ?_
    refine z_getR (pc' := 31) (ki := 0) 0 fX9_7.l rfl rfl dX9_begin_28 rfl hy.s hy.p0 ?_
    refine z_bipush (pc' := 33) dX9_begin_31 rfl (by decide) ?_
    refine z_L1I (pc' := 34) dX9_begin_33 rfl ?_
    refine z_iadd (pc' := 35) dX9_begin_34 rfl (by unfold zin; omega) ?_
    refine z_ild (pc' := 36) dX9_begin_35 rfl hy.a1 (by omega) (by omega) ?_
    rw [zset_ne _ _ _ (show y + 1 ≠ y + 17 by omega), hF (y + 1) (by omega), hf i hi0 (by omega)]
    refine z_ist (pc' := 37) dX9_begin_36 rfl hy.a17 (by omega) (by omega) ?_
    refine z_inc1 (pc' := 40) rfl dX9_begin_37 rfl (by unfold zin; omega) ?_
    refine z_goto (tgt := 2) dX9_begin_40 (by decide) ?_
    refine ih (i + 1) _ (by omega) (by omega) (by omega) (fun j j0 j1 => ?_) (fun a ha => by rw [zset_ne _ _ _ ha, zset_ne _ _ _ ha]; exact hF a ha)
    rw [zset_eq, zset_eq]
    by_cases e : j = i
    · subst e
      rw [zup_ne _ _ _ (by omega), zup_eq, zup_eq]
      exact ⟨rfl, rfl⟩
    · rw [zup_ne _ _ _ (by omega), zup_ne _ _ _ (by omega), zup_ne _ _ _ (by omega), zup_ne _ _ _ (by omega)]
      exact hN j j0 (by omega)
set_option maxRecDepth 100000 in
set_option maxHeartbeats 1000000 in
theorem m_apply {d : Nat} {sp : zSP} {me : zMe} {Q : zQ} {y : Nat} {k : Int} {R E : zRg} (hy : zMod sp y) (hk0 : 0 ≤ k) (hk1 : k < 8) (hR : zgR R.1 R.2) (hE : zgR E.1 E.2) (hN : zNw me y R) (hG : zGk me y k E) (hQ : ∀ me', zNw me' y (zact R E) → (∀ a, a ≠ y + 17 → me' a = me a) → Q none sp me') : zCall mX9_apply d 0 0 [zR y, zI k] sp me Q := by
  refine z_met kX9_apply (by simp) (by simp) ?_
  show zW mX9_apply d 0 0 Q 0 [zR y, zI k, zU, zU] [] sp me
  refine z_iconst (pc' := 1) dX9_apply_0 rfl (by unfold zin; decide) ?_
  refine z_S2I (pc' := 2) rfl dX9_apply_1 rfl ?_
  suffices H : ∀ (n : Nat) (i : Int) (v : zV) (me' : zMe), 0 ≤ i → i ≤ 10 → 10 - i < n → zndv v = true → (∀ j, 0 ≤ j → j < i → me' (y + 17) j = zpl (zact R E).1 j ∧ me' (y + 17) (10 + j) = (zact R E).2 (zpl (zact R E).1 j)) → (∀ j, i ≤ j → j < 10 → me' (y + 17) j = zpl R.1 j ∧ me' (y + 17) (10 + j) = R.2 (zpl R.1 j)) → (∀ a, a ≠ y + 17 → me' a = me a) → zW mX9_apply d 0 0 Q 2 [zR y, zI k, zI i, v] [] sp me' by
    exact H 11 0 zU me (by omega) (by omega) (by omega) rfl (fun j j0 j1 => by omega) hN (fun _ _ => rfl)
  intro n
  induction n with
  | zero => intro i v me' h0 h1 h2; omega
  | succ n ih =>
  intro i v me' hi0 hi1 hi2 hv hN1 hN2 hF
  refine z_L2I (pc' := 3) dX9_apply_2 rfl ?_
  refine z_bipush (pc' := 5) dX9_apply_3 rfl (by decide) ?_
  refine z_icmp_ge (tgt := 65) (pc' := 8) dX9_apply_5 (by decide) rfl (fun h5 => ?_) (fun h5 => ?_)
  · refine z_return rfl rfl dX9_apply_65 ?_
    obtain rfl : i = 10 := by omega
    exact hQ me' hN1 hF
  · have hii := hN2 i (Int.le_refl _) (by omega)
    have hp := zpl_ok hR hi0 (show i < 10 by omega)
    have hr := hR.1 _ hp.1 hp.2.1
    have hgp := zGk_pl (R := E) hE hG hp.1 hp.2.1
    have hq := zpl_ok hE hp.1 hp.2.1
    have he := hE.1 _ hq.1 hq.2.1
    have hac := zact_pl hR hE hi0 (show i < 10 by omega)
    refine z_bipush (pc' := 10) dX9_apply_8 rfl (by decide) ?_
    refine z_L1I (pc' := 11) dX9_apply_10 rfl ?_
    refine z_imul (pc' := 12) dX9_apply_11 rfl (by unfold zin; omega) ?_
    refine z_L0R (pc' := 13) dX9_apply_12 rfl ?_
    refine z_getR (pc' := 16) (ki := 21) 21 fX9_59.l rfl rfl dX9_apply_13 rfl hy.s hy.p21 ?_
    refine z_L2I (pc' := 17) dX9_apply_16 rfl ?_
    refine z_ild (pc' := 18) dX9_apply_17 rfl hy.a17 (by omega) (by omega) ?_
    rw [hii.1]
    refine z_iadd (pc' := 19) dX9_apply_18 rfl (by unfold zin; omega) ?_
    refine z_S3I (pc' := 20) rfl dX9_apply_19 rfl ?_
    refine z_L0R (pc' := 21) dX9_apply_20 rfl ?_
    refine z_getR (pc' := 24) (ki := 21) 21 fX9_59.l rfl rfl dX9_apply_21 rfl hy.s hy.p21 ?_
    refine z_bipush (pc' := 26) dX9_apply_24 rfl (by decide) ?_
    refine z_L2I (pc' := 27) dX9_apply_26 rfl ?_
    refine z_iadd (pc' := 28) dX9_apply_27 rfl (by unfold zin; omega) ?_
    refine z_L0R (pc' := 29) dX9_apply_28 rfl ?_
    refine z_getR (pc' := 32) (ki := 21) 21 fX9_59.l rfl rfl dX9_apply_29 rfl hy.s hy.p21 ?_
    refine z_bipush (pc' := 34) dX9_apply_32 rfl (by decide) ?_
    refine z_L2I (pc' := 35) dX9_apply_34 rfl ?_
    refine z_iadd (pc' := 36) dX9_apply_35 rfl (by unfold zin; omega) ?_
    refine z_ild (pc' := 37) dX9_apply_36 rfl hy.a17 (by omega) (by omega) ?_
    rw [hii.2]
    refine z_L0R (pc' := 38) dX9_apply_37 rfl ?_
    refine z_getR (pc' := 41) (ki := 20) 20 fX9_56.l rfl rfl dX9_apply_38 rfl hy.s hy.p20 ?_
    refine z_L3I (pc' := 42) dX9_apply_41 rfl ?_
    refine z_ild (pc' := 43) dX9_apply_42 rfl hy.a16 (by omega) (by omega) ?_
    rw [hF (y + 16) (by omega), hgp.2]
    refine z_iadd (pc' := 44) dX9_apply_43 rfl (by unfold zin; omega) ?_
    refine z_iconst (pc' := 45) dX9_apply_44 rfl (by unfold zin; decide) ?_
    refine z_irem (pc' := 46) dX9_apply_45 rfl (by omega) (by omega) ?_
    refine z_ist (pc' := 47) dX9_apply_46 rfl hy.a17 (by omega) (by omega) ?_
    refine z_L0R (pc' := 48) dX9_apply_47 rfl ?_
    refine z_getR (pc' := 51) (ki := 21) 21 fX9_59.l rfl rfl dX9_apply_48 rfl hy.s hy.p21 ?_
    refine z_L2I (pc' := 52) dX9_apply_51 rfl ?_
    refine z_L0R (pc' := 53) dX9_apply_52 rfl ?_
    refine z_getR (pc' := 56) (ki := 19) 19 fX9_53.l rfl rfl dX9_apply_53 rfl hy.s hy.p19 ?_
    refine z_L3I (pc' := 57) dX9_apply_56 rfl ?_
    refine z_ild (pc' := 58) dX9_apply_57 rfl hy.a15 (by omega) (by omega) ?_
    rw [zset_ne _ _ _ (show y + 15 ≠ y + 17 by omega), hF (y + 15) (by omega), hgp.1]
    refine z_ist (pc' := 59) dX9_apply_58 rfl hy.a17 (by omega) (by omega) ?_
    refine z_inc2 (pc' := 62) rfl dX9_apply_59 rfl (by unfold zin; omega) ?_
    refine z_goto (tgt := 2) dX9_apply_62 (by decide) ?_
    refine ih (i + 1) _ _ (by omega) (by omega) (by omega) rfl (fun j j0 j1 => ?_) (fun j j0 j1 => ?_) (fun a ha => by rw [zset_ne _ _ _ ha, zset_ne _ _ _ ha]; exact hF a ha)
    · rw [zset_eq, zset_eq]
      by_cases e : j = i
      · subst e
        rw [zup_eq, zup_ne _ _ _ (by omega), zup_eq, hac.1, hac.2]
        exact ⟨rfl, rfl⟩
      · rw [zup_ne _ _ _ (by omega), zup_ne _ _ _ (by omega), zup_ne _ _ _ (by omega), zup_ne _ _ _ (by omega)]
        exact hN1 j j0 (by omega)
    · rw [zset_eq, zset_eq, zup_ne _ _ _ (by omega), zup_ne _ _ _ (by omega), zup_ne _ _ _ (by omega), zup_ne _ _ _ (by omega)]
      exact hN2 j (by omega) j1
theorem zhm_nw {R : zRg} (hR : zgR R.1 R.2) : zhm R.1 R.2 ↔ ∀ i, 0 ≤ i → i < 10 → zpl R.1 i = i ∧ R.2 (zpl R.1 i) = 0 := by
  constructor
  · intro h i i0 i1
    have e := zpl_of hR i0 i1 (h i i0 i1).1
    rw [e]
    exact ⟨rfl, (h i i0 i1).2⟩
  · intro h i i0 i1
    have h1 := h i i0 i1
    have h2 := zpl_ok hR i0 i1
    have h3 := h2.2.2
    have h4 := h1.2
    rw [h1.1] at h3 h4
    exact ⟨h3, h4⟩
set_option maxRecDepth 100000 in
set_option maxHeartbeats 1000000 in
theorem m_isHome {d : Nat} {sp : zSP} {me : zMe} {Q : zQ} {y : Nat} {R : zRg} (hy : zMod sp y) (hR : zgR R.1 R.2) (hN : zNw me y R) (hQ : ∀ b, (b = 1 ∧ zhb R = true) ∨ (b = 0 ∧ ¬ zhb R = true) → Q (some (zI b)) sp me) : zCall mX9_isHome d 0 0 [zR y] sp me Q := by
  refine z_met kX9_isHome (by simp) (by simp) ?_
  show zW mX9_isHome d 0 0 Q 0 [zR y, zU, zU] [] sp me
  refine z_iconst (pc' := 1) dX9_isHome_0 rfl (by unfold zin; decide) ?_
  refine z_S1I (pc' := 2) rfl dX9_isHome_1 rfl ?_
  refine z_iconst (pc' := 3) dX9_isHome_2 rfl (by unfold zin; decide) ?_
  refine z_S2I (pc' := 4) rfl dX9_isHome_3 rfl ?_
  suffices H : ∀ (n : Nat) (i b : Int), 0 ≤ i → i ≤ 10 → 10 - i < n → ((b = 1 ∧ ∀ j, 0 ≤ j → j < i → (zpl R.1 j = j ∧ R.2 (zpl R.1 j) = 0)) ∨ (b = 0 ∧ ¬ zhm R.1 R.2)) → zW mX9_isHome d 0 0 Q 4 [zR y, zI b, zI i] [] sp me by
    exact H 11 0 1 (by omega) (by omega) (by omega) (Or.inl ⟨rfl, fun j j0 j1 => by omega⟩)
  intro n
  induction n with
  | zero => intro i b h0 h1 h2; omega
  | succ n ih =>
  intro i b hi0 hi1 hi2 hb
  refine z_L2I (pc' := 5) dX9_isHome_4 rfl ?_
  refine z_bipush (pc' := 7) dX9_isHome_5 rfl (by decide) ?_
  refine z_icmp_ge (tgt := 48) (pc' := 10) dX9_isHome_7 (by decide) rfl (fun h7 => ?_) (fun h7 => ?_)
  · obtain rfl : i = 10 := by omega
    refine z_L1I (pc' := 49) dX9_isHome_48 rfl ?_
    refine z_zreturn rfl rfl dX9_isHome_49 (by omega) ?_
    exact hQ b (by
      rcases hb with e | e
      · exact Or.inl ⟨e.1, zhb_iff.2 ((zhm_nw hR).2 e.2)⟩
      · exact Or.inr ⟨e.1, fun z => e.2 (zhb_iff.1 z)⟩)
  · refine z_L1I (pc' := 11) dX9_isHome_10 rfl ?_
    refine z_if_eq (tgt := 40) (pc' := 14) dX9_isHome_11 (by decide) rfl (fun h11 => ?_) (fun h11 => ?_)
    · refine z_iconst (pc' := 41) dX9_isHome_40 rfl (by unfold zin; decide) ?_
      refine z_S1I (pc' := 42) rfl dX9_isHome_41 rfl ?_
      refine z_inc2 (pc' := 45) rfl dX9_isHome_42 rfl (by unfold zin; omega) ?_
      refine z_goto (tgt := 4) dX9_isHome_45 (by decide) ?_
      refine ih (i + 1) _ (by omega) (by omega) (by omega) ?_
      first
      | exact Or.inl ⟨rfl, zall_up (hb.resolve_right (fun z => h11 z.1)).2 ⟨h21, h33⟩⟩
      | exact Or.inr ⟨rfl, fun z => h33 ((zhm_nw hR).1 z i hi0 (by omega)).2⟩
      | exact Or.inr ⟨rfl, fun z => h21 ((zhm_nw hR).1 z i hi0 (by omega)).1⟩
      | exact Or.inr ⟨rfl, (hb.resolve_left (fun z => by omega)).2⟩
    · refine z_L0R (pc' := 15) dX9_isHome_14 rfl ?_
      refine z_getR (pc' := 18) (ki := 21) 21 fX9_59.l rfl rfl dX9_isHome_15 rfl hy.s hy.p21 ?_
      refine z_L2I (pc' := 19) dX9_isHome_18 rfl ?_
      refine z_ild (pc' := 20) dX9_isHome_19 rfl hy.a17 (by omega) (by omega) ?_
      rw [(hN i hi0 (by omega)).1]
      refine z_L2I (pc' := 21) dX9_isHome_20 rfl ?_
      refine z_icmp_ne (tgt := 40) (pc' := 24) dX9_isHome_21 (by decide) rfl (fun h21 => ?_) (fun h21 => ?_)
      · refine z_iconst (pc' := 41) dX9_isHome_40 rfl (by unfold zin; decide) ?_
        refine z_S1I (pc' := 42) rfl dX9_isHome_41 rfl ?_
        refine z_inc2 (pc' := 45) rfl dX9_isHome_42 rfl (by unfold zin; omega) ?_
        refine z_goto (tgt := 4) dX9_isHome_45 (by decide) ?_
        refine ih (i + 1) _ (by omega) (by omega) (by omega) ?_
        first
        | exact Or.inl ⟨rfl, zall_up (hb.resolve_right (fun z => h11 z.1)).2 ⟨h21, h33⟩⟩
        | exact Or.inr ⟨rfl, fun z => h33 ((zhm_nw hR).1 z i hi0 (by omega)).2⟩
        | exact Or.inr ⟨rfl, fun z => h21 ((zhm_nw hR).1 z i hi0 (by omega)).1⟩
        | exact Or.inr ⟨rfl, (hb.resolve_left (fun z => by omega)).2⟩
      · refine z_L0R (pc' := 25) dX9_isHome_24 rfl ?_
        refine z_getR (pc' := 28) (ki := 21) 21 fX9_59.l rfl rfl dX9_isHome_25 rfl hy.s hy.p21 ?_
        refine z_bipush (pc' := 30) dX9_isHome_28 rfl (by decide) ?_
        refine z_L2I (pc' := 31) dX9_isHome_30 rfl ?_
        refine z_iadd (pc' := 32) dX9_isHome_31 rfl (by unfold zin; omega) ?_
        refine z_ild (pc' := 33) dX9_isHome_32 rfl hy.a17 (by omega) (by omega) ?_
        rw [(hN i hi0 (by omega)).2]
        refine z_if_ne (tgt := 40) (pc' := 36) dX9_isHome_33 (by decide) rfl (fun h33 => ?_) (fun h33 => ?_)
        · refine z_iconst (pc' := 41) dX9_isHome_40 rfl (by unfold zin; decide) ?_
          refine z_S1I (pc' := 42) rfl dX9_isHome_41 rfl ?_
          refine z_inc2 (pc' := 45) rfl dX9_isHome_42 rfl (by unfold zin; omega) ?_
          refine z_goto (tgt := 4) dX9_isHome_45 (by decide) ?_
          refine ih (i + 1) _ (by omega) (by omega) (by omega) ?_
          first
          | exact Or.inl ⟨rfl, zall_up (hb.resolve_right (fun z => h11 z.1)).2 ⟨h21, h33⟩⟩
          | exact Or.inr ⟨rfl, fun z => h33 ((zhm_nw hR).1 z i hi0 (by omega)).2⟩
          | exact Or.inr ⟨rfl, fun z => h21 ((zhm_nw hR).1 z i hi0 (by omega)).1⟩
          | exact Or.inr ⟨rfl, (hb.resolve_left (fun z => by omega)).2⟩
        · refine z_iconst (pc' := 37) dX9_isHome_36 rfl (by unfold zin; decide) ?_
          refine z_goto (tgt := 41) dX9_isHome_37 (by decide) ?_
          refine z_S1I (pc' := 42) rfl dX9_isHome_41 rfl ?_
          refine z_inc2 (pc' := 45) rfl dX9_isHome_42 rfl (by unfold zin; omega) ?_
          refine z_goto (tgt := 4) dX9_isHome_45 (by decide) ?_
          refine ih (i + 1) _ (by omega) (by omega) (by omega) ?_
          first
          | exact Or.inl ⟨rfl, zall_up (hb.resolve_right (fun z => h11 z.1)).2 ⟨h21, h33⟩⟩
          | exact Or.inr ⟨rfl, fun z => h33 ((zhm_nw hR).1 z i hi0 (by omega)).2⟩
          | exact Or.inr ⟨rfl, fun z => h21 ((zhm_nw hR).1 z i hi0 (by omega)).1⟩
          | exact Or.inr ⟨rfl, (hb.resolve_left (fun z => by omega)).2⟩
end ZMOH

