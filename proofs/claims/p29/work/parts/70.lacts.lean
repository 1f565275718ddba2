section ZL11
theorem gzhh_at {h : Int → Int} (hok : zHok h) {k : Int} (k0 : 0 ≤ k) (k1 : k < 10) : (0 ≤ zhh h k k → zhh h k k < 10) ∧ ((0 ≤ zhh h k k ∧ ¬ znb k (zhh h k k)) ↔ (k < h k ∧ ¬ (h k - k = 1 ∨ h k - k = 9))) ∧ (k < h k → zhh h k k = h k) := by
  have h1 := hok.1 k k0 k1
  unfold zhh znb
  refine ⟨?_, ?_, ?_⟩ <;> split <;> omega
theorem zut {A : zAb} {B : Int} (hI : zIA B A) : 0 ≤ qT0 A ∧ qT0 A ≤ B ∧ 0 ≤ qT1 A ∧ qT1 A ≤ B ∧ 0 ≤ qT2 A ∧ qT2 A ≤ B := by
  obtain ⟨⟨a1, a2, a3, a4, a5, a6, a7, a8⟩, _⟩ := hI
  exact ⟨a6.1, a6.2, a7.1, a7.2, a8.1, a8.2⟩
set_option maxRecDepth 100000 in
set_option maxHeartbeats 8000000 in
theorem l_acts_a {d : Nat} {sp : zSP} {me : zMe} {Q : zQ} {A : zAb} {B z kind : Int} (hd : 24 ≤ d) (hW : gLW sp) (hI : zIA B A) (hB : B ≤ 900000000) (hB0 : 0 ≤ B) (hR : gRR me A) (h6 : qS A 6 = 0) (h7 : qS A 7 = 0) (k0 : 0 ≤ kind) (k7 : kind < 8) (hQ : ∀ me' A', gRR me' A' → zIA (B + 100000) A' → qS A' 6 = 0 → qS A' 7 = 0 → Q (some (zI 1)) sp me') : zCall mL_acts d 0 0 [zR 1, zR 167, zR 168, zR 169, zR 170, zR 171, zR 172, zR 173, zI kind, zI z] sp me Q := by
  refine z_met kL_acts (by simp) (by simp) ?_
  show zW mL_acts d 0 0 Q 0 [zR 1, zR 167, zR 168, zR 169, zR 170, zR 171, zR 172, zR 173, zI kind, zI z, zU, zU, zU, zU, zU, zU, zU, zU, zU, zU, zU, zU] [] sp me
  have hW0 := hW
  obtain ⟨hx, hsz, hp, hf, hh, hm, ho, hc, ht, he, hg⟩ := hW
  have hok : zHok (qH A) := hI.1.2.1
  have hv : zfv (qS A) (qC A) := hI.1.2.2.2.1
  have hlm : zlim (qS A) (qC A) := hI.1.2.2.2.2.1
  have hgA : zgR (qW A) (qF A) := hI.1.1
  have hIm : zIA (B + 100000) A := zIA_mono hI (by omega)
  have hRX := hR
  obtain ⟨q1, q2, q3, q4, q5, q6, q7⟩ := hRX.2
  refine z_L8I (pc' := 2) dL_acts_0 rfl ?_
  have hcs : kind = 0 ∨ kind = 1 ∨ kind = 2 ∨ kind = 3 ∨ kind = 4 ∨ kind = 5 ∨ kind = 6 ∨ kind = 7 ∨ (kind < 0 ∨ 7 < kind) := by omega
  rcases hcs with hcs | hcs | hcs | hcs | hcs | hcs | hcs | hcs | hcs
  · subst hcs
    refine z_tswIn (tgt := 48) dL_acts_2 (by decide) (by decide) rfl (by decide) ?_
    refine z_L0R (pc' := 49) dL_acts_48 rfl ?_
    refine z_L4R (pc' := 51) dL_acts_49 rfl ?_
    refine z_L5R (pc' := 53) dL_acts_51 rfl ?_
    refine z_L6R (pc' := 55) dL_acts_53 rfl ?_
    refine z_L9I (pc' := 57) dL_acts_55 rfl ?_
    refine z_S5v (pc' := 60) kL_adds lL_126 dL_acts_57 rfl (by omega) (Nat.le_of_ble_eq_true rfl) ?_
    refine l_adds9 (by omega) hW0 hI hR h6 h7 (fun me1 A1 r1 r2 r3 r4 => zKv_i ?_)
    refine z_zreturn rfl rfl dL_acts_60 (by omega) ?_
    exact hQ me1 A1 r1 r2 r3 r4
  · subst hcs
    refine z_tswIn (tgt := 48) dL_acts_2 (by decide) (by decide) rfl (by decide) ?_
    refine z_L0R (pc' := 49) dL_acts_48 rfl ?_
    refine z_L4R (pc' := 51) dL_acts_49 rfl ?_
    refine z_L5R (pc' := 53) dL_acts_51 rfl ?_
    refine z_L6R (pc' := 55) dL_acts_53 rfl ?_
    refine z_L9I (pc' := 57) dL_acts_55 rfl ?_
    refine z_S5v (pc' := 60) kL_adds lL_126 dL_acts_57 rfl (by omega) (Nat.le_of_ble_eq_true rfl) ?_
    refine l_adds9 (by omega) hW0 hI hR h6 h7 (fun me1 A1 r1 r2 r3 r4 => zKv_i ?_)
    refine z_zreturn rfl rfl dL_acts_60 (by omega) ?_
    exact hQ me1 A1 r1 r2 r3 r4
  · subst hcs
    refine z_tswIn (tgt := 48) dL_acts_2 (by decide) (by decide) rfl (by decide) ?_
    refine z_L0R (pc' := 49) dL_acts_48 rfl ?_
    refine z_L4R (pc' := 51) dL_acts_49 rfl ?_
    refine z_L5R (pc' := 53) dL_acts_51 rfl ?_
    refine z_L6R (pc' := 55) dL_acts_53 rfl ?_
    refine z_L9I (pc' := 57) dL_acts_55 rfl ?_
    refine z_S5v (pc' := 60) kL_adds lL_126 dL_acts_57 rfl (by omega) (Nat.le_of_ble_eq_true rfl) ?_
    refine l_adds9 (by omega) hW0 hI hR h6 h7 (fun me1 A1 r1 r2 r3 r4 => zKv_i ?_)
    refine z_zreturn rfl rfl dL_acts_60 (by omega) ?_
    exact hQ me1 A1 r1 r2 r3 r4
  · subst hcs
    refine z_tswIn (tgt := 48) dL_acts_2 (by decide) (by decide) rfl (by decide) ?_
    refine z_L0R (pc' := 49) dL_acts_48 rfl ?_
    refine z_L4R (pc' := 51) dL_acts_49 rfl ?_
    refine z_L5R (pc' := 53) dL_acts_51 rfl ?_
    refine z_L6R (pc' := 55) dL_acts_53 rfl ?_
    refine z_L9I (pc' := 57) dL_acts_55 rfl ?_
    refine z_S5v (pc' := 60) kL_adds lL_126 dL_acts_57 rfl (by omega) (Nat.le_of_ble_eq_true rfl) ?_
    refine l_adds9 (by omega) hW0 hI hR h6 h7 (fun me1 A1 r1 r2 r3 r4 => zKv_i ?_)
    refine z_zreturn rfl rfl dL_acts_60 (by omega) ?_
    exact hQ me1 A1 r1 r2 r3 r4
  · subst hcs
    refine z_tswIn (tgt := 61) dL_acts_2 (by decide) (by decide) rfl (by decide) ?_
    refine z_L9I (pc' := 63) dL_acts_61 rfl ?_
    refine z_bipush (pc' := 65) dL_acts_63 rfl (by decide) ?_
    refine z_S2v (pc' := 68) kL_low lL_113 dL_acts_65 rfl (by omega) (Nat.le_of_ble_eq_true rfl) ?_
    refine l_low (by decide) (zKv_i ?_)
    have bF := gLow_bd z (show (0 : Int) < 6 by decide)
    revert bF
    generalize gLow z 6 = F
    intro bF
    have hcF := (q3 F bF.1 (by omega)).1
    have hvF := hv F bF.1 (by omega)
    refine z_S10I (pc' := 70) rfl dL_acts_68 rfl ?_
    refine z_L6R (pc' := 72) dL_acts_70 rfl ?_
    refine z_L10I (pc' := 74) dL_acts_72 rfl ?_
    refine z_ild (pc' := 75) dL_acts_74 rfl hc (by omega) (by omega) ?_
    refine z_if_ne (tgt := 83) (pc' := 78) dL_acts_75 (by decide) rfl (fun h75 => ?_) (fun h75 => ?_)
    · refine z_L6R (pc' := 85) dL_acts_83 rfl ?_
      refine z_L10I (pc' := 87) dL_acts_85 rfl ?_
      refine z_ild (pc' := 88) dL_acts_87 rfl hc (by omega) (by omega) ?_
      refine z_iconst (pc' := 89) dL_acts_88 rfl (by unfold zin; decide) ?_
      refine z_isub (pc' := 90) dL_acts_89 rfl (by unfold zin; omega) ?_
      refine z_S11I (pc' := 92) rfl dL_acts_90 rfl ?_
      refine z_L6R (pc' := 94) dL_acts_92 rfl ?_
      refine z_L10I (pc' := 96) dL_acts_94 rfl ?_
      refine z_dup2 (pc' := 97) dL_acts_96 rfl ?_
      refine z_ild (pc' := 98) dL_acts_97 rfl hc (by omega) (by omega) ?_
      refine z_L11I (pc' := 100) dL_acts_98 rfl ?_
      refine z_if_ge (tgt := 107) (pc' := 103) dL_acts_100 (by decide) rfl (fun h100 => ?_) (fun h100 => ?_)
      · refine z_iconst (pc' := 108) dL_acts_107 rfl (by unfold zin; decide) ?_
        refine z_isub (pc' := 109) dL_acts_108 rfl (by unfold zin; omega) ?_
        refine z_ist (pc' := 110) dL_acts_109 rfl hc (by omega) (by omega) ?_
        refine z_L4R (pc' := 112) dL_acts_110 rfl ?_
        refine z_L5R (pc' := 114) dL_acts_112 rfl ?_
        refine z_L6R (pc' := 116) dL_acts_114 rfl ?_
        refine z_S30 (pc' := 119) kL_count lL_120 dL_acts_116 rfl (by omega) (Nat.le_of_ble_eq_true rfl) ?_
        refine l_count (sz := if qS A F = 0 then qS A else zup (qS A) F (qS A F - 1)) (cd := qC A) (by omega) hm ho hc (by decide) (by decide) (by
          by_cases e : qS A F = 0
          · rw [if_pos e]; exact hv
          · rw [if_neg e]; exact zfv_drop hv bF.1 (by omega) e) (fun k k0 k1 => ?_) (fun me4 hA4 hB4 hF4 => zK0_i ?_)
        · rw [zset_eq]
          have hk := q3 k k0 k1
          constructor
          · by_cases e : qS A F = 0
            · rw [if_pos e]
              by_cases e2 : k = F
              · subst e2; rw [zup_eq]; first | omega | (exfalso; omega)
              · rw [zup_ne _ _ _ e2]; exact hk.1
            · rw [if_neg e]
              by_cases e2 : k = F
              · subst e2; rw [zup_eq, zup_eq]; first | omega | (exfalso; omega)
              · rw [zup_ne _ _ _ e2, zup_ne _ _ _ e2]; exact hk.1
          · intro j j0 j1
            rw [gMv_cg (me := me) (zset_ne _ _ _ (by decide)) (zset_ne _ _ _ (by decide))]
            refine hk.2 j j0 ?_
            by_cases e : qS A F = 0
            · rw [if_pos e] at j1; exact j1
            · rw [if_neg e] at j1
              by_cases e2 : k = F
              · subst e2; rw [zup_eq] at j1; omega
              · rw [zup_ne _ _ _ e2] at j1; exact j1
        rw [zset_eq] at hA4
        have hfr4 : ∀ x, x ≠ 172 → me4 x = me x := fun x hx => by rw [hF4 x hx, zset_ne _ _ _ hx]
        have hX4 : zRX me4 1 A := zRX_congr (fun a h1 h2 => hfr4 a (by omega)) hR.1
        have hIA4 := zIA_drop (k := F) hI
        have hdr : (qS A F = 0 → zoDrop A F = (-4, A)) ∧ (qS A F ≠ 0 → zoDrop A F = (qS A F - 1, zdo A (qst (qW A) (qF A) (qH A) (qP A) (zup (qS A) F (qS A F - 1)) (qC A) (qT0 A) (qT1 A) (qT2 A)))) := by
          unfold zoDrop
          rw [zif_neg (by omega)]
          exact ⟨fun e => zif_pos e, fun e => zif_neg e⟩
        have hcd4 : gFg me4 170 171 172 (if qS A F = 0 then qS A else zup (qS A) F (qS A F - 1)) (qC A) := fun k k0 k1 => by
          have hk := q3 k k0 k1
          constructor
          · rw [hA4 k k0 k1]
            by_cases e : qS A F = 0
            · rw [if_pos e]
              by_cases e2 : k = F
              · subst e2; rw [zup_eq]; first | omega | (exfalso; omega)
              · rw [zup_ne _ _ _ e2]; exact hk.1
            · rw [if_neg e]
              by_cases e2 : k = F
              · subst e2; rw [zup_eq, zup_eq]; first | omega | (exfalso; omega)
              · rw [zup_ne _ _ _ e2, zup_ne _ _ _ e2]; exact hk.1
          · intro j j0 j1
            rw [gMv_cg (me := me) (hfr4 _ (by decide)) (hfr4 _ (by decide))]
            refine hk.2 j j0 ?_
            by_cases e : qS A F = 0
            · rw [if_pos e] at j1; exact j1
            · rw [if_neg e] at j1
              by_cases e2 : k = F
              · subst e2; rw [zup_eq] at j1; omega
              · rw [zup_ne _ _ _ e2] at j1; exact j1
        refine z_L0R (pc' := 120) dL_acts_119 rfl ?_
        refine z_L10I (pc' := 122) dL_acts_120 rfl ?_
        refine z_V1v (pc' := 125) (ci := 8) kX8_drop lL_130 dL_acts_122 rfl (by omega) (Nat.le_of_ble_eq_true rfl) (by decide) rfl hx.s ?_
        refine x_drop (by omega) hx hX4 hI (fun me5 hX5 hF5 => zKv_i ?_)
        have o5 : ∀ x, 167 ≤ x → me5 x = me4 x := fun x hx => hF5 x (Or.inr (by omega))
        have o5' : ∀ x, 167 ≤ x → x ≠ 172 → me5 x = me x := fun x h1 h2 => by rw [o5 x h1, hfr4 x h2]
        have hL5 : ∀ A', (qW A' = qW A ∧ qF A' = qF A ∧ qH A' = qH A ∧ qS A' = (if qS A F = 0 then qS A else zup (qS A) F (qS A F - 1)) ∧ qC A' = qC A ∧ qT0 A' = qT0 A ∧ qT1 A' = qT1 A ∧ qT2 A' = qT2 A) → zRX me5 1 A' → gRR me5 A' := fun A' ⟨w1, w2, w3, w4, w5, w6, w7, w8⟩ hXX => by
          refine ⟨hXX, ?_, ?_, ?_, ?_, ?_, ?_, ?_⟩
          · rw [w1, w2]; exact q1.fr (o5' _ (by decide) (by decide)) (o5' _ (by decide) (by decide))
          · rw [w3]; intro i i0 i1; rw [o5' 169 (by decide) (by decide)]; exact q2 i i0 i1
          · rw [w4, w5]; exact hcd4.cg (o5 _ (by decide)) (o5 _ (by decide)) (fun k _ _ => by rw [o5 _ (by decide)])
          · rw [w4, w5]; exact hB4.cg (o5 _ (by decide))
          · rw [w6, o5' _ (by decide) (by decide)]; exact q5
          · rw [w7, o5' _ (by decide) (by decide)]; exact q6
          · rw [w8, o5' _ (by decide) (by decide)]; exact q7
        have hfin : (zoDrop A F).1 = (if qS A F = 0 then -4 else qS A F - 1) ∧ Q (some (zI 1)) sp me5 := by
          by_cases e : qS A F = 0
          · rw [hdr.1 e] at hX5 ⊢
            exact ⟨(if_pos e).symm, hQ me5 A (hL5 A ⟨rfl, rfl, rfl, by rw [if_pos e], rfl, rfl, rfl, rfl⟩ hX5) hIm h6 h7⟩
          · rw [hdr.2 e] at hX5 hIA4 ⊢
            refine ⟨(if_neg e).symm, hQ me5 (zdo A (qst (qW A) (qF A) (qH A) (qP A) (zup (qS A) F (qS A F - 1)) (qC A) (qT0 A) (qT1 A) (qT2 A))) (hL5 (zdo A (qst (qW A) (qF A) (qH A) (qP A) (zup (qS A) F (qS A F - 1)) (qC A) (qT0 A) (qT1 A) (qT2 A))) ⟨rfl, rfl, rfl, by rw [if_neg e]; rfl, rfl, rfl, rfl, rfl⟩ hX5) hIA4 ?_ ?_⟩
            · show zup (qS A) F (qS A F - 1) 6 = 0
              rw [zup_ne _ _ _ (by omega)]; exact h6
            · show zup (qS A) F (qS A F - 1) 7 = 0
              rw [zup_ne _ _ _ (by omega)]; exact h7
        rw [hfin.1]
        have hv9 : (qS A F = 0 → (if qS A F = 0 then -4 else qS A F - 1) = -4) ∧ (qS A F ≠ 0 → (if qS A F = 0 then -4 else qS A F - 1) = qS A F - 1) := ⟨fun e => if_pos e, fun e => if_neg e⟩
        refine z_L11I (pc' := 127) dL_acts_125 rfl ?_
        refine z_icmp_ne (tgt := 134) (pc' := 130) dL_acts_127 (by decide) rfl (fun h127 => absurd h127 (by omega)) (fun h127 => ?_)
        refine z_iconst (pc' := 131) dL_acts_130 rfl (by unfold zin; decide) ?_
        refine z_goto (tgt := 135) dL_acts_131 (by decide) ?_
        refine z_zreturn rfl rfl dL_acts_135 (by omega) ?_
        exact hfin.2
      · refine z_iconst (pc' := 104) dL_acts_103 rfl (by unfold zin; decide) ?_
        refine z_goto (tgt := 108) dL_acts_104 (by decide) ?_
        refine z_isub (pc' := 109) dL_acts_108 rfl (by unfold zin; omega) ?_
        refine z_ist (pc' := 110) dL_acts_109 rfl hc (by omega) (by omega) ?_
        refine z_L4R (pc' := 112) dL_acts_110 rfl ?_
        refine z_L5R (pc' := 114) dL_acts_112 rfl ?_
        refine z_L6R (pc' := 116) dL_acts_114 rfl ?_
        refine z_S30 (pc' := 119) kL_count lL_120 dL_acts_116 rfl (by omega) (Nat.le_of_ble_eq_true rfl) ?_
        refine l_count (sz := if qS A F = 0 then qS A else zup (qS A) F (qS A F - 1)) (cd := qC A) (by omega) hm ho hc (by decide) (by decide) (by
          by_cases e : qS A F = 0
          · rw [if_pos e]; exact hv
          · rw [if_neg e]; exact zfv_drop hv bF.1 (by omega) e) (fun k k0 k1 => ?_) (fun me4 hA4 hB4 hF4 => zK0_i ?_)
        · rw [zset_eq]
          have hk := q3 k k0 k1
          constructor
          · by_cases e : qS A F = 0
            · rw [if_pos e]
              by_cases e2 : k = F
              · subst e2; rw [zup_eq]; first | omega | (exfalso; omega)
              · rw [zup_ne _ _ _ e2]; exact hk.1
            · rw [if_neg e]
              by_cases e2 : k = F
              · subst e2; rw [zup_eq, zup_eq]; first | omega | (exfalso; omega)
              · rw [zup_ne _ _ _ e2, zup_ne _ _ _ e2]; exact hk.1
          · intro j j0 j1
            rw [gMv_cg (me := me) (zset_ne _ _ _ (by decide)) (zset_ne _ _ _ (by decide))]
            refine hk.2 j j0 ?_
            by_cases e : qS A F = 0
            · rw [if_pos e] at j1; exact j1
            · rw [if_neg e] at j1
              by_cases e2 : k = F
              · subst e2; rw [zup_eq] at j1; omega
              · rw [zup_ne _ _ _ e2] at j1; exact j1
        rw [zset_eq] at hA4
        have hfr4 : ∀ x, x ≠ 172 → me4 x = me x := fun x hx => by rw [hF4 x hx, zset_ne _ _ _ hx]
        have hX4 : zRX me4 1 A := zRX_congr (fun a h1 h2 => hfr4 a (by omega)) hR.1
        have hIA4 := zIA_drop (k := F) hI
        have hdr : (qS A F = 0 → zoDrop A F = (-4, A)) ∧ (qS A F ≠ 0 → zoDrop A F = (qS A F - 1, zdo A (qst (qW A) (qF A) (qH A) (qP A) (zup (qS A) F (qS A F - 1)) (qC A) (qT0 A) (qT1 A) (qT2 A)))) := by
          unfold zoDrop
          rw [zif_neg (by omega)]
          exact ⟨fun e => zif_pos e, fun e => zif_neg e⟩
        have hcd4 : gFg me4 170 171 172 (if qS A F = 0 then qS A else zup (qS A) F (qS A F - 1)) (qC A) := fun k k0 k1 => by
          have hk := q3 k k0 k1
          constructor
          · rw [hA4 k k0 k1]
            by_cases e : qS A F = 0
            · rw [if_pos e]
              by_cases e2 : k = F
              · subst e2; rw [zup_eq]; first | omega | (exfalso; omega)
              · rw [zup_ne _ _ _ e2]; exact hk.1
            · rw [if_neg e]
              by_cases e2 : k = F
              · subst e2; rw [zup_eq, zup_eq]; first | omega | (exfalso; omega)
              · rw [zup_ne _ _ _ e2, zup_ne _ _ _ e2]; exact hk.1
          · intro j j0 j1
            rw [gMv_cg (me := me) (hfr4 _ (by decide)) (hfr4 _ (by decide))]
            refine hk.2 j j0 ?_
            by_cases e : qS A F = 0
            · rw [if_pos e] at j1; exact j1
            · rw [if_neg e] at j1
              by_cases e2 : k = F
              · subst e2; rw [zup_eq] at j1; omega
              · rw [zup_ne _ _ _ e2] at j1; exact j1
        refine z_L0R (pc' := 120) dL_acts_119 rfl ?_
        refine z_L10I (pc' := 122) dL_acts_120 rfl ?_
        refine z_V1v (pc' := 125) (ci := 8) kX8_drop lL_130 dL_acts_122 rfl (by omega) (Nat.le_of_ble_eq_true rfl) (by decide) rfl hx.s ?_
        refine x_drop (by omega) hx hX4 hI (fun me5 hX5 hF5 => zKv_i ?_)
        have o5 : ∀ x, 167 ≤ x → me5 x = me4 x := fun x hx => hF5 x (Or.inr (by omega))
        have o5' : ∀ x, 167 ≤ x → x ≠ 172 → me5 x = me x := fun x h1 h2 => by rw [o5 x h1, hfr4 x h2]
        have hL5 : ∀ A', (qW A' = qW A ∧ qF A' = qF A ∧ qH A' = qH A ∧ qS A' = (if qS A F = 0 then qS A else zup (qS A) F (qS A F - 1)) ∧ qC A' = qC A ∧ qT0 A' = qT0 A ∧ qT1 A' = qT1 A ∧ qT2 A' = qT2 A) → zRX me5 1 A' → gRR me5 A' := fun A' ⟨w1, w2, w3, w4, w5, w6, w7, w8⟩ hXX => by
          refine ⟨hXX, ?_, ?_, ?_, ?_, ?_, ?_, ?_⟩
          · rw [w1, w2]; exact q1.fr (o5' _ (by decide) (by decide)) (o5' _ (by decide) (by decide))
          · rw [w3]; intro i i0 i1; rw [o5' 169 (by decide) (by decide)]; exact q2 i i0 i1
          · rw [w4, w5]; exact hcd4.cg (o5 _ (by decide)) (o5 _ (by decide)) (fun k _ _ => by rw [o5 _ (by decide)])
          · rw [w4, w5]; exact hB4.cg (o5 _ (by decide))
          · rw [w6, o5' _ (by decide) (by decide)]; exact q5
          · rw [w7, o5' _ (by decide) (by decide)]; exact q6
          · rw [w8, o5' _ (by decide) (by decide)]; exact q7
        have hfin : (zoDrop A F).1 = (if qS A F = 0 then -4 else qS A F - 1) ∧ Q (some (zI 1)) sp me5 := by
          by_cases e : qS A F = 0
          · rw [hdr.1 e] at hX5 ⊢
            exact ⟨(if_pos e).symm, hQ me5 A (hL5 A ⟨rfl, rfl, rfl, by rw [if_pos e], rfl, rfl, rfl, rfl⟩ hX5) hIm h6 h7⟩
          · rw [hdr.2 e] at hX5 hIA4 ⊢
            refine ⟨(if_neg e).symm, hQ me5 (zdo A (qst (qW A) (qF A) (qH A) (qP A) (zup (qS A) F (qS A F - 1)) (qC A) (qT0 A) (qT1 A) (qT2 A))) (hL5 (zdo A (qst (qW A) (qF A) (qH A) (qP A) (zup (qS A) F (qS A F - 1)) (qC A) (qT0 A) (qT1 A) (qT2 A))) ⟨rfl, rfl, rfl, by rw [if_neg e]; rfl, rfl, rfl, rfl, rfl⟩ hX5) hIA4 ?_ ?_⟩
            · show zup (qS A) F (qS A F - 1) 6 = 0
              rw [zup_ne _ _ _ (by omega)]; exact h6
            · show zup (qS A) F (qS A F - 1) 7 = 0
              rw [zup_ne _ _ _ (by omega)]; exact h7
        rw [hfin.1]
        have hv9 : (qS A F = 0 → (if qS A F = 0 then -4 else qS A F - 1) = -4) ∧ (qS A F ≠ 0 → (if qS A F = 0 then -4 else qS A F - 1) = qS A F - 1) := ⟨fun e => if_pos e, fun e => if_neg e⟩
        refine z_L11I (pc' := 127) dL_acts_125 rfl ?_
        refine z_icmp_ne (tgt := 134) (pc' := 130) dL_acts_127 (by decide) rfl (fun h127 => absurd h127 (by omega)) (fun h127 => ?_)
        refine z_iconst (pc' := 131) dL_acts_130 rfl (by unfold zin; decide) ?_
        refine z_goto (tgt := 135) dL_acts_131 (by decide) ?_
        refine z_zreturn rfl rfl dL_acts_135 (by omega) ?_
        exact hfin.2
    · refine z_bipush (pc' := 80) dL_acts_78 rfl (by decide) ?_
      refine z_goto (tgt := 90) dL_acts_80 (by decide) ?_
      refine z_S11I (pc' := 92) rfl dL_acts_90 rfl ?_
      refine z_L6R (pc' := 94) dL_acts_92 rfl ?_
      refine z_L10I (pc' := 96) dL_acts_94 rfl ?_
      refine z_dup2 (pc' := 97) dL_acts_96 rfl ?_
      refine z_ild (pc' := 98) dL_acts_97 rfl hc (by omega) (by omega) ?_
      refine z_L11I (pc' := 100) dL_acts_98 rfl ?_
      refine z_if_ge (tgt := 107) (pc' := 103) dL_acts_100 (by decide) rfl (fun h100 => ?_) (fun h100 => ?_)
      · refine z_iconst (pc' := 108) dL_acts_107 rfl (by unfold zin; decide) ?_
        refine z_isub (pc' := 109) dL_acts_108 rfl (by unfold zin; omega) ?_
        refine z_ist (pc' := 110) dL_acts_109 rfl hc (by omega) (by omega) ?_
        refine z_L4R (pc' := 112) dL_acts_110 rfl ?_
        refine z_L5R (pc' := 114) dL_acts_112 rfl ?_
        refine z_L6R (pc' := 116) dL_acts_114 rfl ?_
        refine z_S30 (pc' := 119) kL_count lL_120 dL_acts_116 rfl (by omega) (Nat.le_of_ble_eq_true rfl) ?_
        refine l_count (sz := if qS A F = 0 then qS A else zup (qS A) F (qS A F - 1)) (cd := qC A) (by omega) hm ho hc (by decide) (by decide) (by
          by_cases e : qS A F = 0
          · rw [if_pos e]; exact hv
          · rw [if_neg e]; exact zfv_drop hv bF.1 (by omega) e) (fun k k0 k1 => ?_) (fun me4 hA4 hB4 hF4 => zK0_i ?_)
        · rw [zset_eq]
          have hk := q3 k k0 k1
          constructor
          · by_cases e : qS A F = 0
            · rw [if_pos e]
              by_cases e2 : k = F
              · subst e2; rw [zup_eq]; first | omega | (exfalso; omega)
              · rw [zup_ne _ _ _ e2]; exact hk.1
            · rw [if_neg e]
              by_cases e2 : k = F
              · subst e2; rw [zup_eq, zup_eq]; first | omega | (exfalso; omega)
              · rw [zup_ne _ _ _ e2, zup_ne _ _ _ e2]; exact hk.1
          · intro j j0 j1
            rw [gMv_cg (me := me) (zset_ne _ _ _ (by decide)) (zset_ne _ _ _ (by decide))]
            refine hk.2 j j0 ?_
            by_cases e : qS A F = 0
            · rw [if_pos e] at j1; exact j1
            · rw [if_neg e] at j1
              by_cases e2 : k = F
              · subst e2; rw [zup_eq] at j1; omega
              · rw [zup_ne _ _ _ e2] at j1; exact j1
        rw [zset_eq] at hA4
        have hfr4 : ∀ x, x ≠ 172 → me4 x = me x := fun x hx => by rw [hF4 x hx, zset_ne _ _ _ hx]
        have hX4 : zRX me4 1 A := zRX_congr (fun a h1 h2 => hfr4 a (by omega)) hR.1
        have hIA4 := zIA_drop (k := F) hI
        have hdr : (qS A F = 0 → zoDrop A F = (-4, A)) ∧ (qS A F ≠ 0 → zoDrop A F = (qS A F - 1, zdo A (qst (qW A) (qF A) (qH A) (qP A) (zup (qS A) F (qS A F - 1)) (qC A) (qT0 A) (qT1 A) (qT2 A)))) := by
          unfold zoDrop
          rw [zif_neg (by omega)]
          exact ⟨fun e => zif_pos e, fun e => zif_neg e⟩
        have hcd4 : gFg me4 170 171 172 (if qS A F = 0 then qS A else zup (qS A) F (qS A F - 1)) (qC A) := fun k k0 k1 => by
          have hk := q3 k k0 k1
          constructor
          · rw [hA4 k k0 k1]
            by_cases e : qS A F = 0
            · rw [if_pos e]
              by_cases e2 : k = F
              · subst e2; rw [zup_eq]; first | omega | (exfalso; omega)
              · rw [zup_ne _ _ _ e2]; exact hk.1
            · rw [if_neg e]
              by_cases e2 : k = F
              · subst e2; rw [zup_eq, zup_eq]; first | omega | (exfalso; omega)
              · rw [zup_ne _ _ _ e2, zup_ne _ _ _ e2]; exact hk.1
          · intro j j0 j1
            rw [gMv_cg (me := me) (hfr4 _ (by decide)) (hfr4 _ (by decide))]
            refine hk.2 j j0 ?_
            by_cases e : qS A F = 0
            · rw [if_pos e] at j1; exact j1
            · rw [if_neg e] at j1
              by_cases e2 : k = F
              · subst e2; rw [zup_eq] at j1; omega
              · rw [zup_ne _ _ _ e2] at j1; exact j1
        refine z_L0R (pc' := 120) dL_acts_119 rfl ?_
        refine z_L10I (pc' := 122) dL_acts_120 rfl ?_
        refine z_V1v (pc' := 125) (ci := 8) kX8_drop lL_130 dL_acts_122 rfl (by omega) (Nat.le_of_ble_eq_true rfl) (by decide) rfl hx.s ?_
        refine x_drop (by omega) hx hX4 hI (fun me5 hX5 hF5 => zKv_i ?_)
        have o5 : ∀ x, 167 ≤ x → me5 x = me4 x := fun x hx => hF5 x (Or.inr (by omega))
        have o5' : ∀ x, 167 ≤ x → x ≠ 172 → me5 x = me x := fun x h1 h2 => by rw [o5 x h1, hfr4 x h2]
        have hL5 : ∀ A', (qW A' = qW A ∧ qF A' = qF A ∧ qH A' = qH A ∧ qS A' = (if qS A F = 0 then qS A else zup (qS A) F (qS A F - 1)) ∧ qC A' = qC A ∧ qT0 A' = qT0 A ∧ qT1 A' = qT1 A ∧ qT2 A' = qT2 A) → zRX me5 1 A' → gRR me5 A' := fun A' ⟨w1, w2, w3, w4, w5, w6, w7, w8⟩ hXX => by
          refine ⟨hXX, ?_, ?_, ?_, ?_, ?_, ?_, ?_⟩
          · rw [w1, w2]; exact q1.fr (o5' _ (by decide) (by decide)) (o5' _ (by decide) (by decide))
          · rw [w3]; intro i i0 i1; rw [o5' 169 (by decide) (by decide)]; exact q2 i i0 i1
          · rw [w4, w5]; exact hcd4.cg (o5 _ (by decide)) (o5 _ (by decide)) (fun k _ _ => by rw [o5 _ (by decide)])
          · rw [w4, w5]; exact hB4.cg (o5 _ (by decide))
          · rw [w6, o5' _ (by decide) (by decide)]; exact q5
          · rw [w7, o5' _ (by decide) (by decide)]; exact q6
          · rw [w8, o5' _ (by decide) (by decide)]; exact q7
        have hfin : (zoDrop A F).1 = (if qS A F = 0 then -4 else qS A F - 1) ∧ Q (some (zI 1)) sp me5 := by
          by_cases e : qS A F = 0
          · rw [hdr.1 e] at hX5 ⊢
            exact ⟨(if_pos e).symm, hQ me5 A (hL5 A ⟨rfl, rfl, rfl, by rw [if_pos e], rfl, rfl, rfl, rfl⟩ hX5) hIm h6 h7⟩
          · rw [hdr.2 e] at hX5 hIA4 ⊢
            refine ⟨(if_neg e).symm, hQ me5 (zdo A (qst (qW A) (qF A) (qH A) (qP A) (zup (qS A) F (qS A F - 1)) (qC A) (qT0 A) (qT1 A) (qT2 A))) (hL5 (zdo A (qst (qW A) (qF A) (qH A) (qP A) (zup (qS A) F (qS A F - 1)) (qC A) (qT0 A) (qT1 A) (qT2 A))) ⟨rfl, rfl, rfl, by rw [if_neg e]; rfl, rfl, rfl, rfl, rfl⟩ hX5) hIA4 ?_ ?_⟩
            · show zup (qS A) F (qS A F - 1) 6 = 0
              rw [zup_ne _ _ _ (by omega)]; exact h6
            · show zup (qS A) F (qS A F - 1) 7 = 0
              rw [zup_ne _ _ _ (by omega)]; exact h7
        rw [hfin.1]
        have hv9 : (qS A F = 0 → (if qS A F = 0 then -4 else qS A F - 1) = -4) ∧ (qS A F ≠ 0 → (if qS A F = 0 then -4 else qS A F - 1) = qS A F - 1) := ⟨fun e => if_pos e, fun e => if_neg e⟩
        refine z_L11I (pc' := 127) dL_acts_125 rfl ?_
        refine z_icmp_ne (tgt := 134) (pc' := 130) dL_acts_127 (by decide) rfl (fun h127 => absurd h127 (by omega)) (fun h127 => ?_)
        refine z_iconst (pc' := 131) dL_acts_130 rfl (by unfold zin; decide) ?_
        refine z_goto (tgt := 135) dL_acts_131 (by decide) ?_
        refine z_zreturn rfl rfl dL_acts_135 (by omega) ?_
        exact hfin.2
      · refine z_iconst (pc' := 104) dL_acts_103 rfl (by unfold zin; decide) ?_
        refine z_goto (tgt := 108) dL_acts_104 (by decide) ?_
        refine z_isub (pc' := 109) dL_acts_108 rfl (by unfold zin; omega) ?_
        refine z_ist (pc' := 110) dL_acts_109 rfl hc (by omega) (by omega) ?_
        refine z_L4R (pc' := 112) dL_acts_110 rfl ?_
        refine z_L5R (pc' := 114) dL_acts_112 rfl ?_
        refine z_L6R (pc' := 116) dL_acts_114 rfl ?_
        refine z_S30 (pc' := 119) kL_count lL_120 dL_acts_116 rfl (by omega) (Nat.le_of_ble_eq_true rfl) ?_
        refine l_count (sz := if qS A F = 0 then qS A else zup (qS A) F (qS A F - 1)) (cd := qC A) (by omega) hm ho hc (by decide) (by decide) (by
          by_cases e : qS A F = 0
          · rw [if_pos e]; exact hv
          · rw [if_neg e]; exact zfv_drop hv bF.1 (by omega) e) (fun k k0 k1 => ?_) (fun me4 hA4 hB4 hF4 => zK0_i ?_)
        · rw [zset_eq]
          have hk := q3 k k0 k1
          constructor
          · by_cases e : qS A F = 0
            · rw [if_pos e]
              by_cases e2 : k = F
              · subst e2; rw [zup_eq]; first | omega | (exfalso; omega)
              · rw [zup_ne _ _ _ e2]; exact hk.1
            · rw [if_neg e]
              by_cases e2 : k = F
              · subst e2; rw [zup_eq, zup_eq]; first | omega | (exfalso; omega)
              · rw [zup_ne _ _ _ e2, zup_ne _ _ _ e2]; exact hk.1
          · intro j j0 j1
            rw [gMv_cg (me := me) (zset_ne _ _ _ (by decide)) (zset_ne _ _ _ (by decide))]
            refine hk.2 j j0 ?_
            by_cases e : qS A F = 0
            · rw [if_pos e] at j1; exact j1
            · rw [if_neg e] at j1
              by_cases e2 : k = F
              · subst e2; rw [zup_eq] at j1; omega
              · rw [zup_ne _ _ _ e2] at j1; exact j1
        rw [zset_eq] at hA4
        have hfr4 : ∀ x, x ≠ 172 → me4 x = me x := fun x hx => by rw [hF4 x hx, zset_ne _ _ _ hx]
        have hX4 : zRX me4 1 A := zRX_congr (fun a h1 h2 => hfr4 a (by omega)) hR.1
        have hIA4 := zIA_drop (k := F) hI
        have hdr : (qS A F = 0 → zoDrop A F = (-4, A)) ∧ (qS A F ≠ 0 → zoDrop A F = (qS A F - 1, zdo A (qst (qW A) (qF A) (qH A) (qP A) (zup (qS A) F (qS A F - 1)) (qC A) (qT0 A) (qT1 A) (qT2 A)))) := by
          unfold zoDrop
          rw [zif_neg (by omega)]
          exact ⟨fun e => zif_pos e, fun e => zif_neg e⟩
        have hcd4 : gFg me4 170 171 172 (if qS A F = 0 then qS A else zup (qS A) F (qS A F - 1)) (qC A) := fun k k0 k1 => by
          have hk := q3 k k0 k1
          constructor
          · rw [hA4 k k0 k1]
            by_cases e : qS A F = 0
            · rw [if_pos e]
              by_cases e2 : k = F
              · subst e2; rw [zup_eq]; first | omega | (exfalso; omega)
              · rw [zup_ne _ _ _ e2]; exact hk.1
            · rw [if_neg e]
              by_cases e2 : k = F
              · subst e2; rw [zup_eq, zup_eq]; first | omega | (exfalso; omega)
              · rw [zup_ne _ _ _ e2, zup_ne _ _ _ e2]; exact hk.1
          · intro j j0 j1
            rw [gMv_cg (me := me) (hfr4 _ (by decide)) (hfr4 _ (by decide))]
            refine hk.2 j j0 ?_
            by_cases e : qS A F = 0
            · rw [if_pos e] at j1; exact j1
            · rw [if_neg e] at j1
              by_cases e2 : k = F
              · subst e2; rw [zup_eq] at j1; omega
              · rw [zup_ne _ _ _ e2] at j1; exact j1
        refine z_L0R (pc' := 120) dL_acts_119 rfl ?_
        refine z_L10I (pc' := 122) dL_acts_120 rfl ?_
        refine z_V1v (pc' := 125) (ci := 8) kX8_drop lL_130 dL_acts_122 rfl (by omega) (Nat.le_of_ble_eq_true rfl) (by decide) rfl hx.s ?_
        refine x_drop (by omega) hx hX4 hI (fun me5 hX5 hF5 => zKv_i ?_)
        have o5 : ∀ x, 167 ≤ x → me5 x = me4 x := fun x hx => hF5 x (Or.inr (by omega))
        have o5' : ∀ x, 167 ≤ x → x ≠ 172 → me5 x = me x := fun x h1 h2 => by rw [o5 x h1, hfr4 x h2]
        have hL5 : ∀ A', (qW A' = qW A ∧ qF A' = qF A ∧ qH A' = qH A ∧ qS A' = (if qS A F = 0 then qS A else zup (qS A) F (qS A F - 1)) ∧ qC A' = qC A ∧ qT0 A' = qT0 A ∧ qT1 A' = qT1 A ∧ qT2 A' = qT2 A) → zRX me5 1 A' → gRR me5 A' := fun A' ⟨w1, w2, w3, w4, w5, w6, w7, w8⟩ hXX => by
          refine ⟨hXX, ?_, ?_, ?_, ?_, ?_, ?_, ?_⟩
          · rw [w1, w2]; exact q1.fr (o5' _ (by decide) (by decide)) (o5' _ (by decide) (by decide))
          · rw [w3]; intro i i0 i1; rw [o5' 169 (by decide) (by decide)]; exact q2 i i0 i1
          · rw [w4, w5]; exact hcd4.cg (o5 _ (by decide)) (o5 _ (by decide)) (fun k _ _ => by rw [o5 _ (by decide)])
          · rw [w4, w5]; exact hB4.cg (o5 _ (by decide))
          · rw [w6, o5' _ (by decide) (by decide)]; exact q5
          · rw [w7, o5' _ (by decide) (by decide)]; exact q6
          · rw [w8, o5' _ (by decide) (by decide)]; exact q7
        have hfin : (zoDrop A F).1 = (if qS A F = 0 then -4 else qS A F - 1) ∧ Q (some (zI 1)) sp me5 := by
          by_cases e : qS A F = 0
          · rw [hdr.1 e] at hX5 ⊢
            exact ⟨(if_pos e).symm, hQ me5 A (hL5 A ⟨rfl, rfl, rfl, by rw [if_pos e], rfl, rfl, rfl, rfl⟩ hX5) hIm h6 h7⟩
          · rw [hdr.2 e] at hX5 hIA4 ⊢
            refine ⟨(if_neg e).symm, hQ me5 (zdo A (qst (qW A) (qF A) (qH A) (qP A) (zup (qS A) F (qS A F - 1)) (qC A) (qT0 A) (qT1 A) (qT2 A))) (hL5 (zdo A (qst (qW A) (qF A) (qH A) (qP A) (zup (qS A) F (qS A F - 1)) (qC A) (qT0 A) (qT1 A) (qT2 A))) ⟨rfl, rfl, rfl, by rw [if_neg e]; rfl, rfl, rfl, rfl, rfl⟩ hX5) hIA4 ?_ ?_⟩
            · show zup (qS A) F (qS A F - 1) 6 = 0
              rw [zup_ne _ _ _ (by omega)]; exact h6
            · show zup (qS A) F (qS A F - 1) 7 = 0
              rw [zup_ne _ _ _ (by omega)]; exact h7
        rw [hfin.1]
        have hv9 : (qS A F = 0 → (if qS A F = 0 then -4 else qS A F - 1) = -4) ∧ (qS A F ≠ 0 → (if qS A F = 0 then -4 else qS A F - 1) = qS A F - 1) := ⟨fun e => if_pos e, fun e => if_neg e⟩
        refine z_L11I (pc' := 127) dL_acts_125 rfl ?_
        refine z_icmp_ne (tgt := 134) (pc' := 130) dL_acts_127 (by decide) rfl (fun h127 => absurd h127 (by omega)) (fun h127 => ?_)
        refine z_iconst (pc' := 131) dL_acts_130 rfl (by unfold zin; decide) ?_
        refine z_goto (tgt := 135) dL_acts_131 (by decide) ?_
        refine z_zreturn rfl rfl dL_acts_135 (by omega) ?_
        exact hfin.2
  · subst hcs
    refine z_tswIn (tgt := 136) dL_acts_2 (by decide) (by decide) rfl (by decide) ?_
    refine z_L0R (pc' := 137) dL_acts_136 rfl ?_
    refine z_L1R (pc' := 138) dL_acts_137 rfl ?_
    refine z_L3R (pc' := 139) dL_acts_138 rfl ?_
    refine z_L9I (pc' := 141) dL_acts_139 rfl ?_
    refine z_S4v (pc' := 144) kL_holdsNow lL_133 dL_acts_141 rfl (by omega) (Nat.le_of_ble_eq_true rfl) ?_
    refine l_holdsNow9 (by omega) hW0 hI hR h6 h7 (fun me1 A1 r1 r2 r3 r4 => zKv_i ?_)
    refine z_zreturn rfl rfl dL_acts_144 (by omega) ?_
    exact hQ me1 A1 r1 r2 r3 r4
  · subst hcs
    refine z_tswIn (tgt := 145) dL_acts_2 (by decide) (by decide) rfl (by decide) ?_
    refine z_L9I (pc' := 147) dL_acts_145 rfl ?_
    refine z_bipush (pc' := 149) dL_acts_147 rfl (by decide) ?_
    refine z_S2v (pc' := 152) kL_low lL_113 dL_acts_149 rfl (by omega) (Nat.le_of_ble_eq_true rfl) ?_
    refine l_low (by decide) (zKv_i ?_)
    have bi := gLow_bd z (show (0 : Int) < 10 by decide)
    revert bi
    generalize gLow z 10 = i
    intro bi
    have hhi := q2 i bi.1 bi.2
    have hoi := hok.1 i bi.1 bi.2
    refine z_S12I (pc' := 154) rfl dL_acts_152 rfl ?_
    refine z_L3R (pc' := 155) dL_acts_154 rfl ?_
    refine z_L12I (pc' := 157) dL_acts_155 rfl ?_
    refine z_ild (pc' := 158) dL_acts_157 rfl hh (by omega) (by omega) ?_
    refine z_S13I (pc' := 160) rfl dL_acts_158 rfl ?_
    have keyR : ∀ me2 : zMe, (∀ x, x ≠ 169 → me2 x = me x) → (∀ q, 0 ≤ q → q < 10 → me2 169 q = (if qH A i = -5 then qH A else zup (zup (qH A) i (-5)) (qH A i) (-5)) q) → zW mL_acts d 0 0 Q 177 [zR 1, zR 167, zR 168, zR 169, zR 170, zR 171, zR 172, zR 173, zI 6, zI z, zU, zU, zI i, zI (me 169 i), zU, zU, zU, zU, zU, zU, zU, zU] [] sp me2 := fun me2 hF2 hH2 => by
      have hX2 : zRX me2 1 A := zRX_congr (fun a h1 h2 => hF2 a (by omega)) hR.1
      refine z_L0R (pc' := 178) dL_acts_177 rfl ?_
      refine z_L12I (pc' := 180) dL_acts_178 rfl ?_
      refine z_V1v (pc' := 183) (ci := 8) kX8_release lL_137 dL_acts_180 rfl (by omega) (Nat.le_of_ble_eq_true rfl) (by decide) rfl hx.s ?_
      refine x_release (by omega) hx hX2 hI (fun me3 hX3 hF3 => zKv_i ?_)
      have hrl : (qH A i = -5 → zoRelease A i = (-4, A)) ∧ (qH A i ≠ -5 → zoRelease A i = (qH A i, zdo A (qst (qW A) (qF A) (zup (zup (qH A) i (-5)) (qH A i) (-5)) (qP A - 1) (qS A) (qC A) (qT0 A) (qT1 A) (qT2 A)))) := by
        unfold zoRelease
        rw [zif_neg (by omega)]
        exact ⟨fun e => zif_pos e, fun e => zif_neg e⟩
      have hIA3 := zIA_release (i := i) hI
      have o3 : ∀ x, 167 ≤ x → x ≠ 169 → me3 x = me x := fun x h1 h2 => (hF3 x (Or.inr (by omega))).trans (hF2 x h2)
      have hH3 : ∀ q, 0 ≤ q → q < 10 → me3 169 q = (if qH A i = -5 then qH A else zup (zup (qH A) i (-5)) (qH A i) (-5)) q := fun q q0 q1 => by rw [hF3 169 (Or.inr (by decide))]; exact hH2 q q0 q1
      have hL3 : ∀ A', (qW A' = qW A ∧ qF A' = qF A ∧ qH A' = (if qH A i = -5 then qH A else zup (zup (qH A) i (-5)) (qH A i) (-5)) ∧ qS A' = qS A ∧ qC A' = qC A ∧ qT0 A' = qT0 A ∧ qT1 A' = qT1 A ∧ qT2 A' = qT2 A) → zRX me3 1 A' → gRR me3 A' := fun A' ⟨w1, w2, w3, w4, w5, w6, w7, w8⟩ hXX => by
        refine ⟨hXX, ?_, ?_, ?_, ?_, ?_, ?_, ?_⟩
        · rw [w1, w2]; exact q1.fr (o3 _ (by decide) (by decide)) (o3 _ (by decide) (by decide))
        · rw [w3]; exact hH3
        · rw [w4, w5]; exact q3.cg (o3 _ (by decide) (by decide)) (o3 _ (by decide) (by decide)) (fun k _ _ => by rw [o3 _ (by decide) (by decide)])
        · rw [w4, w5]; exact q4.cg (o3 _ (by decide) (by decide))
        · rw [w6, o3 _ (by decide) (by decide)]; exact q5
        · rw [w7, o3 _ (by decide) (by decide)]; exact q6
        · rw [w8, o3 _ (by decide) (by decide)]; exact q7
      have hfin : ((qH A i = -5 → (zoRelease A i).1 = -4) ∧ (qH A i ≠ -5 → (zoRelease A i).1 = qH A i)) ∧ Q (some (zI 1)) sp me3 := by
        by_cases e : qH A i = -5
        · rw [hrl.1 e] at hX3
          exact ⟨⟨fun _ => by rw [hrl.1 e], fun z => absurd e z⟩, hQ me3 A (hL3 A ⟨rfl, rfl, by rw [if_pos e], rfl, rfl, rfl, rfl, rfl⟩ hX3) hIm h6 h7⟩
        · rw [hrl.2 e] at hX3 hIA3
          exact ⟨⟨fun z => absurd z e, fun _ => by rw [hrl.2 e]⟩, hQ me3 (zdo A (qst (qW A) (qF A) (zup (zup (qH A) i (-5)) (qH A i) (-5)) (qP A - 1) (qS A) (qC A) (qT0 A) (qT1 A) (qT2 A))) (hL3 (zdo A (qst (qW A) (qF A) (zup (zup (qH A) i (-5)) (qH A i) (-5)) (qP A - 1) (qS A) (qC A) (qT0 A) (qT1 A) (qT2 A))) ⟨rfl, rfl, by rw [if_neg e]; rfl, rfl, rfl, rfl, rfl, rfl⟩ hX3) hIA3 h6 h7⟩
      have hf1 := hfin.1.1
      have hf2 := hfin.1.2
      refine z_L13I (pc' := 185) dL_acts_183 rfl ?_
      refine z_if_ge (tgt := 193) (pc' := 188) dL_acts_185 (by decide) rfl (fun h185 => ?_) (fun h185 => ?_)
      · refine z_L13I (pc' := 195) dL_acts_193 rfl ?_
        refine z_icmp_ne (tgt := 202) (pc' := 198) dL_acts_195 (by decide) rfl (fun h195 => absurd h195 (by omega)) (fun h195 => ?_)
        refine z_iconst (pc' := 199) dL_acts_198 rfl (by unfold zin; decide) ?_
        refine z_goto (tgt := 203) dL_acts_199 (by decide) ?_
        refine z_zreturn rfl rfl dL_acts_203 (by omega) ?_
        exact hfin.2
      · refine z_bipush (pc' := 190) dL_acts_188 rfl (by decide) ?_
        refine z_goto (tgt := 195) dL_acts_190 (by decide) ?_
        refine z_icmp_ne (tgt := 202) (pc' := 198) dL_acts_195 (by decide) rfl (fun h195 => absurd h195 (by omega)) (fun h195 => ?_)
        refine z_iconst (pc' := 199) dL_acts_198 rfl (by unfold zin; decide) ?_
        refine z_goto (tgt := 203) dL_acts_199 (by decide) ?_
        refine z_zreturn rfl rfl dL_acts_203 (by omega) ?_
        exact hfin.2
    refine z_L13I (pc' := 162) dL_acts_160 rfl ?_
    refine z_if_lt (tgt := 177) (pc' := 165) dL_acts_162 (by decide) rfl (fun h162 => ?_) (fun h162 => ?_)
    · first
      | (refine keyR me (fun _ _ => rfl) (fun q q0 q1 => ?_)
         rw [if_pos (by omega)]
         exact q2 q q0 q1)
      | (refine keyR _ (fun x hx => by rw [zset_ne _ _ _ hx, zset_ne _ _ _ hx]) (fun q q0 q1 => ?_)
         rw [if_neg (by omega), zset_eq, zset_eq, hhi]
         by_cases e1 : q = qH A i
         · rw [e1, zup_eq, zup_eq]
         · rw [zup_ne _ _ _ e1, zup_ne _ _ _ e1]
           by_cases e2 : q = i
           · rw [e2, zup_eq, zup_eq]
           · rw [zup_ne _ _ _ e2, zup_ne _ _ _ e2]
             exact q2 q q0 q1)
    · refine z_L3R (pc' := 166) dL_acts_165 rfl ?_
      refine z_L12I (pc' := 168) dL_acts_166 rfl ?_
      refine z_bipush (pc' := 170) dL_acts_168 rfl (by decide) ?_
      refine z_ist (pc' := 171) dL_acts_170 rfl hh (by omega) (by omega) ?_
      refine z_L3R (pc' := 172) dL_acts_171 rfl ?_
      refine z_L13I (pc' := 174) dL_acts_172 rfl ?_
      refine z_bipush (pc' := 176) dL_acts_174 rfl (by decide) ?_
      refine z_ist (pc' := 177) dL_acts_176 rfl hh (by omega) (by omega) ?_
      first
      | (refine keyR me (fun _ _ => rfl) (fun q q0 q1 => ?_)
         rw [if_pos (by omega)]
         exact q2 q q0 q1)
      | (refine keyR _ (fun x hx => by rw [zset_ne _ _ _ hx, zset_ne _ _ _ hx]) (fun q q0 q1 => ?_)
         rw [if_neg (by omega), zset_eq, zset_eq, hhi]
         by_cases e1 : q = qH A i
         · rw [e1, zup_eq, zup_eq]
         · rw [zup_ne _ _ _ e1, zup_ne _ _ _ e1]
           by_cases e2 : q = i
           · rw [e2, zup_eq, zup_eq]
           · rw [zup_ne _ _ _ e2, zup_ne _ _ _ e2]
             exact q2 q q0 q1)
  · subst hcs
    refine z_tswIn (tgt := 204) dL_acts_2 (by decide) (by decide) rfl (by decide) ?_
    refine z_bipush (pc' := 206) dL_acts_204 rfl (by decide) ?_
    refine z_L1R (pc' := 207) dL_acts_206 rfl ?_
    refine z_L2R (pc' := 208) dL_acts_207 rfl ?_
    refine z_iconst (pc' := 209) dL_acts_208 rfl (by unfold zin; decide) ?_
    refine z_S3v (pc' := 212) kL_home lL_39 dL_acts_209 rfl (by omega) (Nat.le_of_ble_eq_true rfl) ?_
    refine l_home hp hf (zKv_i ?_)
    rw [show gHome (me 167) (me 168) 1 = zhcnt (qW A) (qF A) from gHome_1 (R := (qW A, qF A)) hgA q1]
    have hcb9 : 0 ≤ zhcnt (qW A) (qF A) ∧ zhcnt (qW A) (qF A) ≤ 10 := by
      have := zSm_bd (g := fun p => if qW A p = p ∧ qF A p = 0 then 1 else 0) (a := 0) (b := 1) (fun p _ => by split <;> omega) 10 (by omega)
      unfold zhcnt
      omega
    have hut := zut hI
    refine z_isub (pc' := 213) dL_acts_212 rfl (by unfold zin; omega) ?_
    refine z_S14I (pc' := 215) rfl dL_acts_213 rfl ?_
    refine z_iconst (pc' := 216) dL_acts_215 rfl (by unfold zin; decide) ?_
    refine z_S15I (pc' := 218) rfl dL_acts_216 rfl ?_
    suffices HH : ∀ (n : Nat) (k : Int) (me2 : zMe), 0 ≤ k → k ≤ 10 → 10 - k < n → (∀ q, 0 ≤ q → q < k → me2 167 q = q ∧ me2 168 q = 0) → (∀ q, 0 ≤ q → q < 10 → me2 169 q = zhh (qH A) k q) → me2 173 0 = qT0 A → me2 173 1 = qT1 A → me2 173 2 = qT2 A + zhc (qH A) k → (∀ x, x ≠ 167 → x ≠ 168 → x ≠ 169 → x ≠ 173 → me2 x = me x) → zW mL_acts d 0 0 Q 218 [zR 1, zR 167, zR 168, zR 169, zR 170, zR 171, zR 172, zR 173, zI 7, zI z, zU, zU, zU, zU, zI (10 - zhcnt (qW A) (qF A)), zI k, zU, zU, zU, zU, zU, zU] [] sp me2 by
      refine HH 11 0 me (by omega) (by omega) (by omega) (fun q q0 q1 => by omega) (fun q q0 q1 => ?_) q5 q6 (by rw [q7]; show qT2 A = qT2 A + 0; omega) (fun _ _ _ _ _ => rfl)
      have h9 := hok.1 q q0 q1
      rw [q2 q q0 q1]
      unfold zhh
      rw [if_neg (by omega)]
    intro n
    induction n with
    | zero => intro k me2 h0 h1 h2; omega
    | succ n ih =>
    intro k me2 hk0 hk1 hk2 hP2 hH2 ht0 ht1 ht2 hF2
    have hzb := zSm_bd (g := fun i => if i < qH A i ∧ ¬ (qH A i - i = 1 ∨ qH A i - i = 9) then 1 else 0) (a := 0) (b := 1) (fun p _ => by split <;> omega) k hk0
    have hzc : 0 ≤ zhc (qH A) k ∧ zhc (qH A) k ≤ k := by unfold zhc; omega
    refine z_L15I (pc' := 220) dL_acts_218 rfl ?_
    refine z_bipush (pc' := 222) dL_acts_220 rfl (by decide) ?_
    refine z_icmp_ge (tgt := 283) (pc' := 225) dL_acts_222 (by decide) rfl (fun h222 => ?_) (fun h222 => ?_)
    · obtain rfl : k = 10 := by omega
      have hX2 : zRX me2 1 A := zRX_congr (fun a h1 h2 => hF2 a (by omega) (by omega) (by omega) (by omega)) hR.1
      have hIA2 := zIA_goHome hI
      refine z_L0R (pc' := 284) dL_acts_283 rfl ?_
      refine z_V0v (pc' := 287) (ci := 8) kX8_goHome lL_140 dL_acts_284 rfl (by omega) (Nat.le_of_ble_eq_true rfl) (by decide) rfl hx.s ?_
      refine x_goHome (by omega) hx hX2 hI hB (fun me3 hX3 hF3 => zKv_i ?_)
      rw [show (zoGoHome A).1 = 10 - zhcnt (qW A) (qF A) from rfl]
      have o3 : ∀ x, 167 ≤ x → me3 x = me2 x := fun x h1 => hF3 x (Or.inr (by omega))
      refine z_L14I (pc' := 289) dL_acts_287 rfl ?_
      refine z_icmp_ne (tgt := 296) (pc' := 292) dL_acts_289 (by decide) rfl (fun h289 => absurd h289 (by omega)) (fun h289 => ?_)
      refine z_iconst (pc' := 293) dL_acts_292 rfl (by unfold zin; decide) ?_
      refine z_goto (tgt := 297) dL_acts_293 (by decide) ?_
      refine z_zreturn rfl rfl dL_acts_297 (by omega) ?_
      refine hQ me3 (zoGoHome A).2 ⟨hX3, ?_, ?_, ?_, ?_, ?_, ?_, ?_⟩ hIA2 h6 h7
      · refine gdn_id (fun i i0 i1 => ?_) (fun i i0 i1 => ?_)
        · rw [o3 _ (by decide)]; exact (hP2 i i0 i1).1
        · rw [o3 _ (by decide)]; exact (hP2 i i0 i1).2
      · intro i i0 i1; rw [o3 169 (by decide)]; exact hH2 i i0 i1
      · exact q3.cg (by rw [o3 _ (by decide), hF2 _ (by decide) (by decide) (by decide) (by decide)]) (by rw [o3 _ (by decide), hF2 _ (by decide) (by decide) (by decide) (by decide)]) (fun k _ _ => by rw [o3 _ (by decide), hF2 _ (by decide) (by decide) (by decide) (by decide)])
      · exact q4.cg (by rw [o3 _ (by decide), hF2 _ (by decide) (by decide) (by decide) (by decide)])
      · rw [o3 _ (by decide)]; exact ht0
      · rw [o3 _ (by decide)]; exact ht1
      · rw [o3 _ (by decide)]; exact ht2
    · have hza := gzhh_at hok hk0 (show k < 10 by omega)
      have hup := zhc_up (qH A) k hk0
      have hok9 := hok.1 k hk0 (by omega)
      have hkey : ∀ me3 : zMe, (∀ q, 0 ≤ q → q < k + 1 → me3 167 q = q ∧ me3 168 q = 0) → (∀ x, x ≠ 167 → x ≠ 168 → me3 x = me2 x) → ¬ (k < qH A k ∧ ¬ (qH A k - k = 1 ∨ qH A k - k = 9)) → zW mL_acts d 0 0 Q 218 [zR 1, zR 167, zR 168, zR 169, zR 170, zR 171, zR 172, zR 173, zI 7, zI z, zU, zU, zU, zU, zI (10 - zhcnt (qW A) (qF A)), zI (k + 1), zU, zU, zU, zU, zU, zU] [] sp me3 := fun me3 hP3 hF3 hc3 => by
        rw [if_neg hc3, Int.add_zero] at hup
        refine ih (k + 1) me3 (by omega) (by omega) (by omega) hP3 (fun q q0 q1 => ?_) ?_ ?_ ?_ (fun x x1 x2 x3 x4 => by rw [hF3 x x1 x2]; exact hF2 x x1 x2 x3 x4)
        · rw [hF3 169 (by decide) (by decide), zhh_s0 hok hk0 (by omega) hc3]; exact hH2 q q0 q1
        · rw [hF3 173 (by decide) (by decide)]; exact ht0
        · rw [hF3 173 (by decide) (by decide)]; exact ht1
        · rw [hF3 173 (by decide) (by decide), hup]; exact ht2
      have hPn : ∀ q, 0 ≤ q → q < k + 1 → zup (me2 167) k k q = q ∧ zup (me2 168) k 0 q = 0 := fun q q0 q1 => by
        by_cases e : q = k
        · subst e; rw [zup_eq, zup_eq]; exact ⟨rfl, rfl⟩
        · rw [zup_ne _ _ _ e, zup_ne _ _ _ e]; exact hP2 q q0 (by omega)
      refine z_L1R (pc' := 226) dL_acts_225 rfl ?_
      refine z_L15I (pc' := 228) dL_acts_226 rfl ?_
      refine z_L15I (pc' := 230) dL_acts_228 rfl ?_
      refine z_ist (pc' := 231) dL_acts_230 rfl hp (by omega) (by omega) ?_
      refine z_L2R (pc' := 232) dL_acts_231 rfl ?_
      refine z_L15I (pc' := 234) dL_acts_232 rfl ?_
      refine z_iconst (pc' := 235) dL_acts_234 rfl (by unfold zin; decide) ?_
      refine z_ist (pc' := 236) dL_acts_235 rfl hf (by omega) (by omega) ?_
      refine z_L3R (pc' := 237) dL_acts_236 rfl ?_
      refine z_L15I (pc' := 239) dL_acts_237 rfl ?_
      refine z_ild (pc' := 240) dL_acts_239 rfl hh (by omega) (by omega) ?_
      rw [zset_ne _ _ _ (show (169 : Nat) ≠ 168 by decide), zset_ne _ _ _ (show (169 : Nat) ≠ 167 by decide), hH2 k hk0 (by omega)]
      refine z_if_lt (tgt := 277) (pc' := 243) dL_acts_240 (by decide) rfl (fun h240 => ?_) (fun h240 => ?_)
      · refine z_inc15 (pc' := 280) rfl dL_acts_277 rfl (by unfold zin; omega) ?_
        refine z_goto (tgt := 218) dL_acts_280 (by decide) ?_
        first
        | (refine hkey _ (fun q q0 q1 => ?_) (fun x x1 x2 => by rw [zset_ne _ _ _ x2, zset_ne _ _ _ x1]) (fun z => by have := (hza.2.1.2 z).1; omega)
           rw [zset_ne _ _ _ (show (167 : Nat) ≠ 168 by decide), zset_eq, zset_eq, zset_ne _ _ _ (show (168 : Nat) ≠ 167 by decide)]
           exact hPn q q0 q1)
        | (rw [if_pos hbr] at hup
           refine ih (k + 1) _ (by omega) (by omega) (by omega) (fun q q0 q1 => ?_) (fun q q0 q1 => ?_) ?_ ?_ ?_ (fun x x1 x2 x3 x4 => by rw [zset_ne _ _ _ x4, zset_ne _ _ _ x3, zset_ne _ _ _ x3, zset_ne _ _ _ x2, zset_ne _ _ _ x1]; exact hF2 x x1 x2 x3 x4)
           · rw [zset_ne _ _ _ (by decide), zset_ne _ _ _ (by decide), zset_ne _ _ _ (by decide), zset_ne _ _ _ (by decide), zset_eq, zset_ne _ _ _ (by decide), zset_ne _ _ _ (by decide), zset_ne _ _ _ (by decide), zset_eq, zset_ne _ _ _ (by decide)]
             exact hPn q q0 q1
           · rw [zset_ne _ _ _ (show (169 : Nat) ≠ 173 by decide), zset_eq, zset_eq, zset_ne _ _ _ (show (169 : Nat) ≠ 168 by decide), zset_ne _ _ _ (show (169 : Nat) ≠ 167 by decide), ← zhh_s1 hok hk0 (by omega) hbr]
             have h9 := hH2 q q0 q1
             by_cases e1 : q = k
             · subst e1
               rw [zup_eq, zup_ne _ _ _ (by omega), zup_eq]
             · rw [zup_ne _ _ _ e1]
               by_cases e2 : q = qH A k
               · rw [e2, zup_eq, zup_eq]
               · rw [zup_ne _ _ _ e2, zup_ne _ _ _ e2, zup_ne _ _ _ e1]
                 exact h9
           · rw [zset_eq, zup_ne _ _ _ (by decide), zset_ne _ _ _ (by decide), zset_ne _ _ _ (by decide), zset_ne _ _ _ (by decide), zset_ne _ _ _ (by decide)]; exact ht0
           · rw [zset_eq, zup_ne _ _ _ (by decide), zset_ne _ _ _ (by decide), zset_ne _ _ _ (by decide), zset_ne _ _ _ (by decide), zset_ne _ _ _ (by decide)]; exact ht1
           · rw [zset_eq, zup_eq, hup]; omega)
      · refine z_L15I (pc' := 245) dL_acts_243 rfl ?_
        refine z_L3R (pc' := 246) dL_acts_245 rfl ?_
        refine z_L15I (pc' := 248) dL_acts_246 rfl ?_
        refine z_ild (pc' := 249) dL_acts_248 rfl hh (by omega) (by omega) ?_
        refine z_S2v (pc' := 252) kL_near lL_15 dL_acts_249 rfl (by omega) (Nat.le_of_ble_eq_true rfl) ?_
        rw [zset_ne _ _ _ (show (169 : Nat) ≠ 168 by decide), zset_ne _ _ _ (show (169 : Nat) ≠ 167 by decide), hH2 k hk0 (by omega)]
        refine l_near hk0 (by omega) (by omega) (hza.1 (by omega)) (fun hn => zKv_i ?_) (fun hn => zKv_i ?_)
        · refine z_if_ne (tgt := 277) (pc' := 255) dL_acts_252 (by decide) rfl (fun z => ?_) (fun z => absurd z (by decide))
          refine z_inc15 (pc' := 280) rfl dL_acts_277 rfl (by unfold zin; omega) ?_
          refine z_goto (tgt := 218) dL_acts_280 (by decide) ?_
          refine hkey _ (fun q q0 q1 => ?_) (fun x x1 x2 => by rw [zset_ne _ _ _ x2, zset_ne _ _ _ x1]) (fun z => (hza.2.1.2 z).2 hn)
          rw [zset_ne _ _ _ (show (167 : Nat) ≠ 168 by decide), zset_eq, zset_eq, zset_ne _ _ _ (show (168 : Nat) ≠ 167 by decide)]
          exact hPn q q0 q1
        · refine z_if_ne (tgt := 277) (pc' := 255) dL_acts_252 (by decide) rfl (fun z => absurd rfl z) (fun z => ?_)
          have hbr := hza.2.1.1 ⟨by omega, hn⟩
          have hzk := hza.2.2 hbr.1
          refine z_L3R (pc' := 256) dL_acts_255 rfl ?_
          refine z_L3R (pc' := 257) dL_acts_256 rfl ?_
          refine z_L15I (pc' := 259) dL_acts_257 rfl ?_
          refine z_ild (pc' := 260) dL_acts_259 rfl hh (by omega) (by omega) ?_
          rw [zset_ne _ _ _ (show (169 : Nat) ≠ 168 by decide), zset_ne _ _ _ (show (169 : Nat) ≠ 167 by decide), hH2 k hk0 (by omega), hzk]
          refine z_bipush (pc' := 262) dL_acts_260 rfl (by decide) ?_
          refine z_ist (pc' := 263) dL_acts_262 rfl hh (by omega) (by omega) ?_
          refine z_L3R (pc' := 264) dL_acts_263 rfl ?_
          refine z_L15I (pc' := 266) dL_acts_264 rfl ?_
          refine z_bipush (pc' := 268) dL_acts_266 rfl (by decide) ?_
          refine z_ist (pc' := 269) dL_acts_268 rfl hh (by omega) (by omega) ?_
          refine z_L7R (pc' := 271) dL_acts_269 rfl ?_
          refine z_iconst (pc' := 272) dL_acts_271 rfl (by unfold zin; decide) ?_
          refine z_dup2 (pc' := 273) dL_acts_272 rfl ?_
          refine z_ild (pc' := 274) dL_acts_273 rfl ht (by omega) (by omega) ?_
          rw [zset_ne _ _ _ (show (173 : Nat) ≠ 169 by decide), zset_ne _ _ _ (show (173 : Nat) ≠ 169 by decide), zset_ne _ _ _ (show (173 : Nat) ≠ 168 by decide), zset_ne _ _ _ (show (173 : Nat) ≠ 167 by decide), ht2]
          refine z_iconst (pc' := 275) dL_acts_274 rfl (by unfold zin; decide) ?_
          refine z_iadd (pc' := 276) dL_acts_275 rfl (by unfold zin; omega) ?_
          refine z_ist (pc' := 277) dL_acts_276 rfl ht (by omega) (by omega) ?_
          refine z_inc15 (pc' := 280) rfl dL_acts_277 rfl (by unfold zin; omega) ?_
          refine z_goto (tgt := 218) dL_acts_280 (by decide) ?_
          first
          | (refine hkey _ (fun q q0 q1 => ?_) (fun x x1 x2 => by rw [zset_ne _ _ _ x2, zset_ne _ _ _ x1]) (fun z => by have := (hza.2.1.2 z).1; omega)
             rw [zset_ne _ _ _ (show (167 : Nat) ≠ 168 by decide), zset_eq, zset_eq, zset_ne _ _ _ (show (168 : Nat) ≠ 167 by decide)]
             exact hPn q q0 q1)
          | (rw [if_pos hbr] at hup
             refine ih (k + 1) _ (by omega) (by omega) (by omega) (fun q q0 q1 => ?_) (fun q q0 q1 => ?_) ?_ ?_ ?_ (fun x x1 x2 x3 x4 => by rw [zset_ne _ _ _ x4, zset_ne _ _ _ x3, zset_ne _ _ _ x3, zset_ne _ _ _ x2, zset_ne _ _ _ x1]; exact hF2 x x1 x2 x3 x4)
             · rw [zset_ne _ _ _ (by decide), zset_ne _ _ _ (by decide), zset_ne _ _ _ (by decide), zset_ne _ _ _ (by decide), zset_eq, zset_ne _ _ _ (by decide), zset_ne _ _ _ (by decide), zset_ne _ _ _ (by decide), zset_eq, zset_ne _ _ _ (by decide)]
               exact hPn q q0 q1
             · rw [zset_ne _ _ _ (show (169 : Nat) ≠ 173 by decide), zset_eq, zset_eq, zset_ne _ _ _ (show (169 : Nat) ≠ 168 by decide), zset_ne _ _ _ (show (169 : Nat) ≠ 167 by decide), ← zhh_s1 hok hk0 (by omega) hbr]
               have h9 := hH2 q q0 q1
               by_cases e1 : q = k
               · subst e1
                 rw [zup_eq, zup_ne _ _ _ (by omega), zup_eq]
               · rw [zup_ne _ _ _ e1]
                 by_cases e2 : q = qH A k
                 · rw [e2, zup_eq, zup_eq]
                 · rw [zup_ne _ _ _ e2, zup_ne _ _ _ e2, zup_ne _ _ _ e1]
                   exact h9
             · rw [zset_eq, zup_ne _ _ _ (by decide), zset_ne _ _ _ (by decide), zset_ne _ _ _ (by decide), zset_ne _ _ _ (by decide), zset_ne _ _ _ (by decide)]; exact ht0
             · rw [zset_eq, zup_ne _ _ _ (by decide), zset_ne _ _ _ (by decide), zset_ne _ _ _ (by decide), zset_ne _ _ _ (by decide), zset_ne _ _ _ (by decide)]; exact ht1
             · rw [zset_eq, zup_eq, hup]; omega)
        skip
  · refine z_tswOut (tgt := 298) dL_acts_2 (by omega) (by decide) ?_
    omega
end ZL11

