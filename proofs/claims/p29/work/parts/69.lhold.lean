section ZL10
theorem gRR.st {me me' : zMe} {A A' : zAb} (h : gRR me A) (hX : zRX me' 1 A') (h1 : gDn me' 167 168 (qW A', qF A')) (h2 : ∀ i, 0 ≤ i → i < 10 → me' 169 i = qH A' i) (h3 : gFg me' 170 171 172 (qS A') (qC A')) (h4 : gCt me' 172 (qS A') (qC A')) (h5 : me' 173 0 = qT0 A') (h6 : me' 173 1 = qT1 A') (h7 : me' 173 2 = qT2 A') : gRR me' A' := ⟨hX, h1, h2, h3, h4, h5, h6, h7⟩
set_option maxRecDepth 100000 in
set_option maxHeartbeats 8000000 in
theorem l_holdsNow9 {d : Nat} {sp : zSP} {me : zMe} {Q : zQ} {A : zAb} {B z : Int} (hd : 22 ≤ d) (hW : gLW sp) (hI : zIA B A) (hR : gRR me A) (h6 : qS A 6 = 0) (h7 : qS A 7 = 0) (hQ : ∀ me' A', gRR me' A' → zIA (B + 100000) A' → qS A' 6 = 0 → qS A' 7 = 0 → Q (some (zI 1)) sp me') : zCall mL_holdsNow d 0 0 [zR 1, zR 167, zR 169, zI z] sp me Q := by
  refine z_met kL_holdsNow (by simp) (by simp) ?_
  show zW mL_holdsNow d 0 0 Q 0 [zR 1, zR 167, zR 169, zI z, zU, zU, zU, zU, zU] [] sp me
  obtain ⟨hx, hsz, hp, hf, hh, hm, ho, hc, ht, he, hg⟩ := hW
  have hok : zHok (qH A) := hI.1.2.1
  have hIm : zIA (B + 100000) A := zIA_mono hI (by omega)
  refine z_L3I (pc' := 1) dL_holdsNow_0 rfl ?_
  refine z_bipush (pc' := 3) dL_holdsNow_1 rfl (by decide) ?_
  refine z_S2v (pc' := 6) kL_low lL_113 dL_holdsNow_3 rfl (by omega) (Nat.le_of_ble_eq_true rfl) ?_
  refine l_low (by decide) (zKv_i ?_)
  have bi := gLow_bd z (show (0 : Int) < 10 by decide)
  refine z_S4I (pc' := 8) rfl dL_holdsNow_6 rfl ?_
  revert bi
  generalize gLow z 10 = i
  intro bi
  have qi := hR.p hI bi.1 bi.2
  refine z_L3I (pc' := 9) dL_holdsNow_8 rfl ?_
  refine z_iconst (pc' := 10) dL_holdsNow_9 rfl (by unfold zin; decide) ?_
  refine z_ishra (pc' := 11) dL_holdsNow_10 rfl ?_
  refine z_iconst (pc' := 12) dL_holdsNow_11 rfl (by unfold zin; decide) ?_
  refine z_S2v (pc' := 15) kL_low lL_113 dL_holdsNow_12 rfl (by omega) (Nat.le_of_ble_eq_true rfl) ?_
  refine l_low (by decide) (zKv_i ?_)
  have key43 : ∀ (j : Int) (me1 : zMe), 0 ≤ j → j < 10 → gRR me1 A → zW mL_holdsNow d 0 0 Q 43 [zR 1, zR 167, zR 169, zI z, zI i, zU, zU, zU, zU] [zI j] sp me1 := fun j me1 j0 j1 hR1 => by
    have qi1 := hR1.p hI bi.1 bi.2
    have qj1 := hR1.p hI j0 j1
    have hoi := hok.1 i bi.1 bi.2
    have hoj := hok.1 j j0 j1
    refine z_S5I (pc' := 45) rfl dL_holdsNow_43 rfl ?_
    refine z_iconst (pc' := 46) dL_holdsNow_45 rfl (by unfold zin; decide) ?_
    refine z_S6I (pc' := 48) rfl dL_holdsNow_46 rfl ?_
    have key107 : ∀ (can : Int) (me2 : zMe) (H' : Int → Int), (∀ q, 0 ≤ q → q < 10 → me2 169 q = H' q) → (∀ x, x ≠ 169 → me2 x = me1 x) → ((can = 1 ∧ i ≠ j ∧ qH A i = -5 ∧ qH A j = -5 ∧ znb (zpl (qW A) i) (zpl (qW A) j) ∧ H' = zup (zup (qH A) i j) j i) ∨ (can = 0 ∧ ¬ (i ≠ j ∧ qH A i = -5 ∧ qH A j = -5 ∧ znb (zpl (qW A) i) (zpl (qW A) j)) ∧ H' = qH A)) → zW mL_holdsNow d 0 0 Q 107 [zR 1, zR 167, zR 169, zI z, zI i, zI j, zI 0, zI can, zU] [] sp me2 := fun can me2 H' hH2 hF2 hcan => by
      have hX2 : zRX me2 1 A := zRX_congr (fun a h1 h2 => hF2 a (by omega)) hR1.1
      refine z_iconst (pc' := 108) dL_holdsNow_107 rfl (by unfold zin; decide) ?_
      refine z_S8I (pc' := 110) rfl dL_holdsNow_108 rfl ?_
      suffices HH : ∀ (n : Nat) (k P : Int), 0 ≤ k → k ≤ 10 → 10 - k < n → P = zSm (fun q => if H' q < 0 then 0 else 1) k → zW mL_holdsNow d 0 0 Q 110 [zR 1, zR 167, zR 169, zI z, zI i, zI j, zI P, zI can, zI k] [] sp me2 by
        exact HH 11 0 0 (by omega) (by omega) (by omega) rfl
      intro n
      induction n with
      | zero => intro k P h0 h1 h2; omega
      | succ n ih =>
      intro k P hk0 hk1 hk2 hP
      have hbP := zSm_bd (g := fun q => if H' q < 0 then 0 else 1) (a := 0) (b := 1) (fun p _ => by split <;> omega) k hk0
      refine z_L8I (pc' := 112) dL_holdsNow_110 rfl ?_
      refine z_bipush (pc' := 114) dL_holdsNow_112 rfl (by decide) ?_
      refine z_icmp_ge (tgt := 140) (pc' := 117) dL_holdsNow_114 (by decide) rfl (fun h114 => ?_) (fun h114 => ?_)
      · obtain rfl : k = 10 := by omega
        have hR1X := hR1
        obtain ⟨q1, q2, q3, q4, q5, q6, q7⟩ := hR1X.2
        have eR : (can = 1 → (zoHold A i j).1 = P / 2 ∧ (zoHold A i j).2 = zdo A (qst (qW A) (qF A) H' (qP A + 1) (qS A) (qC A) (qT0 A) (qT1 A) (qT2 A))) ∧ (can = 0 → (zoHold A i j).1 = (if i = j then -2 else -4) ∧ (zoHold A i j).2 = A ∧ H' = qH A) := by
          rcases hcan with ⟨c1, c2, c3, c4, c5, c6⟩ | ⟨c1, c2, c3⟩
          · refine ⟨fun _ => ?_, fun z => by omega⟩
            have hok' := zHok_join hok bi.1 bi.2 j0 j1 c2 c3 c4
            have hpj := zpn_join (h := qH A) bi.1 bi.2 j0 j1 c2 c3 c4
            have hcnt := zpn_cnt hok'
            have hPP : P = zSm (fun q => if H' q ≠ -5 then 1 else 0) 10 := by
              rw [hP]
              refine zSm_congr _ (fun q q0 q1 => ?_)
              (try dsimp only)
              have h9 := hok'.1 q q0 q1
              rw [← c6] at h9
              (repeat' split) <;> omega
            rw [← c6, ← hPP] at hcnt
            have hpn : qP A = zpn (qH A) := hI.1.2.2.1
            rw [← c6] at hpj
            unfold zoHold
            rw [zif_neg (by omega), zif_neg c2, zif_neg (fun z => by rcases z with z | z | z; exact z c3; exact z c4; exact z c5)]
            refine ⟨?_, by rw [c6]⟩
            show qP A + 1 = P / 2
            omega
          · refine ⟨fun z => by omega, fun _ => ?_⟩
            unfold zoHold
            rw [zif_neg (by omega)]
            by_cases e : i = j
            · rw [zif_pos e, if_pos e]; exact ⟨rfl, rfl, c3⟩
            · rw [zif_neg e, if_neg e, zif_pos ?_]
              · exact ⟨rfl, rfl, c3⟩
              · by_cases d1 : qH A i = -5
                · by_cases d2 : qH A j = -5
                  · exact Or.inr (Or.inr (fun z => c2 ⟨e, d1, d2, z⟩))
                  · exact Or.inr (Or.inl d2)
                · exact Or.inl d1
        have hIA9 := zIA_hold (i := i) (j := j) hI
        refine z_L0R (pc' := 141) dL_holdsNow_140 rfl ?_
        refine z_L4I (pc' := 143) dL_holdsNow_141 rfl ?_
        refine z_L5I (pc' := 145) dL_holdsNow_143 rfl ?_
        refine z_V2v (pc' := 148) (ci := 8) kX8_hold lL_123 dL_holdsNow_145 rfl (by omega) (Nat.le_of_ble_eq_true rfl) (by decide) rfl hx.s ?_
        refine x_hold (by omega) hx hX2 hI (fun me3 hX3 hF3 => zKv_i ?_)
        have o3 : ∀ x, 167 ≤ x → x ≠ 169 → me3 x = me1 x := fun x h1 h2 => (hF3 x (Or.inr (by omega))).trans (hF2 x h2)
        have hH3 : ∀ q, 0 ≤ q → q < 10 → me3 169 q = H' q := fun q q0 q1 => by rw [hF3 169 (Or.inr (by decide))]; exact hH2 q q0 q1
        have hfin : ∀ A', (qW A' = qW A ∧ qF A' = qF A ∧ qH A' = H' ∧ qS A' = qS A ∧ qC A' = qC A ∧ qT0 A' = qT0 A ∧ qT1 A' = qT1 A ∧ qT2 A' = qT2 A) → zRX me3 1 A' → zIA (B + 100000) A' → Q (some (zI 1)) sp me3 := fun A' ⟨w1, w2, w3, w4, w5, w6, w7, w8⟩ hXX hII => by
          refine hQ me3 A' ⟨hXX, ?_, ?_, ?_, ?_, ?_, ?_, ?_⟩ hII (by rw [w4]; exact h6) (by rw [w4]; exact h7)
          · rw [w1, w2]; exact q1.fr (o3 _ (by decide) (by decide)) (o3 _ (by decide) (by decide))
          · rw [w3]; exact hH3
          · rw [w4, w5]; exact q3.cg (o3 _ (by decide) (by decide)) (o3 _ (by decide) (by decide)) (fun k _ _ => by rw [o3 _ (by decide) (by decide)])
          · rw [w4, w5]; exact q4.cg (o3 _ (by decide) (by decide))
          · rw [w6, o3 _ (by decide) (by decide)]; exact q5
          · rw [w7, o3 _ (by decide) (by decide)]; exact q6
          · rw [w8, o3 _ (by decide) (by decide)]; exact q7
        refine z_L7I (pc' := 150) dL_holdsNow_148 rfl ?_
        refine z_if_eq (tgt := 160) (pc' := 153) dL_holdsNow_150 (by decide) rfl (fun h150 => ?_) (fun h150 => ?_)
        · refine z_L4I (pc' := 162) dL_holdsNow_160 rfl ?_
          refine z_L5I (pc' := 164) dL_holdsNow_162 rfl ?_
          refine z_icmp_ne (tgt := 172) (pc' := 167) dL_holdsNow_164 (by decide) rfl (fun h164 => ?_) (fun h164 => ?_)
          · refine z_bipush (pc' := 174) dL_holdsNow_172 rfl (by decide) ?_
            have ev : ∀ v : Int, ((can = 1 ∧ v = P / 2) ∨ (can = 0 ∧ i = j ∧ v = -2) ∨ (can = 0 ∧ i ≠ j ∧ v = -4)) → (zoHold A i j).1 = v := fun v hv => by
              rcases hv with ⟨h1, h2⟩ | ⟨h1, h2, h3⟩ | ⟨h1, h2, h3⟩
              · rw [h2]; exact (eR.1 h1).1
              · rw [h3, (eR.2 h1).1, if_pos h2]
              · rw [h3, (eR.2 h1).1, if_neg h2]
            first
            | rw [ev (P / 2) (Or.inl ⟨by omega, rfl⟩)]
            | rw [ev (-2) (Or.inr (Or.inl ⟨by omega, by omega, rfl⟩))]
            | rw [ev (-4) (Or.inr (Or.inr ⟨by omega, by omega, rfl⟩))]
            refine z_icmp_ne (tgt := 181) (pc' := 177) dL_holdsNow_174 (by decide) rfl (fun h174 => absurd h174 (by omega)) (fun h174 => ?_)
            refine z_iconst (pc' := 178) dL_holdsNow_177 rfl (by unfold zin; decide) ?_
            refine z_goto (tgt := 182) dL_holdsNow_178 (by decide) ?_
            refine z_zreturn rfl rfl dL_holdsNow_182 (by omega) ?_
            rcases hcan with h | h
            · have e2 := (eR.1 h.1).2
              rw [e2] at hX3 hIA9
              exact hfin (zdo A (qst (qW A) (qF A) H' (qP A + 1) (qS A) (qC A) (qT0 A) (qT1 A) (qT2 A))) ⟨rfl, rfl, rfl, rfl, rfl, rfl, rfl, rfl⟩ hX3 hIA9
            · have e2 := (eR.2 h.1).2
              rw [e2.1] at hX3
              exact hfin A ⟨rfl, rfl, e2.2.symm, rfl, rfl, rfl, rfl, rfl⟩ hX3 hIm
          · refine z_bipush (pc' := 169) dL_holdsNow_167 rfl (by decide) ?_
            refine z_goto (tgt := 174) dL_holdsNow_169 (by decide) ?_
            have ev : ∀ v : Int, ((can = 1 ∧ v = P / 2) ∨ (can = 0 ∧ i = j ∧ v = -2) ∨ (can = 0 ∧ i ≠ j ∧ v = -4)) → (zoHold A i j).1 = v := fun v hv => by
              rcases hv with ⟨h1, h2⟩ | ⟨h1, h2, h3⟩ | ⟨h1, h2, h3⟩
              · rw [h2]; exact (eR.1 h1).1
              · rw [h3, (eR.2 h1).1, if_pos h2]
              · rw [h3, (eR.2 h1).1, if_neg h2]
            first
            | rw [ev (P / 2) (Or.inl ⟨by omega, rfl⟩)]
            | rw [ev (-2) (Or.inr (Or.inl ⟨by omega, by omega, rfl⟩))]
            | rw [ev (-4) (Or.inr (Or.inr ⟨by omega, by omega, rfl⟩))]
            refine z_icmp_ne (tgt := 181) (pc' := 177) dL_holdsNow_174 (by decide) rfl (fun h174 => absurd h174 (by omega)) (fun h174 => ?_)
            refine z_iconst (pc' := 178) dL_holdsNow_177 rfl (by unfold zin; decide) ?_
            refine z_goto (tgt := 182) dL_holdsNow_178 (by decide) ?_
            refine z_zreturn rfl rfl dL_holdsNow_182 (by omega) ?_
            rcases hcan with h | h
            · have e2 := (eR.1 h.1).2
              rw [e2] at hX3 hIA9
              exact hfin (zdo A (qst (qW A) (qF A) H' (qP A + 1) (qS A) (qC A) (qT0 A) (qT1 A) (qT2 A))) ⟨rfl, rfl, rfl, rfl, rfl, rfl, rfl, rfl⟩ hX3 hIA9
            · have e2 := (eR.2 h.1).2
              rw [e2.1] at hX3
              exact hfin A ⟨rfl, rfl, e2.2.symm, rfl, rfl, rfl, rfl, rfl⟩ hX3 hIm
        · refine z_L6I (pc' := 155) dL_holdsNow_153 rfl ?_
          refine z_iconst (pc' := 156) dL_holdsNow_155 rfl (by unfold zin; decide) ?_
          refine z_idiv (pc' := 157) dL_holdsNow_156 rfl (by omega) (by omega) ?_
          refine z_goto (tgt := 174) dL_holdsNow_157 (by decide) ?_
          have ev : ∀ v : Int, ((can = 1 ∧ v = P / 2) ∨ (can = 0 ∧ i = j ∧ v = -2) ∨ (can = 0 ∧ i ≠ j ∧ v = -4)) → (zoHold A i j).1 = v := fun v hv => by
            rcases hv with ⟨h1, h2⟩ | ⟨h1, h2, h3⟩ | ⟨h1, h2, h3⟩
            · rw [h2]; exact (eR.1 h1).1
            · rw [h3, (eR.2 h1).1, if_pos h2]
            · rw [h3, (eR.2 h1).1, if_neg h2]
          first
          | rw [ev (P / 2) (Or.inl ⟨by omega, rfl⟩)]
          | rw [ev (-2) (Or.inr (Or.inl ⟨by omega, by omega, rfl⟩))]
          | rw [ev (-4) (Or.inr (Or.inr ⟨by omega, by omega, rfl⟩))]
          refine z_icmp_ne (tgt := 181) (pc' := 177) dL_holdsNow_174 (by decide) rfl (fun h174 => absurd h174 (by omega)) (fun h174 => ?_)
          refine z_iconst (pc' := 178) dL_holdsNow_177 rfl (by unfold zin; decide) ?_
          refine z_goto (tgt := 182) dL_holdsNow_178 (by decide) ?_
          refine z_zreturn rfl rfl dL_holdsNow_182 (by omega) ?_
          rcases hcan with h | h
          · have e2 := (eR.1 h.1).2
            rw [e2] at hX3 hIA9
            exact hfin (zdo A (qst (qW A) (qF A) H' (qP A + 1) (qS A) (qC A) (qT0 A) (qT1 A) (qT2 A))) ⟨rfl, rfl, rfl, rfl, rfl, rfl, rfl, rfl⟩ hX3 hIA9
          · have e2 := (eR.2 h.1).2
            rw [e2.1] at hX3
            exact hfin A ⟨rfl, rfl, e2.2.symm, rfl, rfl, rfl, rfl, rfl⟩ hX3 hIm
      · have hhk := hH2 k hk0 (by omega)
        refine z_L6I (pc' := 119) dL_holdsNow_117 rfl ?_
        refine z_L2R (pc' := 120) dL_holdsNow_119 rfl ?_
        refine z_L8I (pc' := 122) dL_holdsNow_120 rfl ?_
        refine z_ild (pc' := 123) dL_holdsNow_122 rfl hh (by omega) (by omega) ?_
        refine z_if_lt (tgt := 130) (pc' := 126) dL_holdsNow_123 (by decide) rfl (fun h123 => ?_) (fun h123 => ?_)
        · refine z_iconst (pc' := 131) dL_holdsNow_130 rfl (by unfold zin; decide) ?_
          refine z_iadd (pc' := 132) dL_holdsNow_131 rfl (by unfold zin; omega) ?_
          refine z_S6I (pc' := 134) rfl dL_holdsNow_132 rfl ?_
          refine z_inc8 (pc' := 137) rfl dL_holdsNow_134 rfl (by unfold zin; omega) ?_
          refine z_goto (tgt := 110) dL_holdsNow_137 (by decide) ?_
          refine ih (k + 1) _ (by omega) (by omega) (by omega) ?_
          rw [zSm_up _ _ hk0, hP]
          (try dsimp only)
          split <;> omega
        · refine z_iconst (pc' := 127) dL_holdsNow_126 rfl (by unfold zin; decide) ?_
          refine z_goto (tgt := 131) dL_holdsNow_127 (by decide) ?_
          refine z_iadd (pc' := 132) dL_holdsNow_131 rfl (by unfold zin; omega) ?_
          refine z_S6I (pc' := 134) rfl dL_holdsNow_132 rfl ?_
          refine z_inc8 (pc' := 137) rfl dL_holdsNow_134 rfl (by unfold zin; omega) ?_
          refine z_goto (tgt := 110) dL_holdsNow_137 (by decide) ?_
          refine ih (k + 1) _ (by omega) (by omega) (by omega) ?_
          rw [zSm_up _ _ hk0, hP]
          (try dsimp only)
          split <;> omega
    have key90 : ∀ can : Int, ((can = 1 ∧ i ≠ j ∧ qH A i = -5 ∧ qH A j = -5 ∧ znb (zpl (qW A) i) (zpl (qW A) j)) ∨ (can = 0 ∧ ¬ (i ≠ j ∧ qH A i = -5 ∧ qH A j = -5 ∧ znb (zpl (qW A) i) (zpl (qW A) j)))) → zW mL_holdsNow d 0 0 Q 90 [zR 1, zR 167, zR 169, zI z, zI i, zI j, zI 0, zI can, zU] [] sp me1 := fun can hcan => by
      refine z_L7I (pc' := 92) dL_holdsNow_90 rfl ?_
      refine z_if_eq (tgt := 107) (pc' := 95) dL_holdsNow_92 (by decide) rfl (fun h92 => ?_) (fun h92 => ?_)
      · first
        | (refine key107 can me1 (qH A) (fun q q0 q1 => (hR1.p hI q0 q1).2.2.1) (fun _ _ => rfl) (Or.inr ⟨by omega, ?_, rfl⟩)
           rcases hcan with h | h
           · omega
           · exact h.2)
        | (rcases hcan with h | h
           · refine key107 can _ (zup (zup (qH A) i j) j i) (fun q q0 q1 => ?_) (fun x hx => by rw [zset_ne _ _ _ hx, zset_ne _ _ _ hx]) (Or.inl ⟨h.1, h.2.1, h.2.2.1, h.2.2.2.1, h.2.2.2.2, rfl⟩)
             rw [zset_eq, zset_eq]
             by_cases e1 : q = j
             · subst e1; rw [zup_eq, zup_eq]
             · rw [zup_ne _ _ _ e1, zup_ne _ _ _ e1]
               by_cases e2 : q = i
               · subst e2; rw [zup_eq, zup_eq]
               · rw [zup_ne _ _ _ e2, zup_ne _ _ _ e2]
                 exact (hR1.p hI q0 q1).2.2.1
           · omega)
      · refine z_L2R (pc' := 96) dL_holdsNow_95 rfl ?_
        refine z_L4I (pc' := 98) dL_holdsNow_96 rfl ?_
        refine z_L5I (pc' := 100) dL_holdsNow_98 rfl ?_
        refine z_ist (pc' := 101) dL_holdsNow_100 rfl hh (by omega) (by omega) ?_
        refine z_L2R (pc' := 102) dL_holdsNow_101 rfl ?_
        refine z_L5I (pc' := 104) dL_holdsNow_102 rfl ?_
        refine z_L4I (pc' := 106) dL_holdsNow_104 rfl ?_
        refine z_ist (pc' := 107) dL_holdsNow_106 rfl hh (by omega) (by omega) ?_
        first
        | (refine key107 can me1 (qH A) (fun q q0 q1 => (hR1.p hI q0 q1).2.2.1) (fun _ _ => rfl) (Or.inr ⟨by omega, ?_, rfl⟩)
           rcases hcan with h | h
           · omega
           · exact h.2)
        | (rcases hcan with h | h
           · refine key107 can _ (zup (zup (qH A) i j) j i) (fun q q0 q1 => ?_) (fun x hx => by rw [zset_ne _ _ _ hx, zset_ne _ _ _ hx]) (Or.inl ⟨h.1, h.2.1, h.2.2.1, h.2.2.2.1, h.2.2.2.2, rfl⟩)
             rw [zset_eq, zset_eq]
             by_cases e1 : q = j
             · subst e1; rw [zup_eq, zup_eq]
             · rw [zup_ne _ _ _ e1, zup_ne _ _ _ e1]
               by_cases e2 : q = i
               · subst e2; rw [zup_eq, zup_eq]
               · rw [zup_ne _ _ _ e2, zup_ne _ _ _ e2]
                 exact (hR1.p hI q0 q1).2.2.1
           · omega)
    refine z_L4I (pc' := 50) dL_holdsNow_48 rfl ?_
    refine z_L5I (pc' := 52) dL_holdsNow_50 rfl ?_
    refine z_icmp_eq (tgt := 87) (pc' := 55) dL_holdsNow_52 (by decide) rfl (fun h52 => ?_) (fun h52 => ?_)
    · refine z_iconst (pc' := 88) dL_holdsNow_87 rfl (by unfold zin; decide) ?_
      refine z_S7I (pc' := 90) rfl dL_holdsNow_88 rfl ?_
      exact key90 0 (Or.inr ⟨rfl, fun z => by omega⟩)
    · refine z_L2R (pc' := 56) dL_holdsNow_55 rfl ?_
      refine z_L4I (pc' := 58) dL_holdsNow_56 rfl ?_
      refine z_ild (pc' := 59) dL_holdsNow_58 rfl hh (by omega) (by omega) ?_
      refine z_if_ge (tgt := 87) (pc' := 62) dL_holdsNow_59 (by decide) rfl (fun h59 => ?_) (fun h59 => ?_)
      · refine z_iconst (pc' := 88) dL_holdsNow_87 rfl (by unfold zin; decide) ?_
        refine z_S7I (pc' := 90) rfl dL_holdsNow_88 rfl ?_
        exact key90 0 (Or.inr ⟨rfl, fun z => by omega⟩)
      · refine z_L2R (pc' := 63) dL_holdsNow_62 rfl ?_
        refine z_L5I (pc' := 65) dL_holdsNow_63 rfl ?_
        refine z_ild (pc' := 66) dL_holdsNow_65 rfl hh (by omega) (by omega) ?_
        refine z_if_ge (tgt := 87) (pc' := 69) dL_holdsNow_66 (by decide) rfl (fun h66 => ?_) (fun h66 => ?_)
        · refine z_iconst (pc' := 88) dL_holdsNow_87 rfl (by unfold zin; decide) ?_
          refine z_S7I (pc' := 90) rfl dL_holdsNow_88 rfl ?_
          exact key90 0 (Or.inr ⟨rfl, fun z => by omega⟩)
        · refine z_L1R (pc' := 70) dL_holdsNow_69 rfl ?_
          refine z_L4I (pc' := 72) dL_holdsNow_70 rfl ?_
          refine z_ild (pc' := 73) dL_holdsNow_72 rfl hp (by omega) (by omega) ?_
          refine z_L1R (pc' := 74) dL_holdsNow_73 rfl ?_
          refine z_L5I (pc' := 76) dL_holdsNow_74 rfl ?_
          refine z_ild (pc' := 77) dL_holdsNow_76 rfl hp (by omega) (by omega) ?_
          refine z_S2v (pc' := 80) kL_near lL_15 dL_holdsNow_77 rfl (by omega) (Nat.le_of_ble_eq_true rfl) ?_
          rw [qi1.1, qj1.1]
          refine l_near qi1.2.2.2.1 qi1.2.2.2.2.1 qj1.2.2.2.1 qj1.2.2.2.2.1 (fun hn => zKv_i ?_) (fun hn => zKv_i ?_)
          · refine z_if_eq (tgt := 87) (pc' := 83) dL_holdsNow_80 (by decide) rfl (fun z => absurd z (by decide)) (fun z => ?_)
            refine z_iconst (pc' := 84) dL_holdsNow_83 rfl (by unfold zin; decide) ?_
            refine z_goto (tgt := 88) dL_holdsNow_84 (by decide) ?_
            refine z_S7I (pc' := 90) rfl dL_holdsNow_88 rfl ?_
            exact key90 1 (Or.inl ⟨rfl, by omega, by omega, by omega, hn⟩)
          · refine z_if_eq (tgt := 87) (pc' := 83) dL_holdsNow_80 (by decide) rfl (fun z => ?_) (fun z => absurd rfl z)
            refine z_iconst (pc' := 88) dL_holdsNow_87 rfl (by unfold zin; decide) ?_
            refine z_S7I (pc' := 90) rfl dL_holdsNow_88 rfl ?_
            exact key90 0 (Or.inr ⟨rfl, fun z => hn z.2.2.2⟩)
          skip
  refine z_if_ne (tgt := 30) (pc' := 18) dL_holdsNow_15 (by decide) rfl (fun h15 => ?_) (fun h15 => ?_)
  · refine z_L0R (pc' := 31) dL_holdsNow_30 rfl ?_
    refine z_L1R (pc' := 32) dL_holdsNow_31 rfl ?_
    refine z_L4I (pc' := 34) dL_holdsNow_32 rfl ?_
    refine z_ild (pc' := 35) dL_holdsNow_34 rfl hp (by omega) (by omega) ?_
    refine z_iconst (pc' := 36) dL_holdsNow_35 rfl (by unfold zin; decide) ?_
    refine z_iadd (pc' := 37) dL_holdsNow_36 rfl (by unfold zin; omega) ?_
    refine z_bipush (pc' := 39) dL_holdsNow_37 rfl (by decide) ?_
    refine z_irem (pc' := 40) dL_holdsNow_39 rfl (by omega) (by omega) ?_
    refine z_V1v (pc' := 43) (ci := 8) kX8_at lL_47 dL_holdsNow_40 rfl (by omega) (Nat.le_of_ble_eq_true rfl) (by decide) rfl hx.s ?_
    refine x_at (by omega) hx hR.1 hI (fun me1 hX1 hF1 => zKv_i ?_)
    have hb9 := hI.1.1.1 ((me 167 i + 1) % 10) (by omega) (by omega)
    have hb8 : 0 ≤ qW A ((me 167 i + 1) % 10) ∧ qW A ((me 167 i + 1) % 10) < 10 := ⟨hb9.1, hb9.2.1⟩
    rw [vAt (show 0 ≤ (me 167 i + 1) % 10 by omega) (by omega)]
    exact key43 _ me1 hb8.1 hb8.2 (hR.x hX1 hF1)
    skip
  · refine z_L3I (pc' := 19) dL_holdsNow_18 rfl ?_
    refine z_bipush (pc' := 21) dL_holdsNow_19 rfl (by decide) ?_
    refine z_ishra (pc' := 22) dL_holdsNow_21 rfl ?_
    refine z_bipush (pc' := 24) dL_holdsNow_22 rfl (by decide) ?_
    refine z_S2v (pc' := 27) kL_low lL_113 dL_holdsNow_24 rfl (by omega) (Nat.le_of_ble_eq_true rfl) ?_
    refine l_low (by decide) (zKv_i ?_)
    have bj := gLow_bd (zsar z 6) (show (0 : Int) < 10 by decide)
    refine z_goto (tgt := 43) dL_holdsNow_27 (by decide) ?_
    exact key43 _ me bj.1 bj.2 hR
    skip
end ZL10

