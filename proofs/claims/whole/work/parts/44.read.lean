section ZMOC
theorem zff_step {G : Int → Int} {N i l : Int} (h : i < N) : zff G (N - i).toNat l i = if zaft l (G i) = 4 then i else zff G (N - (i + 1)).toNat (zaft l (G i)) (i + 1) := by
  rw [show (N - i).toNat = (N - (i + 1)).toNat + 1 by omega]
  rfl
theorem zff_end {G : Int → Int} {N i l : Int} (h : N ≤ i) : zff G (N - i).toNat l i = if l = 0 then i else -5 := by
  rw [show (N - i).toNat = 0 by omega]
  rfl
theorem zaft_0 {g : Int} (h : 65 ≤ g ∧ g ≤ 72) : zaft 0 g = 1 := by
  unfold zaft; rw [if_pos rfl, if_pos (by omega)]
theorem zaft_0n {g : Int} (h : ¬ (65 ≤ g ∧ g ≤ 72)) : zaft 0 g = 4 := by
  unfold zaft; rw [if_pos rfl, if_neg (by omega)]
theorem zaft_d {g : Int} (h : 50 ≤ g ∧ g ≤ 57) : zaft 1 g = 2 := by
  unfold zaft; rw [if_neg (by decide), if_neg (by omega), if_neg (by omega), if_pos (by omega)]
theorem zaft_q {l : Int} (h : l = 1 ∨ l = 2) : zaft l 39 = 3 := by
  unfold zaft; rw [if_neg (by omega), if_neg (by decide), if_pos (by omega)]
theorem zaft_s {l : Int} (h : 1 ≤ l) : zaft l 32 = 0 := by
  unfold zaft; rw [if_neg (by omega), if_pos rfl]
theorem zaft_3n {g : Int} (h : g ≠ 32) : zaft 3 g = 4 := by
  unfold zaft; rw [if_neg (by decide), if_neg h, if_neg (by omega), if_neg (by omega)]
theorem zff_3 {G : Int → Int} {N i l : Int} (h1 : ¬ (i < N ∧ G i = 39)) (h2 : l = 2 ∨ (l = 1 ∧ ¬ (i < N ∧ 50 ≤ G i ∧ G i ≤ 57))) : zff G (N - i).toNat l i = zff G (N - i).toNat 3 i := by
  by_cases e : i < N
  · rw [zff_step e, zff_step e]
    by_cases e2 : G i = 32
    · rw [e2, zaft_s (by omega), zaft_s (by omega)]
    · rw [zaft_3n e2]
      have : zaft l (G i) = 4 := by
        unfold zaft
        rw [if_neg (by omega), if_neg e2, if_neg (by omega), if_neg (by omega)]
      rw [this]
  · rw [zff_end (by omega), zff_end (by omega), if_neg (by omega), if_neg (by omega)]
theorem zpc_step {G : Int → Int} {N i f t b : Int} (h : i ≤ N) : zpc G N (N + 1 - i).toNat i f t b = (if (if i < N then G i else 32) = 32 then (f, t, b) :: zpc G N (N + 1 - (i + 1)).toNat (i + 1) f t b
    else if 65 ≤ (if i < N then G i else 32) ∧ (if i < N then G i else 32) < 73 then zpc G N (N + 1 - (i + 1)).toNat (i + 1) ((if i < N then G i else 32) - 65) 1 0
    else if (if i < N then G i else 32) = 39 then zpc G N (N + 1 - (i + 1)).toNat (i + 1) f t 1
    else zpc G N (N + 1 - (i + 1)).toNat (i + 1) f ((if i < N then G i else 32) - 48) b) := by
  rw [show (N + 1 - i).toNat = (N + 1 - (i + 1)).toNat + 1 by omega]
  rfl
/-- one call of the text, read -/
def zrd (G : Int → Int) (N s t b s3 : Int) : Prop := s < N ∧ 65 ≤ G s ∧ G s ≤ 72 ∧ ∃ s2, ((s + 1 < N ∧ 50 ≤ G (s + 1) ∧ G (s + 1) ≤ 57 ∧ t = G (s + 1) - 48 ∧ s2 = s + 2) ∨ (¬ (s + 1 < N ∧ 50 ≤ G (s + 1) ∧ G (s + 1) ≤ 57) ∧ t = 1 ∧ s2 = s + 1)) ∧ ((s2 < N ∧ G s2 = 39 ∧ b = 1 ∧ s3 = s2 + 1) ∨ (¬ (s2 < N ∧ G s2 = 39) ∧ b = 0 ∧ s3 = s2))
theorem zrd_ff {G : Int → Int} {N s t b s3 : Int} (h : zrd G N s t b s3) : zff G (N - s).toNat 0 s = zff G (N - s3).toNat 3 s3 := by
  obtain ⟨h1, h2, h3, s2, h4, h5⟩ := h
  rw [zff_step h1, zaft_0 ⟨h2, h3⟩, if_neg (by decide)]
  rcases h4 with ⟨a1, a2, a3, _, a5⟩ | ⟨a1, _, a5⟩
  · rw [zff_step a1, zaft_d ⟨a2, a3⟩, if_neg (by decide), show s + 1 + 1 = s2 by omega]
    rcases h5 with ⟨b1, b2, _, b4⟩ | ⟨b1, _, b4⟩
    · rw [zff_step b1, b2, zaft_q (Or.inr rfl), if_neg (by decide), b4]
    · rw [b4]; exact zff_3 b1 (Or.inl rfl)
  · subst a5
    rcases h5 with ⟨b1, b2, _, b4⟩ | ⟨b1, _, b4⟩
    · rw [zff_step b1, b2, zaft_q (Or.inl rfl), if_neg (by decide), b4]
    · rw [b4]; exact zff_3 b1 (Or.inr ⟨rfl, a1⟩)
theorem zrd_pc {G : Int → Int} {N s t b s3 f0 t0 b0 : Int} (h : zrd G N s t b s3) : zpc G N (N + 1 - s).toNat s f0 t0 b0 = zpc G N (N + 1 - s3).toNat s3 (G s - 65) t b := by
  obtain ⟨h1, h2, h3, s2, h4, h5⟩ := h
  rw [zpc_step (by omega), if_pos h1, if_neg (by omega), if_pos (by omega)]
  rcases h4 with ⟨a1, a2, a3, a4, a5⟩ | ⟨a1, a4, a5⟩
  · rw [zpc_step (by omega), if_pos a1, if_neg (by omega), if_neg (by omega), if_neg (by omega), ← a4, show s + 1 + 1 = s2 by omega]
    rcases h5 with ⟨b1, b2, b3, b4⟩ | ⟨b1, b3, b4⟩
    · rw [zpc_step (by omega), if_pos b1, if_neg (by omega), if_neg (by omega), if_pos b2, b3, b4]
    · rw [b3, b4]
  · subst a5
    rcases h5 with ⟨b1, b2, b3, b4⟩ | ⟨b1, b3, b4⟩
    · rw [zpc_step (by omega), if_pos b1, if_neg (by omega), if_neg (by omega), if_pos b2, b3, b4, a4]
    · rw [b3, b4, a4]
theorem zrd_bd {G : Int → Int} {N s t b s3 : Int} (h : zrd G N s t b s3) : s + 1 ≤ s3 ∧ s3 ≤ N ∧ 1 ≤ t ∧ t ≤ 9 ∧ (b = 0 ∨ b = 1) ∧ 0 ≤ G s - 65 ∧ G s - 65 < 8 := by
  obtain ⟨h1, h2, h3, s2, h4, h5⟩ := h
  omega
def zSc (y : Nat) (me me' : zMe) : Prop := (∀ a, a ≠ y → a ≠ y + 12 → a ≠ y + 13 → a ≠ y + 14 → me' a = me a) ∧ ∀ i, i ≠ 14 → i ≠ 15 → me' y i = me y i
set_option maxRecDepth 100000 in
set_option maxHeartbeats 1000000 in
theorem m_takes {d : Nat} {sp : zSP} {me : zMe} {Q : zQ} {y : Nat} {lo hi : Int} (hd : 1 ≤ d) (hy : zMod sp y) (h0 : 0 ≤ me y 14) (h1 : me y 14 ≤ 80) (h2 : me y 13 ≤ 80) (hQ : ∀ b, (b = 1 ∧ me y 14 < me y 13 ∧ lo ≤ me (y + 11) (me y 14) ∧ me (y + 11) (me y 14) ≤ hi) ∨ (b = 0 ∧ ¬ (me y 14 < me y 13 ∧ lo ≤ me (y + 11) (me y 14) ∧ me (y + 11) (me y 14) ≤ hi)) → Q (some (zI b)) sp (zset me y (zup (me y) 14 (me y 14 + b)))) : zCall mX9_takes d 0 0 [zR y, zI lo, zI hi] sp me Q := by
  refine z_met kX9_takes (by simp) (by simp) ?_
  show zW mX9_takes d 0 0 Q 0 [zR y, zI lo, zI hi, zU] [] sp me
  refine z_L0R (pc' := 1) dX9_takes_0 rfl ?_
  refine z_getI (pc' := 4) (ki := 14) 14 fX9_160.l rfl rfl dX9_takes_1 rfl hy.s ?_
  refine z_L0R (pc' := 5) dX9_takes_4 rfl ?_
  refine z_getI (pc' := 8) (ki := 13) 13 fX9_157.l rfl rfl dX9_takes_5 rfl hy.s ?_
  refine z_icmp_ge (tgt := 32) (pc' := 11) dX9_takes_8 (by decide) rfl (fun h8 => ?_) (fun h8 => ?_)
  · refine z_iconst (pc' := 33) dX9_takes_32 rfl (by unfold zin; decide) ?_
    refine z_S3I (pc' := 34) rfl dX9_takes_33 rfl ?_
    refine z_L0R (pc' := 35) dX9_takes_34 rfl ?_
    refine z_dupR (pc' := 36) dX9_takes_35 rfl ?_
    refine z_getI (pc' := 39) (ki := 14) 14 fX9_160.l rfl rfl dX9_takes_36 rfl hy.s ?_
    refine z_L3I (pc' := 40) dX9_takes_39 rfl ?_
    refine z_if_eq (tgt := 47) (pc' := 43) dX9_takes_40 (by decide) rfl (fun h40 => ?_) (fun h40 => ?_)
    · refine z_iconst (pc' := 48) dX9_takes_47 rfl (by unfold zin; decide) ?_
      refine z_iadd (pc' := 49) dX9_takes_48 rfl (by unfold zin; omega) ?_
      refine z_putI (pc' := 52) (ki := 14) 14 fX9_160.l rfl (Or.inl rfl) rfl dX9_takes_49 rfl hy.s ?_
      refine z_L3I (pc' := 53) dX9_takes_52 rfl ?_
      refine z_zreturn rfl rfl dX9_takes_53 (by omega) ?_
      first
      | (exfalso; omega)
      | exact hQ 1 (by omega)
      | exact hQ 0 (by omega)
    · refine z_iconst (pc' := 44) dX9_takes_43 rfl (by unfold zin; decide) ?_
      refine z_goto (tgt := 48) dX9_takes_44 (by decide) ?_
      refine z_iadd (pc' := 49) dX9_takes_48 rfl (by unfold zin; omega) ?_
      refine z_putI (pc' := 52) (ki := 14) 14 fX9_160.l rfl (Or.inl rfl) rfl dX9_takes_49 rfl hy.s ?_
      refine z_L3I (pc' := 53) dX9_takes_52 rfl ?_
      refine z_zreturn rfl rfl dX9_takes_53 (by omega) ?_
      first
      | (exfalso; omega)
      | exact hQ 1 (by omega)
      | exact hQ 0 (by omega)
  · refine z_L0R (pc' := 12) dX9_takes_11 rfl ?_
    refine z_getR (pc' := 15) (ki := 12) 12 fX9_40.l rfl rfl dX9_takes_12 rfl hy.s hy.p12 ?_
    refine z_L0R (pc' := 16) dX9_takes_15 rfl ?_
    refine z_getI (pc' := 19) (ki := 14) 14 fX9_160.l rfl rfl dX9_takes_16 rfl hy.s ?_
    refine z_ild (pc' := 20) dX9_takes_19 rfl hy.a11 (by omega) (by omega) ?_
    refine z_L1I (pc' := 21) dX9_takes_20 rfl ?_
    refine z_L2I (pc' := 22) dX9_takes_21 rfl ?_
    refine z_S3v (pc' := 25) kX9_in lX9_62 dX9_takes_22 rfl (by omega) (Nat.le_of_ble_eq_true rfl) ?_
    refine m_in2 (fun b1 hb1 => zKv_i ?_)
    refine z_if_eq (tgt := 32) (pc' := 28) dX9_takes_25 (by decide) rfl (fun h25 => ?_) (fun h25 => ?_)
    · refine z_iconst (pc' := 33) dX9_takes_32 rfl (by unfold zin; decide) ?_
      refine z_S3I (pc' := 34) rfl dX9_takes_33 rfl ?_
      refine z_L0R (pc' := 35) dX9_takes_34 rfl ?_
      refine z_dupR (pc' := 36) dX9_takes_35 rfl ?_
      refine z_getI (pc' := 39) (ki := 14) 14 fX9_160.l rfl rfl dX9_takes_36 rfl hy.s ?_
      refine z_L3I (pc' := 40) dX9_takes_39 rfl ?_
      refine z_if_eq (tgt := 47) (pc' := 43) dX9_takes_40 (by decide) rfl (fun h40 => ?_) (fun h40 => ?_)
      · refine z_iconst (pc' := 48) dX9_takes_47 rfl (by unfold zin; decide) ?_
        refine z_iadd (pc' := 49) dX9_takes_48 rfl (by unfold zin; omega) ?_
        refine z_putI (pc' := 52) (ki := 14) 14 fX9_160.l rfl (Or.inl rfl) rfl dX9_takes_49 rfl hy.s ?_
        refine z_L3I (pc' := 53) dX9_takes_52 rfl ?_
        refine z_zreturn rfl rfl dX9_takes_53 (by omega) ?_
        first
        | (exfalso; omega)
        | exact hQ 1 (by omega)
        | exact hQ 0 (by omega)
      · refine z_iconst (pc' := 44) dX9_takes_43 rfl (by unfold zin; decide) ?_
        refine z_goto (tgt := 48) dX9_takes_44 (by decide) ?_
        refine z_iadd (pc' := 49) dX9_takes_48 rfl (by unfold zin; omega) ?_
        refine z_putI (pc' := 52) (ki := 14) 14 fX9_160.l rfl (Or.inl rfl) rfl dX9_takes_49 rfl hy.s ?_
        refine z_L3I (pc' := 53) dX9_takes_52 rfl ?_
        refine z_zreturn rfl rfl dX9_takes_53 (by omega) ?_
        first
        | (exfalso; omega)
        | exact hQ 1 (by omega)
        | exact hQ 0 (by omega)
    · refine z_iconst (pc' := 29) dX9_takes_28 rfl (by unfold zin; decide) ?_
      refine z_goto (tgt := 33) dX9_takes_29 (by decide) ?_
      refine z_S3I (pc' := 34) rfl dX9_takes_33 rfl ?_
      refine z_L0R (pc' := 35) dX9_takes_34 rfl ?_
      refine z_dupR (pc' := 36) dX9_takes_35 rfl ?_
      refine z_getI (pc' := 39) (ki := 14) 14 fX9_160.l rfl rfl dX9_takes_36 rfl hy.s ?_
      refine z_L3I (pc' := 40) dX9_takes_39 rfl ?_
      refine z_if_eq (tgt := 47) (pc' := 43) dX9_takes_40 (by decide) rfl (fun h40 => ?_) (fun h40 => ?_)
      · refine z_iconst (pc' := 48) dX9_takes_47 rfl (by unfold zin; decide) ?_
        refine z_iadd (pc' := 49) dX9_takes_48 rfl (by unfold zin; omega) ?_
        refine z_putI (pc' := 52) (ki := 14) 14 fX9_160.l rfl (Or.inl rfl) rfl dX9_takes_49 rfl hy.s ?_
        refine z_L3I (pc' := 53) dX9_takes_52 rfl ?_
        refine z_zreturn rfl rfl dX9_takes_53 (by omega) ?_
        first
        | (exfalso; omega)
        | exact hQ 1 (by omega)
        | exact hQ 0 (by omega)
      · refine z_iconst (pc' := 44) dX9_takes_43 rfl (by unfold zin; decide) ?_
        refine z_goto (tgt := 48) dX9_takes_44 (by decide) ?_
        refine z_iadd (pc' := 49) dX9_takes_48 rfl (by unfold zin; omega) ?_
        refine z_putI (pc' := 52) (ki := 14) 14 fX9_160.l rfl (Or.inl rfl) rfl dX9_takes_49 rfl hy.s ?_
        refine z_L3I (pc' := 53) dX9_takes_52 rfl ?_
        refine z_zreturn rfl rfl dX9_takes_53 (by omega) ?_
        first
        | (exfalso; omega)
        | exact hQ 1 (by omega)
        | exact hQ 0 (by omega)
set_option maxRecDepth 100000 in
set_option maxHeartbeats 1000000 in
theorem m_readCall {d : Nat} {sp : zSP} {me : zMe} {Q : zQ} {y : Nat} (hd : 2 ≤ d) (hy : zMod sp y) (h0 : 0 ≤ me y 14) (h1 : me y 14 ≤ me y 13) (h2 : me y 13 ≤ 80) (h3 : 0 ≤ me y 15) (h4 : 2 * me y 15 ≤ me y 14) (hQ0 : ¬ (me y 14 < me y 13 ∧ 65 ≤ me (y + 11) (me y 14) ∧ me (y + 11) (me y 14) ≤ 72) → ∀ me', zSc y me me' → me' y 14 = me y 14 → Q (some (zI 0)) sp me') (hQ1 : ∀ t b s3 me', zrd (me (y + 11)) (me y 13) (me y 14) t b s3 → zSc y me me' → me' y 14 = s3 → me' y 15 = me y 15 + 1 → me' (y + 12) = zup (me (y + 12)) (me y 15) (me (y + 11) (me y 14) - 65) → me' (y + 13) = zup (me (y + 13)) (me y 15) t → me' (y + 14) = zup (me (y + 14)) (me y 15) b → Q (some (zI 1)) sp me') : zCall mX9_readCall d 0 0 [zR y] sp me Q := by
  refine z_met kX9_readCall (by simp) (by simp) ?_
  show zW mX9_readCall d 0 0 Q 0 [zR y] [] sp me
  refine z_L0R (pc' := 1) dX9_readCall_0 rfl ?_
  refine z_bipush (pc' := 3) dX9_readCall_1 rfl (by decide) ?_
  refine z_bipush (pc' := 5) dX9_readCall_3 rfl (by decide) ?_
  refine z_V2v (pc' := 8) (ci := 9) kX9_takes lX9_163 dX9_readCall_5 rfl (by omega) (Nat.le_of_ble_eq_true rfl) (by decide) rfl hy.s ?_
  refine m_takes (by omega) hy h0 (by omega) h2 (fun b1 hb1 => zKv_i ?_)
  have m1y : zset me y (zup (me y) 14 (me y 14 + b1)) y 14 = me y 14 + b1 := by rw [zset_eq]; exact zup_eq _ _ _
  have m1i : ∀ i, i ≠ 14 → zset me y (zup (me y) 14 (me y 14 + b1)) y i = me y i := fun i hi => by rw [zset_eq]; exact zup_ne _ _ _ hi
  have m1o : ∀ a, a ≠ y → zset me y (zup (me y) 14 (me y 14 + b1)) a = me a := fun a ha => zset_ne _ _ _ ha
  revert m1y m1i m1o
  generalize zset me y (zup (me y) 14 (me y 14 + b1)) = me1
  intro m1y m1i m1o
  refine z_if_ne (tgt := 13) (pc' := 11) dX9_readCall_8 (by decide) rfl (fun h8 => ?_) (fun h8 => ?_)
  · have hb1' := hb1.resolve_right (fun z => by omega)
    have m1s : me1 y 14 = me y 14 + 1 := by omega
    refine z_L0R (pc' := 14) dX9_readCall_13 rfl ?_
    refine z_getR (pc' := 17) (ki := 16) 16 fX9_43.l rfl rfl dX9_readCall_14 rfl hy.s hy.p16 ?_
    refine z_L0R (pc' := 18) dX9_readCall_17 rfl ?_
    refine z_getI (pc' := 21) (ki := 15) 15 fX9_166.l rfl rfl dX9_readCall_18 rfl hy.s ?_
    rw [m1i 15 (by omega)]
    refine z_L0R (pc' := 22) dX9_readCall_21 rfl ?_
    refine z_getR (pc' := 25) (ki := 12) 12 fX9_40.l rfl rfl dX9_readCall_22 rfl hy.s hy.p12 ?_
    refine z_L0R (pc' := 26) dX9_readCall_25 rfl ?_
    refine z_getI (pc' := 29) (ki := 14) 14 fX9_160.l rfl rfl dX9_readCall_26 rfl hy.s ?_
    rw [m1s]
    refine z_iconst (pc' := 30) dX9_readCall_29 rfl (by unfold zin; decide) ?_
    refine z_isub (pc' := 31) dX9_readCall_30 rfl (by unfold zin; omega) ?_
    refine z_ild (pc' := 32) dX9_readCall_31 rfl hy.a11 (by omega) (by omega) ?_
    rw [show me y 14 + 1 - 1 = me y 14 by omega, m1o (y + 11) (by omega)]
    refine z_bipush (pc' := 34) dX9_readCall_32 rfl (by decide) ?_
    refine z_isub (pc' := 35) dX9_readCall_34 rfl (by unfold zin; omega) ?_
    refine z_ist (pc' := 36) dX9_readCall_35 rfl hy.a12 (by omega) (by omega) ?_
    have m2y : zset me1 (y + 12) (zup (me1 (y + 12)) (me y 15) (me (y + 11) (me y 14) - 65)) y = me1 y := zset_ne _ _ _ (by omega)
    have m2o : ∀ a, a ≠ y → a ≠ y + 12 → zset me1 (y + 12) (zup (me1 (y + 12)) (me y 15) (me (y + 11) (me y 14) - 65)) a = me a := fun a ha hb => by rw [zset_ne _ _ _ hb]; exact m1o a ha
    have m2c : zset me1 (y + 12) (zup (me1 (y + 12)) (me y 15) (me (y + 11) (me y 14) - 65)) (y + 12) = zup (me (y + 12)) (me y 15) (me (y + 11) (me y 14) - 65) := by rw [zset_eq, m1o (y + 12) (by omega)]
    revert m2y m2o m2c
    generalize zset me1 (y + 12) (zup (me1 (y + 12)) (me y 15) (me (y + 11) (me y 14) - 65)) = me2
    intro m2y m2o m2c
    have m2s : me2 y 14 = me y 14 + 1 := by rw [m2y]; exact m1s
    have m2n : me2 y 13 = me y 13 := by rw [m2y]; exact m1i _ (by omega)
    have m2g : me2 (y + 11) = me (y + 11) := m2o _ (by omega) (by omega)
    refine z_L0R (pc' := 37) dX9_readCall_36 rfl ?_
    refine z_getR (pc' := 40) (ki := 17) 17 fX9_46.l rfl rfl dX9_readCall_37 rfl hy.s hy.p17 ?_
    refine z_L0R (pc' := 41) dX9_readCall_40 rfl ?_
    refine z_getI (pc' := 44) (ki := 15) 15 fX9_166.l rfl rfl dX9_readCall_41 rfl hy.s ?_
    rw [m2y, m1i 15 (by omega)]
    refine z_L0R (pc' := 45) dX9_readCall_44 rfl ?_
    refine z_bipush (pc' := 47) dX9_readCall_45 rfl (by decide) ?_
    refine z_bipush (pc' := 49) dX9_readCall_47 rfl (by decide) ?_
    refine z_V2v (pc' := 52) (ci := 9) kX9_takes lX9_163 dX9_readCall_49 rfl (by omega) (Nat.le_of_ble_eq_true rfl) (by decide) rfl hy.s ?_
    refine m_takes (by omega) hy (by omega) (by omega) (by omega) (fun b2 hb2 => zKv_i ?_)
    rw [m2s, m2n, m2g] at hb2
    rw [m2s]
    have m3y : zset me2 y (zup (me2 y) 14 (me y 14 + 1 + b2)) y 14 = me y 14 + 1 + b2 := by rw [zset_eq]; exact zup_eq _ _ _
    have m3i : ∀ i, i ≠ 14 → zset me2 y (zup (me2 y) 14 (me y 14 + 1 + b2)) y i = me y i := fun i hi => by rw [zset_eq, zup_ne _ _ _ hi, m2y]; exact m1i i hi
    have m3o : ∀ a, a ≠ y → zset me2 y (zup (me2 y) 14 (me y 14 + 1 + b2)) a = me2 a := fun a ha => zset_ne _ _ _ ha
    revert m3y m3i m3o
    generalize zset me2 y (zup (me2 y) 14 (me y 14 + 1 + b2)) = me3
    intro m3y m3i m3o
    refine z_if_eq (tgt := 72) (pc' := 55) dX9_readCall_52 (by decide) rfl (fun h52 => ?_) (fun h52 => ?_)
    · refine z_iconst (pc' := 73) dX9_readCall_72 rfl (by unfold zin; decide) ?_
      refine zW_to (st := [zI (if b2 = 1 then me (y + 11) (me y 14 + 1) - 48 else 1), zI (me y 15), zR (y + 13)]) ?_ rfl (by first | rw [if_pos (by omega)] | rw [if_neg (by omega)]) rfl
      refine z_ist (pc' := 74) dX9_readCall_73 rfl hy.a13 (by omega) (by omega) ?_
      generalize ht : (if b2 = 1 then me (y + 11) (me y 14 + 1) - 48 else 1 : Int) = t
      have htt : (b2 = 1 ∧ t = me (y + 11) (me y 14 + 1) - 48) ∨ (b2 = 0 ∧ t = 1) := by
        rcases hb2 with e | e
        · rw [if_pos e.1] at ht; exact Or.inl ⟨e.1, ht.symm⟩
        · rw [if_neg (by omega)] at ht; exact Or.inr ⟨e.1, ht.symm⟩
      clear ht
      have m4y : zset me3 (y + 13) (zup (me3 (y + 13)) (me y 15) t) y = me3 y := zset_ne _ _ _ (by omega)
      have m4o : ∀ a, a ≠ y → a ≠ y + 12 → a ≠ y + 13 → zset me3 (y + 13) (zup (me3 (y + 13)) (me y 15) t) a = me a := fun a ha hb hc => by rw [zset_ne _ _ _ hc, m3o a ha]; exact m2o a ha hb
      have m4c : zset me3 (y + 13) (zup (me3 (y + 13)) (me y 15) t) (y + 12) = zup (me (y + 12)) (me y 15) (me (y + 11) (me y 14) - 65) := by rw [zset_ne _ _ _ (by omega), m3o _ (by omega)]; exact m2c
      have m4d : zset me3 (y + 13) (zup (me3 (y + 13)) (me y 15) t) (y + 13) = zup (me (y + 13)) (me y 15) t := by rw [zset_eq, m3o _ (by omega), m2o _ (by omega) (by omega)]
      revert m4y m4o m4c m4d
      generalize zset me3 (y + 13) (zup (me3 (y + 13)) (me y 15) t) = me4
      intro m4y m4o m4c m4d
      have m4s : me4 y 14 = me y 14 + 1 + b2 := by rw [m4y]; exact m3y
      have m4n : me4 y 13 = me y 13 := by rw [m4y]; exact m3i _ (by omega)
      have m4g : me4 (y + 11) = me (y + 11) := m4o _ (by omega) (by omega) (by omega)
      refine z_L0R (pc' := 75) dX9_readCall_74 rfl ?_
      refine z_getR (pc' := 78) (ki := 18) 18 fX9_49.l rfl rfl dX9_readCall_75 rfl hy.s hy.p18 ?_
      refine z_L0R (pc' := 79) dX9_readCall_78 rfl ?_
      refine z_getI (pc' := 82) (ki := 15) 15 fX9_166.l rfl rfl dX9_readCall_79 rfl hy.s ?_
      rw [m4y, m3i 15 (by omega)]
      refine z_L0R (pc' := 83) dX9_readCall_82 rfl ?_
      refine z_bipush (pc' := 85) dX9_readCall_83 rfl (by decide) ?_
      refine z_bipush (pc' := 87) dX9_readCall_85 rfl (by decide) ?_
      refine z_V2v (pc' := 90) (ci := 9) kX9_takes lX9_163 dX9_readCall_87 rfl (by omega) (Nat.le_of_ble_eq_true rfl) (by decide) rfl hy.s ?_
      refine m_takes (by omega) hy (by omega) (by omega) (by omega) (fun b3 hb3 => zKv_i ?_)
      rw [m4s, m4n, m4g] at hb3
      rw [m4s]
      have m5y : zset me4 y (zup (me4 y) 14 (me y 14 + 1 + b2 + b3)) y 14 = me y 14 + 1 + b2 + b3 := by rw [zset_eq]; exact zup_eq _ _ _
      have m5i : ∀ i, i ≠ 14 → zset me4 y (zup (me4 y) 14 (me y 14 + 1 + b2 + b3)) y i = me y i := fun i hi => by rw [zset_eq, zup_ne _ _ _ hi, m4y]; exact m3i i hi
      have m5o : ∀ a, a ≠ y → zset me4 y (zup (me4 y) 14 (me y 14 + 1 + b2 + b3)) a = me4 a := fun a ha => zset_ne _ _ _ ha
      revert m5y m5i m5o
      generalize zset me4 y (zup (me4 y) 14 (me y 14 + 1 + b2 + b3)) = me5
      intro m5y m5i m5o
      refine z_bst (pc' := 91) dX9_readCall_90 rfl hy.a14 (by omega) (by omega) (by omega) ?_
      have m6y : zset me5 (y + 14) (zup (me5 (y + 14)) (me y 15) b3) y = me5 y := zset_ne _ _ _ (by omega)
      have m6o : ∀ a, a ≠ y → a ≠ y + 14 → zset me5 (y + 14) (zup (me5 (y + 14)) (me y 15) b3) a = me4 a := fun a ha hb => by rw [zset_ne _ _ _ hb]; exact m5o a ha
      have m6e : zset me5 (y + 14) (zup (me5 (y + 14)) (me y 15) b3) (y + 14) = zup (me (y + 14)) (me y 15) b3 := by rw [zset_eq, m5o _ (by omega), m4o _ (by omega) (by omega) (by omega)]
      revert m6y m6o m6e
      generalize zset me5 (y + 14) (zup (me5 (y + 14)) (me y 15) b3) = me6
      intro m6y m6o m6e
      refine z_L0R (pc' := 92) dX9_readCall_91 rfl ?_
      refine z_dupR (pc' := 93) dX9_readCall_92 rfl ?_
      refine z_getI (pc' := 96) (ki := 15) 15 fX9_166.l rfl rfl dX9_readCall_93 rfl hy.s ?_
      rw [m6y, m5i 15 (by omega)]
      refine z_iconst (pc' := 97) dX9_readCall_96 rfl (by unfold zin; decide) ?_
      refine z_iadd (pc' := 98) dX9_readCall_97 rfl (by unfold zin; omega) ?_
      refine z_putI (pc' := 101) (ki := 15) 15 fX9_166.l rfl (Or.inl rfl) rfl dX9_readCall_98 rfl hy.s ?_
      refine z_iconst (pc' := 102) dX9_readCall_101 rfl (by unfold zin; decide) ?_
      refine z_zreturn rfl rfl dX9_readCall_102 (by omega) ?_
      refine hQ1 t b3 (me y 14 + 1 + b2 + b3) _ ⟨hb1'.2.1, hb1'.2.2.1, hb1'.2.2.2, me y 14 + 1 + b2, ?_, ?_⟩ ⟨fun a a1 a2 a3 a4 => ?_, fun i i1 i2 => ?_⟩ ?_ ?_ ?_ ?_ ?_
      · rcases hb2 with e | e
        · exact Or.inl ⟨e.2.1, e.2.2.1, e.2.2.2, by omega, by omega⟩
        · exact Or.inr ⟨e.2, by omega, by omega⟩
      · rcases hb3 with e | e
        · exact Or.inl ⟨e.2.1, by omega, e.1, by omega⟩
        · exact Or.inr ⟨fun z => e.2 ⟨z.1, by omega, by omega⟩, e.1, by omega⟩
      · rw [zset_ne _ _ _ a1, m6o a a1 a4]; exact m4o a a1 a2 a3
      · rw [zset_eq, zup_ne _ _ _ i2, m6y]; exact m5i i i1
      · rw [zset_eq, zup_ne _ _ _ (by omega), m6y]; exact m5y
      · rw [zset_eq]; exact zup_eq _ _ _
      · rw [zset_ne _ _ _ (by omega), m6o _ (by omega) (by omega)]; exact m4c
      · rw [zset_ne _ _ _ (by omega), m6o _ (by omega) (by omega)]; exact m4d
      · rw [zset_ne _ _ _ (by omega)]; exact m6e
    · refine z_L0R (pc' := 56) dX9_readCall_55 rfl ?_
      refine z_getR (pc' := 59) (ki := 12) 12 fX9_40.l rfl rfl dX9_readCall_56 rfl hy.s hy.p12 ?_
      refine z_L0R (pc' := 60) dX9_readCall_59 rfl ?_
      refine z_getI (pc' := 63) (ki := 14) 14 fX9_160.l rfl rfl dX9_readCall_60 rfl hy.s ?_
      rw [m3y, show b2 = 1 by omega]
      refine z_iconst (pc' := 64) dX9_readCall_63 rfl (by unfold zin; decide) ?_
      refine z_isub (pc' := 65) dX9_readCall_64 rfl (by unfold zin; omega) ?_
      refine z_ild (pc' := 66) dX9_readCall_65 rfl hy.a11 (by omega) (by omega) ?_
      rw [show me y 14 + 1 + 1 - 1 = me y 14 + 1 by omega, m3o (y + 11) (by omega), m2g]
      refine z_bipush (pc' := 68) dX9_readCall_66 rfl (by decide) ?_
      refine z_isub (pc' := 69) dX9_readCall_68 rfl (by unfold zin; omega) ?_
      refine z_goto (tgt := 73) dX9_readCall_69 (by decide) ?_
      refine zW_to (st := [zI (if b2 = 1 then me (y + 11) (me y 14 + 1) - 48 else 1), zI (me y 15), zR (y + 13)]) ?_ rfl (by first | rw [if_pos (by omega)] | rw [if_neg (by omega)]) rfl
      refine z_ist (pc' := 74) dX9_readCall_73 rfl hy.a13 (by omega) (by omega) ?_
      generalize ht : (if b2 = 1 then me (y + 11) (me y 14 + 1) - 48 else 1 : Int) = t
      have htt : (b2 = 1 ∧ t = me (y + 11) (me y 14 + 1) - 48) ∨ (b2 = 0 ∧ t = 1) := by
        rcases hb2 with e | e
        · rw [if_pos e.1] at ht; exact Or.inl ⟨e.1, ht.symm⟩
        · rw [if_neg (by omega)] at ht; exact Or.inr ⟨e.1, ht.symm⟩
      clear ht
      have m4y : zset me3 (y + 13) (zup (me3 (y + 13)) (me y 15) t) y = me3 y := zset_ne _ _ _ (by omega)
      have m4o : ∀ a, a ≠ y → a ≠ y + 12 → a ≠ y + 13 → zset me3 (y + 13) (zup (me3 (y + 13)) (me y 15) t) a = me a := fun a ha hb hc => by rw [zset_ne _ _ _ hc, m3o a ha]; exact m2o a ha hb
      have m4c : zset me3 (y + 13) (zup (me3 (y + 13)) (me y 15) t) (y + 12) = zup (me (y + 12)) (me y 15) (me (y + 11) (me y 14) - 65) := by rw [zset_ne _ _ _ (by omega), m3o _ (by omega)]; exact m2c
      have m4d : zset me3 (y + 13) (zup (me3 (y + 13)) (me y 15) t) (y + 13) = zup (me (y + 13)) (me y 15) t := by rw [zset_eq, m3o _ (by omega), m2o _ (by omega) (by omega)]
      revert m4y m4o m4c m4d
      generalize zset me3 (y + 13) (zup (me3 (y + 13)) (me y 15) t) = me4
      intro m4y m4o m4c m4d
      have m4s : me4 y 14 = me y 14 + 1 + b2 := by rw [m4y]; exact m3y
      have m4n : me4 y 13 = me y 13 := by rw [m4y]; exact m3i _ (by omega)
      have m4g : me4 (y + 11) = me (y + 11) := m4o _ (by omega) (by omega) (by omega)
      refine z_L0R (pc' := 75) dX9_readCall_74 rfl ?_
      refine z_getR (pc' := 78) (ki := 18) 18 fX9_49.l rfl rfl dX9_readCall_75 rfl hy.s hy.p18 ?_
      refine z_L0R (pc' := 79) dX9_readCall_78 rfl ?_
      refine z_getI (pc' := 82) (ki := 15) 15 fX9_166.l rfl rfl dX9_readCall_79 rfl hy.s ?_
      rw [m4y, m3i 15 (by omega)]
      refine z_L0R (pc' := 83) dX9_readCall_82 rfl ?_
      refine z_bipush (pc' := 85) dX9_readCall_83 rfl (by decide) ?_
      refine z_bipush (pc' := 87) dX9_readCall_85 rfl (by decide) ?_
      refine z_V2v (pc' := 90) (ci := 9) kX9_takes lX9_163 dX9_readCall_87 rfl (by omega) (Nat.le_of_ble_eq_true rfl) (by decide) rfl hy.s ?_
      refine m_takes (by omega) hy (by omega) (by omega) (by omega) (fun b3 hb3 => zKv_i ?_)
      rw [m4s, m4n, m4g] at hb3
      rw [m4s]
      have m5y : zset me4 y (zup (me4 y) 14 (me y 14 + 1 + b2 + b3)) y 14 = me y 14 + 1 + b2 + b3 := by rw [zset_eq]; exact zup_eq _ _ _
      have m5i : ∀ i, i ≠ 14 → zset me4 y (zup (me4 y) 14 (me y 14 + 1 + b2 + b3)) y i = me y i := fun i hi => by rw [zset_eq, zup_ne _ _ _ hi, m4y]; exact m3i i hi
      have m5o : ∀ a, a ≠ y → zset me4 y (zup (me4 y) 14 (me y 14 + 1 + b2 + b3)) a = me4 a := fun a ha => zset_ne _ _ _ ha
      revert m5y m5i m5o
      generalize zset me4 y (zup (me4 y) 14 (me y 14 + 1 + b2 + b3)) = me5
      intro m5y m5i m5o
      refine z_bst (pc' := 91) dX9_readCall_90 rfl hy.a14 (by omega) (by omega) (by omega) ?_
      have m6y : zset me5 (y + 14) (zup (me5 (y + 14)) (me y 15) b3) y = me5 y := zset_ne _ _ _ (by omega)
      have m6o : ∀ a, a ≠ y → a ≠ y + 14 → zset me5 (y + 14) (zup (me5 (y + 14)) (me y 15) b3) a = me4 a := fun a ha hb => by rw [zset_ne _ _ _ hb]; exact m5o a ha
      have m6e : zset me5 (y + 14) (zup (me5 (y + 14)) (me y 15) b3) (y + 14) = zup (me (y + 14)) (me y 15) b3 := by rw [zset_eq, m5o _ (by omega), m4o _ (by omega) (by omega) (by omega)]
      revert m6y m6o m6e
      generalize zset me5 (y + 14) (zup (me5 (y + 14)) (me y 15) b3) = me6
      intro m6y m6o m6e
      refine z_L0R (pc' := 92) dX9_readCall_91 rfl ?_
      refine z_dupR (pc' := 93) dX9_readCall_92 rfl ?_
      refine z_getI (pc' := 96) (ki := 15) 15 fX9_166.l rfl rfl dX9_readCall_93 rfl hy.s ?_
      rw [m6y, m5i 15 (by omega)]
      refine z_iconst (pc' := 97) dX9_readCall_96 rfl (by unfold zin; decide) ?_
      refine z_iadd (pc' := 98) dX9_readCall_97 rfl (by unfold zin; omega) ?_
      refine z_putI (pc' := 101) (ki := 15) 15 fX9_166.l rfl (Or.inl rfl) rfl dX9_readCall_98 rfl hy.s ?_
      refine z_iconst (pc' := 102) dX9_readCall_101 rfl (by unfold zin; decide) ?_
      refine z_zreturn rfl rfl dX9_readCall_102 (by omega) ?_
      refine hQ1 t b3 (me y 14 + 1 + b2 + b3) _ ⟨hb1'.2.1, hb1'.2.2.1, hb1'.2.2.2, me y 14 + 1 + b2, ?_, ?_⟩ ⟨fun a a1 a2 a3 a4 => ?_, fun i i1 i2 => ?_⟩ ?_ ?_ ?_ ?_ ?_
      · rcases hb2 with e | e
        · exact Or.inl ⟨e.2.1, e.2.2.1, e.2.2.2, by omega, by omega⟩
        · exact Or.inr ⟨e.2, by omega, by omega⟩
      · rcases hb3 with e | e
        · exact Or.inl ⟨e.2.1, by omega, e.1, by omega⟩
        · exact Or.inr ⟨fun z => e.2 ⟨z.1, by omega, by omega⟩, e.1, by omega⟩
      · rw [zset_ne _ _ _ a1, m6o a a1 a4]; exact m4o a a1 a2 a3
      · rw [zset_eq, zup_ne _ _ _ i2, m6y]; exact m5i i i1
      · rw [zset_eq, zup_ne _ _ _ (by omega), m6y]; exact m5y
      · rw [zset_eq]; exact zup_eq _ _ _
      · rw [zset_ne _ _ _ (by omega), m6o _ (by omega) (by omega)]; exact m4c
      · rw [zset_ne _ _ _ (by omega), m6o _ (by omega) (by omega)]; exact m4d
      · rw [zset_ne _ _ _ (by omega)]; exact m6e
  · refine z_iconst (pc' := 12) dX9_readCall_11 rfl (by unfold zin; decide) ?_
    refine z_zreturn rfl rfl dX9_readCall_12 (by omega) ?_
    exact hQ0 (by omega) me1 ⟨fun a a1 a2 a3 a4 => m1o a a1, fun i i1 i2 => m1i i i1⟩ (by omega)
end ZMOC

