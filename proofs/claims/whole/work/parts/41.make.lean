section ZMO9
theorem zac_at {R : zRg} {c p : Int} (hc : zvs c) (p0 : 0 ≤ p) (p1 : p < 10) : (zac R c).1 (zto c p) = R.1 p ∧ (zac R c).2 (zto c p) = (R.2 p + ztn c p) % 4 := by
  have h := zto_all hc p0 p1
  constructor
  · show zaw R.1 (zg c) (zto c p) = R.1 p
    unfold zaw
    rw [zcut_in _ _ _ h.1 h.2.1, h.2.2.1]
  · show zaf R.2 (zg c) (zt c) (zto c p) = _
    unfold zaf
    rw [zcut_in _ _ _ h.1 h.2.1, h.2.2.1, h.2.2.2.1]
theorem zgR_ac {R : zRg} {c : Int} (h : zgR R.1 R.2) (hc : zvs c) : zgR (zac R c).1 (zac R c).2 := zgR_step h hc
theorem zkall_to {w f h : Int → Int} {c : Int} (hg : zgR w f) (hok : zHok h) (hc : zvs c) : zkall (zac (w, f) c).1 h ↔ ∀ p, 0 ≤ p → p < 10 → h (w p) = -5 ∨ znb (zto c p) (zto c (zpl w (h (w p)))) := by
  have hg' := zgR_ac (R := (w, f)) hg hc
  have key : ∀ p, 0 ≤ p → p < 10 → (zkept (zac (w, f) c).1 h (zto c p) ↔ (h (w p) = -5 ∨ znb (zto c p) (zto c (zpl w (h (w p)))))) := by
    intro p p0 p1
    have ht := zto_all hc p0 p1
    have hw := hg.1 p p0 p1
    have e1 : (zac (w, f) c).1 (zto c p) = w p := (zac_at hc p0 p1).1
    unfold zkept
    rw [e1]
    rcases hok.1 (w p) hw.1 hw.2.1 with e | e
    · exact ⟨fun _ => Or.inl e, fun _ => Or.inl e⟩
    · have hp := zpl_ok hg e.1 e.2.1
      have ht2 := zto_all hc hp.1 hp.2.1
      have e2 : (zac (w, f) c).1 (zto c (zpl w (h (w p)))) = h (w p) := by rw [(zac_at hc hp.1 hp.2.1).1]; exact hp.2.2
      have hin : ∀ x, 0 ≤ x → x < 10 → (h (w p) = (zac (w, f) c).1 x ↔ x = zto c (zpl w (h (w p)))) := fun x x0 x1 => by
        constructor
        · intro hx
          exact hg'.2.1 x _ x0 x1 ht2.1 ht2.2.1 (by rw [e2, hx])
        · intro hx
          rw [hx, e2]
      rw [hin _ (by omega) (by omega), hin _ (by omega) (by omega)]
      unfold znb
      omega
  constructor
  · intro H p p0 p1
    have ht := zto_all hc p0 p1
    exact (key p p0 p1).1 (H _ ht.1 ht.2.1)
  · intro H q q0 q1
    have hs := zto_sur hc q0 q1
    have := (key _ hs.1 hs.2.1).2 (H _ hs.1 hs.2.1)
    rw [hs.2.2] at this
    exact this
theorem zall_up {P : Int → Prop} {k : Int} (h : ∀ p, 0 ≤ p → p < k → P p) (hk : P k) : ∀ p, 0 ≤ p → p < k + 1 → P p := fun p p0 p1 => by
  by_cases e : p = k
  · rw [e]; exact hk
  · exact h p p0 (by omega)
set_option maxRecDepth 100000 in
set_option maxHeartbeats 1000000 in
theorem m_isAllowed {d : Nat} {sp : zSP} {me : zMe} {Q : zQ} {y : Nat} {c : Int} {w f h : Int → Int} (hd : 2 ≤ d) (hy : zMod sp y) (hg : zgR w f) (hok : zHok h) (hc : zvs c) (hw : ∀ p, 0 ≤ p → p < 10 → me (y + 1) p = w p) (hh : ∀ i, 0 ≤ i → i < 10 → me (y + 1) (20 + i) = h i) (hT : ∀ p, 0 ≤ p → p < 10 → me (y + 7) p = zto c p) (hQ : ∀ b, (b = 1 ∧ zkall (zac (w, f) c).1 h) ∨ (b = 0 ∧ ¬ zkall (zac (w, f) c).1 h) → Q (some (zI b)) sp me) : zCall mX9_isAllowed d 0 0 [zR y] sp me Q := by
  refine z_met kX9_isAllowed (by simp) (by simp) ?_
  show zW mX9_isAllowed d 0 0 Q 0 [zR y, zU, zU, zU] [] sp me
  refine z_iconst (pc' := 1) dX9_isAllowed_0 rfl (by unfold zin; decide) ?_
  refine z_S1I (pc' := 2) rfl dX9_isAllowed_1 rfl ?_
  refine z_iconst (pc' := 3) dX9_isAllowed_2 rfl (by unfold zin; decide) ?_
  refine z_S2I (pc' := 4) rfl dX9_isAllowed_3 rfl ?_
  suffices H : ∀ (n : Nat) (k b : Int) (v : zV), 0 ≤ k → k ≤ 10 → 10 - k < n → zndv v = true → ((b = 1 ∧ ∀ p, 0 ≤ p → p < k → h (w p) = -5 ∨ znb (zto c p) (zto c (zpl w (h (w p))))) ∨ (b = 0 ∧ ¬ ∀ p, 0 ≤ p → p < 10 → h (w p) = -5 ∨ znb (zto c p) (zto c (zpl w (h (w p)))))) → zW mX9_isAllowed d 0 0 Q 4 [zR y, zI b, zI k, v] [] sp me by
    exact H 11 0 1 zU (by omega) (by omega) (by omega) rfl (Or.inl ⟨rfl, fun p p0 p1 => by omega⟩)
  intro n
  induction n with
  | zero => intro k b v h0 h1 h2; omega
  | succ n ih =>
  intro k b v hk0 hk1 hk2 hvv hb
  refine z_L2I (pc' := 5) dX9_isAllowed_4 rfl ?_
  refine z_bipush (pc' := 7) dX9_isAllowed_5 rfl (by decide) ?_
  refine z_icmp_ge (tgt := 71) (pc' := 10) dX9_isAllowed_7 (by decide) rfl (fun h7 => ?_) (fun h7 => ?_)
  · obtain rfl : k = 10 := by omega
    refine z_L1I (pc' := 72) dX9_isAllowed_71 rfl ?_
    refine z_zreturn rfl rfl dX9_isAllowed_72 (by omega) ?_
    exact hQ b (by rw [zkall_to hg hok hc]; exact hb)
  · have hwk := hg.1 k hk0 (by omega)
    have hkt := zto_all hc hk0 (show k < 10 by omega)
    have hhk := hok.1 (w k) hwk.1 hwk.2.1
    refine z_L0R (pc' := 11) dX9_isAllowed_10 rfl ?_
    refine z_getR (pc' := 14) (ki := 0) 0 fX9_7.l rfl rfl dX9_isAllowed_11 rfl hy.s hy.p0 ?_
    refine z_bipush (pc' := 16) dX9_isAllowed_14 rfl (by decide) ?_
    refine z_L0R (pc' := 17) dX9_isAllowed_16 rfl ?_
    refine z_getR (pc' := 20) (ki := 0) 0 fX9_7.l rfl rfl dX9_isAllowed_17 rfl hy.s hy.p0 ?_
    refine z_iconst (pc' := 21) dX9_isAllowed_20 rfl (by unfold zin; decide) ?_
    refine z_L2I (pc' := 22) dX9_isAllowed_21 rfl ?_
    refine z_iadd (pc' := 23) dX9_isAllowed_22 rfl (by unfold zin; omega) ?_
    refine z_ild (pc' := 24) dX9_isAllowed_23 rfl hy.a1 (by omega) (by omega) ?_
    rw [Int.zero_add, hw k hk0 (by omega)]
    refine z_iadd (pc' := 25) dX9_isAllowed_24 rfl (by unfold zin; omega) ?_
    refine z_ild (pc' := 26) dX9_isAllowed_25 rfl hy.a1 (by omega) (by omega) ?_
    rw [hh (w k) hwk.1 hwk.2.1]
    refine z_S3I (pc' := 27) rfl dX9_isAllowed_26 rfl ?_
    refine z_L1I (pc' := 28) dX9_isAllowed_27 rfl ?_
    refine z_if_eq (tgt := 63) (pc' := 31) dX9_isAllowed_28 (by decide) rfl (fun h28 => ?_) (fun h28 => ?_)
    · refine z_iconst (pc' := 64) dX9_isAllowed_63 rfl (by unfold zin; decide) ?_
      refine z_S1I (pc' := 65) rfl dX9_isAllowed_64 rfl ?_
      refine z_inc2 (pc' := 68) rfl dX9_isAllowed_65 rfl (by unfold zin; omega) ?_
      refine z_goto (tgt := 4) dX9_isAllowed_68 (by decide) ?_
      refine ih (k + 1) _ _ (by omega) (by omega) (by omega) rfl ?_
      first
      | exact Or.inl ⟨rfl, zall_up (hb.resolve_right (fun z => h28 z.1)).2 (Or.inr hn)⟩
      | exact Or.inl ⟨rfl, zall_up (hb.resolve_right (fun z => h28 z.1)).2 (Or.inl h34)⟩
      | exact Or.inr ⟨rfl, (hb.resolve_left (fun z => by omega)).2⟩
    · refine z_L3I (pc' := 32) dX9_isAllowed_31 rfl ?_
      refine z_bipush (pc' := 34) dX9_isAllowed_32 rfl (by decide) ?_
      refine z_icmp_eq (tgt := 59) (pc' := 37) dX9_isAllowed_34 (by decide) rfl (fun h34 => ?_) (fun h34 => ?_)
      · refine z_iconst (pc' := 60) dX9_isAllowed_59 rfl (by unfold zin; decide) ?_
        refine z_goto (tgt := 64) dX9_isAllowed_60 (by decide) ?_
        refine z_S1I (pc' := 65) rfl dX9_isAllowed_64 rfl ?_
        refine z_inc2 (pc' := 68) rfl dX9_isAllowed_65 rfl (by unfold zin; omega) ?_
        refine z_goto (tgt := 4) dX9_isAllowed_68 (by decide) ?_
        refine ih (k + 1) _ _ (by omega) (by omega) (by omega) rfl ?_
        first
        | exact Or.inl ⟨rfl, zall_up (hb.resolve_right (fun z => h28 z.1)).2 (Or.inr hn)⟩
        | exact Or.inl ⟨rfl, zall_up (hb.resolve_right (fun z => h28 z.1)).2 (Or.inl h34)⟩
        | exact Or.inr ⟨rfl, (hb.resolve_left (fun z => by omega)).2⟩
      · refine z_L0R (pc' := 38) dX9_isAllowed_37 rfl ?_
        refine z_getR (pc' := 41) (ki := 8) 8 fX9_28.l rfl rfl dX9_isAllowed_38 rfl hy.s hy.p8 ?_
        refine z_L2I (pc' := 42) dX9_isAllowed_41 rfl ?_
        refine z_ild (pc' := 43) dX9_isAllowed_42 rfl hy.a7 (by omega) (by omega) ?_
        rw [hT k hk0 (by omega)]
        refine z_L0R (pc' := 44) dX9_isAllowed_43 rfl ?_
        refine z_getR (pc' := 47) (ki := 8) 8 fX9_28.l rfl rfl dX9_isAllowed_44 rfl hy.s hy.p8 ?_
        refine z_L0R (pc' := 48) dX9_isAllowed_47 rfl ?_
        refine z_L3I (pc' := 49) dX9_isAllowed_48 rfl ?_
        refine z_V1v (pc' := 52) (ci := 9) kX9_placeOf lX9_123 dX9_isAllowed_49 rfl (by omega) (Nat.le_of_ble_eq_true rfl) (by decide) rfl hy.s ?_
        have hpk := zpl_ok hg (show 0 ≤ h (w k) by omega) (show h (w k) < 10 by omega)
        have hpt := zto_all hc hpk.1 hpk.2.1
        refine m_pl hy hg hw (by omega) (by omega) (zKv_i ?_)
        refine z_ild (pc' := 53) dX9_isAllowed_52 rfl hy.a7 (by omega) (by omega) ?_
        refine z_S2v (pc' := 56) kX9_areNeighbors lX9_126 dX9_isAllowed_53 rfl (by omega) (Nat.le_of_ble_eq_true rfl) ?_
        rw [hT _ hpk.1 hpk.2.1]
        refine m_areNb (by omega) hkt.1 hkt.2.1 hpt.1 hpt.2.1 (fun hn => zKv_i ?_) (fun hn => zKv_i ?_)
        rotate_left
        · refine z_if_eq (tgt := 63) (pc' := 59) dX9_isAllowed_56 (by decide) rfl (fun h56 => ?_) (fun h56 => absurd rfl h56)
          refine z_iconst (pc' := 64) dX9_isAllowed_63 rfl (by unfold zin; decide) ?_
          refine z_S1I (pc' := 65) rfl dX9_isAllowed_64 rfl ?_
          refine z_inc2 (pc' := 68) rfl dX9_isAllowed_65 rfl (by unfold zin; omega) ?_
          refine z_goto (tgt := 4) dX9_isAllowed_68 (by decide) ?_
          exact ih (k + 1) 0 _ (by omega) (by omega) (by omega) rfl (Or.inr ⟨rfl, fun z => (z k hk0 (by omega)).elim (fun z => by omega) (fun z => hn z)⟩)
        refine z_if_eq (tgt := 63) (pc' := 59) dX9_isAllowed_56 (by decide) rfl (fun h56 => absurd h56 (by omega)) (fun h56 => ?_)
        refine z_iconst (pc' := 60) dX9_isAllowed_59 rfl (by unfold zin; decide) ?_
        refine z_goto (tgt := 64) dX9_isAllowed_60 (by decide) ?_
        refine z_S1I (pc' := 65) rfl dX9_isAllowed_64 rfl ?_
        refine z_inc2 (pc' := 68) rfl dX9_isAllowed_65 rfl (by unfold zin; omega) ?_
        refine z_goto (tgt := 4) dX9_isAllowed_68 (by decide) ?_
        refine ih (k + 1) _ _ (by omega) (by omega) (by omega) rfl ?_
        first
        | exact Or.inl ⟨rfl, zall_up (hb.resolve_right (fun z => h28 z.1)).2 (Or.inr hn)⟩
        | exact Or.inl ⟨rfl, zall_up (hb.resolve_right (fun z => h28 z.1)).2 (Or.inl h34)⟩
        | exact Or.inr ⟨rfl, (hb.resolve_left (fun z => by omega)).2⟩
set_option maxRecDepth 100000 in
set_option maxHeartbeats 1000000 in
theorem m_make {d : Nat} {sp : zSP} {me : zMe} {Q : zQ} {y : Nat} {c : Int} {w f : Int → Int} (hy : zMod sp y) (hg : zgR w f) (hc : zvs c) (hw : ∀ p, 0 ≤ p → p < 10 → me (y + 1) p = w p) (hf : ∀ p, 0 ≤ p → p < 10 → me (y + 1) (10 + w p) = f p) (hT : ∀ p, 0 ≤ p → p < 10 → me (y + 7) p = zto c p) (hU : ∀ p, 0 ≤ p → p < 10 → me (y + 8) p = ztn c p) (hQ : ∀ me', (∀ p, 0 ≤ p → p < 10 → me' (y + 1) p = (zac (w, f) c).1 p) → (∀ p, 0 ≤ p → p < 10 → me' (y + 1) (10 + (zac (w, f) c).1 p) = (zac (w, f) c).2 p) → (∀ q, ¬ (0 ≤ q ∧ q < 20) → me' (y + 1) q = me (y + 1) q) → (∀ a, a ≠ y + 1 → a ≠ y + 9 → me' a = me a) → Q none sp me') : zCall mX9_make d 0 0 [zR y] sp me Q := by
  refine z_met kX9_make (by simp) (by simp) ?_
  show zW mX9_make d 0 0 Q 0 [zR y, zU, zU] [] sp me
  refine z_iconst (pc' := 1) dX9_make_0 rfl (by unfold zin; decide) ?_
  refine z_S1I (pc' := 2) rfl dX9_make_1 rfl ?_
  suffices H : ∀ (n : Nat) (k : Int) (v : zV) (G F : Int → Int), 0 ≤ k → k ≤ 10 → 10 - k < n → zndv v = true → (∀ p, 0 ≤ p → p < k → G (zto c p) = w p) → (∀ p, 0 ≤ p → p < 10 → F p = w p) → (∀ p, 0 ≤ p → p < 10 → F (10 + w p) = if p < k then (f p + ztn c p) % 4 else f p) → (∀ q, ¬ (10 ≤ q ∧ q < 20) → F q = me (y + 1) q) → zW mX9_make d 0 0 Q 2 [zR y, zI k, v] [] sp (zset (zset me (y + 9) G) (y + 1) F) by
    refine zW_to (H 11 0 zU (me (y + 9)) (me (y + 1)) (by omega) (by omega) (by omega) rfl (fun p p0 p1 => by omega) hw (fun p p0 p1 => by rw [if_neg (by omega)]; exact hf p p0 p1) (fun _ _ => rfl)) rfl rfl ?_
    rw [zset_self, zset_self]
  intro n
  induction n with
  | zero => intro k v G F h0 h1 h2; omega
  | succ n ih =>
  intro k v G F hk0 hk1 hk2 hvv hG hF1 hF2 hF3
  refine z_L1I (pc' := 3) dX9_make_2 rfl ?_
  refine z_bipush (pc' := 5) dX9_make_3 rfl (by decide) ?_
  refine z_icmp_ge (tgt := 62) (pc' := 8) dX9_make_5 (by decide) rfl (fun h5 => ?_) (fun h5 => ?_)
  · obtain rfl : k = 10 := by omega
    refine z_iconst (pc' := 63) dX9_make_62 rfl (by unfold zin; decide) ?_
    refine z_S1I (pc' := 64) rfl dX9_make_63 rfl ?_
    suffices H : ∀ (n : Nat) (i : Int), 0 ≤ i → i ≤ 10 → 10 - i < n → zW mX9_make d 0 0 Q 64 [zR y, zI i, v] [] sp (zset (zset me (y + 9) G) (y + 1) (zfil F G i)) by
      refine zW_to (H ((10 - 0 + 1 : Int).toNat) (0) (by omega) (by omega) (by omega) ) rfl rfl ?_
      rw [zfil_0]
    intro n
    induction n with
    | zero => intro i hk0 hk1 hk2; omega
    | succ n ih =>
    intro i hk0 hk1 hk2
    refine z_L1I (pc' := 65) dX9_make_64 rfl ?_
    refine z_bipush (pc' := 67) dX9_make_65 rfl (by decide) ?_
    refine z_icmp_ge (tgt := 90) (pc' := 70) dX9_make_67 (by decide) rfl (fun h67 => ?_) (fun h67 => ?_)
    · refine z_return rfl rfl dX9_make_90 ?_
      obtain rfl : i = 10 := by omega
      have e1 : ∀ p, 0 ≤ p → p < 10 → G p = (zac (w, f) c).1 p := fun p p0 p1 => by
        have hs := zto_sur hc p0 p1
        have h1 := hG _ hs.1 hs.2.1
        have h2 := (zac_at (R := (w, f)) hc hs.1 hs.2.1).1
        rw [hs.2.2] at h1 h2
        rw [h1, h2]
      refine hQ _ (fun p p0 p1 => ?_) (fun p p0 p1 => ?_) (fun q hq => ?_) (fun a ha hb => ?_)
      · rw [zset_eq, zfil_in _ _ _ _ p0 p1]; exact e1 p p0 p1
      · have hs := zto_sur hc p0 p1
        have h2 := zac_at (R := (w, f)) hc hs.1 hs.2.1
        rw [hs.2.2] at h2
        have h3 := hF2 _ hs.1 hs.2.1
        rw [if_pos hs.2.1] at h3
        have h4 := hg.1 _ hs.1 hs.2.1
        rw [zset_eq, h2.1, h2.2, zfil_out _ _ _ _ (by show ¬ (0 ≤ 10 + w (zg c p) ∧ 10 + w (zg c p) < 10); omega)]
        exact h3
      · rw [zset_eq, zfil_out _ _ _ _ (by omega)]; exact hF3 q (by omega)
      · rw [zset_ne _ _ _ ha, zset_ne _ _ _ hb]
    · refine z_L0R (pc' := 71) dX9_make_70 rfl ?_
      refine z_getR (pc' := 74) (ki := 0) 0 fX9_7.l rfl rfl dX9_make_71 rfl hy.s hy.p0 ?_
      refine z_iconst (pc' := 75) dX9_make_74 rfl (by unfold zin; decide) ?_
      refine z_L1I (pc' := 76) dX9_make_75 rfl ?_
      refine z_iadd (pc' := 77) dX9_make_76 rfl (by unfold zin; omega) ?_
      refine z_L0R (pc' := 78) dX9_make_77 rfl ?_
      refine z_getR (pc' := 81) (ki := 10) 10 fX9_34.l rfl rfl dX9_make_78 rfl hy.s hy.p10 ?_
      refine z_L1I (pc' := 82) dX9_make_81 rfl ?_
      refine z_ild (pc' := 83) dX9_make_82 rfl hy.a9 (by omega) (by omega) ?_
      refine z_ist (pc' := 84) dX9_make_83 rfl hy.a1 (by omega) (by omega) ?_
      refine z_inc1 (pc' := 87) rfl dX9_make_84 rfl (by unfold zin; omega) ?_
      refine z_goto (tgt := 64) dX9_make_87 (by decide) ?_
      refine zW_to (ih (i + 1) (by omega) (by omega) (by omega) ) rfl rfl ?_
      rw [zset_11, zset_eq]
      rw [zset_ne _ _ _ (show y + 9 ≠ y + 1 by omega), zset_eq, Int.zero_add]
      exact congrArg (zset _ (y + 1)) (zfil_up _ _ _ _ hk0 rfl)
  · have hwk := hg.1 k hk0 (by omega)
    have hkt := zto_all hc hk0 (show k < 10 by omega)
    have hFk := hF2 k hk0 (by omega)
    rw [if_neg (by omega)] at hFk
    refine z_L0R (pc' := 9) dX9_make_8 rfl ?_
    refine z_getR (pc' := 12) (ki := 0) 0 fX9_7.l rfl rfl dX9_make_9 rfl hy.s hy.p0 ?_
    refine z_iconst (pc' := 13) dX9_make_12 rfl (by unfold zin; decide) ?_
    refine z_L1I (pc' := 14) dX9_make_13 rfl ?_
    refine z_iadd (pc' := 15) dX9_make_14 rfl (by unfold zin; omega) ?_
    refine z_ild (pc' := 16) dX9_make_15 rfl hy.a1 (by omega) (by omega) ?_
    rw [Int.zero_add, zset_eq, hF1 k hk0 (by omega)]
    refine z_S2I (pc' := 17) rfl dX9_make_16 rfl ?_
    refine z_L0R (pc' := 18) dX9_make_17 rfl ?_
    refine z_getR (pc' := 21) (ki := 10) 10 fX9_34.l rfl rfl dX9_make_18 rfl hy.s hy.p10 ?_
    refine z_L0R (pc' := 22) dX9_make_21 rfl ?_
    refine z_getR (pc' := 25) (ki := 8) 8 fX9_28.l rfl rfl dX9_make_22 rfl hy.s hy.p8 ?_
    refine z_L1I (pc' := 26) dX9_make_25 rfl ?_
    refine z_ild (pc' := 27) dX9_make_26 rfl hy.a7 (by omega) (by omega) ?_
    rw [zset_ne _ _ _ (show y + 7 ≠ y + 1 by omega), zset_ne _ _ _ (show y + 7 ≠ y + 9 by omega), hT k hk0 (by omega)]
    refine z_L2I (pc' := 28) dX9_make_27 rfl ?_
    refine z_ist (pc' := 29) dX9_make_28 rfl hy.a9 (by omega) (by omega) ?_
    refine z_L0R (pc' := 30) dX9_make_29 rfl ?_
    refine z_getR (pc' := 33) (ki := 0) 0 fX9_7.l rfl rfl dX9_make_30 rfl hy.s hy.p0 ?_
    refine z_bipush (pc' := 35) dX9_make_33 rfl (by decide) ?_
    refine z_L2I (pc' := 36) dX9_make_35 rfl ?_
    refine z_iadd (pc' := 37) dX9_make_36 rfl (by unfold zin; omega) ?_
    refine z_L0R (pc' := 38) dX9_make_37 rfl ?_
    refine z_getR (pc' := 41) (ki := 0) 0 fX9_7.l rfl rfl dX9_make_38 rfl hy.s hy.p0 ?_
    refine z_bipush (pc' := 43) dX9_make_41 rfl (by decide) ?_
    refine z_L2I (pc' := 44) dX9_make_43 rfl ?_
    refine z_iadd (pc' := 45) dX9_make_44 rfl (by unfold zin; omega) ?_
    refine z_ild (pc' := 46) dX9_make_45 rfl hy.a1 (by omega) (by omega) ?_
    simp only [zset_eq, zset_ne _ _ _ (show y + 1 ≠ y + 9 by omega), zset_ne _ _ _ (show y + 9 ≠ y + 1 by omega)]
    rw [hFk]
    refine z_L0R (pc' := 47) dX9_make_46 rfl ?_
    refine z_getR (pc' := 50) (ki := 9) 9 fX9_31.l rfl rfl dX9_make_47 rfl hy.s hy.p9 ?_
    refine z_L1I (pc' := 51) dX9_make_50 rfl ?_
    refine z_ild (pc' := 52) dX9_make_51 rfl hy.a8 (by omega) (by omega) ?_
    rw [zset_ne _ _ _ (show y + 8 ≠ y + 9 by omega), zset_ne _ _ _ (show y + 8 ≠ y + 1 by omega), zset_ne _ _ _ (show y + 8 ≠ y + 9 by omega), hU k hk0 (by omega)]
    refine z_iadd (pc' := 53) dX9_make_52 rfl (by unfold zin; omega) ?_
    refine z_iconst (pc' := 54) dX9_make_53 rfl (by unfold zin; decide) ?_
    refine z_irem (pc' := 55) dX9_make_54 rfl (by omega) (by omega) ?_
    refine z_ist (pc' := 56) dX9_make_55 rfl hy.a1 (by omega) (by omega) ?_
    refine z_inc1 (pc' := 59) rfl dX9_make_56 rfl (by unfold zin; omega) ?_
    refine z_goto (tgt := 2) dX9_make_59 (by decide) ?_
    refine zW_to (ih (k + 1) (zI (w k)) (zup G (zto c k) (w k)) (zup F (10 + w k) ((f k + ztn c k) % 4)) (by omega) (by omega) (by omega) rfl (fun p p0 p1 => ?_) (fun p p0 p1 => ?_) (fun p p0 p1 => ?_) (fun q hq => ?_)) rfl rfl ?_
    · by_cases e : p = k
      · rw [e, zup_eq]
      · rw [zup_ne _ _ _ (fun z => e (zto_inj hc p0 (by omega) hk0 (by omega) z))]; exact hG p p0 (by omega)
    · rw [zup_ne _ _ _ (by omega)]; exact hF1 p p0 p1
    · by_cases e : p = k
      · rw [e, zup_eq, if_pos (by omega)]
      · have : w p ≠ w k := fun z => e (hg.2.1 p k p0 p1 hk0 (by omega) z)
        rw [zup_ne _ _ _ (by omega), hF2 p p0 p1]
        by_cases e2 : p < k
        · rw [if_pos e2, if_pos (by omega)]
        · rw [if_neg e2, if_neg (by omega)]
    · rw [zup_ne _ _ _ (by omega)]; exact hF3 q hq
    · funext a
      by_cases e1 : a = y + 1
      · subst e1
        simp only [zset_eq, zset_ne _ _ _ (show y + 1 ≠ y + 9 by omega)]
      · by_cases e2 : a = y + 9
        · subst e2
          simp only [zset_eq, zset_ne _ _ _ (show y + 9 ≠ y + 1 by omega)]
        · simp only [zset_ne _ _ _ e1, zset_ne _ _ _ e2]
set_option maxRecDepth 100000 in
set_option maxHeartbeats 1000000 in
theorem m_goBack {d : Nat} {sp : zSP} {me : zMe} {Q : zQ} {y : Nat} (hy : zMod sp y) (hQ : Q none sp (zset me (y + 1) (zfil (me (y + 1)) (me (y + 10)) 20))) : zCall mX9_goBack d 0 0 [zR y] sp me Q := by
  refine z_met kX9_goBack (by simp) (by simp) ?_
  show zW mX9_goBack d 0 0 Q 0 [zR y, zU] [] sp me
  refine z_iconst (pc' := 1) dX9_goBack_0 rfl (by unfold zin; decide) ?_
  refine z_S1I (pc' := 2) rfl dX9_goBack_1 rfl ?_
  suffices H : ∀ (n : Nat) (k : Int), 0 ≤ k → k ≤ 20 → 20 - k < n → zW mX9_goBack d 0 0 Q 2 [zR y, zI k] [] sp (zset me (y + 1) (zfil (me (y + 1)) (me (y + 10)) k)) by
    refine zW_to (H ((20 - 0 + 1 : Int).toNat) (0) (by omega) (by omega) (by omega) ) rfl rfl ?_
    simp only [zfil_0, zset_self]
  intro n
  induction n with
  | zero => intro k hk0 hk1 hk2; omega
  | succ n ih =>
  intro k hk0 hk1 hk2
  refine z_L1I (pc' := 3) dX9_goBack_2 rfl ?_
  refine z_bipush (pc' := 5) dX9_goBack_3 rfl (by decide) ?_
  refine z_icmp_ge (tgt := 26) (pc' := 8) dX9_goBack_5 (by decide) rfl (fun h5 => ?_) (fun h5 => ?_)
  · obtain rfl : k = 20 := by omega
    refine z_return rfl rfl dX9_goBack_26 ?_
    exact hQ
  · refine z_L0R (pc' := 9) dX9_goBack_8 rfl ?_
    refine z_getR (pc' := 12) (ki := 0) 0 fX9_7.l rfl rfl dX9_goBack_9 rfl hy.s hy.p0 ?_
    refine z_L1I (pc' := 13) dX9_goBack_12 rfl ?_
    refine z_L0R (pc' := 14) dX9_goBack_13 rfl ?_
    refine z_getR (pc' := 17) (ki := 11) 11 fX9_37.l rfl rfl dX9_goBack_14 rfl hy.s hy.p11 ?_
    refine z_L1I (pc' := 18) dX9_goBack_17 rfl ?_
    refine z_ild (pc' := 19) dX9_goBack_18 rfl hy.a10 (by omega) (by omega) ?_
    refine z_ist (pc' := 20) dX9_goBack_19 rfl hy.a1 (by omega) (by omega) ?_
    refine z_inc1 (pc' := 23) rfl dX9_goBack_20 rfl (by unfold zin; omega) ?_
    refine z_goto (tgt := 2) dX9_goBack_23 (by decide) ?_
    refine zW_to (ih (k + 1) (by omega) (by omega) (by omega) ) rfl rfl ?_
    rw [zset_11, zset_eq]
    exact congrArg (zset _ (y + 1)) (zfil_up _ _ _ _ hk0 (by rw [zset_ne _ _ _ (show y + 10 ≠ y + 1 by omega)]))
end ZMO9

