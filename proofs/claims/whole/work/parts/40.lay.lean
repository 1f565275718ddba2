section ZMO8
/-- where one at p goes by a step, and how its face turns -/
def zTo (kd a b p : Int) : Int := if (kd = 3 ∧ a ≤ p ∧ p ≤ b) ∨ (kd = 0 ∧ (p = a ∨ p = b)) then a + b - p else if kd = 2 then (p + a) % 10 else p
def zTn (kd a b p : Int) : Int := if kd = 3 ∧ a ≤ p ∧ p ≤ b then 2 else if kd = 1 ∧ p = a then b else 0
def zto (c p : Int) : Int := zTo (zdig c 0) (zdig c 1) (zdig c 2) p
def ztn (c p : Int) : Int := zTn (zdig c 0) (zdig c 1) (zdig c 2) p
theorem zto_all {c p : Int} (hc : zvs c) (h0 : 0 ≤ p) (h1 : p < 10) : 0 ≤ zto c p ∧ zto c p < 10 ∧ zg c (zto c p) = p ∧ zt c (zto c p) = ztn c p ∧ 0 ≤ ztn c p ∧ ztn c p < 4 := by
  unfold zvs at hc
  unfold zto ztn zg zt
  rw [show zdig c 0 = c / 100 from rfl, show zdig c 1 = c / 10 % 10 from rfl, show zdig c 2 = c % 10 from rfl]
  have ha : 0 ≤ c / 10 % 10 ∧ c / 10 % 10 < 10 := by omega
  have hb : 0 ≤ c % 10 ∧ c % 10 < 10 := by omega
  have hc2 := hc.2
  revert ha hb hc2
  generalize c / 100 = K
  generalize c / 10 % 10 = a
  generalize c % 10 = b
  clear hc
  intro ha hb hc2
  have fin : ∀ K v t : Int, zTo K a b p = v → zTn K a b p = t → 0 ≤ v ∧ v < 10 → 0 ≤ t ∧ t < 4 → (if K = 0 then (if v = a then b else if v = b then a else v) else if K = 1 then v else if K = 2 then (v - a + 10) % 10 else (if a ≤ v ∧ v ≤ b then a + b - v else v)) = p → (if K = 1 then (if v = a then b else 0) else if K = 3 then (if a ≤ v ∧ v ≤ b then 2 else 0) else 0) = t → 0 ≤ zTo K a b p ∧ zTo K a b p < 10 ∧ (if K = 0 then (if zTo K a b p = a then b else if zTo K a b p = b then a else zTo K a b p) else if K = 1 then zTo K a b p else if K = 2 then (zTo K a b p - a + 10) % 10 else (if a ≤ zTo K a b p ∧ zTo K a b p ≤ b then a + b - zTo K a b p else zTo K a b p)) = p ∧ (if K = 1 then (if zTo K a b p = a then b else 0) else if K = 3 then (if a ≤ zTo K a b p ∧ zTo K a b p ≤ b then 2 else 0) else 0) = zTn K a b p ∧ 0 ≤ zTn K a b p ∧ zTn K a b p < 4 := by
    intro K v t h1 h2 h3 h4 h5 h6
    rw [h1, h2]
    exact ⟨h3.1, h3.2, h5, h6, h4.1, h4.2⟩
  rcases hc2 with ⟨rfl, h⟩ | ⟨rfl, h⟩ | ⟨rfl, h⟩ | ⟨rfl, h⟩
  · by_cases e : p = a ∨ p = b
    · refine fin 0 (a + b - p) 0 (by unfold zTo; rw [if_pos (Or.inr ⟨rfl, e⟩)]) (by unfold zTn; rw [if_neg (by omega), if_neg (by omega)]) (by omega) (by omega) ?_ ?_ <;> (repeat' split) <;> omega
    · refine fin 0 p 0 (by unfold zTo; rw [if_neg (by omega), if_neg (by omega)]) (by unfold zTn; rw [if_neg (by omega), if_neg (by omega)]) (by omega) (by omega) ?_ ?_ <;> (repeat' split) <;> omega
  · by_cases e : p = a
    · refine fin 1 p b (by unfold zTo; rw [if_neg (by omega), if_neg (by omega)]) (by unfold zTn; rw [if_neg (by omega), if_pos ⟨rfl, e⟩]) (by omega) (by omega) ?_ ?_ <;> (repeat' split) <;> omega
    · refine fin 1 p 0 (by unfold zTo; rw [if_neg (by omega), if_neg (by omega)]) (by unfold zTn; rw [if_neg (by omega), if_neg (by omega)]) (by omega) (by omega) ?_ ?_ <;> (repeat' split) <;> omega
  · refine fin 2 ((p + a) % 10) 0 (by unfold zTo; rw [if_neg (by omega), if_pos rfl]) (by unfold zTn; rw [if_neg (by omega), if_neg (by omega)]) (by omega) (by omega) ?_ ?_ <;> (repeat' split) <;> omega
  · by_cases e : a ≤ p ∧ p ≤ b
    · refine fin 3 (a + b - p) 2 (by unfold zTo; rw [if_pos (Or.inl ⟨rfl, e⟩)]) (by unfold zTn; rw [if_pos ⟨rfl, e⟩]) (by omega) (by omega) ?_ ?_ <;> (repeat' split) <;> omega
    · refine fin 3 p 0 (by unfold zTo; rw [if_neg (by omega), if_neg (by omega)]) (by unfold zTn; rw [if_neg (by omega), if_neg (by omega)]) (by omega) (by omega) ?_ ?_ <;> (repeat' split) <;> omega
theorem zto_inj {c p q : Int} (hc : zvs c) (p0 : 0 ≤ p) (p1 : p < 10) (q0 : 0 ≤ q) (q1 : q < 10) (h : zto c p = zto c q) : p = q := by
  have h1 := (zto_all hc p0 p1).2.2.1
  have h2 := (zto_all hc q0 q1).2.2.1
  rw [h, h2] at h1
  exact h1.symm
theorem zto_sur {c q : Int} (hc : zvs c) (q0 : 0 ≤ q) (q1 : q < 10) : 0 ≤ zg c q ∧ zg c q < 10 ∧ zto c (zg c q) = q := by
  obtain ⟨p, p0, p1, e⟩ := zsurj 10 (zto c) (fun p a b => ⟨(zto_all hc a b).1, (zto_all hc a b).2.1⟩) (fun p q a b e f h => zto_inj hc a b e f h) q q0 q1
  have h1 := (zto_all hc p0 p1).2.2.1
  rw [e] at h1
  rw [h1]
  exact ⟨p0, p1, e⟩
set_option maxRecDepth 100000 in
set_option maxHeartbeats 1000000 in
theorem m_lay {d : Nat} {sp : zSP} {me : zMe} {Q : zQ} {y : Nat} {kd a b : Int} (hd : 1 ≤ d) (hy : zMod sp y) (ha0 : 0 ≤ a) (ha1 : a ≤ 10) (hb0 : 0 ≤ b) (hb1 : b ≤ 10) (hQ : ∀ T U, (∀ p, 0 ≤ p → p < 10 → T p = zTo kd a b p) → (∀ p, 0 ≤ p → p < 10 → U p = zTn kd a b p) → Q none sp (zset (zset me (y + 7) T) (y + 8) U)) : zCall mX9_lay d 0 0 [zR y, zI kd, zI a, zI b] sp me Q := by
  refine z_met kX9_lay (by simp) (by simp) ?_
  show zW mX9_lay d 0 0 Q 0 [zR y, zI kd, zI a, zI b, zU, zU, zU] [] sp me
  refine z_iconst (pc' := 1) dX9_lay_0 rfl (by unfold zin; decide) ?_
  refine z_S4I (pc' := 3) rfl dX9_lay_1 rfl ?_
  suffices H : ∀ (n : Nat) (k : Int) (v5 v6 : zV), 0 ≤ k → k ≤ 10 → 10 - k < n → zndv v5 = true → zndv v6 = true → zW mX9_lay d 0 0 Q 3 [zR y, zI kd, zI a, zI b, zI k, v5, v6] [] sp (zset (zset me (y + 7) (zfil (me (y + 7)) (zTo kd a b) k)) (y + 8) (zfil (me (y + 8)) (zTn kd a b) k)) by
    refine zW_to (H 11 0 zU zU (by omega) (by omega) (by omega) rfl rfl) rfl rfl ?_
    rw [zfil_0, zfil_0, zset_self, zset_self]
  intro n
  induction n with
  | zero => intro k v5 v6 hk0 hk1 hk2; omega
  | succ n ih =>
  intro k v5 v6 hk0 hk1 hk2 hv5 hv6
  refine z_L4I (pc' := 5) dX9_lay_3 rfl ?_
  refine z_bipush (pc' := 7) dX9_lay_5 rfl (by decide) ?_
  refine z_icmp_ge (tgt := 135) (pc' := 10) dX9_lay_7 (by decide) rfl (fun h7 => ?_) (fun h7 => ?_)
  · refine z_return rfl rfl dX9_lay_135 ?_
    obtain rfl : k = 10 := by omega
    exact hQ _ _ (fun p p0 p1 => zfil_in _ _ _ _ p0 p1) (fun p p0 p1 => zfil_in _ _ _ _ p0 p1)
  · have H97 : ∀ x b5 b6, x = zTo kd a b k → ((b5 = 1 ∧ kd = 3 ∧ a ≤ k ∧ k ≤ b) ∨ (b5 = 0 ∧ ¬ (kd = 3 ∧ a ≤ k ∧ k ≤ b))) → zW mX9_lay d 0 0 Q 97 [zR y, zI kd, zI a, zI b, zI k, zI b5, zI b6] [] sp (zset (zset (zset me (y + 7) (zfil (me (y + 7)) (zTo kd a b) k)) (y + 8) (zfil (me (y + 8)) (zTn kd a b) k)) (y + 7) (zup (zset (zset me (y + 7) (zfil (me (y + 7)) (zTo kd a b) k)) (y + 8) (zfil (me (y + 8)) (zTn kd a b) k) (y + 7)) k x)) := by
      intro x b5 b6 hx hb5
      rw [zset_21 _ _ _ _ _ _ (show y + 7 ≠ y + 8 by omega), zset_ne _ _ _ (show y + 7 ≠ y + 8 by omega), zset_eq, zfil_up _ _ _ _ hk0 hx]
      refine z_L0R (pc' := 98) dX9_lay_97 rfl ?_
      refine z_getR (pc' := 101) (ki := 9) 9 fX9_31.l rfl rfl dX9_lay_98 rfl hy.s hy.p9 ?_
      refine z_L4I (pc' := 103) dX9_lay_101 rfl ?_
      refine z_L5I (pc' := 105) dX9_lay_103 rfl ?_
      refine z_if_eq (tgt := 112) (pc' := 108) dX9_lay_105 (by decide) rfl (fun h105 => ?_) (fun h105 => ?_)
      · refine z_L1I (pc' := 113) dX9_lay_112 rfl ?_
        refine z_iconst (pc' := 114) dX9_lay_113 rfl (by unfold zin; decide) ?_
        refine z_icmp_ne (tgt := 127) (pc' := 117) dX9_lay_114 (by decide) rfl (fun h114 => ?_) (fun h114 => ?_)
        · refine z_iconst (pc' := 128) dX9_lay_127 rfl (by unfold zin; decide) ?_
          refine z_ist (pc' := 129) dX9_lay_128 rfl hy.a8 (by omega) (by omega) ?_
          refine z_inc4 (pc' := 132) rfl dX9_lay_129 rfl (by unfold zin; omega) ?_
          refine z_goto (tgt := 3) dX9_lay_132 (by decide) ?_
          refine zW_to (ih (k + 1) (zI b5) (zI b6) (by omega) (by omega) (by omega) rfl rfl) rfl rfl ?_
          rw [zset_11, zset_eq]
          refine congrArg (zset _ (y + 8)) (zfil_up _ _ _ _ hk0 ?_)
          unfold zTn
          first
          | rw [if_pos (by omega)]
          | rw [if_neg (by omega), if_pos (by omega)]
          | rw [if_neg (by omega), if_neg (by omega)]
        · refine z_L4I (pc' := 119) dX9_lay_117 rfl ?_
          refine z_L2I (pc' := 120) dX9_lay_119 rfl ?_
          refine z_icmp_ne (tgt := 127) (pc' := 123) dX9_lay_120 (by decide) rfl (fun h120 => ?_) (fun h120 => ?_)
          · refine z_iconst (pc' := 128) dX9_lay_127 rfl (by unfold zin; decide) ?_
            refine z_ist (pc' := 129) dX9_lay_128 rfl hy.a8 (by omega) (by omega) ?_
            refine z_inc4 (pc' := 132) rfl dX9_lay_129 rfl (by unfold zin; omega) ?_
            refine z_goto (tgt := 3) dX9_lay_132 (by decide) ?_
            refine zW_to (ih (k + 1) (zI b5) (zI b6) (by omega) (by omega) (by omega) rfl rfl) rfl rfl ?_
            rw [zset_11, zset_eq]
            refine congrArg (zset _ (y + 8)) (zfil_up _ _ _ _ hk0 ?_)
            unfold zTn
            first
            | rw [if_pos (by omega)]
            | rw [if_neg (by omega), if_pos (by omega)]
            | rw [if_neg (by omega), if_neg (by omega)]
          · refine z_L3I (pc' := 124) dX9_lay_123 rfl ?_
            refine z_goto (tgt := 128) dX9_lay_124 (by decide) ?_
            refine z_ist (pc' := 129) dX9_lay_128 rfl hy.a8 (by omega) (by omega) ?_
            refine z_inc4 (pc' := 132) rfl dX9_lay_129 rfl (by unfold zin; omega) ?_
            refine z_goto (tgt := 3) dX9_lay_132 (by decide) ?_
            refine zW_to (ih (k + 1) (zI b5) (zI b6) (by omega) (by omega) (by omega) rfl rfl) rfl rfl ?_
            rw [zset_11, zset_eq]
            refine congrArg (zset _ (y + 8)) (zfil_up _ _ _ _ hk0 ?_)
            unfold zTn
            first
            | rw [if_pos (by omega)]
            | rw [if_neg (by omega), if_pos (by omega)]
            | rw [if_neg (by omega), if_neg (by omega)]
      · refine z_iconst (pc' := 109) dX9_lay_108 rfl (by unfold zin; decide) ?_
        refine z_goto (tgt := 128) dX9_lay_109 (by decide) ?_
        refine z_ist (pc' := 129) dX9_lay_128 rfl hy.a8 (by omega) (by omega) ?_
        refine z_inc4 (pc' := 132) rfl dX9_lay_129 rfl (by unfold zin; omega) ?_
        refine z_goto (tgt := 3) dX9_lay_132 (by decide) ?_
        refine zW_to (ih (k + 1) (zI b5) (zI b6) (by omega) (by omega) (by omega) rfl rfl) rfl rfl ?_
        rw [zset_11, zset_eq]
        refine congrArg (zset _ (y + 8)) (zfil_up _ _ _ _ hk0 ?_)
        unfold zTn
        first
        | rw [if_pos (by omega)]
        | rw [if_neg (by omega), if_pos (by omega)]
        | rw [if_neg (by omega), if_neg (by omega)]
    have H55 : ∀ b5 b6, ((b5 = 1 ∧ kd = 3 ∧ a ≤ k ∧ k ≤ b) ∨ (b5 = 0 ∧ ¬ (kd = 3 ∧ a ≤ k ∧ k ≤ b))) → ((b6 = 1 ∧ kd = 0 ∧ (k = a ∨ k = b)) ∨ (b6 = 0 ∧ ¬ (kd = 0 ∧ (k = a ∨ k = b)))) → zW mX9_lay d 0 0 Q 55 [zR y, zI kd, zI a, zI b, zI k, zI b5, zI b6] [] sp (zset (zset me (y + 7) (zfil (me (y + 7)) (zTo kd a b) k)) (y + 8) (zfil (me (y + 8)) (zTn kd a b) k)) := by
      intro b5 b6 hb5 hb6
      refine z_L0R (pc' := 56) dX9_lay_55 rfl ?_
      refine z_getR (pc' := 59) (ki := 8) 8 fX9_28.l rfl rfl dX9_lay_56 rfl hy.s hy.p8 ?_
      refine z_L4I (pc' := 61) dX9_lay_59 rfl ?_
      refine z_L5I (pc' := 63) dX9_lay_61 rfl ?_
      refine z_if_ne (tgt := 71) (pc' := 66) dX9_lay_63 (by decide) rfl (fun h63 => ?_) (fun h63 => ?_)
      · refine z_L2I (pc' := 72) dX9_lay_71 rfl ?_
        refine z_L3I (pc' := 73) dX9_lay_72 rfl ?_
        refine z_iadd (pc' := 74) dX9_lay_73 rfl (by unfold zin; omega) ?_
        refine z_L4I (pc' := 76) dX9_lay_74 rfl ?_
        refine z_isub (pc' := 77) dX9_lay_76 rfl (by unfold zin; omega) ?_
        refine z_goto (tgt := 96) dX9_lay_77 (by decide) ?_
        refine z_ist (pc' := 97) dX9_lay_96 rfl hy.a7 (by omega) (by omega) ?_
        exact H97 _ _ _ (by
          unfold zTo
          first
          | rw [if_pos (by omega)]
          | rw [if_neg (by omega), if_pos (by omega)]
          | rw [if_neg (by omega), if_neg (by omega)]) hb5
      · refine z_L6I (pc' := 68) dX9_lay_66 rfl ?_
        refine z_if_eq (tgt := 80) (pc' := 71) dX9_lay_68 (by decide) rfl (fun h68 => ?_) (fun h68 => ?_)
        · refine z_L1I (pc' := 81) dX9_lay_80 rfl ?_
          refine z_iconst (pc' := 82) dX9_lay_81 rfl (by unfold zin; decide) ?_
          refine z_icmp_ne (tgt := 94) (pc' := 85) dX9_lay_82 (by decide) rfl (fun h82 => ?_) (fun h82 => ?_)
          · refine z_L4I (pc' := 96) dX9_lay_94 rfl ?_
            refine z_ist (pc' := 97) dX9_lay_96 rfl hy.a7 (by omega) (by omega) ?_
            exact H97 _ _ _ (by
              unfold zTo
              first
              | rw [if_pos (by omega)]
              | rw [if_neg (by omega), if_pos (by omega)]
              | rw [if_neg (by omega), if_neg (by omega)]) hb5
          · refine z_L4I (pc' := 87) dX9_lay_85 rfl ?_
            refine z_L2I (pc' := 88) dX9_lay_87 rfl ?_
            refine z_S2v (pc' := 91) kX9_ahead lX9_115 dX9_lay_88 rfl (by omega) (Nat.le_of_ble_eq_true rfl) ?_
            refine m_ahead (by omega) (by omega) (by omega) (by omega) (zKv_i ?_)
            refine z_goto (tgt := 96) dX9_lay_91 (by decide) ?_
            refine z_ist (pc' := 97) dX9_lay_96 rfl hy.a7 (by omega) (by omega) ?_
            exact H97 _ _ _ (by
              unfold zTo
              first
              | rw [if_pos (by omega)]
              | rw [if_neg (by omega), if_pos (by omega)]
              | rw [if_neg (by omega), if_neg (by omega)]) hb5
        · refine z_L2I (pc' := 72) dX9_lay_71 rfl ?_
          refine z_L3I (pc' := 73) dX9_lay_72 rfl ?_
          refine z_iadd (pc' := 74) dX9_lay_73 rfl (by unfold zin; omega) ?_
          refine z_L4I (pc' := 76) dX9_lay_74 rfl ?_
          refine z_isub (pc' := 77) dX9_lay_76 rfl (by unfold zin; omega) ?_
          refine z_goto (tgt := 96) dX9_lay_77 (by decide) ?_
          refine z_ist (pc' := 97) dX9_lay_96 rfl hy.a7 (by omega) (by omega) ?_
          exact H97 _ _ _ (by
            unfold zTo
            first
            | rw [if_pos (by omega)]
            | rw [if_neg (by omega), if_pos (by omega)]
            | rw [if_neg (by omega), if_neg (by omega)]) hb5
    refine z_L1I (pc' := 11) dX9_lay_10 rfl ?_
    refine z_iconst (pc' := 12) dX9_lay_11 rfl (by unfold zin; decide) ?_
    refine z_icmp_ne (tgt := 29) (pc' := 15) dX9_lay_12 (by decide) rfl (fun h12 => ?_) (fun h12 => ?_)
    · refine z_iconst (pc' := 30) dX9_lay_29 rfl (by unfold zin; decide) ?_
      refine z_S5I (pc' := 32) rfl dX9_lay_30 rfl ?_
      refine z_L1I (pc' := 33) dX9_lay_32 rfl ?_
      refine z_if_ne (tgt := 52) (pc' := 36) dX9_lay_33 (by decide) rfl (fun h33 => ?_) (fun h33 => ?_)
      · refine z_iconst (pc' := 53) dX9_lay_52 rfl (by unfold zin; decide) ?_
        refine z_S6I (pc' := 55) rfl dX9_lay_53 rfl ?_
        exact H55 _ _ (by omega) (by omega)
      · refine z_L4I (pc' := 38) dX9_lay_36 rfl ?_
        refine z_L2I (pc' := 39) dX9_lay_38 rfl ?_
        refine z_icmp_eq (tgt := 48) (pc' := 42) dX9_lay_39 (by decide) rfl (fun h39 => ?_) (fun h39 => ?_)
        · refine z_iconst (pc' := 49) dX9_lay_48 rfl (by unfold zin; decide) ?_
          refine z_goto (tgt := 53) dX9_lay_49 (by decide) ?_
          refine z_S6I (pc' := 55) rfl dX9_lay_53 rfl ?_
          exact H55 _ _ (by omega) (by omega)
        · refine z_L4I (pc' := 44) dX9_lay_42 rfl ?_
          refine z_L3I (pc' := 45) dX9_lay_44 rfl ?_
          refine z_icmp_ne (tgt := 52) (pc' := 48) dX9_lay_45 (by decide) rfl (fun h45 => ?_) (fun h45 => ?_)
          · refine z_iconst (pc' := 53) dX9_lay_52 rfl (by unfold zin; decide) ?_
            refine z_S6I (pc' := 55) rfl dX9_lay_53 rfl ?_
            exact H55 _ _ (by omega) (by omega)
          · refine z_iconst (pc' := 49) dX9_lay_48 rfl (by unfold zin; decide) ?_
            refine z_goto (tgt := 53) dX9_lay_49 (by decide) ?_
            refine z_S6I (pc' := 55) rfl dX9_lay_53 rfl ?_
            exact H55 _ _ (by omega) (by omega)
    · refine z_L4I (pc' := 17) dX9_lay_15 rfl ?_
      refine z_L2I (pc' := 18) dX9_lay_17 rfl ?_
      refine z_L3I (pc' := 19) dX9_lay_18 rfl ?_
      refine z_S3v (pc' := 22) kX9_in lX9_62 dX9_lay_19 rfl (by omega) (Nat.le_of_ble_eq_true rfl) ?_
      refine m_in2 (fun b1 hb1 => zKv_i ?_)
      refine z_if_eq (tgt := 29) (pc' := 25) dX9_lay_22 (by decide) rfl (fun h22 => ?_) (fun h22 => ?_)
      · refine z_iconst (pc' := 30) dX9_lay_29 rfl (by unfold zin; decide) ?_
        refine z_S5I (pc' := 32) rfl dX9_lay_30 rfl ?_
        refine z_L1I (pc' := 33) dX9_lay_32 rfl ?_
        refine z_if_ne (tgt := 52) (pc' := 36) dX9_lay_33 (by decide) rfl (fun h33 => ?_) (fun h33 => ?_)
        · refine z_iconst (pc' := 53) dX9_lay_52 rfl (by unfold zin; decide) ?_
          refine z_S6I (pc' := 55) rfl dX9_lay_53 rfl ?_
          exact H55 _ _ (by omega) (by omega)
        · refine z_L4I (pc' := 38) dX9_lay_36 rfl ?_
          refine z_L2I (pc' := 39) dX9_lay_38 rfl ?_
          refine z_icmp_eq (tgt := 48) (pc' := 42) dX9_lay_39 (by decide) rfl (fun h39 => ?_) (fun h39 => ?_)
          · refine z_iconst (pc' := 49) dX9_lay_48 rfl (by unfold zin; decide) ?_
            refine z_goto (tgt := 53) dX9_lay_49 (by decide) ?_
            refine z_S6I (pc' := 55) rfl dX9_lay_53 rfl ?_
            exact H55 _ _ (by omega) (by omega)
          · refine z_L4I (pc' := 44) dX9_lay_42 rfl ?_
            refine z_L3I (pc' := 45) dX9_lay_44 rfl ?_
            refine z_icmp_ne (tgt := 52) (pc' := 48) dX9_lay_45 (by decide) rfl (fun h45 => ?_) (fun h45 => ?_)
            · refine z_iconst (pc' := 53) dX9_lay_52 rfl (by unfold zin; decide) ?_
              refine z_S6I (pc' := 55) rfl dX9_lay_53 rfl ?_
              exact H55 _ _ (by omega) (by omega)
            · refine z_iconst (pc' := 49) dX9_lay_48 rfl (by unfold zin; decide) ?_
              refine z_goto (tgt := 53) dX9_lay_49 (by decide) ?_
              refine z_S6I (pc' := 55) rfl dX9_lay_53 rfl ?_
              exact H55 _ _ (by omega) (by omega)
      · refine z_iconst (pc' := 26) dX9_lay_25 rfl (by unfold zin; decide) ?_
        refine z_goto (tgt := 30) dX9_lay_26 (by decide) ?_
        refine z_S5I (pc' := 32) rfl dX9_lay_30 rfl ?_
        refine z_L1I (pc' := 33) dX9_lay_32 rfl ?_
        refine z_if_ne (tgt := 52) (pc' := 36) dX9_lay_33 (by decide) rfl (fun h33 => ?_) (fun h33 => ?_)
        · refine z_iconst (pc' := 53) dX9_lay_52 rfl (by unfold zin; decide) ?_
          refine z_S6I (pc' := 55) rfl dX9_lay_53 rfl ?_
          exact H55 _ _ (by omega) (by omega)
        · refine z_L4I (pc' := 38) dX9_lay_36 rfl ?_
          refine z_L2I (pc' := 39) dX9_lay_38 rfl ?_
          refine z_icmp_eq (tgt := 48) (pc' := 42) dX9_lay_39 (by decide) rfl (fun h39 => ?_) (fun h39 => ?_)
          · refine z_iconst (pc' := 49) dX9_lay_48 rfl (by unfold zin; decide) ?_
            refine z_goto (tgt := 53) dX9_lay_49 (by decide) ?_
            refine z_S6I (pc' := 55) rfl dX9_lay_53 rfl ?_
            exact H55 _ _ (by omega) (by omega)
          · refine z_L4I (pc' := 44) dX9_lay_42 rfl ?_
            refine z_L3I (pc' := 45) dX9_lay_44 rfl ?_
            refine z_icmp_ne (tgt := 52) (pc' := 48) dX9_lay_45 (by decide) rfl (fun h45 => ?_) (fun h45 => ?_)
            · refine z_iconst (pc' := 53) dX9_lay_52 rfl (by unfold zin; decide) ?_
              refine z_S6I (pc' := 55) rfl dX9_lay_53 rfl ?_
              exact H55 _ _ (by omega) (by omega)
            · refine z_iconst (pc' := 49) dX9_lay_48 rfl (by unfold zin; decide) ?_
              refine z_goto (tgt := 53) dX9_lay_49 (by decide) ?_
              refine z_S6I (pc' := 55) rfl dX9_lay_53 rfl ?_
              exact H55 _ _ (by omega) (by omega)
theorem zund_dig {c : Int} (hc : zvs c) : zdig (zund c) 0 = zdig c 0 ∧ zdig (zund c) 1 = (if zdig c 0 = 2 then 10 - zdig c 1 else zdig c 1) ∧ zdig (zund c) 2 = (if zdig c 0 = 1 then 4 - zdig c 2 else zdig c 2) := by
  unfold zvs at hc
  rw [show zdig c 0 = c / 100 from rfl, show zdig c 1 = c / 10 % 10 from rfl, show zdig c 2 = c % 10 from rfl, show zdig (zund c) 0 = zund c / 100 from rfl, show zdig (zund c) 1 = zund c / 10 % 10 from rfl, show zdig (zund c) 2 = zund c % 10 from rfl]
  unfold zund
  by_cases e1 : c / 100 = 1
  · rw [if_pos e1, if_neg (by omega), if_pos e1]; omega
  · rw [if_neg e1, if_neg e1]
    by_cases e2 : c / 100 = 2
    · rw [if_pos e2, if_pos e2]; omega
    · rw [if_neg e2, if_neg e2]; exact ⟨rfl, rfl, rfl⟩
theorem zord_get {L : List Int} {b : Int} {i : Nat} (hb : b ≠ 0) (hi : i < L.length) : (zord L b).getD i 0 = zund (L.getD (L.length - 1 - i) 0) := by
  unfold zord
  rw [if_neg hb]
  simp only [List.getD_eq_getElem?_getD]
  rw [List.getElem?_map, List.getElem?_reverse hi, List.getElem?_eq_getElem (by omega)]
  rfl
theorem zgetD_mem {L : List Int} {i : Nat} (hi : i < L.length) : L.getD i 0 ∈ L := by
  simp only [List.getD_eq_getElem?_getD]
  rw [List.getElem?_eq_getElem hi]
  exact List.getElem_mem _
set_option maxRecDepth 100000 in
set_option maxHeartbeats 1000000 in
theorem m_layStep {d : Nat} {sp : zSP} {me : zMe} {Q : zQ} {y : Nat} {k b : Int} {i : Nat} {L : List Int} (hd : 2 ≤ d) (hy : zMod sp y) (hk0 : 0 ≤ k) (hk1 : k < 8) (hU : zUk me y k L) (hvL : ∀ c ∈ L, zvs c ∧ c < 400) (hi : i < L.length) (hl : L.length ≤ 120) (hQ : ∀ T U, (∀ p, 0 ≤ p → p < 10 → T p = zto ((zord L b).getD i 0) p) → (∀ p, 0 ≤ p → p < 10 → U p = ztn ((zord L b).getD i 0) p) → Q none sp (zset (zset me (y + 7) T) (y + 8) U)) : zCall mX9_layStep d 0 0 [zR y, zI k, zI (i : Int), zI b] sp me Q := by
  refine z_met kX9_layStep (by simp) (by simp) ?_
  show zW mX9_layStep d 0 0 Q 0 [zR y, zI k, zI (i : Int), zI b, zU, zU, zU, zU] [] sp me
  have H27 : ∀ j : Nat, j < L.length → (b = 0 → (zord L b).getD i 0 = L.getD j 0) → (b ≠ 0 → (zord L b).getD i 0 = zund (L.getD j 0)) → zW mX9_layStep d 0 0 Q 27 [zR y, zI k, zI (i : Int), zI b, zI (3 * (120 * k + (j : Int))), zU, zU, zU] [] sp me := by
    intro j hj hb0 hb1
    have hvc := (hvL _ (zgetD_mem hj)).1
    have hud := zund_dig hvc
    have hdg : zdig (L.getD j 0) 0 = L.getD j 0 / 100 ∧ zdig (L.getD j 0) 1 = L.getD j 0 / 10 % 10 ∧ zdig (L.getD j 0) 2 = L.getD j 0 % 10 := ⟨rfl, rfl, rfl⟩
    have hvc2 := hvc
    unfold zvs at hvc2
    have hU0 := hU.2 j hj 0 (by omega) (by omega)
    rw [Int.add_zero] at hU0
    have hU1 := hU.2 j hj 1 (by omega) (by omega)
    have hU2 := hU.2 j hj 2 (by omega) (by omega)
    refine z_L0R (pc' := 28) dX9_layStep_27 rfl ?_
    refine z_getR (pc' := 31) (ki := 6) 6 fX9_22.l rfl rfl dX9_layStep_28 rfl hy.s hy.p6 ?_
    refine z_L4I (pc' := 33) dX9_layStep_31 rfl ?_
    refine z_ild (pc' := 34) dX9_layStep_33 rfl hy.a5 (by omega) (by omega) ?_
    rw [hU0]
    refine z_S5I (pc' := 36) rfl dX9_layStep_34 rfl ?_
    refine z_L0R (pc' := 37) dX9_layStep_36 rfl ?_
    refine z_getR (pc' := 40) (ki := 6) 6 fX9_22.l rfl rfl dX9_layStep_37 rfl hy.s hy.p6 ?_
    refine z_L4I (pc' := 42) dX9_layStep_40 rfl ?_
    refine z_iconst (pc' := 43) dX9_layStep_42 rfl (by unfold zin; decide) ?_
    refine z_iadd (pc' := 44) dX9_layStep_43 rfl (by unfold zin; omega) ?_
    refine z_ild (pc' := 45) dX9_layStep_44 rfl hy.a5 (by omega) (by omega) ?_
    rw [hU1]
    refine z_S6I (pc' := 47) rfl dX9_layStep_45 rfl ?_
    refine z_L0R (pc' := 48) dX9_layStep_47 rfl ?_
    refine z_getR (pc' := 51) (ki := 6) 6 fX9_22.l rfl rfl dX9_layStep_48 rfl hy.s hy.p6 ?_
    refine z_L4I (pc' := 53) dX9_layStep_51 rfl ?_
    refine z_iconst (pc' := 54) dX9_layStep_53 rfl (by unfold zin; decide) ?_
    refine z_iadd (pc' := 55) dX9_layStep_54 rfl (by unfold zin; omega) ?_
    refine z_ild (pc' := 56) dX9_layStep_55 rfl hy.a5 (by omega) (by omega) ?_
    rw [hU2]
    refine z_S7I (pc' := 58) rfl dX9_layStep_56 rfl ?_
    refine z_L0R (pc' := 59) dX9_layStep_58 rfl ?_
    refine z_L5I (pc' := 61) dX9_layStep_59 rfl ?_
    refine z_L3I (pc' := 62) dX9_layStep_61 rfl ?_
    refine z_if_eq (tgt := 79) (pc' := 65) dX9_layStep_62 (by decide) rfl (fun h62 => ?_) (fun h62 => ?_)
    · refine z_L6I (pc' := 81) dX9_layStep_79 rfl ?_
      refine z_L3I (pc' := 82) dX9_layStep_81 rfl ?_
      refine z_if_eq (tgt := 98) (pc' := 85) dX9_layStep_82 (by decide) rfl (fun h82 => ?_) (fun h82 => ?_)
      · refine z_L7I (pc' := 100) dX9_layStep_98 rfl ?_
        refine z_V30 (pc' := 103) (ci := 9) kX9_lay lX9_119 dX9_layStep_100 rfl (by omega) (Nat.le_of_ble_eq_true rfl) (by decide) rfl hy.s ?_
        refine m_lay (by omega) hy (by omega) (by omega) (by omega) (by omega) (fun T U hT hUU => zK0_i ?_)
        refine z_return rfl rfl dX9_layStep_103 ?_
        refine hQ T U (fun p p0 p1 => ?_) (fun p p0 p1 => ?_)
        · rw [hT p p0 p1]
          unfold zto
          first
          | (exfalso; omega)
          | rw [hb0 (by omega)]
          | (rw [hb1 (by omega), hud.1, hud.2.1, hud.2.2]
             first
             | rw [if_pos (by omega), if_neg (by omega)]
             | rw [if_neg (by omega), if_pos (by omega)]
             | rw [if_neg (by omega), if_neg (by omega)])
        · rw [hUU p p0 p1]
          unfold ztn
          first
          | (exfalso; omega)
          | rw [hb0 (by omega)]
          | (rw [hb1 (by omega), hud.1, hud.2.1, hud.2.2]
             first
             | rw [if_pos (by omega), if_neg (by omega)]
             | rw [if_neg (by omega), if_pos (by omega)]
             | rw [if_neg (by omega), if_neg (by omega)])
      · refine z_L5I (pc' := 87) dX9_layStep_85 rfl ?_
        refine z_iconst (pc' := 88) dX9_layStep_87 rfl (by unfold zin; decide) ?_
        refine z_icmp_ne (tgt := 98) (pc' := 91) dX9_layStep_88 (by decide) rfl (fun h88 => ?_) (fun h88 => ?_)
        · refine z_L7I (pc' := 100) dX9_layStep_98 rfl ?_
          refine z_V30 (pc' := 103) (ci := 9) kX9_lay lX9_119 dX9_layStep_100 rfl (by omega) (Nat.le_of_ble_eq_true rfl) (by decide) rfl hy.s ?_
          refine m_lay (by omega) hy (by omega) (by omega) (by omega) (by omega) (fun T U hT hUU => zK0_i ?_)
          refine z_return rfl rfl dX9_layStep_103 ?_
          refine hQ T U (fun p p0 p1 => ?_) (fun p p0 p1 => ?_)
          · rw [hT p p0 p1]
            unfold zto
            first
            | (exfalso; omega)
            | rw [hb0 (by omega)]
            | (rw [hb1 (by omega), hud.1, hud.2.1, hud.2.2]
               first
               | rw [if_pos (by omega), if_neg (by omega)]
               | rw [if_neg (by omega), if_pos (by omega)]
               | rw [if_neg (by omega), if_neg (by omega)])
          · rw [hUU p p0 p1]
            unfold ztn
            first
            | (exfalso; omega)
            | rw [hb0 (by omega)]
            | (rw [hb1 (by omega), hud.1, hud.2.1, hud.2.2]
               first
               | rw [if_pos (by omega), if_neg (by omega)]
               | rw [if_neg (by omega), if_pos (by omega)]
               | rw [if_neg (by omega), if_neg (by omega)])
        · refine z_iconst (pc' := 92) dX9_layStep_91 rfl (by unfold zin; decide) ?_
          refine z_L7I (pc' := 94) dX9_layStep_92 rfl ?_
          refine z_isub (pc' := 95) dX9_layStep_94 rfl (by unfold zin; omega) ?_
          refine z_goto (tgt := 100) dX9_layStep_95 (by decide) ?_
          refine z_V30 (pc' := 103) (ci := 9) kX9_lay lX9_119 dX9_layStep_100 rfl (by omega) (Nat.le_of_ble_eq_true rfl) (by decide) rfl hy.s ?_
          refine m_lay (by omega) hy (by omega) (by omega) (by omega) (by omega) (fun T U hT hUU => zK0_i ?_)
          refine z_return rfl rfl dX9_layStep_103 ?_
          refine hQ T U (fun p p0 p1 => ?_) (fun p p0 p1 => ?_)
          · rw [hT p p0 p1]
            unfold zto
            first
            | (exfalso; omega)
            | rw [hb0 (by omega)]
            | (rw [hb1 (by omega), hud.1, hud.2.1, hud.2.2]
               first
               | rw [if_pos (by omega), if_neg (by omega)]
               | rw [if_neg (by omega), if_pos (by omega)]
               | rw [if_neg (by omega), if_neg (by omega)])
          · rw [hUU p p0 p1]
            unfold ztn
            first
            | (exfalso; omega)
            | rw [hb0 (by omega)]
            | (rw [hb1 (by omega), hud.1, hud.2.1, hud.2.2]
               first
               | rw [if_pos (by omega), if_neg (by omega)]
               | rw [if_neg (by omega), if_pos (by omega)]
               | rw [if_neg (by omega), if_neg (by omega)])
    · refine z_L5I (pc' := 67) dX9_layStep_65 rfl ?_
      refine z_iconst (pc' := 68) dX9_layStep_67 rfl (by unfold zin; decide) ?_
      refine z_icmp_ne (tgt := 79) (pc' := 71) dX9_layStep_68 (by decide) rfl (fun h68 => ?_) (fun h68 => ?_)
      · refine z_L6I (pc' := 81) dX9_layStep_79 rfl ?_
        refine z_L3I (pc' := 82) dX9_layStep_81 rfl ?_
        refine z_if_eq (tgt := 98) (pc' := 85) dX9_layStep_82 (by decide) rfl (fun h82 => ?_) (fun h82 => ?_)
        · refine z_L7I (pc' := 100) dX9_layStep_98 rfl ?_
          refine z_V30 (pc' := 103) (ci := 9) kX9_lay lX9_119 dX9_layStep_100 rfl (by omega) (Nat.le_of_ble_eq_true rfl) (by decide) rfl hy.s ?_
          refine m_lay (by omega) hy (by omega) (by omega) (by omega) (by omega) (fun T U hT hUU => zK0_i ?_)
          refine z_return rfl rfl dX9_layStep_103 ?_
          refine hQ T U (fun p p0 p1 => ?_) (fun p p0 p1 => ?_)
          · rw [hT p p0 p1]
            unfold zto
            first
            | (exfalso; omega)
            | rw [hb0 (by omega)]
            | (rw [hb1 (by omega), hud.1, hud.2.1, hud.2.2]
               first
               | rw [if_pos (by omega), if_neg (by omega)]
               | rw [if_neg (by omega), if_pos (by omega)]
               | rw [if_neg (by omega), if_neg (by omega)])
          · rw [hUU p p0 p1]
            unfold ztn
            first
            | (exfalso; omega)
            | rw [hb0 (by omega)]
            | (rw [hb1 (by omega), hud.1, hud.2.1, hud.2.2]
               first
               | rw [if_pos (by omega), if_neg (by omega)]
               | rw [if_neg (by omega), if_pos (by omega)]
               | rw [if_neg (by omega), if_neg (by omega)])
        · refine z_L5I (pc' := 87) dX9_layStep_85 rfl ?_
          refine z_iconst (pc' := 88) dX9_layStep_87 rfl (by unfold zin; decide) ?_
          refine z_icmp_ne (tgt := 98) (pc' := 91) dX9_layStep_88 (by decide) rfl (fun h88 => ?_) (fun h88 => ?_)
          · refine z_L7I (pc' := 100) dX9_layStep_98 rfl ?_
            refine z_V30 (pc' := 103) (ci := 9) kX9_lay lX9_119 dX9_layStep_100 rfl (by omega) (Nat.le_of_ble_eq_true rfl) (by decide) rfl hy.s ?_
            refine m_lay (by omega) hy (by omega) (by omega) (by omega) (by omega) (fun T U hT hUU => zK0_i ?_)
            refine z_return rfl rfl dX9_layStep_103 ?_
            refine hQ T U (fun p p0 p1 => ?_) (fun p p0 p1 => ?_)
            · rw [hT p p0 p1]
              unfold zto
              first
              | (exfalso; omega)
              | rw [hb0 (by omega)]
              | (rw [hb1 (by omega), hud.1, hud.2.1, hud.2.2]
                 first
                 | rw [if_pos (by omega), if_neg (by omega)]
                 | rw [if_neg (by omega), if_pos (by omega)]
                 | rw [if_neg (by omega), if_neg (by omega)])
            · rw [hUU p p0 p1]
              unfold ztn
              first
              | (exfalso; omega)
              | rw [hb0 (by omega)]
              | (rw [hb1 (by omega), hud.1, hud.2.1, hud.2.2]
                 first
                 | rw [if_pos (by omega), if_neg (by omega)]
                 | rw [if_neg (by omega), if_pos (by omega)]
                 | rw [if_neg (by omega), if_neg (by omega)])
          · refine z_iconst (pc' := 92) dX9_layStep_91 rfl (by unfold zin; decide) ?_
            refine z_L7I (pc' := 94) dX9_layStep_92 rfl ?_
            refine z_isub (pc' := 95) dX9_layStep_94 rfl (by unfold zin; omega) ?_
            refine z_goto (tgt := 100) dX9_layStep_95 (by decide) ?_
            refine z_V30 (pc' := 103) (ci := 9) kX9_lay lX9_119 dX9_layStep_100 rfl (by omega) (Nat.le_of_ble_eq_true rfl) (by decide) rfl hy.s ?_
            refine m_lay (by omega) hy (by omega) (by omega) (by omega) (by omega) (fun T U hT hUU => zK0_i ?_)
            refine z_return rfl rfl dX9_layStep_103 ?_
            refine hQ T U (fun p p0 p1 => ?_) (fun p p0 p1 => ?_)
            · rw [hT p p0 p1]
              unfold zto
              first
              | (exfalso; omega)
              | rw [hb0 (by omega)]
              | (rw [hb1 (by omega), hud.1, hud.2.1, hud.2.2]
                 first
                 | rw [if_pos (by omega), if_neg (by omega)]
                 | rw [if_neg (by omega), if_pos (by omega)]
                 | rw [if_neg (by omega), if_neg (by omega)])
            · rw [hUU p p0 p1]
              unfold ztn
              first
              | (exfalso; omega)
              | rw [hb0 (by omega)]
              | (rw [hb1 (by omega), hud.1, hud.2.1, hud.2.2]
                 first
                 | rw [if_pos (by omega), if_neg (by omega)]
                 | rw [if_neg (by omega), if_pos (by omega)]
                 | rw [if_neg (by omega), if_neg (by omega)])
      · refine z_bipush (pc' := 73) dX9_layStep_71 rfl (by decide) ?_
        refine z_L6I (pc' := 75) dX9_layStep_73 rfl ?_
        refine z_isub (pc' := 76) dX9_layStep_75 rfl (by unfold zin; omega) ?_
        refine z_goto (tgt := 81) dX9_layStep_76 (by decide) ?_
        refine z_L3I (pc' := 82) dX9_layStep_81 rfl ?_
        refine z_if_eq (tgt := 98) (pc' := 85) dX9_layStep_82 (by decide) rfl (fun h82 => ?_) (fun h82 => ?_)
        · refine z_L7I (pc' := 100) dX9_layStep_98 rfl ?_
          refine z_V30 (pc' := 103) (ci := 9) kX9_lay lX9_119 dX9_layStep_100 rfl (by omega) (Nat.le_of_ble_eq_true rfl) (by decide) rfl hy.s ?_
          refine m_lay (by omega) hy (by omega) (by omega) (by omega) (by omega) (fun T U hT hUU => zK0_i ?_)
          refine z_return rfl rfl dX9_layStep_103 ?_
          refine hQ T U (fun p p0 p1 => ?_) (fun p p0 p1 => ?_)
          · rw [hT p p0 p1]
            unfold zto
            first
            | (exfalso; omega)
            | rw [hb0 (by omega)]
            | (rw [hb1 (by omega), hud.1, hud.2.1, hud.2.2]
               first
               | rw [if_pos (by omega), if_neg (by omega)]
               | rw [if_neg (by omega), if_pos (by omega)]
               | rw [if_neg (by omega), if_neg (by omega)])
          · rw [hUU p p0 p1]
            unfold ztn
            first
            | (exfalso; omega)
            | rw [hb0 (by omega)]
            | (rw [hb1 (by omega), hud.1, hud.2.1, hud.2.2]
               first
               | rw [if_pos (by omega), if_neg (by omega)]
               | rw [if_neg (by omega), if_pos (by omega)]
               | rw [if_neg (by omega), if_neg (by omega)])
        · refine z_L5I (pc' := 87) dX9_layStep_85 rfl ?_
          refine z_iconst (pc' := 88) dX9_layStep_87 rfl (by unfold zin; decide) ?_
          refine z_icmp_ne (tgt := 98) (pc' := 91) dX9_layStep_88 (by decide) rfl (fun h88 => ?_) (fun h88 => ?_)
          · refine z_L7I (pc' := 100) dX9_layStep_98 rfl ?_
            refine z_V30 (pc' := 103) (ci := 9) kX9_lay lX9_119 dX9_layStep_100 rfl (by omega) (Nat.le_of_ble_eq_true rfl) (by decide) rfl hy.s ?_
            refine m_lay (by omega) hy (by omega) (by omega) (by omega) (by omega) (fun T U hT hUU => zK0_i ?_)
            refine z_return rfl rfl dX9_layStep_103 ?_
            refine hQ T U (fun p p0 p1 => ?_) (fun p p0 p1 => ?_)
            · rw [hT p p0 p1]
              unfold zto
              first
              | (exfalso; omega)
              | rw [hb0 (by omega)]
              | (rw [hb1 (by omega), hud.1, hud.2.1, hud.2.2]
                 first
                 | rw [if_pos (by omega), if_neg (by omega)]
                 | rw [if_neg (by omega), if_pos (by omega)]
                 | rw [if_neg (by omega), if_neg (by omega)])
            · rw [hUU p p0 p1]
              unfold ztn
              first
              | (exfalso; omega)
              | rw [hb0 (by omega)]
              | (rw [hb1 (by omega), hud.1, hud.2.1, hud.2.2]
                 first
                 | rw [if_pos (by omega), if_neg (by omega)]
                 | rw [if_neg (by omega), if_pos (by omega)]
                 | rw [if_neg (by omega), if_neg (by omega)])
          · refine z_iconst (pc' := 92) dX9_layStep_91 rfl (by unfold zin; decide) ?_
            refine z_L7I (pc' := 94) dX9_layStep_92 rfl ?_
            refine z_isub (pc' := 95) dX9_layStep_94 rfl (by unfold zin; omega) ?_
            refine z_goto (tgt := 100) dX9_layStep_95 (by decide) ?_
            refine z_V30 (pc' := 103) (ci := 9) kX9_lay lX9_119 dX9_layStep_100 rfl (by omega) (Nat.le_of_ble_eq_true rfl) (by decide) rfl hy.s ?_
            refine m_lay (by omega) hy (by omega) (by omega) (by omega) (by omega) (fun T U hT hUU => zK0_i ?_)
            refine z_return rfl rfl dX9_layStep_103 ?_
            refine hQ T U (fun p p0 p1 => ?_) (fun p p0 p1 => ?_)
            · rw [hT p p0 p1]
              unfold zto
              first
              | (exfalso; omega)
              | rw [hb0 (by omega)]
              | (rw [hb1 (by omega), hud.1, hud.2.1, hud.2.2]
                 first
                 | rw [if_pos (by omega), if_neg (by omega)]
                 | rw [if_neg (by omega), if_pos (by omega)]
                 | rw [if_neg (by omega), if_neg (by omega)])
            · rw [hUU p p0 p1]
              unfold ztn
              first
              | (exfalso; omega)
              | rw [hb0 (by omega)]
              | (rw [hb1 (by omega), hud.1, hud.2.1, hud.2.2]
                 first
                 | rw [if_pos (by omega), if_neg (by omega)]
                 | rw [if_neg (by omega), if_pos (by omega)]
                 | rw [if_neg (by omega), if_neg (by omega)])
  refine z_iconst (pc' := 1) dX9_layStep_0 rfl (by unfold zin; decide) ?_
  refine z_bipush (pc' := 3) dX9_layStep_1 rfl (by decide) ?_
  refine z_L1I (pc' := 4) dX9_layStep_3 rfl ?_
  refine z_imul (pc' := 5) dX9_layStep_4 rfl (by unfold zin; omega) ?_
  refine z_L3I (pc' := 6) dX9_layStep_5 rfl ?_
  refine z_if_eq (tgt := 22) (pc' := 9) dX9_layStep_6 (by decide) rfl (fun h6 => ?_) (fun h6 => ?_)
  · refine z_L2I (pc' := 23) dX9_layStep_22 rfl ?_
    refine z_iadd (pc' := 24) dX9_layStep_23 rfl (by unfold zin; omega) ?_
    refine z_imul (pc' := 25) dX9_layStep_24 rfl (by unfold zin; omega) ?_
    refine z_S4I (pc' := 27) rfl dX9_layStep_25 rfl ?_
    first
    | exact zW_to (H27 i hi (fun _ => by unfold zord; rw [if_pos h6]) (fun z => absurd h6 z)) rfl rfl rfl
    | exact zW_to (H27 (L.length - 1 - i) (by omega) (fun z => absurd z h6) (fun _ => zord_get h6 hi)) (by
        rw [show (L.length : Int) - 1 - (i : Int) = ((L.length - 1 - i : Nat) : Int) by omega]) rfl rfl
  · refine z_L0R (pc' := 10) dX9_layStep_9 rfl ?_
    refine z_getR (pc' := 13) (ki := 5) 5 fX9_19.l rfl rfl dX9_layStep_10 rfl hy.s hy.p5 ?_
    refine z_L1I (pc' := 14) dX9_layStep_13 rfl ?_
    refine z_ild (pc' := 15) dX9_layStep_14 rfl hy.a4 (by omega) (by omega) ?_
    rw [hU.1]
    refine z_iconst (pc' := 16) dX9_layStep_15 rfl (by unfold zin; decide) ?_
    refine z_isub (pc' := 17) dX9_layStep_16 rfl (by unfold zin; omega) ?_
    refine z_L2I (pc' := 18) dX9_layStep_17 rfl ?_
    refine z_isub (pc' := 19) dX9_layStep_18 rfl (by unfold zin; omega) ?_
    refine z_goto (tgt := 23) dX9_layStep_19 (by decide) ?_
    refine z_iadd (pc' := 24) dX9_layStep_23 rfl (by unfold zin; omega) ?_
    refine z_imul (pc' := 25) dX9_layStep_24 rfl (by unfold zin; omega) ?_
    refine z_S4I (pc' := 27) rfl dX9_layStep_25 rfl ?_
    first
    | exact zW_to (H27 i hi (fun _ => by unfold zord; rw [if_pos h6]) (fun z => absurd h6 z)) rfl rfl rfl
    | exact zW_to (H27 (L.length - 1 - i) (by omega) (fun z => absurd z h6) (fun _ => zord_get h6 hi)) (by
        rw [show (L.length : Int) - 1 - (i : Int) = ((L.length - 1 - i : Nat) : Int) by omega]) rfl rfl
end ZMO8

