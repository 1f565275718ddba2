section ZMO7
/-- what the model would count for a figure -/
def zmwd (cd g : Int → Int) (k : Int) : Nat → Int
  | 0 => 0
  | j + 1 => zmwd cd g k j + (if cd (k * 10 + (j : Int)) / 100 = 4 then g (cd (k * 10 + (j : Int)) / 10 % 10) else 1)
theorem zmwd_bd {cd g : Int → Int} {k b : Int} (hb : 0 ≤ b) (n : Nat) (h : ∀ j : Nat, j < n → cd (k * 10 + (j : Int)) / 100 = 4 → 0 ≤ g (cd (k * 10 + (j : Int)) / 10 % 10) ∧ g (cd (k * 10 + (j : Int)) / 10 % 10) ≤ b) : 0 ≤ zmwd cd g k n ∧ zmwd cd g k n ≤ (b + 1) * (n : Int) := by
  induction n with
  | zero => unfold zmwd; simp
  | succ n ih =>
    have h1 := ih (fun j hj => h j (by omega))
    have e : (b + 1) * ((n + 1 : Nat) : Int) = (b + 1) * (n : Int) + (b + 1) := by
      rw [show ((n + 1 : Nat) : Int) = (n : Int) + 1 by omega, Int.mul_add, Int.mul_one]
    rw [e]
    unfold zmwd
    by_cases c : cd (k * 10 + (n : Int)) / 100 = 4
    · rw [if_pos c]; have := h n (by omega) c; omega
    · rw [if_neg c]; omega
theorem zmwd_eq {sz cd g : Int → Int} {fi x k : Int} (hv : zfv sz cd) (k0 : 0 ≤ k) (k8 : k < 8) (hg : ∀ a, 0 ≤ a → a < k → g a = ((zsteps sz cd a).length : Int) + zgw sz cd fi x a) : ∀ j : Nat, (j : Int) ≤ sz k → zmwd cd g k j = ((zpr cd (zsteps sz cd) k j).length : Int) + zgs cd (zgw sz cd fi x) k j := by
  have hvk := hv k k0 k8
  intro j
  induction j with
  | zero => intro _; rfl
  | succ j ih =>
    intro hj
    have hvj := hvk.2.2 (j : Int) (by omega) (by omega)
    unfold zvm at hvj
    show zmwd cd g k j + _ = ((zpr cd (zsteps sz cd) k j ++ _).length : Int) + (zgs cd (zgw sz cd fi x) k j + _)
    rw [ih (by omega), List.length_append]
    by_cases c : cd (k * 10 + (j : Int)) / 100 = 4
    · rw [if_pos c, if_pos c, if_pos c, hg _ (by omega) (by omega)]; omega
    · rw [if_neg c, if_neg c, if_neg c, List.length_singleton]; omega
theorem zmwd_k {sz cd g : Int → Int} {fi x k : Int} (hv : zfv sz cd) (k0 : 0 ≤ k) (k8 : k < 8) (hg : ∀ a, 0 ≤ a → a < k → g a = ((zsteps sz cd a).length : Int) + zgw sz cd fi x a) : (if k = fi then x else 0) + zmwd cd g k (sz k).toNat = ((zsteps sz cd k).length : Int) + zgw sz cd fi x k := by
  have hvk := hv k k0 k8
  rw [zmwd_eq hv k0 k8 hg (sz k).toNat (by omega), ← zsteps_eq hv k0 k8]
  by_cases e : k = fi
  · subst e
    rw [if_pos rfl, zgw_fi]
    have h3 : ∀ j : Nat, (j : Int) ≤ sz k → zgs cd (zgw sz cd k x) k j = 0 := by
      intro j
      induction j with
      | zero => intro _; rfl
      | succ j ihj =>
        intro hj
        have h5 := hvk.2.2 (j : Int) (by omega) (by omega)
        unfold zvm at h5
        unfold zgs
        rw [ihj (by omega)]
        by_cases e : cd (k * 10 + (j : Int)) / 100 = 4
        · rw [if_pos e, zgw_lt hv 8 _ (by omega) (by omega) (by omega) (by omega)]; rfl
        · rw [if_neg e]; rfl
    rw [h3 _ (by omega)]
    omega
  · rw [if_neg e, ← zgw_eq hv k0 k8 e]; omega
def zmb : Nat → Int
  | 0 => 0
  | n + 1 => 10 * zmb n + 130
theorem zmb_0 (n : Nat) : 0 ≤ zmb n := by
  induction n with
  | zero => exact Int.le_refl _
  | succ n ih => show 0 ≤ 10 * zmb n + 130; omega
theorem zmb_le (m : Nat) : ∀ n, m ≤ n → zmb m ≤ zmb n := by
  intro n
  induction n with
  | zero => intro h; rw [show m = 0 by omega]; exact Int.le_refl _
  | succ n ih =>
    intro h
    by_cases e : m = n + 1
    · rw [e]; exact Int.le_refl _
    · have h1 := ih (by omega)
      have h2 := zmb_0 n
      show _ ≤ 10 * zmb n + 130
      omega
theorem zmb_8 : zmb 8 = 1444444430 := by decide
set_option maxRecDepth 100000 in
set_option maxHeartbeats 1000000 in
theorem m_isRoom {d : Nat} {sp : zSP} {me : zMe} {Q : zQ} {y : Nat} {sz cd : Int → Int} {fi x : Int} (hd : 4 ≤ d) (hy : zMod sp y) (hv : zfv sz cd) (hx0 : 0 ≤ x) (hx1 : x ≤ 120) (hRs : ∀ k, 0 ≤ k → k < 8 → me (y + 1) (30 + 31 * k) = sz k) (hRc : ∀ k, 0 ≤ k → k < 8 → ∀ m, 0 ≤ m → m < sz k → ∀ q, 0 ≤ q → q < 3 → me (y + 1) (30 + 31 * k + 1 + 3 * m + q) = zdig (cd (k * 10 + m)) q) (hQ : ∀ b G, (b = 1 ∧ ∀ k, 0 ≤ k → k < 8 → ((zsteps sz cd k).length : Int) + zgw sz cd fi x k ≤ 120) ∨ (b = 0 ∧ ¬ ∀ k, 0 ≤ k → k < 8 → ((zsteps sz cd k).length : Int) + zgw sz cd fi x k ≤ 120) → Q (some (zI b)) sp (zset me (y + 6) G)) : zCall mX9_isRoom d 0 0 [zR y, zI fi, zI x] sp me Q := by
  refine z_met kX9_isRoom (by simp) (by simp) ?_
  show zW mX9_isRoom d 0 0 Q 0 [zR y, zI fi, zI x, zU, zU, zU] [] sp me
  refine z_iconst (pc' := 1) dX9_isRoom_0 rfl (by unfold zin; decide) ?_
  refine z_S3I (pc' := 2) rfl dX9_isRoom_1 rfl ?_
  refine z_iconst (pc' := 3) dX9_isRoom_2 rfl (by unfold zin; decide) ?_
  refine z_S4I (pc' := 5) rfl dX9_isRoom_3 rfl ?_
  suffices H : ∀ (n : Nat) (k b : Int) (v : zV) (G : Int → Int), 0 ≤ k → k ≤ 8 → 8 - k < n → zndv v = true → (∀ a, 0 ≤ a → a < k → G a = ((zsteps sz cd a).length : Int) + zgw sz cd fi x a ∧ 0 ≤ G a ∧ G a ≤ zmb k.toNat) → ((b = 1 ∧ ∀ a, 0 ≤ a → a < k → ((zsteps sz cd a).length : Int) + zgw sz cd fi x a ≤ 120) ∨ (b = 0 ∧ ¬ ∀ a, 0 ≤ a → a < 8 → ((zsteps sz cd a).length : Int) + zgw sz cd fi x a ≤ 120)) → zW mX9_isRoom d 0 0 Q 5 [zR y, zI fi, zI x, zI b, zI k, v] [] sp (zset me (y + 6) G) by
    refine zW_to (H 9 0 1 zU (me (y + 6)) (by omega) (by omega) (by omega) rfl (fun a h0 h1 => by omega) (Or.inl ⟨rfl, fun a h0 h1 => by omega⟩)) rfl rfl (zset_self _ _).symm
  intro n
  induction n with
  | zero => intro k b v G h0 h1 h2; omega
  | succ n ih =>
  intro k b v G hk0 hk1 hk2 hvv hG hb
  refine z_L4I (pc' := 7) dX9_isRoom_5 rfl ?_
  refine z_bipush (pc' := 9) dX9_isRoom_7 rfl (by decide) ?_
  refine z_icmp_ge (tgt := 119) (pc' := 12) dX9_isRoom_9 (by decide) rfl (fun h9 => ?_) (fun h9 => ?_)
  · refine z_L3I (pc' := 120) dX9_isRoom_119 rfl ?_
    refine z_zreturn rfl rfl dX9_isRoom_120 (by omega) ?_
    obtain rfl : k = 8 := by omega
    exact hQ b G hb
  · refine z_L0R (pc' := 13) dX9_isRoom_12 rfl ?_
    have hvk := hv k hk0 (by omega)
    have hb8 : zmb (k.toNat + 1) ≤ 1444444430 := by rw [← zmb_8]; exact zmb_le _ _ (by omega)
    have hb1 : zmb (k.toNat + 1) = 10 * zmb k.toNat + 130 := rfl
    have hb0 := zmb_0 k.toNat
    have H33 : ∀ x0 v, zndv v = true → x0 = (if k = fi then x else 0) → zW mX9_isRoom d 0 0 Q 30 [zR y, zI fi, zI x, zI b, zI k, v] [] sp (zset (zset me (y + 6) G) (y + 6) (zup (zset me (y + 6) G (y + 6)) k x0)) := by
      intro x0 v hvv hx0e
      have hxx : 0 ≤ x0 ∧ x0 ≤ 120 := by
        rw [hx0e]
        split <;> omega
      rw [zset_11, zset_eq]
      refine z_iconst (pc' := 31) dX9_isRoom_30 rfl (by unfold zin; decide) ?_
      refine z_S5I (pc' := 33) rfl dX9_isRoom_31 rfl ?_
      suffices H : ∀ (n2 j : Nat), (j : Int) ≤ sz k → sz k - j < n2 → zW mX9_isRoom d 0 0 Q 33 [zR y, zI fi, zI x, zI b, zI k, zI (j : Int)] [] sp (zset me (y + 6) (zup G k (x0 + zmwd cd G k j))) by
        refine zW_to (H 11 0 (by omega) (by omega)) rfl rfl ?_
        rw [show x0 + zmwd cd G k 0 = x0 from Int.add_zero _]
      intro n2
      induction n2 with
      | zero => intro j h1 h2; omega
      | succ n2 ih2 =>
      intro j hj0 hj1
      have her : zset me (y + 6) (zup G k (x0 + zmwd cd G k j)) (y + 1) = me (y + 1) := zset_ne _ _ _ (by omega)
      have hbd := zmwd_bd (cd := cd) (g := G) (k := k) (b := zmb k.toNat) (by omega) j (fun i hi hc => by
        have hvi := hvk.2.2 (i : Int) (by omega) (by omega)
        unfold zvm at hvi
        have := hG _ (show 0 ≤ cd (k * 10 + (i : Int)) / 10 % 10 by omega) (by omega)
        exact this.2)
      have hbm : (zmb k.toNat + 1) * (j : Int) ≤ (zmb k.toNat + 1) * 10 := Int.mul_le_mul_of_nonneg_left (by omega) (by omega)
      refine z_L5I (pc' := 35) dX9_isRoom_33 rfl ?_
      refine z_L0R (pc' := 36) dX9_isRoom_35 rfl ?_
      refine z_L4I (pc' := 38) dX9_isRoom_36 rfl ?_
      refine z_V1v (pc' := 41) (ci := 9) kX9_moves lX9_81 dX9_isRoom_38 rfl (by omega) (Nat.le_of_ble_eq_true rfl) (by decide) rfl hy.s ?_
      refine m_moves hy hk0 (by omega) (zKv_i ?_)
      rw [her, hRs k hk0 (by omega)]
      refine z_icmp_ge (tgt := 91) (pc' := 44) dX9_isRoom_41 (by decide) rfl (fun h41 => ?_) (fun h41 => ?_)
      · obtain rfl : j = (sz k).toNat := by omega
        have ek : x0 + zmwd cd G k (sz k).toNat = ((zsteps sz cd k).length : Int) + zgw sz cd fi x k := by
          rw [hx0e]
          exact zmwd_k hv hk0 (by omega) (fun a a0 a1 => (hG a a0 a1).1)
        have hG2 : ∀ a, 0 ≤ a → a < k + 1 → zup G k (x0 + zmwd cd G k (sz k).toNat) a = ((zsteps sz cd a).length : Int) + zgw sz cd fi x a ∧ 0 ≤ zup G k (x0 + zmwd cd G k (sz k).toNat) a ∧ zup G k (x0 + zmwd cd G k (sz k).toNat) a ≤ zmb (k + 1).toNat := fun a a0 a1 => by
          rw [show (k + 1).toNat = k.toNat + 1 by omega]
          by_cases e : a = k
          · subst e; rw [zup_eq]; exact ⟨ek, by omega, by omega⟩
          · rw [zup_ne _ _ _ e]
            have := hG a a0 (by omega)
            exact ⟨this.1, this.2.1, by omega⟩
        refine z_L3I (pc' := 92) dX9_isRoom_91 rfl ?_
        refine z_if_eq (tgt := 111) (pc' := 95) dX9_isRoom_92 (by decide) rfl (fun h92 => ?_) (fun h92 => ?_)
        · refine z_iconst (pc' := 112) dX9_isRoom_111 rfl (by unfold zin; decide) ?_
          refine z_S3I (pc' := 113) rfl dX9_isRoom_112 rfl ?_
          refine z_inc4 (pc' := 116) rfl dX9_isRoom_113 rfl (by unfold zin; omega) ?_
          refine z_goto (tgt := 5) dX9_isRoom_116 (by decide) ?_
          refine ih (k + 1) _ _ _ (by omega) (by omega) (by omega) rfl hG2 ?_
          first
          | exact Or.inl ⟨rfl, fun a a0 a1 => by
              by_cases e : a = k
              · subst e; omega
              · exact (hb.resolve_right (fun z => by omega)).2 a a0 (by omega)⟩
          | exact Or.inr ⟨rfl, fun z => by
              rcases hb with hb | hb
              · first
                | exact absurd hb.1 (by omega)
                | (have := z k hk0 (by omega); omega)
              · exact hb.2 z⟩
        · refine z_L0R (pc' := 96) dX9_isRoom_95 rfl ?_
          refine z_getR (pc' := 99) (ki := 7) 7 fX9_25.l rfl rfl dX9_isRoom_96 rfl hy.s hy.p7 ?_
          refine z_L4I (pc' := 101) dX9_isRoom_99 rfl ?_
          refine z_ild (pc' := 102) dX9_isRoom_101 rfl hy.a6 (by omega) (by omega) ?_
          rw [zset_eq, zup_eq, ek]
          rw [ek] at hG2
          refine z_bipush (pc' := 104) dX9_isRoom_102 rfl (by decide) ?_
          refine z_icmp_gt (tgt := 111) (pc' := 107) dX9_isRoom_104 (by decide) rfl (fun h104 => ?_) (fun h104 => ?_)
          · refine z_iconst (pc' := 112) dX9_isRoom_111 rfl (by unfold zin; decide) ?_
            refine z_S3I (pc' := 113) rfl dX9_isRoom_112 rfl ?_
            refine z_inc4 (pc' := 116) rfl dX9_isRoom_113 rfl (by unfold zin; omega) ?_
            refine z_goto (tgt := 5) dX9_isRoom_116 (by decide) ?_
            refine ih (k + 1) _ _ _ (by omega) (by omega) (by omega) rfl hG2 ?_
            first
            | exact Or.inl ⟨rfl, fun a a0 a1 => by
                by_cases e : a = k
                · subst e; omega
                · exact (hb.resolve_right (fun z => by omega)).2 a a0 (by omega)⟩
            | exact Or.inr ⟨rfl, fun z => by
                rcases hb with hb | hb
                · first
                  | exact absurd hb.1 (by omega)
                  | (have := z k hk0 (by omega); omega)
                · exact hb.2 z⟩
          · refine z_iconst (pc' := 108) dX9_isRoom_107 rfl (by unfold zin; decide) ?_
            refine z_goto (tgt := 112) dX9_isRoom_108 (by decide) ?_
            refine z_S3I (pc' := 113) rfl dX9_isRoom_112 rfl ?_
            refine z_inc4 (pc' := 116) rfl dX9_isRoom_113 rfl (by unfold zin; omega) ?_
            refine z_goto (tgt := 5) dX9_isRoom_116 (by decide) ?_
            refine ih (k + 1) _ _ _ (by omega) (by omega) (by omega) rfl hG2 ?_
            first
            | exact Or.inl ⟨rfl, fun a a0 a1 => by
                by_cases e : a = k
                · subst e; omega
                · exact (hb.resolve_right (fun z => by omega)).2 a a0 (by omega)⟩
            | exact Or.inr ⟨rfl, fun z => by
                rcases hb with hb | hb
                · first
                  | exact absurd hb.1 (by omega)
                  | (have := z k hk0 (by omega); omega)
                · exact hb.2 z⟩
      · have hvj := hvk.2.2 (j : Int) (by omega) (by omega)
        unfold zvm at hvj
        have ec : ∀ q, 0 ≤ q → q < 3 → zset me (y + 6) (zup G k (x0 + zmwd cd G k j)) (y + 1) (30 + 31 * k + 1 + 3 * (j : Int) + q) = zdig (cd (k * 10 + (j : Int))) q := fun q q0 q1 => by rw [her]; exact hRc k hk0 (by omega) (j : Int) (by omega) (by omega) q q0 q1
        have ewd : zmwd cd G k (j + 1) = zmwd cd G k j + (if cd (k * 10 + (j : Int)) / 100 = 4 then G (cd (k * 10 + (j : Int)) / 10 % 10) else 1) := rfl
        refine z_L0R (pc' := 45) dX9_isRoom_44 rfl ?_
        refine z_getR (pc' := 48) (ki := 7) 7 fX9_25.l rfl rfl dX9_isRoom_45 rfl hy.s hy.p7 ?_
        refine z_L4I (pc' := 50) dX9_isRoom_48 rfl ?_
        refine z_dup2 (pc' := 51) dX9_isRoom_50 rfl ?_
        refine z_ild (pc' := 52) dX9_isRoom_51 rfl hy.a6 (by omega) (by omega) ?_
        rw [zset_eq, zup_eq]
        refine z_L0R (pc' := 53) dX9_isRoom_52 rfl ?_
        refine z_L4I (pc' := 55) dX9_isRoom_53 rfl ?_
        refine z_L5I (pc' := 57) dX9_isRoom_55 rfl ?_
        refine z_iconst (pc' := 58) dX9_isRoom_57 rfl (by unfold zin; decide) ?_
        refine z_V3v (pc' := 61) (ci := 9) kX9_ofMove lX9_85 dX9_isRoom_58 rfl (by omega) (Nat.le_of_ble_eq_true rfl) (by decide) rfl hy.s ?_
        refine m_ofMove hy hk0 (by omega) (by omega) (by omega) (by omega) (by omega) (zKv_i ?_)
        rw [ec 0 (by omega) (by omega), show zdig (cd (k * 10 + (j : Int))) 0 = cd (k * 10 + (j : Int)) / 100 from rfl]
        refine z_iconst (pc' := 62) dX9_isRoom_61 rfl (by unfold zin; decide) ?_
        refine z_icmp_ne (tgt := 82) (pc' := 65) dX9_isRoom_62 (by decide) rfl (fun h62 => ?_) (fun h62 => ?_)
        · refine z_iconst (pc' := 83) dX9_isRoom_82 rfl (by unfold zin; decide) ?_
          refine z_iadd (pc' := 84) dX9_isRoom_83 rfl (by unfold zin; omega) ?_
          refine z_ist (pc' := 85) dX9_isRoom_84 rfl hy.a6 (by omega) (by omega) ?_
          refine z_inc5 (pc' := 88) rfl dX9_isRoom_85 rfl (by unfold zin; omega) ?_
          refine z_goto (tgt := 33) dX9_isRoom_88 (by decide) ?_
          refine zW_to (ih2 (j + 1) (by omega) (by omega)) rfl rfl ?_
          rw [zset_11, zset_eq, zup_zup, ewd]
          first
          | (rw [if_pos h62, Int.add_assoc])
          | (rw [if_neg h62, Int.add_assoc])
        · refine z_L0R (pc' := 66) dX9_isRoom_65 rfl ?_
          refine z_getR (pc' := 69) (ki := 7) 7 fX9_25.l rfl rfl dX9_isRoom_66 rfl hy.s hy.p7 ?_
          refine z_L0R (pc' := 70) dX9_isRoom_69 rfl ?_
          refine z_L4I (pc' := 72) dX9_isRoom_70 rfl ?_
          refine z_L5I (pc' := 74) dX9_isRoom_72 rfl ?_
          refine z_iconst (pc' := 75) dX9_isRoom_74 rfl (by unfold zin; decide) ?_
          refine z_V3v (pc' := 78) (ci := 9) kX9_ofMove lX9_85 dX9_isRoom_75 rfl (by omega) (Nat.le_of_ble_eq_true rfl) (by decide) rfl hy.s ?_
          refine m_ofMove hy hk0 (by omega) (by omega) (by omega) (by omega) (by omega) (zKv_i ?_)
          rw [ec 1 (by omega) (by omega), show zdig (cd (k * 10 + (j : Int))) 1 = cd (k * 10 + (j : Int)) / 10 % 10 from rfl]
          refine z_ild (pc' := 79) dX9_isRoom_78 rfl hy.a6 (by omega) (by omega) ?_
          have hga := hG _ (show 0 ≤ cd (k * 10 + (j : Int)) / 10 % 10 by omega) (by omega)
          rw [zset_eq, zup_ne _ _ _ (show cd (k * 10 + (j : Int)) / 10 % 10 ≠ k by omega)]
          refine z_goto (tgt := 83) dX9_isRoom_79 (by decide) ?_
          refine z_iadd (pc' := 84) dX9_isRoom_83 rfl (by unfold zin; omega) ?_
          refine z_ist (pc' := 85) dX9_isRoom_84 rfl hy.a6 (by omega) (by omega) ?_
          refine z_inc5 (pc' := 88) rfl dX9_isRoom_85 rfl (by unfold zin; omega) ?_
          refine z_goto (tgt := 33) dX9_isRoom_88 (by decide) ?_
          refine zW_to (ih2 (j + 1) (by omega) (by omega)) rfl rfl ?_
          rw [zset_11, zset_eq, zup_zup, ewd]
          first
          | (rw [if_pos h62, Int.add_assoc])
          | (rw [if_neg h62, Int.add_assoc])
    refine z_getR (pc' := 16) (ki := 7) 7 fX9_25.l rfl rfl dX9_isRoom_13 rfl hy.s hy.p7 ?_
    refine z_L4I (pc' := 18) dX9_isRoom_16 rfl ?_
    refine z_L4I (pc' := 20) dX9_isRoom_18 rfl ?_
    refine z_L1I (pc' := 21) dX9_isRoom_20 rfl ?_
    refine z_icmp_ne (tgt := 28) (pc' := 24) dX9_isRoom_21 (by decide) rfl (fun h21 => ?_) (fun h21 => ?_)
    · refine z_iconst (pc' := 29) dX9_isRoom_28 rfl (by unfold zin; decide) ?_
      refine z_ist (pc' := 30) dX9_isRoom_29 rfl hy.a6 (by omega) (by omega) ?_
      first
      | exact H33 _ _ hvv (by rw [if_pos h21])
      | exact H33 _ _ hvv (by rw [if_neg h21])
    · refine z_L2I (pc' := 25) dX9_isRoom_24 rfl ?_
      refine z_goto (tgt := 29) dX9_isRoom_25 (by decide) ?_
      refine z_ist (pc' := 30) dX9_isRoom_29 rfl hy.a6 (by omega) (by omega) ?_
      first
      | exact H33 _ _ hvv (by rw [if_pos h21])
      | exact H33 _ _ hvv (by rw [if_neg h21])
theorem zdig_c {kd a b : Int} (ha : 0 ≤ a ∧ a < 10) (hb : 0 ≤ b ∧ b < 10) : zdig (kd * 100 + a * 10 + b) 0 = kd ∧ zdig (kd * 100 + a * 10 + b) 1 = a ∧ zdig (kd * 100 + a * 10 + b) 2 = b := by
  refine ⟨?_, ?_, ?_⟩
  · show (kd * 100 + a * 10 + b) / 100 = kd; omega
  · show (kd * 100 + a * 10 + b) / 10 % 10 = a; omega
  · show (kd * 100 + a * 10 + b) % 10 = b; omega
theorem zMR_add {r r' : Int → Int} {w f h sz cd : Int → Int} {pr a b c k0 kd u v : Int} (hg : zgR w f) (hv : zfv sz cd) (hR : zMR r (w, f, h, pr, sz, cd, a, b, c)) (h0 : 0 ≤ k0) (h8 : k0 < 8) (hs : sz k0 < 10) (hu : 0 ≤ u ∧ u < 10) (hv2 : 0 ≤ v ∧ v < 10) (he : r' = zup (zup (zup (zup r (30 + 31 * k0 + 1 + 3 * sz k0) kd) (30 + 31 * k0 + 1 + 3 * sz k0 + 1) u) (30 + 31 * k0 + 1 + 3 * sz k0 + 2) v) (30 + 31 * k0) (sz k0 + 1)) : zMR r' (qst w f h pr (zup sz k0 (sz k0 + 1)) (zup cd (k0 * 10 + sz k0) (kd * 100 + u * 10 + v)) a b c) := by
  have hvk := hv k0 h0 h8
  refine zMR_fig hg hR (fun q q0 q1 q2 => ?_) (fun k k0' k1 => ?_)
  · rw [he, zup_ne _ _ _ (by omega), zup_ne _ _ _ (by omega), zup_ne _ _ _ (by omega), zup_ne _ _ _ (by omega)]
  · have g4 := hR.2.2.2.1 k k0' k1
    have hvk2 := hv k k0' k1
    by_cases e : k = k0
    · subst e
      rw [zup_eq]
      refine ⟨by rw [he, zup_eq], fun m m0 m1 q q0 q1 => ?_⟩
      by_cases em : m = sz k
      · rw [em, zup_eq]
        have hz := zdig_c (kd := kd) hu hv2
        have eq : q = 0 ∨ q = 1 ∨ q = 2 := by omega
        rcases eq with eq | eq | eq
        · subst eq; rw [he, zup_ne _ _ _ (by omega), zup_ne _ _ _ (by omega), zup_ne _ _ _ (by omega), Int.add_zero, zup_eq, hz.1]
        · subst eq; rw [he, zup_ne _ _ _ (by omega), zup_ne _ _ _ (by omega), zup_eq, hz.2.1]
        · subst eq; rw [he, zup_ne _ _ _ (by omega), zup_eq, hz.2.2]
      · rw [zup_ne _ _ _ (show k * 10 + m ≠ k * 10 + sz k by omega)]
        rw [he, zup_ne _ _ _ (by omega), zup_ne _ _ _ (by omega), zup_ne _ _ _ (by omega), zup_ne _ _ _ (by omega)]
        exact g4.2 m m0 (show m < sz k by omega) q q0 q1
    · rw [zup_ne _ _ _ e]
      have e2 : k < k0 ∨ k0 < k := by omega
      refine ⟨?_, fun m m0 m1 q q0 q1 => ?_⟩
      · rw [he, zup_ne _ _ _ (by omega), zup_ne _ _ _ (by omega), zup_ne _ _ _ (by omega), zup_ne _ _ _ (by omega)]
        exact g4.1
      · have m2 : m < sz k := m1
        rw [zup_ne _ _ _ (show k * 10 + m ≠ k0 * 10 + sz k0 by omega)]
        rw [he, zup_ne _ _ _ (by omega), zup_ne _ _ _ (by omega), zup_ne _ _ _ (by omega), zup_ne _ _ _ (by omega)]
        exact g4.2 m m0 m1 q q0 q1
theorem zMQ_u {y : Nat} {me me' : zMe} (h : ∀ a, a ≠ y + 4 → a ≠ y + 5 → me' a = me a) : zMQ y me me' :=
  ⟨fun a ha => h a (by omega) (by omega), h _ (by omega) (by omega), h _ (by omega) (by omega), h _ (by omega) (by omega), h _ (by omega) (by omega), by rw [h y (by omega) (by omega)], by rw [h y (by omega) (by omega)], by rw [h y (by omega) (by omega)]⟩
set_option maxRecDepth 100000 in
set_option maxHeartbeats 1000000 in
theorem y_add {d : Nat} {sp : zSP} {me : zMe} {Q : zQ} {y : Nat} {A : zAb} {B k kd a b : Int} (hd : 20 ≤ d) (hy : zMod sp y) (hX : zMX me y A) (hI : zIA B A) (hQ : ∀ me', zMX me' y (zoAdd A k kd a b).2 → zMF y me me' → Q (some (zI (zoAdd A k kd a b).1)) sp me') : zCall mX9_add d 0 0 [zR y, zI k, zI kd, zI a, zI b] sp me Q := by
  refine z_met kX9_add (by simp) (by simp) ?_
  show zW mX9_add d 0 0 Q 0 [zR y, zI k, zI kd, zI a, zI b, zU] [] sp me
  have hIS := hI.1
  have hgA : zgR (qW A) (qF A) := hIS.1
  have hokA : zHok (qH A) := hIS.2.1
  have hpnA : qP A = zpn (qH A) := hIS.2.2.1
  have hvA : zfv (qS A) (qC A) := hIS.2.2.2.1
  have hlA : zlim (qS A) (qC A) := hIS.2.2.2.2.1
  have hRw : ∀ p, 0 ≤ p → p < 10 → me (y + 1) p = qW A p := hX.1.1
  have hRf : ∀ i, 0 ≤ i → i < 10 → me (y + 1) (10 + i) = qF A (zpl (qW A) i) := fun i a b => zMR_f hI.1 hX.1 a b
  have hRh : ∀ i, 0 ≤ i → i < 10 → me (y + 1) (20 + i) = qH A i := hX.1.2.2.1
  have hRs : ∀ k, 0 ≤ k → k < 8 → me (y + 1) (30 + 31 * k) = qS A k := fun k a b => (hX.1.2.2.2.1 k a b).1
  have hRc : ∀ k, 0 ≤ k → k < 8 → ∀ m, 0 ≤ m → m < qS A k → ∀ q, 0 ≤ q → q < 3 → me (y + 1) (30 + 31 * k + 1 + 3 * m + q) = zdig (qC A (k * 10 + m)) q := fun k a b => (hX.1.2.2.2.1 k a b).2
  unfold zoAdd at hQ
  refine z_L1I (pc' := 1) dX9_add_0 rfl ?_
  refine z_S1v (pc' := 4) kX9_isFigure lX9_97 dX9_add_1 rfl (by omega) (Nat.le_of_ble_eq_true rfl) ?_
  refine m_isFig2 (by omega) (fun b1 hb1 => zKv_i ?_)
  refine z_if_ne (tgt := 9) (pc' := 7) dX9_add_4 (by decide) rfl (fun h4 => ?_) (fun h4 => ?_)
  · rw [zif_neg (by omega)] at hQ
    have hvk := hvA k (by omega) (by omega)
    refine z_L1I (pc' := 10) dX9_add_9 rfl ?_
    refine z_L2I (pc' := 11) dX9_add_10 rfl ?_
    refine z_L3I (pc' := 12) dX9_add_11 rfl ?_
    refine z_L4I (pc' := 14) dX9_add_12 rfl ?_
    refine z_S4v (pc' := 17) kX9_isMove lX9_101 dX9_add_14 rfl (by omega) (Nat.le_of_ble_eq_true rfl) ?_
    refine m_isMove (by omega) (by omega) (by omega) (fun b2 hb2 => zKv_i ?_)
    refine z_if_ne (tgt := 23) (pc' := 20) dX9_add_17 (by decide) rfl (fun h17 => ?_) (fun h17 => ?_)
    · have hm : zmv k kd a b := (hb2.resolve_right (fun z => h17 z.1)).2
      rw [zif_neg (fun z => z hm)] at hQ
      have hmm := hm
      unfold zmv at hmm
      refine z_L0R (pc' := 24) dX9_add_23 rfl ?_
      refine z_L1I (pc' := 25) dX9_add_24 rfl ?_
      refine z_V1v (pc' := 28) (ci := 9) kX9_moves lX9_81 dX9_add_25 rfl (by omega) (Nat.le_of_ble_eq_true rfl) (by decide) rfl hy.s ?_
      refine m_moves hy (by omega) (by omega) (zKv_i ?_)
      rw [hRs k (by omega) (by omega)]
      refine z_bipush (pc' := 30) dX9_add_28 rfl (by decide) ?_
      refine z_icmp_eq (tgt := 55) (pc' := 33) dX9_add_30 (by decide) rfl (fun h30 => ?_) (fun h30 => ?_)
      · first
        | rw [zif_pos (Or.inl (by omega))] at hQ
        | rw [zif_pos (Or.inr (fun z => by rcases hb3 with h | h; exact absurd h52 (by omega); exact h.2 (hiff.1 z)))] at hQ
        refine z_bipush (pc' := 57) dX9_add_55 rfl (by decide) ?_
        refine z_ireturn rfl rfl dX9_add_57 ?_
        first
        | exact hQ me hX zMF.rf
        | exact hQ _ (hq2.mx hX) hq2.fr
      · have H49 : ∀ (n : Int) (me1 : zMe), n = (if kd = 4 then ((zsteps (qS A) (qC A) a).length : Int) else 1) → zMQ y me me1 → zW mX9_add d 0 0 Q 49 [zR y, zI k, zI kd, zI a, zI b, zU] [zI n, zI k, zR y] sp me1 := by
          intro n me1 hn hq1
          have hn0 : 0 ≤ n ∧ n ≤ 120 := by
            rw [hn]
            by_cases e4 : kd = 4
            · have := hlA a (by omega) (by omega)
              rw [if_pos e4]; omega
            · rw [if_neg e4]; omega
          refine z_V2v (pc' := 52) (ci := 9) kX9_isRoom lX9_108 dX9_add_49 rfl (by omega) (Nat.le_of_ble_eq_true rfl) (by decide) rfl hy.s ?_
          refine m_isRoom (fi := k) (by omega) hy hvA hn0.1 hn0.2 (by rw [hq1.2.1]; exact hRs) (by rw [hq1.2.1]; exact hRc) (fun b3 G hb3 => zKv_i ?_)
          have hq2 : zMQ y me (zset me1 (y + 6) G) := hq1.trans (zMQ_s (o := 6) (by omega) (by omega) (by omega))
          revert hq2
          generalize zset me1 (y + 6) G = me2
          intro hq2
          have hiff := zlim_add (kd := kd) (a := a) (b := b) hvA (show 0 ≤ k by omega) (show k < 8 by omega) (show qS A k < 10 by omega) hm
          rw [← hn] at hiff
          refine z_if_ne (tgt := 58) (pc' := 55) dX9_add_52 (by decide) rfl (fun h52 => ?_) (fun h52 => ?_)
          · have hl2 := hiff.2 (hb3.resolve_right (fun z => h52 z.1)).2
            rw [zif_neg (fun z => z.elim (fun z => by omega) (fun z => z hl2))] at hQ
            have hX2 := hq2.mx hX
            have hR2 : me2 (y + 1) = me (y + 1) := hq2.2.1
            refine z_L0R (pc' := 59) dX9_add_58 rfl ?_
            refine z_V00 (pc' := 62) (ci := 9) kX9_record lX9_78 dX9_add_59 rfl (by omega) (Nat.le_of_ble_eq_true rfl) (by decide) rfl hy.s ?_
            refine m_record hy hI.1 hI.2.1 hX2.1 hX2.2.1 (fun me3 hH3 hm1 hm2 => zK0_i ?_)
            have hr3 : me3 (y + 1) = me (y + 1) := (hm1 _ (by omega) (by omega)).trans hR2
            refine z_bipush (pc' := 64) dX9_add_62 rfl (by decide) ?_
            refine z_bipush (pc' := 66) dX9_add_64 rfl (by decide) ?_
            refine z_L1I (pc' := 67) dX9_add_66 rfl ?_
            refine z_imul (pc' := 68) dX9_add_67 rfl (by unfold zin; omega) ?_
            refine z_iadd (pc' := 69) dX9_add_68 rfl (by unfold zin; omega) ?_
            refine z_iconst (pc' := 70) dX9_add_69 rfl (by unfold zin; decide) ?_
            refine z_iadd (pc' := 71) dX9_add_70 rfl (by unfold zin; omega) ?_
            refine z_iconst (pc' := 72) dX9_add_71 rfl (by unfold zin; decide) ?_
            refine z_L0R (pc' := 73) dX9_add_72 rfl ?_
            refine z_L1I (pc' := 74) dX9_add_73 rfl ?_
            refine z_V1v (pc' := 77) (ci := 9) kX9_moves lX9_81 dX9_add_74 rfl (by omega) (Nat.le_of_ble_eq_true rfl) (by decide) rfl hy.s ?_
            refine m_moves hy (by omega) (by omega) (zKv_i ?_)
            rw [hr3, hRs k (by omega) (by omega)]
            refine z_imul (pc' := 78) dX9_add_77 rfl (by unfold zin; omega) ?_
            refine z_iadd (pc' := 79) dX9_add_78 rfl (by unfold zin; omega) ?_
            refine z_S5I (pc' := 81) rfl dX9_add_79 rfl ?_
            refine z_L0R (pc' := 82) dX9_add_81 rfl ?_
            refine z_getR (pc' := 85) (ki := 0) 0 fX9_7.l rfl rfl dX9_add_82 rfl hy.s hy.p0 ?_
            refine z_L5I (pc' := 87) dX9_add_85 rfl ?_
            refine z_L2I (pc' := 88) dX9_add_87 rfl ?_
            refine z_ist (pc' := 89) dX9_add_88 rfl hy.a1 (by omega) (by omega) ?_
            refine z_L0R (pc' := 90) dX9_add_89 rfl ?_
            refine z_getR (pc' := 93) (ki := 0) 0 fX9_7.l rfl rfl dX9_add_90 rfl hy.s hy.p0 ?_
            refine z_L5I (pc' := 95) dX9_add_93 rfl ?_
            refine z_iconst (pc' := 96) dX9_add_95 rfl (by unfold zin; decide) ?_
            refine z_iadd (pc' := 97) dX9_add_96 rfl (by unfold zin; omega) ?_
            refine z_L3I (pc' := 98) dX9_add_97 rfl ?_
            refine z_ist (pc' := 99) dX9_add_98 rfl hy.a1 (by omega) (by omega) ?_
            refine z_L0R (pc' := 100) dX9_add_99 rfl ?_
            refine z_getR (pc' := 103) (ki := 0) 0 fX9_7.l rfl rfl dX9_add_100 rfl hy.s hy.p0 ?_
            refine z_L5I (pc' := 105) dX9_add_103 rfl ?_
            refine z_iconst (pc' := 106) dX9_add_105 rfl (by unfold zin; decide) ?_
            refine z_iadd (pc' := 107) dX9_add_106 rfl (by unfold zin; omega) ?_
            refine z_L4I (pc' := 109) dX9_add_107 rfl ?_
            refine z_ist (pc' := 110) dX9_add_109 rfl hy.a1 (by omega) (by omega) ?_
            refine z_L0R (pc' := 111) dX9_add_110 rfl ?_
            refine z_getR (pc' := 114) (ki := 0) 0 fX9_7.l rfl rfl dX9_add_111 rfl hy.s hy.p0 ?_
            refine z_bipush (pc' := 116) dX9_add_114 rfl (by decide) ?_
            refine z_bipush (pc' := 118) dX9_add_116 rfl (by decide) ?_
            refine z_L1I (pc' := 119) dX9_add_118 rfl ?_
            refine z_imul (pc' := 120) dX9_add_119 rfl (by unfold zin; omega) ?_
            refine z_iadd (pc' := 121) dX9_add_120 rfl (by unfold zin; omega) ?_
            refine z_dup2 (pc' := 122) dX9_add_121 rfl ?_
            refine z_ild (pc' := 123) dX9_add_122 rfl hy.a1 (by omega) (by omega) ?_
            simp only [zset_eq, zset_11]
            rw [zup_ne _ _ _ (by omega), zup_ne _ _ _ (by omega), zup_ne _ _ _ (by omega), hr3, hRs k (by omega) (by omega)]
            refine z_iconst (pc' := 124) dX9_add_123 rfl (by unfold zin; decide) ?_
            refine z_iadd (pc' := 125) dX9_add_124 rfl (by unfold zin; omega) ?_
            refine z_ist (pc' := 126) dX9_add_125 rfl hy.a1 (by omega) (by omega) ?_
            refine z_L0R (pc' := 127) dX9_add_126 rfl ?_
            refine z_L1I (pc' := 128) dX9_add_127 rfl ?_
            refine z_V1v (pc' := 131) (ci := 9) kX9_moves lX9_81 dX9_add_128 rfl (by omega) (Nat.le_of_ble_eq_true rfl) (by decide) rfl hy.s ?_
            simp only [zset_eq, zset_11]
            refine m_moves hy (by omega) (by omega) (zKv_i ?_)
            generalize hm4 : zset me3 (y + 1) _ = me4
            have o2 : ∀ a, a ≠ y + 1 → me4 a = me3 a := fun a ha => by rw [← hm4, zset_ne _ _ _ ha]
            have e2 : me4 (y + 1) = zup (zup (zup (zup (me (y + 1)) (30 + 31 * k + 1 + 3 * qS A k) kd) (30 + 31 * k + 1 + 3 * qS A k + 1) a) (30 + 31 * k + 1 + 3 * qS A k + 2) b) (30 + 31 * k) (qS A k + 1) := by rw [← hm4, zset_eq]
            have hRS : zMR (me4 (y + 1)) (qst (qW A) (qF A) (qH A) (qP A) (zup (qS A) k (qS A k + 1)) (zup (qC A) (k * 10 + qS A k) (kd * 100 + a * 10 + b)) (qT0 A) (qT1 A) (qT2 A)) := zMR_add hgA hvA hX.1 (by omega) (by omega) (by omega) (by omega) (by omega) e2
            have hsz : me4 (y + 1) (30 + 31 * k) = qS A k + 1 := by have := (hRS.2.2.2.1 k (by omega) (by omega)).1; rw [this]; exact zup_eq _ _ _
            rw [hsz]
            refine z_ireturn rfl rfl dX9_add_131 ?_
            refine hQ me4 (zMX_do hX2 hRS ?_ ?_ ?_ ?_ ?_) (fun a ha => by rw [o2 a (by omega), hm1 a (by omega) (by omega), hq2.1 a ha])
            · obtain ⟨k1, k2, k3⟩ := hH3
              exact ⟨by rw [o2 _ (by omega)]; exact k1, k2, by rw [o2 _ (by omega)]; exact k3⟩
            · rw [o2 _ (by omega)]; exact hm2 _ (by omega)
            · rw [o2 _ (by omega)]; exact hm2 _ (by omega)
            · rw [o2 _ (by omega)]; exact hm1 _ (by omega) (by omega)
            · rw [o2 _ (by omega)]; exact hm1 _ (by omega) (by omega)
          · first
            | rw [zif_pos (Or.inl (by omega))] at hQ
            | rw [zif_pos (Or.inr (fun z => by rcases hb3 with h | h; exact absurd h52 (by omega); exact h.2 (hiff.1 z)))] at hQ
            refine z_bipush (pc' := 57) dX9_add_55 rfl (by decide) ?_
            refine z_ireturn rfl rfl dX9_add_57 ?_
            first
            | exact hQ me hX zMF.rf
            | exact hQ _ (hq2.mx hX) hq2.fr
        refine z_L0R (pc' := 34) dX9_add_33 rfl ?_
        refine z_L1I (pc' := 35) dX9_add_34 rfl ?_
        refine z_L2I (pc' := 36) dX9_add_35 rfl ?_
        refine z_iconst (pc' := 37) dX9_add_36 rfl (by unfold zin; decide) ?_
        refine z_icmp_ne (tgt := 48) (pc' := 40) dX9_add_37 (by decide) rfl (fun h37 => ?_) (fun h37 => ?_)
        · refine z_iconst (pc' := 49) dX9_add_48 rfl (by unfold zin; decide) ?_
          exact H49 _ me (by rw [if_neg (by omega)]) zMQ.rf
        · refine z_L0R (pc' := 41) dX9_add_40 rfl ?_
          refine z_L3I (pc' := 42) dX9_add_41 rfl ?_
          refine z_V1v (pc' := 45) (ci := 9) kX9_stepsOf lX9_105 dX9_add_42 rfl (by omega) (Nat.le_of_ble_eq_true rfl) (by decide) rfl hy.s ?_
          refine m_stepsOf (by omega) hy hvA hlA (by omega) (by omega) hRs hRc (fun me1 hf1 => zKv_i ?_)
          refine z_goto (tgt := 49) dX9_add_45 (by decide) ?_
          exact H49 _ me1 (by rw [if_pos (by omega)]) (zMQ_u hf1)
    · rw [zif_pos (fun z => by rcases hb2 with h | h; exact absurd h17 (by omega); exact h.2 z)] at hQ
      refine z_bipush (pc' := 22) dX9_add_20 rfl (by decide) ?_
      refine z_ireturn rfl rfl dX9_add_22 ?_
      exact hQ me hX zMF.rf
  · rw [zif_pos (by omega)] at hQ
    refine z_iconst (pc' := 8) dX9_add_7 rfl (by unfold zin; decide) ?_
    refine z_ireturn rfl rfl dX9_add_8 ?_
    exact hQ me hX zMF.rf
end ZMO7

