section ZSEA
def zhb (R : zRg) : Bool := decide (zSm (fun p => if R.1 p = p ∧ R.2 p = 0 then 1 else 0) 10 = 10)
theorem zhb_iff {R : zRg} : zhb R = true ↔ zhm R.1 R.2 := by unfold zhb; rw [decide_eq_true_eq]; exact zhm_cnt
def zfst (F : Int → Option (List Int)) : Nat → Int → Option (List Int)
  | 0, _ => none
  | n + 1, k => match F k with
    | some t => some (k :: t)
    | none => zfst F n (k + 1)
/-- the first row of m figures that brings all home -/
def zlh (E : Int → zRg) : Nat → zRg → Option (List Int)
  | 0, R => if zhb R = true then some [] else none
  | m + 1, R => zfst (fun k => zlh E m (zact R (E k))) 8 0
theorem zfst_s {F : Int → Option (List Int)} {n : Nat} {k : Int} {t : List Int} (h : F k = some t) : zfst F (n + 1) k = some (k :: t) := by unfold zfst; rw [h]
theorem zfst_n {F : Int → Option (List Int)} {n : Nat} {k : Int} (h : F k = none) : zfst F (n + 1) k = zfst F n (k + 1) := by
  show (match F k with
    | some t => some (k :: t)
    | none => zfst F n (k + 1)) = _
  rw [h]
def zLf (q : Nat) (dpt : Int) (me me' : zMe) : Prop := (∀ a, a ≠ q + 1 → (a < q + 3 + 5 * dpt.toNat ∨ q + 22 < a) → me' a = me a) ∧ ∀ j, 0 ≤ j → j < dpt → me' (q + 1) j = me (q + 1) j
theorem zLf.rf {q : Nat} {dpt : Int} {me : zMe} : zLf q dpt me me := ⟨fun _ _ _ => rfl, fun _ _ _ => rfl⟩
theorem zLf.trans {q : Nat} {dpt : Int} {me me1 me2 : zMe} (h1 : zLf q dpt me me1) (h2 : zLf q dpt me1 me2) : zLf q dpt me me2 := ⟨fun a ha hb => (h2.1 a ha hb).trans (h1.1 a ha hb), fun j h0 hj => (h2.2 j h0 hj).trans (h1.2 j h0 hj)⟩
theorem zLf.up {q : Nat} {dpt : Int} {me me1 : zMe} (h0 : 0 ≤ dpt) (h1 : zLf q (dpt + 1) me me1) : zLf q dpt me me1 := ⟨fun a ha hb => h1.1 a ha (by omega), fun j h0 hj => h1.2 j h0 (by omega)⟩
set_option maxRecDepth 100000 in
set_option maxHeartbeats 1000000 in
theorem c_leads {d : Nat} {sp : zSP} {me : zMe} {Q : zQ} (m : Nat) {q p r : Nat} {dpt len : Int} {E : Int → zRg} (hd : m + 6 ≤ d) (hq : zSea sp q) (hp : zPlan sp p) (hr : zRing sp r) (hdpt : 0 ≤ dpt) (hm : len - dpt = m) (hm1 : 1 ≤ m) (hlen : len ≤ 4) (hdisp : q + 22 < p ∨ p + 50 < q) (hrr : r + 4 < q ∨ q + 22 < r ∨ (q + 3 ≤ r ∧ r + 4 < q + 3 + 5 * dpt.toNat)) (hrp : r + 4 < p ∨ p + 50 < r) (hgr : zgR (me (r + 1)) (me (r + 2))) (hE : ∀ k, 0 ≤ k → k < 8 → me (p + 11 + 5 * k.toNat + 1) = (E k).1 ∧ me (p + 11 + 5 * k.toNat + 2) = (E k).2 ∧ zgR (E k).1 (E k).2) (hQ1 : ∀ t, zlh E m (me (r + 1), me (r + 2)) = some t → ∀ me', (∀ i : Nat, i < m → me' (q + 1) (dpt + (i : Int)) = t.getD i 0) → zLf q dpt me me' → Q (some (zI 1)) sp me') (hQ0 : zlh E m (me (r + 1), me (r + 2)) = none → ∀ me', zLf q dpt me me' → Q (some (zI 0)) sp me') : zCall mX6_leadsHome d 0 0 [zR q, zR p, zR r, zI dpt, zI len] sp me Q := by
  induction m using Nat.strongRecOn generalizing d me Q r dpt with
  | ind m ih =>
  refine z_met kX6_leadsHome (by simp) (by simp) ?_
  show zW mX6_leadsHome d 0 0 Q 0 [zR q, zR p, zR r, zI dpt, zI len, zU, zU, zU, zU] [] sp me
  obtain ⟨m', rfl⟩ : ∃ m', m = m' + 1 := ⟨m - 1, by omega⟩
  have hqd := hq.q dpt hdpt (by omega)
  have H24 : ∀ isl : Int, (isl = 1 ∧ m' = 0) ∨ (isl = 0 ∧ 1 ≤ m') → zW mX6_leadsHome d 0 0 Q 24 [zR q, zR p, zR r, zI dpt, zI len, zU, zU, zU, zU] [zI isl] sp me := by
    intro isl hisl
    refine z_S5I (pc' := 26) rfl dX6_leadsHome_24 rfl ?_
    refine z_L0R (pc' := 27) dX6_leadsHome_26 rfl ?_
    refine z_getR (pc' := 30) (ki := 1) 1 fX6_17.l rfl rfl dX6_leadsHome_27 rfl hq.s hq.p1 ?_
    refine z_L3I (pc' := 31) dX6_leadsHome_30 rfl ?_
    refine z_qld (pc' := 32) 3 dX6_leadsHome_31 rfl hq.a2 (by omega) (by omega) (by omega) hqd.1 ?_
    refine z_S6R (pc' := 34) rfl dX6_leadsHome_32 rfl ?_
    refine z_iconst (pc' := 35) dX6_leadsHome_34 rfl (by unfold zin; decide) ?_
    refine z_S7I (pc' := 37) rfl dX6_leadsHome_35 rfl ?_
    suffices H : ∀ (n : Nat) (k : Int) (v8 : zV) (me1 : zMe), 0 ≤ k → k ≤ 8 → 8 - k < n → zLf q dpt me me1 → zlh E (m' + 1) (me (r + 1), me (r + 2)) = zfst (fun k => zlh E m' (zact (me (r + 1), me (r + 2)) (E k))) (8 - k).toNat k → zW mX6_leadsHome d 0 0 Q 37 [zR q, zR p, zR r, zI dpt, zI len, zI isl, zR (q + 3 + 5 * dpt.toNat), zI k, v8] [] sp me1 by
      exact H 9 0 zU me (by omega) (by omega) (by omega) zLf.rf rfl
    intro n
    induction n with
    | zero => intro k v8 me1 hk0 hk1 hk2; omega
    | succ n ihn =>
    intro k v8 me1 hk0 hk1 hk2 hF hz
    refine z_L7I (pc' := 39) dX6_leadsHome_37 rfl ?_
    refine z_bipush (pc' := 41) dX6_leadsHome_39 rfl (by decide) ?_
    refine z_icmp_ge (tgt := 112) (pc' := 44) dX6_leadsHome_41 (by decide) rfl (fun h41 => ?_) (fun h41 => ?_)
    · refine z_iconst (pc' := 113) dX6_leadsHome_112 rfl (by unfold zin; decide) ?_
      refine z_zreturn rfl rfl dX6_leadsHome_113 (by omega) ?_
      obtain rfl : k = 8 := by omega
      exact hQ0 hz me1 hF
    · obtain ⟨n8, hn8⟩ : ∃ n8, (8 - k).toNat = n8 + 1 := ⟨(8 - k).toNat - 1, by omega⟩
      have hn9 : (8 - (k + 1)).toNat = n8 := by omega
      rw [hn8] at hz
      have hpk := hp.q k hk0 (by omega)
      have hEk := hE k hk0 (by omega)
      refine z_L1R (pc' := 45) dX6_leadsHome_44 rfl ?_
      refine z_L7I (pc' := 47) dX6_leadsHome_45 rfl ?_
      refine z_V1v (pc' := 50) (ci := 3) kX3_effectOf lX6_34 dX6_leadsHome_47 rfl (by omega) (Nat.le_of_ble_eq_true rfl) (by decide) rfl hp.s ?_
      refine c_effectOf (by omega) hp hk0 (by omega) (zKv_i ?_)
      refine z_S8R (pc' := 52) rfl dX6_leadsHome_50 rfl ?_
      refine z_L0R (pc' := 53) dX6_leadsHome_52 rfl ?_
      refine z_getR (pc' := 56) (ki := 0) 0 fX6_9.l rfl rfl dX6_leadsHome_53 rfl hq.s hq.p0 ?_
      refine z_L3I (pc' := 57) dX6_leadsHome_56 rfl ?_
      refine z_L7I (pc' := 59) dX6_leadsHome_57 rfl ?_
      refine z_ist (pc' := 60) dX6_leadsHome_59 rfl (by first | exact hq.a1 | exact hp.a1 | exact hp.a2 | exact hp.a3 | exact hp.a4) (by omega) (by omega) ?_
      generalize hme2 : zset me1 (q + 1) (zup (me1 (q + 1)) dpt k) = me2
      have hF2 : zLf q dpt me me2 := by
        rw [← hme2]
        exact ⟨fun a ha hb => by rw [zset_ne _ _ _ ha]; exact hF.1 a ha hb, fun j h0 hj => by rw [zset_eq, zup_ne _ _ _ (by omega)]; exact hF.2 j h0 hj⟩
      have hrow : me2 (q + 1) dpt = k := by rw [← hme2, zset_eq, zup_eq]
      have er1 : me2 (r + 1) = me (r + 1) := hF2.1 _ (by omega) (by omega)
      have er2 : me2 (r + 2) = me (r + 2) := hF2.1 _ (by omega) (by omega)
      have ee1 : me2 (p + 11 + 5 * k.toNat + 1) = (E k).1 := by rw [hF2.1 _ (by omega) (by omega)]; exact hEk.1
      have ee2 : me2 (p + 11 + 5 * k.toNat + 2) = (E k).2 := by rw [hF2.1 _ (by omega) (by omega)]; exact hEk.2.1
      refine z_L5I (pc' := 62) dX6_leadsHome_60 rfl ?_
      refine z_if_eq (tgt := 76) (pc' := 65) dX6_leadsHome_62 (by decide) rfl (fun h62 => ?_) (fun h62 => ?_)
      · obtain ⟨m2, rfl⟩ : ∃ m2, m' = m2 + 1 := ⟨m' - 1, by omega⟩
        refine z_L6R (pc' := 78) dX6_leadsHome_76 rfl ?_
        refine z_L2R (pc' := 79) dX6_leadsHome_78 rfl ?_
        refine z_V10 (pc' := 82) (ci := 4) kX4_copyFrom lX6_44 dX6_leadsHome_79 rfl (by omega) (Nat.le_of_ble_eq_true rfl) (by decide) rfl hqd.2.s ?_
        refine c_ringCopy (by omega) hqd.2 hr (by omega) (zK0_i ?_)
        rw [er1, er2]
        generalize hme3 : zset (zset me2 (q + 3 + 5 * dpt.toNat + 1) (me (r + 1))) (q + 3 + 5 * dpt.toNat + 2) (me (r + 2)) = me3
        have g1 : me3 (q + 3 + 5 * dpt.toNat + 1) = me (r + 1) := by rw [← hme3, zset_ne _ _ _ (by omega), zset_eq]
        have g2 : me3 (q + 3 + 5 * dpt.toNat + 2) = me (r + 2) := by rw [← hme3, zset_eq]
        have g3 : ∀ a, a ≠ q + 3 + 5 * dpt.toNat + 1 → a ≠ q + 3 + 5 * dpt.toNat + 2 → me3 a = me2 a := fun a h1 h2 => by rw [← hme3, zset_ne _ _ _ h2, zset_ne _ _ _ h1]
        have f1 : me3 (p + 11 + 5 * k.toNat + 1) = (E k).1 := by rw [g3 _ (by omega) (by omega)]; exact ee1
        have f2 : me3 (p + 11 + 5 * k.toNat + 2) = (E k).2 := by rw [g3 _ (by omega) (by omega)]; exact ee2
        refine z_L6R (pc' := 84) dX6_leadsHome_82 rfl ?_
        refine z_L8R (pc' := 86) dX6_leadsHome_84 rfl ?_
        refine z_V10 (pc' := 89) (ci := 4) kX4_follow lX6_48 dX6_leadsHome_86 rfl (by omega) (Nat.le_of_ble_eq_true rfl) (by decide) rfl hqd.2.s ?_
        refine c_follow (by omega) hqd.2 hpk.2 (by omega) (by rw [g1, g2]; exact hgr) (by rw [f1, f2]; exact hEk.2.2) (fun j3 j4 => zK0_i ?_)
        rw [g1, g2, f1, f2]
        generalize hme4 : zr4 me3 (q + 3 + 5 * dpt.toNat) j3 j4 (zaw (me (r + 1)) (E k).1) (zaf (me (r + 2)) (E k).1 (E k).2) = me4
        have i1 : me4 (q + 3 + 5 * dpt.toNat + 1) = zaw (me (r + 1)) (E k).1 := by rw [← hme4, zr4_1]
        have i2 : me4 (q + 3 + 5 * dpt.toNat + 2) = zaf (me (r + 2)) (E k).1 (E k).2 := by rw [← hme4, zr4_2]
        have i3 : ∀ a, (a < q + 3 + 5 * dpt.toNat + 1 ∨ q + 3 + 5 * dpt.toNat + 4 < a) → me4 a = me2 a := fun a h1 => by rw [← hme4, zr4_o _ _ _ _ _ _ _ h1, g3 _ (by omega) (by omega)]
        have hF4 : zLf q dpt me me4 := ⟨fun a ha hb => by rw [i3 a (by omega)]; exact hF2.1 a ha hb, fun j h0 hj => by rw [i3 _ (by omega)]; exact hF2.2 j h0 hj⟩
        have hrow4 : me4 (q + 1) dpt = k := by rw [i3 _ (by omega)]; exact hrow
        refine z_L0R (pc' := 90) dX6_leadsHome_89 rfl ?_
        refine z_L1R (pc' := 91) dX6_leadsHome_90 rfl ?_
        refine z_L6R (pc' := 93) dX6_leadsHome_91 rfl ?_
        refine z_L3I (pc' := 94) dX6_leadsHome_93 rfl ?_
        refine z_iconst (pc' := 95) dX6_leadsHome_94 rfl (by unfold zin; decide) ?_
        refine z_iadd (pc' := 96) dX6_leadsHome_95 rfl (by unfold zin; omega) ?_
        refine z_L4I (pc' := 98) dX6_leadsHome_96 rfl ?_
        refine z_S5v (pc' := 101) kX6_leadsHome lX6_30 dX6_leadsHome_98 rfl (by omega) (Nat.le_of_ble_eq_true rfl) ?_
        refine ih (m2 + 1) (by omega) (r := q + 3 + 5 * dpt.toNat) (dpt := dpt + 1) (by omega) hqd.2 (by omega) (by omega) (by omega) (by omega) (by omega) (by rw [i1, i2]; exact zgR_ring hgr hEk.2.2) (fun k' h0 h8 => by rw [i3 _ (by omega), i3 _ (by omega), hF2.1 _ (by omega) (by omega), hF2.1 _ (by omega) (by omega)]; exact hE k' h0 h8) (fun t ht me5 h5 hF5 => zKv_i ?_) (fun ht me5 hF5 => zKv_i ?_)
        · rw [i1, i2] at ht
          refine z_if_eq (tgt := 106) (pc' := 104) dX6_leadsHome_101 (by decide) rfl (fun h71 => absurd h71 (by omega)) (fun h71 => ?_)
          refine z_iconst (pc' := 105) dX6_leadsHome_104 rfl (by unfold zin; decide) ?_
          refine z_zreturn rfl rfl dX6_leadsHome_105 (by omega) ?_
          rw [zfst_s (F := fun k => zlh E (m2 + 1) (zact (me (r + 1), me (r + 2)) (E k))) ht] at hz
          refine hQ1 _ hz me5 (fun i hi => ?_) (hF4.trans (hF5.up hdpt))
          cases i with
          | zero => rw [show dpt + ((0 : Nat) : Int) = dpt by omega, hF5.2 dpt hdpt (by omega), hrow4]; rfl
          | succ i =>
            have := h5 i (by omega)
            rw [show dpt + 1 + (i : Int) = dpt + ((i + 1 : Nat) : Int) by omega] at this
            rw [this]; rfl
        rw [i1, i2] at ht
        rw [zfst_n (F := fun k => zlh E (m2 + 1) (zact (me (r + 1), me (r + 2)) (E k))) ht, ← hn9] at hz
        have hF6 := hF4.trans (hF5.up hdpt)
        refine z_if_eq (tgt := 106) (pc' := 104) dX6_leadsHome_101 (by decide) rfl (fun h71 => ?_) (fun h71 => absurd rfl h71)
        refine z_inc7 (pc' := 109) rfl dX6_leadsHome_106 rfl (by unfold zin; omega) ?_
        refine z_goto (tgt := 37) dX6_leadsHome_109 (by decide) ?_
        exact ihn (k + 1) _ me5 (by omega) (by omega) (by omega) hF6 hz
      · have hm0 : m' = 0 := by omega
        subst hm0
        refine z_L2R (pc' := 66) dX6_leadsHome_65 rfl ?_
        refine z_L8R (pc' := 68) dX6_leadsHome_66 rfl ?_
        refine z_V1v (pc' := 71) (ci := 4) kX4_isBroughtHomeBy lX6_40 dX6_leadsHome_68 rfl (by omega) (Nat.le_of_ble_eq_true rfl) (by decide) rfl hr.s ?_
        refine c_isBrought (by omega) hr hpk.2 (by rw [er1, er2]; exact hgr) (by rw [ee1, ee2]; exact hEk.2.2) (fun hh => zKv_i ?_) (fun hh => zKv_i ?_)
        · rw [er1, er2, ee1, ee2] at hh
          refine z_if_eq (tgt := 106) (pc' := 74) dX6_leadsHome_71 (by decide) rfl (fun h71 => absurd h71 (by omega)) (fun h71 => ?_)
          refine z_iconst (pc' := 75) dX6_leadsHome_74 rfl (by unfold zin; decide) ?_
          refine z_zreturn rfl rfl dX6_leadsHome_75 (by omega) ?_
          have e5 : zlh E 0 (zact (me (r + 1), me (r + 2)) (E k)) = some [] := if_pos (zhb_iff.mpr hh)
          rw [zfst_s e5] at hz
          exact hQ1 _ hz me2 (fun i hi => by
            obtain rfl : i = 0 := by omega
            rw [show dpt + ((0 : Nat) : Int) = dpt by omega, hrow]; rfl) hF2
        rw [er1, er2, ee1, ee2] at hh
        have e5 : zlh E 0 (zact (me (r + 1), me (r + 2)) (E k)) = none := if_neg (fun z => hh (zhb_iff.mp z))
        rw [zfst_n (F := fun k => zlh E 0 (zact (me (r + 1), me (r + 2)) (E k))) e5, ← hn9] at hz
        refine z_if_eq (tgt := 106) (pc' := 74) dX6_leadsHome_71 (by decide) rfl (fun h71 => ?_) (fun h71 => ?_)
        · refine z_inc7 (pc' := 109) rfl dX6_leadsHome_106 rfl (by unfold zin; omega) ?_
          refine z_goto (tgt := 37) dX6_leadsHome_109 (by decide) ?_
          exact ihn (k + 1) _ me2 (by omega) (by omega) (by omega) hF2 hz
        · omega
  refine z_L3I (pc' := 1) dX6_leadsHome_0 rfl ?_
  refine z_if_lt (tgt := 9) (pc' := 4) dX6_leadsHome_1 (by decide) rfl (fun h1 => absurd h1 (by omega)) (fun h1 => ?_)
  refine z_L3I (pc' := 5) dX6_leadsHome_4 rfl ?_
  refine z_iconst (pc' := 6) dX6_leadsHome_5 rfl (by unfold zin; decide) ?_
  refine z_icmp_lt (tgt := 11) (pc' := 9) dX6_leadsHome_6 (by decide) rfl (fun h6 => ?_) (fun h6 => absurd h6 (by omega))
  refine z_L3I (pc' := 12) dX6_leadsHome_11 rfl ?_
  refine z_iconst (pc' := 13) dX6_leadsHome_12 rfl (by unfold zin; decide) ?_
  refine z_iadd (pc' := 14) dX6_leadsHome_13 rfl (by unfold zin; omega) ?_
  refine z_L4I (pc' := 16) dX6_leadsHome_14 rfl ?_
  refine z_icmp_ne (tgt := 23) (pc' := 19) dX6_leadsHome_16 (by decide) rfl (fun h16 => ?_) (fun h16 => ?_)
  · refine z_iconst (pc' := 24) dX6_leadsHome_23 rfl (by unfold zin; decide) ?_
    exact H24 _ (by omega)
  · refine z_iconst (pc' := 20) dX6_leadsHome_19 rfl (by unfold zin; decide) ?_
    refine z_goto (tgt := 24) dX6_leadsHome_20 (by decide) ?_
    exact H24 _ (by omega)
end ZSEA

