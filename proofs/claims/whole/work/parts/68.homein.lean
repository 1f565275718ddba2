section ZMOZ
theorem zrt_st {E R : zRg} (hE : zgR E.1 E.2) (hR : zgR R.1 R.2) {p : Int} (p0 : 0 ≤ p) (p1 : p < 10) : ∀ n, zpl (zrt E R n).1 p = (zbs E (zpl R.1 p) n).1 ∧ (zrt E R n).2 (zpl (zrt E R n).1 p) = (R.2 (zpl R.1 p) + (zbs E (zpl R.1 p) n).2) % 4 := by
  intro n
  induction n with
  | zero =>
    refine ⟨rfl, ?_⟩
    have h1 := zpl_ok hR p0 p1
    have h2 := hR.1 _ h1.1 h1.2.1
    show R.2 (zpl R.1 p) = (R.2 (zpl R.1 p) + 0) % 4
    omega
  | succ n ih =>
    have h := zact_pl (zrt_g hE hR n) hE p0 p1
    refine ⟨?_, ?_⟩
    · show zpl (zact (zrt E R n) E).1 p = zpl E.1 (zbs E (zpl R.1 p) n).1
      rw [h.1, ih.1]
    · show (zact (zrt E R n) E).2 (zpl (zact (zrt E R n) E).1 p) = (R.2 (zpl R.1 p) + ((zbs E (zpl R.1 p) n).2 + E.2 (zpl E.1 (zbs E (zpl R.1 p) n).1)) % 4) % 4
      rw [h.1, h.2, ih.2, ih.1]
      omega
theorem zrt_per {E R : zRg} (hE : zgR E.1 E.2) (hR : zgR R.1 R.2) (n : Nat) : zhb (zrt E R (zol E 10 + n)) = true ↔ zhb (zrt E R n) = true := by
  have key : ∀ p, 0 ≤ p → p < 10 → zpl (zrt E R (zol E 10 + n)).1 p = zpl (zrt E R n).1 p ∧ (zrt E R (zol E 10 + n)).2 (zpl (zrt E R (zol E 10 + n)).1 p) = (zrt E R n).2 (zpl (zrt E R n).1 p) := by
    intro p p0 p1
    have hp := zpl_ok hR p0 p1
    have h1 := zrt_st hE hR p0 p1 (zol E 10 + n)
    have h2 := zrt_st hE hR p0 p1 n
    have ha := zol_all hE hp.1 hp.2.1
    have hb := zbs_add hE hp.1 hp.2.1 (N := zol E 10) (by rw [ha]) n
    have hc := zbs_bd hE hp.1 hp.2.1 n
    rw [ha] at hb
    have e : zbs E (zpl R.1 p) (zol E 10 + n) = zbs E (zpl R.1 p) n := by
      rw [hb]
      refine Prod.ext rfl ?_
      show ((zbs E (zpl R.1 p) n).2 + 0) % 4 = (zbs E (zpl R.1 p) n).2
      omega
    rw [e] at h1
    exact ⟨h1.1.trans h2.1.symm, h1.2.trans h2.2.symm⟩
  rw [zhb_iff, zhb_iff, zhm_nw (zrt_g hE hR _), zhm_nw (zrt_g hE hR n)]
  constructor
  · intro h p p0 p1
    have := h p p0 p1
    rw [(key p p0 p1).2, (key p p0 p1).1] at this
    exact this
  · intro h p p0 p1
    rw [(key p p0 p1).2, (key p p0 p1).1]
    exact h p p0 p1
theorem zrt_never {E R : zRg} (hE : zgR E.1 E.2) (hR : zgR R.1 R.2) (h : ∀ j, j < zol E 10 → zhb (zrt E R j) ≠ true) : ∀ n, zhb (zrt E R n) ≠ true := by
  have hp := zol_pos hE 10 (Nat.le_refl _)
  intro n
  induction n using Nat.strongRecOn with
  | ind n ih =>
    by_cases e : n < zol E 10
    · exact h n e
    · intro z
      rw [show n = zol E 10 + (n - zol E 10) by omega, zrt_per hE hR] at z
      exact ih (n - zol E 10) (by omega) z
set_option maxRecDepth 100000 in
set_option maxHeartbeats 1000000 in
theorem y_homeIn {d : Nat} {sp : zSP} {me : zMe} {Q : zQ} {y : Nat} {A : zAb} {B k : Int} (hd : 20 ≤ d) (hy : zMod sp y) (hX : zMX me y A) (hI : zIA B A) (hQ : ∀ me', zMX me' y A → zMF y me me' → Q (some (zI (zoHomeIn A k))) sp me') : zCall mX9_homeIn d 0 0 [zR y, zI k] sp me Q := by
  refine z_met kX9_homeIn (by simp) (by simp) ?_
  show zW mX9_homeIn d 0 0 Q 0 [zR y, zI k, zU, zU] [] sp me
  have hIS := hI.1
  have hgA : zgR (qW A) (qF A) := hIS.1
  have hokA : zHok (qH A) := hIS.2.1
  have hpnA : qP A = zpn (qH A) := hIS.2.2.1
  have hvA : zfv (qS A) (qC A) := hIS.2.2.2.1
  have hlA : zlim (qS A) (qC A) := hIS.2.2.2.2.1
  have hRw : ∀ p, 0 ≤ p → p < 10 → me (y + 1) p = qW A p := hX.1.1
  have hRf : ∀ i, 0 ≤ i → i < 10 → me (y + 1) (10 + i) = qF A (zpl (qW A) i) := fun i a b => zMR_f hI.1 hX.1 a b
  have hRh : ∀ i, 0 ≤ i → i < 10 → me (y + 1) (20 + i) = qH A i := hX.1.2.2.1
  have hRs : ∀ k, 0 ≤ k → k < 8 → me (y + 1) (30 + 31 * k) = qS A k := fun k a b => (hX.1.2.2.2.1 k a b).1
  have hRc : ∀ k, 0 ≤ k → k < 8 → ∀ m, 0 ≤ m → m < qS A k → ∀ q, 0 ≤ q → q < 3 → me (y + 1) (30 + 31 * k + 1 + 3 * m + q) = zdig (qC A (k * 10 + m)) q := fun k a b => (hX.1.2.2.2.1 k a b).2
  unfold zoHomeIn at hQ
  refine z_L1I (pc' := 1) dX9_homeIn_0 rfl ?_
  refine z_S1v (pc' := 4) kX9_isFigure lX9_97 dX9_homeIn_1 rfl (by omega) (Nat.le_of_ble_eq_true rfl) ?_
  refine m_isFig2 (by omega) (fun b1 hb1 => zKv_i ?_)
  refine z_if_ne (tgt := 9) (pc' := 7) dX9_homeIn_4 (by decide) rfl (fun h4 => ?_) (fun h4 => ?_)
  · rw [zif_pos (by omega)] at hQ
    have hk0 : 0 ≤ k := by omega
    have hk1 : k < 8 := by omega
    have hgE := zgR_E hI hk0 hk1
    have hz1 := zol_pos hgE 10 (Nat.le_refl _)
    refine z_L0R (pc' := 10) dX9_homeIn_9 rfl ?_
    refine z_V00 (pc' := 13) (ci := 9) kX9_followAll lX9_188 dX9_homeIn_10 rfl (by omega) (Nat.le_of_ble_eq_true rfl) (by decide) rfl hy.s ?_
    refine m_followAll (by omega) hy hvA hlA hRs hRc (fun me1 hU1 hG1 hf1 => zK0_i ?_)
    have hq := zMQ_f hf1
    have hGk : zGk me1 y k (zE A k) := hG1 k hk0 hk1
    have her : me1 (y + 1) = me (y + 1) := hf1 _ (by omega) (by omega) (by omega) (by omega) (by omega) (by omega)
    refine z_L0R (pc' := 14) dX9_homeIn_13 rfl ?_
    refine z_L1I (pc' := 15) dX9_homeIn_14 rfl ?_
    refine z_V1v (pc' := 18) (ci := 9) kX9_order lX9_191 dX9_homeIn_15 rfl (by omega) (Nat.le_of_ble_eq_true rfl) (by decide) rfl hy.s ?_
    refine m_order (by omega) hy hk0 hk1 hgE hGk (zKv_i ?_)
    refine z_S2I (pc' := 19) rfl dX9_homeIn_18 rfl ?_
    refine z_L0R (pc' := 20) dX9_homeIn_19 rfl ?_
    refine z_V00 (pc' := 23) (ci := 9) kX9_begin lX9_210 dX9_homeIn_20 rfl (by omega) (Nat.le_of_ble_eq_true rfl) (by decide) rfl hy.s ?_
    refine m_begin (w := qW A) (f := qF A) (by omega) hy hgA (by rw [her]; exact hRw) (by rw [her]; exact hRf) (fun me2 hN2 hf2 => zK0_i ?_)
    refine z_iconst (pc' := 24) dX9_homeIn_23 rfl (by unfold zin; decide) ?_
    refine z_S3I (pc' := 25) rfl dX9_homeIn_24 rfl ?_
    suffices H : ∀ (n i : Nat) (me' : zMe), i ≤ zol (zE A k) 10 → zol (zE A k) 10 - i < n → zNw me' y (zrt (zE A k) (qW A, qF A) i) → (∀ j, j < i → zhb (zrt (zE A k) (qW A, qF A) j) ≠ true) → (∀ a, a ≠ y + 17 → me' a = me1 a) → zW mX9_homeIn d 0 0 Q 25 [zR y, zI k, zI ((zol (zE A k) 10 : Nat) : Int), zI (i : Int)] [] sp me' by
      exact H (zol (zE A k) 10 + 1) 0 me2 (by omega) (by omega) hN2 (fun j hj => absurd hj (Nat.not_lt_zero j)) hf2
    intro n
    induction n with
    | zero => intro i me' h0 h1; omega
    | succ n ih =>
    intro i me' hi0 hi1 hN hno hF
    have hgR := zrt_g hgE (R := (qW A, qF A)) hgA i
    have hq2 : zMQ y me me' := hq.trans (by
      have hs : me' = zset me1 (y + 17) (me' (y + 17)) := by
        funext a
        by_cases e : a = y + 17
        · rw [e, zset_eq]
        · rw [zset_ne _ _ _ e]; exact hF a e
      rw [hs]
      exact zMQ_s (by omega) (by omega) (by omega))
    refine z_L3I (pc' := 26) dX9_homeIn_25 rfl ?_
    refine z_L2I (pc' := 27) dX9_homeIn_26 rfl ?_
    refine z_icmp_ge (tgt := 48) (pc' := 30) dX9_homeIn_27 (by decide) rfl (fun h27 => ?_) (fun h27 => ?_)
    · refine z_L0R (pc' := 49) dX9_homeIn_48 rfl ?_
      refine z_V0v (pc' := 52) (ci := 9) kX9_isHome lX9_213 dX9_homeIn_49 rfl (by omega) (Nat.le_of_ble_eq_true rfl) (by decide) rfl hy.s ?_
      refine m_isHome hy hgR hN (fun b3 hb3 => zKv_i ?_)
      refine z_if_eq (tgt := 59) (pc' := 55) dX9_homeIn_52 (by decide) rfl (fun h52 => ?_) (fun h52 => ?_)
      · have hnz := (hb3.resolve_left (fun z => by omega)).2
        refine z_bipush (pc' := 61) dX9_homeIn_59 rfl (by decide) ?_
        refine z_ireturn rfl rfl dX9_homeIn_61 ?_
        first
        | (rw [zth_eq (E := zE A k) 120 (qW A, qF A) 0 i hi120 hz hno, Int.zero_add] at hQ
           exact hQ me' (hq2.mx hX) hq2.fr)
        | (rw [zth_no (E := zE A k) 120 (qW A, qF A) 0 (fun j _ => zrt_never hgE (R := (qW A, qF A)) hgA (fun j hj => hno j (by omega)) j)] at hQ
           exact hQ me' (hq2.mx hX) hq2.fr)
        | (exfalso
           rcases hb2 with z | z
           · exact hnz z.2
           · omega)
      · have hz := (hb3.resolve_right (fun z => h52 z.1)).2
        have hi120 : i < 120 := by
          rcases Nat.lt_or_ge i 120 with h | h
          · exact h
          · exfalso
            have e : i = zol (zE A k) 10 + 0 := by omega
            rw [e, zrt_per hgE (R := (qW A, qF A)) hgA] at hz
            exact hno 0 (by omega) hz
        refine z_L3I (pc' := 56) dX9_homeIn_55 rfl ?_
        refine z_goto (tgt := 61) dX9_homeIn_56 (by decide) ?_
        refine z_ireturn rfl rfl dX9_homeIn_61 ?_
        first
        | (rw [zth_eq (E := zE A k) 120 (qW A, qF A) 0 i hi120 hz hno, Int.zero_add] at hQ
           exact hQ me' (hq2.mx hX) hq2.fr)
        | (rw [zth_no (E := zE A k) 120 (qW A, qF A) 0 (fun j _ => zrt_never hgE (R := (qW A, qF A)) hgA (fun j hj => hno j (by omega)) j)] at hQ
           exact hQ me' (hq2.mx hX) hq2.fr)
        | (exfalso
           rcases hb2 with z | z
           · exact hnz z.2
           · omega)
    · refine z_L0R (pc' := 31) dX9_homeIn_30 rfl ?_
      refine z_V0v (pc' := 34) (ci := 9) kX9_isHome lX9_213 dX9_homeIn_31 rfl (by omega) (Nat.le_of_ble_eq_true rfl) (by decide) rfl hy.s ?_
      refine m_isHome hy hgR hN (fun b2 hb2 => zKv_i ?_)
      refine z_if_ne (tgt := 48) (pc' := 37) dX9_homeIn_34 (by decide) rfl (fun h34 => ?_) (fun h34 => ?_)
      · refine z_L0R (pc' := 49) dX9_homeIn_48 rfl ?_
        refine z_V0v (pc' := 52) (ci := 9) kX9_isHome lX9_213 dX9_homeIn_49 rfl (by omega) (Nat.le_of_ble_eq_true rfl) (by decide) rfl hy.s ?_
        refine m_isHome hy hgR hN (fun b3 hb3 => zKv_i ?_)
        refine z_if_eq (tgt := 59) (pc' := 55) dX9_homeIn_52 (by decide) rfl (fun h52 => ?_) (fun h52 => ?_)
        · have hnz := (hb3.resolve_left (fun z => by omega)).2
          refine z_bipush (pc' := 61) dX9_homeIn_59 rfl (by decide) ?_
          refine z_ireturn rfl rfl dX9_homeIn_61 ?_
          first
          | (rw [zth_eq (E := zE A k) 120 (qW A, qF A) 0 i hi120 hz hno, Int.zero_add] at hQ
             exact hQ me' (hq2.mx hX) hq2.fr)
          | (rw [zth_no (E := zE A k) 120 (qW A, qF A) 0 (fun j _ => zrt_never hgE (R := (qW A, qF A)) hgA (fun j hj => hno j (by omega)) j)] at hQ
             exact hQ me' (hq2.mx hX) hq2.fr)
          | (exfalso
             rcases hb2 with z | z
             · exact hnz z.2
             · omega)
        · have hz := (hb3.resolve_right (fun z => h52 z.1)).2
          have hi120 : i < 120 := by
            rcases Nat.lt_or_ge i 120 with h | h
            · exact h
            · exfalso
              have e : i = zol (zE A k) 10 + 0 := by omega
              rw [e, zrt_per hgE (R := (qW A, qF A)) hgA] at hz
              exact hno 0 (by omega) hz
          refine z_L3I (pc' := 56) dX9_homeIn_55 rfl ?_
          refine z_goto (tgt := 61) dX9_homeIn_56 (by decide) ?_
          refine z_ireturn rfl rfl dX9_homeIn_61 ?_
          first
          | (rw [zth_eq (E := zE A k) 120 (qW A, qF A) 0 i hi120 hz hno, Int.zero_add] at hQ
             exact hQ me' (hq2.mx hX) hq2.fr)
          | (rw [zth_no (E := zE A k) 120 (qW A, qF A) 0 (fun j _ => zrt_never hgE (R := (qW A, qF A)) hgA (fun j hj => hno j (by omega)) j)] at hQ
             exact hQ me' (hq2.mx hX) hq2.fr)
          | (exfalso
             rcases hb2 with z | z
             · exact hnz z.2
             · omega)
      · refine z_L0R (pc' := 38) dX9_homeIn_37 rfl ?_
        refine z_L1I (pc' := 39) dX9_homeIn_38 rfl ?_
        refine z_V10 (pc' := 42) (ci := 9) kX9_apply lX9_216 dX9_homeIn_39 rfl (by omega) (Nat.le_of_ble_eq_true rfl) (by decide) rfl hy.s ?_
        refine m_apply hy hk0 hk1 hgR hgE hN (zGk_congr (fun p p0 p1 => by rw [hF _ (by omega)]) (fun p p0 p1 => by rw [hF _ (by omega)]) hGk) (fun me3 hN3 hf3 => zK0_i ?_)
        refine z_inc3 (pc' := 45) rfl dX9_homeIn_42 rfl (by unfold zin; omega) ?_
        refine z_goto (tgt := 25) dX9_homeIn_45 (by decide) ?_
        exact ih (i + 1) me3 (by omega) (by omega) hN3 (fun j hj => by
          by_cases e : j = i
          · subst e; exact (hb2.resolve_left (fun z => by omega)).2
          · exact hno j (by omega)) (fun a ha => by rw [hf3 a ha]; exact hF a ha)
  · refine z_iconst (pc' := 8) dX9_homeIn_7 rfl (by unfold zin; decide) ?_
    refine z_ireturn rfl rfl dX9_homeIn_8 ?_
    rw [zif_neg (by omega)] at hQ
    exact hQ me hX zMF.rf
end ZMOZ

