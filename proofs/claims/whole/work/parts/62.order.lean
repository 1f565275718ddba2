section ZMOT
noncomputable def zol (E : zRg) : Nat → Nat
  | 0 => 1
  | n + 1 => Nat.lcm (zol E n) (zbk E (n : Int))
theorem zol_dvd {E : zRg} (hE : zgR E.1 E.2) {M : Nat} (h : ∀ p, 0 ≤ p → p < 10 → zbs E p M = (p, 0)) : ∀ n, n ≤ 10 → zol E n ∣ M := by
  intro n
  induction n with
  | zero => intro _; exact Nat.one_dvd M
  | succ n ih =>
    intro hn
    exact Nat.lcm_dvd (ih (by omega)) (zbk_dvd hE (by omega) (by omega) (h (n : Int) (by omega) (by omega)))
theorem zol_pos {E : zRg} (hE : zgR E.1 E.2) : ∀ n, n ≤ 10 → 1 ≤ zol E n ∧ zol E n ≤ 120 := by
  obtain ⟨M, h1, h2, h3⟩ := zback120 hE
  intro n hn
  have hd := zol_dvd hE h3 n hn
  have hl := Nat.le_of_dvd (by omega) hd
  refine ⟨?_, by omega⟩
  rcases Nat.eq_zero_or_pos (zol E n) with z | z
  · rw [z] at hd; have := Nat.eq_zero_of_zero_dvd hd; omega
  · exact z
set_option maxRecDepth 100000 in
set_option maxHeartbeats 1000000 in
theorem m_order {d : Nat} {sp : zSP} {me : zMe} {Q : zQ} {y : Nat} {k : Int} {E : zRg} (hd : 2 ≤ d) (hy : zMod sp y) (hk0 : 0 ≤ k) (hk1 : k < 8) (hE : zgR E.1 E.2) (hG : zGk me y k E) (hQ : Q (some (zI ((zol E 10 : Nat) : Int))) sp me) : zCall mX9_order d 0 0 [zR y, zI k] sp me Q := by
  refine z_met kX9_order (by simp) (by simp) ?_
  show zW mX9_order d 0 0 Q 0 [zR y, zI k, zU, zU] [] sp me
  refine z_iconst (pc' := 1) dX9_order_0 rfl (by unfold zin; decide) ?_
  refine z_S2I (pc' := 2) rfl dX9_order_1 rfl ?_
  refine z_iconst (pc' := 3) dX9_order_2 rfl (by unfold zin; decide) ?_
  refine z_S3I (pc' := 4) rfl dX9_order_3 rfl ?_
  suffices H : ∀ (n p : Nat), p ≤ 10 → 10 - p < n → zW mX9_order d 0 0 Q 4 [zR y, zI k, zI ((zol E p : Nat) : Int), zI (p : Int)] [] sp me by
    exact H 11 0 (by omega) (by omega)
  intro n
  induction n with
  | zero => intro p h0 h1; omega
  | succ n ih =>
  intro p hp0 hp1
  refine z_L3I (pc' := 5) dX9_order_4 rfl ?_
  refine z_bipush (pc' := 7) dX9_order_5 rfl (by decide) ?_
  refine z_icmp_ge (tgt := 27) (pc' := 10) dX9_order_7 (by decide) rfl (fun h7 => ?_) (fun h7 => ?_)
  · obtain rfl : p = 10 := by omega
    refine z_L2I (pc' := 28) dX9_order_27 rfl ?_
    refine z_ireturn rfl rfl dX9_order_28 ?_
    exact hQ
  · refine z_L2I (pc' := 11) dX9_order_10 rfl ?_
    refine z_L0R (pc' := 12) dX9_order_11 rfl ?_
    refine z_L1I (pc' := 13) dX9_order_12 rfl ?_
    refine z_L3I (pc' := 14) dX9_order_13 rfl ?_
    refine z_V2v (pc' := 17) (ci := 9) kX9_back lX9_179 dX9_order_14 rfl (by omega) (Nat.le_of_ble_eq_true rfl) (by decide) rfl hy.s ?_
    have hs := zbk_spec hE (show 0 ≤ (p : Int) by omega) (show (p : Int) < 10 by omega)
    have hb120 : zbk E (p : Int) ≤ 120 := by
      obtain ⟨M, h1, h2, h3⟩ := zback120 hE
      have := Nat.le_of_dvd (by omega) (zbk_dvd hE (by omega) (by omega) (h3 (p : Int) (by omega) (by omega)))
      omega
    refine m_back (N := zbk E (p : Int)) hy hk0 hk1 hE hG (by omega) (by omega) hs.1 (by omega) hs.2.1 hs.2.2 (zKv_i ?_)
    refine z_S2v (pc' := 20) kX9_multiple lX9_182 dX9_order_17 rfl (by omega) (Nat.le_of_ble_eq_true rfl) ?_
    have hz1 := zol_pos hE (p + 1) (by omega)
    refine m_multiple (zol_pos hE p (by omega)).1 hs.1 (Nat.le_trans hz1.2 (by decide)) (zKv_i ?_)
    refine z_S2I (pc' := 21) rfl dX9_order_20 rfl ?_
    refine z_inc3 (pc' := 24) rfl dX9_order_21 rfl (by unfold zin; omega) ?_
    refine z_goto (tgt := 4) dX9_order_24 (by decide) ?_
    exact zW_to (ih (p + 1) (by omega) (by omega)) rfl rfl rfl
end ZMOT

