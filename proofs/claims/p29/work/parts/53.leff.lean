section ZLD
theorem gdn_id {me : zMe} {p f : Nat} (hp : ∀ i, 0 ≤ i → i < 10 → me p i = i) (hf : ∀ i, 0 ≤ i → i < 10 → me f i = 0) : gDn me p f zid := fun i i0 i1 => by
  have e : zpl zid.1 i = i := zpl_of zgR_id i0 i1 (show zcut 10 (fun q => q) i = i from zcut_in _ _ _ i0 i1)
  rw [e, hp i i0 i1, hf i i0 i1]
  exact ⟨rfl, (show zcut 10 (fun _ => 0) i = 0 from zcut_in _ _ _ i0 i1).symm⟩
theorem gHome_1 {me : zMe} {p f : Nat} {R : zRg} (hR : zgR R.1 R.2) (h : gDn me p f R) : gHome (me p) (me f) 1 = zhcnt R.1 R.2 := by
  unfold gHome zhcnt
  refine zSm_congr _ (fun i i0 i1 => ?_)
  (try dsimp only)
  have h1 := h i i0 i1
  have h2 := zpl_ok hR i0 i1
  rw [h1.1, h1.2]
  by_cases e : R.1 i = i
  · have e2 : zpl R.1 i = i := zpl_of hR i0 i1 e
    rw [e2]
    by_cases e3 : R.2 i = 0
    · rw [if_pos ⟨rfl, Or.inr e3⟩, if_pos ⟨e, e3⟩]
    · rw [if_neg (fun z => by rcases z.2 with z | z; exact absurd z (by decide); exact e3 z), if_neg (fun z => e3 z.2)]
  · rw [if_neg (fun z => e (by have := h2.2.2; rw [z.1] at this; exact this)), if_neg (fun z => e z.1)]
theorem gHome_0 {me : zMe} {p f : Nat} {R : zRg} (hR : zgR R.1 R.2) (h : gDn me p f R) : gHome (me p) (me f) 0 = zSm (fun p => if R.1 p = p then 1 else 0) 10 := by
  unfold gHome
  refine zSm_congr _ (fun i i0 i1 => ?_)
  (try dsimp only)
  have h1 := h i i0 i1
  have h2 := zpl_ok hR i0 i1
  rw [h1.1]
  by_cases e : R.1 i = i
  · rw [if_pos ⟨zpl_of hR i0 i1 e, Or.inl rfl⟩, if_pos e]
  · rw [if_neg (fun z => e (by have := h2.2.2; rw [z.1] at this; exact this)), if_neg e]
theorem gHome_hb {me : zMe} {p f : Nat} {R : zRg} (hR : zgR R.1 R.2) (h : gDn me p f R) : (zhb R = true → gHome (me p) (me f) 1 = 10) ∧ (¬ zhb R = true → gHome (me p) (me f) 1 < 10) := by
  have hb : zhcnt R.1 R.2 ≤ 10 := by
    unfold zhcnt
    have := zSm_bd (g := fun p => if R.1 p = p ∧ R.2 p = 0 then 1 else 0) (a := 0) (b := 1) (fun p _ => by split <;> omega) 10 (by omega)
    omega
  rw [gHome_1 hR h]
  unfold zhb
  rw [decide_eq_true_eq]
  have e : zhcnt R.1 R.2 = zSm (fun p => if R.1 p = p ∧ R.2 p = 0 then 1 else 0) 10 := rfl
  rw [← e]
  exact ⟨fun z => z, fun z => by omega⟩
set_option maxRecDepth 100000 in
set_option maxHeartbeats 1000000 in
theorem l_effect {d : Nat} {sp : zSP} {me : zMe} {Q : zQ} {p f m o c : Nat} {sz cd : Int → Int} {k : Int} (hd : 2 ≤ d) (hp : sp.1 p = (1, 10)) (hf : sp.1 f = (1, 10)) (hm : sp.1 m = (1, 40)) (ho : sp.1 o = (1, 40)) (hc : sp.1 c = (1, 16)) (hpf : p ≠ f) (hpm : p ≠ m) (hpo : p ≠ o) (hpc : p ≠ c) (hfm : f ≠ m) (hfo : f ≠ o) (hfc : f ≠ c) (hv : zfv sz cd) (hlm : zlim sz cd) (hF : gFg me m o c sz cd) (hC : gCt me c sz cd) (hk0 : 0 ≤ k) (hk1 : k < 8) (hQ : ∀ me', gDn me' p f (zeff (zsteps sz cd k)) → (∀ a, a ≠ p → a ≠ f → me' a = me a) → Q none sp me') : zCall mL_effect d 0 0 [zR p, zR f, zR m, zR o, zR c, zI k] sp me Q := by
  refine z_met kL_effect (by simp) (by simp) ?_
  show zW mL_effect d 0 0 Q 0 [zR p, zR f, zR m, zR o, zR c, zI k, zU] [] sp me
  refine z_iconst (pc' := 1) dL_effect_0 rfl (by unfold zin; decide) ?_
  refine z_S6I (pc' := 3) rfl dL_effect_1 rfl ?_
  suffices H : ∀ (n : Nat) (i : Int) (me' : zMe), 0 ≤ i → i ≤ 10 → 10 - i < n → (∀ j, 0 ≤ j → j < i → me' p j = j ∧ me' f j = 0) → (∀ a, a ≠ p → a ≠ f → me' a = me a) → zW mL_effect d 0 0 Q 3 [zR p, zR f, zR m, zR o, zR c, zI k, zI i] [] sp me' by
    exact H 11 0 me (by omega) (by omega) (by omega) (fun j j0 j1 => by omega) (fun _ _ _ => rfl)
  intro n
  induction n with
  | zero => intro i me' h0 h1 h2; omega
  | succ n ih =>
  intro i me' hi0 hi1 hi2 hN hF2
  refine z_L6I (pc' := 5) dL_effect_3 rfl ?_
  refine z_bipush (pc' := 7) dL_effect_5 rfl (by decide) ?_
  refine z_icmp_ge (tgt := 27) (pc' := 10) dL_effect_7 (by decide) rfl (fun h7 => ?_) (fun h7 => ?_)
  · obtain rfl : i = 10 := by omega
    have hL := zsteps_ok hv hk0 hk1
    refine z_iconst (pc' := 28) dL_effect_27 rfl (by unfold zin; decide) ?_
    refine z_S6I (pc' := 30) rfl dL_effect_28 rfl ?_
    suffices H : ∀ (n : Nat) (j : Nat) (me2 : zMe), j ≤ (zsteps sz cd k).length → (zsteps sz cd k).length - j < n → gDn me2 p f (zfo zid ((zsteps sz cd k).take j)) → (∀ a, a ≠ p → a ≠ f → me2 a = me a) → zW mL_effect d 0 0 Q 30 [zR p, zR f, zR m, zR o, zR c, zI k, zI (j : Int)] [] sp me2 by
      exact H ((zsteps sz cd k).length + 1) 0 me' (by omega) (by omega) (gdn_id (fun i i0 i1 => (hN i i0 i1).1) (fun i i0 i1 => (hN i i0 i1).2)) hF2
    intro n
    induction n with
    | zero => intro j me2 h0 h1; omega
    | succ n ih2 =>
    intro j me2 hj0 hj1 hN2 hF3
    have hl120 := hlm k hk0 hk1
    have hck : me2 c (8 + k) = ((zsteps sz cd k).length : Int) := by rw [hF3 c (Ne.symm hpc) (Ne.symm hfc)]; exact hC k hk0 hk1
    have hm3 := hF3 m (Ne.symm hpm) (Ne.symm hfm)
    have ho3 := hF3 o (Ne.symm hpo) (Ne.symm hfo)
    have hc3 := hF3 c (Ne.symm hpc) (Ne.symm hfc)
    refine z_L6I (pc' := 32) dL_effect_30 rfl ?_
    refine z_L4R (pc' := 34) dL_effect_32 rfl ?_
    refine z_bipush (pc' := 36) dL_effect_34 rfl (by decide) ?_
    refine z_L5I (pc' := 38) dL_effect_36 rfl ?_
    refine z_iadd (pc' := 39) dL_effect_38 rfl (by unfold zin; omega) ?_
    refine z_ild (pc' := 40) dL_effect_39 rfl hc (by omega) (by omega) ?_
    refine z_icmp_ge (tgt := 65) (pc' := 43) dL_effect_40 (by decide) rfl (fun h40 => ?_) (fun h40 => ?_)
    · refine z_return rfl rfl dL_effect_65 ?_
      have ej : j = (zsteps sz cd k).length := by omega
      rw [ej, List.take_length] at hN2
      exact hQ me2 hN2 hF3
    · refine z_L0R (pc' := 44) dL_effect_43 rfl ?_
      refine z_L1R (pc' := 45) dL_effect_44 rfl ?_
      refine z_L2R (pc' := 46) dL_effect_45 rfl ?_
      refine z_L3R (pc' := 47) dL_effect_46 rfl ?_
      refine z_L4R (pc' := 49) dL_effect_47 rfl ?_
      refine z_L5I (pc' := 51) dL_effect_49 rfl ?_
      refine z_L6I (pc' := 53) dL_effect_51 rfl ?_
      refine z_S5v (pc' := 56) kL_step lL_19 dL_effect_53 rfl (by omega) (Nat.le_of_ble_eq_true rfl) ?_
      refine l_step (by omega) hm ho hc hv (hF.cg hm3 ho3 (fun k _ _ => by rw [hc3])) (hC.cg hc3) hk0 hk1 (by omega) (by omega) (zKv_i ?_)
      have hjl : j < (zsteps sz cd k).length := by omega
      have ejn : ((j : Int)).toNat = j := Int.toNat_natCast j
      rw [ejn]
      have hst := hL _ (zgetD_mem hjl)
      have hRg := zgR_fo (L := (zsteps sz cd k).take j) (fun c hc => (hL c (List.mem_of_mem_take hc)).1) (R := zid) zgR_id
      refine z_S30 (pc' := 59) kL_make lL_31 dL_effect_56 rfl (by omega) (Nat.le_of_ble_eq_true rfl) ?_
      refine l_make hp hf hpf hRg hst.1 hst.2 hN2 (fun me4 hN4 hF4 => zK0_i ?_)
      refine z_inc6 (pc' := 62) rfl dL_effect_59 rfl (by unfold zin; omega) ?_
      refine z_goto (tgt := 30) dL_effect_62 (by decide) ?_
      refine ih2 (j + 1) _ (by omega) (by omega) (by rw [zfo_take hjl]; exact hN4) (fun a h1 h2 => (hF4 a h1 h2).trans (hF3 a h1 h2))
  · refine z_L0R (pc' := 11) dL_effect_10 rfl ?_
    refine z_L6I (pc' := 13) dL_effect_11 rfl ?_
    refine z_L6I (pc' := 15) dL_effect_13 rfl ?_
    refine z_ist (pc' := 16) dL_effect_15 rfl hp (by omega) (by omega) ?_
    refine z_L1R (pc' := 17) dL_effect_16 rfl ?_
    refine z_L6I (pc' := 19) dL_effect_17 rfl ?_
    refine z_iconst (pc' := 20) dL_effect_19 rfl (by unfold zin; decide) ?_
    refine z_ist (pc' := 21) dL_effect_20 rfl hf (by omega) (by omega) ?_
    refine z_inc6 (pc' := 24) rfl dL_effect_21 rfl (by unfold zin; omega) ?_
    refine z_goto (tgt := 3) dL_effect_24 (by decide) ?_
    refine ih (i + 1) _ (by omega) (by omega) (by omega) (fun j j0 j1 => ?_) (fun a h1 h2 => by rw [zset_ne _ _ _ h2, zset_ne _ _ _ h1]; exact hF2 a h1 h2)
    rw [zset_ne _ _ _ hpf, zset_eq, zset_eq, zset_ne _ _ _ (Ne.symm hpf)]
    by_cases e : j = i
    · subst e
      rw [zup_eq, zup_eq]
      exact ⟨rfl, rfl⟩
    · rw [zup_ne _ _ _ (by omega), zup_ne _ _ _ (by omega)]
      exact hN j j0 (by omega)
set_option maxRecDepth 100000 in
set_option maxHeartbeats 1000000 in
theorem l_order {d : Nat} {sp : zSP} {me : zMe} {Q : zQ} {e g N : Nat} {E : zRg} (hd : 1 ≤ d) (hN : sp.2.2 = N) (he : sp.1 e = (1, 10)) (hg : sp.1 g = (1, 10)) (heN : e ≤ N) (hgN : g ≤ N) (hE : zgR E.1 E.2) (hG : gDn me e g E) (hQ : ∀ sp' me', zXt 2 sp sp' → (∀ a, a ≤ N → me' a = me a) → Q (some (zI ((zol E 10 : Nat) : Int))) sp' me') : zCall mL_order d 2 20 [zR e, zR g] sp me Q := by
  refine z_met kL_order (by simp) (by simp) ?_
  show zW mL_order d 2 20 Q 0 [zR e, zR g, zU, zU, zU] [] sp me
  refine z_bipush (pc' := 2) dL_order_0 rfl (by decide) ?_
  refine z_nar (pc' := 4) (r1' := 1) (r2' := 10) (a := N + 1) dL_order_2 rfl (by decide) (by decide) (by omega) (by omega) (by omega) (fun sp1 me1 hX1 hn1 hka1 hm1 => ?_)
  refine z_S2R (pc' := 5) rfl dL_order_4 rfl ?_
  refine z_bipush (pc' := 7) dL_order_5 rfl (by decide) ?_
  refine z_nar (pc' := 9) (r1' := 0) (r2' := 0) (a := N + 2) dL_order_7 rfl (by decide) (by decide) (by omega) (by omega) (by omega) (fun sp2 me2 hX2 hn2 hka2 hm2 => ?_)
  have hX := hX1.tr hX2
  have hkp : sp2.1 (N + 1) = (1, 10) := hX2.s (by omega) hka1
  have hkf : sp2.1 (N + 2) = (1, 10) := hka2
  have hke : sp2.1 e = (1, 10) := hX.s (by omega) he
  have hkg : sp2.1 g = (1, 10) := hX.s (by omega) hg
  have hm2a : ∀ a, a ≤ N → me2 a = me a := fun a ha => by rw [hm2, hm1, zset_ne _ _ _ (by omega), zset_ne _ _ _ (by omega)]
  have hm2f : me2 (N + 2) = (fun _ => 0) := by rw [hm2, zset_eq]
  refine z_S3R (pc' := 10) rfl dL_order_9 rfl ?_
  refine z_iconst (pc' := 11) dL_order_10 rfl (by unfold zin; decide) ?_
  refine z_S4I (pc' := 13) rfl dL_order_11 rfl ?_
  suffices H : ∀ (n : Nat) (i : Int) (me' : zMe), 0 ≤ i → i ≤ 10 → 10 - i < n → (∀ j, 0 ≤ j → j < i → me' (N + 1) j = j) → (∀ a, a ≠ N + 1 → me' a = me2 a) → zW mL_order d 0 0 Q 13 [zR e, zR g, zR (N + 1), zR (N + 2), zI i] [] sp2 me' by
    exact H 11 0 me2 (by omega) (by omega) (by omega) (fun j j0 j1 => by omega) (fun _ _ => rfl)
  intro n
  induction n with
  | zero => intro i me' h0 h1 h2; omega
  | succ n ih =>
  intro i me' hi0 hi1 hi2 hNp hF2
  refine z_L4I (pc' := 15) dL_order_13 rfl ?_
  refine z_bipush (pc' := 17) dL_order_15 rfl (by decide) ?_
  refine z_icmp_ge (tgt := 32) (pc' := 20) dL_order_17 (by decide) rfl (fun h17 => ?_) (fun h17 => ?_)
  · obtain rfl : i = 10 := by omega
    have hzo := zol_pos hE 10 (by omega)
    have hid : gDn me' (N + 1) (N + 2) zid := gdn_id hNp (fun i _ _ => by rw [hF2 _ (by omega), hm2f])
    have hfr : ∀ a, a ≤ N → me' a = me a := fun a ha => (hF2 a (by omega)).trans (hm2a a ha)
    have hmin : ∀ n, 1 ≤ n → n < zol E 10 → ¬ zhb (zrt E zid n) = true := fun n n1 n2 z => by
      have h1 := zol_dvd hE ((zrt_hm hE n).1 z) 10 (by omega)
      have h2 := Nat.le_of_dvd (by omega) h1
      omega
    have hall : zhb (zrt E zid (zol E 10)) = true := (zrt_hm hE _).2 (fun p p0 p1 => zol_all hE p0 p1)
    refine z_iconst (pc' := 33) dL_order_32 rfl (by unfold zin; decide) ?_
    refine z_S4I (pc' := 35) rfl dL_order_33 rfl ?_
    suffices H : ∀ (n : Nat) (j : Nat) (me3 : zMe), j ≤ zol E 10 → zol E 10 - j < n → gDn me3 (N + 1) (N + 2) (zrt E zid j) → (∀ a, a ≤ N → me3 a = me a) → zW mL_order d 0 0 Q 35 [zR e, zR g, zR (N + 1), zR (N + 2), zI (j : Int)] [] sp2 me3 by
      exact H (zol E 10 + 1) 0 me' (by omega) (by omega) hid hfr
    intro n
    induction n with
    | zero => intro j me3 h0 h1; omega
    | succ n ih2 =>
    intro j me3 hj0 hj1 hN3 hF3
    have hRg := zrt_g hE zgR_id j
    have hhb := gHome_hb hRg hN3
    refine z_L4I (pc' := 37) dL_order_35 rfl ?_
    refine z_if_eq (tgt := 51) (pc' := 40) dL_order_37 (by decide) rfl (fun h37 => ?_) (fun h37 => ?_)
    · have hjz : j < zol E 10 := by
        by_cases ej : j = zol E 10
        · exfalso
          subst ej
          have := hhb.1 hall
          omega
        · omega
      refine z_L2R (pc' := 52) dL_order_51 rfl ?_
      refine z_L3R (pc' := 53) dL_order_52 rfl ?_
      refine z_L0R (pc' := 54) dL_order_53 rfl ?_
      refine z_L1R (pc' := 55) dL_order_54 rfl ?_
      refine z_S40 (pc' := 58) kL_does lL_43 dL_order_55 rfl (by omega) (Nat.le_of_ble_eq_true rfl) ?_
      refine l_does hkp hkf hke hkg (by omega) (by omega) (by omega) (by omega) (by omega) hRg hE hN3 (fun i i0 i1 => by rw [hF3 e heN, hF3 g hgN]; exact hG i i0 i1) (fun me4 hN4 hF4 => zK0_i ?_)
      refine z_inc4 (pc' := 61) rfl dL_order_58 rfl (by unfold zin; omega) ?_
      refine z_goto (tgt := 35) dL_order_61 (by decide) ?_
      refine ih2 (j + 1) _ (by omega) (by omega) hN4 (fun a ha => (hF4 a (by omega) (by omega)).trans (hF3 a ha))
    · refine z_L2R (pc' := 41) dL_order_40 rfl ?_
      refine z_L3R (pc' := 42) dL_order_41 rfl ?_
      refine z_iconst (pc' := 43) dL_order_42 rfl (by unfold zin; decide) ?_
      refine z_S3v (pc' := 46) kL_home lL_39 dL_order_43 rfl (by omega) (Nat.le_of_ble_eq_true rfl) ?_
      refine l_home hkp hkf (zKv_i ?_)
      refine z_bipush (pc' := 48) dL_order_46 rfl (by decide) ?_
      refine z_icmp_ge (tgt := 64) (pc' := 51) dL_order_48 (by decide) rfl (fun h48 => ?_) (fun h48 => ?_)
      · refine z_L4I (pc' := 66) dL_order_64 rfl ?_
        refine z_ireturn rfl rfl dL_order_66 ?_
        have ej : j = zol E 10 := by
          by_cases ej : j = zol E 10
          · exact ej
          · exfalso
            have := hhb.2 (hmin j (by omega) (by omega))
            omega
        rw [ej]
        exact hQ sp2 me3 hX hF3
      · have hjz : j < zol E 10 := by
          by_cases ej : j = zol E 10
          · exfalso
            subst ej
            have := hhb.1 hall
            omega
          · omega
        refine z_L2R (pc' := 52) dL_order_51 rfl ?_
        refine z_L3R (pc' := 53) dL_order_52 rfl ?_
        refine z_L0R (pc' := 54) dL_order_53 rfl ?_
        refine z_L1R (pc' := 55) dL_order_54 rfl ?_
        refine z_S40 (pc' := 58) kL_does lL_43 dL_order_55 rfl (by omega) (Nat.le_of_ble_eq_true rfl) ?_
        refine l_does hkp hkf hke hkg (by omega) (by omega) (by omega) (by omega) (by omega) hRg hE hN3 (fun i i0 i1 => by rw [hF3 e heN, hF3 g hgN]; exact hG i i0 i1) (fun me4 hN4 hF4 => zK0_i ?_)
        refine z_inc4 (pc' := 61) rfl dL_order_58 rfl (by unfold zin; omega) ?_
        refine z_goto (tgt := 35) dL_order_61 (by decide) ?_
        refine ih2 (j + 1) _ (by omega) (by omega) hN4 (fun a ha => (hF4 a (by omega) (by omega)).trans (hF3 a ha))
  · refine z_L2R (pc' := 21) dL_order_20 rfl ?_
    refine z_L4I (pc' := 23) dL_order_21 rfl ?_
    refine z_L4I (pc' := 25) dL_order_23 rfl ?_
    refine z_ist (pc' := 26) dL_order_25 rfl hkp (by omega) (by omega) ?_
    refine z_inc4 (pc' := 29) rfl dL_order_26 rfl (by unfold zin; omega) ?_
    refine z_goto (tgt := 13) dL_order_29 (by decide) ?_
    refine ih (i + 1) _ (by omega) (by omega) (by omega) (fun j j0 j1 => ?_) (fun a h1 => by rw [zset_ne _ _ _ h1]; exact hF2 a h1)
    rw [zset_eq]
    by_cases e : j = i
    · subst e
      rw [zup_eq]
    · rw [zup_ne _ _ _ (by omega)]
      exact hNp j j0 (by omega)
end ZLD

