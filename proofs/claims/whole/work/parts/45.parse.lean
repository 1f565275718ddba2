section ZMOD2
def zRd (me : zMe) (y : Nat) (CL : List (Int × Int × Int)) : Prop := me y 15 = (CL.length : Int) ∧ CL.length ≤ 40 ∧ ∀ (i : Nat) (c : Int × Int × Int), CL[i]? = some c → me (y + 12) (i : Int) = c.1 ∧ me (y + 13) (i : Int) = c.2.1 ∧ me (y + 14) (i : Int) = c.2.2 ∧ 0 ≤ c.1 ∧ c.1 < 8 ∧ 1 ≤ c.2.1 ∧ c.2.1 ≤ 9
def zJ0 (me : zMe) (y : Nat) (G : Int → Int) (N : Int) (C0 : List (Int × Int × Int)) (s : Int) : Prop := me y 14 = s ∧ 0 ≤ s ∧ s ≤ N ∧ 2 * (C0.length : Int) ≤ s ∧ zff G (N - s).toNat 0 s = zfault G N ∧ (∃ f t b, zcalls G N = C0 ++ zpc G N (N + 1 - s).toNat s f t b) ∧ zRd me y C0
def zJ1 (me : zMe) (y : Nat) (G : Int → Int) (N : Int) : Prop := ∃ (C0 : List (Int × Int × Int)) (f t b s : Int), me y 14 = s ∧ 0 ≤ s ∧ s ≤ N ∧ 2 * ((C0.length : Int) + 1) ≤ s + 1 ∧ zff G (N - s).toNat 3 s = zfault G N ∧ zcalls G N = C0 ++ zpc G N (N + 1 - s).toNat s f t b ∧ zRd me y (C0 ++ [(f, t, b)])
theorem zJ_ok {me me' : zMe} {y : Nat} {G : Int → Int} {N s t b s3 : Int} {C0 : List (Int × Int × Int)} (hN : N ≤ 80) (h : zJ0 me y G N C0 s) (hr : zrd G N s t b s3) (e1 : me' y 14 = s3) (e2 : me' y 15 = me y 15 + 1) (e3 : me' (y + 12) = zup (me (y + 12)) (me y 15) (G s - 65)) (e4 : me' (y + 13) = zup (me (y + 13)) (me y 15) t) (e5 : me' (y + 14) = zup (me (y + 14)) (me y 15) b) : zJ1 me' y G N := by
  obtain ⟨h1, h2, h3, h4, h5, ⟨f0, t0, b0, h6⟩, h7, h8, h9⟩ := h
  have hb := zrd_bd hr
  refine ⟨C0, G s - 65, t, b, s3, e1, by omega, by omega, by omega, by rw [← zrd_ff hr]; exact h5, by rw [h6, zrd_pc hr], ?_, ?_, fun i c hc => ?_⟩
  · rw [e2, h7, List.length_append, List.length_singleton]; omega
  · rw [List.length_append, List.length_singleton]; omega
  · rw [e3, e4, e5, h7]
    rcases Nat.lt_or_ge i C0.length with hi | hi
    · rw [List.getElem?_append_left hi] at hc
      rw [zup_ne _ _ _ (by omega), zup_ne _ _ _ (by omega), zup_ne _ _ _ (by omega)]
      exact h9 i c hc
    · rw [List.getElem?_append_right hi] at hc
      have hi2 : i - C0.length = 0 := by
        rcases Nat.eq_zero_or_pos (i - C0.length) with z | z
        · exact z
        · rw [List.getElem?_eq_none (by rw [List.length_singleton]; omega)] at hc; cases hc
      rw [hi2] at hc
      have hc2 : (G s - 65, t, b) = c := by simpa using hc
      have hie : (i : Int) = (C0.length : Int) := by omega
      rw [hie, zup_eq, zup_eq, zup_eq, ← hc2]
      exact ⟨rfl, rfl, rfl, by show 0 ≤ G s - 65; omega, by show G s - 65 < 8; omega, by show 1 ≤ t; omega, by show t ≤ 9; omega⟩
theorem zJ_no {me : zMe} {y : Nat} {G : Int → Int} {N s : Int} {C0 : List (Int × Int × Int)} (h : zJ0 me y G N C0 s) (hn : ¬ (s < N ∧ 65 ≤ G s ∧ G s ≤ 72)) : zfault G N = s := by
  obtain ⟨h1, h2, h3, h4, h5, h6⟩ := h
  rw [← h5]
  by_cases e : s < N
  · rw [zff_step e, zaft_0n (fun z => hn ⟨e, z⟩)]; rfl
  · rw [zff_end (by omega)]; rfl
theorem zSc.trans {y : Nat} {m1 m2 m3 : zMe} (h : zSc y m1 m2) (g : zSc y m2 m3) : zSc y m1 m3 := ⟨fun a a1 a2 a3 a4 => (g.1 a a1 a2 a3 a4).trans (h.1 a a1 a2 a3 a4), fun i i1 i2 => (g.2 i i1 i2).trans (h.2 i i1 i2)⟩
theorem zSc.mq {y : Nat} {me me' : zMe} (h : zSc y me me') : zMQ y me me' :=
  ⟨fun a ha => h.1 a (by omega) (by omega) (by omega) (by omega), h.1 _ (by omega) (by omega) (by omega) (by omega), h.1 _ (by omega) (by omega) (by omega) (by omega), h.1 _ (by omega) (by omega) (by omega) (by omega), h.1 _ (by omega) (by omega) (by omega) (by omega), h.2 _ (by omega) (by omega), h.2 _ (by omega) (by omega), h.2 _ (by omega) (by omega)⟩
theorem zSc_y {y : Nat} {me : zMe} {v w : Int} {i : Int} (hi : i = 14 ∨ i = 15) : zSc y me (zset me y (zup (me y) i v)) :=
  ⟨fun a a1 _ _ _ => zset_ne _ _ _ a1, fun j j1 j2 => by rw [zset_eq]; exact zup_ne _ _ _ (by omega)⟩
set_option maxRecDepth 100000 in
set_option maxHeartbeats 1000000 in
theorem m_isScript {d : Nat} {sp : zSP} {me : zMe} {Q : zQ} {y : Nat} (hd : 3 ≤ d) (hy : zMod sp y) (h0 : 0 ≤ me y 13) (h1 : me y 13 ≤ 80) (hQ : ∀ v me', zSc y me me' → ((v = 1 ∧ zfault (me (y + 11)) (me y 13) = -5 ∧ zRd me' y (zcalls (me (y + 11)) (me y 13))) ∨ (v = 0 ∧ zfault (me (y + 11)) (me y 13) ≠ -5 ∧ me' y 14 = zfault (me (y + 11)) (me y 13))) → Q (some (zI v)) sp me') : zCall mX9_isScript d 0 0 [zR y] sp me Q := by
  refine z_met kX9_isScript (by simp) (by simp) ?_
  show zW mX9_isScript d 0 0 Q 0 [zR y, zU] [] sp me
  refine z_L0R (pc' := 1) dX9_isScript_0 rfl ?_
  refine z_iconst (pc' := 2) dX9_isScript_1 rfl (by unfold zin; decide) ?_
  refine z_putI (pc' := 5) (ki := 14) 14 fX9_160.l rfl (Or.inl rfl) rfl dX9_isScript_2 rfl hy.s ?_
  refine z_L0R (pc' := 6) dX9_isScript_5 rfl ?_
  refine z_iconst (pc' := 7) dX9_isScript_6 rfl (by unfold zin; decide) ?_
  refine z_putI (pc' := 10) (ki := 15) 15 fX9_166.l rfl (Or.inl rfl) rfl dX9_isScript_7 rfl hy.s ?_
  refine z_L0R (pc' := 11) dX9_isScript_10 rfl ?_
  refine z_V0v (pc' := 14) (ci := 9) kX9_readCall lX9_169 dX9_isScript_11 rfl (by omega) (Nat.le_of_ble_eq_true rfl) (by decide) rfl hy.s ?_
  generalize hm0 : zset (zset me y (zup (me y) 14 0)) y _ = me0
  have hs0 : zSc y me me0 := by
    rw [← hm0]
    exact ⟨fun a a1 _ _ _ => by rw [zset_ne _ _ _ a1, zset_ne _ _ _ a1], fun j j1 j2 => by rw [zset_eq, zup_ne _ _ _ j2, zset_eq, zup_ne _ _ _ j1]⟩
  have h14 : me0 y 14 = 0 := by rw [← hm0, zset_eq, zup_ne _ _ _ (by omega), zset_eq]; exact zup_eq _ _ _
  have h15 : me0 y 15 = 0 := by rw [← hm0, zset_eq]; exact zup_eq _ _ _
  clear hm0
  have h13 : me0 y 13 = me y 13 := hs0.2 _ (by omega) (by omega)
  have h11 : me0 (y + 11) = me (y + 11) := hs0.1 _ (by omega) (by omega) (by omega) (by omega)
  generalize hG : me (y + 11) = G
  generalize hN : me y 13 = N
  rw [hG, hN] at hQ
  rw [hN] at h0 h1 h13
  rw [hG] at h11
  have hj0 : zJ0 me0 y G N [] 0 := ⟨h14, Int.le_refl _, h0, Int.le_refl _, by rw [Int.sub_zero]; rfl, ⟨0, 1, 0, by rw [Int.sub_zero]; rfl⟩, h15, by decide, fun i c hc => by cases hc⟩
  have hfb := zfault_bd G N h0 h1
  have H15 : ∀ (n : Nat) (g : Int) (me' : zMe), zSc y me me' → ((g = 1 ∧ zJ1 me' y G N) ∨ (g = 0 ∧ me' y 14 = zfault G N ∧ zfault G N ≠ -5)) → (81 - me' y 14).toNat + g.toNat < n → zW mX9_isScript d 0 0 Q 15 [zR y, zI g] [] sp me' := by
    intro n
    induction n with
    | zero => intro g me' _ _ h; omega
    | succ n ih =>
    intro g me' hsc hg hn
    have e13 : me' y 13 = N := by rw [hsc.2 _ (by omega) (by omega)]; exact hN
    have e11 : me' (y + 11) = G := by rw [hsc.1 _ (by omega) (by omega) (by omega) (by omega)]; exact hG
    refine z_L1I (pc' := 16) dX9_isScript_15 rfl ?_
    refine z_if_eq (tgt := 38) (pc' := 19) dX9_isScript_16 (by decide) rfl (fun h16 => ?_) (fun h16 => ?_)
    · refine z_L1I (pc' := 39) dX9_isScript_38 rfl ?_
      refine z_if_eq (tgt := 57) (pc' := 42) dX9_isScript_39 (by decide) rfl (fun h39 => ?_) (fun h39 => ?_)
      · refine z_iconst (pc' := 58) dX9_isScript_57 rfl (by unfold zin; decide) ?_
        refine z_zreturn rfl rfl dX9_isScript_58 (by omega) ?_
        first
        | (exfalso; omega)
        | (have hg0 := (hg.resolve_left (fun z => by omega)).2
           exact hQ 0 me' hsc (Or.inr ⟨rfl, hg0.2, hg0.1⟩))
        | (have hb0 := hb1.resolve_left (fun z => by omega)
           obtain rfl : s = N := by omega
           have hfN : zfault G s = -5 := by rw [← j5, zff_end (Int.le_refl _)]; rfl
           have hcN : zcalls G s = C0 ++ [(f, t, b)] := by
             rw [j6, zpc_step (Int.le_refl _), if_neg (show ¬ s < s by omega), if_pos rfl, show (s + 1 - (s + 1)).toNat = 0 by omega]
             rfl
           exact hQ 1 me1 (hsc.trans hs1) (Or.inl ⟨rfl, hfN, by rw [hcN]; exact k7⟩))
        | (have hb0 := hb1.resolve_left (fun z => by omega)
           have hsN : s < N := by omega
           have hfN : zfault G N = s := by
             rw [← j5, zff_step hsN, zaft_3n (fun z => hb0.2 ⟨hsN, by omega, by omega⟩)]
             rfl
           exact hQ 0 me1 (hsc.trans hs1) (Or.inr ⟨rfl, by omega, by omega⟩))
      · refine z_L0R (pc' := 43) dX9_isScript_42 rfl ?_
        refine z_getI (pc' := 46) (ki := 14) 14 fX9_160.l rfl rfl dX9_isScript_43 rfl hy.s ?_
        refine z_L0R (pc' := 47) dX9_isScript_46 rfl ?_
        refine z_getI (pc' := 50) (ki := 13) 13 fX9_157.l rfl rfl dX9_isScript_47 rfl hy.s ?_
        refine z_icmp_ne (tgt := 57) (pc' := 53) dX9_isScript_50 (by decide) rfl (fun h50 => ?_) (fun h50 => ?_)
        · refine z_iconst (pc' := 58) dX9_isScript_57 rfl (by unfold zin; decide) ?_
          refine z_zreturn rfl rfl dX9_isScript_58 (by omega) ?_
          first
          | (exfalso; omega)
          | (have hg0 := (hg.resolve_left (fun z => by omega)).2
             exact hQ 0 me' hsc (Or.inr ⟨rfl, hg0.2, hg0.1⟩))
          | (have hb0 := hb1.resolve_left (fun z => by omega)
             obtain rfl : s = N := by omega
             have hfN : zfault G s = -5 := by rw [← j5, zff_end (Int.le_refl _)]; rfl
             have hcN : zcalls G s = C0 ++ [(f, t, b)] := by
               rw [j6, zpc_step (Int.le_refl _), if_neg (show ¬ s < s by omega), if_pos rfl, show (s + 1 - (s + 1)).toNat = 0 by omega]
               rfl
             exact hQ 1 me1 (hsc.trans hs1) (Or.inl ⟨rfl, hfN, by rw [hcN]; exact k7⟩))
          | (have hb0 := hb1.resolve_left (fun z => by omega)
             have hsN : s < N := by omega
             have hfN : zfault G N = s := by
               rw [← j5, zff_step hsN, zaft_3n (fun z => hb0.2 ⟨hsN, by omega, by omega⟩)]
               rfl
             exact hQ 0 me1 (hsc.trans hs1) (Or.inr ⟨rfl, by omega, by omega⟩))
        · refine z_iconst (pc' := 54) dX9_isScript_53 rfl (by unfold zin; decide) ?_
          refine z_goto (tgt := 58) dX9_isScript_54 (by decide) ?_
          refine z_zreturn rfl rfl dX9_isScript_58 (by omega) ?_
          first
          | (exfalso; omega)
          | (have hg0 := (hg.resolve_left (fun z => by omega)).2
             exact hQ 0 me' hsc (Or.inr ⟨rfl, hg0.2, hg0.1⟩))
          | (have hb0 := hb1.resolve_left (fun z => by omega)
             obtain rfl : s = N := by omega
             have hfN : zfault G s = -5 := by rw [← j5, zff_end (Int.le_refl _)]; rfl
             have hcN : zcalls G s = C0 ++ [(f, t, b)] := by
               rw [j6, zpc_step (Int.le_refl _), if_neg (show ¬ s < s by omega), if_pos rfl, show (s + 1 - (s + 1)).toNat = 0 by omega]
               rfl
             exact hQ 1 me1 (hsc.trans hs1) (Or.inl ⟨rfl, hfN, by rw [hcN]; exact k7⟩))
          | (have hb0 := hb1.resolve_left (fun z => by omega)
             have hsN : s < N := by omega
             have hfN : zfault G N = s := by
               rw [← j5, zff_step hsN, zaft_3n (fun z => hb0.2 ⟨hsN, by omega, by omega⟩)]
               rfl
             exact hQ 0 me1 (hsc.trans hs1) (Or.inr ⟨rfl, by omega, by omega⟩))
    · refine z_L0R (pc' := 20) dX9_isScript_19 rfl ?_
      refine z_bipush (pc' := 22) dX9_isScript_20 rfl (by decide) ?_
      refine z_bipush (pc' := 24) dX9_isScript_22 rfl (by decide) ?_
      refine z_V2v (pc' := 27) (ci := 9) kX9_takes lX9_163 dX9_isScript_24 rfl (by omega) (Nat.le_of_ble_eq_true rfl) (by decide) rfl hy.s ?_
      obtain ⟨C0, f, t, b, s, j1, j2, j3, j4, j5, j6, j7⟩ := (hg.resolve_right (fun z => h16 z.1)).2
      refine m_takes (by omega) hy (by omega) (by omega) (by omega) (fun b1 hb1 => zKv_i ?_)
      rw [e11, e13, j1] at hb1
      rw [j1]
      have m1y : zset me' y (zup (me' y) 14 (s + b1)) y 14 = s + b1 := by rw [zset_eq]; exact zup_eq _ _ _
      have m1i : ∀ i, i ≠ 14 → zset me' y (zup (me' y) 14 (s + b1)) y i = me' y i := fun i hi => by rw [zset_eq]; exact zup_ne _ _ _ hi
      have m1o : ∀ a, a ≠ y → zset me' y (zup (me' y) 14 (s + b1)) a = me' a := fun a ha => zset_ne _ _ _ ha
      revert m1y m1i m1o
      generalize zset me' y (zup (me' y) 14 (s + b1)) = me1
      intro m1y m1i m1o
      have hs1 : zSc y me' me1 := ⟨fun a a1 _ _ _ => m1o a a1, fun i i1 _ => m1i i i1⟩
      have k7 : zRd me1 y (C0 ++ [(f, t, b)]) := by
        obtain ⟨r1, r2, r3⟩ := j7
        exact ⟨by rw [m1i 15 (by omega)]; exact r1, r2, by rw [m1o _ (by omega), m1o _ (by omega), m1o _ (by omega)]; exact r3⟩
      have f13 : me1 y 13 = N := by rw [m1i 13 (by omega)]; exact e13
      have f11 : me1 (y + 11) = G := by rw [m1o _ (by omega)]; exact e11
      refine z_if_eq (tgt := 38) (pc' := 30) dX9_isScript_27 (by decide) rfl (fun h27 => ?_) (fun h27 => ?_)
      · refine z_L1I (pc' := 39) dX9_isScript_38 rfl ?_
        refine z_if_eq (tgt := 57) (pc' := 42) dX9_isScript_39 (by decide) rfl (fun h39 => ?_) (fun h39 => ?_)
        · refine z_iconst (pc' := 58) dX9_isScript_57 rfl (by unfold zin; decide) ?_
          refine z_zreturn rfl rfl dX9_isScript_58 (by omega) ?_
          first
          | (exfalso; omega)
          | (have hg0 := (hg.resolve_left (fun z => by omega)).2
             exact hQ 0 me' hsc (Or.inr ⟨rfl, hg0.2, hg0.1⟩))
          | (have hb0 := hb1.resolve_left (fun z => by omega)
             obtain rfl : s = N := by omega
             have hfN : zfault G s = -5 := by rw [← j5, zff_end (Int.le_refl _)]; rfl
             have hcN : zcalls G s = C0 ++ [(f, t, b)] := by
               rw [j6, zpc_step (Int.le_refl _), if_neg (show ¬ s < s by omega), if_pos rfl, show (s + 1 - (s + 1)).toNat = 0 by omega]
               rfl
             exact hQ 1 me1 (hsc.trans hs1) (Or.inl ⟨rfl, hfN, by rw [hcN]; exact k7⟩))
          | (have hb0 := hb1.resolve_left (fun z => by omega)
             have hsN : s < N := by omega
             have hfN : zfault G N = s := by
               rw [← j5, zff_step hsN, zaft_3n (fun z => hb0.2 ⟨hsN, by omega, by omega⟩)]
               rfl
             exact hQ 0 me1 (hsc.trans hs1) (Or.inr ⟨rfl, by omega, by omega⟩))
        · refine z_L0R (pc' := 43) dX9_isScript_42 rfl ?_
          refine z_getI (pc' := 46) (ki := 14) 14 fX9_160.l rfl rfl dX9_isScript_43 rfl hy.s ?_
          refine z_L0R (pc' := 47) dX9_isScript_46 rfl ?_
          refine z_getI (pc' := 50) (ki := 13) 13 fX9_157.l rfl rfl dX9_isScript_47 rfl hy.s ?_
          refine z_icmp_ne (tgt := 57) (pc' := 53) dX9_isScript_50 (by decide) rfl (fun h50 => ?_) (fun h50 => ?_)
          · refine z_iconst (pc' := 58) dX9_isScript_57 rfl (by unfold zin; decide) ?_
            refine z_zreturn rfl rfl dX9_isScript_58 (by omega) ?_
            first
            | (exfalso; omega)
            | (have hg0 := (hg.resolve_left (fun z => by omega)).2
               exact hQ 0 me' hsc (Or.inr ⟨rfl, hg0.2, hg0.1⟩))
            | (have hb0 := hb1.resolve_left (fun z => by omega)
               obtain rfl : s = N := by omega
               have hfN : zfault G s = -5 := by rw [← j5, zff_end (Int.le_refl _)]; rfl
               have hcN : zcalls G s = C0 ++ [(f, t, b)] := by
                 rw [j6, zpc_step (Int.le_refl _), if_neg (show ¬ s < s by omega), if_pos rfl, show (s + 1 - (s + 1)).toNat = 0 by omega]
                 rfl
               exact hQ 1 me1 (hsc.trans hs1) (Or.inl ⟨rfl, hfN, by rw [hcN]; exact k7⟩))
            | (have hb0 := hb1.resolve_left (fun z => by omega)
               have hsN : s < N := by omega
               have hfN : zfault G N = s := by
                 rw [← j5, zff_step hsN, zaft_3n (fun z => hb0.2 ⟨hsN, by omega, by omega⟩)]
                 rfl
               exact hQ 0 me1 (hsc.trans hs1) (Or.inr ⟨rfl, by omega, by omega⟩))
          · refine z_iconst (pc' := 54) dX9_isScript_53 rfl (by unfold zin; decide) ?_
            refine z_goto (tgt := 58) dX9_isScript_54 (by decide) ?_
            refine z_zreturn rfl rfl dX9_isScript_58 (by omega) ?_
            first
            | (exfalso; omega)
            | (have hg0 := (hg.resolve_left (fun z => by omega)).2
               exact hQ 0 me' hsc (Or.inr ⟨rfl, hg0.2, hg0.1⟩))
            | (have hb0 := hb1.resolve_left (fun z => by omega)
               obtain rfl : s = N := by omega
               have hfN : zfault G s = -5 := by rw [← j5, zff_end (Int.le_refl _)]; rfl
               have hcN : zcalls G s = C0 ++ [(f, t, b)] := by
                 rw [j6, zpc_step (Int.le_refl _), if_neg (show ¬ s < s by omega), if_pos rfl, show (s + 1 - (s + 1)).toNat = 0 by omega]
                 rfl
               exact hQ 1 me1 (hsc.trans hs1) (Or.inl ⟨rfl, hfN, by rw [hcN]; exact k7⟩))
            | (have hb0 := hb1.resolve_left (fun z => by omega)
               have hsN : s < N := by omega
               have hfN : zfault G N = s := by
                 rw [← j5, zff_step hsN, zaft_3n (fun z => hb0.2 ⟨hsN, by omega, by omega⟩)]
                 rfl
               exact hQ 0 me1 (hsc.trans hs1) (Or.inr ⟨rfl, by omega, by omega⟩))
      · refine z_L0R (pc' := 31) dX9_isScript_30 rfl ?_
        refine z_V0v (pc' := 34) (ci := 9) kX9_readCall lX9_169 dX9_isScript_31 rfl (by omega) (Nat.le_of_ble_eq_true rfl) (by decide) rfl hy.s ?_
        have hb1' := hb1.resolve_right (fun z => h27 z.1)
        have hsp : G s = 32 := by omega
        have hj2 : zJ0 me1 y G N (C0 ++ [(f, t, b)]) (s + 1) := by
          refine ⟨by omega, by omega, by omega, by rw [List.length_append, List.length_singleton]; omega, ?_, ⟨f, t, b, ?_⟩, k7⟩
          · rw [← j5, zff_step hb1'.2.1, hsp, zaft_s (by decide), if_neg (by decide)]
          · rw [j6, zpc_step (by omega), if_pos hb1'.2.1, if_pos hsp, List.append_assoc]; rfl
        refine m_readCall (by omega) hy (by omega) (by omega) (by omega) (by rw [k7.1]; omega) (by have := hj2.2.2.2.1; rw [k7.1, m1y, hb1'.1]; exact this) (fun hn me2 hs2 e1 => zKv_i ?_) (fun t b s3 me2 hr hs2 e1 e2 e3 e4 e5 => zKv_i ?_)
        · rw [m1y, hb1'.1, f11, f13] at hn
          have hf := zJ_no hj2 hn
          refine z_S1I (pc' := 35) rfl dX9_isScript_34 rfl ?_
          refine z_goto (tgt := 15) dX9_isScript_35 (by decide) ?_
          exact ih 0 me2 ((hsc.trans hs1).trans hs2) (Or.inr ⟨rfl, by omega, by omega⟩) (by show (81 - me2 y 14).toNat + 0 < n; have : g.toNat = 1 := (by rw [(hg.resolve_right (fun z => h16 z.1)).1]; rfl); omega)
        rw [m1y, hb1'.1, f11, f13] at hr
        rw [m1y, hb1'.1, f11] at e3
        have hbd := zrd_bd hr
        refine z_S1I (pc' := 35) rfl dX9_isScript_34 rfl ?_
        refine z_goto (tgt := 15) dX9_isScript_35 (by decide) ?_
        exact ih 1 me2 ((hsc.trans hs1).trans hs2) (Or.inl ⟨rfl, zJ_ok h1 hj2 hr e1 e2 e3 e4 e5⟩) (by show (81 - me2 y 14).toNat + 1 < n; have : g.toNat = 1 := (by rw [(hg.resolve_right (fun z => h16 z.1)).1]; rfl); omega)
  refine m_readCall (by omega) hy (by omega) (by omega) (by omega) (by omega) (by omega) (fun hn me1 hs1 e1 => zKv_i ?_) (fun t b s3 me1 hr hs1 e1 e2 e3 e4 e5 => zKv_i ?_)
  · rw [h14, h11, h13] at hn
    have hf := zJ_no hj0 hn
    refine z_S1I (pc' := 15) rfl dX9_isScript_14 rfl ?_
    exact H15 _ 0 me1 (hs0.trans hs1) (Or.inr ⟨rfl, by rw [e1, h14, hf], by omega⟩) (Nat.lt_succ_self _)
  rw [h14, h11, h13] at hr
  rw [h14, h11] at e3
  refine z_S1I (pc' := 15) rfl dX9_isScript_14 rfl ?_
  exact H15 _ 1 me1 (hs0.trans hs1) (Or.inl ⟨rfl, zJ_ok h1 hj0 hr e1 e2 e3 e4 e5⟩) (Nat.lt_succ_self _)
set_option maxRecDepth 100000 in
set_option maxHeartbeats 1000000 in
theorem y_fault {d : Nat} {sp : zSP} {me : zMe} {Q : zQ} {y : Nat} {A : zAb} {B : Int} (hd : 20 ≤ d) (hy : zMod sp y) (hX : zMX me y A) (hI : zIA B A) (hQ : ∀ me', zMX me' y (zoFault A).2 → zMF y me me' → Q (some (zI (zoFault A).1)) sp me') : zCall mX9_fault d 0 0 [zR y] sp me Q := by
  refine z_met kX9_fault (by simp) (by simp) ?_
  show zW mX9_fault d 0 0 Q 0 [zR y] [] sp me
  have hN := hI.2.2.2.1
  have e13 : me y 13 = qN A := hX.2.2.2.1
  have e11 : me (y + 11) = qG A := hX.2.2.2.2
  refine z_L0R (pc' := 1) dX9_fault_0 rfl ?_
  refine z_V0v (pc' := 4) (ci := 9) kX9_isScript lX9_172 dX9_fault_1 rfl (by omega) (Nat.le_of_ble_eq_true rfl) (by decide) rfl hy.s ?_
  refine m_isScript (by omega) hy (by omega) (by omega) (fun v me1 hs1 hv => zKv_i ?_)
  rw [e13, e11] at hv
  have hq := hs1.mq
  have hfb := zfault_bd (qG A) (qN A) hN.1 hN.2
  refine z_if_eq (tgt := 12) (pc' := 7) dX9_fault_4 (by decide) rfl (fun h4 => ?_) (fun h4 => ?_)
  · refine z_L0R (pc' := 13) dX9_fault_12 rfl ?_
    refine z_getI (pc' := 16) (ki := 14) 14 fX9_160.l rfl rfl dX9_fault_13 rfl hy.s ?_
    refine z_ireturn rfl rfl dX9_fault_16 ?_
    have hr := hQ me1 (hq.mx hX) hq.fr
    rw [show (zoFault A).1 = zfault (qG A) (qN A) from rfl] at hr
    first
    | (rw [(hv.resolve_left (fun z => by omega)).2.2]; exact hr)
    | (rw [(hv.resolve_right (fun z => h4 z.1)).2.1] at hr; exact hr)
  · refine z_bipush (pc' := 9) dX9_fault_7 rfl (by decide) ?_
    refine z_goto (tgt := 16) dX9_fault_9 (by decide) ?_
    refine z_ireturn rfl rfl dX9_fault_16 ?_
    have hr := hQ me1 (hq.mx hX) hq.fr
    rw [show (zoFault A).1 = zfault (qG A) (qN A) from rfl] at hr
    first
    | (rw [(hv.resolve_left (fun z => by omega)).2.2]; exact hr)
    | (rw [(hv.resolve_right (fun z => h4 z.1)).2.1] at hr; exact hr)
end ZMOD2

