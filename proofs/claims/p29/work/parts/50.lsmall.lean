section ZLA
/-! the law's own small methods -/
def zXt (n : Nat) (sp sp' : zSP) : Prop := sp'.2.2 = sp.2.2 + n ∧ ∀ b, b ≤ sp.2.2 → sp'.1 b = sp.1 b ∧ sp'.2.1 b = sp.2.1 b
theorem zXt.rf {sp : zSP} : zXt 0 sp sp := ⟨rfl, fun _ _ => ⟨rfl, rfl⟩⟩
theorem zXt.tr {n m : Nat} {s1 s2 s3 : zSP} (h : zXt n s1 s2) (g : zXt m s2 s3) : zXt (n + m) s1 s3 :=
  ⟨by rw [g.1, h.1]; omega, fun b hb => ⟨(g.2 b (by rw [h.1]; omega)).1.trans (h.2 b hb).1, (g.2 b (by rw [h.1]; omega)).2.trans (h.2 b hb).2⟩⟩
theorem zXt.s {n : Nat} {s1 s2 : zSP} (h : zXt n s1 s2) {a : Nat} {v : Nat × Nat} (ha : a ≤ s1.2.2) (hs : s1.1 a = v) : s2.1 a = v := (h.2 a ha).1.trans hs
section ZLA2
variable {M M' : zMd} {d d' r1 r2 mc ms n : Nat} {Q Q' : zQ} {pc pc' idx : Nat} {L st rest As : List zV} {sp : zSP} {me : zMe}
theorem z_nar {n : Int} {r1' r2' a : Nat} (dg : decode M.2.1 pc = .ok (.newarray .int, 2)) (hp : pc + 2 = pc') (h0 : 0 ≤ n) (h100 : n < 100000) (h1 : r1' + 1 = r1) (h2 : r2' + n.toNat = r2) (ha : sp.2.2 + 1 = a) (k : ∀ sp' me', zXt 1 sp sp' → sp'.2.2 = a → sp'.1 a = (1, n.toNat) → me' = zset me a (fun _ => 0) → zW M d r1' r2' Q pc' L (zR a :: st) sp' me') : zW M d r1 r2 Q pc L (zI n :: st) sp me := by
  subst h1 h2 ha
  refine z_newarray false dg hp h0 h100 (by omega) (by omega) ?_
  rw [Nat.add_sub_cancel, Nat.add_sub_cancel]
  exact k _ _ ⟨rfl, fun b hb => ⟨zset_ne _ _ _ (by omega), zset_ne _ _ _ (by omega)⟩⟩ rfl (zset_eq _ _ _) rfl
def zsl (st : List zV) : Nat := match st with
  | [] => 0
  | (Sum.inr (Sum.inr _)) :: t => 2 + zsl t
  | _ :: t => 1 + zsl t
theorem zsum1 (B b : Nat) : ∀ st : List zV, (((st.map (ztr B b)).map fun v => v.category)).sum ≤ zsl st := by
  intro st
  induction st with
  | nil => exact Nat.le_refl _
  | cons a t ih =>
    rcases a with i | (a | x)
    · have h : (ztr B b (Sum.inl i)).category = 1 := rfl
      simp only [List.map_cons, List.sum_cons, h]
      show 1 + _ ≤ 1 + zsl t
      omega
    · have h : (ztr B b (Sum.inr (Sum.inl a))).category = 1 := by rcases a with _ | a <;> rfl
      simp only [List.map_cons, List.sum_cons, h]
      show 1 + _ ≤ 1 + zsl t
      omega
    · have h : (ztr B b (Sum.inr (Sum.inr x))).category = 2 := rfl
      simp only [List.map_cons, List.sum_cons, h]
      show 2 + _ ≤ 2 + zsl t
      omega
theorem z_G (hM : zMok M' n) (hlk : zLs M.1.cls idx M'.1) (dg : decode M.2.1 pc = .ok (.invokestatic idx, 3)) (hp : pc + 3 = pc') (hn : As.length = n) (hd : d' + 1 ≤ d) (hlen : zsl rest ≤ 8) (h1 : mc ≤ r1) (h2 : ms ≤ r2) (hst0 : As.reverse ++ rest = st) (hcall : zCall M' d' mc ms As sp me Q') (hQ : ∀ v sp' me', Q' v sp' me' → zW M d (r1 - mc) (r2 - ms) Q pc' L (v.toList ++ rest) sp' me') : zW M d r1 r2 Q pc L st sp me := by
  intro k1 k2 p l e R s m args below meth c D cA B b Fin C H locs cells slots ls hl hw hS hz hr1 hr2 hL hst
  have C0 := C
  obtain ⟨hx, hb, hml, hown, hname, hts, hnw, hao, hK, hroom, hbud, hBs, hscr, hret⟩ := C0
  subst hp
  subst hst0
  intro T hT X
  have hsz := zsize C hw hS hz hT X
  have hM1 := hcall l D cA B b
  have h8 := zsum1 B b rest
  have hmaxL := hM.2.1
  have hrr : (zrm d' mc ms).frames + 1 ≤ R.frames ∧ 8 + (M'.2.2.1 + 11) + (zrm d' mc ms).locals ≤ R.locals := ⟨by show d' + 1 ≤ _; omega, by show 8 + (M'.2.2.1 + 11) + (64 * d' + 64) ≤ _; omega⟩
  have hbd : cells + mc ≤ R.cells ∧ slots + ms ≤ R.slots := ⟨by omega, by omega⟩
  have PS : PreS s H (zPc D cA B b As sp me) (As.map (ztr B b)) := ⟨zPc_blind, fun U hU hW => ⟨rfl, by rw [hU]; exact hw, by rw [hU]; exact hsz, va_K.moved hW.alike hK, fun w hw1 hn1 => zNest_warm hn1 hW (hnw w hw1 hn1), fun C hC => va_AO.moved hW.alike (hao C hC), fun v hv => hst v (by simp [hv])⟩⟩
  have hstk : (F0 m pc ls ((As.reverse ++ rest).map (ztr B b))).stack = (As.map (ztr B b)).reverse ++ rest.map (ztr B b) := by
    show (As.reverse ++ rest).map (ztr B b) = _
    rw [List.map_append, List.map_reverse]
  have hd4 := hM.2.2.2.2
  rcases hlk.2.2 with hk | ⟨host, hk⟩
  · exact z_after (va_runS (Ts := zG) ⟨hx, hb, hml, hown, hts⟩ hM1 ⟨callB_of n hts (zgood (zwo_in hM)) rfl rfl rfl (hts _ hlk.2.1) (hts _ hk) hd4 hrr, hts _ hlk.1⟩ PS rfl (by rw [List.length_map]; exact hn) hl.1 hstk (lv_room (by omega)) dg hbd) hS (fun v sp' me' H1 locs1 hq hw1 hn1 hvok hS1 => by
    have e1 : (v.map (ztr B b)).toList ++ rest.map (ztr B b) = (v.toList ++ rest).map (ztr B b) := by cases v <;> rfl
    rw [e1]
    exact hQ v sp' me' hq k1 k2 p l e R s m args below meth c D cA B b Fin C H1 locs1 (cells + mc) (slots + ms) ls hl hw1 hS1 (by omega) (by omega) (by omega) hL (fun x hx2 => by
      rcases List.mem_append.mp hx2 with h | h
      · exact hvok x (by cases v <;> simp at h; rw [h])
      · exact hst x (by simp [h]))) T hT X
  · exact z_after (va_runSN (Ts := zG) ⟨hx, hb, hml, hown, hts⟩ hM1 ⟨va_cnB n hts (zgood (zwo_in hM)) rfl rfl rfl (hnw _ hk rfl) (hts _ hlk.2.1) hd4 hrr, hts _ hlk.1, trivial⟩ PS rfl (by rw [List.length_map]; exact hn) hl.1 hstk (lv_room (by omega)) dg hbd) hS (fun v sp' me' H1 locs1 hq hw1 hn1 hvok hS1 => by
    have e1 : (v.map (ztr B b)).toList ++ rest.map (ztr B b) = (v.toList ++ rest).map (ztr B b) := by cases v <;> rfl
    rw [e1]
    exact hQ v sp' me' hq k1 k2 p l e R s m args below meth c D cA B b Fin C H1 locs1 (cells + mc) (slots + ms) ls hl hw1 hS1 (by omega) (by omega) (by omega) hL (fun x hx2 => by
      rcases List.mem_append.mp hx2 with h | h
      · exact hvok x (by cases v <;> simp at h; rw [h])
      · exact hst x (by simp [h]))) T hT X
theorem z_G2v {x0 x1 : zV} (hM : zMok M' 2) (hlk : zLs M.1.cls idx M'.1) (dg : decode M.2.1 pc = .ok (.invokestatic idx, 3)) (hp : pc + 3 = pc') (hd : 1 ≤ d) (hlen : zsl st ≤ 8) (hcall : zCall M' (d - 1) 0 0 [x0, x1] sp me (zKv M d r1 r2 Q pc' L st)) : zW M d r1 r2 Q pc L (x1 :: x0 :: st) sp me := z_G (As := [x0, x1]) (rest := st) hM hlk dg hp rfl (by omega) hlen (Nat.zero_le _) (Nat.zero_le _) rfl hcall zKv_q
end ZLA2
theorem zand_nn (v : Int) : 0 ≤ zand v 2147483647 := by
  unfold zand
  show 0 ≤ BitVec.toInt (Int32.ofInt v &&& Int32.ofInt 2147483647).toBitVec
  rw [Int32.toBitVec_and, BitVec.toInt_eq_toNat_of_msb (by
    rw [BitVec.msb_and]
    have h : (Int32.ofInt 2147483647).toBitVec.msb = false := by decide
    rw [h, Bool.and_false])]
  exact Int.natCast_nonneg _
def gLow (v n : Int) : Int := zand v 2147483647 % n
theorem gLow_bd (v : Int) {n : Int} (hn : 0 < n) : 0 ≤ gLow v n ∧ gLow v n < n := ⟨Int.emod_nonneg _ (by omega), Int.emod_lt_of_pos _ hn⟩
set_option maxRecDepth 100000 in
set_option maxHeartbeats 1000000 in
theorem l_low {d : Nat} {sp : zSP} {me : zMe} {Q : zQ} {v n : Int} (hn : 0 < n) (hQ : Q (some (zI (gLow v n))) sp me) : zCall mL_low d 0 0 [zI v, zI n] sp me Q := by
  refine z_met kL_low (by simp) (by simp) ?_
  show zW mL_low d 0 0 Q 0 [zI v, zI n] [] sp me
  refine z_L0I (pc' := 1) dL_low_0 rfl ?_
  refine z_ldcI (pc' := 3) dL_low_1 rfl uL_8 (by unfold zin; decide) ?_
  refine z_iand (pc' := 4) dL_low_3 rfl ?_
  refine z_L1I (pc' := 5) dL_low_4 rfl ?_
  have hnn := zand_nn v
  refine z_irem (pc' := 6) dL_low_5 rfl (by omega) (by omega) ?_
  refine z_ireturn rfl rfl dL_low_6 ?_
  exact hQ
def gMv (me : zMe) (m o : Nat) (k i : Int) : Int := if k < 4 then me m (10 * k + i) else me o (10 * (k - 4) + i)
set_option maxRecDepth 100000 in
set_option maxHeartbeats 1000000 in
theorem l_move {d : Nat} {sp : zSP} {me : zMe} {Q : zQ} {m o : Nat} {k i : Int} (hm : sp.1 m = (1, 40)) (ho : sp.1 o = (1, 40)) (k0 : 0 ≤ k) (k1 : k < 8) (i0 : 0 ≤ i) (i1 : i < 10) (hQ : Q (some (zI (gMv me m o k i))) sp me) : zCall mL_move d 0 0 [zR m, zR o, zI k, zI i] sp me Q := by
  refine z_met kL_move (by simp) (by simp) ?_
  show zW mL_move d 0 0 Q 0 [zR m, zR o, zI k, zI i] [] sp me
  refine z_L2I (pc' := 1) dL_move_0 rfl ?_
  refine z_iconst (pc' := 2) dL_move_1 rfl (by unfold zin; decide) ?_
  refine z_icmp_ge (tgt := 16) (pc' := 5) dL_move_2 (by decide) rfl (fun h2 => ?_) (fun h2 => ?_)
  · refine z_L1R (pc' := 17) dL_move_16 rfl ?_
    refine z_bipush (pc' := 19) dL_move_17 rfl (by decide) ?_
    refine z_L2I (pc' := 20) dL_move_19 rfl ?_
    refine z_iconst (pc' := 21) dL_move_20 rfl (by unfold zin; decide) ?_
    refine z_isub (pc' := 22) dL_move_21 rfl (by unfold zin; omega) ?_
    refine z_imul (pc' := 23) dL_move_22 rfl (by unfold zin; omega) ?_
    refine z_L3I (pc' := 24) dL_move_23 rfl ?_
    refine z_iadd (pc' := 25) dL_move_24 rfl (by unfold zin; omega) ?_
    refine z_ild (pc' := 26) dL_move_25 rfl (by first | exact hm | exact ho) (by omega) (by omega) ?_
    refine z_ireturn rfl rfl dL_move_26 ?_
    first
    | (rw [show gMv me m o k i = me m (10 * k + i) from if_pos (by omega)] at hQ; exact hQ)
    | (rw [show gMv me m o k i = me o (10 * (k - 4) + i) from if_neg (by omega)] at hQ; exact hQ)
  · refine z_L0R (pc' := 6) dL_move_5 rfl ?_
    refine z_bipush (pc' := 8) dL_move_6 rfl (by decide) ?_
    refine z_L2I (pc' := 9) dL_move_8 rfl ?_
    refine z_imul (pc' := 10) dL_move_9 rfl (by unfold zin; omega) ?_
    refine z_L3I (pc' := 11) dL_move_10 rfl ?_
    refine z_iadd (pc' := 12) dL_move_11 rfl (by unfold zin; omega) ?_
    refine z_ild (pc' := 13) dL_move_12 rfl (by first | exact hm | exact ho) (by omega) (by omega) ?_
    refine z_goto (tgt := 26) dL_move_13 (by decide) ?_
    refine z_ireturn rfl rfl dL_move_26 ?_
    first
    | (rw [show gMv me m o k i = me m (10 * k + i) from if_pos (by omega)] at hQ; exact hQ)
    | (rw [show gMv me m o k i = me o (10 * (k - 4) + i) from if_neg (by omega)] at hQ; exact hQ)
set_option maxRecDepth 100000 in
set_option maxHeartbeats 1000000 in
theorem l_near {d : Nat} {sp : zSP} {me : zMe} {Q : zQ} {a b : Int} (ha0 : 0 ≤ a) (ha1 : a < 10) (hb0 : 0 ≤ b) (hb1 : b < 10) (hQ1 : znb a b → Q (some (zI 1)) sp me) (hQ0 : ¬ znb a b → Q (some (zI 0)) sp me) : zCall mL_near d 0 0 [zI a, zI b] sp me Q := by
  refine z_met kL_near (by simp) (by simp) ?_
  show zW mL_near d 0 0 Q 0 [zI a, zI b, zU] [] sp me
  unfold znb at hQ1 hQ0
  refine z_L0I (pc' := 1) dL_near_0 rfl ?_
  refine z_L1I (pc' := 2) dL_near_1 rfl ?_
  refine z_isub (pc' := 3) dL_near_2 rfl (by unfold zin; omega) ?_
  refine z_S2I (pc' := 4) rfl dL_near_3 rfl ?_
  refine z_L2I (pc' := 5) dL_near_4 rfl ?_
  refine z_iconst (pc' := 6) dL_near_5 rfl (by unfold zin; decide) ?_
  refine z_icmp_eq (tgt := 26) (pc' := 9) dL_near_6 (by decide) rfl (fun h6 => ?_) (fun h6 => ?_)
  · refine z_iconst (pc' := 27) dL_near_26 rfl (by unfold zin; decide) ?_
    refine z_goto (tgt := 31) dL_near_27 (by decide) ?_
    refine z_zreturn rfl rfl dL_near_31 (by omega) ?_
    first | exact hQ1 (by omega) | exact hQ0 (by omega)
  · refine z_L2I (pc' := 10) dL_near_9 rfl ?_
    refine z_iconst (pc' := 11) dL_near_10 rfl (by unfold zin; decide) ?_
    refine z_icmp_eq (tgt := 26) (pc' := 14) dL_near_11 (by decide) rfl (fun h11 => ?_) (fun h11 => ?_)
    · refine z_iconst (pc' := 27) dL_near_26 rfl (by unfold zin; decide) ?_
      refine z_goto (tgt := 31) dL_near_27 (by decide) ?_
      refine z_zreturn rfl rfl dL_near_31 (by omega) ?_
      first | exact hQ1 (by omega) | exact hQ0 (by omega)
    · refine z_L2I (pc' := 15) dL_near_14 rfl ?_
      refine z_bipush (pc' := 17) dL_near_15 rfl (by decide) ?_
      refine z_icmp_eq (tgt := 26) (pc' := 20) dL_near_17 (by decide) rfl (fun h17 => ?_) (fun h17 => ?_)
      · refine z_iconst (pc' := 27) dL_near_26 rfl (by unfold zin; decide) ?_
        refine z_goto (tgt := 31) dL_near_27 (by decide) ?_
        refine z_zreturn rfl rfl dL_near_31 (by omega) ?_
        first | exact hQ1 (by omega) | exact hQ0 (by omega)
      · refine z_L2I (pc' := 21) dL_near_20 rfl ?_
        refine z_bipush (pc' := 23) dL_near_21 rfl (by decide) ?_
        refine z_icmp_ne (tgt := 30) (pc' := 26) dL_near_23 (by decide) rfl (fun h23 => ?_) (fun h23 => ?_)
        · refine z_iconst (pc' := 31) dL_near_30 rfl (by unfold zin; decide) ?_
          refine z_zreturn rfl rfl dL_near_31 (by omega) ?_
          first | exact hQ1 (by omega) | exact hQ0 (by omega)
        · refine z_iconst (pc' := 27) dL_near_26 rfl (by unfold zin; decide) ?_
          refine z_goto (tgt := 31) dL_near_27 (by decide) ?_
          refine z_zreturn rfl rfl dL_near_31 (by omega) ?_
          first | exact hQ1 (by omega) | exact hQ0 (by omega)
set_option maxRecDepth 100000 in
set_option maxHeartbeats 1000000 in
theorem l_backwards {d : Nat} {sp : zSP} {me : zMe} {Q : zQ} {c : Int} (hc : zvs c) (hc1 : c < 400) (hQ : Q (some (zI (zund c))) sp me) : zCall mL_backwards d 0 0 [zI c] sp me Q := by
  refine z_met kL_backwards (by simp) (by simp) ?_
  show zW mL_backwards d 0 0 Q 0 [zI c, zU, zU] [] sp me
  have hc2 := hc
  unfold zvs at hc2
  refine z_L0I (pc' := 1) dL_backwards_0 rfl ?_
  refine z_bipush (pc' := 3) dL_backwards_1 rfl (by decide) ?_
  refine z_idiv (pc' := 4) dL_backwards_3 rfl (by omega) (by omega) ?_
  refine z_bipush (pc' := 6) dL_backwards_4 rfl (by decide) ?_
  refine z_irem (pc' := 7) dL_backwards_6 rfl (by omega) (by omega) ?_
  refine z_S1I (pc' := 8) rfl dL_backwards_7 rfl ?_
  refine z_L0I (pc' := 9) dL_backwards_8 rfl ?_
  refine z_bipush (pc' := 11) dL_backwards_9 rfl (by decide) ?_
  refine z_irem (pc' := 12) dL_backwards_11 rfl (by omega) (by omega) ?_
  refine z_S2I (pc' := 13) rfl dL_backwards_12 rfl ?_
  refine z_L0I (pc' := 14) dL_backwards_13 rfl ?_
  refine z_bipush (pc' := 16) dL_backwards_14 rfl (by decide) ?_
  refine z_idiv (pc' := 17) dL_backwards_16 rfl (by omega) (by omega) ?_
  refine z_iconst (pc' := 18) dL_backwards_17 rfl (by unfold zin; decide) ?_
  refine z_icmp_ne (tgt := 35) (pc' := 21) dL_backwards_18 (by decide) rfl (fun h18 => ?_) (fun h18 => ?_)
  · refine z_L0I (pc' := 36) dL_backwards_35 rfl ?_
    refine z_bipush (pc' := 38) dL_backwards_36 rfl (by decide) ?_
    refine z_idiv (pc' := 39) dL_backwards_38 rfl (by omega) (by omega) ?_
    refine z_iconst (pc' := 40) dL_backwards_39 rfl (by unfold zin; decide) ?_
    refine z_icmp_ne (tgt := 57) (pc' := 43) dL_backwards_40 (by decide) rfl (fun h40 => ?_) (fun h40 => ?_)
    · refine z_L0I (pc' := 58) dL_backwards_57 rfl ?_
      refine z_ireturn rfl rfl dL_backwards_58 ?_
      first
      | (rw [show zund c = 100 + 10 * (c / 10 % 10) + 4 - c % 10 by unfold zund; rw [if_pos (by omega)]; omega] at hQ; exact hQ)
      | (rw [show zund c = 200 + 10 * (10 - c / 10 % 10) by unfold zund; rw [if_neg (by omega), if_pos (by omega)]; omega] at hQ; exact hQ)
      | (rw [show zund c = c by unfold zund; rw [if_neg (by omega), if_neg (by omega)]] at hQ; exact hQ)
    · refine z_sipush (pc' := 46) dL_backwards_43 rfl (by decide) ?_
      refine z_bipush (pc' := 48) dL_backwards_46 rfl (by decide) ?_
      refine z_bipush (pc' := 50) dL_backwards_48 rfl (by decide) ?_
      refine z_L1I (pc' := 51) dL_backwards_50 rfl ?_
      refine z_isub (pc' := 52) dL_backwards_51 rfl (by unfold zin; omega) ?_
      refine z_imul (pc' := 53) dL_backwards_52 rfl (by unfold zin; omega) ?_
      refine z_iadd (pc' := 54) dL_backwards_53 rfl (by unfold zin; omega) ?_
      refine z_goto (tgt := 58) dL_backwards_54 (by decide) ?_
      refine z_ireturn rfl rfl dL_backwards_58 ?_
      first
      | (rw [show zund c = 100 + 10 * (c / 10 % 10) + 4 - c % 10 by unfold zund; rw [if_pos (by omega)]; omega] at hQ; exact hQ)
      | (rw [show zund c = 200 + 10 * (10 - c / 10 % 10) by unfold zund; rw [if_neg (by omega), if_pos (by omega)]; omega] at hQ; exact hQ)
      | (rw [show zund c = c by unfold zund; rw [if_neg (by omega), if_neg (by omega)]] at hQ; exact hQ)
  · refine z_bipush (pc' := 23) dL_backwards_21 rfl (by decide) ?_
    refine z_bipush (pc' := 25) dL_backwards_23 rfl (by decide) ?_
    refine z_L1I (pc' := 26) dL_backwards_25 rfl ?_
    refine z_imul (pc' := 27) dL_backwards_26 rfl (by unfold zin; omega) ?_
    refine z_iadd (pc' := 28) dL_backwards_27 rfl (by unfold zin; omega) ?_
    refine z_iconst (pc' := 29) dL_backwards_28 rfl (by unfold zin; decide) ?_
    refine z_iadd (pc' := 30) dL_backwards_29 rfl (by unfold zin; omega) ?_
    refine z_L2I (pc' := 31) dL_backwards_30 rfl ?_
    refine z_isub (pc' := 32) dL_backwards_31 rfl (by unfold zin; omega) ?_
    refine z_goto (tgt := 58) dL_backwards_32 (by decide) ?_
    refine z_ireturn rfl rfl dL_backwards_58 ?_
    first
    | (rw [show zund c = 100 + 10 * (c / 10 % 10) + 4 - c % 10 by unfold zund; rw [if_pos (by omega)]; omega] at hQ; exact hQ)
    | (rw [show zund c = 200 + 10 * (10 - c / 10 % 10) by unfold zund; rw [if_neg (by omega), if_pos (by omega)]; omega] at hQ; exact hQ)
    | (rw [show zund c = c by unfold zund; rw [if_neg (by omega), if_neg (by omega)]] at hQ; exact hQ)
set_option maxRecDepth 100000 in
set_option maxHeartbeats 1000000 in
theorem l_copy {d : Nat} {sp : zSP} {me : zMe} {Q : zQ} {a b : Nat} (ha : sp.1 a = (1, 10)) (hb : sp.1 b = (1, 10)) (hab : a ≠ b) (hQ : ∀ me', (∀ i, 0 ≤ i → i < 10 → me' b i = me a i) → (∀ c, c ≠ b → me' c = me c) → Q none sp me') : zCall mL_copy d 0 0 [zR a, zR b] sp me Q := by
  refine z_met kL_copy (by simp) (by simp) ?_
  show zW mL_copy d 0 0 Q 0 [zR a, zR b, zU] [] sp me
  refine z_iconst (pc' := 1) dL_copy_0 rfl (by unfold zin; decide) ?_
  refine z_S2I (pc' := 2) rfl dL_copy_1 rfl ?_
  suffices H : ∀ (n : Nat) (i : Int) (me' : zMe), 0 ≤ i → i ≤ 10 → 10 - i < n → (∀ j, 0 ≤ j → j < i → me' b j = me a j) → (∀ c, c ≠ b → me' c = me c) → zW mL_copy d 0 0 Q 2 [zR a, zR b, zI i] [] sp me' by
    exact H 11 0 me (by omega) (by omega) (by omega) (fun j j0 j1 => by omega) (fun _ _ => rfl)
  intro n
  induction n with
  | zero => intro i me' h0 h1 h2; omega
  | succ n ih =>
  intro i me' hi0 hi1 hi2 hN hF
  refine z_L2I (pc' := 3) dL_copy_2 rfl ?_
  refine z_L0R (pc' := 4) dL_copy_3 rfl ?_
  refine z_al (pc' := 5) dL_copy_4 rfl ha ?_
  refine z_icmp_ge (tgt := 20) (pc' := 8) dL_copy_5 (by decide) rfl (fun h5 => ?_) (fun h5 => ?_)
  · refine z_return rfl rfl dL_copy_20 ?_
    exact hQ me' (fun j j0 j1 => hN j j0 (by omega)) hF
  · refine z_L1R (pc' := 9) dL_copy_8 rfl ?_
    refine z_L2I (pc' := 10) dL_copy_9 rfl ?_
    refine z_L0R (pc' := 11) dL_copy_10 rfl ?_
    refine z_L2I (pc' := 12) dL_copy_11 rfl ?_
    refine z_ild (pc' := 13) dL_copy_12 rfl ha (by omega) (by omega) ?_
    refine z_ist (pc' := 14) dL_copy_13 rfl hb (by omega) (by omega) ?_
    refine z_inc2 (pc' := 17) rfl dL_copy_14 rfl (by unfold zin; omega) ?_
    refine z_goto (tgt := 2) dL_copy_17 (by decide) ?_
    refine ih (i + 1) _ (by omega) (by omega) (by omega) (fun j j0 j1 => ?_) (fun c hc => by rw [zset_ne _ _ _ hc]; exact hF c hc)
    rw [zset_eq]
    by_cases e : j = i
    · subst e
      rw [zup_eq, hF a hab]
    · rw [zup_ne _ _ _ (by omega)]
      exact hN j j0 (by omega)
/-- how many are home: with their faces (fc = 1), or by their places alone -/
def gHome (p f : Int → Int) (fc : Int) : Int := zSm (fun i => if p i = i ∧ (fc = 0 ∨ f i = 0) then 1 else 0) 10
set_option maxRecDepth 100000 in
set_option maxHeartbeats 1000000 in
theorem l_home {d : Nat} {sp : zSP} {me : zMe} {Q : zQ} {p f : Nat} {fc : Int} (hp : sp.1 p = (1, 10)) (hf : sp.1 f = (1, 10)) (hQ : Q (some (zI (gHome (me p) (me f) fc))) sp me) : zCall mL_home d 0 0 [zR p, zR f, zI fc] sp me Q := by
  refine z_met kL_home (by simp) (by simp) ?_
  show zW mL_home d 0 0 Q 0 [zR p, zR f, zI fc, zU, zU] [] sp me
  refine z_iconst (pc' := 1) dL_home_0 rfl (by unfold zin; decide) ?_
  refine z_S3I (pc' := 2) rfl dL_home_1 rfl ?_
  refine z_iconst (pc' := 3) dL_home_2 rfl (by unfold zin; decide) ?_
  refine z_S4I (pc' := 5) rfl dL_home_3 rfl ?_
  suffices H : ∀ (n : Nat) (k : Int), 0 ≤ k → k ≤ 10 → 10 - k < n → zW mL_home d 0 0 Q 5 [zR p, zR f, zI fc, zI (zSm (fun i => if me p i = i ∧ (fc = 0 ∨ me f i = 0) then 1 else 0) k), zI k] [] sp (me) by
    refine zW_to (H ((10 - 0 + 1 : Int).toNat) (0) (by omega) (by omega) (by omega) ) rfl rfl ?_
    rfl
  intro n
  induction n with
  | zero => intro k hk0 hk1 hk2; omega
  | succ n ih =>
  intro k hk0 hk1 hk2
  refine z_L4I (pc' := 7) dL_home_5 rfl ?_
  refine z_bipush (pc' := 9) dL_home_7 rfl (by decide) ?_
  refine z_icmp_ge (tgt := 46) (pc' := 12) dL_home_9 (by decide) rfl (fun h9 => ?_) (fun h9 => ?_)
  · obtain rfl : k = 10 := by omega
    refine z_L3I (pc' := 47) dL_home_46 rfl ?_
    refine z_ireturn rfl rfl dL_home_47 ?_
    exact hQ
  · have hbd := zSm_bd (g := fun i => if me p i = i ∧ (fc = 0 ∨ me f i = 0) then 1 else 0) (a := 0) (b := 1) (fun p _ => by split <;> omega) k hk0
    refine z_L3I (pc' := 13) dL_home_12 rfl ?_
    refine z_L0R (pc' := 14) dL_home_13 rfl ?_
    refine z_L4I (pc' := 16) dL_home_14 rfl ?_
    refine z_ild (pc' := 17) dL_home_16 rfl (by first | exact hp | exact hf) (by omega) (by omega) ?_
    refine z_L4I (pc' := 19) dL_home_17 rfl ?_
    refine z_icmp_ne (tgt := 37) (pc' := 22) dL_home_19 (by decide) rfl (fun h19 => ?_) (fun h19 => ?_)
    · refine z_iconst (pc' := 38) dL_home_37 rfl (by unfold zin; decide) ?_
      refine z_iadd (pc' := 39) dL_home_38 rfl (by unfold zin; omega) ?_
      refine z_S3I (pc' := 40) rfl dL_home_39 rfl ?_
      refine z_inc4 (pc' := 43) rfl dL_home_40 rfl (by unfold zin; omega) ?_
      refine z_goto (tgt := 5) dL_home_43 (by decide) ?_
      refine zW_to (ih (k + 1) (by omega) (by omega) (by omega) ) (by rw [zSm_up _ _ hk0]; first | (rw [if_pos ⟨by omega, by omega⟩]) | (rw [if_neg (by omega)])) rfl ?_
      rfl
    · refine z_L2I (pc' := 23) dL_home_22 rfl ?_
      refine z_if_eq (tgt := 33) (pc' := 26) dL_home_23 (by decide) rfl (fun h23 => ?_) (fun h23 => ?_)
      · refine z_iconst (pc' := 34) dL_home_33 rfl (by unfold zin; decide) ?_
        refine z_goto (tgt := 38) dL_home_34 (by decide) ?_
        refine z_iadd (pc' := 39) dL_home_38 rfl (by unfold zin; omega) ?_
        refine z_S3I (pc' := 40) rfl dL_home_39 rfl ?_
        refine z_inc4 (pc' := 43) rfl dL_home_40 rfl (by unfold zin; omega) ?_
        refine z_goto (tgt := 5) dL_home_43 (by decide) ?_
        refine zW_to (ih (k + 1) (by omega) (by omega) (by omega) ) (by rw [zSm_up _ _ hk0]; first | (rw [if_pos ⟨by omega, by omega⟩]) | (rw [if_neg (by omega)])) rfl ?_
        rfl
      · refine z_L1R (pc' := 27) dL_home_26 rfl ?_
        refine z_L4I (pc' := 29) dL_home_27 rfl ?_
        refine z_ild (pc' := 30) dL_home_29 rfl (by first | exact hp | exact hf) (by omega) (by omega) ?_
        refine z_if_ne (tgt := 37) (pc' := 33) dL_home_30 (by decide) rfl (fun h30 => ?_) (fun h30 => ?_)
        · refine z_iconst (pc' := 38) dL_home_37 rfl (by unfold zin; decide) ?_
          refine z_iadd (pc' := 39) dL_home_38 rfl (by unfold zin; omega) ?_
          refine z_S3I (pc' := 40) rfl dL_home_39 rfl ?_
          refine z_inc4 (pc' := 43) rfl dL_home_40 rfl (by unfold zin; omega) ?_
          refine z_goto (tgt := 5) dL_home_43 (by decide) ?_
          refine zW_to (ih (k + 1) (by omega) (by omega) (by omega) ) (by rw [zSm_up _ _ hk0]; first | (rw [if_pos ⟨by omega, by omega⟩]) | (rw [if_neg (by omega)])) rfl ?_
          rfl
        · refine z_iconst (pc' := 34) dL_home_33 rfl (by unfold zin; decide) ?_
          refine z_goto (tgt := 38) dL_home_34 (by decide) ?_
          refine z_iadd (pc' := 39) dL_home_38 rfl (by unfold zin; omega) ?_
          refine z_S3I (pc' := 40) rfl dL_home_39 rfl ?_
          refine z_inc4 (pc' := 43) rfl dL_home_40 rfl (by unfold zin; omega) ?_
          refine z_goto (tgt := 5) dL_home_43 (by decide) ?_
          refine zW_to (ih (k + 1) (by omega) (by omega) (by omega) ) (by rw [zSm_up _ _ hk0]; first | (rw [if_pos ⟨by omega, by omega⟩]) | (rw [if_neg (by omega)])) rfl ?_
          rfl
set_option maxRecDepth 100000 in
set_option maxHeartbeats 1000000 in
theorem l_does {d : Nat} {sp : zSP} {me : zMe} {Q : zQ} {p f e g : Nat} {R E : zRg} (hp : sp.1 p = (1, 10)) (hf : sp.1 f = (1, 10)) (he : sp.1 e = (1, 10)) (hg : sp.1 g = (1, 10)) (hpf : p ≠ f) (hpe : p ≠ e) (hpg : p ≠ g) (hfe : f ≠ e) (hfg : f ≠ g) (hR : zgR R.1 R.2) (hE : zgR E.1 E.2) (hN : ∀ i, 0 ≤ i → i < 10 → me p i = zpl R.1 i ∧ me f i = R.2 (zpl R.1 i)) (hG : ∀ i, 0 ≤ i → i < 10 → me e i = zpl E.1 i ∧ me g i = E.2 (zpl E.1 i)) (hQ : ∀ me', (∀ i, 0 ≤ i → i < 10 → me' p i = zpl (zact R E).1 i ∧ me' f i = (zact R E).2 (zpl (zact R E).1 i)) → (∀ a, a ≠ p → a ≠ f → me' a = me a) → Q none sp me') : zCall mL_does d 0 0 [zR p, zR f, zR e, zR g] sp me Q := by
  refine z_met kL_does (by simp) (by simp) ?_
  show zW mL_does d 0 0 Q 0 [zR p, zR f, zR e, zR g, zU] [] sp me
  refine z_iconst (pc' := 1) dL_does_0 rfl (by unfold zin; decide) ?_
  refine z_S4I (pc' := 3) rfl dL_does_1 rfl ?_
  suffices H : ∀ (n : Nat) (i : Int) (me' : zMe), 0 ≤ i → i ≤ 10 → 10 - i < n → (∀ j, 0 ≤ j → j < i → me' p j = zpl (zact R E).1 j ∧ me' f j = (zact R E).2 (zpl (zact R E).1 j)) → (∀ j, i ≤ j → j < 10 → me' p j = zpl R.1 j ∧ me' f j = R.2 (zpl R.1 j)) → (∀ a, a ≠ p → a ≠ f → me' a = me a) → zW mL_does d 0 0 Q 3 [zR p, zR f, zR e, zR g, zI i] [] sp me' by
    exact H 11 0 me (by omega) (by omega) (by omega) (fun j j0 j1 => by omega) (fun j j0 j1 => hN j j0 j1) (fun _ _ _ => rfl)
  intro n
  induction n with
  | zero => intro i me' h0 h1 h2; omega
  | succ n ih =>
  intro i me' hi0 hi1 hi2 hN1 hN2 hF
  refine z_L4I (pc' := 5) dL_does_3 rfl ?_
  refine z_bipush (pc' := 7) dL_does_5 rfl (by decide) ?_
  refine z_icmp_ge (tgt := 43) (pc' := 10) dL_does_7 (by decide) rfl (fun h7 => ?_) (fun h7 => ?_)
  · refine z_return rfl rfl dL_does_43 ?_
    obtain rfl : i = 10 := by omega
    exact hQ me' hN1 hF
  · have hii := hN2 i (Int.le_refl _) (by omega)
    have hp1 := zpl_ok hR hi0 (show i < 10 by omega)
    have hr := hR.1 _ hp1.1 hp1.2.1
    have hq := zpl_ok hE hp1.1 hp1.2.1
    have hee := hE.1 _ hq.1 hq.2.1
    have hac := zact_pl hR hE hi0 (show i < 10 by omega)
    have hgg := hG _ hp1.1 hp1.2.1
    refine z_L1R (pc' := 11) dL_does_10 rfl ?_
    refine z_L4I (pc' := 13) dL_does_11 rfl ?_
    refine z_L1R (pc' := 14) dL_does_13 rfl ?_
    refine z_L4I (pc' := 16) dL_does_14 rfl ?_
    refine z_ild (pc' := 17) dL_does_16 rfl hf (by omega) (by omega) ?_
    rw [hii.2]
    refine z_L3R (pc' := 18) dL_does_17 rfl ?_
    refine z_L0R (pc' := 19) dL_does_18 rfl ?_
    refine z_L4I (pc' := 21) dL_does_19 rfl ?_
    refine z_ild (pc' := 22) dL_does_21 rfl hp (by omega) (by omega) ?_
    rw [hii.1]
    refine z_ild (pc' := 23) dL_does_22 rfl hg (by omega) (by omega) ?_
    rw [hF g (Ne.symm hpg) (Ne.symm hfg), hgg.2]
    refine z_iadd (pc' := 24) dL_does_23 rfl (by unfold zin; omega) ?_
    refine z_iconst (pc' := 25) dL_does_24 rfl (by unfold zin; decide) ?_
    refine z_irem (pc' := 26) dL_does_25 rfl (by omega) (by omega) ?_
    refine z_ist (pc' := 27) dL_does_26 rfl hf (by omega) (by omega) ?_
    refine z_L0R (pc' := 28) dL_does_27 rfl ?_
    refine z_L4I (pc' := 30) dL_does_28 rfl ?_
    refine z_L2R (pc' := 31) dL_does_30 rfl ?_
    refine z_L0R (pc' := 32) dL_does_31 rfl ?_
    refine z_L4I (pc' := 34) dL_does_32 rfl ?_
    refine z_ild (pc' := 35) dL_does_34 rfl hp (by omega) (by omega) ?_
    rw [zset_ne _ _ _ hpf, hii.1]
    refine z_ild (pc' := 36) dL_does_35 rfl he (by omega) (by omega) ?_
    rw [zset_ne _ _ _ (Ne.symm hfe), hF e (Ne.symm hpe) (Ne.symm hfe), hgg.1]
    refine z_ist (pc' := 37) dL_does_36 rfl hp (by omega) (by omega) ?_
    refine z_inc4 (pc' := 40) rfl dL_does_37 rfl (by unfold zin; omega) ?_
    refine z_goto (tgt := 3) dL_does_40 (by decide) ?_
    refine ih (i + 1) _ (by omega) (by omega) (by omega) (fun j j0 j1 => ?_) (fun j j0 j1 => ?_) (fun a h1 h2 => by rw [zset_ne _ _ _ h1, zset_ne _ _ _ h2]; exact hF a h1 h2)
    · rw [zset_eq, zset_ne _ _ _ (Ne.symm hpf), zset_eq, zset_ne _ _ _ hpf]
      by_cases e : j = i
      · subst e
        rw [zup_eq, zup_eq, hac.1, hac.2]
        exact ⟨rfl, rfl⟩
      · rw [zup_ne _ _ _ (by omega), zup_ne _ _ _ (by omega)]
        exact hN1 j j0 (by omega)
    · rw [zset_eq, zset_ne _ _ _ (Ne.symm hpf), zset_eq, zset_ne _ _ _ hpf, zup_ne _ _ _ (by omega), zup_ne _ _ _ (by omega)]
      exact hN2 j (by omega) j1
end ZLA

