section ZMOA
theorem zrep_get {O : List Int} : ∀ (n m : Nat), m < n * O.length → (zrep n O).getD m 0 = O.getD (m % O.length) 0 := by
  intro n
  induction n with
  | zero => intro m hm; rw [Nat.zero_mul] at hm; omega
  | succ n ih =>
    intro m hm
    rw [Nat.succ_mul] at hm
    show (O ++ zrep n O).getD m 0 = _
    by_cases e : m < O.length
    · rw [Nat.mod_eq_of_lt e]
      simp only [List.getD_eq_getElem?_getD]
      rw [List.getElem?_append_left e]
    · rw [Nat.mod_eq_sub_mod (by omega), ← ih (m - O.length) (by omega)]
      simp only [List.getD_eq_getElem?_getD]
      rw [List.getElem?_append_right (by omega)]
theorem zdrop_cons {L : List Int} {m : Nat} (h : m < L.length) : L.drop m = L.getD m 0 :: L.drop (m + 1) := by
  rw [List.drop_eq_getElem_cons h]
  congr 1
  simp only [List.getD_eq_getElem?_getD]
  rw [List.getElem?_eq_getElem h]
  rfl
theorem zfo_take {L : List Int} {m : Nat} {R : zRg} (h : m < L.length) : zfo R (L.take (m + 1)) = zac (zfo R (L.take m)) (L.getD m 0) := by
  have e : L.take (m + 1) = L.take m ++ [L.getD m 0] := by
    rw [List.take_succ]
    congr 1
    simp only [List.getD_eq_getElem?_getD]
    rw [List.getElem?_eq_getElem h]
    rfl
  rw [e]
  unfold zfo
  rw [List.foldl_append]
  rfl
def zGf (y : Nat) (me me' : zMe) : Prop := ∀ a, a ≠ y + 1 → a ≠ y + 4 → a ≠ y + 5 → a ≠ y + 7 → a ≠ y + 8 → a ≠ y + 9 → a ≠ y + 10 → me' a = me a
set_option maxRecDepth 100000 in
set_option maxHeartbeats 1000000 in
theorem m_go {d : Nat} {sp : zSP} {me : zMe} {Q : zQ} {y : Nat} {k T b : Int} {w f h sz cd : Int → Int} (hd : 8 ≤ d) (hy : zMod sp y) (hg : zgR w f) (hok : zHok h) (hv : zfv sz cd) (hl : zlim sz cd) (hk0 : 0 ≤ k) (hk1 : k < 8) (hT0 : 1 ≤ T) (hT1 : T ≤ 9) (hw : ∀ p, 0 ≤ p → p < 10 → me (y + 1) p = w p) (hf : ∀ p, 0 ≤ p → p < 10 → me (y + 1) (10 + w p) = f p) (hh : ∀ i, 0 ≤ i → i < 10 → me (y + 1) (20 + i) = h i) (hRs : ∀ k, 0 ≤ k → k < 8 → me (y + 1) (30 + 31 * k) = sz k) (hRc : ∀ k, 0 ≤ k → k < 8 → ∀ m, 0 ≤ m → m < sz k → ∀ q, 0 ≤ q → q < 3 → me (y + 1) (30 + 31 * k + 1 + 3 * m + q) = zdig (cd (k * 10 + m)) q) (hQ : ∀ made me', ((ztry h (zrep T.toNat (zord (zsteps sz cd k) b)) (w, f) 0 = -5 ∧ made = ((zrep T.toNat (zord (zsteps sz cd k) b)).length : Int) ∧ (∀ p, 0 ≤ p → p < 10 → me' (y + 1) p = (zfo (w, f) (zrep T.toNat (zord (zsteps sz cd k) b))).1 p) ∧ (∀ p, 0 ≤ p → p < 10 → me' (y + 1) (10 + (zfo (w, f) (zrep T.toNat (zord (zsteps sz cd k) b))).1 p) = (zfo (w, f) (zrep T.toNat (zord (zsteps sz cd k) b))).2 p)) ∨ (ztry h (zrep T.toNat (zord (zsteps sz cd k) b)) (w, f) 0 ≠ -5 ∧ made = ztry h (zrep T.toNat (zord (zsteps sz cd k) b)) (w, f) 0)) → me' (y + 4) k = ((zsteps sz cd k).length : Int) → (∀ q, ¬ (0 ≤ q ∧ q < 20) → me' (y + 1) q = me (y + 1) q) → (∀ q, 0 ≤ q → q < 20 → me' (y + 10) q = me (y + 1) q) → zGf y me me' → Q (some (zI made)) sp me') : zCall mX9_go d 0 0 [zR y, zI k, zI T, zI b] sp me Q := by
  refine z_met kX9_go (by simp) (by simp) ?_
  show zW mX9_go d 0 0 Q 0 [zR y, zI k, zI T, zI b, zU, zU] [] sp me
  have hLv := zsteps_ok hv hk0 hk1
  have hOv := zord_vs (b := b) hLv
  have hOl := zord_len (zsteps sz cd k) b
  have hLl := hl k hk0 hk1
  refine z_L0R (pc' := 1) dX9_go_0 rfl ?_
  refine z_V00 (pc' := 4) (ci := 9) kX9_unroll lX9_112 dX9_go_1 rfl (by omega) (Nat.le_of_ble_eq_true rfl) (by decide) rfl hy.s ?_
  refine m_unroll (by omega) hy hv hl hRs hRc (fun me1 hP1 hf1 => zK0_i ?_)
  have hr1 : me1 (y + 1) = me (y + 1) := hf1 _ (by omega) (by omega)
  refine z_iconst (pc' := 5) dX9_go_4 rfl (by unfold zin; decide) ?_
  refine z_S4I (pc' := 7) rfl dX9_go_5 rfl ?_
  suffices H : ∀ (n : Nat) (i : Int), 0 ≤ i → i ≤ 20 → 20 - i < n → zW mX9_go d 0 0 Q 7 [zR y, zI k, zI T, zI b, zI i, zU] [] sp (zset me1 (y + 10) (zfil (me1 (y + 10)) (me1 (y + 1)) i)) by
    refine zW_to (H ((20 - 0 + 1 : Int).toNat) (0) (by omega) (by omega) (by omega) ) rfl rfl ?_
    simp only [zfil_0, zset_self]
  intro n
  induction n with
  | zero => intro i hk0 hk1 hk2; omega
  | succ n ih =>
  intro i hk0 hk1 hk2
  refine z_L4I (pc' := 9) dX9_go_7 rfl ?_
  refine z_bipush (pc' := 11) dX9_go_9 rfl (by decide) ?_
  refine z_icmp_ge (tgt := 34) (pc' := 14) dX9_go_11 (by decide) rfl (fun h11 => ?_) (fun h11 => ?_)
  · obtain rfl : i = 20 := by omega
    have hr2 : zset me1 (y + 10) (zfil (me1 (y + 10)) (me1 (y + 1)) 20) (y + 1) = me (y + 1) := by rw [zset_ne _ _ _ (by omega)]; exact hr1
    have hb2 : ∀ q, 0 ≤ q → q < 20 → zset me1 (y + 10) (zfil (me1 (y + 10)) (me1 (y + 1)) 20) (y + 10) q = me (y + 1) q := fun q q0 q1 => by rw [zset_eq, zfil_in _ _ _ _ q0 q1, hr1]
    have hU2 : zUk (zset me1 (y + 10) (zfil (me1 (y + 10)) (me1 (y + 1)) 20)) y k (zsteps sz cd k) := by
      have := hP1 k (by assumption) (by assumption)
      exact ⟨by rw [zset_ne _ _ _ (by omega)]; exact this.1, fun i hi q q0 q1 => by rw [zset_ne _ _ _ (by omega)]; exact this.2 i hi q q0 q1⟩
    have hf2 : ∀ a, a ≠ y + 4 → a ≠ y + 5 → a ≠ y + 10 → zset me1 (y + 10) (zfil (me1 (y + 10)) (me1 (y + 1)) 20) a = me a := fun a h1 h2 h3 => by rw [zset_ne _ _ _ h3]; exact hf1 a h1 h2
    revert hr2 hb2 hU2 hf2
    generalize zset me1 (y + 10) (zfil (me1 (y + 10)) (me1 (y + 1)) 20) = me2
    intro hr2 hb2 hU2 hf2
    clear hP1 hf1 hr1 ih
    generalize hLL : zrep T.toNat (zord (zsteps sz cd k) b) = LL
    rw [hLL] at hQ
    have hLLl : LL.length = T.toNat * (zsteps sz cd k).length := by rw [← hLL, zrep_len, hOl]
    have hLLm : T.toNat * (zsteps sz cd k).length ≤ 9 * 120 := Nat.mul_le_mul (by omega) hLl
    have hLLi : T * ((zsteps sz cd k).length : Int) = (LL.length : Int) := by rw [hLLl, Int.natCast_mul, Int.toNat_of_nonneg (by omega)]
    have hLLv : ∀ c ∈ LL, zvs c := by rw [← hLL]; exact zrep_vs hOv
    have hLLg : ∀ m : Nat, m < LL.length → LL.getD m 0 = (zord (zsteps sz cd k) b).getD (m % (zsteps sz cd k).length) 0 := fun m hm => by
      rw [← hLL, zrep_get _ _ (by rw [hOl, ← hLLl]; exact hm), hOl]
    refine z_iconst (pc' := 35) dX9_go_34 rfl (by unfold zin; decide) ?_
    refine z_S4I (pc' := 37) rfl dX9_go_35 rfl ?_
    refine z_iconst (pc' := 38) dX9_go_37 rfl (by unfold zin; decide) ?_
    refine z_S5I (pc' := 40) rfl dX9_go_38 rfl ?_
    suffices H : ∀ (n m : Nat) (g : Int) (R : zRg) (me' : zMe), (g = 1 ∧ ztry h LL (w, f) 0 = ztry h (LL.drop m) R (m : Int) ∧ R = zfo (w, f) (LL.take m)) ∨ (g = 0 ∧ ztry h LL (w, f) 0 = (m : Int)) → 2 * (LL.length - m) + g.toNat < n → m ≤ LL.length → zgR R.1 R.2 → (∀ p, 0 ≤ p → p < 10 → me' (y + 1) p = R.1 p) → (∀ p, 0 ≤ p → p < 10 → me' (y + 1) (10 + R.1 p) = R.2 p) → (∀ q, ¬ (0 ≤ q ∧ q < 20) → me' (y + 1) q = me (y + 1) q) → (∀ a, a ≠ y + 1 → a ≠ y + 7 → a ≠ y + 8 → a ≠ y + 9 → me' a = me2 a) → zW mX9_go d 0 0 Q 40 [zR y, zI k, zI T, zI b, zI (m : Int), zI g] [] sp me' by
      exact H (2 * LL.length + 2) 0 1 (w, f) me2 (Or.inl ⟨rfl, rfl, rfl⟩) (by show 2 * (LL.length - 0) + 1 < _; omega) (by omega) hg (by rw [hr2]; exact hw) (by rw [hr2]; exact hf) (fun q _ => by rw [hr2]) (fun _ _ _ _ _ => rfl)
    intro n
    induction n with
    | zero => intro m g R me' _ h1; omega
    | succ n ih =>
    intro m g R me' hgo hn hm hgR hR1 hR2 hR3 hfr
    have e4 : me' (y + 4) = me2 (y + 4) := hfr _ (by omega) (by omega) (by omega) (by omega)
    have e5 : me' (y + 5) = me2 (y + 5) := hfr _ (by omega) (by omega) (by omega) (by omega)
    have hU3 : zUk me' y k (zsteps sz cd k) := ⟨by rw [e4]; exact hU2.1, fun i hi q q0 q1 => by rw [e5]; exact hU2.2 i hi q q0 q1⟩
    have hback : ∀ q, 0 ≤ q → q < 20 → me' (y + 10) q = me (y + 1) q := by rw [hfr (y + 10) (by omega) (by omega) (by omega) (by omega)]; exact hb2
    have hzg : zGf y me me' := fun a h1 h2 h3 h4 h5 h6 h7 => by rw [hfr a h1 h4 h5 h6, hf2 a h2 h3 h7]
    refine z_L5I (pc' := 42) dX9_go_40 rfl ?_
    refine z_if_eq (tgt := 94) (pc' := 45) dX9_go_42 (by decide) rfl (fun h42 => ?_) (fun h42 => ?_)
    · have hbd := ztry_bd (h := h) LL (w, f) 0 (by omega)
      refine z_L4I (pc' := 96) dX9_go_94 rfl ?_
      refine z_ireturn rfl rfl dX9_go_96 ?_
      first
      | (have hgo0 := (hgo.resolve_left (fun z => by omega)).2
         exact hQ _ me' (Or.inr ⟨by omega, hgo0.symm⟩) hU3.1 hR3 hback hzg)
      | (have hgo1 := (hgo.resolve_right (fun z => h42 z.1)).2
         obtain rfl : m = LL.length := by omega
         rw [List.take_length, List.drop_length] at hgo1
         refine hQ _ me' (Or.inl ⟨hgo1.1, rfl, ?_, ?_⟩) hU3.1 hR3 hback hzg
         · rw [← hgo1.2]; exact hR1
         · rw [← hgo1.2]; exact hR2)
    · refine z_L4I (pc' := 47) dX9_go_45 rfl ?_
      refine z_L2I (pc' := 48) dX9_go_47 rfl ?_
      refine z_L0R (pc' := 49) dX9_go_48 rfl ?_
      refine z_getR (pc' := 52) (ki := 5) 5 fX9_19.l rfl rfl dX9_go_49 rfl hy.s hy.p5 ?_
      refine z_L1I (pc' := 53) dX9_go_52 rfl ?_
      refine z_ild (pc' := 54) dX9_go_53 rfl hy.a4 (by omega) (by omega) ?_
      rw [hU3.1]
      refine z_imul (pc' := 55) dX9_go_54 rfl (by unfold zin; omega) ?_
      rw [hLLi]
      refine z_icmp_ge (tgt := 94) (pc' := 58) dX9_go_55 (by decide) rfl (fun h55 => ?_) (fun h55 => ?_)
      · have hbd := ztry_bd (h := h) LL (w, f) 0 (by omega)
        refine z_L4I (pc' := 96) dX9_go_94 rfl ?_
        refine z_ireturn rfl rfl dX9_go_96 ?_
        first
        | (have hgo0 := (hgo.resolve_left (fun z => by omega)).2
           exact hQ _ me' (Or.inr ⟨by omega, hgo0.symm⟩) hU3.1 hR3 hback hzg)
        | (have hgo1 := (hgo.resolve_right (fun z => h42 z.1)).2
           obtain rfl : m = LL.length := by omega
           rw [List.take_length, List.drop_length] at hgo1
           refine hQ _ me' (Or.inl ⟨hgo1.1, rfl, ?_, ?_⟩) hU3.1 hR3 hback hzg
           · rw [← hgo1.2]; exact hR1
           · rw [← hgo1.2]; exact hR2)
      · have hgo1 := (hgo.resolve_right (fun z => h42 z.1)).2
        have hm2 : m < LL.length := by omega
        have hlen0 : 0 < (zsteps sz cd k).length := by
          rcases Nat.eq_zero_or_pos (zsteps sz cd k).length with e | e
          · rw [hLLl, e, Nat.mul_zero] at hm2; omega
          · exact e
        have hmi : m % (zsteps sz cd k).length < (zsteps sz cd k).length := Nat.mod_lt _ hlen0
        have hvc : zvs (LL.getD m 0) := hLLv _ (zgetD_mem hm2)
        have hdr := zdrop_cons hm2
        refine z_L0R (pc' := 59) dX9_go_58 rfl ?_
        refine z_L1I (pc' := 60) dX9_go_59 rfl ?_
        refine z_L4I (pc' := 62) dX9_go_60 rfl ?_
        refine z_L0R (pc' := 63) dX9_go_62 rfl ?_
        refine z_getR (pc' := 66) (ki := 5) 5 fX9_19.l rfl rfl dX9_go_63 rfl hy.s hy.p5 ?_
        refine z_L1I (pc' := 67) dX9_go_66 rfl ?_
        refine z_ild (pc' := 68) dX9_go_67 rfl hy.a4 (by omega) (by omega) ?_
        rw [hU3.1]
        refine z_irem (pc' := 69) dX9_go_68 rfl (by omega) (by omega) ?_
        rw [show (m : Int) % ((zsteps sz cd k).length : Int) = ((m % (zsteps sz cd k).length : Nat) : Int) from rfl]
        refine z_L3I (pc' := 70) dX9_go_69 rfl ?_
        refine z_V30 (pc' := 73) (ci := 9) kX9_layStep lX9_129 dX9_go_70 rfl (by omega) (Nat.le_of_ble_eq_true rfl) (by decide) rfl hy.s ?_
        refine m_layStep (by omega) hy (by assumption) (by assumption) hU3 hLv hmi hLl (fun TT UU hTT hUU => zK0_i ?_)
        rw [← hLLg m hm2] at hTT hUU
        have g7 : zset (zset me' (y + 7) TT) (y + 8) UU (y + 7) = TT := by rw [zset_ne _ _ _ (by omega), zset_eq]
        have g8 : zset (zset me' (y + 7) TT) (y + 8) UU (y + 8) = UU := zset_eq _ _ _
        have go : ∀ a, a ≠ y + 7 → a ≠ y + 8 → zset (zset me' (y + 7) TT) (y + 8) UU a = me' a := fun a h1 h2 => by rw [zset_ne _ _ _ h2, zset_ne _ _ _ h1]
        revert g7 g8 go
        generalize zset (zset me' (y + 7) TT) (y + 8) UU = me3
        intro g7 g8 go
        have g1 : me3 (y + 1) = me' (y + 1) := go _ (by omega) (by omega)
        refine z_L0R (pc' := 74) dX9_go_73 rfl ?_
        refine z_V0v (pc' := 77) (ci := 9) kX9_isAllowed lX9_133 dX9_go_74 rfl (by omega) (Nat.le_of_ble_eq_true rfl) (by decide) rfl hy.s ?_
        refine m_isAllowed (c := LL.getD m 0) (w := R.1) (f := R.2) (h := h) (by omega) hy hgR hok hvc (by rw [g1]; exact hR1) (fun i i0 i1 => by rw [g1, hR3 _ (by omega)]; exact hh i i0 i1) (by rw [g7]; exact hTT) (fun b1 hb1 => zKv_i ?_)
        refine z_S5I (pc' := 79) rfl dX9_go_77 rfl ?_
        refine z_L5I (pc' := 81) dX9_go_79 rfl ?_
        refine z_if_eq (tgt := 40) (pc' := 84) dX9_go_81 (by decide) rfl (fun h81 => ?_) (fun h81 => ?_)
        · first
          | (have hb0 := (hb1.resolve_left (fun z => by omega)).2
             refine zW_to (ih m 0 R me3 (Or.inr ⟨rfl, ?_⟩) (by show 2 * (LL.length - m) + 0 < n; omega) hm hgR (by rw [g1]; exact hR1) (by rw [g1]; exact hR2) (by rw [g1]; exact hR3) (fun a h1 h2 h3 h4 => by rw [go a h2 h3]; exact hfr a h1 h2 h3 h4)) (by rw [h81]) rfl rfl
             rw [hgo1.1, hdr]
             exact if_neg (fun z => hb0 (zkb_iff.1 z)))
          | (have hb0 := (hb1.resolve_right (fun z => h81 z.1)).2
             refine zW_to (ih (m + 1) 1 (zac R (LL.getD m 0)) me4 (Or.inl ⟨rfl, ?_, ?_⟩) (by show 2 * (LL.length - (m + 1)) + 1 < n; omega) (by omega) (zgR_ac hgR hvc) hW1 hW2 (fun q hq => by rw [hW3 q hq, g1]; exact hR3 q hq) (fun a h1 h2 h3 h4 => by rw [hW4 a h1 h4, go a h2 h3]; exact hfr a h1 h2 h3 h4)) (by rw [(hb1.resolve_right (fun z => h81 z.1)).1]; rfl) rfl rfl
             · rw [hgo1.1, hdr]
               exact if_pos (zkb_iff.2 hb0)
             · rw [zfo_take hm2, ← hgo1.2])
        · refine z_L0R (pc' := 85) dX9_go_84 rfl ?_
          refine z_V00 (pc' := 88) (ci := 9) kX9_make lX9_137 dX9_go_85 rfl (by omega) (Nat.le_of_ble_eq_true rfl) (by decide) rfl hy.s ?_
          refine m_make (c := LL.getD m 0) (w := R.1) (f := R.2) hy hgR hvc (by rw [g1]; exact hR1) (by rw [g1]; exact hR2) (by rw [g7]; exact hTT) (by rw [g8]; exact hUU) (fun me4 hW1 hW2 hW3 hW4 => zK0_i ?_)
          refine z_inc4 (pc' := 91) rfl dX9_go_88 rfl (by unfold zin; omega) ?_
          refine z_goto (tgt := 40) dX9_go_91 (by decide) ?_
          first
          | (have hb0 := (hb1.resolve_left (fun z => by omega)).2
             refine zW_to (ih m 0 R me3 (Or.inr ⟨rfl, ?_⟩) (by show 2 * (LL.length - m) + 0 < n; omega) hm hgR (by rw [g1]; exact hR1) (by rw [g1]; exact hR2) (by rw [g1]; exact hR3) (fun a h1 h2 h3 h4 => by rw [go a h2 h3]; exact hfr a h1 h2 h3 h4)) (by rw [h81]) rfl rfl
             rw [hgo1.1, hdr]
             exact if_neg (fun z => hb0 (zkb_iff.1 z)))
          | (have hb0 := (hb1.resolve_right (fun z => h81 z.1)).2
             refine zW_to (ih (m + 1) 1 (zac R (LL.getD m 0)) me4 (Or.inl ⟨rfl, ?_, ?_⟩) (by show 2 * (LL.length - (m + 1)) + 1 < n; omega) (by omega) (zgR_ac hgR hvc) hW1 hW2 (fun q hq => by rw [hW3 q hq, g1]; exact hR3 q hq) (fun a h1 h2 h3 h4 => by rw [hW4 a h1 h4, go a h2 h3]; exact hfr a h1 h2 h3 h4)) (by rw [(hb1.resolve_right (fun z => h81 z.1)).1]; rfl) rfl rfl
             · rw [hgo1.1, hdr]
               exact if_pos (zkb_iff.2 hb0)
             · rw [zfo_take hm2, ← hgo1.2])
  · refine z_L0R (pc' := 15) dX9_go_14 rfl ?_
    refine z_getR (pc' := 18) (ki := 11) 11 fX9_37.l rfl rfl dX9_go_15 rfl hy.s hy.p11 ?_
    refine z_L4I (pc' := 20) dX9_go_18 rfl ?_
    refine z_L0R (pc' := 21) dX9_go_20 rfl ?_
    refine z_getR (pc' := 24) (ki := 0) 0 fX9_7.l rfl rfl dX9_go_21 rfl hy.s hy.p0 ?_
    refine z_L4I (pc' := 26) dX9_go_24 rfl ?_
    refine z_ild (pc' := 27) dX9_go_26 rfl hy.a1 (by omega) (by omega) ?_
    refine z_ist (pc' := 28) dX9_go_27 rfl hy.a10 (by omega) (by omega) ?_
    refine z_inc4 (pc' := 31) rfl dX9_go_28 rfl (by unfold zin; omega) ?_
    refine z_goto (tgt := 7) dX9_go_31 (by decide) ?_
    refine zW_to (ih (i + 1) (by omega) (by omega) (by omega) ) rfl rfl ?_
    rw [zset_11, zset_eq]
    exact congrArg (zset _ (y + 10)) (zfil_up _ _ _ _ hk0 (by rw [zset_ne _ _ _ (show y + 1 ≠ y + 10 by omega)]))
end ZMOA

