section ZSCR
set_option maxRecDepth 100000 in
set_option maxHeartbeats 1000000 in
theorem c_scrLen {d : Nat} {sp : zSP} {me : zMe} {Q : zQ} {c : Nat} (hc : zScr sp c) (hQ : Q (some (zI (me c 1))) sp me) : zCall mX5_length d 0 0 [zR c] sp me Q := by
  refine z_met kX5_length (by simp) (by simp) ?_
  show zW mX5_length d 0 0 Q 0 [zR c] [] sp me
  refine z_L0R (pc' := 1) dX5_length_0 rfl ?_
  refine z_getI (pc' := 4) (ki := 1) 1 fX5_15.l rfl rfl dX5_length_1 rfl hc.s ?_
  refine z_ireturn rfl rfl dX5_length_4 ?_
  exact hQ
/-- what has been read, behind one more sign: 0 a call is to begin, 1 a letter, 2 a number, 3 a mark, 4 wrong -/
def zaft (l s : Int) : Int := if l = 0 then (if 65 ≤ s ∧ s < 73 then 1 else 4) else if s = 32 then 0 else if s = 39 ∧ l ≠ 3 then 3 else if l = 1 ∧ 50 ≤ s ∧ s ≤ 57 then 2 else 4
theorem zaft_in (l s : Int) : 0 ≤ zaft l s ∧ zaft l s ≤ 4 := by
  unfold zaft
  refine ⟨?_, ?_⟩ <;> (repeat' split) <;> omega
/-- the fault, from the place i on with m signs left, l read last -/
def zff (g : Int → Int) : Nat → Int → Int → Int
  | 0, l, i => if l = 0 then i else -5
  | m + 1, l, i => if zaft l (g i) = 4 then i else zff g m (zaft l (g i)) (i + 1)
def zfault (g : Int → Int) (n : Int) : Int := zff g n.toNat 0 0
set_option maxRecDepth 100000 in
set_option maxHeartbeats 1000000 in
theorem c_codeOf {d : Nat} {sp : zSP} {me : zMe} {Q : zQ} {k a b : Int} (hk0 : 0 ≤ k) (hk1 : k < 10) (ha0 : 0 ≤ a) (ha1 : a ≤ 10) (hb0 : 0 ≤ b) (hb1 : b < 10) (hQ : Q (some (zI (k * 100 + a * 10 + b))) sp me) : zCall mX8_codeOf d 0 0 [zI k, zI a, zI b] sp me Q := by
  refine z_met kX8_codeOf (by simp) (by simp) ?_
  show zW mX8_codeOf d 0 0 Q 0 [zI k, zI a, zI b] [] sp me
  refine z_L0I (pc' := 1) dX8_codeOf_0 rfl ?_
  refine z_bipush (pc' := 3) dX8_codeOf_1 rfl (by decide) ?_
  refine z_imul (pc' := 4) dX8_codeOf_3 rfl (by unfold zin; omega) ?_
  refine z_L1I (pc' := 5) dX8_codeOf_4 rfl ?_
  refine z_bipush (pc' := 7) dX8_codeOf_5 rfl (by decide) ?_
  refine z_imul (pc' := 8) dX8_codeOf_7 rfl (by unfold zin; omega) ?_
  refine z_iadd (pc' := 9) dX8_codeOf_8 rfl (by unfold zin; omega) ?_
  refine z_L2I (pc' := 10) dX8_codeOf_9 rfl ?_
  refine z_iadd (pc' := 11) dX8_codeOf_10 rfl (by unfold zin; omega) ?_
  refine z_ireturn rfl rfl dX8_codeOf_11 ?_
  exact hQ
/-- the code of what undoes a step -/
def zund (c : Int) : Int := if c / 100 = 1 then c / 100 * 100 + c / 10 % 10 * 10 + (4 - c % 10) else if c / 100 = 2 then c / 100 * 100 + (10 - c / 10 % 10) * 10 + c % 10 else c
set_option maxRecDepth 100000 in
set_option maxHeartbeats 1000000 in
theorem c_undoing {d : Nat} {sp : zSP} {me : zMe} {Q : zQ} {c : Int} (hd : 1 ≤ d) (hc : zvs c) (hQ : Q (some (zI (zund c))) sp me) : zCall mX8_undoing d 0 0 [zI c] sp me Q := by
  refine z_met kX8_undoing (by simp) (by simp) ?_
  show zW mX8_undoing d 0 0 Q 0 [zI c, zU, zU, zU] [] sp me
  obtain ⟨hc0, hc1⟩ := hc
  unfold zund at hQ
  refine z_L0I (pc' := 1) dX8_undoing_0 rfl ?_
  refine z_S1v (pc' := 4) kX8_kindOf lX8_192 dX8_undoing_1 rfl (by omega) (Nat.le_of_ble_eq_true rfl) ?_
  refine c_kindOf hc0 (zKv_i ?_)
  refine z_S1I (pc' := 5) rfl dX8_undoing_4 rfl ?_
  refine z_L0I (pc' := 6) dX8_undoing_5 rfl ?_
  refine z_S1v (pc' := 9) kX8_firstOf lX8_195 dX8_undoing_6 rfl (by omega) (Nat.le_of_ble_eq_true rfl) ?_
  refine c_firstOf hc0 (zKv_i ?_)
  refine z_S2I (pc' := 10) rfl dX8_undoing_9 rfl ?_
  refine z_L0I (pc' := 11) dX8_undoing_10 rfl ?_
  refine z_S1v (pc' := 14) kX8_secondOf lX8_198 dX8_undoing_11 rfl (by omega) (Nat.le_of_ble_eq_true rfl) ?_
  refine c_secondOf hc0 (zKv_i ?_)
  refine z_S3I (pc' := 15) rfl dX8_undoing_14 rfl ?_
  refine z_L1I (pc' := 16) dX8_undoing_15 rfl ?_
  refine z_iconst (pc' := 17) dX8_undoing_16 rfl (by unfold zin; decide) ?_
  refine z_icmp_ne (tgt := 29) (pc' := 20) dX8_undoing_17 (by decide) rfl (fun h17 => ?_) (fun h17 => ?_)
  · refine z_L1I (pc' := 30) dX8_undoing_29 rfl ?_
    refine z_iconst (pc' := 31) dX8_undoing_30 rfl (by unfold zin; decide) ?_
    refine z_icmp_ne (tgt := 46) (pc' := 34) dX8_undoing_31 (by decide) rfl (fun h31 => ?_) (fun h31 => ?_)
    · refine z_L0I (pc' := 47) dX8_undoing_46 rfl ?_
      refine z_ireturn rfl rfl dX8_undoing_47 ?_
      first | (rw [if_pos h17] at hQ; exact hQ) | (rw [if_neg h17, if_pos h31] at hQ; exact hQ) | (rw [if_neg h17, if_neg h31] at hQ; exact hQ)
    · refine z_L1I (pc' := 35) dX8_undoing_34 rfl ?_
      refine z_bipush (pc' := 37) dX8_undoing_35 rfl (by decide) ?_
      refine z_L2I (pc' := 38) dX8_undoing_37 rfl ?_
      refine z_isub (pc' := 39) dX8_undoing_38 rfl (by unfold zin; omega) ?_
      refine z_L3I (pc' := 40) dX8_undoing_39 rfl ?_
      refine z_S3v (pc' := 43) kX8_codeOf lX8_90 dX8_undoing_40 rfl (by omega) (Nat.le_of_ble_eq_true rfl) ?_
      refine c_codeOf (by omega) (by omega) (by omega) (by omega) (by omega) (by omega) (zKv_i ?_)
      refine z_goto (tgt := 47) dX8_undoing_43 (by decide) ?_
      refine z_ireturn rfl rfl dX8_undoing_47 ?_
      first | (rw [if_pos h17] at hQ; exact hQ) | (rw [if_neg h17, if_pos h31] at hQ; exact hQ) | (rw [if_neg h17, if_neg h31] at hQ; exact hQ)
  · refine z_L1I (pc' := 21) dX8_undoing_20 rfl ?_
    refine z_L2I (pc' := 22) dX8_undoing_21 rfl ?_
    refine z_iconst (pc' := 23) dX8_undoing_22 rfl (by unfold zin; decide) ?_
    refine z_L3I (pc' := 24) dX8_undoing_23 rfl ?_
    refine z_isub (pc' := 25) dX8_undoing_24 rfl (by unfold zin; omega) ?_
    refine z_S3v (pc' := 28) kX8_codeOf lX8_90 dX8_undoing_25 rfl (by omega) (Nat.le_of_ble_eq_true rfl) ?_
    refine c_codeOf (by omega) (by omega) (by omega) (by omega) (by omega) (by omega) (zKv_i ?_)
    refine z_ireturn rfl rfl dX8_undoing_28 ?_
    first | (rw [if_pos h17] at hQ; exact hQ) | (rw [if_neg h17, if_pos h31] at hQ; exact hQ) | (rw [if_neg h17, if_neg h31] at hQ; exact hQ)
theorem zund_vs {c : Int} (hc : zvs c) : zvs (zund c) := by
  obtain ⟨h0, h⟩ := hc
  unfold zvs zund
  refine ⟨?_, ?_⟩ <;> (repeat' split) <;> omega
/-- a move of a figure that may be added -/
def zmv (f k a b : Int) : Prop := ((k = 0 ∨ k = 3) ∧ 0 ≤ a ∧ a < b ∧ b < 10) ∨ (k = 1 ∧ 0 ≤ a ∧ a < 10 ∧ 1 ≤ b ∧ b < 4) ∨ (k = 2 ∧ 1 ≤ a ∧ a < 10 ∧ b = 0) ∨ (k = 4 ∧ 0 ≤ a ∧ a < f ∧ b = 0)
set_option maxRecDepth 100000 in
set_option maxHeartbeats 1000000 in
theorem c_isMove {d : Nat} {sp : zSP} {me : zMe} {Q : zQ} {f k a b : Int} (hd : 1 ≤ d) (hQ1 : zmv f k a b → Q (some (zI 1)) sp me) (hQ0 : ¬ zmv f k a b → Q (some (zI 0)) sp me) : zCall mX8_isMove d 0 0 [zI f, zI k, zI a, zI b] sp me Q := by
  refine z_met kX8_isMove (by simp) (by simp) ?_
  show zW mX8_isMove d 0 0 Q 0 [zI f, zI k, zI a, zI b] [] sp me
  unfold zmv at hQ1 hQ0
  refine z_L1I (pc' := 1) dX8_isMove_0 rfl ?_
  have e4 : k = 0 ∨ k = 1 ∨ k = 2 ∨ k = 3 ∨ k = 4 ∨ (k < 0 ∨ 4 < k) := by omega
  rcases e4 with e4 | e4 | e4 | e4 | e4 | e4
  · subst e4
    refine z_tswIn (tgt := 36) dX8_isMove_1 (by decide) (by decide) rfl (by decide) ?_
    refine z_L2I (pc' := 37) dX8_isMove_36 rfl ?_
    refine z_if_lt (tgt := 55) (pc' := 40) dX8_isMove_37 (by decide) rfl (fun h37 => ?_) (fun h37 => ?_)
    · refine z_iconst (pc' := 56) dX8_isMove_55 rfl (by unfold zin; decide) ?_
      refine z_zreturn rfl rfl dX8_isMove_56 (by omega) ?_
      first | exact hQ1 (by omega) | exact hQ0 (by omega)
    · refine z_L2I (pc' := 41) dX8_isMove_40 rfl ?_
      refine z_L3I (pc' := 42) dX8_isMove_41 rfl ?_
      refine z_icmp_ge (tgt := 55) (pc' := 45) dX8_isMove_42 (by decide) rfl (fun h42 => ?_) (fun h42 => ?_)
      · refine z_iconst (pc' := 56) dX8_isMove_55 rfl (by unfold zin; decide) ?_
        refine z_zreturn rfl rfl dX8_isMove_56 (by omega) ?_
        first | exact hQ1 (by omega) | exact hQ0 (by omega)
      · refine z_L3I (pc' := 46) dX8_isMove_45 rfl ?_
        refine z_bipush (pc' := 48) dX8_isMove_46 rfl (by decide) ?_
        refine z_icmp_ge (tgt := 55) (pc' := 51) dX8_isMove_48 (by decide) rfl (fun h48 => ?_) (fun h48 => ?_)
        · refine z_iconst (pc' := 56) dX8_isMove_55 rfl (by unfold zin; decide) ?_
          refine z_zreturn rfl rfl dX8_isMove_56 (by omega) ?_
          first | exact hQ1 (by omega) | exact hQ0 (by omega)
        · refine z_iconst (pc' := 52) dX8_isMove_51 rfl (by unfold zin; decide) ?_
          refine z_goto (tgt := 56) dX8_isMove_52 (by decide) ?_
          refine z_zreturn rfl rfl dX8_isMove_56 (by omega) ?_
          first | exact hQ1 (by omega) | exact hQ0 (by omega)
  · subst e4
    refine z_tswIn (tgt := 57) dX8_isMove_1 (by decide) (by decide) rfl (by decide) ?_
    refine z_L2I (pc' := 58) dX8_isMove_57 rfl ?_
    refine z_S1v (pc' := 61) kX8_isPlace lX8_106 dX8_isMove_58 rfl (by omega) (Nat.le_of_ble_eq_true rfl) ?_
    refine c_isPlace (fun hp => zKv_i ?_) (fun hp => zKv_i ?_)
    rotate_left
    · refine z_if_eq (tgt := 78) (pc' := 64) dX8_isMove_61 (by decide) rfl (fun h8 => ?_) (fun h8 => absurd rfl h8)
      refine z_iconst (pc' := 79) dX8_isMove_78 rfl (by unfold zin; decide) ?_
      refine z_zreturn rfl rfl dX8_isMove_79 (by omega) ?_
      exact hQ0 (by omega)
    refine z_if_eq (tgt := 78) (pc' := 64) dX8_isMove_61 (by decide) rfl (fun h61 => absurd h61 (by omega)) (fun h61 => ?_)
    refine z_L3I (pc' := 65) dX8_isMove_64 rfl ?_
    refine z_iconst (pc' := 66) dX8_isMove_65 rfl (by unfold zin; decide) ?_
    refine z_icmp_lt (tgt := 78) (pc' := 69) dX8_isMove_66 (by decide) rfl (fun h66 => ?_) (fun h66 => ?_)
    · refine z_iconst (pc' := 79) dX8_isMove_78 rfl (by unfold zin; decide) ?_
      refine z_zreturn rfl rfl dX8_isMove_79 (by omega) ?_
      first | exact hQ1 (by omega) | exact hQ0 (by omega)
    · refine z_L3I (pc' := 70) dX8_isMove_69 rfl ?_
      refine z_iconst (pc' := 71) dX8_isMove_70 rfl (by unfold zin; decide) ?_
      refine z_icmp_ge (tgt := 78) (pc' := 74) dX8_isMove_71 (by decide) rfl (fun h71 => ?_) (fun h71 => ?_)
      · refine z_iconst (pc' := 79) dX8_isMove_78 rfl (by unfold zin; decide) ?_
        refine z_zreturn rfl rfl dX8_isMove_79 (by omega) ?_
        first | exact hQ1 (by omega) | exact hQ0 (by omega)
      · refine z_iconst (pc' := 75) dX8_isMove_74 rfl (by unfold zin; decide) ?_
        refine z_goto (tgt := 79) dX8_isMove_75 (by decide) ?_
        refine z_zreturn rfl rfl dX8_isMove_79 (by omega) ?_
        first | exact hQ1 (by omega) | exact hQ0 (by omega)
  · subst e4
    refine z_tswIn (tgt := 80) dX8_isMove_1 (by decide) (by decide) rfl (by decide) ?_
    refine z_L2I (pc' := 81) dX8_isMove_80 rfl ?_
    refine z_iconst (pc' := 82) dX8_isMove_81 rfl (by unfold zin; decide) ?_
    refine z_icmp_lt (tgt := 99) (pc' := 85) dX8_isMove_82 (by decide) rfl (fun h82 => ?_) (fun h82 => ?_)
    · refine z_iconst (pc' := 100) dX8_isMove_99 rfl (by unfold zin; decide) ?_
      refine z_zreturn rfl rfl dX8_isMove_100 (by omega) ?_
      first | exact hQ1 (by omega) | exact hQ0 (by omega)
    · refine z_L2I (pc' := 86) dX8_isMove_85 rfl ?_
      refine z_bipush (pc' := 88) dX8_isMove_86 rfl (by decide) ?_
      refine z_icmp_ge (tgt := 99) (pc' := 91) dX8_isMove_88 (by decide) rfl (fun h88 => ?_) (fun h88 => ?_)
      · refine z_iconst (pc' := 100) dX8_isMove_99 rfl (by unfold zin; decide) ?_
        refine z_zreturn rfl rfl dX8_isMove_100 (by omega) ?_
        first | exact hQ1 (by omega) | exact hQ0 (by omega)
      · refine z_L3I (pc' := 92) dX8_isMove_91 rfl ?_
        refine z_if_ne (tgt := 99) (pc' := 95) dX8_isMove_92 (by decide) rfl (fun h92 => ?_) (fun h92 => ?_)
        · refine z_iconst (pc' := 100) dX8_isMove_99 rfl (by unfold zin; decide) ?_
          refine z_zreturn rfl rfl dX8_isMove_100 (by omega) ?_
          first | exact hQ1 (by omega) | exact hQ0 (by omega)
        · refine z_iconst (pc' := 96) dX8_isMove_95 rfl (by unfold zin; decide) ?_
          refine z_goto (tgt := 100) dX8_isMove_96 (by decide) ?_
          refine z_zreturn rfl rfl dX8_isMove_100 (by omega) ?_
          first | exact hQ1 (by omega) | exact hQ0 (by omega)
  · subst e4
    refine z_tswIn (tgt := 36) dX8_isMove_1 (by decide) (by decide) rfl (by decide) ?_
    refine z_L2I (pc' := 37) dX8_isMove_36 rfl ?_
    refine z_if_lt (tgt := 55) (pc' := 40) dX8_isMove_37 (by decide) rfl (fun h37 => ?_) (fun h37 => ?_)
    · refine z_iconst (pc' := 56) dX8_isMove_55 rfl (by unfold zin; decide) ?_
      refine z_zreturn rfl rfl dX8_isMove_56 (by omega) ?_
      first | exact hQ1 (by omega) | exact hQ0 (by omega)
    · refine z_L2I (pc' := 41) dX8_isMove_40 rfl ?_
      refine z_L3I (pc' := 42) dX8_isMove_41 rfl ?_
      refine z_icmp_ge (tgt := 55) (pc' := 45) dX8_isMove_42 (by decide) rfl (fun h42 => ?_) (fun h42 => ?_)
      · refine z_iconst (pc' := 56) dX8_isMove_55 rfl (by unfold zin; decide) ?_
        refine z_zreturn rfl rfl dX8_isMove_56 (by omega) ?_
        first | exact hQ1 (by omega) | exact hQ0 (by omega)
      · refine z_L3I (pc' := 46) dX8_isMove_45 rfl ?_
        refine z_bipush (pc' := 48) dX8_isMove_46 rfl (by decide) ?_
        refine z_icmp_ge (tgt := 55) (pc' := 51) dX8_isMove_48 (by decide) rfl (fun h48 => ?_) (fun h48 => ?_)
        · refine z_iconst (pc' := 56) dX8_isMove_55 rfl (by unfold zin; decide) ?_
          refine z_zreturn rfl rfl dX8_isMove_56 (by omega) ?_
          first | exact hQ1 (by omega) | exact hQ0 (by omega)
        · refine z_iconst (pc' := 52) dX8_isMove_51 rfl (by unfold zin; decide) ?_
          refine z_goto (tgt := 56) dX8_isMove_52 (by decide) ?_
          refine z_zreturn rfl rfl dX8_isMove_56 (by omega) ?_
          first | exact hQ1 (by omega) | exact hQ0 (by omega)
  · subst e4
    refine z_tswIn (tgt := 101) dX8_isMove_1 (by decide) (by decide) rfl (by decide) ?_
    refine z_L2I (pc' := 102) dX8_isMove_101 rfl ?_
    refine z_if_lt (tgt := 118) (pc' := 105) dX8_isMove_102 (by decide) rfl (fun h102 => ?_) (fun h102 => ?_)
    · refine z_iconst (pc' := 119) dX8_isMove_118 rfl (by unfold zin; decide) ?_
      refine z_zreturn rfl rfl dX8_isMove_119 (by omega) ?_
      first | exact hQ1 (by omega) | exact hQ0 (by omega)
    · refine z_L2I (pc' := 106) dX8_isMove_105 rfl ?_
      refine z_L0I (pc' := 107) dX8_isMove_106 rfl ?_
      refine z_icmp_ge (tgt := 118) (pc' := 110) dX8_isMove_107 (by decide) rfl (fun h107 => ?_) (fun h107 => ?_)
      · refine z_iconst (pc' := 119) dX8_isMove_118 rfl (by unfold zin; decide) ?_
        refine z_zreturn rfl rfl dX8_isMove_119 (by omega) ?_
        first | exact hQ1 (by omega) | exact hQ0 (by omega)
      · refine z_L3I (pc' := 111) dX8_isMove_110 rfl ?_
        refine z_if_ne (tgt := 118) (pc' := 114) dX8_isMove_111 (by decide) rfl (fun h111 => ?_) (fun h111 => ?_)
        · refine z_iconst (pc' := 119) dX8_isMove_118 rfl (by unfold zin; decide) ?_
          refine z_zreturn rfl rfl dX8_isMove_119 (by omega) ?_
          first | exact hQ1 (by omega) | exact hQ0 (by omega)
        · refine z_iconst (pc' := 115) dX8_isMove_114 rfl (by unfold zin; decide) ?_
          refine z_goto (tgt := 119) dX8_isMove_115 (by decide) ?_
          refine z_zreturn rfl rfl dX8_isMove_119 (by omega) ?_
          first | exact hQ1 (by omega) | exact hQ0 (by omega)
  · refine z_tswOut (tgt := 120) dX8_isMove_1 (by omega) (by decide) ?_
    refine z_iconst (pc' := 121) dX8_isMove_120 rfl (by unfold zin; decide) ?_
    refine z_zreturn rfl rfl dX8_isMove_121 (by omega) ?_
    first | exact hQ1 (by omega) | exact hQ0 (by omega)
end ZSCR

