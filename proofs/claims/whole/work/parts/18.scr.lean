section ZSCR
set_option maxRecDepth 100000 in
set_option maxHeartbeats 1000000 in
theorem c_scrLen {d : Nat} {sp : zSP} {me : zMe} {Q : zQ} {c : Nat} (hc : zScr sp c) (hQ : Q (some (zI (me c 1))) sp me) : zCall mX5_length d 0 0 [zR c] sp me Q := by
  refine z_met kX5_length (by simp) (by simp) ?_
  show zW mX5_length d 0 0 Q 0 [zR c] [] sp me
  refine z_L0R (pc' := 1) dX5_length_0 rfl ?_
  refine z_getI (pc' := 4) (ki := 1) 1 fX5_15.l rfl rfl dX5_length_1 rfl hc.s ?_
  refine z_ireturn rfl rfl dX5_length_4 ?_
  exact hQ
set_option maxRecDepth 100000 in
set_option maxHeartbeats 1000000 in
theorem c_scrPut {d : Nat} {sp : zSP} {me : zMe} {Q : zQ} {c : Nat} {x : Int} (hd : 1 ≤ d) (hc : zScr sp c) (h0 : 0 ≤ me c 1) (h1 : me c 1 < 80) (hQ : Q none sp (zset (zset me (c + 1) (zup (me (c + 1)) (me c 1) x)) c (zup (me c) 1 (me c 1 + 1)))) : zCall mX5_put d 0 0 [zR c, zI x] sp me Q := by
  refine z_met kX5_put (by simp) (by simp) ?_
  show zW mX5_put d 0 0 Q 0 [zR c, zI x] [] sp me
  refine z_L0R (pc' := 1) dX5_put_0 rfl ?_
  refine z_getR (pc' := 4) (ki := 0) 0 fX5_9.l rfl rfl dX5_put_1 rfl hc.s hc.p0 ?_
  refine z_L0R (pc' := 5) dX5_put_4 rfl ?_
  refine z_getI (pc' := 8) (ki := 1) 1 fX5_15.l rfl rfl dX5_put_5 rfl hc.s ?_
  refine z_L1I (pc' := 9) dX5_put_8 rfl ?_
  refine z_S30 (pc' := 12) kX8_write lX5_19 dX5_put_9 rfl (by omega) (Nat.le_of_ble_eq_true rfl) ?_
  refine c_write hc.a1 (by omega) (by omega) (zK0_i ?_)
  refine z_L0R (pc' := 13) dX5_put_12 rfl ?_
  refine z_L0R (pc' := 14) dX5_put_13 rfl ?_
  refine z_getI (pc' := 17) (ki := 1) 1 fX5_15.l rfl rfl dX5_put_14 rfl hc.s ?_
  rw [zset_ne _ _ _ (show c ≠ c + 1 by omega)]
  refine z_iconst (pc' := 18) dX5_put_17 rfl (by unfold zin; decide) ?_
  refine z_iadd (pc' := 19) dX5_put_18 rfl (by unfold zin; omega) ?_
  refine z_bipush (pc' := 21) dX5_put_19 rfl (by decide) ?_
  refine z_min (pc' := 24) hX5_23 dX5_put_21 rfl (by omega) (Nat.le_of_ble_eq_true rfl) ?_
  rw [if_neg (by omega)]
  refine z_putI (pc' := 27) (ki := 1) 1 fX5_15.l rfl (Or.inl rfl) rfl dX5_put_24 rfl hc.s ?_
  rw [zset_ne _ _ _ (show c ≠ c + 1 by omega)]
  refine z_return rfl rfl dX5_put_27 ?_
  exact hQ
set_option maxRecDepth 100000 in
set_option maxHeartbeats 1000000 in
theorem c_scrEmpty {d : Nat} {sp : zSP} {me : zMe} {Q : zQ} {c : Nat} (hc : zScr sp c) (hQ : Q none sp (zset me c (zup (me c) 1 0))) : zCall mX5_empty d 0 0 [zR c] sp me Q := by
  refine z_met kX5_empty (by simp) (by simp) ?_
  show zW mX5_empty d 0 0 Q 0 [zR c] [] sp me
  refine z_L0R (pc' := 1) dX5_empty_0 rfl ?_
  refine z_iconst (pc' := 2) dX5_empty_1 rfl (by unfold zin; decide) ?_
  refine z_putI (pc' := 5) (ki := 1) 1 fX5_15.l rfl (Or.inl rfl) rfl dX5_empty_2 rfl hc.s ?_
  refine z_return rfl rfl dX5_empty_5 ?_
  exact hQ
set_option maxRecDepth 100000 in
set_option maxHeartbeats 1000000 in
theorem c_signOrEnd {d : Nat} {sp : zSP} {me : zMe} {Q : zQ} {c : Nat} {i : Int} (hd : 1 ≤ d) (hc : zScr sp c) (hQ : Q (some (zI (if i < me c 1 then me (c + 1) i else 32))) sp me) : zCall mX5_signOrEnd d 0 0 [zR c, zI i] sp me Q := by
  refine z_met kX5_signOrEnd (by simp) (by simp) ?_
  show zW mX5_signOrEnd d 0 0 Q 0 [zR c, zI i] [] sp me
  refine z_L1I (pc' := 1) dX5_signOrEnd_0 rfl ?_
  refine z_L0R (pc' := 2) dX5_signOrEnd_1 rfl ?_
  refine z_getI (pc' := 5) (ki := 1) 1 fX5_15.l rfl rfl dX5_signOrEnd_2 rfl hc.s ?_
  refine z_icmp_ge (tgt := 19) (pc' := 8) dX5_signOrEnd_5 (by decide) rfl (fun h5 => ?_) (fun h5 => ?_)
  · refine z_bipush (pc' := 21) dX5_signOrEnd_19 rfl (by decide) ?_
    refine z_ireturn rfl rfl dX5_signOrEnd_21 ?_
    first | (rw [if_pos (by omega)] at hQ; exact hQ) | (rw [if_neg (by omega)] at hQ; exact hQ)
  · refine z_L0R (pc' := 9) dX5_signOrEnd_8 rfl ?_
    refine z_getR (pc' := 12) (ki := 0) 0 fX5_9.l rfl rfl dX5_signOrEnd_9 rfl hc.s hc.p0 ?_
    refine z_L1I (pc' := 13) dX5_signOrEnd_12 rfl ?_
    refine z_S2v (pc' := 16) kX8_read lX5_29 dX5_signOrEnd_13 rfl (by omega) (Nat.le_of_ble_eq_true rfl) ?_
    refine c_read hc.a1 (zKv_i ?_)
    refine z_goto (tgt := 21) dX5_signOrEnd_16 (by decide) ?_
    refine z_ireturn rfl rfl dX5_signOrEnd_21 ?_
    first | (rw [if_pos (by omega)] at hQ; exact hQ) | (rw [if_neg (by omega)] at hQ; exact hQ)
set_option maxRecDepth 100000 in
set_option maxHeartbeats 1000000 in
theorem c_isLetter {d : Nat} {sp : zSP} {me : zMe} {Q : zQ} {x : Int} (hQ1 : 65 ≤ x ∧ x < 73 → Q (some (zI 1)) sp me) (hQ0 : ¬ (65 ≤ x ∧ x < 73) → Q (some (zI 0)) sp me) : zCall mX5_isLetter d 0 0 [zI x] sp me Q := by
  refine z_met kX5_isLetter (by simp) (by simp) ?_
  show zW mX5_isLetter d 0 0 Q 0 [zI x] [] sp me
  refine z_L0I (pc' := 1) dX5_isLetter_0 rfl ?_
  refine z_bipush (pc' := 3) dX5_isLetter_1 rfl (by decide) ?_
  refine z_icmp_lt (tgt := 16) (pc' := 6) dX5_isLetter_3 (by decide) rfl (fun h3 => ?_) (fun h3 => ?_)
  · refine z_iconst (pc' := 17) dX5_isLetter_16 rfl (by unfold zin; decide) ?_
    refine z_zreturn rfl rfl dX5_isLetter_17 (by omega) ?_
    first | exact hQ1 (by omega) | exact hQ0 (by omega)
  · refine z_L0I (pc' := 7) dX5_isLetter_6 rfl ?_
    refine z_bipush (pc' := 9) dX5_isLetter_7 rfl (by decide) ?_
    refine z_icmp_ge (tgt := 16) (pc' := 12) dX5_isLetter_9 (by decide) rfl (fun h9 => ?_) (fun h9 => ?_)
    · refine z_iconst (pc' := 17) dX5_isLetter_16 rfl (by unfold zin; decide) ?_
      refine z_zreturn rfl rfl dX5_isLetter_17 (by omega) ?_
      first | exact hQ1 (by omega) | exact hQ0 (by omega)
    · refine z_iconst (pc' := 13) dX5_isLetter_12 rfl (by unfold zin; decide) ?_
      refine z_goto (tgt := 17) dX5_isLetter_13 (by decide) ?_
      refine z_zreturn rfl rfl dX5_isLetter_17 (by omega) ?_
      first | exact hQ1 (by omega) | exact hQ0 (by omega)
/-- what has been read, behind one more sign: 0 a call is to begin, 1 a letter, 2 a number, 3 a mark, 4 wrong -/
def zaft (l s : Int) : Int := if l = 0 then (if 65 ≤ s ∧ s < 73 then 1 else 4) else if s = 32 then 0 else if s = 39 ∧ l ≠ 3 then 3 else if l = 1 ∧ 50 ≤ s ∧ s ≤ 57 then 2 else 4
set_option maxRecDepth 100000 in
set_option maxHeartbeats 1000000 in
theorem c_after {d : Nat} {sp : zSP} {me : zMe} {Q : zQ} {l s : Int} (hd : 1 ≤ d) (hQ : Q (some (zI (zaft l s))) sp me) : zCall mX5_after d 0 0 [zI l, zI s] sp me Q := by
  refine z_met kX5_after (by simp) (by simp) ?_
  show zW mX5_after d 0 0 Q 0 [zI l, zI s] [] sp me
  unfold zaft at hQ
  refine z_L0I (pc' := 1) dX5_after_0 rfl ?_
  refine z_if_ne (tgt := 17) (pc' := 4) dX5_after_1 (by decide) rfl (fun h1 => ?_) (fun h1 => ?_)
  · refine z_L1I (pc' := 18) dX5_after_17 rfl ?_
    refine z_bipush (pc' := 20) dX5_after_18 rfl (by decide) ?_
    refine z_icmp_ne (tgt := 25) (pc' := 23) dX5_after_20 (by decide) rfl (fun h20 => ?_) (fun h20 => ?_)
    · refine z_L1I (pc' := 26) dX5_after_25 rfl ?_
      refine z_bipush (pc' := 28) dX5_after_26 rfl (by decide) ?_
      refine z_icmp_ne (tgt := 38) (pc' := 31) dX5_after_28 (by decide) rfl (fun h28 => ?_) (fun h28 => ?_)
      · refine z_L0I (pc' := 39) dX5_after_38 rfl ?_
        refine z_iconst (pc' := 40) dX5_after_39 rfl (by unfold zin; decide) ?_
        refine z_icmp_ne (tgt := 59) (pc' := 43) dX5_after_40 (by decide) rfl (fun h40 => ?_) (fun h40 => ?_)
        · refine z_iconst (pc' := 60) dX5_after_59 rfl (by unfold zin; decide) ?_
          refine z_ireturn rfl rfl dX5_after_60 ?_
          first | (rw [if_pos h1, if_pos hl] at hQ; exact hQ) | (rw [if_neg (by omega), if_pos (by omega)] at hQ; exact hQ) | (rw [if_neg (by omega), if_neg (by omega), if_pos (by omega)] at hQ; exact hQ) | (rw [if_neg (by omega), if_neg (by omega), if_neg (by omega), if_pos (by omega)] at hQ; exact hQ) | (rw [if_neg (by omega), if_neg (by omega), if_neg (by omega), if_neg (by omega)] at hQ; exact hQ)
        · refine z_L1I (pc' := 44) dX5_after_43 rfl ?_
          refine z_bipush (pc' := 46) dX5_after_44 rfl (by decide) ?_
          refine z_icmp_lt (tgt := 59) (pc' := 49) dX5_after_46 (by decide) rfl (fun h46 => ?_) (fun h46 => ?_)
          · refine z_iconst (pc' := 60) dX5_after_59 rfl (by unfold zin; decide) ?_
            refine z_ireturn rfl rfl dX5_after_60 ?_
            first | (rw [if_pos h1, if_pos hl] at hQ; exact hQ) | (rw [if_neg (by omega), if_pos (by omega)] at hQ; exact hQ) | (rw [if_neg (by omega), if_neg (by omega), if_pos (by omega)] at hQ; exact hQ) | (rw [if_neg (by omega), if_neg (by omega), if_neg (by omega), if_pos (by omega)] at hQ; exact hQ) | (rw [if_neg (by omega), if_neg (by omega), if_neg (by omega), if_neg (by omega)] at hQ; exact hQ)
          · refine z_L1I (pc' := 50) dX5_after_49 rfl ?_
            refine z_bipush (pc' := 52) dX5_after_50 rfl (by decide) ?_
            refine z_icmp_gt (tgt := 59) (pc' := 55) dX5_after_52 (by decide) rfl (fun h52 => ?_) (fun h52 => ?_)
            · refine z_iconst (pc' := 60) dX5_after_59 rfl (by unfold zin; decide) ?_
              refine z_ireturn rfl rfl dX5_after_60 ?_
              first | (rw [if_pos h1, if_pos hl] at hQ; exact hQ) | (rw [if_neg (by omega), if_pos (by omega)] at hQ; exact hQ) | (rw [if_neg (by omega), if_neg (by omega), if_pos (by omega)] at hQ; exact hQ) | (rw [if_neg (by omega), if_neg (by omega), if_neg (by omega), if_pos (by omega)] at hQ; exact hQ) | (rw [if_neg (by omega), if_neg (by omega), if_neg (by omega), if_neg (by omega)] at hQ; exact hQ)
            · refine z_iconst (pc' := 56) dX5_after_55 rfl (by unfold zin; decide) ?_
              refine z_goto (tgt := 60) dX5_after_56 (by decide) ?_
              refine z_ireturn rfl rfl dX5_after_60 ?_
              first | (rw [if_pos h1, if_pos hl] at hQ; exact hQ) | (rw [if_neg (by omega), if_pos (by omega)] at hQ; exact hQ) | (rw [if_neg (by omega), if_neg (by omega), if_pos (by omega)] at hQ; exact hQ) | (rw [if_neg (by omega), if_neg (by omega), if_neg (by omega), if_pos (by omega)] at hQ; exact hQ) | (rw [if_neg (by omega), if_neg (by omega), if_neg (by omega), if_neg (by omega)] at hQ; exact hQ)
      · refine z_L0I (pc' := 32) dX5_after_31 rfl ?_
        refine z_iconst (pc' := 33) dX5_after_32 rfl (by unfold zin; decide) ?_
        refine z_icmp_eq (tgt := 38) (pc' := 36) dX5_after_33 (by decide) rfl (fun h33 => ?_) (fun h33 => ?_)
        · refine z_L0I (pc' := 39) dX5_after_38 rfl ?_
          refine z_iconst (pc' := 40) dX5_after_39 rfl (by unfold zin; decide) ?_
          refine z_icmp_ne (tgt := 59) (pc' := 43) dX5_after_40 (by decide) rfl (fun h40 => ?_) (fun h40 => ?_)
          · refine z_iconst (pc' := 60) dX5_after_59 rfl (by unfold zin; decide) ?_
            refine z_ireturn rfl rfl dX5_after_60 ?_
            first | (rw [if_pos h1, if_pos hl] at hQ; exact hQ) | (rw [if_neg (by omega), if_pos (by omega)] at hQ; exact hQ) | (rw [if_neg (by omega), if_neg (by omega), if_pos (by omega)] at hQ; exact hQ) | (rw [if_neg (by omega), if_neg (by omega), if_neg (by omega), if_pos (by omega)] at hQ; exact hQ) | (rw [if_neg (by omega), if_neg (by omega), if_neg (by omega), if_neg (by omega)] at hQ; exact hQ)
          · refine z_L1I (pc' := 44) dX5_after_43 rfl ?_
            refine z_bipush (pc' := 46) dX5_after_44 rfl (by decide) ?_
            refine z_icmp_lt (tgt := 59) (pc' := 49) dX5_after_46 (by decide) rfl (fun h46 => ?_) (fun h46 => ?_)
            · refine z_iconst (pc' := 60) dX5_after_59 rfl (by unfold zin; decide) ?_
              refine z_ireturn rfl rfl dX5_after_60 ?_
              first | (rw [if_pos h1, if_pos hl] at hQ; exact hQ) | (rw [if_neg (by omega), if_pos (by omega)] at hQ; exact hQ) | (rw [if_neg (by omega), if_neg (by omega), if_pos (by omega)] at hQ; exact hQ) | (rw [if_neg (by omega), if_neg (by omega), if_neg (by omega), if_pos (by omega)] at hQ; exact hQ) | (rw [if_neg (by omega), if_neg (by omega), if_neg (by omega), if_neg (by omega)] at hQ; exact hQ)
            · refine z_L1I (pc' := 50) dX5_after_49 rfl ?_
              refine z_bipush (pc' := 52) dX5_after_50 rfl (by decide) ?_
              refine z_icmp_gt (tgt := 59) (pc' := 55) dX5_after_52 (by decide) rfl (fun h52 => ?_) (fun h52 => ?_)
              · refine z_iconst (pc' := 60) dX5_after_59 rfl (by unfold zin; decide) ?_
                refine z_ireturn rfl rfl dX5_after_60 ?_
                first | (rw [if_pos h1, if_pos hl] at hQ; exact hQ) | (rw [if_neg (by omega), if_pos (by omega)] at hQ; exact hQ) | (rw [if_neg (by omega), if_neg (by omega), if_pos (by omega)] at hQ; exact hQ) | (rw [if_neg (by omega), if_neg (by omega), if_neg (by omega), if_pos (by omega)] at hQ; exact hQ) | (rw [if_neg (by omega), if_neg (by omega), if_neg (by omega), if_neg (by omega)] at hQ; exact hQ)
              · refine z_iconst (pc' := 56) dX5_after_55 rfl (by unfold zin; decide) ?_
                refine z_goto (tgt := 60) dX5_after_56 (by decide) ?_
                refine z_ireturn rfl rfl dX5_after_60 ?_
                first | (rw [if_pos h1, if_pos hl] at hQ; exact hQ) | (rw [if_neg (by omega), if_pos (by omega)] at hQ; exact hQ) | (rw [if_neg (by omega), if_neg (by omega), if_pos (by omega)] at hQ; exact hQ) | (rw [if_neg (by omega), if_neg (by omega), if_neg (by omega), if_pos (by omega)] at hQ; exact hQ) | (rw [if_neg (by omega), if_neg (by omega), if_neg (by omega), if_neg (by omega)] at hQ; exact hQ)
        · refine z_iconst (pc' := 37) dX5_after_36 rfl (by unfold zin; decide) ?_
          refine z_ireturn rfl rfl dX5_after_37 ?_
          first | (rw [if_pos h1, if_pos hl] at hQ; exact hQ) | (rw [if_neg (by omega), if_pos (by omega)] at hQ; exact hQ) | (rw [if_neg (by omega), if_neg (by omega), if_pos (by omega)] at hQ; exact hQ) | (rw [if_neg (by omega), if_neg (by omega), if_neg (by omega), if_pos (by omega)] at hQ; exact hQ) | (rw [if_neg (by omega), if_neg (by omega), if_neg (by omega), if_neg (by omega)] at hQ; exact hQ)
    · refine z_iconst (pc' := 24) dX5_after_23 rfl (by unfold zin; decide) ?_
      refine z_ireturn rfl rfl dX5_after_24 ?_
      first | (rw [if_pos h1, if_pos hl] at hQ; exact hQ) | (rw [if_neg (by omega), if_pos (by omega)] at hQ; exact hQ) | (rw [if_neg (by omega), if_neg (by omega), if_pos (by omega)] at hQ; exact hQ) | (rw [if_neg (by omega), if_neg (by omega), if_neg (by omega), if_pos (by omega)] at hQ; exact hQ) | (rw [if_neg (by omega), if_neg (by omega), if_neg (by omega), if_neg (by omega)] at hQ; exact hQ)
  · refine z_L1I (pc' := 5) dX5_after_4 rfl ?_
    refine z_S1v (pc' := 8) kX5_isLetter lX5_36 dX5_after_5 rfl (by omega) (Nat.le_of_ble_eq_true rfl) ?_
    refine c_isLetter (fun hl => zKv_i ?_) (fun hl => zKv_i ?_)
    rotate_left
    · refine z_if_eq (tgt := 15) (pc' := 11) dX5_after_8 (by decide) rfl (fun h8 => ?_) (fun h8 => absurd rfl h8)
      refine z_iconst (pc' := 16) dX5_after_15 rfl (by unfold zin; decide) ?_
      refine z_ireturn rfl rfl dX5_after_16 ?_
      rw [if_pos h1, if_neg hl] at hQ
      exact hQ
    refine z_if_eq (tgt := 15) (pc' := 11) dX5_after_8 (by decide) rfl (fun h8 => absurd h8 (by omega)) (fun h8 => ?_)
    refine z_iconst (pc' := 12) dX5_after_11 rfl (by unfold zin; decide) ?_
    refine z_goto (tgt := 16) dX5_after_12 (by decide) ?_
    refine z_ireturn rfl rfl dX5_after_16 ?_
    first | (rw [if_pos h1, if_pos hl] at hQ; exact hQ) | (rw [if_neg (by omega), if_pos (by omega)] at hQ; exact hQ) | (rw [if_neg (by omega), if_neg (by omega), if_pos (by omega)] at hQ; exact hQ) | (rw [if_neg (by omega), if_neg (by omega), if_neg (by omega), if_pos (by omega)] at hQ; exact hQ) | (rw [if_neg (by omega), if_neg (by omega), if_neg (by omega), if_neg (by omega)] at hQ; exact hQ)
theorem zaft_in (l s : Int) : 0 ≤ zaft l s ∧ zaft l s ≤ 4 := by
  unfold zaft
  refine ⟨?_, ?_⟩ <;> (repeat' split) <;> omega
/-- the fault, from the place i on with m signs left, l read last -/
def zff (g : Int → Int) : Nat → Int → Int → Int
  | 0, l, i => if l = 0 then i else -5
  | m + 1, l, i => if zaft l (g i) = 4 then i else zff g m (zaft l (g i)) (i + 1)
def zfault (g : Int → Int) (n : Int) : Int := zff g n.toNat 0 0
set_option maxRecDepth 100000 in
set_option maxHeartbeats 1000000 in
theorem c_firstFault {d : Nat} {sp : zSP} {me : zMe} {Q : zQ} {c : Nat} (hd : 2 ≤ d) (hc : zScr sp c) (hn0 : 0 ≤ me c 1) (hn1 : me c 1 ≤ 80) (hQ : Q (some (zI (zfault (me (c + 1)) (me c 1)))) sp me) : zCall mX5_firstFault d 0 0 [zR c] sp me Q := by
  refine z_met kX5_firstFault (by simp) (by simp) ?_
  show zW mX5_firstFault d 0 0 Q 0 [zR c, zU, zU] [] sp me
  refine z_iconst (pc' := 1) dX5_firstFault_0 rfl (by unfold zin; decide) ?_
  refine z_S1I (pc' := 2) rfl dX5_firstFault_1 rfl ?_
  refine z_iconst (pc' := 3) dX5_firstFault_2 rfl (by unfold zin; decide) ?_
  refine z_S2I (pc' := 4) rfl dX5_firstFault_3 rfl ?_
  suffices H : ∀ (n : Nat) (i l : Int), 0 ≤ i → i ≤ me c 1 → me c 1 - i = n → 0 ≤ l → l ≤ 3 → zff (me (c + 1)) n l i = zfault (me (c + 1)) (me c 1) → zW mX5_firstFault d 0 0 Q 4 [zR c, zI l, zI i] [] sp me by
    exact H (me c 1).toNat 0 0 (by omega) (by omega) (by omega) (by omega) (by omega) rfl
  suffices H0 : ∀ (b n : Nat), n < b → ∀ (i l : Int), 0 ≤ i → i ≤ me c 1 → me c 1 - i = n → 0 ≤ l → l ≤ 3 → zff (me (c + 1)) n l i = zfault (me (c + 1)) (me c 1) → zW mX5_firstFault d 0 0 Q 4 [zR c, zI l, zI i] [] sp me from fun n => H0 (n + 1) n (by omega)
  intro b
  induction b with
  | zero => intro n hb; omega
  | succ b ih =>
  intro n hb i l hi0 hi1 hn hl0 hl1 hz
  refine z_L2I (pc' := 5) dX5_firstFault_4 rfl ?_
  refine z_L0R (pc' := 6) dX5_firstFault_5 rfl ?_
  refine z_getI (pc' := 9) (ki := 1) 1 fX5_15.l rfl rfl dX5_firstFault_6 rfl hc.s ?_
  refine z_icmp_ge (tgt := 38) (pc' := 12) dX5_firstFault_9 (by decide) rfl (fun h9 => ?_) (fun h9 => ?_)
  · obtain rfl : n = 0 := by omega
    have hz' : (if l = 0 then i else -5) = zfault (me (c + 1)) (me c 1) := hz
    refine z_L1I (pc' := 39) dX5_firstFault_38 rfl ?_
    refine z_if_ne (tgt := 49) (pc' := 42) dX5_firstFault_39 (by decide) rfl (fun h39 => ?_) (fun h39 => ?_)
    · refine z_bipush (pc' := 51) dX5_firstFault_49 rfl (by decide) ?_
      refine z_ireturn rfl rfl dX5_firstFault_51 ?_
      first | (rw [if_pos h39] at hz'; obtain rfl : i = me c 1 := (by omega); rw [hz']; exact hQ) | (rw [if_neg h39] at hz'; rw [hz']; exact hQ)
    · refine z_L0R (pc' := 43) dX5_firstFault_42 rfl ?_
      refine z_getI (pc' := 46) (ki := 1) 1 fX5_15.l rfl rfl dX5_firstFault_43 rfl hc.s ?_
      refine z_goto (tgt := 51) dX5_firstFault_46 (by decide) ?_
      refine z_ireturn rfl rfl dX5_firstFault_51 ?_
      first | (rw [if_pos h39] at hz'; obtain rfl : i = me c 1 := (by omega); rw [hz']; exact hQ) | (rw [if_neg h39] at hz'; rw [hz']; exact hQ)
  · obtain ⟨n', rfl⟩ : ∃ n', n = n' + 1 := ⟨n - 1, by omega⟩
    have hz' : (if zaft l (me (c + 1) i) = 4 then i else zff (me (c + 1)) n' (zaft l (me (c + 1) i)) (i + 1)) = zfault (me (c + 1)) (me c 1) := hz
    have hai := zaft_in l (me (c + 1) i)
    refine z_L1I (pc' := 13) dX5_firstFault_12 rfl ?_
    refine z_L0R (pc' := 14) dX5_firstFault_13 rfl ?_
    refine z_getR (pc' := 17) (ki := 0) 0 fX5_9.l rfl rfl dX5_firstFault_14 rfl hc.s hc.p0 ?_
    refine z_L2I (pc' := 18) dX5_firstFault_17 rfl ?_
    refine z_S2v (pc' := 21) kX8_read lX5_29 dX5_firstFault_18 rfl (by omega) (Nat.le_of_ble_eq_true rfl) ?_
    refine c_read hc.a1 (zKv_i ?_)
    refine z_S2v (pc' := 24) kX5_after lX5_33 dX5_firstFault_21 rfl (by omega) (Nat.le_of_ble_eq_true rfl) ?_
    refine c_after (by omega) (zKv_i ?_)
    refine z_S1I (pc' := 25) rfl dX5_firstFault_24 rfl ?_
    refine z_L1I (pc' := 26) dX5_firstFault_25 rfl ?_
    refine z_iconst (pc' := 27) dX5_firstFault_26 rfl (by unfold zin; decide) ?_
    refine z_icmp_ne (tgt := 32) (pc' := 30) dX5_firstFault_27 (by decide) rfl (fun h27 => ?_) (fun h27 => ?_)
    · refine z_inc2 (pc' := 35) rfl dX5_firstFault_32 rfl (by unfold zin; omega) ?_
      refine z_goto (tgt := 4) dX5_firstFault_35 (by decide) ?_
      refine ih n' (by omega) (i + 1) _ (by omega) (by omega) (by omega) (by omega) (by omega) ?_
      rw [if_neg h27] at hz'
      exact hz'
    · refine z_L2I (pc' := 31) dX5_firstFault_30 rfl ?_
      refine z_ireturn rfl rfl dX5_firstFault_31 ?_
      rw [if_pos h27] at hz'
      rw [hz']
      exact hQ
set_option maxRecDepth 100000 in
set_option maxHeartbeats 1000000 in
theorem c_codeOf {d : Nat} {sp : zSP} {me : zMe} {Q : zQ} {k a b : Int} (hk0 : 0 ≤ k) (hk1 : k < 10) (ha0 : 0 ≤ a) (ha1 : a ≤ 10) (hb0 : 0 ≤ b) (hb1 : b < 10) (hQ : Q (some (zI (k * 100 + a * 10 + b))) sp me) : zCall mX8_codeOf d 0 0 [zI k, zI a, zI b] sp me Q := by
  refine z_met kX8_codeOf (by simp) (by simp) ?_
  show zW mX8_codeOf d 0 0 Q 0 [zI k, zI a, zI b] [] sp me
  refine z_L0I (pc' := 1) dX8_codeOf_0 rfl ?_
  refine z_bipush (pc' := 3) dX8_codeOf_1 rfl (by decide) ?_
  refine z_imul (pc' := 4) dX8_codeOf_3 rfl (by unfold zin; omega) ?_
  refine z_L1I (pc' := 5) dX8_codeOf_4 rfl ?_
  refine z_bipush (pc' := 7) dX8_codeOf_5 rfl (by decide) ?_
  refine z_imul (pc' := 8) dX8_codeOf_7 rfl (by unfold zin; omega) ?_
  refine z_iadd (pc' := 9) dX8_codeOf_8 rfl (by unfold zin; omega) ?_
  refine z_L2I (pc' := 10) dX8_codeOf_9 rfl ?_
  refine z_iadd (pc' := 11) dX8_codeOf_10 rfl (by unfold zin; omega) ?_
  refine z_ireturn rfl rfl dX8_codeOf_11 ?_
  exact hQ
/-- the code of what undoes a step -/
def zund (c : Int) : Int := if c / 100 = 1 then c / 100 * 100 + c / 10 % 10 * 10 + (4 - c % 10) else if c / 100 = 2 then c / 100 * 100 + (10 - c / 10 % 10) * 10 + c % 10 else c
set_option maxRecDepth 100000 in
set_option maxHeartbeats 1000000 in
theorem c_undoing {d : Nat} {sp : zSP} {me : zMe} {Q : zQ} {c : Int} (hd : 1 ≤ d) (hc : zvs c) (hQ : Q (some (zI (zund c))) sp me) : zCall mX8_undoing d 0 0 [zI c] sp me Q := by
  refine z_met kX8_undoing (by simp) (by simp) ?_
  show zW mX8_undoing d 0 0 Q 0 [zI c, zU, zU, zU] [] sp me
  obtain ⟨hc0, hc1⟩ := hc
  unfold zund at hQ
  refine z_L0I (pc' := 1) dX8_undoing_0 rfl ?_
  refine z_S1v (pc' := 4) kX8_kindOf lX8_192 dX8_undoing_1 rfl (by omega) (Nat.le_of_ble_eq_true rfl) ?_
  refine c_kindOf hc0 (zKv_i ?_)
  refine z_S1I (pc' := 5) rfl dX8_undoing_4 rfl ?_
  refine z_L0I (pc' := 6) dX8_undoing_5 rfl ?_
  refine z_S1v (pc' := 9) kX8_firstOf lX8_195 dX8_undoing_6 rfl (by omega) (Nat.le_of_ble_eq_true rfl) ?_
  refine c_firstOf hc0 (zKv_i ?_)
  refine z_S2I (pc' := 10) rfl dX8_undoing_9 rfl ?_
  refine z_L0I (pc' := 11) dX8_undoing_10 rfl ?_
  refine z_S1v (pc' := 14) kX8_secondOf lX8_198 dX8_undoing_11 rfl (by omega) (Nat.le_of_ble_eq_true rfl) ?_
  refine c_secondOf hc0 (zKv_i ?_)
  refine z_S3I (pc' := 15) rfl dX8_undoing_14 rfl ?_
  refine z_L1I (pc' := 16) dX8_undoing_15 rfl ?_
  refine z_iconst (pc' := 17) dX8_undoing_16 rfl (by unfold zin; decide) ?_
  refine z_icmp_ne (tgt := 29) (pc' := 20) dX8_undoing_17 (by decide) rfl (fun h17 => ?_) (fun h17 => ?_)
  · refine z_L1I (pc' := 30) dX8_undoing_29 rfl ?_
    refine z_iconst (pc' := 31) dX8_undoing_30 rfl (by unfold zin; decide) ?_
    refine z_icmp_ne (tgt := 46) (pc' := 34) dX8_undoing_31 (by decide) rfl (fun h31 => ?_) (fun h31 => ?_)
    · refine z_L0I (pc' := 47) dX8_undoing_46 rfl ?_
      refine z_ireturn rfl rfl dX8_undoing_47 ?_
      first | (rw [if_pos h17] at hQ; exact hQ) | (rw [if_neg h17, if_pos h31] at hQ; exact hQ) | (rw [if_neg h17, if_neg h31] at hQ; exact hQ)
    · refine z_L1I (pc' := 35) dX8_undoing_34 rfl ?_
      refine z_bipush (pc' := 37) dX8_undoing_35 rfl (by decide) ?_
      refine z_L2I (pc' := 38) dX8_undoing_37 rfl ?_
      refine z_isub (pc' := 39) dX8_undoing_38 rfl (by unfold zin; omega) ?_
      refine z_L3I (pc' := 40) dX8_undoing_39 rfl ?_
      refine z_S3v (pc' := 43) kX8_codeOf lX8_90 dX8_undoing_40 rfl (by omega) (Nat.le_of_ble_eq_true rfl) ?_
      refine c_codeOf (by omega) (by omega) (by omega) (by omega) (by omega) (by omega) (zKv_i ?_)
      refine z_goto (tgt := 47) dX8_undoing_43 (by decide) ?_
      refine z_ireturn rfl rfl dX8_undoing_47 ?_
      first | (rw [if_pos h17] at hQ; exact hQ) | (rw [if_neg h17, if_pos h31] at hQ; exact hQ) | (rw [if_neg h17, if_neg h31] at hQ; exact hQ)
  · refine z_L1I (pc' := 21) dX8_undoing_20 rfl ?_
    refine z_L2I (pc' := 22) dX8_undoing_21 rfl ?_
    refine z_iconst (pc' := 23) dX8_undoing_22 rfl (by unfold zin; decide) ?_
    refine z_L3I (pc' := 24) dX8_undoing_23 rfl ?_
    refine z_isub (pc' := 25) dX8_undoing_24 rfl (by unfold zin; omega) ?_
    refine z_S3v (pc' := 28) kX8_codeOf lX8_90 dX8_undoing_25 rfl (by omega) (Nat.le_of_ble_eq_true rfl) ?_
    refine c_codeOf (by omega) (by omega) (by omega) (by omega) (by omega) (by omega) (zKv_i ?_)
    refine z_ireturn rfl rfl dX8_undoing_28 ?_
    first | (rw [if_pos h17] at hQ; exact hQ) | (rw [if_neg h17, if_pos h31] at hQ; exact hQ) | (rw [if_neg h17, if_neg h31] at hQ; exact hQ)
theorem zund_vs {c : Int} (hc : zvs c) : zvs (zund c) := by
  obtain ⟨h0, h⟩ := hc
  unfold zvs zund
  refine ⟨?_, ?_⟩ <;> (repeat' split) <;> omega
/-- a move of a figure that may be added -/
def zmv (f k a b : Int) : Prop := ((k = 0 ∨ k = 3) ∧ 0 ≤ a ∧ a < b ∧ b < 10) ∨ (k = 1 ∧ 0 ≤ a ∧ a < 10 ∧ 1 ≤ b ∧ b < 4) ∨ (k = 2 ∧ 1 ≤ a ∧ a < 10 ∧ b = 0) ∨ (k = 4 ∧ 0 ≤ a ∧ a < f ∧ b = 0)
set_option maxRecDepth 100000 in
set_option maxHeartbeats 1000000 in
theorem c_isMove {d : Nat} {sp : zSP} {me : zMe} {Q : zQ} {f k a b : Int} (hd : 1 ≤ d) (hQ1 : zmv f k a b → Q (some (zI 1)) sp me) (hQ0 : ¬ zmv f k a b → Q (some (zI 0)) sp me) : zCall mX8_isMove d 0 0 [zI f, zI k, zI a, zI b] sp me Q := by
  refine z_met kX8_isMove (by simp) (by simp) ?_
  show zW mX8_isMove d 0 0 Q 0 [zI f, zI k, zI a, zI b] [] sp me
  unfold zmv at hQ1 hQ0
  refine z_L1I (pc' := 1) dX8_isMove_0 rfl ?_
  have e4 : k = 0 ∨ k = 1 ∨ k = 2 ∨ k = 3 ∨ k = 4 ∨ (k < 0 ∨ 4 < k) := by omega
  rcases e4 with e4 | e4 | e4 | e4 | e4 | e4
  · subst e4
    refine z_tswIn (tgt := 36) dX8_isMove_1 (by decide) (by decide) rfl (by decide) ?_
    refine z_L2I (pc' := 37) dX8_isMove_36 rfl ?_
    refine z_if_lt (tgt := 55) (pc' := 40) dX8_isMove_37 (by decide) rfl (fun h37 => ?_) (fun h37 => ?_)
    · refine z_iconst (pc' := 56) dX8_isMove_55 rfl (by unfold zin; decide) ?_
      refine z_zreturn rfl rfl dX8_isMove_56 (by omega) ?_
      first | exact hQ1 (by omega) | exact hQ0 (by omega)
    · refine z_L2I (pc' := 41) dX8_isMove_40 rfl ?_
      refine z_L3I (pc' := 42) dX8_isMove_41 rfl ?_
      refine z_icmp_ge (tgt := 55) (pc' := 45) dX8_isMove_42 (by decide) rfl (fun h42 => ?_) (fun h42 => ?_)
      · refine z_iconst (pc' := 56) dX8_isMove_55 rfl (by unfold zin; decide) ?_
        refine z_zreturn rfl rfl dX8_isMove_56 (by omega) ?_
        first | exact hQ1 (by omega) | exact hQ0 (by omega)
      · refine z_L3I (pc' := 46) dX8_isMove_45 rfl ?_
        refine z_bipush (pc' := 48) dX8_isMove_46 rfl (by decide) ?_
        refine z_icmp_ge (tgt := 55) (pc' := 51) dX8_isMove_48 (by decide) rfl (fun h48 => ?_) (fun h48 => ?_)
        · refine z_iconst (pc' := 56) dX8_isMove_55 rfl (by unfold zin; decide) ?_
          refine z_zreturn rfl rfl dX8_isMove_56 (by omega) ?_
          first | exact hQ1 (by omega) | exact hQ0 (by omega)
        · refine z_iconst (pc' := 52) dX8_isMove_51 rfl (by unfold zin; decide) ?_
          refine z_goto (tgt := 56) dX8_isMove_52 (by decide) ?_
          refine z_zreturn rfl rfl dX8_isMove_56 (by omega) ?_
          first | exact hQ1 (by omega) | exact hQ0 (by omega)
  · subst e4
    refine z_tswIn (tgt := 57) dX8_isMove_1 (by decide) (by decide) rfl (by decide) ?_
    refine z_L2I (pc' := 58) dX8_isMove_57 rfl ?_
    refine z_S1v (pc' := 61) kX8_isPlace lX8_106 dX8_isMove_58 rfl (by omega) (Nat.le_of_ble_eq_true rfl) ?_
    refine c_isPlace (fun hp => zKv_i ?_) (fun hp => zKv_i ?_)
    rotate_left
    · refine z_if_eq (tgt := 78) (pc' := 64) dX8_isMove_61 (by decide) rfl (fun h8 => ?_) (fun h8 => absurd rfl h8)
      refine z_iconst (pc' := 79) dX8_isMove_78 rfl (by unfold zin; decide) ?_
      refine z_zreturn rfl rfl dX8_isMove_79 (by omega) ?_
      exact hQ0 (by omega)
    refine z_if_eq (tgt := 78) (pc' := 64) dX8_isMove_61 (by decide) rfl (fun h61 => absurd h61 (by omega)) (fun h61 => ?_)
    refine z_L3I (pc' := 65) dX8_isMove_64 rfl ?_
    refine z_iconst (pc' := 66) dX8_isMove_65 rfl (by unfold zin; decide) ?_
    refine z_icmp_lt (tgt := 78) (pc' := 69) dX8_isMove_66 (by decide) rfl (fun h66 => ?_) (fun h66 => ?_)
    · refine z_iconst (pc' := 79) dX8_isMove_78 rfl (by unfold zin; decide) ?_
      refine z_zreturn rfl rfl dX8_isMove_79 (by omega) ?_
      first | exact hQ1 (by omega) | exact hQ0 (by omega)
    · refine z_L3I (pc' := 70) dX8_isMove_69 rfl ?_
      refine z_iconst (pc' := 71) dX8_isMove_70 rfl (by unfold zin; decide) ?_
      refine z_icmp_ge (tgt := 78) (pc' := 74) dX8_isMove_71 (by decide) rfl (fun h71 => ?_) (fun h71 => ?_)
      · refine z_iconst (pc' := 79) dX8_isMove_78 rfl (by unfold zin; decide) ?_
        refine z_zreturn rfl rfl dX8_isMove_79 (by omega) ?_
        first | exact hQ1 (by omega) | exact hQ0 (by omega)
      · refine z_iconst (pc' := 75) dX8_isMove_74 rfl (by unfold zin; decide) ?_
        refine z_goto (tgt := 79) dX8_isMove_75 (by decide) ?_
        refine z_zreturn rfl rfl dX8_isMove_79 (by omega) ?_
        first | exact hQ1 (by omega) | exact hQ0 (by omega)
  · subst e4
    refine z_tswIn (tgt := 80) dX8_isMove_1 (by decide) (by decide) rfl (by decide) ?_
    refine z_L2I (pc' := 81) dX8_isMove_80 rfl ?_
    refine z_iconst (pc' := 82) dX8_isMove_81 rfl (by unfold zin; decide) ?_
    refine z_icmp_lt (tgt := 99) (pc' := 85) dX8_isMove_82 (by decide) rfl (fun h82 => ?_) (fun h82 => ?_)
    · refine z_iconst (pc' := 100) dX8_isMove_99 rfl (by unfold zin; decide) ?_
      refine z_zreturn rfl rfl dX8_isMove_100 (by omega) ?_
      first | exact hQ1 (by omega) | exact hQ0 (by omega)
    · refine z_L2I (pc' := 86) dX8_isMove_85 rfl ?_
      refine z_bipush (pc' := 88) dX8_isMove_86 rfl (by decide) ?_
      refine z_icmp_ge (tgt := 99) (pc' := 91) dX8_isMove_88 (by decide) rfl (fun h88 => ?_) (fun h88 => ?_)
      · refine z_iconst (pc' := 100) dX8_isMove_99 rfl (by unfold zin; decide) ?_
        refine z_zreturn rfl rfl dX8_isMove_100 (by omega) ?_
        first | exact hQ1 (by omega) | exact hQ0 (by omega)
      · refine z_L3I (pc' := 92) dX8_isMove_91 rfl ?_
        refine z_if_ne (tgt := 99) (pc' := 95) dX8_isMove_92 (by decide) rfl (fun h92 => ?_) (fun h92 => ?_)
        · refine z_iconst (pc' := 100) dX8_isMove_99 rfl (by unfold zin; decide) ?_
          refine z_zreturn rfl rfl dX8_isMove_100 (by omega) ?_
          first | exact hQ1 (by omega) | exact hQ0 (by omega)
        · refine z_iconst (pc' := 96) dX8_isMove_95 rfl (by unfold zin; decide) ?_
          refine z_goto (tgt := 100) dX8_isMove_96 (by decide) ?_
          refine z_zreturn rfl rfl dX8_isMove_100 (by omega) ?_
          first | exact hQ1 (by omega) | exact hQ0 (by omega)
  · subst e4
    refine z_tswIn (tgt := 36) dX8_isMove_1 (by decide) (by decide) rfl (by decide) ?_
    refine z_L2I (pc' := 37) dX8_isMove_36 rfl ?_
    refine z_if_lt (tgt := 55) (pc' := 40) dX8_isMove_37 (by decide) rfl (fun h37 => ?_) (fun h37 => ?_)
    · refine z_iconst (pc' := 56) dX8_isMove_55 rfl (by unfold zin; decide) ?_
      refine z_zreturn rfl rfl dX8_isMove_56 (by omega) ?_
      first | exact hQ1 (by omega) | exact hQ0 (by omega)
    · refine z_L2I (pc' := 41) dX8_isMove_40 rfl ?_
      refine z_L3I (pc' := 42) dX8_isMove_41 rfl ?_
      refine z_icmp_ge (tgt := 55) (pc' := 45) dX8_isMove_42 (by decide) rfl (fun h42 => ?_) (fun h42 => ?_)
      · refine z_iconst (pc' := 56) dX8_isMove_55 rfl (by unfold zin; decide) ?_
        refine z_zreturn rfl rfl dX8_isMove_56 (by omega) ?_
        first | exact hQ1 (by omega) | exact hQ0 (by omega)
      · refine z_L3I (pc' := 46) dX8_isMove_45 rfl ?_
        refine z_bipush (pc' := 48) dX8_isMove_46 rfl (by decide) ?_
        refine z_icmp_ge (tgt := 55) (pc' := 51) dX8_isMove_48 (by decide) rfl (fun h48 => ?_) (fun h48 => ?_)
        · refine z_iconst (pc' := 56) dX8_isMove_55 rfl (by unfold zin; decide) ?_
          refine z_zreturn rfl rfl dX8_isMove_56 (by omega) ?_
          first | exact hQ1 (by omega) | exact hQ0 (by omega)
        · refine z_iconst (pc' := 52) dX8_isMove_51 rfl (by unfold zin; decide) ?_
          refine z_goto (tgt := 56) dX8_isMove_52 (by decide) ?_
          refine z_zreturn rfl rfl dX8_isMove_56 (by omega) ?_
          first | exact hQ1 (by omega) | exact hQ0 (by omega)
  · subst e4
    refine z_tswIn (tgt := 101) dX8_isMove_1 (by decide) (by decide) rfl (by decide) ?_
    refine z_L2I (pc' := 102) dX8_isMove_101 rfl ?_
    refine z_if_lt (tgt := 118) (pc' := 105) dX8_isMove_102 (by decide) rfl (fun h102 => ?_) (fun h102 => ?_)
    · refine z_iconst (pc' := 119) dX8_isMove_118 rfl (by unfold zin; decide) ?_
      refine z_zreturn rfl rfl dX8_isMove_119 (by omega) ?_
      first | exact hQ1 (by omega) | exact hQ0 (by omega)
    · refine z_L2I (pc' := 106) dX8_isMove_105 rfl ?_
      refine z_L0I (pc' := 107) dX8_isMove_106 rfl ?_
      refine z_icmp_ge (tgt := 118) (pc' := 110) dX8_isMove_107 (by decide) rfl (fun h107 => ?_) (fun h107 => ?_)
      · refine z_iconst (pc' := 119) dX8_isMove_118 rfl (by unfold zin; decide) ?_
        refine z_zreturn rfl rfl dX8_isMove_119 (by omega) ?_
        first | exact hQ1 (by omega) | exact hQ0 (by omega)
      · refine z_L3I (pc' := 111) dX8_isMove_110 rfl ?_
        refine z_if_ne (tgt := 118) (pc' := 114) dX8_isMove_111 (by decide) rfl (fun h111 => ?_) (fun h111 => ?_)
        · refine z_iconst (pc' := 119) dX8_isMove_118 rfl (by unfold zin; decide) ?_
          refine z_zreturn rfl rfl dX8_isMove_119 (by omega) ?_
          first | exact hQ1 (by omega) | exact hQ0 (by omega)
        · refine z_iconst (pc' := 115) dX8_isMove_114 rfl (by unfold zin; decide) ?_
          refine z_goto (tgt := 119) dX8_isMove_115 (by decide) ?_
          refine z_zreturn rfl rfl dX8_isMove_119 (by omega) ?_
          first | exact hQ1 (by omega) | exact hQ0 (by omega)
  · refine z_tswOut (tgt := 120) dX8_isMove_1 (by omega) (by decide) ?_
    refine z_iconst (pc' := 121) dX8_isMove_120 rfl (by unfold zin; decide) ?_
    refine z_zreturn rfl rfl dX8_isMove_121 (by omega) ?_
    first | exact hQ1 (by omega) | exact hQ0 (by omega)
end ZSCR

