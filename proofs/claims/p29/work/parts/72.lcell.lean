section ZL13
section ZL13A
variable {M M' : zMd} {d r1 r2 mc ms : Nat} {Q : zQ} {pc pc' idx : Nat} {L st : List zV} {sp : zSP} {me : zMe}
theorem z_T10v {r1' r2' : Nat} {x0 x1 x2 x3 x4 x5 x6 x7 x8 x9 : zV} (hM : zMok M' 10) (hlk : zLs M.1.cls idx M'.1) (dg : decode M.2.1 pc = .ok (.invokestatic idx, 3)) (hp : pc + 3 = pc') (hd : 1 ≤ d) (hlen : st.length ≤ 4) (h1 : r1' + mc = r1) (h2 : r2' + ms = r2) (hcall : zCall M' (d - 1) mc ms [x0, x1, x2, x3, x4, x5, x6, x7, x8, x9] sp me (zKv M d r1' r2' Q pc' L st)) : zW M d r1 r2 Q pc L (x9 :: x8 :: x7 :: x6 :: x5 :: x4 :: x3 :: x2 :: x1 :: x0 :: st) sp me := z_S (As := [x0, x1, x2, x3, x4, x5, x6, x7, x8, x9]) (rest := st) hM hlk dg hp rfl (by omega) hlen (by omega) (by omega) rfl hcall (fun v sp' me' ⟨x, hv, h⟩ => by subst hv; rw [show r1 - mc = r1' by omega, show r2 - ms = r2' by omega]; exact h)
end ZL13A
set_option maxRecDepth 100000 in
set_option maxHeartbeats 1000000 in
theorem l_cell0 {d : Nat} {sp : zSP} {me : zMe} {Q : zQ} {Ns : Nat} {f : Int → Int} {t : Int} (t0 : 0 ≤ t) (t1 : t < 100) (hQ : Q (some (zI (zcv Ns f t))) sp me) : zW (mLcell Ns f) d 0 0 Q 0 [zR 0, zI t] [] sp me := by
  refine z_L1I (pc' := 1) dL_cell_0 rfl ?_
  refine z_L0R (pc' := 2) dL_cell_1 rfl ?_
  refine z_slen (pc' := 3) rfl dL_cell_2 rfl ?_
  refine z_icmp_ge (tgt := 12) (pc' := 6) dL_cell_3 (by decide) rfl (fun h3 => ?_) (fun h3 => ?_)
  · refine z_ldcI (pc' := 14) dL_cell_12 rfl uL_7 (by unfold zin; decide) ?_
    refine z_L1I (pc' := 15) dL_cell_14 rfl ?_
    refine z_iconst (pc' := 16) dL_cell_15 rfl (by unfold zin; decide) ?_
    refine z_iadd (pc' := 17) dL_cell_16 rfl (by unfold zin; omega) ?_
    refine z_imulw (pc' := 18) dL_cell_17 rfl ?_
    refine z_ireturn rfl rfl dL_cell_18 ?_
    first
    | (rw [show zcv Ns f t = f t from if_pos (by omega)] at hQ; exact hQ)
    | (rw [show zcv Ns f t = zw32 (999202637 * (t + 1)) from if_neg (by omega)] at hQ; exact hQ)
  · refine z_L0R (pc' := 7) dL_cell_6 rfl ?_
    refine z_L1I (pc' := 8) dL_cell_7 rfl ?_
    refine z_sld (pc' := 9) rfl dL_cell_8 rfl (by omega) (by omega) ?_
    refine z_goto (tgt := 18) dL_cell_9 (by decide) ?_
    refine z_ireturn rfl rfl dL_cell_18 ?_
    first
    | (rw [show zcv Ns f t = f t from if_pos (by omega)] at hQ; exact hQ)
    | (rw [show zcv Ns f t = zw32 (999202637 * (t + 1)) from if_neg (by omega)] at hQ; exact hQ)
abbrev mL (Ns : Nat) (f : Int → Int) : zMd := (x, code, 14, ret, some (Ns, f))
theorem hL_cell : Jvm.Cond.static yL_cell ∈ zG ∧ Jvm.Cond.initialized yL_cell.cls ∈ zG ∧ Jvm.Cond.methodLink RL 152 yL_cell ∈ zG := ⟨lL_152.1, lL_152.2.1, zG_of (List.mem_of_getElem? (i := 278) (by decide +kernel)) (by decide +kernel)⟩
theorem z_cellS {Ns : Nat} {f : Int → Int} {t : Int} {d r1 r2 : Nat} {Q : zQ} {L st : List zV} {sp : zSP} {me : zMe} (t0 : 0 ≤ t) (t1 : t < 100) (hd : 2 ≤ d) (hlen : st.length ≤ 4) (k : zW (mL Ns f) d r1 r2 Q 149 L (zI (zcv Ns f t) :: st) sp me) : zW (mL Ns f) d r1 r2 Q 146 L (zI t :: zR 0 :: st) sp me := by
  refine z_SX (M' := mLcell Ns f) (d' := d - 1) (mc := 0) (ms := 0) (n := 2) (As := [zR 0, zI t]) (rest := st) (Q' := fun v sp' me' => v = some (zI (zcv Ns f t)) ∧ sp' = sp ∧ me' = me) (idx := 152) kL_cell.1 (by show 2 ≤ 40; decide) kL_cell.2.2.2.1 kL_cell.2.2.2.2 rfl hL_cell dL_law_146 rfl rfl (by omega) hlen (Nat.zero_le _) (Nat.zero_le _) rfl (by simp) (by show 2 ≤ 2; decide) ?_ ?_
  · show zW (mLcell Ns f) (d - 1) 0 0 _ 0 [zR 0, zI t] [] sp me
    exact l_cell0 t0 t1 ⟨rfl, rfl, rfl⟩
  · rintro v sp' me' ⟨rfl, rfl, rfl⟩
    exact k
end ZL13

