section ZLAX
set_option maxRecDepth 100000 in
set_option maxHeartbeats 1000000 in
theorem law_go {d : Nat} {sp : zSP} {me : zMe} {Q : zQ} {N : Nat} {f : Int → Int} (hd : 21 ≤ d) (hN : N ≤ 2560) (hn : sp.2.2 = 0) (hQ : ∀ sp' me', Q (some (zI 1)) sp' me') : zW (mL N f) d 184 8146 Q 0 [zR 0, zU, zU, zU, zU, zU, zU, zU] [] sp me := by
  refine z_nwi (r1' := 18) (r2' := 5315) (pc' := 7) n_obj kX8_init rfl nL_7 dL_law_0 dL_law_3 lL_9 dL_law_4 rfl (by omega) (Nat.le_of_ble_eq_true rfl) rfl rfl (fun sp1 me1 g1 g2 g3 => ?_)
  rw [hn] at g1 g2 g3 ⊢
  refine z_S1R (pc' := 8) rfl dL_law_7 rfl ?_
  refine z_nwi (r1' := 0) (r2' := 0) (pc' := 15) n_mod kX9_init rfl nL_10 dL_law_8 dL_law_11 lL_12 dL_law_12 rfl (by omega) (Nat.le_of_ble_eq_true rfl) rfl rfl (fun sp2 me2 k1 k2 k3 => ?_)
  have e1 : sp1.2.2 = 166 := g1
  rw [e1] at k1 k2 k3 ⊢
  have hO := zXO_lc 1 sp1 sp2 me1 me2 (fun b _ hb => k2 b (by omega)) g3
  refine z_S2R (pc' := 16) rfl dL_law_15 rfl ?_
  refine z_iconst (pc' := 17) dL_law_16 rfl (by unfold zin; decide) ?_
  refine z_S3I (pc' := 18) rfl dL_law_17 rfl ?_
  exact law_loop hd hN hO.1 k3.1 hO.2 k3.2 hQ
end ZLAX

