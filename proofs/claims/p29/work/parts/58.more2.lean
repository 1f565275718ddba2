section ZMORE2
variable {M : zMd} {d r1 r2 : Nat} {Q : zQ} {pc pc' tgt : Nat} {L L' st : List zV} {sp : zSP} {me : zMe}
def gRm (x y : Int) : Int := (Int32.ofInt x - Int32.ofInt x / Int32.ofInt y * Int32.ofInt y).toInt
theorem gRm_4 {x : Int} (h0 : -6 ≤ x) (h1 : x ≤ 6) : gRm x 4 = 0 ↔ x % 4 = 0 := by
  have h : x = -6 ∨ x = -5 ∨ x = -4 ∨ x = -3 ∨ x = -2 ∨ x = -1 ∨ x = 0 ∨ x = 1 ∨ x = 2 ∨ x = 3 ∨ x = 4 ∨ x = 5 ∨ x = 6 := by omega
  rcases h with rfl | rfl | rfl | rfl | rfl | rfl | rfl | rfl | rfl | rfl | rfl | rfl | rfl <;> decide
theorem z_iremn {x y : Int} (dg : decode M.2.1 pc = .ok (.irem, 1)) (hp : pc + 1 = pc') (h1 : 0 < y) (k : zW M d r1 r2 Q pc' L (zI (gRm x y) :: st) sp me) : zW M d r1 r2 Q pc L (zI y :: zI x :: st) sp me := by
  intro k1 k2 p l e R s m args below meth c D cA B b Fin C H locs cells slots ls hl hw hS hz hr1 hr2 hL hst
  have K := k k1 k2 p l e R s m args below meth c D cA B b Fin C H locs cells slots ls hl hw hS hz hr1 hr2 hL (zsc (zok_I (zin_to _)) (zs1 (zs1 hst)))
  have C0 := C
  obtain ⟨hx, hb, hml, hown, hname, hts, hnw, hao, hK, hroom, hbud, hBs, hscr, hret⟩ := C0
  subst hp
  have hy : zin y := zs0 hst
  have hxx : zin x := zs0 (zs1 hst)
  have hne : ¬ Int32.ofInt y = 0 := by rw [← zi_00, zi_eq hy zin_0]; omega
  show W p l e R s m args below meth c H locs cells slots Fin (F0 m pc ls (.int (Int32.ofInt y) :: .int (Int32.ofInt x) :: st.map (ztr B b)))
  refine lv_irem hx hb dg hne ?_
  have e : Int32.ofInt (gRm x y) = Int32.ofInt x - Int32.ofInt x / Int32.ofInt y * Int32.ofInt y := Int32.ofInt_toInt _
  rw [← e]; exact K
end ZMORE2
