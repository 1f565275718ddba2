section ZSTART
theorem zinst : ∀ c, c < 10 → Jvm.Cond.instantiable (zRn c) (zN c) ∈ lw_tbl := zc_10 (List.mem_filter.mp nX7_23.2.2.1).1 (List.mem_filter.mp nX8_23.2.2.1).1 (List.mem_filter.mp nX7_16.2.2.1).1 (List.mem_filter.mp nX8_37.2.2.1).1 (List.mem_filter.mp nX7_7.2.2.1).1 (List.mem_filter.mp nX8_30.2.2.1).1 (List.mem_filter.mp nX8_44.2.2.1).1 (List.mem_filter.mp nX8_7.2.2.1).1 (List.mem_filter.mp nL_48.2.2.1).1 (List.mem_filter.mp nL_48.2.2.1).1
theorem zq_int : Jvm.Cond.arrayClass .int ∈ lw_tbl := List.mem_of_getElem? (i := 62) (by decide +kernel)
theorem zq_ring : Jvm.Cond.arrayOver (.object RX4) ∈ lw_tbl := List.mem_of_getElem? (i := 153) (by decide +kernel)
theorem zq_sta : Jvm.Cond.arrayOver (.object RX7) ∈ lw_tbl := List.mem_of_getElem? (i := 121) (by decide +kernel)
theorem zknown {s : State} {args : Array Value} (hts : ∀ w ∈ lw_tbl, w.before args s = true) : ∃ (D : va_G) (cA : Nat → ClassId), va_K D zcl (ztys cA) s := by
  have h2 : ∀ c : Nat, ∃ q : ClassId × (Nat → Nat), c < 10 → u_Kn s (zRn c) (zT c) (zN c) q.1 q.2 := fun c => by
    by_cases hc : c < 10
    · obtain ⟨a, i, h⟩ := u_known (C := zRn c) (T := zT c) (N := zN c) (n := zN c) hts (fun w hw => (zlay_in c hc w hw).1) (hts _ (zinst c hc))
      exact ⟨(a, i), fun _ => h⟩
    · exact ⟨(0, fun _ => 0), fun h => absurd h hc⟩
  obtain ⟨a0, k0, p0, g0, i0, j0⟩ := Cond.arrayClass_spec (hts _ zq_int)
  obtain ⟨p2, a2, k2, f2, g2, i2, j2, n2⟩ := Cond.arrayOver_spec (hts _ zq_ring)
  obtain ⟨p3, a3, k3, f3, g3, i3, j3, n3⟩ := Cond.arrayOver_spec (hts _ zq_sta)
  refine ⟨(fun c => (Classical.choose (h2 c)).1, fun c => (Classical.choose (h2 c)).2), fun k => if k = 0 then a0 else if k = 1 then a0 else if k = 2 then a2 else a3, fun c q hq => ?_, fun k q hq => ?_⟩
  · obtain ⟨hlt, -⟩ := List.getElem?_eq_some_iff.mp hq
    have hc : c < 10 := hlt
    rw [zcl_at c hc] at hq
    cases hq
    exact Classical.choose_spec (h2 c) hc
  · match k, hq with
    | 0, hq => cases hq; exact ⟨fun n z => ⟨fun k h => (by cases h), k0, i0, p0, j0⟩, g0⟩
    | 1, hq => cases hq; exact ⟨fun n z => ⟨fun k h => (by cases h), k0, i0, p0, j0⟩, g0⟩
    | 2, hq => cases hq; exact ⟨fun n z => ⟨fun k h => (by cases h), k2, i2, p2, j2⟩, k2, p2, i2, j2, f2, n2⟩
    | 3, hq => cases hq; exact ⟨fun n z => ⟨fun k h => (by cases h), k3, i3, p3, j3⟩, k3, p3, i3, j3, f3, n3⟩
    | k + 4, hq => simp at hq
/-- from the entry, for every script of at most 260 ints, the law comes to its end with true -/
theorem whole_start {p : Program} {e : Env} {s : State} {m : MethodId} {below : List Frame} {meth : Method} {c : Code} (l : Launch) (hflags : l.flags = flags0) (hname : meth.name = x.name) {b L : Nat} {xs : Nat → Int32} (hL : L ≤ 260) (C0 : lw_At p s m meth c b L xs) : W p l e room_1 s m #[Value.ref b] below meth c s.heap [] 0 0 (lw_Z below #[Value.ref b] s) (entryFrame m ([Value.ref b] : List Value).toArray 14) := by
  obtain ⟨hx, hb, hr, hml, hown, hts, hX, hbl, hlocks, hgv⟩ := id C0
  obtain ⟨D, cA, hK⟩ := zknown hts
  obtain ⟨B, hB⟩ : ∃ B, s.heap.size = B + 1 := ⟨s.heap.size - 1, by omega⟩
  have ef : (fun j : Nat => Int32.ofInt ((fun i : Int => (xs i.toNat).toInt) (j : Int))) = xs := by
    funext j
    show Int32.ofInt (xs ((j : Int).toNat)).toInt = xs j
    rw [Int32.ofInt_toInt, Int.toNat_natCast]
  have hb9 := grc_bd L (fun i : Int => (xs i.toNat).toInt) 44
  have hC : zC (mL L (fun i : Int => (xs i.toNat).toInt)) 60 (grc L (fun i : Int => (xs i.toNat).toInt) 44 + 175) (grs L (fun i : Int => (xs i.toNat).toInt) 44 + 2980) (fun v _ _ => v = some (zI 1)) p l e room_1 s m #[Value.ref b] below meth c D cA B b (lw_Z below #[Value.ref b] s) := by
    refine ⟨hx, hb, hml, hown, hname, fun w hw => hts w (List.mem_filter.mp hw).1, fun w hw hn => va_Nw.of (zNest_on hn) (hts w hw), fun C hC => ?_, hK, ⟨Nat.le_of_ble_eq_true rfl, Nat.le_of_ble_eq_true rfl⟩, ⟨by show _ ≤ 600000; omega, by show _ ≤ 7302250; omega⟩, by omega, fun N f hs => ?_, ?_⟩
    · rcases List.mem_cons.mp hC with h | h
      · subst h; exact va_AO.of (hts _ zq_ring)
      · rcases List.mem_cons.mp h with h | h
        · subst h; exact va_AO.of (hts _ zq_sta)
        · exact absurd h List.not_mem_nil
    · cases hs
      refine ⟨?_, by omega, by omega, fun i => zin_to _⟩
      rw [ef]
      exact hX
    · intro v sp' me' H locs cells slots ls pc ins hq hw' hS hz hc1 hc2 hrt dg hvok
      subst hq
      have hins : ins = .ireturn := by
        rcases hrt with ⟨-, -, h⟩ | ⟨-, h, -⟩ | ⟨-, h, -⟩ | ⟨-, -, z, h⟩ | ⟨-, -, z, h⟩
        · cases h
        · exact h
        · exact h
        · cases h
        · cases h
      subst hins
      refine va_forget (fun q hq => ?_) ?_
      · have h := hS.2.2 q hq
        show s.heap.size ≤ q.base
        have h2 : B < q.base := h
        omega
      · refine W.widen (k := 600000) (n := 7302250) (by omega) (by omega) ?_
        refine W.base ?_
        exact lw_ret (Drawn.sameBut.refl s.drawn lw_cs) hx hb hr hlocks dg
  have K := law_go (d := 60) (Ns := L) (f := fun i : Int => (xs i.toNat).toInt) (Q := fun v _ _ => v = some (zI 1)) (sp := (fun _ => (0, 0), fun _ _ => none, 0)) (me := fun _ _ => 0) (by decide) rfl rfl rfl (fun _ _ => rfl)
  have hl : zlc B b ((lg_sl [Value.ref b] ++ List.replicate (14 - (lg_sl [Value.ref b]).length) Slot.unset).toArray) 14 [zR 0, zU, zU, zU, zU, zU, zU, zU, zU, zU, zU, zU, zU, zU] := zentry (B := B) (b := b) (nL := 14) (as := [zR 0]) (by simp) (by simp)
  rw [lg_entry_eq]
  refine K _ _ p l e room_1 s m #[Value.ref b] below meth c D cA B b _ hC s.heap [] 0 0 _ hl ⟨fun k q h => ?_, fun a h => absurd rfl h, fun a i => zin_0, fun a i h => ?_, fun a => ?_⟩ va_S.rf (by show B + 0 + 1 = s.heap.size + 0; omega) (Nat.zero_add _) (Nat.le_of_eq (Nat.zero_add _)) (fun v hv => ?_) (fun v hv => absurd hv List.not_mem_nil)
  · have h2 : ([] : va_W)[k]? = some q := h
    simp at h2
  · rcases h with h | h <;> cases h
  · show (0 : Nat) < 100000; decide
  · simp at hv
    rcases hv with h | h
    · subst h; exact zok_R
    · subst h; exact zok_U
end ZSTART
