section ZMORE
variable {M : zMd} {d r1 r2 : Nat} {Q : zQ} {pc pc' tgt : Nat} {L L' st : List zV} {sp : zSP} {me : zMe}
def zxor (x y : Int) : Int := (Int32.ofInt x ^^^ Int32.ofInt y).toInt
def zw32 (x : Int) : Int := (Int32.ofInt x).toInt
def zsar (x y : Int) : Int := (Int32.ofInt x >>> (Int32.ofInt y &&& 31)).toInt
theorem z_ldcI {idx : Nat} {v : Int} (dg : decode M.2.1 pc = .ok (.ldc idx, 2)) (hp : pc + 2 = pc') (hc : Jvm.Cond.constant M.1.cls idx (Int32.ofInt v) ∈ zG) (hr : zin v) (k : zW M d r1 r2 Q pc' L (zI v :: st) sp me) : zW M d r1 r2 Q pc L (st) sp me := by
  intro k1 k2 p l e R s m args below meth c D cA B b Fin C H locs cells slots ls hl hw hS hz hr1 hr2 hL hst
  have K := k k1 k2 p l e R s m args below meth c D cA B b Fin C H locs cells slots ls hl hw hS hz hr1 hr2 hL (zsc (zok_I hr) hst)
  have C0 := C
  obtain ⟨hx, hb, hml, hown, hname, hts, hnw, hao, hK, hroom, hbud, hBs, hscr, hret⟩ := C0
  subst hp
  show W p l e R s m args below meth c H locs cells slots Fin (F0 m pc ls (st.map (ztr B b)))
  refine lv_ldc hx hb hown (hts _ hc) dg ?_
  exact K
theorem z_ixor {x y : Int} (dg : decode M.2.1 pc = .ok (.ixor, 1)) (hp : pc + 1 = pc')  (k : zW M d r1 r2 Q pc' L (zI (zxor x y) :: st) sp me) : zW M d r1 r2 Q pc L (zI y :: zI x :: st) sp me := by
  intro k1 k2 p l e R s m args below meth c D cA B b Fin C H locs cells slots ls hl hw hS hz hr1 hr2 hL hst
  have K := k k1 k2 p l e R s m args below meth c D cA B b Fin C H locs cells slots ls hl hw hS hz hr1 hr2 hL (zsc (zok_I (zin_to _)) (zs1 (zs1 hst)))
  have C0 := C
  obtain ⟨hx, hb, hml, hown, hname, hts, hnw, hao, hK, hroom, hbud, hBs, hscr, hret⟩ := C0
  subst hp
  have hy : zin y := zs0 hst
  have hxx : zin x := zs0 (zs1 hst)
  show W p l e R s m args below meth c H locs cells slots Fin (F0 m pc ls (.int (Int32.ofInt y) :: .int (Int32.ofInt x) :: st.map (ztr B b)))
  refine lv_ixor hx hb dg ?_
  have e : Int32.ofInt (zxor x y) = Int32.ofInt x ^^^ Int32.ofInt y := Int32.ofInt_toInt _
  rw [← e]; exact K
theorem z_imulw {x y : Int} (dg : decode M.2.1 pc = .ok (.imul, 1)) (hp : pc + 1 = pc')  (k : zW M d r1 r2 Q pc' L (zI (zw32 (x * y)) :: st) sp me) : zW M d r1 r2 Q pc L (zI y :: zI x :: st) sp me := by
  intro k1 k2 p l e R s m args below meth c D cA B b Fin C H locs cells slots ls hl hw hS hz hr1 hr2 hL hst
  have K := k k1 k2 p l e R s m args below meth c D cA B b Fin C H locs cells slots ls hl hw hS hz hr1 hr2 hL (zsc (zok_I (zin_to _)) (zs1 (zs1 hst)))
  have C0 := C
  obtain ⟨hx, hb, hml, hown, hname, hts, hnw, hao, hK, hroom, hbud, hBs, hscr, hret⟩ := C0
  subst hp
  have hy : zin y := zs0 hst
  have hxx : zin x := zs0 (zs1 hst)
  show W p l e R s m args below meth c H locs cells slots Fin (F0 m pc ls (.int (Int32.ofInt y) :: .int (Int32.ofInt x) :: st.map (ztr B b)))
  refine lv_imul hx hb dg ?_
  have e : Int32.ofInt (zw32 (x * y)) = Int32.ofInt x * Int32.ofInt y := (Int32.ofInt_toInt _).trans (Int32.ofInt_mul x y)
  rw [← e]; exact K
theorem z_ishra {x y : Int} (dg : decode M.2.1 pc = .ok (.ishr, 1)) (hp : pc + 1 = pc')  (k : zW M d r1 r2 Q pc' L (zI (zsar x y) :: st) sp me) : zW M d r1 r2 Q pc L (zI y :: zI x :: st) sp me := by
  intro k1 k2 p l e R s m args below meth c D cA B b Fin C H locs cells slots ls hl hw hS hz hr1 hr2 hL hst
  have K := k k1 k2 p l e R s m args below meth c D cA B b Fin C H locs cells slots ls hl hw hS hz hr1 hr2 hL (zsc (zok_I (zin_to _)) (zs1 (zs1 hst)))
  have C0 := C
  obtain ⟨hx, hb, hml, hown, hname, hts, hnw, hao, hK, hroom, hbud, hBs, hscr, hret⟩ := C0
  subst hp
  have hy : zin y := zs0 hst
  have hxx : zin x := zs0 (zs1 hst)
  show W p l e R s m args below meth c H locs cells slots Fin (F0 m pc ls (.int (Int32.ofInt y) :: .int (Int32.ofInt x) :: st.map (ztr B b)))
  refine lv_ishr hx hb dg ?_
  have e : Int32.ofInt (zsar x y) = Int32.ofInt x >>> (Int32.ofInt y &&& 31) := Int32.ofInt_toInt _
  rw [← e]; exact K
theorem uL_7 : Jvm.Cond.constant RL 7 (Int32.ofInt 999202637) ∈ zG := zG_of (List.mem_of_getElem? (i := 281) (by decide +kernel)) (by decide +kernel)
theorem uL_8 : Jvm.Cond.constant RL 8 (Int32.ofInt 2147483647) ∈ zG := zG_of (List.mem_of_getElem? (i := 285) (by decide +kernel)) (by decide +kernel)
def zXc (M : zMd) (B b : Nat) (U : State) : Prop := ∀ N f, M.2.2.2.2 = some (N, f) → va_X b N (fun j => Int32.ofInt (f (j : Int))) U U.heap ∧ b ≤ B ∧ N < 100000 ∧ ∀ i, zin (f i)
theorem z_metX {M : zMd} {d mc ms : Nat} {as : List zV} {sp : zSP} {me : zMe} {Q : zQ} (h1 : plainName M.1.cls = true) (hn : ∀ v ∈ as, ∀ x, v ≠ zD x) (hle : as.length ≤ M.2.2.1) (k : zW M d mc ms Q 0 (zen as M.2.2.1) [] sp me) (l : Launch) (D : va_G) (cA : Nat → ClassId) (B b : Nat) : Met l M.1 (zwo M) (zrm d mc ms) (fun args U => zPc D cA B b as sp me args U ∧ zXc M B b U) (zQc D cA B b (sp.2.2 + mc) Q) mc ms (zA B) := by
  refine Met.ofW (cc := M.2.1) (maxL := M.2.2.1) (ret := M.2.2.2.1) h1 rfl ?_
  intro p e s m args below meth c s₁ BL hml hv
  obtain ⟨⟨rfl, hw, hsz, hK, hnw, hao, hok⟩, hX⟩ := hv
  have hts0 := atoms_spec (ws := zwo M) BL.pre
  have hts : ∀ w ∈ zG, w.before (as.map (ztr B b)).toArray s = true := fun w h => hts0 w (List.mem_cons_of_mem _ h)
  have hown : s.vm.findClass M.1.cls = some m.cls := findClass_of_methodNamed BL.named
  have hname : meth.name = M.1.name := (name_of_methodNamed BL.named BL.method).1
  have hlocks := BL.notSynchronized
  have hbl : ∀ q, s.heap.size ≤ q → zA B q := fun q hq => by show B < q; omega
  rw [lg_entry_eq]
  refine k mc ms p l e (headSpec (zwo M) (zrm d mc ms)).room s m _ below meth c D cA B b _ ?_ s.heap [] 0 0 _ (zentry hn hle) hw va_S.rf (by omega) (by omega) (by omega) ?_ (fun v hv => absurd hv List.not_mem_nil)
  · refine ⟨BL.exec, BL.bytes, hml, hown, hname, hts, hnw, hao, hK, ⟨Nat.le_refl _, Nat.le_refl _⟩, ⟨Nat.le_refl _, Nat.le_refl _⟩, by omega, fun N f hs => ?_, ?_⟩
    · exact hX N f hs
    · intro v sp' me' H locs cells slots ls pc ins hq hw' hS hz hc1 hc2 hrt dg hvok
      subst hc1
      refine W.widen (k := cells) (n := ms) (Nat.le_refl _) hc2 ?_
      have hF : ∀ t : State, t.heap = H → va_F (zA B) s t := fun t ht => hS.F ht
      have hn2 : sp'.2.2 = sp.2.2 + cells := by omega
      have hPost : ∀ t : State, t.heap = H → s.WarmedH t.vm → zQc D cA B b (sp.2.2 + cells) Q (as.map (ztr B b)).toArray s (.returned (v.map (ztr B b))) t := fun t ht _ => ⟨⟨v, sp', me', rfl, hq, by rw [ht]; exact hw', hn2, hvok⟩, hF t ht⟩
      have hr := BL.returns
      rcases hrt with ⟨h1, rfl, rfl⟩ | ⟨h1, rfl, i, rfl⟩ | ⟨h1, rfl, i, rfl, h01⟩ | ⟨h1, rfl, x, rfl⟩ | ⟨⟨C, h1⟩, rfl, a, rfl⟩
      · exact W.vret BL.exec BL.bytes (hr.trans h1) hPost hS.2.2 dg
      · exact W.iret BL.exec BL.bytes (hr.trans h1) hPost hS.2.2 dg
      · exact W.zret BL.exec BL.bytes (hr.trans h1) (by rcases h01 with rfl | rfl <;> decide) hPost hS.2.2 dg
      · exact W.dret BL.exec BL.bytes (hr.trans h1) hPost hS.2.2 dg
      · exact W.aret BL.exec BL.bytes (hr.trans h1) (Or.inl ⟨C, rfl⟩) (Or.inr ⟨_, rfl⟩) hPost hS.2.2 dg
  · intro v hv
    unfold zen at hv
    rcases List.mem_append.mp hv with h | h
    · exact hok v h
    · rw [List.eq_of_mem_replicate h]; exact zok_U
theorem zPX_blind {D : va_G} {cA : Nat → ClassId} {B b : Nat} {as : List zV} {M' : zMd} : FrameBlind (fun args U => zPc D cA B b as sp me args U ∧ zXc M' B b U) := by
  intro a U g mk ⟨h, hx⟩
  refine ⟨zPc_blind a U g mk h, fun N f hs => ?_⟩
  have q := hx N f hs
  exact ⟨va_X.moved (U := U.calling g mk a) (Vm.Alike.refl U.vm) q.1, q.2⟩
theorem z_SX {M' : zMd} {d' mc ms n : Nat} {As rest : List zV} {Q' : zQ} {idx : Nat} (h01 : plainName M'.1.cls = true) (h02 : M'.2.2.1 ≤ 40) (h03 : Jvm.Cond.code M'.1 M'.2.1 M'.2.2.1 M'.2.2.2.1 ∈ zG) (h04 : M'.1.cls ≠ "java/lang/invoke/MethodHandle" ∧ M'.1.cls ≠ "java/lang/invoke/VarHandle" ∧ (parseMethodDescriptor M'.1.desc).map (fun d => d.parameters.length) = some n) (hsame : M'.2.2.2.2 = M.2.2.2.2) (hlk : Jvm.Cond.static M'.1 ∈ zG ∧ Jvm.Cond.initialized M'.1.cls ∈ zG ∧ Jvm.Cond.methodLink M.1.cls idx M'.1 ∈ zG) (dg : decode M.2.1 pc = .ok (.invokestatic idx, 3)) (hp : pc + 3 = pc') (hn : As.length = n) (hd : d' + 1 ≤ d) (hlen : rest.length ≤ 4) (h1 : mc ≤ r1) (h2 : ms ≤ r2) (hst0 : As.reverse ++ rest = st) (hn1 : ∀ v ∈ As, ∀ x, v ≠ zD x) (hle : As.length ≤ M'.2.2.1) (hcall : zW M' d' mc ms Q' 0 (zen As M'.2.2.1) [] sp me) (hQ : ∀ v sp' me', Q' v sp' me' → zW M d (r1 - mc) (r2 - ms) Q pc' L (v.toList ++ rest) sp' me') : zW M d r1 r2 Q pc L st sp me := by
  intro k1 k2 p l e R s m args below meth c D cA B b Fin C H locs cells slots ls hl hw hS hz hr1 hr2 hL hst
  have C0 := C
  obtain ⟨hx, hb, hml, hown, hname, hts, hnw, hao, hK, hroom, hbud, hBs, hscr, hret⟩ := C0
  subst hp
  subst hst0
  intro T hT X
  have hsz := zsize C hw hS hz hT X
  have hM1 := z_metX h01 hn1 hle hcall l D cA B b
  have h8 := zsum B b rest
  have hmaxL := h02
  have hrr : (zrm d' mc ms).frames + 1 ≤ R.frames ∧ 8 + (M'.2.2.1 + 11) + (zrm d' mc ms).locals ≤ R.locals := ⟨by show d' + 1 ≤ _; omega, by show 8 + (M'.2.2.1 + 11) + (64 * d' + 64) ≤ _; omega⟩
  have hbd : cells + mc ≤ R.cells ∧ slots + ms ≤ R.slots := ⟨by omega, by omega⟩
  have PS : PreS s H (fun args U => zPc D cA B b As sp me args U ∧ zXc M' B b U) (As.map (ztr B b)) := ⟨zPX_blind, fun U hU hW => ⟨⟨rfl, by rw [hU]; exact hw, by rw [hU]; exact hsz, va_K.moved hW.alike hK, fun w hw1 hn1 => zNest_warm hn1 hW (hnw w hw1 hn1), fun C hC => va_AO.moved hW.alike (hao C hC), fun v hv => hst v (by simp [hv])⟩, fun N f hs => by
    have g := hscr N f (by rw [← hsame]; exact hs)
    refine ⟨?_, g.2⟩
    rw [hU]
    obtain ⟨scr, q1, q2⟩ := g.1
    have hlt : b < s.heap.size := by omega
    exact va_X.moved hW.alike (va_X.kept g.1 (hS.2.1 b hlt (fun z => by have z2 : B < b := z; have := g.2.1; omega)))⟩⟩
  have hstk : (F0 m pc ls ((As.reverse ++ rest).map (ztr B b))).stack = (As.map (ztr B b)).reverse ++ rest.map (ztr B b) := by
    show (As.reverse ++ rest).map (ztr B b) = _
    rw [List.map_append, List.map_reverse]
  have hd4 := h04
  exact z_after (va_runS (Ts := zG) ⟨hx, hb, hml, hown, hts⟩ hM1 ⟨callB_of n hts (zgood (fun w hw => by
    unfold zwo at hw
    rcases List.mem_cons.mp hw with rfl | hw
    · exact h03
    · exact hw)) rfl rfl rfl (hts _ hlk.2.1) (hts _ hlk.2.2) hd4 hrr, hts _ hlk.1⟩ PS rfl (by rw [List.length_map]; exact hn) hl.1 hstk (lv_room (by omega)) dg hbd) hS (fun v sp' me' H1 locs1 hq hw1 hn1 hvok hS1 => by
    have e1 : (v.map (ztr B b)).toList ++ rest.map (ztr B b) = (v.toList ++ rest).map (ztr B b) := by cases v <;> rfl
    rw [e1]
    exact hQ v sp' me' hq k1 k2 p l e R s m args below meth c D cA B b Fin C H1 locs1 (cells + mc) (slots + ms) ls hl hw1 hS1 (by omega) (by omega) (by omega) hL (fun x hx2 => by
      rcases List.mem_append.mp hx2 with h | h
      · exact hvok x (by cases v <;> simp at h; rw [h])
      · exact hst x (by simp [h]))) T hT X
abbrev mLcell (N : Nat) (f : Int → Int) : zMd := (yL_cell, cL_cell, 2, some .int, some (N, f))
def zcv (N : Nat) (f : Int → Int) (k : Int) : Int := if k < (N : Int) then f k else zw32 (999202637 * (k + 1))
end ZMORE
