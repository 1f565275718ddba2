section ZNEW
/-! objects that are made: what is in them, cell by cell -/
def zEq (sp sp' : zSP) (me me' : zMe) (b : Nat) : Prop := sp'.1 b = sp.1 b ∧ sp'.2.1 b = sp.2.1 b ∧ me' b = me b
theorem zEq.rf {sp : zSP} {me : zMe} {b : Nat} : zEq sp sp me me b := ⟨rfl, rfl, rfl⟩
theorem zEq.tr {sp1 sp2 sp3 : zSP} {m1 m2 m3 : zMe} {b : Nat} (h : zEq sp1 sp2 m1 m2 b) (g : zEq sp2 sp3 m2 m3 b) : zEq sp1 sp3 m1 m3 b := ⟨g.1.trans h.1, g.2.1.trans h.2.1, g.2.2.trans h.2.2⟩
def zLoc (lo hi : Nat) (X : zSP → zMe → Prop) : Prop := ∀ (sp sp' : zSP) (me me' : zMe), (∀ b, lo ≤ b → b ≤ hi → zEq sp sp' me me' b) → X sp me → X sp' me'
abbrev zCm : Type := Nat × Nat × (zSP → zMe → Prop)
/-- an object y that is being made: cells up to N, its references, what they hold -/
def zCo (y N : Nat) (sp0 sp : zSP) (me0 me : zMe) (P : Int → Option Nat) (Cs : List zCm) : Prop := sp.2.2 = N ∧ y ≤ N ∧ (∀ b, b < y → zEq sp0 sp me0 me b) ∧ sp.1 y = sp0.1 y ∧ me y = (fun _ => 0) ∧ sp.2.1 y = P ∧ ∀ c ∈ Cs, y < c.1 ∧ c.2.1 ≤ N ∧ zLoc c.1 c.2.1 c.2.2 ∧ c.2.2 sp me
theorem zCo_0 {y : Nat} {sp : zSP} {me : zMe} (hn : sp.2.2 = y) (hm : me y = (fun _ => 0)) (hp : sp.2.1 y = (fun _ => none)) : zCo y y sp sp me me (fun _ => none) [] :=
  ⟨hn, Nat.le_refl _, fun _ _ => zEq.rf, rfl, hm, hp, fun c hc => absurd hc List.not_mem_nil⟩
theorem zCo_new {y N N' : Nat} {sp0 sp sp' : zSP} {me0 me me' : zMe} {P P' : Int → Option Nat} {Cs : List zCm} {c : zCm} (h : zCo y N sp0 sp me0 me P Cs) (hs : ∀ b, b ≤ N → b ≠ y → zEq sp sp' me me' b) (h1 : sp'.1 y = sp.1 y) (h2 : me' y = me y) (h3 : sp'.2.1 y = P') (hN : sp'.2.2 = N') (hNN : N ≤ N' ∧ N < c.1 ∧ c.2.1 ≤ N') (hl : zLoc c.1 c.2.1 c.2.2) (hc : c.2.2 sp' me') : zCo y N' sp0 sp' me0 me' P' (c :: Cs) := by
  obtain ⟨a1, a2, a3, a4, a5, a6, a7⟩ := h
  refine ⟨hN, by omega, fun b hb => (a3 b hb).tr (hs b (by omega) (by omega)), h1.trans a4, h2.trans a5, h3, fun c' hc' => ?_⟩
  rcases List.mem_cons.mp hc' with e | hc'
  · subst e; exact ⟨by omega, hNN.2.2, hl, hc⟩
  · obtain ⟨b1, b2, b3, b4⟩ := a7 c' hc'
    exact ⟨b1, by omega, b3, b3 sp sp' me me' (fun b g1 g2 => hs b (by omega) (by omega)) b4⟩
/-- an array of zeroes -/
def zXa (kd : Nat × Nat) (a : Nat) : zSP → zMe → Prop := fun sp me => sp.1 a = kd ∧ me a = (fun _ => 0)
theorem zXa_lc (kd : Nat × Nat) (a : Nat) : zLoc a a (zXa kd a) := fun sp sp' me me' h hx => ⟨(h a (Nat.le_refl _) (Nat.le_refl _)).1.trans hx.1, (h a (Nat.le_refl _) (Nat.le_refl _)).2.2.trans hx.2⟩
/-- an array of references, nothing in it yet -/
def zXn (kd : Nat × Nat) (a : Nat) : zSP → zMe → Prop := fun sp me => sp.1 a = kd ∧ me a = (fun _ => 0) ∧ sp.2.1 a = (fun _ => none)
theorem zXn_lc (kd : Nat × Nat) (a : Nat) : zLoc a a (zXn kd a) := fun sp sp' me me' h hx => ⟨(h a (Nat.le_refl _) (Nat.le_refl _)).1.trans hx.1, (h a (Nat.le_refl _) (Nat.le_refl _)).2.2.trans hx.2.1, (h a (Nat.le_refl _) (Nat.le_refl _)).2.1.trans hx.2.2⟩
/-- a constructor: what it leaves -/
def zNew (M' : zMd) (dm mc ms ci : Nat) (X : Nat → zSP → zMe → Prop) : Prop := ∀ (d : Nat) (sp : zSP) (me : zMe) (Q : zQ) (a : Nat), dm ≤ d → sp.2.2 = a → sp.1 a = (10 + ci, zN ci) → sp.2.1 a = (fun _ => none) → me a = (fun _ => 0) → (∀ sp' me', sp'.2.2 = a + mc → (∀ b, b < a → zEq sp sp' me me' b) → X a sp' me' → Q none sp' me') → zCall M' d mc ms [zR a] sp me Q
section ZNW
variable {M M' : zMd} {d r1 r2 r1' r2' dm mc ms ci ci' y N N' idx idx2 idx3 pc pc' pc1 : Nat} {ki : Int} {Q : zQ} {L st : List zV} {sp sp0 : zSP} {me me0 : zMe} {P : Int → Option Nat} {Cs : List zCm} {X : Nat → zSP → zMe → Prop}
theorem z_naC {n : Int} (bo : Bool) (kn : Nat) (hC : zCo y N sp0 sp me0 me P Cs) (hs : sp0.1 y = (10 + ci, zN ci)) (hN' : N + 1 = N') (dg1 : decode M.2.1 pc = .ok (.newarray .int, 2)) (hp1 : pc + 2 = pc1) (h0 : 0 ≤ n) (h100 : n < 100000) (h1 : r1' + 1 = r1) (h2 : r2' + n.toNat = r2) (hf : zFp M.1.cls idx ci kn) (hki : (kn : Int) = ki) (hr : ∃ t, zTy ci kn = .array t) (hfin : (zT ci kn).2.2.2 = true) (hin : M.1.name = "<init>") (hdc : zRn ci = M.1.cls) (dg2 : decode M.2.1 pc1 = .ok (.putfield idx, 3)) (hp2 : pc1 + 3 = pc') (k : ∀ sp' me', zCo y N' sp0 sp' me0 me' (zup P ki (some N')) ((N', N', zXa (if bo = true then 2 else 1, n.toNat) N') :: Cs) → zW M d r1' r2' Q pc' L st sp' me') : zW M d r1 r2 Q pc L (zI n :: zR y :: st) sp me := by
  subst h1 h2 hN'
  have hC0 := hC
  obtain ⟨a1, a2, a3, a4, a5, a6, a7⟩ := hC0
  refine z_newarray bo dg1 hp1 h0 h100 (by omega) (by omega) ?_
  rw [Nat.add_sub_cancel, Nat.add_sub_cancel, a1]
  refine z_putRF kn hf hki (Or.inr hr) hfin hin hdc dg2 hp2 ?_ (by omega) ?_
  · show (zset sp.1 (N + 1) _ y).1 = 10 + ci
    rw [zset_ne _ _ _ (by omega), a4, hs]
  · refine k _ _ (zCo_new hC (fun b hb hby => ⟨zset_ne _ _ _ (by omega), ?_, zset_ne _ _ _ (by omega)⟩) (zset_ne _ _ _ (by omega)) (zset_ne _ _ _ (by omega)) ?_ rfl ⟨by omega, by show N < N + 1; omega, Nat.le_refl _⟩ (zXa_lc _ _) ⟨zset_eq _ _ _, zset_eq _ _ _⟩)
    · dsimp only
      rw [zset_ne _ _ _ hby, zset_ne _ _ _ (by omega)]
    · dsimp only
      rw [zset_eq, zset_ne _ _ _ (by omega), a6]
theorem z_naA {n : Int} (bo : Bool) (kn : Nat) (hC : zCo y N sp0 sp me0 me P Cs) (hs : sp0.1 y = (10 + ci, zN ci)) (hN' : N + 1 = N') (hlk : Jvm.Cond.classLink M.1.cls idx2 (if bo = true then RX7 else RX4) ∈ zG) (dg1 : decode M.2.1 pc = .ok (.anewarray idx2, 3)) (hp1 : pc + 3 = pc1) (h0 : 0 ≤ n) (h100 : n < 100000) (h1 : r1' + 1 = r1) (h2 : r2' + n.toNat = r2) (hf : zFp M.1.cls idx ci kn) (hki : (kn : Int) = ki) (hr : ∃ t, zTy ci kn = .array t) (hfin : (zT ci kn).2.2.2 = true) (hin : M.1.name = "<init>") (hdc : zRn ci = M.1.cls) (dg2 : decode M.2.1 pc1 = .ok (.putfield idx, 3)) (hp2 : pc1 + 3 = pc') (k : ∀ sp' me', zCo y N' sp0 sp' me0 me' (zup P ki (some N')) ((N', N', zXn (if bo = true then 4 else 3, n.toNat) N') :: Cs) → zW M d r1' r2' Q pc' L st sp' me') : zW M d r1 r2 Q pc L (zI n :: zR y :: st) sp me := by
  subst h1 h2 hN'
  have hC0 := hC
  obtain ⟨a1, a2, a3, a4, a5, a6, a7⟩ := hC0
  refine z_anew bo hlk dg1 hp1 h0 h100 (by omega) (by omega) ?_
  rw [Nat.add_sub_cancel, Nat.add_sub_cancel, a1]
  refine z_putRF kn hf hki (Or.inr hr) hfin hin hdc dg2 hp2 ?_ (by omega) ?_
  · show (zset sp.1 (N + 1) _ y).1 = 10 + ci
    rw [zset_ne _ _ _ (by omega), a4, hs]
  · refine k _ _ (zCo_new hC (fun b hb hby => ⟨zset_ne _ _ _ (by omega), ?_, zset_ne _ _ _ (by omega)⟩) (zset_ne _ _ _ (by omega)) (zset_ne _ _ _ (by omega)) ?_ rfl ⟨by omega, by show N < N + 1; omega, Nat.le_refl _⟩ (zXn_lc _ _) ⟨zset_eq _ _ _, zset_eq _ _ _, ?_⟩)
    · dsimp only
      rw [zset_ne _ _ _ hby, zset_ne _ _ _ (by omega)]
    · dsimp only
      rw [zset_eq, zset_ne _ _ _ (by omega), a6]
    · dsimp only
      rw [zset_ne _ _ _ (by omega), zset_eq]
/-- new, dup, the constructor -/
theorem z_nwi (hN : zNew M' dm mc ms ci' X) (hM : zMok M' 0) (hret0 : M'.2.2.2.1 = none) (hln : zLn M.1.cls idx ci') (dg1 : decode M.2.1 pc = .ok (.new idx, 3)) (dg2 : decode M.2.1 (pc + 3) = .ok (.dup, 1)) (hlk : zLi M.1.cls idx2 M'.1) (dg3 : decode M.2.1 (pc + 3 + 1) = .ok (.invokespecial idx2, 3)) (hp : pc + 3 + 1 + 3 = pc') (hd : dm + 1 ≤ d) (hlen : st.length ≤ 3) (h1 : r1' + (mc + 1) = r1) (h2 : r2' + (ms + zN ci') = r2) (k : ∀ sp' me', sp'.2.2 = sp.2.2 + 1 + mc → (∀ b, b ≤ sp.2.2 → zEq sp sp' me me' b) → X (sp.2.2 + 1) sp' me' → zW M d r1' r2' Q pc' L (zR (sp.2.2 + 1) :: st) sp' me') : zW M d r1 r2 Q pc L st sp me := by
  refine z_new hln dg1 rfl (by omega) (by omega) ?_
  refine z_dupR dg2 rfl ?_
  refine z_I0 (mc := mc) (ms := ms) (r1' := r1') (r2' := r2') hM hret0 hlk dg3 hp (by omega) (by rw [List.length_cons]; omega) (by omega) (by omega) ?_
  refine hN _ _ _ _ _ (by omega) rfl (zset_eq _ _ _) (zset_eq _ _ _) (zset_eq _ _ _) (fun sp' me' g1 g2 g3 => zK0_i (k sp' me' g1 (fun b hb => ?_) g3))
  have g := g2 b (by omega)
  exact ⟨g.1.trans (zset_ne _ _ _ (by omega)), g.2.1.trans (zset_ne _ _ _ (by omega)), g.2.2.trans (zset_ne _ _ _ (by omega))⟩
theorem z_nwC {z : Nat} (kn : Nat) (hC : zCo y N sp0 sp me0 me P Cs) (hs : sp0.1 y = (10 + ci, zN ci)) (hN' : N + 1 + mc = N') (hz : N + 1 = z) (hN : zNew M' dm mc ms ci' X) (hlc : ∀ a, zLoc a (a + mc) (X a)) (hM : zMok M' 0) (hret0 : M'.2.2.2.1 = none) (hln : zLn M.1.cls idx ci') (dg1 : decode M.2.1 pc = .ok (.new idx, 3)) (dg2 : decode M.2.1 (pc + 3) = .ok (.dup, 1)) (hlk : zLi M.1.cls idx2 M'.1) (dg3 : decode M.2.1 (pc + 3 + 1) = .ok (.invokespecial idx2, 3)) (hd : dm + 1 ≤ d) (hlen : st.length ≤ 2) (h1 : r1' + (mc + 1) = r1) (h2 : r2' + (ms + zN ci') = r2) (hf : zFp M.1.cls idx3 ci kn) (hki : (kn : Int) = ki) (hr : ∃ n, zTy ci kn = .object n) (hfin : (zT ci kn).2.2.2 = true) (hin : M.1.name = "<init>") (hdc : zRn ci = M.1.cls) (dg4 : decode M.2.1 (pc + 3 + 1 + 3) = .ok (.putfield idx3, 3)) (hp2 : pc + 3 + 1 + 3 + 3 = pc') (k : ∀ sp' me', zCo y N' sp0 sp' me0 me' (zup P ki (some z)) ((z, N', X z) :: Cs) → zW M d r1' r2' Q pc' L st sp' me') : zW M d r1 r2 Q pc L (zR y :: st) sp me := by
  subst hN' hz
  have hC0 := hC
  obtain ⟨a1, a2, a3, a4, a5, a6, a7⟩ := hC0
  refine z_nwi hN hM hret0 hln dg1 dg2 hlk dg3 rfl hd (by rw [List.length_cons]; omega) h1 h2 (fun sp1 me1 g1 g2 g3 => ?_)
  rw [a1] at g1 g2 g3 ⊢
  have gy := g2 y a2
  refine z_putRF kn hf hki (Or.inl hr) hfin hin hdc dg4 hp2 ?_ (by omega) ?_
  · rw [gy.1, a4, hs]
  · refine k _ _ (zCo_new hC (fun b hb hby => ⟨(g2 b hb).1, ?_, (g2 b hb).2.2⟩) gy.1 gy.2.2 ?_ g1 ⟨by omega, by show N < N + 1; omega, Nat.le_refl _⟩ ?_ ?_)
    · dsimp only
      rw [zset_ne _ _ _ hby]; exact (g2 b hb).2.1
    · dsimp only
      rw [zset_eq, gy.2.1, a6]
    · exact hlc (N + 1)
    · exact hlc (N + 1) sp1 _ me1 me1 (fun b hb1 hb2 => ⟨rfl, zset_ne _ _ _ (by omega), rfl⟩) g3
/-- a number 0 into a field of the object that is being made -/
theorem z_puC {x : Int} (kn : Nat) (hC : zCo y N sp0 sp me0 me P Cs) (hs : sp0.1 y = (10 + ci, zN ci)) (hx : x = 0) (hf : zFl M.1.cls idx ci kn) (hr : zTy ci kn = .int ∨ zTy ci kn = .boolean) (hfin : (zT ci kn).2.2.2 = false) (dg : decode M.2.1 pc = .ok (.putfield idx, 3)) (hp : pc + 3 = pc') (k : zW M d r1 r2 Q pc' L st sp me) : zW M d r1 r2 Q pc L (zI x :: zR y :: st) sp me := by
  subst hx
  obtain ⟨a1, a2, a3, a4, a5, a6, a7⟩ := hC
  refine z_putI kn hf rfl (hr.imp (fun h => h) (fun h => ⟨h, Or.inl rfl⟩)) hfin dg hp (by rw [a4, hs]) ?_
  have e : zup (me y) ((kn : Nat) : Int) 0 = me y := by
    rw [a5]
    funext j
    unfold zup
    split <;> rfl
  rw [e, zset_self]
  exact k
end ZNW
/-- an array that is being filled with objects of w cells -/
def zAr (a a0 w : Nat) (X : Nat → zSP → zMe → Prop) (i : Nat) (sp0 sp : zSP) (me0 me : zMe) : Prop := a < a0 ∧ sp.2.2 + 1 = a0 + w * i ∧ (∀ b, b < a0 → b ≠ a → zEq sp0 sp me0 me b) ∧ sp.1 a = sp0.1 a ∧ me a = me0 a ∧ ∀ j : Nat, j < i → sp.2.1 a (j : Int) = some (a0 + w * j) ∧ X (a0 + w * j) sp me
theorem zAr_0 {a a0 w : Nat} {X : Nat → zSP → zMe → Prop} {sp : zSP} {me : zMe} (h : a < a0) (hn : sp.2.2 + 1 = a0) : zAr a a0 w X 0 sp sp me me :=
  ⟨h, by rw [Nat.mul_zero]; omega, fun _ _ _ => zEq.rf, rfl, rfl, fun j hj => absurd hj (Nat.not_lt_zero j)⟩
theorem z_arr {M M' : zMd} {d r1 r2 r1' r2' dm mc ms ci a a0 i n kd idx idx2 pc pc' : Nat} {Q : zQ} {L st : List zV} {sp sp0 : zSP} {me me0 : zMe} {X : Nat → zSP → zMe → Prop} (hN : zNew M' dm mc ms ci X) (hlc : ∀ a, zLoc a (a + mc) (X a)) (hX1 : ∀ c sp me, X c sp me → (sp.1 c).1 = 10 + ci) (hM : zMok M' 0) (hret0 : M'.2.2.2.1 = none) (hln : zLn M.1.cls idx ci) (dg1 : decode M.2.1 pc = .ok (.new idx, 3)) (dg2 : decode M.2.1 (pc + 3) = .ok (.dup, 1)) (hlk : zLi M.1.cls idx2 M'.1) (dg3 : decode M.2.1 (pc + 3 + 1) = .ok (.invokespecial idx2, 3)) (dg4 : decode M.2.1 (pc + 3 + 1 + 3) = .ok (.aastore, 1)) (hp : pc + 3 + 1 + 3 + 1 = pc') (hd : dm + 1 ≤ d) (hlen : st.length ≤ 1) (h1 : r1' + (mc + 1) = r1) (h2 : r2' + (ms + zN ci) = r2) (hA : zAr a a0 (mc + 1) X i sp0 sp me0 me) (hk : sp0.1 a = (kd, n)) (hkd : (kd = 3 ∧ ci = 4) ∨ (kd = 4 ∧ ci = 7)) (hi : i < n) (k : ∀ sp' me', zAr a a0 (mc + 1) X (i + 1) sp0 sp' me0 me' → zW M d r1' r2' Q pc' L st sp' me') : zW M d r1 r2 Q pc L (zI (i : Int) :: zR a :: st) sp me := by
  obtain ⟨a1, a2, a3, a4, a5, a6⟩ := hA
  refine z_nwi hN hM hret0 hln dg1 dg2 hlk dg3 rfl hd (by rw [List.length_cons, List.length_cons]; omega) h1 h2 (fun sp1 me1 g1 g2 g3 => ?_)
  rw [a2] at g3 ⊢
  have hle : a0 ≤ a0 + (mc + 1) * i := Nat.le_add_right _ _
  have ga := g2 a (by omega)
  have hc := hX1 _ _ _ g3
  refine z_aastore dg4 hp (by rw [ga.1, a4, hk, hc]; rcases hkd with ⟨e1, e2⟩ | ⟨e1, e2⟩ <;> subst e1 e2 <;> simp) (by omega) (by rw [ga.1, a4, hk]; dsimp only; omega) ?_
  refine k _ _ ⟨a1, ?_, fun b hb hba => ?_, ga.1.trans a4, ga.2.2.trans a5, fun j hj => ?_⟩
  · show sp1.2.2 + 1 = a0 + (mc + 1) * (i + 1)
    rw [Nat.mul_succ]; omega
  · refine (a3 b hb hba).tr ⟨(g2 b (by omega)).1, ?_, (g2 b (by omega)).2.2⟩
    dsimp only
    rw [zset_ne _ _ _ hba]; exact (g2 b (by omega)).2.1
  · dsimp only
    rw [zset_eq]
    by_cases e : j = i
    · subst e
      rw [zup_eq]
      exact ⟨rfl, hlc _ sp1 _ me1 me1 (fun b hb1 hb2 => ⟨rfl, zset_ne _ _ _ (by omega), rfl⟩) g3⟩
    · have hj2 : j < i := by omega
      have h6 := a6 j hj2
      have hm := Nat.mul_le_mul_left (mc + 1) (show j + 1 ≤ i from hj2)
      rw [Nat.mul_succ] at hm
      rw [zup_ne _ _ _ (by omega), ga.2.1]
      refine ⟨h6.1, hlc _ sp _ me me1 (fun b hb1 hb2 => ⟨(g2 b (by omega)).1, ?_, (g2 b (by omega)).2.2⟩) h6.2⟩
      have hle2 : a0 ≤ a0 + (mc + 1) * j := Nat.le_add_right _ _
      dsimp only
      rw [zset_ne _ _ _ (by omega)]; exact (g2 b (by omega)).2.1
end ZNEW

