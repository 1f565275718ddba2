section ZR2
variable {M : zMd} {d r1 r2 : Nat} {Q : zQ} {pc pc' n a : Nat} {L st : List zV} {sp : zSP} {me : zMe} {i x : Int}
theorem z_ild (dg : decode M.2.1 pc = .ok (.iaload, 1)) (hp : pc + 1 = pc') (hs : sp.1 a = (1, n)) (h0 : 0 ≤ i) (h1 : i < (n : Int)) (k : zW M d r1 r2 Q pc' L (zI (me a i) :: st) sp me) : zW M d r1 r2 Q pc L (zI i :: zR a :: st) sp me := z_iaload dg hp (by rw [hs]) h0 (by rw [hs]; exact h1) k
theorem z_ist (dg : decode M.2.1 pc = .ok (.iastore, 1)) (hp : pc + 1 = pc') (hs : sp.1 a = (1, n)) (h0 : 0 ≤ i) (h1 : i < (n : Int)) (k : zW M d r1 r2 Q pc' L st sp (zset me a (zup (me a) i x))) : zW M d r1 r2 Q pc L (zI x :: zI i :: zR a :: st) sp me := z_iastore dg hp (by rw [hs]) h0 (by rw [hs]; exact h1) k
theorem z_al (dg : decode M.2.1 pc = .ok (.arraylength, 1)) (hp : pc + 1 = pc') (hs : sp.1 a = (1, n)) (k : zW M d r1 r2 Q pc' L (zI (n : Int) :: st) sp me) : zW M d r1 r2 Q pc L (zR a :: st) sp me := z_alen dg hp (by rw [hs]) (by rw [hs]; exact k)
theorem z_qld {a' : Nat} (kd : Nat) (dg : decode M.2.1 pc = .ok (.aaload, 1)) (hp : pc + 1 = pc') (hs : sp.1 a = (kd, n)) (hk : kd = 3 ∨ kd = 4) (h0 : 0 ≤ i) (h1 : i < (n : Int)) (hv : sp.2.1 a i = some a') (k : zW M d r1 r2 Q pc' L (zR a' :: st) sp me) : zW M d r1 r2 Q pc L (zI i :: zR a :: st) sp me := z_aaload dg hp (by rw [hs]; exact hk) h0 (by rw [hs]; exact h1) hv k
theorem zwf_out (h : zwf sp me) (hs : sp.1 a = (1, n)) (hi : ¬ (0 ≤ i ∧ i < (n : Int))) : me a i = 0 := h.2.2.1 a i (Or.inl (by rw [hs])) (by rw [hs]; exact hi)
end ZR2

def zRing (sp : zSP) (a : Nat) : Prop := sp.1 a = (14, 4) ∧ sp.2.1 a 0 = some (a + 1) ∧ sp.2.1 a 1 = some (a + 2) ∧ sp.2.1 a 2 = some (a + 3) ∧ sp.2.1 a 3 = some (a + 4) ∧ sp.1 (a + 1) = (1, 10) ∧ sp.1 (a + 2) = (1, 10) ∧ sp.1 (a + 3) = (1, 10) ∧ sp.1 (a + 4) = (1, 10)
theorem zRing.sh {sp : zSP} {a : Nat} (h : zRing sp a) : sp.1 a = (14, 4) := h.1
theorem zRing.p0 {sp : zSP} {a : Nat} (h : zRing sp a) : sp.2.1 a 0 = some (a + 1) := h.2.1
theorem zRing.p1 {sp : zSP} {a : Nat} (h : zRing sp a) : sp.2.1 a 1 = some (a + 2) := h.2.2.1
theorem zRing.p2 {sp : zSP} {a : Nat} (h : zRing sp a) : sp.2.1 a 2 = some (a + 3) := h.2.2.2.1
theorem zRing.p3 {sp : zSP} {a : Nat} (h : zRing sp a) : sp.2.1 a 3 = some (a + 4) := h.2.2.2.2.1
theorem zRing.a1 {sp : zSP} {a : Nat} (h : zRing sp a) : sp.1 (a + 1) = (1, 10) := h.2.2.2.2.2.1
theorem zRing.a2 {sp : zSP} {a : Nat} (h : zRing sp a) : sp.1 (a + 2) = (1, 10) := h.2.2.2.2.2.2.1
theorem zRing.a3 {sp : zSP} {a : Nat} (h : zRing sp a) : sp.1 (a + 3) = (1, 10) := h.2.2.2.2.2.2.2.1
theorem zRing.a4 {sp : zSP} {a : Nat} (h : zRing sp a) : sp.1 (a + 4) = (1, 10) := h.2.2.2.2.2.2.2.2
theorem zRing.s {sp : zSP} {a : Nat} (h : zRing sp a) : (sp.1 a).1 = 10 + 4 := by rw [h.sh]
def zHold (sp : zSP) (a : Nat) : Prop := sp.1 a = (12, 2) ∧ sp.2.1 a 0 = some (a + 1) ∧ sp.1 (a + 1) = (1, 10)
theorem zHold.sh {sp : zSP} {a : Nat} (h : zHold sp a) : sp.1 a = (12, 2) := h.1
theorem zHold.p0 {sp : zSP} {a : Nat} (h : zHold sp a) : sp.2.1 a 0 = some (a + 1) := h.2.1
theorem zHold.a1 {sp : zSP} {a : Nat} (h : zHold sp a) : sp.1 (a + 1) = (1, 10) := h.2.2
theorem zHold.s {sp : zSP} {a : Nat} (h : zHold sp a) : (sp.1 a).1 = 10 + 2 := by rw [h.sh]
def zFigs (sp : zSP) (a : Nat) : Prop := sp.1 a = (10, 2) ∧ sp.2.1 a 0 = some (a + 1) ∧ sp.2.1 a 1 = some (a + 2) ∧ sp.1 (a + 1) = (1, 8) ∧ sp.1 (a + 2) = (1, 80)
theorem zFigs.sh {sp : zSP} {a : Nat} (h : zFigs sp a) : sp.1 a = (10, 2) := h.1
theorem zFigs.p0 {sp : zSP} {a : Nat} (h : zFigs sp a) : sp.2.1 a 0 = some (a + 1) := h.2.1
theorem zFigs.p1 {sp : zSP} {a : Nat} (h : zFigs sp a) : sp.2.1 a 1 = some (a + 2) := h.2.2.1
theorem zFigs.a1 {sp : zSP} {a : Nat} (h : zFigs sp a) : sp.1 (a + 1) = (1, 8) := h.2.2.2.1
theorem zFigs.a2 {sp : zSP} {a : Nat} (h : zFigs sp a) : sp.1 (a + 2) = (1, 80) := h.2.2.2.2
theorem zFigs.s {sp : zSP} {a : Nat} (h : zFigs sp a) : (sp.1 a).1 = 10 + 0 := by rw [h.sh]
def zSta (sp : zSP) (a : Nat) : Prop := sp.1 a = (17, 6) ∧ sp.2.1 a 0 = some (a + 1) ∧ sp.2.1 a 1 = some (a + 6) ∧ sp.2.1 a 2 = some (a + 8) ∧ zRing sp (a + 1) ∧ zHold sp (a + 6) ∧ zFigs sp (a + 8)
theorem zSta.sh {sp : zSP} {a : Nat} (h : zSta sp a) : sp.1 a = (17, 6) := h.1
theorem zSta.p0 {sp : zSP} {a : Nat} (h : zSta sp a) : sp.2.1 a 0 = some (a + 1) := h.2.1
theorem zSta.p1 {sp : zSP} {a : Nat} (h : zSta sp a) : sp.2.1 a 1 = some (a + 6) := h.2.2.1
theorem zSta.p2 {sp : zSP} {a : Nat} (h : zSta sp a) : sp.2.1 a 2 = some (a + 8) := h.2.2.2.1
theorem zSta.o1 {sp : zSP} {a : Nat} (h : zSta sp a) : zRing sp (a + 1) := h.2.2.2.2.1
theorem zSta.o6 {sp : zSP} {a : Nat} (h : zSta sp a) : zHold sp (a + 6) := h.2.2.2.2.2.1
theorem zSta.o8 {sp : zSP} {a : Nat} (h : zSta sp a) : zFigs sp (a + 8) := h.2.2.2.2.2.2
theorem zSta.s {sp : zSP} {a : Nat} (h : zSta sp a) : (sp.1 a).1 = 10 + 7 := by rw [h.sh]
def zHis (sp : zSP) (a : Nat) : Prop := sp.1 a = (11, 3) ∧ sp.2.1 a 0 = some (a + 1) ∧ sp.1 (a + 1) = (4, 5) ∧ ∀ i : Int, 0 ≤ i → i < 5 → sp.2.1 (a + 1) i = some (a + 2 + 11 * i.toNat) ∧ zSta sp (a + 2 + 11 * i.toNat)
theorem zHis.sh {sp : zSP} {a : Nat} (h : zHis sp a) : sp.1 a = (11, 3) := h.1
theorem zHis.p0 {sp : zSP} {a : Nat} (h : zHis sp a) : sp.2.1 a 0 = some (a + 1) := h.2.1
theorem zHis.a1 {sp : zSP} {a : Nat} (h : zHis sp a) : sp.1 (a + 1) = (4, 5) := h.2.2.1
theorem zHis.q {sp : zSP} {a : Nat} (h : zHis sp a) : ∀ i : Int, 0 ≤ i → i < 5 → sp.2.1 (a + 1) i = some (a + 2 + 11 * i.toNat) ∧ zSta sp (a + 2 + 11 * i.toNat) := h.2.2.2
theorem zHis.s {sp : zSP} {a : Nat} (h : zHis sp a) : (sp.1 a).1 = 10 + 1 := by rw [h.sh]
def zScr (sp : zSP) (a : Nat) : Prop := sp.1 a = (15, 2) ∧ sp.2.1 a 0 = some (a + 1) ∧ sp.1 (a + 1) = (1, 80)
theorem zScr.sh {sp : zSP} {a : Nat} (h : zScr sp a) : sp.1 a = (15, 2) := h.1
theorem zScr.p0 {sp : zSP} {a : Nat} (h : zScr sp a) : sp.2.1 a 0 = some (a + 1) := h.2.1
theorem zScr.a1 {sp : zSP} {a : Nat} (h : zScr sp a) : sp.1 (a + 1) = (1, 80) := h.2.2
theorem zScr.s {sp : zSP} {a : Nat} (h : zScr sp a) : (sp.1 a).1 = 10 + 5 := by rw [h.sh]
def zPlan (sp : zSP) (a : Nat) : Prop := sp.1 a = (13, 6) ∧ sp.2.1 a 0 = some (a + 1) ∧ sp.2.1 a 1 = some (a + 2) ∧ sp.2.1 a 2 = some (a + 3) ∧ sp.2.1 a 3 = some (a + 4) ∧ sp.2.1 a 4 = some (a + 5) ∧ sp.2.1 a 5 = some (a + 6) ∧ sp.1 (a + 1) = (1, 8) ∧ sp.1 (a + 2) = (1, 960) ∧ sp.1 (a + 3) = (1, 8) ∧ sp.1 (a + 4) = (1, 8) ∧ sp.1 (a + 5) = (3, 8) ∧ zRing sp (a + 6) ∧ ∀ i : Int, 0 ≤ i → i < 8 → sp.2.1 (a + 5) i = some (a + 11 + 5 * i.toNat) ∧ zRing sp (a + 11 + 5 * i.toNat)
theorem zPlan.sh {sp : zSP} {a : Nat} (h : zPlan sp a) : sp.1 a = (13, 6) := h.1
theorem zPlan.p0 {sp : zSP} {a : Nat} (h : zPlan sp a) : sp.2.1 a 0 = some (a + 1) := h.2.1
theorem zPlan.p1 {sp : zSP} {a : Nat} (h : zPlan sp a) : sp.2.1 a 1 = some (a + 2) := h.2.2.1
theorem zPlan.p2 {sp : zSP} {a : Nat} (h : zPlan sp a) : sp.2.1 a 2 = some (a + 3) := h.2.2.2.1
theorem zPlan.p3 {sp : zSP} {a : Nat} (h : zPlan sp a) : sp.2.1 a 3 = some (a + 4) := h.2.2.2.2.1
theorem zPlan.p4 {sp : zSP} {a : Nat} (h : zPlan sp a) : sp.2.1 a 4 = some (a + 5) := h.2.2.2.2.2.1
theorem zPlan.p5 {sp : zSP} {a : Nat} (h : zPlan sp a) : sp.2.1 a 5 = some (a + 6) := h.2.2.2.2.2.2.1
theorem zPlan.a1 {sp : zSP} {a : Nat} (h : zPlan sp a) : sp.1 (a + 1) = (1, 8) := h.2.2.2.2.2.2.2.1
theorem zPlan.a2 {sp : zSP} {a : Nat} (h : zPlan sp a) : sp.1 (a + 2) = (1, 960) := h.2.2.2.2.2.2.2.2.1
theorem zPlan.a3 {sp : zSP} {a : Nat} (h : zPlan sp a) : sp.1 (a + 3) = (1, 8) := h.2.2.2.2.2.2.2.2.2.1
theorem zPlan.a4 {sp : zSP} {a : Nat} (h : zPlan sp a) : sp.1 (a + 4) = (1, 8) := h.2.2.2.2.2.2.2.2.2.2.1
theorem zPlan.a5 {sp : zSP} {a : Nat} (h : zPlan sp a) : sp.1 (a + 5) = (3, 8) := h.2.2.2.2.2.2.2.2.2.2.2.1
theorem zPlan.o6 {sp : zSP} {a : Nat} (h : zPlan sp a) : zRing sp (a + 6) := h.2.2.2.2.2.2.2.2.2.2.2.2.1
theorem zPlan.q {sp : zSP} {a : Nat} (h : zPlan sp a) : ∀ i : Int, 0 ≤ i → i < 8 → sp.2.1 (a + 5) i = some (a + 11 + 5 * i.toNat) ∧ zRing sp (a + 11 + 5 * i.toNat) := h.2.2.2.2.2.2.2.2.2.2.2.2.2
theorem zPlan.s {sp : zSP} {a : Nat} (h : zPlan sp a) : (sp.1 a).1 = 10 + 3 := by rw [h.sh]
def zSea (sp : zSP) (a : Nat) : Prop := sp.1 a = (16, 2) ∧ sp.2.1 a 0 = some (a + 1) ∧ sp.2.1 a 1 = some (a + 2) ∧ sp.1 (a + 1) = (1, 4) ∧ sp.1 (a + 2) = (3, 4) ∧ ∀ i : Int, 0 ≤ i → i < 4 → sp.2.1 (a + 2) i = some (a + 3 + 5 * i.toNat) ∧ zRing sp (a + 3 + 5 * i.toNat)
theorem zSea.sh {sp : zSP} {a : Nat} (h : zSea sp a) : sp.1 a = (16, 2) := h.1
theorem zSea.p0 {sp : zSP} {a : Nat} (h : zSea sp a) : sp.2.1 a 0 = some (a + 1) := h.2.1
theorem zSea.p1 {sp : zSP} {a : Nat} (h : zSea sp a) : sp.2.1 a 1 = some (a + 2) := h.2.2.1
theorem zSea.a1 {sp : zSP} {a : Nat} (h : zSea sp a) : sp.1 (a + 1) = (1, 4) := h.2.2.2.1
theorem zSea.a2 {sp : zSP} {a : Nat} (h : zSea sp a) : sp.1 (a + 2) = (3, 4) := h.2.2.2.2.1
theorem zSea.q {sp : zSP} {a : Nat} (h : zSea sp a) : ∀ i : Int, 0 ≤ i → i < 4 → sp.2.1 (a + 2) i = some (a + 3 + 5 * i.toNat) ∧ zRing sp (a + 3 + 5 * i.toNat) := h.2.2.2.2.2
theorem zSea.s {sp : zSP} {a : Nat} (h : zSea sp a) : (sp.1 a).1 = 10 + 6 := by rw [h.sh]
def zObj (sp : zSP) (a : Nat) : Prop := sp.1 a = (18, 9) ∧ sp.2.1 a 0 = some (a + 1) ∧ sp.2.1 a 1 = some (a + 12) ∧ sp.2.1 a 3 = some (a + 23) ∧ sp.2.1 a 4 = some (a + 80) ∧ sp.2.1 a 5 = some (a + 82) ∧ sp.2.1 a 6 = some (a + 133) ∧ sp.2.1 a 7 = some (a + 156) ∧ sp.2.1 a 8 = some (a + 161) ∧ zSta sp (a + 1) ∧ zSta sp (a + 12) ∧ zHis sp (a + 23) ∧ zScr sp (a + 80) ∧ zPlan sp (a + 82) ∧ zSea sp (a + 133) ∧ zRing sp (a + 156) ∧ zRing sp (a + 161)
theorem zObj.sh {sp : zSP} {a : Nat} (h : zObj sp a) : sp.1 a = (18, 9) := h.1
theorem zObj.p0 {sp : zSP} {a : Nat} (h : zObj sp a) : sp.2.1 a 0 = some (a + 1) := h.2.1
theorem zObj.p1 {sp : zSP} {a : Nat} (h : zObj sp a) : sp.2.1 a 1 = some (a + 12) := h.2.2.1
theorem zObj.p3 {sp : zSP} {a : Nat} (h : zObj sp a) : sp.2.1 a 3 = some (a + 23) := h.2.2.2.1
theorem zObj.p4 {sp : zSP} {a : Nat} (h : zObj sp a) : sp.2.1 a 4 = some (a + 80) := h.2.2.2.2.1
theorem zObj.p5 {sp : zSP} {a : Nat} (h : zObj sp a) : sp.2.1 a 5 = some (a + 82) := h.2.2.2.2.2.1
theorem zObj.p6 {sp : zSP} {a : Nat} (h : zObj sp a) : sp.2.1 a 6 = some (a + 133) := h.2.2.2.2.2.2.1
theorem zObj.p7 {sp : zSP} {a : Nat} (h : zObj sp a) : sp.2.1 a 7 = some (a + 156) := h.2.2.2.2.2.2.2.1
theorem zObj.p8 {sp : zSP} {a : Nat} (h : zObj sp a) : sp.2.1 a 8 = some (a + 161) := h.2.2.2.2.2.2.2.2.1
theorem zObj.o1 {sp : zSP} {a : Nat} (h : zObj sp a) : zSta sp (a + 1) := h.2.2.2.2.2.2.2.2.2.1
theorem zObj.o12 {sp : zSP} {a : Nat} (h : zObj sp a) : zSta sp (a + 12) := h.2.2.2.2.2.2.2.2.2.2.1
theorem zObj.o23 {sp : zSP} {a : Nat} (h : zObj sp a) : zHis sp (a + 23) := h.2.2.2.2.2.2.2.2.2.2.2.1
theorem zObj.o80 {sp : zSP} {a : Nat} (h : zObj sp a) : zScr sp (a + 80) := h.2.2.2.2.2.2.2.2.2.2.2.2.1
theorem zObj.o82 {sp : zSP} {a : Nat} (h : zObj sp a) : zPlan sp (a + 82) := h.2.2.2.2.2.2.2.2.2.2.2.2.2.1
theorem zObj.o133 {sp : zSP} {a : Nat} (h : zObj sp a) : zSea sp (a + 133) := h.2.2.2.2.2.2.2.2.2.2.2.2.2.2.1
theorem zObj.o156 {sp : zSP} {a : Nat} (h : zObj sp a) : zRing sp (a + 156) := h.2.2.2.2.2.2.2.2.2.2.2.2.2.2.2.1
theorem zObj.o161 {sp : zSP} {a : Nat} (h : zObj sp a) : zRing sp (a + 161) := h.2.2.2.2.2.2.2.2.2.2.2.2.2.2.2.2
theorem zObj.s {sp : zSP} {a : Nat} (h : zObj sp a) : (sp.1 a).1 = 10 + 8 := by rw [h.sh]
section ZFN
theorem zset_11 {α : Type} (me : Nat → α) (a : Nat) (f f' : α) : zset (zset me a f) a f' = zset me a f' := by
  funext j; by_cases h : j = a <;> simp [zset, h]
theorem zset_21 {α : Type} (me : Nat → α) (a b : Nat) (f f' g : α) (h : a ≠ b) : zset (zset (zset me a f) b g) a f' = zset (zset me a f') b g := by
  funext j
  by_cases h1 : j = a
  · subst h1; simp [zset, h]
  · by_cases h2 : j = b
    · subst h2; simp [zset, h1]
    · simp [zset, h1, h2]
theorem zset_31 {α : Type} (me : Nat → α) (a b c : Nat) (f f' g h : α) (h1 : a ≠ b) (h2 : a ≠ c) : zset (zset (zset (zset me a f) b g) c h) a f' = zset (zset (zset me a f') b g) c h := by
  funext j
  by_cases e1 : j = a
  · subst e1; simp [zset, h1, h2]
  · by_cases e2 : j = b
    · subst e2; simp [zset, e1]
    · simp [zset, e1, e2]
theorem zset_41 {α : Type} (me : Nat → α) (a b c d : Nat) (f f' g h i : α) (h1 : a ≠ b) (h2 : a ≠ c) (h3 : a ≠ d) : zset (zset (zset (zset (zset me a f) b g) c h) d i) a f' = zset (zset (zset (zset me a f') b g) c h) d i := by
  funext j
  by_cases e1 : j = a
  · subst e1; simp [zset, h1, h2, h3]
  · by_cases e2 : j = b
    · subst e2; simp [zset, e1]
    · simp [zset, e1, e2]
theorem zset_self {α : Type} (me : Nat → α) (a : Nat) : zset me a (me a) = me := by
  funext j; by_cases h : j = a <;> simp [zset, h]
theorem zset_id {α : Type} (me : Nat → α) (a : Nat) (f : α) (h : me a = f) : zset me a f = me := by
  subst h; exact zset_self me a
theorem zset_comm {α : Type} (me : Nat → α) (a b : Nat) (f g : α) (h : a ≠ b) : zset (zset me a f) b g = zset (zset me b g) a f := by
  funext j
  by_cases h1 : j = a
  · subst h1; simp [zset, h]
  · simp [zset, h1]
theorem zup_zup {α : Type} (f : Int → α) (i : Int) (x y : α) : zup (zup f i x) i y = zup f i y := by
  funext j; by_cases h : j = i <;> simp [zup, h]
theorem zup_self {α : Type} (f : Int → α) (i : Int) : zup f i (f i) = f := by
  funext j; by_cases h : j = i <;> simp [zup, h]
/-- filled up to k -/
def zfil {α : Type} (f g : Int → α) (k : Int) : Int → α := fun p => if 0 ≤ p ∧ p < k then g p else f p
theorem zfil_0 {α : Type} (f g : Int → α) : zfil f g 0 = f := by
  funext p; unfold zfil; rw [if_neg (by omega)]
theorem zfil_up {α : Type} (f g : Int → α) (k : Int) (x : α) (h0 : 0 ≤ k) (hx : x = g k) : zup (zfil f g k) k x = zfil f g (k + 1) := by
  funext p
  unfold zup zfil
  by_cases h : p = k
  · subst h; rw [if_pos rfl, if_pos (by omega), hx]
  · rw [if_neg h]
    by_cases h2 : 0 ≤ p ∧ p < k
    · rw [if_pos h2, if_pos (by omega)]
    · rw [if_neg h2, if_neg (by omega)]
theorem zfil_in {α : Type} (f g : Int → α) (k p : Int) (h0 : 0 ≤ p) (h1 : p < k) : zfil f g k p = g p := by unfold zfil; rw [if_pos ⟨h0, h1⟩]
theorem zfil_out {α : Type} (f g : Int → α) (k p : Int) (h : ¬ (0 ≤ p ∧ p < k)) : zfil f g k p = f p := by unfold zfil; rw [if_neg h]
def zcut (n : Int) (g : Int → Int) : Int → Int := fun p => if 0 ≤ p ∧ p < n then g p else 0
theorem zcut_in (n : Int) (g : Int → Int) (p : Int) (h0 : 0 ≤ p) (h1 : p < n) : zcut n g p = g p := by unfold zcut; rw [if_pos ⟨h0, h1⟩]
theorem zcut_out (n : Int) (g : Int → Int) (p : Int) (h : ¬ (0 ≤ p ∧ p < n)) : zcut n g p = 0 := by unfold zcut; rw [if_neg h]
theorem zfil_cut {sp : zSP} {me : zMe} {a n : Nat} {m : Int} (g : Int → Int) (hwf : zwf sp me) (hs : sp.1 a = (1, n)) (hm : (n : Int) = m) : zfil (me a) g m = zcut m g := by
  subst hm
  funext p
  unfold zfil zcut
  by_cases h : 0 ≤ p ∧ p < (n : Int)
  · rw [if_pos h, if_pos h]
  · rw [if_neg h, if_neg h, zwf_out hwf hs h]
theorem zcut_me {sp : zSP} {me : zMe} {a n : Nat} {m : Int} (hwf : zwf sp me) (hs : sp.1 a = (1, n)) (hm : (n : Int) = m) : zcut m (me a) = me a := by
  subst hm
  funext p
  unfold zcut
  by_cases h : 0 ≤ p ∧ p < (n : Int)
  · rw [if_pos h]
  · rw [if_neg h, zwf_out hwf hs h]
theorem zcut_congr {n : Int} {f g : Int → Int} (h : ∀ p, 0 ≤ p → p < n → f p = g p) : zcut n f = zcut n g := by
  funext p
  unfold zcut
  by_cases e : 0 ≤ p ∧ p < n
  · rw [if_pos e, if_pos e, h p e.1 e.2]
  · rw [if_neg e, if_neg e]
theorem zW_to {M : zMd} {d r1 r2 : Nat} {Q : zQ} {pc : Nat} {L L' st st' : List zV} {sp : zSP} {me me' : zMe} (h : zW M d r1 r2 Q pc L st sp me) (hL : L' = L) (hs : st' = st) (hm : me' = me) : zW M d r1 r2 Q pc L' st' sp me' := by
  subst hL; subst hs; subst hm; exact h
def zsN (g : Int → Int) : Nat → Int
  | 0 => 0
  | n + 1 => zsN g n + g (n : Int)
def zSm (g : Int → Int) (k : Int) : Int := zsN g k.toNat
theorem zSm_0 (g : Int → Int) : zSm g 0 = 0 := rfl
theorem zSm_up (g : Int → Int) (k : Int) (h : 0 ≤ k) : zSm g (k + 1) = zSm g k + g k := by
  unfold zSm
  obtain ⟨n, rfl⟩ := Int.eq_ofNat_of_zero_le h
  rfl
theorem zSm_ind {P : Int → Int → Prop} (g : Int → Int) (h0 : P 0 0) (hs : ∀ k s, 0 ≤ k → P k s → P (k + 1) (s + g k)) (k : Int) (h : 0 ≤ k) : P k (zSm g k) := by
  obtain ⟨n, rfl⟩ := Int.eq_ofNat_of_zero_le h
  induction n with
  | zero => exact h0
  | succ n ih =>
    have h1 : zSm g ((n : Int) + 1) = zSm g (n : Int) + g (n : Int) := zSm_up g _ (by omega)
    have h2 := hs (n : Int) _ (by omega) (ih (by omega))
    rw [← h1] at h2
    exact h2
theorem zSm_bd {g : Int → Int} {a b : Int} (hg : ∀ p, 0 ≤ p → a ≤ g p ∧ g p ≤ b) (k : Int) (h : 0 ≤ k) : a * k ≤ zSm g k ∧ zSm g k ≤ b * k := by
  refine zSm_ind (P := fun k s => a * k ≤ s ∧ s ≤ b * k) g (by simp) (fun k s hk hs => ?_) k h
  have := hg k hk
  rw [Int.mul_add, Int.mul_add]
  omega
theorem zSm_congr {g g' : Int → Int} (k : Int) (h : ∀ p, 0 ≤ p → p < k → g p = g' p) : zSm g k = zSm g' k := by
  unfold zSm
  have : ∀ n : Nat, (n : Int) ≤ k → zsN g n = zsN g' n := by
    intro n
    induction n with
    | zero => intro _; rfl
    | succ n ih =>
      intro hn
      show zsN g n + g n = zsN g' n + g' n
      rw [ih (by omega), h n (by omega) (by omega)]
  by_cases hk : 0 ≤ k
  · exact this _ (by omega)
  · rw [show k.toNat = 0 by omega]; rfl
end ZFN
