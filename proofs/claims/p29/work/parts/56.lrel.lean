section ZLG
/-- the law's world: the object at 1 to 166, its own rows behind it -/
def gLW (sp : zSP) : Prop := zObj sp 1 ∧ 175 ≤ sp.2.2 ∧ sp.1 167 = (1, 10) ∧ sp.1 168 = (1, 10) ∧ sp.1 169 = (1, 10) ∧ sp.1 170 = (1, 40) ∧ sp.1 171 = (1, 40) ∧ sp.1 172 = (1, 16) ∧ sp.1 173 = (1, 3) ∧ sp.1 174 = (1, 10) ∧ sp.1 175 = (1, 10)
theorem gLW.mono {n : Nat} {sp sp' : zSP} (h : gLW sp) (hx : zXt n sp sp') : gLW sp' := by
  obtain ⟨h0, h1, h2, h3, h4, h5, h6, h7, h8, h9, h10⟩ := h
  exact ⟨zObj_lc (fun b g1 g2 => hx.2 b (by omega)) h0, by rw [hx.1]; omega, hx.s (by omega) h2, hx.s (by omega) h3, hx.s (by omega) h4, hx.s (by omega) h5, hx.s (by omega) h6, hx.s (by omega) h7, hx.s (by omega) h8, hx.s (by omega) h9, hx.s (by omega) h10⟩
/-- the law's rows and the object show one state -/
def gLR (me : zMe) (A : zAb) : Prop := gDn me 167 168 (qW A, qF A) ∧ (∀ i, 0 ≤ i → i < 10 → me 169 i = qH A i) ∧ gFg me 170 171 172 (qS A) (qC A) ∧ gCt me 172 (qS A) (qC A) ∧ me 173 0 = qT0 A ∧ me 173 1 = qT1 A ∧ me 173 2 = qT2 A
def gRR (me : zMe) (A : zAb) : Prop := zRX me 1 A ∧ gLR me A
theorem gLR.cg {me me' : zMe} {A : zAb} (h : gLR me A) (hc : ∀ a, 167 ≤ a → a ≤ 173 → me' a = me a) : gLR me' A := by
  obtain ⟨h1, h2, h3, h4, h5, h6, h7⟩ := h
  refine ⟨h1.fr (hc _ (by decide) (by decide)) (hc _ (by decide) (by decide)), ?_, h3.cg (hc _ (by decide) (by decide)) (hc _ (by decide) (by decide)) (fun k _ _ => by rw [hc _ (by decide) (by decide)]), h4.cg (hc _ (by decide) (by decide)), ?_, ?_, ?_⟩
  · intro i i0 i1; rw [hc _ (by decide) (by decide)]; exact h2 i i0 i1
  · rw [hc _ (by decide) (by decide)]; exact h5
  · rw [hc _ (by decide) (by decide)]; exact h6
  · rw [hc _ (by decide) (by decide)]; exact h7
theorem gRR.x {me me' : zMe} {A : zAb} (h : gRR me A) (hX : zRX me' 1 A) (hF : zFr 1 me me') : gRR me' A := ⟨hX, h.2.cg (fun a h1 _ => hF a (Or.inr (by omega)))⟩
theorem gRR.cg {me me' : zMe} {A : zAb} (h : gRR me A) (hc : ∀ a, 1 ≤ a → a ≤ 173 → me' a = me a) : gRR me' A := ⟨zRX_congr (fun a h1 h2 => hc a (by omega) (by omega)) h.1, h.2.cg (fun a h1 h2 => hc a (by omega) h2)⟩
theorem gRR.p {me : zMe} {A : zAb} {B : Int} (hI : zIA B A) (h : gRR me A) {i : Int} (i0 : 0 ≤ i) (i1 : i < 10) : me 167 i = zpl (qW A) i ∧ me 168 i = qF A (zpl (qW A) i) ∧ me 169 i = qH A i ∧ 0 ≤ zpl (qW A) i ∧ zpl (qW A) i < 10 ∧ qW A (zpl (qW A) i) = i ∧ 0 ≤ qF A (zpl (qW A) i) ∧ qF A (zpl (qW A) i) < 4 := by
  have h1 := h.2.1 i i0 i1
  have h2 := zpl_ok hI.1.1 i0 i1
  have h3 := hI.1.1.1 _ h2.1 h2.2.1
  exact ⟨h1.1, h1.2, h.2.2.1 i i0 i1, h2.1, h2.2.1, h2.2.2, h3.2.2⟩
theorem vAt0 {A : zAb} : zoAt A 10 = -1 := zif_neg (by omega)
theorem vAt {A : zAb} {p : Int} (p0 : 0 ≤ p) (p1 : p < 10) : zoAt A p = qW A p := zif_pos ⟨p0, p1⟩
theorem vDa {A : zAb} : zoDancer A 10 0 = -1 := zif_pos (by omega)
theorem vDb {A : zAb} : zoDancer A 0 3 = -2 := by
  unfold zoDancer
  rw [zif_neg (by omega), zif_neg (by omega), zif_neg (by omega), zif_neg (by omega)]
theorem vD0 {A : zAb} {i : Int} (i0 : 0 ≤ i) (i1 : i < 10) : zoDancer A i 0 = zpl (qW A) i := by
  unfold zoDancer; rw [zif_neg (by omega), zif_pos rfl]
theorem vD1 {A : zAb} {i : Int} (i0 : 0 ≤ i) (i1 : i < 10) : zoDancer A i 1 = qF A (zpl (qW A) i) := by
  unfold zoDancer; rw [zif_neg (by omega), zif_neg (by omega), zif_pos rfl]
theorem vD2 {A : zAb} {i : Int} (i0 : 0 ≤ i) (i1 : i < 10) : zoDancer A i 2 = qH A i := by
  unfold zoDancer; rw [zif_neg (by omega), zif_neg (by omega), zif_neg (by omega), zif_pos rfl]
theorem vC0 {A : zAb} : zoCount A 0 = zhcnt (qW A) (qF A) := zif_pos rfl
theorem vC1 {A : zAb} : zoCount A 1 = zSm (fun p => if qW A p = p then 1 else 0) 10 := by
  unfold zoCount; rw [zif_neg (by omega), zif_pos rfl]
theorem vC2 {A : zAb} : zoCount A 2 = qP A := by
  unfold zoCount; rw [zif_neg (by omega), zif_neg (by omega), zif_pos rfl]
theorem vC3 {A : zAb} : zoCount A 3 = zSm (fun k => if 0 < qS A k then 1 else 0) 8 := by
  unfold zoCount; rw [zif_neg (by omega), zif_neg (by omega), zif_neg (by omega), zif_pos rfl]
theorem vC6 {A : zAb} : zoCount A 6 = -2 := by
  unfold zoCount; rw [zif_neg (by omega), zif_neg (by omega), zif_neg (by omega), zif_neg (by omega), zif_neg (by omega), zif_neg (by omega)]
theorem vT0 {A : zAb} : zoTotal A 0 = qT0 A := zif_pos rfl
theorem vT1 {A : zAb} : zoTotal A 1 = qT1 A := by unfold zoTotal; rw [zif_neg (by omega), zif_pos rfl]
theorem vT2 {A : zAb} : zoTotal A 2 = qT2 A := by unfold zoTotal; rw [zif_neg (by omega), zif_neg (by omega), zif_pos rfl]
theorem vT3 {A : zAb} : zoTotal A 3 = -2 := by unfold zoTotal; rw [zif_neg (by omega), zif_neg (by omega), zif_neg (by omega)]
/-- how far a dancer is from home -/
def gBy (p i : Int) : Int := if (if p > i then p - i else i - p) > 5 then 10 - (if p > i then p - i else i - p) else (if p > i then p - i else i - p)
theorem gBy_bd {p i : Int} (p0 : 0 ≤ p) (p1 : p < 10) (i0 : 0 ≤ i) (i1 : i < 10) : 0 ≤ gBy p i ∧ gBy p i ≤ 5 := by unfold gBy; (repeat' split) <;> omega
theorem vDist {A : zAb} {B : Int} (hI : zIA B A) : zoDist A = zSm (fun i => gBy (zpl (qW A) i) i) 10 := by
  have hm : ∀ p, 0 ≤ p → p < ((10 : Nat) : Int) → 0 ≤ qW A p ∧ qW A p < ((10 : Nat) : Int) := fun p p0 p1 => ⟨(hI.1.1.1 p p0 p1).1, (hI.1.1.1 p p0 p1).2.1⟩
  have hi : ∀ p q, 0 ≤ p → p < ((10 : Nat) : Int) → 0 ≤ q → q < ((10 : Nat) : Int) → qW A p = qW A q → p = q := fun p q p0 p1 q0 q1 h => hI.1.1.2.1 p q p0 p1 q0 q1 h
  have h1 := zSm_perm 10 (qW A) hm hi (fun i => gBy (zpl (qW A) i) i)
  refine Eq.trans ?_ h1
  unfold zoDist
  refine zSm_congr _ (fun p p0 p1 => ?_)
  (try dsimp only)
  have hb := hI.1.1.1 p p0 p1
  have e : zpl (qW A) (qW A p) = p := zpl_of hI.1.1 p0 p1 rfl
  rw [e]
  unfold zdist gBy
  (repeat' split) <;> omega
theorem zdd_cmp : ∀ n : Nat, n < 51 → (Op.cmpValue (FP.dcmp (zdd (n : Int)) (zdd (n : Int))) .l).toInt = 0 := by decide +kernel
end ZLG

