section ZOPS
/-! what every call answers and does, over the state of the document -/
noncomputable def zif {α : Type} (P : Prop) (a b : α) : α := @ite α P (Classical.propDecidable P) a b
theorem zif_pos {α : Type} {P : Prop} {a b : α} (h : P) : zif P a b = a := @if_pos P (Classical.propDecidable P) h α a b
theorem zif_neg {α : Type} {P : Prop} {a b : α} (h : ¬ P) : zif P a b = b := @if_neg P (Classical.propDecidable P) h α a b
/-- the state, the history, the snapshot, the text -/
abbrev zAb : Type := zSt × List zSt × Option zSt × Int × (Int → Int)
def qW (A : zAb) : Int → Int := A.1.1
def qF (A : zAb) : Int → Int := A.1.2.1
def qH (A : zAb) : Int → Int := A.1.2.2.1
def qP (A : zAb) : Int := A.1.2.2.2.1
def qS (A : zAb) : Int → Int := A.1.2.2.2.2.1
def qC (A : zAb) : Int → Int := A.1.2.2.2.2.2.1
def qT0 (A : zAb) : Int := A.1.2.2.2.2.2.2.1
def qT1 (A : zAb) : Int := A.1.2.2.2.2.2.2.2.1
def qT2 (A : zAb) : Int := A.1.2.2.2.2.2.2.2.2
def qN (A : zAb) : Int := A.2.2.2.1
def qG (A : zAb) : Int → Int := A.2.2.2.2
def qst (w f h : Int → Int) (pr : Int) (sz cd : Int → Int) (a b c : Int) : zSt := (w, f, h, pr, sz, cd, a, b, c)
/-- an action: the state before it goes into the history -/
def zdo (A : zAb) (S : zSt) : zAb := (S, (A.1 :: A.2.1).take 5, A.2.2)
/-- the first place of a dancer -/
def zfp (w : Int → Int) (i : Int) : Nat → Int → Int
  | 0, _ => -1
  | n + 1, p => if w p = i then p else zfp w i n (p + 1)
def zpl (w : Int → Int) (i : Int) : Int := zfp w i 10 0
def zhcnt (w f : Int → Int) : Int := zSm (fun p => if w p = p ∧ f p = 0 then 1 else 0) 10
noncomputable def zoAdd (A : zAb) (k kd a b : Int) : Int × zAb :=
  zif (¬ (0 ≤ k ∧ k < 8)) (-1, A) (zif (¬ zmv k kd a b) (-2, A) (zif (10 ≤ qS A k ∨ ¬ zlim (zup (qS A) k (qS A k + 1)) (zup (qC A) (k * 10 + qS A k) (kd * 100 + a * 10 + b))) (-3, A)
    (qS A k + 1, zdo A (qst (qW A) (qF A) (qH A) (qP A) (zup (qS A) k (qS A k + 1)) (zup (qC A) (k * 10 + qS A k) (kd * 100 + a * 10 + b)) (qT0 A) (qT1 A) (qT2 A)))))
noncomputable def zoDrop (A : zAb) (k : Int) : Int × zAb :=
  zif (¬ (0 ≤ k ∧ k < 8)) (-1, A) (zif (qS A k = 0) (-4, A) (qS A k - 1, zdo A (qst (qW A) (qF A) (qH A) (qP A) (zup (qS A) k (qS A k - 1)) (qC A) (qT0 A) (qT1 A) (qT2 A))))
noncomputable def zoHold (A : zAb) (i j : Int) : Int × zAb :=
  zif (¬ (0 ≤ i ∧ i < 10 ∧ 0 ≤ j ∧ j < 10)) (-1, A) (zif (i = j) (-2, A) (zif (qH A i ≠ -5 ∨ qH A j ≠ -5 ∨ ¬ znb (zpl (qW A) i) (zpl (qW A) j)) (-4, A)
    (qP A + 1, zdo A (qst (qW A) (qF A) (zup (zup (qH A) i j) j i) (qP A + 1) (qS A) (qC A) (qT0 A) (qT1 A) (qT2 A)))))
noncomputable def zoRelease (A : zAb) (i : Int) : Int × zAb :=
  zif (¬ (0 ≤ i ∧ i < 10)) (-1, A) (zif (qH A i = -5) (-4, A) (qH A i, zdo A (qst (qW A) (qF A) (zup (zup (qH A) i (-5)) (qH A i) (-5)) (qP A - 1) (qS A) (qC A) (qT0 A) (qT1 A) (qT2 A))))
def zLL (A : zAb) (k T b : Int) : List Int := zrep T.toNat (zord (zsteps (qS A) (qC A) k) b)
noncomputable def zoDance (A : zAb) (k T b : Int) : Int × zAb :=
  zif (¬ (0 ≤ k ∧ k < 8)) (-1, A) (zif (¬ (1 ≤ T ∧ T ≤ 9)) (-2, A) (zif (ztry (qH A) (zLL A k T b) (qW A, qF A) 0 ≠ -5) (-100 - ztry (qH A) (zLL A k T b) (qW A, qF A) 0, A)
    (((zLL A k T b).length : Int), zdo A (qst (zfo (qW A, qF A) (zLL A k T b)).1 (zfo (qW A, qF A) (zLL A k T b)).2 (qH A) (qP A) (qS A) (qC A) (qT0 A + 1) (qT1 A + ((zLL A k T b).length : Int)) (qT2 A)))))
def zoGoHome (A : zAb) : Int × zAb :=
  (10 - zhcnt (qW A) (qF A), zdo A (qst (zcut 10 (fun p => p)) (zcut 10 (fun _ => 0)) (zhh (qH A) 10) (qP A - zhc (qH A) 10) (qS A) (qC A) (qT0 A) (qT1 A) (qT2 A + zhc (qH A) 10)))
noncomputable def zoAppend (A : zAb) (c : Int) : Int × zAb :=
  zif (¬ (32 ≤ c ∧ c ≤ 126)) (-2, A) (zif (80 ≤ qN A) (-3, A) (qN A + 1, (A.1, A.2.1, A.2.2.1, qN A + 1, zup (qG A) (qN A) c)))
def zoClear (A : zAb) : Int × zAb := (qN A, (A.1, A.2.1, A.2.2.1, 0, qG A))
def zoFault (A : zAb) : Int × zAb := (zfault (qG A) (qN A), A)
def zRR (A : zAb) : zRg × Int × Int × Int := zrn (qH A) (zsteps (qS A) (qC A)) (zcalls (qG A) (qN A)) ((qW A, qF A), qT0 A, qT1 A, 0)
noncomputable def zoRun (A : zAb) : Int × zAb :=
  zif (zfault (qG A) (qN A) ≠ -5) (-100 - zfault (qG A) (qN A), A) ((zRR A).2.2.2, zdo A (qst (zRR A).1.1 (zRR A).1.2 (qH A) (qP A) (qS A) (qC A) (zRR A).2.1 (zRR A).2.2.1 (qT2 A)))
def zoUndo (A : zAb) : Int × zAb := match A.2.1 with
  | [] => (-5, A)
  | S :: T => ((T.length : Int), (S, T, A.2.2))
def zoSave (A : zAb) : Int × zAb := (zhcnt (qW A) (qF A), (A.1, A.2.1, some A.1, A.2.2.2))
def zoRestore (A : zAb) : Int × zAb := match A.2.2.1 with
  | none => (-4, A)
  | some S => (zhcnt S.1 S.2.1, zdo A S)
noncomputable def zoDancer (A : zAb) (i q : Int) : Int := zif (¬ (0 ≤ i ∧ i < 10)) (-1) (zif (q = 0) (zpl (qW A) i) (zif (q = 1) (qF A (zpl (qW A) i)) (zif (q = 2) (qH A i) (-2))))
noncomputable def zoAt (A : zAb) (p : Int) : Int := zif (0 ≤ p ∧ p < 10) (qW A p) (-1)
noncomputable def zoMove (A : zAb) (k m q : Int) : Int := zif (¬ (0 ≤ k ∧ k < 8 ∧ 0 ≤ m ∧ m < qS A k)) (-1) (zif (q = 0) (qC A (k * 10 + m) / 100) (zif (q = 1) (qC A (k * 10 + m) / 10 % 10) (zif (q = 2) (qC A (k * 10 + m) % 10) (-2))))
def zE (A : zAb) (k : Int) : zRg := zeff (zsteps (qS A) (qC A) k)
noncomputable def zoFigure (A : zAb) (k q : Int) : Int :=
  zif (¬ (0 ≤ k ∧ k < 8)) (-1) (zif (q = 0) (qS A k) (zif (q = 1) ((zsteps (qS A) (qC A) k).length : Int) (zif (q = 2) (1 + zth (zE A k) 120 (zE A k) 0) (zif (q = 3) (10 - zSm (fun p => if (zE A k).1 p = p then 1 else 0) 10) (zif (q = 4) (10 - zSm (fun p => if (zE A k).2 p = 0 then 1 else 0) 10) (zif (q = 5) (zSm (fun p => zinv (zE A k).1 p 10) 10 % 2) (zif (q = 6) (zcm (qS A) (qC A) k) (zif (q = 7) (zclr (zcm (qS A) (qC A)) k 8) (-2)))))))))
noncomputable def zoEffect (A : zAb) (k p fc : Int) : Int := zif (¬ (0 ≤ k ∧ k < 8 ∧ 0 ≤ p ∧ p < 10)) (-1) (zif (fc = 0) (zpl (zE A k).1 p) ((zE A k).2 (zpl (zE A k).1 p)))
def zsame (R R' : zRg) : Prop := ∀ p, 0 ≤ p → p < 10 → R.1 p = R'.1 p ∧ R.2 p = R'.2 p
noncomputable def zoAlike (A : zAb) (k j : Int) : Int := zif (¬ (0 ≤ k ∧ k < 8 ∧ 0 ≤ j ∧ j < 8)) (-1) (zif (zsame (zE A k) (zE A j)) 1 0)
noncomputable def zoCommute (A : zAb) (k j : Int) : Int := zif (¬ (0 ≤ k ∧ k < 8 ∧ 0 ≤ j ∧ j < 8)) (-1) (zif (zsame (zact (zE A k) (zE A j)) (zact (zE A j) (zE A k))) 1 0)
noncomputable def zoCount (A : zAb) (q : Int) : Int := zif (q = 0) (zhcnt (qW A) (qF A)) (zif (q = 1) (zSm (fun p => if qW A p = p then 1 else 0) 10) (zif (q = 2) (qP A) (zif (q = 3) (zSm (fun k => if 0 < qS A k then 1 else 0) 8) (zif (q = 4) (A.2.1.length : Int) (zif (q = 5) (qN A) (-2))))))
noncomputable def zoTotal (A : zAb) (q : Int) : Int := zif (q = 0) (qT0 A) (zif (q = 1) (qT1 A) (zif (q = 2) (qT2 A) (-2)))
noncomputable def zoBlocked (A : zAb) (k b : Int) : Int := zif (0 ≤ k ∧ k < 8) (ztry (qH A) (zLL A k 1 b) (qW A, qF A) 0) (-1)
noncomputable def zoHomeIn (A : zAb) (k : Int) : Int := zif (0 ≤ k ∧ k < 8) (zth (zE A k) 120 (qW A, qF A) 0) (-1)
def zwlen (o : Option (List Int)) : Int := match o with
  | none => -5
  | some t => (t.length : Int)
def zwat (o : Option (List Int)) (i : Nat) : Int := match o with
  | none => -5
  | some t => t.getD i 0
noncomputable def zoWay (A : zAb) (q : Int) : Int := zif (¬ (0 ≤ q ∧ q ≤ 4)) (-2) (zif (q = 0) (zwlen (zway (zE A) (qW A, qF A))) (zif (q ≤ zwlen (zway (zE A) (qW A, qF A))) (zwat (zway (zE A) (qW A, qF A)) (q - 1).toNat) (-5)))
def zoDist (A : zAb) : Int := zSm (fun p => zdist p (qW A p)) 10
/-! what always holds -/
def zpn (h : Int → Int) : Int := zSm (fun i => if i < h i then 1 else 0) 10
def zIS (B : Int) (S : zSt) : Prop := zgR S.1 S.2.1 ∧ zHok S.2.2.1 ∧ S.2.2.2.1 = zpn S.2.2.1 ∧ zfv S.2.2.2.2.1 S.2.2.2.2.2.1 ∧ zlim S.2.2.2.2.1 S.2.2.2.2.2.1 ∧ (0 ≤ S.2.2.2.2.2.2.1 ∧ S.2.2.2.2.2.2.1 ≤ B) ∧ (0 ≤ S.2.2.2.2.2.2.2.1 ∧ S.2.2.2.2.2.2.2.1 ≤ B) ∧ (0 ≤ S.2.2.2.2.2.2.2.2 ∧ S.2.2.2.2.2.2.2.2 ≤ B)
def zIA (B : Int) (A : zAb) : Prop := zIS B A.1 ∧ (∀ S ∈ A.2.1, zIS B S) ∧ (∀ S, A.2.2.1 = some S → zIS B S) ∧ (0 ≤ qN A ∧ qN A ≤ 80) ∧ A.2.1.length ≤ 5
/-- an injective row of places takes every value -/
theorem zsurj : ∀ (n : Nat) (f : Int → Int), (∀ p, 0 ≤ p → p < (n : Int) → 0 ≤ f p ∧ f p < (n : Int)) → (∀ p q, 0 ≤ p → p < (n : Int) → 0 ≤ q → q < (n : Int) → f p = f q → p = q) → ∀ d, 0 ≤ d → d < (n : Int) → ∃ p, 0 ≤ p ∧ p < (n : Int) ∧ f p = d := by
  intro n
  induction n with
  | zero => intro f _ _ d h0 h1; omega
  | succ n ih =>
    intro f hf hi d hd0 hd1
    have hv := hf (n : Int) (by omega) (by omega)
    have hg := ih (fun p => if f p = (n : Int) then f (n : Int) else f p) (fun p h0 h1 => by
      have h2 := hf p h0 (by omega)
      by_cases e : f p = (n : Int)
      · rw [if_pos e]
        have : f (n : Int) ≠ (n : Int) := fun z => by
          have := hi p (n : Int) h0 (by omega) (by omega) (by omega) (by rw [e, z])
          omega
        omega
      · rw [if_neg e]; omega) (fun p q hp0 hp1 hq0 hq1 h => by
      have e1 := hi p q hp0 (by omega) hq0 (by omega)
      have e2 := hi p (n : Int) hp0 (by omega) (by omega) (by omega)
      have e3 := hi q (n : Int) hq0 (by omega) (by omega) (by omega)
      by_cases a1 : f p = (n : Int)
      · by_cases a2 : f q = (n : Int)
        · exact e1 (by rw [a1, a2])
        · simp only [if_pos a1, if_neg a2] at h
          have := e3 h.symm
          omega
      · by_cases a2 : f q = (n : Int)
        · simp only [if_neg a1, if_pos a2] at h
          have := e2 h
          omega
        · simp only [if_neg a1, if_neg a2] at h
          exact e1 h)
    by_cases hdn : d = (n : Int)
    · by_cases hvn : f (n : Int) = (n : Int)
      · exact ⟨(n : Int), by omega, by omega, by rw [hvn, hdn]⟩
      · obtain ⟨p, h0, h1, h2⟩ := hg (f (n : Int)) (by omega) (by omega)
        by_cases a1 : f p = (n : Int)
        · exact ⟨p, h0, by omega, by rw [a1, hdn]⟩
        · simp only [if_neg a1] at h2
          have := hi p (n : Int) h0 (by omega) (by omega) (by omega) h2
          omega
    · by_cases hvd : f (n : Int) = d
      · exact ⟨(n : Int), by omega, by omega, hvd⟩
      · obtain ⟨p, h0, h1, h2⟩ := hg d hd0 (by omega)
        by_cases a1 : f p = (n : Int)
        · simp only [if_pos a1] at h2
          exact absurd h2 hvd
        · simp only [if_neg a1] at h2
          exact ⟨p, h0, by omega, h2⟩
theorem zfp_of {w : Int → Int} {i p : Int} (hp : w p = i) : ∀ (n : Nat) (q : Int), q ≤ p → p < q + n → (∀ r, q ≤ r → r < p → w r ≠ i) → zfp w i n q = p := by
  intro n
  induction n with
  | zero => intro q h1 h2; omega
  | succ n ih =>
    intro q h1 h2 h3
    unfold zfp
    by_cases e : w q = i
    · rw [if_pos e]
      by_cases e2 : q = p
      · exact e2
      · exact absurd e (h3 q (Int.le_refl _) (by omega))
    · rw [if_neg e]
      have e2 : q ≠ p := fun z => e (by rw [z]; exact hp)
      exact ih (q + 1) (by omega) (by omega) (fun r h4 h5 => h3 r (by omega) h5)
theorem zpl_of {w f : Int → Int} (hg : zgR w f) {i p : Int} (h0 : 0 ≤ p) (h1 : p < 10) (hp : w p = i) : zpl w i = p := zfp_of hp 10 0 h0 (by omega) (fun r h2 h3 h4 => by
  have := hg.2.1 r p h2 (by omega) h0 h1 (by rw [h4, hp])
  omega)
theorem zpl_ok {w f : Int → Int} (hg : zgR w f) {i : Int} (h0 : 0 ≤ i) (h1 : i < 10) : 0 ≤ zpl w i ∧ zpl w i < 10 ∧ w (zpl w i) = i := by
  obtain ⟨p, h2, h3, h4⟩ := zsurj 10 w (fun p a b => ⟨(hg.1 p a b).1, (hg.1 p a b).2.1⟩) (fun p q a b c d e => hg.2.1 p q a b c d e) i h0 h1
  rw [zpl_of hg h2 h3 h4]
  exact ⟨h2, h3, h4⟩
theorem zpl_lt {w f : Int → Int} (hg : zgR w f) {i q : Int} (h0 : 0 ≤ i) (h1 : i < 10) (h2 : 0 ≤ q) (h3 : q < zpl w i) : w q ≠ i := fun h => by
  have := zpl_ok hg h0 h1
  have := zpl_of hg h2 (by omega) h
  omega
theorem zpn_0 {h : Int → Int} (hok : zHok h) (hz : zpn h = 0) : ∀ i, 0 ≤ i → i < 10 → h i = -5 := by
  have key : ∀ n : Nat, 0 ≤ zSm (fun i => if i < h i then 1 else 0) (n : Int) ∧ (zSm (fun i => if i < h i then 1 else 0) (n : Int) = 0 → ∀ i, 0 ≤ i → i < (n : Int) → ¬ i < h i) := by
    intro n
    induction n with
    | zero => exact ⟨Int.le_refl _, fun _ i h0 h1 => by omega⟩
    | succ n ih =>
      have e : zSm (fun i => if i < h i then 1 else 0) ((n : Int) + 1) = zSm (fun i => if i < h i then 1 else 0) (n : Int) + (if (n : Int) < h (n : Int) then 1 else 0) := zSm_up _ _ (by omega)
      rw [show ((n + 1 : Nat) : Int) = (n : Int) + 1 by omega, e]
      by_cases e2 : (n : Int) < h (n : Int)
      · rw [if_pos e2]; exact ⟨by omega, fun z => by omega⟩
      · rw [if_neg e2]
        refine ⟨by omega, fun z i h0 h1 => ?_⟩
        by_cases e3 : i = (n : Int)
        · rw [e3]; exact e2
        · exact ih.2 (by omega) i h0 (by omega)
  intro i h0 h1
  have k := (key 10).2 hz
  rcases hok.1 i h0 h1 with h2 | h2
  · exact h2
  · have k1 := k i h0 h1
    have k2 := k (h i) h2.1 h2.2.1
    omega
theorem zpn_bd (h : Int → Int) : 0 ≤ zpn h ∧ zpn h ≤ 10 := by
  have := zSm_bd (g := fun i => if i < h i then 1 else 0) (a := 0) (b := 1) (fun i _ => by split <;> omega) 10 (by omega)
  unfold zpn
  omega
theorem zclr_congr {g g' : Int → Int} {k : Int} (n : Nat) (h : ∀ j : Nat, j < n → g (j : Int) = g' (j : Int)) : zclr g k n = zclr g' k n := by
  induction n with
  | zero => rfl
  | succ n ih =>
    unfold zclr
    rw [ih (fun j hj => h j (by omega)), h n (by omega)]
end ZOPS

