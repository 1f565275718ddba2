section ZPURE
theorem zSm_one {h h' : Int → Int} {p0 : Int} (h0 : 0 ≤ p0) : ∀ n : Nat, p0 < (n : Int) → (∀ p, 0 ≤ p → p < (n : Int) → p ≠ p0 → h p = h' p) → zSm h (n : Int) = zSm h' (n : Int) + (h p0 - h' p0) := by
  intro n
  induction n with
  | zero => intro h1; omega
  | succ n ih =>
    intro h1 h2
    rw [show ((n + 1 : Nat) : Int) = (n : Int) + 1 by omega, zSm_up _ _ (by omega), zSm_up _ _ (by omega)]
    by_cases e : p0 = (n : Int)
    · rw [zSm_congr (g := h) (g' := h') (n : Int) (fun p a b => h2 p a (by omega) (by omega)), ← e]; omega
    · rw [ih (by omega) (fun p a b c => h2 p a (by omega) c), h2 (n : Int) (by omega) (by omega) (by omega)]; omega
theorem zSm_add (g h : Int → Int) : ∀ n : Nat, zSm (fun p => g p + h p) (n : Int) = zSm g (n : Int) + zSm h (n : Int) := by
  intro n
  induction n with
  | zero => rfl
  | succ n ih =>
    rw [show ((n + 1 : Nat) : Int) = (n : Int) + 1 by omega, zSm_up _ _ (by omega), zSm_up _ _ (by omega), zSm_up _ _ (by omega), ih]
    omega
theorem zSm_perm : ∀ (n : Nat) (f : Int → Int), (∀ p, 0 ≤ p → p < (n : Int) → 0 ≤ f p ∧ f p < (n : Int)) → (∀ p q, 0 ≤ p → p < (n : Int) → 0 ≤ q → q < (n : Int) → f p = f q → p = q) → ∀ g : Int → Int, zSm (fun p => g (f p)) (n : Int) = zSm g (n : Int) := by
  intro n
  induction n with
  | zero => intro f _ _ g; rfl
  | succ n ih =>
    intro f hf hi g
    obtain ⟨p0, a0, a1, a2⟩ := zsurj (n + 1) f hf hi (n : Int) (by omega) (by omega)
    have hv := hf (n : Int) (by omega) (by omega)
    rw [show ((n + 1 : Nat) : Int) = (n : Int) + 1 by omega, zSm_up _ _ (by omega), zSm_up _ _ (by omega)]
    by_cases e : f (n : Int) = (n : Int)
    · have := ih f (fun p b0 b1 => by
        have c1 := hf p b0 (by omega)
        have c2 : f p ≠ (n : Int) := fun z => by
          have := hi p (n : Int) b0 (by omega) (by omega) (by omega) (by rw [z, e])
          omega
        omega) (fun p q b0 b1 b2 b3 => hi p q b0 (by omega) b2 (by omega)) g
      rw [this, e]
    · have hp : p0 ≠ (n : Int) := fun z => by rw [z] at a2; exact e a2
      have h1 := ih (fun p => if p = p0 then f (n : Int) else f p) (fun p b0 b1 => by
        (try dsimp only)
        by_cases c : p = p0
        · rw [if_pos c]; omega
        · rw [if_neg c]
          have c1 := hf p b0 (by omega)
          have c2 : f p ≠ (n : Int) := fun z => c (hi p p0 b0 (by omega) a0 a1 (by rw [z, a2]))
          omega) (fun p q b0 b1 b2 b3 h => by
        (try dsimp only at h)
        by_cases c : p = p0
        · by_cases c' : q = p0
          · rw [c, c']
          · rw [if_pos c, if_neg c'] at h
            have := hi _ _ (by omega) (by omega) b2 (by omega) h
            omega
        · by_cases c' : q = p0
          · rw [if_neg c, if_pos c'] at h
            have := hi _ _ b0 (by omega) (by omega) (by omega) h
            omega
          · rw [if_neg c, if_neg c'] at h
            exact hi p q b0 (by omega) b2 (by omega) h) g
      have h2 := zSm_one (h := fun p => g (f p)) (h' := fun p => g (if p = p0 then f (n : Int) else f p)) a0 n (by omega) (fun p b0 b1 b2 => by (try dsimp only); rw [if_neg b2])
      (try dsimp only at h2)
      rw [if_pos rfl, a2] at h2
      rw [h2, h1]
      omega
theorem zpn_cnt {h : Int → Int} (hok : zHok h) : zSm (fun i => if h i ≠ -5 then 1 else 0) 10 / 2 = zpn h := by
  have e1 := zSm_perm 10 (fun i => if h i = -5 then i else h i) (fun p p0 p1 => by
    (try dsimp only)
    rcases hok.1 p p0 p1 with e | e
    · rw [if_pos e]; exact ⟨p0, p1⟩
    · rw [if_neg (by omega)]; exact ⟨e.1, e.2.1⟩) (fun p q p0 p1 q0 q1 hh => by
    (try dsimp only at hh)
    rcases hok.1 p p0 p1 with e | e <;> rcases hok.1 q q0 q1 with e' | e'
    · rw [if_pos e, if_pos e'] at hh; exact hh
    · rw [if_pos e, if_neg (by omega)] at hh
      rw [hh, e'.2.2.2] at e; omega
    · rw [if_neg (by omega), if_pos e'] at hh
      rw [← hh, e.2.2.2] at e'; omega
    · rw [if_neg (by omega), if_neg (by omega)] at hh
      have := e.2.2.2; rw [hh, e'.2.2.2] at this; omega) (fun i => if i < h i then 1 else 0)
  have e2 := zSm_add (fun i => if i < h i then 1 else 0) (fun p => (fun i => if i < h i then (1 : Int) else 0) ((fun i => if h i = -5 then i else h i) p)) 10
  have e3 : zSm (fun i => if h i ≠ -5 then (1 : Int) else 0) ((10 : Nat) : Int) = zSm (fun p => (if p < h p then (1 : Int) else 0) + (fun p => (fun i => if i < h i then (1 : Int) else 0) ((fun i => if h i = -5 then i else h i) p)) p) ((10 : Nat) : Int) := by
    refine zSm_congr _ (fun p p0 p1 => ?_)
    (try dsimp only)
    rcases hok.1 p p0 p1 with e | e
    · rw [if_neg (fun z => z e), if_neg (by omega), if_pos e, if_neg (by omega)]; rfl
    · rw [if_pos (show h p ≠ -5 by omega), if_neg (show ¬ h p = -5 by omega), e.2.2.2]
      by_cases c : p < h p
      · rw [if_pos c, if_neg (by omega)]; rfl
      · rw [if_neg c, if_pos (by omega)]; rfl
  rw [e1] at e2
  have e4 : zSm (fun i => if h i ≠ -5 then (1 : Int) else 0) 10 = zpn h + zpn h := e3.trans e2
  rw [e4]
  omega
theorem zHok_join {h : Int → Int} (hok : zHok h) {i j : Int} (i0 : 0 ≤ i) (i1 : i < 10) (j0 : 0 ≤ j) (j1 : j < 10) (hij : i ≠ j) (hi : h i = -5) (hj : h j = -5) : zHok (zup (zup h i j) j i) := by
  refine ⟨fun p p0 p1 => ?_, fun p hp => ?_⟩
  · by_cases e : p = j
    · subst e; rw [zup_eq, zup_ne _ _ _ hij, zup_eq]; exact Or.inr ⟨i0, i1, hij, rfl⟩
    · rw [zup_ne _ _ _ e]
      by_cases e' : p = i
      · subst e'; rw [zup_eq, zup_eq]; exact Or.inr ⟨j0, j1, fun z => hij z.symm, rfl⟩
      · rw [zup_ne _ _ _ e']
        rcases hok.1 p p0 p1 with a | a
        · exact Or.inl a
        · refine Or.inr ⟨a.1, a.2.1, a.2.2.1, ?_⟩
          have c1 : h p ≠ i := fun z => by have := a.2.2.2; rw [z, hi] at this; omega
          have c2 : h p ≠ j := fun z => by have := a.2.2.2; rw [z, hj] at this; omega
          rw [zup_ne _ _ _ c2, zup_ne _ _ _ c1]; exact a.2.2.2
  · rw [zup_ne _ _ _ (by omega), zup_ne _ _ _ (by omega)]; exact hok.2 p hp
theorem zpn_join {h : Int → Int} {i j : Int} (i0 : 0 ≤ i) (i1 : i < 10) (j0 : 0 ≤ j) (j1 : j < 10) (hij : i ≠ j) (hi : h i = -5) (hj : h j = -5) : zpn (zup (zup h i j) j i) = zpn h + 1 := by
  have e1 := zSm_one (h := fun p => if p < zup (zup h i j) j i p then 1 else 0) (h' := fun p => if p < zup h i j p then 1 else 0) j0 10 j1 (fun p _ _ c => by (try dsimp only); rw [zup_ne _ _ _ c])
  have e2 := zSm_one (h := fun p => if p < zup h i j p then 1 else 0) (h' := fun p => if p < h p then 1 else 0) i0 10 i1 (fun p _ _ c => by (try dsimp only); rw [zup_ne _ _ _ c])
  (try dsimp only at e1 e2)
  rw [zup_eq, zup_ne _ _ _ (show j ≠ i from fun z => hij z.symm), hj, if_neg (show ¬ j < -5 by omega)] at e1
  rw [zup_eq, hi, if_neg (show ¬ i < -5 by omega)] at e2
  show zSm _ ((10 : Nat) : Int) = zSm _ ((10 : Nat) : Int) + 1
  rw [e1, e2]
  by_cases c : i < j
  · rw [if_pos c, if_neg (by omega)]; omega
  · rw [if_neg c, if_pos (by omega)]; omega
theorem zHok_part {h : Int → Int} (hok : zHok h) {i : Int} (i0 : 0 ≤ i) (i1 : i < 10) (hi : h i ≠ -5) : zHok (zup (zup h i (-5)) (h i) (-5)) := by
  have hki := (hok.1 i i0 i1).resolve_left hi
  refine ⟨fun p p0 p1 => ?_, fun p hp => ?_⟩
  · by_cases e : p = h i
    · rw [e, zup_eq]; exact Or.inl rfl
    · rw [zup_ne _ _ _ e]
      by_cases e' : p = i
      · rw [e', zup_eq]; exact Or.inl rfl
      · rw [zup_ne _ _ _ e']
        rcases hok.1 p p0 p1 with a | a
        · exact Or.inl a
        · refine Or.inr ⟨a.1, a.2.1, a.2.2.1, ?_⟩
          have c1 : h p ≠ i := fun z => by have := a.2.2.2; rw [z] at this; omega
          have c2 : h p ≠ h i := fun z => by have := a.2.2.2; rw [z, hki.2.2.2] at this; omega
          rw [zup_ne _ _ _ c2, zup_ne _ _ _ c1]; exact a.2.2.2
  · rw [zup_ne _ _ _ (by omega), zup_ne _ _ _ (by omega)]; exact hok.2 p hp
theorem zpn_part {h : Int → Int} (hok : zHok h) {i : Int} (i0 : 0 ≤ i) (i1 : i < 10) (hi : h i ≠ -5) : zpn (zup (zup h i (-5)) (h i) (-5)) = zpn h - 1 := by
  have hki := (hok.1 i i0 i1).resolve_left hi
  have e1 := zSm_one (h := fun p => if p < zup (zup h i (-5)) (h i) (-5) p then 1 else 0) (h' := fun p => if p < zup h i (-5) p then 1 else 0) hki.1 10 hki.2.1 (fun p _ _ c => by (try dsimp only); rw [zup_ne _ _ _ c])
  have e2 := zSm_one (h := fun p => if p < zup h i (-5) p then 1 else 0) (h' := fun p => if p < h p then 1 else 0) i0 10 i1 (fun p _ _ c => by (try dsimp only); rw [zup_ne _ _ _ c])
  (try dsimp only at e1 e2)
  rw [zup_eq, zup_ne _ _ _ hki.2.2.1, hki.2.2.2, if_neg (show ¬ h i < -5 by omega)] at e1
  rw [zup_eq, if_neg (show ¬ i < -5 by omega)] at e2
  show zSm _ ((10 : Nat) : Int) = zSm _ ((10 : Nat) : Int) - 1
  rw [e1, e2]
  by_cases c : i < h i
  · rw [if_pos c, if_neg (by omega)]; omega
  · rw [if_neg c, if_pos (by omega)]; omega
theorem zMR_home {r : Int → Int} {S : zSt} (h : zMR r S) : zSm (fun p => if r p = p ∧ ((1 : Int) = 0 ∨ r (10 + p) = 0) then 1 else 0) 10 = zhcnt S.1 S.2.1 := by
  unfold zhcnt
  refine zSm_congr _ (fun p p0 p1 => ?_)
  (try dsimp only)
  have h1 := h.1 p p0 p1
  have h2 := h.2.1 p p0 p1
  by_cases e : S.1 p = p
  · rw [e] at h2
    rw [h1, h2]
    by_cases e2 : S.2.1 p = 0
    · rw [if_pos ⟨e, Or.inr e2⟩, if_pos ⟨e, e2⟩]
    · rw [if_neg (fun z => z.2.elim (fun z => by omega) (fun z => e2 z)), if_neg (fun z => e2 z.2)]
  · rw [h1, if_neg (fun z => e z.1), if_neg (fun z => e z.1)]
theorem zMR_f {r : Int → Int} {S : zSt} {B : Int} (hI : zIS B S) (h : zMR r S) {i : Int} (i0 : 0 ≤ i) (i1 : i < 10) : r (10 + i) = S.2.1 (zpl S.1 i) := by
  have hp := zpl_ok hI.1 i0 i1
  have := h.2.1 _ hp.1 hp.2.1
  rw [hp.2.2] at this
  exact this
theorem zMX_do {me me' : zMe} {y : Nat} {A : zAb} {S : zSt} (hX : zMX me y A) (hR : zMR (me' (y + 1)) S) (hH : zMH me' y ((A.1 :: A.2.1).take 5)) (h4 : me' y 4 = me y 4) (h13 : me' y 13 = me y 13) (h3 : me' (y + 3) = me (y + 3)) (h11 : me' (y + 11) = me (y + 11)) : zMX me' y (zdo A S) := by
  obtain ⟨g1, g2, g3, g4, g5⟩ := hX
  refine ⟨hR, hH, ?_, h13.trans g4, h11.trans g5⟩
  rw [h4, h3]; exact g3
/-- what a query may change -/
def zMQ (y : Nat) (me me' : zMe) : Prop := (∀ a, a < y ∨ y + 17 < a → me' a = me a) ∧ me' (y + 1) = me (y + 1) ∧ me' (y + 2) = me (y + 2) ∧ me' (y + 3) = me (y + 3) ∧ me' (y + 11) = me (y + 11) ∧ me' y 2 = me y 2 ∧ me' y 4 = me y 4 ∧ me' y 13 = me y 13
theorem zMQ.rf {y : Nat} {me : zMe} : zMQ y me me := ⟨fun _ _ => rfl, rfl, rfl, rfl, rfl, rfl, rfl, rfl⟩
theorem zMQ.trans {y : Nat} {m1 m2 m3 : zMe} (h : zMQ y m1 m2) (g : zMQ y m2 m3) : zMQ y m1 m3 :=
  ⟨fun a ha => (g.1 a ha).trans (h.1 a ha), g.2.1.trans h.2.1, g.2.2.1.trans h.2.2.1, g.2.2.2.1.trans h.2.2.2.1, g.2.2.2.2.1.trans h.2.2.2.2.1, g.2.2.2.2.2.1.trans h.2.2.2.2.2.1, g.2.2.2.2.2.2.1.trans h.2.2.2.2.2.2.1, g.2.2.2.2.2.2.2.trans h.2.2.2.2.2.2.2⟩
theorem zMQ.fr {y : Nat} {me me' : zMe} (h : zMQ y me me') : zMF y me me' := h.1
theorem zMQ.mx {y : Nat} {me me' : zMe} {A : zAb} (h : zMQ y me me') (hX : zMX me y A) : zMX me' y A := by
  obtain ⟨_, e1, e2, e3, e11, f2, f4, f13⟩ := h
  obtain ⟨g1, ⟨k1, k2, k3⟩, g3, g4, g5⟩ := hX
  refine ⟨by rw [e1]; exact g1, ⟨f2.trans k1, k2, by rw [e2]; exact k3⟩, by rw [f4, e3]; exact g3, f13.trans g4, e11.trans g5⟩
/-- scratch rows -/
theorem zMQ_s {y o : Nat} {me : zMe} {G : Int → Int} (h1 : 4 ≤ o) (h2 : o ≤ 17) (h3 : o ≠ 11) : zMQ y me (zset me (y + o) G) :=
  ⟨fun a ha => zset_ne _ _ _ (by omega), zset_ne _ _ _ (by omega), zset_ne _ _ _ (by omega), zset_ne _ _ _ (by omega), zset_ne _ _ _ (by omega), by rw [zset_ne _ _ _ (by omega)], by rw [zset_ne _ _ _ (by omega)], by rw [zset_ne _ _ _ (by omega)]⟩
theorem m_pl {d : Nat} {sp : zSP} {me : zMe} {Q : zQ} {y : Nat} {i : Int} {w f : Int → Int} (hy : zMod sp y) (hg : zgR w f) (hw : ∀ p, 0 ≤ p → p < 10 → me (y + 1) p = w p) (h0 : 0 ≤ i) (h1 : i < 10) (hQ : Q (some (zI (zpl w i))) sp me) : zCall mX9_placeOf d 0 0 [zR y, zI i] sp me Q := by
  have hp := zpl_ok hg h0 h1
  exact m_placeOf hy hp.1 hp.2.1 (by rw [hw _ hp.1 hp.2.1]; exact hp.2.2) (fun q q0 q1 hq => by rw [hw q q0 q1] at hq; exact (zpl_of hg q0 q1 hq).symm) hQ
end ZPURE

