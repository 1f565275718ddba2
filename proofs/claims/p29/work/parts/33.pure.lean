section ZPURE
def zseg (f g : Int → Int) (o k : Int) : Int → Int := fun p => if o ≤ p ∧ p < o + k then g (p - o) else f p
theorem zseg_0 (f g : Int → Int) (o : Int) : zseg f g o 0 = f := by
  funext p; unfold zseg; rw [if_neg (by omega)]
theorem zseg_up (f g : Int → Int) (o k x : Int) (h0 : 0 ≤ k) (hx : x = g k) : zup (zseg f g o k) (o + k) x = zseg f g o (k + 1) := by
  funext p
  unfold zup zseg
  by_cases h : p = o + k
  · subst h; rw [if_pos rfl, if_pos (by omega), hx]; congr 1; omega
  · rw [if_neg h]
    by_cases h2 : o ≤ p ∧ p < o + k
    · rw [if_pos h2, if_pos (by omega)]
    · rw [if_neg h2, if_neg (by omega)]
theorem zseg_in (f g : Int → Int) (o k p : Int) (h0 : 0 ≤ p) (h1 : p < k) : zseg f g o k (o + p) = g p := by
  unfold zseg; rw [if_pos (by omega)]; congr 1; omega
theorem zseg_out (f g : Int → Int) (o k p : Int) (h : ¬ (o ≤ p ∧ p < o + k)) : zseg f g o k p = f p := by unfold zseg; rw [if_neg h]
def zdig (c q : Int) : Int := if q = 0 then c / 100 else if q = 1 then c / 10 % 10 else c % 10
theorem zSm_one {h h' : Int → Int} {p0 : Int} (h0 : 0 ≤ p0) : ∀ n : Nat, p0 < (n : Int) → (∀ p, 0 ≤ p → p < (n : Int) → p ≠ p0 → h p = h' p) → zSm h (n : Int) = zSm h' (n : Int) + (h p0 - h' p0) := by
  intro n
  induction n with
  | zero => intro h1; omega
  | succ n ih =>
    intro h1 h2
    rw [show ((n + 1 : Nat) : Int) = (n : Int) + 1 by omega, zSm_up _ _ (by omega), zSm_up _ _ (by omega)]
    by_cases e : p0 = (n : Int)
    · rw [zSm_congr (g := h) (g' := h') (n : Int) (fun p a b => h2 p a (by omega) (by omega)), ← e]; omega
    · rw [ih (by omega) (fun p a b c => h2 p a (by omega) c), h2 (n : Int) (by omega) (by omega) (by omega)]; omega
theorem zSm_add (g h : Int → Int) : ∀ n : Nat, zSm (fun p => g p + h p) (n : Int) = zSm g (n : Int) + zSm h (n : Int) := by
  intro n
  induction n with
  | zero => rfl
  | succ n ih =>
    rw [show ((n + 1 : Nat) : Int) = (n : Int) + 1 by omega, zSm_up _ _ (by omega), zSm_up _ _ (by omega), zSm_up _ _ (by omega), ih]
    omega
theorem zSm_perm : ∀ (n : Nat) (f : Int → Int), (∀ p, 0 ≤ p → p < (n : Int) → 0 ≤ f p ∧ f p < (n : Int)) → (∀ p q, 0 ≤ p → p < (n : Int) → 0 ≤ q → q < (n : Int) → f p = f q → p = q) → ∀ g : Int → Int, zSm (fun p => g (f p)) (n : Int) = zSm g (n : Int) := by
  intro n
  induction n with
  | zero => intro f _ _ g; rfl
  | succ n ih =>
    intro f hf hi g
    obtain ⟨p0, a0, a1, a2⟩ := zsurj (n + 1) f hf hi (n : Int) (by omega) (by omega)
    have hv := hf (n : Int) (by omega) (by omega)
    rw [show ((n + 1 : Nat) : Int) = (n : Int) + 1 by omega, zSm_up _ _ (by omega), zSm_up _ _ (by omega)]
    by_cases e : f (n : Int) = (n : Int)
    · have := ih f (fun p b0 b1 => by
        have c1 := hf p b0 (by omega)
        have c2 : f p ≠ (n : Int) := fun z => by
          have := hi p (n : Int) b0 (by omega) (by omega) (by omega) (by rw [z, e])
          omega
        omega) (fun p q b0 b1 b2 b3 => hi p q b0 (by omega) b2 (by omega)) g
      rw [this, e]
    · have hp : p0 ≠ (n : Int) := fun z => by rw [z] at a2; exact e a2
      have h1 := ih (fun p => if p = p0 then f (n : Int) else f p) (fun p b0 b1 => by
        (try dsimp only)
        by_cases c : p = p0
        · rw [if_pos c]; omega
        · rw [if_neg c]
          have c1 := hf p b0 (by omega)
          have c2 : f p ≠ (n : Int) := fun z => c (hi p p0 b0 (by omega) a0 a1 (by rw [z, a2]))
          omega) (fun p q b0 b1 b2 b3 h => by
        (try dsimp only at h)
        by_cases c : p = p0
        · by_cases c' : q = p0
          · rw [c, c']
          · rw [if_pos c, if_neg c'] at h
            have := hi _ _ (by omega) (by omega) b2 (by omega) h
            omega
        · by_cases c' : q = p0
          · rw [if_neg c, if_pos c'] at h
            have := hi _ _ b0 (by omega) (by omega) (by omega) h
            omega
          · rw [if_neg c, if_neg c'] at h
            exact hi p q b0 (by omega) b2 (by omega) h) g
      have h2 := zSm_one (h := fun p => g (f p)) (h' := fun p => g (if p = p0 then f (n : Int) else f p)) a0 n (by omega) (fun p b0 b1 b2 => by (try dsimp only); rw [if_neg b2])
      (try dsimp only at h2)
      rw [if_pos rfl, a2] at h2
      rw [h2, h1]
      omega
theorem zpn_cnt {h : Int → Int} (hok : zHok h) : zSm (fun i => if h i ≠ -5 then 1 else 0) 10 / 2 = zpn h := by
  have e1 := zSm_perm 10 (fun i => if h i = -5 then i else h i) (fun p p0 p1 => by
    (try dsimp only)
    rcases hok.1 p p0 p1 with e | e
    · rw [if_pos e]; exact ⟨p0, p1⟩
    · rw [if_neg (by omega)]; exact ⟨e.1, e.2.1⟩) (fun p q p0 p1 q0 q1 hh => by
    (try dsimp only at hh)
    rcases hok.1 p p0 p1 with e | e <;> rcases hok.1 q q0 q1 with e' | e'
    · rw [if_pos e, if_pos e'] at hh; exact hh
    · rw [if_pos e, if_neg (by omega)] at hh
      rw [hh, e'.2.2.2] at e; omega
    · rw [if_neg (by omega), if_pos e'] at hh
      rw [← hh, e.2.2.2] at e'; omega
    · rw [if_neg (by omega), if_neg (by omega)] at hh
      have := e.2.2.2; rw [hh, e'.2.2.2] at this; omega) (fun i => if i < h i then 1 else 0)
  have e2 := zSm_add (fun i => if i < h i then 1 else 0) (fun p => (fun i => if i < h i then (1 : Int) else 0) ((fun i => if h i = -5 then i else h i) p)) 10
  have e3 : zSm (fun i => if h i ≠ -5 then (1 : Int) else 0) ((10 : Nat) : Int) = zSm (fun p => (if p < h p then (1 : Int) else 0) + (fun p => (fun i => if i < h i then (1 : Int) else 0) ((fun i => if h i = -5 then i else h i) p)) p) ((10 : Nat) : Int) := by
    refine zSm_congr _ (fun p p0 p1 => ?_)
    (try dsimp only)
    rcases hok.1 p p0 p1 with e | e
    · rw [if_neg (fun z => z e), if_neg (by omega), if_pos e, if_neg (by omega)]; rfl
    · rw [if_pos (show h p ≠ -5 by omega), if_neg (show ¬ h p = -5 by omega), e.2.2.2]
      by_cases c : p < h p
      · rw [if_pos c, if_neg (by omega)]; rfl
      · rw [if_neg c, if_pos (by omega)]; rfl
  rw [e1] at e2
  have e4 : zSm (fun i => if h i ≠ -5 then (1 : Int) else 0) 10 = zpn h + zpn h := e3.trans e2
  rw [e4]
  omega
theorem zHok_join {h : Int → Int} (hok : zHok h) {i j : Int} (i0 : 0 ≤ i) (i1 : i < 10) (j0 : 0 ≤ j) (j1 : j < 10) (hij : i ≠ j) (hi : h i = -5) (hj : h j = -5) : zHok (zup (zup h i j) j i) := by
  refine ⟨fun p p0 p1 => ?_, fun p hp => ?_⟩
  · by_cases e : p = j
    · subst e; rw [zup_eq, zup_ne _ _ _ hij, zup_eq]; exact Or.inr ⟨i0, i1, hij, rfl⟩
    · rw [zup_ne _ _ _ e]
      by_cases e' : p = i
      · subst e'; rw [zup_eq, zup_eq]; exact Or.inr ⟨j0, j1, fun z => hij z.symm, rfl⟩
      · rw [zup_ne _ _ _ e']
        rcases hok.1 p p0 p1 with a | a
        · exact Or.inl a
        · refine Or.inr ⟨a.1, a.2.1, a.2.2.1, ?_⟩
          have c1 : h p ≠ i := fun z => by have := a.2.2.2; rw [z, hi] at this; omega
          have c2 : h p ≠ j := fun z => by have := a.2.2.2; rw [z, hj] at this; omega
          rw [zup_ne _ _ _ c2, zup_ne _ _ _ c1]; exact a.2.2.2
  · rw [zup_ne _ _ _ (by omega), zup_ne _ _ _ (by omega)]; exact hok.2 p hp
theorem zpn_join {h : Int → Int} {i j : Int} (i0 : 0 ≤ i) (i1 : i < 10) (j0 : 0 ≤ j) (j1 : j < 10) (hij : i ≠ j) (hi : h i = -5) (hj : h j = -5) : zpn (zup (zup h i j) j i) = zpn h + 1 := by
  have e1 := zSm_one (h := fun p => if p < zup (zup h i j) j i p then 1 else 0) (h' := fun p => if p < zup h i j p then 1 else 0) j0 10 j1 (fun p _ _ c => by (try dsimp only); rw [zup_ne _ _ _ c])
  have e2 := zSm_one (h := fun p => if p < zup h i j p then 1 else 0) (h' := fun p => if p < h p then 1 else 0) i0 10 i1 (fun p _ _ c => by (try dsimp only); rw [zup_ne _ _ _ c])
  (try dsimp only at e1 e2)
  rw [zup_eq, zup_ne _ _ _ (show j ≠ i from fun z => hij z.symm), hj, if_neg (show ¬ j < -5 by omega)] at e1
  rw [zup_eq, hi, if_neg (show ¬ i < -5 by omega)] at e2
  show zSm _ ((10 : Nat) : Int) = zSm _ ((10 : Nat) : Int) + 1
  rw [e1, e2]
  by_cases c : i < j
  · rw [if_pos c, if_neg (by omega)]; omega
  · rw [if_neg c, if_pos (by omega)]; omega
theorem zHok_part {h : Int → Int} (hok : zHok h) {i : Int} (i0 : 0 ≤ i) (i1 : i < 10) (hi : h i ≠ -5) : zHok (zup (zup h i (-5)) (h i) (-5)) := by
  have hki := (hok.1 i i0 i1).resolve_left hi
  refine ⟨fun p p0 p1 => ?_, fun p hp => ?_⟩
  · by_cases e : p = h i
    · rw [e, zup_eq]; exact Or.inl rfl
    · rw [zup_ne _ _ _ e]
      by_cases e' : p = i
      · rw [e', zup_eq]; exact Or.inl rfl
      · rw [zup_ne _ _ _ e']
        rcases hok.1 p p0 p1 with a | a
        · exact Or.inl a
        · refine Or.inr ⟨a.1, a.2.1, a.2.2.1, ?_⟩
          have c1 : h p ≠ i := fun z => by have := a.2.2.2; rw [z] at this; omega
          have c2 : h p ≠ h i := fun z => by have := a.2.2.2; rw [z, hki.2.2.2] at this; omega
          rw [zup_ne _ _ _ c2, zup_ne _ _ _ c1]; exact a.2.2.2
  · rw [zup_ne _ _ _ (by omega), zup_ne _ _ _ (by omega)]; exact hok.2 p hp
theorem zpn_part {h : Int → Int} (hok : zHok h) {i : Int} (i0 : 0 ≤ i) (i1 : i < 10) (hi : h i ≠ -5) : zpn (zup (zup h i (-5)) (h i) (-5)) = zpn h - 1 := by
  have hki := (hok.1 i i0 i1).resolve_left hi
  have e1 := zSm_one (h := fun p => if p < zup (zup h i (-5)) (h i) (-5) p then 1 else 0) (h' := fun p => if p < zup h i (-5) p then 1 else 0) hki.1 10 hki.2.1 (fun p _ _ c => by (try dsimp only); rw [zup_ne _ _ _ c])
  have e2 := zSm_one (h := fun p => if p < zup h i (-5) p then 1 else 0) (h' := fun p => if p < h p then 1 else 0) i0 10 i1 (fun p _ _ c => by (try dsimp only); rw [zup_ne _ _ _ c])
  (try dsimp only at e1 e2)
  rw [zup_eq, zup_ne _ _ _ hki.2.2.1, hki.2.2.2, if_neg (show ¬ h i < -5 by omega)] at e1
  rw [zup_eq, if_neg (show ¬ i < -5 by omega)] at e2
  show zSm _ ((10 : Nat) : Int) = zSm _ ((10 : Nat) : Int) - 1
  rw [e1, e2]
  by_cases c : i < h i
  · rw [if_pos c, if_neg (by omega)]; omega
  · rw [if_neg c, if_pos (by omega)]; omega
theorem zhc_up (h : Int → Int) (k : Int) (h0 : 0 ≤ k) : zhc h (k + 1) = zhc h k + (if k < h k ∧ ¬ (h k - k = 1 ∨ h k - k = 9) then 1 else 0) := zSm_up _ _ h0
theorem zhh_s0 {h : Int → Int} (hok : zHok h) {k : Int} (k0 : 0 ≤ k) (k1 : k < 10) (hk : ¬ (k < h k ∧ ¬ (h k - k = 1 ∨ h k - k = 9))) : zhh h (k + 1) = zhh h k := by
  funext i
  have hi := hok.1 i
  have hkk := hok.1 k k0 k1
  unfold zhh
  by_cases e2 : i = k
  · rw [e2]; split <;> split <;> omega
  · have e3 : 0 ≤ i → i < 10 → h i = k → h k = i := fun h1 h2 h3 => by
      have h4 := hi h1 h2
      rw [h3] at h4
      omega
    ((repeat' split) <;> first | rfl | (exfalso; omega) | (congr 1; omega) | (congr 2; omega) | (congr 3; omega) | omega)
theorem zhh_s1 {h : Int → Int} (hok : zHok h) {k : Int} (k0 : 0 ≤ k) (k1 : k < 10) (hk : k < h k ∧ ¬ (h k - k = 1 ∨ h k - k = 9)) : zup (zup (zhh h k) k (-5)) (h k) (-5) = zhh h (k + 1) := by
  funext i
  have hi := hok.1 i
  have hi2 := hok.2 i
  have hkk := hok.1 k k0 k1
  unfold zup zhh
  by_cases e1 : i = h k
  · rw [if_pos e1]
    have e2 : h i = k := by rw [e1]; omega
    rw [if_pos (by omega)]
  · rw [if_neg e1]
    by_cases e2 : i = k
    · rw [if_pos e2, if_pos (by rw [e2]; omega)]
    · rw [if_neg e2]
      have e3 : 0 ≤ i → i < 10 → h i ≠ k := fun h1 h2 h3 => by
        have h4 := hi h1 h2
        rw [h3] at h4
        omega
      ((repeat' split) <;> first | rfl | (exfalso; omega) | (congr 1; omega) | (congr 2; omega) | (congr 3; omega) | omega)
def zTo (kd a b p : Int) : Int := if (kd = 3 ∧ a ≤ p ∧ p ≤ b) ∨ (kd = 0 ∧ (p = a ∨ p = b)) then a + b - p else if kd = 2 then (p + a) % 10 else p
def zTn (kd a b p : Int) : Int := if kd = 3 ∧ a ≤ p ∧ p ≤ b then 2 else if kd = 1 ∧ p = a then b else 0
def zto (c p : Int) : Int := zTo (zdig c 0) (zdig c 1) (zdig c 2) p
def ztn (c p : Int) : Int := zTn (zdig c 0) (zdig c 1) (zdig c 2) p
theorem zto_all {c p : Int} (hc : zvs c) (h0 : 0 ≤ p) (h1 : p < 10) : 0 ≤ zto c p ∧ zto c p < 10 ∧ zg c (zto c p) = p ∧ zt c (zto c p) = ztn c p ∧ 0 ≤ ztn c p ∧ ztn c p < 4 := by
  unfold zvs at hc
  unfold zto ztn zg zt
  rw [show zdig c 0 = c / 100 from rfl, show zdig c 1 = c / 10 % 10 from rfl, show zdig c 2 = c % 10 from rfl]
  have ha : 0 ≤ c / 10 % 10 ∧ c / 10 % 10 < 10 := by omega
  have hb : 0 ≤ c % 10 ∧ c % 10 < 10 := by omega
  have hc2 := hc.2
  revert ha hb hc2
  generalize c / 100 = K
  generalize c / 10 % 10 = a
  generalize c % 10 = b
  clear hc
  intro ha hb hc2
  have fin : ∀ K v t : Int, zTo K a b p = v → zTn K a b p = t → 0 ≤ v ∧ v < 10 → 0 ≤ t ∧ t < 4 → (if K = 0 then (if v = a then b else if v = b then a else v) else if K = 1 then v else if K = 2 then (v - a + 10) % 10 else (if a ≤ v ∧ v ≤ b then a + b - v else v)) = p → (if K = 1 then (if v = a then b else 0) else if K = 3 then (if a ≤ v ∧ v ≤ b then 2 else 0) else 0) = t → 0 ≤ zTo K a b p ∧ zTo K a b p < 10 ∧ (if K = 0 then (if zTo K a b p = a then b else if zTo K a b p = b then a else zTo K a b p) else if K = 1 then zTo K a b p else if K = 2 then (zTo K a b p - a + 10) % 10 else (if a ≤ zTo K a b p ∧ zTo K a b p ≤ b then a + b - zTo K a b p else zTo K a b p)) = p ∧ (if K = 1 then (if zTo K a b p = a then b else 0) else if K = 3 then (if a ≤ zTo K a b p ∧ zTo K a b p ≤ b then 2 else 0) else 0) = zTn K a b p ∧ 0 ≤ zTn K a b p ∧ zTn K a b p < 4 := by
    intro K v t h1 h2 h3 h4 h5 h6
    rw [h1, h2]
    exact ⟨h3.1, h3.2, h5, h6, h4.1, h4.2⟩
  rcases hc2 with ⟨rfl, h⟩ | ⟨rfl, h⟩ | ⟨rfl, h⟩ | ⟨rfl, h⟩
  · by_cases e : p = a ∨ p = b
    · refine fin 0 (a + b - p) 0 (by unfold zTo; rw [if_pos (Or.inr ⟨rfl, e⟩)]) (by unfold zTn; rw [if_neg (by omega), if_neg (by omega)]) (by omega) (by omega) ?_ ?_ <;> (repeat' split) <;> omega
    · refine fin 0 p 0 (by unfold zTo; rw [if_neg (by omega), if_neg (by omega)]) (by unfold zTn; rw [if_neg (by omega), if_neg (by omega)]) (by omega) (by omega) ?_ ?_ <;> (repeat' split) <;> omega
  · by_cases e : p = a
    · refine fin 1 p b (by unfold zTo; rw [if_neg (by omega), if_neg (by omega)]) (by unfold zTn; rw [if_neg (by omega), if_pos ⟨rfl, e⟩]) (by omega) (by omega) ?_ ?_ <;> (repeat' split) <;> omega
    · refine fin 1 p 0 (by unfold zTo; rw [if_neg (by omega), if_neg (by omega)]) (by unfold zTn; rw [if_neg (by omega), if_neg (by omega)]) (by omega) (by omega) ?_ ?_ <;> (repeat' split) <;> omega
  · refine fin 2 ((p + a) % 10) 0 (by unfold zTo; rw [if_neg (by omega), if_pos rfl]) (by unfold zTn; rw [if_neg (by omega), if_neg (by omega)]) (by omega) (by omega) ?_ ?_ <;> (repeat' split) <;> omega
  · by_cases e : a ≤ p ∧ p ≤ b
    · refine fin 3 (a + b - p) 2 (by unfold zTo; rw [if_pos (Or.inl ⟨rfl, e⟩)]) (by unfold zTn; rw [if_pos ⟨rfl, e⟩]) (by omega) (by omega) ?_ ?_ <;> (repeat' split) <;> omega
    · refine fin 3 p 0 (by unfold zTo; rw [if_neg (by omega), if_neg (by omega)]) (by unfold zTn; rw [if_neg (by omega), if_neg (by omega)]) (by omega) (by omega) ?_ ?_ <;> (repeat' split) <;> omega
theorem zto_inj {c p q : Int} (hc : zvs c) (p0 : 0 ≤ p) (p1 : p < 10) (q0 : 0 ≤ q) (q1 : q < 10) (h : zto c p = zto c q) : p = q := by
  have h1 := (zto_all hc p0 p1).2.2.1
  have h2 := (zto_all hc q0 q1).2.2.1
  rw [h, h2] at h1
  exact h1.symm
theorem zto_sur {c q : Int} (hc : zvs c) (q0 : 0 ≤ q) (q1 : q < 10) : 0 ≤ zg c q ∧ zg c q < 10 ∧ zto c (zg c q) = q := by
  obtain ⟨p, p0, p1, e⟩ := zsurj 10 (zto c) (fun p a b => ⟨(zto_all hc a b).1, (zto_all hc a b).2.1⟩) (fun p q a b e f h => zto_inj hc a b e f h) q q0 q1
  have h1 := (zto_all hc p0 p1).2.2.1
  rw [e] at h1
  rw [h1]
  exact ⟨p0, p1, e⟩
theorem zund_dig {c : Int} (hc : zvs c) : zdig (zund c) 0 = zdig c 0 ∧ zdig (zund c) 1 = (if zdig c 0 = 2 then 10 - zdig c 1 else zdig c 1) ∧ zdig (zund c) 2 = (if zdig c 0 = 1 then 4 - zdig c 2 else zdig c 2) := by
  unfold zvs at hc
  rw [show zdig c 0 = c / 100 from rfl, show zdig c 1 = c / 10 % 10 from rfl, show zdig c 2 = c % 10 from rfl, show zdig (zund c) 0 = zund c / 100 from rfl, show zdig (zund c) 1 = zund c / 10 % 10 from rfl, show zdig (zund c) 2 = zund c % 10 from rfl]
  unfold zund
  by_cases e1 : c / 100 = 1
  · rw [if_pos e1, if_neg (by omega), if_pos e1]; omega
  · rw [if_neg e1, if_neg e1]
    by_cases e2 : c / 100 = 2
    · rw [if_pos e2, if_pos e2]; omega
    · rw [if_neg e2, if_neg e2]; exact ⟨rfl, rfl, rfl⟩
theorem zord_get {L : List Int} {b : Int} {i : Nat} (hb : b ≠ 0) (hi : i < L.length) : (zord L b).getD i 0 = zund (L.getD (L.length - 1 - i) 0) := by
  unfold zord
  rw [if_neg hb]
  simp only [List.getD_eq_getElem?_getD]
  rw [List.getElem?_map, List.getElem?_reverse hi, List.getElem?_eq_getElem (by omega)]
  rfl
theorem zgetD_mem {L : List Int} {i : Nat} (hi : i < L.length) : L.getD i 0 ∈ L := by
  simp only [List.getD_eq_getElem?_getD]
  rw [List.getElem?_eq_getElem hi]
  exact List.getElem_mem _
theorem zac_at {R : zRg} {c p : Int} (hc : zvs c) (p0 : 0 ≤ p) (p1 : p < 10) : (zac R c).1 (zto c p) = R.1 p ∧ (zac R c).2 (zto c p) = (R.2 p + ztn c p) % 4 := by
  have h := zto_all hc p0 p1
  constructor
  · show zaw R.1 (zg c) (zto c p) = R.1 p
    unfold zaw
    rw [zcut_in _ _ _ h.1 h.2.1, h.2.2.1]
  · show zaf R.2 (zg c) (zt c) (zto c p) = _
    unfold zaf
    rw [zcut_in _ _ _ h.1 h.2.1, h.2.2.1, h.2.2.2.1]
theorem zgR_ac {R : zRg} {c : Int} (h : zgR R.1 R.2) (hc : zvs c) : zgR (zac R c).1 (zac R c).2 := zgR_step h hc
theorem zkall_to {w f h : Int → Int} {c : Int} (hg : zgR w f) (hok : zHok h) (hc : zvs c) : zkall (zac (w, f) c).1 h ↔ ∀ p, 0 ≤ p → p < 10 → h (w p) = -5 ∨ znb (zto c p) (zto c (zpl w (h (w p)))) := by
  have hg' := zgR_ac (R := (w, f)) hg hc
  have key : ∀ p, 0 ≤ p → p < 10 → (zkept (zac (w, f) c).1 h (zto c p) ↔ (h (w p) = -5 ∨ znb (zto c p) (zto c (zpl w (h (w p)))))) := by
    intro p p0 p1
    have ht := zto_all hc p0 p1
    have hw := hg.1 p p0 p1
    have e1 : (zac (w, f) c).1 (zto c p) = w p := (zac_at hc p0 p1).1
    unfold zkept
    rw [e1]
    rcases hok.1 (w p) hw.1 hw.2.1 with e | e
    · exact ⟨fun _ => Or.inl e, fun _ => Or.inl e⟩
    · have hp := zpl_ok hg e.1 e.2.1
      have ht2 := zto_all hc hp.1 hp.2.1
      have e2 : (zac (w, f) c).1 (zto c (zpl w (h (w p)))) = h (w p) := by rw [(zac_at hc hp.1 hp.2.1).1]; exact hp.2.2
      have hin : ∀ x, 0 ≤ x → x < 10 → (h (w p) = (zac (w, f) c).1 x ↔ x = zto c (zpl w (h (w p)))) := fun x x0 x1 => by
        constructor
        · intro hx
          exact hg'.2.1 x _ x0 x1 ht2.1 ht2.2.1 (by rw [e2, hx])
        · intro hx
          rw [hx, e2]
      rw [hin _ (by omega) (by omega), hin _ (by omega) (by omega)]
      unfold znb
      omega
  constructor
  · intro H p p0 p1
    have ht := zto_all hc p0 p1
    exact (key p p0 p1).1 (H _ ht.1 ht.2.1)
  · intro H q q0 q1
    have hs := zto_sur hc q0 q1
    have := (key _ hs.1 hs.2.1).2 (H _ hs.1 hs.2.1)
    rw [hs.2.2] at this
    exact this
theorem zall_up {P : Int → Prop} {k : Int} (h : ∀ p, 0 ≤ p → p < k → P p) (hk : P k) : ∀ p, 0 ≤ p → p < k + 1 → P p := fun p p0 p1 => by
  by_cases e : p = k
  · rw [e]; exact hk
  · exact h p p0 (by omega)
theorem zrep_get {O : List Int} : ∀ (n m : Nat), m < n * O.length → (zrep n O).getD m 0 = O.getD (m % O.length) 0 := by
  intro n
  induction n with
  | zero => intro m hm; rw [Nat.zero_mul] at hm; omega
  | succ n ih =>
    intro m hm
    rw [Nat.succ_mul] at hm
    show (O ++ zrep n O).getD m 0 = _
    by_cases e : m < O.length
    · rw [Nat.mod_eq_of_lt e]
      simp only [List.getD_eq_getElem?_getD]
      rw [List.getElem?_append_left e]
    · rw [Nat.mod_eq_sub_mod (by omega), ← ih (m - O.length) (by omega)]
      simp only [List.getD_eq_getElem?_getD]
      rw [List.getElem?_append_right (by omega)]
theorem zdrop_cons {L : List Int} {m : Nat} (h : m < L.length) : L.drop m = L.getD m 0 :: L.drop (m + 1) := by
  rw [List.drop_eq_getElem_cons h]
  congr 1
  simp only [List.getD_eq_getElem?_getD]
  rw [List.getElem?_eq_getElem h]
  rfl
theorem zfo_take {L : List Int} {m : Nat} {R : zRg} (h : m < L.length) : zfo R (L.take (m + 1)) = zac (zfo R (L.take m)) (L.getD m 0) := by
  have e : L.take (m + 1) = L.take m ++ [L.getD m 0] := by
    rw [List.take_succ]
    congr 1
    simp only [List.getD_eq_getElem?_getD]
    rw [List.getElem?_eq_getElem h]
    rfl
  rw [e]
  unfold zfo
  rw [List.foldl_append]
  rfl
theorem zsame_iff {R R' : zRg} (hg : zgR R.1 R.2) (hg' : zgR R'.1 R'.2) : zsame R R' ↔ ∀ p, 0 ≤ p → p < 10 → zpl R.1 p = zpl R'.1 p ∧ R.2 (zpl R.1 p) = R'.2 (zpl R'.1 p) := by
  constructor
  · intro h p p0 p1
    have hp := zpl_ok hg p0 p1
    have hs := h _ hp.1 hp.2.1
    have e : zpl R'.1 p = zpl R.1 p := zpl_of hg' hp.1 hp.2.1 (by rw [← hs.1]; exact hp.2.2)
    rw [e]
    exact ⟨rfl, hs.2⟩
  · intro h q q0 q1
    have hr := hg.1 q q0 q1
    have e1 : zpl R.1 (R.1 q) = q := zpl_of hg q0 q1 rfl
    have hs := h (R.1 q) hr.1 hr.2.1
    have hp' := zpl_ok hg' hr.1 hr.2.1
    rw [e1] at hs
    rw [← hs.1] at hp' hs
    exact ⟨hp'.2.2.symm, hs.2⟩
theorem zgR_act2 {R E : zRg} (hR : zgR R.1 R.2) (hE : zgR E.1 E.2) : zgR (zact R E).1 (zact R E).2 := zgR_ring hR hE
theorem zact_pl {R E : zRg} (hR : zgR R.1 R.2) (hE : zgR E.1 E.2) {p : Int} (p0 : 0 ≤ p) (p1 : p < 10) : zpl (zact R E).1 p = zpl E.1 (zpl R.1 p) ∧ (zact R E).2 (zpl E.1 (zpl R.1 p)) = (R.2 (zpl R.1 p) + E.2 (zpl E.1 (zpl R.1 p))) % 4 := by
  have hp := zpl_ok hR p0 p1
  have hq := zpl_ok hE hp.1 hp.2.1
  have e1 : (zact R E).1 (zpl E.1 (zpl R.1 p)) = p := by
    show zaw R.1 E.1 _ = p
    unfold zaw
    rw [zcut_in _ _ _ hq.1 hq.2.1, hq.2.2, hp.2.2]
  refine ⟨zpl_of (zgR_act2 hR hE) hq.1 hq.2.1 e1, ?_⟩
  show zaf R.2 E.1 E.2 _ = _
  unfold zaf
  rw [zcut_in _ _ _ hq.1 hq.2.1, hq.2.2]
theorem zact_same {R E : zRg} (hR : zgR R.1 R.2) (hE : zgR E.1 E.2) : zsame (zact R E) (zact E R) ↔ ∀ p, 0 ≤ p → p < 10 → zpl E.1 (zpl R.1 p) = zpl R.1 (zpl E.1 p) ∧ (R.2 (zpl R.1 p) + E.2 (zpl E.1 (zpl R.1 p))) % 4 = (E.2 (zpl E.1 p) + R.2 (zpl R.1 (zpl E.1 p))) % 4 := by
  rw [zsame_iff (zgR_act2 hR hE) (zgR_act2 hE hR)]
  constructor
  · intro h p p0 p1
    have h1 := h p p0 p1
    have a := zact_pl hR hE p0 p1
    have b := zact_pl hE hR p0 p1
    rw [a.1, b.1] at h1
    exact ⟨h1.1, by rw [← a.2, ← b.2]; exact h1.2⟩
  · intro h p p0 p1
    have h1 := h p p0 p1
    have a := zact_pl hR hE p0 p1
    have b := zact_pl hE hR p0 p1
    rw [a.1, b.1]
    exact ⟨h1.1, by rw [a.2, b.2]; exact h1.2⟩
theorem zhm_nw {R : zRg} (hR : zgR R.1 R.2) : zhm R.1 R.2 ↔ ∀ i, 0 ≤ i → i < 10 → zpl R.1 i = i ∧ R.2 (zpl R.1 i) = 0 := by
  constructor
  · intro h i i0 i1
    have e := zpl_of hR i0 i1 (h i i0 i1).1
    rw [e]
    exact ⟨rfl, (h i i0 i1).2⟩
  · intro h i i0 i1
    have h1 := h i i0 i1
    have h2 := zpl_ok hR i0 i1
    have h3 := h2.2.2
    have h4 := h1.2
    rw [h1.1] at h3 h4
    exact ⟨h3, h4⟩
theorem zSm_one_c : ∀ n : Nat, zSm (fun _ => (1 : Int)) (n : Int) = (n : Int) := by
  intro n
  induction n with
  | zero => rfl
  | succ n ih => rw [show ((n + 1 : Nat) : Int) = (n : Int) + 1 by omega, zSm_up _ _ (by omega), ih]
theorem zSm_comp {g g' : Int → Int} (h : ∀ p, 0 ≤ p → p < 10 → g' p = 1 - g p) : zSm g' 10 = 10 - zSm g 10 := by
  have h1 := zSm_add g g' 10
  have h2 : zSm (fun p => g p + g' p) ((10 : Nat) : Int) = zSm (fun _ => 1) ((10 : Nat) : Int) := zSm_congr _ (fun p p0 p1 => by
    (try dsimp only)
    rw [h p p0 p1]; omega)
  rw [h2, zSm_one_c] at h1
  have h3 : ((10 : Nat) : Int) = zSm g 10 + zSm g' 10 := h1
  omega
theorem zSm_ext {h : Int → Int} {p : Int} (p0 : 0 ≤ p) : ∀ n : Nat, p ≤ (n : Int) → (∀ o, p ≤ o → o < (n : Int) → h o = 0) → zSm h p = zSm h (n : Int) := by
  intro n
  induction n with
  | zero => intro h1 _; rw [show p = 0 by omega]; rfl
  | succ n ih =>
    intro h1 h2
    by_cases e : p = ((n + 1 : Nat) : Int)
    · rw [e]
    · rw [show ((n + 1 : Nat) : Int) = (n : Int) + 1 by omega, zSm_up _ _ (by omega), ← ih (by omega) (fun o o0 o1 => h2 o o0 (by omega)), h2 (n : Int) (by omega) (by omega)]
      omega
theorem zinv_sum {R : zRg} (hR : zgR R.1 R.2) : zSm (fun p => zSm (fun o => if o < p ∧ zpl R.1 p < zpl R.1 o then 1 else 0) 10) 10 = zSm (fun p => zinv R.1 p 10) 10 := by
  have hm : ∀ p, 0 ≤ p → p < ((10 : Nat) : Int) → 0 ≤ R.1 p ∧ R.1 p < ((10 : Nat) : Int) := fun p p0 p1 => ⟨(hR.1 p p0 p1).1, (hR.1 p p0 p1).2.1⟩
  have hi : ∀ p q, 0 ≤ p → p < ((10 : Nat) : Int) → 0 ≤ q → q < ((10 : Nat) : Int) → R.1 p = R.1 q → p = q := fun p q p0 p1 q0 q1 h => hR.2.1 p q p0 p1 q0 q1 h
  have h1 := zSm_perm 10 R.1 hm hi (fun p => zSm (fun o => if o < p ∧ zpl R.1 p < zpl R.1 o then 1 else 0) 10)
  refine h1.symm.trans ?_
  refine zSm_congr _ (fun a a0 a1 => ?_)
  (try dsimp only)
  have ea : zpl R.1 (R.1 a) = a := zpl_of hR a0 a1 rfl
  rw [ea]
  have h2 := zSm_perm 10 R.1 hm hi (fun o => if o < R.1 a ∧ a < zpl R.1 o then 1 else 0)
  refine h2.symm.trans ?_
  unfold zinv
  refine zSm_congr _ (fun c c0 c1 => ?_)
  (try dsimp only)
  have ec : zpl R.1 (R.1 c) = c := zpl_of hR c0 c1 rfl
  rw [ec]
  by_cases e : a < c ∧ R.1 a > R.1 c
  · rw [if_pos e, if_pos ⟨e.2, e.1⟩]
  · rw [if_neg e, if_neg (fun z => e ⟨z.2, z.1⟩)]
def zbs (E : zRg) (p : Int) : Nat → Int × Int
  | 0 => (p, 0)
  | n + 1 => (zpl E.1 (zbs E p n).1, ((zbs E p n).2 + E.2 (zpl E.1 (zbs E p n).1)) % 4)
theorem zbs_bd {E : zRg} (hE : zgR E.1 E.2) {p : Int} (p0 : 0 ≤ p) (p1 : p < 10) : ∀ n : Nat, 0 ≤ (zbs E p n).1 ∧ (zbs E p n).1 < 10 ∧ 0 ≤ (zbs E p n).2 ∧ (zbs E p n).2 < 4 := by
  intro n
  induction n with
  | zero => exact ⟨p0, p1, Int.le_refl _, by show (0 : Int) < 4; decide⟩
  | succ n ih =>
    have h := zpl_ok hE ih.1 ih.2.1
    refine ⟨h.1, h.2.1, ?_, ?_⟩
    · exact Int.emod_nonneg _ (by decide)
    · exact Int.emod_lt_of_pos _ (by decide)
theorem zn_to {a : Nat} (h : a < 2147483648) : (nI a).toInt = (a : Int) := by
  rw [← zi_n]; exact zi_to (by unfold zin; omega)
theorem zor_nI (a b : Nat) : nI a ||| nI b = nI (a ||| b) := by
  apply Int32.toBitVec_inj.1
  show BitVec.ofNat 32 a ||| BitVec.ofNat 32 b = BitVec.ofNat 32 (a ||| b)
  apply BitVec.eq_of_getLsbD_eq
  intro i hi
  simp [hi]
theorem zand_nI (a b : Nat) : nI a &&& nI b = nI (a &&& b) := by
  apply Int32.toBitVec_inj.1
  show BitVec.ofNat 32 a &&& BitVec.ofNat 32 b = BitVec.ofNat 32 (a &&& b)
  apply BitVec.eq_of_getLsbD_eq
  intro i hi
  simp [hi]
theorem zor_lt {a b : Nat} (ha : a < 256) (hb : b < 256) : a ||| b < 256 := Nat.or_lt_two_pow (n := 8) ha hb
theorem zand_lt {a b : Nat} (ha : a < 256) : a &&& b < 256 := Nat.lt_of_le_of_lt Nat.and_le_left ha
theorem zor_n {a b : Nat} (ha : a < 256) (hb : b < 256) : zor (a : Int) (b : Int) = ((a ||| b : Nat) : Int) := by
  unfold zor
  rw [zi_n, zi_n, zor_nI, zn_to (Nat.lt_of_lt_of_le (zor_lt ha hb) (by decide))]
theorem zand_n {a b : Nat} (ha : a < 256) : zand (a : Int) (b : Int) = ((a &&& b : Nat) : Int) := by
  unfold zand
  rw [zi_n, zi_n, zand_nI, zn_to (Nat.lt_of_lt_of_le (zand_lt ha) (by decide))]
theorem zbit1 : ∀ s : Nat, s < 256 → ∀ k : Nat, k < 8 → (s / 2 ^ k) &&& 1 = if s.testBit k then 1 else 0 := by decide +kernel
theorem zbit2 : ∀ s : Nat, s < 256 → ∀ k : Nat, k < 8 → ((s &&& 2 ^ k) ≠ 0 ↔ s.testBit k = true) := by decide +kernel
theorem zsh1 {s : Nat} (hs : s < 256) {k : Int} (k0 : 0 ≤ k) (k1 : k < 8) : zand ((s : Int) / 2 ^ k.toNat) 1 = if s.testBit k.toNat then 1 else 0 := by
  have e : (s : Int) / 2 ^ k.toNat = ((s / 2 ^ k.toNat : Nat) : Int) := by simp
  have h1 : s / 2 ^ k.toNat < 256 := Nat.lt_of_le_of_lt (Nat.div_le_self _ _) hs
  rw [e, show (1 : Int) = ((1 : Nat) : Int) from rfl, zand_n h1, zbit1 s hs k.toNat (by omega)]
  split <;> rfl
theorem zpw {a : Int} : (1 : Int) * 2 ^ a.toNat = ((2 ^ a.toNat : Nat) : Int) := by simp
theorem zpw_lt {a : Int} (h : a < 8) : 2 ^ a.toNat < 256 := Nat.lt_of_lt_of_le (Nat.pow_lt_pow_right (by decide) (show a.toNat < 8 by omega)) (by decide)
theorem zpw_lt' {a : Int} (h : a < 8) : 2 ^ a.toNat < 256 := by
  have h2 : a.toNat ≤ 7 := by omega
  exact Nat.lt_of_le_of_lt (Nat.pow_le_pow_right (by decide) h2) (by decide)
theorem zand_pw {s : Nat} (hs : s < 256) {k : Int} (k0 : 0 ≤ k) (k1 : k < 8) : zand (s : Int) (1 * 2 ^ k.toNat) ≠ 0 ↔ s.testBit k.toNat = true := by
  rw [zpw, zand_n hs, ← zbit2 s hs k.toNat (by omega)]
  omega
theorem zor_pw {s : Nat} (hs : s < 256) {a : Int} (a1 : a < 8) : zor (s : Int) (1 * 2 ^ a.toNat) = ((s ||| 2 ^ a.toNat : Nat) : Int) ∧ s ||| 2 ^ a.toNat < 256 := by
  rw [zpw, zor_n hs (zpw_lt' a1)]
  exact ⟨rfl, zor_lt hs (zpw_lt' a1)⟩
theorem zor_bit (s a i : Nat) : (s ||| 2 ^ a).testBit i = true ↔ s.testBit i = true ∨ i = a := by
  rw [Nat.testBit_or, Nat.testBit_two_pow, Bool.or_eq_true, decide_eq_true_eq]
  constructor
  · rintro (h | h)
    · exact Or.inl h
    · exact Or.inr h.symm
  · rintro (h | h)
    · exact Or.inl h
    · exact Or.inr h.symm
def zcal (cd : Int → Int) (k : Int) (j : Nat) (a : Int) : Prop := ∃ m : Nat, m < j ∧ cd (k * 10 + (m : Int)) / 100 = 4 ∧ cd (k * 10 + (m : Int)) / 10 % 10 = a
theorem zpm_n {cd T : Int → Int} {k : Int} : ∀ j : Nat, (∀ a, zcal cd k j a → 0 ≤ a ∧ a < 8 ∧ ∃ t : Nat, t < 256 ∧ T a = (t : Int)) → ∃ n : Nat, n < 256 ∧ zpm cd T k j = (n : Int) ∧ ∀ i : Nat, n.testBit i = true ↔ ∃ a, zcal cd k j a ∧ (a = (i : Int) ∨ (T a).toNat.testBit i = true) := by
  intro j
  induction j with
  | zero =>
    intro _
    refine ⟨0, by decide, rfl, fun i => ?_⟩
    rw [Nat.zero_testBit]
    constructor
    · intro h; cases h
    · rintro ⟨a, ⟨m, hm, _⟩, _⟩; exact absurd hm (Nat.not_lt_zero m)
  | succ j ih =>
    intro h
    obtain ⟨n, n1, n2, n3⟩ := ih (fun a ⟨m, hm, hc⟩ => h a ⟨m, by omega, hc⟩)
    have e : zpm cd T k (j + 1) = if cd (k * 10 + (j : Int)) / 100 = 4 then zor (zor (zpm cd T k j) (T (cd (k * 10 + (j : Int)) / 10 % 10))) (1 * 2 ^ (cd (k * 10 + (j : Int)) / 10 % 10).toNat) else zpm cd T k j := rfl
    rw [e]
    by_cases hc : cd (k * 10 + (j : Int)) / 100 = 4
    · rw [if_pos hc]
      obtain ⟨a0, a1, t, t1, t2⟩ := h _ ⟨j, Nat.lt_succ_self j, hc, rfl⟩
      revert a0 a1 t2
      generalize ha : cd (k * 10 + (j : Int)) / 10 % 10 = a
      intro a0 a1 t2
      rw [n2, t2, zor_n n1 t1]
      have hp := zor_pw (zor_lt n1 t1) a1
      refine ⟨_, hp.2, hp.1, fun i => ?_⟩
      rw [zor_bit, Nat.testBit_or, Bool.or_eq_true, n3 i]
      constructor
      · rintro ((⟨b, ⟨m, hm, hb⟩, hi⟩ | hi) | hi)
        · exact ⟨b, ⟨m, by omega, hb⟩, hi⟩
        · exact ⟨a, ⟨j, Nat.lt_succ_self j, hc, ha⟩, Or.inr (by rw [t2]; exact hi)⟩
        · exact ⟨a, ⟨j, Nat.lt_succ_self j, hc, ha⟩, Or.inl (by omega)⟩
      · rintro ⟨b, ⟨m, hm, hb1, hb2⟩, hi⟩
        by_cases em : m = j
        · subst em
          have eb : b = a := by rw [← hb2, ha]
          subst eb
          rcases hi with hi | hi
          · exact Or.inr (by omega)
          · rw [t2] at hi; exact Or.inl (Or.inr hi)
        · exact Or.inl (Or.inl ⟨b, ⟨m, by omega, hb1, hb2⟩, hi⟩)
    · rw [if_neg hc]
      refine ⟨n, n1, n2, fun i => ?_⟩
      rw [n3 i]
      constructor
      · rintro ⟨b, ⟨m, hm, hb⟩, hi⟩
        exact ⟨b, ⟨m, by omega, hb⟩, hi⟩
      · rintro ⟨b, ⟨m, hm, hb1, hb2⟩, hi⟩
        by_cases em : m = j
        · subst em; exact absurd hb1 hc
        · exact ⟨b, ⟨m, by omega, hb1, hb2⟩, hi⟩
theorem zcal_in {sz cd : Int → Int} (hv : zfv sz cd) {k a : Int} {j : Nat} (k0 : 0 ≤ k) (k1 : k < 8) (hj : (j : Int) ≤ sz k) (h : zcal cd k j a) : 0 ≤ a ∧ a < k := by
  obtain ⟨m, hm, h1, h2⟩ := h
  have h3 := (hv k k0 k1).2.2 (m : Int) (by omega) (by omega)
  unfold zvm at h3
  omega
theorem zcm_n {sz cd : Int → Int} (hv : zfv sz cd) : ∀ (n : Nat) (k : Int), 0 ≤ k → k < 8 → k < n → ∃ c : Nat, c < 256 ∧ zcm sz cd k = (c : Int) ∧ ∀ i : Nat, c.testBit i = true ↔ ∃ a, zcal cd k (sz k).toNat a ∧ (a = (i : Int) ∨ (zcm sz cd a).toNat.testBit i = true) := by
  intro n
  induction n with
  | zero => intro k h0 _ h1; omega
  | succ n ih =>
    intro k k0 k1 k2
    rw [zcm_eq hv k0 k1]
    have hs := hv k k0 k1
    refine zpm_n (cd := cd) (T := zcm sz cd) (k := k) (sz k).toNat (fun a ha => ?_)
    have hb := zcal_in hv k0 k1 (by omega) ha
    obtain ⟨c, c1, c2, _⟩ := ih a hb.1 (by omega) (by omega)
    exact ⟨hb.1, by omega, c, c1, c2⟩
theorem zcm_b {sz cd : Int → Int} (hv : zfv sz cd) {k : Int} (k0 : 0 ≤ k) (k1 : k < 8) : (zcm sz cd k).toNat < 256 ∧ zcm sz cd k = ((zcm sz cd k).toNat : Int) ∧ ∀ i : Nat, (zcm sz cd k).toNat.testBit i = true ↔ ∃ a, zcal cd k (sz k).toNat a ∧ (a = (i : Int) ∨ (zcm sz cd a).toNat.testBit i = true) := by
  obtain ⟨c, c1, c2, c3⟩ := zcm_n hv 8 k k0 k1 (by omega)
  have e : (zcm sz cd k).toNat = c := by rw [c2]; rfl
  rw [e]
  exact ⟨c1, c2, c3⟩
theorem zcm_lt {sz cd : Int → Int} (hv : zfv sz cd) : ∀ (n : Nat) (k : Int), 0 ≤ k → k < 8 → k < n → ∀ i : Nat, (zcm sz cd k).toNat.testBit i = true → (i : Int) < k := by
  intro n
  induction n with
  | zero => intro k h0 _ h1; omega
  | succ n ih =>
    intro k k0 k1 k2 i hi
    have hs := hv k k0 k1
    obtain ⟨a, ha, h⟩ := ((zcm_b hv k0 k1).2.2 i).1 hi
    have hb := zcal_in hv k0 k1 (by omega) ha
    rcases h with h | h
    · omega
    · have := ih a hb.1 (by omega) (by omega) i h
      omega
theorem zcm_tr {sz cd : Int → Int} (hv : zfv sz cd) {r a : Int} (r0 : 0 ≤ r) (r1 : r < 8) (hra : zcal cd r (sz r).toNat a) : ∀ (n : Nat) (k : Int), 0 ≤ k → k < 8 → k < n → (zcm sz cd k).toNat.testBit r.toNat = true → (zcm sz cd k).toNat.testBit a.toNat = true := by
  intro n
  induction n with
  | zero => intro k h0 _ h1; omega
  | succ n ih =>
    intro k k0 k1 k2 hk
    have hs := hv k k0 k1
    have hsr := hv r r0 r1
    have har := zcal_in hv r0 r1 (by omega) hra
    obtain ⟨b, hb, h⟩ := ((zcm_b hv k0 k1).2.2 r.toNat).1 hk
    have hbk := zcal_in hv k0 k1 (by omega) hb
    refine ((zcm_b hv k0 k1).2.2 a.toNat).2 ⟨b, hb, Or.inr ?_⟩
    rcases h with h | h
    · have e : b = r := by omega
      subst e
      exact ((zcm_b hv r0 r1).2.2 a.toNat).2 ⟨a, hra, Or.inl (by omega)⟩
    · exact ih b hbk.1 (by omega) (by omega) h
theorem zcm_sub {sz cd : Int → Int} (hv : zfv sz cd) {f : Int} {s : Nat} (hs : ∀ r, 0 ≤ r → r < 8 → (r = f ∨ s.testBit r.toNat = true) → ∀ a, zcal cd r (sz r).toNat a → s.testBit a.toNat = true) : ∀ (n : Nat) (r : Int), 0 ≤ r → r < 8 → r < n → (r = f ∨ s.testBit r.toNat = true) → ∀ i : Nat, (zcm sz cd r).toNat.testBit i = true → s.testBit i = true := by
  intro n
  induction n with
  | zero => intro r h0 _ h1; omega
  | succ n ih =>
    intro r r0 r1 r2 hr i hi
    have hz := hv r r0 r1
    obtain ⟨a, ha, h⟩ := ((zcm_b hv r0 r1).2.2 i).1 hi
    have hb := zcal_in hv r0 r1 (by omega) ha
    have hsa := hs r r0 r1 hr a ha
    rcases h with h | h
    · have e : a.toNat = i := by omega
      rw [← e]; exact hsa
    · exact ih a hb.1 (by omega) (by omega) (Or.inr hsa) i h
theorem zor_0 {s : Nat} (hs : s < 256) : zor (s : Int) 0 = (s : Int) := by
  rw [show (0 : Int) = ((0 : Nat) : Int) from rfl, zor_n hs (by decide), Nat.or_zero]
theorem zclr_n {sz cd : Int → Int} (hv : zfv sz cd) {f : Int} : ∀ n : Nat, n ≤ 8 → ∃ s : Nat, s < 256 ∧ zclr (zcm sz cd) f n = (s : Int) := by
  intro n
  induction n with
  | zero => intro _; exact ⟨0, by decide, rfl⟩
  | succ n ih =>
    intro hn
    obtain ⟨s, s1, s2⟩ := ih (by omega)
    unfold zclr
    rw [s2]
    split
    · have h := zor_pw s1 (a := (n : Int)) (by omega)
      exact ⟨_, h.2, h.1⟩
    · exact ⟨s, s1, rfl⟩
theorem zclr_s {sz cd : Int → Int} (hv : zfv sz cd) {f : Int} (f0 : 0 ≤ f) (f1 : f < 8) {n : Nat} (hn : n < 8) : zclr (zcm sz cd) f (n + 1) = zor (zclr (zcm sz cd) f n) ((if (zcm sz cd (n : Int)).toNat.testBit f.toNat = true then 1 else 0) * 2 ^ (n : Int).toNat) := by
  have e : zclr (zcm sz cd) f (n + 1) = if zand (zcm sz cd (n : Int)) (1 * 2 ^ f.toNat) ≠ 0 then zor (zclr (zcm sz cd) f n) (1 * 2 ^ (n : Int).toNat) else zclr (zcm sz cd) f n := rfl
  have hb := zcm_b hv (show 0 ≤ (n : Int) by omega) (show (n : Int) < 8 by omega)
  have hp := zand_pw hb.1 f0 f1
  rw [← hb.2.1] at hp
  rw [e]
  by_cases h : (zcm sz cd (n : Int)).toNat.testBit f.toNat = true
  · rw [if_pos (hp.2 h), if_pos h]
  · rw [if_neg (fun z => h (hp.1 z)), if_neg h, Int.zero_mul]
    obtain ⟨s, s1, s2⟩ := zclr_n hv (f := f) n (by omega)
    rw [s2, zor_0 s1]
theorem zclr_lo {sz cd : Int → Int} (hv : zfv sz cd) {f : Int} (f0 : 0 ≤ f) (f1 : f < 8) : ∀ n : Nat, (n : Int) ≤ f + 1 → zclr (zcm sz cd) f n = 0 := by
  intro n
  induction n with
  | zero => intro _; rfl
  | succ n ih =>
    intro hn
    have hlt : ¬ (zcm sz cd (n : Int)).toNat.testBit f.toNat = true := fun z => by
      have := zcm_lt hv 8 (n : Int) (by omega) (by omega) (by omega) f.toNat z
      omega
    rw [zclr_s hv f0 f1 (by omega), ih (by omega), if_neg hlt, Int.zero_mul]
    exact zor_0 (s := 0) (by decide)
end ZPURE
