section ZWAYS
/-! rows of figures as numbers by digits of 8 -/
theorem z8p (m : Nat) : 0 < 8 ^ m := by
  induction m with
  | zero => decide
  | succ n ih => rw [Nat.pow_succ]; omega
def zap (E : Int → zRg) : Nat → Nat → zRg → zRg
  | 0, _, R => R
  | m + 1, c, R => zap E m c (zact R (E ((c / 8 ^ m % 8 : Nat) : Int)))
def zdg : Nat → Nat → List Int
  | 0, _ => []
  | m + 1, c => ((c / 8 ^ m % 8 : Nat) : Int) :: zdg m c
theorem zfst_at {F : Int → Option (List Int)} {t : List Int} : ∀ (n d : Nat) (s : Int), d < n → (∀ k : Nat, k < d → F (s + (k : Int)) = none) → F (s + (d : Int)) = some t → zfst F n s = some ((s + (d : Int)) :: t) := by
  intro n
  induction n with
  | zero => intro d s h; omega
  | succ n ih =>
    intro d s hd hn hs
    cases d with
    | zero =>
      have e : s + ((0 : Nat) : Int) = s := by omega
      rw [e] at hs ⊢
      exact zfst_s hs
    | succ d =>
      have h0 := hn 0 (by omega)
      rw [show s + ((0 : Nat) : Int) = s by omega] at h0
      rw [zfst_n h0]
      have e : s + ((d + 1 : Nat) : Int) = s + 1 + (d : Int) := by omega
      rw [e] at hs ⊢
      exact ih d (s + 1) (by omega) (fun k hk => by
        have := hn (k + 1) (by omega)
        rw [show s + ((k + 1 : Nat) : Int) = s + 1 + (k : Int) by omega] at this
        exact this) hs
theorem zfst_no {F : Int → Option (List Int)} : ∀ (n : Nat) (s : Int), (∀ k : Nat, k < n → F (s + (k : Int)) = none) → zfst F n s = none := by
  intro n
  induction n with
  | zero => intro s _; rfl
  | succ n ih =>
    intro s hn
    have h0 := hn 0 (by omega)
    rw [show s + ((0 : Nat) : Int) = s by omega] at h0
    rw [zfst_n h0]
    exact ih (s + 1) (fun k hk => by
      have := hn (k + 1) (by omega)
      rw [show s + ((k + 1 : Nat) : Int) = s + 1 + (k : Int) by omega] at this
      exact this)
theorem zap_s {E : Int → zRg} {R : zRg} {m g k x : Nat} (hx : x < 8 ^ m) (hk : k < 8) : zap E (m + 1) (8 ^ (m + 1) * g + (8 ^ m * k + x)) R = zap E m (8 ^ m * (8 * g + k) + x) (zact R (E (k : Int))) ∧ zdg (m + 1) (8 ^ (m + 1) * g + (8 ^ m * k + x)) = (k : Int) :: zdg m (8 ^ m * (8 * g + k) + x) := by
  have e : 8 ^ (m + 1) * g + (8 ^ m * k + x) = 8 ^ m * (8 * g + k) + x := by
    rw [Nat.pow_succ, Nat.mul_add, Nat.mul_assoc, Nat.add_assoc]
  have hd : (8 ^ m * (8 * g + k) + x) / 8 ^ m % 8 = k := by
    rw [Nat.mul_add_div (z8p m), Nat.div_eq_of_lt hx, Nat.add_zero]
    omega
  rw [e]
  constructor
  · show zap E m (8 ^ m * (8 * g + k) + x) (zact R (E (((8 ^ m * (8 * g + k) + x) / 8 ^ m % 8 : Nat) : Int))) = _
    rw [hd]
  · show (((8 ^ m * (8 * g + k) + x) / 8 ^ m % 8 : Nat) : Int) :: zdg m (8 ^ m * (8 * g + k) + x) = _
    rw [hd]
theorem zlt8 {m j k x : Nat} (hx : x < 8 ^ m) (hj : j < k) : 8 ^ m * j + x < 8 ^ m * k := by
  have h := Nat.mul_le_mul_left (8 ^ m) (show j + 1 ≤ k from hj)
  rw [Nat.mul_add, Nat.mul_one] at h
  omega
theorem zapB {E : Int → zRg} : ∀ (m g : Nat) (R : zRg), (∀ x, x < 8 ^ m → zhb (zap E m (8 ^ m * g + x) R) ≠ true) → zlh E m R = none := by
  intro m
  induction m with
  | zero =>
    intro g R h
    exact if_neg (h 0 (by decide))
  | succ m ih =>
    intro g R h
    refine zfst_no (F := fun k => zlh E m (zact R (E k))) 8 0 (fun k hk => ?_)
    refine ih (8 * g + k) (zact R (E (0 + (k : Int)))) (fun x hx => ?_)
    have hl := zlt8 hx hk
    have h1 := h (8 ^ m * k + x) (by rw [Nat.pow_succ]; exact hl)
    rw [(zap_s (E := E) (R := R) (g := g) hx hk).1] at h1
    rw [Int.zero_add]
    exact h1
theorem zapA {E : Int → zRg} : ∀ (m g x : Nat) (R : zRg), x < 8 ^ m → zhb (zap E m (8 ^ m * g + x) R) = true → (∀ x', x' < x → zhb (zap E m (8 ^ m * g + x') R) ≠ true) → zlh E m R = some (zdg m (8 ^ m * g + x)) := by
  intro m
  induction m with
  | zero =>
    intro g x R _ h _
    exact if_pos h
  | succ m ih =>
    intro g x R hx h hmin
    have hr := Nat.mod_lt x (z8p m)
    have hk : x / 8 ^ m < 8 := Nat.div_lt_of_lt_mul (by rw [← Nat.pow_succ]; exact hx)
    have hx2 := Nat.div_add_mod x (8 ^ m)
    revert hr hk hx2
    generalize x / 8 ^ m = k
    generalize x % 8 ^ m = r
    intro hr hk hx2
    subst hx2
    have hz := zap_s (E := E) (R := R) (g := g) hr hk
    rw [hz.2]
    rw [hz.1] at h
    have hi := ih (8 * g + k) r (zact R (E (k : Int))) hr h (fun x' hx' => by
      have h1 := hmin (8 ^ m * k + x') (by omega)
      rw [(zap_s (E := E) (R := R) (g := g) (Nat.lt_trans hx' hr) hk).1] at h1
      exact h1)
    have hf := zfst_at (F := fun k => zlh E m (zact R (E k))) (t := zdg m (8 ^ m * (8 * g + k) + r)) 8 k 0 hk (fun j hj => by
      refine zapB m (8 * g + j) (zact R (E (0 + (j : Int)))) (fun x' hx' => ?_)
      have hl := zlt8 hx' hj
      have h1 := hmin (8 ^ m * j + x') (by omega)
      rw [(zap_s (E := E) (R := R) (g := g) hx' (by omega)).1] at h1
      rw [Int.zero_add]
      exact h1) (by
      show zlh E m (zact R (E (0 + (k : Int)))) = _
      rw [Int.zero_add]
      exact hi)
    rw [Int.zero_add] at hf
    exact hf
theorem zdg_len : ∀ m c : Nat, (zdg m c).length = m := by
  intro m
  induction m with
  | zero => intro c; rfl
  | succ m ih => intro c; show (zdg m c).length + 1 = m + 1; rw [ih]
theorem zdg_get : ∀ (m c i : Nat), i < m → (zdg m c).getD i 0 = ((c / 8 ^ (m - 1 - i) % 8 : Nat) : Int) := by
  intro m
  induction m with
  | zero => intro c i h; omega
  | succ m ih =>
    intro c i hi
    cases i with
    | zero => rfl
    | succ i =>
      show (zdg m c).getD i 0 = _
      rw [ih c i (by omega), show m + 1 - 1 - (i + 1) = m - 1 - i by omega]
theorem zpw8 {m : Nat} (h : m ≤ 4) : (2 : Int) ^ (3 * (m : Int)).toNat = ((8 ^ m : Nat) : Int) ∧ 8 ^ m ≤ 4096 := by
  have e : m = 0 ∨ m = 1 ∨ m = 2 ∨ m = 3 ∨ m = 4 := by omega
  rcases e with e | e | e | e | e <;> subst e <;> exact ⟨by decide, by decide⟩
theorem zcd {c j : Nat} (hc : c < 2147483648) (hj : j ≤ 4) {k v : Int} (hk : k = (j : Int)) (hv : v = (c : Int)) : zand (v / 2 ^ (3 * k).toNat) 7 = ((c / 8 ^ j % 8 : Nat) : Int) := by
  subst hk hv
  have e : (c : Int) / ((8 ^ j : Nat) : Int) = ((c / 8 ^ j : Nat) : Int) := (Int.natCast_ediv _ _).symm
  rw [(zpw8 hj).1, e]
  unfold zand
  rw [zi_n, show (7 : Int) = ((7 : Nat) : Int) from rfl, zi_n, zand_nI]
  have e2 : c / 8 ^ j &&& 7 = c / 8 ^ j % 8 := Nat.and_two_pow_sub_one_eq_mod (c / 8 ^ j) 3
  rw [e2, zn_to (Nat.lt_trans (Nat.mod_lt _ (by decide)) (by decide))]
end ZWAYS

