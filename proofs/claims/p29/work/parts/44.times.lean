section ZQ63
def zrt (E R : zRg) : Nat → zRg
  | 0 => R
  | n + 1 => zact (zrt E R n) E
theorem zrt_g {E R : zRg} (hE : zgR E.1 E.2) (hR : zgR R.1 R.2) : ∀ n, zgR (zrt E R n).1 (zrt E R n).2 := by
  intro n
  induction n with
  | zero => exact hR
  | succ n ih => exact zgR_act2 ih hE
theorem zrt_sh {E R : zRg} : ∀ n, zrt E (zact R E) n = zrt E R (n + 1) := by
  intro n
  induction n with
  | zero => rfl
  | succ n ih => show zact (zrt E (zact R E) n) E = zact (zrt E R (n + 1)) E; rw [ih]
theorem zth_eq {E : zRg} : ∀ (m : Nat) (R : zRg) (t : Int) (i : Nat), i < m → zhb (zrt E R i) = true → (∀ j, j < i → zhb (zrt E R j) ≠ true) → zth E m R t = t + (i : Int) := by
  intro m
  induction m with
  | zero => intro R t i h; omega
  | succ m ih =>
    intro R t i hi hz hmin
    show (if zhb R = true then t else zth E m (zact R E) (t + 1)) = t + (i : Int)
    cases i with
    | zero => rw [if_pos (show zhb R = true from hz)]; omega
    | succ i =>
      rw [if_neg (show ¬ zhb R = true from hmin 0 (by omega)), ih (zact R E) (t + 1) i (by omega) (by rw [zrt_sh]; exact hz) (fun j hj => by rw [zrt_sh]; exact hmin (j + 1) (by omega))]
      omega
theorem zth_no {E : zRg} : ∀ (m : Nat) (R : zRg) (t : Int), (∀ j, j < m → zhb (zrt E R j) ≠ true) → zth E m R t = -5 := by
  intro m
  induction m with
  | zero => intro R t _; rfl
  | succ m ih =>
    intro R t hmin
    show (if zhb R = true then t else zth E m (zact R E) (t + 1)) = -5
    rw [if_neg (show ¬ zhb R = true from hmin 0 (by omega))]
    exact ih (zact R E) (t + 1) (fun j hj => by rw [zrt_sh]; exact hmin (j + 1) (by omega))
theorem zrt_bs {E : zRg} (hE : zgR E.1 E.2) {p : Int} (p0 : 0 ≤ p) (p1 : p < 10) : ∀ n, zpl (zrt E zid n).1 p = (zbs E p n).1 ∧ (zrt E zid n).2 (zpl (zrt E zid n).1 p) = (zbs E p n).2 := by
  intro n
  induction n with
  | zero =>
    have e : zpl zid.1 p = p := zpl_of zgR_id p0 p1 (show zcut 10 (fun q => q) p = p from zcut_in _ _ _ p0 p1)
    refine ⟨e, ?_⟩
    show zid.2 (zpl zid.1 p) = 0
    rw [e]
    exact (show zcut 10 (fun _ => 0) p = 0 from zcut_in _ _ _ p0 p1)
  | succ n ih =>
    have h := zact_pl (zrt_g hE zgR_id n) hE p0 p1
    refine ⟨?_, ?_⟩
    · show zpl (zact (zrt E zid n) E).1 p = zpl E.1 (zbs E p n).1
      rw [h.1, ih.1]
    · show (zact (zrt E zid n) E).2 (zpl (zact (zrt E zid n) E).1 p) = ((zbs E p n).2 + E.2 (zpl E.1 (zbs E p n).1)) % 4
      rw [h.1, h.2, ih.2, ih.1]
theorem zrt_hm {E : zRg} (hE : zgR E.1 E.2) (n : Nat) : zhb (zrt E zid n) = true ↔ ∀ p, 0 ≤ p → p < 10 → zbs E p n = (p, 0) := by
  rw [zhb_iff, zhm_nw (zrt_g hE zgR_id n)]
  constructor
  · intro h p p0 p1
    have h1 := h p p0 p1
    have h2 := zrt_bs hE p0 p1 n
    exact Prod.ext (h2.1.symm.trans h1.1) (h2.2.symm.trans h1.2)
  · intro h p p0 p1
    have h1 := h p p0 p1
    have h2 := zrt_bs hE p0 p1 n
    exact ⟨by rw [h2.1, h1], by rw [h2.2, h1]⟩
end ZQ63
