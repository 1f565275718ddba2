section ZQ60
theorem zbs_it {E : zRg} {p : Int} : ∀ n, (zbs E p n).1 = zit (zpl E.1) p n := by
  intro n
  induction n with
  | zero => rfl
  | succ n ih => show zpl E.1 (zbs E p n).1 = zpl E.1 (zit (zpl E.1) p n); rw [ih]
theorem zbs_add {E : zRg} (hE : zgR E.1 E.2) {p : Int} (p0 : 0 ≤ p) (p1 : p < 10) {N : Nat} (h : (zbs E p N).1 = p) : ∀ d, zbs E p (N + d) = ((zbs E p d).1, ((zbs E p d).2 + (zbs E p N).2) % 4) := by
  intro d
  have hN := zbs_bd hE p0 p1 N
  induction d with
  | zero =>
    refine Prod.ext h ?_
    show (zbs E p N).2 = (0 + (zbs E p N).2) % 4
    omega
  | succ d ih =>
    have e : zbs E p (N + (d + 1)) = (zpl E.1 (zbs E p (N + d)).1, ((zbs E p (N + d)).2 + E.2 (zpl E.1 (zbs E p (N + d)).1)) % 4) := rfl
    rw [e, ih]
    refine Prod.ext rfl ?_
    show (((zbs E p d).2 + (zbs E p N).2) % 4 + E.2 (zpl E.1 (zbs E p d).1)) % 4 = (((zbs E p d).2 + E.2 (zpl E.1 (zbs E p d).1)) % 4 + (zbs E p N).2) % 4
    omega
theorem zbs_4 {E : zRg} (hE : zgR E.1 E.2) {p : Int} (p0 : 0 ≤ p) (p1 : p < 10) {N : Nat} (h : (zbs E p N).1 = p) : zbs E p (4 * N) = (p, 0) := by
  have h2 := zbs_add hE p0 p1 h N
  have h3 := zbs_add hE p0 p1 h (N + N)
  have h4 := zbs_add hE p0 p1 h (N + (N + N))
  rw [show 4 * N = N + (N + (N + N)) by omega, h4, h3, h2, h]
  refine Prod.ext rfl ?_
  show ((((zbs E p N).2 + (zbs E p N).2) % 4 + (zbs E p N).2) % 4 + (zbs E p N).2) % 4 = 0
  omega
theorem zbs_mul {E : zRg} (hE : zgR E.1 E.2) {p : Int} (p0 : 0 ≤ p) (p1 : p < 10) {N : Nat} (h : zbs E p N = (p, 0)) : ∀ i, zbs E p (N * i) = (p, 0) := by
  intro i
  induction i with
  | zero => rfl
  | succ i ih =>
    have h1 : (zbs E p N).1 = p := by rw [h]
    rw [show N * (i + 1) = N + N * i by rw [Nat.mul_succ, Nat.add_comm], zbs_add hE p0 p1 h1, ih, h]
    rfl
end ZQ60
