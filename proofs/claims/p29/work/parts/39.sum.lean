section ZQ58
theorem zNl_sum {g : Int → Int} (hg : ∀ p, 0 ≤ p → p < 10 → 0 ≤ g p ∧ g p < 10) (hi : ∀ p q, 0 ≤ p → p < 10 → 0 ≤ q → q < 10 → g p = g q → p = q) : zNl g 1 + zNl g 2 + zNl g 3 + zNl g 4 + zNl g 5 + zNl g 6 + zNl g 7 + zNl g 8 + zNl g 9 + zNl g 10 = 10 := by
  have h2 := zSm_add (fun q => (if zln g q = 1 then (1 : Int) else 0)) (fun q => if zln g q = 2 then (1 : Int) else 0) 10
  have h3 := zSm_add (fun q => ((if zln g q = 1 then (1 : Int) else 0) + (if zln g q = 2 then (1 : Int) else 0))) (fun q => if zln g q = 3 then (1 : Int) else 0) 10
  have h4 := zSm_add (fun q => (((if zln g q = 1 then (1 : Int) else 0) + (if zln g q = 2 then (1 : Int) else 0)) + (if zln g q = 3 then (1 : Int) else 0))) (fun q => if zln g q = 4 then (1 : Int) else 0) 10
  have h5 := zSm_add (fun q => ((((if zln g q = 1 then (1 : Int) else 0) + (if zln g q = 2 then (1 : Int) else 0)) + (if zln g q = 3 then (1 : Int) else 0)) + (if zln g q = 4 then (1 : Int) else 0))) (fun q => if zln g q = 5 then (1 : Int) else 0) 10
  have h6 := zSm_add (fun q => (((((if zln g q = 1 then (1 : Int) else 0) + (if zln g q = 2 then (1 : Int) else 0)) + (if zln g q = 3 then (1 : Int) else 0)) + (if zln g q = 4 then (1 : Int) else 0)) + (if zln g q = 5 then (1 : Int) else 0))) (fun q => if zln g q = 6 then (1 : Int) else 0) 10
  have h7 := zSm_add (fun q => ((((((if zln g q = 1 then (1 : Int) else 0) + (if zln g q = 2 then (1 : Int) else 0)) + (if zln g q = 3 then (1 : Int) else 0)) + (if zln g q = 4 then (1 : Int) else 0)) + (if zln g q = 5 then (1 : Int) else 0)) + (if zln g q = 6 then (1 : Int) else 0))) (fun q => if zln g q = 7 then (1 : Int) else 0) 10
  have h8 := zSm_add (fun q => (((((((if zln g q = 1 then (1 : Int) else 0) + (if zln g q = 2 then (1 : Int) else 0)) + (if zln g q = 3 then (1 : Int) else 0)) + (if zln g q = 4 then (1 : Int) else 0)) + (if zln g q = 5 then (1 : Int) else 0)) + (if zln g q = 6 then (1 : Int) else 0)) + (if zln g q = 7 then (1 : Int) else 0))) (fun q => if zln g q = 8 then (1 : Int) else 0) 10
  have h9 := zSm_add (fun q => ((((((((if zln g q = 1 then (1 : Int) else 0) + (if zln g q = 2 then (1 : Int) else 0)) + (if zln g q = 3 then (1 : Int) else 0)) + (if zln g q = 4 then (1 : Int) else 0)) + (if zln g q = 5 then (1 : Int) else 0)) + (if zln g q = 6 then (1 : Int) else 0)) + (if zln g q = 7 then (1 : Int) else 0)) + (if zln g q = 8 then (1 : Int) else 0))) (fun q => if zln g q = 9 then (1 : Int) else 0) 10
  have h10 := zSm_add (fun q => (((((((((if zln g q = 1 then (1 : Int) else 0) + (if zln g q = 2 then (1 : Int) else 0)) + (if zln g q = 3 then (1 : Int) else 0)) + (if zln g q = 4 then (1 : Int) else 0)) + (if zln g q = 5 then (1 : Int) else 0)) + (if zln g q = 6 then (1 : Int) else 0)) + (if zln g q = 7 then (1 : Int) else 0)) + (if zln g q = 8 then (1 : Int) else 0)) + (if zln g q = 9 then (1 : Int) else 0))) (fun q => if zln g q = 10 then (1 : Int) else 0) 10
  have hs : zSm (fun q => ((((((((((if zln g q = 1 then (1 : Int) else 0) + (if zln g q = 2 then (1 : Int) else 0)) + (if zln g q = 3 then (1 : Int) else 0)) + (if zln g q = 4 then (1 : Int) else 0)) + (if zln g q = 5 then (1 : Int) else 0)) + (if zln g q = 6 then (1 : Int) else 0)) + (if zln g q = 7 then (1 : Int) else 0)) + (if zln g q = 8 then (1 : Int) else 0)) + (if zln g q = 9 then (1 : Int) else 0)) + (if zln g q = 10 then (1 : Int) else 0))) ((10 : Nat) : Int) = zSm (fun _ => 1) ((10 : Nat) : Int) := zSm_congr _ (fun q q0 q1 => by
    have hl := zln_spec hg hi q0 q1
    (try dsimp only)
    have hl1 := hl.1
    have hl2 := hl.2.1
    clear hl
    revert hl1 hl2
    generalize zln g q = L
    intro hl1 hl2
    have e : L = 1 ∨ L = 2 ∨ L = 3 ∨ L = 4 ∨ L = 5 ∨ L = 6 ∨ L = 7 ∨ L = 8 ∨ L = 9 ∨ L = 10 := by omega
    rcases e with e | e | e | e | e | e | e | e | e | e <;> subst e <;> rfl)
  rw [zSm_one_c] at hs
  (try dsimp only at h2 h3 h4 h5 h6 h7 h8 h9 h10)
  unfold zNl
  have h10' : zSm (fun q => ((((((((((if zln g q = 1 then (1 : Int) else 0) + (if zln g q = 2 then (1 : Int) else 0)) + (if zln g q = 3 then (1 : Int) else 0)) + (if zln g q = 4 then (1 : Int) else 0)) + (if zln g q = 5 then (1 : Int) else 0)) + (if zln g q = 6 then (1 : Int) else 0)) + (if zln g q = 7 then (1 : Int) else 0)) + (if zln g q = 8 then (1 : Int) else 0)) + (if zln g q = 9 then (1 : Int) else 0)) + (if zln g q = 10 then (1 : Int) else 0))) ((10 : Nat) : Int) = 10 := hs
  have hc : ((10 : Nat) : Int) = 10 := rfl
  rw [hc] at h2 h3 h4 h5 h6 h7 h8 h9 h10 h10'
  omega
end ZQ58
