section ZL6
/-! rows of the first six figures, as numbers by digits of 6 -/
theorem z6p (m : Nat) : 0 < 6 ^ m := by
  induction m with
  | zero => decide
  | succ n ih => rw [Nat.pow_succ]; omega
def gap (E : Int → zRg) : Nat → Nat → zRg → zRg
  | 0, _, R => R
  | m + 1, c, R => gap E m c (zact R (E ((c / 6 ^ m % 6 : Nat) : Int)))
def gdg : Nat → Nat → List Int
  | 0, _ => []
  | m + 1, c => ((c / 6 ^ m % 6 : Nat) : Int) :: gdg m c
theorem gdv {m g k x : Nat} (hx : x < 6 ^ m) (hk : k < 6) : (6 ^ (m + 1) * g + (6 ^ m * k + x)) / 6 ^ m % 6 = k ∧ 6 ^ (m + 1) * g + (6 ^ m * k + x) = 6 ^ m * (6 * g + k) + x := by
  have e : 6 ^ (m + 1) * g + (6 ^ m * k + x) = 6 ^ m * (6 * g + k) + x := by
    rw [Nat.pow_succ, Nat.mul_add, Nat.mul_assoc, Nat.add_assoc]
  rw [e, Nat.mul_add_div (z6p m), Nat.div_eq_of_lt hx, Nat.add_zero]
  exact ⟨by omega, rfl⟩
theorem gspl {m x : Nat} (hx : x < 6 ^ (m + 1)) : ∃ k r, k < 6 ∧ r < 6 ^ m ∧ x = 6 ^ m * k + r := by
  refine ⟨x / 6 ^ m, x % 6 ^ m, Nat.div_lt_of_lt_mul (by rw [← Nat.pow_succ]; exact hx), Nat.mod_lt x (z6p m), (Nat.div_add_mod x (6 ^ m)).symm⟩
theorem gap_g {E : Int → zRg} : ∀ (m g x : Nat) (R : zRg), x < 6 ^ m → gap E m (6 ^ m * g + x) R = gap E m x R ∧ gdg m (6 ^ m * g + x) = gdg m x := by
  intro m
  induction m with
  | zero => intro g x R _; exact ⟨rfl, rfl⟩
  | succ m ih =>
    intro g x R hx
    obtain ⟨k, r, hk, hr, rfl⟩ := gspl hx
    have h1 := gdv (g := g) hr hk
    have h2 := gdv (g := 0) hr hk
    rw [Nat.mul_zero, Nat.zero_add, Nat.mul_zero, Nat.zero_add] at h2
    have h3 := fun R => ih (6 * g + k) r R hr
    have h4 := fun R => ih k r R hr
    constructor
    · show gap E m (6 ^ (m + 1) * g + (6 ^ m * k + r)) (zact R (E (((6 ^ (m + 1) * g + (6 ^ m * k + r)) / 6 ^ m % 6 : Nat) : Int))) = gap E m (6 ^ m * k + r) (zact R (E (((6 ^ m * k + r) / 6 ^ m % 6 : Nat) : Int)))
      rw [h1.1, h2.1, h1.2, (h3 _).1, (h4 _).1]
    · show (((6 ^ (m + 1) * g + (6 ^ m * k + r)) / 6 ^ m % 6 : Nat) : Int) :: gdg m (6 ^ (m + 1) * g + (6 ^ m * k + r)) = (((6 ^ m * k + r) / 6 ^ m % 6 : Nat) : Int) :: gdg m (6 ^ m * k + r)
      rw [h1.1, h2.1, h1.2, (h3 R).2, (h4 R).2]
theorem gap_1 {E : Int → zRg} {m k x : Nat} {R : zRg} (hx : x < 6 ^ m) (hk : k < 6) : gap E (m + 1) (6 ^ m * k + x) R = gap E m x (zact R (E (k : Int))) ∧ gdg (m + 1) (6 ^ m * k + x) = (k : Int) :: gdg m x := by
  have h2 := gdv (g := 0) hx hk
  rw [Nat.mul_zero, Nat.zero_add, Nat.mul_zero, Nat.zero_add] at h2
  constructor
  · show gap E m (6 ^ m * k + x) (zact R (E (((6 ^ m * k + x) / 6 ^ m % 6 : Nat) : Int))) = _
    rw [h2.1, (gap_g m k x _ hx).1]
  · show (((6 ^ m * k + x) / 6 ^ m % 6 : Nat) : Int) :: gdg m (6 ^ m * k + x) = _
    rw [h2.1, (gap_g (E := E) m k x R hx).2]
theorem glt6 {m j k x : Nat} (hx : x < 6 ^ m) (hj : j < k) : 6 ^ m * j + x < 6 ^ m * k := by
  have h := Nat.mul_le_mul_left (6 ^ m) (show j + 1 ≤ k from hj)
  rw [Nat.mul_add, Nat.mul_one] at h
  omega
theorem gfa {F : Int → Option (List Int)} {t : List Int} : ∀ (n d : Nat) (s : Int), d < n → (∀ k : Nat, k < d → F (s + (k : Int)) = none) → F (s + (d : Int)) = some t → zfst F n s = some ((s + (d : Int)) :: t) := by
  intro n
  induction n with
  | zero => intro d s h; omega
  | succ n ih =>
    intro d s hd hn hs
    cases d with
    | zero =>
      have e : s + ((0 : Nat) : Int) = s := by omega
      rw [e] at hs ⊢
      exact zfst_s hs
    | succ d =>
      have h0 := hn 0 (by omega)
      rw [show s + ((0 : Nat) : Int) = s by omega] at h0
      rw [zfst_n h0]
      have e : s + ((d + 1 : Nat) : Int) = s + 1 + (d : Int) := by omega
      rw [e] at hs ⊢
      exact ih d (s + 1) (by omega) (fun k hk => by
        have := hn (k + 1) (by omega)
        rw [show s + ((k + 1 : Nat) : Int) = s + 1 + (k : Int) by omega] at this
        exact this) hs
theorem gfn {F : Int → Option (List Int)} : ∀ (n : Nat) (s : Int), (∀ k : Nat, k < n → F (s + (k : Int)) = none) → zfst F n s = none := by
  intro n
  induction n with
  | zero => intro s _; rfl
  | succ n ih =>
    intro s hn
    have h0 := hn 0 (by omega)
    rw [show s + ((0 : Nat) : Int) = s by omega] at h0
    rw [zfst_n h0]
    exact ih (s + 1) (fun k hk => by
      have := hn (k + 1) (by omega)
      rw [show s + ((k + 1 : Nat) : Int) = s + 1 + (k : Int) by omega] at this
      exact this)
/-- no row of m figures out of six -/
def gN6 (E : Int → zRg) (m : Nat) (R : zRg) : Prop := ∀ x, x < 6 ^ m → ¬ zhb (gap E m x R) = true
theorem gN6_1 {E : Int → zRg} {m k : Nat} {R : zRg} (hk : k < 6) (h : gN6 E (m + 1) R) : gN6 E m (zact R (E (k : Int))) := fun x hx => by
  have h1 := h (6 ^ m * k + x) (by rw [Nat.pow_succ]; exact glt6 hx hk)
  rw [(gap_1 hx hk).1] at h1
  exact h1
theorem gno {E : Int → zRg} (hE : ∀ k : Nat, k < 6 → zgR (E (k : Int)).1 (E (k : Int)).2) (h6 : E 6 = zid) (h7 : E 7 = zid) : ∀ (m : Nat) (R : zRg), zgR R.1 R.2 → (∀ m', m' ≤ m → gN6 E m' R) → zlh E m R = none := by
  intro m
  induction m with
  | zero =>
    intro R _ h
    exact if_neg (h 0 (Nat.le_refl _) 0 (by decide))
  | succ m ih =>
    intro R hR h
    refine gfn (F := fun k => zlh E m (zact R (E k))) 8 0 (fun k hk => ?_)
    rw [Int.zero_add]
    show zlh E m (zact R (E (k : Int))) = none
    by_cases e6 : k < 6
    · exact ih _ (zgR_act2 hR (hE k e6)) (fun m' hm' => gN6_1 e6 (h (m' + 1) (by omega)))
    · have e : E (k : Int) = zid := by
        have h8 : k = 6 ∨ k = 7 := by omega
        rcases h8 with rfl | rfl
        · exact h6
        · exact h7
      rw [e, zact_id hR]
      exact ih R hR (fun m' hm' => h m' (by omega))
theorem gyes {E : Int → zRg} (hE : ∀ k : Nat, k < 6 → zgR (E (k : Int)).1 (E (k : Int)).2) (h6 : E 6 = zid) (h7 : E 7 = zid) : ∀ (m c : Nat) (R : zRg), zgR R.1 R.2 → (∀ m', m' < m → gN6 E m' R) → c < 6 ^ m → zhb (gap E m c R) = true → (∀ c', c' < c → ¬ zhb (gap E m c' R) = true) → zlh E m R = some (gdg m c) := by
  intro m
  induction m with
  | zero => intro c R _ _ _ h _; exact if_pos h
  | succ m ih =>
    intro c R hR h hc hz hmin
    obtain ⟨k, r, hk, hr, rfl⟩ := gspl hc
    have h1 := gap_1 (E := E) (R := R) hr hk
    rw [h1.2]
    rw [h1.1] at hz
    have hi := ih r (zact R (E (k : Int))) (zgR_act2 hR (hE k hk)) (fun m' hm' => gN6_1 hk (h (m' + 1) (by omega))) hr hz (fun c' hc' => by
      have h2 := hmin (6 ^ m * k + c') (by omega)
      rw [(gap_1 (Nat.lt_trans hc' hr) hk).1] at h2
      exact h2)
    have hf := gfa (F := fun k => zlh E m (zact R (E k))) (t := gdg m r) 8 k 0 (by omega) (fun j hj => by
      rw [Int.zero_add]
      show zlh E m (zact R (E (j : Int))) = none
      refine gno hE h6 h7 m _ (zgR_act2 hR (hE j (by omega))) (fun m' hm' => ?_)
      by_cases e : m' = m
      · subst e
        intro x hx
        have h2 := hmin (6 ^ m' * j + x) (by have := glt6 hx hj; omega)
        rw [(gap_1 hx (by omega)).1] at h2
        exact h2
      · exact gN6_1 (by omega) (h (m' + 1) (by omega))) (by
      rw [Int.zero_add]
      exact hi)
    rw [Int.zero_add] at hf
    exact hf
theorem gway_n {E : Int → zRg} (hE : ∀ k : Nat, k < 6 → zgR (E (k : Int)).1 (E (k : Int)).2) (h6 : E 6 = zid) (h7 : E 7 = zid) {R : zRg} (hR : zgR R.1 R.2) (h : ∀ m', m' < 5 → gN6 E m' R) : zway E R = none := by
  have hz : ∀ m, m < 5 → zlh E m R = none := fun m hm => gno hE h6 h7 m R hR (fun m' hm' => h m' (by omega))
  unfold zway
  rw [zwy_n (hz 0 (by decide)), zwy_n (hz 1 (by decide)), zwy_n (hz 2 (by decide)), zwy_n (hz 3 (by decide)), zwy_n (hz 4 (by decide))]
  rfl
theorem gway_y {E : Int → zRg} (hE : ∀ k : Nat, k < 6 → zgR (E (k : Int)).1 (E (k : Int)).2) (h6 : E 6 = zid) (h7 : E 7 = zid) {R : zRg} (hR : zgR R.1 R.2) {m c : Nat} (hm : m < 5) (h : ∀ m', m' < m → gN6 E m' R) (hc : c < 6 ^ m) (hz : zhb (gap E m c R) = true) (hmin : ∀ c', c' < c → ¬ zhb (gap E m c' R) = true) : zway E R = some (gdg m c) := by
  have hn : ∀ m', m' < m → zlh E m' R = none := fun m' hm' => gno hE h6 h7 m' R hR (fun m2 hm2 => h m2 (by omega))
  have hy := gyes hE h6 h7 m c R hR h hc hz hmin
  unfold zway
  have e : m = 0 ∨ m = 1 ∨ m = 2 ∨ m = 3 ∨ m = 4 := by omega
  rcases e with rfl | rfl | rfl | rfl | rfl
  · rw [zwy_s hy]
  · rw [zwy_n (hn 0 (by decide)), zwy_s hy]
  · rw [zwy_n (hn 0 (by decide)), zwy_n (hn 1 (by decide)), zwy_s hy]
  · rw [zwy_n (hn 0 (by decide)), zwy_n (hn 1 (by decide)), zwy_n (hn 2 (by decide)), zwy_s hy]
  · rw [zwy_n (hn 0 (by decide)), zwy_n (hn 1 (by decide)), zwy_n (hn 2 (by decide)), zwy_n (hn 3 (by decide)), zwy_s hy]
theorem gdg_len : ∀ m c : Nat, (gdg m c).length = m := by
  intro m
  induction m with
  | zero => intro c; rfl
  | succ m ih => intro c; show (gdg m c).length + 1 = m + 1; rw [ih]
theorem gdg_get : ∀ (m c i : Nat), i < m → (gdg m c).getD i 0 = ((c / 6 ^ (m - 1 - i) % 6 : Nat) : Int) := by
  intro m
  induction m with
  | zero => intro c i h; omega
  | succ m ih =>
    intro c i hi
    cases i with
    | zero => rfl
    | succ i =>
      show (gdg m c).getD i 0 = _
      rw [ih c i (by omega), show m + 1 - 1 - (i + 1) = m - 1 - i by omega]
theorem vW0 {A : zAb} {m c : Nat} (hw : zway (zE A) (qW A, qF A) = some (gdg m c)) : zoWay A 0 = (m : Int) := by
  unfold zoWay
  rw [zif_neg (by omega), zif_pos rfl, hw]
  show ((gdg m c).length : Int) = m
  rw [gdg_len]
theorem vW5 {A : zAb} : zoWay A 5 = -2 := zif_pos (by omega)
theorem vWi {A : zAb} {m c i : Nat} (hw : zway (zE A) (qW A, qF A) = some (gdg m c)) (hm : m ≤ 4) (i1 : 1 ≤ i) (i2 : i ≤ m) : zoWay A (i : Int) = ((c / 6 ^ (m - i) % 6 : Nat) : Int) := by
  unfold zoWay
  rw [zif_neg (by omega), zif_neg (by omega), hw, zif_pos (by show (i : Int) ≤ ((gdg m c).length : Int); rw [gdg_len]; omega)]
  show (gdg m c).getD ((i : Int) - 1).toNat 0 = _
  rw [gdg_get m c _ (by omega), show m - 1 - ((i : Int) - 1).toNat = m - i by omega]
theorem vWn {A : zAb} {m c : Nat} (hw : zway (zE A) (qW A, qF A) = some (gdg m c)) (hm : m < 4) : zoWay A ((m : Int) + 1) = -5 := by
  unfold zoWay
  rw [zif_neg (by omega), zif_neg (by omega), hw, zif_neg (by show ¬ (m : Int) + 1 ≤ ((gdg m c).length : Int); rw [gdg_len]; omega)]
theorem vW_0 {A : zAb} (hw : zway (zE A) (qW A, qF A) = none) : zoWay A 0 = -5 := by
  unfold zoWay
  rw [zif_neg (by omega), zif_pos rfl, hw]
  rfl
theorem vW_q {A : zAb} (hw : zway (zE A) (qW A, qF A) = none) {q : Int} (q0 : 1 ≤ q) (q1 : q ≤ 4) : zoWay A q = -5 := by
  unfold zoWay
  rw [zif_neg (by omega), zif_neg (by omega), hw, zif_neg (by show ¬ q ≤ -5; omega)]
theorem g6w {m : Nat} (h : m ≤ 4) : 6 ^ m ≤ 1296 := by
  have e : m = 0 ∨ m = 1 ∨ m = 2 ∨ m = 3 ∨ m = 4 := by omega
  rcases e with rfl | rfl | rfl | rfl | rfl <;> decide
set_option maxRecDepth 100000 in
set_option maxHeartbeats 1000000 in
theorem l_isRow9 {d : Nat} {sp : zSP} {me : zMe} {Q : zQ} {A : zAb} {B : Int} {c m : Nat} (hd : 22 ≤ d) (hx : zObj sp 1) (hI : zIA B A) (hR : gRR me A) (hw : zway (zE A) (qW A, qF A) = some (gdg m c)) (hm : m ≤ 4) (hc : c < 6 ^ m) (hQ : ∀ me', gRR me' A → Q (some (zI 1)) sp me') : zCall mL_isRow d 0 0 [zR 1, zI (c : Int), zI (m : Int)] sp me Q := by
  refine z_met kL_isRow (by simp) (by simp) ?_
  show zW mL_isRow d 0 0 Q 0 [zR 1, zI (c : Int), zI (m : Int), zU, zU, zU] [] sp me
  have hm6 := g6w hm
  refine z_L0R (pc' := 1) dL_isRow_0 rfl ?_
  refine z_iconst (pc' := 2) dL_isRow_1 rfl (by unfold zin; decide) ?_
  refine z_V1v (pc' := 5) (ci := 8) kX8_wayHome lL_106 dL_isRow_2 rfl (by omega) (Nat.le_of_ble_eq_true rfl) (by decide) rfl hx.s ?_
  refine x_wayHome (by omega) hx hR.1 hI (fun me1 hX1 hF1 => zKv_i ?_)
  have hR1 := hR.x hX1 hF1
  rw [vW0 hw]
  refine z_L2I (pc' := 6) dL_isRow_5 rfl ?_
  refine z_icmp_ne (tgt := 23) (pc' := 9) dL_isRow_6 (by decide) rfl (fun h6 => absurd h6 (by omega)) (fun h6 => ?_)
  refine z_L0R (pc' := 10) dL_isRow_9 rfl ?_
  refine z_iconst (pc' := 11) dL_isRow_10 rfl (by unfold zin; decide) ?_
  refine z_V1v (pc' := 14) (ci := 8) kX8_wayHome lL_106 dL_isRow_11 rfl (by omega) (Nat.le_of_ble_eq_true rfl) (by decide) rfl hx.s ?_
  refine x_wayHome (by omega) hx hR1.1 hI (fun me2 hX2 hF2 => zKv_i ?_)
  have hR2 := hR1.x hX2 hF2
  rw [vW5]
  refine z_bipush (pc' := 16) dL_isRow_14 rfl (by decide) ?_
  refine z_icmp_ne (tgt := 23) (pc' := 19) dL_isRow_16 (by decide) rfl (fun h16 => absurd h16 (by omega)) (fun h16 => ?_)
  refine z_iconst (pc' := 20) dL_isRow_19 rfl (by unfold zin; decide) ?_
  refine z_goto (tgt := 24) dL_isRow_20 (by decide) ?_
  refine z_S3I (pc' := 25) rfl dL_isRow_24 rfl ?_
  refine z_iconst (pc' := 26) dL_isRow_25 rfl (by unfold zin; decide) ?_
  refine z_S4I (pc' := 28) rfl dL_isRow_26 rfl ?_
  refine z_L2I (pc' := 29) dL_isRow_28 rfl ?_
  refine z_S5I (pc' := 31) rfl dL_isRow_29 rfl ?_
  suffices H : ∀ (i B2 : Nat) (me3 : zMe), i ≤ m → B2 = 6 ^ (m - i) → gRR me3 A → zW mL_isRow d 0 0 Q 31 [zR 1, zI (c : Int), zI (m : Int), zI 1, zI (B2 : Int), zI (i : Int)] [] sp me3 by
    exact H m 1 me2 (Nat.le_refl _) (by rw [Nat.sub_self]) hR2
  intro i
  induction i with
  | zero =>
    intro B2 me3 hi hB hR3
    refine z_L5I (pc' := 33) dL_isRow_31 rfl ?_
    refine z_if_le (tgt := 75) (pc' := 36) dL_isRow_33 (by decide) rfl (fun h33 => ?_) (fun h33 => absurd h33 (by decide))
    refine z_L3I (pc' := 76) dL_isRow_75 rfl ?_
    refine z_if_eq (tgt := 100) (pc' := 79) dL_isRow_76 (by decide) rfl (fun h76 => absurd h76 (by omega)) (fun h76 => ?_)
    refine z_L2I (pc' := 80) dL_isRow_79 rfl ?_
    refine z_iconst (pc' := 81) dL_isRow_80 rfl (by unfold zin; decide) ?_
    refine z_icmp_eq (tgt := 96) (pc' := 84) dL_isRow_81 (by decide) rfl (fun h81 => ?_) (fun h81 => ?_)
    · refine z_iconst (pc' := 97) dL_isRow_96 rfl (by unfold zin; decide) ?_
      refine z_goto (tgt := 101) dL_isRow_97 (by decide) ?_
      refine z_zreturn rfl rfl dL_isRow_101 (by omega) ?_
      first
      | exact hQ me5 hR5
      | exact hQ me3 hR3
    · refine z_L0R (pc' := 85) dL_isRow_84 rfl ?_
      refine z_L2I (pc' := 86) dL_isRow_85 rfl ?_
      refine z_iconst (pc' := 87) dL_isRow_86 rfl (by unfold zin; decide) ?_
      refine z_iadd (pc' := 88) dL_isRow_87 rfl (by unfold zin; omega) ?_
      refine z_V1v (pc' := 91) (ci := 8) kX8_wayHome lL_106 dL_isRow_88 rfl (by omega) (Nat.le_of_ble_eq_true rfl) (by decide) rfl hx.s ?_
      refine x_wayHome (by omega) hx hR3.1 hI (fun me5 hX5 hF5 => zKv_i ?_)
      have hR5 := hR3.x hX5 hF5
      rw [vWn hw (by omega)]
      refine z_bipush (pc' := 93) dL_isRow_91 rfl (by decide) ?_
      refine z_icmp_ne (tgt := 100) (pc' := 96) dL_isRow_93 (by decide) rfl (fun h93 => absurd h93 (by omega)) (fun h93 => ?_)
      refine z_iconst (pc' := 97) dL_isRow_96 rfl (by unfold zin; decide) ?_
      refine z_goto (tgt := 101) dL_isRow_97 (by decide) ?_
      refine z_zreturn rfl rfl dL_isRow_101 (by omega) ?_
      first
      | exact hQ me5 hR5
      | exact hQ me3 hR3
  | succ i ih =>
  intro B2 me3 hi hB hR3
  have hB6 : B2 ≤ 1296 := by rw [hB]; exact g6w (by omega)
  have hB0 : 0 < B2 := by rw [hB]; exact z6p _
  refine z_L5I (pc' := 33) dL_isRow_31 rfl ?_
  refine z_if_le (tgt := 75) (pc' := 36) dL_isRow_33 (by decide) rfl (fun h33 => absurd h33 (by omega)) (fun h33 => ?_)
  refine z_L3I (pc' := 37) dL_isRow_36 rfl ?_
  refine z_if_eq (tgt := 60) (pc' := 40) dL_isRow_37 (by decide) rfl (fun h37 => absurd h37 (by omega)) (fun h37 => ?_)
  refine z_L0R (pc' := 41) dL_isRow_40 rfl ?_
  refine z_L5I (pc' := 43) dL_isRow_41 rfl ?_
  refine z_V1v (pc' := 46) (ci := 8) kX8_wayHome lL_106 dL_isRow_43 rfl (by omega) (Nat.le_of_ble_eq_true rfl) (by decide) rfl hx.s ?_
  refine x_wayHome (by omega) hx hR3.1 hI (fun me4 hX4 hF4 => zKv_i ?_)
  have hR4 := hR3.x hX4 hF4
  rw [vWi hw hm (by omega) hi, ← hB]
  refine z_L1I (pc' := 47) dL_isRow_46 rfl ?_
  refine z_L4I (pc' := 49) dL_isRow_47 rfl ?_
  refine z_idiv (pc' := 50) dL_isRow_49 rfl (by omega) (by omega) ?_
  refine z_bipush (pc' := 52) dL_isRow_50 rfl (by decide) ?_
  refine z_irem (pc' := 53) dL_isRow_52 rfl (Int.ediv_nonneg (by omega) (by omega)) (by decide) ?_
  have hdv : (c : Int) / (B2 : Int) % 6 = ((c / B2 % 6 : Nat) : Int) := by rw [Int.natCast_emod, Int.natCast_ediv]; rfl
  rw [hdv]
  refine z_icmp_ne (tgt := 60) (pc' := 56) dL_isRow_53 (by decide) rfl (fun h53 => absurd h53 (by omega)) (fun h53 => ?_)
  refine z_iconst (pc' := 57) dL_isRow_56 rfl (by unfold zin; decide) ?_
  refine z_goto (tgt := 61) dL_isRow_57 (by decide) ?_
  refine z_S3I (pc' := 62) rfl dL_isRow_61 rfl ?_
  refine z_L4I (pc' := 64) dL_isRow_62 rfl ?_
  refine z_bipush (pc' := 66) dL_isRow_64 rfl (by decide) ?_
  refine z_imul (pc' := 67) dL_isRow_66 rfl (by unfold zin; omega) ?_
  refine z_S4I (pc' := 69) rfl dL_isRow_67 rfl ?_
  refine z_inc5 (pc' := 72) rfl dL_isRow_69 rfl (by unfold zin; omega) ?_
  refine z_goto (tgt := 31) dL_isRow_72 (by decide) ?_
  refine zW_to (ih (B2 * 6) me4 (by omega) ?_ hR4) ?_ rfl rfl
  · rw [hB, ← Nat.pow_succ]
    congr 1
    omega
  · rw [show ((B2 * 6 : Nat) : Int) = (B2 : Int) * 6 by omega, show ((i + 1 : Nat) : Int) + -1 = (i : Int) by omega]
end ZL6

