section ZINV
theorem zIA_add {B : Int} {A : zAb} {k kd a b : Int} (hI : zIA B A) : zIA (B + 100000) (zoAdd A k kd a b).2 := by
  have hM := zIA_mono hI (show B ≤ B + 100000 by omega)
  have hS := hM.1
  unfold zoAdd
  by_cases h1 : ¬ (0 ≤ k ∧ k < 8)
  · rw [zif_pos h1]; exact hM
  · rw [zif_neg h1]
    by_cases h2 : ¬ zmv k kd a b
    · rw [zif_pos h2]; exact hM
    · rw [zif_neg h2]
      by_cases h3 : 10 ≤ qS A k ∨ ¬ zlim (zup (qS A) k (qS A k + 1)) (zup (qC A) (k * 10 + qS A k) (kd * 100 + a * 10 + b))
      · rw [zif_pos h3]; exact hM
      · rw [zif_neg h3]
        have h1' := Classical.not_not.mp h1
        exact zIA_do hI (by omega) ⟨hS.1, hS.2.1, hS.2.2.1, zfv_add hS.2.2.2.1 h1'.1 h1'.2 (by omega) (Classical.not_not.mp h2), Classical.not_not.mp (fun z => h3 (Or.inr z)), hS.2.2.2.2.2⟩
theorem zIA_drop {B : Int} {A : zAb} {k : Int} (hI : zIA B A) : zIA (B + 100000) (zoDrop A k).2 := by
  have hM := zIA_mono hI (show B ≤ B + 100000 by omega)
  have hS := hM.1
  unfold zoDrop
  by_cases h1 : ¬ (0 ≤ k ∧ k < 8)
  · rw [zif_pos h1]; exact hM
  · rw [zif_neg h1]
    by_cases h2 : qS A k = 0
    · rw [zif_pos h2]; exact hM
    · rw [zif_neg h2]
      have h1' := Classical.not_not.mp h1
      exact zIA_do hI (by omega) ⟨hS.1, hS.2.1, hS.2.2.1, zfv_drop hS.2.2.2.1 h1'.1 h1'.2 h2, zlim_drop hS.2.2.2.1 hS.2.2.2.2.1 h1'.1 h1'.2 h2, hS.2.2.2.2.2⟩
theorem zIA_hold {B : Int} {A : zAb} {i j : Int} (hI : zIA B A) : zIA (B + 100000) (zoHold A i j).2 := by
  have hM := zIA_mono hI (show B ≤ B + 100000 by omega)
  have hS := hM.1
  unfold zoHold
  by_cases h1 : ¬ (0 ≤ i ∧ i < 10 ∧ 0 ≤ j ∧ j < 10)
  · rw [zif_pos h1]; exact hM
  · rw [zif_neg h1]
    by_cases h2 : i = j
    · rw [zif_pos h2]; exact hM
    · rw [zif_neg h2]
      by_cases h3 : qH A i ≠ -5 ∨ qH A j ≠ -5 ∨ ¬ znb (zpl (qW A) i) (zpl (qW A) j)
      · rw [zif_pos h3]; exact hM
      · rw [zif_neg h3]
        have h1' := Classical.not_not.mp h1
        have hpn : qP A = zpn (qH A) := hS.2.2.1
        have e1 : qH A i = -5 := Classical.not_not.mp (fun z => h3 (Or.inl z))
        have e2 : qH A j = -5 := Classical.not_not.mp (fun z => h3 (Or.inr (Or.inl z)))
        exact zIA_do hI (by omega) ⟨hS.1, zHok_join hS.2.1 h1'.1 h1'.2.1 h1'.2.2.1 h1'.2.2.2 h2 e1 e2, by
          show qP A + 1 = zpn (zup (zup (qH A) i j) j i)
          rw [zpn_join h1'.1 h1'.2.1 h1'.2.2.1 h1'.2.2.2 h2 e1 e2, hpn], hS.2.2.2⟩
theorem zIA_release {B : Int} {A : zAb} {i : Int} (hI : zIA B A) : zIA (B + 100000) (zoRelease A i).2 := by
  have hM := zIA_mono hI (show B ≤ B + 100000 by omega)
  have hS := hM.1
  unfold zoRelease
  by_cases h1 : ¬ (0 ≤ i ∧ i < 10)
  · rw [zif_pos h1]; exact hM
  · rw [zif_neg h1]
    by_cases h2 : qH A i = -5
    · rw [zif_pos h2]; exact hM
    · rw [zif_neg h2]
      have h1' := Classical.not_not.mp h1
      have hpn : qP A = zpn (qH A) := hS.2.2.1
      exact zIA_do hI (by omega) ⟨hS.1, zHok_part hS.2.1 h1'.1 h1'.2 h2, by
        show qP A - 1 = zpn (zup (zup (qH A) i (-5)) (qH A i) (-5))
        rw [zpn_part (h := qH A) hS.2.1 h1'.1 h1'.2 h2, hpn], hS.2.2.2⟩
theorem zIA_dance {B : Int} {A : zAb} {k T b : Int} (hI : zIA B A) : zIA (B + 100000) (zoDance A k T b).2 := by
  have hM := zIA_mono hI (show B ≤ B + 100000 by omega)
  have hS := hI.1
  unfold zoDance
  by_cases h1 : ¬ (0 ≤ k ∧ k < 8)
  · rw [zif_pos h1]; exact hM
  · rw [zif_neg h1]
    by_cases h2 : ¬ (1 ≤ T ∧ T ≤ 9)
    · rw [zif_pos h2]; exact hM
    · rw [zif_neg h2]
      by_cases h3 : ztry (qH A) (zLL A k T b) (qW A, qF A) 0 ≠ -5
      · rw [zif_pos h3]; exact hM
      · rw [zif_neg h3]
        have h1' := Classical.not_not.mp h1
        have h2' := Classical.not_not.mp h2
        have hlen : (zLL A k T b).length ≤ 1080 := by
          unfold zLL
          rw [zrep_len, zord_len]
          exact Nat.le_trans (Nat.mul_le_mul (show T.toNat ≤ 9 by omega) (hS.2.2.2.2.1 _ h1'.1 h1'.2)) (by decide)
        have hgo := zgR_fo (L := zLL A k T b) (zrep_vs (zord_vs (zsteps_ok hS.2.2.2.1 h1'.1 h1'.2))) (R := (qW A, qF A)) hS.1
        exact zIA_do hI (by omega) (zIS_mono (zIS_dn (n := ((zLL A k T b).length : Int)) hS hgo (by omega) (by omega)) (by omega))
theorem zIA_append {B : Int} {A : zAb} {c : Int} (hI : zIA B A) : zIA (B + 100000) (zoAppend A c).2 := by
  have hM := zIA_mono hI (show B ≤ B + 100000 by omega)
  unfold zoAppend
  by_cases h1 : ¬ (32 ≤ c ∧ c ≤ 126)
  · rw [zif_pos h1]; exact hM
  · rw [zif_neg h1]
    by_cases h2 : 80 ≤ qN A
    · rw [zif_pos h2]; exact hM
    · rw [zif_neg h2]
      obtain ⟨a1, a2, a3, a4, a5⟩ := hM
      exact ⟨a1, a2, a3, by show 0 ≤ qN A + 1 ∧ qN A + 1 ≤ 80; omega, a5⟩
theorem zIA_clear {B : Int} {A : zAb} (hI : zIA B A) : zIA (B + 100000) (zoClear A).2 := by
  obtain ⟨a1, a2, a3, a4, a5⟩ := zIA_mono hI (show B ≤ B + 100000 by omega)
  exact ⟨a1, a2, a3, by show (0 : Int) ≤ 0 ∧ (0 : Int) ≤ 80; omega, a5⟩
theorem zIA_undo {B : Int} {A : zAb} (hI : zIA B A) : zIA (B + 100000) (zoUndo A).2 := by
  have hM := zIA_mono hI (show B ≤ B + 100000 by omega)
  unfold zoUndo
  cases hE : A.2.1 with
  | nil => exact hM
  | cons S T =>
    obtain ⟨a1, a2, a3, a4, a5⟩ := hM
    rw [hE] at a2 a5
    exact ⟨a2 S List.mem_cons_self, fun S' hS' => a2 S' (List.mem_cons_of_mem _ hS'), a3, a4, by
      show T.length ≤ 5
      rw [List.length_cons] at a5
      omega⟩
theorem zIA_save {B : Int} {A : zAb} (hI : zIA B A) : zIA (B + 100000) (zoSave A).2 := by
  obtain ⟨a1, a2, a3, a4, a5⟩ := zIA_mono hI (show B ≤ B + 100000 by omega)
  exact ⟨a1, a2, fun S hS => by
    have e : A.1 = S := by
      have hS2 : some A.1 = some S := hS
      exact Option.some.inj hS2
    rw [← e]; exact a1, a4, a5⟩
theorem zIA_restore {B : Int} {A : zAb} (hI : zIA B A) : zIA (B + 100000) (zoRestore A).2 := by
  have hM := zIA_mono hI (show B ≤ B + 100000 by omega)
  unfold zoRestore
  cases hE : A.2.2.1 with
  | none => exact hM
  | some S => exact zIA_do hI (by omega) (hM.2.2.1 S hE)
theorem zhh_step {h : Int → Int} (hok : zHok h) {k : Int} (k0 : 0 ≤ k) (k1 : k < 10) : (zHok (zhh h k) ∧ zpn (zhh h k) = zpn h - zhc h k) → (zHok (zhh h (k + 1)) ∧ zpn (zhh h (k + 1)) = zpn h - zhc h (k + 1)) := by
  intro hh
  have e9 := zhc_up h k k0
  by_cases hk : k < h k ∧ ¬ (h k - k = 1 ∨ h k - k = 9)
  · rw [if_pos hk] at e9
    have ek : zhh h k k = h k := by unfold zhh; rw [if_neg (by omega)]
    have hne : zhh h k k ≠ -5 := by rw [ek]; omega
    have h1 := zHok_part hh.1 k0 k1 hne
    have h2 := zpn_part hh.1 k0 k1 hne
    rw [ek, zhh_s1 hok k0 k1 hk] at h1 h2
    exact ⟨h1, by rw [h2, hh.2, e9]; omega⟩
  · rw [if_neg hk] at e9
    rw [zhh_s0 hok k0 k1 hk, e9]
    exact ⟨hh.1, by rw [hh.2]; omega⟩
theorem zhh_10ok {h : Int → Int} (hok : zHok h) : zHok (zhh h 10) ∧ zpn (zhh h 10) = zpn h - zhc h 10 := by
  have key : ∀ n : Nat, n ≤ 10 → zHok (zhh h (n : Int)) ∧ zpn (zhh h (n : Int)) = zpn h - zhc h (n : Int) := by
    intro n
    induction n with
    | zero =>
      intro _
      have e1 : zhh h ((0 : Nat) : Int) = h := by
        funext i
        have hi := hok.1 i
        unfold zhh
        by_cases e : 0 ≤ i ∧ i < 10
        · rw [if_neg (by omega)]
        · rw [if_neg (by omega)]
      have e2 : zhc h ((0 : Nat) : Int) = 0 := zSm_0 _
      rw [e1, e2]
      exact ⟨hok, by omega⟩
    | succ n ih =>
      intro hn
      rw [show ((n + 1 : Nat) : Int) = (n : Int) + 1 by omega]
      exact zhh_step hok (by omega) (by omega) (ih (by omega))
  exact key 10 (Nat.le_refl _)
theorem zIA_goHome {B : Int} {A : zAb} (hI : zIA B A) : zIA (B + 100000) (zoGoHome A).2 := by
  have hS := hI.1
  have hpn : qP A = zpn (qH A) := hS.2.2.1
  have hh := zhh_10ok (h := qH A) hS.2.1
  have hcb := zSm_bd (g := fun i => if i < qH A i ∧ ¬ (qH A i - i = 1 ∨ qH A i - i = 9) then 1 else 0) (a := 0) (b := 1) (fun i _ => by split <;> omega) 10 (by omega)
  have hcb2 : 0 ≤ zhc (qH A) 10 ∧ zhc (qH A) 10 ≤ 10 := by unfold zhc; omega
  obtain ⟨a1, a2, a3, a4, a5, a6, a7, a8⟩ := hS
  have b8 : 0 ≤ qT2 A ∧ qT2 A ≤ B := a8
  have b7 : 0 ≤ qT1 A ∧ qT1 A ≤ B := a7
  have b6 : 0 ≤ qT0 A ∧ qT0 A ≤ B := a6
  refine zIA_do hI (by omega) ⟨zgR_id, hh.1, ?_, a4, a5, ?_, ?_, ?_⟩
  · show qP A - zhc (qH A) 10 = zpn (zhh (qH A) 10)
    rw [hh.2, hpn]
  · show 0 ≤ qT0 A ∧ qT0 A ≤ B + 100000; omega
  · show 0 ≤ qT1 A ∧ qT1 A ≤ B + 100000; omega
  · show 0 ≤ qT2 A + zhc (qH A) 10 ∧ qT2 A + zhc (qH A) 10 ≤ B + 100000; omega
end ZINV

