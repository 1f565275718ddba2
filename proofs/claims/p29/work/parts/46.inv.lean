section ZINV
theorem zrt_st {E R : zRg} (hE : zgR E.1 E.2) (hR : zgR R.1 R.2) {p : Int} (p0 : 0 ≤ p) (p1 : p < 10) : ∀ n, zpl (zrt E R n).1 p = (zbs E (zpl R.1 p) n).1 ∧ (zrt E R n).2 (zpl (zrt E R n).1 p) = (R.2 (zpl R.1 p) + (zbs E (zpl R.1 p) n).2) % 4 := by
  intro n
  induction n with
  | zero =>
    refine ⟨rfl, ?_⟩
    have h1 := zpl_ok hR p0 p1
    have h2 := hR.1 _ h1.1 h1.2.1
    show R.2 (zpl R.1 p) = (R.2 (zpl R.1 p) + 0) % 4
    omega
  | succ n ih =>
    have h := zact_pl (zrt_g hE hR n) hE p0 p1
    refine ⟨?_, ?_⟩
    · show zpl (zact (zrt E R n) E).1 p = zpl E.1 (zbs E (zpl R.1 p) n).1
      rw [h.1, ih.1]
    · show (zact (zrt E R n) E).2 (zpl (zact (zrt E R n) E).1 p) = (R.2 (zpl R.1 p) + ((zbs E (zpl R.1 p) n).2 + E.2 (zpl E.1 (zbs E (zpl R.1 p) n).1)) % 4) % 4
      rw [h.1, h.2, ih.2, ih.1]
      omega
theorem zrt_per {E R : zRg} (hE : zgR E.1 E.2) (hR : zgR R.1 R.2) (n : Nat) : zhb (zrt E R (zol E 10 + n)) = true ↔ zhb (zrt E R n) = true := by
  have key : ∀ p, 0 ≤ p → p < 10 → zpl (zrt E R (zol E 10 + n)).1 p = zpl (zrt E R n).1 p ∧ (zrt E R (zol E 10 + n)).2 (zpl (zrt E R (zol E 10 + n)).1 p) = (zrt E R n).2 (zpl (zrt E R n).1 p) := by
    intro p p0 p1
    have hp := zpl_ok hR p0 p1
    have h1 := zrt_st hE hR p0 p1 (zol E 10 + n)
    have h2 := zrt_st hE hR p0 p1 n
    have ha := zol_all hE hp.1 hp.2.1
    have hb := zbs_add hE hp.1 hp.2.1 (N := zol E 10) (by rw [ha]) n
    have hc := zbs_bd hE hp.1 hp.2.1 n
    rw [ha] at hb
    have e : zbs E (zpl R.1 p) (zol E 10 + n) = zbs E (zpl R.1 p) n := by
      rw [hb]
      refine Prod.ext rfl ?_
      show ((zbs E (zpl R.1 p) n).2 + 0) % 4 = (zbs E (zpl R.1 p) n).2
      omega
    rw [e] at h1
    exact ⟨h1.1.trans h2.1.symm, h1.2.trans h2.2.symm⟩
  rw [zhb_iff, zhb_iff, zhm_nw (zrt_g hE hR _), zhm_nw (zrt_g hE hR n)]
  constructor
  · intro h p p0 p1
    have := h p p0 p1
    rw [(key p p0 p1).2, (key p p0 p1).1] at this
    exact this
  · intro h p p0 p1
    rw [(key p p0 p1).2, (key p p0 p1).1]
    exact h p p0 p1
theorem zrt_never {E R : zRg} (hE : zgR E.1 E.2) (hR : zgR R.1 R.2) (h : ∀ j, j < zol E 10 → zhb (zrt E R j) ≠ true) : ∀ n, zhb (zrt E R n) ≠ true := by
  have hp := zol_pos hE 10 (Nat.le_refl _)
  intro n
  induction n using Nat.strongRecOn with
  | ind n ih =>
    by_cases e : n < zol E 10
    · exact h n e
    · intro z
      rw [show n = zol E 10 + (n - zol E 10) by omega, zrt_per hE hR] at z
      exact ih (n - zol E 10) (by omega) z
theorem zIS_mono {B B' : Int} {S : zSt} (h : zIS B S) (hb : B ≤ B') : zIS B' S := by
  obtain ⟨a1, a2, a3, a4, a5, a6, a7, a8⟩ := h
  exact ⟨a1, a2, a3, a4, a5, by omega, by omega, by omega⟩
theorem zIS_dn {B : Int} {w f h sz cd : Int → Int} {pr t0 t1 t2 n : Int} {w' f' : Int → Int} (hS : zIS B (w, f, h, pr, sz, cd, t0, t1, t2)) (hg : zgR w' f') (hn0 : 0 ≤ n) (hn1 : n ≤ 1080) : zIS (B + 2000) (qst w' f' h pr sz cd (t0 + 1) (t1 + n) t2) := by
  obtain ⟨a1, a2, a3, a4, a5, a6, a7, a8⟩ := hS
  have b6 : 0 ≤ t0 ∧ t0 ≤ B := a6
  have b7 : 0 ≤ t1 ∧ t1 ≤ B := a7
  have b8 : 0 ≤ t2 ∧ t2 ≤ B := a8
  refine ⟨hg, a2, a3, a4, a5, ?_, ?_, ?_⟩
  · show 0 ≤ t0 + 1 ∧ t0 + 1 ≤ B + 2000; omega
  · show 0 ≤ t1 + n ∧ t1 + n ≤ B + 2000; omega
  · show 0 ≤ t2 ∧ t2 ≤ B + 2000; omega
theorem zIA_mono {B B' : Int} {A : zAb} (h : zIA B A) (hb : B ≤ B') : zIA B' A := by
  obtain ⟨h1, h2, h3, h4, h5⟩ := h
  exact ⟨zIS_mono h1 hb, fun S hS => zIS_mono (h2 S hS) hb, fun S hS => zIS_mono (h3 S hS) hb, h4, h5⟩
theorem zIA_do {B B' : Int} {A : zAb} {S : zSt} (h : zIA B A) (hb : B ≤ B') (hS : zIS B' S) : zIA B' (zdo A S) := by
  obtain ⟨h1, h2, h3, h4, h5⟩ := zIA_mono h hb
  refine ⟨hS, fun T hT => ?_, h3, h4, ?_⟩
  · have hT2 := List.mem_of_mem_take hT
    rcases List.mem_cons.mp hT2 with e | e
    · rw [e]; exact h1
    · exact h2 T e
  · show ((A.1 :: A.2.1).take 5).length ≤ 5
    rw [List.length_take]
    omega
theorem zIA_add {B : Int} {A : zAb} {k kd a b : Int} (hI : zIA B A) : zIA (B + 100000) (zoAdd A k kd a b).2 := by
  have hM := zIA_mono hI (show B ≤ B + 100000 by omega)
  have hS := hM.1
  unfold zoAdd
  by_cases h1 : ¬ (0 ≤ k ∧ k < 8)
  · rw [zif_pos h1]; exact hM
  · rw [zif_neg h1]
    by_cases h2 : ¬ zmv k kd a b
    · rw [zif_pos h2]; exact hM
    · rw [zif_neg h2]
      by_cases h3 : 10 ≤ qS A k ∨ ¬ zlim (zup (qS A) k (qS A k + 1)) (zup (qC A) (k * 10 + qS A k) (kd * 100 + a * 10 + b))
      · rw [zif_pos h3]; exact hM
      · rw [zif_neg h3]
        have h1' := Classical.not_not.mp h1
        exact zIA_do hI (by omega) ⟨hS.1, hS.2.1, hS.2.2.1, zfv_add hS.2.2.2.1 h1'.1 h1'.2 (by omega) (Classical.not_not.mp h2), Classical.not_not.mp (fun z => h3 (Or.inr z)), hS.2.2.2.2.2⟩
theorem zIA_drop {B : Int} {A : zAb} {k : Int} (hI : zIA B A) : zIA (B + 100000) (zoDrop A k).2 := by
  have hM := zIA_mono hI (show B ≤ B + 100000 by omega)
  have hS := hM.1
  unfold zoDrop
  by_cases h1 : ¬ (0 ≤ k ∧ k < 8)
  · rw [zif_pos h1]; exact hM
  · rw [zif_neg h1]
    by_cases h2 : qS A k = 0
    · rw [zif_pos h2]; exact hM
    · rw [zif_neg h2]
      have h1' := Classical.not_not.mp h1
      exact zIA_do hI (by omega) ⟨hS.1, hS.2.1, hS.2.2.1, zfv_drop hS.2.2.2.1 h1'.1 h1'.2 h2, zlim_drop hS.2.2.2.1 hS.2.2.2.2.1 h1'.1 h1'.2 h2, hS.2.2.2.2.2⟩
theorem zIA_hold {B : Int} {A : zAb} {i j : Int} (hI : zIA B A) : zIA (B + 100000) (zoHold A i j).2 := by
  have hM := zIA_mono hI (show B ≤ B + 100000 by omega)
  have hS := hM.1
  unfold zoHold
  by_cases h1 : ¬ (0 ≤ i ∧ i < 10 ∧ 0 ≤ j ∧ j < 10)
  · rw [zif_pos h1]; exact hM
  · rw [zif_neg h1]
    by_cases h2 : i = j
    · rw [zif_pos h2]; exact hM
    · rw [zif_neg h2]
      by_cases h3 : qH A i ≠ -5 ∨ qH A j ≠ -5 ∨ ¬ znb (zpl (qW A) i) (zpl (qW A) j)
      · rw [zif_pos h3]; exact hM
      · rw [zif_neg h3]
        have h1' := Classical.not_not.mp h1
        have hpn : qP A = zpn (qH A) := hS.2.2.1
        have e1 : qH A i = -5 := Classical.not_not.mp (fun z => h3 (Or.inl z))
        have e2 : qH A j = -5 := Classical.not_not.mp (fun z => h3 (Or.inr (Or.inl z)))
        exact zIA_do hI (by omega) ⟨hS.1, zHok_join hS.2.1 h1'.1 h1'.2.1 h1'.2.2.1 h1'.2.2.2 h2 e1 e2, by
          show qP A + 1 = zpn (zup (zup (qH A) i j) j i)
          rw [zpn_join h1'.1 h1'.2.1 h1'.2.2.1 h1'.2.2.2 h2 e1 e2, hpn], hS.2.2.2⟩
theorem zIA_release {B : Int} {A : zAb} {i : Int} (hI : zIA B A) : zIA (B + 100000) (zoRelease A i).2 := by
  have hM := zIA_mono hI (show B ≤ B + 100000 by omega)
  have hS := hM.1
  unfold zoRelease
  by_cases h1 : ¬ (0 ≤ i ∧ i < 10)
  · rw [zif_pos h1]; exact hM
  · rw [zif_neg h1]
    by_cases h2 : qH A i = -5
    · rw [zif_pos h2]; exact hM
    · rw [zif_neg h2]
      have h1' := Classical.not_not.mp h1
      have hpn : qP A = zpn (qH A) := hS.2.2.1
      exact zIA_do hI (by omega) ⟨hS.1, zHok_part hS.2.1 h1'.1 h1'.2 h2, by
        show qP A - 1 = zpn (zup (zup (qH A) i (-5)) (qH A i) (-5))
        rw [zpn_part (h := qH A) hS.2.1 h1'.1 h1'.2 h2, hpn], hS.2.2.2⟩
theorem zIA_dance {B : Int} {A : zAb} {k T b : Int} (hI : zIA B A) : zIA (B + 100000) (zoDance A k T b).2 := by
  have hM := zIA_mono hI (show B ≤ B + 100000 by omega)
  have hS := hI.1
  unfold zoDance
  by_cases h1 : ¬ (0 ≤ k ∧ k < 8)
  · rw [zif_pos h1]; exact hM
  · rw [zif_neg h1]
    by_cases h2 : ¬ (1 ≤ T ∧ T ≤ 9)
    · rw [zif_pos h2]; exact hM
    · rw [zif_neg h2]
      by_cases h3 : ztry (qH A) (zLL A k T b) (qW A, qF A) 0 ≠ -5
      · rw [zif_pos h3]; exact hM
      · rw [zif_neg h3]
        have h1' := Classical.not_not.mp h1
        have h2' := Classical.not_not.mp h2
        have hlen : (zLL A k T b).length ≤ 1080 := by
          unfold zLL
          rw [zrep_len, zord_len]
          exact Nat.le_trans (Nat.mul_le_mul (show T.toNat ≤ 9 by omega) (hS.2.2.2.2.1 _ h1'.1 h1'.2)) (by decide)
        have hgo := zgR_fo (L := zLL A k T b) (zrep_vs (zord_vs (zsteps_ok hS.2.2.2.1 h1'.1 h1'.2))) (R := (qW A, qF A)) hS.1
        exact zIA_do hI (by omega) (zIS_mono (zIS_dn (n := ((zLL A k T b).length : Int)) hS hgo (by omega) (by omega)) (by omega))
theorem zhh_step {h : Int → Int} (hok : zHok h) {k : Int} (k0 : 0 ≤ k) (k1 : k < 10) : (zHok (zhh h k) ∧ zpn (zhh h k) = zpn h - zhc h k) → (zHok (zhh h (k + 1)) ∧ zpn (zhh h (k + 1)) = zpn h - zhc h (k + 1)) := by
  intro hh
  have e9 := zhc_up h k k0
  by_cases hk : k < h k ∧ ¬ (h k - k = 1 ∨ h k - k = 9)
  · rw [if_pos hk] at e9
    have ek : zhh h k k = h k := by unfold zhh; rw [if_neg (by omega)]
    have hne : zhh h k k ≠ -5 := by rw [ek]; omega
    have h1 := zHok_part hh.1 k0 k1 hne
    have h2 := zpn_part hh.1 k0 k1 hne
    rw [ek, zhh_s1 hok k0 k1 hk] at h1 h2
    exact ⟨h1, by rw [h2, hh.2, e9]; omega⟩
  · rw [if_neg hk] at e9
    rw [zhh_s0 hok k0 k1 hk, e9]
    exact ⟨hh.1, by rw [hh.2]; omega⟩
theorem zhh_10ok {h : Int → Int} (hok : zHok h) : zHok (zhh h 10) ∧ zpn (zhh h 10) = zpn h - zhc h 10 := by
  have key : ∀ n : Nat, n ≤ 10 → zHok (zhh h (n : Int)) ∧ zpn (zhh h (n : Int)) = zpn h - zhc h (n : Int) := by
    intro n
    induction n with
    | zero =>
      intro _
      have e1 : zhh h ((0 : Nat) : Int) = h := by
        funext i
        have hi := hok.1 i
        unfold zhh
        by_cases e : 0 ≤ i ∧ i < 10
        · rw [if_neg (by omega)]
        · rw [if_neg (by omega)]
      have e2 : zhc h ((0 : Nat) : Int) = 0 := zSm_0 _
      rw [e1, e2]
      exact ⟨hok, by omega⟩
    | succ n ih =>
      intro hn
      rw [show ((n + 1 : Nat) : Int) = (n : Int) + 1 by omega]
      exact zhh_step hok (by omega) (by omega) (ih (by omega))
  exact key 10 (Nat.le_refl _)
theorem zIA_goHome {B : Int} {A : zAb} (hI : zIA B A) : zIA (B + 100000) (zoGoHome A).2 := by
  have hS := hI.1
  have hpn : qP A = zpn (qH A) := hS.2.2.1
  have hh := zhh_10ok (h := qH A) hS.2.1
  have hcb := zSm_bd (g := fun i => if i < qH A i ∧ ¬ (qH A i - i = 1 ∨ qH A i - i = 9) then 1 else 0) (a := 0) (b := 1) (fun i _ => by split <;> omega) 10 (by omega)
  have hcb2 : 0 ≤ zhc (qH A) 10 ∧ zhc (qH A) 10 ≤ 10 := by unfold zhc; omega
  obtain ⟨a1, a2, a3, a4, a5, a6, a7, a8⟩ := hS
  have b8 : 0 ≤ qT2 A ∧ qT2 A ≤ B := a8
  have b7 : 0 ≤ qT1 A ∧ qT1 A ≤ B := a7
  have b6 : 0 ≤ qT0 A ∧ qT0 A ≤ B := a6
  refine zIA_do hI (by omega) ⟨zgR_id, hh.1, ?_, a4, a5, ?_, ?_, ?_⟩
  · show qP A - zhc (qH A) 10 = zpn (zhh (qH A) 10)
    rw [hh.2, hpn]
  · show 0 ≤ qT0 A ∧ qT0 A ≤ B + 100000; omega
  · show 0 ≤ qT1 A ∧ qT1 A ≤ B + 100000; omega
  · show 0 ≤ qT2 A + zhc (qH A) 10 ∧ qT2 A + zhc (qH A) 10 ≤ B + 100000; omega
end ZINV
