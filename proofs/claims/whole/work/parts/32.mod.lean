section ZMOD
def zMod (sp : zSP) (a : Nat) : Prop := sp.1 a = (19, 22) ∧ sp.2.1 a 0 = some (a + 1) ∧ sp.2.1 a 1 = some (a + 2) ∧ sp.2.1 a 3 = some (a + 3) ∧ sp.2.1 a 5 = some (a + 4) ∧ sp.2.1 a 6 = some (a + 5) ∧ sp.2.1 a 7 = some (a + 6) ∧ sp.2.1 a 8 = some (a + 7) ∧ sp.2.1 a 9 = some (a + 8) ∧ sp.2.1 a 10 = some (a + 9) ∧ sp.2.1 a 11 = some (a + 10) ∧ sp.2.1 a 12 = some (a + 11) ∧ sp.2.1 a 16 = some (a + 12) ∧ sp.2.1 a 17 = some (a + 13) ∧ sp.2.1 a 18 = some (a + 14) ∧ sp.2.1 a 19 = some (a + 15) ∧ sp.2.1 a 20 = some (a + 16) ∧ sp.2.1 a 21 = some (a + 17) ∧ sp.1 (a + 1) = (1, 281) ∧ sp.1 (a + 2) = (1, 1405) ∧ sp.1 (a + 3) = (1, 281) ∧ sp.1 (a + 4) = (1, 8) ∧ sp.1 (a + 5) = (1, 2880) ∧ sp.1 (a + 6) = (1, 8) ∧ sp.1 (a + 7) = (1, 10) ∧ sp.1 (a + 8) = (1, 10) ∧ sp.1 (a + 9) = (1, 10) ∧ sp.1 (a + 10) = (1, 20) ∧ sp.1 (a + 11) = (1, 80) ∧ sp.1 (a + 12) = (1, 40) ∧ sp.1 (a + 13) = (1, 40) ∧ sp.1 (a + 14) = (2, 40) ∧ sp.1 (a + 15) = (1, 80) ∧ sp.1 (a + 16) = (1, 80) ∧ sp.1 (a + 17) = (1, 20)
theorem zMod.sh {sp : zSP} {a : Nat} (h : zMod sp a) : sp.1 a = (19, 22) := h.1
theorem zMod.p0 {sp : zSP} {a : Nat} (h : zMod sp a) : sp.2.1 a 0 = some (a + 1) := h.2.1
theorem zMod.p1 {sp : zSP} {a : Nat} (h : zMod sp a) : sp.2.1 a 1 = some (a + 2) := h.2.2.1
theorem zMod.p3 {sp : zSP} {a : Nat} (h : zMod sp a) : sp.2.1 a 3 = some (a + 3) := h.2.2.2.1
theorem zMod.p5 {sp : zSP} {a : Nat} (h : zMod sp a) : sp.2.1 a 5 = some (a + 4) := h.2.2.2.2.1
theorem zMod.p6 {sp : zSP} {a : Nat} (h : zMod sp a) : sp.2.1 a 6 = some (a + 5) := h.2.2.2.2.2.1
theorem zMod.p7 {sp : zSP} {a : Nat} (h : zMod sp a) : sp.2.1 a 7 = some (a + 6) := h.2.2.2.2.2.2.1
theorem zMod.p8 {sp : zSP} {a : Nat} (h : zMod sp a) : sp.2.1 a 8 = some (a + 7) := h.2.2.2.2.2.2.2.1
theorem zMod.p9 {sp : zSP} {a : Nat} (h : zMod sp a) : sp.2.1 a 9 = some (a + 8) := h.2.2.2.2.2.2.2.2.1
theorem zMod.p10 {sp : zSP} {a : Nat} (h : zMod sp a) : sp.2.1 a 10 = some (a + 9) := h.2.2.2.2.2.2.2.2.2.1
theorem zMod.p11 {sp : zSP} {a : Nat} (h : zMod sp a) : sp.2.1 a 11 = some (a + 10) := h.2.2.2.2.2.2.2.2.2.2.1
theorem zMod.p12 {sp : zSP} {a : Nat} (h : zMod sp a) : sp.2.1 a 12 = some (a + 11) := h.2.2.2.2.2.2.2.2.2.2.2.1
theorem zMod.p16 {sp : zSP} {a : Nat} (h : zMod sp a) : sp.2.1 a 16 = some (a + 12) := h.2.2.2.2.2.2.2.2.2.2.2.2.1
theorem zMod.p17 {sp : zSP} {a : Nat} (h : zMod sp a) : sp.2.1 a 17 = some (a + 13) := h.2.2.2.2.2.2.2.2.2.2.2.2.2.1
theorem zMod.p18 {sp : zSP} {a : Nat} (h : zMod sp a) : sp.2.1 a 18 = some (a + 14) := h.2.2.2.2.2.2.2.2.2.2.2.2.2.2.1
theorem zMod.p19 {sp : zSP} {a : Nat} (h : zMod sp a) : sp.2.1 a 19 = some (a + 15) := h.2.2.2.2.2.2.2.2.2.2.2.2.2.2.2.1
theorem zMod.p20 {sp : zSP} {a : Nat} (h : zMod sp a) : sp.2.1 a 20 = some (a + 16) := h.2.2.2.2.2.2.2.2.2.2.2.2.2.2.2.2.1
theorem zMod.p21 {sp : zSP} {a : Nat} (h : zMod sp a) : sp.2.1 a 21 = some (a + 17) := h.2.2.2.2.2.2.2.2.2.2.2.2.2.2.2.2.2.1
theorem zMod.a1 {sp : zSP} {a : Nat} (h : zMod sp a) : sp.1 (a + 1) = (1, 281) := h.2.2.2.2.2.2.2.2.2.2.2.2.2.2.2.2.2.2.1
theorem zMod.a2 {sp : zSP} {a : Nat} (h : zMod sp a) : sp.1 (a + 2) = (1, 1405) := h.2.2.2.2.2.2.2.2.2.2.2.2.2.2.2.2.2.2.2.1
theorem zMod.a3 {sp : zSP} {a : Nat} (h : zMod sp a) : sp.1 (a + 3) = (1, 281) := h.2.2.2.2.2.2.2.2.2.2.2.2.2.2.2.2.2.2.2.2.1
theorem zMod.a4 {sp : zSP} {a : Nat} (h : zMod sp a) : sp.1 (a + 4) = (1, 8) := h.2.2.2.2.2.2.2.2.2.2.2.2.2.2.2.2.2.2.2.2.2.1
theorem zMod.a5 {sp : zSP} {a : Nat} (h : zMod sp a) : sp.1 (a + 5) = (1, 2880) := h.2.2.2.2.2.2.2.2.2.2.2.2.2.2.2.2.2.2.2.2.2.2.1
theorem zMod.a6 {sp : zSP} {a : Nat} (h : zMod sp a) : sp.1 (a + 6) = (1, 8) := h.2.2.2.2.2.2.2.2.2.2.2.2.2.2.2.2.2.2.2.2.2.2.2.1
theorem zMod.a7 {sp : zSP} {a : Nat} (h : zMod sp a) : sp.1 (a + 7) = (1, 10) := h.2.2.2.2.2.2.2.2.2.2.2.2.2.2.2.2.2.2.2.2.2.2.2.2.1
theorem zMod.a8 {sp : zSP} {a : Nat} (h : zMod sp a) : sp.1 (a + 8) = (1, 10) := h.2.2.2.2.2.2.2.2.2.2.2.2.2.2.2.2.2.2.2.2.2.2.2.2.2.1
theorem zMod.a9 {sp : zSP} {a : Nat} (h : zMod sp a) : sp.1 (a + 9) = (1, 10) := h.2.2.2.2.2.2.2.2.2.2.2.2.2.2.2.2.2.2.2.2.2.2.2.2.2.2.1
theorem zMod.a10 {sp : zSP} {a : Nat} (h : zMod sp a) : sp.1 (a + 10) = (1, 20) := h.2.2.2.2.2.2.2.2.2.2.2.2.2.2.2.2.2.2.2.2.2.2.2.2.2.2.2.1
theorem zMod.a11 {sp : zSP} {a : Nat} (h : zMod sp a) : sp.1 (a + 11) = (1, 80) := h.2.2.2.2.2.2.2.2.2.2.2.2.2.2.2.2.2.2.2.2.2.2.2.2.2.2.2.2.1
theorem zMod.a12 {sp : zSP} {a : Nat} (h : zMod sp a) : sp.1 (a + 12) = (1, 40) := h.2.2.2.2.2.2.2.2.2.2.2.2.2.2.2.2.2.2.2.2.2.2.2.2.2.2.2.2.2.1
theorem zMod.a13 {sp : zSP} {a : Nat} (h : zMod sp a) : sp.1 (a + 13) = (1, 40) := h.2.2.2.2.2.2.2.2.2.2.2.2.2.2.2.2.2.2.2.2.2.2.2.2.2.2.2.2.2.2.1
theorem zMod.a14 {sp : zSP} {a : Nat} (h : zMod sp a) : sp.1 (a + 14) = (2, 40) := h.2.2.2.2.2.2.2.2.2.2.2.2.2.2.2.2.2.2.2.2.2.2.2.2.2.2.2.2.2.2.2.1
theorem zMod.a15 {sp : zSP} {a : Nat} (h : zMod sp a) : sp.1 (a + 15) = (1, 80) := h.2.2.2.2.2.2.2.2.2.2.2.2.2.2.2.2.2.2.2.2.2.2.2.2.2.2.2.2.2.2.2.2.1
theorem zMod.a16 {sp : zSP} {a : Nat} (h : zMod sp a) : sp.1 (a + 16) = (1, 80) := h.2.2.2.2.2.2.2.2.2.2.2.2.2.2.2.2.2.2.2.2.2.2.2.2.2.2.2.2.2.2.2.2.2.1
theorem zMod.a17 {sp : zSP} {a : Nat} (h : zMod sp a) : sp.1 (a + 17) = (1, 20) := h.2.2.2.2.2.2.2.2.2.2.2.2.2.2.2.2.2.2.2.2.2.2.2.2.2.2.2.2.2.2.2.2.2.2
theorem zMod.s {sp : zSP} {a : Nat} (h : zMod sp a) : (sp.1 a).1 = 10 + 9 := by rw [h.sh]
/-- a stretch of a row -/
def zseg (f g : Int → Int) (o k : Int) : Int → Int := fun p => if o ≤ p ∧ p < o + k then g (p - o) else f p
theorem zseg_0 (f g : Int → Int) (o : Int) : zseg f g o 0 = f := by
  funext p; unfold zseg; rw [if_neg (by omega)]
theorem zseg_up (f g : Int → Int) (o k x : Int) (h0 : 0 ≤ k) (hx : x = g k) : zup (zseg f g o k) (o + k) x = zseg f g o (k + 1) := by
  funext p
  unfold zup zseg
  by_cases h : p = o + k
  · subst h; rw [if_pos rfl, if_pos (by omega), hx]; congr 1; omega
  · rw [if_neg h]
    by_cases h2 : o ≤ p ∧ p < o + k
    · rw [if_pos h2, if_pos (by omega)]
    · rw [if_neg h2, if_neg (by omega)]
theorem zseg_in (f g : Int → Int) (o k p : Int) (h0 : 0 ≤ p) (h1 : p < k) : zseg f g o k (o + p) = g p := by
  unfold zseg; rw [if_pos (by omega)]; congr 1; omega
theorem zseg_out (f g : Int → Int) (o k p : Int) (h : ¬ (o ≤ p ∧ p < o + k)) : zseg f g o k p = f p := by unfold zseg; rw [if_neg h]
def zdig (c q : Int) : Int := if q = 0 then c / 100 else if q = 1 then c / 10 % 10 else c % 10
/-- a state as a row of 281 numbers -/
def zMR (r : Int → Int) (S : zSt) : Prop := (∀ p, 0 ≤ p → p < 10 → r p = S.1 p) ∧ (∀ p, 0 ≤ p → p < 10 → r (10 + S.1 p) = S.2.1 p) ∧ (∀ i, 0 ≤ i → i < 10 → r (20 + i) = S.2.2.1 i) ∧ (∀ k, 0 ≤ k → k < 8 → r (30 + 31 * k) = S.2.2.2.2.1 k ∧ ∀ m, 0 ≤ m → m < S.2.2.2.2.1 k → ∀ q, 0 ≤ q → q < 3 → r (30 + 31 * k + 1 + 3 * m + q) = zdig (S.2.2.2.2.2.1 (k * 10 + m)) q) ∧ r 278 = S.2.2.2.2.2.2.1 ∧ r 279 = S.2.2.2.2.2.2.2.1 ∧ r 280 = S.2.2.2.2.2.2.2.2
theorem zMR_congr {r r' : Int → Int} {S : zSt} {B : Int} (hI : zIS B S) (h : zMR r S) (hc : ∀ q, 0 ≤ q → q < 281 → r' q = r q) : zMR r' S := by
  obtain ⟨h1, h2, h3, h4, h5, h6, h7⟩ := h
  refine ⟨fun p p0 p1 => ?_, fun p p0 p1 => ?_, fun p p0 p1 => ?_, fun k k0 k1 => ⟨?_, fun m m0 m1 q q0 q1 => ?_⟩, ?_, ?_, ?_⟩
  · rw [hc _ (by omega) (by omega)]; exact h1 p p0 p1
  · have := hI.1.1 p p0 p1
    rw [hc _ (by omega) (by omega)]; exact h2 p p0 p1
  · rw [hc _ (by omega) (by omega)]; exact h3 p p0 p1
  · rw [hc _ (by omega) (by omega)]; exact (h4 k k0 k1).1
  · have := hI.2.2.2.1 k k0 k1
    rw [hc _ (by omega) (by omega)]; exact (h4 k k0 k1).2 m m0 m1 q q0 q1
  · rw [hc _ (by omega) (by omega)]; exact h5
  · rw [hc _ (by omega) (by omega)]; exact h6
  · rw [hc _ (by omega) (by omega)]; exact h7
def zMH (me : zMe) (y : Nat) (HL : List zSt) : Prop := me y 2 = (HL.length : Int) ∧ HL.length ≤ 5 ∧ ∀ (j : Nat) (S : zSt), HL[j]? = some S → zMR (fun q => me (y + 2) (281 * ((HL.length : Int) - 1 - (j : Int)) + q)) S
def zMX (me : zMe) (y : Nat) (A : zAb) : Prop := zMR (me (y + 1)) A.1 ∧ zMH me y A.2.1 ∧ ((me y 4 = 0 ∧ A.2.2.1 = none) ∨ (me y 4 = 1 ∧ ∃ S, A.2.2.1 = some S ∧ zMR (me (y + 3)) S)) ∧ me y 13 = qN A ∧ me (y + 11) = qG A
def zMF (y : Nat) (me me' : zMe) : Prop := ∀ a, a < y ∨ y + 17 < a → me' a = me a
theorem zMF.rf {y : Nat} {me : zMe} : zMF y me me := fun _ _ => rfl
set_option maxRecDepth 100000 in
set_option maxHeartbeats 1000000 in
theorem m_in {d : Nat} {sp : zSP} {me : zMe} {Q : zQ} {v lo hi : Int} (hQ1 : lo ≤ v ∧ v ≤ hi → Q (some (zI 1)) sp me) (hQ0 : ¬ (lo ≤ v ∧ v ≤ hi) → Q (some (zI 0)) sp me) : zCall mX9_in d 0 0 [zI v, zI lo, zI hi] sp me Q := by
  refine z_met kX9_in (by simp) (by simp) ?_
  show zW mX9_in d 0 0 Q 0 [zI v, zI lo, zI hi] [] sp me
  refine z_L0I (pc' := 1) dX9_in_0 rfl ?_
  refine z_L1I (pc' := 2) dX9_in_1 rfl ?_
  refine z_icmp_lt (tgt := 14) (pc' := 5) dX9_in_2 (by decide) rfl (fun h2 => ?_) (fun h2 => ?_)
  · refine z_iconst (pc' := 15) dX9_in_14 rfl (by unfold zin; decide) ?_
    refine z_zreturn rfl rfl dX9_in_15 (by omega) ?_
    first | exact hQ1 (by omega) | exact hQ0 (by omega)
  · refine z_L0I (pc' := 6) dX9_in_5 rfl ?_
    refine z_L2I (pc' := 7) dX9_in_6 rfl ?_
    refine z_icmp_gt (tgt := 14) (pc' := 10) dX9_in_7 (by decide) rfl (fun h7 => ?_) (fun h7 => ?_)
    · refine z_iconst (pc' := 15) dX9_in_14 rfl (by unfold zin; decide) ?_
      refine z_zreturn rfl rfl dX9_in_15 (by omega) ?_
      first | exact hQ1 (by omega) | exact hQ0 (by omega)
    · refine z_iconst (pc' := 11) dX9_in_10 rfl (by unfold zin; decide) ?_
      refine z_goto (tgt := 15) dX9_in_11 (by decide) ?_
      refine z_zreturn rfl rfl dX9_in_15 (by omega) ?_
      first | exact hQ1 (by omega) | exact hQ0 (by omega)
set_option maxRecDepth 100000 in
set_option maxHeartbeats 1000000 in
theorem m_isFigure {d : Nat} {sp : zSP} {me : zMe} {Q : zQ} {v : Int} (hd : 1 ≤ d) (hQ1 : 0 ≤ v ∧ v < 8 → Q (some (zI 1)) sp me) (hQ0 : ¬ (0 ≤ v ∧ v < 8) → Q (some (zI 0)) sp me) : zCall mX9_isFigure d 0 0 [zI v] sp me Q := by
  refine z_met kX9_isFigure (by simp) (by simp) ?_
  show zW mX9_isFigure d 0 0 Q 0 [zI v] [] sp me
  refine z_L0I (pc' := 1) dX9_isFigure_0 rfl ?_
  refine z_iconst (pc' := 2) dX9_isFigure_1 rfl (by unfold zin; decide) ?_
  refine z_bipush (pc' := 4) dX9_isFigure_2 rfl (by decide) ?_
  refine z_S3v (pc' := 7) kX9_in lX9_62 dX9_isFigure_4 rfl (by omega) (Nat.le_of_ble_eq_true rfl) ?_
  refine m_in (fun h => zKv_i ?_) (fun h => zKv_i ?_)
  · refine z_zreturn rfl rfl dX9_isFigure_7 (by omega) ?_
    exact hQ1 (by omega)
  · refine z_zreturn rfl rfl dX9_isFigure_7 (by omega) ?_
    exact hQ0 (by omega)
set_option maxRecDepth 100000 in
set_option maxHeartbeats 1000000 in
theorem m_isDancer {d : Nat} {sp : zSP} {me : zMe} {Q : zQ} {v : Int} (hd : 1 ≤ d) (hQ1 : 0 ≤ v ∧ v < 10 → Q (some (zI 1)) sp me) (hQ0 : ¬ (0 ≤ v ∧ v < 10) → Q (some (zI 0)) sp me) : zCall mX9_isDancer d 0 0 [zI v] sp me Q := by
  refine z_met kX9_isDancer (by simp) (by simp) ?_
  show zW mX9_isDancer d 0 0 Q 0 [zI v] [] sp me
  refine z_L0I (pc' := 1) dX9_isDancer_0 rfl ?_
  refine z_iconst (pc' := 2) dX9_isDancer_1 rfl (by unfold zin; decide) ?_
  refine z_bipush (pc' := 4) dX9_isDancer_2 rfl (by decide) ?_
  refine z_S3v (pc' := 7) kX9_in lX9_62 dX9_isDancer_4 rfl (by omega) (Nat.le_of_ble_eq_true rfl) ?_
  refine m_in (fun h => zKv_i ?_) (fun h => zKv_i ?_)
  · refine z_zreturn rfl rfl dX9_isDancer_7 (by omega) ?_
    exact hQ1 (by omega)
  · refine z_zreturn rfl rfl dX9_isDancer_7 (by omega) ?_
    exact hQ0 (by omega)
set_option maxRecDepth 100000 in
set_option maxHeartbeats 1000000 in
theorem m_ahead {d : Nat} {sp : zSP} {me : zMe} {Q : zQ} {p b : Int} (hp0 : 0 ≤ p) (hp1 : p ≤ 100) (hb0 : 0 ≤ b) (hb1 : b ≤ 100) (hQ : Q (some (zI ((p + b) % 10))) sp me) : zCall mX9_ahead d 0 0 [zI p, zI b] sp me Q := by
  refine z_met kX9_ahead (by simp) (by simp) ?_
  show zW mX9_ahead d 0 0 Q 0 [zI p, zI b] [] sp me
  refine z_L0I (pc' := 1) dX9_ahead_0 rfl ?_
  refine z_L1I (pc' := 2) dX9_ahead_1 rfl ?_
  refine z_iadd (pc' := 3) dX9_ahead_2 rfl (by unfold zin; omega) ?_
  refine z_bipush (pc' := 5) dX9_ahead_3 rfl (by decide) ?_
  refine z_irem (pc' := 6) dX9_ahead_5 rfl (by omega) (by omega) ?_
  refine z_ireturn rfl rfl dX9_ahead_6 ?_
  exact hQ
set_option maxRecDepth 100000 in
set_option maxHeartbeats 1000000 in
theorem m_areNb {d : Nat} {sp : zSP} {me : zMe} {Q : zQ} {p q : Int} (hd : 1 ≤ d) (hp0 : 0 ≤ p) (hp1 : p < 10) (hq0 : 0 ≤ q) (hq1 : q < 10) (hQ1 : znb p q → Q (some (zI 1)) sp me) (hQ0 : ¬ znb p q → Q (some (zI 0)) sp me) : zCall mX9_areNeighbors d 0 0 [zI p, zI q] sp me Q := by
  refine z_met kX9_areNeighbors (by simp) (by simp) ?_
  show zW mX9_areNeighbors d 0 0 Q 0 [zI p, zI q] [] sp me
  unfold znb at hQ1 hQ0
  refine z_L0I (pc' := 1) dX9_areNeighbors_0 rfl ?_
  refine z_iconst (pc' := 2) dX9_areNeighbors_1 rfl (by unfold zin; decide) ?_
  refine z_S2v (pc' := 5) kX9_ahead lX9_115 dX9_areNeighbors_2 rfl (by omega) (Nat.le_of_ble_eq_true rfl) ?_
  refine m_ahead (by omega) (by omega) (by omega) (by omega) (zKv_i ?_)
  refine z_L1I (pc' := 6) dX9_areNeighbors_5 rfl ?_
  refine z_icmp_eq (tgt := 18) (pc' := 9) dX9_areNeighbors_6 (by decide) rfl (fun h6 => ?_) (fun h6 => ?_)
  · refine z_iconst (pc' := 19) dX9_areNeighbors_18 rfl (by unfold zin; decide) ?_
    refine z_goto (tgt := 23) dX9_areNeighbors_19 (by decide) ?_
    refine z_zreturn rfl rfl dX9_areNeighbors_23 (by omega) ?_
    first | exact hQ1 (by omega) | exact hQ0 (by omega)
  · refine z_L1I (pc' := 10) dX9_areNeighbors_9 rfl ?_
    refine z_iconst (pc' := 11) dX9_areNeighbors_10 rfl (by unfold zin; decide) ?_
    refine z_S2v (pc' := 14) kX9_ahead lX9_115 dX9_areNeighbors_11 rfl (by omega) (Nat.le_of_ble_eq_true rfl) ?_
    refine m_ahead (by omega) (by omega) (by omega) (by omega) (zKv_i ?_)
    refine z_L0I (pc' := 15) dX9_areNeighbors_14 rfl ?_
    refine z_icmp_ne (tgt := 22) (pc' := 18) dX9_areNeighbors_15 (by decide) rfl (fun h15 => ?_) (fun h15 => ?_)
    · refine z_iconst (pc' := 23) dX9_areNeighbors_22 rfl (by unfold zin; decide) ?_
      refine z_zreturn rfl rfl dX9_areNeighbors_23 (by omega) ?_
      first | exact hQ1 (by omega) | exact hQ0 (by omega)
    · refine z_iconst (pc' := 19) dX9_areNeighbors_18 rfl (by unfold zin; decide) ?_
      refine z_goto (tgt := 23) dX9_areNeighbors_19 (by decide) ?_
      refine z_zreturn rfl rfl dX9_areNeighbors_23 (by omega) ?_
      first | exact hQ1 (by omega) | exact hQ0 (by omega)
set_option maxRecDepth 100000 in
set_option maxHeartbeats 1000000 in
theorem m_moves {d : Nat} {sp : zSP} {me : zMe} {Q : zQ} {y : Nat} {k : Int} (hy : zMod sp y) (h0 : 0 ≤ k) (h8 : k < 8) (hQ : Q (some (zI (me (y + 1) (30 + 31 * k)))) sp me) : zCall mX9_moves d 0 0 [zR y, zI k] sp me Q := by
  refine z_met kX9_moves (by simp) (by simp) ?_
  show zW mX9_moves d 0 0 Q 0 [zR y, zI k] [] sp me
  refine z_L0R (pc' := 1) dX9_moves_0 rfl ?_
  refine z_getR (pc' := 4) (ki := 0) 0 fX9_7.l rfl rfl dX9_moves_1 rfl hy.s hy.p0 ?_
  refine z_bipush (pc' := 6) dX9_moves_4 rfl (by decide) ?_
  refine z_bipush (pc' := 8) dX9_moves_6 rfl (by decide) ?_
  refine z_L1I (pc' := 9) dX9_moves_8 rfl ?_
  refine z_imul (pc' := 10) dX9_moves_9 rfl (by unfold zin; omega) ?_
  refine z_iadd (pc' := 11) dX9_moves_10 rfl (by unfold zin; omega) ?_
  refine z_ild (pc' := 12) dX9_moves_11 rfl hy.a1 (by omega) (by omega) ?_
  refine z_ireturn rfl rfl dX9_moves_12 ?_
  exact hQ
set_option maxRecDepth 100000 in
set_option maxHeartbeats 1000000 in
theorem m_ofMove {d : Nat} {sp : zSP} {me : zMe} {Q : zQ} {y : Nat} {k m q : Int} (hy : zMod sp y) (h0 : 0 ≤ k) (h8 : k < 8) (hm0 : 0 ≤ m) (hm1 : m < 10) (hq0 : 0 ≤ q) (hq1 : q < 3) (hQ : Q (some (zI (me (y + 1) (30 + 31 * k + 1 + 3 * m + q)))) sp me) : zCall mX9_ofMove d 0 0 [zR y, zI k, zI m, zI q] sp me Q := by
  refine z_met kX9_ofMove (by simp) (by simp) ?_
  show zW mX9_ofMove d 0 0 Q 0 [zR y, zI k, zI m, zI q] [] sp me
  refine z_L0R (pc' := 1) dX9_ofMove_0 rfl ?_
  refine z_getR (pc' := 4) (ki := 0) 0 fX9_7.l rfl rfl dX9_ofMove_1 rfl hy.s hy.p0 ?_
  refine z_bipush (pc' := 6) dX9_ofMove_4 rfl (by decide) ?_
  refine z_bipush (pc' := 8) dX9_ofMove_6 rfl (by decide) ?_
  refine z_L1I (pc' := 9) dX9_ofMove_8 rfl ?_
  refine z_imul (pc' := 10) dX9_ofMove_9 rfl (by unfold zin; omega) ?_
  refine z_iadd (pc' := 11) dX9_ofMove_10 rfl (by unfold zin; omega) ?_
  refine z_iconst (pc' := 12) dX9_ofMove_11 rfl (by unfold zin; decide) ?_
  refine z_iadd (pc' := 13) dX9_ofMove_12 rfl (by unfold zin; omega) ?_
  refine z_iconst (pc' := 14) dX9_ofMove_13 rfl (by unfold zin; decide) ?_
  refine z_L2I (pc' := 15) dX9_ofMove_14 rfl ?_
  refine z_imul (pc' := 16) dX9_ofMove_15 rfl (by unfold zin; omega) ?_
  refine z_iadd (pc' := 17) dX9_ofMove_16 rfl (by unfold zin; omega) ?_
  refine z_L3I (pc' := 18) dX9_ofMove_17 rfl ?_
  refine z_iadd (pc' := 19) dX9_ofMove_18 rfl (by unfold zin; omega) ?_
  refine z_ild (pc' := 20) dX9_ofMove_19 rfl hy.a1 (by omega) (by omega) ?_
  refine z_ireturn rfl rfl dX9_ofMove_20 ?_
  exact hQ
theorem zfd_n {p k : Int} (e : k ≠ p) : (if p < k then p else -5 : Int) = if p < k + 1 then p else -5 := by
  by_cases e2 : p < k
  · rw [if_pos e2, if_pos (by omega)]
  · rw [if_neg e2, if_neg (by omega)]
theorem zfd_y {p k : Int} (e : k = p) : k = if p < k + 1 then p else -5 := by rw [if_pos (by omega), e]
set_option maxRecDepth 100000 in
set_option maxHeartbeats 1000000 in
theorem m_placeOf {d : Nat} {sp : zSP} {me : zMe} {Q : zQ} {y : Nat} {i p : Int} (hy : zMod sp y) (h0 : 0 ≤ p) (h1 : p < 10) (hp : me (y + 1) p = i) (hu : ∀ q, 0 ≤ q → q < 10 → me (y + 1) q = i → q = p) (hQ : Q (some (zI p)) sp me) : zCall mX9_placeOf d 0 0 [zR y, zI i] sp me Q := by
  refine z_met kX9_placeOf (by simp) (by simp) ?_
  show zW mX9_placeOf d 0 0 Q 0 [zR y, zI i, zU, zU] [] sp me
  refine z_bipush (pc' := 2) dX9_placeOf_0 rfl (by decide) ?_
  refine z_S2I (pc' := 3) rfl dX9_placeOf_2 rfl ?_
  refine z_iconst (pc' := 4) dX9_placeOf_3 rfl (by unfold zin; decide) ?_
  refine z_S3I (pc' := 5) rfl dX9_placeOf_4 rfl ?_
  suffices H : ∀ (n : Nat) (k : Int), 0 ≤ k → k ≤ 10 → 10 - k < n → zW mX9_placeOf d 0 0 Q 5 [zR y, zI i, zI (if p < k then p else -5), zI k] [] sp (me) by
    refine zW_to (H ((10 - 0 + 1 : Int).toNat) (0) (by omega) (by omega) (by omega) ) (by rw [if_neg (by omega)]) rfl ?_
    rfl
  intro n
  induction n with
  | zero => intro k hk0 hk1 hk2; omega
  | succ n ih =>
  intro k hk0 hk1 hk2
  refine z_L3I (pc' := 6) dX9_placeOf_5 rfl ?_
  refine z_bipush (pc' := 8) dX9_placeOf_6 rfl (by decide) ?_
  refine z_icmp_ge (tgt := 35) (pc' := 11) dX9_placeOf_8 (by decide) rfl (fun h8 => ?_) (fun h8 => ?_)
  · refine z_L2I (pc' := 36) dX9_placeOf_35 rfl ?_
    obtain rfl : k = 10 := by omega
    rw [if_pos h1]
    refine z_ireturn rfl rfl dX9_placeOf_36 ?_
    exact hQ
  · refine z_L0R (pc' := 12) dX9_placeOf_11 rfl ?_
    refine z_getR (pc' := 15) (ki := 0) 0 fX9_7.l rfl rfl dX9_placeOf_12 rfl hy.s hy.p0 ?_
    refine z_iconst (pc' := 16) dX9_placeOf_15 rfl (by unfold zin; decide) ?_
    refine z_L3I (pc' := 17) dX9_placeOf_16 rfl ?_
    refine z_iadd (pc' := 18) dX9_placeOf_17 rfl (by unfold zin; omega) ?_
    refine z_ild (pc' := 19) dX9_placeOf_18 rfl (by first | exact hy.a1 | exact hy.a2 | exact hy.a3 | exact hy.a4 | exact hy.a5 | exact hy.a6 | exact hy.a7 | exact hy.a8 | exact hy.a9 | exact hy.a10 | exact hy.a11 | exact hy.a12 | exact hy.a13 | exact hy.a15 | exact hy.a16 | exact hy.a17) (by omega) (by omega) ?_
    rw [Int.zero_add]
    refine z_L1I (pc' := 20) dX9_placeOf_19 rfl ?_
    refine z_icmp_ne (tgt := 27) (pc' := 23) dX9_placeOf_20 (by decide) rfl (fun h20 => ?_) (fun h20 => ?_)
    · refine z_L2I (pc' := 28) dX9_placeOf_27 rfl ?_
      refine z_S2I (pc' := 29) rfl dX9_placeOf_28 rfl ?_
      refine z_inc3 (pc' := 32) rfl dX9_placeOf_29 rfl (by unfold zin; omega) ?_
      refine z_goto (tgt := 5) dX9_placeOf_32 (by decide) ?_
      refine zW_to (ih (k + 1) (by omega) (by omega) (by omega) ) (by first | rw [zfd_n (fun z => h20 (by rw [z]; exact hp))] | rw [← zfd_y (hu k hk0 (by omega) h20)]) rfl ?_
      rfl
    · refine z_L3I (pc' := 24) dX9_placeOf_23 rfl ?_
      refine z_goto (tgt := 28) dX9_placeOf_24 (by decide) ?_
      refine z_S2I (pc' := 29) rfl dX9_placeOf_28 rfl ?_
      refine z_inc3 (pc' := 32) rfl dX9_placeOf_29 rfl (by unfold zin; omega) ?_
      refine z_goto (tgt := 5) dX9_placeOf_32 (by decide) ?_
      refine zW_to (ih (k + 1) (by omega) (by omega) (by omega) ) (by first | rw [zfd_n (fun z => h20 (by rw [z]; exact hp))] | rw [← zfd_y (hu k hk0 (by omega) h20)]) rfl ?_
      rfl
end ZMOD

