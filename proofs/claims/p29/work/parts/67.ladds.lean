section ZL8
theorem gup_self {f : Int → Int} {i j : Int} : zup f i (f i) j = f j := by
  by_cases e : j = i
  · subst e; rw [zup_eq]
  · rw [zup_ne _ _ _ e]
set_option maxRecDepth 100000 in
set_option maxHeartbeats 1000000 in
theorem l_adds_lt {d : Nat} {sp : zSP} {me : zMe} {Q : zQ} {z F K a b C cF : Int} (hd : 22 ≤ d) (hm : sp.1 170 = (1, 40)) (ho : sp.1 171 = (1, 40)) (hc : sp.1 172 = (1, 16)) (F0 : 0 ≤ F) (F4 : F < 4) (hcF : me 172 F = cF) (c0 : 0 ≤ cF) (c1 : cF < 10) (hK : ∀ me', gMv me' 170 171 F cF = C → (∀ k j, 0 ≤ k → k < 8 → 0 ≤ j → j < 10 → ¬ (k = F ∧ j = cF) → gMv me' 170 171 k j = gMv me 170 171 k j) → (∀ x, x ≠ 170 → x ≠ 171 → me' x = me x) → zW mL_adds d 0 0 Q 334 [zR 1, zR 170, zR 171, zR 172, zI z, zI F, zI K, zI a, zI b, zI 0, zI C, zU, zU] [] sp me') : zW mL_adds d 0 0 Q 256 [zR 1, zR 170, zR 171, zR 172, zI z, zI F, zI K, zI a, zI b, zI 0, zI C, zU, zU] [] sp me := by
  refine z_L1R (pc' := 257) dL_adds_256 rfl ?_
  refine z_L5I (pc' := 259) dL_adds_257 rfl ?_
  refine z_iconst (pc' := 260) dL_adds_259 rfl (by unfold zin; decide) ?_
  refine z_icmp_ge (tgt := 276) (pc' := 263) dL_adds_260 (by decide) rfl (fun h260 => absurd h260 (by omega)) (fun h260 => ?_)
  refine z_bipush (pc' := 265) dL_adds_263 rfl (by decide) ?_
  refine z_L5I (pc' := 267) dL_adds_265 rfl ?_
  refine z_imul (pc' := 268) dL_adds_267 rfl (by unfold zin; omega) ?_
  refine z_L3R (pc' := 269) dL_adds_268 rfl ?_
  refine z_L5I (pc' := 271) dL_adds_269 rfl ?_
  refine z_ild (pc' := 272) dL_adds_271 rfl hc (by omega) (by omega) ?_
  refine z_iadd (pc' := 273) dL_adds_272 rfl (by unfold zin; omega) ?_
  refine z_goto (tgt := 278) dL_adds_273 (by decide) ?_
  refine z_L5I (pc' := 280) dL_adds_278 rfl ?_
  refine z_iconst (pc' := 281) dL_adds_280 rfl (by unfold zin; decide) ?_
  refine z_icmp_ge (tgt := 289) (pc' := 284) dL_adds_281 (by decide) rfl (fun h281 => absurd h281 (by omega)) (fun h281 => ?_)
  refine z_L10I (pc' := 286) dL_adds_284 rfl ?_
  refine z_goto (tgt := 293) dL_adds_286 (by decide) ?_
  refine z_ist (pc' := 294) dL_adds_293 rfl hm (by omega) (by omega) ?_
  refine z_L2R (pc' := 295) dL_adds_294 rfl ?_
  refine z_L5I (pc' := 297) dL_adds_295 rfl ?_
  refine z_iconst (pc' := 298) dL_adds_297 rfl (by unfold zin; decide) ?_
  refine z_icmp_ge (tgt := 306) (pc' := 301) dL_adds_298 (by decide) rfl (fun h298 => absurd h298 (by omega)) (fun h298 => ?_)
  refine z_bipush (pc' := 303) dL_adds_301 rfl (by decide) ?_
  refine z_goto (tgt := 318) dL_adds_303 (by decide) ?_
  refine z_L5I (pc' := 320) dL_adds_318 rfl ?_
  refine z_iconst (pc' := 321) dL_adds_320 rfl (by unfold zin; decide) ?_
  refine z_icmp_ge (tgt := 331) (pc' := 324) dL_adds_321 (by decide) rfl (fun h321 => absurd h321 (by omega)) (fun h321 => ?_)
  refine z_L2R (pc' := 325) dL_adds_324 rfl ?_
  refine z_bipush (pc' := 327) dL_adds_325 rfl (by decide) ?_
  refine z_ild (pc' := 328) dL_adds_327 rfl ho (by omega) (by omega) ?_
  refine z_goto (tgt := 333) dL_adds_328 (by decide) ?_
  refine z_ist (pc' := 334) dL_adds_333 rfl ho (by omega) (by omega) ?_
  rw [hcF]
  refine hK _ ?_ (fun k j k0 k1 j0 j1 hn => ?_) (fun x x1 x2 => by rw [zset_ne _ _ _ x2, zset_ne _ _ _ x1])
  · unfold gMv
    rw [if_pos F4, zset_ne _ _ _ (show (170 : Nat) ≠ 171 by decide), zset_eq, zup_eq]
  · unfold gMv
    by_cases e : k < 4
    · rw [if_pos e, if_pos e, zset_ne _ _ _ (show (170 : Nat) ≠ 171 by decide), zset_eq, zup_ne _ _ _ (by omega)]
    · rw [if_neg e, if_neg e, zset_eq, zset_ne _ _ _ (show (171 : Nat) ≠ 170 by decide), gup_self]
set_option maxRecDepth 100000 in
set_option maxHeartbeats 1000000 in
theorem l_adds_ge {d : Nat} {sp : zSP} {me : zMe} {Q : zQ} {z F K a b C cF : Int} (hd : 22 ≤ d) (hm : sp.1 170 = (1, 40)) (ho : sp.1 171 = (1, 40)) (hc : sp.1 172 = (1, 16)) (F0 : 4 ≤ F) (F4 : F < 8) (hcF : me 172 F = cF) (c0 : 0 ≤ cF) (c1 : cF < 10) (hK : ∀ me', gMv me' 170 171 F cF = C → (∀ k j, 0 ≤ k → k < 8 → 0 ≤ j → j < 10 → ¬ (k = F ∧ j = cF) → gMv me' 170 171 k j = gMv me 170 171 k j) → (∀ x, x ≠ 170 → x ≠ 171 → me' x = me x) → zW mL_adds d 0 0 Q 334 [zR 1, zR 170, zR 171, zR 172, zI z, zI F, zI K, zI a, zI b, zI 0, zI C, zU, zU] [] sp me') : zW mL_adds d 0 0 Q 256 [zR 1, zR 170, zR 171, zR 172, zI z, zI F, zI K, zI a, zI b, zI 0, zI C, zU, zU] [] sp me := by
  refine z_L1R (pc' := 257) dL_adds_256 rfl ?_
  refine z_L5I (pc' := 259) dL_adds_257 rfl ?_
  refine z_iconst (pc' := 260) dL_adds_259 rfl (by unfold zin; decide) ?_
  refine z_icmp_ge (tgt := 276) (pc' := 263) dL_adds_260 (by decide) rfl (fun h260 => ?_) (fun h260 => absurd h260 (by omega))
  refine z_bipush (pc' := 278) dL_adds_276 rfl (by decide) ?_
  refine z_L5I (pc' := 280) dL_adds_278 rfl ?_
  refine z_iconst (pc' := 281) dL_adds_280 rfl (by unfold zin; decide) ?_
  refine z_icmp_ge (tgt := 289) (pc' := 284) dL_adds_281 (by decide) rfl (fun h281 => ?_) (fun h281 => absurd h281 (by omega))
  refine z_L1R (pc' := 290) dL_adds_289 rfl ?_
  refine z_bipush (pc' := 292) dL_adds_290 rfl (by decide) ?_
  refine z_ild (pc' := 293) dL_adds_292 rfl hm (by omega) (by omega) ?_
  refine z_ist (pc' := 294) dL_adds_293 rfl hm (by omega) (by omega) ?_
  refine z_L2R (pc' := 295) dL_adds_294 rfl ?_
  refine z_L5I (pc' := 297) dL_adds_295 rfl ?_
  refine z_iconst (pc' := 298) dL_adds_297 rfl (by unfold zin; decide) ?_
  refine z_icmp_ge (tgt := 306) (pc' := 301) dL_adds_298 (by decide) rfl (fun h298 => ?_) (fun h298 => absurd h298 (by omega))
  refine z_bipush (pc' := 308) dL_adds_306 rfl (by decide) ?_
  refine z_L5I (pc' := 310) dL_adds_308 rfl ?_
  refine z_iconst (pc' := 311) dL_adds_310 rfl (by unfold zin; decide) ?_
  refine z_isub (pc' := 312) dL_adds_311 rfl (by unfold zin; omega) ?_
  refine z_imul (pc' := 313) dL_adds_312 rfl (by unfold zin; omega) ?_
  refine z_L3R (pc' := 314) dL_adds_313 rfl ?_
  refine z_L5I (pc' := 316) dL_adds_314 rfl ?_
  refine z_ild (pc' := 317) dL_adds_316 rfl hc (by omega) (by omega) ?_
  rw [zset_ne _ _ _ (show (172 : Nat) ≠ 170 by decide), hcF]
  refine z_iadd (pc' := 318) dL_adds_317 rfl (by unfold zin; omega) ?_
  refine z_L5I (pc' := 320) dL_adds_318 rfl ?_
  refine z_iconst (pc' := 321) dL_adds_320 rfl (by unfold zin; decide) ?_
  refine z_icmp_ge (tgt := 331) (pc' := 324) dL_adds_321 (by decide) rfl (fun h321 => ?_) (fun h321 => absurd h321 (by omega))
  refine z_L10I (pc' := 333) dL_adds_331 rfl ?_
  refine z_ist (pc' := 334) dL_adds_333 rfl ho (by omega) (by omega) ?_
  refine hK _ ?_ (fun k j k0 k1 j0 j1 hn => ?_) (fun x x1 x2 => by rw [zset_ne _ _ _ x2, zset_ne _ _ _ x1])
  · unfold gMv
    rw [if_neg (by omega), zset_eq, zup_eq]
  · unfold gMv
    by_cases e : k < 4
    · rw [if_pos e, if_pos e, zset_ne _ _ _ (show (170 : Nat) ≠ 171 by decide), zset_eq, gup_self]
    · rw [if_neg e, if_neg e, zset_eq, zset_ne _ _ _ (show (171 : Nat) ≠ 170 by decide), zup_ne _ _ _ (by omega)]
set_option maxRecDepth 100000 in
set_option maxHeartbeats 8000000 in
theorem l_adds9 {d : Nat} {sp : zSP} {me : zMe} {Q : zQ} {A : zAb} {B z : Int} (hd : 22 ≤ d) (hW : gLW sp) (hI : zIA B A) (hR : gRR me A) (h6 : qS A 6 = 0) (h7 : qS A 7 = 0) (hQ : ∀ me' A', gRR me' A' → zIA (B + 100000) A' → qS A' 6 = 0 → qS A' 7 = 0 → Q (some (zI 1)) sp me') : zCall mL_adds d 0 0 [zR 1, zR 170, zR 171, zR 172, zI z] sp me Q := by
  refine z_met kL_adds (by simp) (by simp) ?_
  show zW mL_adds d 0 0 Q 0 [zR 1, zR 170, zR 171, zR 172, zI z, zU, zU, zU, zU, zU, zU, zU, zU] [] sp me
  obtain ⟨hx, hsz, hp, hf, hh, hm, ho, hc, ht, he, hg⟩ := hW
  have hv : zfv (qS A) (qC A) := hI.1.2.2.2.1
  have hlm : zlim (qS A) (qC A) := hI.1.2.2.2.2.1
  have hIm : zIA (B + 100000) A := zIA_mono hI (by omega)
  refine z_L4I (pc' := 2) dL_adds_0 rfl ?_
  refine z_bipush (pc' := 4) dL_adds_2 rfl (by decide) ?_
  refine z_S2v (pc' := 7) kL_low lL_113 dL_adds_4 rfl (by omega) (Nat.le_of_ble_eq_true rfl) ?_
  refine l_low (by decide) (zKv_i ?_)
  refine z_S5I (pc' := 9) rfl dL_adds_7 rfl ?_
  refine z_L4I (pc' := 11) dL_adds_9 rfl ?_
  refine z_iconst (pc' := 12) dL_adds_11 rfl (by unfold zin; decide) ?_
  refine z_ishra (pc' := 13) dL_adds_12 rfl ?_
  refine z_bipush (pc' := 15) dL_adds_13 rfl (by decide) ?_
  refine z_S2v (pc' := 18) kL_low lL_113 dL_adds_15 rfl (by omega) (Nat.le_of_ble_eq_true rfl) ?_
  refine l_low (by decide) (zKv_i ?_)
  have bk0 := gLow_bd (zsar z 3) (show (0 : Int) < 6 by decide)
  refine z_iconst (pc' := 19) dL_adds_18 rfl (by unfold zin; decide) ?_
  refine z_irem (pc' := 20) dL_adds_19 rfl (by omega) (by omega) ?_
  refine z_S6I (pc' := 22) rfl dL_adds_20 rfl ?_
  refine z_L4I (pc' := 24) dL_adds_22 rfl ?_
  refine z_bipush (pc' := 26) dL_adds_24 rfl (by decide) ?_
  refine z_ishra (pc' := 27) dL_adds_26 rfl ?_
  refine z_bipush (pc' := 29) dL_adds_27 rfl (by decide) ?_
  refine z_S2v (pc' := 32) kL_low lL_113 dL_adds_29 rfl (by omega) (Nat.le_of_ble_eq_true rfl) ?_
  refine l_low (by decide) (zKv_i ?_)
  refine z_S7I (pc' := 34) rfl dL_adds_32 rfl ?_
  refine z_L4I (pc' := 36) dL_adds_34 rfl ?_
  refine z_bipush (pc' := 38) dL_adds_36 rfl (by decide) ?_
  refine z_ishra (pc' := 39) dL_adds_38 rfl ?_
  refine z_bipush (pc' := 41) dL_adds_39 rfl (by decide) ?_
  refine z_S2v (pc' := 44) kL_low lL_113 dL_adds_41 rfl (by omega) (Nat.le_of_ble_eq_true rfl) ?_
  refine l_low (by decide) (zKv_i ?_)
  refine z_S8I (pc' := 46) rfl dL_adds_44 rfl ?_
  have bF := gLow_bd z (show (0 : Int) < 6 by decide)
  have bK : 0 ≤ gLow (zsar z 3) 6 % 5 ∧ gLow (zsar z 3) 6 % 5 < 5 := by omega
  have ba := gLow_bd (zsar z 6) (show (0 : Int) < 10 by decide)
  have bb := gLow_bd (zsar z 10) (show (0 : Int) < 10 by decide)
  revert bF bK ba bb
  generalize gLow z 6 = F
  generalize gLow (zsar z 3) 6 % 5 = K
  generalize gLow (zsar z 6) 10 = a0
  generalize gLow (zsar z 10) 10 = b0
  intro bF bK ba bb
  have key180 : ∀ a b bad : Int, 0 ≤ a → a < 10 → 0 ≤ b → b < 10 → ((bad = 1 ∧ ¬ zmv F K a b) ∨ (bad = 0 ∧ zmv F K a b)) → zW mL_adds d 0 0 Q 180 [zR 1, zR 170, zR 171, zR 172, zI z, zI F, zI K, zI a, zI b, zI bad, zU, zU, zU] [] sp me := fun a b bad a0' a1' b0' b1' hbad => by
    have hvF := hv F bF.1 (by omega)
    have hcF := (hR.2.2.2.1 F bF.1 (by omega)).1
    refine z_L9I (pc' := 182) dL_adds_180 rfl ?_
    refine z_if_eq (tgt := 208) (pc' := 185) dL_adds_182 (by decide) rfl (fun h182 => ?_) (fun h182 => ?_)
    · have hmv : zmv F K a b := by rcases hbad with h | h; omega; exact h.2
      obtain rfl : bad = 0 := by omega
      refine z_L3R (pc' := 209) dL_adds_208 rfl ?_
      refine z_L5I (pc' := 211) dL_adds_209 rfl ?_
      refine z_ild (pc' := 212) dL_adds_211 rfl hc (by omega) (by omega) ?_
      refine z_bipush (pc' := 214) dL_adds_212 rfl (by decide) ?_
      refine z_icmp_ne (tgt := 240) (pc' := 217) dL_adds_214 (by decide) rfl (fun h214 => ?_) (fun h214 => ?_)
      · refine z_bipush (pc' := 242) dL_adds_240 rfl (by decide) ?_
        refine z_L6I (pc' := 244) dL_adds_242 rfl ?_
        refine z_imul (pc' := 245) dL_adds_244 rfl (by unfold zin; omega) ?_
        refine z_bipush (pc' := 247) dL_adds_245 rfl (by decide) ?_
        refine z_L7I (pc' := 249) dL_adds_247 rfl ?_
        refine z_imul (pc' := 250) dL_adds_249 rfl (by unfold zin; omega) ?_
        refine z_iadd (pc' := 251) dL_adds_250 rfl (by unfold zin; omega) ?_
        refine z_L8I (pc' := 253) dL_adds_251 rfl ?_
        refine z_iadd (pc' := 254) dL_adds_253 rfl (by unfold zin; omega) ?_
        refine z_S10I (pc' := 256) rfl dL_adds_254 rfl ?_
        have hc10 : qS A F < 10 := by omega
        have eC : 100 * K + 10 * a + b = K * 100 + a * 10 + b := by omega
        have key334 : ∀ me', gMv me' 170 171 F (qS A F) = 100 * K + 10 * a + b → (∀ k j, 0 ≤ k → k < 8 → 0 ≤ j → j < 10 → ¬ (k = F ∧ j = qS A F) → gMv me' 170 171 k j = gMv me 170 171 k j) → (∀ x, x ≠ 170 → x ≠ 171 → me' x = me x) → zW mL_adds d 0 0 Q 334 [zR 1, zR 170, zR 171, zR 172, zI z, zI F, zI K, zI a, zI b, zI 0, zI (100 * K + 10 * a + b), zU, zU] [] sp me' := fun me3 hG1 hG2 hF3 => by
          have hv3 := zfv_add hv bF.1 (show F < 8 by omega) hc10 hmv
          have hR3 : zRX me3 1 A := zRX_congr (fun a h1 h2 => hF3 a (by omega) (by omega)) hR.1
          have hc3 : me3 172 = me 172 := hF3 172 (by decide) (by decide)
          refine z_L3R (pc' := 335) dL_adds_334 rfl ?_
          refine z_L5I (pc' := 337) dL_adds_335 rfl ?_
          refine z_dup2 (pc' := 338) dL_adds_337 rfl ?_
          refine z_ild (pc' := 339) dL_adds_338 rfl hc (by omega) (by omega) ?_
          rw [hc3, hcF]
          refine z_iconst (pc' := 340) dL_adds_339 rfl (by unfold zin; decide) ?_
          refine z_iadd (pc' := 341) dL_adds_340 rfl (by unfold zin; omega) ?_
          refine z_ist (pc' := 342) dL_adds_341 rfl hc (by omega) (by omega) ?_
          refine z_L1R (pc' := 343) dL_adds_342 rfl ?_
          refine z_L2R (pc' := 344) dL_adds_343 rfl ?_
          refine z_L3R (pc' := 345) dL_adds_344 rfl ?_
          refine z_S30 (pc' := 348) kL_count lL_120 dL_adds_345 rfl (by omega) (Nat.le_of_ble_eq_true rfl) ?_
          refine l_count (by omega) hm ho hc (by decide) (by decide) hv3 (fun k k0 k1 => ?_) (fun me4 hA4 hB4 hF4 => zK0_i ?_)
          · rw [zset_eq]
            by_cases e : k = F
            · subst e
              rw [zup_eq, zup_eq]
              refine ⟨rfl, fun j j0 j1 => ?_⟩
              rw [gMv_cg (me := me3) (zset_ne _ _ _ (by decide)) (zset_ne _ _ _ (by decide))]
              by_cases e2 : j = qS A k
              · subst e2
                rw [zup_eq, hG1, eC]
              · rw [zup_ne _ _ _ (by omega), hG2 k j k0 k1 j0 (by omega) (fun z => e2 z.2)]
                exact (hR.2.2.2.1 k k0 k1).2 j j0 (by omega)
            · rw [zup_ne _ _ _ e, zup_ne _ _ _ e, hc3]
              have hk := hR.2.2.2.1 k k0 k1
              have hvk := hv k k0 k1
              refine ⟨hk.1, fun j j0 j1 => ?_⟩
              rw [gMv_cg (me := me3) (zset_ne _ _ _ (by decide)) (zset_ne _ _ _ (by decide)), hG2 k j k0 k1 j0 (by omega) (fun z => e z.1), zup_ne _ _ _ (by omega)]
              exact hk.2 j j0 j1
          rw [zset_eq] at hA4
          refine z_iconst (pc' := 349) dL_adds_348 rfl (by unfold zin; decide) ?_
          refine z_S11I (pc' := 351) rfl dL_adds_349 rfl ?_
          refine z_iconst (pc' := 352) dL_adds_351 rfl (by unfold zin; decide) ?_
          refine z_S12I (pc' := 354) rfl dL_adds_352 rfl ?_
          suffices H : ∀ (n : Nat) (k v : Int), 0 ≤ k → k ≤ 8 → 8 - k < n → ((v = 0 ∧ ∀ k', 0 ≤ k' → k' < k → (zsteps (zup (qS A) F (qS A F + 1)) (zup (qC A) (F * 10 + qS A F) (K * 100 + a * 10 + b)) k').length ≤ 120) ∨ (v = 1 ∧ ¬ zlim (zup (qS A) F (qS A F + 1)) (zup (qC A) (F * 10 + qS A F) (K * 100 + a * 10 + b)))) → zW mL_adds d 0 0 Q 354 [zR 1, zR 170, zR 171, zR 172, zI z, zI F, zI K, zI a, zI b, zI 0, zI (100 * K + 10 * a + b), zI v, zI k] [] sp me4 by
            exact H 9 0 0 (by omega) (by omega) (by omega) (Or.inl ⟨rfl, fun k' k0 k1 => by omega⟩)
          intro n
          induction n with
          | zero => intro k v h0 h1 h2; omega
          | succ n ih =>
          intro k v hk0 hk1 hk2 hv9
          refine z_L12I (pc' := 356) dL_adds_354 rfl ?_
          refine z_bipush (pc' := 358) dL_adds_356 rfl (by decide) ?_
          refine z_icmp_ge (tgt := 391) (pc' := 361) dL_adds_358 (by decide) rfl (fun h358 => ?_) (fun h358 => ?_)
          · refine z_L11I (pc' := 393) dL_adds_391 rfl ?_
            refine z_if_eq (tgt := 433) (pc' := 396) dL_adds_393 (by decide) rfl (fun h393 => ?_) (fun h393 => ?_)
            · have hyl : zlim (zup (qS A) F (qS A F + 1)) (zup (qC A) (F * 10 + qS A F) (K * 100 + a * 10 + b)) := by
                rcases hv9 with ⟨h1, h2⟩ | ⟨h1, h2⟩
                · intro k' k0' k1'; exact h2 k' k0' (by omega)
                · omega
              have eA4 : zoAdd A F K a b = (qS A F + 1, zdo A (qst (qW A) (qF A) (qH A) (qP A) (zup (qS A) F (qS A F + 1)) (zup (qC A) (F * 10 + qS A F) (K * 100 + a * 10 + b)) (qT0 A) (qT1 A) (qT2 A))) := by
                unfold zoAdd
                rw [zif_neg (by omega), zif_neg (fun z => z hmv), zif_neg (fun z => by rcases z with z | z; omega; exact z hyl)]
              have hfr4 : ∀ x, x ≠ 170 → x ≠ 171 → x ≠ 172 → me4 x = me x := fun x x1 x2 x3 => by rw [hF4 x x3, zset_ne _ _ _ x3]; exact hF3 x x1 x2
              have hX4 : zRX me4 1 A := zRX_congr (fun a h1 h2 => hfr4 a (by omega) (by omega) (by omega)) hR.1
              have hIA4 := zIA_add (k := F) (kd := K) (a := a) (b := b) hI
              rw [eA4] at hIA4
              refine z_L0R (pc' := 434) dL_adds_433 rfl ?_
              refine z_L5I (pc' := 436) dL_adds_434 rfl ?_
              refine z_L6I (pc' := 438) dL_adds_436 rfl ?_
              refine z_L7I (pc' := 440) dL_adds_438 rfl ?_
              refine z_L8I (pc' := 442) dL_adds_440 rfl ?_
              refine z_V4v (pc' := 445) (ci := 8) kX8_add lL_116 dL_adds_442 rfl (by omega) (Nat.le_of_ble_eq_true rfl) (by decide) rfl hx.s ?_
              refine x_add (by omega) hx hX4 hI (fun me7 hX7 hF7 => zKv_i ?_)
              rw [eA4] at hX7
              rw [show (zoAdd A F K a b).1 = qS A F + 1 by rw [eA4]]
              have h7c : me7 172 F = qS A F + 1 := by rw [hF7 172 (Or.inr (by decide)), hA4 F bF.1 (by omega), zup_eq]
              have hcd4 : ∀ k, 0 ≤ k → k < 8 → me4 172 k = zup (qS A) F (qS A F + 1) k ∧ ∀ j, 0 ≤ j → j < zup (qS A) F (qS A F + 1) k → gMv me4 170 171 k j = zup (qC A) (F * 10 + qS A F) (K * 100 + a * 10 + b) (k * 10 + j) := fun k k0 k1 => by
                have hk := hR.2.2.2.1 k k0 k1
                have hvk := hv k k0 k1
                rw [hA4 k k0 k1]
                by_cases e : k = F
                · subst e
                  rw [zup_eq, zup_eq]
                  refine ⟨rfl, fun j j0 j1 => ?_⟩
                  rw [gMv_cg (me := me3) (by rw [hF4 170 (by decide), zset_ne _ _ _ (by decide)]) (by rw [hF4 171 (by decide), zset_ne _ _ _ (by decide)])]
                  by_cases e2 : j = qS A k
                  · subst e2
                    rw [zup_eq, hG1, eC]
                  · rw [zup_ne _ _ _ (by omega), hG2 k j k0 k1 j0 (by omega) (fun z => e2 z.2)]
                    exact hk.2 j j0 (by omega)
                · rw [zup_ne _ _ _ e, zup_ne _ _ _ e, hc3]
                  refine ⟨hk.1, fun j j0 j1 => ?_⟩
                  rw [gMv_cg (me := me3) (by rw [hF4 170 (by decide), zset_ne _ _ _ (by decide)]) (by rw [hF4 171 (by decide), zset_ne _ _ _ (by decide)]), hG2 k j k0 k1 j0 (by omega) (fun z => e z.1), zup_ne _ _ _ (by omega)]
                  exact hk.2 j j0 j1
              refine z_L3R (pc' := 446) dL_adds_445 rfl ?_
              refine z_L5I (pc' := 448) dL_adds_446 rfl ?_
              refine z_ild (pc' := 449) dL_adds_448 rfl hc (by omega) (by omega) ?_
              refine z_icmp_ne (tgt := 456) (pc' := 452) dL_adds_449 (by decide) rfl (fun h449 => absurd h449 (by omega)) (fun h449 => ?_)
              refine z_iconst (pc' := 453) dL_adds_452 rfl (by unfold zin; decide) ?_
              refine z_goto (tgt := 457) dL_adds_453 (by decide) ?_
              refine z_zreturn rfl rfl dL_adds_457 (by omega) ?_
              obtain ⟨q1, q2, q3, q4, q5, q6, q7⟩ := hR.2
              have o7 : ∀ x, 167 ≤ x → me7 x = me4 x := fun x hx => hF7 x (Or.inr (by omega))
              refine hQ me7 _ ⟨hX7, q1.fr ?_ ?_, ?_, ?_, ?_, ?_, ?_, ?_⟩ hIA4 ?_ ?_
              · rw [o7 _ (by decide), hfr4 _ (by decide) (by decide) (by decide)]
              · rw [o7 _ (by decide), hfr4 _ (by decide) (by decide) (by decide)]
              · intro i i0 i1; rw [o7 _ (by decide), hfr4 _ (by decide) (by decide) (by decide)]; exact q2 i i0 i1
              · exact gFg.cg (me := me4) hcd4 (o7 _ (by decide)) (o7 _ (by decide)) (fun k _ _ => by rw [o7 _ (by decide)])
              · exact gCt.cg (me := me4) hB4 (o7 _ (by decide))
              · rw [o7 _ (by decide), hfr4 _ (by decide) (by decide) (by decide)]; exact q5
              · rw [o7 _ (by decide), hfr4 _ (by decide) (by decide) (by decide)]; exact q6
              · rw [o7 _ (by decide), hfr4 _ (by decide) (by decide) (by decide)]; exact q7
              · show zup (qS A) F (qS A F + 1) 6 = 0
                rw [zup_ne _ _ _ (by omega)]; exact h6
              · show zup (qS A) F (qS A F + 1) 7 = 0
                rw [zup_ne _ _ _ (by omega)]; exact h7
            · have hnl : ¬ zlim (zup (qS A) F (qS A F + 1)) (zup (qC A) (F * 10 + qS A F) (K * 100 + a * 10 + b)) := by
                rcases hv9 with ⟨h1, h2⟩ | ⟨h1, h2⟩
                · omega
                · exact h2
              have eA3 : zoAdd A F K a b = (-3, A) := by
                unfold zoAdd
                rw [zif_neg (by omega), zif_neg (fun z => z hmv), zif_pos (Or.inr hnl)]
              refine z_L3R (pc' := 397) dL_adds_396 rfl ?_
              refine z_L5I (pc' := 399) dL_adds_397 rfl ?_
              refine z_dup2 (pc' := 400) dL_adds_399 rfl ?_
              refine z_ild (pc' := 401) dL_adds_400 rfl hc (by omega) (by omega) ?_
              rw [hA4 F bF.1 (by omega), zup_eq]
              refine z_iconst (pc' := 402) dL_adds_401 rfl (by unfold zin; decide) ?_
              refine z_isub (pc' := 403) dL_adds_402 rfl (by unfold zin; omega) ?_
              refine z_ist (pc' := 404) dL_adds_403 rfl hc (by omega) (by omega) ?_
              refine z_L1R (pc' := 405) dL_adds_404 rfl ?_
              refine z_L2R (pc' := 406) dL_adds_405 rfl ?_
              refine z_L3R (pc' := 407) dL_adds_406 rfl ?_
              refine z_S30 (pc' := 410) kL_count lL_120 dL_adds_407 rfl (by omega) (Nat.le_of_ble_eq_true rfl) ?_
              refine l_count (sz := qS A) (cd := qC A) (by omega) hm ho hc (by decide) (by decide) hv (fun k k0 k1 => ?_) (fun me5 hA5 hB5 hF5 => zK0_i ?_)
              · rw [zset_eq]
                have hk := hR.2.2.2.1 k k0 k1
                have hvk := hv k k0 k1
                constructor
                · by_cases e : k = F
                  · subst e; rw [zup_eq]; omega
                  · rw [zup_ne _ _ _ e, hA4 k k0 k1, zup_ne _ _ _ e, hc3]; exact hk.1
                · intro j j0 j1
                  rw [gMv_cg (me := me4) (zset_ne _ _ _ (by decide)) (zset_ne _ _ _ (by decide)), gMv_cg (me := me3) (by rw [hF4 170 (by decide), zset_ne _ _ _ (by decide)]) (by rw [hF4 171 (by decide), zset_ne _ _ _ (by decide)])]
                  rw [hG2 k j k0 k1 j0 (by omega) (fun z => by rw [z.1, z.2] at j1; omega)]
                  exact hk.2 j j0 j1
              rw [zset_eq] at hA5
              have hfr5 : ∀ x, x ≠ 170 → x ≠ 171 → x ≠ 172 → me5 x = me x := fun x x1 x2 x3 => by rw [hF5 x x3, zset_ne _ _ _ x3, hF4 x x3, zset_ne _ _ _ x3]; exact hF3 x x1 x2
              have hX5 : zRX me5 1 A := zRX_congr (fun a h1 h2 => hfr5 a (by omega) (by omega) (by omega)) hR.1
              have hcd5 : ∀ k, 0 ≤ k → k < 8 → me5 172 k = qS A k ∧ ∀ j, 0 ≤ j → j < qS A k → gMv me5 170 171 k j = qC A (k * 10 + j) := fun k k0 k1 => by
                have hk := hR.2.2.2.1 k k0 k1
                have hvk := hv k k0 k1
                constructor
                · rw [hA5 k k0 k1]
                  by_cases e : k = F
                  · subst e; rw [zup_eq]; omega
                  · rw [zup_ne _ _ _ e, hA4 k k0 k1, zup_ne _ _ _ e, hc3]; exact hk.1
                · intro j j0 j1
                  rw [gMv_cg (me := me3) (by rw [hF5 170 (by decide), zset_ne _ _ _ (by decide), hF4 170 (by decide), zset_ne _ _ _ (by decide)]) (by rw [hF5 171 (by decide), zset_ne _ _ _ (by decide), hF4 171 (by decide), zset_ne _ _ _ (by decide)])]
                  rw [hG2 k j k0 k1 j0 (by omega) (fun z => by rw [z.1, z.2] at j1; omega)]
                  exact hk.2 j j0 j1
              have hR5 : gRR me5 A := by
                obtain ⟨q1, q2, q3, q4, q5, q6, q7⟩ := hR.2
                refine ⟨hX5, q1.fr (hfr5 _ (by decide) (by decide) (by decide)) (hfr5 _ (by decide) (by decide) (by decide)), ?_, hcd5, hB5, ?_, ?_, ?_⟩
                · intro i i0 i1; rw [hfr5 169 (by decide) (by decide) (by decide)]; exact q2 i i0 i1
                · rw [hfr5 173 (by decide) (by decide) (by decide)]; exact q5
                · rw [hfr5 173 (by decide) (by decide) (by decide)]; exact q6
                · rw [hfr5 173 (by decide) (by decide) (by decide)]; exact q7
              refine z_L0R (pc' := 411) dL_adds_410 rfl ?_
              refine z_L5I (pc' := 413) dL_adds_411 rfl ?_
              refine z_L6I (pc' := 415) dL_adds_413 rfl ?_
              refine z_L7I (pc' := 417) dL_adds_415 rfl ?_
              refine z_L8I (pc' := 419) dL_adds_417 rfl ?_
              refine z_V4v (pc' := 422) (ci := 8) kX8_add lL_116 dL_adds_419 rfl (by omega) (Nat.le_of_ble_eq_true rfl) (by decide) rfl hx.s ?_
              refine x_add (by omega) hx hR5.1 hI (fun me6 hX6 hF6 => zKv_i ?_)
              rw [eA3] at hX6
              rw [show (zoAdd A F K a b).1 = -3 by rw [eA3]]
              refine z_bipush (pc' := 424) dL_adds_422 rfl (by decide) ?_
              refine z_icmp_ne (tgt := 431) (pc' := 427) dL_adds_424 (by decide) rfl (fun h424 => absurd h424 (by omega)) (fun h424 => ?_)
              refine z_iconst (pc' := 428) dL_adds_427 rfl (by unfold zin; decide) ?_
              refine z_goto (tgt := 432) dL_adds_428 (by decide) ?_
              refine z_zreturn rfl rfl dL_adds_432 (by omega) ?_
              exact hQ me6 A (hR5.x hX6 hF6) hIm h6 h7
          · refine z_L11I (pc' := 363) dL_adds_361 rfl ?_
            refine z_if_ne (tgt := 378) (pc' := 366) dL_adds_363 (by decide) rfl (fun h363 => ?_) (fun h363 => ?_)
            · refine z_iconst (pc' := 379) dL_adds_378 rfl (by unfold zin; decide) ?_
              refine z_goto (tgt := 383) dL_adds_379 (by decide) ?_
              refine z_S11I (pc' := 385) rfl dL_adds_383 rfl ?_
              refine z_inc12 (pc' := 388) rfl dL_adds_385 rfl (by unfold zin; omega) ?_
              refine z_goto (tgt := 354) dL_adds_388 (by decide) ?_
              refine ih (k + 1) _ (by omega) (by omega) (by omega) ?_
              rcases hv9 with ⟨h1, h2⟩ | ⟨h1, h2⟩
              · first
                | (exfalso; omega)
                | exact Or.inl ⟨rfl, zall_up h2 (by omega)⟩
                | exact Or.inr ⟨rfl, fun z9 => by have := z9 k hk0 (by omega); omega⟩
              · first
                | exact Or.inr ⟨rfl, h2⟩
                | (exfalso; omega)
            · have hck := hB4 k hk0 (by omega)
              refine z_L3R (pc' := 367) dL_adds_366 rfl ?_
              refine z_bipush (pc' := 369) dL_adds_367 rfl (by decide) ?_
              refine z_L12I (pc' := 371) dL_adds_369 rfl ?_
              refine z_iadd (pc' := 372) dL_adds_371 rfl (by unfold zin; omega) ?_
              refine z_ild (pc' := 373) dL_adds_372 rfl hc (by omega) (by omega) ?_
              refine z_bipush (pc' := 375) dL_adds_373 rfl (by decide) ?_
              refine z_icmp_le (tgt := 382) (pc' := 378) dL_adds_375 (by decide) rfl (fun h375 => ?_) (fun h375 => ?_)
              · refine z_iconst (pc' := 383) dL_adds_382 rfl (by unfold zin; decide) ?_
                refine z_S11I (pc' := 385) rfl dL_adds_383 rfl ?_
                refine z_inc12 (pc' := 388) rfl dL_adds_385 rfl (by unfold zin; omega) ?_
                refine z_goto (tgt := 354) dL_adds_388 (by decide) ?_
                refine ih (k + 1) _ (by omega) (by omega) (by omega) ?_
                rcases hv9 with ⟨h1, h2⟩ | ⟨h1, h2⟩
                · first
                  | (exfalso; omega)
                  | exact Or.inl ⟨rfl, zall_up h2 (by omega)⟩
                  | exact Or.inr ⟨rfl, fun z9 => by have := z9 k hk0 (by omega); omega⟩
                · first
                  | exact Or.inr ⟨rfl, h2⟩
                  | (exfalso; omega)
              · refine z_iconst (pc' := 379) dL_adds_378 rfl (by unfold zin; decide) ?_
                refine z_goto (tgt := 383) dL_adds_379 (by decide) ?_
                refine z_S11I (pc' := 385) rfl dL_adds_383 rfl ?_
                refine z_inc12 (pc' := 388) rfl dL_adds_385 rfl (by unfold zin; omega) ?_
                refine z_goto (tgt := 354) dL_adds_388 (by decide) ?_
                refine ih (k + 1) _ (by omega) (by omega) (by omega) ?_
                rcases hv9 with ⟨h1, h2⟩ | ⟨h1, h2⟩
                · first
                  | (exfalso; omega)
                  | exact Or.inl ⟨rfl, zall_up h2 (by omega)⟩
                  | exact Or.inr ⟨rfl, fun z9 => by have := z9 k hk0 (by omega); omega⟩
                · first
                  | exact Or.inr ⟨rfl, h2⟩
                  | (exfalso; omega)
        by_cases hF4 : F < 4
        · exact l_adds_lt hd hm ho hc bF.1 hF4 hcF (by omega) hc10 key334
        · exact l_adds_ge hd hm ho hc (by omega) (by omega) hcF (by omega) hc10 key334
      · have eA2 : zoAdd A F K a b = (-3, A) := by
          unfold zoAdd
          rw [zif_neg (by omega), zif_neg (fun z => z hmv), zif_pos (Or.inl (by omega))]
        refine z_L0R (pc' := 218) dL_adds_217 rfl ?_
        refine z_L5I (pc' := 220) dL_adds_218 rfl ?_
        refine z_L6I (pc' := 222) dL_adds_220 rfl ?_
        refine z_L7I (pc' := 224) dL_adds_222 rfl ?_
        refine z_L8I (pc' := 226) dL_adds_224 rfl ?_
        refine z_V4v (pc' := 229) (ci := 8) kX8_add lL_116 dL_adds_226 rfl (by omega) (Nat.le_of_ble_eq_true rfl) (by decide) rfl hx.s ?_
        refine x_add (by omega) hx hR.1 hI (fun me2 hX2 hF2 => zKv_i ?_)
        rw [eA2] at hX2
        rw [show (zoAdd A F K a b).1 = -3 by rw [eA2]]
        refine z_bipush (pc' := 231) dL_adds_229 rfl (by decide) ?_
        refine z_icmp_ne (tgt := 238) (pc' := 234) dL_adds_231 (by decide) rfl (fun h231 => absurd h231 (by omega)) (fun h231 => ?_)
        refine z_iconst (pc' := 235) dL_adds_234 rfl (by unfold zin; decide) ?_
        refine z_goto (tgt := 239) dL_adds_235 (by decide) ?_
        refine z_zreturn rfl rfl dL_adds_239 (by omega) ?_
        exact hQ me2 A (hR.x hX2 hF2) hIm h6 h7
    · have eA1 : zoAdd A F K a b = (-2, A) := by
        unfold zoAdd
        rw [zif_neg (by omega), zif_pos (by rcases hbad with h | h; exact h.2; omega)]
      refine z_L0R (pc' := 186) dL_adds_185 rfl ?_
      refine z_L5I (pc' := 188) dL_adds_186 rfl ?_
      refine z_L6I (pc' := 190) dL_adds_188 rfl ?_
      refine z_L7I (pc' := 192) dL_adds_190 rfl ?_
      refine z_L8I (pc' := 194) dL_adds_192 rfl ?_
      refine z_V4v (pc' := 197) (ci := 8) kX8_add lL_116 dL_adds_194 rfl (by omega) (Nat.le_of_ble_eq_true rfl) (by decide) rfl hx.s ?_
      refine x_add (by omega) hx hR.1 hI (fun me1 hX1 hF1 => zKv_i ?_)
      rw [eA1] at hX1
      rw [show (zoAdd A F K a b).1 = -2 by rw [eA1]]
      refine z_bipush (pc' := 199) dL_adds_197 rfl (by decide) ?_
      refine z_icmp_ne (tgt := 206) (pc' := 202) dL_adds_199 (by decide) rfl (fun h199 => absurd h199 (by omega)) (fun h199 => ?_)
      refine z_iconst (pc' := 203) dL_adds_202 rfl (by unfold zin; decide) ?_
      refine z_goto (tgt := 207) dL_adds_203 (by decide) ?_
      refine z_zreturn rfl rfl dL_adds_207 (by omega) ?_
      exact hQ me1 A (hR.x hX1 hF1) hIm h6 h7
  have key102 : ∀ a b : Int, 0 ≤ a → a < 10 → 0 ≤ b → b < 10 → (K = 1 → b < 4) → (K = 2 ∨ K = 4 → b = 0) → zW mL_adds d 0 0 Q 102 [zR 1, zR 170, zR 171, zR 172, zI z, zI F, zI K, zI a, zI b, zU, zU, zU, zU] [] sp me := fun a b a0' a1' b0' b1' hk1 hk2 => by
    refine z_L6I (pc' := 104) dL_adds_102 rfl ?_
    refine z_if_eq (tgt := 113) (pc' := 107) dL_adds_104 (by decide) rfl (fun h104 => ?_) (fun h104 => ?_)
    · refine z_L7I (pc' := 115) dL_adds_113 rfl ?_
      refine z_L8I (pc' := 117) dL_adds_115 rfl ?_
      refine z_icmp_lt (tgt := 124) (pc' := 120) dL_adds_117 (by decide) rfl (fun h117 => ?_) (fun h117 => ?_)
      · refine z_iconst (pc' := 125) dL_adds_124 rfl (by unfold zin; decide) ?_
        refine z_goto (tgt := 178) dL_adds_125 (by decide) ?_
        refine z_S9I (pc' := 180) rfl dL_adds_178 rfl ?_
        refine key180 _ _ _ a0' a1' b0' b1' ?_
        first
        | exact Or.inl ⟨rfl, by unfold zmv; omega⟩
        | exact Or.inr ⟨rfl, by unfold zmv; omega⟩
      · refine z_iconst (pc' := 121) dL_adds_120 rfl (by unfold zin; decide) ?_
        refine z_goto (tgt := 178) dL_adds_121 (by decide) ?_
        refine z_S9I (pc' := 180) rfl dL_adds_178 rfl ?_
        refine key180 _ _ _ a0' a1' b0' b1' ?_
        first
        | exact Or.inl ⟨rfl, by unfold zmv; omega⟩
        | exact Or.inr ⟨rfl, by unfold zmv; omega⟩
    · refine z_L6I (pc' := 109) dL_adds_107 rfl ?_
      refine z_iconst (pc' := 110) dL_adds_109 rfl (by unfold zin; decide) ?_
      refine z_icmp_ne (tgt := 128) (pc' := 113) dL_adds_110 (by decide) rfl (fun h110 => ?_) (fun h110 => ?_)
      · refine z_L6I (pc' := 130) dL_adds_128 rfl ?_
        refine z_iconst (pc' := 131) dL_adds_130 rfl (by unfold zin; decide) ?_
        refine z_icmp_ne (tgt := 147) (pc' := 134) dL_adds_131 (by decide) rfl (fun h131 => ?_) (fun h131 => ?_)
        · refine z_L6I (pc' := 149) dL_adds_147 rfl ?_
          refine z_iconst (pc' := 150) dL_adds_149 rfl (by unfold zin; decide) ?_
          refine z_icmp_ne (tgt := 166) (pc' := 153) dL_adds_150 (by decide) rfl (fun h150 => ?_) (fun h150 => ?_)
          · refine z_L7I (pc' := 168) dL_adds_166 rfl ?_
            refine z_L5I (pc' := 170) dL_adds_168 rfl ?_
            refine z_icmp_lt (tgt := 177) (pc' := 173) dL_adds_170 (by decide) rfl (fun h170 => ?_) (fun h170 => ?_)
            · refine z_iconst (pc' := 178) dL_adds_177 rfl (by unfold zin; decide) ?_
              refine z_S9I (pc' := 180) rfl dL_adds_178 rfl ?_
              refine key180 _ _ _ a0' a1' b0' b1' ?_
              first
              | exact Or.inl ⟨rfl, by unfold zmv; omega⟩
              | exact Or.inr ⟨rfl, by unfold zmv; omega⟩
            · refine z_iconst (pc' := 174) dL_adds_173 rfl (by unfold zin; decide) ?_
              refine z_goto (tgt := 178) dL_adds_174 (by decide) ?_
              refine z_S9I (pc' := 180) rfl dL_adds_178 rfl ?_
              refine key180 _ _ _ a0' a1' b0' b1' ?_
              first
              | exact Or.inl ⟨rfl, by unfold zmv; omega⟩
              | exact Or.inr ⟨rfl, by unfold zmv; omega⟩
          · refine z_L7I (pc' := 155) dL_adds_153 rfl ?_
            refine z_if_ne (tgt := 162) (pc' := 158) dL_adds_155 (by decide) rfl (fun h155 => ?_) (fun h155 => ?_)
            · refine z_iconst (pc' := 163) dL_adds_162 rfl (by unfold zin; decide) ?_
              refine z_goto (tgt := 178) dL_adds_163 (by decide) ?_
              refine z_S9I (pc' := 180) rfl dL_adds_178 rfl ?_
              refine key180 _ _ _ a0' a1' b0' b1' ?_
              first
              | exact Or.inl ⟨rfl, by unfold zmv; omega⟩
              | exact Or.inr ⟨rfl, by unfold zmv; omega⟩
            · refine z_iconst (pc' := 159) dL_adds_158 rfl (by unfold zin; decide) ?_
              refine z_goto (tgt := 178) dL_adds_159 (by decide) ?_
              refine z_S9I (pc' := 180) rfl dL_adds_178 rfl ?_
              refine key180 _ _ _ a0' a1' b0' b1' ?_
              first
              | exact Or.inl ⟨rfl, by unfold zmv; omega⟩
              | exact Or.inr ⟨rfl, by unfold zmv; omega⟩
        · refine z_L8I (pc' := 136) dL_adds_134 rfl ?_
          refine z_if_ne (tgt := 143) (pc' := 139) dL_adds_136 (by decide) rfl (fun h136 => ?_) (fun h136 => ?_)
          · refine z_iconst (pc' := 144) dL_adds_143 rfl (by unfold zin; decide) ?_
            refine z_goto (tgt := 178) dL_adds_144 (by decide) ?_
            refine z_S9I (pc' := 180) rfl dL_adds_178 rfl ?_
            refine key180 _ _ _ a0' a1' b0' b1' ?_
            first
            | exact Or.inl ⟨rfl, by unfold zmv; omega⟩
            | exact Or.inr ⟨rfl, by unfold zmv; omega⟩
          · refine z_iconst (pc' := 140) dL_adds_139 rfl (by unfold zin; decide) ?_
            refine z_goto (tgt := 178) dL_adds_140 (by decide) ?_
            refine z_S9I (pc' := 180) rfl dL_adds_178 rfl ?_
            refine key180 _ _ _ a0' a1' b0' b1' ?_
            first
            | exact Or.inl ⟨rfl, by unfold zmv; omega⟩
            | exact Or.inr ⟨rfl, by unfold zmv; omega⟩
      · refine z_L7I (pc' := 115) dL_adds_113 rfl ?_
        refine z_L8I (pc' := 117) dL_adds_115 rfl ?_
        refine z_icmp_lt (tgt := 124) (pc' := 120) dL_adds_117 (by decide) rfl (fun h117 => ?_) (fun h117 => ?_)
        · refine z_iconst (pc' := 125) dL_adds_124 rfl (by unfold zin; decide) ?_
          refine z_goto (tgt := 178) dL_adds_125 (by decide) ?_
          refine z_S9I (pc' := 180) rfl dL_adds_178 rfl ?_
          refine key180 _ _ _ a0' a1' b0' b1' ?_
          first
          | exact Or.inl ⟨rfl, by unfold zmv; omega⟩
          | exact Or.inr ⟨rfl, by unfold zmv; omega⟩
        · refine z_iconst (pc' := 121) dL_adds_120 rfl (by unfold zin; decide) ?_
          refine z_goto (tgt := 178) dL_adds_121 (by decide) ?_
          refine z_S9I (pc' := 180) rfl dL_adds_178 rfl ?_
          refine key180 _ _ _ a0' a1' b0' b1' ?_
          first
          | exact Or.inl ⟨rfl, by unfold zmv; omega⟩
          | exact Or.inr ⟨rfl, by unfold zmv; omega⟩
  have key79 : ∀ b : Int, 0 ≤ b → b < 10 → (K = 1 → b < 4) → (K = 2 ∨ K = 4 → b = 0) → zW mL_adds d 0 0 Q 79 [zR 1, zR 170, zR 171, zR 172, zI z, zI F, zI K, zI a0, zI b, zU, zU, zU, zU] [] sp me := fun b b0' b1' hk1 hk2 => by
    refine z_L6I (pc' := 81) dL_adds_79 rfl ?_
    refine z_iconst (pc' := 82) dL_adds_81 rfl (by unfold zin; decide) ?_
    refine z_icmp_ne (tgt := 98) (pc' := 85) dL_adds_82 (by decide) rfl (fun h82 => ?_) (fun h82 => ?_)
    · refine z_L7I (pc' := 100) dL_adds_98 rfl ?_
      refine z_S7I (pc' := 102) rfl dL_adds_100 rfl ?_
      exact key102 _ _ (by omega) (by omega) (by omega) (by omega) hk1 hk2
    · refine z_L5I (pc' := 87) dL_adds_85 rfl ?_
      refine z_if_le (tgt := 98) (pc' := 90) dL_adds_87 (by decide) rfl (fun h87 => ?_) (fun h87 => ?_)
      · refine z_L7I (pc' := 100) dL_adds_98 rfl ?_
        refine z_S7I (pc' := 102) rfl dL_adds_100 rfl ?_
        exact key102 _ _ (by omega) (by omega) (by omega) (by omega) hk1 hk2
      · refine z_L7I (pc' := 92) dL_adds_90 rfl ?_
        refine z_L5I (pc' := 94) dL_adds_92 rfl ?_
        refine z_irem (pc' := 95) dL_adds_94 rfl (by omega) (by omega) ?_
        have hmd1 := Int.emod_nonneg a0 (show F ≠ 0 by omega)
        have hmd2 := Int.emod_lt_of_pos a0 (show 0 < F by omega)
        refine z_goto (tgt := 100) dL_adds_95 (by decide) ?_
        refine z_S7I (pc' := 102) rfl dL_adds_100 rfl ?_
        exact key102 _ _ (by omega) (by omega) (by omega) (by omega) hk1 hk2
  refine z_L6I (pc' := 48) dL_adds_46 rfl ?_
  refine z_iconst (pc' := 49) dL_adds_48 rfl (by unfold zin; decide) ?_
  refine z_icmp_ne (tgt := 59) (pc' := 52) dL_adds_49 (by decide) rfl (fun h49 => ?_) (fun h49 => ?_)
  · refine z_L6I (pc' := 61) dL_adds_59 rfl ?_
    refine z_iconst (pc' := 62) dL_adds_61 rfl (by unfold zin; decide) ?_
    refine z_icmp_eq (tgt := 71) (pc' := 65) dL_adds_62 (by decide) rfl (fun h62 => ?_) (fun h62 => ?_)
    · refine z_iconst (pc' := 72) dL_adds_71 rfl (by unfold zin; decide) ?_
      refine z_goto (tgt := 77) dL_adds_72 (by decide) ?_
      refine z_S8I (pc' := 79) rfl dL_adds_77 rfl ?_
      exact key79 _ (by omega) (by omega) (by omega) (by omega)
    · refine z_L6I (pc' := 67) dL_adds_65 rfl ?_
      refine z_iconst (pc' := 68) dL_adds_67 rfl (by unfold zin; decide) ?_
      refine z_icmp_ne (tgt := 75) (pc' := 71) dL_adds_68 (by decide) rfl (fun h68 => ?_) (fun h68 => ?_)
      · refine z_L8I (pc' := 77) dL_adds_75 rfl ?_
        refine z_S8I (pc' := 79) rfl dL_adds_77 rfl ?_
        exact key79 _ (by omega) (by omega) (by omega) (by omega)
      · refine z_iconst (pc' := 72) dL_adds_71 rfl (by unfold zin; decide) ?_
        refine z_goto (tgt := 77) dL_adds_72 (by decide) ?_
        refine z_S8I (pc' := 79) rfl dL_adds_77 rfl ?_
        exact key79 _ (by omega) (by omega) (by omega) (by omega)
  · refine z_L8I (pc' := 54) dL_adds_52 rfl ?_
    refine z_iconst (pc' := 55) dL_adds_54 rfl (by unfold zin; decide) ?_
    refine z_irem (pc' := 56) dL_adds_55 rfl (by omega) (by omega) ?_
    refine z_goto (tgt := 77) dL_adds_56 (by decide) ?_
    refine z_S8I (pc' := 79) rfl dL_adds_77 rfl ?_
    exact key79 _ (by omega) (by omega) (by omega) (by omega)
end ZL8

