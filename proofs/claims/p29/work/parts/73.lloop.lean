section ZL14
/-! the law's turns: how many rows each makes, and the loop -/
def gkd (Ns : Nat) (f : Int → Int) (t : Int) : Int := if t < 10 then 0 else gLow (zsar (zcv Ns f t) 18) 14
theorem gkd_bd (Ns : Nat) (f : Int → Int) (t : Int) : 0 ≤ gkd Ns f t ∧ gkd Ns f t < 14 := by
  unfold gkd
  have := gLow_bd (zsar (zcv Ns f t) 18) (show (0 : Int) < 14 by decide)
  split <;> omega
def grc (Ns : Nat) (f : Int → Int) : Nat → Nat
  | 0 => 0
  | m + 1 => (if 8 ≤ gkd Ns f (43 - (m : Int)) then 4 else 0) + (14 + ((if (43 - (m : Int)) % 5 = 4 then 4 else 0) + grc Ns f m))
def grs (Ns : Nat) (f : Int → Int) : Nat → Nat
  | 0 => 0
  | m + 1 => (if 8 ≤ gkd Ns f (43 - (m : Int)) then 40 else 0) + (140 + ((if (43 - (m : Int)) % 5 = 4 then 140 else 0) + grs Ns f m))
theorem grc_bd (Ns : Nat) (f : Int → Int) : ∀ m, grc Ns f m ≤ 22 * m ∧ grs Ns f m ≤ 320 * m := by
  intro m
  induction m with
  | zero => exact ⟨Nat.le_refl _, Nat.le_refl _⟩
  | succ m ih =>
    unfold grc grs
    constructor
    · have := ih.1
      (repeat' split) <;> omega
    · have := ih.2
      (repeat' split) <;> omega
set_option maxRecDepth 100000 in
set_option maxHeartbeats 8000000 in
theorem law_loop {d : Nat} {sp : zSP} {me : zMe} {Q : zQ} {Ns : Nat} {f : Int → Int} (hd : 30 ≤ d) (hW : gLW sp) (hR : gRR me zA0) (hQ : ∀ sp' me', Q (some (zI 1)) sp' me') : zW (mL Ns f) d (grc Ns f 44) (grs Ns f 44) Q 131 [zR 0, zR 1, zR 167, zR 168, zR 169, zR 170, zR 171, zR 172, zR 173, zR 174, zR 175, zI 1, zI 0, zU] [] sp me := by
  suffices H : ∀ (m : Nat) (t B : Int) (v13 : zV) (A : zAb) (sp' : zSP) (me' : zMe), m ≤ 44 → t = 44 - (m : Int) → B = 100000 * t → zndv v13 = true → gLW sp' → gRR me' A → zIA B A → qS A 6 = 0 → qS A 7 = 0 → zW (mL Ns f) d (grc Ns f m) (grs Ns f m) Q 131 [zR 0, zR 1, zR 167, zR 168, zR 169, zR 170, zR 171, zR 172, zR 173, zR 174, zR 175, zI 1, zI t, v13] [] sp' me' by
    exact H 44 0 0 zU zA0 sp me (by omega) (by omega) (by omega) rfl hW hR zIA_0 rfl rfl
  intro m
  induction m with
  | zero =>
    intro t B v13 A sp' me' hm ht hB hv13 hW' hR' hI h6 h7
    have et : t = 44 := by omega
    subst et
    show zW (mL Ns f) d 0 0 Q 131 _ [] sp' me'
    refine z_L12I (pc' := 133) dL_law_131 rfl ?_
    refine z_bipush (pc' := 135) dL_law_133 rfl (by decide) ?_
    refine z_icmp_ge (tgt := 345) (pc' := 138) dL_law_135 (by decide) rfl (fun h135 => ?_) (fun h135 => absurd h135 (by decide))
    refine z_L11I (pc' := 347) dL_law_345 rfl ?_
    refine z_zreturn rfl rfl dL_law_347 (by omega) ?_
    exact hQ _ _
  | succ m ih =>
  intro t B v13 A sp' me' hm ht hB hv13 hW' hR' hI h6 h7
  have et : t = 43 - (m : Int) := by omega
  have hkb := gkd_bd Ns f t
  have hr1 : grc Ns f (m + 1) = (if 8 ≤ gkd Ns f t then 4 else 0) + (14 + ((if t % 5 = 4 then 4 else 0) + grc Ns f m)) := by rw [et]; rfl
  have hr2 : grs Ns f (m + 1) = (if 8 ≤ gkd Ns f t then 40 else 0) + (140 + ((if t % 5 = 4 then 140 else 0) + grs Ns f m)) := by rw [et]; rfl
  rw [hr1, hr2]
  obtain ⟨w1, hw1⟩ : ∃ w, w = (if t % 5 = 4 then 4 else 0) + grc Ns f m := ⟨_, rfl⟩
  obtain ⟨w2, hw2⟩ : ∃ w, w = (if t % 5 = 4 then 140 else 0) + grs Ns f m := ⟨_, rfl⟩
  rw [← hw1, ← hw2]
  obtain ⟨c1, hc1⟩ : ∃ w, w = grc Ns f m := ⟨_, rfl⟩
  obtain ⟨c2, hc2⟩ : ∃ w, w = grs Ns f m := ⟨_, rfl⟩
  rw [← hc1] at hw1 ih
  rw [← hc2] at hw2 ih
  refine z_L12I (pc' := 133) dL_law_131 rfl ?_
  refine z_bipush (pc' := 135) dL_law_133 rfl (by decide) ?_
  refine z_icmp_ge (tgt := 345) (pc' := 138) dL_law_135 (by decide) rfl (fun h135 => absurd h135 (by omega)) (fun h135 => ?_)
  refine z_L11I (pc' := 140) dL_law_138 rfl ?_
  refine z_if_eq (tgt := 345) (pc' := 143) dL_law_140 (by decide) rfl (fun h140 => absurd h140 (by omega)) (fun h140 => ?_)
  refine z_L0R (pc' := 144) dL_law_143 rfl ?_
  refine z_L12I (pc' := 146) dL_law_144 rfl ?_
  refine z_cellS (by omega) (by omega) (by omega) (Nat.le_of_ble_eq_true rfl) ?_
  refine z_S13I (pc' := 151) rfl dL_law_149 rfl ?_
  have key187 : zW (mL Ns f) d ((if 8 ≤ gkd Ns f t then 4 else 0) + (14 + w1)) ((if 8 ≤ gkd Ns f t then 40 else 0) + (140 + w2)) Q 187 [zR 0, zR 1, zR 167, zR 168, zR 169, zR 170, zR 171, zR 172, zR 173, zR 174, zR 175, zI 1, zI t, zI (zcv Ns f t)] [zI (zcv Ns f t), zI (gkd Ns f t), zR 173, zR 172, zR 171, zR 170, zR 169, zR 168, zR 167, zR 1] sp' me' := by
    have key190 : ∀ (sp1 : zSP) (me1 : zMe) (A1 : zAb), gLW sp1 → gRR me1 A1 → zIA (B + 100000) A1 → qS A1 6 = 0 → qS A1 7 = 0 → zW (mL Ns f) d (14 + w1) (140 + w2) Q 190 [zR 0, zR 1, zR 167, zR 168, zR 169, zR 170, zR 171, zR 172, zR 173, zR 174, zR 175, zI 1, zI t, zI (zcv Ns f t)] [zI 1] sp1 me1 := fun sp1 me1 A1 hW1 hR1 hI1 h61 h71 => by
      have hx1 := hW1.1
      refine z_if_eq (tgt := 336) (pc' := 193) dL_law_190 (by decide) rfl (fun h190 => absurd h190 (by omega)) (fun h190 => ?_)
      refine z_L1R (pc' := 194) dL_law_193 rfl ?_
      refine z_L2R (pc' := 195) dL_law_194 rfl ?_
      refine z_L3R (pc' := 196) dL_law_195 rfl ?_
      refine z_L4R (pc' := 198) dL_law_196 rfl ?_
      refine z_L7R (pc' := 200) dL_law_198 rfl ?_
      refine z_L8R (pc' := 202) dL_law_200 rfl ?_
      refine z_S6v (pc' := 205) kL_areDancers lL_148 dL_law_202 rfl (by omega) (Nat.le_of_ble_eq_true rfl) ?_
      refine l_areDancers9 (by omega) hW1 hI1 hR1 (fun me2 hR2 _ => zKv_i ?_)
      refine z_if_eq (tgt := 336) (pc' := 208) dL_law_205 (by decide) rfl (fun h205 => absurd h205 (by omega)) (fun h205 => ?_)
      refine z_L1R (pc' := 209) dL_law_208 rfl ?_
      refine z_L5R (pc' := 211) dL_law_209 rfl ?_
      refine z_L6R (pc' := 213) dL_law_211 rfl ?_
      refine z_L7R (pc' := 215) dL_law_213 rfl ?_
      refine z_L9R (pc' := 217) dL_law_215 rfl ?_
      refine z_L10R (pc' := 219) dL_law_217 rfl ?_
      refine z_L13I (pc' := 221) dL_law_219 rfl ?_
      refine z_iconst (pc' := 222) dL_law_221 rfl (by unfold zin; decide) ?_
      refine z_ishra (pc' := 223) dL_law_222 rfl ?_
      refine z_bipush (pc' := 225) dL_law_223 rfl (by decide) ?_
      refine z_G2v (pc' := 228) kL_low lL_113 dL_law_225 rfl (by omega) (Nat.le_of_ble_eq_true rfl) ?_
      refine l_low (by decide) (zKv_i ?_)
      have b8a := gLow_bd (zsar (zcv Ns f t) 5) (show (0 : Int) < 8 by decide)
      refine z_T7v (pc' := 231) (mc := 2) (ms := 20) (r1' := 12 + w1) (r2' := 120 + w2) kL_isFigure lL_160 dL_law_228 rfl (by omega) (Nat.le_of_ble_eq_true rfl) (by omega) (by omega) ?_
      refine l_isFigure9 (N := sp1.2.2) (by omega) rfl hW1 hI1 hR2 b8a.1 b8a.2 (fun sp2 me3 hX2 hR3 => zKv_i ?_)
      have hW2 := hW1.mono hX2
      refine z_if_eq (tgt := 336) (pc' := 234) dL_law_231 (by decide) rfl (fun h231 => absurd h231 (by omega)) (fun h231 => ?_)
      refine z_L1R (pc' := 235) dL_law_234 rfl ?_
      refine z_L5R (pc' := 237) dL_law_235 rfl ?_
      refine z_L6R (pc' := 239) dL_law_237 rfl ?_
      refine z_L7R (pc' := 241) dL_law_239 rfl ?_
      refine z_L13I (pc' := 243) dL_law_241 rfl ?_
      refine z_iconst (pc' := 244) dL_law_243 rfl (by unfold zin; decide) ?_
      refine z_ishra (pc' := 245) dL_law_244 rfl ?_
      refine z_bipush (pc' := 247) dL_law_245 rfl (by decide) ?_
      refine z_S2v (pc' := 250) kL_low lL_113 dL_law_247 rfl (by omega) (Nat.le_of_ble_eq_true rfl) ?_
      refine l_low (by decide) (zKv_i ?_)
      have b8b := gLow_bd (zsar (zcv Ns f t) 4) (show (0 : Int) < 8 by decide)
      refine z_L13I (pc' := 252) dL_law_250 rfl ?_
      refine z_bipush (pc' := 254) dL_law_252 rfl (by decide) ?_
      refine z_ishra (pc' := 255) dL_law_254 rfl ?_
      refine z_bipush (pc' := 257) dL_law_255 rfl (by decide) ?_
      refine z_G2v (pc' := 260) kL_low lL_113 dL_law_257 rfl (by omega) (Nat.le_of_ble_eq_true rfl) ?_
      refine l_low (by decide) (zKv_i ?_)
      have b8c := gLow_bd (zsar (zcv Ns f t) 7) (show (0 : Int) < 8 by decide)
      refine z_T6v (pc' := 263) (mc := 4) (ms := 40) (r1' := 8 + w1) (r2' := 80 + w2) kL_arePairs lL_164 dL_law_260 rfl (by omega) (Nat.le_of_ble_eq_true rfl) (by omega) (by omega) ?_
      refine l_arePairs9 (N := sp2.2.2) (by omega) rfl hW2 hI1 hR3 b8b.1 b8b.2 b8c.1 b8c.2 (fun sp3 me4 hX3 hR4 => zKv_i ?_)
      have hW3 := hW2.mono hX3
      refine z_if_eq (tgt := 336) (pc' := 266) dL_law_263 (by decide) rfl (fun h263 => absurd h263 (by omega)) (fun h263 => ?_)
      refine z_L1R (pc' := 267) dL_law_266 rfl ?_
      refine z_L2R (pc' := 268) dL_law_267 rfl ?_
      refine z_L3R (pc' := 269) dL_law_268 rfl ?_
      refine z_L4R (pc' := 271) dL_law_269 rfl ?_
      refine z_L5R (pc' := 273) dL_law_271 rfl ?_
      refine z_L6R (pc' := 275) dL_law_273 rfl ?_
      refine z_L7R (pc' := 277) dL_law_275 rfl ?_
      refine z_L13I (pc' := 279) dL_law_277 rfl ?_
      refine z_iconst (pc' := 280) dL_law_279 rfl (by unfold zin; decide) ?_
      refine z_ishra (pc' := 281) dL_law_280 rfl ?_
      refine z_bipush (pc' := 283) dL_law_281 rfl (by decide) ?_
      refine z_G2v (pc' := 286) kL_low lL_113 dL_law_283 rfl (by omega) (Nat.le_of_ble_eq_true rfl) ?_
      refine l_low (by decide) (zKv_i ?_)
      have b8d := gLow_bd (zsar (zcv Ns f t) 3) (show (0 : Int) < 8 by decide)
      refine z_L13I (pc' := 288) dL_law_286 rfl ?_
      refine z_bipush (pc' := 290) dL_law_288 rfl (by decide) ?_
      refine z_ishra (pc' := 291) dL_law_290 rfl ?_
      refine z_iconst (pc' := 292) dL_law_291 rfl (by unfold zin; decide) ?_
      refine z_G2v (pc' := 295) kL_low lL_113 dL_law_292 rfl (by omega) (Nat.le_of_ble_eq_true rfl) ?_
      refine l_low (by decide) (zKv_i ?_)
      have key303 : ∀ b : Int, zW (mL Ns f) d (8 + w1) (80 + w2) Q 303 [zR 0, zR 1, zR 167, zR 168, zR 169, zR 170, zR 171, zR 172, zR 173, zR 174, zR 175, zI 1, zI t, zI (zcv Ns f t)] [zI b, zI (gLow (zsar (zcv Ns f t) 3) 8), zR 172, zR 171, zR 170, zR 169, zR 168, zR 167, zR 1] sp3 me4 := fun b => by
        refine z_T9v (pc' := 306) (mc := 8) (ms := 80) (r1' := w1) (r2' := w2) kL_would lL_168 dL_law_303 rfl (by omega) (Nat.le_of_ble_eq_true rfl) (by omega) (by omega) ?_
        refine l_would9 (N := sp3.2.2) (by omega) rfl hW3 hI1 hR4 b8d.1 b8d.2 (fun sp4 me5 hX4 hR5 => zKv_i ?_)
        have hW4 := hW3.mono hX4
        refine z_if_eq (tgt := 336) (pc' := 309) dL_law_306 (by decide) rfl (fun h306 => absurd h306 (by omega)) (fun h306 => ?_)
        refine z_L12I (pc' := 311) dL_law_309 rfl ?_
        refine z_iconst (pc' := 312) dL_law_311 rfl (by unfold zin; decide) ?_
        refine z_irem (pc' := 313) dL_law_312 rfl (by omega) (by omega) ?_
        refine z_iconst (pc' := 314) dL_law_313 rfl (by unfold zin; decide) ?_
        refine z_icmp_ne (tgt := 332) (pc' := 317) dL_law_314 (by decide) rfl (fun h314 => ?_) (fun h314 => ?_)
        · refine z_iconst (pc' := 333) dL_law_332 rfl (by unfold zin; decide) ?_
          refine z_goto (tgt := 337) dL_law_333 (by decide) ?_
          refine z_S11I (pc' := 339) rfl dL_law_337 rfl ?_
          refine z_inc12 (pc' := 342) rfl dL_law_339 rfl (by unfold zin; omega) ?_
          refine z_goto (tgt := 131) dL_law_342 (by decide) ?_
          first
          | exact ih (t + 1) (B + 100000) _ A1 sp5 me6 (by omega) (by omega) (by omega) rfl hW5 hR6 hI1 h61 h71
          | (have e1 : w1 = c1 := by rw [hw1, if_neg (by omega)]; omega
             have e2 : w2 = c2 := by rw [hw2, if_neg (by omega)]; omega
             rw [e1, e2]
             exact ih (t + 1) (B + 100000) _ A1 sp4 me5 (by omega) (by omega) (by omega) rfl hW4 hR5 hI1 h61 h71)
        · have e1 : w1 = c1 + 4 := by rw [hw1, if_pos (by omega)]; omega
          have e2 : w2 = c2 + 140 := by rw [hw2, if_pos (by omega)]; omega
          refine z_L1R (pc' := 318) dL_law_317 rfl ?_
          refine z_L2R (pc' := 319) dL_law_318 rfl ?_
          refine z_L3R (pc' := 320) dL_law_319 rfl ?_
          refine z_L5R (pc' := 322) dL_law_320 rfl ?_
          refine z_L6R (pc' := 324) dL_law_322 rfl ?_
          refine z_L7R (pc' := 326) dL_law_324 rfl ?_
          refine z_T6v (pc' := 329) (mc := 4) (ms := 140) (r1' := c1) (r2' := c2) kL_isWay lL_172 dL_law_326 rfl (by omega) (Nat.le_of_ble_eq_true rfl) (by omega) (by omega) ?_
          refine l_isWay9 (N := sp4.2.2) (by omega) rfl hW4 hI1 hR5 h61 h71 (fun sp5 me6 hX5 hR6 => zKv_i ?_)
          have hW5 := hW4.mono hX5
          refine z_if_eq (tgt := 336) (pc' := 332) dL_law_329 (by decide) rfl (fun h329 => absurd h329 (by omega)) (fun h329 => ?_)
          refine z_iconst (pc' := 333) dL_law_332 rfl (by unfold zin; decide) ?_
          refine z_goto (tgt := 337) dL_law_333 (by decide) ?_
          refine z_S11I (pc' := 339) rfl dL_law_337 rfl ?_
          refine z_inc12 (pc' := 342) rfl dL_law_339 rfl (by unfold zin; omega) ?_
          refine z_goto (tgt := 131) dL_law_342 (by decide) ?_
          first
          | exact ih (t + 1) (B + 100000) _ A1 sp5 me6 (by omega) (by omega) (by omega) rfl hW5 hR6 hI1 h61 h71
          | (have e1 : w1 = c1 := by rw [hw1, if_neg (by omega)]; omega
             have e2 : w2 = c2 := by rw [hw2, if_neg (by omega)]; omega
             rw [e1, e2]
             exact ih (t + 1) (B + 100000) _ A1 sp4 me5 (by omega) (by omega) (by omega) rfl hW4 hR5 hI1 h61 h71)
      refine z_if_ne (tgt := 302) (pc' := 298) dL_law_295 (by decide) rfl (fun h295 => ?_) (fun h295 => ?_)
      · refine z_iconst (pc' := 303) dL_law_302 rfl (by unfold zin; decide) ?_
        refine z_T9v (pc' := 306) (mc := 8) (ms := 80) (r1' := w1) (r2' := w2) kL_would lL_168 dL_law_303 rfl (by omega) (Nat.le_of_ble_eq_true rfl) (by omega) (by omega) ?_
        refine l_would9 (N := sp3.2.2) (by omega) rfl hW3 hI1 hR4 b8d.1 b8d.2 (fun sp4 me5 hX4 hR5 => zKv_i ?_)
        have hW4 := hW3.mono hX4
        refine z_if_eq (tgt := 336) (pc' := 309) dL_law_306 (by decide) rfl (fun h306 => absurd h306 (by omega)) (fun h306 => ?_)
        refine z_L12I (pc' := 311) dL_law_309 rfl ?_
        refine z_iconst (pc' := 312) dL_law_311 rfl (by unfold zin; decide) ?_
        refine z_irem (pc' := 313) dL_law_312 rfl (by omega) (by omega) ?_
        refine z_iconst (pc' := 314) dL_law_313 rfl (by unfold zin; decide) ?_
        refine z_icmp_ne (tgt := 332) (pc' := 317) dL_law_314 (by decide) rfl (fun h314 => ?_) (fun h314 => ?_)
        · refine z_iconst (pc' := 333) dL_law_332 rfl (by unfold zin; decide) ?_
          refine z_goto (tgt := 337) dL_law_333 (by decide) ?_
          refine z_S11I (pc' := 339) rfl dL_law_337 rfl ?_
          refine z_inc12 (pc' := 342) rfl dL_law_339 rfl (by unfold zin; omega) ?_
          refine z_goto (tgt := 131) dL_law_342 (by decide) ?_
          first
          | exact ih (t + 1) (B + 100000) _ A1 sp5 me6 (by omega) (by omega) (by omega) rfl hW5 hR6 hI1 h61 h71
          | (have e1 : w1 = c1 := by rw [hw1, if_neg (by omega)]; omega
             have e2 : w2 = c2 := by rw [hw2, if_neg (by omega)]; omega
             rw [e1, e2]
             exact ih (t + 1) (B + 100000) _ A1 sp4 me5 (by omega) (by omega) (by omega) rfl hW4 hR5 hI1 h61 h71)
        · have e1 : w1 = c1 + 4 := by rw [hw1, if_pos (by omega)]; omega
          have e2 : w2 = c2 + 140 := by rw [hw2, if_pos (by omega)]; omega
          refine z_L1R (pc' := 318) dL_law_317 rfl ?_
          refine z_L2R (pc' := 319) dL_law_318 rfl ?_
          refine z_L3R (pc' := 320) dL_law_319 rfl ?_
          refine z_L5R (pc' := 322) dL_law_320 rfl ?_
          refine z_L6R (pc' := 324) dL_law_322 rfl ?_
          refine z_L7R (pc' := 326) dL_law_324 rfl ?_
          refine z_T6v (pc' := 329) (mc := 4) (ms := 140) (r1' := c1) (r2' := c2) kL_isWay lL_172 dL_law_326 rfl (by omega) (Nat.le_of_ble_eq_true rfl) (by omega) (by omega) ?_
          refine l_isWay9 (N := sp4.2.2) (by omega) rfl hW4 hI1 hR5 h61 h71 (fun sp5 me6 hX5 hR6 => zKv_i ?_)
          have hW5 := hW4.mono hX5
          refine z_if_eq (tgt := 336) (pc' := 332) dL_law_329 (by decide) rfl (fun h329 => absurd h329 (by omega)) (fun h329 => ?_)
          refine z_iconst (pc' := 333) dL_law_332 rfl (by unfold zin; decide) ?_
          refine z_goto (tgt := 337) dL_law_333 (by decide) ?_
          refine z_S11I (pc' := 339) rfl dL_law_337 rfl ?_
          refine z_inc12 (pc' := 342) rfl dL_law_339 rfl (by unfold zin; omega) ?_
          refine z_goto (tgt := 131) dL_law_342 (by decide) ?_
          first
          | exact ih (t + 1) (B + 100000) _ A1 sp5 me6 (by omega) (by omega) (by omega) rfl hW5 hR6 hI1 h61 h71
          | (have e1 : w1 = c1 := by rw [hw1, if_neg (by omega)]; omega
             have e2 : w2 = c2 := by rw [hw2, if_neg (by omega)]; omega
             rw [e1, e2]
             exact ih (t + 1) (B + 100000) _ A1 sp4 me5 (by omega) (by omega) (by omega) rfl hW4 hR5 hI1 h61 h71)
      · refine z_iconst (pc' := 299) dL_law_298 rfl (by unfold zin; decide) ?_
        refine z_goto (tgt := 303) dL_law_299 (by decide) ?_
        refine z_T9v (pc' := 306) (mc := 8) (ms := 80) (r1' := w1) (r2' := w2) kL_would lL_168 dL_law_303 rfl (by omega) (Nat.le_of_ble_eq_true rfl) (by omega) (by omega) ?_
        refine l_would9 (N := sp3.2.2) (by omega) rfl hW3 hI1 hR4 b8d.1 b8d.2 (fun sp4 me5 hX4 hR5 => zKv_i ?_)
        have hW4 := hW3.mono hX4
        refine z_if_eq (tgt := 336) (pc' := 309) dL_law_306 (by decide) rfl (fun h306 => absurd h306 (by omega)) (fun h306 => ?_)
        refine z_L12I (pc' := 311) dL_law_309 rfl ?_
        refine z_iconst (pc' := 312) dL_law_311 rfl (by unfold zin; decide) ?_
        refine z_irem (pc' := 313) dL_law_312 rfl (by omega) (by omega) ?_
        refine z_iconst (pc' := 314) dL_law_313 rfl (by unfold zin; decide) ?_
        refine z_icmp_ne (tgt := 332) (pc' := 317) dL_law_314 (by decide) rfl (fun h314 => ?_) (fun h314 => ?_)
        · refine z_iconst (pc' := 333) dL_law_332 rfl (by unfold zin; decide) ?_
          refine z_goto (tgt := 337) dL_law_333 (by decide) ?_
          refine z_S11I (pc' := 339) rfl dL_law_337 rfl ?_
          refine z_inc12 (pc' := 342) rfl dL_law_339 rfl (by unfold zin; omega) ?_
          refine z_goto (tgt := 131) dL_law_342 (by decide) ?_
          first
          | exact ih (t + 1) (B + 100000) _ A1 sp5 me6 (by omega) (by omega) (by omega) rfl hW5 hR6 hI1 h61 h71
          | (have e1 : w1 = c1 := by rw [hw1, if_neg (by omega)]; omega
             have e2 : w2 = c2 := by rw [hw2, if_neg (by omega)]; omega
             rw [e1, e2]
             exact ih (t + 1) (B + 100000) _ A1 sp4 me5 (by omega) (by omega) (by omega) rfl hW4 hR5 hI1 h61 h71)
        · have e1 : w1 = c1 + 4 := by rw [hw1, if_pos (by omega)]; omega
          have e2 : w2 = c2 + 140 := by rw [hw2, if_pos (by omega)]; omega
          refine z_L1R (pc' := 318) dL_law_317 rfl ?_
          refine z_L2R (pc' := 319) dL_law_318 rfl ?_
          refine z_L3R (pc' := 320) dL_law_319 rfl ?_
          refine z_L5R (pc' := 322) dL_law_320 rfl ?_
          refine z_L6R (pc' := 324) dL_law_322 rfl ?_
          refine z_L7R (pc' := 326) dL_law_324 rfl ?_
          refine z_T6v (pc' := 329) (mc := 4) (ms := 140) (r1' := c1) (r2' := c2) kL_isWay lL_172 dL_law_326 rfl (by omega) (Nat.le_of_ble_eq_true rfl) (by omega) (by omega) ?_
          refine l_isWay9 (N := sp4.2.2) (by omega) rfl hW4 hI1 hR5 h61 h71 (fun sp5 me6 hX5 hR6 => zKv_i ?_)
          have hW5 := hW4.mono hX5
          refine z_if_eq (tgt := 336) (pc' := 332) dL_law_329 (by decide) rfl (fun h329 => absurd h329 (by omega)) (fun h329 => ?_)
          refine z_iconst (pc' := 333) dL_law_332 rfl (by unfold zin; decide) ?_
          refine z_goto (tgt := 337) dL_law_333 (by decide) ?_
          refine z_S11I (pc' := 339) rfl dL_law_337 rfl ?_
          refine z_inc12 (pc' := 342) rfl dL_law_339 rfl (by unfold zin; omega) ?_
          refine z_goto (tgt := 131) dL_law_342 (by decide) ?_
          first
          | exact ih (t + 1) (B + 100000) _ A1 sp5 me6 (by omega) (by omega) (by omega) rfl hW5 hR6 hI1 h61 h71
          | (have e1 : w1 = c1 := by rw [hw1, if_neg (by omega)]; omega
             have e2 : w2 = c2 := by rw [hw2, if_neg (by omega)]; omega
             rw [e1, e2]
             exact ih (t + 1) (B + 100000) _ A1 sp4 me5 (by omega) (by omega) (by omega) rfl hW4 hR5 hI1 h61 h71)
    by_cases h8 : 8 ≤ gkd Ns f t
    · refine z_T10v (pc' := 190) (mc := 4) (ms := 40) (r1' := 14 + w1) (r2' := 140 + w2) kL_acts lL_156 dL_law_187 rfl (by omega) (Nat.le_of_ble_eq_true rfl) (by rw [if_pos h8]; omega) (by rw [if_pos h8]; omega) ?_
      exact l_acts_b (N := sp'.2.2) (by omega) rfl hW' hI (by omega) (by omega) hR' h6 h7 h8 (fun sp1 me1 A1 q1 q2 q3 q4 q5 => zKv_i (key190 sp1 me1 A1 (hW'.mono q1) q2 q3 q4 q5))
    · refine z_T10v (pc' := 190) (mc := 0) (ms := 0) (r1' := 14 + w1) (r2' := 140 + w2) kL_acts lL_156 dL_law_187 rfl (by omega) (Nat.le_of_ble_eq_true rfl) (by rw [if_neg h8]; omega) (by rw [if_neg h8]; omega) ?_
      exact l_acts_a (by omega) hW' hI (by omega) (by omega) hR' h6 h7 hkb.1 (by omega) (fun me1 A1 q2 q3 q4 q5 => zKv_i (key190 sp' me1 A1 hW' q2 q3 q4 q5))
  refine z_L1R (pc' := 152) dL_law_151 rfl ?_
  refine z_L2R (pc' := 153) dL_law_152 rfl ?_
  refine z_L3R (pc' := 154) dL_law_153 rfl ?_
  refine z_L4R (pc' := 156) dL_law_154 rfl ?_
  refine z_L5R (pc' := 158) dL_law_156 rfl ?_
  refine z_L6R (pc' := 160) dL_law_158 rfl ?_
  refine z_L7R (pc' := 162) dL_law_160 rfl ?_
  refine z_L8R (pc' := 164) dL_law_162 rfl ?_
  refine z_L12I (pc' := 166) dL_law_164 rfl ?_
  refine z_bipush (pc' := 168) dL_law_166 rfl (by decide) ?_
  refine z_icmp_ge (tgt := 175) (pc' := 171) dL_law_168 (by decide) rfl (fun h168 => ?_) (fun h168 => ?_)
  · refine z_L13I (pc' := 177) dL_law_175 rfl ?_
    refine z_bipush (pc' := 179) dL_law_177 rfl (by decide) ?_
    refine z_ishra (pc' := 180) dL_law_179 rfl ?_
    refine z_bipush (pc' := 182) dL_law_180 rfl (by decide) ?_
    refine z_G2v (pc' := 185) kL_low lL_113 dL_law_182 rfl (by omega) (Nat.le_of_ble_eq_true rfl) ?_
    refine l_low (by decide) (zKv_i ?_)
    refine z_L13I (pc' := 187) dL_law_185 rfl ?_
    have ek : ∀ v : Int, ((t < 10 ∧ v = 0) ∨ (10 ≤ t ∧ v = gLow (zsar (zcv Ns f t) 18) 14)) → v = gkd Ns f t := fun v hv => by
      unfold gkd
      rcases hv with ⟨h1, h2⟩ | ⟨h1, h2⟩
      · rw [if_pos h1]; exact h2
      · rw [if_neg (by omega)]; exact h2
    first
    | (rw [ek 0 (Or.inl ⟨by omega, rfl⟩)]; exact key187)
    | (rw [ek _ (Or.inr ⟨by omega, rfl⟩)]; exact key187)
  · refine z_iconst (pc' := 172) dL_law_171 rfl (by unfold zin; decide) ?_
    refine z_goto (tgt := 185) dL_law_172 (by decide) ?_
    refine z_L13I (pc' := 187) dL_law_185 rfl ?_
    have ek : ∀ v : Int, ((t < 10 ∧ v = 0) ∨ (10 ≤ t ∧ v = gLow (zsar (zcv Ns f t) 18) 14)) → v = gkd Ns f t := fun v hv => by
      unfold gkd
      rcases hv with ⟨h1, h2⟩ | ⟨h1, h2⟩
      · rw [if_pos h1]; exact h2
      · rw [if_neg (by omega)]; exact h2
    first
    | (rw [ek 0 (Or.inl ⟨by omega, rfl⟩)]; exact key187)
    | (rw [ek _ (Or.inr ⟨by omega, rfl⟩)]; exact key187)
end ZL14

