section ZLH
theorem zFr.tr {x : Nat} {m1 m2 m3 : zMe} (h : zFr x m1 m2) (g : zFr x m2 m3) : zFr x m1 m3 := fun a ha => (g a ha).trans (h a ha)
theorem gOff_bd {A : zAb} {B : Int} (hI : zIA B A) {i : Int} (i0 : 0 ≤ i) (i1 : i ≤ 10) : 0 ≤ zSm (fun i => gBy (zpl (qW A) i) i) i ∧ zSm (fun i => gBy (zpl (qW A) i) i) i ≤ 5 * i := by
  refine zSm_ind (P := fun j s => j ≤ 10 → 0 ≤ s ∧ s ≤ 5 * j) _ (fun _ => by omega) (fun j s hj hs hj2 => ?_) i i0 i1
  have h1 := hs (by omega)
  have h2 := zpl_ok hI.1.1 hj (show j < 10 by omega)
  have h3 := gBy_bd h2.1 h2.2.1 hj (show j < 10 by omega)
  have h4 : 0 ≤ gBy (zpl (qW A) j) j ∧ gBy (zpl (qW A) j) j ≤ 5 := h3
  show 0 ≤ s + gBy (zpl (qW A) j) j ∧ s + gBy (zpl (qW A) j) j ≤ 5 * (j + 1)
  omega
set_option maxRecDepth 100000 in
set_option maxHeartbeats 4000000 in
theorem l_areDancers9 {d : Nat} {sp : zSP} {me : zMe} {Q : zQ} {A : zAb} {B : Int} (hd : 22 ≤ d) (hW : gLW sp) (hI : zIA B A) (hR : gRR me A) (hQ : ∀ me', gRR me' A → zFr 1 me me' → Q (some (zI 1)) sp me') : zCall mL_areDancers d 0 0 [zR 1, zR 167, zR 168, zR 169, zR 172, zR 173] sp me Q := by
  refine z_met kL_areDancers (by simp) (by simp) ?_
  show zW mL_areDancers d 0 0 Q 0 [zR 1, zR 167, zR 168, zR 169, zR 172, zR 173, zU, zU, zU, zU, zU] [] sp me
  obtain ⟨hx, hsz, hp, hf, hh, hm, ho, hc, ht, he, hg⟩ := hW
  refine z_iconst (pc' := 1) dL_areDancers_0 rfl (by unfold zin; decide) ?_
  refine z_S6I (pc' := 3) rfl dL_areDancers_1 rfl ?_
  refine z_iconst (pc' := 4) dL_areDancers_3 rfl (by unfold zin; decide) ?_
  refine z_S7I (pc' := 6) rfl dL_areDancers_4 rfl ?_
  refine z_L0R (pc' := 7) dL_areDancers_6 rfl ?_
  refine z_bipush (pc' := 9) dL_areDancers_7 rfl (by decide) ?_
  refine z_V1v (pc' := 12) (ci := 8) kX8_at lL_47 dL_areDancers_9 rfl (by omega) (Nat.le_of_ble_eq_true rfl) (by decide) rfl hx.s ?_
  refine x_at (by omega) hx hR.1 hI (fun me1 hX1 hF1 => zKv_i ?_)
  have hR1 := hR.x hX1 hF1
  rw [vAt0]
  refine z_iconst (pc' := 13) dL_areDancers_12 rfl (by unfold zin; decide) ?_
  refine z_icmp_ne (tgt := 42) (pc' := 16) dL_areDancers_13 (by decide) rfl (fun h13 => absurd h13 (by omega)) (fun h13 => ?_)
  refine z_L0R (pc' := 17) dL_areDancers_16 rfl ?_
  refine z_bipush (pc' := 19) dL_areDancers_17 rfl (by decide) ?_
  refine z_iconst (pc' := 20) dL_areDancers_19 rfl (by unfold zin; decide) ?_
  refine z_V2v (pc' := 23) (ci := 8) kX8_dancer lL_52 dL_areDancers_20 rfl (by omega) (Nat.le_of_ble_eq_true rfl) (by decide) rfl hx.s ?_
  refine x_dancer (by omega) hx hR1.1 hI (fun me2 hX2 hF2 => zKv_i ?_)
  have hR2 := hR1.x hX2 hF2
  rw [vDa]
  refine z_iconst (pc' := 24) dL_areDancers_23 rfl (by unfold zin; decide) ?_
  refine z_icmp_ne (tgt := 42) (pc' := 27) dL_areDancers_24 (by decide) rfl (fun h24 => absurd h24 (by omega)) (fun h24 => ?_)
  refine z_L0R (pc' := 28) dL_areDancers_27 rfl ?_
  refine z_iconst (pc' := 29) dL_areDancers_28 rfl (by unfold zin; decide) ?_
  refine z_iconst (pc' := 30) dL_areDancers_29 rfl (by unfold zin; decide) ?_
  refine z_V2v (pc' := 33) (ci := 8) kX8_dancer lL_52 dL_areDancers_30 rfl (by omega) (Nat.le_of_ble_eq_true rfl) (by decide) rfl hx.s ?_
  refine x_dancer (by omega) hx hR2.1 hI (fun me3 hX3 hF3 => zKv_i ?_)
  have hR3 := hR2.x hX3 hF3
  rw [vDb]
  refine z_bipush (pc' := 35) dL_areDancers_33 rfl (by decide) ?_
  refine z_icmp_ne (tgt := 42) (pc' := 38) dL_areDancers_35 (by decide) rfl (fun h35 => absurd h35 (by omega)) (fun h35 => ?_)
  refine z_iconst (pc' := 39) dL_areDancers_38 rfl (by unfold zin; decide) ?_
  refine z_goto (tgt := 43) dL_areDancers_39 (by decide) ?_
  refine z_S8I (pc' := 45) rfl dL_areDancers_43 rfl ?_
  refine z_iconst (pc' := 46) dL_areDancers_45 rfl (by unfold zin; decide) ?_
  refine z_S9I (pc' := 48) rfl dL_areDancers_46 rfl ?_
  suffices H : ∀ (n : Nat) (i P O : Int) (v10 : zV) (me' : zMe), 0 ≤ i → i ≤ 10 → 10 - i < n → zndv v10 = true → P = zSm (fun i => if i < qH A i then 1 else 0) i → O = zSm (fun i => gBy (zpl (qW A) i) i) i → gRR me' A → zFr 1 me me' → zW mL_areDancers d 0 0 Q 48 [zR 1, zR 167, zR 168, zR 169, zR 172, zR 173, zI P, zI O, zI 1, zI i, v10] [] sp me' by
    exact H 11 0 0 0 zU me3 (by omega) (by omega) (by omega) rfl rfl rfl hR3 ((hF1.tr hF2).tr hF3)
  intro n
  induction n with
  | zero => intro i P O v10 me' h0 h1 h2; omega
  | succ n ih =>
  intro i P O v10 me' hi0 hi1 hi2 hv10 hP hO hR0 hF0
  have hbP := zSm_bd (g := fun i => if i < qH A i then 1 else 0) (a := 0) (b := 1) (fun p _ => by split <;> omega) i hi0
  have hbO := gOff_bd hI hi0 hi1
  refine z_L9I (pc' := 50) dL_areDancers_48 rfl ?_
  refine z_bipush (pc' := 52) dL_areDancers_50 rfl (by decide) ?_
  refine z_icmp_ge (tgt := 196) (pc' := 55) dL_areDancers_52 (by decide) rfl (fun h52 => ?_) (fun h52 => ?_)
  · obtain rfl : i = 10 := by omega
    refine z_iconst (pc' := 197) dL_areDancers_196 rfl (by unfold zin; decide) ?_
    refine z_S9I (pc' := 199) rfl dL_areDancers_197 rfl ?_
    refine z_iconst (pc' := 200) dL_areDancers_199 rfl (by unfold zin; decide) ?_
    refine z_S10I (pc' := 202) rfl dL_areDancers_200 rfl ?_
    suffices H : ∀ (n : Nat) (k P2 : Int), 0 ≤ k → k ≤ 8 → 8 - k < n → P2 = zSm (fun k => if 0 < qS A k then 1 else 0) k → zW mL_areDancers d 0 0 Q 202 [zR 1, zR 167, zR 168, zR 169, zR 172, zR 173, zI P, zI O, zI 1, zI P2, zI k] [] sp me' by
      exact H 9 0 0 (by omega) (by omega) (by omega) rfl
    intro n
    induction n with
    | zero => intro k P2 h0 h1 h2; omega
    | succ n ih2 =>
    intro k P2 hk0 hk1 hk2 hP2
    have hb2 := zSm_bd (g := fun k => if 0 < qS A k then 1 else 0) (a := 0) (b := 1) (fun p _ => by split <;> omega) k hk0
    refine z_L10I (pc' := 204) dL_areDancers_202 rfl ?_
    refine z_bipush (pc' := 206) dL_areDancers_204 rfl (by decide) ?_
    refine z_icmp_ge (tgt := 233) (pc' := 209) dL_areDancers_206 (by decide) rfl (fun h206 => ?_) (fun h206 => ?_)
    · obtain rfl : k = 8 := by omega
      have hb8 := hb2
      refine z_L8I (pc' := 235) dL_areDancers_233 rfl ?_
      refine z_if_eq (tgt := 362) (pc' := 238) dL_areDancers_235 (by decide) rfl (fun h235 => absurd h235 (by omega)) (fun h235 => ?_)
      refine z_L0R (pc' := 239) dL_areDancers_238 rfl ?_
      refine z_iconst (pc' := 240) dL_areDancers_239 rfl (by unfold zin; decide) ?_
      refine z_V1v (pc' := 243) (ci := 8) kX8_count lL_56 dL_areDancers_240 rfl (by omega) (Nat.le_of_ble_eq_true rfl) (by decide) rfl hx.s ?_
      refine x_count (by omega) hx hR0.1 hI (fun me8 hX8 hF8 => zKv_i ?_)
      have hR8 := hR0.x hX8 hF8
      rw [vC0]
      refine z_L1R (pc' := 244) dL_areDancers_243 rfl ?_
      refine z_L2R (pc' := 245) dL_areDancers_244 rfl ?_
      refine z_iconst (pc' := 246) dL_areDancers_245 rfl (by unfold zin; decide) ?_
      refine z_S3v (pc' := 249) kL_home lL_39 dL_areDancers_246 rfl (by omega) (Nat.le_of_ble_eq_true rfl) ?_
      refine l_home hp hf (zKv_i ?_)
      rw [show gHome (me8 167) (me8 168) 1 = zhcnt (qW A) (qF A) from gHome_1 (R := (qW A, qF A)) hI.1.1 hR8.2.1]
      refine z_icmp_ne (tgt := 362) (pc' := 252) dL_areDancers_249 (by decide) rfl (fun h249 => absurd h249 (by omega)) (fun h249 => ?_)
      refine z_L0R (pc' := 253) dL_areDancers_252 rfl ?_
      refine z_iconst (pc' := 254) dL_areDancers_253 rfl (by unfold zin; decide) ?_
      refine z_V1v (pc' := 257) (ci := 8) kX8_count lL_56 dL_areDancers_254 rfl (by omega) (Nat.le_of_ble_eq_true rfl) (by decide) rfl hx.s ?_
      refine x_count (by omega) hx hR8.1 hI (fun me9 hX9 hF9 => zKv_i ?_)
      have hR9 := hR8.x hX9 hF9
      rw [vC1]
      refine z_L1R (pc' := 258) dL_areDancers_257 rfl ?_
      refine z_L2R (pc' := 259) dL_areDancers_258 rfl ?_
      refine z_iconst (pc' := 260) dL_areDancers_259 rfl (by unfold zin; decide) ?_
      refine z_S3v (pc' := 263) kL_home lL_39 dL_areDancers_260 rfl (by omega) (Nat.le_of_ble_eq_true rfl) ?_
      refine l_home hp hf (zKv_i ?_)
      rw [show gHome (me9 167) (me9 168) 0 = zSm (fun p => if qW A p = p then 1 else 0) 10 from gHome_0 (R := (qW A, qF A)) hI.1.1 hR9.2.1]
      refine z_icmp_ne (tgt := 362) (pc' := 266) dL_areDancers_263 (by decide) rfl (fun h263 => absurd h263 (by omega)) (fun h263 => ?_)
      refine z_L0R (pc' := 267) dL_areDancers_266 rfl ?_
      refine z_iconst (pc' := 268) dL_areDancers_267 rfl (by unfold zin; decide) ?_
      refine z_V1v (pc' := 271) (ci := 8) kX8_count lL_56 dL_areDancers_268 rfl (by omega) (Nat.le_of_ble_eq_true rfl) (by decide) rfl hx.s ?_
      refine x_count (by omega) hx hR9.1 hI (fun me10 hX10 hF10 => zKv_i ?_)
      have hR10 := hR9.x hX10 hF10
      rw [vC2]
      have hpn : qP A = zSm (fun i => if i < qH A i then 1 else 0) 10 := hI.1.2.2.1
      refine z_L6I (pc' := 273) dL_areDancers_271 rfl ?_
      refine z_icmp_ne (tgt := 362) (pc' := 276) dL_areDancers_273 (by decide) rfl (fun h273 => absurd h273 (by omega)) (fun h273 => ?_)
      refine z_L0R (pc' := 277) dL_areDancers_276 rfl ?_
      refine z_iconst (pc' := 278) dL_areDancers_277 rfl (by unfold zin; decide) ?_
      refine z_V1v (pc' := 281) (ci := 8) kX8_count lL_56 dL_areDancers_278 rfl (by omega) (Nat.le_of_ble_eq_true rfl) (by decide) rfl hx.s ?_
      refine x_count (by omega) hx hR10.1 hI (fun me11 hX11 hF11 => zKv_i ?_)
      have hR11 := hR10.x hX11 hF11
      rw [vC3]
      refine z_L9I (pc' := 283) dL_areDancers_281 rfl ?_
      refine z_icmp_ne (tgt := 362) (pc' := 286) dL_areDancers_283 (by decide) rfl (fun h283 => absurd h283 (by omega)) (fun h283 => ?_)
      refine z_L0R (pc' := 287) dL_areDancers_286 rfl ?_
      refine z_bipush (pc' := 289) dL_areDancers_287 rfl (by decide) ?_
      refine z_V1v (pc' := 292) (ci := 8) kX8_count lL_56 dL_areDancers_289 rfl (by omega) (Nat.le_of_ble_eq_true rfl) (by decide) rfl hx.s ?_
      refine x_count (by omega) hx hR11.1 hI (fun me12 hX12 hF12 => zKv_i ?_)
      have hR12 := hR11.x hX12 hF12
      rw [vC6]
      refine z_bipush (pc' := 294) dL_areDancers_292 rfl (by decide) ?_
      refine z_icmp_ne (tgt := 362) (pc' := 297) dL_areDancers_294 (by decide) rfl (fun h294 => absurd h294 (by omega)) (fun h294 => ?_)
      refine z_L0R (pc' := 298) dL_areDancers_297 rfl ?_
      refine z_iconst (pc' := 299) dL_areDancers_298 rfl (by unfold zin; decide) ?_
      refine z_V1v (pc' := 302) (ci := 8) kX8_total lL_59 dL_areDancers_299 rfl (by omega) (Nat.le_of_ble_eq_true rfl) (by decide) rfl hx.s ?_
      refine x_total (by omega) hx hR12.1 hI (fun me13 hX13 hF13 => zKv_i ?_)
      have hR13 := hR12.x hX13 hF13
      rw [vT0]
      have ht0 := hR13.2.2.2.2.2.1
      refine z_L5R (pc' := 304) dL_areDancers_302 rfl ?_
      refine z_iconst (pc' := 305) dL_areDancers_304 rfl (by unfold zin; decide) ?_
      refine z_ild (pc' := 306) dL_areDancers_305 rfl ht (by omega) (by omega) ?_
      refine z_icmp_ne (tgt := 362) (pc' := 309) dL_areDancers_306 (by decide) rfl (fun h306 => absurd h306 (by omega)) (fun h306 => ?_)
      refine z_L0R (pc' := 310) dL_areDancers_309 rfl ?_
      refine z_iconst (pc' := 311) dL_areDancers_310 rfl (by unfold zin; decide) ?_
      refine z_V1v (pc' := 314) (ci := 8) kX8_total lL_59 dL_areDancers_311 rfl (by omega) (Nat.le_of_ble_eq_true rfl) (by decide) rfl hx.s ?_
      refine x_total (by omega) hx hR13.1 hI (fun me14 hX14 hF14 => zKv_i ?_)
      have hR14 := hR13.x hX14 hF14
      rw [vT1]
      have ht1 := hR14.2.2.2.2.2.2.1
      refine z_L5R (pc' := 316) dL_areDancers_314 rfl ?_
      refine z_iconst (pc' := 317) dL_areDancers_316 rfl (by unfold zin; decide) ?_
      refine z_ild (pc' := 318) dL_areDancers_317 rfl ht (by omega) (by omega) ?_
      refine z_icmp_ne (tgt := 362) (pc' := 321) dL_areDancers_318 (by decide) rfl (fun h318 => absurd h318 (by omega)) (fun h318 => ?_)
      refine z_L0R (pc' := 322) dL_areDancers_321 rfl ?_
      refine z_iconst (pc' := 323) dL_areDancers_322 rfl (by unfold zin; decide) ?_
      refine z_V1v (pc' := 326) (ci := 8) kX8_total lL_59 dL_areDancers_323 rfl (by omega) (Nat.le_of_ble_eq_true rfl) (by decide) rfl hx.s ?_
      refine x_total (by omega) hx hR14.1 hI (fun me15 hX15 hF15 => zKv_i ?_)
      have hR15 := hR14.x hX15 hF15
      rw [vT2]
      have ht2 := hR15.2.2.2.2.2.2.2
      refine z_L5R (pc' := 328) dL_areDancers_326 rfl ?_
      refine z_iconst (pc' := 329) dL_areDancers_328 rfl (by unfold zin; decide) ?_
      refine z_ild (pc' := 330) dL_areDancers_329 rfl ht (by omega) (by omega) ?_
      refine z_icmp_ne (tgt := 362) (pc' := 333) dL_areDancers_330 (by decide) rfl (fun h330 => absurd h330 (by omega)) (fun h330 => ?_)
      refine z_L0R (pc' := 334) dL_areDancers_333 rfl ?_
      refine z_iconst (pc' := 335) dL_areDancers_334 rfl (by unfold zin; decide) ?_
      refine z_V1v (pc' := 338) (ci := 8) kX8_total lL_59 dL_areDancers_335 rfl (by omega) (Nat.le_of_ble_eq_true rfl) (by decide) rfl hx.s ?_
      refine x_total (by omega) hx hR15.1 hI (fun me16 hX16 hF16 => zKv_i ?_)
      have hR16 := hR15.x hX16 hF16
      rw [vT3]
      refine z_bipush (pc' := 340) dL_areDancers_338 rfl (by decide) ?_
      refine z_icmp_ne (tgt := 362) (pc' := 343) dL_areDancers_340 (by decide) rfl (fun h340 => absurd h340 (by omega)) (fun h340 => ?_)
      refine z_L0R (pc' := 344) dL_areDancers_343 rfl ?_
      refine z_V0v (pc' := 347) (ci := 8) kX8_distance lL_62 dL_areDancers_344 rfl (by omega) (Nat.le_of_ble_eq_true rfl) (by decide) rfl hx.s ?_
      refine x_distance (by omega) hx hR16.1 hI (fun me17 hX17 hF17 => zKv_i ?_)
      have hR17 := hR16.x hX17 hF17
      have hDd := vDist hI
      rw [hDd, ← hO]
      obtain ⟨o9, rfl⟩ := Int.eq_ofNat_of_zero_le (show 0 ≤ O by omega)
      refine z_L7I (pc' := 349) dL_areDancers_347 rfl ?_
      refine z_i2d (pc' := 350) dL_areDancers_349 rfl ?_
      refine z_ldc2 (pc' := 353) dL_areDancers_350 rfl uL_66 ?_
      refine z_ddiv (pc' := 354) dL_areDancers_353 rfl (by exact zdd_ok o9 (by omega)) ?_
      show zW mL_areDancers d 0 0 Q 354 _ [zD (zdd (o9 : Int)), zD (zdd (o9 : Int))] sp me17
      refine z_dcmp (pc' := 355) dL_areDancers_354 rfl ?_
      rw [zdd_cmp o9 (by omega)]
      refine z_if_ne (tgt := 362) (pc' := 358) dL_areDancers_355 (by decide) rfl (fun h355 => absurd h355 (by omega)) (fun h355 => ?_)
      refine z_iconst (pc' := 359) dL_areDancers_358 rfl (by unfold zin; decide) ?_
      refine z_goto (tgt := 363) dL_areDancers_359 (by decide) ?_
      refine z_zreturn rfl rfl dL_areDancers_363 (by omega) ?_
      exact hQ me17 hR17 ((((((((((hF0.tr hF8).tr hF9).tr hF10).tr hF11).tr hF12).tr hF13).tr hF14).tr hF15).tr hF16).tr hF17)
    · have hck := (hR0.2.2.2.1 k hk0 (by omega)).1
      refine z_L9I (pc' := 211) dL_areDancers_209 rfl ?_
      refine z_L4R (pc' := 213) dL_areDancers_211 rfl ?_
      refine z_L10I (pc' := 215) dL_areDancers_213 rfl ?_
      refine z_ild (pc' := 216) dL_areDancers_215 rfl hc (by omega) (by omega) ?_
      refine z_if_le (tgt := 223) (pc' := 219) dL_areDancers_216 (by decide) rfl (fun h216 => ?_) (fun h216 => ?_)
      · refine z_iconst (pc' := 224) dL_areDancers_223 rfl (by unfold zin; decide) ?_
        refine z_iadd (pc' := 225) dL_areDancers_224 rfl (by unfold zin; omega) ?_
        refine z_S9I (pc' := 227) rfl dL_areDancers_225 rfl ?_
        refine z_inc10 (pc' := 230) rfl dL_areDancers_227 rfl (by unfold zin; omega) ?_
        refine z_goto (tgt := 202) dL_areDancers_230 (by decide) ?_
        refine ih2 (k + 1) _ (by omega) (by omega) (by omega) ?_
        rw [zSm_up _ _ hk0, hP2]
        (try dsimp only)
        split <;> omega
      · refine z_iconst (pc' := 220) dL_areDancers_219 rfl (by unfold zin; decide) ?_
        refine z_goto (tgt := 224) dL_areDancers_220 (by decide) ?_
        refine z_iadd (pc' := 225) dL_areDancers_224 rfl (by unfold zin; omega) ?_
        refine z_S9I (pc' := 227) rfl dL_areDancers_225 rfl ?_
        refine z_inc10 (pc' := 230) rfl dL_areDancers_227 rfl (by unfold zin; omega) ?_
        refine z_goto (tgt := 202) dL_areDancers_230 (by decide) ?_
        refine ih2 (k + 1) _ (by omega) (by omega) (by omega) ?_
        rw [zSm_up _ _ hk0, hP2]
        (try dsimp only)
        split <;> omega
  · refine z_L8I (pc' := 57) dL_areDancers_55 rfl ?_
    refine z_if_eq (tgt := 119) (pc' := 60) dL_areDancers_57 (by decide) rfl (fun h57 => absurd h57 (by omega)) (fun h57 => ?_)
    refine z_L0R (pc' := 61) dL_areDancers_60 rfl ?_
    refine z_L9I (pc' := 63) dL_areDancers_61 rfl ?_
    refine z_iconst (pc' := 64) dL_areDancers_63 rfl (by unfold zin; decide) ?_
    refine z_V2v (pc' := 67) (ci := 8) kX8_dancer lL_52 dL_areDancers_64 rfl (by omega) (Nat.le_of_ble_eq_true rfl) (by decide) rfl hx.s ?_
    refine x_dancer (by omega) hx hR0.1 hI (fun me4 hX4 hF4 => zKv_i ?_)
    have hR4 := hR0.x hX4 hF4
    have q4 := hR4.p hI hi0 (show i < 10 by omega)
    rw [vD0 hi0 (by omega)]
    refine z_L1R (pc' := 68) dL_areDancers_67 rfl ?_
    refine z_L9I (pc' := 70) dL_areDancers_68 rfl ?_
    refine z_ild (pc' := 71) dL_areDancers_70 rfl hp (by omega) (by omega) ?_
    refine z_icmp_ne (tgt := 119) (pc' := 74) dL_areDancers_71 (by decide) rfl (fun h71 => absurd h71 (by omega)) (fun h71 => ?_)
    refine z_L0R (pc' := 75) dL_areDancers_74 rfl ?_
    refine z_L9I (pc' := 77) dL_areDancers_75 rfl ?_
    refine z_iconst (pc' := 78) dL_areDancers_77 rfl (by unfold zin; decide) ?_
    refine z_V2v (pc' := 81) (ci := 8) kX8_dancer lL_52 dL_areDancers_78 rfl (by omega) (Nat.le_of_ble_eq_true rfl) (by decide) rfl hx.s ?_
    refine x_dancer (by omega) hx hR4.1 hI (fun me5 hX5 hF5 => zKv_i ?_)
    have hR5 := hR4.x hX5 hF5
    have q5 := hR5.p hI hi0 (show i < 10 by omega)
    rw [vD1 hi0 (by omega)]
    refine z_L2R (pc' := 82) dL_areDancers_81 rfl ?_
    refine z_L9I (pc' := 84) dL_areDancers_82 rfl ?_
    refine z_ild (pc' := 85) dL_areDancers_84 rfl hf (by omega) (by omega) ?_
    refine z_icmp_ne (tgt := 119) (pc' := 88) dL_areDancers_85 (by decide) rfl (fun h85 => absurd h85 (by omega)) (fun h85 => ?_)
    refine z_L0R (pc' := 89) dL_areDancers_88 rfl ?_
    refine z_L9I (pc' := 91) dL_areDancers_89 rfl ?_
    refine z_iconst (pc' := 92) dL_areDancers_91 rfl (by unfold zin; decide) ?_
    refine z_V2v (pc' := 95) (ci := 8) kX8_dancer lL_52 dL_areDancers_92 rfl (by omega) (Nat.le_of_ble_eq_true rfl) (by decide) rfl hx.s ?_
    refine x_dancer (by omega) hx hR5.1 hI (fun me6 hX6 hF6 => zKv_i ?_)
    have hR6 := hR5.x hX6 hF6
    have q6 := hR6.p hI hi0 (show i < 10 by omega)
    rw [vD2 hi0 (by omega)]
    refine z_L3R (pc' := 96) dL_areDancers_95 rfl ?_
    refine z_L9I (pc' := 98) dL_areDancers_96 rfl ?_
    refine z_ild (pc' := 99) dL_areDancers_98 rfl hh (by omega) (by omega) ?_
    refine z_icmp_ne (tgt := 119) (pc' := 102) dL_areDancers_99 (by decide) rfl (fun h99 => absurd h99 (by omega)) (fun h99 => ?_)
    refine z_L0R (pc' := 103) dL_areDancers_102 rfl ?_
    refine z_L1R (pc' := 104) dL_areDancers_103 rfl ?_
    refine z_L9I (pc' := 106) dL_areDancers_104 rfl ?_
    refine z_ild (pc' := 107) dL_areDancers_106 rfl hp (by omega) (by omega) ?_
    refine z_V1v (pc' := 110) (ci := 8) kX8_at lL_47 dL_areDancers_107 rfl (by omega) (Nat.le_of_ble_eq_true rfl) (by decide) rfl hx.s ?_
    rw [q6.1]
    refine x_at (by omega) hx hR6.1 hI (fun me7 hX7 hF7 => zKv_i ?_)
    have hR7 := hR6.x hX7 hF7
    have q7 := hR7.p hI hi0 (show i < 10 by omega)
    rw [vAt q7.2.2.2.1 q7.2.2.2.2.1, q7.2.2.2.2.2.1]
    refine z_L9I (pc' := 112) dL_areDancers_110 rfl ?_
    refine z_icmp_ne (tgt := 119) (pc' := 115) dL_areDancers_112 (by decide) rfl (fun h112 => absurd h112 (by omega)) (fun h112 => ?_)
    refine z_iconst (pc' := 116) dL_areDancers_115 rfl (by unfold zin; decide) ?_
    refine z_goto (tgt := 120) dL_areDancers_116 (by decide) ?_
    refine z_S8I (pc' := 122) rfl dL_areDancers_120 rfl ?_
    refine z_L6I (pc' := 124) dL_areDancers_122 rfl ?_
    refine z_L3R (pc' := 125) dL_areDancers_124 rfl ?_
    refine z_L9I (pc' := 127) dL_areDancers_125 rfl ?_
    refine z_ild (pc' := 128) dL_areDancers_127 rfl hh (by omega) (by omega) ?_
    refine z_L9I (pc' := 130) dL_areDancers_128 rfl ?_
    refine z_icmp_le (tgt := 137) (pc' := 133) dL_areDancers_130 (by decide) rfl (fun h130 => ?_) (fun h130 => ?_)
    · refine z_iconst (pc' := 138) dL_areDancers_137 rfl (by unfold zin; decide) ?_
      refine z_iadd (pc' := 139) dL_areDancers_138 rfl (by unfold zin; omega) ?_
      refine z_S6I (pc' := 141) rfl dL_areDancers_139 rfl ?_
      refine z_L1R (pc' := 142) dL_areDancers_141 rfl ?_
      refine z_L9I (pc' := 144) dL_areDancers_142 rfl ?_
      refine z_ild (pc' := 145) dL_areDancers_144 rfl hp (by omega) (by omega) ?_
      refine z_L9I (pc' := 147) dL_areDancers_145 rfl ?_
      refine z_icmp_le (tgt := 160) (pc' := 150) dL_areDancers_147 (by decide) rfl (fun h147 => ?_) (fun h147 => ?_)
      · refine z_L9I (pc' := 162) dL_areDancers_160 rfl ?_
        refine z_L1R (pc' := 163) dL_areDancers_162 rfl ?_
        refine z_L9I (pc' := 165) dL_areDancers_163 rfl ?_
        refine z_ild (pc' := 166) dL_areDancers_165 rfl hp (by omega) (by omega) ?_
        refine z_isub (pc' := 167) dL_areDancers_166 rfl (by unfold zin; omega) ?_
        refine z_S10I (pc' := 169) rfl dL_areDancers_167 rfl ?_
        refine z_L7I (pc' := 171) dL_areDancers_169 rfl ?_
        refine z_L10I (pc' := 173) dL_areDancers_171 rfl ?_
        refine z_iconst (pc' := 174) dL_areDancers_173 rfl (by unfold zin; decide) ?_
        refine z_icmp_le (tgt := 185) (pc' := 177) dL_areDancers_174 (by decide) rfl (fun h174 => ?_) (fun h174 => ?_)
        · refine z_L10I (pc' := 187) dL_areDancers_185 rfl ?_
          refine z_iadd (pc' := 188) dL_areDancers_187 rfl (by unfold zin; omega) ?_
          refine z_S7I (pc' := 190) rfl dL_areDancers_188 rfl ?_
          refine z_inc9 (pc' := 193) rfl dL_areDancers_190 rfl (by unfold zin; omega) ?_
          refine z_goto (tgt := 48) dL_areDancers_193 (by decide) ?_
          refine ih (i + 1) _ _ _ me7 (by omega) (by omega) (by omega) rfl ?_ ?_ hR7 ((((hF0.tr hF4).tr hF5).tr hF6).tr hF7)
          · rw [zSm_up _ _ hi0, hP]
            (try dsimp only)
            split <;> omega
          · rw [zSm_up _ _ hi0, hO]
            (try dsimp only)
            unfold gBy
            (repeat' split) <;> omega
        · refine z_bipush (pc' := 179) dL_areDancers_177 rfl (by decide) ?_
          refine z_L10I (pc' := 181) dL_areDancers_179 rfl ?_
          refine z_isub (pc' := 182) dL_areDancers_181 rfl (by unfold zin; omega) ?_
          refine z_goto (tgt := 187) dL_areDancers_182 (by decide) ?_
          refine z_iadd (pc' := 188) dL_areDancers_187 rfl (by unfold zin; omega) ?_
          refine z_S7I (pc' := 190) rfl dL_areDancers_188 rfl ?_
          refine z_inc9 (pc' := 193) rfl dL_areDancers_190 rfl (by unfold zin; omega) ?_
          refine z_goto (tgt := 48) dL_areDancers_193 (by decide) ?_
          refine ih (i + 1) _ _ _ me7 (by omega) (by omega) (by omega) rfl ?_ ?_ hR7 ((((hF0.tr hF4).tr hF5).tr hF6).tr hF7)
          · rw [zSm_up _ _ hi0, hP]
            (try dsimp only)
            split <;> omega
          · rw [zSm_up _ _ hi0, hO]
            (try dsimp only)
            unfold gBy
            (repeat' split) <;> omega
      · refine z_L1R (pc' := 151) dL_areDancers_150 rfl ?_
        refine z_L9I (pc' := 153) dL_areDancers_151 rfl ?_
        refine z_ild (pc' := 154) dL_areDancers_153 rfl hp (by omega) (by omega) ?_
        refine z_L9I (pc' := 156) dL_areDancers_154 rfl ?_
        refine z_isub (pc' := 157) dL_areDancers_156 rfl (by unfold zin; omega) ?_
        refine z_goto (tgt := 167) dL_areDancers_157 (by decide) ?_
        refine z_S10I (pc' := 169) rfl dL_areDancers_167 rfl ?_
        refine z_L7I (pc' := 171) dL_areDancers_169 rfl ?_
        refine z_L10I (pc' := 173) dL_areDancers_171 rfl ?_
        refine z_iconst (pc' := 174) dL_areDancers_173 rfl (by unfold zin; decide) ?_
        refine z_icmp_le (tgt := 185) (pc' := 177) dL_areDancers_174 (by decide) rfl (fun h174 => ?_) (fun h174 => ?_)
        · refine z_L10I (pc' := 187) dL_areDancers_185 rfl ?_
          refine z_iadd (pc' := 188) dL_areDancers_187 rfl (by unfold zin; omega) ?_
          refine z_S7I (pc' := 190) rfl dL_areDancers_188 rfl ?_
          refine z_inc9 (pc' := 193) rfl dL_areDancers_190 rfl (by unfold zin; omega) ?_
          refine z_goto (tgt := 48) dL_areDancers_193 (by decide) ?_
          refine ih (i + 1) _ _ _ me7 (by omega) (by omega) (by omega) rfl ?_ ?_ hR7 ((((hF0.tr hF4).tr hF5).tr hF6).tr hF7)
          · rw [zSm_up _ _ hi0, hP]
            (try dsimp only)
            split <;> omega
          · rw [zSm_up _ _ hi0, hO]
            (try dsimp only)
            unfold gBy
            (repeat' split) <;> omega
        · refine z_bipush (pc' := 179) dL_areDancers_177 rfl (by decide) ?_
          refine z_L10I (pc' := 181) dL_areDancers_179 rfl ?_
          refine z_isub (pc' := 182) dL_areDancers_181 rfl (by unfold zin; omega) ?_
          refine z_goto (tgt := 187) dL_areDancers_182 (by decide) ?_
          refine z_iadd (pc' := 188) dL_areDancers_187 rfl (by unfold zin; omega) ?_
          refine z_S7I (pc' := 190) rfl dL_areDancers_188 rfl ?_
          refine z_inc9 (pc' := 193) rfl dL_areDancers_190 rfl (by unfold zin; omega) ?_
          refine z_goto (tgt := 48) dL_areDancers_193 (by decide) ?_
          refine ih (i + 1) _ _ _ me7 (by omega) (by omega) (by omega) rfl ?_ ?_ hR7 ((((hF0.tr hF4).tr hF5).tr hF6).tr hF7)
          · rw [zSm_up _ _ hi0, hP]
            (try dsimp only)
            split <;> omega
          · rw [zSm_up _ _ hi0, hO]
            (try dsimp only)
            unfold gBy
            (repeat' split) <;> omega
    · refine z_iconst (pc' := 134) dL_areDancers_133 rfl (by unfold zin; decide) ?_
      refine z_goto (tgt := 138) dL_areDancers_134 (by decide) ?_
      refine z_iadd (pc' := 139) dL_areDancers_138 rfl (by unfold zin; omega) ?_
      refine z_S6I (pc' := 141) rfl dL_areDancers_139 rfl ?_
      refine z_L1R (pc' := 142) dL_areDancers_141 rfl ?_
      refine z_L9I (pc' := 144) dL_areDancers_142 rfl ?_
      refine z_ild (pc' := 145) dL_areDancers_144 rfl hp (by omega) (by omega) ?_
      refine z_L9I (pc' := 147) dL_areDancers_145 rfl ?_
      refine z_icmp_le (tgt := 160) (pc' := 150) dL_areDancers_147 (by decide) rfl (fun h147 => ?_) (fun h147 => ?_)
      · refine z_L9I (pc' := 162) dL_areDancers_160 rfl ?_
        refine z_L1R (pc' := 163) dL_areDancers_162 rfl ?_
        refine z_L9I (pc' := 165) dL_areDancers_163 rfl ?_
        refine z_ild (pc' := 166) dL_areDancers_165 rfl hp (by omega) (by omega) ?_
        refine z_isub (pc' := 167) dL_areDancers_166 rfl (by unfold zin; omega) ?_
        refine z_S10I (pc' := 169) rfl dL_areDancers_167 rfl ?_
        refine z_L7I (pc' := 171) dL_areDancers_169 rfl ?_
        refine z_L10I (pc' := 173) dL_areDancers_171 rfl ?_
        refine z_iconst (pc' := 174) dL_areDancers_173 rfl (by unfold zin; decide) ?_
        refine z_icmp_le (tgt := 185) (pc' := 177) dL_areDancers_174 (by decide) rfl (fun h174 => ?_) (fun h174 => ?_)
        · refine z_L10I (pc' := 187) dL_areDancers_185 rfl ?_
          refine z_iadd (pc' := 188) dL_areDancers_187 rfl (by unfold zin; omega) ?_
          refine z_S7I (pc' := 190) rfl dL_areDancers_188 rfl ?_
          refine z_inc9 (pc' := 193) rfl dL_areDancers_190 rfl (by unfold zin; omega) ?_
          refine z_goto (tgt := 48) dL_areDancers_193 (by decide) ?_
          refine ih (i + 1) _ _ _ me7 (by omega) (by omega) (by omega) rfl ?_ ?_ hR7 ((((hF0.tr hF4).tr hF5).tr hF6).tr hF7)
          · rw [zSm_up _ _ hi0, hP]
            (try dsimp only)
            split <;> omega
          · rw [zSm_up _ _ hi0, hO]
            (try dsimp only)
            unfold gBy
            (repeat' split) <;> omega
        · refine z_bipush (pc' := 179) dL_areDancers_177 rfl (by decide) ?_
          refine z_L10I (pc' := 181) dL_areDancers_179 rfl ?_
          refine z_isub (pc' := 182) dL_areDancers_181 rfl (by unfold zin; omega) ?_
          refine z_goto (tgt := 187) dL_areDancers_182 (by decide) ?_
          refine z_iadd (pc' := 188) dL_areDancers_187 rfl (by unfold zin; omega) ?_
          refine z_S7I (pc' := 190) rfl dL_areDancers_188 rfl ?_
          refine z_inc9 (pc' := 193) rfl dL_areDancers_190 rfl (by unfold zin; omega) ?_
          refine z_goto (tgt := 48) dL_areDancers_193 (by decide) ?_
          refine ih (i + 1) _ _ _ me7 (by omega) (by omega) (by omega) rfl ?_ ?_ hR7 ((((hF0.tr hF4).tr hF5).tr hF6).tr hF7)
          · rw [zSm_up _ _ hi0, hP]
            (try dsimp only)
            split <;> omega
          · rw [zSm_up _ _ hi0, hO]
            (try dsimp only)
            unfold gBy
            (repeat' split) <;> omega
      · refine z_L1R (pc' := 151) dL_areDancers_150 rfl ?_
        refine z_L9I (pc' := 153) dL_areDancers_151 rfl ?_
        refine z_ild (pc' := 154) dL_areDancers_153 rfl hp (by omega) (by omega) ?_
        refine z_L9I (pc' := 156) dL_areDancers_154 rfl ?_
        refine z_isub (pc' := 157) dL_areDancers_156 rfl (by unfold zin; omega) ?_
        refine z_goto (tgt := 167) dL_areDancers_157 (by decide) ?_
        refine z_S10I (pc' := 169) rfl dL_areDancers_167 rfl ?_
        refine z_L7I (pc' := 171) dL_areDancers_169 rfl ?_
        refine z_L10I (pc' := 173) dL_areDancers_171 rfl ?_
        refine z_iconst (pc' := 174) dL_areDancers_173 rfl (by unfold zin; decide) ?_
        refine z_icmp_le (tgt := 185) (pc' := 177) dL_areDancers_174 (by decide) rfl (fun h174 => ?_) (fun h174 => ?_)
        · refine z_L10I (pc' := 187) dL_areDancers_185 rfl ?_
          refine z_iadd (pc' := 188) dL_areDancers_187 rfl (by unfold zin; omega) ?_
          refine z_S7I (pc' := 190) rfl dL_areDancers_188 rfl ?_
          refine z_inc9 (pc' := 193) rfl dL_areDancers_190 rfl (by unfold zin; omega) ?_
          refine z_goto (tgt := 48) dL_areDancers_193 (by decide) ?_
          refine ih (i + 1) _ _ _ me7 (by omega) (by omega) (by omega) rfl ?_ ?_ hR7 ((((hF0.tr hF4).tr hF5).tr hF6).tr hF7)
          · rw [zSm_up _ _ hi0, hP]
            (try dsimp only)
            split <;> omega
          · rw [zSm_up _ _ hi0, hO]
            (try dsimp only)
            unfold gBy
            (repeat' split) <;> omega
        · refine z_bipush (pc' := 179) dL_areDancers_177 rfl (by decide) ?_
          refine z_L10I (pc' := 181) dL_areDancers_179 rfl ?_
          refine z_isub (pc' := 182) dL_areDancers_181 rfl (by unfold zin; omega) ?_
          refine z_goto (tgt := 187) dL_areDancers_182 (by decide) ?_
          refine z_iadd (pc' := 188) dL_areDancers_187 rfl (by unfold zin; omega) ?_
          refine z_S7I (pc' := 190) rfl dL_areDancers_188 rfl ?_
          refine z_inc9 (pc' := 193) rfl dL_areDancers_190 rfl (by unfold zin; omega) ?_
          refine z_goto (tgt := 48) dL_areDancers_193 (by decide) ?_
          refine ih (i + 1) _ _ _ me7 (by omega) (by omega) (by omega) rfl ?_ ?_ hR7 ((((hF0.tr hF4).tr hF5).tr hF6).tr hF7)
          · rw [zSm_up _ _ hi0, hP]
            (try dsimp only)
            split <;> omega
          · rw [zSm_up _ _ hi0, hO]
            (try dsimp only)
            unfold gBy
            (repeat' split) <;> omega
end ZLH

