section ZLAW
abbrev mL (N : Nat) (f : Int → Int) : zMd := (x, code, 8, ret, some (N, f))
theorem zMX_congr {me me' : zMe} {y : Nat} {A : zAb} (hc : ∀ a, y ≤ a → a ≤ y + 17 → me' a = me a) (h : zMX me y A) : zMX me' y A := by
  obtain ⟨h1, h2, h3, h4, h5⟩ := h
  refine ⟨?_, ⟨?_, h2.2.1, fun j S hj => ?_⟩, ?_, ?_, ?_⟩
  · rw [hc (y + 1) (by omega) (by omega)]; exact h1
  · rw [hc y (by omega) (by omega)]; exact h2.1
  · rw [hc (y + 2) (by omega) (by omega)]; exact h2.2.2 j S hj
  · rw [hc y (by omega) (by omega), hc (y + 3) (by omega) (by omega)]; exact h3
  · rw [hc y (by omega) (by omega)]; exact h4
  · rw [hc (y + 11) (by omega) (by omega)]; exact h5
set_option maxRecDepth 100000 in
set_option maxHeartbeats 4000000 in
theorem law_loop {d : Nat} {sp : zSP} {me : zMe} {Q : zQ} {N : Nat} {f : Int → Int} (hd : 21 ≤ d) (hN : N ≤ 2560) (hx : zObj sp 1) (hy : zMod sp 167) (hX : zRX me 1 zA0) (hY : zMX me 167 zA0) (hQ : ∀ sp' me', Q (some (zI 1)) sp' me') : zW (mL N f) d 0 0 Q 18 [zR 0, zR 1, zR 167, zI 0, zU, zU, zU, zU] [] sp me := by
  suffices H : ∀ (n : Nat) (i : Int) (v4 v5 v6 v7 : zV) (me' : zMe) (A : zAb), 0 ≤ i → i ≤ N → N + 5 - i < n → zRX me' 1 A → zMX me' 167 A → zIA (20000 * i) A → zW (mL N f) d 0 0 Q 18 [zR 0, zR 1, zR 167, zI i, v4, v5, v6, v7] [] sp me' by
    exact H (N + 6) 0 zU zU zU zU me zA0 (by omega) (by omega) (by omega) hX hY (zIA_mono zIA_0 (by omega))
  intro n
  induction n with
  | zero => intro i v4 v5 v6 v7 me' A h0 h1 h2; omega
  | succ n ih =>
  intro i v4 v5 v6 v7 me' A hi0 hiN hi hX hY hI
  refine z_L3I (pc' := 19) dL_law_18 rfl ?_
  refine z_L0R (pc' := 20) dL_law_19 rfl ?_
  refine z_slen (pc' := 21) rfl dL_law_20 rfl ?_
  refine z_iconst (pc' := 22) dL_law_21 rfl (by unfold zin; decide) ?_
  refine z_isub (pc' := 23) dL_law_22 rfl (by unfold zin; omega) ?_
  refine z_icmp_gt (tgt := 902) (pc' := 26) dL_law_23 (by decide) rfl (fun h23 => ?_) (fun h23 => ?_)
  · refine z_iconst (pc' := 903) dL_law_902 rfl (by unfold zin; decide) ?_
    refine z_zreturn rfl rfl dL_law_903 (by omega) ?_
    exact hQ _ _
  · have he : 20000 * (i + 5) = 20000 * i + 100000 := by omega
    refine z_L0R (pc' := 27) dL_law_26 rfl ?_
    refine z_L3I (pc' := 28) dL_law_27 rfl ?_
    refine z_sld (pc' := 29) rfl dL_law_28 rfl (by omega) (by omega) ?_
    refine z_bipush (pc' := 31) dL_law_29 rfl (by decide) ?_
    refine z_iand (pc' := 32) dL_law_31 rfl ?_
    generalize zand (f i) 31 = c
    have hc : c = 0 ∨ c = 1 ∨ c = 2 ∨ c = 3 ∨ c = 4 ∨ c = 5 ∨ c = 6 ∨ c = 7 ∨ c = 8 ∨ c = 9 ∨ c = 10 ∨ c = 11 ∨ c = 12 ∨ c = 13 ∨ c = 14 ∨ c = 15 ∨ c = 16 ∨ c = 17 ∨ c = 18 ∨ c = 19 ∨ c = 20 ∨ c = 21 ∨ c = 22 ∨ c = 23 ∨ c = 24 ∨ c = 25 ∨ (c < 0 ∨ 25 < c) := by omega
    rcases hc with hc | hc | hc | hc | hc | hc | hc | hc | hc | hc | hc | hc | hc | hc | hc | hc | hc | hc | hc | hc | hc | hc | hc | hc | hc | hc | hc
    · subst hc
      refine z_tswIn (tgt := 152) dL_law_32 (by decide) (by decide) rfl (by decide) ?_
      refine z_L1R (pc' := 153) dL_law_152 rfl ?_
      refine z_L0R (pc' := 154) dL_law_153 rfl ?_
      refine z_L3I (pc' := 155) dL_law_154 rfl ?_
      refine z_iconst (pc' := 156) dL_law_155 rfl (by unfold zin; decide) ?_
      refine z_iadd (pc' := 157) dL_law_156 rfl (by unfold zin; omega) ?_
      refine z_sld (pc' := 158) rfl dL_law_157 rfl (by omega) (by omega) ?_
      refine z_L0R (pc' := 159) dL_law_158 rfl ?_
      refine z_L3I (pc' := 160) dL_law_159 rfl ?_
      refine z_iconst (pc' := 161) dL_law_160 rfl (by unfold zin; decide) ?_
      refine z_iadd (pc' := 162) dL_law_161 rfl (by unfold zin; omega) ?_
      refine z_sld (pc' := 163) rfl dL_law_162 rfl (by omega) (by omega) ?_
      refine z_L0R (pc' := 164) dL_law_163 rfl ?_
      refine z_L3I (pc' := 165) dL_law_164 rfl ?_
      refine z_iconst (pc' := 166) dL_law_165 rfl (by unfold zin; decide) ?_
      refine z_iadd (pc' := 167) dL_law_166 rfl (by unfold zin; omega) ?_
      refine z_sld (pc' := 168) rfl dL_law_167 rfl (by omega) (by omega) ?_
      refine z_L0R (pc' := 169) dL_law_168 rfl ?_
      refine z_L3I (pc' := 170) dL_law_169 rfl ?_
      refine z_iconst (pc' := 171) dL_law_170 rfl (by unfold zin; decide) ?_
      refine z_iadd (pc' := 172) dL_law_171 rfl (by unfold zin; omega) ?_
      refine z_sld (pc' := 173) rfl dL_law_172 rfl (by omega) (by omega) ?_
      refine z_V4v (pc' := 176) (ci := 8) kX8_add lL_13 dL_law_173 rfl (by omega) (Nat.le_of_ble_eq_true rfl) (by decide) rfl hx.s ?_
      refine x_add (by omega) hx hX hI (fun me1 hX1 hF1 => zKv_i ?_)
      have hY1 := zMX_congr (fun a h1 h2 => hF1 a (Or.inr (by omega))) hY
      refine z_L2R (pc' := 177) dL_law_176 rfl ?_
      refine z_L0R (pc' := 178) dL_law_177 rfl ?_
      refine z_L3I (pc' := 179) dL_law_178 rfl ?_
      refine z_iconst (pc' := 180) dL_law_179 rfl (by unfold zin; decide) ?_
      refine z_iadd (pc' := 181) dL_law_180 rfl (by unfold zin; omega) ?_
      refine z_sld (pc' := 182) rfl dL_law_181 rfl (by omega) (by omega) ?_
      refine z_L0R (pc' := 183) dL_law_182 rfl ?_
      refine z_L3I (pc' := 184) dL_law_183 rfl ?_
      refine z_iconst (pc' := 185) dL_law_184 rfl (by unfold zin; decide) ?_
      refine z_iadd (pc' := 186) dL_law_185 rfl (by unfold zin; omega) ?_
      refine z_sld (pc' := 187) rfl dL_law_186 rfl (by omega) (by omega) ?_
      refine z_L0R (pc' := 188) dL_law_187 rfl ?_
      refine z_L3I (pc' := 189) dL_law_188 rfl ?_
      refine z_iconst (pc' := 190) dL_law_189 rfl (by unfold zin; decide) ?_
      refine z_iadd (pc' := 191) dL_law_190 rfl (by unfold zin; omega) ?_
      refine z_sld (pc' := 192) rfl dL_law_191 rfl (by omega) (by omega) ?_
      refine z_L0R (pc' := 193) dL_law_192 rfl ?_
      refine z_L3I (pc' := 194) dL_law_193 rfl ?_
      refine z_iconst (pc' := 195) dL_law_194 rfl (by unfold zin; decide) ?_
      refine z_iadd (pc' := 196) dL_law_195 rfl (by unfold zin; omega) ?_
      refine z_sld (pc' := 197) rfl dL_law_196 rfl (by omega) (by omega) ?_
      refine z_V4v (pc' := 200) (ci := 9) kX9_add lL_17 dL_law_197 rfl (by omega) (Nat.le_of_ble_eq_true rfl) (by decide) rfl hy.s ?_
      refine y_add (by omega) hy hY1 hI (fun me2 hY2 hF2 => zKv_i ?_)
      have hX2 := zRX_congr (fun a h1 h2 => hF2 a (Or.inl (by omega))) hX1
      have hI2 : zIA (20000 * i + 100000) (zoAdd A (f (i + 1)) (f (i + 2)) (f (i + 3)) (f (i + 4))).2 := zIA_add hI
      refine z_icmp_eq (tgt := 896) (pc' := 203) dL_law_200 (by decide) rfl (fun h200 => ?_) (fun h200 => absurd h200 (by omega))
      refine z_inc3 (pc' := 899) rfl dL_law_896 rfl (by unfold zin; omega) ?_
      refine z_goto (tgt := 18) dL_law_899 (by decide) ?_
      first
      | exact ih (i + 5) _ _ _ _ me2 _ (by omega) (by omega) (by omega) hX2 hY2 (by rw [he]; exact hI2)
      | exact ih (i + 5) _ _ _ _ me' A (by omega) (by omega) (by omega) hX hY (zIA_mono hI (by omega))
    · subst hc
      refine z_tswIn (tgt := 205) dL_law_32 (by decide) (by decide) rfl (by decide) ?_
      refine z_L1R (pc' := 206) dL_law_205 rfl ?_
      refine z_L0R (pc' := 207) dL_law_206 rfl ?_
      refine z_L3I (pc' := 208) dL_law_207 rfl ?_
      refine z_iconst (pc' := 209) dL_law_208 rfl (by unfold zin; decide) ?_
      refine z_iadd (pc' := 210) dL_law_209 rfl (by unfold zin; omega) ?_
      refine z_sld (pc' := 211) rfl dL_law_210 rfl (by omega) (by omega) ?_
      refine z_V1v (pc' := 214) (ci := 8) kX8_drop lL_18 dL_law_211 rfl (by omega) (Nat.le_of_ble_eq_true rfl) (by decide) rfl hx.s ?_
      refine x_drop (by omega) hx hX hI (fun me1 hX1 hF1 => zKv_i ?_)
      have hY1 := zMX_congr (fun a h1 h2 => hF1 a (Or.inr (by omega))) hY
      refine z_L2R (pc' := 215) dL_law_214 rfl ?_
      refine z_L0R (pc' := 216) dL_law_215 rfl ?_
      refine z_L3I (pc' := 217) dL_law_216 rfl ?_
      refine z_iconst (pc' := 218) dL_law_217 rfl (by unfold zin; decide) ?_
      refine z_iadd (pc' := 219) dL_law_218 rfl (by unfold zin; omega) ?_
      refine z_sld (pc' := 220) rfl dL_law_219 rfl (by omega) (by omega) ?_
      refine z_V1v (pc' := 223) (ci := 9) kX9_drop lL_22 dL_law_220 rfl (by omega) (Nat.le_of_ble_eq_true rfl) (by decide) rfl hy.s ?_
      refine y_drop (by omega) hy hY1 hI (fun me2 hY2 hF2 => zKv_i ?_)
      have hX2 := zRX_congr (fun a h1 h2 => hF2 a (Or.inl (by omega))) hX1
      have hI2 : zIA (20000 * i + 100000) (zoDrop A (f (i + 1))).2 := zIA_drop hI
      refine z_icmp_eq (tgt := 896) (pc' := 226) dL_law_223 (by decide) rfl (fun h223 => ?_) (fun h223 => absurd h223 (by omega))
      refine z_inc3 (pc' := 899) rfl dL_law_896 rfl (by unfold zin; omega) ?_
      refine z_goto (tgt := 18) dL_law_899 (by decide) ?_
      first
      | exact ih (i + 5) _ _ _ _ me2 _ (by omega) (by omega) (by omega) hX2 hY2 (by rw [he]; exact hI2)
      | exact ih (i + 5) _ _ _ _ me' A (by omega) (by omega) (by omega) hX hY (zIA_mono hI (by omega))
    · subst hc
      refine z_tswIn (tgt := 228) dL_law_32 (by decide) (by decide) rfl (by decide) ?_
      refine z_L1R (pc' := 229) dL_law_228 rfl ?_
      refine z_L0R (pc' := 230) dL_law_229 rfl ?_
      refine z_L3I (pc' := 231) dL_law_230 rfl ?_
      refine z_iconst (pc' := 232) dL_law_231 rfl (by unfold zin; decide) ?_
      refine z_iadd (pc' := 233) dL_law_232 rfl (by unfold zin; omega) ?_
      refine z_sld (pc' := 234) rfl dL_law_233 rfl (by omega) (by omega) ?_
      refine z_L0R (pc' := 235) dL_law_234 rfl ?_
      refine z_L3I (pc' := 236) dL_law_235 rfl ?_
      refine z_iconst (pc' := 237) dL_law_236 rfl (by unfold zin; decide) ?_
      refine z_iadd (pc' := 238) dL_law_237 rfl (by unfold zin; omega) ?_
      refine z_sld (pc' := 239) rfl dL_law_238 rfl (by omega) (by omega) ?_
      refine z_V2v (pc' := 242) (ci := 8) kX8_hold lL_23 dL_law_239 rfl (by omega) (Nat.le_of_ble_eq_true rfl) (by decide) rfl hx.s ?_
      refine x_hold (by omega) hx hX hI (fun me1 hX1 hF1 => zKv_i ?_)
      have hY1 := zMX_congr (fun a h1 h2 => hF1 a (Or.inr (by omega))) hY
      refine z_L2R (pc' := 243) dL_law_242 rfl ?_
      refine z_L0R (pc' := 244) dL_law_243 rfl ?_
      refine z_L3I (pc' := 245) dL_law_244 rfl ?_
      refine z_iconst (pc' := 246) dL_law_245 rfl (by unfold zin; decide) ?_
      refine z_iadd (pc' := 247) dL_law_246 rfl (by unfold zin; omega) ?_
      refine z_sld (pc' := 248) rfl dL_law_247 rfl (by omega) (by omega) ?_
      refine z_L0R (pc' := 249) dL_law_248 rfl ?_
      refine z_L3I (pc' := 250) dL_law_249 rfl ?_
      refine z_iconst (pc' := 251) dL_law_250 rfl (by unfold zin; decide) ?_
      refine z_iadd (pc' := 252) dL_law_251 rfl (by unfold zin; omega) ?_
      refine z_sld (pc' := 253) rfl dL_law_252 rfl (by omega) (by omega) ?_
      refine z_V2v (pc' := 256) (ci := 9) kX9_hold lL_27 dL_law_253 rfl (by omega) (Nat.le_of_ble_eq_true rfl) (by decide) rfl hy.s ?_
      refine y_hold (by omega) hy hY1 hI (fun me2 hY2 hF2 => zKv_i ?_)
      have hX2 := zRX_congr (fun a h1 h2 => hF2 a (Or.inl (by omega))) hX1
      have hI2 : zIA (20000 * i + 100000) (zoHold A (f (i + 1)) (f (i + 2))).2 := zIA_hold hI
      refine z_icmp_eq (tgt := 896) (pc' := 259) dL_law_256 (by decide) rfl (fun h256 => ?_) (fun h256 => absurd h256 (by omega))
      refine z_inc3 (pc' := 899) rfl dL_law_896 rfl (by unfold zin; omega) ?_
      refine z_goto (tgt := 18) dL_law_899 (by decide) ?_
      first
      | exact ih (i + 5) _ _ _ _ me2 _ (by omega) (by omega) (by omega) hX2 hY2 (by rw [he]; exact hI2)
      | exact ih (i + 5) _ _ _ _ me' A (by omega) (by omega) (by omega) hX hY (zIA_mono hI (by omega))
    · subst hc
      refine z_tswIn (tgt := 261) dL_law_32 (by decide) (by decide) rfl (by decide) ?_
      refine z_L1R (pc' := 262) dL_law_261 rfl ?_
      refine z_L0R (pc' := 263) dL_law_262 rfl ?_
      refine z_L3I (pc' := 264) dL_law_263 rfl ?_
      refine z_iconst (pc' := 265) dL_law_264 rfl (by unfold zin; decide) ?_
      refine z_iadd (pc' := 266) dL_law_265 rfl (by unfold zin; omega) ?_
      refine z_sld (pc' := 267) rfl dL_law_266 rfl (by omega) (by omega) ?_
      refine z_V1v (pc' := 270) (ci := 8) kX8_release lL_28 dL_law_267 rfl (by omega) (Nat.le_of_ble_eq_true rfl) (by decide) rfl hx.s ?_
      refine x_release (by omega) hx hX hI (fun me1 hX1 hF1 => zKv_i ?_)
      have hY1 := zMX_congr (fun a h1 h2 => hF1 a (Or.inr (by omega))) hY
      refine z_L2R (pc' := 271) dL_law_270 rfl ?_
      refine z_L0R (pc' := 272) dL_law_271 rfl ?_
      refine z_L3I (pc' := 273) dL_law_272 rfl ?_
      refine z_iconst (pc' := 274) dL_law_273 rfl (by unfold zin; decide) ?_
      refine z_iadd (pc' := 275) dL_law_274 rfl (by unfold zin; omega) ?_
      refine z_sld (pc' := 276) rfl dL_law_275 rfl (by omega) (by omega) ?_
      refine z_V1v (pc' := 279) (ci := 9) kX9_release lL_31 dL_law_276 rfl (by omega) (Nat.le_of_ble_eq_true rfl) (by decide) rfl hy.s ?_
      refine y_release (by omega) hy hY1 hI (fun me2 hY2 hF2 => zKv_i ?_)
      have hX2 := zRX_congr (fun a h1 h2 => hF2 a (Or.inl (by omega))) hX1
      have hI2 : zIA (20000 * i + 100000) (zoRelease A (f (i + 1))).2 := zIA_release hI
      refine z_icmp_eq (tgt := 896) (pc' := 282) dL_law_279 (by decide) rfl (fun h279 => ?_) (fun h279 => absurd h279 (by omega))
      refine z_inc3 (pc' := 899) rfl dL_law_896 rfl (by unfold zin; omega) ?_
      refine z_goto (tgt := 18) dL_law_899 (by decide) ?_
      first
      | exact ih (i + 5) _ _ _ _ me2 _ (by omega) (by omega) (by omega) hX2 hY2 (by rw [he]; exact hI2)
      | exact ih (i + 5) _ _ _ _ me' A (by omega) (by omega) (by omega) hX hY (zIA_mono hI (by omega))
    · subst hc
      refine z_tswIn (tgt := 284) dL_law_32 (by decide) (by decide) rfl (by decide) ?_
      refine z_L1R (pc' := 285) dL_law_284 rfl ?_
      refine z_L0R (pc' := 286) dL_law_285 rfl ?_
      refine z_L3I (pc' := 287) dL_law_286 rfl ?_
      refine z_iconst (pc' := 288) dL_law_287 rfl (by unfold zin; decide) ?_
      refine z_iadd (pc' := 289) dL_law_288 rfl (by unfold zin; omega) ?_
      refine z_sld (pc' := 290) rfl dL_law_289 rfl (by omega) (by omega) ?_
      refine z_L0R (pc' := 291) dL_law_290 rfl ?_
      refine z_L3I (pc' := 292) dL_law_291 rfl ?_
      refine z_iconst (pc' := 293) dL_law_292 rfl (by unfold zin; decide) ?_
      refine z_iadd (pc' := 294) dL_law_293 rfl (by unfold zin; omega) ?_
      refine z_sld (pc' := 295) rfl dL_law_294 rfl (by omega) (by omega) ?_
      refine z_L0R (pc' := 296) dL_law_295 rfl ?_
      refine z_L3I (pc' := 297) dL_law_296 rfl ?_
      refine z_iconst (pc' := 298) dL_law_297 rfl (by unfold zin; decide) ?_
      refine z_iadd (pc' := 299) dL_law_298 rfl (by unfold zin; omega) ?_
      refine z_sld (pc' := 300) rfl dL_law_299 rfl (by omega) (by omega) ?_
      have H308 : ∀ b : Int, ((b = 1 ∧ f (i + 3) ≠ 0) ∨ (b = 0 ∧ f (i + 3) = 0)) → zW (mL N f) d 0 0 Q 308 [zR 0, zR 1, zR 167, zI i, v4, v5, v6, v7] [zI b, zI (f (i + 2)), zI (f (i + 1)), zR 1] sp me' := by
        intro b hb
        refine z_V3v (pc' := 311) (ci := 8) kX8_dance lL_32 dL_law_308 rfl (by omega) (Nat.le_of_ble_eq_true rfl) (by decide) rfl hx.s ?_
        refine x_dance (by omega) hx hX hI (by omega) (fun me1 hX1 hF1 => zKv_i ?_)
        have hY1 := zMX_congr (fun a h1 h2 => hF1 a (Or.inr (by omega))) hY
        refine z_L2R (pc' := 312) dL_law_311 rfl ?_
        refine z_L0R (pc' := 313) dL_law_312 rfl ?_
        refine z_L3I (pc' := 314) dL_law_313 rfl ?_
        refine z_iconst (pc' := 315) dL_law_314 rfl (by unfold zin; decide) ?_
        refine z_iadd (pc' := 316) dL_law_315 rfl (by unfold zin; omega) ?_
        refine z_sld (pc' := 317) rfl dL_law_316 rfl (by omega) (by omega) ?_
        refine z_L0R (pc' := 318) dL_law_317 rfl ?_
        refine z_L3I (pc' := 319) dL_law_318 rfl ?_
        refine z_iconst (pc' := 320) dL_law_319 rfl (by unfold zin; decide) ?_
        refine z_iadd (pc' := 321) dL_law_320 rfl (by unfold zin; omega) ?_
        refine z_sld (pc' := 322) rfl dL_law_321 rfl (by omega) (by omega) ?_
        refine z_L0R (pc' := 323) dL_law_322 rfl ?_
        refine z_L3I (pc' := 324) dL_law_323 rfl ?_
        refine z_iconst (pc' := 325) dL_law_324 rfl (by unfold zin; decide) ?_
        refine z_iadd (pc' := 326) dL_law_325 rfl (by unfold zin; omega) ?_
        refine z_sld (pc' := 327) rfl dL_law_326 rfl (by omega) (by omega) ?_
        have H335 : ∀ b' : Int, ((b' = 1 ∧ f (i + 3) ≠ 0) ∨ (b' = 0 ∧ f (i + 3) = 0)) → zW (mL N f) d 0 0 Q 335 [zR 0, zR 1, zR 167, zI i, v4, v5, v6, v7] [zI b', zI (f (i + 2)), zI (f (i + 1)), zR 167, zI (zoDance A (f (i + 1)) (f (i + 2)) b).1] sp me1 := by
          intro b' hb'
          have ebb : b' = b := by omega
          rw [ebb]
          refine z_V3v (pc' := 338) (ci := 9) kX9_dance lL_36 dL_law_335 rfl (by omega) (Nat.le_of_ble_eq_true rfl) (by decide) rfl hy.s ?_
          refine y_dance (by omega) hy hY1 hI (by omega) (fun me2 hY2 hF2 => zKv_i ?_)
          have hX2 := zRX_congr (fun a h1 h2 => hF2 a (Or.inl (by omega))) hX1
          have hI2 : zIA (20000 * i + 100000) (zoDance A (f (i + 1)) (f (i + 2)) b).2 := zIA_dance hI
          refine z_icmp_eq (tgt := 896) (pc' := 341) dL_law_338 (by decide) rfl (fun h338 => ?_) (fun h338 => absurd h338 (by omega))
          refine z_inc3 (pc' := 899) rfl dL_law_896 rfl (by unfold zin; omega) ?_
          refine z_goto (tgt := 18) dL_law_899 (by decide) ?_
          first
          | exact ih (i + 5) _ _ _ _ me2 _ (by omega) (by omega) (by omega) hX2 hY2 (by rw [he]; exact hI2)
          | exact ih (i + 5) _ _ _ _ me' A (by omega) (by omega) (by omega) hX hY (zIA_mono hI (by omega))
        refine z_if_eq (tgt := 334) (pc' := 330) dL_law_327 (by decide) rfl (fun h327 => ?_) (fun h327 => ?_)
        · refine z_iconst (pc' := 335) dL_law_334 rfl (by unfold zin; decide) ?_
          exact H335 _ (by omega)
        · refine z_iconst (pc' := 331) dL_law_330 rfl (by unfold zin; decide) ?_
          refine z_goto (tgt := 335) dL_law_331 (by decide) ?_
          exact H335 _ (by omega)
      refine z_if_eq (tgt := 307) (pc' := 303) dL_law_300 (by decide) rfl (fun h300 => ?_) (fun h300 => ?_)
      · refine z_iconst (pc' := 308) dL_law_307 rfl (by unfold zin; decide) ?_
        exact H308 _ (by omega)
      · refine z_iconst (pc' := 304) dL_law_303 rfl (by unfold zin; decide) ?_
        refine z_goto (tgt := 308) dL_law_304 (by decide) ?_
        exact H308 _ (by omega)
    · subst hc
      refine z_tswIn (tgt := 343) dL_law_32 (by decide) (by decide) rfl (by decide) ?_
      refine z_L1R (pc' := 344) dL_law_343 rfl ?_
      refine z_V0v (pc' := 347) (ci := 8) kX8_goHome lL_37 dL_law_344 rfl (by omega) (Nat.le_of_ble_eq_true rfl) (by decide) rfl hx.s ?_
      refine x_goHome (by omega) hx hX hI (by omega) (fun me1 hX1 hF1 => zKv_i ?_)
      have hY1 := zMX_congr (fun a h1 h2 => hF1 a (Or.inr (by omega))) hY
      refine z_L2R (pc' := 348) dL_law_347 rfl ?_
      refine z_V0v (pc' := 351) (ci := 9) kX9_goHome lL_41 dL_law_348 rfl (by omega) (Nat.le_of_ble_eq_true rfl) (by decide) rfl hy.s ?_
      refine y_goHome (by omega) hy hY1 hI (by omega) (fun me2 hY2 hF2 => zKv_i ?_)
      have hX2 := zRX_congr (fun a h1 h2 => hF2 a (Or.inl (by omega))) hX1
      have hI2 : zIA (20000 * i + 100000) (zoGoHome A ).2 := zIA_goHome hI
      refine z_icmp_eq (tgt := 896) (pc' := 354) dL_law_351 (by decide) rfl (fun h351 => ?_) (fun h351 => absurd h351 (by omega))
      refine z_inc3 (pc' := 899) rfl dL_law_896 rfl (by unfold zin; omega) ?_
      refine z_goto (tgt := 18) dL_law_899 (by decide) ?_
      first
      | exact ih (i + 5) _ _ _ _ me2 _ (by omega) (by omega) (by omega) hX2 hY2 (by rw [he]; exact hI2)
      | exact ih (i + 5) _ _ _ _ me' A (by omega) (by omega) (by omega) hX hY (zIA_mono hI (by omega))
    · subst hc
      refine z_tswIn (tgt := 356) dL_law_32 (by decide) (by decide) rfl (by decide) ?_
      refine z_L1R (pc' := 357) dL_law_356 rfl ?_
      refine z_L0R (pc' := 358) dL_law_357 rfl ?_
      refine z_L3I (pc' := 359) dL_law_358 rfl ?_
      refine z_iconst (pc' := 360) dL_law_359 rfl (by unfold zin; decide) ?_
      refine z_iadd (pc' := 361) dL_law_360 rfl (by unfold zin; omega) ?_
      refine z_sld (pc' := 362) rfl dL_law_361 rfl (by omega) (by omega) ?_
      refine z_V1v (pc' := 365) (ci := 8) kX8_append lL_42 dL_law_362 rfl (by omega) (Nat.le_of_ble_eq_true rfl) (by decide) rfl hx.s ?_
      refine x_append (by omega) hx hX hI (fun me1 hX1 hF1 => zKv_i ?_)
      have hY1 := zMX_congr (fun a h1 h2 => hF1 a (Or.inr (by omega))) hY
      refine z_L2R (pc' := 366) dL_law_365 rfl ?_
      refine z_L0R (pc' := 367) dL_law_366 rfl ?_
      refine z_L3I (pc' := 368) dL_law_367 rfl ?_
      refine z_iconst (pc' := 369) dL_law_368 rfl (by unfold zin; decide) ?_
      refine z_iadd (pc' := 370) dL_law_369 rfl (by unfold zin; omega) ?_
      refine z_sld (pc' := 371) rfl dL_law_370 rfl (by omega) (by omega) ?_
      refine z_V1v (pc' := 374) (ci := 9) kX9_append lL_45 dL_law_371 rfl (by omega) (Nat.le_of_ble_eq_true rfl) (by decide) rfl hy.s ?_
      refine y_append (by omega) hy hY1 hI (fun me2 hY2 hF2 => zKv_i ?_)
      have hX2 := zRX_congr (fun a h1 h2 => hF2 a (Or.inl (by omega))) hX1
      have hI2 : zIA (20000 * i + 100000) (zoAppend A (f (i + 1))).2 := zIA_append hI
      refine z_icmp_eq (tgt := 896) (pc' := 377) dL_law_374 (by decide) rfl (fun h374 => ?_) (fun h374 => absurd h374 (by omega))
      refine z_inc3 (pc' := 899) rfl dL_law_896 rfl (by unfold zin; omega) ?_
      refine z_goto (tgt := 18) dL_law_899 (by decide) ?_
      first
      | exact ih (i + 5) _ _ _ _ me2 _ (by omega) (by omega) (by omega) hX2 hY2 (by rw [he]; exact hI2)
      | exact ih (i + 5) _ _ _ _ me' A (by omega) (by omega) (by omega) hX hY (zIA_mono hI (by omega))
    · subst hc
      refine z_tswIn (tgt := 379) dL_law_32 (by decide) (by decide) rfl (by decide) ?_
      refine z_L1R (pc' := 380) dL_law_379 rfl ?_
      refine z_V0v (pc' := 383) (ci := 8) kX8_clearText lL_46 dL_law_380 rfl (by omega) (Nat.le_of_ble_eq_true rfl) (by decide) rfl hx.s ?_
      refine x_clear (by omega) hx hX hI (fun me1 hX1 hF1 => zKv_i ?_)
      have hY1 := zMX_congr (fun a h1 h2 => hF1 a (Or.inr (by omega))) hY
      refine z_L2R (pc' := 384) dL_law_383 rfl ?_
      refine z_V0v (pc' := 387) (ci := 9) kX9_clearText lL_49 dL_law_384 rfl (by omega) (Nat.le_of_ble_eq_true rfl) (by decide) rfl hy.s ?_
      refine y_clear (by omega) hy hY1 hI (fun me2 hY2 hF2 => zKv_i ?_)
      have hX2 := zRX_congr (fun a h1 h2 => hF2 a (Or.inl (by omega))) hX1
      have hI2 : zIA (20000 * i + 100000) (zoClear A ).2 := zIA_clear hI
      refine z_icmp_eq (tgt := 896) (pc' := 390) dL_law_387 (by decide) rfl (fun h387 => ?_) (fun h387 => absurd h387 (by omega))
      refine z_inc3 (pc' := 899) rfl dL_law_896 rfl (by unfold zin; omega) ?_
      refine z_goto (tgt := 18) dL_law_899 (by decide) ?_
      first
      | exact ih (i + 5) _ _ _ _ me2 _ (by omega) (by omega) (by omega) hX2 hY2 (by rw [he]; exact hI2)
      | exact ih (i + 5) _ _ _ _ me' A (by omega) (by omega) (by omega) hX hY (zIA_mono hI (by omega))
    · subst hc
      refine z_tswIn (tgt := 392) dL_law_32 (by decide) (by decide) rfl (by decide) ?_
      refine z_L1R (pc' := 393) dL_law_392 rfl ?_
      refine z_V0v (pc' := 396) (ci := 8) kX8_fault lL_50 dL_law_393 rfl (by omega) (Nat.le_of_ble_eq_true rfl) (by decide) rfl hx.s ?_
      refine x_fault (by omega) hx hX hI (fun me1 hX1 hF1 => zKv_i ?_)
      have hY1 := zMX_congr (fun a h1 h2 => hF1 a (Or.inr (by omega))) hY
      refine z_L2R (pc' := 397) dL_law_396 rfl ?_
      refine z_V0v (pc' := 400) (ci := 9) kX9_fault lL_53 dL_law_397 rfl (by omega) (Nat.le_of_ble_eq_true rfl) (by decide) rfl hy.s ?_
      refine y_fault (by omega) hy hY1 hI (fun me2 hY2 hF2 => zKv_i ?_)
      have hX2 := zRX_congr (fun a h1 h2 => hF2 a (Or.inl (by omega))) hX1
      have hI2 : zIA (20000 * i + 100000) (zoFault A).2 := zIA_mono hI (by omega)
      refine z_icmp_eq (tgt := 896) (pc' := 403) dL_law_400 (by decide) rfl (fun h400 => ?_) (fun h400 => absurd h400 (by omega))
      refine z_inc3 (pc' := 899) rfl dL_law_896 rfl (by unfold zin; omega) ?_
      refine z_goto (tgt := 18) dL_law_899 (by decide) ?_
      first
      | exact ih (i + 5) _ _ _ _ me2 _ (by omega) (by omega) (by omega) hX2 hY2 (by rw [he]; exact hI2)
      | exact ih (i + 5) _ _ _ _ me' A (by omega) (by omega) (by omega) hX hY (zIA_mono hI (by omega))
    · subst hc
      refine z_tswIn (tgt := 405) dL_law_32 (by decide) (by decide) rfl (by decide) ?_
      refine z_L1R (pc' := 406) dL_law_405 rfl ?_
      refine z_V0v (pc' := 409) (ci := 8) kX8_run lL_54 dL_law_406 rfl (by omega) (Nat.le_of_ble_eq_true rfl) (by decide) rfl hx.s ?_
      refine x_run (by omega) hx hX hI (by omega) (fun me1 hX1 hF1 => zKv_i ?_)
      have hY1 := zMX_congr (fun a h1 h2 => hF1 a (Or.inr (by omega))) hY
      refine z_L2R (pc' := 410) dL_law_409 rfl ?_
      refine z_V0v (pc' := 413) (ci := 9) kX9_run lL_57 dL_law_410 rfl (by omega) (Nat.le_of_ble_eq_true rfl) (by decide) rfl hy.s ?_
      refine y_run (by omega) hy hY1 hI (by omega) (fun me2 hY2 hF2 hI2 => zKv_i ?_)
      have hX2 := zRX_congr (fun a h1 h2 => hF2 a (Or.inl (by omega))) hX1
      refine z_icmp_eq (tgt := 896) (pc' := 416) dL_law_413 (by decide) rfl (fun h413 => ?_) (fun h413 => absurd h413 (by omega))
      refine z_inc3 (pc' := 899) rfl dL_law_896 rfl (by unfold zin; omega) ?_
      refine z_goto (tgt := 18) dL_law_899 (by decide) ?_
      first
      | exact ih (i + 5) _ _ _ _ me2 _ (by omega) (by omega) (by omega) hX2 hY2 (by rw [he]; exact hI2)
      | exact ih (i + 5) _ _ _ _ me' A (by omega) (by omega) (by omega) hX hY (zIA_mono hI (by omega))
    · subst hc
      refine z_tswIn (tgt := 418) dL_law_32 (by decide) (by decide) rfl (by decide) ?_
      refine z_L1R (pc' := 419) dL_law_418 rfl ?_
      refine z_V0v (pc' := 422) (ci := 8) kX8_undo lL_58 dL_law_419 rfl (by omega) (Nat.le_of_ble_eq_true rfl) (by decide) rfl hx.s ?_
      refine x_undo (by omega) hx hX hI (fun me1 hX1 hF1 => zKv_i ?_)
      have hY1 := zMX_congr (fun a h1 h2 => hF1 a (Or.inr (by omega))) hY
      refine z_L2R (pc' := 423) dL_law_422 rfl ?_
      refine z_V0v (pc' := 426) (ci := 9) kX9_undo lL_61 dL_law_423 rfl (by omega) (Nat.le_of_ble_eq_true rfl) (by decide) rfl hy.s ?_
      refine y_undo (by omega) hy hY1 hI (fun me2 hY2 hF2 => zKv_i ?_)
      have hX2 := zRX_congr (fun a h1 h2 => hF2 a (Or.inl (by omega))) hX1
      have hI2 : zIA (20000 * i + 100000) (zoUndo A ).2 := zIA_undo hI
      refine z_icmp_eq (tgt := 896) (pc' := 429) dL_law_426 (by decide) rfl (fun h426 => ?_) (fun h426 => absurd h426 (by omega))
      refine z_inc3 (pc' := 899) rfl dL_law_896 rfl (by unfold zin; omega) ?_
      refine z_goto (tgt := 18) dL_law_899 (by decide) ?_
      first
      | exact ih (i + 5) _ _ _ _ me2 _ (by omega) (by omega) (by omega) hX2 hY2 (by rw [he]; exact hI2)
      | exact ih (i + 5) _ _ _ _ me' A (by omega) (by omega) (by omega) hX hY (zIA_mono hI (by omega))
    · subst hc
      refine z_tswIn (tgt := 431) dL_law_32 (by decide) (by decide) rfl (by decide) ?_
      refine z_L1R (pc' := 432) dL_law_431 rfl ?_
      refine z_V0v (pc' := 435) (ci := 8) kX8_save lL_62 dL_law_432 rfl (by omega) (Nat.le_of_ble_eq_true rfl) (by decide) rfl hx.s ?_
      refine x_save (by omega) hx hX hI (fun me1 hX1 hF1 => zKv_i ?_)
      have hY1 := zMX_congr (fun a h1 h2 => hF1 a (Or.inr (by omega))) hY
      refine z_L2R (pc' := 436) dL_law_435 rfl ?_
      refine z_V0v (pc' := 439) (ci := 9) kX9_save lL_65 dL_law_436 rfl (by omega) (Nat.le_of_ble_eq_true rfl) (by decide) rfl hy.s ?_
      refine y_save (by omega) hy hY1 hI (fun me2 hY2 hF2 => zKv_i ?_)
      have hX2 := zRX_congr (fun a h1 h2 => hF2 a (Or.inl (by omega))) hX1
      have hI2 : zIA (20000 * i + 100000) (zoSave A ).2 := zIA_save hI
      refine z_icmp_eq (tgt := 896) (pc' := 442) dL_law_439 (by decide) rfl (fun h439 => ?_) (fun h439 => absurd h439 (by omega))
      refine z_inc3 (pc' := 899) rfl dL_law_896 rfl (by unfold zin; omega) ?_
      refine z_goto (tgt := 18) dL_law_899 (by decide) ?_
      first
      | exact ih (i + 5) _ _ _ _ me2 _ (by omega) (by omega) (by omega) hX2 hY2 (by rw [he]; exact hI2)
      | exact ih (i + 5) _ _ _ _ me' A (by omega) (by omega) (by omega) hX hY (zIA_mono hI (by omega))
    · subst hc
      refine z_tswIn (tgt := 444) dL_law_32 (by decide) (by decide) rfl (by decide) ?_
      refine z_L1R (pc' := 445) dL_law_444 rfl ?_
      refine z_V0v (pc' := 448) (ci := 8) kX8_restore lL_66 dL_law_445 rfl (by omega) (Nat.le_of_ble_eq_true rfl) (by decide) rfl hx.s ?_
      refine x_restore (by omega) hx hX hI (fun me1 hX1 hF1 => zKv_i ?_)
      have hY1 := zMX_congr (fun a h1 h2 => hF1 a (Or.inr (by omega))) hY
      refine z_L2R (pc' := 449) dL_law_448 rfl ?_
      refine z_V0v (pc' := 452) (ci := 9) kX9_restore lL_69 dL_law_449 rfl (by omega) (Nat.le_of_ble_eq_true rfl) (by decide) rfl hy.s ?_
      refine y_restore (by omega) hy hY1 hI (fun me2 hY2 hF2 => zKv_i ?_)
      have hX2 := zRX_congr (fun a h1 h2 => hF2 a (Or.inl (by omega))) hX1
      have hI2 : zIA (20000 * i + 100000) (zoRestore A ).2 := zIA_restore hI
      refine z_icmp_eq (tgt := 896) (pc' := 455) dL_law_452 (by decide) rfl (fun h452 => ?_) (fun h452 => absurd h452 (by omega))
      refine z_inc3 (pc' := 899) rfl dL_law_896 rfl (by unfold zin; omega) ?_
      refine z_goto (tgt := 18) dL_law_899 (by decide) ?_
      first
      | exact ih (i + 5) _ _ _ _ me2 _ (by omega) (by omega) (by omega) hX2 hY2 (by rw [he]; exact hI2)
      | exact ih (i + 5) _ _ _ _ me' A (by omega) (by omega) (by omega) hX hY (zIA_mono hI (by omega))
    · subst hc
      refine z_tswIn (tgt := 457) dL_law_32 (by decide) (by decide) rfl (by decide) ?_
      refine z_L1R (pc' := 458) dL_law_457 rfl ?_
      refine z_L0R (pc' := 459) dL_law_458 rfl ?_
      refine z_L3I (pc' := 460) dL_law_459 rfl ?_
      refine z_iconst (pc' := 461) dL_law_460 rfl (by unfold zin; decide) ?_
      refine z_iadd (pc' := 462) dL_law_461 rfl (by unfold zin; omega) ?_
      refine z_sld (pc' := 463) rfl dL_law_462 rfl (by omega) (by omega) ?_
      refine z_L0R (pc' := 464) dL_law_463 rfl ?_
      refine z_L3I (pc' := 465) dL_law_464 rfl ?_
      refine z_iconst (pc' := 466) dL_law_465 rfl (by unfold zin; decide) ?_
      refine z_iadd (pc' := 467) dL_law_466 rfl (by unfold zin; omega) ?_
      refine z_sld (pc' := 468) rfl dL_law_467 rfl (by omega) (by omega) ?_
      refine z_V2v (pc' := 471) (ci := 8) kX8_dancer lL_70 dL_law_468 rfl (by omega) (Nat.le_of_ble_eq_true rfl) (by decide) rfl hx.s ?_
      refine x_dancer (by omega) hx hX hI (fun me1 hX1 hF1 => zKv_i ?_)
      have hY1 := zMX_congr (fun a h1 h2 => hF1 a (Or.inr (by omega))) hY
      refine z_L2R (pc' := 472) dL_law_471 rfl ?_
      refine z_L0R (pc' := 473) dL_law_472 rfl ?_
      refine z_L3I (pc' := 474) dL_law_473 rfl ?_
      refine z_iconst (pc' := 475) dL_law_474 rfl (by unfold zin; decide) ?_
      refine z_iadd (pc' := 476) dL_law_475 rfl (by unfold zin; omega) ?_
      refine z_sld (pc' := 477) rfl dL_law_476 rfl (by omega) (by omega) ?_
      refine z_L0R (pc' := 478) dL_law_477 rfl ?_
      refine z_L3I (pc' := 479) dL_law_478 rfl ?_
      refine z_iconst (pc' := 480) dL_law_479 rfl (by unfold zin; decide) ?_
      refine z_iadd (pc' := 481) dL_law_480 rfl (by unfold zin; omega) ?_
      refine z_sld (pc' := 482) rfl dL_law_481 rfl (by omega) (by omega) ?_
      refine z_V2v (pc' := 485) (ci := 9) kX9_dancer lL_73 dL_law_482 rfl (by omega) (Nat.le_of_ble_eq_true rfl) (by decide) rfl hy.s ?_
      refine y_dancer (by omega) hy hY1 hI (fun me2 hY2 hF2 => zKv_i ?_)
      have hX2 := zRX_congr (fun a h1 h2 => hF2 a (Or.inl (by omega))) hX1
      have hI2 : zIA (20000 * i + 100000) A := zIA_mono hI (by omega)
      refine z_icmp_eq (tgt := 896) (pc' := 488) dL_law_485 (by decide) rfl (fun h485 => ?_) (fun h485 => absurd h485 (by omega))
      refine z_inc3 (pc' := 899) rfl dL_law_896 rfl (by unfold zin; omega) ?_
      refine z_goto (tgt := 18) dL_law_899 (by decide) ?_
      first
      | exact ih (i + 5) _ _ _ _ me2 _ (by omega) (by omega) (by omega) hX2 hY2 (by rw [he]; exact hI2)
      | exact ih (i + 5) _ _ _ _ me' A (by omega) (by omega) (by omega) hX hY (zIA_mono hI (by omega))
    · subst hc
      refine z_tswIn (tgt := 490) dL_law_32 (by decide) (by decide) rfl (by decide) ?_
      refine z_L1R (pc' := 491) dL_law_490 rfl ?_
      refine z_L0R (pc' := 492) dL_law_491 rfl ?_
      refine z_L3I (pc' := 493) dL_law_492 rfl ?_
      refine z_iconst (pc' := 494) dL_law_493 rfl (by unfold zin; decide) ?_
      refine z_iadd (pc' := 495) dL_law_494 rfl (by unfold zin; omega) ?_
      refine z_sld (pc' := 496) rfl dL_law_495 rfl (by omega) (by omega) ?_
      refine z_V1v (pc' := 499) (ci := 8) kX8_at lL_74 dL_law_496 rfl (by omega) (Nat.le_of_ble_eq_true rfl) (by decide) rfl hx.s ?_
      refine x_at (by omega) hx hX hI (fun me1 hX1 hF1 => zKv_i ?_)
      have hY1 := zMX_congr (fun a h1 h2 => hF1 a (Or.inr (by omega))) hY
      refine z_L2R (pc' := 500) dL_law_499 rfl ?_
      refine z_L0R (pc' := 501) dL_law_500 rfl ?_
      refine z_L3I (pc' := 502) dL_law_501 rfl ?_
      refine z_iconst (pc' := 503) dL_law_502 rfl (by unfold zin; decide) ?_
      refine z_iadd (pc' := 504) dL_law_503 rfl (by unfold zin; omega) ?_
      refine z_sld (pc' := 505) rfl dL_law_504 rfl (by omega) (by omega) ?_
      refine z_V1v (pc' := 508) (ci := 9) kX9_at lL_77 dL_law_505 rfl (by omega) (Nat.le_of_ble_eq_true rfl) (by decide) rfl hy.s ?_
      refine y_at (by omega) hy hY1 hI (fun me2 hY2 hF2 => zKv_i ?_)
      have hX2 := zRX_congr (fun a h1 h2 => hF2 a (Or.inl (by omega))) hX1
      have hI2 : zIA (20000 * i + 100000) A := zIA_mono hI (by omega)
      refine z_icmp_eq (tgt := 896) (pc' := 511) dL_law_508 (by decide) rfl (fun h508 => ?_) (fun h508 => absurd h508 (by omega))
      refine z_inc3 (pc' := 899) rfl dL_law_896 rfl (by unfold zin; omega) ?_
      refine z_goto (tgt := 18) dL_law_899 (by decide) ?_
      first
      | exact ih (i + 5) _ _ _ _ me2 _ (by omega) (by omega) (by omega) hX2 hY2 (by rw [he]; exact hI2)
      | exact ih (i + 5) _ _ _ _ me' A (by omega) (by omega) (by omega) hX hY (zIA_mono hI (by omega))
    · subst hc
      refine z_tswIn (tgt := 513) dL_law_32 (by decide) (by decide) rfl (by decide) ?_
      refine z_L1R (pc' := 514) dL_law_513 rfl ?_
      refine z_L0R (pc' := 515) dL_law_514 rfl ?_
      refine z_L3I (pc' := 516) dL_law_515 rfl ?_
      refine z_iconst (pc' := 517) dL_law_516 rfl (by unfold zin; decide) ?_
      refine z_iadd (pc' := 518) dL_law_517 rfl (by unfold zin; omega) ?_
      refine z_sld (pc' := 519) rfl dL_law_518 rfl (by omega) (by omega) ?_
      refine z_L0R (pc' := 520) dL_law_519 rfl ?_
      refine z_L3I (pc' := 521) dL_law_520 rfl ?_
      refine z_iconst (pc' := 522) dL_law_521 rfl (by unfold zin; decide) ?_
      refine z_iadd (pc' := 523) dL_law_522 rfl (by unfold zin; omega) ?_
      refine z_sld (pc' := 524) rfl dL_law_523 rfl (by omega) (by omega) ?_
      refine z_L0R (pc' := 525) dL_law_524 rfl ?_
      refine z_L3I (pc' := 526) dL_law_525 rfl ?_
      refine z_iconst (pc' := 527) dL_law_526 rfl (by unfold zin; decide) ?_
      refine z_iadd (pc' := 528) dL_law_527 rfl (by unfold zin; omega) ?_
      refine z_sld (pc' := 529) rfl dL_law_528 rfl (by omega) (by omega) ?_
      refine z_V3v (pc' := 532) (ci := 8) kX8_move lL_78 dL_law_529 rfl (by omega) (Nat.le_of_ble_eq_true rfl) (by decide) rfl hx.s ?_
      refine x_move (by omega) hx hX hI (fun me1 hX1 hF1 => zKv_i ?_)
      have hY1 := zMX_congr (fun a h1 h2 => hF1 a (Or.inr (by omega))) hY
      refine z_L2R (pc' := 533) dL_law_532 rfl ?_
      refine z_L0R (pc' := 534) dL_law_533 rfl ?_
      refine z_L3I (pc' := 535) dL_law_534 rfl ?_
      refine z_iconst (pc' := 536) dL_law_535 rfl (by unfold zin; decide) ?_
      refine z_iadd (pc' := 537) dL_law_536 rfl (by unfold zin; omega) ?_
      refine z_sld (pc' := 538) rfl dL_law_537 rfl (by omega) (by omega) ?_
      refine z_L0R (pc' := 539) dL_law_538 rfl ?_
      refine z_L3I (pc' := 540) dL_law_539 rfl ?_
      refine z_iconst (pc' := 541) dL_law_540 rfl (by unfold zin; decide) ?_
      refine z_iadd (pc' := 542) dL_law_541 rfl (by unfold zin; omega) ?_
      refine z_sld (pc' := 543) rfl dL_law_542 rfl (by omega) (by omega) ?_
      refine z_L0R (pc' := 544) dL_law_543 rfl ?_
      refine z_L3I (pc' := 545) dL_law_544 rfl ?_
      refine z_iconst (pc' := 546) dL_law_545 rfl (by unfold zin; decide) ?_
      refine z_iadd (pc' := 547) dL_law_546 rfl (by unfold zin; omega) ?_
      refine z_sld (pc' := 548) rfl dL_law_547 rfl (by omega) (by omega) ?_
      refine z_V3v (pc' := 551) (ci := 9) kX9_move lL_82 dL_law_548 rfl (by omega) (Nat.le_of_ble_eq_true rfl) (by decide) rfl hy.s ?_
      refine y_move (by omega) hy hY1 hI (fun me2 hY2 hF2 => zKv_i ?_)
      have hX2 := zRX_congr (fun a h1 h2 => hF2 a (Or.inl (by omega))) hX1
      have hI2 : zIA (20000 * i + 100000) A := zIA_mono hI (by omega)
      refine z_icmp_eq (tgt := 896) (pc' := 554) dL_law_551 (by decide) rfl (fun h551 => ?_) (fun h551 => absurd h551 (by omega))
      refine z_inc3 (pc' := 899) rfl dL_law_896 rfl (by unfold zin; omega) ?_
      refine z_goto (tgt := 18) dL_law_899 (by decide) ?_
      first
      | exact ih (i + 5) _ _ _ _ me2 _ (by omega) (by omega) (by omega) hX2 hY2 (by rw [he]; exact hI2)
      | exact ih (i + 5) _ _ _ _ me' A (by omega) (by omega) (by omega) hX hY (zIA_mono hI (by omega))
    · subst hc
      refine z_tswIn (tgt := 556) dL_law_32 (by decide) (by decide) rfl (by decide) ?_
      refine z_L1R (pc' := 557) dL_law_556 rfl ?_
      refine z_L0R (pc' := 558) dL_law_557 rfl ?_
      refine z_L3I (pc' := 559) dL_law_558 rfl ?_
      refine z_iconst (pc' := 560) dL_law_559 rfl (by unfold zin; decide) ?_
      refine z_iadd (pc' := 561) dL_law_560 rfl (by unfold zin; omega) ?_
      refine z_sld (pc' := 562) rfl dL_law_561 rfl (by omega) (by omega) ?_
      refine z_L0R (pc' := 563) dL_law_562 rfl ?_
      refine z_L3I (pc' := 564) dL_law_563 rfl ?_
      refine z_iconst (pc' := 565) dL_law_564 rfl (by unfold zin; decide) ?_
      refine z_iadd (pc' := 566) dL_law_565 rfl (by unfold zin; omega) ?_
      refine z_sld (pc' := 567) rfl dL_law_566 rfl (by omega) (by omega) ?_
      refine z_V2v (pc' := 570) (ci := 8) kX8_figure lL_83 dL_law_567 rfl (by omega) (Nat.le_of_ble_eq_true rfl) (by decide) rfl hx.s ?_
      refine x_figure (by omega) hx hX hI (fun me1 hX1 hF1 => zKv_i ?_)
      have hY1 := zMX_congr (fun a h1 h2 => hF1 a (Or.inr (by omega))) hY
      refine z_L2R (pc' := 571) dL_law_570 rfl ?_
      refine z_L0R (pc' := 572) dL_law_571 rfl ?_
      refine z_L3I (pc' := 573) dL_law_572 rfl ?_
      refine z_iconst (pc' := 574) dL_law_573 rfl (by unfold zin; decide) ?_
      refine z_iadd (pc' := 575) dL_law_574 rfl (by unfold zin; omega) ?_
      refine z_sld (pc' := 576) rfl dL_law_575 rfl (by omega) (by omega) ?_
      refine z_L0R (pc' := 577) dL_law_576 rfl ?_
      refine z_L3I (pc' := 578) dL_law_577 rfl ?_
      refine z_iconst (pc' := 579) dL_law_578 rfl (by unfold zin; decide) ?_
      refine z_iadd (pc' := 580) dL_law_579 rfl (by unfold zin; omega) ?_
      refine z_sld (pc' := 581) rfl dL_law_580 rfl (by omega) (by omega) ?_
      refine z_V2v (pc' := 584) (ci := 9) kX9_figure lL_86 dL_law_581 rfl (by omega) (Nat.le_of_ble_eq_true rfl) (by decide) rfl hy.s ?_
      refine y_figure (by omega) hy hY1 hI (fun me2 hY2 hF2 => zKv_i ?_)
      have hX2 := zRX_congr (fun a h1 h2 => hF2 a (Or.inl (by omega))) hX1
      have hI2 : zIA (20000 * i + 100000) A := zIA_mono hI (by omega)
      refine z_icmp_eq (tgt := 896) (pc' := 587) dL_law_584 (by decide) rfl (fun h584 => ?_) (fun h584 => absurd h584 (by omega))
      refine z_inc3 (pc' := 899) rfl dL_law_896 rfl (by unfold zin; omega) ?_
      refine z_goto (tgt := 18) dL_law_899 (by decide) ?_
      first
      | exact ih (i + 5) _ _ _ _ me2 _ (by omega) (by omega) (by omega) hX2 hY2 (by rw [he]; exact hI2)
      | exact ih (i + 5) _ _ _ _ me' A (by omega) (by omega) (by omega) hX hY (zIA_mono hI (by omega))
    · subst hc
      refine z_tswIn (tgt := 589) dL_law_32 (by decide) (by decide) rfl (by decide) ?_
      refine z_L1R (pc' := 590) dL_law_589 rfl ?_
      refine z_L0R (pc' := 591) dL_law_590 rfl ?_
      refine z_L3I (pc' := 592) dL_law_591 rfl ?_
      refine z_iconst (pc' := 593) dL_law_592 rfl (by unfold zin; decide) ?_
      refine z_iadd (pc' := 594) dL_law_593 rfl (by unfold zin; omega) ?_
      refine z_sld (pc' := 595) rfl dL_law_594 rfl (by omega) (by omega) ?_
      refine z_L0R (pc' := 596) dL_law_595 rfl ?_
      refine z_L3I (pc' := 597) dL_law_596 rfl ?_
      refine z_iconst (pc' := 598) dL_law_597 rfl (by unfold zin; decide) ?_
      refine z_iadd (pc' := 599) dL_law_598 rfl (by unfold zin; omega) ?_
      refine z_sld (pc' := 600) rfl dL_law_599 rfl (by omega) (by omega) ?_
      refine z_L0R (pc' := 601) dL_law_600 rfl ?_
      refine z_L3I (pc' := 602) dL_law_601 rfl ?_
      refine z_iconst (pc' := 603) dL_law_602 rfl (by unfold zin; decide) ?_
      refine z_iadd (pc' := 604) dL_law_603 rfl (by unfold zin; omega) ?_
      refine z_sld (pc' := 605) rfl dL_law_604 rfl (by omega) (by omega) ?_
      have H613 : ∀ b : Int, ((b = 1 ∧ f (i + 3) ≠ 0) ∨ (b = 0 ∧ f (i + 3) = 0)) → zW (mL N f) d 0 0 Q 613 [zR 0, zR 1, zR 167, zI i, v4, v5, v6, v7] [zI b, zI (f (i + 2)), zI (f (i + 1)), zR 1] sp me' := by
        intro b hb
        refine z_V3v (pc' := 616) (ci := 8) kX8_effect lL_87 dL_law_613 rfl (by omega) (Nat.le_of_ble_eq_true rfl) (by decide) rfl hx.s ?_
        refine x_effect (by omega) hx hX hI (fun me1 hX1 hF1 => zKv_i ?_)
        have hY1 := zMX_congr (fun a h1 h2 => hF1 a (Or.inr (by omega))) hY
        refine z_L2R (pc' := 617) dL_law_616 rfl ?_
        refine z_L0R (pc' := 618) dL_law_617 rfl ?_
        refine z_L3I (pc' := 619) dL_law_618 rfl ?_
        refine z_iconst (pc' := 620) dL_law_619 rfl (by unfold zin; decide) ?_
        refine z_iadd (pc' := 621) dL_law_620 rfl (by unfold zin; omega) ?_
        refine z_sld (pc' := 622) rfl dL_law_621 rfl (by omega) (by omega) ?_
        refine z_L0R (pc' := 623) dL_law_622 rfl ?_
        refine z_L3I (pc' := 624) dL_law_623 rfl ?_
        refine z_iconst (pc' := 625) dL_law_624 rfl (by unfold zin; decide) ?_
        refine z_iadd (pc' := 626) dL_law_625 rfl (by unfold zin; omega) ?_
        refine z_sld (pc' := 627) rfl dL_law_626 rfl (by omega) (by omega) ?_
        refine z_L0R (pc' := 628) dL_law_627 rfl ?_
        refine z_L3I (pc' := 629) dL_law_628 rfl ?_
        refine z_iconst (pc' := 630) dL_law_629 rfl (by unfold zin; decide) ?_
        refine z_iadd (pc' := 631) dL_law_630 rfl (by unfold zin; omega) ?_
        refine z_sld (pc' := 632) rfl dL_law_631 rfl (by omega) (by omega) ?_
        have H640 : ∀ b' : Int, ((b' = 1 ∧ f (i + 3) ≠ 0) ∨ (b' = 0 ∧ f (i + 3) = 0)) → zW (mL N f) d 0 0 Q 640 [zR 0, zR 1, zR 167, zI i, v4, v5, v6, v7] [zI b', zI (f (i + 2)), zI (f (i + 1)), zR 167, zI (zoEffect A (f (i + 1)) (f (i + 2)) b)] sp me1 := by
          intro b' hb'
          have ebb : b' = b := by omega
          rw [ebb]
          refine z_V3v (pc' := 643) (ci := 9) kX9_effect lL_90 dL_law_640 rfl (by omega) (Nat.le_of_ble_eq_true rfl) (by decide) rfl hy.s ?_
          refine y_effect (by omega) hy hY1 hI (fun me2 hY2 hF2 => zKv_i ?_)
          have hX2 := zRX_congr (fun a h1 h2 => hF2 a (Or.inl (by omega))) hX1
          have hI2 : zIA (20000 * i + 100000) A := zIA_mono hI (by omega)
          refine z_icmp_eq (tgt := 896) (pc' := 646) dL_law_643 (by decide) rfl (fun h643 => ?_) (fun h643 => absurd h643 (by omega))
          refine z_inc3 (pc' := 899) rfl dL_law_896 rfl (by unfold zin; omega) ?_
          refine z_goto (tgt := 18) dL_law_899 (by decide) ?_
          first
          | exact ih (i + 5) _ _ _ _ me2 _ (by omega) (by omega) (by omega) hX2 hY2 (by rw [he]; exact hI2)
          | exact ih (i + 5) _ _ _ _ me' A (by omega) (by omega) (by omega) hX hY (zIA_mono hI (by omega))
        refine z_if_eq (tgt := 639) (pc' := 635) dL_law_632 (by decide) rfl (fun h632 => ?_) (fun h632 => ?_)
        · refine z_iconst (pc' := 640) dL_law_639 rfl (by unfold zin; decide) ?_
          exact H640 _ (by omega)
        · refine z_iconst (pc' := 636) dL_law_635 rfl (by unfold zin; decide) ?_
          refine z_goto (tgt := 640) dL_law_636 (by decide) ?_
          exact H640 _ (by omega)
      refine z_if_eq (tgt := 612) (pc' := 608) dL_law_605 (by decide) rfl (fun h605 => ?_) (fun h605 => ?_)
      · refine z_iconst (pc' := 613) dL_law_612 rfl (by unfold zin; decide) ?_
        exact H613 _ (by omega)
      · refine z_iconst (pc' := 609) dL_law_608 rfl (by unfold zin; decide) ?_
        refine z_goto (tgt := 613) dL_law_609 (by decide) ?_
        exact H613 _ (by omega)
    · subst hc
      refine z_tswIn (tgt := 648) dL_law_32 (by decide) (by decide) rfl (by decide) ?_
      refine z_L1R (pc' := 649) dL_law_648 rfl ?_
      refine z_L0R (pc' := 650) dL_law_649 rfl ?_
      refine z_L3I (pc' := 651) dL_law_650 rfl ?_
      refine z_iconst (pc' := 652) dL_law_651 rfl (by unfold zin; decide) ?_
      refine z_iadd (pc' := 653) dL_law_652 rfl (by unfold zin; omega) ?_
      refine z_sld (pc' := 654) rfl dL_law_653 rfl (by omega) (by omega) ?_
      refine z_L0R (pc' := 655) dL_law_654 rfl ?_
      refine z_L3I (pc' := 656) dL_law_655 rfl ?_
      refine z_iconst (pc' := 657) dL_law_656 rfl (by unfold zin; decide) ?_
      refine z_iadd (pc' := 658) dL_law_657 rfl (by unfold zin; omega) ?_
      refine z_sld (pc' := 659) rfl dL_law_658 rfl (by omega) (by omega) ?_
      refine z_V2v (pc' := 662) (ci := 8) kX8_alike lL_91 dL_law_659 rfl (by omega) (Nat.le_of_ble_eq_true rfl) (by decide) rfl hx.s ?_
      refine x_alike (by omega) hx hX hI (fun me1 hX1 hF1 => zKv_i ?_)
      have hY1 := zMX_congr (fun a h1 h2 => hF1 a (Or.inr (by omega))) hY
      refine z_L2R (pc' := 663) dL_law_662 rfl ?_
      refine z_L0R (pc' := 664) dL_law_663 rfl ?_
      refine z_L3I (pc' := 665) dL_law_664 rfl ?_
      refine z_iconst (pc' := 666) dL_law_665 rfl (by unfold zin; decide) ?_
      refine z_iadd (pc' := 667) dL_law_666 rfl (by unfold zin; omega) ?_
      refine z_sld (pc' := 668) rfl dL_law_667 rfl (by omega) (by omega) ?_
      refine z_L0R (pc' := 669) dL_law_668 rfl ?_
      refine z_L3I (pc' := 670) dL_law_669 rfl ?_
      refine z_iconst (pc' := 671) dL_law_670 rfl (by unfold zin; decide) ?_
      refine z_iadd (pc' := 672) dL_law_671 rfl (by unfold zin; omega) ?_
      refine z_sld (pc' := 673) rfl dL_law_672 rfl (by omega) (by omega) ?_
      refine z_V2v (pc' := 676) (ci := 9) kX9_alike lL_94 dL_law_673 rfl (by omega) (Nat.le_of_ble_eq_true rfl) (by decide) rfl hy.s ?_
      refine y_alike (by omega) hy hY1 hI (fun me2 hY2 hF2 => zKv_i ?_)
      have hX2 := zRX_congr (fun a h1 h2 => hF2 a (Or.inl (by omega))) hX1
      have hI2 : zIA (20000 * i + 100000) A := zIA_mono hI (by omega)
      refine z_icmp_eq (tgt := 896) (pc' := 679) dL_law_676 (by decide) rfl (fun h676 => ?_) (fun h676 => absurd h676 (by omega))
      refine z_inc3 (pc' := 899) rfl dL_law_896 rfl (by unfold zin; omega) ?_
      refine z_goto (tgt := 18) dL_law_899 (by decide) ?_
      first
      | exact ih (i + 5) _ _ _ _ me2 _ (by omega) (by omega) (by omega) hX2 hY2 (by rw [he]; exact hI2)
      | exact ih (i + 5) _ _ _ _ me' A (by omega) (by omega) (by omega) hX hY (zIA_mono hI (by omega))
    · subst hc
      refine z_tswIn (tgt := 681) dL_law_32 (by decide) (by decide) rfl (by decide) ?_
      refine z_L1R (pc' := 682) dL_law_681 rfl ?_
      refine z_L0R (pc' := 683) dL_law_682 rfl ?_
      refine z_L3I (pc' := 684) dL_law_683 rfl ?_
      refine z_iconst (pc' := 685) dL_law_684 rfl (by unfold zin; decide) ?_
      refine z_iadd (pc' := 686) dL_law_685 rfl (by unfold zin; omega) ?_
      refine z_sld (pc' := 687) rfl dL_law_686 rfl (by omega) (by omega) ?_
      refine z_L0R (pc' := 688) dL_law_687 rfl ?_
      refine z_L3I (pc' := 689) dL_law_688 rfl ?_
      refine z_iconst (pc' := 690) dL_law_689 rfl (by unfold zin; decide) ?_
      refine z_iadd (pc' := 691) dL_law_690 rfl (by unfold zin; omega) ?_
      refine z_sld (pc' := 692) rfl dL_law_691 rfl (by omega) (by omega) ?_
      refine z_V2v (pc' := 695) (ci := 8) kX8_commute lL_95 dL_law_692 rfl (by omega) (Nat.le_of_ble_eq_true rfl) (by decide) rfl hx.s ?_
      refine x_commute (by omega) hx hX hI (fun me1 hX1 hF1 => zKv_i ?_)
      have hY1 := zMX_congr (fun a h1 h2 => hF1 a (Or.inr (by omega))) hY
      refine z_L2R (pc' := 696) dL_law_695 rfl ?_
      refine z_L0R (pc' := 697) dL_law_696 rfl ?_
      refine z_L3I (pc' := 698) dL_law_697 rfl ?_
      refine z_iconst (pc' := 699) dL_law_698 rfl (by unfold zin; decide) ?_
      refine z_iadd (pc' := 700) dL_law_699 rfl (by unfold zin; omega) ?_
      refine z_sld (pc' := 701) rfl dL_law_700 rfl (by omega) (by omega) ?_
      refine z_L0R (pc' := 702) dL_law_701 rfl ?_
      refine z_L3I (pc' := 703) dL_law_702 rfl ?_
      refine z_iconst (pc' := 704) dL_law_703 rfl (by unfold zin; decide) ?_
      refine z_iadd (pc' := 705) dL_law_704 rfl (by unfold zin; omega) ?_
      refine z_sld (pc' := 706) rfl dL_law_705 rfl (by omega) (by omega) ?_
      refine z_V2v (pc' := 709) (ci := 9) kX9_commute lL_98 dL_law_706 rfl (by omega) (Nat.le_of_ble_eq_true rfl) (by decide) rfl hy.s ?_
      refine y_commute (by omega) hy hY1 hI (fun me2 hY2 hF2 => zKv_i ?_)
      have hX2 := zRX_congr (fun a h1 h2 => hF2 a (Or.inl (by omega))) hX1
      have hI2 : zIA (20000 * i + 100000) A := zIA_mono hI (by omega)
      refine z_icmp_eq (tgt := 896) (pc' := 712) dL_law_709 (by decide) rfl (fun h709 => ?_) (fun h709 => absurd h709 (by omega))
      refine z_inc3 (pc' := 899) rfl dL_law_896 rfl (by unfold zin; omega) ?_
      refine z_goto (tgt := 18) dL_law_899 (by decide) ?_
      first
      | exact ih (i + 5) _ _ _ _ me2 _ (by omega) (by omega) (by omega) hX2 hY2 (by rw [he]; exact hI2)
      | exact ih (i + 5) _ _ _ _ me' A (by omega) (by omega) (by omega) hX hY (zIA_mono hI (by omega))
    · subst hc
      refine z_tswIn (tgt := 714) dL_law_32 (by decide) (by decide) rfl (by decide) ?_
      refine z_L1R (pc' := 715) dL_law_714 rfl ?_
      refine z_L0R (pc' := 716) dL_law_715 rfl ?_
      refine z_L3I (pc' := 717) dL_law_716 rfl ?_
      refine z_iconst (pc' := 718) dL_law_717 rfl (by unfold zin; decide) ?_
      refine z_iadd (pc' := 719) dL_law_718 rfl (by unfold zin; omega) ?_
      refine z_sld (pc' := 720) rfl dL_law_719 rfl (by omega) (by omega) ?_
      refine z_V1v (pc' := 723) (ci := 8) kX8_count lL_99 dL_law_720 rfl (by omega) (Nat.le_of_ble_eq_true rfl) (by decide) rfl hx.s ?_
      refine x_count (by omega) hx hX hI (fun me1 hX1 hF1 => zKv_i ?_)
      have hY1 := zMX_congr (fun a h1 h2 => hF1 a (Or.inr (by omega))) hY
      refine z_L2R (pc' := 724) dL_law_723 rfl ?_
      refine z_L0R (pc' := 725) dL_law_724 rfl ?_
      refine z_L3I (pc' := 726) dL_law_725 rfl ?_
      refine z_iconst (pc' := 727) dL_law_726 rfl (by unfold zin; decide) ?_
      refine z_iadd (pc' := 728) dL_law_727 rfl (by unfold zin; omega) ?_
      refine z_sld (pc' := 729) rfl dL_law_728 rfl (by omega) (by omega) ?_
      refine z_V1v (pc' := 732) (ci := 9) kX9_count lL_102 dL_law_729 rfl (by omega) (Nat.le_of_ble_eq_true rfl) (by decide) rfl hy.s ?_
      refine y_count (by omega) hy hY1 hI (fun me2 hY2 hF2 => zKv_i ?_)
      have hX2 := zRX_congr (fun a h1 h2 => hF2 a (Or.inl (by omega))) hX1
      have hI2 : zIA (20000 * i + 100000) A := zIA_mono hI (by omega)
      refine z_icmp_eq (tgt := 896) (pc' := 735) dL_law_732 (by decide) rfl (fun h732 => ?_) (fun h732 => absurd h732 (by omega))
      refine z_inc3 (pc' := 899) rfl dL_law_896 rfl (by unfold zin; omega) ?_
      refine z_goto (tgt := 18) dL_law_899 (by decide) ?_
      first
      | exact ih (i + 5) _ _ _ _ me2 _ (by omega) (by omega) (by omega) hX2 hY2 (by rw [he]; exact hI2)
      | exact ih (i + 5) _ _ _ _ me' A (by omega) (by omega) (by omega) hX hY (zIA_mono hI (by omega))
    · subst hc
      refine z_tswIn (tgt := 737) dL_law_32 (by decide) (by decide) rfl (by decide) ?_
      refine z_L1R (pc' := 738) dL_law_737 rfl ?_
      refine z_L0R (pc' := 739) dL_law_738 rfl ?_
      refine z_L3I (pc' := 740) dL_law_739 rfl ?_
      refine z_iconst (pc' := 741) dL_law_740 rfl (by unfold zin; decide) ?_
      refine z_iadd (pc' := 742) dL_law_741 rfl (by unfold zin; omega) ?_
      refine z_sld (pc' := 743) rfl dL_law_742 rfl (by omega) (by omega) ?_
      refine z_V1v (pc' := 746) (ci := 8) kX8_total lL_103 dL_law_743 rfl (by omega) (Nat.le_of_ble_eq_true rfl) (by decide) rfl hx.s ?_
      refine x_total (by omega) hx hX hI (fun me1 hX1 hF1 => zKv_i ?_)
      have hY1 := zMX_congr (fun a h1 h2 => hF1 a (Or.inr (by omega))) hY
      refine z_L2R (pc' := 747) dL_law_746 rfl ?_
      refine z_L0R (pc' := 748) dL_law_747 rfl ?_
      refine z_L3I (pc' := 749) dL_law_748 rfl ?_
      refine z_iconst (pc' := 750) dL_law_749 rfl (by unfold zin; decide) ?_
      refine z_iadd (pc' := 751) dL_law_750 rfl (by unfold zin; omega) ?_
      refine z_sld (pc' := 752) rfl dL_law_751 rfl (by omega) (by omega) ?_
      refine z_V1v (pc' := 755) (ci := 9) kX9_total lL_106 dL_law_752 rfl (by omega) (Nat.le_of_ble_eq_true rfl) (by decide) rfl hy.s ?_
      refine y_total (by omega) hy hY1 hI (fun me2 hY2 hF2 => zKv_i ?_)
      have hX2 := zRX_congr (fun a h1 h2 => hF2 a (Or.inl (by omega))) hX1
      have hI2 : zIA (20000 * i + 100000) A := zIA_mono hI (by omega)
      refine z_icmp_eq (tgt := 896) (pc' := 758) dL_law_755 (by decide) rfl (fun h755 => ?_) (fun h755 => absurd h755 (by omega))
      refine z_inc3 (pc' := 899) rfl dL_law_896 rfl (by unfold zin; omega) ?_
      refine z_goto (tgt := 18) dL_law_899 (by decide) ?_
      first
      | exact ih (i + 5) _ _ _ _ me2 _ (by omega) (by omega) (by omega) hX2 hY2 (by rw [he]; exact hI2)
      | exact ih (i + 5) _ _ _ _ me' A (by omega) (by omega) (by omega) hX hY (zIA_mono hI (by omega))
    · subst hc
      refine z_tswIn (tgt := 760) dL_law_32 (by decide) (by decide) rfl (by decide) ?_
      refine z_L1R (pc' := 761) dL_law_760 rfl ?_
      refine z_L0R (pc' := 762) dL_law_761 rfl ?_
      refine z_L3I (pc' := 763) dL_law_762 rfl ?_
      refine z_iconst (pc' := 764) dL_law_763 rfl (by unfold zin; decide) ?_
      refine z_iadd (pc' := 765) dL_law_764 rfl (by unfold zin; omega) ?_
      refine z_sld (pc' := 766) rfl dL_law_765 rfl (by omega) (by omega) ?_
      refine z_L0R (pc' := 767) dL_law_766 rfl ?_
      refine z_L3I (pc' := 768) dL_law_767 rfl ?_
      refine z_iconst (pc' := 769) dL_law_768 rfl (by unfold zin; decide) ?_
      refine z_iadd (pc' := 770) dL_law_769 rfl (by unfold zin; omega) ?_
      refine z_sld (pc' := 771) rfl dL_law_770 rfl (by omega) (by omega) ?_
      have H779 : ∀ b : Int, ((b = 1 ∧ f (i + 2) ≠ 0) ∨ (b = 0 ∧ f (i + 2) = 0)) → zW (mL N f) d 0 0 Q 779 [zR 0, zR 1, zR 167, zI i, v4, v5, v6, v7] [zI b, zI (f (i + 1)), zR 1] sp me' := by
        intro b hb
        refine z_V2v (pc' := 782) (ci := 8) kX8_blockedAt lL_107 dL_law_779 rfl (by omega) (Nat.le_of_ble_eq_true rfl) (by decide) rfl hx.s ?_
        refine x_blockedAt (by omega) hx hX hI (fun me1 hX1 hF1 => zKv_i ?_)
        have hY1 := zMX_congr (fun a h1 h2 => hF1 a (Or.inr (by omega))) hY
        refine z_L2R (pc' := 783) dL_law_782 rfl ?_
        refine z_L0R (pc' := 784) dL_law_783 rfl ?_
        refine z_L3I (pc' := 785) dL_law_784 rfl ?_
        refine z_iconst (pc' := 786) dL_law_785 rfl (by unfold zin; decide) ?_
        refine z_iadd (pc' := 787) dL_law_786 rfl (by unfold zin; omega) ?_
        refine z_sld (pc' := 788) rfl dL_law_787 rfl (by omega) (by omega) ?_
        refine z_L0R (pc' := 789) dL_law_788 rfl ?_
        refine z_L3I (pc' := 790) dL_law_789 rfl ?_
        refine z_iconst (pc' := 791) dL_law_790 rfl (by unfold zin; decide) ?_
        refine z_iadd (pc' := 792) dL_law_791 rfl (by unfold zin; omega) ?_
        refine z_sld (pc' := 793) rfl dL_law_792 rfl (by omega) (by omega) ?_
        have H801 : ∀ b' : Int, ((b' = 1 ∧ f (i + 2) ≠ 0) ∨ (b' = 0 ∧ f (i + 2) = 0)) → zW (mL N f) d 0 0 Q 801 [zR 0, zR 1, zR 167, zI i, v4, v5, v6, v7] [zI b', zI (f (i + 1)), zR 167, zI (zoBlocked A (f (i + 1)) b)] sp me1 := by
          intro b' hb'
          have ebb : b' = b := by omega
          rw [ebb]
          refine z_V2v (pc' := 804) (ci := 9) kX9_blockedAt lL_111 dL_law_801 rfl (by omega) (Nat.le_of_ble_eq_true rfl) (by decide) rfl hy.s ?_
          refine y_blockedAt (by omega) hy hY1 hI (fun me2 hY2 hF2 => zKv_i ?_)
          have hX2 := zRX_congr (fun a h1 h2 => hF2 a (Or.inl (by omega))) hX1
          have hI2 : zIA (20000 * i + 100000) A := zIA_mono hI (by omega)
          refine z_icmp_eq (tgt := 896) (pc' := 807) dL_law_804 (by decide) rfl (fun h804 => ?_) (fun h804 => absurd h804 (by omega))
          refine z_inc3 (pc' := 899) rfl dL_law_896 rfl (by unfold zin; omega) ?_
          refine z_goto (tgt := 18) dL_law_899 (by decide) ?_
          first
          | exact ih (i + 5) _ _ _ _ me2 _ (by omega) (by omega) (by omega) hX2 hY2 (by rw [he]; exact hI2)
          | exact ih (i + 5) _ _ _ _ me' A (by omega) (by omega) (by omega) hX hY (zIA_mono hI (by omega))
        refine z_if_eq (tgt := 800) (pc' := 796) dL_law_793 (by decide) rfl (fun h793 => ?_) (fun h793 => ?_)
        · refine z_iconst (pc' := 801) dL_law_800 rfl (by unfold zin; decide) ?_
          exact H801 _ (by omega)
        · refine z_iconst (pc' := 797) dL_law_796 rfl (by unfold zin; decide) ?_
          refine z_goto (tgt := 801) dL_law_797 (by decide) ?_
          exact H801 _ (by omega)
      refine z_if_eq (tgt := 778) (pc' := 774) dL_law_771 (by decide) rfl (fun h771 => ?_) (fun h771 => ?_)
      · refine z_iconst (pc' := 779) dL_law_778 rfl (by unfold zin; decide) ?_
        exact H779 _ (by omega)
      · refine z_iconst (pc' := 775) dL_law_774 rfl (by unfold zin; decide) ?_
        refine z_goto (tgt := 779) dL_law_775 (by decide) ?_
        exact H779 _ (by omega)
    · subst hc
      refine z_tswIn (tgt := 809) dL_law_32 (by decide) (by decide) rfl (by decide) ?_
      refine z_L1R (pc' := 810) dL_law_809 rfl ?_
      refine z_L0R (pc' := 811) dL_law_810 rfl ?_
      refine z_L3I (pc' := 812) dL_law_811 rfl ?_
      refine z_iconst (pc' := 813) dL_law_812 rfl (by unfold zin; decide) ?_
      refine z_iadd (pc' := 814) dL_law_813 rfl (by unfold zin; omega) ?_
      refine z_sld (pc' := 815) rfl dL_law_814 rfl (by omega) (by omega) ?_
      refine z_V1v (pc' := 818) (ci := 8) kX8_homeIn lL_112 dL_law_815 rfl (by omega) (Nat.le_of_ble_eq_true rfl) (by decide) rfl hx.s ?_
      refine x_homeIn (by omega) hx hX hI (fun me1 hX1 hF1 => zKv_i ?_)
      have hY1 := zMX_congr (fun a h1 h2 => hF1 a (Or.inr (by omega))) hY
      refine z_L2R (pc' := 819) dL_law_818 rfl ?_
      refine z_L0R (pc' := 820) dL_law_819 rfl ?_
      refine z_L3I (pc' := 821) dL_law_820 rfl ?_
      refine z_iconst (pc' := 822) dL_law_821 rfl (by unfold zin; decide) ?_
      refine z_iadd (pc' := 823) dL_law_822 rfl (by unfold zin; omega) ?_
      refine z_sld (pc' := 824) rfl dL_law_823 rfl (by omega) (by omega) ?_
      refine z_V1v (pc' := 827) (ci := 9) kX9_homeIn lL_115 dL_law_824 rfl (by omega) (Nat.le_of_ble_eq_true rfl) (by decide) rfl hy.s ?_
      refine y_homeIn (by omega) hy hY1 hI (fun me2 hY2 hF2 => zKv_i ?_)
      have hX2 := zRX_congr (fun a h1 h2 => hF2 a (Or.inl (by omega))) hX1
      have hI2 : zIA (20000 * i + 100000) A := zIA_mono hI (by omega)
      refine z_icmp_eq (tgt := 896) (pc' := 830) dL_law_827 (by decide) rfl (fun h827 => ?_) (fun h827 => absurd h827 (by omega))
      refine z_inc3 (pc' := 899) rfl dL_law_896 rfl (by unfold zin; omega) ?_
      refine z_goto (tgt := 18) dL_law_899 (by decide) ?_
      first
      | exact ih (i + 5) _ _ _ _ me2 _ (by omega) (by omega) (by omega) hX2 hY2 (by rw [he]; exact hI2)
      | exact ih (i + 5) _ _ _ _ me' A (by omega) (by omega) (by omega) hX hY (zIA_mono hI (by omega))
    · subst hc
      refine z_tswIn (tgt := 832) dL_law_32 (by decide) (by decide) rfl (by decide) ?_
      refine z_L1R (pc' := 833) dL_law_832 rfl ?_
      refine z_L0R (pc' := 834) dL_law_833 rfl ?_
      refine z_L3I (pc' := 835) dL_law_834 rfl ?_
      refine z_iconst (pc' := 836) dL_law_835 rfl (by unfold zin; decide) ?_
      refine z_iadd (pc' := 837) dL_law_836 rfl (by unfold zin; omega) ?_
      refine z_sld (pc' := 838) rfl dL_law_837 rfl (by omega) (by omega) ?_
      refine z_V1v (pc' := 841) (ci := 8) kX8_wayHome lL_116 dL_law_838 rfl (by omega) (Nat.le_of_ble_eq_true rfl) (by decide) rfl hx.s ?_
      refine x_wayHome (by omega) hx hX hI (fun me1 hX1 hF1 => zKv_i ?_)
      have hY1 := zMX_congr (fun a h1 h2 => hF1 a (Or.inr (by omega))) hY
      refine z_L2R (pc' := 842) dL_law_841 rfl ?_
      refine z_L0R (pc' := 843) dL_law_842 rfl ?_
      refine z_L3I (pc' := 844) dL_law_843 rfl ?_
      refine z_iconst (pc' := 845) dL_law_844 rfl (by unfold zin; decide) ?_
      refine z_iadd (pc' := 846) dL_law_845 rfl (by unfold zin; omega) ?_
      refine z_sld (pc' := 847) rfl dL_law_846 rfl (by omega) (by omega) ?_
      refine z_V1v (pc' := 850) (ci := 9) kX9_wayHome lL_119 dL_law_847 rfl (by omega) (Nat.le_of_ble_eq_true rfl) (by decide) rfl hy.s ?_
      refine y_wayHome (by omega) hy hY1 hI (fun me2 hY2 hF2 => zKv_i ?_)
      have hX2 := zRX_congr (fun a h1 h2 => hF2 a (Or.inl (by omega))) hX1
      have hI2 : zIA (20000 * i + 100000) A := zIA_mono hI (by omega)
      refine z_icmp_eq (tgt := 896) (pc' := 853) dL_law_850 (by decide) rfl (fun h850 => ?_) (fun h850 => absurd h850 (by omega))
      refine z_inc3 (pc' := 899) rfl dL_law_896 rfl (by unfold zin; omega) ?_
      refine z_goto (tgt := 18) dL_law_899 (by decide) ?_
      first
      | exact ih (i + 5) _ _ _ _ me2 _ (by omega) (by omega) (by omega) hX2 hY2 (by rw [he]; exact hI2)
      | exact ih (i + 5) _ _ _ _ me' A (by omega) (by omega) (by omega) hX hY (zIA_mono hI (by omega))
    · subst hc
      refine z_tswIn (tgt := 855) dL_law_32 (by decide) (by decide) rfl (by decide) ?_
      refine z_L1R (pc' := 856) dL_law_855 rfl ?_
      refine z_V0v (pc' := 859) (ci := 8) kX8_distance lL_120 dL_law_856 rfl (by omega) (Nat.le_of_ble_eq_true rfl) (by decide) rfl hx.s ?_
      refine x_distance (by omega) hx hX hI (fun me1 hX1 hF1 => zKv_i ?_)
      have hY1 := zMX_congr (fun a h1 h2 => hF1 a (Or.inr (by omega))) hY
      refine z_dstore (pc' := 861) (L' := [zR 0, zR 1, zR 167, zI i, zD (zdd (zoDist A)), zU, v6, v7]) dL_law_859 rfl (by simp) rfl rfl ?_
      refine z_L2R (pc' := 862) dL_law_861 rfl ?_
      refine z_V0v (pc' := 865) (ci := 9) kX9_distance lL_124 dL_law_862 rfl (by omega) (Nat.le_of_ble_eq_true rfl) (by decide) rfl hy.s ?_
      refine y_distance (by omega) hy hY1 hI (fun me2 hY2 hF2 => zKv_i ?_)
      have hX2 := zRX_congr (fun a h1 h2 => hF2 a (Or.inl (by omega))) hX1
      have hI2 : zIA (20000 * i + 100000) A := zIA_mono hI (by omega)
      refine z_dstore (pc' := 867) (L' := [zR 0, zR 1, zR 167, zI i, zD (zdd (zoDist A)), zU, zD (zdd (zoDist A)), zU]) dL_law_865 rfl (by simp) rfl rfl ?_
      refine z_L4D (pc' := 869) dL_law_867 rfl ?_
      refine z_L6D (pc' := 871) dL_law_869 rfl ?_
      refine z_dcmp (pc' := 872) dL_law_871 rfl ?_
      refine z_if_eq (tgt := 893) (pc' := 875) dL_law_872 (by decide) rfl (fun h872 => ?_) (fun h872 => ?_)
      · refine z_goto (tgt := 896) dL_law_893 (by decide) ?_
        refine z_inc3 (pc' := 899) rfl dL_law_896 rfl (by unfold zin; omega) ?_
        refine z_goto (tgt := 18) dL_law_899 (by decide) ?_
        first
        | exact ih (i + 5) _ _ _ _ me2 _ (by omega) (by omega) (by omega) hX2 hY2 (by rw [he]; exact hI2)
        | exact ih (i + 5) _ _ _ _ me' A (by omega) (by omega) (by omega) hX hY (zIA_mono hI (by omega))
      · refine z_L4D (pc' := 877) dL_law_875 rfl ?_
        refine z_L4D (pc' := 879) dL_law_877 rfl ?_
        refine z_dcmp (pc' := 880) dL_law_879 rfl ?_
        refine z_if_eq (tgt := 891) (pc' := 883) dL_law_880 (by decide) rfl (fun h880 => absurd h880 (by omega)) (fun h880 => ?_)
        refine z_L6D (pc' := 885) dL_law_883 rfl ?_
        refine z_L6D (pc' := 887) dL_law_885 rfl ?_
        refine z_dcmp (pc' := 888) dL_law_887 rfl ?_
        refine z_if_ne (tgt := 893) (pc' := 891) dL_law_888 (by decide) rfl (fun h888 => ?_) (fun h888 => absurd h888 (by omega))
        refine z_goto (tgt := 896) dL_law_893 (by decide) ?_
        refine z_inc3 (pc' := 899) rfl dL_law_896 rfl (by unfold zin; omega) ?_
        refine z_goto (tgt := 18) dL_law_899 (by decide) ?_
        first
        | exact ih (i + 5) _ _ _ _ me2 _ (by omega) (by omega) (by omega) hX2 hY2 (by rw [he]; exact hI2)
        | exact ih (i + 5) _ _ _ _ me' A (by omega) (by omega) (by omega) hX hY (zIA_mono hI (by omega))
    · refine z_tswOut (tgt := 896) dL_law_32 (by omega) (by decide) ?_
      refine z_inc3 (pc' := 899) rfl dL_law_896 rfl (by unfold zin; omega) ?_
      refine z_goto (tgt := 18) dL_law_899 (by decide) ?_
      first
      | exact ih (i + 5) _ _ _ _ me2 _ (by omega) (by omega) (by omega) hX2 hY2 (by rw [he]; exact hI2)
      | exact ih (i + 5) _ _ _ _ me' A (by omega) (by omega) (by omega) hX hY (zIA_mono hI (by omega))
end ZLAW

