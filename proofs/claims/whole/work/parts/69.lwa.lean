/-! the law: its cases -/
section LWC
variable {p : Program} {l : Launch} {e : Env} {s : State} {m : MethodId} {below : List Frame} {meth : Method} {c : Code} {b L : Nat} {xs : Nat → Int32} {D : va_G} {tc : Nat → ClassId} {q1 zz : Nat} {ad2 : Nat → Nat} {k : Nat} {H : Heap} {locs : List Loc} {ls : Array Slot} {Q : State → Prop} {g : Nat}
theorem lw_c0 (hg : 6000 ≤ g) (C0 : lw_At p s m meth c b L xs) (Fx : lw_Fx s D tc zz ad2) (hL : L ≤ 256) (hk : 4 * k + 4 ≤ L) (hl : lv_has ls 4 [(0, .ref b), (1, .ref q1), (2, .ref (ad2 0)), (3, .int (nI (4 * k)))]) (hS : lw_St s D tc q1 zz ad2 k H locs) (fin : lw_Fin p l e s m below meth c b D tc q1 zz ad2 k ls Q) : W p l e room_1 s m #[Value.ref b] below meth c H locs (60 + 7 * k) (40 * (60 + 7 * k)) Q (F0 m 152 ls []) := by
  refine lv_aload_n C0.1 C0.2.1 dL_law_152 rfl (lv_at hl 1 rfl) ?_
  refine lw_arg (pc := 153) (J := 1) C0 hl hS.S (lw_in1 hk hL) (by decide) dL_law_153 dL_law_154 dL_law_155 dL_law_156 dL_law_157 ?_
  refine lw_two (mk := Value.int) (X := aX11_letter g) (M := aX12_letter g) (As := [.int (xs (nI (4 * k) + 1).toNatClampNeg)]) (n := 1) (pcx := 158) (pcm := 167) (fun _ _ => rfl) (fun _ => Nat.le_of_ble_eq_true rfl) C0 Fx (by omega) (lw_of (gp_letter (g := g) (by omega) _)) (fun _ => rfl) rfl (fun ad hW => mX11_letter hW g) dL_law_158 wl_0 wl_1 wl_2 wl_3 wl_4 ⟨by decide, by decide, by decide, by decide⟩ ⟨by decide, by decide⟩ (fun hW => mX12_letter hW g) dL_law_167 wl_5 wl_6 wl_7 wl_8 wl_9 ⟨by decide, by decide, by decide, by decide⟩ ⟨by decide, by decide⟩ hS hl.1 (fun H1 locs1 r hS1 kk => ?_) (fun H1 locs1 r hS1 => ?_)
  · refine lv_aload_n C0.1 C0.2.1 dL_law_161 rfl (lv_at hl 2 rfl) ?_
    refine lw_arg (pc := 162) (J := 1) C0 hl hS1 (lw_in1 hk hL) (by decide) dL_law_162 dL_law_163 dL_law_164 dL_law_165 dL_law_166 ?_
    exact kk
  · exact lw_eq C0 (by omega) fin dL_law_170 (by decide) hS1
theorem lw_c1 (hg : 6000 ≤ g) (C0 : lw_At p s m meth c b L xs) (Fx : lw_Fx s D tc zz ad2) (hL : L ≤ 256) (hk : 4 * k + 4 ≤ L) (hl : lv_has ls 4 [(0, .ref b), (1, .ref q1), (2, .ref (ad2 0)), (3, .int (nI (4 * k)))]) (hS : lw_St s D tc q1 zz ad2 k H locs) (fin : lw_Fin p l e s m below meth c b D tc q1 zz ad2 k ls Q) : W p l e room_1 s m #[Value.ref b] below meth c H locs (60 + 7 * k) (40 * (60 + 7 * k)) Q (F0 m 175 ls []) := by
  refine lv_aload_n C0.1 C0.2.1 dL_law_175 rfl (lv_at hl 1 rfl) ?_
  refine lw_two (mk := Value.int) (X := aX11_blank g) (M := aX12_blank g) (As := []) (n := 0) (pcx := 176) (pcm := 180) (fun _ _ => rfl) (fun _ => Nat.le_of_ble_eq_true rfl) C0 Fx (by omega) (lw_of (gp_blank (g := g) (by omega))) (fun _ => rfl) rfl (fun ad hW => mX11_blank hW g) dL_law_176 wl_10 wl_11 wl_12 wl_3 wl_13 ⟨by decide, by decide, by decide, by decide⟩ ⟨by decide, by decide⟩ (fun hW => mX12_blank hW g) dL_law_180 wl_14 wl_15 wl_16 wl_8 wl_17 ⟨by decide, by decide, by decide, by decide⟩ ⟨by decide, by decide⟩ hS hl.1 (fun H1 locs1 r hS1 kk => ?_) (fun H1 locs1 r hS1 => ?_)
  · refine lv_aload_n C0.1 C0.2.1 dL_law_179 rfl (lv_at hl 2 rfl) ?_
    exact kk
  · exact lw_eq C0 (by omega) fin dL_law_183 (by decide) hS1
theorem lw_c2 (hg : 6000 ≤ g) (C0 : lw_At p s m meth c b L xs) (Fx : lw_Fx s D tc zz ad2) (hL : L ≤ 256) (hk : 4 * k + 4 ≤ L) (hl : lv_has ls 4 [(0, .ref b), (1, .ref q1), (2, .ref (ad2 0)), (3, .int (nI (4 * k)))]) (hS : lw_St s D tc q1 zz ad2 k H locs) (fin : lw_Fin p l e s m below meth c b D tc q1 zz ad2 k ls Q) : W p l e room_1 s m #[Value.ref b] below meth c H locs (60 + 7 * k) (40 * (60 + 7 * k)) Q (F0 m 188 ls []) := by
  refine lv_aload_n C0.1 C0.2.1 dL_law_188 rfl (lv_at hl 1 rfl) ?_
  refine lw_two (mk := Value.int) (X := aX11_fault g) (M := aX12_fault g) (As := []) (n := 0) (pcx := 189) (pcm := 193) (fun _ _ => rfl) (fun _ => Nat.le_of_ble_eq_true rfl) C0 Fx (by omega) (lw_of (gp_fault (g := g) (by omega))) (fun _ => rfl) rfl (fun ad hW => mX11_fault hW g) dL_law_189 wl_18 wl_19 wl_20 wl_3 wl_21 ⟨by decide, by decide, by decide, by decide⟩ ⟨by decide, by decide⟩ (fun hW => mX12_fault hW g) dL_law_193 wl_22 wl_23 wl_24 wl_8 wl_25 ⟨by decide, by decide, by decide, by decide⟩ ⟨by decide, by decide⟩ hS hl.1 (fun H1 locs1 r hS1 kk => ?_) (fun H1 locs1 r hS1 => ?_)
  · refine lv_aload_n C0.1 C0.2.1 dL_law_192 rfl (lv_at hl 2 rfl) ?_
    exact kk
  · exact lw_eq C0 (by omega) fin dL_law_196 (by decide) hS1
theorem lw_c4 (hg : 6000 ≤ g) (C0 : lw_At p s m meth c b L xs) (Fx : lw_Fx s D tc zz ad2) (hL : L ≤ 256) (hk : 4 * k + 4 ≤ L) (hl : lv_has ls 4 [(0, .ref b), (1, .ref q1), (2, .ref (ad2 0)), (3, .int (nI (4 * k)))]) (hS : lw_St s D tc q1 zz ad2 k H locs) (fin : lw_Fin p l e s m below meth c b D tc q1 zz ad2 k ls Q) : W p l e room_1 s m #[Value.ref b] below meth c H locs (60 + 7 * k) (40 * (60 + 7 * k)) Q (F0 m 214 ls []) := by
  refine lv_aload_n C0.1 C0.2.1 dL_law_214 rfl (lv_at hl 1 rfl) ?_
  refine lw_arg (pc := 215) (J := 1) C0 hl hS.S (lw_in1 hk hL) (by decide) dL_law_215 dL_law_216 dL_law_217 dL_law_218 dL_law_219 ?_
  refine lw_arg (pc := 220) (J := 2) C0 hl hS.S (lw_in2 hk hL) (by decide) dL_law_220 dL_law_221 dL_law_222 dL_law_223 dL_law_224 ?_
  refine lw_two (mk := Value.int) (X := aX11_single g) (M := aX12_single g) (As := [.int (xs (nI (4 * k) + 1).toNatClampNeg), .int (xs (nI (4 * k) + 2).toNatClampNeg)]) (n := 2) (pcx := 225) (pcm := 239) (fun _ _ => rfl) (fun _ => Nat.le_of_ble_eq_true rfl) C0 Fx (by omega) (lw_of (gp_single (g := g) (by omega) _ _)) (fun _ => rfl) rfl (fun ad hW => mX11_single hW g) dL_law_225 wl_34 wl_35 wl_36 wl_3 wl_37 ⟨by decide, by decide, by decide, by decide⟩ ⟨by decide, by decide⟩ (fun hW => mX12_single hW g) dL_law_239 wl_38 wl_39 wl_40 wl_8 wl_41 ⟨by decide, by decide, by decide, by decide⟩ ⟨by decide, by decide⟩ hS hl.1 (fun H1 locs1 r hS1 kk => ?_) (fun H1 locs1 r hS1 => ?_)
  · refine lv_aload_n C0.1 C0.2.1 dL_law_228 rfl (lv_at hl 2 rfl) ?_
    refine lw_arg (pc := 229) (J := 1) C0 hl hS1 (lw_in1 hk hL) (by decide) dL_law_229 dL_law_230 dL_law_231 dL_law_232 dL_law_233 ?_
    refine lw_arg (pc := 234) (J := 2) C0 hl hS1 (lw_in2 hk hL) (by decide) dL_law_234 dL_law_235 dL_law_236 dL_law_237 dL_law_238 ?_
    exact kk
  · exact lw_eq C0 (by omega) fin dL_law_242 (by decide) hS1
theorem lw_c5 (hg : 6000 ≤ g) (C0 : lw_At p s m meth c b L xs) (Fx : lw_Fx s D tc zz ad2) (hL : L ≤ 256) (hk : 4 * k + 4 ≤ L) (hl : lv_has ls 4 [(0, .ref b), (1, .ref q1), (2, .ref (ad2 0)), (3, .int (nI (4 * k)))]) (hS : lw_St s D tc q1 zz ad2 k H locs) (fin : lw_Fin p l e s m below meth c b D tc q1 zz ad2 k ls Q) : W p l e room_1 s m #[Value.ref b] below meth c H locs (60 + 7 * k) (40 * (60 + 7 * k)) Q (F0 m 247 ls []) := by
  refine lv_aload_n C0.1 C0.2.1 dL_law_247 rfl (lv_at hl 1 rfl) ?_
  refine lw_arg (pc := 248) (J := 1) C0 hl hS.S (lw_in1 hk hL) (by decide) dL_law_248 dL_law_249 dL_law_250 dL_law_251 dL_law_252 ?_
  refine lw_arg (pc := 253) (J := 2) C0 hl hS.S (lw_in2 hk hL) (by decide) dL_law_253 dL_law_254 dL_law_255 dL_law_256 dL_law_257 ?_
  refine lw_two (mk := Value.int) (X := aX11_as g) (M := aX12_as g) (As := [.int (xs (nI (4 * k) + 1).toNatClampNeg), .int (xs (nI (4 * k) + 2).toNatClampNeg)]) (n := 2) (pcx := 258) (pcm := 272) (fun _ _ => rfl) (fun _ => Nat.le_of_ble_eq_true rfl) C0 Fx (by omega) (lw_of (gp_as (g := g) (by omega) _ _)) (fun _ => rfl) rfl (fun ad hW => mX11_as hW g) dL_law_258 wl_42 wl_43 wl_44 wl_3 wl_45 ⟨by decide, by decide, by decide, by decide⟩ ⟨by decide, by decide⟩ (fun hW => mX12_as hW g) dL_law_272 wl_46 wl_47 wl_48 wl_8 wl_49 ⟨by decide, by decide, by decide, by decide⟩ ⟨by decide, by decide⟩ hS hl.1 (fun H1 locs1 r hS1 kk => ?_) (fun H1 locs1 r hS1 => ?_)
  · refine lv_aload_n C0.1 C0.2.1 dL_law_261 rfl (lv_at hl 2 rfl) ?_
    refine lw_arg (pc := 262) (J := 1) C0 hl hS1 (lw_in1 hk hL) (by decide) dL_law_262 dL_law_263 dL_law_264 dL_law_265 dL_law_266 ?_
    refine lw_arg (pc := 267) (J := 2) C0 hl hS1 (lw_in2 hk hL) (by decide) dL_law_267 dL_law_268 dL_law_269 dL_law_270 dL_law_271 ?_
    exact kk
  · exact lw_eq C0 (by omega) fin dL_law_275 (by decide) hS1
theorem lw_c6 (hg : 6000 ≤ g) (C0 : lw_At p s m meth c b L xs) (Fx : lw_Fx s D tc zz ad2) (hL : L ≤ 256) (hk : 4 * k + 4 ≤ L) (hl : lv_has ls 4 [(0, .ref b), (1, .ref q1), (2, .ref (ad2 0)), (3, .int (nI (4 * k)))]) (hS : lw_St s D tc q1 zz ad2 k H locs) (fin : lw_Fin p l e s m below meth c b D tc q1 zz ad2 k ls Q) : W p l e room_1 s m #[Value.ref b] below meth c H locs (60 + 7 * k) (40 * (60 + 7 * k)) Q (F0 m 280 ls []) := by
  refine lv_aload_n C0.1 C0.2.1 dL_law_280 rfl (lv_at hl 1 rfl) ?_
  refine lw_arg (pc := 281) (J := 1) C0 hl hS.S (lw_in1 hk hL) (by decide) dL_law_281 dL_law_282 dL_law_283 dL_law_284 dL_law_285 ?_
  refine lw_arg (pc := 286) (J := 2) C0 hl hS.S (lw_in2 hk hL) (by decide) dL_law_286 dL_law_287 dL_law_288 dL_law_289 dL_law_290 ?_
  refine lw_two (mk := Value.int) (X := aX11_likeness g) (M := aX12_likeness g) (As := [.int (xs (nI (4 * k) + 1).toNatClampNeg), .int (xs (nI (4 * k) + 2).toNatClampNeg)]) (n := 2) (pcx := 291) (pcm := 305) (fun _ _ => rfl) (fun _ => Nat.le_of_ble_eq_true rfl) C0 Fx (by omega) (lw_of (gp_likeness (g := g) (by omega) _ _)) (fun _ => rfl) rfl (fun ad hW => mX11_likeness hW g) dL_law_291 wl_50 wl_51 wl_52 wl_3 wl_53 ⟨by decide, by decide, by decide, by decide⟩ ⟨by decide, by decide⟩ (fun hW => mX12_likeness hW g) dL_law_305 wl_54 wl_55 wl_56 wl_8 wl_57 ⟨by decide, by decide, by decide, by decide⟩ ⟨by decide, by decide⟩ hS hl.1 (fun H1 locs1 r hS1 kk => ?_) (fun H1 locs1 r hS1 => ?_)
  · refine lv_aload_n C0.1 C0.2.1 dL_law_294 rfl (lv_at hl 2 rfl) ?_
    refine lw_arg (pc := 295) (J := 1) C0 hl hS1 (lw_in1 hk hL) (by decide) dL_law_295 dL_law_296 dL_law_297 dL_law_298 dL_law_299 ?_
    refine lw_arg (pc := 300) (J := 2) C0 hl hS1 (lw_in2 hk hL) (by decide) dL_law_300 dL_law_301 dL_law_302 dL_law_303 dL_law_304 ?_
    exact kk
  · exact lw_eq C0 (by omega) fin dL_law_308 (by decide) hS1
theorem lw_c7 (hg : 6000 ≤ g) (C0 : lw_At p s m meth c b L xs) (Fx : lw_Fx s D tc zz ad2) (hL : L ≤ 256) (hk : 4 * k + 4 ≤ L) (hl : lv_has ls 4 [(0, .ref b), (1, .ref q1), (2, .ref (ad2 0)), (3, .int (nI (4 * k)))]) (hS : lw_St s D tc q1 zz ad2 k H locs) (fin : lw_Fin p l e s m below meth c b D tc q1 zz ad2 k ls Q) : W p l e room_1 s m #[Value.ref b] below meth c H locs (60 + 7 * k) (40 * (60 + 7 * k)) Q (F0 m 313 ls []) := by
  refine lv_aload_n C0.1 C0.2.1 dL_law_313 rfl (lv_at hl 1 rfl) ?_
  refine lw_arg (pc := 314) (J := 1) C0 hl hS.S (lw_in1 hk hL) (by decide) dL_law_314 dL_law_315 dL_law_316 dL_law_317 dL_law_318 ?_
  refine lw_arg (pc := 319) (J := 2) C0 hl hS.S (lw_in2 hk hL) (by decide) dL_law_319 dL_law_320 dL_law_321 dL_law_322 dL_law_323 ?_
  refine lw_two (mk := Value.int) (X := aX11_apart g) (M := aX12_apart g) (As := [.int (xs (nI (4 * k) + 1).toNatClampNeg), .int (xs (nI (4 * k) + 2).toNatClampNeg)]) (n := 2) (pcx := 324) (pcm := 338) (fun _ _ => rfl) (fun _ => Nat.le_of_ble_eq_true rfl) C0 Fx (by omega) (lw_of (gp_apart (g := g) (by omega) _ _)) (fun _ => rfl) rfl (fun ad hW => mX11_apart hW g) dL_law_324 wl_58 wl_59 wl_60 wl_3 wl_61 ⟨by decide, by decide, by decide, by decide⟩ ⟨by decide, by decide⟩ (fun hW => mX12_apart hW g) dL_law_338 wl_62 wl_63 wl_64 wl_8 wl_65 ⟨by decide, by decide, by decide, by decide⟩ ⟨by decide, by decide⟩ hS hl.1 (fun H1 locs1 r hS1 kk => ?_) (fun H1 locs1 r hS1 => ?_)
  · refine lv_aload_n C0.1 C0.2.1 dL_law_327 rfl (lv_at hl 2 rfl) ?_
    refine lw_arg (pc := 328) (J := 1) C0 hl hS1 (lw_in1 hk hL) (by decide) dL_law_328 dL_law_329 dL_law_330 dL_law_331 dL_law_332 ?_
    refine lw_arg (pc := 333) (J := 2) C0 hl hS1 (lw_in2 hk hL) (by decide) dL_law_333 dL_law_334 dL_law_335 dL_law_336 dL_law_337 ?_
    exact kk
  · exact lw_eq C0 (by omega) fin dL_law_341 (by decide) hS1
theorem lw_c8 (hg : 6000 ≤ g) (C0 : lw_At p s m meth c b L xs) (Fx : lw_Fx s D tc zz ad2) (hL : L ≤ 256) (hk : 4 * k + 4 ≤ L) (hl : lv_has ls 4 [(0, .ref b), (1, .ref q1), (2, .ref (ad2 0)), (3, .int (nI (4 * k)))]) (hS : lw_St s D tc q1 zz ad2 k H locs) (fin : lw_Fin p l e s m below meth c b D tc q1 zz ad2 k ls Q) : W p l e room_1 s m #[Value.ref b] below meth c H locs (60 + 7 * k) (40 * (60 + 7 * k)) Q (F0 m 346 ls []) := by
  refine lv_aload_n C0.1 C0.2.1 dL_law_346 rfl (lv_at hl 1 rfl) ?_
  refine lw_arg (pc := 347) (J := 1) C0 hl hS.S (lw_in1 hk hL) (by decide) dL_law_347 dL_law_348 dL_law_349 dL_law_350 dL_law_351 ?_
  refine lw_arg (pc := 352) (J := 2) C0 hl hS.S (lw_in2 hk hL) (by decide) dL_law_352 dL_law_353 dL_law_354 dL_law_355 dL_law_356 ?_
  refine lw_two (mk := Value.int) (X := aX11_carry g) (M := aX12_carry g) (As := [.int (xs (nI (4 * k) + 1).toNatClampNeg), .int (xs (nI (4 * k) + 2).toNatClampNeg)]) (n := 2) (pcx := 357) (pcm := 371) (fun _ _ => rfl) (fun _ => Nat.le_of_ble_eq_true rfl) C0 Fx (by omega) (lw_of (gp_carry (g := g) (by omega) _ _)) (fun _ => rfl) rfl (fun ad hW => mX11_carry hW g) dL_law_357 wl_66 wl_67 wl_68 wl_3 wl_69 ⟨by decide, by decide, by decide, by decide⟩ ⟨by decide, by decide⟩ (fun hW => mX12_carry hW g) dL_law_371 wl_70 wl_71 wl_72 wl_8 wl_73 ⟨by decide, by decide, by decide, by decide⟩ ⟨by decide, by decide⟩ hS hl.1 (fun H1 locs1 r hS1 kk => ?_) (fun H1 locs1 r hS1 => ?_)
  · refine lv_aload_n C0.1 C0.2.1 dL_law_360 rfl (lv_at hl 2 rfl) ?_
    refine lw_arg (pc := 361) (J := 1) C0 hl hS1 (lw_in1 hk hL) (by decide) dL_law_361 dL_law_362 dL_law_363 dL_law_364 dL_law_365 ?_
    refine lw_arg (pc := 366) (J := 2) C0 hl hS1 (lw_in2 hk hL) (by decide) dL_law_366 dL_law_367 dL_law_368 dL_law_369 dL_law_370 ?_
    exact kk
  · exact lw_eq C0 (by omega) fin dL_law_374 (by decide) hS1
theorem lw_c9 (hg : 6000 ≤ g) (C0 : lw_At p s m meth c b L xs) (Fx : lw_Fx s D tc zz ad2) (hL : L ≤ 256) (hk : 4 * k + 4 ≤ L) (hl : lv_has ls 4 [(0, .ref b), (1, .ref q1), (2, .ref (ad2 0)), (3, .int (nI (4 * k)))]) (hS : lw_St s D tc q1 zz ad2 k H locs) (fin : lw_Fin p l e s m below meth c b D tc q1 zz ad2 k ls Q) : W p l e room_1 s m #[Value.ref b] below meth c H locs (60 + 7 * k) (40 * (60 + 7 * k)) Q (F0 m 379 ls []) := by
  refine lv_aload_n C0.1 C0.2.1 dL_law_379 rfl (lv_at hl 1 rfl) ?_
  refine lw_arg (pc := 380) (J := 1) C0 hl hS.S (lw_in1 hk hL) (by decide) dL_law_380 dL_law_381 dL_law_382 dL_law_383 dL_law_384 ?_
  refine lw_arg (pc := 385) (J := 2) C0 hl hS.S (lw_in2 hk hL) (by decide) dL_law_385 dL_law_386 dL_law_387 dL_law_388 dL_law_389 ?_
  refine lw_two (mk := Value.int) (X := aX11_bring g) (M := aX12_bring g) (As := [.int (xs (nI (4 * k) + 1).toNatClampNeg), .int (xs (nI (4 * k) + 2).toNatClampNeg)]) (n := 2) (pcx := 390) (pcm := 404) (fun _ _ => rfl) (fun _ => Nat.le_of_ble_eq_true rfl) C0 Fx (by omega) (lw_of (gp_bring (g := g) (by omega) _ _)) (fun _ => rfl) rfl (fun ad hW => mX11_bring hW g) dL_law_390 wl_74 wl_75 wl_76 wl_3 wl_77 ⟨by decide, by decide, by decide, by decide⟩ ⟨by decide, by decide⟩ (fun hW => mX12_bring hW g) dL_law_404 wl_78 wl_79 wl_80 wl_8 wl_81 ⟨by decide, by decide, by decide, by decide⟩ ⟨by decide, by decide⟩ hS hl.1 (fun H1 locs1 r hS1 kk => ?_) (fun H1 locs1 r hS1 => ?_)
  · refine lv_aload_n C0.1 C0.2.1 dL_law_393 rfl (lv_at hl 2 rfl) ?_
    refine lw_arg (pc := 394) (J := 1) C0 hl hS1 (lw_in1 hk hL) (by decide) dL_law_394 dL_law_395 dL_law_396 dL_law_397 dL_law_398 ?_
    refine lw_arg (pc := 399) (J := 2) C0 hl hS1 (lw_in2 hk hL) (by decide) dL_law_399 dL_law_400 dL_law_401 dL_law_402 dL_law_403 ?_
    exact kk
  · exact lw_eq C0 (by omega) fin dL_law_407 (by decide) hS1
theorem lw_c10 (hg : 6000 ≤ g) (C0 : lw_At p s m meth c b L xs) (Fx : lw_Fx s D tc zz ad2) (hL : L ≤ 256) (hk : 4 * k + 4 ≤ L) (hl : lv_has ls 4 [(0, .ref b), (1, .ref q1), (2, .ref (ad2 0)), (3, .int (nI (4 * k)))]) (hS : lw_St s D tc q1 zz ad2 k H locs) (fin : lw_Fin p l e s m below meth c b D tc q1 zz ad2 k ls Q) : W p l e room_1 s m #[Value.ref b] below meth c H locs (60 + 7 * k) (40 * (60 + 7 * k)) Q (F0 m 412 ls []) := by
  refine lv_aload_n C0.1 C0.2.1 dL_law_412 rfl (lv_at hl 1 rfl) ?_
  refine lw_arg (pc := 413) (J := 1) C0 hl hS.S (lw_in1 hk hL) (by decide) dL_law_413 dL_law_414 dL_law_415 dL_law_416 dL_law_417 ?_
  refine lw_two (mk := Value.int) (X := aX11_part g) (M := aX12_part g) (As := [.int (xs (nI (4 * k) + 1).toNatClampNeg)]) (n := 1) (pcx := 418) (pcm := 427) (fun _ _ => rfl) (fun _ => Nat.le_of_ble_eq_true rfl) C0 Fx (by omega) (lw_of (gp_part (g := g) (by omega) _)) (fun _ => rfl) rfl (fun ad hW => mX11_part hW g) dL_law_418 wl_82 wl_83 wl_84 wl_3 wl_85 ⟨by decide, by decide, by decide, by decide⟩ ⟨by decide, by decide⟩ (fun hW => mX12_part hW g) dL_law_427 wl_86 wl_87 wl_88 wl_8 wl_89 ⟨by decide, by decide, by decide, by decide⟩ ⟨by decide, by decide⟩ hS hl.1 (fun H1 locs1 r hS1 kk => ?_) (fun H1 locs1 r hS1 => ?_)
  · refine lv_aload_n C0.1 C0.2.1 dL_law_421 rfl (lv_at hl 2 rfl) ?_
    refine lw_arg (pc := 422) (J := 1) C0 hl hS1 (lw_in1 hk hL) (by decide) dL_law_422 dL_law_423 dL_law_424 dL_law_425 dL_law_426 ?_
    exact kk
  · exact lw_eq C0 (by omega) fin dL_law_430 (by decide) hS1
theorem lw_c11 (hg : 6000 ≤ g) (C0 : lw_At p s m meth c b L xs) (Fx : lw_Fx s D tc zz ad2) (hL : L ≤ 256) (hk : 4 * k + 4 ≤ L) (hl : lv_has ls 4 [(0, .ref b), (1, .ref q1), (2, .ref (ad2 0)), (3, .int (nI (4 * k)))]) (hS : lw_St s D tc q1 zz ad2 k H locs) (fin : lw_Fin p l e s m below meth c b D tc q1 zz ad2 k ls Q) : W p l e room_1 s m #[Value.ref b] below meth c H locs (60 + 7 * k) (40 * (60 + 7 * k)) Q (F0 m 435 ls []) := by
  refine lv_aload_n C0.1 C0.2.1 dL_law_435 rfl (lv_at hl 1 rfl) ?_
  refine lw_arg (pc := 436) (J := 1) C0 hl hS.S (lw_in1 hk hL) (by decide) dL_law_436 dL_law_437 dL_law_438 dL_law_439 dL_law_440 ?_
  refine lw_arg (pc := 441) (J := 2) C0 hl hS.S (lw_in2 hk hL) (by decide) dL_law_441 dL_law_442 dL_law_443 dL_law_444 dL_law_445 ?_
  refine lw_two (mk := Value.int) (X := aX11_shrink g) (M := aX12_shrink g) (As := [.int (xs (nI (4 * k) + 1).toNatClampNeg), .int (xs (nI (4 * k) + 2).toNatClampNeg)]) (n := 2) (pcx := 446) (pcm := 460) (fun _ _ => rfl) (fun _ => Nat.le_of_ble_eq_true rfl) C0 Fx (by omega) (lw_of (gp_shrink (g := g) (by omega) _ _)) (fun _ => rfl) rfl (fun ad hW => mX11_shrink hW g) dL_law_446 wl_90 wl_91 wl_92 wl_3 wl_93 ⟨by decide, by decide, by decide, by decide⟩ ⟨by decide, by decide⟩ (fun hW => mX12_shrink hW g) dL_law_460 wl_94 wl_95 wl_96 wl_8 wl_97 ⟨by decide, by decide, by decide, by decide⟩ ⟨by decide, by decide⟩ hS hl.1 (fun H1 locs1 r hS1 kk => ?_) (fun H1 locs1 r hS1 => ?_)
  · refine lv_aload_n C0.1 C0.2.1 dL_law_449 rfl (lv_at hl 2 rfl) ?_
    refine lw_arg (pc := 450) (J := 1) C0 hl hS1 (lw_in1 hk hL) (by decide) dL_law_450 dL_law_451 dL_law_452 dL_law_453 dL_law_454 ?_
    refine lw_arg (pc := 455) (J := 2) C0 hl hS1 (lw_in2 hk hL) (by decide) dL_law_455 dL_law_456 dL_law_457 dL_law_458 dL_law_459 ?_
    exact kk
  · exact lw_eq C0 (by omega) fin dL_law_463 (by decide) hS1
theorem lw_c12 (hg : 6000 ≤ g) (C0 : lw_At p s m meth c b L xs) (Fx : lw_Fx s D tc zz ad2) (hL : L ≤ 256) (hk : 4 * k + 4 ≤ L) (hl : lv_has ls 4 [(0, .ref b), (1, .ref q1), (2, .ref (ad2 0)), (3, .int (nI (4 * k)))]) (hS : lw_St s D tc q1 zz ad2 k H locs) (fin : lw_Fin p l e s m below meth c b D tc q1 zz ad2 k ls Q) : W p l e room_1 s m #[Value.ref b] below meth c H locs (60 + 7 * k) (40 * (60 + 7 * k)) Q (F0 m 468 ls []) := by
  refine lv_aload_n C0.1 C0.2.1 dL_law_468 rfl (lv_at hl 1 rfl) ?_
  refine lw_two (mk := Value.int) (X := aX11_may g) (M := aX12_may g) (As := []) (n := 0) (pcx := 469) (pcm := 473) (fun _ _ => rfl) (fun _ => Nat.le_of_ble_eq_true rfl) C0 Fx (by omega) (lw_of (gp_may (g := g) (by omega))) (fun _ => rfl) rfl (fun ad hW => mX11_may hW g) dL_law_469 wl_98 wl_99 wl_100 wl_3 wl_101 ⟨by decide, by decide, by decide, by decide⟩ ⟨by decide, by decide⟩ (fun hW => mX12_may hW g) dL_law_473 wl_102 wl_103 wl_104 wl_8 wl_105 ⟨by decide, by decide, by decide, by decide⟩ ⟨by decide, by decide⟩ hS hl.1 (fun H1 locs1 r hS1 kk => ?_) (fun H1 locs1 r hS1 => ?_)
  · refine lv_aload_n C0.1 C0.2.1 dL_law_472 rfl (lv_at hl 2 rfl) ?_
    exact kk
  · exact lw_eq C0 (by omega) fin dL_law_476 (by decide) hS1
end LWC
