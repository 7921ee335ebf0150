set_option maxHeartbeats 4000000 in
set_option maxRecDepth 100000 in
theorem law_carrier {p : Program} {l : Launch} {e : Env} {s : State} {m : MethodId} {below : List Frame} {meth : Method} {c : Code} (hfl : l.stackTraces = false) {D : va_G} {ad : Nat → Nat} {cI cJ cO cZ : ClassId} {b h0 o : Nat} {xs : Nat → Int32} {u r0 r1 r2 : Nat → Nat} {sa : Nat → Nat} (C0 : lw_At p s m meth c b 7 xs) (hN : ex_n s) (hE : ex_w sa s) (hZ : ex_z (fun q : Nat => s.heap.size ≤ q) s s.heap) (hKW : va_K D vwCl [(cI, .int), (cJ, .long)] s) (hKM : va_K D vwCl [(cI, .int), (cO, .array .int), (cZ, .boolean)] s) {H : Heap} {locs : List Loc} (hP : va_P D vwCl (wrW ad cI cJ o ++ tmW h0 u r0 r1 r2 cI cO cZ) H) (hD : va_D (fun q : Nat => s.heap.size ≤ q) (wrW ad cI cJ o ++ tmW h0 u r0 r1 r2 cI cO cZ)) (hS : va_S (fun q : Nat => s.heap.size ≤ q) s.heap H locs) {od : Nat} {ls : Array Slot} (hl : lv_has ls 9 [(5, .int 0), (4, .ref od), (3, .ref o), (2, .ref h0), (1, .ref (ad 0)), (0, .ref b)]) : W p l e room_1 s m #[Value.ref b] below meth c H locs 400 10000 (lw_Z below #[Value.ref b] s) (F0 m 228 ls []) := by
  obtain ⟨hx, hb, hr, hml, hown, hts, hX, hbl, hlocks, hgv⟩ := id C0
  have hA : ∀ q : Nat, s.heap.size ≤ q → (fun q : Nat => s.heap.size ≤ q) q := fun _ h => h
  have hbA : ¬ (fun q : Nat => s.heap.size ≤ q) b := Nat.not_le.mpr hbl
  have ho : ∀ (k : Nat) (q : Nat × va_E), (tmW h0 u r0 r1 r2 cI cO cZ)[k]? = some q → q.1 ≠ o := ne_of hD 98 rfl
  have hne : h0 ≠ o := ho 0 (h0, _) rfl
  refine lv_aload_n hx hb dL_law_228 rfl (lv_at hl 4 rfl) ?_
  refine lv_aload_n hx hb dL_law_229 rfl (lv_at hl 5 rfl) ?_
  refine lv_iload hx hb dL_law_230 (lv_at hl 0 rfl) ?_
  refine lv_iconst (v := 1) hx hb dL_law_232 (by decide) ?_
  refine lv_iadd hx hb dL_law_233 ?_
  refine W.eq (g2 := F0 m 234 ls [.int 1, .ref b, .ref (ad 0)]) rfl ?_
  refine va_sld hx hb hX hbl hbA hS (by unfold vp_in; decide) dL_law_234 ?_
  refine W.eq (g2 := F0 m 235 ls [.int (xs 1), .ref (ad 0)]) rfl ?_
  refine lv_aload_n hx hb dL_law_235 rfl (lv_at hl 5 rfl) ?_
  refine lv_iload hx hb dL_law_236 (lv_at hl 0 rfl) ?_
  refine lv_iconst (v := 2) hx hb dL_law_238 (by decide) ?_
  refine lv_iadd hx hb dL_law_239 ?_
  refine W.eq (g2 := F0 m 240 ls [.int 2, .ref b, .int (xs 1), .ref (ad 0)]) rfl ?_
  refine va_sld hx hb hX hbl hbA hS (by unfold vp_in; decide) dL_law_240 ?_
  refine W.eq (g2 := F0 m 241 ls [.int (xs 2), .int (xs 1), .ref (ad 0)]) rfl ?_
  refine lv_aload_n hx hb dL_law_241 rfl (lv_at hl 2 rfl) ?_
  refine l_kw hP hD hS hA (vx_runSX (hh := [(0, 10, 13, 13)]) (As := [.ref (ad 0), .int (xs 1), .int (xs 2), .ref o]) (rest := []) ⟨hx, hb, hml, hown, hts⟩ (w_carrier l hfl D ad cI cJ H.size o (xs 1) (xs 2) sa) (vx_cwSW 4 hts gl_L_carrier rfl rfl rfl (by decide +kernel) ⟨Nat.le_of_ble_eq_true rfl, Nat.le_of_ble_eq_true rfl⟩) (w_preS hN hE hZ hKW (pre_P hP) (pre_D hD) hS hA) rfl rfl hl.1 rfl (lv_room (Nat.le_of_ble_eq_true rfl)) dL_law_242 ⟨Nat.le_of_ble_eq_true rfl, Nat.le_of_ble_eq_true rfl⟩) (fun k f H locs hw hPo hPb hDb hS => ?_)
  refine lv_istore (lv' := [(6, .int k), (5, .int 0), (4, .ref od), (3, .ref o), (2, .ref h0), (1, .ref (ad 0)), (0, .ref b)]) hx hb dL_law_245 hl (by decide) rfl (fun ls hl => ?_)
  refine lv_aload_n hx hb dL_law_247 rfl (lv_at hl 4 rfl) ?_
  refine lv_aload_n hx hb dL_law_248 rfl (lv_at hl 6 rfl) ?_
  refine lv_iload hx hb dL_law_249 (lv_at hl 1 rfl) ?_
  refine lv_iconst (v := 1) hx hb dL_law_251 (by decide) ?_
  refine lv_iadd hx hb dL_law_252 ?_
  refine W.eq (g2 := F0 m 253 ls [.int 1, .ref b, .ref h0]) rfl ?_
  refine va_sld hx hb hX hbl hbA hS (by unfold vp_in; decide) dL_law_253 ?_
  refine W.eq (g2 := F0 m 254 ls [.int (xs 1), .ref h0]) rfl ?_
  refine lv_aload_n hx hb dL_law_254 rfl (lv_at hl 6 rfl) ?_
  refine lv_iload hx hb dL_law_255 (lv_at hl 1 rfl) ?_
  refine lv_iconst (v := 2) hx hb dL_law_257 (by decide) ?_
  refine lv_iadd hx hb dL_law_258 ?_
  refine W.eq (g2 := F0 m 259 ls [.int 2, .ref b, .int (xs 1), .ref h0]) rfl ?_
  refine va_sld hx hb hX hbl hbA hS (by unfold vp_in; decide) dL_law_259 ?_
  refine W.eq (g2 := F0 m 260 ls [.int (xs 2), .int (xs 1), .ref h0]) rfl ?_
  refine l_km hPb hDb hS hA hPo ho (va_runV (As := [.int (xs 1), .int (xs 2)]) (rest := []) ⟨hx, hb, hml, hown, hts⟩ (qm_carrier l D H.size h0 u r0 r1 r2 cI cO cZ (tmP r0 r1 r2 cI) (xs 1) (xs 2)) (cwV 2 hts gl_X9_carrier rfl rfl rfl (by decide +kernel) ⟨Nat.le_of_ble_eq_true rfl, Nat.le_of_ble_eq_true rfl⟩) (g_preV hKM hPb hDb (ci := 9) (q0 := 0) rfl rfl) rfl rfl hl.1 rfl (lv_room (Nat.le_of_ble_eq_true rfl)) dL_law_260 ⟨Nat.le_of_ble_eq_true rfl, Nat.le_of_ble_eq_true rfl⟩) (fun r v t H locs hv hm hPm hDm hPo hS => ?_)
  refine lv_istore (lv' := [(7, .int r), (6, .int k), (5, .int 0), (4, .ref od), (3, .ref o), (2, .ref h0), (1, .ref (ad 0)), (0, .ref b)]) hx hb dL_law_263 hl (by decide) rfl (fun ls hl => ?_)
  refine lv_aload_n hx hb dL_law_265 rfl (lv_at hl 5 rfl) ?_
  refine l_kt hDm hS hA hPo (ne1 hne) (va_runV (As := []) (rest := []) ⟨hx, hb, hml, hown, hts⟩ (q_thrown l D [(cI, .int), (cO, .array .int), (cZ, .boolean)] H.size h0 v t hv) (cwV 0 hts gl_X9_thrown rfl rfl rfl (by decide +kernel) ⟨Nat.le_of_ble_eq_true rfl, Nat.le_of_ble_eq_true rfl⟩) (g_preV hKM hPm hDm (ci := 9) (q0 := 0) rfl rfl) rfl rfl hl.1 rfl (lv_room (Nat.le_of_ble_eq_true rfl)) dL_law_266 ⟨Nat.le_of_ble_eq_true rfl, Nat.le_of_ble_eq_true rfl⟩) (fun H locs hPo hS => ?_)
  have ag := ag_carrier (x0 := xs 1) (x1 := xs 2) (y := f 0) hw hm
  refine lv_iload hx hb dL_law_269 (lv_at hl 1 rfl) ?_
  refine lv_icmp_eq (tgt := 276) hx hb dL_law_271 (by decide) (fun c_359 => ?_) (fun c_359 => ?_)
  · refine lv_iload hx hb dL_law_276 (lv_at hl 1 rfl) ?_
    refine lv_if_ne (tgt := 293) hx hb dL_law_278 (by decide) (fun c_360 => ?_) (fun c_360 => ?_)
    · refine lv_goto (tgt := 2118) hx hb dL_law_293 (by decide) ?_
      exact law_tail C0 hS (lv_sub hl [2, 7] rfl)
    · have agv := ag.2 c_360
      refine lv_aload_n hx hb dL_law_281 rfl (lv_at hl 4 rfl) ?_
      refine lv_iconst (v := 0) hx hb dL_law_282 (by decide) ?_
      refine va_lald (tys := [(cI, .int), (cJ, .long)]) hx hb hKW hPo 0 1 rfl rfl (by unfold vp_in; decide) dL_law_283 ?_
      refine W.eq (g2 := F0 m 284 ls [.long (f 0)]) rfl ?_
      refine lv_iload hx hb dL_law_284 (lv_at hl 0 rfl) ?_
      refine lv_i2l (v := r.toInt64) hx hb dL_law_286 rfl ?_
      refine W.lcmp hx hb dL_law_287 ?_
      refine lv_if_eq (tgt := 293) hx hb dL_law_288 (by decide) (fun c_361 => ?_) (fun c_361 => ?_)
      · refine lv_goto (tgt := 2118) hx hb dL_law_293 (by decide) ?_
        exact law_tail C0 hS (lv_sub hl [2, 7] rfl)
      · exact absurd (by rw [agv]; exact lg_cmp_self _) c_361
  · exact absurd ag.1 c_359
set_option maxHeartbeats 4000000 in
set_option maxRecDepth 100000 in
theorem law_tariff {p : Program} {l : Launch} {e : Env} {s : State} {m : MethodId} {below : List Frame} {meth : Method} {c : Code} (hfl : l.stackTraces = false) {D : va_G} {ad : Nat → Nat} {cI cJ cO cZ : ClassId} {b h0 o : Nat} {xs : Nat → Int32} {u r0 r1 r2 : Nat → Nat} {sa : Nat → Nat} (C0 : lw_At p s m meth c b 7 xs) (hN : ex_n s) (hE : ex_w sa s) (hZ : ex_z (fun q : Nat => s.heap.size ≤ q) s s.heap) (hKW : va_K D vwCl [(cI, .int), (cJ, .long)] s) (hKM : va_K D vwCl [(cI, .int), (cO, .array .int), (cZ, .boolean)] s) {H : Heap} {locs : List Loc} (hP : va_P D vwCl (wrW ad cI cJ o ++ tmW h0 u r0 r1 r2 cI cO cZ) H) (hD : va_D (fun q : Nat => s.heap.size ≤ q) (wrW ad cI cJ o ++ tmW h0 u r0 r1 r2 cI cO cZ)) (hS : va_S (fun q : Nat => s.heap.size ≤ q) s.heap H locs) {od : Nat} {ls : Array Slot} (hl : lv_has ls 9 [(5, .int 0), (4, .ref od), (3, .ref o), (2, .ref h0), (1, .ref (ad 0)), (0, .ref b)]) : W p l e room_1 s m #[Value.ref b] below meth c H locs 400 10000 (lw_Z below #[Value.ref b] s) (F0 m 296 ls []) := by
  obtain ⟨hx, hb, hr, hml, hown, hts, hX, hbl, hlocks, hgv⟩ := id C0
  have hA : ∀ q : Nat, s.heap.size ≤ q → (fun q : Nat => s.heap.size ≤ q) q := fun _ h => h
  have hbA : ¬ (fun q : Nat => s.heap.size ≤ q) b := Nat.not_le.mpr hbl
  have ho : ∀ (k : Nat) (q : Nat × va_E), (tmW h0 u r0 r1 r2 cI cO cZ)[k]? = some q → q.1 ≠ o := ne_of hD 98 rfl
  have hne : h0 ≠ o := ho 0 (h0, _) rfl
  refine lv_aload_n hx hb dL_law_296 rfl (lv_at hl 4 rfl) ?_
  refine lv_aload_n hx hb dL_law_297 rfl (lv_at hl 5 rfl) ?_
  refine lv_iload hx hb dL_law_298 (lv_at hl 0 rfl) ?_
  refine lv_iconst (v := 1) hx hb dL_law_300 (by decide) ?_
  refine lv_iadd hx hb dL_law_301 ?_
  refine W.eq (g2 := F0 m 302 ls [.int 1, .ref b, .ref (ad 0)]) rfl ?_
  refine va_sld hx hb hX hbl hbA hS (by unfold vp_in; decide) dL_law_302 ?_
  refine W.eq (g2 := F0 m 303 ls [.int (xs 1), .ref (ad 0)]) rfl ?_
  refine lv_aload_n hx hb dL_law_303 rfl (lv_at hl 5 rfl) ?_
  refine lv_iload hx hb dL_law_304 (lv_at hl 0 rfl) ?_
  refine lv_iconst (v := 2) hx hb dL_law_306 (by decide) ?_
  refine lv_iadd hx hb dL_law_307 ?_
  refine W.eq (g2 := F0 m 308 ls [.int 2, .ref b, .int (xs 1), .ref (ad 0)]) rfl ?_
  refine va_sld hx hb hX hbl hbA hS (by unfold vp_in; decide) dL_law_308 ?_
  refine W.eq (g2 := F0 m 309 ls [.int (xs 2), .int (xs 1), .ref (ad 0)]) rfl ?_
  refine lv_aload_n hx hb dL_law_309 rfl (lv_at hl 5 rfl) ?_
  refine lv_iload hx hb dL_law_310 (lv_at hl 0 rfl) ?_
  refine lv_iconst (v := 3) hx hb dL_law_312 (by decide) ?_
  refine lv_iadd hx hb dL_law_313 ?_
  refine W.eq (g2 := F0 m 314 ls [.int 3, .ref b, .int (xs 2), .int (xs 1), .ref (ad 0)]) rfl ?_
  refine va_sld hx hb hX hbl hbA hS (by unfold vp_in; decide) dL_law_314 ?_
  refine W.eq (g2 := F0 m 315 ls [.int (xs 3), .int (xs 2), .int (xs 1), .ref (ad 0)]) rfl ?_
  refine lv_aload_n hx hb dL_law_315 rfl (lv_at hl 5 rfl) ?_
  refine lv_iload hx hb dL_law_316 (lv_at hl 0 rfl) ?_
  refine lv_iconst (v := 4) hx hb dL_law_318 (by decide) ?_
  refine lv_iadd hx hb dL_law_319 ?_
  refine W.eq (g2 := F0 m 320 ls [.int 4, .ref b, .int (xs 3), .int (xs 2), .int (xs 1), .ref (ad 0)]) rfl ?_
  refine va_sld hx hb hX hbl hbA hS (by unfold vp_in; decide) dL_law_320 ?_
  refine W.eq (g2 := F0 m 321 ls [.int (xs 4), .int (xs 3), .int (xs 2), .int (xs 1), .ref (ad 0)]) rfl ?_
  refine lv_aload_n hx hb dL_law_321 rfl (lv_at hl 5 rfl) ?_
  refine lv_iload hx hb dL_law_322 (lv_at hl 0 rfl) ?_
  refine lv_iconst (v := 5) hx hb dL_law_324 (by decide) ?_
  refine lv_iadd hx hb dL_law_325 ?_
  refine W.eq (g2 := F0 m 326 ls [.int 5, .ref b, .int (xs 4), .int (xs 3), .int (xs 2), .int (xs 1), .ref (ad 0)]) rfl ?_
  refine va_sld hx hb hX hbl hbA hS (by unfold vp_in; decide) dL_law_326 ?_
  refine W.eq (g2 := F0 m 327 ls [.int (xs 5), .int (xs 4), .int (xs 3), .int (xs 2), .int (xs 1), .ref (ad 0)]) rfl ?_
  refine lv_aload_n hx hb dL_law_327 rfl (lv_at hl 2 rfl) ?_
  refine l_kw hP hD hS hA (vx_runSX (hh := [(0, 16, 19, 15), (0, 16, 23, 24)]) (As := [.ref (ad 0), .int (xs 1), .int (xs 2), .int (xs 3), .int (xs 4), .int (xs 5), .ref o]) (rest := []) ⟨hx, hb, hml, hown, hts⟩ (w_tariff l hfl D ad cI cJ H.size o (xs 1) (xs 2) (xs 3) (xs 4) (xs 5) sa) (vx_cwSW 7 hts gl_L_tariff rfl rfl rfl (by decide +kernel) ⟨Nat.le_of_ble_eq_true rfl, Nat.le_of_ble_eq_true rfl⟩) (w_preS hN hE hZ hKW (pre_P hP) (pre_D hD) hS hA) rfl rfl hl.1 rfl (lv_room (Nat.le_of_ble_eq_true rfl)) dL_law_328 ⟨Nat.le_of_ble_eq_true rfl, Nat.le_of_ble_eq_true rfl⟩) (fun k f H locs hw hPo hPb hDb hS => ?_)
  refine lv_istore (lv' := [(6, .int k), (5, .int 0), (4, .ref od), (3, .ref o), (2, .ref h0), (1, .ref (ad 0)), (0, .ref b)]) hx hb dL_law_331 hl (by decide) rfl (fun ls hl => ?_)
  refine lv_aload_n hx hb dL_law_333 rfl (lv_at hl 4 rfl) ?_
  refine lv_aload_n hx hb dL_law_334 rfl (lv_at hl 6 rfl) ?_
  refine lv_iload hx hb dL_law_335 (lv_at hl 1 rfl) ?_
  refine lv_iconst (v := 1) hx hb dL_law_337 (by decide) ?_
  refine lv_iadd hx hb dL_law_338 ?_
  refine W.eq (g2 := F0 m 339 ls [.int 1, .ref b, .ref h0]) rfl ?_
  refine va_sld hx hb hX hbl hbA hS (by unfold vp_in; decide) dL_law_339 ?_
  refine W.eq (g2 := F0 m 340 ls [.int (xs 1), .ref h0]) rfl ?_
  refine lv_aload_n hx hb dL_law_340 rfl (lv_at hl 6 rfl) ?_
  refine lv_iload hx hb dL_law_341 (lv_at hl 1 rfl) ?_
  refine lv_iconst (v := 2) hx hb dL_law_343 (by decide) ?_
  refine lv_iadd hx hb dL_law_344 ?_
  refine W.eq (g2 := F0 m 345 ls [.int 2, .ref b, .int (xs 1), .ref h0]) rfl ?_
  refine va_sld hx hb hX hbl hbA hS (by unfold vp_in; decide) dL_law_345 ?_
  refine W.eq (g2 := F0 m 346 ls [.int (xs 2), .int (xs 1), .ref h0]) rfl ?_
  refine lv_aload_n hx hb dL_law_346 rfl (lv_at hl 6 rfl) ?_
  refine lv_iload hx hb dL_law_347 (lv_at hl 1 rfl) ?_
  refine lv_iconst (v := 3) hx hb dL_law_349 (by decide) ?_
  refine lv_iadd hx hb dL_law_350 ?_
  refine W.eq (g2 := F0 m 351 ls [.int 3, .ref b, .int (xs 2), .int (xs 1), .ref h0]) rfl ?_
  refine va_sld hx hb hX hbl hbA hS (by unfold vp_in; decide) dL_law_351 ?_
  refine W.eq (g2 := F0 m 352 ls [.int (xs 3), .int (xs 2), .int (xs 1), .ref h0]) rfl ?_
  refine lv_aload_n hx hb dL_law_352 rfl (lv_at hl 6 rfl) ?_
  refine lv_iload hx hb dL_law_353 (lv_at hl 1 rfl) ?_
  refine lv_iconst (v := 4) hx hb dL_law_355 (by decide) ?_
  refine lv_iadd hx hb dL_law_356 ?_
  refine W.eq (g2 := F0 m 357 ls [.int 4, .ref b, .int (xs 3), .int (xs 2), .int (xs 1), .ref h0]) rfl ?_
  refine va_sld hx hb hX hbl hbA hS (by unfold vp_in; decide) dL_law_357 ?_
  refine W.eq (g2 := F0 m 358 ls [.int (xs 4), .int (xs 3), .int (xs 2), .int (xs 1), .ref h0]) rfl ?_
  refine lv_aload_n hx hb dL_law_358 rfl (lv_at hl 6 rfl) ?_
  refine lv_iload hx hb dL_law_359 (lv_at hl 1 rfl) ?_
  refine lv_iconst (v := 5) hx hb dL_law_361 (by decide) ?_
  refine lv_iadd hx hb dL_law_362 ?_
  refine W.eq (g2 := F0 m 363 ls [.int 5, .ref b, .int (xs 4), .int (xs 3), .int (xs 2), .int (xs 1), .ref h0]) rfl ?_
  refine va_sld hx hb hX hbl hbA hS (by unfold vp_in; decide) dL_law_363 ?_
  refine W.eq (g2 := F0 m 364 ls [.int (xs 5), .int (xs 4), .int (xs 3), .int (xs 2), .int (xs 1), .ref h0]) rfl ?_
  refine l_km hPb hDb hS hA hPo ho (va_runV (As := [.int (xs 1), .int (xs 2), .int (xs 3), .int (xs 4), .int (xs 5)]) (rest := []) ⟨hx, hb, hml, hown, hts⟩ (qm_tariff l D H.size h0 u r0 r1 r2 cI cO cZ (tmP r0 r1 r2 cI) (xs 1) (xs 2) (xs 3) (xs 4) (xs 5)) (cwV 5 hts gl_X9_tariff_ rfl rfl rfl (by decide +kernel) ⟨Nat.le_of_ble_eq_true rfl, Nat.le_of_ble_eq_true rfl⟩) (g_preV hKM hPb hDb (ci := 9) (q0 := 0) rfl rfl) rfl rfl hl.1 rfl (lv_room (Nat.le_of_ble_eq_true rfl)) dL_law_364 ⟨Nat.le_of_ble_eq_true rfl, Nat.le_of_ble_eq_true rfl⟩) (fun r v t H locs hv hm hPm hDm hPo hS => ?_)
  refine lv_istore (lv' := [(7, .int r), (6, .int k), (5, .int 0), (4, .ref od), (3, .ref o), (2, .ref h0), (1, .ref (ad 0)), (0, .ref b)]) hx hb dL_law_367 hl (by decide) rfl (fun ls hl => ?_)
  refine lv_aload_n hx hb dL_law_369 rfl (lv_at hl 5 rfl) ?_
  refine l_kt hDm hS hA hPo (ne1 hne) (va_runV (As := []) (rest := []) ⟨hx, hb, hml, hown, hts⟩ (q_thrown l D [(cI, .int), (cO, .array .int), (cZ, .boolean)] H.size h0 v t hv) (cwV 0 hts gl_X9_thrown rfl rfl rfl (by decide +kernel) ⟨Nat.le_of_ble_eq_true rfl, Nat.le_of_ble_eq_true rfl⟩) (g_preV hKM hPm hDm (ci := 9) (q0 := 0) rfl rfl) rfl rfl hl.1 rfl (lv_room (Nat.le_of_ble_eq_true rfl)) dL_law_370 ⟨Nat.le_of_ble_eq_true rfl, Nat.le_of_ble_eq_true rfl⟩) (fun H locs hPo hS => ?_)
  have ag := ag_tariff (x0 := xs 1) (x1 := xs 2) (x2 := xs 3) (x3 := xs 4) (x4 := xs 5) (y := f 0) hw hm
  refine lv_iload hx hb dL_law_373 (lv_at hl 1 rfl) ?_
  refine lv_icmp_eq (tgt := 380) hx hb dL_law_375 (by decide) (fun c_362 => ?_) (fun c_362 => ?_)
  · refine lv_iload hx hb dL_law_380 (lv_at hl 1 rfl) ?_
    refine lv_if_ne (tgt := 397) hx hb dL_law_382 (by decide) (fun c_363 => ?_) (fun c_363 => ?_)
    · refine lv_goto (tgt := 2118) hx hb dL_law_397 (by decide) ?_
      exact law_tail C0 hS (lv_sub hl [2, 7] rfl)
    · have agv := ag.2 c_363
      refine lv_aload_n hx hb dL_law_385 rfl (lv_at hl 4 rfl) ?_
      refine lv_iconst (v := 0) hx hb dL_law_386 (by decide) ?_
      refine va_lald (tys := [(cI, .int), (cJ, .long)]) hx hb hKW hPo 0 1 rfl rfl (by unfold vp_in; decide) dL_law_387 ?_
      refine W.eq (g2 := F0 m 388 ls [.long (f 0)]) rfl ?_
      refine lv_iload hx hb dL_law_388 (lv_at hl 0 rfl) ?_
      refine lv_i2l (v := r.toInt64) hx hb dL_law_390 rfl ?_
      refine W.lcmp hx hb dL_law_391 ?_
      refine lv_if_eq (tgt := 397) hx hb dL_law_392 (by decide) (fun c_364 => ?_) (fun c_364 => ?_)
      · refine lv_goto (tgt := 2118) hx hb dL_law_397 (by decide) ?_
        exact law_tail C0 hS (lv_sub hl [2, 7] rfl)
      · exact absurd (by rw [agv]; exact lg_cmp_self _) c_364
  · exact absurd ag.1 c_362
set_option maxHeartbeats 4000000 in
set_option maxRecDepth 100000 in
theorem law_card {p : Program} {l : Launch} {e : Env} {s : State} {m : MethodId} {below : List Frame} {meth : Method} {c : Code} (hfl : l.stackTraces = false) {D : va_G} {ad : Nat → Nat} {cI cJ cO cZ : ClassId} {b h0 o : Nat} {xs : Nat → Int32} {u r0 r1 r2 : Nat → Nat} {sa : Nat → Nat} (C0 : lw_At p s m meth c b 7 xs) (hN : ex_n s) (hE : ex_w sa s) (hZ : ex_z (fun q : Nat => s.heap.size ≤ q) s s.heap) (hKW : va_K D vwCl [(cI, .int), (cJ, .long)] s) (hKM : va_K D vwCl [(cI, .int), (cO, .array .int), (cZ, .boolean)] s) {H : Heap} {locs : List Loc} (hP : va_P D vwCl (wrW ad cI cJ o ++ tmW h0 u r0 r1 r2 cI cO cZ) H) (hD : va_D (fun q : Nat => s.heap.size ≤ q) (wrW ad cI cJ o ++ tmW h0 u r0 r1 r2 cI cO cZ)) (hS : va_S (fun q : Nat => s.heap.size ≤ q) s.heap H locs) {od : Nat} {ls : Array Slot} (hl : lv_has ls 9 [(5, .int 0), (4, .ref od), (3, .ref o), (2, .ref h0), (1, .ref (ad 0)), (0, .ref b)]) : W p l e room_1 s m #[Value.ref b] below meth c H locs 400 10000 (lw_Z below #[Value.ref b] s) (F0 m 400 ls []) := by
  obtain ⟨hx, hb, hr, hml, hown, hts, hX, hbl, hlocks, hgv⟩ := id C0
  have hA : ∀ q : Nat, s.heap.size ≤ q → (fun q : Nat => s.heap.size ≤ q) q := fun _ h => h
  have hbA : ¬ (fun q : Nat => s.heap.size ≤ q) b := Nat.not_le.mpr hbl
  have ho : ∀ (k : Nat) (q : Nat × va_E), (tmW h0 u r0 r1 r2 cI cO cZ)[k]? = some q → q.1 ≠ o := ne_of hD 98 rfl
  have hne : h0 ≠ o := ho 0 (h0, _) rfl
  refine lv_aload_n hx hb dL_law_400 rfl (lv_at hl 4 rfl) ?_
  refine lv_aload_n hx hb dL_law_401 rfl (lv_at hl 2 rfl) ?_
  refine l_kw hP hD hS hA (vx_runSX (hh := [(0, 8, 11, 24)]) (As := [.ref (ad 0), .ref o]) (rest := []) ⟨hx, hb, hml, hown, hts⟩ (w_card l hfl D ad cI cJ H.size o  sa) (vx_cwSW 2 hts gl_L_card rfl rfl rfl (by decide +kernel) ⟨Nat.le_of_ble_eq_true rfl, Nat.le_of_ble_eq_true rfl⟩) (w_preS hN hE hZ hKW (pre_P hP) (pre_D hD) hS hA) rfl rfl hl.1 rfl (lv_room (Nat.le_of_ble_eq_true rfl)) dL_law_402 ⟨Nat.le_of_ble_eq_true rfl, Nat.le_of_ble_eq_true rfl⟩) (fun k f H locs hw hPo hPb hDb hS => ?_)
  refine lv_istore (lv' := [(6, .int k), (5, .int 0), (4, .ref od), (3, .ref o), (2, .ref h0), (1, .ref (ad 0)), (0, .ref b)]) hx hb dL_law_405 hl (by decide) rfl (fun ls hl => ?_)
  refine lv_aload_n hx hb dL_law_407 rfl (lv_at hl 4 rfl) ?_
  refine l_km hPb hDb hS hA hPo ho (va_runV (As := []) (rest := []) ⟨hx, hb, hml, hown, hts⟩ (qm_card l D H.size h0 u r0 r1 r2 cI cO cZ (tmP r0 r1 r2 cI)  (tmP_card r0 r1 r2 cI)) (cwV 0 hts gl_X9_card rfl rfl rfl (by decide +kernel) ⟨Nat.le_of_ble_eq_true rfl, Nat.le_of_ble_eq_true rfl⟩) (g_preV hKM hPb hDb (ci := 9) (q0 := 0) rfl rfl) rfl rfl hl.1 rfl (lv_room (Nat.le_of_ble_eq_true rfl)) dL_law_408 ⟨Nat.le_of_ble_eq_true rfl, Nat.le_of_ble_eq_true rfl⟩) (fun r v t H locs hv hm hPm hDm hPo hS => ?_)
  refine lv_istore (lv' := [(7, .int r), (6, .int k), (5, .int 0), (4, .ref od), (3, .ref o), (2, .ref h0), (1, .ref (ad 0)), (0, .ref b)]) hx hb dL_law_411 hl (by decide) rfl (fun ls hl => ?_)
  refine lv_aload_n hx hb dL_law_413 rfl (lv_at hl 5 rfl) ?_
  refine l_kt hDm hS hA hPo (ne1 hne) (va_runV (As := []) (rest := []) ⟨hx, hb, hml, hown, hts⟩ (q_thrown l D [(cI, .int), (cO, .array .int), (cZ, .boolean)] H.size h0 v t hv) (cwV 0 hts gl_X9_thrown rfl rfl rfl (by decide +kernel) ⟨Nat.le_of_ble_eq_true rfl, Nat.le_of_ble_eq_true rfl⟩) (g_preV hKM hPm hDm (ci := 9) (q0 := 0) rfl rfl) rfl rfl hl.1 rfl (lv_room (Nat.le_of_ble_eq_true rfl)) dL_law_414 ⟨Nat.le_of_ble_eq_true rfl, Nat.le_of_ble_eq_true rfl⟩) (fun H locs hPo hS => ?_)
  have ag := ag_card (y := f 0) hw hm
  refine lv_iload hx hb dL_law_417 (lv_at hl 1 rfl) ?_
  refine lv_icmp_eq (tgt := 424) hx hb dL_law_419 (by decide) (fun c_365 => ?_) (fun c_365 => ?_)
  · refine lv_iload hx hb dL_law_424 (lv_at hl 1 rfl) ?_
    refine lv_if_ne (tgt := 441) hx hb dL_law_426 (by decide) (fun c_366 => ?_) (fun c_366 => ?_)
    · refine lv_goto (tgt := 2118) hx hb dL_law_441 (by decide) ?_
      exact law_tail C0 hS (lv_sub hl [2, 7] rfl)
    · have agv := ag.2 c_366
      refine lv_aload_n hx hb dL_law_429 rfl (lv_at hl 4 rfl) ?_
      refine lv_iconst (v := 0) hx hb dL_law_430 (by decide) ?_
      refine va_lald (tys := [(cI, .int), (cJ, .long)]) hx hb hKW hPo 0 1 rfl rfl (by unfold vp_in; decide) dL_law_431 ?_
      refine W.eq (g2 := F0 m 432 ls [.long (f 0)]) rfl ?_
      refine lv_iload hx hb dL_law_432 (lv_at hl 0 rfl) ?_
      refine lv_i2l (v := r.toInt64) hx hb dL_law_434 rfl ?_
      refine W.lcmp hx hb dL_law_435 ?_
      refine lv_if_eq (tgt := 441) hx hb dL_law_436 (by decide) (fun c_367 => ?_) (fun c_367 => ?_)
      · refine lv_goto (tgt := 2118) hx hb dL_law_441 (by decide) ?_
        exact law_tail C0 hS (lv_sub hl [2, 7] rfl)
      · exact absurd (by rw [agv]; exact lg_cmp_self _) c_367
  · exact absurd ag.1 c_365
set_option maxHeartbeats 4000000 in
set_option maxRecDepth 100000 in
theorem law_tie {p : Program} {l : Launch} {e : Env} {s : State} {m : MethodId} {below : List Frame} {meth : Method} {c : Code} (hfl : l.stackTraces = false) {D : va_G} {ad : Nat → Nat} {cI cJ cO cZ : ClassId} {b h0 o : Nat} {xs : Nat → Int32} {u r0 r1 r2 : Nat → Nat} {sa : Nat → Nat} (C0 : lw_At p s m meth c b 7 xs) (hN : ex_n s) (hE : ex_w sa s) (hZ : ex_z (fun q : Nat => s.heap.size ≤ q) s s.heap) (hKW : va_K D vwCl [(cI, .int), (cJ, .long)] s) (hKM : va_K D vwCl [(cI, .int), (cO, .array .int), (cZ, .boolean)] s) {H : Heap} {locs : List Loc} (hP : va_P D vwCl (wrW ad cI cJ o ++ tmW h0 u r0 r1 r2 cI cO cZ) H) (hD : va_D (fun q : Nat => s.heap.size ≤ q) (wrW ad cI cJ o ++ tmW h0 u r0 r1 r2 cI cO cZ)) (hS : va_S (fun q : Nat => s.heap.size ≤ q) s.heap H locs) {od : Nat} {ls : Array Slot} (hl : lv_has ls 9 [(5, .int 0), (4, .ref od), (3, .ref o), (2, .ref h0), (1, .ref (ad 0)), (0, .ref b)]) : W p l e room_1 s m #[Value.ref b] below meth c H locs 400 10000 (lw_Z below #[Value.ref b] s) (F0 m 444 ls []) := by
  obtain ⟨hx, hb, hr, hml, hown, hts, hX, hbl, hlocks, hgv⟩ := id C0
  have hA : ∀ q : Nat, s.heap.size ≤ q → (fun q : Nat => s.heap.size ≤ q) q := fun _ h => h
  have hbA : ¬ (fun q : Nat => s.heap.size ≤ q) b := Nat.not_le.mpr hbl
  have ho : ∀ (k : Nat) (q : Nat × va_E), (tmW h0 u r0 r1 r2 cI cO cZ)[k]? = some q → q.1 ≠ o := ne_of hD 98 rfl
  have hne : h0 ≠ o := ho 0 (h0, _) rfl
  refine lv_aload_n hx hb dL_law_444 rfl (lv_at hl 4 rfl) ?_
  refine lv_aload_n hx hb dL_law_445 rfl (lv_at hl 5 rfl) ?_
  refine lv_iload hx hb dL_law_446 (lv_at hl 0 rfl) ?_
  refine lv_iconst (v := 1) hx hb dL_law_448 (by decide) ?_
  refine lv_iadd hx hb dL_law_449 ?_
  refine W.eq (g2 := F0 m 450 ls [.int 1, .ref b, .ref (ad 0)]) rfl ?_
  refine va_sld hx hb hX hbl hbA hS (by unfold vp_in; decide) dL_law_450 ?_
  refine W.eq (g2 := F0 m 451 ls [.int (xs 1), .ref (ad 0)]) rfl ?_
  refine lv_aload_n hx hb dL_law_451 rfl (lv_at hl 5 rfl) ?_
  refine lv_iload hx hb dL_law_452 (lv_at hl 0 rfl) ?_
  refine lv_iconst (v := 2) hx hb dL_law_454 (by decide) ?_
  refine lv_iadd hx hb dL_law_455 ?_
  refine W.eq (g2 := F0 m 456 ls [.int 2, .ref b, .int (xs 1), .ref (ad 0)]) rfl ?_
  refine va_sld hx hb hX hbl hbA hS (by unfold vp_in; decide) dL_law_456 ?_
  refine W.eq (g2 := F0 m 457 ls [.int (xs 2), .int (xs 1), .ref (ad 0)]) rfl ?_
  refine lv_aload_n hx hb dL_law_457 rfl (lv_at hl 2 rfl) ?_
  refine l_kw hP hD hS hA (vx_runSX (hh := [(0, 10, 13, 13), (0, 10, 17, 15), (0, 10, 21, 24)]) (As := [.ref (ad 0), .int (xs 1), .int (xs 2), .ref o]) (rest := []) ⟨hx, hb, hml, hown, hts⟩ (w_tie l hfl D ad cI cJ H.size o (xs 1) (xs 2) sa) (vx_cwSW 4 hts gl_L_tie rfl rfl rfl (by decide +kernel) ⟨Nat.le_of_ble_eq_true rfl, Nat.le_of_ble_eq_true rfl⟩) (w_preS hN hE hZ hKW (pre_P hP) (pre_D hD) hS hA) rfl rfl hl.1 rfl (lv_room (Nat.le_of_ble_eq_true rfl)) dL_law_458 ⟨Nat.le_of_ble_eq_true rfl, Nat.le_of_ble_eq_true rfl⟩) (fun k f H locs hw hPo hPb hDb hS => ?_)
  refine lv_istore (lv' := [(6, .int k), (5, .int 0), (4, .ref od), (3, .ref o), (2, .ref h0), (1, .ref (ad 0)), (0, .ref b)]) hx hb dL_law_461 hl (by decide) rfl (fun ls hl => ?_)
  refine lv_aload_n hx hb dL_law_463 rfl (lv_at hl 4 rfl) ?_
  refine lv_aload_n hx hb dL_law_464 rfl (lv_at hl 6 rfl) ?_
  refine lv_iload hx hb dL_law_465 (lv_at hl 1 rfl) ?_
  refine lv_iconst (v := 1) hx hb dL_law_467 (by decide) ?_
  refine lv_iadd hx hb dL_law_468 ?_
  refine W.eq (g2 := F0 m 469 ls [.int 1, .ref b, .ref h0]) rfl ?_
  refine va_sld hx hb hX hbl hbA hS (by unfold vp_in; decide) dL_law_469 ?_
  refine W.eq (g2 := F0 m 470 ls [.int (xs 1), .ref h0]) rfl ?_
  refine lv_aload_n hx hb dL_law_470 rfl (lv_at hl 6 rfl) ?_
  refine lv_iload hx hb dL_law_471 (lv_at hl 1 rfl) ?_
  refine lv_iconst (v := 2) hx hb dL_law_473 (by decide) ?_
  refine lv_iadd hx hb dL_law_474 ?_
  refine W.eq (g2 := F0 m 475 ls [.int 2, .ref b, .int (xs 1), .ref h0]) rfl ?_
  refine va_sld hx hb hX hbl hbA hS (by unfold vp_in; decide) dL_law_475 ?_
  refine W.eq (g2 := F0 m 476 ls [.int (xs 2), .int (xs 1), .ref h0]) rfl ?_
  refine l_km hPb hDb hS hA hPo ho (va_runV (As := [.int (xs 1), .int (xs 2)]) (rest := []) ⟨hx, hb, hml, hown, hts⟩ (qm_tie l D [(cI, .int), (cO, .array .int), (cZ, .boolean)] (tmW h0 u r0 r1 r2 cI cO cZ) H.size h0 _ (xs 1) (xs 2) rfl rfl (Nat.zero_lt_succ _)) (cwV 2 hts gl_X9_tie rfl rfl rfl (by decide +kernel) ⟨Nat.le_of_ble_eq_true rfl, Nat.le_of_ble_eq_true rfl⟩) (g_preV hKM hPb hDb (ci := 9) (q0 := 0) rfl rfl) rfl rfl hl.1 rfl (lv_room (Nat.le_of_ble_eq_true rfl)) dL_law_476 ⟨Nat.le_of_ble_eq_true rfl, Nat.le_of_ble_eq_true rfl⟩) (fun r v t H locs hv hm hPm hDm hPo hS => ?_)
  refine lv_istore (lv' := [(7, .int r), (6, .int k), (5, .int 0), (4, .ref od), (3, .ref o), (2, .ref h0), (1, .ref (ad 0)), (0, .ref b)]) hx hb dL_law_479 hl (by decide) rfl (fun ls hl => ?_)
  refine lv_aload_n hx hb dL_law_481 rfl (lv_at hl 5 rfl) ?_
  refine l_kt hDm hS hA hPo (ne1 hne) (va_runV (As := []) (rest := []) ⟨hx, hb, hml, hown, hts⟩ (q_thrown l D [(cI, .int), (cO, .array .int), (cZ, .boolean)] H.size h0 v t hv) (cwV 0 hts gl_X9_thrown rfl rfl rfl (by decide +kernel) ⟨Nat.le_of_ble_eq_true rfl, Nat.le_of_ble_eq_true rfl⟩) (g_preV hKM hPm hDm (ci := 9) (q0 := 0) rfl rfl) rfl rfl hl.1 rfl (lv_room (Nat.le_of_ble_eq_true rfl)) dL_law_482 ⟨Nat.le_of_ble_eq_true rfl, Nat.le_of_ble_eq_true rfl⟩) (fun H locs hPo hS => ?_)
  have ag := ag_tie (x0 := xs 1) (x1 := xs 2) (y := f 0) hw hm
  refine lv_iload hx hb dL_law_485 (lv_at hl 1 rfl) ?_
  refine lv_icmp_eq (tgt := 492) hx hb dL_law_487 (by decide) (fun c_368 => ?_) (fun c_368 => ?_)
  · refine lv_iload hx hb dL_law_492 (lv_at hl 1 rfl) ?_
    refine lv_if_ne (tgt := 509) hx hb dL_law_494 (by decide) (fun c_369 => ?_) (fun c_369 => ?_)
    · refine lv_goto (tgt := 2118) hx hb dL_law_509 (by decide) ?_
      exact law_tail C0 hS (lv_sub hl [2, 7] rfl)
    · exact absurd ((show k = 1 from hw).symm.trans c_369) (by decide)
  · exact absurd ag.1 c_368
set_option maxHeartbeats 4000000 in
set_option maxRecDepth 100000 in
theorem law_lose {p : Program} {l : Launch} {e : Env} {s : State} {m : MethodId} {below : List Frame} {meth : Method} {c : Code} (hfl : l.stackTraces = false) {D : va_G} {ad : Nat → Nat} {cI cJ cO cZ : ClassId} {b h0 o : Nat} {xs : Nat → Int32} {u r0 r1 r2 : Nat → Nat} {sa : Nat → Nat} (C0 : lw_At p s m meth c b 7 xs) (hN : ex_n s) (hE : ex_w sa s) (hZ : ex_z (fun q : Nat => s.heap.size ≤ q) s s.heap) (hKW : va_K D vwCl [(cI, .int), (cJ, .long)] s) (hKM : va_K D vwCl [(cI, .int), (cO, .array .int), (cZ, .boolean)] s) {H : Heap} {locs : List Loc} (hP : va_P D vwCl (wrW ad cI cJ o ++ tmW h0 u r0 r1 r2 cI cO cZ) H) (hD : va_D (fun q : Nat => s.heap.size ≤ q) (wrW ad cI cJ o ++ tmW h0 u r0 r1 r2 cI cO cZ)) (hS : va_S (fun q : Nat => s.heap.size ≤ q) s.heap H locs) {od : Nat} {ls : Array Slot} (hl : lv_has ls 9 [(5, .int 0), (4, .ref od), (3, .ref o), (2, .ref h0), (1, .ref (ad 0)), (0, .ref b)]) : W p l e room_1 s m #[Value.ref b] below meth c H locs 400 10000 (lw_Z below #[Value.ref b] s) (F0 m 512 ls []) := by
  obtain ⟨hx, hb, hr, hml, hown, hts, hX, hbl, hlocks, hgv⟩ := id C0
  have hA : ∀ q : Nat, s.heap.size ≤ q → (fun q : Nat => s.heap.size ≤ q) q := fun _ h => h
  have hbA : ¬ (fun q : Nat => s.heap.size ≤ q) b := Nat.not_le.mpr hbl
  have ho : ∀ (k : Nat) (q : Nat × va_E), (tmW h0 u r0 r1 r2 cI cO cZ)[k]? = some q → q.1 ≠ o := ne_of hD 98 rfl
  have hne : h0 ≠ o := ho 0 (h0, _) rfl
  refine lv_aload_n hx hb dL_law_512 rfl (lv_at hl 4 rfl) ?_
  refine lv_aload_n hx hb dL_law_513 rfl (lv_at hl 5 rfl) ?_
  refine lv_iload hx hb dL_law_514 (lv_at hl 0 rfl) ?_
  refine lv_iconst (v := 1) hx hb dL_law_516 (by decide) ?_
  refine lv_iadd hx hb dL_law_517 ?_
  refine W.eq (g2 := F0 m 518 ls [.int 1, .ref b, .ref (ad 0)]) rfl ?_
  refine va_sld hx hb hX hbl hbA hS (by unfold vp_in; decide) dL_law_518 ?_
  refine W.eq (g2 := F0 m 519 ls [.int (xs 1), .ref (ad 0)]) rfl ?_
  refine lv_aload_n hx hb dL_law_519 rfl (lv_at hl 5 rfl) ?_
  refine lv_iload hx hb dL_law_520 (lv_at hl 0 rfl) ?_
  refine lv_iconst (v := 2) hx hb dL_law_522 (by decide) ?_
  refine lv_iadd hx hb dL_law_523 ?_
  refine W.eq (g2 := F0 m 524 ls [.int 2, .ref b, .int (xs 1), .ref (ad 0)]) rfl ?_
  refine va_sld hx hb hX hbl hbA hS (by unfold vp_in; decide) dL_law_524 ?_
  refine W.eq (g2 := F0 m 525 ls [.int (xs 2), .int (xs 1), .ref (ad 0)]) rfl ?_
  refine lv_if_eq (tgt := 532) hx hb dL_law_525 (by decide) (fun c_370 => ?_) (fun c_370 => ?_)
  · refine lv_iconst (v := 0) hx hb dL_law_532 (by decide) ?_
    refine lv_aload_n hx hb dL_law_533 rfl (lv_at hl 2 rfl) ?_
    refine l_kw hP hD hS hA (vx_runSX (hh := [(0, 17, 20, 13)]) (As := [.ref (ad 0), .int (xs 1), .int 0, .ref o]) (rest := []) ⟨hx, hb, hml, hown, hts⟩ (w_lose l hfl D ad cI cJ H.size o (xs 1) 0 sa) (vx_cwSW 4 hts gl_L_lose rfl rfl rfl (by decide +kernel) ⟨Nat.le_of_ble_eq_true rfl, Nat.le_of_ble_eq_true rfl⟩) (w_preS hN hE hZ hKW (pre_P hP) (pre_D hD) hS hA) rfl rfl hl.1 rfl (lv_room (Nat.le_of_ble_eq_true rfl)) dL_law_534 ⟨Nat.le_of_ble_eq_true rfl, Nat.le_of_ble_eq_true rfl⟩) (fun k f H locs hw hPo hPb hDb hS => ?_)
    refine lv_istore (lv' := [(6, .int k), (5, .int 0), (4, .ref od), (3, .ref o), (2, .ref h0), (1, .ref (ad 0)), (0, .ref b)]) hx hb dL_law_537 hl (by decide) rfl (fun ls hl => ?_)
    refine lv_aload_n hx hb dL_law_539 rfl (lv_at hl 4 rfl) ?_
    refine lv_aload_n hx hb dL_law_540 rfl (lv_at hl 6 rfl) ?_
    refine lv_iload hx hb dL_law_541 (lv_at hl 1 rfl) ?_
    refine lv_iconst (v := 1) hx hb dL_law_543 (by decide) ?_
    refine lv_iadd hx hb dL_law_544 ?_
    refine W.eq (g2 := F0 m 545 ls [.int 1, .ref b, .ref h0]) rfl ?_
    refine va_sld hx hb hX hbl hbA hS (by unfold vp_in; decide) dL_law_545 ?_
    refine W.eq (g2 := F0 m 546 ls [.int (xs 1), .ref h0]) rfl ?_
    refine lv_aload_n hx hb dL_law_546 rfl (lv_at hl 6 rfl) ?_
    refine lv_iload hx hb dL_law_547 (lv_at hl 1 rfl) ?_
    refine lv_iconst (v := 2) hx hb dL_law_549 (by decide) ?_
    refine lv_iadd hx hb dL_law_550 ?_
    refine W.eq (g2 := F0 m 551 ls [.int 2, .ref b, .int (xs 1), .ref h0]) rfl ?_
    refine va_sld hx hb hX hbl hbA hS (by unfold vp_in; decide) dL_law_551 ?_
    refine W.eq (g2 := F0 m 552 ls [.int (xs 2), .int (xs 1), .ref h0]) rfl ?_
    refine lv_if_eq (tgt := 559) hx hb dL_law_552 (by decide) (fun c_371 => ?_) (fun c_371 => ?_)
    · refine lv_iconst (v := 0) hx hb dL_law_559 (by decide) ?_
      refine l_km hPb hDb hS hA hPo ho (va_runV (As := [.int (xs 1), .int 0]) (rest := []) ⟨hx, hb, hml, hown, hts⟩ (qm_lose l D [(cI, .int), (cO, .array .int), (cZ, .boolean)] (tmW h0 u r0 r1 r2 cI cO cZ) H.size h0 _ (xs 1) 0 rfl rfl (Nat.zero_lt_succ _)) (cwV 2 hts gl_X9_lose rfl rfl rfl (by decide +kernel) ⟨Nat.le_of_ble_eq_true rfl, Nat.le_of_ble_eq_true rfl⟩) (g_preV hKM hPb hDb (ci := 9) (q0 := 0) rfl rfl) rfl rfl hl.1 rfl (lv_room (Nat.le_of_ble_eq_true rfl)) dL_law_560 ⟨Nat.le_of_ble_eq_true rfl, Nat.le_of_ble_eq_true rfl⟩) (fun r v t H locs hv hm hPm hDm hPo hS => ?_)
      refine lv_istore (lv' := [(7, .int r), (6, .int k), (5, .int 0), (4, .ref od), (3, .ref o), (2, .ref h0), (1, .ref (ad 0)), (0, .ref b)]) hx hb dL_law_563 hl (by decide) rfl (fun ls hl => ?_)
      refine lv_aload_n hx hb dL_law_565 rfl (lv_at hl 5 rfl) ?_
      refine l_kt hDm hS hA hPo (ne1 hne) (va_runV (As := []) (rest := []) ⟨hx, hb, hml, hown, hts⟩ (q_thrown l D [(cI, .int), (cO, .array .int), (cZ, .boolean)] H.size h0 v t hv) (cwV 0 hts gl_X9_thrown rfl rfl rfl (by decide +kernel) ⟨Nat.le_of_ble_eq_true rfl, Nat.le_of_ble_eq_true rfl⟩) (g_preV hKM hPm hDm (ci := 9) (q0 := 0) rfl rfl) rfl rfl hl.1 rfl (lv_room (Nat.le_of_ble_eq_true rfl)) dL_law_566 ⟨Nat.le_of_ble_eq_true rfl, Nat.le_of_ble_eq_true rfl⟩) (fun H locs hPo hS => ?_)
      have ag := ag_lose (x0 := xs 1) (x1 := 0) (y := f 0) hw hm
      refine lv_iload hx hb dL_law_569 (lv_at hl 1 rfl) ?_
      refine lv_icmp_eq (tgt := 576) hx hb dL_law_571 (by decide) (fun c_372 => ?_) (fun c_372 => ?_)
      · refine lv_iload hx hb dL_law_576 (lv_at hl 1 rfl) ?_
        refine lv_if_ne (tgt := 600) hx hb dL_law_578 (by decide) (fun c_373 => ?_) (fun c_373 => ?_)
        · refine lv_goto (tgt := 2118) hx hb dL_law_600 (by decide) ?_
          exact law_tail C0 hS (lv_sub hl [2, 7] rfl)
        · exact absurd ((show k = 1 from hw).symm.trans c_373) (by decide)
      · exact absurd ag.1 c_372
    · refine lv_iconst (v := 1) hx hb dL_law_555 (by decide) ?_
      refine lv_goto (tgt := 560) hx hb dL_law_556 (by decide) ?_
      refine l_km hPb hDb hS hA hPo ho (va_runV (As := [.int (xs 1), .int 1]) (rest := []) ⟨hx, hb, hml, hown, hts⟩ (qm_lose l D [(cI, .int), (cO, .array .int), (cZ, .boolean)] (tmW h0 u r0 r1 r2 cI cO cZ) H.size h0 _ (xs 1) 1 rfl rfl (Nat.zero_lt_succ _)) (cwV 2 hts gl_X9_lose rfl rfl rfl (by decide +kernel) ⟨Nat.le_of_ble_eq_true rfl, Nat.le_of_ble_eq_true rfl⟩) (g_preV hKM hPb hDb (ci := 9) (q0 := 0) rfl rfl) rfl rfl hl.1 rfl (lv_room (Nat.le_of_ble_eq_true rfl)) dL_law_560 ⟨Nat.le_of_ble_eq_true rfl, Nat.le_of_ble_eq_true rfl⟩) (fun r v t H locs hv hm hPm hDm hPo hS => ?_)
      refine lv_istore (lv' := [(7, .int r), (6, .int k), (5, .int 0), (4, .ref od), (3, .ref o), (2, .ref h0), (1, .ref (ad 0)), (0, .ref b)]) hx hb dL_law_563 hl (by decide) rfl (fun ls hl => ?_)
      refine lv_aload_n hx hb dL_law_565 rfl (lv_at hl 5 rfl) ?_
      refine l_kt hDm hS hA hPo (ne1 hne) (va_runV (As := []) (rest := []) ⟨hx, hb, hml, hown, hts⟩ (q_thrown l D [(cI, .int), (cO, .array .int), (cZ, .boolean)] H.size h0 v t hv) (cwV 0 hts gl_X9_thrown rfl rfl rfl (by decide +kernel) ⟨Nat.le_of_ble_eq_true rfl, Nat.le_of_ble_eq_true rfl⟩) (g_preV hKM hPm hDm (ci := 9) (q0 := 0) rfl rfl) rfl rfl hl.1 rfl (lv_room (Nat.le_of_ble_eq_true rfl)) dL_law_566 ⟨Nat.le_of_ble_eq_true rfl, Nat.le_of_ble_eq_true rfl⟩) (fun H locs hPo hS => ?_)
      have ag := ag_lose (x0 := xs 1) (x1 := 0) (y := f 0) hw hm
      refine lv_iload hx hb dL_law_569 (lv_at hl 1 rfl) ?_
      refine lv_icmp_eq (tgt := 576) hx hb dL_law_571 (by decide) (fun c_374 => ?_) (fun c_374 => ?_)
      · refine lv_iload hx hb dL_law_576 (lv_at hl 1 rfl) ?_
        refine lv_if_ne (tgt := 600) hx hb dL_law_578 (by decide) (fun c_375 => ?_) (fun c_375 => ?_)
        · refine lv_goto (tgt := 2118) hx hb dL_law_600 (by decide) ?_
          exact law_tail C0 hS (lv_sub hl [2, 7] rfl)
        · exact absurd ((show k = 1 from hw).symm.trans c_375) (by decide)
      · exact absurd ag.1 c_374
  · refine lv_iconst (v := 1) hx hb dL_law_528 (by decide) ?_
    refine lv_goto (tgt := 533) hx hb dL_law_529 (by decide) ?_
    refine lv_aload_n hx hb dL_law_533 rfl (lv_at hl 2 rfl) ?_
    refine l_kw hP hD hS hA (vx_runSX (hh := [(0, 17, 20, 13)]) (As := [.ref (ad 0), .int (xs 1), .int 1, .ref o]) (rest := []) ⟨hx, hb, hml, hown, hts⟩ (w_lose l hfl D ad cI cJ H.size o (xs 1) 1 sa) (vx_cwSW 4 hts gl_L_lose rfl rfl rfl (by decide +kernel) ⟨Nat.le_of_ble_eq_true rfl, Nat.le_of_ble_eq_true rfl⟩) (w_preS hN hE hZ hKW (pre_P hP) (pre_D hD) hS hA) rfl rfl hl.1 rfl (lv_room (Nat.le_of_ble_eq_true rfl)) dL_law_534 ⟨Nat.le_of_ble_eq_true rfl, Nat.le_of_ble_eq_true rfl⟩) (fun k f H locs hw hPo hPb hDb hS => ?_)
    refine lv_istore (lv' := [(6, .int k), (5, .int 0), (4, .ref od), (3, .ref o), (2, .ref h0), (1, .ref (ad 0)), (0, .ref b)]) hx hb dL_law_537 hl (by decide) rfl (fun ls hl => ?_)
    refine lv_aload_n hx hb dL_law_539 rfl (lv_at hl 4 rfl) ?_
    refine lv_aload_n hx hb dL_law_540 rfl (lv_at hl 6 rfl) ?_
    refine lv_iload hx hb dL_law_541 (lv_at hl 1 rfl) ?_
    refine lv_iconst (v := 1) hx hb dL_law_543 (by decide) ?_
    refine lv_iadd hx hb dL_law_544 ?_
    refine W.eq (g2 := F0 m 545 ls [.int 1, .ref b, .ref h0]) rfl ?_
    refine va_sld hx hb hX hbl hbA hS (by unfold vp_in; decide) dL_law_545 ?_
    refine W.eq (g2 := F0 m 546 ls [.int (xs 1), .ref h0]) rfl ?_
    refine lv_aload_n hx hb dL_law_546 rfl (lv_at hl 6 rfl) ?_
    refine lv_iload hx hb dL_law_547 (lv_at hl 1 rfl) ?_
    refine lv_iconst (v := 2) hx hb dL_law_549 (by decide) ?_
    refine lv_iadd hx hb dL_law_550 ?_
    refine W.eq (g2 := F0 m 551 ls [.int 2, .ref b, .int (xs 1), .ref h0]) rfl ?_
    refine va_sld hx hb hX hbl hbA hS (by unfold vp_in; decide) dL_law_551 ?_
    refine W.eq (g2 := F0 m 552 ls [.int (xs 2), .int (xs 1), .ref h0]) rfl ?_
    refine lv_if_eq (tgt := 559) hx hb dL_law_552 (by decide) (fun c_376 => ?_) (fun c_376 => ?_)
    · refine lv_iconst (v := 0) hx hb dL_law_559 (by decide) ?_
      refine l_km hPb hDb hS hA hPo ho (va_runV (As := [.int (xs 1), .int 0]) (rest := []) ⟨hx, hb, hml, hown, hts⟩ (qm_lose l D [(cI, .int), (cO, .array .int), (cZ, .boolean)] (tmW h0 u r0 r1 r2 cI cO cZ) H.size h0 _ (xs 1) 0 rfl rfl (Nat.zero_lt_succ _)) (cwV 2 hts gl_X9_lose rfl rfl rfl (by decide +kernel) ⟨Nat.le_of_ble_eq_true rfl, Nat.le_of_ble_eq_true rfl⟩) (g_preV hKM hPb hDb (ci := 9) (q0 := 0) rfl rfl) rfl rfl hl.1 rfl (lv_room (Nat.le_of_ble_eq_true rfl)) dL_law_560 ⟨Nat.le_of_ble_eq_true rfl, Nat.le_of_ble_eq_true rfl⟩) (fun r v t H locs hv hm hPm hDm hPo hS => ?_)
      refine lv_istore (lv' := [(7, .int r), (6, .int k), (5, .int 0), (4, .ref od), (3, .ref o), (2, .ref h0), (1, .ref (ad 0)), (0, .ref b)]) hx hb dL_law_563 hl (by decide) rfl (fun ls hl => ?_)
      refine lv_aload_n hx hb dL_law_565 rfl (lv_at hl 5 rfl) ?_
      refine l_kt hDm hS hA hPo (ne1 hne) (va_runV (As := []) (rest := []) ⟨hx, hb, hml, hown, hts⟩ (q_thrown l D [(cI, .int), (cO, .array .int), (cZ, .boolean)] H.size h0 v t hv) (cwV 0 hts gl_X9_thrown rfl rfl rfl (by decide +kernel) ⟨Nat.le_of_ble_eq_true rfl, Nat.le_of_ble_eq_true rfl⟩) (g_preV hKM hPm hDm (ci := 9) (q0 := 0) rfl rfl) rfl rfl hl.1 rfl (lv_room (Nat.le_of_ble_eq_true rfl)) dL_law_566 ⟨Nat.le_of_ble_eq_true rfl, Nat.le_of_ble_eq_true rfl⟩) (fun H locs hPo hS => ?_)
      have ag := ag_lose (x0 := xs 1) (x1 := 1) (y := f 0) hw hm
      refine lv_iload hx hb dL_law_569 (lv_at hl 1 rfl) ?_
      refine lv_icmp_eq (tgt := 576) hx hb dL_law_571 (by decide) (fun c_377 => ?_) (fun c_377 => ?_)
      · refine lv_iload hx hb dL_law_576 (lv_at hl 1 rfl) ?_
        refine lv_if_ne (tgt := 600) hx hb dL_law_578 (by decide) (fun c_378 => ?_) (fun c_378 => ?_)
        · refine lv_goto (tgt := 2118) hx hb dL_law_600 (by decide) ?_
          exact law_tail C0 hS (lv_sub hl [2, 7] rfl)
        · exact absurd ((show k = 1 from hw).symm.trans c_378) (by decide)
      · exact absurd ag.1 c_377
    · refine lv_iconst (v := 1) hx hb dL_law_555 (by decide) ?_
      refine lv_goto (tgt := 560) hx hb dL_law_556 (by decide) ?_
      refine l_km hPb hDb hS hA hPo ho (va_runV (As := [.int (xs 1), .int 1]) (rest := []) ⟨hx, hb, hml, hown, hts⟩ (qm_lose l D [(cI, .int), (cO, .array .int), (cZ, .boolean)] (tmW h0 u r0 r1 r2 cI cO cZ) H.size h0 _ (xs 1) 1 rfl rfl (Nat.zero_lt_succ _)) (cwV 2 hts gl_X9_lose rfl rfl rfl (by decide +kernel) ⟨Nat.le_of_ble_eq_true rfl, Nat.le_of_ble_eq_true rfl⟩) (g_preV hKM hPb hDb (ci := 9) (q0 := 0) rfl rfl) rfl rfl hl.1 rfl (lv_room (Nat.le_of_ble_eq_true rfl)) dL_law_560 ⟨Nat.le_of_ble_eq_true rfl, Nat.le_of_ble_eq_true rfl⟩) (fun r v t H locs hv hm hPm hDm hPo hS => ?_)
      refine lv_istore (lv' := [(7, .int r), (6, .int k), (5, .int 0), (4, .ref od), (3, .ref o), (2, .ref h0), (1, .ref (ad 0)), (0, .ref b)]) hx hb dL_law_563 hl (by decide) rfl (fun ls hl => ?_)
      refine lv_aload_n hx hb dL_law_565 rfl (lv_at hl 5 rfl) ?_
      refine l_kt hDm hS hA hPo (ne1 hne) (va_runV (As := []) (rest := []) ⟨hx, hb, hml, hown, hts⟩ (q_thrown l D [(cI, .int), (cO, .array .int), (cZ, .boolean)] H.size h0 v t hv) (cwV 0 hts gl_X9_thrown rfl rfl rfl (by decide +kernel) ⟨Nat.le_of_ble_eq_true rfl, Nat.le_of_ble_eq_true rfl⟩) (g_preV hKM hPm hDm (ci := 9) (q0 := 0) rfl rfl) rfl rfl hl.1 rfl (lv_room (Nat.le_of_ble_eq_true rfl)) dL_law_566 ⟨Nat.le_of_ble_eq_true rfl, Nat.le_of_ble_eq_true rfl⟩) (fun H locs hPo hS => ?_)
      have ag := ag_lose (x0 := xs 1) (x1 := 1) (y := f 0) hw hm
      refine lv_iload hx hb dL_law_569 (lv_at hl 1 rfl) ?_
      refine lv_icmp_eq (tgt := 576) hx hb dL_law_571 (by decide) (fun c_379 => ?_) (fun c_379 => ?_)
      · refine lv_iload hx hb dL_law_576 (lv_at hl 1 rfl) ?_
        refine lv_if_ne (tgt := 600) hx hb dL_law_578 (by decide) (fun c_380 => ?_) (fun c_380 => ?_)
        · refine lv_goto (tgt := 2118) hx hb dL_law_600 (by decide) ?_
          exact law_tail C0 hS (lv_sub hl [2, 7] rfl)
        · exact absurd ((show k = 1 from hw).symm.trans c_380) (by decide)
      · exact absurd ag.1 c_379
set_option maxHeartbeats 4000000 in
set_option maxRecDepth 100000 in
theorem law_pay {p : Program} {l : Launch} {e : Env} {s : State} {m : MethodId} {below : List Frame} {meth : Method} {c : Code} (hfl : l.stackTraces = false) {D : va_G} {ad : Nat → Nat} {cI cJ cO cZ : ClassId} {b h0 o : Nat} {xs : Nat → Int32} {u r0 r1 r2 : Nat → Nat} {sa : Nat → Nat} (C0 : lw_At p s m meth c b 7 xs) (hN : ex_n s) (hE : ex_w sa s) (hZ : ex_z (fun q : Nat => s.heap.size ≤ q) s s.heap) (hKW : va_K D vwCl [(cI, .int), (cJ, .long)] s) (hKM : va_K D vwCl [(cI, .int), (cO, .array .int), (cZ, .boolean)] s) {H : Heap} {locs : List Loc} (hP : va_P D vwCl (wrW ad cI cJ o ++ tmW h0 u r0 r1 r2 cI cO cZ) H) (hD : va_D (fun q : Nat => s.heap.size ≤ q) (wrW ad cI cJ o ++ tmW h0 u r0 r1 r2 cI cO cZ)) (hS : va_S (fun q : Nat => s.heap.size ≤ q) s.heap H locs) {od : Nat} {ls : Array Slot} (hl : lv_has ls 9 [(5, .int 0), (4, .ref od), (3, .ref o), (2, .ref h0), (1, .ref (ad 0)), (0, .ref b)]) : W p l e room_1 s m #[Value.ref b] below meth c H locs 400 10000 (lw_Z below #[Value.ref b] s) (F0 m 603 ls []) := by
  obtain ⟨hx, hb, hr, hml, hown, hts, hX, hbl, hlocks, hgv⟩ := id C0
  have hA : ∀ q : Nat, s.heap.size ≤ q → (fun q : Nat => s.heap.size ≤ q) q := fun _ h => h
  have hbA : ¬ (fun q : Nat => s.heap.size ≤ q) b := Nat.not_le.mpr hbl
  have ho : ∀ (k : Nat) (q : Nat × va_E), (tmW h0 u r0 r1 r2 cI cO cZ)[k]? = some q → q.1 ≠ o := ne_of hD 98 rfl
  have hne : h0 ≠ o := ho 0 (h0, _) rfl
  refine lv_aload_n hx hb dL_law_603 rfl (lv_at hl 4 rfl) ?_
  refine lv_aload_n hx hb dL_law_604 rfl (lv_at hl 5 rfl) ?_
  refine lv_iload hx hb dL_law_605 (lv_at hl 0 rfl) ?_
  refine lv_iconst (v := 1) hx hb dL_law_607 (by decide) ?_
  refine lv_iadd hx hb dL_law_608 ?_
  refine W.eq (g2 := F0 m 609 ls [.int 1, .ref b, .ref (ad 0)]) rfl ?_
  refine va_sld hx hb hX hbl hbA hS (by unfold vp_in; decide) dL_law_609 ?_
  refine W.eq (g2 := F0 m 610 ls [.int (xs 1), .ref (ad 0)]) rfl ?_
  refine lv_aload_n hx hb dL_law_610 rfl (lv_at hl 5 rfl) ?_
  refine lv_iload hx hb dL_law_611 (lv_at hl 0 rfl) ?_
  refine lv_iconst (v := 2) hx hb dL_law_613 (by decide) ?_
  refine lv_iadd hx hb dL_law_614 ?_
  refine W.eq (g2 := F0 m 615 ls [.int 2, .ref b, .int (xs 1), .ref (ad 0)]) rfl ?_
  refine va_sld hx hb hX hbl hbA hS (by unfold vp_in; decide) dL_law_615 ?_
  refine W.eq (g2 := F0 m 616 ls [.int (xs 2), .int (xs 1), .ref (ad 0)]) rfl ?_
  refine lv_aload_n hx hb dL_law_616 rfl (lv_at hl 2 rfl) ?_
  refine l_kw hP hD hS hA (vx_runSX (hh := [(0, 10, 13, 13), (0, 10, 17, 15)]) (As := [.ref (ad 0), .int (xs 1), .int (xs 2), .ref o]) (rest := []) ⟨hx, hb, hml, hown, hts⟩ (w_pay l hfl D ad cI cJ H.size o (xs 1) (xs 2) sa) (vx_cwSW 4 hts gl_L_pay rfl rfl rfl (by decide +kernel) ⟨Nat.le_of_ble_eq_true rfl, Nat.le_of_ble_eq_true rfl⟩) (w_preS hN hE hZ hKW (pre_P hP) (pre_D hD) hS hA) rfl rfl hl.1 rfl (lv_room (Nat.le_of_ble_eq_true rfl)) dL_law_617 ⟨Nat.le_of_ble_eq_true rfl, Nat.le_of_ble_eq_true rfl⟩) (fun k f H locs hw hPo hPb hDb hS => ?_)
  refine lv_istore (lv' := [(6, .int k), (5, .int 0), (4, .ref od), (3, .ref o), (2, .ref h0), (1, .ref (ad 0)), (0, .ref b)]) hx hb dL_law_620 hl (by decide) rfl (fun ls hl => ?_)
  refine lv_aload_n hx hb dL_law_622 rfl (lv_at hl 4 rfl) ?_
  refine lv_aload_n hx hb dL_law_623 rfl (lv_at hl 6 rfl) ?_
  refine lv_iload hx hb dL_law_624 (lv_at hl 1 rfl) ?_
  refine lv_iconst (v := 1) hx hb dL_law_626 (by decide) ?_
  refine lv_iadd hx hb dL_law_627 ?_
  refine W.eq (g2 := F0 m 628 ls [.int 1, .ref b, .ref h0]) rfl ?_
  refine va_sld hx hb hX hbl hbA hS (by unfold vp_in; decide) dL_law_628 ?_
  refine W.eq (g2 := F0 m 629 ls [.int (xs 1), .ref h0]) rfl ?_
  refine lv_aload_n hx hb dL_law_629 rfl (lv_at hl 6 rfl) ?_
  refine lv_iload hx hb dL_law_630 (lv_at hl 1 rfl) ?_
  refine lv_iconst (v := 2) hx hb dL_law_632 (by decide) ?_
  refine lv_iadd hx hb dL_law_633 ?_
  refine W.eq (g2 := F0 m 634 ls [.int 2, .ref b, .int (xs 1), .ref h0]) rfl ?_
  refine va_sld hx hb hX hbl hbA hS (by unfold vp_in; decide) dL_law_634 ?_
  refine W.eq (g2 := F0 m 635 ls [.int (xs 2), .int (xs 1), .ref h0]) rfl ?_
  refine l_km hPb hDb hS hA hPo ho (va_runV (As := [.int (xs 1), .int (xs 2)]) (rest := []) ⟨hx, hb, hml, hown, hts⟩ (qm_pay l D [(cI, .int), (cO, .array .int), (cZ, .boolean)] (tmW h0 u r0 r1 r2 cI cO cZ) H.size h0 _ (xs 1) (xs 2) rfl rfl (Nat.zero_lt_succ _)) (cwV 2 hts gl_X9_pay rfl rfl rfl (by decide +kernel) ⟨Nat.le_of_ble_eq_true rfl, Nat.le_of_ble_eq_true rfl⟩) (g_preV hKM hPb hDb (ci := 9) (q0 := 0) rfl rfl) rfl rfl hl.1 rfl (lv_room (Nat.le_of_ble_eq_true rfl)) dL_law_635 ⟨Nat.le_of_ble_eq_true rfl, Nat.le_of_ble_eq_true rfl⟩) (fun r v t H locs hv hm hPm hDm hPo hS => ?_)
  refine lv_istore (lv' := [(7, .int r), (6, .int k), (5, .int 0), (4, .ref od), (3, .ref o), (2, .ref h0), (1, .ref (ad 0)), (0, .ref b)]) hx hb dL_law_638 hl (by decide) rfl (fun ls hl => ?_)
  refine lv_aload_n hx hb dL_law_640 rfl (lv_at hl 5 rfl) ?_
  refine l_kt hDm hS hA hPo (ne1 hne) (va_runV (As := []) (rest := []) ⟨hx, hb, hml, hown, hts⟩ (q_thrown l D [(cI, .int), (cO, .array .int), (cZ, .boolean)] H.size h0 v t hv) (cwV 0 hts gl_X9_thrown rfl rfl rfl (by decide +kernel) ⟨Nat.le_of_ble_eq_true rfl, Nat.le_of_ble_eq_true rfl⟩) (g_preV hKM hPm hDm (ci := 9) (q0 := 0) rfl rfl) rfl rfl hl.1 rfl (lv_room (Nat.le_of_ble_eq_true rfl)) dL_law_641 ⟨Nat.le_of_ble_eq_true rfl, Nat.le_of_ble_eq_true rfl⟩) (fun H locs hPo hS => ?_)
  have ag := ag_pay (x0 := xs 1) (x1 := xs 2) (y := f 0) hw hm
  refine lv_iload hx hb dL_law_644 (lv_at hl 1 rfl) ?_
  refine lv_icmp_eq (tgt := 651) hx hb dL_law_646 (by decide) (fun c_381 => ?_) (fun c_381 => ?_)
  · refine lv_iload hx hb dL_law_651 (lv_at hl 1 rfl) ?_
    refine lv_if_ne (tgt := 668) hx hb dL_law_653 (by decide) (fun c_382 => ?_) (fun c_382 => ?_)
    · refine lv_goto (tgt := 2118) hx hb dL_law_668 (by decide) ?_
      exact law_tail C0 hS (lv_sub hl [2, 7] rfl)
    · exact absurd ((show k = 1 from hw).symm.trans c_382) (by decide)
  · exact absurd ag.1 c_381
set_option maxHeartbeats 4000000 in
set_option maxRecDepth 100000 in
theorem law_late {p : Program} {l : Launch} {e : Env} {s : State} {m : MethodId} {below : List Frame} {meth : Method} {c : Code} (hfl : l.stackTraces = false) {D : va_G} {ad : Nat → Nat} {cI cJ cO cZ : ClassId} {b h0 o : Nat} {xs : Nat → Int32} {u r0 r1 r2 : Nat → Nat} {sa : Nat → Nat} (C0 : lw_At p s m meth c b 7 xs) (hN : ex_n s) (hE : ex_w sa s) (hZ : ex_z (fun q : Nat => s.heap.size ≤ q) s s.heap) (hKW : va_K D vwCl [(cI, .int), (cJ, .long)] s) (hKM : va_K D vwCl [(cI, .int), (cO, .array .int), (cZ, .boolean)] s) {H : Heap} {locs : List Loc} (hP : va_P D vwCl (wrW ad cI cJ o ++ tmW h0 u r0 r1 r2 cI cO cZ) H) (hD : va_D (fun q : Nat => s.heap.size ≤ q) (wrW ad cI cJ o ++ tmW h0 u r0 r1 r2 cI cO cZ)) (hS : va_S (fun q : Nat => s.heap.size ≤ q) s.heap H locs) {od : Nat} {ls : Array Slot} (hl : lv_has ls 9 [(5, .int 0), (4, .ref od), (3, .ref o), (2, .ref h0), (1, .ref (ad 0)), (0, .ref b)]) : W p l e room_1 s m #[Value.ref b] below meth c H locs 400 10000 (lw_Z below #[Value.ref b] s) (F0 m 671 ls []) := by
  obtain ⟨hx, hb, hr, hml, hown, hts, hX, hbl, hlocks, hgv⟩ := id C0
  have hA : ∀ q : Nat, s.heap.size ≤ q → (fun q : Nat => s.heap.size ≤ q) q := fun _ h => h
  have hbA : ¬ (fun q : Nat => s.heap.size ≤ q) b := Nat.not_le.mpr hbl
  have ho : ∀ (k : Nat) (q : Nat × va_E), (tmW h0 u r0 r1 r2 cI cO cZ)[k]? = some q → q.1 ≠ o := ne_of hD 98 rfl
  have hne : h0 ≠ o := ho 0 (h0, _) rfl
  refine lv_aload_n hx hb dL_law_671 rfl (lv_at hl 4 rfl) ?_
  refine lv_aload_n hx hb dL_law_672 rfl (lv_at hl 5 rfl) ?_
  refine lv_iload hx hb dL_law_673 (lv_at hl 0 rfl) ?_
  refine lv_iconst (v := 1) hx hb dL_law_675 (by decide) ?_
  refine lv_iadd hx hb dL_law_676 ?_
  refine W.eq (g2 := F0 m 677 ls [.int 1, .ref b, .ref (ad 0)]) rfl ?_
  refine va_sld hx hb hX hbl hbA hS (by unfold vp_in; decide) dL_law_677 ?_
  refine W.eq (g2 := F0 m 678 ls [.int (xs 1), .ref (ad 0)]) rfl ?_
  refine lv_aload_n hx hb dL_law_678 rfl (lv_at hl 5 rfl) ?_
  refine lv_iload hx hb dL_law_679 (lv_at hl 0 rfl) ?_
  refine lv_iconst (v := 2) hx hb dL_law_681 (by decide) ?_
  refine lv_iadd hx hb dL_law_682 ?_
  refine W.eq (g2 := F0 m 683 ls [.int 2, .ref b, .int (xs 1), .ref (ad 0)]) rfl ?_
  refine va_sld hx hb hX hbl hbA hS (by unfold vp_in; decide) dL_law_683 ?_
  refine W.eq (g2 := F0 m 684 ls [.int (xs 2), .int (xs 1), .ref (ad 0)]) rfl ?_
  refine lv_aload_n hx hb dL_law_684 rfl (lv_at hl 5 rfl) ?_
  refine lv_iload hx hb dL_law_685 (lv_at hl 0 rfl) ?_
  refine lv_iconst (v := 3) hx hb dL_law_687 (by decide) ?_
  refine lv_iadd hx hb dL_law_688 ?_
  refine W.eq (g2 := F0 m 689 ls [.int 3, .ref b, .int (xs 2), .int (xs 1), .ref (ad 0)]) rfl ?_
  refine va_sld hx hb hX hbl hbA hS (by unfold vp_in; decide) dL_law_689 ?_
  refine W.eq (g2 := F0 m 690 ls [.int (xs 3), .int (xs 2), .int (xs 1), .ref (ad 0)]) rfl ?_
  refine lv_aload_n hx hb dL_law_690 rfl (lv_at hl 2 rfl) ?_
  refine l_kw hP hD hS hA (vx_runSX (hh := [(0, 12, 15, 13), (0, 12, 19, 15)]) (As := [.ref (ad 0), .int (xs 1), .int (xs 2), .int (xs 3), .ref o]) (rest := []) ⟨hx, hb, hml, hown, hts⟩ (w_late l hfl D ad cI cJ H.size o (xs 1) (xs 2) (xs 3) sa) (vx_cwSW 5 hts gl_L_late rfl rfl rfl (by decide +kernel) ⟨Nat.le_of_ble_eq_true rfl, Nat.le_of_ble_eq_true rfl⟩) (w_preS hN hE hZ hKW (pre_P hP) (pre_D hD) hS hA) rfl rfl hl.1 rfl (lv_room (Nat.le_of_ble_eq_true rfl)) dL_law_691 ⟨Nat.le_of_ble_eq_true rfl, Nat.le_of_ble_eq_true rfl⟩) (fun k f H locs hw hPo hPb hDb hS => ?_)
  refine lv_istore (lv' := [(6, .int k), (5, .int 0), (4, .ref od), (3, .ref o), (2, .ref h0), (1, .ref (ad 0)), (0, .ref b)]) hx hb dL_law_694 hl (by decide) rfl (fun ls hl => ?_)
  refine lv_aload_n hx hb dL_law_696 rfl (lv_at hl 4 rfl) ?_
  refine lv_aload_n hx hb dL_law_697 rfl (lv_at hl 6 rfl) ?_
  refine lv_iload hx hb dL_law_698 (lv_at hl 1 rfl) ?_
  refine lv_iconst (v := 1) hx hb dL_law_700 (by decide) ?_
  refine lv_iadd hx hb dL_law_701 ?_
  refine W.eq (g2 := F0 m 702 ls [.int 1, .ref b, .ref h0]) rfl ?_
  refine va_sld hx hb hX hbl hbA hS (by unfold vp_in; decide) dL_law_702 ?_
  refine W.eq (g2 := F0 m 703 ls [.int (xs 1), .ref h0]) rfl ?_
  refine lv_aload_n hx hb dL_law_703 rfl (lv_at hl 6 rfl) ?_
  refine lv_iload hx hb dL_law_704 (lv_at hl 1 rfl) ?_
  refine lv_iconst (v := 2) hx hb dL_law_706 (by decide) ?_
  refine lv_iadd hx hb dL_law_707 ?_
  refine W.eq (g2 := F0 m 708 ls [.int 2, .ref b, .int (xs 1), .ref h0]) rfl ?_
  refine va_sld hx hb hX hbl hbA hS (by unfold vp_in; decide) dL_law_708 ?_
  refine W.eq (g2 := F0 m 709 ls [.int (xs 2), .int (xs 1), .ref h0]) rfl ?_
  refine lv_aload_n hx hb dL_law_709 rfl (lv_at hl 6 rfl) ?_
  refine lv_iload hx hb dL_law_710 (lv_at hl 1 rfl) ?_
  refine lv_iconst (v := 3) hx hb dL_law_712 (by decide) ?_
  refine lv_iadd hx hb dL_law_713 ?_
  refine W.eq (g2 := F0 m 714 ls [.int 3, .ref b, .int (xs 2), .int (xs 1), .ref h0]) rfl ?_
  refine va_sld hx hb hX hbl hbA hS (by unfold vp_in; decide) dL_law_714 ?_
  refine W.eq (g2 := F0 m 715 ls [.int (xs 3), .int (xs 2), .int (xs 1), .ref h0]) rfl ?_
  refine l_km hPb hDb hS hA hPo ho (va_runV (As := [.int (xs 1), .int (xs 2), .int (xs 3)]) (rest := []) ⟨hx, hb, hml, hown, hts⟩ (qm_late l D H.size h0 u r0 r1 r2 cI cO cZ (tmP r0 r1 r2 cI) (xs 1) (xs 2) (xs 3) (tmP_late r0 r1 r2 cI)) (cwV 3 hts gl_X9_late rfl rfl rfl (by decide +kernel) ⟨Nat.le_of_ble_eq_true rfl, Nat.le_of_ble_eq_true rfl⟩) (g_preV hKM hPb hDb (ci := 9) (q0 := 0) rfl rfl) rfl rfl hl.1 rfl (lv_room (Nat.le_of_ble_eq_true rfl)) dL_law_715 ⟨Nat.le_of_ble_eq_true rfl, Nat.le_of_ble_eq_true rfl⟩) (fun r v t H locs hv hm hPm hDm hPo hS => ?_)
  refine lv_istore (lv' := [(7, .int r), (6, .int k), (5, .int 0), (4, .ref od), (3, .ref o), (2, .ref h0), (1, .ref (ad 0)), (0, .ref b)]) hx hb dL_law_718 hl (by decide) rfl (fun ls hl => ?_)
  refine lv_aload_n hx hb dL_law_720 rfl (lv_at hl 5 rfl) ?_
  refine l_kt hDm hS hA hPo (ne1 hne) (va_runV (As := []) (rest := []) ⟨hx, hb, hml, hown, hts⟩ (q_thrown l D [(cI, .int), (cO, .array .int), (cZ, .boolean)] H.size h0 v t hv) (cwV 0 hts gl_X9_thrown rfl rfl rfl (by decide +kernel) ⟨Nat.le_of_ble_eq_true rfl, Nat.le_of_ble_eq_true rfl⟩) (g_preV hKM hPm hDm (ci := 9) (q0 := 0) rfl rfl) rfl rfl hl.1 rfl (lv_room (Nat.le_of_ble_eq_true rfl)) dL_law_721 ⟨Nat.le_of_ble_eq_true rfl, Nat.le_of_ble_eq_true rfl⟩) (fun H locs hPo hS => ?_)
  have ag := ag_late (x0 := xs 1) (x1 := xs 2) (x2 := xs 3) (y := f 0) hw hm
  refine lv_iload hx hb dL_law_724 (lv_at hl 1 rfl) ?_
  refine lv_icmp_eq (tgt := 731) hx hb dL_law_726 (by decide) (fun c_383 => ?_) (fun c_383 => ?_)
  · refine lv_iload hx hb dL_law_731 (lv_at hl 1 rfl) ?_
    refine lv_if_ne (tgt := 748) hx hb dL_law_733 (by decide) (fun c_384 => ?_) (fun c_384 => ?_)
    · refine lv_goto (tgt := 2118) hx hb dL_law_748 (by decide) ?_
      exact law_tail C0 hS (lv_sub hl [2, 7] rfl)
    · have agv := ag.2 c_384
      refine lv_aload_n hx hb dL_law_736 rfl (lv_at hl 4 rfl) ?_
      refine lv_iconst (v := 0) hx hb dL_law_737 (by decide) ?_
      refine va_lald (tys := [(cI, .int), (cJ, .long)]) hx hb hKW hPo 0 1 rfl rfl (by unfold vp_in; decide) dL_law_738 ?_
      refine W.eq (g2 := F0 m 739 ls [.long (f 0)]) rfl ?_
      refine lv_iload hx hb dL_law_739 (lv_at hl 0 rfl) ?_
      refine lv_i2l (v := r.toInt64) hx hb dL_law_741 rfl ?_
      refine W.lcmp hx hb dL_law_742 ?_
      refine lv_if_eq (tgt := 748) hx hb dL_law_743 (by decide) (fun c_385 => ?_) (fun c_385 => ?_)
      · refine lv_goto (tgt := 2118) hx hb dL_law_748 (by decide) ?_
        exact law_tail C0 hS (lv_sub hl [2, 7] rfl)
      · exact absurd (by rw [agv]; exact lg_cmp_self _) c_385
  · exact absurd ag.1 c_383
set_option maxHeartbeats 4000000 in
set_option maxRecDepth 100000 in
theorem law_tap {p : Program} {l : Launch} {e : Env} {s : State} {m : MethodId} {below : List Frame} {meth : Method} {c : Code} (hfl : l.stackTraces = false) {D : va_G} {ad : Nat → Nat} {cI cJ cO cZ : ClassId} {b h0 o : Nat} {xs : Nat → Int32} {u r0 r1 r2 : Nat → Nat} {sa : Nat → Nat} (C0 : lw_At p s m meth c b 7 xs) (hN : ex_n s) (hE : ex_w sa s) (hZ : ex_z (fun q : Nat => s.heap.size ≤ q) s s.heap) (hKW : va_K D vwCl [(cI, .int), (cJ, .long)] s) (hKM : va_K D vwCl [(cI, .int), (cO, .array .int), (cZ, .boolean)] s) {H : Heap} {locs : List Loc} (hP : va_P D vwCl (wrW ad cI cJ o ++ tmW h0 u r0 r1 r2 cI cO cZ) H) (hD : va_D (fun q : Nat => s.heap.size ≤ q) (wrW ad cI cJ o ++ tmW h0 u r0 r1 r2 cI cO cZ)) (hS : va_S (fun q : Nat => s.heap.size ≤ q) s.heap H locs) {od : Nat} {ls : Array Slot} (hl : lv_has ls 9 [(5, .int 0), (4, .ref od), (3, .ref o), (2, .ref h0), (1, .ref (ad 0)), (0, .ref b)]) : W p l e room_1 s m #[Value.ref b] below meth c H locs 400 10000 (lw_Z below #[Value.ref b] s) (F0 m 751 ls []) := by
  obtain ⟨hx, hb, hr, hml, hown, hts, hX, hbl, hlocks, hgv⟩ := id C0
  have hA : ∀ q : Nat, s.heap.size ≤ q → (fun q : Nat => s.heap.size ≤ q) q := fun _ h => h
  have hbA : ¬ (fun q : Nat => s.heap.size ≤ q) b := Nat.not_le.mpr hbl
  have ho : ∀ (k : Nat) (q : Nat × va_E), (tmW h0 u r0 r1 r2 cI cO cZ)[k]? = some q → q.1 ≠ o := ne_of hD 98 rfl
  have hne : h0 ≠ o := ho 0 (h0, _) rfl
  refine lv_aload_n hx hb dL_law_751 rfl (lv_at hl 4 rfl) ?_
  refine lv_aload_n hx hb dL_law_752 rfl (lv_at hl 5 rfl) ?_
  refine lv_iload hx hb dL_law_753 (lv_at hl 0 rfl) ?_
  refine lv_iconst (v := 1) hx hb dL_law_755 (by decide) ?_
  refine lv_iadd hx hb dL_law_756 ?_
  refine W.eq (g2 := F0 m 757 ls [.int 1, .ref b, .ref (ad 0)]) rfl ?_
  refine va_sld hx hb hX hbl hbA hS (by unfold vp_in; decide) dL_law_757 ?_
  refine W.eq (g2 := F0 m 758 ls [.int (xs 1), .ref (ad 0)]) rfl ?_
  refine lv_aload_n hx hb dL_law_758 rfl (lv_at hl 5 rfl) ?_
  refine lv_iload hx hb dL_law_759 (lv_at hl 0 rfl) ?_
  refine lv_iconst (v := 2) hx hb dL_law_761 (by decide) ?_
  refine lv_iadd hx hb dL_law_762 ?_
  refine W.eq (g2 := F0 m 763 ls [.int 2, .ref b, .int (xs 1), .ref (ad 0)]) rfl ?_
  refine va_sld hx hb hX hbl hbA hS (by unfold vp_in; decide) dL_law_763 ?_
  refine W.eq (g2 := F0 m 764 ls [.int (xs 2), .int (xs 1), .ref (ad 0)]) rfl ?_
  refine lv_aload_n hx hb dL_law_764 rfl (lv_at hl 5 rfl) ?_
  refine lv_iload hx hb dL_law_765 (lv_at hl 0 rfl) ?_
  refine lv_iconst (v := 3) hx hb dL_law_767 (by decide) ?_
  refine lv_iadd hx hb dL_law_768 ?_
  refine W.eq (g2 := F0 m 769 ls [.int 3, .ref b, .int (xs 2), .int (xs 1), .ref (ad 0)]) rfl ?_
  refine va_sld hx hb hX hbl hbA hS (by unfold vp_in; decide) dL_law_769 ?_
  refine W.eq (g2 := F0 m 770 ls [.int (xs 3), .int (xs 2), .int (xs 1), .ref (ad 0)]) rfl ?_
  refine lv_aload_n hx hb dL_law_770 rfl (lv_at hl 5 rfl) ?_
  refine lv_iload hx hb dL_law_771 (lv_at hl 0 rfl) ?_
  refine lv_iconst (v := 4) hx hb dL_law_773 (by decide) ?_
  refine lv_iadd hx hb dL_law_774 ?_
  refine W.eq (g2 := F0 m 775 ls [.int 4, .ref b, .int (xs 3), .int (xs 2), .int (xs 1), .ref (ad 0)]) rfl ?_
  refine va_sld hx hb hX hbl hbA hS (by unfold vp_in; decide) dL_law_775 ?_
  refine W.eq (g2 := F0 m 776 ls [.int (xs 4), .int (xs 3), .int (xs 2), .int (xs 1), .ref (ad 0)]) rfl ?_
  refine lv_if_eq (tgt := 783) hx hb dL_law_776 (by decide) (fun c_386 => ?_) (fun c_386 => ?_)
  · refine lv_iconst (v := 0) hx hb dL_law_783 (by decide) ?_
    refine lv_aload_n hx hb dL_law_784 rfl (lv_at hl 5 rfl) ?_
    refine lv_iload hx hb dL_law_785 (lv_at hl 0 rfl) ?_
    refine lv_iconst (v := 5) hx hb dL_law_787 (by decide) ?_
    refine lv_iadd hx hb dL_law_788 ?_
    refine W.eq (g2 := F0 m 789 ls [.int 5, .ref b, .int 0, .int (xs 3), .int (xs 2), .int (xs 1), .ref (ad 0)]) rfl ?_
    refine va_sld hx hb hX hbl hbA hS (by unfold vp_in; decide) dL_law_789 ?_
    refine W.eq (g2 := F0 m 790 ls [.int (xs 5), .int 0, .int (xs 3), .int (xs 2), .int (xs 1), .ref (ad 0)]) rfl ?_
    refine lv_aload_n hx hb dL_law_790 rfl (lv_at hl 5 rfl) ?_
    refine lv_iload hx hb dL_law_791 (lv_at hl 0 rfl) ?_
    refine lv_bipush (v := 6) hx hb dL_law_793 (by decide) ?_
    refine lv_iadd hx hb dL_law_795 ?_
    refine W.eq (g2 := F0 m 796 ls [.int 6, .ref b, .int (xs 5), .int 0, .int (xs 3), .int (xs 2), .int (xs 1), .ref (ad 0)]) rfl ?_
    refine va_sld hx hb hX hbl hbA hS (by unfold vp_in; decide) dL_law_796 ?_
    refine W.eq (g2 := F0 m 797 ls [.int (xs 6), .int (xs 5), .int 0, .int (xs 3), .int (xs 2), .int (xs 1), .ref (ad 0)]) rfl ?_
    refine lv_aload_n hx hb dL_law_797 rfl (lv_at hl 2 rfl) ?_
    refine l_kw hP hD hS hA (vx_runSX (hh := [(0, 18, 21, 13), (0, 18, 25, 15), (0, 18, 29, 24)]) (As := [.ref (ad 0), .int (xs 1), .int (xs 2), .int (xs 3), .int 0, .int (xs 5), .int (xs 6), .ref o]) (rest := []) ⟨hx, hb, hml, hown, hts⟩ (w_tap l hfl D ad cI cJ H.size o (xs 1) (xs 2) (xs 3) 0 (xs 5) (xs 6) sa) (vx_cwSW 8 hts gl_L_tap rfl rfl rfl (by decide +kernel) ⟨Nat.le_of_ble_eq_true rfl, Nat.le_of_ble_eq_true rfl⟩) (w_preS hN hE hZ hKW (pre_P hP) (pre_D hD) hS hA) rfl rfl hl.1 rfl (lv_room (Nat.le_of_ble_eq_true rfl)) dL_law_798 ⟨Nat.le_of_ble_eq_true rfl, Nat.le_of_ble_eq_true rfl⟩) (fun k f H locs hw hPo hPb hDb hS => ?_)
    refine lv_istore (lv' := [(6, .int k), (5, .int 0), (4, .ref od), (3, .ref o), (2, .ref h0), (1, .ref (ad 0)), (0, .ref b)]) hx hb dL_law_801 hl (by decide) rfl (fun ls hl => ?_)
    refine lv_aload_n hx hb dL_law_803 rfl (lv_at hl 4 rfl) ?_
    refine lv_aload_n hx hb dL_law_804 rfl (lv_at hl 6 rfl) ?_
    refine lv_iload hx hb dL_law_805 (lv_at hl 1 rfl) ?_
    refine lv_iconst (v := 1) hx hb dL_law_807 (by decide) ?_
    refine lv_iadd hx hb dL_law_808 ?_
    refine W.eq (g2 := F0 m 809 ls [.int 1, .ref b, .ref h0]) rfl ?_
    refine va_sld hx hb hX hbl hbA hS (by unfold vp_in; decide) dL_law_809 ?_
    refine W.eq (g2 := F0 m 810 ls [.int (xs 1), .ref h0]) rfl ?_
    refine lv_aload_n hx hb dL_law_810 rfl (lv_at hl 6 rfl) ?_
    refine lv_iload hx hb dL_law_811 (lv_at hl 1 rfl) ?_
    refine lv_iconst (v := 2) hx hb dL_law_813 (by decide) ?_
    refine lv_iadd hx hb dL_law_814 ?_
    refine W.eq (g2 := F0 m 815 ls [.int 2, .ref b, .int (xs 1), .ref h0]) rfl ?_
    refine va_sld hx hb hX hbl hbA hS (by unfold vp_in; decide) dL_law_815 ?_
    refine W.eq (g2 := F0 m 816 ls [.int (xs 2), .int (xs 1), .ref h0]) rfl ?_
    refine lv_aload_n hx hb dL_law_816 rfl (lv_at hl 6 rfl) ?_
    refine lv_iload hx hb dL_law_817 (lv_at hl 1 rfl) ?_
    refine lv_iconst (v := 3) hx hb dL_law_819 (by decide) ?_
    refine lv_iadd hx hb dL_law_820 ?_
    refine W.eq (g2 := F0 m 821 ls [.int 3, .ref b, .int (xs 2), .int (xs 1), .ref h0]) rfl ?_
    refine va_sld hx hb hX hbl hbA hS (by unfold vp_in; decide) dL_law_821 ?_
    refine W.eq (g2 := F0 m 822 ls [.int (xs 3), .int (xs 2), .int (xs 1), .ref h0]) rfl ?_
    refine lv_aload_n hx hb dL_law_822 rfl (lv_at hl 6 rfl) ?_
    refine lv_iload hx hb dL_law_823 (lv_at hl 1 rfl) ?_
    refine lv_iconst (v := 4) hx hb dL_law_825 (by decide) ?_
    refine lv_iadd hx hb dL_law_826 ?_
    refine W.eq (g2 := F0 m 827 ls [.int 4, .ref b, .int (xs 3), .int (xs 2), .int (xs 1), .ref h0]) rfl ?_
    refine va_sld hx hb hX hbl hbA hS (by unfold vp_in; decide) dL_law_827 ?_
    refine W.eq (g2 := F0 m 828 ls [.int (xs 4), .int (xs 3), .int (xs 2), .int (xs 1), .ref h0]) rfl ?_
    refine lv_if_eq (tgt := 835) hx hb dL_law_828 (by decide) (fun c_387 => ?_) (fun c_387 => ?_)
    · refine lv_iconst (v := 0) hx hb dL_law_835 (by decide) ?_
      refine lv_aload_n hx hb dL_law_836 rfl (lv_at hl 6 rfl) ?_
      refine lv_iload hx hb dL_law_837 (lv_at hl 1 rfl) ?_
      refine lv_iconst (v := 5) hx hb dL_law_839 (by decide) ?_
      refine lv_iadd hx hb dL_law_840 ?_
      refine W.eq (g2 := F0 m 841 ls [.int 5, .ref b, .int 0, .int (xs 3), .int (xs 2), .int (xs 1), .ref h0]) rfl ?_
      refine va_sld hx hb hX hbl hbA hS (by unfold vp_in; decide) dL_law_841 ?_
      refine W.eq (g2 := F0 m 842 ls [.int (xs 5), .int 0, .int (xs 3), .int (xs 2), .int (xs 1), .ref h0]) rfl ?_
      refine lv_aload_n hx hb dL_law_842 rfl (lv_at hl 6 rfl) ?_
      refine lv_iload hx hb dL_law_843 (lv_at hl 1 rfl) ?_
      refine lv_bipush (v := 6) hx hb dL_law_845 (by decide) ?_
      refine lv_iadd hx hb dL_law_847 ?_
      refine W.eq (g2 := F0 m 848 ls [.int 6, .ref b, .int (xs 5), .int 0, .int (xs 3), .int (xs 2), .int (xs 1), .ref h0]) rfl ?_
      refine va_sld hx hb hX hbl hbA hS (by unfold vp_in; decide) dL_law_848 ?_
      refine W.eq (g2 := F0 m 849 ls [.int (xs 6), .int (xs 5), .int 0, .int (xs 3), .int (xs 2), .int (xs 1), .ref h0]) rfl ?_
      refine l_km hPb hDb hS hA hPo ho (va_runV (As := [.int (xs 1), .int (xs 2), .int (xs 3), .int 0, .int (xs 5), .int (xs 6)]) (rest := []) ⟨hx, hb, hml, hown, hts⟩ (qm_tap l D [(cI, .int), (cO, .array .int), (cZ, .boolean)] (tmW h0 u r0 r1 r2 cI cO cZ) H.size h0 _ (xs 1) (xs 2) (xs 3) 0 (xs 5) (xs 6) rfl rfl (Nat.zero_lt_succ _)) (cwV 6 hts gl_X9_tap rfl rfl rfl (by decide +kernel) ⟨Nat.le_of_ble_eq_true rfl, Nat.le_of_ble_eq_true rfl⟩) (g_preV hKM hPb hDb (ci := 9) (q0 := 0) rfl rfl) rfl rfl hl.1 rfl (lv_room (Nat.le_of_ble_eq_true rfl)) dL_law_849 ⟨Nat.le_of_ble_eq_true rfl, Nat.le_of_ble_eq_true rfl⟩) (fun r v t H locs hv hm hPm hDm hPo hS => ?_)
      refine lv_istore (lv' := [(7, .int r), (6, .int k), (5, .int 0), (4, .ref od), (3, .ref o), (2, .ref h0), (1, .ref (ad 0)), (0, .ref b)]) hx hb dL_law_852 hl (by decide) rfl (fun ls hl => ?_)
      refine lv_aload_n hx hb dL_law_854 rfl (lv_at hl 5 rfl) ?_
      refine l_kt hDm hS hA hPo (ne1 hne) (va_runV (As := []) (rest := []) ⟨hx, hb, hml, hown, hts⟩ (q_thrown l D [(cI, .int), (cO, .array .int), (cZ, .boolean)] H.size h0 v t hv) (cwV 0 hts gl_X9_thrown rfl rfl rfl (by decide +kernel) ⟨Nat.le_of_ble_eq_true rfl, Nat.le_of_ble_eq_true rfl⟩) (g_preV hKM hPm hDm (ci := 9) (q0 := 0) rfl rfl) rfl rfl hl.1 rfl (lv_room (Nat.le_of_ble_eq_true rfl)) dL_law_855 ⟨Nat.le_of_ble_eq_true rfl, Nat.le_of_ble_eq_true rfl⟩) (fun H locs hPo hS => ?_)
      have ag := ag_tap (x0 := xs 1) (x1 := xs 2) (x2 := xs 3) (x3 := 0) (x4 := xs 5) (x5 := xs 6) (y := f 0) hw hm
      refine lv_iload hx hb dL_law_858 (lv_at hl 1 rfl) ?_
      refine lv_icmp_eq (tgt := 865) hx hb dL_law_860 (by decide) (fun c_388 => ?_) (fun c_388 => ?_)
      · refine lv_iload hx hb dL_law_865 (lv_at hl 1 rfl) ?_
        refine lv_if_ne (tgt := 882) hx hb dL_law_867 (by decide) (fun c_389 => ?_) (fun c_389 => ?_)
        · refine lv_goto (tgt := 2118) hx hb dL_law_882 (by decide) ?_
          exact law_tail C0 hS (lv_sub hl [2, 7] rfl)
        · exact absurd ((show k = 1 from hw).symm.trans c_389) (by decide)
      · exact absurd ag.1 c_388
    · refine lv_iconst (v := 1) hx hb dL_law_831 (by decide) ?_
      refine lv_goto (tgt := 836) hx hb dL_law_832 (by decide) ?_
      refine lv_aload_n hx hb dL_law_836 rfl (lv_at hl 6 rfl) ?_
      refine lv_iload hx hb dL_law_837 (lv_at hl 1 rfl) ?_
      refine lv_iconst (v := 5) hx hb dL_law_839 (by decide) ?_
      refine lv_iadd hx hb dL_law_840 ?_
      refine W.eq (g2 := F0 m 841 ls [.int 5, .ref b, .int 1, .int (xs 3), .int (xs 2), .int (xs 1), .ref h0]) rfl ?_
      refine va_sld hx hb hX hbl hbA hS (by unfold vp_in; decide) dL_law_841 ?_
      refine W.eq (g2 := F0 m 842 ls [.int (xs 5), .int 1, .int (xs 3), .int (xs 2), .int (xs 1), .ref h0]) rfl ?_
      refine lv_aload_n hx hb dL_law_842 rfl (lv_at hl 6 rfl) ?_
      refine lv_iload hx hb dL_law_843 (lv_at hl 1 rfl) ?_
      refine lv_bipush (v := 6) hx hb dL_law_845 (by decide) ?_
      refine lv_iadd hx hb dL_law_847 ?_
      refine W.eq (g2 := F0 m 848 ls [.int 6, .ref b, .int (xs 5), .int 1, .int (xs 3), .int (xs 2), .int (xs 1), .ref h0]) rfl ?_
      refine va_sld hx hb hX hbl hbA hS (by unfold vp_in; decide) dL_law_848 ?_
      refine W.eq (g2 := F0 m 849 ls [.int (xs 6), .int (xs 5), .int 1, .int (xs 3), .int (xs 2), .int (xs 1), .ref h0]) rfl ?_
      refine l_km hPb hDb hS hA hPo ho (va_runV (As := [.int (xs 1), .int (xs 2), .int (xs 3), .int 1, .int (xs 5), .int (xs 6)]) (rest := []) ⟨hx, hb, hml, hown, hts⟩ (qm_tap l D [(cI, .int), (cO, .array .int), (cZ, .boolean)] (tmW h0 u r0 r1 r2 cI cO cZ) H.size h0 _ (xs 1) (xs 2) (xs 3) 1 (xs 5) (xs 6) rfl rfl (Nat.zero_lt_succ _)) (cwV 6 hts gl_X9_tap rfl rfl rfl (by decide +kernel) ⟨Nat.le_of_ble_eq_true rfl, Nat.le_of_ble_eq_true rfl⟩) (g_preV hKM hPb hDb (ci := 9) (q0 := 0) rfl rfl) rfl rfl hl.1 rfl (lv_room (Nat.le_of_ble_eq_true rfl)) dL_law_849 ⟨Nat.le_of_ble_eq_true rfl, Nat.le_of_ble_eq_true rfl⟩) (fun r v t H locs hv hm hPm hDm hPo hS => ?_)
      refine lv_istore (lv' := [(7, .int r), (6, .int k), (5, .int 0), (4, .ref od), (3, .ref o), (2, .ref h0), (1, .ref (ad 0)), (0, .ref b)]) hx hb dL_law_852 hl (by decide) rfl (fun ls hl => ?_)
      refine lv_aload_n hx hb dL_law_854 rfl (lv_at hl 5 rfl) ?_
      refine l_kt hDm hS hA hPo (ne1 hne) (va_runV (As := []) (rest := []) ⟨hx, hb, hml, hown, hts⟩ (q_thrown l D [(cI, .int), (cO, .array .int), (cZ, .boolean)] H.size h0 v t hv) (cwV 0 hts gl_X9_thrown rfl rfl rfl (by decide +kernel) ⟨Nat.le_of_ble_eq_true rfl, Nat.le_of_ble_eq_true rfl⟩) (g_preV hKM hPm hDm (ci := 9) (q0 := 0) rfl rfl) rfl rfl hl.1 rfl (lv_room (Nat.le_of_ble_eq_true rfl)) dL_law_855 ⟨Nat.le_of_ble_eq_true rfl, Nat.le_of_ble_eq_true rfl⟩) (fun H locs hPo hS => ?_)
      have ag := ag_tap (x0 := xs 1) (x1 := xs 2) (x2 := xs 3) (x3 := 0) (x4 := xs 5) (x5 := xs 6) (y := f 0) hw hm
      refine lv_iload hx hb dL_law_858 (lv_at hl 1 rfl) ?_
      refine lv_icmp_eq (tgt := 865) hx hb dL_law_860 (by decide) (fun c_390 => ?_) (fun c_390 => ?_)
      · refine lv_iload hx hb dL_law_865 (lv_at hl 1 rfl) ?_
        refine lv_if_ne (tgt := 882) hx hb dL_law_867 (by decide) (fun c_391 => ?_) (fun c_391 => ?_)
        · refine lv_goto (tgt := 2118) hx hb dL_law_882 (by decide) ?_
          exact law_tail C0 hS (lv_sub hl [2, 7] rfl)
        · exact absurd ((show k = 1 from hw).symm.trans c_391) (by decide)
      · exact absurd ag.1 c_390
  · refine lv_iconst (v := 1) hx hb dL_law_779 (by decide) ?_
    refine lv_goto (tgt := 784) hx hb dL_law_780 (by decide) ?_
    refine lv_aload_n hx hb dL_law_784 rfl (lv_at hl 5 rfl) ?_
    refine lv_iload hx hb dL_law_785 (lv_at hl 0 rfl) ?_
    refine lv_iconst (v := 5) hx hb dL_law_787 (by decide) ?_
    refine lv_iadd hx hb dL_law_788 ?_
    refine W.eq (g2 := F0 m 789 ls [.int 5, .ref b, .int 1, .int (xs 3), .int (xs 2), .int (xs 1), .ref (ad 0)]) rfl ?_
    refine va_sld hx hb hX hbl hbA hS (by unfold vp_in; decide) dL_law_789 ?_
    refine W.eq (g2 := F0 m 790 ls [.int (xs 5), .int 1, .int (xs 3), .int (xs 2), .int (xs 1), .ref (ad 0)]) rfl ?_
    refine lv_aload_n hx hb dL_law_790 rfl (lv_at hl 5 rfl) ?_
    refine lv_iload hx hb dL_law_791 (lv_at hl 0 rfl) ?_
    refine lv_bipush (v := 6) hx hb dL_law_793 (by decide) ?_
    refine lv_iadd hx hb dL_law_795 ?_
    refine W.eq (g2 := F0 m 796 ls [.int 6, .ref b, .int (xs 5), .int 1, .int (xs 3), .int (xs 2), .int (xs 1), .ref (ad 0)]) rfl ?_
    refine va_sld hx hb hX hbl hbA hS (by unfold vp_in; decide) dL_law_796 ?_
    refine W.eq (g2 := F0 m 797 ls [.int (xs 6), .int (xs 5), .int 1, .int (xs 3), .int (xs 2), .int (xs 1), .ref (ad 0)]) rfl ?_
    refine lv_aload_n hx hb dL_law_797 rfl (lv_at hl 2 rfl) ?_
    refine l_kw hP hD hS hA (vx_runSX (hh := [(0, 18, 21, 13), (0, 18, 25, 15), (0, 18, 29, 24)]) (As := [.ref (ad 0), .int (xs 1), .int (xs 2), .int (xs 3), .int 1, .int (xs 5), .int (xs 6), .ref o]) (rest := []) ⟨hx, hb, hml, hown, hts⟩ (w_tap l hfl D ad cI cJ H.size o (xs 1) (xs 2) (xs 3) 1 (xs 5) (xs 6) sa) (vx_cwSW 8 hts gl_L_tap rfl rfl rfl (by decide +kernel) ⟨Nat.le_of_ble_eq_true rfl, Nat.le_of_ble_eq_true rfl⟩) (w_preS hN hE hZ hKW (pre_P hP) (pre_D hD) hS hA) rfl rfl hl.1 rfl (lv_room (Nat.le_of_ble_eq_true rfl)) dL_law_798 ⟨Nat.le_of_ble_eq_true rfl, Nat.le_of_ble_eq_true rfl⟩) (fun k f H locs hw hPo hPb hDb hS => ?_)
    refine lv_istore (lv' := [(6, .int k), (5, .int 0), (4, .ref od), (3, .ref o), (2, .ref h0), (1, .ref (ad 0)), (0, .ref b)]) hx hb dL_law_801 hl (by decide) rfl (fun ls hl => ?_)
    refine lv_aload_n hx hb dL_law_803 rfl (lv_at hl 4 rfl) ?_
    refine lv_aload_n hx hb dL_law_804 rfl (lv_at hl 6 rfl) ?_
    refine lv_iload hx hb dL_law_805 (lv_at hl 1 rfl) ?_
    refine lv_iconst (v := 1) hx hb dL_law_807 (by decide) ?_
    refine lv_iadd hx hb dL_law_808 ?_
    refine W.eq (g2 := F0 m 809 ls [.int 1, .ref b, .ref h0]) rfl ?_
    refine va_sld hx hb hX hbl hbA hS (by unfold vp_in; decide) dL_law_809 ?_
    refine W.eq (g2 := F0 m 810 ls [.int (xs 1), .ref h0]) rfl ?_
    refine lv_aload_n hx hb dL_law_810 rfl (lv_at hl 6 rfl) ?_
    refine lv_iload hx hb dL_law_811 (lv_at hl 1 rfl) ?_
    refine lv_iconst (v := 2) hx hb dL_law_813 (by decide) ?_
    refine lv_iadd hx hb dL_law_814 ?_
    refine W.eq (g2 := F0 m 815 ls [.int 2, .ref b, .int (xs 1), .ref h0]) rfl ?_
    refine va_sld hx hb hX hbl hbA hS (by unfold vp_in; decide) dL_law_815 ?_
    refine W.eq (g2 := F0 m 816 ls [.int (xs 2), .int (xs 1), .ref h0]) rfl ?_
    refine lv_aload_n hx hb dL_law_816 rfl (lv_at hl 6 rfl) ?_
    refine lv_iload hx hb dL_law_817 (lv_at hl 1 rfl) ?_
    refine lv_iconst (v := 3) hx hb dL_law_819 (by decide) ?_
    refine lv_iadd hx hb dL_law_820 ?_
    refine W.eq (g2 := F0 m 821 ls [.int 3, .ref b, .int (xs 2), .int (xs 1), .ref h0]) rfl ?_
    refine va_sld hx hb hX hbl hbA hS (by unfold vp_in; decide) dL_law_821 ?_
    refine W.eq (g2 := F0 m 822 ls [.int (xs 3), .int (xs 2), .int (xs 1), .ref h0]) rfl ?_
    refine lv_aload_n hx hb dL_law_822 rfl (lv_at hl 6 rfl) ?_
    refine lv_iload hx hb dL_law_823 (lv_at hl 1 rfl) ?_
    refine lv_iconst (v := 4) hx hb dL_law_825 (by decide) ?_
    refine lv_iadd hx hb dL_law_826 ?_
    refine W.eq (g2 := F0 m 827 ls [.int 4, .ref b, .int (xs 3), .int (xs 2), .int (xs 1), .ref h0]) rfl ?_
    refine va_sld hx hb hX hbl hbA hS (by unfold vp_in; decide) dL_law_827 ?_
    refine W.eq (g2 := F0 m 828 ls [.int (xs 4), .int (xs 3), .int (xs 2), .int (xs 1), .ref h0]) rfl ?_
    refine lv_if_eq (tgt := 835) hx hb dL_law_828 (by decide) (fun c_392 => ?_) (fun c_392 => ?_)
    · refine lv_iconst (v := 0) hx hb dL_law_835 (by decide) ?_
      refine lv_aload_n hx hb dL_law_836 rfl (lv_at hl 6 rfl) ?_
      refine lv_iload hx hb dL_law_837 (lv_at hl 1 rfl) ?_
      refine lv_iconst (v := 5) hx hb dL_law_839 (by decide) ?_
      refine lv_iadd hx hb dL_law_840 ?_
      refine W.eq (g2 := F0 m 841 ls [.int 5, .ref b, .int 0, .int (xs 3), .int (xs 2), .int (xs 1), .ref h0]) rfl ?_
      refine va_sld hx hb hX hbl hbA hS (by unfold vp_in; decide) dL_law_841 ?_
      refine W.eq (g2 := F0 m 842 ls [.int (xs 5), .int 0, .int (xs 3), .int (xs 2), .int (xs 1), .ref h0]) rfl ?_
      refine lv_aload_n hx hb dL_law_842 rfl (lv_at hl 6 rfl) ?_
      refine lv_iload hx hb dL_law_843 (lv_at hl 1 rfl) ?_
      refine lv_bipush (v := 6) hx hb dL_law_845 (by decide) ?_
      refine lv_iadd hx hb dL_law_847 ?_
      refine W.eq (g2 := F0 m 848 ls [.int 6, .ref b, .int (xs 5), .int 0, .int (xs 3), .int (xs 2), .int (xs 1), .ref h0]) rfl ?_
      refine va_sld hx hb hX hbl hbA hS (by unfold vp_in; decide) dL_law_848 ?_
      refine W.eq (g2 := F0 m 849 ls [.int (xs 6), .int (xs 5), .int 0, .int (xs 3), .int (xs 2), .int (xs 1), .ref h0]) rfl ?_
      refine l_km hPb hDb hS hA hPo ho (va_runV (As := [.int (xs 1), .int (xs 2), .int (xs 3), .int 0, .int (xs 5), .int (xs 6)]) (rest := []) ⟨hx, hb, hml, hown, hts⟩ (qm_tap l D [(cI, .int), (cO, .array .int), (cZ, .boolean)] (tmW h0 u r0 r1 r2 cI cO cZ) H.size h0 _ (xs 1) (xs 2) (xs 3) 0 (xs 5) (xs 6) rfl rfl (Nat.zero_lt_succ _)) (cwV 6 hts gl_X9_tap rfl rfl rfl (by decide +kernel) ⟨Nat.le_of_ble_eq_true rfl, Nat.le_of_ble_eq_true rfl⟩) (g_preV hKM hPb hDb (ci := 9) (q0 := 0) rfl rfl) rfl rfl hl.1 rfl (lv_room (Nat.le_of_ble_eq_true rfl)) dL_law_849 ⟨Nat.le_of_ble_eq_true rfl, Nat.le_of_ble_eq_true rfl⟩) (fun r v t H locs hv hm hPm hDm hPo hS => ?_)
      refine lv_istore (lv' := [(7, .int r), (6, .int k), (5, .int 0), (4, .ref od), (3, .ref o), (2, .ref h0), (1, .ref (ad 0)), (0, .ref b)]) hx hb dL_law_852 hl (by decide) rfl (fun ls hl => ?_)
      refine lv_aload_n hx hb dL_law_854 rfl (lv_at hl 5 rfl) ?_
      refine l_kt hDm hS hA hPo (ne1 hne) (va_runV (As := []) (rest := []) ⟨hx, hb, hml, hown, hts⟩ (q_thrown l D [(cI, .int), (cO, .array .int), (cZ, .boolean)] H.size h0 v t hv) (cwV 0 hts gl_X9_thrown rfl rfl rfl (by decide +kernel) ⟨Nat.le_of_ble_eq_true rfl, Nat.le_of_ble_eq_true rfl⟩) (g_preV hKM hPm hDm (ci := 9) (q0 := 0) rfl rfl) rfl rfl hl.1 rfl (lv_room (Nat.le_of_ble_eq_true rfl)) dL_law_855 ⟨Nat.le_of_ble_eq_true rfl, Nat.le_of_ble_eq_true rfl⟩) (fun H locs hPo hS => ?_)
      have ag := ag_tap (x0 := xs 1) (x1 := xs 2) (x2 := xs 3) (x3 := 1) (x4 := xs 5) (x5 := xs 6) (y := f 0) hw hm
      refine lv_iload hx hb dL_law_858 (lv_at hl 1 rfl) ?_
      refine lv_icmp_eq (tgt := 865) hx hb dL_law_860 (by decide) (fun c_393 => ?_) (fun c_393 => ?_)
      · refine lv_iload hx hb dL_law_865 (lv_at hl 1 rfl) ?_
        refine lv_if_ne (tgt := 882) hx hb dL_law_867 (by decide) (fun c_394 => ?_) (fun c_394 => ?_)
        · refine lv_goto (tgt := 2118) hx hb dL_law_882 (by decide) ?_
          exact law_tail C0 hS (lv_sub hl [2, 7] rfl)
        · exact absurd ((show k = 1 from hw).symm.trans c_394) (by decide)
      · exact absurd ag.1 c_393
    · refine lv_iconst (v := 1) hx hb dL_law_831 (by decide) ?_
      refine lv_goto (tgt := 836) hx hb dL_law_832 (by decide) ?_
      refine lv_aload_n hx hb dL_law_836 rfl (lv_at hl 6 rfl) ?_
      refine lv_iload hx hb dL_law_837 (lv_at hl 1 rfl) ?_
      refine lv_iconst (v := 5) hx hb dL_law_839 (by decide) ?_
      refine lv_iadd hx hb dL_law_840 ?_
      refine W.eq (g2 := F0 m 841 ls [.int 5, .ref b, .int 1, .int (xs 3), .int (xs 2), .int (xs 1), .ref h0]) rfl ?_
      refine va_sld hx hb hX hbl hbA hS (by unfold vp_in; decide) dL_law_841 ?_
      refine W.eq (g2 := F0 m 842 ls [.int (xs 5), .int 1, .int (xs 3), .int (xs 2), .int (xs 1), .ref h0]) rfl ?_
      refine lv_aload_n hx hb dL_law_842 rfl (lv_at hl 6 rfl) ?_
      refine lv_iload hx hb dL_law_843 (lv_at hl 1 rfl) ?_
      refine lv_bipush (v := 6) hx hb dL_law_845 (by decide) ?_
      refine lv_iadd hx hb dL_law_847 ?_
      refine W.eq (g2 := F0 m 848 ls [.int 6, .ref b, .int (xs 5), .int 1, .int (xs 3), .int (xs 2), .int (xs 1), .ref h0]) rfl ?_
      refine va_sld hx hb hX hbl hbA hS (by unfold vp_in; decide) dL_law_848 ?_
      refine W.eq (g2 := F0 m 849 ls [.int (xs 6), .int (xs 5), .int 1, .int (xs 3), .int (xs 2), .int (xs 1), .ref h0]) rfl ?_
      refine l_km hPb hDb hS hA hPo ho (va_runV (As := [.int (xs 1), .int (xs 2), .int (xs 3), .int 1, .int (xs 5), .int (xs 6)]) (rest := []) ⟨hx, hb, hml, hown, hts⟩ (qm_tap l D [(cI, .int), (cO, .array .int), (cZ, .boolean)] (tmW h0 u r0 r1 r2 cI cO cZ) H.size h0 _ (xs 1) (xs 2) (xs 3) 1 (xs 5) (xs 6) rfl rfl (Nat.zero_lt_succ _)) (cwV 6 hts gl_X9_tap rfl rfl rfl (by decide +kernel) ⟨Nat.le_of_ble_eq_true rfl, Nat.le_of_ble_eq_true rfl⟩) (g_preV hKM hPb hDb (ci := 9) (q0 := 0) rfl rfl) rfl rfl hl.1 rfl (lv_room (Nat.le_of_ble_eq_true rfl)) dL_law_849 ⟨Nat.le_of_ble_eq_true rfl, Nat.le_of_ble_eq_true rfl⟩) (fun r v t H locs hv hm hPm hDm hPo hS => ?_)
      refine lv_istore (lv' := [(7, .int r), (6, .int k), (5, .int 0), (4, .ref od), (3, .ref o), (2, .ref h0), (1, .ref (ad 0)), (0, .ref b)]) hx hb dL_law_852 hl (by decide) rfl (fun ls hl => ?_)
      refine lv_aload_n hx hb dL_law_854 rfl (lv_at hl 5 rfl) ?_
      refine l_kt hDm hS hA hPo (ne1 hne) (va_runV (As := []) (rest := []) ⟨hx, hb, hml, hown, hts⟩ (q_thrown l D [(cI, .int), (cO, .array .int), (cZ, .boolean)] H.size h0 v t hv) (cwV 0 hts gl_X9_thrown rfl rfl rfl (by decide +kernel) ⟨Nat.le_of_ble_eq_true rfl, Nat.le_of_ble_eq_true rfl⟩) (g_preV hKM hPm hDm (ci := 9) (q0 := 0) rfl rfl) rfl rfl hl.1 rfl (lv_room (Nat.le_of_ble_eq_true rfl)) dL_law_855 ⟨Nat.le_of_ble_eq_true rfl, Nat.le_of_ble_eq_true rfl⟩) (fun H locs hPo hS => ?_)
      have ag := ag_tap (x0 := xs 1) (x1 := xs 2) (x2 := xs 3) (x3 := 1) (x4 := xs 5) (x5 := xs 6) (y := f 0) hw hm
      refine lv_iload hx hb dL_law_858 (lv_at hl 1 rfl) ?_
      refine lv_icmp_eq (tgt := 865) hx hb dL_law_860 (by decide) (fun c_395 => ?_) (fun c_395 => ?_)
      · refine lv_iload hx hb dL_law_865 (lv_at hl 1 rfl) ?_
        refine lv_if_ne (tgt := 882) hx hb dL_law_867 (by decide) (fun c_396 => ?_) (fun c_396 => ?_)
        · refine lv_goto (tgt := 2118) hx hb dL_law_882 (by decide) ?_
          exact law_tail C0 hS (lv_sub hl [2, 7] rfl)
        · exact absurd ((show k = 1 from hw).symm.trans c_396) (by decide)
      · exact absurd ag.1 c_395
set_option maxHeartbeats 4000000 in
set_option maxRecDepth 100000 in
theorem law_close {p : Program} {l : Launch} {e : Env} {s : State} {m : MethodId} {below : List Frame} {meth : Method} {c : Code} (hfl : l.stackTraces = false) {D : va_G} {ad : Nat → Nat} {cI cJ cO cZ : ClassId} {b h0 o : Nat} {xs : Nat → Int32} {u r0 r1 r2 : Nat → Nat} {sa : Nat → Nat} (C0 : lw_At p s m meth c b 7 xs) (hN : ex_n s) (hE : ex_w sa s) (hZ : ex_z (fun q : Nat => s.heap.size ≤ q) s s.heap) (hKW : va_K D vwCl [(cI, .int), (cJ, .long)] s) (hKM : va_K D vwCl [(cI, .int), (cO, .array .int), (cZ, .boolean)] s) {H : Heap} {locs : List Loc} (hP : va_P D vwCl (wrW ad cI cJ o ++ tmW h0 u r0 r1 r2 cI cO cZ) H) (hD : va_D (fun q : Nat => s.heap.size ≤ q) (wrW ad cI cJ o ++ tmW h0 u r0 r1 r2 cI cO cZ)) (hS : va_S (fun q : Nat => s.heap.size ≤ q) s.heap H locs) {od : Nat} {ls : Array Slot} (hl : lv_has ls 9 [(5, .int 0), (4, .ref od), (3, .ref o), (2, .ref h0), (1, .ref (ad 0)), (0, .ref b)]) : W p l e room_1 s m #[Value.ref b] below meth c H locs 400 10000 (lw_Z below #[Value.ref b] s) (F0 m 885 ls []) := by
  obtain ⟨hx, hb, hr, hml, hown, hts, hX, hbl, hlocks, hgv⟩ := id C0
  have hA : ∀ q : Nat, s.heap.size ≤ q → (fun q : Nat => s.heap.size ≤ q) q := fun _ h => h
  have hbA : ¬ (fun q : Nat => s.heap.size ≤ q) b := Nat.not_le.mpr hbl
  have ho : ∀ (k : Nat) (q : Nat × va_E), (tmW h0 u r0 r1 r2 cI cO cZ)[k]? = some q → q.1 ≠ o := ne_of hD 98 rfl
  have hne : h0 ≠ o := ho 0 (h0, _) rfl
  refine lv_aload_n hx hb dL_law_885 rfl (lv_at hl 4 rfl) ?_
  refine lv_aload_n hx hb dL_law_886 rfl (lv_at hl 2 rfl) ?_
  refine l_kw hP hD hS hA (vx_runSX (hh := [(0, 8, 11, 24)]) (As := [.ref (ad 0), .ref o]) (rest := []) ⟨hx, hb, hml, hown, hts⟩ (w_close l hfl D ad cI cJ H.size o  sa) (vx_cwSW 2 hts gl_L_close rfl rfl rfl (by decide +kernel) ⟨Nat.le_of_ble_eq_true rfl, Nat.le_of_ble_eq_true rfl⟩) (w_preS hN hE hZ hKW (pre_P hP) (pre_D hD) hS hA) rfl rfl hl.1 rfl (lv_room (Nat.le_of_ble_eq_true rfl)) dL_law_887 ⟨Nat.le_of_ble_eq_true rfl, Nat.le_of_ble_eq_true rfl⟩) (fun k f H locs hw hPo hPb hDb hS => ?_)
  refine lv_istore (lv' := [(6, .int k), (5, .int 0), (4, .ref od), (3, .ref o), (2, .ref h0), (1, .ref (ad 0)), (0, .ref b)]) hx hb dL_law_890 hl (by decide) rfl (fun ls hl => ?_)
  refine lv_aload_n hx hb dL_law_892 rfl (lv_at hl 4 rfl) ?_
  refine l_km hPb hDb hS hA hPo ho (va_runV (As := []) (rest := []) ⟨hx, hb, hml, hown, hts⟩ (qm_close l D H.size h0 u r0 r1 r2 cI cO cZ (tmP r0 r1 r2 cI) ) (cwV 0 hts gl_X9_close rfl rfl rfl (by decide +kernel) ⟨Nat.le_of_ble_eq_true rfl, Nat.le_of_ble_eq_true rfl⟩) (g_preV hKM hPb hDb (ci := 9) (q0 := 0) rfl rfl) rfl rfl hl.1 rfl (lv_room (Nat.le_of_ble_eq_true rfl)) dL_law_893 ⟨Nat.le_of_ble_eq_true rfl, Nat.le_of_ble_eq_true rfl⟩) (fun r v t H locs hv hm hPm hDm hPo hS => ?_)
  refine lv_istore (lv' := [(7, .int r), (6, .int k), (5, .int 0), (4, .ref od), (3, .ref o), (2, .ref h0), (1, .ref (ad 0)), (0, .ref b)]) hx hb dL_law_896 hl (by decide) rfl (fun ls hl => ?_)
  refine lv_aload_n hx hb dL_law_898 rfl (lv_at hl 5 rfl) ?_
  refine l_kt hDm hS hA hPo (ne1 hne) (va_runV (As := []) (rest := []) ⟨hx, hb, hml, hown, hts⟩ (q_thrown l D [(cI, .int), (cO, .array .int), (cZ, .boolean)] H.size h0 v t hv) (cwV 0 hts gl_X9_thrown rfl rfl rfl (by decide +kernel) ⟨Nat.le_of_ble_eq_true rfl, Nat.le_of_ble_eq_true rfl⟩) (g_preV hKM hPm hDm (ci := 9) (q0 := 0) rfl rfl) rfl rfl hl.1 rfl (lv_room (Nat.le_of_ble_eq_true rfl)) dL_law_899 ⟨Nat.le_of_ble_eq_true rfl, Nat.le_of_ble_eq_true rfl⟩) (fun H locs hPo hS => ?_)
  have ag := ag_close (y := f 0) hw hm
  refine lv_iload hx hb dL_law_902 (lv_at hl 1 rfl) ?_
  refine lv_icmp_eq (tgt := 909) hx hb dL_law_904 (by decide) (fun c_397 => ?_) (fun c_397 => ?_)
  · refine lv_iload hx hb dL_law_909 (lv_at hl 1 rfl) ?_
    refine lv_if_ne (tgt := 926) hx hb dL_law_911 (by decide) (fun c_398 => ?_) (fun c_398 => ?_)
    · refine lv_goto (tgt := 2118) hx hb dL_law_926 (by decide) ?_
      exact law_tail C0 hS (lv_sub hl [2, 7] rfl)
    · have agv := ag.2 c_398
      refine lv_aload_n hx hb dL_law_914 rfl (lv_at hl 4 rfl) ?_
      refine lv_iconst (v := 0) hx hb dL_law_915 (by decide) ?_
      refine va_lald (tys := [(cI, .int), (cJ, .long)]) hx hb hKW hPo 0 1 rfl rfl (by unfold vp_in; decide) dL_law_916 ?_
      refine W.eq (g2 := F0 m 917 ls [.long (f 0)]) rfl ?_
      refine lv_iload hx hb dL_law_917 (lv_at hl 0 rfl) ?_
      refine lv_i2l (v := r.toInt64) hx hb dL_law_919 rfl ?_
      refine W.lcmp hx hb dL_law_920 ?_
      refine lv_if_eq (tgt := 926) hx hb dL_law_921 (by decide) (fun c_399 => ?_) (fun c_399 => ?_)
      · refine lv_goto (tgt := 2118) hx hb dL_law_926 (by decide) ?_
        exact law_tail C0 hS (lv_sub hl [2, 7] rfl)
      · exact absurd (by rw [agv]; exact lg_cmp_self _) c_399
  · exact absurd ag.1 c_397
set_option maxHeartbeats 4000000 in
set_option maxRecDepth 100000 in
theorem law_settle {p : Program} {l : Launch} {e : Env} {s : State} {m : MethodId} {below : List Frame} {meth : Method} {c : Code} (hfl : l.stackTraces = false) {D : va_G} {ad : Nat → Nat} {cI cJ cO cZ : ClassId} {b h0 o : Nat} {xs : Nat → Int32} {u r0 r1 r2 : Nat → Nat} {sa : Nat → Nat} (C0 : lw_At p s m meth c b 7 xs) (hN : ex_n s) (hE : ex_w sa s) (hZ : ex_z (fun q : Nat => s.heap.size ≤ q) s s.heap) (hKW : va_K D vwCl [(cI, .int), (cJ, .long)] s) (hKM : va_K D vwCl [(cI, .int), (cO, .array .int), (cZ, .boolean)] s) {H : Heap} {locs : List Loc} (hP : va_P D vwCl (wrW ad cI cJ o ++ tmW h0 u r0 r1 r2 cI cO cZ) H) (hD : va_D (fun q : Nat => s.heap.size ≤ q) (wrW ad cI cJ o ++ tmW h0 u r0 r1 r2 cI cO cZ)) (hS : va_S (fun q : Nat => s.heap.size ≤ q) s.heap H locs) {od : Nat} {ls : Array Slot} (hl : lv_has ls 9 [(5, .int 0), (4, .ref od), (3, .ref o), (2, .ref h0), (1, .ref (ad 0)), (0, .ref b)]) : W p l e room_1 s m #[Value.ref b] below meth c H locs 400 10000 (lw_Z below #[Value.ref b] s) (F0 m 929 ls []) := by
  obtain ⟨hx, hb, hr, hml, hown, hts, hX, hbl, hlocks, hgv⟩ := id C0
  have hA : ∀ q : Nat, s.heap.size ≤ q → (fun q : Nat => s.heap.size ≤ q) q := fun _ h => h
  have hbA : ¬ (fun q : Nat => s.heap.size ≤ q) b := Nat.not_le.mpr hbl
  have ho : ∀ (k : Nat) (q : Nat × va_E), (tmW h0 u r0 r1 r2 cI cO cZ)[k]? = some q → q.1 ≠ o := ne_of hD 98 rfl
  have hne : h0 ≠ o := ho 0 (h0, _) rfl
  refine lv_aload_n hx hb dL_law_929 rfl (lv_at hl 4 rfl) ?_
  refine lv_aload_n hx hb dL_law_930 rfl (lv_at hl 5 rfl) ?_
  refine lv_iload hx hb dL_law_931 (lv_at hl 0 rfl) ?_
  refine lv_iconst (v := 1) hx hb dL_law_933 (by decide) ?_
  refine lv_iadd hx hb dL_law_934 ?_
  refine W.eq (g2 := F0 m 935 ls [.int 1, .ref b, .ref (ad 0)]) rfl ?_
  refine va_sld hx hb hX hbl hbA hS (by unfold vp_in; decide) dL_law_935 ?_
  refine W.eq (g2 := F0 m 936 ls [.int (xs 1), .ref (ad 0)]) rfl ?_
  refine lv_aload_n hx hb dL_law_936 rfl (lv_at hl 5 rfl) ?_
  refine lv_iload hx hb dL_law_937 (lv_at hl 0 rfl) ?_
  refine lv_iconst (v := 2) hx hb dL_law_939 (by decide) ?_
  refine lv_iadd hx hb dL_law_940 ?_
  refine W.eq (g2 := F0 m 941 ls [.int 2, .ref b, .int (xs 1), .ref (ad 0)]) rfl ?_
  refine va_sld hx hb hX hbl hbA hS (by unfold vp_in; decide) dL_law_941 ?_
  refine W.eq (g2 := F0 m 942 ls [.int (xs 2), .int (xs 1), .ref (ad 0)]) rfl ?_
  refine lv_aload_n hx hb dL_law_942 rfl (lv_at hl 2 rfl) ?_
  refine l_kw hP hD hS hA (vx_runSX (hh := [(0, 10, 13, 13), (0, 10, 17, 24)]) (As := [.ref (ad 0), .int (xs 1), .int (xs 2), .ref o]) (rest := []) ⟨hx, hb, hml, hown, hts⟩ (w_settle l hfl D ad cI cJ H.size o (xs 1) (xs 2) sa) (vx_cwSW 4 hts gl_L_settle rfl rfl rfl (by decide +kernel) ⟨Nat.le_of_ble_eq_true rfl, Nat.le_of_ble_eq_true rfl⟩) (w_preS hN hE hZ hKW (pre_P hP) (pre_D hD) hS hA) rfl rfl hl.1 rfl (lv_room (Nat.le_of_ble_eq_true rfl)) dL_law_943 ⟨Nat.le_of_ble_eq_true rfl, Nat.le_of_ble_eq_true rfl⟩) (fun k f H locs hw hPo hPb hDb hS => ?_)
  refine lv_istore (lv' := [(6, .int k), (5, .int 0), (4, .ref od), (3, .ref o), (2, .ref h0), (1, .ref (ad 0)), (0, .ref b)]) hx hb dL_law_946 hl (by decide) rfl (fun ls hl => ?_)
  refine lv_aload_n hx hb dL_law_948 rfl (lv_at hl 4 rfl) ?_
  refine lv_aload_n hx hb dL_law_949 rfl (lv_at hl 6 rfl) ?_
  refine lv_iload hx hb dL_law_950 (lv_at hl 1 rfl) ?_
  refine lv_iconst (v := 1) hx hb dL_law_952 (by decide) ?_
  refine lv_iadd hx hb dL_law_953 ?_
  refine W.eq (g2 := F0 m 954 ls [.int 1, .ref b, .ref h0]) rfl ?_
  refine va_sld hx hb hX hbl hbA hS (by unfold vp_in; decide) dL_law_954 ?_
  refine W.eq (g2 := F0 m 955 ls [.int (xs 1), .ref h0]) rfl ?_
  refine lv_aload_n hx hb dL_law_955 rfl (lv_at hl 6 rfl) ?_
  refine lv_iload hx hb dL_law_956 (lv_at hl 1 rfl) ?_
  refine lv_iconst (v := 2) hx hb dL_law_958 (by decide) ?_
  refine lv_iadd hx hb dL_law_959 ?_
  refine W.eq (g2 := F0 m 960 ls [.int 2, .ref b, .int (xs 1), .ref h0]) rfl ?_
  refine va_sld hx hb hX hbl hbA hS (by unfold vp_in; decide) dL_law_960 ?_
  refine W.eq (g2 := F0 m 961 ls [.int (xs 2), .int (xs 1), .ref h0]) rfl ?_
  refine l_km hPb hDb hS hA hPo ho (va_runV (As := [.int (xs 1), .int (xs 2)]) (rest := []) ⟨hx, hb, hml, hown, hts⟩ (qm_settle l D [(cI, .int), (cO, .array .int), (cZ, .boolean)] (tmW h0 u r0 r1 r2 cI cO cZ) H.size h0 _ (xs 1) (xs 2) rfl rfl (Nat.zero_lt_succ _)) (cwV 2 hts gl_X9_settle rfl rfl rfl (by decide +kernel) ⟨Nat.le_of_ble_eq_true rfl, Nat.le_of_ble_eq_true rfl⟩) (g_preV hKM hPb hDb (ci := 9) (q0 := 0) rfl rfl) rfl rfl hl.1 rfl (lv_room (Nat.le_of_ble_eq_true rfl)) dL_law_961 ⟨Nat.le_of_ble_eq_true rfl, Nat.le_of_ble_eq_true rfl⟩) (fun r v t H locs hv hm hPm hDm hPo hS => ?_)
  refine lv_istore (lv' := [(7, .int r), (6, .int k), (5, .int 0), (4, .ref od), (3, .ref o), (2, .ref h0), (1, .ref (ad 0)), (0, .ref b)]) hx hb dL_law_964 hl (by decide) rfl (fun ls hl => ?_)
  refine lv_aload_n hx hb dL_law_966 rfl (lv_at hl 5 rfl) ?_
  refine l_kt hDm hS hA hPo (ne1 hne) (va_runV (As := []) (rest := []) ⟨hx, hb, hml, hown, hts⟩ (q_thrown l D [(cI, .int), (cO, .array .int), (cZ, .boolean)] H.size h0 v t hv) (cwV 0 hts gl_X9_thrown rfl rfl rfl (by decide +kernel) ⟨Nat.le_of_ble_eq_true rfl, Nat.le_of_ble_eq_true rfl⟩) (g_preV hKM hPm hDm (ci := 9) (q0 := 0) rfl rfl) rfl rfl hl.1 rfl (lv_room (Nat.le_of_ble_eq_true rfl)) dL_law_967 ⟨Nat.le_of_ble_eq_true rfl, Nat.le_of_ble_eq_true rfl⟩) (fun H locs hPo hS => ?_)
  have ag := ag_settle (x0 := xs 1) (x1 := xs 2) (y := f 0) hw hm
  refine lv_iload hx hb dL_law_970 (lv_at hl 1 rfl) ?_
  refine lv_icmp_eq (tgt := 977) hx hb dL_law_972 (by decide) (fun c_400 => ?_) (fun c_400 => ?_)
  · refine lv_iload hx hb dL_law_977 (lv_at hl 1 rfl) ?_
    refine lv_if_ne (tgt := 994) hx hb dL_law_979 (by decide) (fun c_401 => ?_) (fun c_401 => ?_)
    · refine lv_goto (tgt := 2118) hx hb dL_law_994 (by decide) ?_
      exact law_tail C0 hS (lv_sub hl [2, 7] rfl)
    · exact absurd ((show k = 1 from hw).symm.trans c_401) (by decide)
  · exact absurd ag.1 c_400
set_option maxHeartbeats 4000000 in
set_option maxRecDepth 100000 in
theorem law_refund {p : Program} {l : Launch} {e : Env} {s : State} {m : MethodId} {below : List Frame} {meth : Method} {c : Code} (hfl : l.stackTraces = false) {D : va_G} {ad : Nat → Nat} {cI cJ cO cZ : ClassId} {b h0 o : Nat} {xs : Nat → Int32} {u r0 r1 r2 : Nat → Nat} {sa : Nat → Nat} (C0 : lw_At p s m meth c b 7 xs) (hN : ex_n s) (hE : ex_w sa s) (hZ : ex_z (fun q : Nat => s.heap.size ≤ q) s s.heap) (hKW : va_K D vwCl [(cI, .int), (cJ, .long)] s) (hKM : va_K D vwCl [(cI, .int), (cO, .array .int), (cZ, .boolean)] s) {H : Heap} {locs : List Loc} (hP : va_P D vwCl (wrW ad cI cJ o ++ tmW h0 u r0 r1 r2 cI cO cZ) H) (hD : va_D (fun q : Nat => s.heap.size ≤ q) (wrW ad cI cJ o ++ tmW h0 u r0 r1 r2 cI cO cZ)) (hS : va_S (fun q : Nat => s.heap.size ≤ q) s.heap H locs) {od : Nat} {ls : Array Slot} (hl : lv_has ls 9 [(5, .int 0), (4, .ref od), (3, .ref o), (2, .ref h0), (1, .ref (ad 0)), (0, .ref b)]) : W p l e room_1 s m #[Value.ref b] below meth c H locs 400 10000 (lw_Z below #[Value.ref b] s) (F0 m 997 ls []) := by
  obtain ⟨hx, hb, hr, hml, hown, hts, hX, hbl, hlocks, hgv⟩ := id C0
  have hA : ∀ q : Nat, s.heap.size ≤ q → (fun q : Nat => s.heap.size ≤ q) q := fun _ h => h
  have hbA : ¬ (fun q : Nat => s.heap.size ≤ q) b := Nat.not_le.mpr hbl
  have ho : ∀ (k : Nat) (q : Nat × va_E), (tmW h0 u r0 r1 r2 cI cO cZ)[k]? = some q → q.1 ≠ o := ne_of hD 98 rfl
  have hne : h0 ≠ o := ho 0 (h0, _) rfl
  refine lv_aload_n hx hb dL_law_997 rfl (lv_at hl 4 rfl) ?_
  refine lv_aload_n hx hb dL_law_998 rfl (lv_at hl 5 rfl) ?_
  refine lv_iload hx hb dL_law_999 (lv_at hl 0 rfl) ?_
  refine lv_iconst (v := 1) hx hb dL_law_1001 (by decide) ?_
  refine lv_iadd hx hb dL_law_1002 ?_
  refine W.eq (g2 := F0 m 1003 ls [.int 1, .ref b, .ref (ad 0)]) rfl ?_
  refine va_sld hx hb hX hbl hbA hS (by unfold vp_in; decide) dL_law_1003 ?_
  refine W.eq (g2 := F0 m 1004 ls [.int (xs 1), .ref (ad 0)]) rfl ?_
  refine lv_aload_n hx hb dL_law_1004 rfl (lv_at hl 5 rfl) ?_
  refine lv_iload hx hb dL_law_1005 (lv_at hl 0 rfl) ?_
  refine lv_iconst (v := 2) hx hb dL_law_1007 (by decide) ?_
  refine lv_iadd hx hb dL_law_1008 ?_
  refine W.eq (g2 := F0 m 1009 ls [.int 2, .ref b, .int (xs 1), .ref (ad 0)]) rfl ?_
  refine va_sld hx hb hX hbl hbA hS (by unfold vp_in; decide) dL_law_1009 ?_
  refine W.eq (g2 := F0 m 1010 ls [.int (xs 2), .int (xs 1), .ref (ad 0)]) rfl ?_
  refine lv_aload_n hx hb dL_law_1010 rfl (lv_at hl 5 rfl) ?_
  refine lv_iload hx hb dL_law_1011 (lv_at hl 0 rfl) ?_
  refine lv_iconst (v := 3) hx hb dL_law_1013 (by decide) ?_
  refine lv_iadd hx hb dL_law_1014 ?_
  refine W.eq (g2 := F0 m 1015 ls [.int 3, .ref b, .int (xs 2), .int (xs 1), .ref (ad 0)]) rfl ?_
  refine va_sld hx hb hX hbl hbA hS (by unfold vp_in; decide) dL_law_1015 ?_
  refine W.eq (g2 := F0 m 1016 ls [.int (xs 3), .int (xs 2), .int (xs 1), .ref (ad 0)]) rfl ?_
  refine lv_aload_n hx hb dL_law_1016 rfl (lv_at hl 2 rfl) ?_
  refine l_kw hP hD hS hA (vx_runSX (hh := [(0, 12, 15, 13), (0, 12, 19, 24)]) (As := [.ref (ad 0), .int (xs 1), .int (xs 2), .int (xs 3), .ref o]) (rest := []) ⟨hx, hb, hml, hown, hts⟩ (w_refund l hfl D ad cI cJ H.size o (xs 1) (xs 2) (xs 3) sa) (vx_cwSW 5 hts gl_L_refund rfl rfl rfl (by decide +kernel) ⟨Nat.le_of_ble_eq_true rfl, Nat.le_of_ble_eq_true rfl⟩) (w_preS hN hE hZ hKW (pre_P hP) (pre_D hD) hS hA) rfl rfl hl.1 rfl (lv_room (Nat.le_of_ble_eq_true rfl)) dL_law_1017 ⟨Nat.le_of_ble_eq_true rfl, Nat.le_of_ble_eq_true rfl⟩) (fun k f H locs hw hPo hPb hDb hS => ?_)
  refine lv_istore (lv' := [(6, .int k), (5, .int 0), (4, .ref od), (3, .ref o), (2, .ref h0), (1, .ref (ad 0)), (0, .ref b)]) hx hb dL_law_1020 hl (by decide) rfl (fun ls hl => ?_)
  refine lv_aload_n hx hb dL_law_1022 rfl (lv_at hl 4 rfl) ?_
  refine lv_aload_n hx hb dL_law_1023 rfl (lv_at hl 6 rfl) ?_
  refine lv_iload hx hb dL_law_1024 (lv_at hl 1 rfl) ?_
  refine lv_iconst (v := 1) hx hb dL_law_1026 (by decide) ?_
  refine lv_iadd hx hb dL_law_1027 ?_
  refine W.eq (g2 := F0 m 1028 ls [.int 1, .ref b, .ref h0]) rfl ?_
  refine va_sld hx hb hX hbl hbA hS (by unfold vp_in; decide) dL_law_1028 ?_
  refine W.eq (g2 := F0 m 1029 ls [.int (xs 1), .ref h0]) rfl ?_
  refine lv_aload_n hx hb dL_law_1029 rfl (lv_at hl 6 rfl) ?_
  refine lv_iload hx hb dL_law_1030 (lv_at hl 1 rfl) ?_
  refine lv_iconst (v := 2) hx hb dL_law_1032 (by decide) ?_
  refine lv_iadd hx hb dL_law_1033 ?_
  refine W.eq (g2 := F0 m 1034 ls [.int 2, .ref b, .int (xs 1), .ref h0]) rfl ?_
  refine va_sld hx hb hX hbl hbA hS (by unfold vp_in; decide) dL_law_1034 ?_
  refine W.eq (g2 := F0 m 1035 ls [.int (xs 2), .int (xs 1), .ref h0]) rfl ?_
  refine lv_aload_n hx hb dL_law_1035 rfl (lv_at hl 6 rfl) ?_
  refine lv_iload hx hb dL_law_1036 (lv_at hl 1 rfl) ?_
  refine lv_iconst (v := 3) hx hb dL_law_1038 (by decide) ?_
  refine lv_iadd hx hb dL_law_1039 ?_
  refine W.eq (g2 := F0 m 1040 ls [.int 3, .ref b, .int (xs 2), .int (xs 1), .ref h0]) rfl ?_
  refine va_sld hx hb hX hbl hbA hS (by unfold vp_in; decide) dL_law_1040 ?_
  refine W.eq (g2 := F0 m 1041 ls [.int (xs 3), .int (xs 2), .int (xs 1), .ref h0]) rfl ?_
  refine l_km hPb hDb hS hA hPo ho (va_runV (As := [.int (xs 1), .int (xs 2), .int (xs 3)]) (rest := []) ⟨hx, hb, hml, hown, hts⟩ (qm_refund l D [(cI, .int), (cO, .array .int), (cZ, .boolean)] (tmW h0 u r0 r1 r2 cI cO cZ) H.size h0 _ (xs 1) (xs 2) (xs 3) rfl rfl (Nat.zero_lt_succ _)) (cwV 3 hts gl_X9_refund rfl rfl rfl (by decide +kernel) ⟨Nat.le_of_ble_eq_true rfl, Nat.le_of_ble_eq_true rfl⟩) (g_preV hKM hPb hDb (ci := 9) (q0 := 0) rfl rfl) rfl rfl hl.1 rfl (lv_room (Nat.le_of_ble_eq_true rfl)) dL_law_1041 ⟨Nat.le_of_ble_eq_true rfl, Nat.le_of_ble_eq_true rfl⟩) (fun r v t H locs hv hm hPm hDm hPo hS => ?_)
  refine lv_istore (lv' := [(7, .int r), (6, .int k), (5, .int 0), (4, .ref od), (3, .ref o), (2, .ref h0), (1, .ref (ad 0)), (0, .ref b)]) hx hb dL_law_1044 hl (by decide) rfl (fun ls hl => ?_)
  refine lv_aload_n hx hb dL_law_1046 rfl (lv_at hl 5 rfl) ?_
  refine l_kt hDm hS hA hPo (ne1 hne) (va_runV (As := []) (rest := []) ⟨hx, hb, hml, hown, hts⟩ (q_thrown l D [(cI, .int), (cO, .array .int), (cZ, .boolean)] H.size h0 v t hv) (cwV 0 hts gl_X9_thrown rfl rfl rfl (by decide +kernel) ⟨Nat.le_of_ble_eq_true rfl, Nat.le_of_ble_eq_true rfl⟩) (g_preV hKM hPm hDm (ci := 9) (q0 := 0) rfl rfl) rfl rfl hl.1 rfl (lv_room (Nat.le_of_ble_eq_true rfl)) dL_law_1047 ⟨Nat.le_of_ble_eq_true rfl, Nat.le_of_ble_eq_true rfl⟩) (fun H locs hPo hS => ?_)
  have ag := ag_refund (x0 := xs 1) (x1 := xs 2) (x2 := xs 3) (y := f 0) hw hm
  refine lv_iload hx hb dL_law_1050 (lv_at hl 1 rfl) ?_
  refine lv_icmp_eq (tgt := 1057) hx hb dL_law_1052 (by decide) (fun c_402 => ?_) (fun c_402 => ?_)
  · refine lv_iload hx hb dL_law_1057 (lv_at hl 1 rfl) ?_
    refine lv_if_ne (tgt := 1074) hx hb dL_law_1059 (by decide) (fun c_403 => ?_) (fun c_403 => ?_)
    · refine lv_goto (tgt := 2118) hx hb dL_law_1074 (by decide) ?_
      exact law_tail C0 hS (lv_sub hl [2, 7] rfl)
    · exact absurd ((show k = 1 from hw).symm.trans c_403) (by decide)
  · exact absurd ag.1 c_402
set_option maxHeartbeats 4000000 in
set_option maxRecDepth 100000 in
theorem law_ofCard {p : Program} {l : Launch} {e : Env} {s : State} {m : MethodId} {below : List Frame} {meth : Method} {c : Code} (hfl : l.stackTraces = false) {D : va_G} {ad : Nat → Nat} {cI cJ cO cZ : ClassId} {b h0 o : Nat} {xs : Nat → Int32} {u r0 r1 r2 : Nat → Nat} {sa : Nat → Nat} (C0 : lw_At p s m meth c b 7 xs) (hN : ex_n s) (hE : ex_w sa s) (hZ : ex_z (fun q : Nat => s.heap.size ≤ q) s s.heap) (hKW : va_K D vwCl [(cI, .int), (cJ, .long)] s) (hKM : va_K D vwCl [(cI, .int), (cO, .array .int), (cZ, .boolean)] s) {H : Heap} {locs : List Loc} (hP : va_P D vwCl (wrW ad cI cJ o ++ tmW h0 u r0 r1 r2 cI cO cZ) H) (hD : va_D (fun q : Nat => s.heap.size ≤ q) (wrW ad cI cJ o ++ tmW h0 u r0 r1 r2 cI cO cZ)) (hS : va_S (fun q : Nat => s.heap.size ≤ q) s.heap H locs) {od : Nat} {ls : Array Slot} (hl : lv_has ls 9 [(5, .int 0), (4, .ref od), (3, .ref o), (2, .ref h0), (1, .ref (ad 0)), (0, .ref b)]) : W p l e room_1 s m #[Value.ref b] below meth c H locs 400 10000 (lw_Z below #[Value.ref b] s) (F0 m 1077 ls []) := by
  obtain ⟨hx, hb, hr, hml, hown, hts, hX, hbl, hlocks, hgv⟩ := id C0
  have hA : ∀ q : Nat, s.heap.size ≤ q → (fun q : Nat => s.heap.size ≤ q) q := fun _ h => h
  have hbA : ¬ (fun q : Nat => s.heap.size ≤ q) b := Nat.not_le.mpr hbl
  have ho : ∀ (k : Nat) (q : Nat × va_E), (tmW h0 u r0 r1 r2 cI cO cZ)[k]? = some q → q.1 ≠ o := ne_of hD 98 rfl
  have hne : h0 ≠ o := ho 0 (h0, _) rfl
  refine lv_aload_n hx hb dL_law_1077 rfl (lv_at hl 4 rfl) ?_
  refine lv_aload_n hx hb dL_law_1078 rfl (lv_at hl 5 rfl) ?_
  refine lv_iload hx hb dL_law_1079 (lv_at hl 0 rfl) ?_
  refine lv_iconst (v := 1) hx hb dL_law_1081 (by decide) ?_
  refine lv_iadd hx hb dL_law_1082 ?_
  refine W.eq (g2 := F0 m 1083 ls [.int 1, .ref b, .ref (ad 0)]) rfl ?_
  refine va_sld hx hb hX hbl hbA hS (by unfold vp_in; decide) dL_law_1083 ?_
  refine W.eq (g2 := F0 m 1084 ls [.int (xs 1), .ref (ad 0)]) rfl ?_
  refine lv_aload_n hx hb dL_law_1084 rfl (lv_at hl 5 rfl) ?_
  refine lv_iload hx hb dL_law_1085 (lv_at hl 0 rfl) ?_
  refine lv_iconst (v := 2) hx hb dL_law_1087 (by decide) ?_
  refine lv_iadd hx hb dL_law_1088 ?_
  refine W.eq (g2 := F0 m 1089 ls [.int 2, .ref b, .int (xs 1), .ref (ad 0)]) rfl ?_
  refine va_sld hx hb hX hbl hbA hS (by unfold vp_in; decide) dL_law_1089 ?_
  refine W.eq (g2 := F0 m 1090 ls [.int (xs 2), .int (xs 1), .ref (ad 0)]) rfl ?_
  refine lv_aload_n hx hb dL_law_1090 rfl (lv_at hl 2 rfl) ?_
  refine l_kw hP hD hS hA (vx_runSX (hh := [(0, 10, 13, 13), (0, 10, 17, 15)]) (As := [.ref (ad 0), .int (xs 1), .int (xs 2), .ref o]) (rest := []) ⟨hx, hb, hml, hown, hts⟩ (w_ofCard l hfl D ad cI cJ H.size o (xs 1) (xs 2) sa) (vx_cwSW 4 hts gl_L_ofCard rfl rfl rfl (by decide +kernel) ⟨Nat.le_of_ble_eq_true rfl, Nat.le_of_ble_eq_true rfl⟩) (w_preS hN hE hZ hKW (pre_P hP) (pre_D hD) hS hA) rfl rfl hl.1 rfl (lv_room (Nat.le_of_ble_eq_true rfl)) dL_law_1091 ⟨Nat.le_of_ble_eq_true rfl, Nat.le_of_ble_eq_true rfl⟩) (fun k f H locs hw hPo hPb hDb hS => ?_)
  refine lv_istore (lv' := [(6, .int k), (5, .int 0), (4, .ref od), (3, .ref o), (2, .ref h0), (1, .ref (ad 0)), (0, .ref b)]) hx hb dL_law_1094 hl (by decide) rfl (fun ls hl => ?_)
  refine lv_aload_n hx hb dL_law_1096 rfl (lv_at hl 4 rfl) ?_
  refine lv_aload_n hx hb dL_law_1097 rfl (lv_at hl 6 rfl) ?_
  refine lv_iload hx hb dL_law_1098 (lv_at hl 1 rfl) ?_
  refine lv_iconst (v := 1) hx hb dL_law_1100 (by decide) ?_
  refine lv_iadd hx hb dL_law_1101 ?_
  refine W.eq (g2 := F0 m 1102 ls [.int 1, .ref b, .ref h0]) rfl ?_
  refine va_sld hx hb hX hbl hbA hS (by unfold vp_in; decide) dL_law_1102 ?_
  refine W.eq (g2 := F0 m 1103 ls [.int (xs 1), .ref h0]) rfl ?_
  refine lv_aload_n hx hb dL_law_1103 rfl (lv_at hl 6 rfl) ?_
  refine lv_iload hx hb dL_law_1104 (lv_at hl 1 rfl) ?_
  refine lv_iconst (v := 2) hx hb dL_law_1106 (by decide) ?_
  refine lv_iadd hx hb dL_law_1107 ?_
  refine W.eq (g2 := F0 m 1108 ls [.int 2, .ref b, .int (xs 1), .ref h0]) rfl ?_
  refine va_sld hx hb hX hbl hbA hS (by unfold vp_in; decide) dL_law_1108 ?_
  refine W.eq (g2 := F0 m 1109 ls [.int (xs 2), .int (xs 1), .ref h0]) rfl ?_
  refine l_km hPb hDb hS hA hPo ho (va_runV (As := [.int (xs 1), .int (xs 2)]) (rest := []) ⟨hx, hb, hml, hown, hts⟩ (qm_ofCard l D [(cI, .int), (cO, .array .int), (cZ, .boolean)] (tmW h0 u r0 r1 r2 cI cO cZ) H.size h0 _ (xs 1) (xs 2) rfl rfl (Nat.zero_lt_succ _)) (cwV 2 hts gl_X9_ofCard rfl rfl rfl (by decide +kernel) ⟨Nat.le_of_ble_eq_true rfl, Nat.le_of_ble_eq_true rfl⟩) (g_preV hKM hPb hDb (ci := 9) (q0 := 0) rfl rfl) rfl rfl hl.1 rfl (lv_room (Nat.le_of_ble_eq_true rfl)) dL_law_1109 ⟨Nat.le_of_ble_eq_true rfl, Nat.le_of_ble_eq_true rfl⟩) (fun r v t H locs hv hm hPm hDm hPo hS => ?_)
  refine lv_istore (lv' := [(7, .int r), (6, .int k), (5, .int 0), (4, .ref od), (3, .ref o), (2, .ref h0), (1, .ref (ad 0)), (0, .ref b)]) hx hb dL_law_1112 hl (by decide) rfl (fun ls hl => ?_)
  refine lv_aload_n hx hb dL_law_1114 rfl (lv_at hl 5 rfl) ?_
  refine l_kt hDm hS hA hPo (ne1 hne) (va_runV (As := []) (rest := []) ⟨hx, hb, hml, hown, hts⟩ (q_thrown l D [(cI, .int), (cO, .array .int), (cZ, .boolean)] H.size h0 v t hv) (cwV 0 hts gl_X9_thrown rfl rfl rfl (by decide +kernel) ⟨Nat.le_of_ble_eq_true rfl, Nat.le_of_ble_eq_true rfl⟩) (g_preV hKM hPm hDm (ci := 9) (q0 := 0) rfl rfl) rfl rfl hl.1 rfl (lv_room (Nat.le_of_ble_eq_true rfl)) dL_law_1115 ⟨Nat.le_of_ble_eq_true rfl, Nat.le_of_ble_eq_true rfl⟩) (fun H locs hPo hS => ?_)
  have ag := ag_ofCard (x0 := xs 1) (x1 := xs 2) (y := f 0) hw hm
  refine lv_iload hx hb dL_law_1118 (lv_at hl 1 rfl) ?_
  refine lv_icmp_eq (tgt := 1125) hx hb dL_law_1120 (by decide) (fun c_404 => ?_) (fun c_404 => ?_)
  · refine lv_iload hx hb dL_law_1125 (lv_at hl 1 rfl) ?_
    refine lv_if_ne (tgt := 1142) hx hb dL_law_1127 (by decide) (fun c_405 => ?_) (fun c_405 => ?_)
    · refine lv_goto (tgt := 2118) hx hb dL_law_1142 (by decide) ?_
      exact law_tail C0 hS (lv_sub hl [2, 7] rfl)
    · exact absurd ((show k = 1 from hw).symm.trans c_405) (by decide)
  · exact absurd ag.1 c_404
set_option maxHeartbeats 4000000 in
set_option maxRecDepth 100000 in
theorem law_ofDay {p : Program} {l : Launch} {e : Env} {s : State} {m : MethodId} {below : List Frame} {meth : Method} {c : Code} (hfl : l.stackTraces = false) {D : va_G} {ad : Nat → Nat} {cI cJ cO cZ : ClassId} {b h0 o : Nat} {xs : Nat → Int32} {u r0 r1 r2 : Nat → Nat} {sa : Nat → Nat} (C0 : lw_At p s m meth c b 7 xs) (hN : ex_n s) (hE : ex_w sa s) (hZ : ex_z (fun q : Nat => s.heap.size ≤ q) s s.heap) (hKW : va_K D vwCl [(cI, .int), (cJ, .long)] s) (hKM : va_K D vwCl [(cI, .int), (cO, .array .int), (cZ, .boolean)] s) {H : Heap} {locs : List Loc} (hP : va_P D vwCl (wrW ad cI cJ o ++ tmW h0 u r0 r1 r2 cI cO cZ) H) (hD : va_D (fun q : Nat => s.heap.size ≤ q) (wrW ad cI cJ o ++ tmW h0 u r0 r1 r2 cI cO cZ)) (hS : va_S (fun q : Nat => s.heap.size ≤ q) s.heap H locs) {od : Nat} {ls : Array Slot} (hl : lv_has ls 9 [(5, .int 0), (4, .ref od), (3, .ref o), (2, .ref h0), (1, .ref (ad 0)), (0, .ref b)]) : W p l e room_1 s m #[Value.ref b] below meth c H locs 400 10000 (lw_Z below #[Value.ref b] s) (F0 m 1145 ls []) := by
  obtain ⟨hx, hb, hr, hml, hown, hts, hX, hbl, hlocks, hgv⟩ := id C0
  have hA : ∀ q : Nat, s.heap.size ≤ q → (fun q : Nat => s.heap.size ≤ q) q := fun _ h => h
  have hbA : ¬ (fun q : Nat => s.heap.size ≤ q) b := Nat.not_le.mpr hbl
  have ho : ∀ (k : Nat) (q : Nat × va_E), (tmW h0 u r0 r1 r2 cI cO cZ)[k]? = some q → q.1 ≠ o := ne_of hD 98 rfl
  have hne : h0 ≠ o := ho 0 (h0, _) rfl
  refine lv_aload_n hx hb dL_law_1145 rfl (lv_at hl 4 rfl) ?_
  refine lv_aload_n hx hb dL_law_1146 rfl (lv_at hl 5 rfl) ?_
  refine lv_iload hx hb dL_law_1147 (lv_at hl 0 rfl) ?_
  refine lv_iconst (v := 1) hx hb dL_law_1149 (by decide) ?_
  refine lv_iadd hx hb dL_law_1150 ?_
  refine W.eq (g2 := F0 m 1151 ls [.int 1, .ref b, .ref (ad 0)]) rfl ?_
  refine va_sld hx hb hX hbl hbA hS (by unfold vp_in; decide) dL_law_1151 ?_
  refine W.eq (g2 := F0 m 1152 ls [.int (xs 1), .ref (ad 0)]) rfl ?_
  refine lv_aload_n hx hb dL_law_1152 rfl (lv_at hl 5 rfl) ?_
  refine lv_iload hx hb dL_law_1153 (lv_at hl 0 rfl) ?_
  refine lv_iconst (v := 2) hx hb dL_law_1155 (by decide) ?_
  refine lv_iadd hx hb dL_law_1156 ?_
  refine W.eq (g2 := F0 m 1157 ls [.int 2, .ref b, .int (xs 1), .ref (ad 0)]) rfl ?_
  refine va_sld hx hb hX hbl hbA hS (by unfold vp_in; decide) dL_law_1157 ?_
  refine W.eq (g2 := F0 m 1158 ls [.int (xs 2), .int (xs 1), .ref (ad 0)]) rfl ?_
  refine lv_aload_n hx hb dL_law_1158 rfl (lv_at hl 5 rfl) ?_
  refine lv_iload hx hb dL_law_1159 (lv_at hl 0 rfl) ?_
  refine lv_iconst (v := 3) hx hb dL_law_1161 (by decide) ?_
  refine lv_iadd hx hb dL_law_1162 ?_
  refine W.eq (g2 := F0 m 1163 ls [.int 3, .ref b, .int (xs 2), .int (xs 1), .ref (ad 0)]) rfl ?_
  refine va_sld hx hb hX hbl hbA hS (by unfold vp_in; decide) dL_law_1163 ?_
  refine W.eq (g2 := F0 m 1164 ls [.int (xs 3), .int (xs 2), .int (xs 1), .ref (ad 0)]) rfl ?_
  refine lv_aload_n hx hb dL_law_1164 rfl (lv_at hl 2 rfl) ?_
  refine l_kw hP hD hS hA (vx_runSX (hh := [(0, 12, 15, 13), (0, 12, 19, 15)]) (As := [.ref (ad 0), .int (xs 1), .int (xs 2), .int (xs 3), .ref o]) (rest := []) ⟨hx, hb, hml, hown, hts⟩ (w_ofDay l hfl D ad cI cJ H.size o (xs 1) (xs 2) (xs 3) sa) (vx_cwSW 5 hts gl_L_ofDay rfl rfl rfl (by decide +kernel) ⟨Nat.le_of_ble_eq_true rfl, Nat.le_of_ble_eq_true rfl⟩) (w_preS hN hE hZ hKW (pre_P hP) (pre_D hD) hS hA) rfl rfl hl.1 rfl (lv_room (Nat.le_of_ble_eq_true rfl)) dL_law_1165 ⟨Nat.le_of_ble_eq_true rfl, Nat.le_of_ble_eq_true rfl⟩) (fun k f H locs hw hPo hPb hDb hS => ?_)
  refine lv_istore (lv' := [(6, .int k), (5, .int 0), (4, .ref od), (3, .ref o), (2, .ref h0), (1, .ref (ad 0)), (0, .ref b)]) hx hb dL_law_1168 hl (by decide) rfl (fun ls hl => ?_)
  refine lv_aload_n hx hb dL_law_1170 rfl (lv_at hl 4 rfl) ?_
  refine lv_aload_n hx hb dL_law_1171 rfl (lv_at hl 6 rfl) ?_
  refine lv_iload hx hb dL_law_1172 (lv_at hl 1 rfl) ?_
  refine lv_iconst (v := 1) hx hb dL_law_1174 (by decide) ?_
  refine lv_iadd hx hb dL_law_1175 ?_
  refine W.eq (g2 := F0 m 1176 ls [.int 1, .ref b, .ref h0]) rfl ?_
  refine va_sld hx hb hX hbl hbA hS (by unfold vp_in; decide) dL_law_1176 ?_
  refine W.eq (g2 := F0 m 1177 ls [.int (xs 1), .ref h0]) rfl ?_
  refine lv_aload_n hx hb dL_law_1177 rfl (lv_at hl 6 rfl) ?_
  refine lv_iload hx hb dL_law_1178 (lv_at hl 1 rfl) ?_
  refine lv_iconst (v := 2) hx hb dL_law_1180 (by decide) ?_
  refine lv_iadd hx hb dL_law_1181 ?_
  refine W.eq (g2 := F0 m 1182 ls [.int 2, .ref b, .int (xs 1), .ref h0]) rfl ?_
  refine va_sld hx hb hX hbl hbA hS (by unfold vp_in; decide) dL_law_1182 ?_
  refine W.eq (g2 := F0 m 1183 ls [.int (xs 2), .int (xs 1), .ref h0]) rfl ?_
  refine lv_aload_n hx hb dL_law_1183 rfl (lv_at hl 6 rfl) ?_
  refine lv_iload hx hb dL_law_1184 (lv_at hl 1 rfl) ?_
  refine lv_iconst (v := 3) hx hb dL_law_1186 (by decide) ?_
  refine lv_iadd hx hb dL_law_1187 ?_
  refine W.eq (g2 := F0 m 1188 ls [.int 3, .ref b, .int (xs 2), .int (xs 1), .ref h0]) rfl ?_
  refine va_sld hx hb hX hbl hbA hS (by unfold vp_in; decide) dL_law_1188 ?_
  refine W.eq (g2 := F0 m 1189 ls [.int (xs 3), .int (xs 2), .int (xs 1), .ref h0]) rfl ?_
  refine l_km hPb hDb hS hA hPo ho (va_runV (As := [.int (xs 1), .int (xs 2), .int (xs 3)]) (rest := []) ⟨hx, hb, hml, hown, hts⟩ (qm_ofDay l D [(cI, .int), (cO, .array .int), (cZ, .boolean)] (tmW h0 u r0 r1 r2 cI cO cZ) H.size h0 _ (xs 1) (xs 2) (xs 3) rfl rfl (Nat.zero_lt_succ _)) (cwV 3 hts gl_X9_ofDay rfl rfl rfl (by decide +kernel) ⟨Nat.le_of_ble_eq_true rfl, Nat.le_of_ble_eq_true rfl⟩) (g_preV hKM hPb hDb (ci := 9) (q0 := 0) rfl rfl) rfl rfl hl.1 rfl (lv_room (Nat.le_of_ble_eq_true rfl)) dL_law_1189 ⟨Nat.le_of_ble_eq_true rfl, Nat.le_of_ble_eq_true rfl⟩) (fun r v t H locs hv hm hPm hDm hPo hS => ?_)
  refine lv_istore (lv' := [(7, .int r), (6, .int k), (5, .int 0), (4, .ref od), (3, .ref o), (2, .ref h0), (1, .ref (ad 0)), (0, .ref b)]) hx hb dL_law_1192 hl (by decide) rfl (fun ls hl => ?_)
  refine lv_aload_n hx hb dL_law_1194 rfl (lv_at hl 5 rfl) ?_
  refine l_kt hDm hS hA hPo (ne1 hne) (va_runV (As := []) (rest := []) ⟨hx, hb, hml, hown, hts⟩ (q_thrown l D [(cI, .int), (cO, .array .int), (cZ, .boolean)] H.size h0 v t hv) (cwV 0 hts gl_X9_thrown rfl rfl rfl (by decide +kernel) ⟨Nat.le_of_ble_eq_true rfl, Nat.le_of_ble_eq_true rfl⟩) (g_preV hKM hPm hDm (ci := 9) (q0 := 0) rfl rfl) rfl rfl hl.1 rfl (lv_room (Nat.le_of_ble_eq_true rfl)) dL_law_1195 ⟨Nat.le_of_ble_eq_true rfl, Nat.le_of_ble_eq_true rfl⟩) (fun H locs hPo hS => ?_)
  have ag := ag_ofDay (x0 := xs 1) (x1 := xs 2) (x2 := xs 3) (y := f 0) hw hm
  refine lv_iload hx hb dL_law_1198 (lv_at hl 1 rfl) ?_
  refine lv_icmp_eq (tgt := 1205) hx hb dL_law_1200 (by decide) (fun c_406 => ?_) (fun c_406 => ?_)
  · refine lv_iload hx hb dL_law_1205 (lv_at hl 1 rfl) ?_
    refine lv_if_ne (tgt := 1222) hx hb dL_law_1207 (by decide) (fun c_407 => ?_) (fun c_407 => ?_)
    · refine lv_goto (tgt := 2118) hx hb dL_law_1222 (by decide) ?_
      exact law_tail C0 hS (lv_sub hl [2, 7] rfl)
    · exact absurd ((show k = 1 from hw).symm.trans c_407) (by decide)
  · exact absurd ag.1 c_406
set_option maxHeartbeats 4000000 in
set_option maxRecDepth 100000 in
theorem law_ofLeg {p : Program} {l : Launch} {e : Env} {s : State} {m : MethodId} {below : List Frame} {meth : Method} {c : Code} (hfl : l.stackTraces = false) {D : va_G} {ad : Nat → Nat} {cI cJ cO cZ : ClassId} {b h0 o : Nat} {xs : Nat → Int32} {u r0 r1 r2 : Nat → Nat} {sa : Nat → Nat} (C0 : lw_At p s m meth c b 7 xs) (hN : ex_n s) (hE : ex_w sa s) (hZ : ex_z (fun q : Nat => s.heap.size ≤ q) s s.heap) (hKW : va_K D vwCl [(cI, .int), (cJ, .long)] s) (hKM : va_K D vwCl [(cI, .int), (cO, .array .int), (cZ, .boolean)] s) {H : Heap} {locs : List Loc} (hP : va_P D vwCl (wrW ad cI cJ o ++ tmW h0 u r0 r1 r2 cI cO cZ) H) (hD : va_D (fun q : Nat => s.heap.size ≤ q) (wrW ad cI cJ o ++ tmW h0 u r0 r1 r2 cI cO cZ)) (hS : va_S (fun q : Nat => s.heap.size ≤ q) s.heap H locs) {od : Nat} {ls : Array Slot} (hl : lv_has ls 9 [(5, .int 0), (4, .ref od), (3, .ref o), (2, .ref h0), (1, .ref (ad 0)), (0, .ref b)]) : W p l e room_1 s m #[Value.ref b] below meth c H locs 400 10000 (lw_Z below #[Value.ref b] s) (F0 m 1225 ls []) := by
  obtain ⟨hx, hb, hr, hml, hown, hts, hX, hbl, hlocks, hgv⟩ := id C0
  have hA : ∀ q : Nat, s.heap.size ≤ q → (fun q : Nat => s.heap.size ≤ q) q := fun _ h => h
  have hbA : ¬ (fun q : Nat => s.heap.size ≤ q) b := Nat.not_le.mpr hbl
  have ho : ∀ (k : Nat) (q : Nat × va_E), (tmW h0 u r0 r1 r2 cI cO cZ)[k]? = some q → q.1 ≠ o := ne_of hD 98 rfl
  have hne : h0 ≠ o := ho 0 (h0, _) rfl
  refine lv_aload_n hx hb dL_law_1225 rfl (lv_at hl 4 rfl) ?_
  refine lv_aload_n hx hb dL_law_1226 rfl (lv_at hl 5 rfl) ?_
  refine lv_iload hx hb dL_law_1227 (lv_at hl 0 rfl) ?_
  refine lv_iconst (v := 1) hx hb dL_law_1229 (by decide) ?_
  refine lv_iadd hx hb dL_law_1230 ?_
  refine W.eq (g2 := F0 m 1231 ls [.int 1, .ref b, .ref (ad 0)]) rfl ?_
  refine va_sld hx hb hX hbl hbA hS (by unfold vp_in; decide) dL_law_1231 ?_
  refine W.eq (g2 := F0 m 1232 ls [.int (xs 1), .ref (ad 0)]) rfl ?_
  refine lv_aload_n hx hb dL_law_1232 rfl (lv_at hl 5 rfl) ?_
  refine lv_iload hx hb dL_law_1233 (lv_at hl 0 rfl) ?_
  refine lv_iconst (v := 2) hx hb dL_law_1235 (by decide) ?_
  refine lv_iadd hx hb dL_law_1236 ?_
  refine W.eq (g2 := F0 m 1237 ls [.int 2, .ref b, .int (xs 1), .ref (ad 0)]) rfl ?_
  refine va_sld hx hb hX hbl hbA hS (by unfold vp_in; decide) dL_law_1237 ?_
  refine W.eq (g2 := F0 m 1238 ls [.int (xs 2), .int (xs 1), .ref (ad 0)]) rfl ?_
  refine lv_aload_n hx hb dL_law_1238 rfl (lv_at hl 5 rfl) ?_
  refine lv_iload hx hb dL_law_1239 (lv_at hl 0 rfl) ?_
  refine lv_iconst (v := 3) hx hb dL_law_1241 (by decide) ?_
  refine lv_iadd hx hb dL_law_1242 ?_
  refine W.eq (g2 := F0 m 1243 ls [.int 3, .ref b, .int (xs 2), .int (xs 1), .ref (ad 0)]) rfl ?_
  refine va_sld hx hb hX hbl hbA hS (by unfold vp_in; decide) dL_law_1243 ?_
  refine W.eq (g2 := F0 m 1244 ls [.int (xs 3), .int (xs 2), .int (xs 1), .ref (ad 0)]) rfl ?_
  refine lv_aload_n hx hb dL_law_1244 rfl (lv_at hl 5 rfl) ?_
  refine lv_iload hx hb dL_law_1245 (lv_at hl 0 rfl) ?_
  refine lv_iconst (v := 4) hx hb dL_law_1247 (by decide) ?_
  refine lv_iadd hx hb dL_law_1248 ?_
  refine W.eq (g2 := F0 m 1249 ls [.int 4, .ref b, .int (xs 3), .int (xs 2), .int (xs 1), .ref (ad 0)]) rfl ?_
  refine va_sld hx hb hX hbl hbA hS (by unfold vp_in; decide) dL_law_1249 ?_
  refine W.eq (g2 := F0 m 1250 ls [.int (xs 4), .int (xs 3), .int (xs 2), .int (xs 1), .ref (ad 0)]) rfl ?_
  refine lv_aload_n hx hb dL_law_1250 rfl (lv_at hl 2 rfl) ?_
  refine l_kw hP hD hS hA (vx_runSX (hh := [(0, 14, 17, 13), (0, 14, 21, 15)]) (As := [.ref (ad 0), .int (xs 1), .int (xs 2), .int (xs 3), .int (xs 4), .ref o]) (rest := []) ⟨hx, hb, hml, hown, hts⟩ (w_ofLeg l hfl D ad cI cJ H.size o (xs 1) (xs 2) (xs 3) (xs 4) sa) (vx_cwSW 6 hts gl_L_ofLeg rfl rfl rfl (by decide +kernel) ⟨Nat.le_of_ble_eq_true rfl, Nat.le_of_ble_eq_true rfl⟩) (w_preS hN hE hZ hKW (pre_P hP) (pre_D hD) hS hA) rfl rfl hl.1 rfl (lv_room (Nat.le_of_ble_eq_true rfl)) dL_law_1251 ⟨Nat.le_of_ble_eq_true rfl, Nat.le_of_ble_eq_true rfl⟩) (fun k f H locs hw hPo hPb hDb hS => ?_)
  refine lv_istore (lv' := [(6, .int k), (5, .int 0), (4, .ref od), (3, .ref o), (2, .ref h0), (1, .ref (ad 0)), (0, .ref b)]) hx hb dL_law_1254 hl (by decide) rfl (fun ls hl => ?_)
  refine lv_aload_n hx hb dL_law_1256 rfl (lv_at hl 4 rfl) ?_
  refine lv_aload_n hx hb dL_law_1257 rfl (lv_at hl 6 rfl) ?_
  refine lv_iload hx hb dL_law_1258 (lv_at hl 1 rfl) ?_
  refine lv_iconst (v := 1) hx hb dL_law_1260 (by decide) ?_
  refine lv_iadd hx hb dL_law_1261 ?_
  refine W.eq (g2 := F0 m 1262 ls [.int 1, .ref b, .ref h0]) rfl ?_
  refine va_sld hx hb hX hbl hbA hS (by unfold vp_in; decide) dL_law_1262 ?_
  refine W.eq (g2 := F0 m 1263 ls [.int (xs 1), .ref h0]) rfl ?_
  refine lv_aload_n hx hb dL_law_1263 rfl (lv_at hl 6 rfl) ?_
  refine lv_iload hx hb dL_law_1264 (lv_at hl 1 rfl) ?_
  refine lv_iconst (v := 2) hx hb dL_law_1266 (by decide) ?_
  refine lv_iadd hx hb dL_law_1267 ?_
  refine W.eq (g2 := F0 m 1268 ls [.int 2, .ref b, .int (xs 1), .ref h0]) rfl ?_
  refine va_sld hx hb hX hbl hbA hS (by unfold vp_in; decide) dL_law_1268 ?_
  refine W.eq (g2 := F0 m 1269 ls [.int (xs 2), .int (xs 1), .ref h0]) rfl ?_
  refine lv_aload_n hx hb dL_law_1269 rfl (lv_at hl 6 rfl) ?_
  refine lv_iload hx hb dL_law_1270 (lv_at hl 1 rfl) ?_
  refine lv_iconst (v := 3) hx hb dL_law_1272 (by decide) ?_
  refine lv_iadd hx hb dL_law_1273 ?_
  refine W.eq (g2 := F0 m 1274 ls [.int 3, .ref b, .int (xs 2), .int (xs 1), .ref h0]) rfl ?_
  refine va_sld hx hb hX hbl hbA hS (by unfold vp_in; decide) dL_law_1274 ?_
  refine W.eq (g2 := F0 m 1275 ls [.int (xs 3), .int (xs 2), .int (xs 1), .ref h0]) rfl ?_
  refine lv_aload_n hx hb dL_law_1275 rfl (lv_at hl 6 rfl) ?_
  refine lv_iload hx hb dL_law_1276 (lv_at hl 1 rfl) ?_
  refine lv_iconst (v := 4) hx hb dL_law_1278 (by decide) ?_
  refine lv_iadd hx hb dL_law_1279 ?_
  refine W.eq (g2 := F0 m 1280 ls [.int 4, .ref b, .int (xs 3), .int (xs 2), .int (xs 1), .ref h0]) rfl ?_
  refine va_sld hx hb hX hbl hbA hS (by unfold vp_in; decide) dL_law_1280 ?_
  refine W.eq (g2 := F0 m 1281 ls [.int (xs 4), .int (xs 3), .int (xs 2), .int (xs 1), .ref h0]) rfl ?_
  refine l_km hPb hDb hS hA hPo ho (va_runV (As := [.int (xs 1), .int (xs 2), .int (xs 3), .int (xs 4)]) (rest := []) ⟨hx, hb, hml, hown, hts⟩ (qm_ofLeg l D [(cI, .int), (cO, .array .int), (cZ, .boolean)] (tmW h0 u r0 r1 r2 cI cO cZ) H.size h0 _ (xs 1) (xs 2) (xs 3) (xs 4) rfl rfl (Nat.zero_lt_succ _)) (cwV 4 hts gl_X9_ofLeg rfl rfl rfl (by decide +kernel) ⟨Nat.le_of_ble_eq_true rfl, Nat.le_of_ble_eq_true rfl⟩) (g_preV hKM hPb hDb (ci := 9) (q0 := 0) rfl rfl) rfl rfl hl.1 rfl (lv_room (Nat.le_of_ble_eq_true rfl)) dL_law_1281 ⟨Nat.le_of_ble_eq_true rfl, Nat.le_of_ble_eq_true rfl⟩) (fun r v t H locs hv hm hPm hDm hPo hS => ?_)
  refine lv_istore (lv' := [(7, .int r), (6, .int k), (5, .int 0), (4, .ref od), (3, .ref o), (2, .ref h0), (1, .ref (ad 0)), (0, .ref b)]) hx hb dL_law_1284 hl (by decide) rfl (fun ls hl => ?_)
  refine lv_aload_n hx hb dL_law_1286 rfl (lv_at hl 5 rfl) ?_
  refine l_kt hDm hS hA hPo (ne1 hne) (va_runV (As := []) (rest := []) ⟨hx, hb, hml, hown, hts⟩ (q_thrown l D [(cI, .int), (cO, .array .int), (cZ, .boolean)] H.size h0 v t hv) (cwV 0 hts gl_X9_thrown rfl rfl rfl (by decide +kernel) ⟨Nat.le_of_ble_eq_true rfl, Nat.le_of_ble_eq_true rfl⟩) (g_preV hKM hPm hDm (ci := 9) (q0 := 0) rfl rfl) rfl rfl hl.1 rfl (lv_room (Nat.le_of_ble_eq_true rfl)) dL_law_1287 ⟨Nat.le_of_ble_eq_true rfl, Nat.le_of_ble_eq_true rfl⟩) (fun H locs hPo hS => ?_)
  have ag := ag_ofLeg (x0 := xs 1) (x1 := xs 2) (x2 := xs 3) (x3 := xs 4) (y := f 0) hw hm
  refine lv_iload hx hb dL_law_1290 (lv_at hl 1 rfl) ?_
  refine lv_icmp_eq (tgt := 1297) hx hb dL_law_1292 (by decide) (fun c_408 => ?_) (fun c_408 => ?_)
  · refine lv_iload hx hb dL_law_1297 (lv_at hl 1 rfl) ?_
    refine lv_if_ne (tgt := 1314) hx hb dL_law_1299 (by decide) (fun c_409 => ?_) (fun c_409 => ?_)
    · refine lv_goto (tgt := 2118) hx hb dL_law_1314 (by decide) ?_
      exact law_tail C0 hS (lv_sub hl [2, 7] rfl)
    · exact absurd ((show k = 1 from hw).symm.trans c_409) (by decide)
  · exact absurd ag.1 c_408
set_option maxHeartbeats 4000000 in
set_option maxRecDepth 100000 in
theorem law_ofJourney {p : Program} {l : Launch} {e : Env} {s : State} {m : MethodId} {below : List Frame} {meth : Method} {c : Code} (hfl : l.stackTraces = false) {D : va_G} {ad : Nat → Nat} {cI cJ cO cZ : ClassId} {b h0 o : Nat} {xs : Nat → Int32} {u r0 r1 r2 : Nat → Nat} {sa : Nat → Nat} (C0 : lw_At p s m meth c b 7 xs) (hN : ex_n s) (hE : ex_w sa s) (hZ : ex_z (fun q : Nat => s.heap.size ≤ q) s s.heap) (hKW : va_K D vwCl [(cI, .int), (cJ, .long)] s) (hKM : va_K D vwCl [(cI, .int), (cO, .array .int), (cZ, .boolean)] s) {H : Heap} {locs : List Loc} (hP : va_P D vwCl (wrW ad cI cJ o ++ tmW h0 u r0 r1 r2 cI cO cZ) H) (hD : va_D (fun q : Nat => s.heap.size ≤ q) (wrW ad cI cJ o ++ tmW h0 u r0 r1 r2 cI cO cZ)) (hS : va_S (fun q : Nat => s.heap.size ≤ q) s.heap H locs) {od : Nat} {ls : Array Slot} (hl : lv_has ls 9 [(5, .int 0), (4, .ref od), (3, .ref o), (2, .ref h0), (1, .ref (ad 0)), (0, .ref b)]) : W p l e room_1 s m #[Value.ref b] below meth c H locs 400 10000 (lw_Z below #[Value.ref b] s) (F0 m 1317 ls []) := by
  obtain ⟨hx, hb, hr, hml, hown, hts, hX, hbl, hlocks, hgv⟩ := id C0
  have hA : ∀ q : Nat, s.heap.size ≤ q → (fun q : Nat => s.heap.size ≤ q) q := fun _ h => h
  have hbA : ¬ (fun q : Nat => s.heap.size ≤ q) b := Nat.not_le.mpr hbl
  have ho : ∀ (k : Nat) (q : Nat × va_E), (tmW h0 u r0 r1 r2 cI cO cZ)[k]? = some q → q.1 ≠ o := ne_of hD 98 rfl
  have hne : h0 ≠ o := ho 0 (h0, _) rfl
  refine lv_aload_n hx hb dL_law_1317 rfl (lv_at hl 4 rfl) ?_
  refine lv_aload_n hx hb dL_law_1318 rfl (lv_at hl 5 rfl) ?_
  refine lv_iload hx hb dL_law_1319 (lv_at hl 0 rfl) ?_
  refine lv_iconst (v := 1) hx hb dL_law_1321 (by decide) ?_
  refine lv_iadd hx hb dL_law_1322 ?_
  refine W.eq (g2 := F0 m 1323 ls [.int 1, .ref b, .ref (ad 0)]) rfl ?_
  refine va_sld hx hb hX hbl hbA hS (by unfold vp_in; decide) dL_law_1323 ?_
  refine W.eq (g2 := F0 m 1324 ls [.int (xs 1), .ref (ad 0)]) rfl ?_
  refine lv_aload_n hx hb dL_law_1324 rfl (lv_at hl 5 rfl) ?_
  refine lv_iload hx hb dL_law_1325 (lv_at hl 0 rfl) ?_
  refine lv_iconst (v := 2) hx hb dL_law_1327 (by decide) ?_
  refine lv_iadd hx hb dL_law_1328 ?_
  refine W.eq (g2 := F0 m 1329 ls [.int 2, .ref b, .int (xs 1), .ref (ad 0)]) rfl ?_
  refine va_sld hx hb hX hbl hbA hS (by unfold vp_in; decide) dL_law_1329 ?_
  refine W.eq (g2 := F0 m 1330 ls [.int (xs 2), .int (xs 1), .ref (ad 0)]) rfl ?_
  refine lv_aload_n hx hb dL_law_1330 rfl (lv_at hl 5 rfl) ?_
  refine lv_iload hx hb dL_law_1331 (lv_at hl 0 rfl) ?_
  refine lv_iconst (v := 3) hx hb dL_law_1333 (by decide) ?_
  refine lv_iadd hx hb dL_law_1334 ?_
  refine W.eq (g2 := F0 m 1335 ls [.int 3, .ref b, .int (xs 2), .int (xs 1), .ref (ad 0)]) rfl ?_
  refine va_sld hx hb hX hbl hbA hS (by unfold vp_in; decide) dL_law_1335 ?_
  refine W.eq (g2 := F0 m 1336 ls [.int (xs 3), .int (xs 2), .int (xs 1), .ref (ad 0)]) rfl ?_
  refine lv_aload_n hx hb dL_law_1336 rfl (lv_at hl 5 rfl) ?_
  refine lv_iload hx hb dL_law_1337 (lv_at hl 0 rfl) ?_
  refine lv_iconst (v := 4) hx hb dL_law_1339 (by decide) ?_
  refine lv_iadd hx hb dL_law_1340 ?_
  refine W.eq (g2 := F0 m 1341 ls [.int 4, .ref b, .int (xs 3), .int (xs 2), .int (xs 1), .ref (ad 0)]) rfl ?_
  refine va_sld hx hb hX hbl hbA hS (by unfold vp_in; decide) dL_law_1341 ?_
  refine W.eq (g2 := F0 m 1342 ls [.int (xs 4), .int (xs 3), .int (xs 2), .int (xs 1), .ref (ad 0)]) rfl ?_
  refine lv_aload_n hx hb dL_law_1342 rfl (lv_at hl 2 rfl) ?_
  refine l_kw hP hD hS hA (vx_runSX (hh := [(0, 14, 17, 13), (0, 14, 21, 15)]) (As := [.ref (ad 0), .int (xs 1), .int (xs 2), .int (xs 3), .int (xs 4), .ref o]) (rest := []) ⟨hx, hb, hml, hown, hts⟩ (w_ofJourney l hfl D ad cI cJ H.size o (xs 1) (xs 2) (xs 3) (xs 4) sa) (vx_cwSW 6 hts gl_L_ofJourney rfl rfl rfl (by decide +kernel) ⟨Nat.le_of_ble_eq_true rfl, Nat.le_of_ble_eq_true rfl⟩) (w_preS hN hE hZ hKW (pre_P hP) (pre_D hD) hS hA) rfl rfl hl.1 rfl (lv_room (Nat.le_of_ble_eq_true rfl)) dL_law_1343 ⟨Nat.le_of_ble_eq_true rfl, Nat.le_of_ble_eq_true rfl⟩) (fun k f H locs hw hPo hPb hDb hS => ?_)
  refine lv_istore (lv' := [(6, .int k), (5, .int 0), (4, .ref od), (3, .ref o), (2, .ref h0), (1, .ref (ad 0)), (0, .ref b)]) hx hb dL_law_1346 hl (by decide) rfl (fun ls hl => ?_)
  refine lv_aload_n hx hb dL_law_1348 rfl (lv_at hl 4 rfl) ?_
  refine lv_aload_n hx hb dL_law_1349 rfl (lv_at hl 6 rfl) ?_
  refine lv_iload hx hb dL_law_1350 (lv_at hl 1 rfl) ?_
  refine lv_iconst (v := 1) hx hb dL_law_1352 (by decide) ?_
  refine lv_iadd hx hb dL_law_1353 ?_
  refine W.eq (g2 := F0 m 1354 ls [.int 1, .ref b, .ref h0]) rfl ?_
  refine va_sld hx hb hX hbl hbA hS (by unfold vp_in; decide) dL_law_1354 ?_
  refine W.eq (g2 := F0 m 1355 ls [.int (xs 1), .ref h0]) rfl ?_
  refine lv_aload_n hx hb dL_law_1355 rfl (lv_at hl 6 rfl) ?_
  refine lv_iload hx hb dL_law_1356 (lv_at hl 1 rfl) ?_
  refine lv_iconst (v := 2) hx hb dL_law_1358 (by decide) ?_
  refine lv_iadd hx hb dL_law_1359 ?_
  refine W.eq (g2 := F0 m 1360 ls [.int 2, .ref b, .int (xs 1), .ref h0]) rfl ?_
  refine va_sld hx hb hX hbl hbA hS (by unfold vp_in; decide) dL_law_1360 ?_
  refine W.eq (g2 := F0 m 1361 ls [.int (xs 2), .int (xs 1), .ref h0]) rfl ?_
  refine lv_aload_n hx hb dL_law_1361 rfl (lv_at hl 6 rfl) ?_
  refine lv_iload hx hb dL_law_1362 (lv_at hl 1 rfl) ?_
  refine lv_iconst (v := 3) hx hb dL_law_1364 (by decide) ?_
  refine lv_iadd hx hb dL_law_1365 ?_
  refine W.eq (g2 := F0 m 1366 ls [.int 3, .ref b, .int (xs 2), .int (xs 1), .ref h0]) rfl ?_
  refine va_sld hx hb hX hbl hbA hS (by unfold vp_in; decide) dL_law_1366 ?_
  refine W.eq (g2 := F0 m 1367 ls [.int (xs 3), .int (xs 2), .int (xs 1), .ref h0]) rfl ?_
  refine lv_aload_n hx hb dL_law_1367 rfl (lv_at hl 6 rfl) ?_
  refine lv_iload hx hb dL_law_1368 (lv_at hl 1 rfl) ?_
  refine lv_iconst (v := 4) hx hb dL_law_1370 (by decide) ?_
  refine lv_iadd hx hb dL_law_1371 ?_
  refine W.eq (g2 := F0 m 1372 ls [.int 4, .ref b, .int (xs 3), .int (xs 2), .int (xs 1), .ref h0]) rfl ?_
  refine va_sld hx hb hX hbl hbA hS (by unfold vp_in; decide) dL_law_1372 ?_
  refine W.eq (g2 := F0 m 1373 ls [.int (xs 4), .int (xs 3), .int (xs 2), .int (xs 1), .ref h0]) rfl ?_
  refine l_km hPb hDb hS hA hPo ho (va_runV (As := [.int (xs 1), .int (xs 2), .int (xs 3), .int (xs 4)]) (rest := []) ⟨hx, hb, hml, hown, hts⟩ (qm_ofJourney l D [(cI, .int), (cO, .array .int), (cZ, .boolean)] (tmW h0 u r0 r1 r2 cI cO cZ) H.size h0 _ (xs 1) (xs 2) (xs 3) (xs 4) rfl rfl (Nat.zero_lt_succ _)) (cwV 4 hts gl_X9_ofJourney rfl rfl rfl (by decide +kernel) ⟨Nat.le_of_ble_eq_true rfl, Nat.le_of_ble_eq_true rfl⟩) (g_preV hKM hPb hDb (ci := 9) (q0 := 0) rfl rfl) rfl rfl hl.1 rfl (lv_room (Nat.le_of_ble_eq_true rfl)) dL_law_1373 ⟨Nat.le_of_ble_eq_true rfl, Nat.le_of_ble_eq_true rfl⟩) (fun r v t H locs hv hm hPm hDm hPo hS => ?_)
  refine lv_istore (lv' := [(7, .int r), (6, .int k), (5, .int 0), (4, .ref od), (3, .ref o), (2, .ref h0), (1, .ref (ad 0)), (0, .ref b)]) hx hb dL_law_1376 hl (by decide) rfl (fun ls hl => ?_)
  refine lv_aload_n hx hb dL_law_1378 rfl (lv_at hl 5 rfl) ?_
  refine l_kt hDm hS hA hPo (ne1 hne) (va_runV (As := []) (rest := []) ⟨hx, hb, hml, hown, hts⟩ (q_thrown l D [(cI, .int), (cO, .array .int), (cZ, .boolean)] H.size h0 v t hv) (cwV 0 hts gl_X9_thrown rfl rfl rfl (by decide +kernel) ⟨Nat.le_of_ble_eq_true rfl, Nat.le_of_ble_eq_true rfl⟩) (g_preV hKM hPm hDm (ci := 9) (q0 := 0) rfl rfl) rfl rfl hl.1 rfl (lv_room (Nat.le_of_ble_eq_true rfl)) dL_law_1379 ⟨Nat.le_of_ble_eq_true rfl, Nat.le_of_ble_eq_true rfl⟩) (fun H locs hPo hS => ?_)
  have ag := ag_ofJourney (x0 := xs 1) (x1 := xs 2) (x2 := xs 3) (x3 := xs 4) (y := f 0) hw hm
  refine lv_iload hx hb dL_law_1382 (lv_at hl 1 rfl) ?_
  refine lv_icmp_eq (tgt := 1389) hx hb dL_law_1384 (by decide) (fun c_410 => ?_) (fun c_410 => ?_)
  · refine lv_iload hx hb dL_law_1389 (lv_at hl 1 rfl) ?_
    refine lv_if_ne (tgt := 1406) hx hb dL_law_1391 (by decide) (fun c_411 => ?_) (fun c_411 => ?_)
    · refine lv_goto (tgt := 2118) hx hb dL_law_1406 (by decide) ?_
      exact law_tail C0 hS (lv_sub hl [2, 7] rfl)
    · exact absurd ((show k = 1 from hw).symm.trans c_411) (by decide)
  · exact absurd ag.1 c_410
set_option maxHeartbeats 4000000 in
set_option maxRecDepth 100000 in
theorem law_ofWeek {p : Program} {l : Launch} {e : Env} {s : State} {m : MethodId} {below : List Frame} {meth : Method} {c : Code} (hfl : l.stackTraces = false) {D : va_G} {ad : Nat → Nat} {cI cJ cO cZ : ClassId} {b h0 o : Nat} {xs : Nat → Int32} {u r0 r1 r2 : Nat → Nat} {sa : Nat → Nat} (C0 : lw_At p s m meth c b 7 xs) (hN : ex_n s) (hE : ex_w sa s) (hZ : ex_z (fun q : Nat => s.heap.size ≤ q) s s.heap) (hKW : va_K D vwCl [(cI, .int), (cJ, .long)] s) (hKM : va_K D vwCl [(cI, .int), (cO, .array .int), (cZ, .boolean)] s) {H : Heap} {locs : List Loc} (hP : va_P D vwCl (wrW ad cI cJ o ++ tmW h0 u r0 r1 r2 cI cO cZ) H) (hD : va_D (fun q : Nat => s.heap.size ≤ q) (wrW ad cI cJ o ++ tmW h0 u r0 r1 r2 cI cO cZ)) (hS : va_S (fun q : Nat => s.heap.size ≤ q) s.heap H locs) {od : Nat} {ls : Array Slot} (hl : lv_has ls 9 [(5, .int 0), (4, .ref od), (3, .ref o), (2, .ref h0), (1, .ref (ad 0)), (0, .ref b)]) : W p l e room_1 s m #[Value.ref b] below meth c H locs 400 10000 (lw_Z below #[Value.ref b] s) (F0 m 1409 ls []) := by
  obtain ⟨hx, hb, hr, hml, hown, hts, hX, hbl, hlocks, hgv⟩ := id C0
  have hA : ∀ q : Nat, s.heap.size ≤ q → (fun q : Nat => s.heap.size ≤ q) q := fun _ h => h
  have hbA : ¬ (fun q : Nat => s.heap.size ≤ q) b := Nat.not_le.mpr hbl
  have ho : ∀ (k : Nat) (q : Nat × va_E), (tmW h0 u r0 r1 r2 cI cO cZ)[k]? = some q → q.1 ≠ o := ne_of hD 98 rfl
  have hne : h0 ≠ o := ho 0 (h0, _) rfl
  refine lv_aload_n hx hb dL_law_1409 rfl (lv_at hl 4 rfl) ?_
  refine lv_aload_n hx hb dL_law_1410 rfl (lv_at hl 5 rfl) ?_
  refine lv_iload hx hb dL_law_1411 (lv_at hl 0 rfl) ?_
  refine lv_iconst (v := 1) hx hb dL_law_1413 (by decide) ?_
  refine lv_iadd hx hb dL_law_1414 ?_
  refine W.eq (g2 := F0 m 1415 ls [.int 1, .ref b, .ref (ad 0)]) rfl ?_
  refine va_sld hx hb hX hbl hbA hS (by unfold vp_in; decide) dL_law_1415 ?_
  refine W.eq (g2 := F0 m 1416 ls [.int (xs 1), .ref (ad 0)]) rfl ?_
  refine lv_aload_n hx hb dL_law_1416 rfl (lv_at hl 5 rfl) ?_
  refine lv_iload hx hb dL_law_1417 (lv_at hl 0 rfl) ?_
  refine lv_iconst (v := 2) hx hb dL_law_1419 (by decide) ?_
  refine lv_iadd hx hb dL_law_1420 ?_
  refine W.eq (g2 := F0 m 1421 ls [.int 2, .ref b, .int (xs 1), .ref (ad 0)]) rfl ?_
  refine va_sld hx hb hX hbl hbA hS (by unfold vp_in; decide) dL_law_1421 ?_
  refine W.eq (g2 := F0 m 1422 ls [.int (xs 2), .int (xs 1), .ref (ad 0)]) rfl ?_
  refine lv_aload_n hx hb dL_law_1422 rfl (lv_at hl 5 rfl) ?_
  refine lv_iload hx hb dL_law_1423 (lv_at hl 0 rfl) ?_
  refine lv_iconst (v := 3) hx hb dL_law_1425 (by decide) ?_
  refine lv_iadd hx hb dL_law_1426 ?_
  refine W.eq (g2 := F0 m 1427 ls [.int 3, .ref b, .int (xs 2), .int (xs 1), .ref (ad 0)]) rfl ?_
  refine va_sld hx hb hX hbl hbA hS (by unfold vp_in; decide) dL_law_1427 ?_
  refine W.eq (g2 := F0 m 1428 ls [.int (xs 3), .int (xs 2), .int (xs 1), .ref (ad 0)]) rfl ?_
  refine lv_aload_n hx hb dL_law_1428 rfl (lv_at hl 2 rfl) ?_
  refine l_kw hP hD hS hA (vx_runSX (hh := [(0, 12, 15, 13), (0, 12, 19, 15)]) (As := [.ref (ad 0), .int (xs 1), .int (xs 2), .int (xs 3), .ref o]) (rest := []) ⟨hx, hb, hml, hown, hts⟩ (w_ofWeek l hfl D ad cI cJ H.size o (xs 1) (xs 2) (xs 3) sa) (vx_cwSW 5 hts gl_L_ofWeek rfl rfl rfl (by decide +kernel) ⟨Nat.le_of_ble_eq_true rfl, Nat.le_of_ble_eq_true rfl⟩) (w_preS hN hE hZ hKW (pre_P hP) (pre_D hD) hS hA) rfl rfl hl.1 rfl (lv_room (Nat.le_of_ble_eq_true rfl)) dL_law_1429 ⟨Nat.le_of_ble_eq_true rfl, Nat.le_of_ble_eq_true rfl⟩) (fun k f H locs hw hPo hPb hDb hS => ?_)
  refine lv_istore (lv' := [(6, .int k), (5, .int 0), (4, .ref od), (3, .ref o), (2, .ref h0), (1, .ref (ad 0)), (0, .ref b)]) hx hb dL_law_1432 hl (by decide) rfl (fun ls hl => ?_)
  refine lv_aload_n hx hb dL_law_1434 rfl (lv_at hl 4 rfl) ?_
  refine lv_aload_n hx hb dL_law_1435 rfl (lv_at hl 6 rfl) ?_
  refine lv_iload hx hb dL_law_1436 (lv_at hl 1 rfl) ?_
  refine lv_iconst (v := 1) hx hb dL_law_1438 (by decide) ?_
  refine lv_iadd hx hb dL_law_1439 ?_
  refine W.eq (g2 := F0 m 1440 ls [.int 1, .ref b, .ref h0]) rfl ?_
  refine va_sld hx hb hX hbl hbA hS (by unfold vp_in; decide) dL_law_1440 ?_
  refine W.eq (g2 := F0 m 1441 ls [.int (xs 1), .ref h0]) rfl ?_
  refine lv_aload_n hx hb dL_law_1441 rfl (lv_at hl 6 rfl) ?_
  refine lv_iload hx hb dL_law_1442 (lv_at hl 1 rfl) ?_
  refine lv_iconst (v := 2) hx hb dL_law_1444 (by decide) ?_
  refine lv_iadd hx hb dL_law_1445 ?_
  refine W.eq (g2 := F0 m 1446 ls [.int 2, .ref b, .int (xs 1), .ref h0]) rfl ?_
  refine va_sld hx hb hX hbl hbA hS (by unfold vp_in; decide) dL_law_1446 ?_
  refine W.eq (g2 := F0 m 1447 ls [.int (xs 2), .int (xs 1), .ref h0]) rfl ?_
  refine lv_aload_n hx hb dL_law_1447 rfl (lv_at hl 6 rfl) ?_
  refine lv_iload hx hb dL_law_1448 (lv_at hl 1 rfl) ?_
  refine lv_iconst (v := 3) hx hb dL_law_1450 (by decide) ?_
  refine lv_iadd hx hb dL_law_1451 ?_
  refine W.eq (g2 := F0 m 1452 ls [.int 3, .ref b, .int (xs 2), .int (xs 1), .ref h0]) rfl ?_
  refine va_sld hx hb hX hbl hbA hS (by unfold vp_in; decide) dL_law_1452 ?_
  refine W.eq (g2 := F0 m 1453 ls [.int (xs 3), .int (xs 2), .int (xs 1), .ref h0]) rfl ?_
  refine l_km hPb hDb hS hA hPo ho (va_runV (As := [.int (xs 1), .int (xs 2), .int (xs 3)]) (rest := []) ⟨hx, hb, hml, hown, hts⟩ (qm_ofWeek l D [(cI, .int), (cO, .array .int), (cZ, .boolean)] (tmW h0 u r0 r1 r2 cI cO cZ) H.size h0 _ (xs 1) (xs 2) (xs 3) rfl rfl (Nat.zero_lt_succ _)) (cwV 3 hts gl_X9_ofWeek rfl rfl rfl (by decide +kernel) ⟨Nat.le_of_ble_eq_true rfl, Nat.le_of_ble_eq_true rfl⟩) (g_preV hKM hPb hDb (ci := 9) (q0 := 0) rfl rfl) rfl rfl hl.1 rfl (lv_room (Nat.le_of_ble_eq_true rfl)) dL_law_1453 ⟨Nat.le_of_ble_eq_true rfl, Nat.le_of_ble_eq_true rfl⟩) (fun r v t H locs hv hm hPm hDm hPo hS => ?_)
  refine lv_istore (lv' := [(7, .int r), (6, .int k), (5, .int 0), (4, .ref od), (3, .ref o), (2, .ref h0), (1, .ref (ad 0)), (0, .ref b)]) hx hb dL_law_1456 hl (by decide) rfl (fun ls hl => ?_)
  refine lv_aload_n hx hb dL_law_1458 rfl (lv_at hl 5 rfl) ?_
  refine l_kt hDm hS hA hPo (ne1 hne) (va_runV (As := []) (rest := []) ⟨hx, hb, hml, hown, hts⟩ (q_thrown l D [(cI, .int), (cO, .array .int), (cZ, .boolean)] H.size h0 v t hv) (cwV 0 hts gl_X9_thrown rfl rfl rfl (by decide +kernel) ⟨Nat.le_of_ble_eq_true rfl, Nat.le_of_ble_eq_true rfl⟩) (g_preV hKM hPm hDm (ci := 9) (q0 := 0) rfl rfl) rfl rfl hl.1 rfl (lv_room (Nat.le_of_ble_eq_true rfl)) dL_law_1459 ⟨Nat.le_of_ble_eq_true rfl, Nat.le_of_ble_eq_true rfl⟩) (fun H locs hPo hS => ?_)
  have ag := ag_ofWeek (x0 := xs 1) (x1 := xs 2) (x2 := xs 3) (y := f 0) hw hm
  refine lv_iload hx hb dL_law_1462 (lv_at hl 1 rfl) ?_
  refine lv_icmp_eq (tgt := 1469) hx hb dL_law_1464 (by decide) (fun c_412 => ?_) (fun c_412 => ?_)
  · refine lv_iload hx hb dL_law_1469 (lv_at hl 1 rfl) ?_
    refine lv_if_ne (tgt := 1486) hx hb dL_law_1471 (by decide) (fun c_413 => ?_) (fun c_413 => ?_)
    · refine lv_goto (tgt := 2118) hx hb dL_law_1486 (by decide) ?_
      exact law_tail C0 hS (lv_sub hl [2, 7] rfl)
    · exact absurd ((show k = 1 from hw).symm.trans c_413) (by decide)
  · exact absurd ag.1 c_412
set_option maxHeartbeats 4000000 in
set_option maxRecDepth 100000 in
theorem law_share {p : Program} {l : Launch} {e : Env} {s : State} {m : MethodId} {below : List Frame} {meth : Method} {c : Code} (hfl : l.stackTraces = false) {D : va_G} {ad : Nat → Nat} {cI cJ cO cZ : ClassId} {b h0 o : Nat} {xs : Nat → Int32} {u r0 r1 r2 : Nat → Nat} {sa : Nat → Nat} (C0 : lw_At p s m meth c b 7 xs) (hN : ex_n s) (hE : ex_w sa s) (hZ : ex_z (fun q : Nat => s.heap.size ≤ q) s s.heap) (hKW : va_K D vwCl [(cI, .int), (cJ, .long)] s) (hKM : va_K D vwCl [(cI, .int), (cO, .array .int), (cZ, .boolean)] s) {H : Heap} {locs : List Loc} (hP : va_P D vwCl (wrW ad cI cJ o ++ tmW h0 u r0 r1 r2 cI cO cZ) H) (hD : va_D (fun q : Nat => s.heap.size ≤ q) (wrW ad cI cJ o ++ tmW h0 u r0 r1 r2 cI cO cZ)) (hS : va_S (fun q : Nat => s.heap.size ≤ q) s.heap H locs) {od : Nat} {ls : Array Slot} (hl : lv_has ls 9 [(5, .int 0), (4, .ref od), (3, .ref o), (2, .ref h0), (1, .ref (ad 0)), (0, .ref b)]) : W p l e room_1 s m #[Value.ref b] below meth c H locs 400 10000 (lw_Z below #[Value.ref b] s) (F0 m 1489 ls []) := by
  obtain ⟨hx, hb, hr, hml, hown, hts, hX, hbl, hlocks, hgv⟩ := id C0
  have hA : ∀ q : Nat, s.heap.size ≤ q → (fun q : Nat => s.heap.size ≤ q) q := fun _ h => h
  have hbA : ¬ (fun q : Nat => s.heap.size ≤ q) b := Nat.not_le.mpr hbl
  have ho : ∀ (k : Nat) (q : Nat × va_E), (tmW h0 u r0 r1 r2 cI cO cZ)[k]? = some q → q.1 ≠ o := ne_of hD 98 rfl
  have hne : h0 ≠ o := ho 0 (h0, _) rfl
  refine lv_aload_n hx hb dL_law_1489 rfl (lv_at hl 4 rfl) ?_
  refine lv_aload_n hx hb dL_law_1490 rfl (lv_at hl 5 rfl) ?_
  refine lv_iload hx hb dL_law_1491 (lv_at hl 0 rfl) ?_
  refine lv_iconst (v := 1) hx hb dL_law_1493 (by decide) ?_
  refine lv_iadd hx hb dL_law_1494 ?_
  refine W.eq (g2 := F0 m 1495 ls [.int 1, .ref b, .ref (ad 0)]) rfl ?_
  refine va_sld hx hb hX hbl hbA hS (by unfold vp_in; decide) dL_law_1495 ?_
  refine W.eq (g2 := F0 m 1496 ls [.int (xs 1), .ref (ad 0)]) rfl ?_
  refine lv_aload_n hx hb dL_law_1496 rfl (lv_at hl 5 rfl) ?_
  refine lv_iload hx hb dL_law_1497 (lv_at hl 0 rfl) ?_
  refine lv_iconst (v := 2) hx hb dL_law_1499 (by decide) ?_
  refine lv_iadd hx hb dL_law_1500 ?_
  refine W.eq (g2 := F0 m 1501 ls [.int 2, .ref b, .int (xs 1), .ref (ad 0)]) rfl ?_
  refine va_sld hx hb hX hbl hbA hS (by unfold vp_in; decide) dL_law_1501 ?_
  refine W.eq (g2 := F0 m 1502 ls [.int (xs 2), .int (xs 1), .ref (ad 0)]) rfl ?_
  refine lv_aload_n hx hb dL_law_1502 rfl (lv_at hl 5 rfl) ?_
  refine lv_iload hx hb dL_law_1503 (lv_at hl 0 rfl) ?_
  refine lv_iconst (v := 3) hx hb dL_law_1505 (by decide) ?_
  refine lv_iadd hx hb dL_law_1506 ?_
  refine W.eq (g2 := F0 m 1507 ls [.int 3, .ref b, .int (xs 2), .int (xs 1), .ref (ad 0)]) rfl ?_
  refine va_sld hx hb hX hbl hbA hS (by unfold vp_in; decide) dL_law_1507 ?_
  refine W.eq (g2 := F0 m 1508 ls [.int (xs 3), .int (xs 2), .int (xs 1), .ref (ad 0)]) rfl ?_
  refine lv_aload_n hx hb dL_law_1508 rfl (lv_at hl 2 rfl) ?_
  refine l_kw hP hD hS hA (vx_runSX (hh := [(0, 12, 15, 13)]) (As := [.ref (ad 0), .int (xs 1), .int (xs 2), .int (xs 3), .ref o]) (rest := []) ⟨hx, hb, hml, hown, hts⟩ (w_share l hfl D ad cI cJ H.size o (xs 1) (xs 2) (xs 3) sa) (vx_cwSW 5 hts gl_L_share rfl rfl rfl (by decide +kernel) ⟨Nat.le_of_ble_eq_true rfl, Nat.le_of_ble_eq_true rfl⟩) (w_preS hN hE hZ hKW (pre_P hP) (pre_D hD) hS hA) rfl rfl hl.1 rfl (lv_room (Nat.le_of_ble_eq_true rfl)) dL_law_1509 ⟨Nat.le_of_ble_eq_true rfl, Nat.le_of_ble_eq_true rfl⟩) (fun k f H locs hw hPo hPb hDb hS => ?_)
  refine lv_istore (lv' := [(6, .int k), (5, .int 0), (4, .ref od), (3, .ref o), (2, .ref h0), (1, .ref (ad 0)), (0, .ref b)]) hx hb dL_law_1512 hl (by decide) rfl (fun ls hl => ?_)
  refine lv_aload_n hx hb dL_law_1514 rfl (lv_at hl 4 rfl) ?_
  refine lv_aload_n hx hb dL_law_1515 rfl (lv_at hl 6 rfl) ?_
  refine lv_iload hx hb dL_law_1516 (lv_at hl 1 rfl) ?_
  refine lv_iconst (v := 1) hx hb dL_law_1518 (by decide) ?_
  refine lv_iadd hx hb dL_law_1519 ?_
  refine W.eq (g2 := F0 m 1520 ls [.int 1, .ref b, .ref h0]) rfl ?_
  refine va_sld hx hb hX hbl hbA hS (by unfold vp_in; decide) dL_law_1520 ?_
  refine W.eq (g2 := F0 m 1521 ls [.int (xs 1), .ref h0]) rfl ?_
  refine lv_aload_n hx hb dL_law_1521 rfl (lv_at hl 6 rfl) ?_
  refine lv_iload hx hb dL_law_1522 (lv_at hl 1 rfl) ?_
  refine lv_iconst (v := 2) hx hb dL_law_1524 (by decide) ?_
  refine lv_iadd hx hb dL_law_1525 ?_
  refine W.eq (g2 := F0 m 1526 ls [.int 2, .ref b, .int (xs 1), .ref h0]) rfl ?_
  refine va_sld hx hb hX hbl hbA hS (by unfold vp_in; decide) dL_law_1526 ?_
  refine W.eq (g2 := F0 m 1527 ls [.int (xs 2), .int (xs 1), .ref h0]) rfl ?_
  refine lv_aload_n hx hb dL_law_1527 rfl (lv_at hl 6 rfl) ?_
  refine lv_iload hx hb dL_law_1528 (lv_at hl 1 rfl) ?_
  refine lv_iconst (v := 3) hx hb dL_law_1530 (by decide) ?_
  refine lv_iadd hx hb dL_law_1531 ?_
  refine W.eq (g2 := F0 m 1532 ls [.int 3, .ref b, .int (xs 2), .int (xs 1), .ref h0]) rfl ?_
  refine va_sld hx hb hX hbl hbA hS (by unfold vp_in; decide) dL_law_1532 ?_
  refine W.eq (g2 := F0 m 1533 ls [.int (xs 3), .int (xs 2), .int (xs 1), .ref h0]) rfl ?_
  refine l_km hPb hDb hS hA hPo ho (va_runV (As := [.int (xs 1), .int (xs 2), .int (xs 3)]) (rest := []) ⟨hx, hb, hml, hown, hts⟩ (qm_share l D [(cI, .int), (cO, .array .int), (cZ, .boolean)] (tmW h0 u r0 r1 r2 cI cO cZ) H.size h0 _ (xs 1) (xs 2) (xs 3) rfl rfl (Nat.zero_lt_succ _)) (cwV 3 hts gl_X9_share rfl rfl rfl (by decide +kernel) ⟨Nat.le_of_ble_eq_true rfl, Nat.le_of_ble_eq_true rfl⟩) (g_preV hKM hPb hDb (ci := 9) (q0 := 0) rfl rfl) rfl rfl hl.1 rfl (lv_room (Nat.le_of_ble_eq_true rfl)) dL_law_1533 ⟨Nat.le_of_ble_eq_true rfl, Nat.le_of_ble_eq_true rfl⟩) (fun r v t H locs hv hm hPm hDm hPo hS => ?_)
  refine lv_istore (lv' := [(7, .int r), (6, .int k), (5, .int 0), (4, .ref od), (3, .ref o), (2, .ref h0), (1, .ref (ad 0)), (0, .ref b)]) hx hb dL_law_1536 hl (by decide) rfl (fun ls hl => ?_)
  refine lv_aload_n hx hb dL_law_1538 rfl (lv_at hl 5 rfl) ?_
  refine l_kt hDm hS hA hPo (ne1 hne) (va_runV (As := []) (rest := []) ⟨hx, hb, hml, hown, hts⟩ (q_thrown l D [(cI, .int), (cO, .array .int), (cZ, .boolean)] H.size h0 v t hv) (cwV 0 hts gl_X9_thrown rfl rfl rfl (by decide +kernel) ⟨Nat.le_of_ble_eq_true rfl, Nat.le_of_ble_eq_true rfl⟩) (g_preV hKM hPm hDm (ci := 9) (q0 := 0) rfl rfl) rfl rfl hl.1 rfl (lv_room (Nat.le_of_ble_eq_true rfl)) dL_law_1539 ⟨Nat.le_of_ble_eq_true rfl, Nat.le_of_ble_eq_true rfl⟩) (fun H locs hPo hS => ?_)
  have ag := ag_share (x0 := xs 1) (x1 := xs 2) (x2 := xs 3) (y := f 0) hw hm
  refine lv_iload hx hb dL_law_1542 (lv_at hl 1 rfl) ?_
  refine lv_icmp_eq (tgt := 1549) hx hb dL_law_1544 (by decide) (fun c_414 => ?_) (fun c_414 => ?_)
  · refine lv_iload hx hb dL_law_1549 (lv_at hl 1 rfl) ?_
    refine lv_if_ne (tgt := 1566) hx hb dL_law_1551 (by decide) (fun c_415 => ?_) (fun c_415 => ?_)
    · refine lv_goto (tgt := 2118) hx hb dL_law_1566 (by decide) ?_
      exact law_tail C0 hS (lv_sub hl [2, 7] rfl)
    · exact absurd ((show k = 1 from hw).symm.trans c_415) (by decide)
  · exact absurd ag.1 c_414
set_option maxHeartbeats 4000000 in
set_option maxRecDepth 100000 in
theorem law_check {p : Program} {l : Launch} {e : Env} {s : State} {m : MethodId} {below : List Frame} {meth : Method} {c : Code} (hfl : l.stackTraces = false) {D : va_G} {ad : Nat → Nat} {cI cJ cO cZ : ClassId} {b h0 o : Nat} {xs : Nat → Int32} {u r0 r1 r2 : Nat → Nat} {sa : Nat → Nat} (C0 : lw_At p s m meth c b 7 xs) (hN : ex_n s) (hE : ex_w sa s) (hZ : ex_z (fun q : Nat => s.heap.size ≤ q) s s.heap) (hKW : va_K D vwCl [(cI, .int), (cJ, .long)] s) (hKM : va_K D vwCl [(cI, .int), (cO, .array .int), (cZ, .boolean)] s) {H : Heap} {locs : List Loc} (hP : va_P D vwCl (wrW ad cI cJ o ++ tmW h0 u r0 r1 r2 cI cO cZ) H) (hD : va_D (fun q : Nat => s.heap.size ≤ q) (wrW ad cI cJ o ++ tmW h0 u r0 r1 r2 cI cO cZ)) (hS : va_S (fun q : Nat => s.heap.size ≤ q) s.heap H locs) {od : Nat} {ls : Array Slot} (hl : lv_has ls 9 [(5, .int 0), (4, .ref od), (3, .ref o), (2, .ref h0), (1, .ref (ad 0)), (0, .ref b)]) : W p l e room_1 s m #[Value.ref b] below meth c H locs 400 10000 (lw_Z below #[Value.ref b] s) (F0 m 1569 ls []) := by
  obtain ⟨hx, hb, hr, hml, hown, hts, hX, hbl, hlocks, hgv⟩ := id C0
  have hA : ∀ q : Nat, s.heap.size ≤ q → (fun q : Nat => s.heap.size ≤ q) q := fun _ h => h
  have hbA : ¬ (fun q : Nat => s.heap.size ≤ q) b := Nat.not_le.mpr hbl
  have ho : ∀ (k : Nat) (q : Nat × va_E), (tmW h0 u r0 r1 r2 cI cO cZ)[k]? = some q → q.1 ≠ o := ne_of hD 98 rfl
  have hne : h0 ≠ o := ho 0 (h0, _) rfl
  refine lv_aload_n hx hb dL_law_1569 rfl (lv_at hl 4 rfl) ?_
  refine lv_aload_n hx hb dL_law_1570 rfl (lv_at hl 5 rfl) ?_
  refine lv_iload hx hb dL_law_1571 (lv_at hl 0 rfl) ?_
  refine lv_iconst (v := 1) hx hb dL_law_1573 (by decide) ?_
  refine lv_iadd hx hb dL_law_1574 ?_
  refine W.eq (g2 := F0 m 1575 ls [.int 1, .ref b, .ref (ad 0)]) rfl ?_
  refine va_sld hx hb hX hbl hbA hS (by unfold vp_in; decide) dL_law_1575 ?_
  refine W.eq (g2 := F0 m 1576 ls [.int (xs 1), .ref (ad 0)]) rfl ?_
  refine lv_aload_n hx hb dL_law_1576 rfl (lv_at hl 5 rfl) ?_
  refine lv_iload hx hb dL_law_1577 (lv_at hl 0 rfl) ?_
  refine lv_iconst (v := 2) hx hb dL_law_1579 (by decide) ?_
  refine lv_iadd hx hb dL_law_1580 ?_
  refine W.eq (g2 := F0 m 1581 ls [.int 2, .ref b, .int (xs 1), .ref (ad 0)]) rfl ?_
  refine va_sld hx hb hX hbl hbA hS (by unfold vp_in; decide) dL_law_1581 ?_
  refine W.eq (g2 := F0 m 1582 ls [.int (xs 2), .int (xs 1), .ref (ad 0)]) rfl ?_
  refine lv_aload_n hx hb dL_law_1582 rfl (lv_at hl 5 rfl) ?_
  refine lv_iload hx hb dL_law_1583 (lv_at hl 0 rfl) ?_
  refine lv_iconst (v := 3) hx hb dL_law_1585 (by decide) ?_
  refine lv_iadd hx hb dL_law_1586 ?_
  refine W.eq (g2 := F0 m 1587 ls [.int 3, .ref b, .int (xs 2), .int (xs 1), .ref (ad 0)]) rfl ?_
  refine va_sld hx hb hX hbl hbA hS (by unfold vp_in; decide) dL_law_1587 ?_
  refine W.eq (g2 := F0 m 1588 ls [.int (xs 3), .int (xs 2), .int (xs 1), .ref (ad 0)]) rfl ?_
  refine lv_aload_n hx hb dL_law_1588 rfl (lv_at hl 2 rfl) ?_
  refine l_kw hP hD hS hA (vx_runSX (hh := [(0, 12, 15, 13), (0, 12, 19, 15)]) (As := [.ref (ad 0), .int (xs 1), .int (xs 2), .int (xs 3), .ref o]) (rest := []) ⟨hx, hb, hml, hown, hts⟩ (w_check l hfl D ad cI cJ H.size o (xs 1) (xs 2) (xs 3) sa) (vx_cwSW 5 hts gl_L_check rfl rfl rfl (by decide +kernel) ⟨Nat.le_of_ble_eq_true rfl, Nat.le_of_ble_eq_true rfl⟩) (w_preS hN hE hZ hKW (pre_P hP) (pre_D hD) hS hA) rfl rfl hl.1 rfl (lv_room (Nat.le_of_ble_eq_true rfl)) dL_law_1589 ⟨Nat.le_of_ble_eq_true rfl, Nat.le_of_ble_eq_true rfl⟩) (fun k f H locs hw hPo hPb hDb hS => ?_)
  refine lv_istore (lv' := [(6, .int k), (5, .int 0), (4, .ref od), (3, .ref o), (2, .ref h0), (1, .ref (ad 0)), (0, .ref b)]) hx hb dL_law_1592 hl (by decide) rfl (fun ls hl => ?_)
  refine lv_aload_n hx hb dL_law_1594 rfl (lv_at hl 4 rfl) ?_
  refine lv_aload_n hx hb dL_law_1595 rfl (lv_at hl 6 rfl) ?_
  refine lv_iload hx hb dL_law_1596 (lv_at hl 1 rfl) ?_
  refine lv_iconst (v := 1) hx hb dL_law_1598 (by decide) ?_
  refine lv_iadd hx hb dL_law_1599 ?_
  refine W.eq (g2 := F0 m 1600 ls [.int 1, .ref b, .ref h0]) rfl ?_
  refine va_sld hx hb hX hbl hbA hS (by unfold vp_in; decide) dL_law_1600 ?_
  refine W.eq (g2 := F0 m 1601 ls [.int (xs 1), .ref h0]) rfl ?_
  refine lv_aload_n hx hb dL_law_1601 rfl (lv_at hl 6 rfl) ?_
  refine lv_iload hx hb dL_law_1602 (lv_at hl 1 rfl) ?_
  refine lv_iconst (v := 2) hx hb dL_law_1604 (by decide) ?_
  refine lv_iadd hx hb dL_law_1605 ?_
  refine W.eq (g2 := F0 m 1606 ls [.int 2, .ref b, .int (xs 1), .ref h0]) rfl ?_
  refine va_sld hx hb hX hbl hbA hS (by unfold vp_in; decide) dL_law_1606 ?_
  refine W.eq (g2 := F0 m 1607 ls [.int (xs 2), .int (xs 1), .ref h0]) rfl ?_
  refine lv_aload_n hx hb dL_law_1607 rfl (lv_at hl 6 rfl) ?_
  refine lv_iload hx hb dL_law_1608 (lv_at hl 1 rfl) ?_
  refine lv_iconst (v := 3) hx hb dL_law_1610 (by decide) ?_
  refine lv_iadd hx hb dL_law_1611 ?_
  refine W.eq (g2 := F0 m 1612 ls [.int 3, .ref b, .int (xs 2), .int (xs 1), .ref h0]) rfl ?_
  refine va_sld hx hb hX hbl hbA hS (by unfold vp_in; decide) dL_law_1612 ?_
  refine W.eq (g2 := F0 m 1613 ls [.int (xs 3), .int (xs 2), .int (xs 1), .ref h0]) rfl ?_
  refine l_km hPb hDb hS hA hPo ho (va_runV (As := [.int (xs 1), .int (xs 2), .int (xs 3)]) (rest := []) ⟨hx, hb, hml, hown, hts⟩ (qm_check l D [(cI, .int), (cO, .array .int), (cZ, .boolean)] (tmW h0 u r0 r1 r2 cI cO cZ) H.size h0 _ (xs 1) (xs 2) (xs 3) rfl rfl (Nat.zero_lt_succ _)) (cwV 3 hts gl_X9_check rfl rfl rfl (by decide +kernel) ⟨Nat.le_of_ble_eq_true rfl, Nat.le_of_ble_eq_true rfl⟩) (g_preV hKM hPb hDb (ci := 9) (q0 := 0) rfl rfl) rfl rfl hl.1 rfl (lv_room (Nat.le_of_ble_eq_true rfl)) dL_law_1613 ⟨Nat.le_of_ble_eq_true rfl, Nat.le_of_ble_eq_true rfl⟩) (fun r v t H locs hv hm hPm hDm hPo hS => ?_)
  refine lv_istore (lv' := [(7, .int r), (6, .int k), (5, .int 0), (4, .ref od), (3, .ref o), (2, .ref h0), (1, .ref (ad 0)), (0, .ref b)]) hx hb dL_law_1616 hl (by decide) rfl (fun ls hl => ?_)
  refine lv_aload_n hx hb dL_law_1618 rfl (lv_at hl 5 rfl) ?_
  refine l_kt hDm hS hA hPo (ne1 hne) (va_runV (As := []) (rest := []) ⟨hx, hb, hml, hown, hts⟩ (q_thrown l D [(cI, .int), (cO, .array .int), (cZ, .boolean)] H.size h0 v t hv) (cwV 0 hts gl_X9_thrown rfl rfl rfl (by decide +kernel) ⟨Nat.le_of_ble_eq_true rfl, Nat.le_of_ble_eq_true rfl⟩) (g_preV hKM hPm hDm (ci := 9) (q0 := 0) rfl rfl) rfl rfl hl.1 rfl (lv_room (Nat.le_of_ble_eq_true rfl)) dL_law_1619 ⟨Nat.le_of_ble_eq_true rfl, Nat.le_of_ble_eq_true rfl⟩) (fun H locs hPo hS => ?_)
  have ag := ag_check (x0 := xs 1) (x1 := xs 2) (x2 := xs 3) (y := f 0) hw hm
  refine lv_iload hx hb dL_law_1622 (lv_at hl 1 rfl) ?_
  refine lv_icmp_eq (tgt := 1629) hx hb dL_law_1624 (by decide) (fun c_416 => ?_) (fun c_416 => ?_)
  · refine lv_iload hx hb dL_law_1629 (lv_at hl 1 rfl) ?_
    refine lv_if_ne (tgt := 1646) hx hb dL_law_1631 (by decide) (fun c_417 => ?_) (fun c_417 => ?_)
    · refine lv_goto (tgt := 2118) hx hb dL_law_1646 (by decide) ?_
      exact law_tail C0 hS (lv_sub hl [2, 7] rfl)
    · exact absurd ((show k = 1 from hw).symm.trans c_417) (by decide)
  · exact absurd ag.1 c_416
set_option maxHeartbeats 4000000 in
set_option maxRecDepth 100000 in
theorem law_many {p : Program} {l : Launch} {e : Env} {s : State} {m : MethodId} {below : List Frame} {meth : Method} {c : Code} (hfl : l.stackTraces = false) {D : va_G} {ad : Nat → Nat} {cI cJ cO cZ : ClassId} {b h0 o : Nat} {xs : Nat → Int32} {u r0 r1 r2 : Nat → Nat} {sa : Nat → Nat} (C0 : lw_At p s m meth c b 7 xs) (hN : ex_n s) (hE : ex_w sa s) (hZ : ex_z (fun q : Nat => s.heap.size ≤ q) s s.heap) (hKW : va_K D vwCl [(cI, .int), (cJ, .long)] s) (hKM : va_K D vwCl [(cI, .int), (cO, .array .int), (cZ, .boolean)] s) {H : Heap} {locs : List Loc} (hP : va_P D vwCl (wrW ad cI cJ o ++ tmW h0 u r0 r1 r2 cI cO cZ) H) (hD : va_D (fun q : Nat => s.heap.size ≤ q) (wrW ad cI cJ o ++ tmW h0 u r0 r1 r2 cI cO cZ)) (hS : va_S (fun q : Nat => s.heap.size ≤ q) s.heap H locs) {od : Nat} {ls : Array Slot} (hl : lv_has ls 9 [(5, .int 0), (4, .ref od), (3, .ref o), (2, .ref h0), (1, .ref (ad 0)), (0, .ref b)]) : W p l e room_1 s m #[Value.ref b] below meth c H locs 400 10000 (lw_Z below #[Value.ref b] s) (F0 m 1649 ls []) := by
  obtain ⟨hx, hb, hr, hml, hown, hts, hX, hbl, hlocks, hgv⟩ := id C0
  have hA : ∀ q : Nat, s.heap.size ≤ q → (fun q : Nat => s.heap.size ≤ q) q := fun _ h => h
  have hbA : ¬ (fun q : Nat => s.heap.size ≤ q) b := Nat.not_le.mpr hbl
  have ho : ∀ (k : Nat) (q : Nat × va_E), (tmW h0 u r0 r1 r2 cI cO cZ)[k]? = some q → q.1 ≠ o := ne_of hD 98 rfl
  have hne : h0 ≠ o := ho 0 (h0, _) rfl
  refine lv_aload_n hx hb dL_law_1649 rfl (lv_at hl 4 rfl) ?_
  refine lv_aload_n hx hb dL_law_1650 rfl (lv_at hl 5 rfl) ?_
  refine lv_iload hx hb dL_law_1651 (lv_at hl 0 rfl) ?_
  refine lv_iconst (v := 1) hx hb dL_law_1653 (by decide) ?_
  refine lv_iadd hx hb dL_law_1654 ?_
  refine W.eq (g2 := F0 m 1655 ls [.int 1, .ref b, .ref (ad 0)]) rfl ?_
  refine va_sld hx hb hX hbl hbA hS (by unfold vp_in; decide) dL_law_1655 ?_
  refine W.eq (g2 := F0 m 1656 ls [.int (xs 1), .ref (ad 0)]) rfl ?_
  refine lv_aload_n hx hb dL_law_1656 rfl (lv_at hl 2 rfl) ?_
  refine l_kw hP hD hS hA (vx_runSX (hh := [(0, 9, 12, 15)]) (As := [.ref (ad 0), .int (xs 1), .ref o]) (rest := []) ⟨hx, hb, hml, hown, hts⟩ (w_many l hfl D ad cI cJ H.size o (xs 1) sa) (vx_cwSW 3 hts gl_L_many rfl rfl rfl (by decide +kernel) ⟨Nat.le_of_ble_eq_true rfl, Nat.le_of_ble_eq_true rfl⟩) (w_preS hN hE hZ hKW (pre_P hP) (pre_D hD) hS hA) rfl rfl hl.1 rfl (lv_room (Nat.le_of_ble_eq_true rfl)) dL_law_1657 ⟨Nat.le_of_ble_eq_true rfl, Nat.le_of_ble_eq_true rfl⟩) (fun k f H locs hw hPo hPb hDb hS => ?_)
  refine lv_istore (lv' := [(6, .int k), (5, .int 0), (4, .ref od), (3, .ref o), (2, .ref h0), (1, .ref (ad 0)), (0, .ref b)]) hx hb dL_law_1660 hl (by decide) rfl (fun ls hl => ?_)
  refine lv_aload_n hx hb dL_law_1662 rfl (lv_at hl 4 rfl) ?_
  refine lv_aload_n hx hb dL_law_1663 rfl (lv_at hl 6 rfl) ?_
  refine lv_iload hx hb dL_law_1664 (lv_at hl 1 rfl) ?_
  refine lv_iconst (v := 1) hx hb dL_law_1666 (by decide) ?_
  refine lv_iadd hx hb dL_law_1667 ?_
  refine W.eq (g2 := F0 m 1668 ls [.int 1, .ref b, .ref h0]) rfl ?_
  refine va_sld hx hb hX hbl hbA hS (by unfold vp_in; decide) dL_law_1668 ?_
  refine W.eq (g2 := F0 m 1669 ls [.int (xs 1), .ref h0]) rfl ?_
  refine l_km hPb hDb hS hA hPo ho (va_runV (As := [.int (xs 1)]) (rest := []) ⟨hx, hb, hml, hown, hts⟩ (qm_many l D H.size h0 u r0 r1 r2 cI cO cZ (tmP r0 r1 r2 cI) (xs 1)) (cwV 1 hts gl_X9_many rfl rfl rfl (by decide +kernel) ⟨Nat.le_of_ble_eq_true rfl, Nat.le_of_ble_eq_true rfl⟩) (g_preV hKM hPb hDb (ci := 9) (q0 := 0) rfl rfl) rfl rfl hl.1 rfl (lv_room (Nat.le_of_ble_eq_true rfl)) dL_law_1669 ⟨Nat.le_of_ble_eq_true rfl, Nat.le_of_ble_eq_true rfl⟩) (fun r v t H locs hv hm hPm hDm hPo hS => ?_)
  refine lv_istore (lv' := [(7, .int r), (6, .int k), (5, .int 0), (4, .ref od), (3, .ref o), (2, .ref h0), (1, .ref (ad 0)), (0, .ref b)]) hx hb dL_law_1672 hl (by decide) rfl (fun ls hl => ?_)
  refine lv_aload_n hx hb dL_law_1674 rfl (lv_at hl 5 rfl) ?_
  refine l_kt hDm hS hA hPo (ne1 hne) (va_runV (As := []) (rest := []) ⟨hx, hb, hml, hown, hts⟩ (q_thrown l D [(cI, .int), (cO, .array .int), (cZ, .boolean)] H.size h0 v t hv) (cwV 0 hts gl_X9_thrown rfl rfl rfl (by decide +kernel) ⟨Nat.le_of_ble_eq_true rfl, Nat.le_of_ble_eq_true rfl⟩) (g_preV hKM hPm hDm (ci := 9) (q0 := 0) rfl rfl) rfl rfl hl.1 rfl (lv_room (Nat.le_of_ble_eq_true rfl)) dL_law_1675 ⟨Nat.le_of_ble_eq_true rfl, Nat.le_of_ble_eq_true rfl⟩) (fun H locs hPo hS => ?_)
  have ag := ag_many (x0 := xs 1) (y := f 0) hw hm
  refine lv_iload hx hb dL_law_1678 (lv_at hl 1 rfl) ?_
  refine lv_icmp_eq (tgt := 1685) hx hb dL_law_1680 (by decide) (fun c_418 => ?_) (fun c_418 => ?_)
  · refine lv_iload hx hb dL_law_1685 (lv_at hl 1 rfl) ?_
    refine lv_if_ne (tgt := 1702) hx hb dL_law_1687 (by decide) (fun c_419 => ?_) (fun c_419 => ?_)
    · refine lv_goto (tgt := 2118) hx hb dL_law_1702 (by decide) ?_
      exact law_tail C0 hS (lv_sub hl [2, 7] rfl)
    · have agv := ag.2 c_419
      refine lv_aload_n hx hb dL_law_1690 rfl (lv_at hl 4 rfl) ?_
      refine lv_iconst (v := 0) hx hb dL_law_1691 (by decide) ?_
      refine va_lald (tys := [(cI, .int), (cJ, .long)]) hx hb hKW hPo 0 1 rfl rfl (by unfold vp_in; decide) dL_law_1692 ?_
      refine W.eq (g2 := F0 m 1693 ls [.long (f 0)]) rfl ?_
      refine lv_iload hx hb dL_law_1693 (lv_at hl 0 rfl) ?_
      refine lv_i2l (v := r.toInt64) hx hb dL_law_1695 rfl ?_
      refine W.lcmp hx hb dL_law_1696 ?_
      refine lv_if_eq (tgt := 1702) hx hb dL_law_1697 (by decide) (fun c_420 => ?_) (fun c_420 => ?_)
      · refine lv_goto (tgt := 2118) hx hb dL_law_1702 (by decide) ?_
        exact law_tail C0 hS (lv_sub hl [2, 7] rfl)
      · exact absurd (by rw [agv]; exact lg_cmp_self _) c_420
  · exact absurd ag.1 c_418
set_option maxHeartbeats 4000000 in
set_option maxRecDepth 100000 in
theorem law_meanFare {p : Program} {l : Launch} {e : Env} {s : State} {m : MethodId} {below : List Frame} {meth : Method} {c : Code} (hfl : l.stackTraces = false) {D : va_G} {ad : Nat → Nat} {cI cJ cO cZ : ClassId} {b h0 o : Nat} {xs : Nat → Int32} {u r0 r1 r2 : Nat → Nat} {sa : Nat → Nat} (C0 : lw_At p s m meth c b 7 xs) (hN : ex_n s) (hE : ex_w sa s) (hZ : ex_z (fun q : Nat => s.heap.size ≤ q) s s.heap) (hKW : va_K D vwCl [(cI, .int), (cJ, .double)] s) (hKM : va_K D vwCl [(cI, .int), (cO, .array .int), (cZ, .boolean)] s) {H : Heap} {locs : List Loc} (hP : va_P D vwCl (wrD ad cI cJ o ++ tmW h0 u r0 r1 r2 cI cO cZ) H) (hD : va_D (fun q : Nat => s.heap.size ≤ q) (wrD ad cI cJ o ++ tmW h0 u r0 r1 r2 cI cO cZ)) (hS : va_S (fun q : Nat => s.heap.size ≤ q) s.heap H locs) {od : Nat} {ls : Array Slot} (hl : lv_has ls 9 [(5, .int 0), (4, .ref o), (3, .ref od), (2, .ref h0), (1, .ref (ad 0)), (0, .ref b)]) : W p l e room_1 s m #[Value.ref b] below meth c H locs 400 10000 (lw_Z below #[Value.ref b] s) (F0 m 1705 ls []) := by
  obtain ⟨hx, hb, hr, hml, hown, hts, hX, hbl, hlocks, hgv⟩ := id C0
  have hA : ∀ q : Nat, s.heap.size ≤ q → (fun q : Nat => s.heap.size ≤ q) q := fun _ h => h
  have hbA : ¬ (fun q : Nat => s.heap.size ≤ q) b := Nat.not_le.mpr hbl
  have ho : ∀ (k : Nat) (q : Nat × va_E), (tmW h0 u r0 r1 r2 cI cO cZ)[k]? = some q → q.1 ≠ o := ne_of hD 98 rfl
  have hne : h0 ≠ o := ho 0 (h0, _) rfl
  refine lv_aload_n hx hb dL_law_1705 rfl (lv_at hl 4 rfl) ?_
  refine lv_aload_n hx hb dL_law_1706 rfl (lv_at hl 5 rfl) ?_
  refine lv_iload hx hb dL_law_1707 (lv_at hl 0 rfl) ?_
  refine lv_iconst (v := 1) hx hb dL_law_1709 (by decide) ?_
  refine lv_iadd hx hb dL_law_1710 ?_
  refine W.eq (g2 := F0 m 1711 ls [.int 1, .ref b, .ref (ad 0)]) rfl ?_
  refine va_sld hx hb hX hbl hbA hS (by unfold vp_in; decide) dL_law_1711 ?_
  refine W.eq (g2 := F0 m 1712 ls [.int (xs 1), .ref (ad 0)]) rfl ?_
  refine lv_aload hx hb dL_law_1712 (lv_at hl 1 rfl) ?_
  refine l_kwd hP hD hS hA (vx_runSX (hh := [(0, 8, 11, 13)]) (As := [.ref (ad 0), .int (xs 1), .ref o]) (rest := []) ⟨hx, hb, hml, hown, hts⟩ (w_meanFare l hfl D ad cI cJ H.size o (xs 1) sa) (vx_cwSW 3 hts gl_L_meanFare rfl rfl rfl (by decide +kernel) ⟨Nat.le_of_ble_eq_true rfl, Nat.le_of_ble_eq_true rfl⟩) (w_preS hN hE hZ hKW (pre_P hP) (pre_D hD) hS hA) rfl rfl hl.1 rfl (lv_room (Nat.le_of_ble_eq_true rfl)) dL_law_1714 ⟨Nat.le_of_ble_eq_true rfl, Nat.le_of_ble_eq_true rfl⟩) (fun k f H locs hw hPo hPb hDb hS => ?_)
  refine lv_istore (lv' := [(6, .int k), (5, .int 0), (4, .ref o), (3, .ref od), (2, .ref h0), (1, .ref (ad 0)), (0, .ref b)]) hx hb dL_law_1717 hl (by decide) rfl (fun ls hl => ?_)
  refine lv_aload_n hx hb dL_law_1719 rfl (lv_at hl 4 rfl) ?_
  refine lv_aload_n hx hb dL_law_1720 rfl (lv_at hl 6 rfl) ?_
  refine lv_iload hx hb dL_law_1721 (lv_at hl 1 rfl) ?_
  refine lv_iconst (v := 1) hx hb dL_law_1723 (by decide) ?_
  refine lv_iadd hx hb dL_law_1724 ?_
  refine W.eq (g2 := F0 m 1725 ls [.int 1, .ref b, .ref h0]) rfl ?_
  refine va_sld hx hb hX hbl hbA hS (by unfold vp_in; decide) dL_law_1725 ?_
  refine W.eq (g2 := F0 m 1726 ls [.int (xs 1), .ref h0]) rfl ?_
  refine l_kmd hPb hDb hS hA hPo ho (va_runV (As := [.int (xs 1)]) (rest := []) ⟨hx, hb, hml, hown, hts⟩ (qm_meanFare l D H.size h0 u r0 r1 r2 cI cO cZ (tmP r0 r1 r2 cI) (xs 1)) (cwV 1 hts gl_X9_meanFare rfl rfl rfl (by decide +kernel) ⟨Nat.le_of_ble_eq_true rfl, Nat.le_of_ble_eq_true rfl⟩) (g_preV hKM hPb hDb (ci := 9) (q0 := 0) rfl rfl) rfl rfl hl.1 rfl (lv_room (Nat.le_of_ble_eq_true rfl)) dL_law_1726 ⟨Nat.le_of_ble_eq_true rfl, Nat.le_of_ble_eq_true rfl⟩) (fun r v t H locs hv hm hPm hDm hPo hS => ?_)
  refine lv_dstore (lv' := [(7, .double r), (6, .int k), (5, .int 0), (4, .ref o), (3, .ref od), (2, .ref h0), (1, .ref (ad 0)), (0, .ref b)]) hx hb dL_law_1729 hl (by decide) rfl (fun ls hl => ?_)
  refine lv_aload_n hx hb dL_law_1731 rfl (lv_at hl 5 rfl) ?_
  refine l_kt hDm hS hA hPo (ne1 hne) (va_runV (As := []) (rest := []) ⟨hx, hb, hml, hown, hts⟩ (q_thrown l D [(cI, .int), (cO, .array .int), (cZ, .boolean)] H.size h0 v t hv) (cwV 0 hts gl_X9_thrown rfl rfl rfl (by decide +kernel) ⟨Nat.le_of_ble_eq_true rfl, Nat.le_of_ble_eq_true rfl⟩) (g_preV hKM hPm hDm (ci := 9) (q0 := 0) rfl rfl) rfl rfl hl.1 rfl (lv_room (Nat.le_of_ble_eq_true rfl)) dL_law_1732 ⟨Nat.le_of_ble_eq_true rfl, Nat.le_of_ble_eq_true rfl⟩) (fun H locs hPo hS => ?_)
  have ag := ag_meanFare (x0 := xs 1) (y := f 0) hw hm
  refine lv_iload hx hb dL_law_1735 (lv_at hl 1 rfl) ?_
  refine lv_icmp_eq (tgt := 1742) hx hb dL_law_1737 (by decide) (fun c_421 => ?_) (fun c_421 => ?_)
  · refine lv_iload hx hb dL_law_1742 (lv_at hl 1 rfl) ?_
    refine lv_if_ne (tgt := 1779) hx hb dL_law_1744 (by decide) (fun c_422 => ?_) (fun c_422 => ?_)
    · refine lv_goto (tgt := 2118) hx hb dL_law_1779 (by decide) ?_
      exact law_tail C0 hS (lv_sub hl [2, 7] rfl)
    · have agv := ag.2 c_422
      refine lv_aload hx hb dL_law_1747 (lv_at hl 3 rfl) ?_
      refine lv_iconst (v := 0) hx hb dL_law_1749 (by decide) ?_
      refine va_dald (tys := [(cI, .int), (cJ, .double)]) hx hb hKW hPo 0 1 rfl rfl (by unfold vp_in; decide) dL_law_1750 ?_
      refine W.eq (g2 := F0 m 1751 ls [.double (f 0)]) rfl ?_
      refine lv_dload hx hb dL_law_1751 (lv_at hl 0 rfl) ?_
      refine lv_dcmp hx hb dL_law_1753 ?_
      refine lv_if_eq (tgt := 1779) hx hb dL_law_1754 (by decide) (fun c_423 => ?_) (fun c_423 => ?_)
      · refine lv_goto (tgt := 2118) hx hb dL_law_1779 (by decide) ?_
        exact law_tail C0 hS (lv_sub hl [2, 7] rfl)
      · exact absurd (by rw [agv.1, agv.2]; rfl) c_423
  · exact absurd ag.1 c_421
set_option maxHeartbeats 4000000 in
set_option maxRecDepth 100000 in
theorem law_wouldCost {p : Program} {l : Launch} {e : Env} {s : State} {m : MethodId} {below : List Frame} {meth : Method} {c : Code} (hfl : l.stackTraces = false) {D : va_G} {ad : Nat → Nat} {cI cJ cO cZ : ClassId} {b h0 o : Nat} {xs : Nat → Int32} {u r0 r1 r2 : Nat → Nat} {sa : Nat → Nat} (C0 : lw_At p s m meth c b 7 xs) (hN : ex_n s) (hE : ex_w sa s) (hZ : ex_z (fun q : Nat => s.heap.size ≤ q) s s.heap) (hKW : va_K D vwCl [(cI, .int), (cJ, .long)] s) (hKM : va_K D vwCl [(cI, .int), (cO, .array .int), (cZ, .boolean)] s) {H : Heap} {locs : List Loc} (hP : va_P D vwCl (wrW ad cI cJ o ++ tmW h0 u r0 r1 r2 cI cO cZ) H) (hD : va_D (fun q : Nat => s.heap.size ≤ q) (wrW ad cI cJ o ++ tmW h0 u r0 r1 r2 cI cO cZ)) (hS : va_S (fun q : Nat => s.heap.size ≤ q) s.heap H locs) {od : Nat} {ls : Array Slot} (hl : lv_has ls 9 [(5, .int 0), (4, .ref od), (3, .ref o), (2, .ref h0), (1, .ref (ad 0)), (0, .ref b)]) : W p l e room_1 s m #[Value.ref b] below meth c H locs 400 10000 (lw_Z below #[Value.ref b] s) (F0 m 1782 ls []) := by
  obtain ⟨hx, hb, hr, hml, hown, hts, hX, hbl, hlocks, hgv⟩ := id C0
  have hA : ∀ q : Nat, s.heap.size ≤ q → (fun q : Nat => s.heap.size ≤ q) q := fun _ h => h
  have hbA : ¬ (fun q : Nat => s.heap.size ≤ q) b := Nat.not_le.mpr hbl
  have ho : ∀ (k : Nat) (q : Nat × va_E), (tmW h0 u r0 r1 r2 cI cO cZ)[k]? = some q → q.1 ≠ o := ne_of hD 98 rfl
  have hne : h0 ≠ o := ho 0 (h0, _) rfl
  refine lv_aload_n hx hb dL_law_1782 rfl (lv_at hl 4 rfl) ?_
  refine lv_aload_n hx hb dL_law_1783 rfl (lv_at hl 5 rfl) ?_
  refine lv_iload hx hb dL_law_1784 (lv_at hl 0 rfl) ?_
  refine lv_iconst (v := 1) hx hb dL_law_1786 (by decide) ?_
  refine lv_iadd hx hb dL_law_1787 ?_
  refine W.eq (g2 := F0 m 1788 ls [.int 1, .ref b, .ref (ad 0)]) rfl ?_
  refine va_sld hx hb hX hbl hbA hS (by unfold vp_in; decide) dL_law_1788 ?_
  refine W.eq (g2 := F0 m 1789 ls [.int (xs 1), .ref (ad 0)]) rfl ?_
  refine lv_aload_n hx hb dL_law_1789 rfl (lv_at hl 5 rfl) ?_
  refine lv_iload hx hb dL_law_1790 (lv_at hl 0 rfl) ?_
  refine lv_iconst (v := 2) hx hb dL_law_1792 (by decide) ?_
  refine lv_iadd hx hb dL_law_1793 ?_
  refine W.eq (g2 := F0 m 1794 ls [.int 2, .ref b, .int (xs 1), .ref (ad 0)]) rfl ?_
  refine va_sld hx hb hX hbl hbA hS (by unfold vp_in; decide) dL_law_1794 ?_
  refine W.eq (g2 := F0 m 1795 ls [.int (xs 2), .int (xs 1), .ref (ad 0)]) rfl ?_
  refine lv_aload_n hx hb dL_law_1795 rfl (lv_at hl 5 rfl) ?_
  refine lv_iload hx hb dL_law_1796 (lv_at hl 0 rfl) ?_
  refine lv_iconst (v := 3) hx hb dL_law_1798 (by decide) ?_
  refine lv_iadd hx hb dL_law_1799 ?_
  refine W.eq (g2 := F0 m 1800 ls [.int 3, .ref b, .int (xs 2), .int (xs 1), .ref (ad 0)]) rfl ?_
  refine va_sld hx hb hX hbl hbA hS (by unfold vp_in; decide) dL_law_1800 ?_
  refine W.eq (g2 := F0 m 1801 ls [.int (xs 3), .int (xs 2), .int (xs 1), .ref (ad 0)]) rfl ?_
  refine lv_aload_n hx hb dL_law_1801 rfl (lv_at hl 5 rfl) ?_
  refine lv_iload hx hb dL_law_1802 (lv_at hl 0 rfl) ?_
  refine lv_iconst (v := 4) hx hb dL_law_1804 (by decide) ?_
  refine lv_iadd hx hb dL_law_1805 ?_
  refine W.eq (g2 := F0 m 1806 ls [.int 4, .ref b, .int (xs 3), .int (xs 2), .int (xs 1), .ref (ad 0)]) rfl ?_
  refine va_sld hx hb hX hbl hbA hS (by unfold vp_in; decide) dL_law_1806 ?_
  refine W.eq (g2 := F0 m 1807 ls [.int (xs 4), .int (xs 3), .int (xs 2), .int (xs 1), .ref (ad 0)]) rfl ?_
  refine lv_if_eq (tgt := 1814) hx hb dL_law_1807 (by decide) (fun c_424 => ?_) (fun c_424 => ?_)
  · refine lv_iconst (v := 0) hx hb dL_law_1814 (by decide) ?_
    refine lv_aload_n hx hb dL_law_1815 rfl (lv_at hl 5 rfl) ?_
    refine lv_iload hx hb dL_law_1816 (lv_at hl 0 rfl) ?_
    refine lv_iconst (v := 5) hx hb dL_law_1818 (by decide) ?_
    refine lv_iadd hx hb dL_law_1819 ?_
    refine W.eq (g2 := F0 m 1820 ls [.int 5, .ref b, .int 0, .int (xs 3), .int (xs 2), .int (xs 1), .ref (ad 0)]) rfl ?_
    refine va_sld hx hb hX hbl hbA hS (by unfold vp_in; decide) dL_law_1820 ?_
    refine W.eq (g2 := F0 m 1821 ls [.int (xs 5), .int 0, .int (xs 3), .int (xs 2), .int (xs 1), .ref (ad 0)]) rfl ?_
    refine lv_aload_n hx hb dL_law_1821 rfl (lv_at hl 5 rfl) ?_
    refine lv_iload hx hb dL_law_1822 (lv_at hl 0 rfl) ?_
    refine lv_bipush (v := 6) hx hb dL_law_1824 (by decide) ?_
    refine lv_iadd hx hb dL_law_1826 ?_
    refine W.eq (g2 := F0 m 1827 ls [.int 6, .ref b, .int (xs 5), .int 0, .int (xs 3), .int (xs 2), .int (xs 1), .ref (ad 0)]) rfl ?_
    refine va_sld hx hb hX hbl hbA hS (by unfold vp_in; decide) dL_law_1827 ?_
    refine W.eq (g2 := F0 m 1828 ls [.int (xs 6), .int (xs 5), .int 0, .int (xs 3), .int (xs 2), .int (xs 1), .ref (ad 0)]) rfl ?_
    refine lv_aload_n hx hb dL_law_1828 rfl (lv_at hl 2 rfl) ?_
    refine l_kw hP hD hS hA (vx_runSX (hh := [(0, 18, 21, 13), (0, 18, 25, 15)]) (As := [.ref (ad 0), .int (xs 1), .int (xs 2), .int (xs 3), .int 0, .int (xs 5), .int (xs 6), .ref o]) (rest := []) ⟨hx, hb, hml, hown, hts⟩ (w_wouldCost l hfl D ad cI cJ H.size o (xs 1) (xs 2) (xs 3) 0 (xs 5) (xs 6) sa) (vx_cwSW 8 hts gl_L_wouldCost rfl rfl rfl (by decide +kernel) ⟨Nat.le_of_ble_eq_true rfl, Nat.le_of_ble_eq_true rfl⟩) (w_preS hN hE hZ hKW (pre_P hP) (pre_D hD) hS hA) rfl rfl hl.1 rfl (lv_room (Nat.le_of_ble_eq_true rfl)) dL_law_1829 ⟨Nat.le_of_ble_eq_true rfl, Nat.le_of_ble_eq_true rfl⟩) (fun k f H locs hw hPo hPb hDb hS => ?_)
    refine lv_istore (lv' := [(6, .int k), (5, .int 0), (4, .ref od), (3, .ref o), (2, .ref h0), (1, .ref (ad 0)), (0, .ref b)]) hx hb dL_law_1832 hl (by decide) rfl (fun ls hl => ?_)
    refine lv_aload_n hx hb dL_law_1834 rfl (lv_at hl 4 rfl) ?_
    refine lv_aload_n hx hb dL_law_1835 rfl (lv_at hl 6 rfl) ?_
    refine lv_iload hx hb dL_law_1836 (lv_at hl 1 rfl) ?_
    refine lv_iconst (v := 1) hx hb dL_law_1838 (by decide) ?_
    refine lv_iadd hx hb dL_law_1839 ?_
    refine W.eq (g2 := F0 m 1840 ls [.int 1, .ref b, .ref h0]) rfl ?_
    refine va_sld hx hb hX hbl hbA hS (by unfold vp_in; decide) dL_law_1840 ?_
    refine W.eq (g2 := F0 m 1841 ls [.int (xs 1), .ref h0]) rfl ?_
    refine lv_aload_n hx hb dL_law_1841 rfl (lv_at hl 6 rfl) ?_
    refine lv_iload hx hb dL_law_1842 (lv_at hl 1 rfl) ?_
    refine lv_iconst (v := 2) hx hb dL_law_1844 (by decide) ?_
    refine lv_iadd hx hb dL_law_1845 ?_
    refine W.eq (g2 := F0 m 1846 ls [.int 2, .ref b, .int (xs 1), .ref h0]) rfl ?_
    refine va_sld hx hb hX hbl hbA hS (by unfold vp_in; decide) dL_law_1846 ?_
    refine W.eq (g2 := F0 m 1847 ls [.int (xs 2), .int (xs 1), .ref h0]) rfl ?_
    refine lv_aload_n hx hb dL_law_1847 rfl (lv_at hl 6 rfl) ?_
    refine lv_iload hx hb dL_law_1848 (lv_at hl 1 rfl) ?_
    refine lv_iconst (v := 3) hx hb dL_law_1850 (by decide) ?_
    refine lv_iadd hx hb dL_law_1851 ?_
    refine W.eq (g2 := F0 m 1852 ls [.int 3, .ref b, .int (xs 2), .int (xs 1), .ref h0]) rfl ?_
    refine va_sld hx hb hX hbl hbA hS (by unfold vp_in; decide) dL_law_1852 ?_
    refine W.eq (g2 := F0 m 1853 ls [.int (xs 3), .int (xs 2), .int (xs 1), .ref h0]) rfl ?_
    refine lv_aload_n hx hb dL_law_1853 rfl (lv_at hl 6 rfl) ?_
    refine lv_iload hx hb dL_law_1854 (lv_at hl 1 rfl) ?_
    refine lv_iconst (v := 4) hx hb dL_law_1856 (by decide) ?_
    refine lv_iadd hx hb dL_law_1857 ?_
    refine W.eq (g2 := F0 m 1858 ls [.int 4, .ref b, .int (xs 3), .int (xs 2), .int (xs 1), .ref h0]) rfl ?_
    refine va_sld hx hb hX hbl hbA hS (by unfold vp_in; decide) dL_law_1858 ?_
    refine W.eq (g2 := F0 m 1859 ls [.int (xs 4), .int (xs 3), .int (xs 2), .int (xs 1), .ref h0]) rfl ?_
    refine lv_if_eq (tgt := 1866) hx hb dL_law_1859 (by decide) (fun c_425 => ?_) (fun c_425 => ?_)
    · refine lv_iconst (v := 0) hx hb dL_law_1866 (by decide) ?_
      refine lv_aload_n hx hb dL_law_1867 rfl (lv_at hl 6 rfl) ?_
      refine lv_iload hx hb dL_law_1868 (lv_at hl 1 rfl) ?_
      refine lv_iconst (v := 5) hx hb dL_law_1870 (by decide) ?_
      refine lv_iadd hx hb dL_law_1871 ?_
      refine W.eq (g2 := F0 m 1872 ls [.int 5, .ref b, .int 0, .int (xs 3), .int (xs 2), .int (xs 1), .ref h0]) rfl ?_
      refine va_sld hx hb hX hbl hbA hS (by unfold vp_in; decide) dL_law_1872 ?_
      refine W.eq (g2 := F0 m 1873 ls [.int (xs 5), .int 0, .int (xs 3), .int (xs 2), .int (xs 1), .ref h0]) rfl ?_
      refine lv_aload_n hx hb dL_law_1873 rfl (lv_at hl 6 rfl) ?_
      refine lv_iload hx hb dL_law_1874 (lv_at hl 1 rfl) ?_
      refine lv_bipush (v := 6) hx hb dL_law_1876 (by decide) ?_
      refine lv_iadd hx hb dL_law_1878 ?_
      refine W.eq (g2 := F0 m 1879 ls [.int 6, .ref b, .int (xs 5), .int 0, .int (xs 3), .int (xs 2), .int (xs 1), .ref h0]) rfl ?_
      refine va_sld hx hb hX hbl hbA hS (by unfold vp_in; decide) dL_law_1879 ?_
      refine W.eq (g2 := F0 m 1880 ls [.int (xs 6), .int (xs 5), .int 0, .int (xs 3), .int (xs 2), .int (xs 1), .ref h0]) rfl ?_
      refine l_km hPb hDb hS hA hPo ho (va_runV (As := [.int (xs 1), .int (xs 2), .int (xs 3), .int 0, .int (xs 5), .int (xs 6)]) (rest := []) ⟨hx, hb, hml, hown, hts⟩ (qm_wouldCost l D [(cI, .int), (cO, .array .int), (cZ, .boolean)] (tmW h0 u r0 r1 r2 cI cO cZ) H.size h0 _ (xs 1) (xs 2) (xs 3) 0 (xs 5) (xs 6) rfl rfl (Nat.zero_lt_succ _)) (cwV 6 hts gl_X9_wouldCost rfl rfl rfl (by decide +kernel) ⟨Nat.le_of_ble_eq_true rfl, Nat.le_of_ble_eq_true rfl⟩) (g_preV hKM hPb hDb (ci := 9) (q0 := 0) rfl rfl) rfl rfl hl.1 rfl (lv_room (Nat.le_of_ble_eq_true rfl)) dL_law_1880 ⟨Nat.le_of_ble_eq_true rfl, Nat.le_of_ble_eq_true rfl⟩) (fun r v t H locs hv hm hPm hDm hPo hS => ?_)
      refine lv_istore (lv' := [(7, .int r), (6, .int k), (5, .int 0), (4, .ref od), (3, .ref o), (2, .ref h0), (1, .ref (ad 0)), (0, .ref b)]) hx hb dL_law_1883 hl (by decide) rfl (fun ls hl => ?_)
      refine lv_aload_n hx hb dL_law_1885 rfl (lv_at hl 5 rfl) ?_
      refine l_kt hDm hS hA hPo (ne1 hne) (va_runV (As := []) (rest := []) ⟨hx, hb, hml, hown, hts⟩ (q_thrown l D [(cI, .int), (cO, .array .int), (cZ, .boolean)] H.size h0 v t hv) (cwV 0 hts gl_X9_thrown rfl rfl rfl (by decide +kernel) ⟨Nat.le_of_ble_eq_true rfl, Nat.le_of_ble_eq_true rfl⟩) (g_preV hKM hPm hDm (ci := 9) (q0 := 0) rfl rfl) rfl rfl hl.1 rfl (lv_room (Nat.le_of_ble_eq_true rfl)) dL_law_1886 ⟨Nat.le_of_ble_eq_true rfl, Nat.le_of_ble_eq_true rfl⟩) (fun H locs hPo hS => ?_)
      have ag := ag_wouldCost (x0 := xs 1) (x1 := xs 2) (x2 := xs 3) (x3 := 0) (x4 := xs 5) (x5 := xs 6) (y := f 0) hw hm
      refine lv_iload hx hb dL_law_1889 (lv_at hl 1 rfl) ?_
      refine lv_icmp_eq (tgt := 1896) hx hb dL_law_1891 (by decide) (fun c_426 => ?_) (fun c_426 => ?_)
      · refine lv_iload hx hb dL_law_1896 (lv_at hl 1 rfl) ?_
        refine lv_if_ne (tgt := 1913) hx hb dL_law_1898 (by decide) (fun c_427 => ?_) (fun c_427 => ?_)
        · refine lv_goto (tgt := 2118) hx hb dL_law_1913 (by decide) ?_
          exact law_tail C0 hS (lv_sub hl [2, 7] rfl)
        · exact absurd ((show k = 1 from hw).symm.trans c_427) (by decide)
      · exact absurd ag.1 c_426
    · refine lv_iconst (v := 1) hx hb dL_law_1862 (by decide) ?_
      refine lv_goto (tgt := 1867) hx hb dL_law_1863 (by decide) ?_
      refine lv_aload_n hx hb dL_law_1867 rfl (lv_at hl 6 rfl) ?_
      refine lv_iload hx hb dL_law_1868 (lv_at hl 1 rfl) ?_
      refine lv_iconst (v := 5) hx hb dL_law_1870 (by decide) ?_
      refine lv_iadd hx hb dL_law_1871 ?_
      refine W.eq (g2 := F0 m 1872 ls [.int 5, .ref b, .int 1, .int (xs 3), .int (xs 2), .int (xs 1), .ref h0]) rfl ?_
      refine va_sld hx hb hX hbl hbA hS (by unfold vp_in; decide) dL_law_1872 ?_
      refine W.eq (g2 := F0 m 1873 ls [.int (xs 5), .int 1, .int (xs 3), .int (xs 2), .int (xs 1), .ref h0]) rfl ?_
      refine lv_aload_n hx hb dL_law_1873 rfl (lv_at hl 6 rfl) ?_
      refine lv_iload hx hb dL_law_1874 (lv_at hl 1 rfl) ?_
      refine lv_bipush (v := 6) hx hb dL_law_1876 (by decide) ?_
      refine lv_iadd hx hb dL_law_1878 ?_
      refine W.eq (g2 := F0 m 1879 ls [.int 6, .ref b, .int (xs 5), .int 1, .int (xs 3), .int (xs 2), .int (xs 1), .ref h0]) rfl ?_
      refine va_sld hx hb hX hbl hbA hS (by unfold vp_in; decide) dL_law_1879 ?_
      refine W.eq (g2 := F0 m 1880 ls [.int (xs 6), .int (xs 5), .int 1, .int (xs 3), .int (xs 2), .int (xs 1), .ref h0]) rfl ?_
      refine l_km hPb hDb hS hA hPo ho (va_runV (As := [.int (xs 1), .int (xs 2), .int (xs 3), .int 1, .int (xs 5), .int (xs 6)]) (rest := []) ⟨hx, hb, hml, hown, hts⟩ (qm_wouldCost l D [(cI, .int), (cO, .array .int), (cZ, .boolean)] (tmW h0 u r0 r1 r2 cI cO cZ) H.size h0 _ (xs 1) (xs 2) (xs 3) 1 (xs 5) (xs 6) rfl rfl (Nat.zero_lt_succ _)) (cwV 6 hts gl_X9_wouldCost rfl rfl rfl (by decide +kernel) ⟨Nat.le_of_ble_eq_true rfl, Nat.le_of_ble_eq_true rfl⟩) (g_preV hKM hPb hDb (ci := 9) (q0 := 0) rfl rfl) rfl rfl hl.1 rfl (lv_room (Nat.le_of_ble_eq_true rfl)) dL_law_1880 ⟨Nat.le_of_ble_eq_true rfl, Nat.le_of_ble_eq_true rfl⟩) (fun r v t H locs hv hm hPm hDm hPo hS => ?_)
      refine lv_istore (lv' := [(7, .int r), (6, .int k), (5, .int 0), (4, .ref od), (3, .ref o), (2, .ref h0), (1, .ref (ad 0)), (0, .ref b)]) hx hb dL_law_1883 hl (by decide) rfl (fun ls hl => ?_)
      refine lv_aload_n hx hb dL_law_1885 rfl (lv_at hl 5 rfl) ?_
      refine l_kt hDm hS hA hPo (ne1 hne) (va_runV (As := []) (rest := []) ⟨hx, hb, hml, hown, hts⟩ (q_thrown l D [(cI, .int), (cO, .array .int), (cZ, .boolean)] H.size h0 v t hv) (cwV 0 hts gl_X9_thrown rfl rfl rfl (by decide +kernel) ⟨Nat.le_of_ble_eq_true rfl, Nat.le_of_ble_eq_true rfl⟩) (g_preV hKM hPm hDm (ci := 9) (q0 := 0) rfl rfl) rfl rfl hl.1 rfl (lv_room (Nat.le_of_ble_eq_true rfl)) dL_law_1886 ⟨Nat.le_of_ble_eq_true rfl, Nat.le_of_ble_eq_true rfl⟩) (fun H locs hPo hS => ?_)
      have ag := ag_wouldCost (x0 := xs 1) (x1 := xs 2) (x2 := xs 3) (x3 := 0) (x4 := xs 5) (x5 := xs 6) (y := f 0) hw hm
      refine lv_iload hx hb dL_law_1889 (lv_at hl 1 rfl) ?_
      refine lv_icmp_eq (tgt := 1896) hx hb dL_law_1891 (by decide) (fun c_428 => ?_) (fun c_428 => ?_)
      · refine lv_iload hx hb dL_law_1896 (lv_at hl 1 rfl) ?_
        refine lv_if_ne (tgt := 1913) hx hb dL_law_1898 (by decide) (fun c_429 => ?_) (fun c_429 => ?_)
        · refine lv_goto (tgt := 2118) hx hb dL_law_1913 (by decide) ?_
          exact law_tail C0 hS (lv_sub hl [2, 7] rfl)
        · exact absurd ((show k = 1 from hw).symm.trans c_429) (by decide)
      · exact absurd ag.1 c_428
  · refine lv_iconst (v := 1) hx hb dL_law_1810 (by decide) ?_
    refine lv_goto (tgt := 1815) hx hb dL_law_1811 (by decide) ?_
    refine lv_aload_n hx hb dL_law_1815 rfl (lv_at hl 5 rfl) ?_
    refine lv_iload hx hb dL_law_1816 (lv_at hl 0 rfl) ?_
    refine lv_iconst (v := 5) hx hb dL_law_1818 (by decide) ?_
    refine lv_iadd hx hb dL_law_1819 ?_
    refine W.eq (g2 := F0 m 1820 ls [.int 5, .ref b, .int 1, .int (xs 3), .int (xs 2), .int (xs 1), .ref (ad 0)]) rfl ?_
    refine va_sld hx hb hX hbl hbA hS (by unfold vp_in; decide) dL_law_1820 ?_
    refine W.eq (g2 := F0 m 1821 ls [.int (xs 5), .int 1, .int (xs 3), .int (xs 2), .int (xs 1), .ref (ad 0)]) rfl ?_
    refine lv_aload_n hx hb dL_law_1821 rfl (lv_at hl 5 rfl) ?_
    refine lv_iload hx hb dL_law_1822 (lv_at hl 0 rfl) ?_
    refine lv_bipush (v := 6) hx hb dL_law_1824 (by decide) ?_
    refine lv_iadd hx hb dL_law_1826 ?_
    refine W.eq (g2 := F0 m 1827 ls [.int 6, .ref b, .int (xs 5), .int 1, .int (xs 3), .int (xs 2), .int (xs 1), .ref (ad 0)]) rfl ?_
    refine va_sld hx hb hX hbl hbA hS (by unfold vp_in; decide) dL_law_1827 ?_
    refine W.eq (g2 := F0 m 1828 ls [.int (xs 6), .int (xs 5), .int 1, .int (xs 3), .int (xs 2), .int (xs 1), .ref (ad 0)]) rfl ?_
    refine lv_aload_n hx hb dL_law_1828 rfl (lv_at hl 2 rfl) ?_
    refine l_kw hP hD hS hA (vx_runSX (hh := [(0, 18, 21, 13), (0, 18, 25, 15)]) (As := [.ref (ad 0), .int (xs 1), .int (xs 2), .int (xs 3), .int 1, .int (xs 5), .int (xs 6), .ref o]) (rest := []) ⟨hx, hb, hml, hown, hts⟩ (w_wouldCost l hfl D ad cI cJ H.size o (xs 1) (xs 2) (xs 3) 1 (xs 5) (xs 6) sa) (vx_cwSW 8 hts gl_L_wouldCost rfl rfl rfl (by decide +kernel) ⟨Nat.le_of_ble_eq_true rfl, Nat.le_of_ble_eq_true rfl⟩) (w_preS hN hE hZ hKW (pre_P hP) (pre_D hD) hS hA) rfl rfl hl.1 rfl (lv_room (Nat.le_of_ble_eq_true rfl)) dL_law_1829 ⟨Nat.le_of_ble_eq_true rfl, Nat.le_of_ble_eq_true rfl⟩) (fun k f H locs hw hPo hPb hDb hS => ?_)
    refine lv_istore (lv' := [(6, .int k), (5, .int 0), (4, .ref od), (3, .ref o), (2, .ref h0), (1, .ref (ad 0)), (0, .ref b)]) hx hb dL_law_1832 hl (by decide) rfl (fun ls hl => ?_)
    refine lv_aload_n hx hb dL_law_1834 rfl (lv_at hl 4 rfl) ?_
    refine lv_aload_n hx hb dL_law_1835 rfl (lv_at hl 6 rfl) ?_
    refine lv_iload hx hb dL_law_1836 (lv_at hl 1 rfl) ?_
    refine lv_iconst (v := 1) hx hb dL_law_1838 (by decide) ?_
    refine lv_iadd hx hb dL_law_1839 ?_
    refine W.eq (g2 := F0 m 1840 ls [.int 1, .ref b, .ref h0]) rfl ?_
    refine va_sld hx hb hX hbl hbA hS (by unfold vp_in; decide) dL_law_1840 ?_
    refine W.eq (g2 := F0 m 1841 ls [.int (xs 1), .ref h0]) rfl ?_
    refine lv_aload_n hx hb dL_law_1841 rfl (lv_at hl 6 rfl) ?_
    refine lv_iload hx hb dL_law_1842 (lv_at hl 1 rfl) ?_
    refine lv_iconst (v := 2) hx hb dL_law_1844 (by decide) ?_
    refine lv_iadd hx hb dL_law_1845 ?_
    refine W.eq (g2 := F0 m 1846 ls [.int 2, .ref b, .int (xs 1), .ref h0]) rfl ?_
    refine va_sld hx hb hX hbl hbA hS (by unfold vp_in; decide) dL_law_1846 ?_
    refine W.eq (g2 := F0 m 1847 ls [.int (xs 2), .int (xs 1), .ref h0]) rfl ?_
    refine lv_aload_n hx hb dL_law_1847 rfl (lv_at hl 6 rfl) ?_
    refine lv_iload hx hb dL_law_1848 (lv_at hl 1 rfl) ?_
    refine lv_iconst (v := 3) hx hb dL_law_1850 (by decide) ?_
    refine lv_iadd hx hb dL_law_1851 ?_
    refine W.eq (g2 := F0 m 1852 ls [.int 3, .ref b, .int (xs 2), .int (xs 1), .ref h0]) rfl ?_
    refine va_sld hx hb hX hbl hbA hS (by unfold vp_in; decide) dL_law_1852 ?_
    refine W.eq (g2 := F0 m 1853 ls [.int (xs 3), .int (xs 2), .int (xs 1), .ref h0]) rfl ?_
    refine lv_aload_n hx hb dL_law_1853 rfl (lv_at hl 6 rfl) ?_
    refine lv_iload hx hb dL_law_1854 (lv_at hl 1 rfl) ?_
    refine lv_iconst (v := 4) hx hb dL_law_1856 (by decide) ?_
    refine lv_iadd hx hb dL_law_1857 ?_
    refine W.eq (g2 := F0 m 1858 ls [.int 4, .ref b, .int (xs 3), .int (xs 2), .int (xs 1), .ref h0]) rfl ?_
    refine va_sld hx hb hX hbl hbA hS (by unfold vp_in; decide) dL_law_1858 ?_
    refine W.eq (g2 := F0 m 1859 ls [.int (xs 4), .int (xs 3), .int (xs 2), .int (xs 1), .ref h0]) rfl ?_
    refine lv_if_eq (tgt := 1866) hx hb dL_law_1859 (by decide) (fun c_430 => ?_) (fun c_430 => ?_)
    · refine lv_iconst (v := 0) hx hb dL_law_1866 (by decide) ?_
      refine lv_aload_n hx hb dL_law_1867 rfl (lv_at hl 6 rfl) ?_
      refine lv_iload hx hb dL_law_1868 (lv_at hl 1 rfl) ?_
      refine lv_iconst (v := 5) hx hb dL_law_1870 (by decide) ?_
      refine lv_iadd hx hb dL_law_1871 ?_
      refine W.eq (g2 := F0 m 1872 ls [.int 5, .ref b, .int 0, .int (xs 3), .int (xs 2), .int (xs 1), .ref h0]) rfl ?_
      refine va_sld hx hb hX hbl hbA hS (by unfold vp_in; decide) dL_law_1872 ?_
      refine W.eq (g2 := F0 m 1873 ls [.int (xs 5), .int 0, .int (xs 3), .int (xs 2), .int (xs 1), .ref h0]) rfl ?_
      refine lv_aload_n hx hb dL_law_1873 rfl (lv_at hl 6 rfl) ?_
      refine lv_iload hx hb dL_law_1874 (lv_at hl 1 rfl) ?_
      refine lv_bipush (v := 6) hx hb dL_law_1876 (by decide) ?_
      refine lv_iadd hx hb dL_law_1878 ?_
      refine W.eq (g2 := F0 m 1879 ls [.int 6, .ref b, .int (xs 5), .int 0, .int (xs 3), .int (xs 2), .int (xs 1), .ref h0]) rfl ?_
      refine va_sld hx hb hX hbl hbA hS (by unfold vp_in; decide) dL_law_1879 ?_
      refine W.eq (g2 := F0 m 1880 ls [.int (xs 6), .int (xs 5), .int 0, .int (xs 3), .int (xs 2), .int (xs 1), .ref h0]) rfl ?_
      refine l_km hPb hDb hS hA hPo ho (va_runV (As := [.int (xs 1), .int (xs 2), .int (xs 3), .int 0, .int (xs 5), .int (xs 6)]) (rest := []) ⟨hx, hb, hml, hown, hts⟩ (qm_wouldCost l D [(cI, .int), (cO, .array .int), (cZ, .boolean)] (tmW h0 u r0 r1 r2 cI cO cZ) H.size h0 _ (xs 1) (xs 2) (xs 3) 0 (xs 5) (xs 6) rfl rfl (Nat.zero_lt_succ _)) (cwV 6 hts gl_X9_wouldCost rfl rfl rfl (by decide +kernel) ⟨Nat.le_of_ble_eq_true rfl, Nat.le_of_ble_eq_true rfl⟩) (g_preV hKM hPb hDb (ci := 9) (q0 := 0) rfl rfl) rfl rfl hl.1 rfl (lv_room (Nat.le_of_ble_eq_true rfl)) dL_law_1880 ⟨Nat.le_of_ble_eq_true rfl, Nat.le_of_ble_eq_true rfl⟩) (fun r v t H locs hv hm hPm hDm hPo hS => ?_)
      refine lv_istore (lv' := [(7, .int r), (6, .int k), (5, .int 0), (4, .ref od), (3, .ref o), (2, .ref h0), (1, .ref (ad 0)), (0, .ref b)]) hx hb dL_law_1883 hl (by decide) rfl (fun ls hl => ?_)
      refine lv_aload_n hx hb dL_law_1885 rfl (lv_at hl 5 rfl) ?_
      refine l_kt hDm hS hA hPo (ne1 hne) (va_runV (As := []) (rest := []) ⟨hx, hb, hml, hown, hts⟩ (q_thrown l D [(cI, .int), (cO, .array .int), (cZ, .boolean)] H.size h0 v t hv) (cwV 0 hts gl_X9_thrown rfl rfl rfl (by decide +kernel) ⟨Nat.le_of_ble_eq_true rfl, Nat.le_of_ble_eq_true rfl⟩) (g_preV hKM hPm hDm (ci := 9) (q0 := 0) rfl rfl) rfl rfl hl.1 rfl (lv_room (Nat.le_of_ble_eq_true rfl)) dL_law_1886 ⟨Nat.le_of_ble_eq_true rfl, Nat.le_of_ble_eq_true rfl⟩) (fun H locs hPo hS => ?_)
      have ag := ag_wouldCost (x0 := xs 1) (x1 := xs 2) (x2 := xs 3) (x3 := 1) (x4 := xs 5) (x5 := xs 6) (y := f 0) hw hm
      refine lv_iload hx hb dL_law_1889 (lv_at hl 1 rfl) ?_
      refine lv_icmp_eq (tgt := 1896) hx hb dL_law_1891 (by decide) (fun c_431 => ?_) (fun c_431 => ?_)
      · refine lv_iload hx hb dL_law_1896 (lv_at hl 1 rfl) ?_
        refine lv_if_ne (tgt := 1913) hx hb dL_law_1898 (by decide) (fun c_432 => ?_) (fun c_432 => ?_)
        · refine lv_goto (tgt := 2118) hx hb dL_law_1913 (by decide) ?_
          exact law_tail C0 hS (lv_sub hl [2, 7] rfl)
        · exact absurd ((show k = 1 from hw).symm.trans c_432) (by decide)
      · exact absurd ag.1 c_431
    · refine lv_iconst (v := 1) hx hb dL_law_1862 (by decide) ?_
      refine lv_goto (tgt := 1867) hx hb dL_law_1863 (by decide) ?_
      refine lv_aload_n hx hb dL_law_1867 rfl (lv_at hl 6 rfl) ?_
      refine lv_iload hx hb dL_law_1868 (lv_at hl 1 rfl) ?_
      refine lv_iconst (v := 5) hx hb dL_law_1870 (by decide) ?_
      refine lv_iadd hx hb dL_law_1871 ?_
      refine W.eq (g2 := F0 m 1872 ls [.int 5, .ref b, .int 1, .int (xs 3), .int (xs 2), .int (xs 1), .ref h0]) rfl ?_
      refine va_sld hx hb hX hbl hbA hS (by unfold vp_in; decide) dL_law_1872 ?_
      refine W.eq (g2 := F0 m 1873 ls [.int (xs 5), .int 1, .int (xs 3), .int (xs 2), .int (xs 1), .ref h0]) rfl ?_
      refine lv_aload_n hx hb dL_law_1873 rfl (lv_at hl 6 rfl) ?_
      refine lv_iload hx hb dL_law_1874 (lv_at hl 1 rfl) ?_
      refine lv_bipush (v := 6) hx hb dL_law_1876 (by decide) ?_
      refine lv_iadd hx hb dL_law_1878 ?_
      refine W.eq (g2 := F0 m 1879 ls [.int 6, .ref b, .int (xs 5), .int 1, .int (xs 3), .int (xs 2), .int (xs 1), .ref h0]) rfl ?_
      refine va_sld hx hb hX hbl hbA hS (by unfold vp_in; decide) dL_law_1879 ?_
      refine W.eq (g2 := F0 m 1880 ls [.int (xs 6), .int (xs 5), .int 1, .int (xs 3), .int (xs 2), .int (xs 1), .ref h0]) rfl ?_
      refine l_km hPb hDb hS hA hPo ho (va_runV (As := [.int (xs 1), .int (xs 2), .int (xs 3), .int 1, .int (xs 5), .int (xs 6)]) (rest := []) ⟨hx, hb, hml, hown, hts⟩ (qm_wouldCost l D [(cI, .int), (cO, .array .int), (cZ, .boolean)] (tmW h0 u r0 r1 r2 cI cO cZ) H.size h0 _ (xs 1) (xs 2) (xs 3) 1 (xs 5) (xs 6) rfl rfl (Nat.zero_lt_succ _)) (cwV 6 hts gl_X9_wouldCost rfl rfl rfl (by decide +kernel) ⟨Nat.le_of_ble_eq_true rfl, Nat.le_of_ble_eq_true rfl⟩) (g_preV hKM hPb hDb (ci := 9) (q0 := 0) rfl rfl) rfl rfl hl.1 rfl (lv_room (Nat.le_of_ble_eq_true rfl)) dL_law_1880 ⟨Nat.le_of_ble_eq_true rfl, Nat.le_of_ble_eq_true rfl⟩) (fun r v t H locs hv hm hPm hDm hPo hS => ?_)
      refine lv_istore (lv' := [(7, .int r), (6, .int k), (5, .int 0), (4, .ref od), (3, .ref o), (2, .ref h0), (1, .ref (ad 0)), (0, .ref b)]) hx hb dL_law_1883 hl (by decide) rfl (fun ls hl => ?_)
      refine lv_aload_n hx hb dL_law_1885 rfl (lv_at hl 5 rfl) ?_
      refine l_kt hDm hS hA hPo (ne1 hne) (va_runV (As := []) (rest := []) ⟨hx, hb, hml, hown, hts⟩ (q_thrown l D [(cI, .int), (cO, .array .int), (cZ, .boolean)] H.size h0 v t hv) (cwV 0 hts gl_X9_thrown rfl rfl rfl (by decide +kernel) ⟨Nat.le_of_ble_eq_true rfl, Nat.le_of_ble_eq_true rfl⟩) (g_preV hKM hPm hDm (ci := 9) (q0 := 0) rfl rfl) rfl rfl hl.1 rfl (lv_room (Nat.le_of_ble_eq_true rfl)) dL_law_1886 ⟨Nat.le_of_ble_eq_true rfl, Nat.le_of_ble_eq_true rfl⟩) (fun H locs hPo hS => ?_)
      have ag := ag_wouldCost (x0 := xs 1) (x1 := xs 2) (x2 := xs 3) (x3 := 1) (x4 := xs 5) (x5 := xs 6) (y := f 0) hw hm
      refine lv_iload hx hb dL_law_1889 (lv_at hl 1 rfl) ?_
      refine lv_icmp_eq (tgt := 1896) hx hb dL_law_1891 (by decide) (fun c_433 => ?_) (fun c_433 => ?_)
      · refine lv_iload hx hb dL_law_1896 (lv_at hl 1 rfl) ?_
        refine lv_if_ne (tgt := 1913) hx hb dL_law_1898 (by decide) (fun c_434 => ?_) (fun c_434 => ?_)
        · refine lv_goto (tgt := 2118) hx hb dL_law_1913 (by decide) ?_
          exact law_tail C0 hS (lv_sub hl [2, 7] rfl)
        · exact absurd ((show k = 1 from hw).symm.trans c_434) (by decide)
      · exact absurd ag.1 c_433
set_option maxHeartbeats 4000000 in
set_option maxRecDepth 100000 in
theorem law_guess {p : Program} {l : Launch} {e : Env} {s : State} {m : MethodId} {below : List Frame} {meth : Method} {c : Code} (hfl : l.stackTraces = false) {D : va_G} {ad : Nat → Nat} {cI cJ cO cZ : ClassId} {b h0 o : Nat} {xs : Nat → Int32} {u r0 r1 r2 : Nat → Nat} {sa : Nat → Nat} (C0 : lw_At p s m meth c b 7 xs) (hN : ex_n s) (hE : ex_w sa s) (hZ : ex_z (fun q : Nat => s.heap.size ≤ q) s s.heap) (hKW : va_K D vwCl [(cI, .int), (cJ, .long)] s) (hKM : va_K D vwCl [(cI, .int), (cO, .array .int), (cZ, .boolean)] s) {H : Heap} {locs : List Loc} (hP : va_P D vwCl (wrW ad cI cJ o ++ tmW h0 u r0 r1 r2 cI cO cZ) H) (hD : va_D (fun q : Nat => s.heap.size ≤ q) (wrW ad cI cJ o ++ tmW h0 u r0 r1 r2 cI cO cZ)) (hS : va_S (fun q : Nat => s.heap.size ≤ q) s.heap H locs) {od : Nat} {ls : Array Slot} (hl : lv_has ls 9 [(5, .int 0), (4, .ref od), (3, .ref o), (2, .ref h0), (1, .ref (ad 0)), (0, .ref b)]) : W p l e room_1 s m #[Value.ref b] below meth c H locs 400 10000 (lw_Z below #[Value.ref b] s) (F0 m 1916 ls []) := by
  obtain ⟨hx, hb, hr, hml, hown, hts, hX, hbl, hlocks, hgv⟩ := id C0
  have hA : ∀ q : Nat, s.heap.size ≤ q → (fun q : Nat => s.heap.size ≤ q) q := fun _ h => h
  have hbA : ¬ (fun q : Nat => s.heap.size ≤ q) b := Nat.not_le.mpr hbl
  have ho : ∀ (k : Nat) (q : Nat × va_E), (tmW h0 u r0 r1 r2 cI cO cZ)[k]? = some q → q.1 ≠ o := ne_of hD 98 rfl
  have hne : h0 ≠ o := ho 0 (h0, _) rfl
  refine lv_aload_n hx hb dL_law_1916 rfl (lv_at hl 4 rfl) ?_
  refine lv_aload_n hx hb dL_law_1917 rfl (lv_at hl 5 rfl) ?_
  refine lv_iload hx hb dL_law_1918 (lv_at hl 0 rfl) ?_
  refine lv_iconst (v := 1) hx hb dL_law_1920 (by decide) ?_
  refine lv_iadd hx hb dL_law_1921 ?_
  refine W.eq (g2 := F0 m 1922 ls [.int 1, .ref b, .ref (ad 0)]) rfl ?_
  refine va_sld hx hb hX hbl hbA hS (by unfold vp_in; decide) dL_law_1922 ?_
  refine W.eq (g2 := F0 m 1923 ls [.int (xs 1), .ref (ad 0)]) rfl ?_
  refine lv_aload_n hx hb dL_law_1923 rfl (lv_at hl 5 rfl) ?_
  refine lv_iload hx hb dL_law_1924 (lv_at hl 0 rfl) ?_
  refine lv_iconst (v := 2) hx hb dL_law_1926 (by decide) ?_
  refine lv_iadd hx hb dL_law_1927 ?_
  refine W.eq (g2 := F0 m 1928 ls [.int 2, .ref b, .int (xs 1), .ref (ad 0)]) rfl ?_
  refine va_sld hx hb hX hbl hbA hS (by unfold vp_in; decide) dL_law_1928 ?_
  refine W.eq (g2 := F0 m 1929 ls [.int (xs 2), .int (xs 1), .ref (ad 0)]) rfl ?_
  refine lv_aload_n hx hb dL_law_1929 rfl (lv_at hl 5 rfl) ?_
  refine lv_iload hx hb dL_law_1930 (lv_at hl 0 rfl) ?_
  refine lv_iconst (v := 3) hx hb dL_law_1932 (by decide) ?_
  refine lv_iadd hx hb dL_law_1933 ?_
  refine W.eq (g2 := F0 m 1934 ls [.int 3, .ref b, .int (xs 2), .int (xs 1), .ref (ad 0)]) rfl ?_
  refine va_sld hx hb hX hbl hbA hS (by unfold vp_in; decide) dL_law_1934 ?_
  refine W.eq (g2 := F0 m 1935 ls [.int (xs 3), .int (xs 2), .int (xs 1), .ref (ad 0)]) rfl ?_
  refine lv_aload_n hx hb dL_law_1935 rfl (lv_at hl 5 rfl) ?_
  refine lv_iload hx hb dL_law_1936 (lv_at hl 0 rfl) ?_
  refine lv_iconst (v := 4) hx hb dL_law_1938 (by decide) ?_
  refine lv_iadd hx hb dL_law_1939 ?_
  refine W.eq (g2 := F0 m 1940 ls [.int 4, .ref b, .int (xs 3), .int (xs 2), .int (xs 1), .ref (ad 0)]) rfl ?_
  refine va_sld hx hb hX hbl hbA hS (by unfold vp_in; decide) dL_law_1940 ?_
  refine W.eq (g2 := F0 m 1941 ls [.int (xs 4), .int (xs 3), .int (xs 2), .int (xs 1), .ref (ad 0)]) rfl ?_
  refine lv_if_eq (tgt := 1948) hx hb dL_law_1941 (by decide) (fun c_435 => ?_) (fun c_435 => ?_)
  · refine lv_iconst (v := 0) hx hb dL_law_1948 (by decide) ?_
    refine lv_aload_n hx hb dL_law_1949 rfl (lv_at hl 2 rfl) ?_
    refine l_kw hP hD hS hA (vx_runSX (hh := [(0, 14, 17, 13)]) (As := [.ref (ad 0), .int (xs 1), .int (xs 2), .int (xs 3), .int 0, .ref o]) (rest := []) ⟨hx, hb, hml, hown, hts⟩ (w_guess l hfl D ad cI cJ H.size o (xs 1) (xs 2) (xs 3) 0 sa) (vx_cwSW 6 hts gl_L_guess rfl rfl rfl (by decide +kernel) ⟨Nat.le_of_ble_eq_true rfl, Nat.le_of_ble_eq_true rfl⟩) (w_preS hN hE hZ hKW (pre_P hP) (pre_D hD) hS hA) rfl rfl hl.1 rfl (lv_room (Nat.le_of_ble_eq_true rfl)) dL_law_1950 ⟨Nat.le_of_ble_eq_true rfl, Nat.le_of_ble_eq_true rfl⟩) (fun k f H locs hw hPo hPb hDb hS => ?_)
    refine lv_istore (lv' := [(6, .int k), (5, .int 0), (4, .ref od), (3, .ref o), (2, .ref h0), (1, .ref (ad 0)), (0, .ref b)]) hx hb dL_law_1953 hl (by decide) rfl (fun ls hl => ?_)
    refine lv_aload_n hx hb dL_law_1955 rfl (lv_at hl 4 rfl) ?_
    refine lv_aload_n hx hb dL_law_1956 rfl (lv_at hl 6 rfl) ?_
    refine lv_iload hx hb dL_law_1957 (lv_at hl 1 rfl) ?_
    refine lv_iconst (v := 1) hx hb dL_law_1959 (by decide) ?_
    refine lv_iadd hx hb dL_law_1960 ?_
    refine W.eq (g2 := F0 m 1961 ls [.int 1, .ref b, .ref h0]) rfl ?_
    refine va_sld hx hb hX hbl hbA hS (by unfold vp_in; decide) dL_law_1961 ?_
    refine W.eq (g2 := F0 m 1962 ls [.int (xs 1), .ref h0]) rfl ?_
    refine lv_aload_n hx hb dL_law_1962 rfl (lv_at hl 6 rfl) ?_
    refine lv_iload hx hb dL_law_1963 (lv_at hl 1 rfl) ?_
    refine lv_iconst (v := 2) hx hb dL_law_1965 (by decide) ?_
    refine lv_iadd hx hb dL_law_1966 ?_
    refine W.eq (g2 := F0 m 1967 ls [.int 2, .ref b, .int (xs 1), .ref h0]) rfl ?_
    refine va_sld hx hb hX hbl hbA hS (by unfold vp_in; decide) dL_law_1967 ?_
    refine W.eq (g2 := F0 m 1968 ls [.int (xs 2), .int (xs 1), .ref h0]) rfl ?_
    refine lv_aload_n hx hb dL_law_1968 rfl (lv_at hl 6 rfl) ?_
    refine lv_iload hx hb dL_law_1969 (lv_at hl 1 rfl) ?_
    refine lv_iconst (v := 3) hx hb dL_law_1971 (by decide) ?_
    refine lv_iadd hx hb dL_law_1972 ?_
    refine W.eq (g2 := F0 m 1973 ls [.int 3, .ref b, .int (xs 2), .int (xs 1), .ref h0]) rfl ?_
    refine va_sld hx hb hX hbl hbA hS (by unfold vp_in; decide) dL_law_1973 ?_
    refine W.eq (g2 := F0 m 1974 ls [.int (xs 3), .int (xs 2), .int (xs 1), .ref h0]) rfl ?_
    refine lv_aload_n hx hb dL_law_1974 rfl (lv_at hl 6 rfl) ?_
    refine lv_iload hx hb dL_law_1975 (lv_at hl 1 rfl) ?_
    refine lv_iconst (v := 4) hx hb dL_law_1977 (by decide) ?_
    refine lv_iadd hx hb dL_law_1978 ?_
    refine W.eq (g2 := F0 m 1979 ls [.int 4, .ref b, .int (xs 3), .int (xs 2), .int (xs 1), .ref h0]) rfl ?_
    refine va_sld hx hb hX hbl hbA hS (by unfold vp_in; decide) dL_law_1979 ?_
    refine W.eq (g2 := F0 m 1980 ls [.int (xs 4), .int (xs 3), .int (xs 2), .int (xs 1), .ref h0]) rfl ?_
    refine lv_if_eq (tgt := 1987) hx hb dL_law_1980 (by decide) (fun c_436 => ?_) (fun c_436 => ?_)
    · refine lv_iconst (v := 0) hx hb dL_law_1987 (by decide) ?_
      refine l_km hPb hDb hS hA hPo ho (va_runV (As := [.int (xs 1), .int (xs 2), .int (xs 3), .int 0]) (rest := []) ⟨hx, hb, hml, hown, hts⟩ (qm_guess l D [(cI, .int), (cO, .array .int), (cZ, .boolean)] (tmW h0 u r0 r1 r2 cI cO cZ) H.size h0 _ (xs 1) (xs 2) (xs 3) 0 rfl rfl (Nat.zero_lt_succ _)) (cwV 4 hts gl_X9_guess_ rfl rfl rfl (by decide +kernel) ⟨Nat.le_of_ble_eq_true rfl, Nat.le_of_ble_eq_true rfl⟩) (g_preV hKM hPb hDb (ci := 9) (q0 := 0) rfl rfl) rfl rfl hl.1 rfl (lv_room (Nat.le_of_ble_eq_true rfl)) dL_law_1988 ⟨Nat.le_of_ble_eq_true rfl, Nat.le_of_ble_eq_true rfl⟩) (fun r v t H locs hv hm hPm hDm hPo hS => ?_)
      refine lv_istore (lv' := [(7, .int r), (6, .int k), (5, .int 0), (4, .ref od), (3, .ref o), (2, .ref h0), (1, .ref (ad 0)), (0, .ref b)]) hx hb dL_law_1991 hl (by decide) rfl (fun ls hl => ?_)
      refine lv_aload_n hx hb dL_law_1993 rfl (lv_at hl 5 rfl) ?_
      refine l_kt hDm hS hA hPo (ne1 hne) (va_runV (As := []) (rest := []) ⟨hx, hb, hml, hown, hts⟩ (q_thrown l D [(cI, .int), (cO, .array .int), (cZ, .boolean)] H.size h0 v t hv) (cwV 0 hts gl_X9_thrown rfl rfl rfl (by decide +kernel) ⟨Nat.le_of_ble_eq_true rfl, Nat.le_of_ble_eq_true rfl⟩) (g_preV hKM hPm hDm (ci := 9) (q0 := 0) rfl rfl) rfl rfl hl.1 rfl (lv_room (Nat.le_of_ble_eq_true rfl)) dL_law_1994 ⟨Nat.le_of_ble_eq_true rfl, Nat.le_of_ble_eq_true rfl⟩) (fun H locs hPo hS => ?_)
      have ag := ag_guess (x0 := xs 1) (x1 := xs 2) (x2 := xs 3) (x3 := 0) (y := f 0) hw hm
      refine lv_iload hx hb dL_law_1997 (lv_at hl 1 rfl) ?_
      refine lv_icmp_eq (tgt := 2004) hx hb dL_law_1999 (by decide) (fun c_437 => ?_) (fun c_437 => ?_)
      · refine lv_iload hx hb dL_law_2004 (lv_at hl 1 rfl) ?_
        refine lv_if_ne (tgt := 2021) hx hb dL_law_2006 (by decide) (fun c_438 => ?_) (fun c_438 => ?_)
        · refine lv_goto (tgt := 2118) hx hb dL_law_2021 (by decide) ?_
          exact law_tail C0 hS (lv_sub hl [2, 7] rfl)
        · exact absurd ((show k = 1 from hw).symm.trans c_438) (by decide)
      · exact absurd ag.1 c_437
    · refine lv_iconst (v := 1) hx hb dL_law_1983 (by decide) ?_
      refine lv_goto (tgt := 1988) hx hb dL_law_1984 (by decide) ?_
      refine l_km hPb hDb hS hA hPo ho (va_runV (As := [.int (xs 1), .int (xs 2), .int (xs 3), .int 1]) (rest := []) ⟨hx, hb, hml, hown, hts⟩ (qm_guess l D [(cI, .int), (cO, .array .int), (cZ, .boolean)] (tmW h0 u r0 r1 r2 cI cO cZ) H.size h0 _ (xs 1) (xs 2) (xs 3) 1 rfl rfl (Nat.zero_lt_succ _)) (cwV 4 hts gl_X9_guess_ rfl rfl rfl (by decide +kernel) ⟨Nat.le_of_ble_eq_true rfl, Nat.le_of_ble_eq_true rfl⟩) (g_preV hKM hPb hDb (ci := 9) (q0 := 0) rfl rfl) rfl rfl hl.1 rfl (lv_room (Nat.le_of_ble_eq_true rfl)) dL_law_1988 ⟨Nat.le_of_ble_eq_true rfl, Nat.le_of_ble_eq_true rfl⟩) (fun r v t H locs hv hm hPm hDm hPo hS => ?_)
      refine lv_istore (lv' := [(7, .int r), (6, .int k), (5, .int 0), (4, .ref od), (3, .ref o), (2, .ref h0), (1, .ref (ad 0)), (0, .ref b)]) hx hb dL_law_1991 hl (by decide) rfl (fun ls hl => ?_)
      refine lv_aload_n hx hb dL_law_1993 rfl (lv_at hl 5 rfl) ?_
      refine l_kt hDm hS hA hPo (ne1 hne) (va_runV (As := []) (rest := []) ⟨hx, hb, hml, hown, hts⟩ (q_thrown l D [(cI, .int), (cO, .array .int), (cZ, .boolean)] H.size h0 v t hv) (cwV 0 hts gl_X9_thrown rfl rfl rfl (by decide +kernel) ⟨Nat.le_of_ble_eq_true rfl, Nat.le_of_ble_eq_true rfl⟩) (g_preV hKM hPm hDm (ci := 9) (q0 := 0) rfl rfl) rfl rfl hl.1 rfl (lv_room (Nat.le_of_ble_eq_true rfl)) dL_law_1994 ⟨Nat.le_of_ble_eq_true rfl, Nat.le_of_ble_eq_true rfl⟩) (fun H locs hPo hS => ?_)
      have ag := ag_guess (x0 := xs 1) (x1 := xs 2) (x2 := xs 3) (x3 := 0) (y := f 0) hw hm
      refine lv_iload hx hb dL_law_1997 (lv_at hl 1 rfl) ?_
      refine lv_icmp_eq (tgt := 2004) hx hb dL_law_1999 (by decide) (fun c_439 => ?_) (fun c_439 => ?_)
      · refine lv_iload hx hb dL_law_2004 (lv_at hl 1 rfl) ?_
        refine lv_if_ne (tgt := 2021) hx hb dL_law_2006 (by decide) (fun c_440 => ?_) (fun c_440 => ?_)
        · refine lv_goto (tgt := 2118) hx hb dL_law_2021 (by decide) ?_
          exact law_tail C0 hS (lv_sub hl [2, 7] rfl)
        · exact absurd ((show k = 1 from hw).symm.trans c_440) (by decide)
      · exact absurd ag.1 c_439
  · refine lv_iconst (v := 1) hx hb dL_law_1944 (by decide) ?_
    refine lv_goto (tgt := 1949) hx hb dL_law_1945 (by decide) ?_
    refine lv_aload_n hx hb dL_law_1949 rfl (lv_at hl 2 rfl) ?_
    refine l_kw hP hD hS hA (vx_runSX (hh := [(0, 14, 17, 13)]) (As := [.ref (ad 0), .int (xs 1), .int (xs 2), .int (xs 3), .int 1, .ref o]) (rest := []) ⟨hx, hb, hml, hown, hts⟩ (w_guess l hfl D ad cI cJ H.size o (xs 1) (xs 2) (xs 3) 1 sa) (vx_cwSW 6 hts gl_L_guess rfl rfl rfl (by decide +kernel) ⟨Nat.le_of_ble_eq_true rfl, Nat.le_of_ble_eq_true rfl⟩) (w_preS hN hE hZ hKW (pre_P hP) (pre_D hD) hS hA) rfl rfl hl.1 rfl (lv_room (Nat.le_of_ble_eq_true rfl)) dL_law_1950 ⟨Nat.le_of_ble_eq_true rfl, Nat.le_of_ble_eq_true rfl⟩) (fun k f H locs hw hPo hPb hDb hS => ?_)
    refine lv_istore (lv' := [(6, .int k), (5, .int 0), (4, .ref od), (3, .ref o), (2, .ref h0), (1, .ref (ad 0)), (0, .ref b)]) hx hb dL_law_1953 hl (by decide) rfl (fun ls hl => ?_)
    refine lv_aload_n hx hb dL_law_1955 rfl (lv_at hl 4 rfl) ?_
    refine lv_aload_n hx hb dL_law_1956 rfl (lv_at hl 6 rfl) ?_
    refine lv_iload hx hb dL_law_1957 (lv_at hl 1 rfl) ?_
    refine lv_iconst (v := 1) hx hb dL_law_1959 (by decide) ?_
    refine lv_iadd hx hb dL_law_1960 ?_
    refine W.eq (g2 := F0 m 1961 ls [.int 1, .ref b, .ref h0]) rfl ?_
    refine va_sld hx hb hX hbl hbA hS (by unfold vp_in; decide) dL_law_1961 ?_
    refine W.eq (g2 := F0 m 1962 ls [.int (xs 1), .ref h0]) rfl ?_
    refine lv_aload_n hx hb dL_law_1962 rfl (lv_at hl 6 rfl) ?_
    refine lv_iload hx hb dL_law_1963 (lv_at hl 1 rfl) ?_
    refine lv_iconst (v := 2) hx hb dL_law_1965 (by decide) ?_
    refine lv_iadd hx hb dL_law_1966 ?_
    refine W.eq (g2 := F0 m 1967 ls [.int 2, .ref b, .int (xs 1), .ref h0]) rfl ?_
    refine va_sld hx hb hX hbl hbA hS (by unfold vp_in; decide) dL_law_1967 ?_
    refine W.eq (g2 := F0 m 1968 ls [.int (xs 2), .int (xs 1), .ref h0]) rfl ?_
    refine lv_aload_n hx hb dL_law_1968 rfl (lv_at hl 6 rfl) ?_
    refine lv_iload hx hb dL_law_1969 (lv_at hl 1 rfl) ?_
    refine lv_iconst (v := 3) hx hb dL_law_1971 (by decide) ?_
    refine lv_iadd hx hb dL_law_1972 ?_
    refine W.eq (g2 := F0 m 1973 ls [.int 3, .ref b, .int (xs 2), .int (xs 1), .ref h0]) rfl ?_
    refine va_sld hx hb hX hbl hbA hS (by unfold vp_in; decide) dL_law_1973 ?_
    refine W.eq (g2 := F0 m 1974 ls [.int (xs 3), .int (xs 2), .int (xs 1), .ref h0]) rfl ?_
    refine lv_aload_n hx hb dL_law_1974 rfl (lv_at hl 6 rfl) ?_
    refine lv_iload hx hb dL_law_1975 (lv_at hl 1 rfl) ?_
    refine lv_iconst (v := 4) hx hb dL_law_1977 (by decide) ?_
    refine lv_iadd hx hb dL_law_1978 ?_
    refine W.eq (g2 := F0 m 1979 ls [.int 4, .ref b, .int (xs 3), .int (xs 2), .int (xs 1), .ref h0]) rfl ?_
    refine va_sld hx hb hX hbl hbA hS (by unfold vp_in; decide) dL_law_1979 ?_
    refine W.eq (g2 := F0 m 1980 ls [.int (xs 4), .int (xs 3), .int (xs 2), .int (xs 1), .ref h0]) rfl ?_
    refine lv_if_eq (tgt := 1987) hx hb dL_law_1980 (by decide) (fun c_441 => ?_) (fun c_441 => ?_)
    · refine lv_iconst (v := 0) hx hb dL_law_1987 (by decide) ?_
      refine l_km hPb hDb hS hA hPo ho (va_runV (As := [.int (xs 1), .int (xs 2), .int (xs 3), .int 0]) (rest := []) ⟨hx, hb, hml, hown, hts⟩ (qm_guess l D [(cI, .int), (cO, .array .int), (cZ, .boolean)] (tmW h0 u r0 r1 r2 cI cO cZ) H.size h0 _ (xs 1) (xs 2) (xs 3) 0 rfl rfl (Nat.zero_lt_succ _)) (cwV 4 hts gl_X9_guess_ rfl rfl rfl (by decide +kernel) ⟨Nat.le_of_ble_eq_true rfl, Nat.le_of_ble_eq_true rfl⟩) (g_preV hKM hPb hDb (ci := 9) (q0 := 0) rfl rfl) rfl rfl hl.1 rfl (lv_room (Nat.le_of_ble_eq_true rfl)) dL_law_1988 ⟨Nat.le_of_ble_eq_true rfl, Nat.le_of_ble_eq_true rfl⟩) (fun r v t H locs hv hm hPm hDm hPo hS => ?_)
      refine lv_istore (lv' := [(7, .int r), (6, .int k), (5, .int 0), (4, .ref od), (3, .ref o), (2, .ref h0), (1, .ref (ad 0)), (0, .ref b)]) hx hb dL_law_1991 hl (by decide) rfl (fun ls hl => ?_)
      refine lv_aload_n hx hb dL_law_1993 rfl (lv_at hl 5 rfl) ?_
      refine l_kt hDm hS hA hPo (ne1 hne) (va_runV (As := []) (rest := []) ⟨hx, hb, hml, hown, hts⟩ (q_thrown l D [(cI, .int), (cO, .array .int), (cZ, .boolean)] H.size h0 v t hv) (cwV 0 hts gl_X9_thrown rfl rfl rfl (by decide +kernel) ⟨Nat.le_of_ble_eq_true rfl, Nat.le_of_ble_eq_true rfl⟩) (g_preV hKM hPm hDm (ci := 9) (q0 := 0) rfl rfl) rfl rfl hl.1 rfl (lv_room (Nat.le_of_ble_eq_true rfl)) dL_law_1994 ⟨Nat.le_of_ble_eq_true rfl, Nat.le_of_ble_eq_true rfl⟩) (fun H locs hPo hS => ?_)
      have ag := ag_guess (x0 := xs 1) (x1 := xs 2) (x2 := xs 3) (x3 := 1) (y := f 0) hw hm
      refine lv_iload hx hb dL_law_1997 (lv_at hl 1 rfl) ?_
      refine lv_icmp_eq (tgt := 2004) hx hb dL_law_1999 (by decide) (fun c_442 => ?_) (fun c_442 => ?_)
      · refine lv_iload hx hb dL_law_2004 (lv_at hl 1 rfl) ?_
        refine lv_if_ne (tgt := 2021) hx hb dL_law_2006 (by decide) (fun c_443 => ?_) (fun c_443 => ?_)
        · refine lv_goto (tgt := 2118) hx hb dL_law_2021 (by decide) ?_
          exact law_tail C0 hS (lv_sub hl [2, 7] rfl)
        · exact absurd ((show k = 1 from hw).symm.trans c_443) (by decide)
      · exact absurd ag.1 c_442
    · refine lv_iconst (v := 1) hx hb dL_law_1983 (by decide) ?_
      refine lv_goto (tgt := 1988) hx hb dL_law_1984 (by decide) ?_
      refine l_km hPb hDb hS hA hPo ho (va_runV (As := [.int (xs 1), .int (xs 2), .int (xs 3), .int 1]) (rest := []) ⟨hx, hb, hml, hown, hts⟩ (qm_guess l D [(cI, .int), (cO, .array .int), (cZ, .boolean)] (tmW h0 u r0 r1 r2 cI cO cZ) H.size h0 _ (xs 1) (xs 2) (xs 3) 1 rfl rfl (Nat.zero_lt_succ _)) (cwV 4 hts gl_X9_guess_ rfl rfl rfl (by decide +kernel) ⟨Nat.le_of_ble_eq_true rfl, Nat.le_of_ble_eq_true rfl⟩) (g_preV hKM hPb hDb (ci := 9) (q0 := 0) rfl rfl) rfl rfl hl.1 rfl (lv_room (Nat.le_of_ble_eq_true rfl)) dL_law_1988 ⟨Nat.le_of_ble_eq_true rfl, Nat.le_of_ble_eq_true rfl⟩) (fun r v t H locs hv hm hPm hDm hPo hS => ?_)
      refine lv_istore (lv' := [(7, .int r), (6, .int k), (5, .int 0), (4, .ref od), (3, .ref o), (2, .ref h0), (1, .ref (ad 0)), (0, .ref b)]) hx hb dL_law_1991 hl (by decide) rfl (fun ls hl => ?_)
      refine lv_aload_n hx hb dL_law_1993 rfl (lv_at hl 5 rfl) ?_
      refine l_kt hDm hS hA hPo (ne1 hne) (va_runV (As := []) (rest := []) ⟨hx, hb, hml, hown, hts⟩ (q_thrown l D [(cI, .int), (cO, .array .int), (cZ, .boolean)] H.size h0 v t hv) (cwV 0 hts gl_X9_thrown rfl rfl rfl (by decide +kernel) ⟨Nat.le_of_ble_eq_true rfl, Nat.le_of_ble_eq_true rfl⟩) (g_preV hKM hPm hDm (ci := 9) (q0 := 0) rfl rfl) rfl rfl hl.1 rfl (lv_room (Nat.le_of_ble_eq_true rfl)) dL_law_1994 ⟨Nat.le_of_ble_eq_true rfl, Nat.le_of_ble_eq_true rfl⟩) (fun H locs hPo hS => ?_)
      have ag := ag_guess (x0 := xs 1) (x1 := xs 2) (x2 := xs 3) (x3 := 1) (y := f 0) hw hm
      refine lv_iload hx hb dL_law_1997 (lv_at hl 1 rfl) ?_
      refine lv_icmp_eq (tgt := 2004) hx hb dL_law_1999 (by decide) (fun c_444 => ?_) (fun c_444 => ?_)
      · refine lv_iload hx hb dL_law_2004 (lv_at hl 1 rfl) ?_
        refine lv_if_ne (tgt := 2021) hx hb dL_law_2006 (by decide) (fun c_445 => ?_) (fun c_445 => ?_)
        · refine lv_goto (tgt := 2118) hx hb dL_law_2021 (by decide) ?_
          exact law_tail C0 hS (lv_sub hl [2, 7] rfl)
        · exact absurd ((show k = 1 from hw).symm.trans c_445) (by decide)
      · exact absurd ag.1 c_444
set_option maxHeartbeats 4000000 in
set_option maxRecDepth 100000 in
theorem law_worth {p : Program} {l : Launch} {e : Env} {s : State} {m : MethodId} {below : List Frame} {meth : Method} {c : Code} (hfl : l.stackTraces = false) {D : va_G} {ad : Nat → Nat} {cI cJ cO cZ : ClassId} {b h0 o : Nat} {xs : Nat → Int32} {u r0 r1 r2 : Nat → Nat} {sa : Nat → Nat} (C0 : lw_At p s m meth c b 7 xs) (hN : ex_n s) (hE : ex_w sa s) (hZ : ex_z (fun q : Nat => s.heap.size ≤ q) s s.heap) (hKW : va_K D vwCl [(cI, .int), (cJ, .long)] s) (hKM : va_K D vwCl [(cI, .int), (cO, .array .int), (cZ, .boolean)] s) {H : Heap} {locs : List Loc} (hP : va_P D vwCl (wrW ad cI cJ o ++ tmW h0 u r0 r1 r2 cI cO cZ) H) (hD : va_D (fun q : Nat => s.heap.size ≤ q) (wrW ad cI cJ o ++ tmW h0 u r0 r1 r2 cI cO cZ)) (hS : va_S (fun q : Nat => s.heap.size ≤ q) s.heap H locs) {od : Nat} {ls : Array Slot} (hl : lv_has ls 9 [(5, .int 0), (4, .ref od), (3, .ref o), (2, .ref h0), (1, .ref (ad 0)), (0, .ref b)]) : W p l e room_1 s m #[Value.ref b] below meth c H locs 400 10000 (lw_Z below #[Value.ref b] s) (F0 m 2024 ls []) := by
  obtain ⟨hx, hb, hr, hml, hown, hts, hX, hbl, hlocks, hgv⟩ := id C0
  have hA : ∀ q : Nat, s.heap.size ≤ q → (fun q : Nat => s.heap.size ≤ q) q := fun _ h => h
  have hbA : ¬ (fun q : Nat => s.heap.size ≤ q) b := Nat.not_le.mpr hbl
  have ho : ∀ (k : Nat) (q : Nat × va_E), (tmW h0 u r0 r1 r2 cI cO cZ)[k]? = some q → q.1 ≠ o := ne_of hD 98 rfl
  have hne : h0 ≠ o := ho 0 (h0, _) rfl
  refine lv_aload_n hx hb dL_law_2024 rfl (lv_at hl 4 rfl) ?_
  refine lv_aload_n hx hb dL_law_2025 rfl (lv_at hl 5 rfl) ?_
  refine lv_iload hx hb dL_law_2026 (lv_at hl 0 rfl) ?_
  refine lv_iconst (v := 1) hx hb dL_law_2028 (by decide) ?_
  refine lv_iadd hx hb dL_law_2029 ?_
  refine W.eq (g2 := F0 m 2030 ls [.int 1, .ref b, .ref (ad 0)]) rfl ?_
  refine va_sld hx hb hX hbl hbA hS (by unfold vp_in; decide) dL_law_2030 ?_
  refine W.eq (g2 := F0 m 2031 ls [.int (xs 1), .ref (ad 0)]) rfl ?_
  refine lv_aload_n hx hb dL_law_2031 rfl (lv_at hl 5 rfl) ?_
  refine lv_iload hx hb dL_law_2032 (lv_at hl 0 rfl) ?_
  refine lv_iconst (v := 2) hx hb dL_law_2034 (by decide) ?_
  refine lv_iadd hx hb dL_law_2035 ?_
  refine W.eq (g2 := F0 m 2036 ls [.int 2, .ref b, .int (xs 1), .ref (ad 0)]) rfl ?_
  refine va_sld hx hb hX hbl hbA hS (by unfold vp_in; decide) dL_law_2036 ?_
  refine W.eq (g2 := F0 m 2037 ls [.int (xs 2), .int (xs 1), .ref (ad 0)]) rfl ?_
  refine lv_aload_n hx hb dL_law_2037 rfl (lv_at hl 5 rfl) ?_
  refine lv_iload hx hb dL_law_2038 (lv_at hl 0 rfl) ?_
  refine lv_iconst (v := 3) hx hb dL_law_2040 (by decide) ?_
  refine lv_iadd hx hb dL_law_2041 ?_
  refine W.eq (g2 := F0 m 2042 ls [.int 3, .ref b, .int (xs 2), .int (xs 1), .ref (ad 0)]) rfl ?_
  refine va_sld hx hb hX hbl hbA hS (by unfold vp_in; decide) dL_law_2042 ?_
  refine W.eq (g2 := F0 m 2043 ls [.int (xs 3), .int (xs 2), .int (xs 1), .ref (ad 0)]) rfl ?_
  refine lv_aload_n hx hb dL_law_2043 rfl (lv_at hl 2 rfl) ?_
  refine l_kw hP hD hS hA (vx_runSX (hh := [(0, 12, 15, 13), (0, 12, 19, 15)]) (As := [.ref (ad 0), .int (xs 1), .int (xs 2), .int (xs 3), .ref o]) (rest := []) ⟨hx, hb, hml, hown, hts⟩ (w_worth l hfl D ad cI cJ H.size o (xs 1) (xs 2) (xs 3) sa) (vx_cwSW 5 hts gl_L_worth rfl rfl rfl (by decide +kernel) ⟨Nat.le_of_ble_eq_true rfl, Nat.le_of_ble_eq_true rfl⟩) (w_preS hN hE hZ hKW (pre_P hP) (pre_D hD) hS hA) rfl rfl hl.1 rfl (lv_room (Nat.le_of_ble_eq_true rfl)) dL_law_2044 ⟨Nat.le_of_ble_eq_true rfl, Nat.le_of_ble_eq_true rfl⟩) (fun k f H locs hw hPo hPb hDb hS => ?_)
  refine lv_istore (lv' := [(6, .int k), (5, .int 0), (4, .ref od), (3, .ref o), (2, .ref h0), (1, .ref (ad 0)), (0, .ref b)]) hx hb dL_law_2047 hl (by decide) rfl (fun ls hl => ?_)
  refine lv_aload_n hx hb dL_law_2049 rfl (lv_at hl 4 rfl) ?_
  refine lv_aload_n hx hb dL_law_2050 rfl (lv_at hl 6 rfl) ?_
  refine lv_iload hx hb dL_law_2051 (lv_at hl 1 rfl) ?_
  refine lv_iconst (v := 1) hx hb dL_law_2053 (by decide) ?_
  refine lv_iadd hx hb dL_law_2054 ?_
  refine W.eq (g2 := F0 m 2055 ls [.int 1, .ref b, .ref h0]) rfl ?_
  refine va_sld hx hb hX hbl hbA hS (by unfold vp_in; decide) dL_law_2055 ?_
  refine W.eq (g2 := F0 m 2056 ls [.int (xs 1), .ref h0]) rfl ?_
  refine lv_aload_n hx hb dL_law_2056 rfl (lv_at hl 6 rfl) ?_
  refine lv_iload hx hb dL_law_2057 (lv_at hl 1 rfl) ?_
  refine lv_iconst (v := 2) hx hb dL_law_2059 (by decide) ?_
  refine lv_iadd hx hb dL_law_2060 ?_
  refine W.eq (g2 := F0 m 2061 ls [.int 2, .ref b, .int (xs 1), .ref h0]) rfl ?_
  refine va_sld hx hb hX hbl hbA hS (by unfold vp_in; decide) dL_law_2061 ?_
  refine W.eq (g2 := F0 m 2062 ls [.int (xs 2), .int (xs 1), .ref h0]) rfl ?_
  refine lv_aload_n hx hb dL_law_2062 rfl (lv_at hl 6 rfl) ?_
  refine lv_iload hx hb dL_law_2063 (lv_at hl 1 rfl) ?_
  refine lv_iconst (v := 3) hx hb dL_law_2065 (by decide) ?_
  refine lv_iadd hx hb dL_law_2066 ?_
  refine W.eq (g2 := F0 m 2067 ls [.int 3, .ref b, .int (xs 2), .int (xs 1), .ref h0]) rfl ?_
  refine va_sld hx hb hX hbl hbA hS (by unfold vp_in; decide) dL_law_2067 ?_
  refine W.eq (g2 := F0 m 2068 ls [.int (xs 3), .int (xs 2), .int (xs 1), .ref h0]) rfl ?_
  refine l_km hPb hDb hS hA hPo ho (va_runV (As := [.int (xs 1), .int (xs 2), .int (xs 3)]) (rest := []) ⟨hx, hb, hml, hown, hts⟩ (qm_worth l D [(cI, .int), (cO, .array .int), (cZ, .boolean)] (tmW h0 u r0 r1 r2 cI cO cZ) H.size h0 _ (xs 1) (xs 2) (xs 3) rfl rfl (Nat.zero_lt_succ _)) (cwV 3 hts gl_X9_worth rfl rfl rfl (by decide +kernel) ⟨Nat.le_of_ble_eq_true rfl, Nat.le_of_ble_eq_true rfl⟩) (g_preV hKM hPb hDb (ci := 9) (q0 := 0) rfl rfl) rfl rfl hl.1 rfl (lv_room (Nat.le_of_ble_eq_true rfl)) dL_law_2068 ⟨Nat.le_of_ble_eq_true rfl, Nat.le_of_ble_eq_true rfl⟩) (fun r v t H locs hv hm hPm hDm hPo hS => ?_)
  refine lv_istore (lv' := [(7, .int r), (6, .int k), (5, .int 0), (4, .ref od), (3, .ref o), (2, .ref h0), (1, .ref (ad 0)), (0, .ref b)]) hx hb dL_law_2071 hl (by decide) rfl (fun ls hl => ?_)
  refine lv_aload_n hx hb dL_law_2073 rfl (lv_at hl 5 rfl) ?_
  refine l_kt hDm hS hA hPo (ne1 hne) (va_runV (As := []) (rest := []) ⟨hx, hb, hml, hown, hts⟩ (q_thrown l D [(cI, .int), (cO, .array .int), (cZ, .boolean)] H.size h0 v t hv) (cwV 0 hts gl_X9_thrown rfl rfl rfl (by decide +kernel) ⟨Nat.le_of_ble_eq_true rfl, Nat.le_of_ble_eq_true rfl⟩) (g_preV hKM hPm hDm (ci := 9) (q0 := 0) rfl rfl) rfl rfl hl.1 rfl (lv_room (Nat.le_of_ble_eq_true rfl)) dL_law_2074 ⟨Nat.le_of_ble_eq_true rfl, Nat.le_of_ble_eq_true rfl⟩) (fun H locs hPo hS => ?_)
  have ag := ag_worth (x0 := xs 1) (x1 := xs 2) (x2 := xs 3) (y := f 0) hw hm
  refine lv_iload hx hb dL_law_2077 (lv_at hl 1 rfl) ?_
  refine lv_icmp_eq (tgt := 2084) hx hb dL_law_2079 (by decide) (fun c_446 => ?_) (fun c_446 => ?_)
  · refine lv_iload hx hb dL_law_2084 (lv_at hl 1 rfl) ?_
    refine lv_if_ne (tgt := 2101) hx hb dL_law_2086 (by decide) (fun c_447 => ?_) (fun c_447 => ?_)
    · refine lv_goto (tgt := 2118) hx hb dL_law_2101 (by decide) ?_
      exact law_tail C0 hS (lv_sub hl [2, 7] rfl)
    · exact absurd ((show k = 1 from hw).symm.trans c_447) (by decide)
  · exact absurd ag.1 c_446
set_option maxHeartbeats 4000000 in
set_option maxRecDepth 100000 in
theorem law_digest {p : Program} {l : Launch} {e : Env} {s : State} {m : MethodId} {below : List Frame} {meth : Method} {c : Code} (hfl : l.stackTraces = false) {D : va_G} {ad : Nat → Nat} {cI cJ cO cZ : ClassId} {b h0 o : Nat} {xs : Nat → Int32} {u r0 r1 r2 : Nat → Nat} {sa : Nat → Nat} (C0 : lw_At p s m meth c b 7 xs) (hN : ex_n s) (hE : ex_w sa s) (hZ : ex_z (fun q : Nat => s.heap.size ≤ q) s s.heap) (hKW : va_K D vwCl [(cI, .int), (cJ, .long)] s) (hKM : va_K D vwCl [(cI, .int), (cO, .array .int), (cZ, .boolean)] s) {H : Heap} {locs : List Loc} (hP : va_P D vwCl (wrW ad cI cJ o ++ tmW h0 u r0 r1 r2 cI cO cZ) H) (hD : va_D (fun q : Nat => s.heap.size ≤ q) (wrW ad cI cJ o ++ tmW h0 u r0 r1 r2 cI cO cZ)) (hS : va_S (fun q : Nat => s.heap.size ≤ q) s.heap H locs) {od : Nat} {ls : Array Slot} (hl : lv_has ls 9 [(5, .int 0), (4, .ref od), (3, .ref o), (2, .ref h0), (1, .ref (ad 0)), (0, .ref b)]) : W p l e room_1 s m #[Value.ref b] below meth c H locs 400 10000 (lw_Z below #[Value.ref b] s) (F0 m 2104 ls []) := by
  obtain ⟨hx, hb, hr, hml, hown, hts, hX, hbl, hlocks, hgv⟩ := id C0
  have hA : ∀ q : Nat, s.heap.size ≤ q → (fun q : Nat => s.heap.size ≤ q) q := fun _ h => h
  have hbA : ¬ (fun q : Nat => s.heap.size ≤ q) b := Nat.not_le.mpr hbl
  refine lv_aload_n hx hb dL_law_2104 rfl (lv_at hl 4 rfl) ?_
  refine l_kl (a := tcW ad cI tc_0) (b := [(o, .inl (cJ, 1, .inr (.inl (fun _ => 0))))] ++ tmW h0 u r0 r1 r2 cI cO cZ) (by rw [← List.append_assoc]; exact hP) (by rw [← List.append_assoc]; exact hD) hS hA (vx_runV (As := []) (rest := []) ⟨hx, hb, hml, hown, hts⟩ (o_digest l hfl D ad cI H.size sa) (cwV 0 hts gl_X8_digest rfl rfl rfl (by decide +kernel) ⟨Nat.le_of_ble_eq_true rfl, Nat.le_of_ble_eq_true rfl⟩) (h_preV hE hZ (hKW.sub (tys' := [(cI, .int)]) [0] rfl) (pre_P (pre_P hP)) (pre_D (pre_D hD)) hS hA (ci := 8) (q0 := 0) rfl rfl) rfl rfl hl.1 rfl (lv_room (Nat.le_of_ble_eq_true rfl)) dL_law_2105 ⟨Nat.le_of_ble_eq_true rfl, Nat.le_of_ble_eq_true rfl⟩) (fun k H locs hw hPb hDb hS => ?_)
  obtain ⟨hPb, hDb⟩ := fr_keep hPb hDb (H1 := H) (fun q _ _ => rfl)
  refine lv_aload_n hx hb dL_law_2108 rfl (lv_at hl 3 rfl) ?_
  refine l_kml hDb hS hA (va_runV (As := []) (rest := [.long k]) ⟨hx, hb, hml, hown, hts⟩ (qm_digest l D H.size h0 u r0 r1 r2 cI cO cZ (tmP r0 r1 r2 cI)) (cwV 0 hts gl_X9_digest rfl rfl rfl (by decide +kernel) ⟨Nat.le_of_ble_eq_true rfl, Nat.le_of_ble_eq_true rfl⟩) (g_preV hKM hPb hDb (ci := 9) (q0 := 0) rfl rfl) rfl rfl hl.1 rfl (lv_room (Nat.le_of_ble_eq_true rfl)) dL_law_2109 ⟨Nat.le_of_ble_eq_true rfl, Nat.le_of_ble_eq_true rfl⟩) (fun r t H locs hm hS => ?_)
  refine W.lcmp hx hb dL_law_2112 ?_
  refine lv_if_eq (tgt := 2118) hx hb dL_law_2113 (by decide) (fun c_448 => ?_) (fun c_448 => ?_)
  · exact law_tail C0 hS (lv_sub hl [0, 5] rfl)
  · exact absurd (by rw [hw.1, hm.1]; rfl) c_448
