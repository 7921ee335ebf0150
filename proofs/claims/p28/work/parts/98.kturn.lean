section TX
variable {p : Program} {l : Launch} {e : Env} {s : State} {m : MethodId} {args : Array Value} {below : List Frame} {meth : Method} {c : Code} {H : Heap} {locs : List Loc} {cells slots : Nat} {Q : State → Prop}
variable {D : va_G} {A : Nat → Prop} {H0 : Heap} {ad : Nat → Nat} {o9 b : Nat} {y : tA} {cI cO : ClassId} {g : tG} {dr : Nat} {cd : Int32} {nf n : Nat}
variable {ad3 : Nat → Nat} {h g0 : tG} {E : va_W} {f : Nat → Int32} {qz : Nat} {cZ : ClassId}
variable {n' p0 d0 : Nat}
set_option maxHeartbeats 4000000 in
set_option maxRecDepth 100000 in
theorem s_chk_day (hx : p.tables.exec = Jvm.exec) (hb : c.code = cL_isTurned) (hml : c.maxLocals = 7) (hts : ∀ w ∈ wsL_isTurned, w.before args s = true) (hown : s.vm.findClass RL = some m.cls) (hA : ∀ q : Nat, s.heap.size ≤ q → A q) (hK : va_K D vwCl (tZ_T cI cO cZ) s) (hcl : cells ≤ 99) (hsl : slots ≤ 2268) (hp : p0 < 3) (hf : f p0 = 0) (hd : d0 < 10) : ∀ (r q : Nat) (g h : tG) (H : Heap) (locs : List Loc) (ls : Array Slot), q + r = 7 → CHK g0 g h n n' f → lv_has ls 7 [(5, .int (nI q)), (4, .int (nI d0)), (3, .int (nI p0)), (2, .ref qz), (0, .ref o9), (1, .ref (ad3 0))] → va_P D vwCl (tcW ad3 cI h ++ (tW ad o9 y b cI cO g dr cd nf n ++ [(qz, .inl (cZ, 3, .inl f))])) H → va_D A (tcW ad3 cI h ++ (tW ad o9 y b cI cO g dr cd nf n ++ [(qz, .inl (cZ, 3, .inl f))])) → va_S A s.heap H locs → (∀ (g h : tG) (H : Heap) (locs : List Loc) (ls : Array Slot), CHK g0 g h n n' f → lv_has ls 7 [(5, .int (nI 7)), (4, .int (nI d0)), (3, .int (nI p0)), (2, .ref qz), (0, .ref o9), (1, .ref (ad3 0))] → va_P D vwCl (tcW ad3 cI h ++ (tW ad o9 y b cI cO g dr cd nf n ++ [(qz, .inl (cZ, 3, .inl f))])) H → va_D A (tcW ad3 cI h ++ (tW ad o9 y b cI cO g dr cd nf n ++ [(qz, .inl (cZ, 3, .inl f))])) → va_S A s.heap H locs → W p l e ({ frames := 8, cells := 99, slots := 2268, locals := 230 } : Room) s m args below meth c H locs cells slots Q (F0 m 317 ls [])) → W p l e ({ frames := 8, cells := 99, slots := 2268, locals := 230 } : Room) s m args below meth c H locs cells slots Q (F0 m 278 ls []) := by
  have winX9 : ∀ w ∈ u_ws RX9 TX9 9, w ∈ wsL_isTurned := by decide +kernel
  intro r
  induction r with
  | zero =>
    intro q g h H locs ls hq ck hl hP hD hS kk
    have e9 : q = 7 := by omega
    subst e9
    refine lv_iload hx hb dL_isTurned_278 (lv_at hl 0 rfl) ?_
    refine lv_bipush (v := 7) hx hb dL_isTurned_280 (by decide) ?_
    refine lv_icmp_ge (tgt := 317) hx hb dL_isTurned_282 (by decide) (fun c1 => ?_) (fun c1 => absurd (by decide) c1)
    exact kk g h H locs ls ck hl hP hD hS
  | succ r ih =>
    intro q g h H locs ls hq ck hl hP hD hS kk
    obtain ⟨isg, ish⟩ := ck.isP hp
    refine lv_iload hx hb dL_isTurned_278 (lv_at hl 0 rfl) ?_
    refine lv_bipush (v := 7) hx hb dL_isTurned_280 (by decide) ?_
    refine lv_icmp_ge (tgt := 317) hx hb dL_isTurned_282 (by decide) (fun c1 => absurd ((nI_geq (b := 7) (by omega) (by decide)).mp c1) (by omega)) (fun c1 => ?_)
    refine lv_aload_n hx hb dL_isTurned_285 rfl (lv_at hl 5 rfl) ?_
    refine lv_iload_n hx hb dL_isTurned_286 rfl (lv_at hl 2 rfl) ?_
    refine lv_iload hx hb dL_isTurned_287 (lv_at hl 1 rfl) ?_
    refine lv_iload hx hb dL_isTurned_289 (lv_at hl 0 rfl) ?_
    have hK8 := hK.sub (tys' := [(cI, .int)]) [0] rfl
    refine t_ki hP hD hS hA (va_runV (As := [.int (nI p0), .int (nI d0), .int (nI q)]) (rest := []) ⟨hx, hb, hml, hown, hts⟩ (kX8_ofDay l D ad3 cI h H.size (nI p0) (nI d0) (nI q) ish (in_NI (n := 28) (by omega) (by decide)) (in_RI (a := 0) (b := 7) (Nat.zero_le _) (by omega) (by decide))) (cwV 3 hts gL_isTurned_X8_ofDay rfl rfl rfl (by decide +kernel) ⟨Nat.le_of_ble_eq_true rfl, Nat.le_of_ble_eq_true rfl⟩) (g_preV hK8 (pre_P hP) (pre_D hD) (ci := 8) (q0 := 0) rfl rfl) rfl rfl hl.1 rfl (lv_room (Nat.le_of_ble_eq_true rfl)) dL_isTurned_291 ⟨(show cells + 0 ≤ 99 by omega), (show slots + 0 ≤ 2268 by omega)⟩) (fun H locs hP hD hS => ?_)
    refine lv_aload_n hx hb dL_isTurned_294 rfl (lv_at hl 4 rfl) ?_
    refine va_get (D := D) (ci := 9) (v := .ref (ad 0)) (C := RX9) (T := TX9) (N := 9) hx hb hts winX9 hown hK hP (98 + 98) (w3_at tW_o) rfl 0 (by decide) (hts (.fieldLink RL 14 "TapCapLaw$Told" "m" "LTapCap;") (List.mem_of_getElem? (i := 4) rfl)) (fun _ h9 => h9) rfl dL_isTurned_295 ?_
    refine lv_iload_n hx hb dL_isTurned_298 rfl (lv_at hl 2 rfl) ?_
    refine lv_iload hx hb dL_isTurned_299 (lv_at hl 1 rfl) ?_
    refine lv_iload hx hb dL_isTurned_301 (lv_at hl 0 rfl) ?_
    have hK8 := hK.sub (tys' := [(cI, .int)]) [0] rfl
    have hP : va_P D vwCl (tcW ad3 cI (fX8_ofDay_w h (nI p0) (nI d0) (nI q)) ++ ((tcW ad cI g ++ tX ad o9 y b cI cO g dr cd nf n) ++ [(qz, .inl (cZ, 3, .inl f))])) H := hP
    have hD : va_D A (tcW ad3 cI (fX8_ofDay_w h (nI p0) (nI d0) (nI q)) ++ ((tcW ad cI g ++ tX ad o9 y b cI cO g dr cd nf n) ++ [(qz, .inl (cZ, 3, .inl f))])) := hD
    refine t_kmi hP hD hS hA (va_runV (As := [.int (nI p0), .int (nI d0), .int (nI q)]) (rest := [.int (fX8_ofDay_r h (nI p0) (nI d0) (nI q))]) ⟨hx, hb, hml, hown, hts⟩ (kX8_ofDay l D ad cI g H.size (nI p0) (nI d0) (nI q) isg (in_NI (n := 28) (by omega) (by decide)) (in_RI (a := 0) (b := 7) (Nat.zero_le _) (by omega) (by decide))) (cwV 3 hts gL_isTurned_X8_ofDay rfl rfl rfl (by decide +kernel) ⟨Nat.le_of_ble_eq_true rfl, Nat.le_of_ble_eq_true rfl⟩) (g_preV hK8 (mid_P hP) (mid_D hD) (ci := 8) (q0 := 0) rfl rfl) rfl rfl hl.1 rfl (lv_room (Nat.le_of_ble_eq_true rfl)) dL_isTurned_303 ⟨(show cells + 0 + 0 ≤ 99 by omega), (show slots + 0 + 0 ≤ 2268 by omega)⟩) (fun H locs hP hD hS => ?_)
    rw [tW_keep (ofDay_KEEP g (nI p0) (nI d0) (nI q))] at hP hD
    refine lv_icmp_eq (tgt := 311) hx hb dL_isTurned_306 (by decide) (fun c2 => ?_) (fun c2 => absurd (ck.day hp hf hd (by omega)) c2)
    refine lv_iinc (v := nI (q + 1)) (lv' := [(5, .int (nI (q + 1))), (4, .int (nI d0)), (3, .int (nI p0)), (2, .ref qz), (0, .ref o9), (1, .ref (ad3 0))]) hx hb dL_isTurned_311 hl (k := 0) rfl (nI_1 q) (by decide) rfl (fun ls hl => ?_)
    refine lv_goto (tgt := 278) hx hb dL_isTurned_314 (by decide) ?_
    exact ih (q + 1) _ _ H locs ls (by omega) (ck.keep (ofDay_KEEP g (nI p0) (nI d0) (nI q)) (ofDay_KEEP h (nI p0) (nI d0) (nI q))) (lv_sub hl [0, 1, 2, 3, 4, 5] rfl) hP hD hS kk
variable {k0 c0 : Nat}
set_option maxHeartbeats 4000000 in
set_option maxRecDepth 100000 in
theorem s_chk_leg (hx : p.tables.exec = Jvm.exec) (hb : c.code = cL_isTurned) (hml : c.maxLocals = 7) (hts : ∀ w ∈ wsL_isTurned, w.before args s = true) (hown : s.vm.findClass RL = some m.cls) (hA : ∀ q : Nat, s.heap.size ≤ q → A q) (hK : va_K D vwCl (tZ_T cI cO cZ) s) (hcl : cells ≤ 99) (hsl : slots ≤ 2268) (hp : p0 < 3) (hf : f p0 = 0) (hd : d0 < 10) (hk : k0 < c0) (hc : c0 ≤ 41) : ∀ (r q : Nat) (g h : tG) (H : Heap) (locs : List Loc) (ls : Array Slot), q + r = 7 → CHK g0 g h n n' f → fX8_ofDay_r h (nI p0) (nI d0) 1 = nI c0 → fX8_ofDay_r g (nI p0) (nI d0) 1 = nI c0 → lv_has ls 7 [(6, .int (nI q)), (5, .int (nI k0)), (4, .int (nI d0)), (3, .int (nI p0)), (2, .ref qz), (0, .ref o9), (1, .ref (ad3 0))] → va_P D vwCl (tcW ad3 cI h ++ (tW ad o9 y b cI cO g dr cd nf n ++ [(qz, .inl (cZ, 3, .inl f))])) H → va_D A (tcW ad3 cI h ++ (tW ad o9 y b cI cO g dr cd nf n ++ [(qz, .inl (cZ, 3, .inl f))])) → va_S A s.heap H locs → (∀ (g h : tG) (H : Heap) (locs : List Loc) (ls : Array Slot), CHK g0 g h n n' f → fX8_ofDay_r h (nI p0) (nI d0) 1 = nI c0 → fX8_ofDay_r g (nI p0) (nI d0) 1 = nI c0 → lv_has ls 7 [(6, .int (nI 7)), (5, .int (nI k0)), (4, .int (nI d0)), (3, .int (nI p0)), (2, .ref qz), (0, .ref o9), (1, .ref (ad3 0))] → va_P D vwCl (tcW ad3 cI h ++ (tW ad o9 y b cI cO g dr cd nf n ++ [(qz, .inl (cZ, 3, .inl f))])) H → va_D A (tcW ad3 cI h ++ (tW ad o9 y b cI cO g dr cd nf n ++ [(qz, .inl (cZ, 3, .inl f))])) → va_S A s.heap H locs → W p l e ({ frames := 8, cells := 99, slots := 2268, locals := 230 } : Room) s m args below meth c H locs cells slots Q (F0 m 379 ls [])) → W p l e ({ frames := 8, cells := 99, slots := 2268, locals := 230 } : Room) s m args below meth c H locs cells slots Q (F0 m 336 ls []) := by
  have winX9 : ∀ w ∈ u_ws RX9 TX9 9, w ∈ wsL_isTurned := by decide +kernel
  intro r
  induction r with
  | zero =>
    intro q g h H locs ls hq ck ch cg hl hP hD hS kk
    have e9 : q = 7 := by omega
    subst e9
    refine lv_iload hx hb dL_isTurned_336 (lv_at hl 0 rfl) ?_
    refine lv_bipush (v := 7) hx hb dL_isTurned_338 (by decide) ?_
    refine lv_icmp_ge (tgt := 379) hx hb dL_isTurned_340 (by decide) (fun c1 => ?_) (fun c1 => absurd (by decide) c1)
    exact kk g h H locs ls ck ch cg hl hP hD hS
  | succ r ih =>
    intro q g h H locs ls hq ck ch cg hl hP hD hS kk
    obtain ⟨isg, ish⟩ := ck.isP hp
    refine lv_iload hx hb dL_isTurned_336 (lv_at hl 0 rfl) ?_
    refine lv_bipush (v := 7) hx hb dL_isTurned_338 (by decide) ?_
    refine lv_icmp_ge (tgt := 379) hx hb dL_isTurned_340 (by decide) (fun c1 => absurd ((nI_geq (b := 7) (by omega) (by decide)).mp c1) (by omega)) (fun c1 => ?_)
    refine lv_aload_n hx hb dL_isTurned_343 rfl (lv_at hl 6 rfl) ?_
    refine lv_iload_n hx hb dL_isTurned_344 rfl (lv_at hl 3 rfl) ?_
    refine lv_iload hx hb dL_isTurned_345 (lv_at hl 2 rfl) ?_
    refine lv_iload hx hb dL_isTurned_347 (lv_at hl 1 rfl) ?_
    refine lv_iload hx hb dL_isTurned_349 (lv_at hl 0 rfl) ?_
    have hK8 := hK.sub (tys' := [(cI, .int)]) [0] rfl
    refine t_ki hP hD hS hA (va_runV (As := [.int (nI p0), .int (nI d0), .int (nI k0), .int (nI q)]) (rest := []) ⟨hx, hb, hml, hown, hts⟩ (kX8_ofLeg l D ad3 cI h H.size (nI p0) (nI d0) (nI k0) (nI q) ish (in_NI (n := 28) (by omega) (by decide)) (by rw [← ofDay_1, ch]; exact in_NI hk (by omega)) (in_RI (a := 0) (b := 6) (Nat.zero_le _) (by omega) (by decide))) (cwV 4 hts gL_isTurned_X8_ofLeg rfl rfl rfl (by decide +kernel) ⟨Nat.le_of_ble_eq_true rfl, Nat.le_of_ble_eq_true rfl⟩) (g_preV hK8 (pre_P hP) (pre_D hD) (ci := 8) (q0 := 0) rfl rfl) rfl rfl hl.1 rfl (lv_room (Nat.le_of_ble_eq_true rfl)) dL_isTurned_351 ⟨(show cells + 0 ≤ 99 by omega), (show slots + 0 ≤ 2268 by omega)⟩) (fun H locs hP hD hS => ?_)
    refine lv_aload_n hx hb dL_isTurned_354 rfl (lv_at hl 5 rfl) ?_
    refine va_get (D := D) (ci := 9) (v := .ref (ad 0)) (C := RX9) (T := TX9) (N := 9) hx hb hts winX9 hown hK hP (98 + 98) (w3_at tW_o) rfl 0 (by decide) (hts (.fieldLink RL 14 "TapCapLaw$Told" "m" "LTapCap;") (List.mem_of_getElem? (i := 4) rfl)) (fun _ h9 => h9) rfl dL_isTurned_355 ?_
    refine lv_iload_n hx hb dL_isTurned_358 rfl (lv_at hl 3 rfl) ?_
    refine lv_iload hx hb dL_isTurned_359 (lv_at hl 2 rfl) ?_
    refine lv_iload hx hb dL_isTurned_361 (lv_at hl 1 rfl) ?_
    refine lv_iload hx hb dL_isTurned_363 (lv_at hl 0 rfl) ?_
    have hK8 := hK.sub (tys' := [(cI, .int)]) [0] rfl
    have hP : va_P D vwCl (tcW ad3 cI (fX8_ofLeg_w h (nI p0) (nI d0) (nI k0) (nI q)) ++ ((tcW ad cI g ++ tX ad o9 y b cI cO g dr cd nf n) ++ [(qz, .inl (cZ, 3, .inl f))])) H := hP
    have hD : va_D A (tcW ad3 cI (fX8_ofLeg_w h (nI p0) (nI d0) (nI k0) (nI q)) ++ ((tcW ad cI g ++ tX ad o9 y b cI cO g dr cd nf n) ++ [(qz, .inl (cZ, 3, .inl f))])) := hD
    refine t_kmi hP hD hS hA (va_runV (As := [.int (nI p0), .int (nI d0), .int (nI k0), .int (nI q)]) (rest := [.int (fX8_ofLeg_r h (nI p0) (nI d0) (nI k0) (nI q))]) ⟨hx, hb, hml, hown, hts⟩ (kX8_ofLeg l D ad cI g H.size (nI p0) (nI d0) (nI k0) (nI q) isg (in_NI (n := 28) (by omega) (by decide)) (by rw [← ofDay_1, cg]; exact in_NI hk (by omega)) (in_RI (a := 0) (b := 6) (Nat.zero_le _) (by omega) (by decide))) (cwV 4 hts gL_isTurned_X8_ofLeg rfl rfl rfl (by decide +kernel) ⟨Nat.le_of_ble_eq_true rfl, Nat.le_of_ble_eq_true rfl⟩) (g_preV hK8 (mid_P hP) (mid_D hD) (ci := 8) (q0 := 0) rfl rfl) rfl rfl hl.1 rfl (lv_room (Nat.le_of_ble_eq_true rfl)) dL_isTurned_365 ⟨(show cells + 0 + 0 ≤ 99 by omega), (show slots + 0 + 0 ≤ 2268 by omega)⟩) (fun H locs hP hD hS => ?_)
    rw [tW_keep (ofLeg_KEEP g (nI p0) (nI d0) (nI k0) (nI q))] at hP hD
    refine lv_icmp_eq (tgt := 373) hx hb dL_isTurned_368 (by decide) (fun c2 => ?_) (fun c2 => absurd (ck.leg hp hf hd ch hc hk (nI q)) c2)
    refine lv_iinc (v := nI (q + 1)) (lv' := [(6, .int (nI (q + 1))), (5, .int (nI k0)), (4, .int (nI d0)), (3, .int (nI p0)), (2, .ref qz), (0, .ref o9), (1, .ref (ad3 0))]) hx hb dL_isTurned_373 hl (k := 0) rfl (nI_1 q) (by decide) rfl (fun ls hl => ?_)
    refine lv_goto (tgt := 336) hx hb dL_isTurned_376 (by decide) ?_
    have cg2 : fX8_ofDay_r (fX8_ofLeg_w g (nI p0) (nI d0) (nI k0) (nI q)) (nI p0) (nI d0) 1 = nI c0 := by rw [← ofDay_congr ck.2.1.1 ((ofLeg_KEEP g (nI p0) (nI d0) (nI k0) (nI q)).val ck.2.1.1) (ofLeg_KEEP g (nI p0) (nI d0) (nI k0) (nI q)).same (nI p0) (by omega) 1]; exact cg
    exact ih (q + 1) _ _ H locs ls (by omega) (ck.keep (ofLeg_KEEP g (nI p0) (nI d0) (nI k0) (nI q)) (ofLeg_KEEP h (nI p0) (nI d0) (nI k0) (nI q))) (ck.cnt (ofLeg_KEEP h (nI p0) (nI d0) (nI k0) (nI q)) hd ch) cg2 (lv_sub hl [0, 1, 2, 3, 4, 5, 6] rfl) hP hD hS kk
set_option maxHeartbeats 4000000 in
set_option maxRecDepth 100000 in
theorem s_chk_legs (hx : p.tables.exec = Jvm.exec) (hb : c.code = cL_isTurned) (hml : c.maxLocals = 7) (hts : ∀ w ∈ wsL_isTurned, w.before args s = true) (hown : s.vm.findClass RL = some m.cls) (hA : ∀ q : Nat, s.heap.size ≤ q → A q) (hK : va_K D vwCl (tZ_T cI cO cZ) s) (hcl : cells ≤ 99) (hsl : slots ≤ 2268) (hp : p0 < 3) (hf : f p0 = 0) (hd : d0 < 10) (hc : c0 ≤ 41) : ∀ (r k : Nat) (g h : tG) (H : Heap) (locs : List Loc) (ls : Array Slot), k + r = c0 → CHK g0 g h n n' f → fX8_ofDay_r h (nI p0) (nI d0) 1 = nI c0 → fX8_ofDay_r g (nI p0) (nI d0) 1 = nI c0 → lv_has ls 7 [(5, .int (nI k)), (4, .int (nI d0)), (3, .int (nI p0)), (2, .ref qz), (0, .ref o9), (1, .ref (ad3 0))] → va_P D vwCl (tcW ad3 cI h ++ (tW ad o9 y b cI cO g dr cd nf n ++ [(qz, .inl (cZ, 3, .inl f))])) H → va_D A (tcW ad3 cI h ++ (tW ad o9 y b cI cO g dr cd nf n ++ [(qz, .inl (cZ, 3, .inl f))])) → va_S A s.heap H locs → (∀ (g h : tG) (H : Heap) (locs : List Loc) (ls : Array Slot), CHK g0 g h n n' f → lv_has ls 7 [(4, .int (nI d0)), (3, .int (nI p0)), (2, .ref qz), (0, .ref o9), (1, .ref (ad3 0))] → va_P D vwCl (tcW ad3 cI h ++ (tW ad o9 y b cI cO g dr cd nf n ++ [(qz, .inl (cZ, 3, .inl f))])) H → va_D A (tcW ad3 cI h ++ (tW ad o9 y b cI cO g dr cd nf n ++ [(qz, .inl (cZ, 3, .inl f))])) → va_S A s.heap H locs → W p l e ({ frames := 8, cells := 99, slots := 2268, locals := 230 } : Room) s m args below meth c H locs cells slots Q (F0 m 385 ls [])) → W p l e ({ frames := 8, cells := 99, slots := 2268, locals := 230 } : Room) s m args below meth c H locs cells slots Q (F0 m 320 ls []) := by
  have winX9 : ∀ w ∈ u_ws RX9 TX9 9, w ∈ wsL_isTurned := by decide +kernel
  intro r
  induction r with
  | zero =>
    intro k g h H locs ls hk ck ch cg hl hP hD hS kk
    have e9 : k = c0 := by omega
    subst e9
    obtain ⟨isg, ish⟩ := ck.isP hp
    refine lv_iload hx hb dL_isTurned_320 (lv_at hl 0 rfl) ?_
    refine lv_aload_n hx hb dL_isTurned_322 rfl (lv_at hl 5 rfl) ?_
    refine lv_iload_n hx hb dL_isTurned_323 rfl (lv_at hl 2 rfl) ?_
    refine lv_iload hx hb dL_isTurned_324 (lv_at hl 1 rfl) ?_
    refine lv_iconst (v := 1) hx hb dL_isTurned_326 (by decide) ?_
    have hK8 := hK.sub (tys' := [(cI, .int)]) [0] rfl
    refine t_ki hP hD hS hA (va_runV (As := [.int (nI p0), .int (nI d0), .int 1]) (rest := [.int (nI k)]) ⟨hx, hb, hml, hown, hts⟩ (kX8_ofDay l D ad3 cI h H.size (nI p0) (nI d0) 1 ish (in_NI (n := 28) (by omega) (by decide)) (in_RI (k := 1) (a := 0) (b := 7) (by decide) (by decide) (by decide))) (cwV 3 hts gL_isTurned_X8_ofDay rfl rfl rfl (by decide +kernel) ⟨Nat.le_of_ble_eq_true rfl, Nat.le_of_ble_eq_true rfl⟩) (g_preV hK8 (pre_P hP) (pre_D hD) (ci := 8) (q0 := 0) rfl rfl) rfl rfl hl.1 rfl (lv_room (Nat.le_of_ble_eq_true rfl)) dL_isTurned_327 ⟨(show cells + 0 ≤ 99 by omega), (show slots + 0 ≤ 2268 by omega)⟩) (fun H locs hP hD hS => ?_)
    rw [ch]
    refine lv_icmp_ge (tgt := 385) hx hb dL_isTurned_330 (by decide) (fun c1 => ?_) (fun c1 => absurd ((nI_geq (by omega) (by omega)).mpr (Nat.le_refl k)) c1)
    exact kk _ _ H locs ls (ck.keep KEEP.rf (ofDay_KEEP h (nI p0) (nI d0) 1)) (lv_sub hl [1, 2, 3, 4, 5] rfl) hP hD hS
  | succ r ih =>
    intro k g h H locs ls hk ck ch cg hl hP hD hS kk
    obtain ⟨isg, ish⟩ := ck.isP hp
    refine lv_iload hx hb dL_isTurned_320 (lv_at hl 0 rfl) ?_
    refine lv_aload_n hx hb dL_isTurned_322 rfl (lv_at hl 5 rfl) ?_
    refine lv_iload_n hx hb dL_isTurned_323 rfl (lv_at hl 2 rfl) ?_
    refine lv_iload hx hb dL_isTurned_324 (lv_at hl 1 rfl) ?_
    refine lv_iconst (v := 1) hx hb dL_isTurned_326 (by decide) ?_
    have hK8 := hK.sub (tys' := [(cI, .int)]) [0] rfl
    refine t_ki hP hD hS hA (va_runV (As := [.int (nI p0), .int (nI d0), .int 1]) (rest := [.int (nI k)]) ⟨hx, hb, hml, hown, hts⟩ (kX8_ofDay l D ad3 cI h H.size (nI p0) (nI d0) 1 ish (in_NI (n := 28) (by omega) (by decide)) (in_RI (k := 1) (a := 0) (b := 7) (by decide) (by decide) (by decide))) (cwV 3 hts gL_isTurned_X8_ofDay rfl rfl rfl (by decide +kernel) ⟨Nat.le_of_ble_eq_true rfl, Nat.le_of_ble_eq_true rfl⟩) (g_preV hK8 (pre_P hP) (pre_D hD) (ci := 8) (q0 := 0) rfl rfl) rfl rfl hl.1 rfl (lv_room (Nat.le_of_ble_eq_true rfl)) dL_isTurned_327 ⟨(show cells + 0 ≤ 99 by omega), (show slots + 0 ≤ 2268 by omega)⟩) (fun H locs hP hD hS => ?_)
    rw [ch]
    refine lv_icmp_ge (tgt := 385) hx hb dL_isTurned_330 (by decide) (fun c1 => absurd ((nI_geq (by omega) (by omega)).mp c1) (by omega)) (fun c1 => ?_)
    refine lv_iconst (v := 0) hx hb dL_isTurned_333 (by decide) ?_
    refine lv_istore (lv' := [(6, .int 0), (5, .int (nI k)), (4, .int (nI d0)), (3, .int (nI p0)), (2, .ref qz), (0, .ref o9), (1, .ref (ad3 0))]) hx hb dL_isTurned_334 hl (by decide) rfl (fun ls hl => ?_)
    refine s_chk_leg hx hb hml hts hown hA hK (cells := cells + 0) (slots := slots + 0) (by omega) (by omega) hp hf hd (k0 := k) (c0 := c0) (by omega) hc 7 0 _ _ H locs ls rfl (ck.keep KEEP.rf (ofDay_KEEP h (nI p0) (nI d0) 1)) (ck.cnt (ofDay_KEEP h (nI p0) (nI d0) 1) hd ch) cg (lv_sub hl [0, 1, 2, 3, 4, 5, 6] rfl) hP hD hS (fun g h H locs ls ck ch cg hl hP hD hS => ?_)
    refine lv_iinc (v := nI (k + 1)) (lv' := [(5, .int (nI (k + 1))), (6, .int (nI 7)), (4, .int (nI d0)), (3, .int (nI p0)), (2, .ref qz), (0, .ref o9), (1, .ref (ad3 0))]) hx hb dL_isTurned_379 hl (k := 1) rfl (nI_1 k) (by decide) rfl (fun ls hl => ?_)
    refine lv_goto (tgt := 320) hx hb dL_isTurned_382 (by decide) ?_
    exact ih (k + 1) g h H locs ls (by omega) ck ch cg (lv_sub hl [0, 2, 3, 4, 5, 6] rfl) hP hD hS kk
set_option maxHeartbeats 4000000 in
set_option maxRecDepth 100000 in
theorem s_chk_days (hx : p.tables.exec = Jvm.exec) (hb : c.code = cL_isTurned) (hml : c.maxLocals = 7) (hts : ∀ w ∈ wsL_isTurned, w.before args s = true) (hown : s.vm.findClass RL = some m.cls) (hA : ∀ q : Nat, s.heap.size ≤ q → A q) (hK : va_K D vwCl (tZ_T cI cO cZ) s) (hcl : cells ≤ 99) (hsl : slots ≤ 2268) (hp : p0 < 3) : ∀ (r q : Nat) (g h : tG) (H : Heap) (locs : List Loc) (ls : Array Slot), q + r = 10 → CHK g0 g h n n' f → lv_has ls 7 [(4, .int (nI q)), (3, .int (nI p0)), (2, .ref qz), (0, .ref o9), (1, .ref (ad3 0))] → va_P D vwCl (tcW ad3 cI h ++ (tW ad o9 y b cI cO g dr cd nf n ++ [(qz, .inl (cZ, 3, .inl f))])) H → va_D A (tcW ad3 cI h ++ (tW ad o9 y b cI cO g dr cd nf n ++ [(qz, .inl (cZ, 3, .inl f))])) → va_S A s.heap H locs → (∀ (g h : tG) (H : Heap) (locs : List Loc) (ls : Array Slot), CHK g0 g h n n' f → lv_has ls 7 [(3, .int (nI p0)), (2, .ref qz), (0, .ref o9), (1, .ref (ad3 0))] → va_P D vwCl (tcW ad3 cI h ++ (tW ad o9 y b cI cO g dr cd nf n ++ [(qz, .inl (cZ, 3, .inl f))])) H → va_D A (tcW ad3 cI h ++ (tW ad o9 y b cI cO g dr cd nf n ++ [(qz, .inl (cZ, 3, .inl f))])) → va_S A s.heap H locs → W p l e ({ frames := 8, cells := 99, slots := 2268, locals := 230 } : Room) s m args below meth c H locs cells slots Q (F0 m 391 ls [])) → W p l e ({ frames := 8, cells := 99, slots := 2268, locals := 230 } : Room) s m args below meth c H locs cells slots Q (F0 m 262 ls []) := by
  have winX9 : ∀ w ∈ u_ws RX9 TX9 9, w ∈ wsL_isTurned := by decide +kernel
  intro r
  induction r with
  | zero =>
    intro q g h H locs ls hq ck hl hP hD hS kk
    have e9 : q = 10 := by omega
    subst e9
    refine lv_iload hx hb dL_isTurned_262 (lv_at hl 0 rfl) ?_
    refine lv_bipush (v := 10) hx hb dL_isTurned_264 (by decide) ?_
    refine lv_icmp_ge (tgt := 391) hx hb dL_isTurned_266 (by decide) (fun c1 => ?_) (fun c1 => absurd (by decide) c1)
    exact kk g h H locs ls ck (lv_sub hl [1, 2, 3, 4] rfl) hP hD hS
  | succ r ih =>
    intro q g h H locs ls hq ck hl hP hD hS kk
    refine lv_iload hx hb dL_isTurned_262 (lv_at hl 0 rfl) ?_
    refine lv_bipush (v := 10) hx hb dL_isTurned_264 (by decide) ?_
    refine lv_icmp_ge (tgt := 391) hx hb dL_isTurned_266 (by decide) (fun c1 => absurd ((nI_geq (b := 10) (by omega) (by decide)).mp c1) (by omega)) (fun c1 => ?_)
    refine lv_aload_n hx hb dL_isTurned_269 rfl (lv_at hl 2 rfl) ?_
    refine lv_iload_n hx hb dL_isTurned_270 rfl (lv_at hl 1 rfl) ?_
    refine va_zald hx hb hK hP (98 + (tW ad o9 y b cI cO g dr cd nf n).length) 2 w3_last rfl (i := nI p0) (vp_nI hp (by decide)) dL_isTurned_271 ?_
    rw [nI_clamp (by omega)]
    refine lv_if_ne (tgt := 391) hx hb dL_isTurned_272 (by decide) (fun c1 => ?_) (fun c1 => ?_)
    · exact kk g h H locs ls ck (lv_sub hl [1, 2, 3, 4] rfl) hP hD hS
    · have hf := c1
      obtain ⟨isg, ish⟩ := ck.isP hp
      refine lv_iconst (v := 0) hx hb dL_isTurned_275 (by decide) ?_
      refine lv_istore (lv' := [(5, .int 0), (4, .int (nI q)), (3, .int (nI p0)), (2, .ref qz), (0, .ref o9), (1, .ref (ad3 0))]) hx hb dL_isTurned_276 hl (by decide) rfl (fun ls hl => ?_)
      refine s_chk_day hx hb hml hts hown hA hK hcl hsl hp hf (d0 := q) (by omega) 7 0 g h H locs ls rfl ck (lv_sub hl [0, 1, 2, 3, 4, 5] rfl) hP hD hS (fun g h H locs ls ck hl hP hD hS => ?_)
      refine lv_iconst (v := 0) hx hb dL_isTurned_317 (by decide) ?_
      refine lv_istore (lv' := [(5, .int 0), (4, .int (nI q)), (3, .int (nI p0)), (2, .ref qz), (0, .ref o9), (1, .ref (ad3 0))]) hx hb dL_isTurned_318 hl (by decide) rfl (fun ls hl => ?_)
      obtain ⟨c0, c41, ec, -⟩ := (turn_day ck.2.1 (ck.2.2.1 p0 hp hf) (show q < 10 by omega)).2
      have eg : fX8_ofDay_r g (nI p0) (nI q) 1 = nI c0 := (ck.day hp hf (show q < 10 by omega) (q := 1) (by decide)).symm.trans ec
      refine s_chk_legs hx hb hml hts hown hA hK hcl hsl hp hf (d0 := q) (by omega) c41 c0 0 g h H locs ls (by omega) ck ec eg (lv_sub hl [0, 1, 2, 3, 4, 5] rfl) hP hD hS (fun g h H locs ls ck hl hP hD hS => ?_)
      refine lv_iinc (v := nI (q + 1)) (lv' := [(4, .int (nI (q + 1))), (3, .int (nI p0)), (2, .ref qz), (0, .ref o9), (1, .ref (ad3 0))]) hx hb dL_isTurned_385 hl (k := 0) rfl (nI_1 q) (by decide) rfl (fun ls hl => ?_)
      refine lv_goto (tgt := 262) hx hb dL_isTurned_388 (by decide) ?_
      exact ih (q + 1) g h H locs ls (by omega) ck (lv_sub hl [0, 1, 2, 3, 4] rfl) hP hD hS kk
set_option maxHeartbeats 4000000 in
set_option maxRecDepth 100000 in
theorem s_chk_all (hx : p.tables.exec = Jvm.exec) (hb : c.code = cL_isTurned) (hml : c.maxLocals = 7) (hts : ∀ w ∈ wsL_isTurned, w.before args s = true) (hown : s.vm.findClass RL = some m.cls) (hA : ∀ q : Nat, s.heap.size ≤ q → A q) (hK : va_K D vwCl (tZ_T cI cO cZ) s) (hcl : cells ≤ 99) (hsl : slots ≤ 2268) : ∀ (r q : Nat) (g h : tG) (H : Heap) (locs : List Loc) (ls : Array Slot), q + r = 3 → CHK g0 g h n n' f → lv_has ls 7 [(3, .int (nI q)), (2, .ref qz), (0, .ref o9), (1, .ref (ad3 0))] → va_P D vwCl (tcW ad3 cI h ++ (tW ad o9 y b cI cO g dr cd nf n ++ [(qz, .inl (cZ, 3, .inl f))])) H → va_D A (tcW ad3 cI h ++ (tW ad o9 y b cI cO g dr cd nf n ++ [(qz, .inl (cZ, 3, .inl f))])) → va_S A s.heap H locs → (∀ (g h : tG) (H : Heap) (locs : List Loc) (ls : Array Slot), CHK g0 g h n n' f → va_P D vwCl (tcW ad3 cI h ++ (tW ad o9 y b cI cO g dr cd nf n ++ [(qz, .inl (cZ, 3, .inl f))])) H → va_D A (tcW ad3 cI h ++ (tW ad o9 y b cI cO g dr cd nf n ++ [(qz, .inl (cZ, 3, .inl f))])) → va_S A s.heap H locs → W p l e ({ frames := 8, cells := 99, slots := 2268, locals := 230 } : Room) s m args below meth c H locs cells slots Q (F0 m 397 ls [])) → W p l e ({ frames := 8, cells := 99, slots := 2268, locals := 230 } : Room) s m args below meth c H locs cells slots Q (F0 m 254 ls []) := by
  have winX9 : ∀ w ∈ u_ws RX9 TX9 9, w ∈ wsL_isTurned := by decide +kernel
  intro r
  induction r with
  | zero =>
    intro q g h H locs ls hq ck hl hP hD hS kk
    have e9 : q = 3 := by omega
    subst e9
    refine lv_iload_n hx hb dL_isTurned_254 rfl (lv_at hl 0 rfl) ?_
    refine lv_iconst (v := 3) hx hb dL_isTurned_255 (by decide) ?_
    refine lv_icmp_ge (tgt := 397) hx hb dL_isTurned_256 (by decide) (fun c1 => ?_) (fun c1 => absurd (by decide) c1)
    exact kk g h H locs ls ck hP hD hS
  | succ r ih =>
    intro q g h H locs ls hq ck hl hP hD hS kk
    refine lv_iload_n hx hb dL_isTurned_254 rfl (lv_at hl 0 rfl) ?_
    refine lv_iconst (v := 3) hx hb dL_isTurned_255 (by decide) ?_
    refine lv_icmp_ge (tgt := 397) hx hb dL_isTurned_256 (by decide) (fun c1 => absurd ((nI_geq (b := 3) (by omega) (by decide)).mp c1) (by omega)) (fun c1 => ?_)
    refine lv_iconst (v := 0) hx hb dL_isTurned_259 (by decide) ?_
    refine lv_istore (lv' := [(4, .int 0), (3, .int (nI q)), (2, .ref qz), (0, .ref o9), (1, .ref (ad3 0))]) hx hb dL_isTurned_260 hl (by decide) rfl (fun ls hl => ?_)
    refine s_chk_days hx hb hml hts hown hA hK hcl hsl (p0 := q) (by omega) 10 0 g h H locs ls rfl ck (lv_sub hl [0, 1, 2, 3, 4] rfl) hP hD hS (fun g h H locs ls ck hl hP hD hS => ?_)
    refine lv_iinc (v := nI (q + 1)) (lv' := [(3, .int (nI (q + 1))), (2, .ref qz), (0, .ref o9), (1, .ref (ad3 0))]) hx hb dL_isTurned_391 hl (k := 0) rfl (nI_1 q) (by decide) rfl (fun ls hl => ?_)
    refine lv_goto (tgt := 254) hx hb dL_isTurned_394 (by decide) ?_
    exact ih (q + 1) g h H locs ls (by omega) ck (lv_sub hl [0, 1, 2, 3] rfl) hP hD hS kk
end TX
