section LW2
variable {p : Program} {l : Launch} {e : Env} {s : State} {m : MethodId} {args : Array Value} {below : List Frame} {meth : Method} {c : Code} {H : Heap} {locs : List Loc} {cells slots : Nat} {Q : State → Prop}
variable {D : va_G} {A : Nat → Prop} {ad1 ad2 : Nat → Nat} {o1 o2 b L : Nat} {xs : Nat → Int32} {y1 y2 : tA} {cI cO : ClassId} {g h : tG} {dr dr2 n0 n j t0 : Nat}
variable {gS : tG}
set_option maxHeartbeats 4000000 in
set_option maxRecDepth 100000 in
theorem s_law_close (hx : p.tables.exec = Jvm.exec) (hb : c.code = code) (hml : c.maxLocals = 18) (hts : ∀ w ∈ lw_tbl, w.before args s = true) (hown : s.vm.findClass RL = some m.cls) (hN : s_N s) (hX : va_X b L xs s s.heap) (hbl : b < s.heap.size) (hbA : ¬ A b) (hA : ∀ q : Nat, s.heap.size ≤ q → A q) (hK : va_K D vwCl (tY_T cI cO) s) (hL : L < 2 ^ 20) (hcl : cells ≤ 600074) (hsl : slots ≤ 7301550) (hn : n0 ≤ n) (v0 : VAL gS n 3) : ∀ (r q : Nat) (g h : tG) (H : Heap) (locs : List Loc) (ls : Array Slot), q + r = 28 → CLO gS n q g ∧ VAL h n 3 ∧ SAME g h n → lv_has ls 18 [(5, .int (nI q)), (4, .ref (ad1 0)), (3, .ref o2), (2, .ref o1), (1, .int (nI t0)), (0, .ref b)] → va_P D vwCl (tW ad1 o1 y1 b cI cO g dr 3 3 n0 ++ (tW ad2 o2 y2 b cI cO h dr2 3 3 n0 ++ ([] : va_W))) H → va_D A (tW ad1 o1 y1 b cI cO g dr 3 3 n0 ++ (tW ad2 o2 y2 b cI cO h dr2 3 3 n0 ++ ([] : va_W))) → va_S A s.heap H locs → (∀ (g h : tG) (H : Heap) (locs : List Loc) (ls : Array Slot), CLO gS n 28 g ∧ VAL h n 3 ∧ SAME g h n → lv_has ls 18 [(4, .ref (ad1 0)), (3, .ref o2), (2, .ref o1), (1, .int (nI t0)), (0, .ref b)] → va_P D vwCl (tW ad1 o1 y1 b cI cO g dr 3 3 n0 ++ (tW ad2 o2 y2 b cI cO h dr2 3 3 n0 ++ ([] : va_W))) H → va_D A (tW ad1 o1 y1 b cI cO g dr 3 3 n0 ++ (tW ad2 o2 y2 b cI cO h dr2 3 3 n0 ++ ([] : va_W))) → va_S A s.heap H locs → W p l e room_1 s m args below meth c H locs cells slots Q (F0 m 424 ls [])) → W p l e room_1 s m args below meth c H locs cells slots Q (F0 m 394 ls []) := by
  intro r
  induction r with
  | zero =>
    intro q g h H locs ls hq ck hl hP hD hS kk
    have e9 : q = 28 := by omega
    subst e9
    refine lv_iload hx hb dL_law_394 (lv_at hl 0 rfl) ?_
    refine lv_bipush (v := 28) hx hb dL_law_396 (by decide) ?_
    refine lv_icmp_ge (tgt := 424) hx hb dL_law_398 (by decide) (fun c1 => ?_) (fun c1 => absurd (by decide) c1)
    exact kk g h H locs ls ck (lv_sub hl [1, 2, 3, 4, 5] rfl) hP hD hS
  | succ r ih =>
    intro q g h H locs ls hq ck hl hP hD hS kk
    obtain ⟨ck, vh, sm⟩ := ck
    refine lv_iload hx hb dL_law_394 (lv_at hl 0 rfl) ?_
    refine lv_bipush (v := 28) hx hb dL_law_396 (by decide) ?_
    refine lv_icmp_ge (tgt := 424) hx hb dL_law_398 (by decide) (fun c1 => absurd ((nI_geq (b := 28) (by omega) (by decide)).mp c1) (by omega)) (fun c1 => ?_)
    obtain ⟨b1, b2, b3, b4⟩ := close_both ck.1 vh sm
    have ck2 := ck.next v0 (by omega)
    have rg : ROW3 g (fX8_close_w g) n0 := ck.2.1.r3 ck2.2.1 hn
    have rh : ROW3 h (fX8_close_w h) n0 := sm.r3 b2 rg hn
    have q28 : nI q < 28 := (nI_ltq (b := 28) (by omega) (by decide)).mpr (by omega)
    refine lv_aload hx hb dL_law_401 (lv_at hl 1 rfl) ?_
    have hK8 := hK.sub (tys' := [(cI, .int)]) [0] rfl
    have hP : va_P D vwCl (([] : va_W) ++ ((tcW ad1 cI g ++ tX ad1 o1 y1 b cI cO g dr 3 3 n0) ++ (tW ad2 o2 y2 b cI cO h dr2 3 3 n0 ++ ([] : va_W)))) H := hP
    have hD : va_D A (([] : va_W) ++ ((tcW ad1 cI g ++ tX ad1 o1 y1 b cI cO g dr 3 3 n0) ++ (tW ad2 o2 y2 b cI cO h dr2 3 3 n0 ++ ([] : va_W)))) := hD
    refine t_kmi hP hD hS hA (va_runV (As := []) (rest := []) ⟨hx, hb, hml, hown, hts⟩ (kX8_close l D ad1 cI g H.size (by rw [ck.2.2.2.1]; exact q28)) (cwV 0 hts gl_X8_close rfl rfl rfl (by decide +kernel) ⟨Nat.le_of_ble_eq_true rfl, Nat.le_of_ble_eq_true rfl⟩) (g_preV hK8 (mid_P hP) (mid_D hD) (ci := 8) (q0 := 0) rfl rfl) rfl rfl hl.1 rfl (lv_room (Nat.le_of_ble_eq_true rfl)) dL_law_403 ⟨(show cells + 0 ≤ 600074 by omega), (show slots + 0 ≤ 7301550 by omega)⟩) (fun H locs hP hD hS => ?_)
    rw [tW_r3 rg] at hP hD
    obtain ⟨g1, f_g1⟩ : ∃ z : tG, z = fX8_close_w g := ⟨_, rfl⟩
    rw [← f_g1] at hP hD
    have hP : va_P D vwCl (tW ad1 o1 y1 b cI cO g1 dr 3 3 n0 ++ (tW ad2 o2 y2 b cI cO h dr2 3 3 n0 ++ ([] : va_W))) H := hP
    have hD : va_D A (tW ad1 o1 y1 b cI cO g1 dr 3 3 n0 ++ (tW ad2 o2 y2 b cI cO h dr2 3 3 n0 ++ ([] : va_W))) := hD
    refine lv_aload_n hx hb dL_law_406 rfl (lv_at hl 2 rfl) ?_
    refine va_get (D := D) (ci := 9) (v := .ref (ad2 0)) (C := RX9) (T := TX9) (N := 9) hx hb hts inX9 hown hK hP ((tW ad1 o1 y1 b cI cO g1 dr 3 3 n0).length + 98) (w2_at tW_o) rfl 0 (by decide) (hts _ (lx_778)) (fun _ h9 => h9) rfl dL_law_407 ?_
    have hK8 := hK.sub (tys' := [(cI, .int)]) [0] rfl
    have hP : va_P D vwCl (tW ad1 o1 y1 b cI cO g1 dr 3 3 n0 ++ ((tcW ad2 cI h ++ tX ad2 o2 y2 b cI cO h dr2 3 3 n0) ++ ([] : va_W))) H := hP
    have hD : va_D A (tW ad1 o1 y1 b cI cO g1 dr 3 3 n0 ++ ((tcW ad2 cI h ++ tX ad2 o2 y2 b cI cO h dr2 3 3 n0) ++ ([] : va_W))) := hD
    refine t_kmi hP hD hS hA (va_runV (As := []) (rest := [.int (fX8_close_r g)]) ⟨hx, hb, hml, hown, hts⟩ (kX8_close l D ad2 cI h H.size (by rw [sm.2.2 0 (by decide), ck.2.2.2.1]; exact q28)) (cwV 0 hts gl_X8_close rfl rfl rfl (by decide +kernel) ⟨Nat.le_of_ble_eq_true rfl, Nat.le_of_ble_eq_true rfl⟩) (g_preV hK8 (mid_P hP) (mid_D hD) (ci := 8) (q0 := 0) rfl rfl) rfl rfl hl.1 rfl (lv_room (Nat.le_of_ble_eq_true rfl)) dL_law_410 ⟨(show cells + 0 + 0 ≤ 600074 by omega), (show slots + 0 + 0 ≤ 7301550 by omega)⟩) (fun H locs hP hD hS => ?_)
    rw [tW_r3 rh] at hP hD
    obtain ⟨h1, f_h1⟩ : ∃ z : tG, z = fX8_close_w h := ⟨_, rfl⟩
    rw [← f_h1] at hP hD
    have hP : va_P D vwCl (tW ad1 o1 y1 b cI cO g1 dr 3 3 n0 ++ (tW ad2 o2 y2 b cI cO h1 dr2 3 3 n0 ++ ([] : va_W))) H := hP
    have hD : va_D A (tW ad1 o1 y1 b cI cO g1 dr 3 3 n0 ++ (tW ad2 o2 y2 b cI cO h1 dr2 3 3 n0 ++ ([] : va_W))) := hD
    refine lv_icmp_eq (tgt := 418) hx hb dL_law_413 (by decide) (fun c2 => ?_) (fun c2 => absurd b1 c2)
    refine lv_iinc (v := nI (q + 1)) (lv' := [(5, .int (nI (q + 1))), (4, .ref (ad1 0)), (3, .ref o2), (2, .ref o1), (1, .int (nI t0)), (0, .ref b)]) hx hb dL_law_418 hl (k := 0) rfl (nI_1 q) (by decide) rfl (fun ls hl => ?_)
    refine lv_goto (tgt := 394) hx hb dL_law_421 (by decide) ?_
    rw [← f_g1] at ck2 b2
    rw [← f_h1] at b2 b4
    exact ih (q + 1) g1 h1 H locs ls (by omega) ⟨ck2, b4, b2⟩ (lv_sub hl [0, 1, 2, 3, 4, 5] rfl) hP hD hS kk
variable {p0 : Nat}
set_option maxHeartbeats 4000000 in
set_option maxRecDepth 100000 in
theorem s_law_weeks (hx : p.tables.exec = Jvm.exec) (hb : c.code = code) (hml : c.maxLocals = 18) (hts : ∀ w ∈ lw_tbl, w.before args s = true) (hown : s.vm.findClass RL = some m.cls) (hN : s_N s) (hX : va_X b L xs s s.heap) (hbl : b < s.heap.size) (hbA : ¬ A b) (hA : ∀ q : Nat, s.heap.size ≤ q → A q) (hK : va_K D vwCl (tY_T cI cO) s) (hL : L < 2 ^ 20) (hcl : cells ≤ 600074) (hsl : slots ≤ 7301550) (hn : n0 ≤ n) (v0 : VAL gS n 3) (hp : p0 < 3) : ∀ (r q : Nat) (g h : tG) (H : Heap) (locs : List Loc) (ls : Array Slot), q + r = 4 → CLO gS n 28 g ∧ VAL h n 3 ∧ SAME g h n → lv_has ls 18 [(6, .int (nI q)), (5, .int (nI p0)), (4, .ref (ad1 0)), (3, .ref o2), (2, .ref o1), (1, .int (nI t0)), (0, .ref b)] → va_P D vwCl (tW ad1 o1 y1 b cI cO g dr 3 3 n0 ++ (tW ad2 o2 y2 b cI cO h dr2 3 3 n0 ++ ([] : va_W))) H → va_D A (tW ad1 o1 y1 b cI cO g dr 3 3 n0 ++ (tW ad2 o2 y2 b cI cO h dr2 3 3 n0 ++ ([] : va_W))) → va_S A s.heap H locs → (∀ (g h : tG) (H : Heap) (locs : List Loc) (ls : Array Slot), CLO gS n 28 g ∧ VAL h n 3 ∧ SAME g h n → lv_has ls 18 [(5, .int (nI p0)), (4, .ref (ad1 0)), (3, .ref o2), (2, .ref o1), (1, .int (nI t0)), (0, .ref b)] → va_P D vwCl (tW ad1 o1 y1 b cI cO g dr 3 3 n0 ++ (tW ad2 o2 y2 b cI cO h dr2 3 3 n0 ++ ([] : va_W))) H → va_D A (tW ad1 o1 y1 b cI cO g dr 3 3 n0 ++ (tW ad2 o2 y2 b cI cO h dr2 3 3 n0 ++ ([] : va_W))) → va_S A s.heap H locs → W p l e room_1 s m args below meth c H locs cells slots Q (F0 m 506 ls [])) → W p l e room_1 s m args below meth c H locs cells slots Q (F0 m 436 ls []) := by
  intro r
  induction r with
  | zero =>
    intro q g h H locs ls hq ck hl hP hD hS kk
    have e9 : q = 4 := by omega
    subst e9
    refine lv_iload hx hb dL_law_436 (lv_at hl 0 rfl) ?_
    refine lv_iconst (v := 4) hx hb dL_law_438 (by decide) ?_
    refine lv_icmp_ge (tgt := 506) hx hb dL_law_439 (by decide) (fun c1 => ?_) (fun c1 => absurd (by decide) c1)
    exact kk g h H locs ls ck (lv_sub hl [1, 2, 3, 4, 5, 6] rfl) hP hD hS
  | succ r ih =>
    intro q g h H locs ls hq ck hl hP hD hS kk
    obtain ⟨ck, vh, sm⟩ := ck
    refine lv_iload hx hb dL_law_436 (lv_at hl 0 rfl) ?_
    refine lv_iconst (v := 4) hx hb dL_law_438 (by decide) ?_
    refine lv_icmp_ge (tgt := 506) hx hb dL_law_439 (by decide) (fun c1 => absurd ((nI_geq (b := 4) (by omega) (by decide)).mp c1) (by omega)) (fun c1 => ?_)
    obtain ⟨b1, b2, b3, b4⟩ := settle_both ck.1 vh sm (nI p0) (nI q)
    obtain ⟨ck2, ng, eq⟩ := ck.settle v0 hp (w := q) (by omega)
    have rg : ROW3 g (fX8_settle_w g (nI p0) (nI q)) n0 := ck.2.1.r3 ck2.2.1 hn
    have rh : ROW3 h (fX8_settle_w h (nI p0) (nI q)) n0 := sm.r3 b2 rg hn
    have isg : ¬ (fX0_isPerson_r g (nI p0)) = 0 := by rw [per_is ck.1.2.2.2.1 ck.2.2.1 hp]; decide
    have ish : ¬ (fX0_isPerson_r h (nI p0)) = 0 := by rw [per_is vh.2.2.2.1 (sm.stay.per ck.2.2.1) hp]; decide
    have hw4 : in_N (nI q) 4 := in_NI (n := 4) (by omega) (by decide)
    have h7 : nI q * 7 < g 45 0 := by
      rw [ck.2.2.2.1, show nI q * 7 = nI (q * 7) from nI_mul q 7]
      exact (nI_ltq (by omega) (by decide)).mpr (by omega)
    refine lv_aload hx hb dL_law_442 (lv_at hl 2 rfl) ?_
    refine lv_iload hx hb dL_law_444 (lv_at hl 1 rfl) ?_
    refine lv_iload hx hb dL_law_446 (lv_at hl 0 rfl) ?_
    have hK8 := hK.sub (tys' := [(cI, .int)]) [0] rfl
    have hP : va_P D vwCl (([] : va_W) ++ ((tcW ad1 cI g ++ tX ad1 o1 y1 b cI cO g dr 3 3 n0) ++ (tW ad2 o2 y2 b cI cO h dr2 3 3 n0 ++ ([] : va_W)))) H := hP
    have hD : va_D A (([] : va_W) ++ ((tcW ad1 cI g ++ tX ad1 o1 y1 b cI cO g dr 3 3 n0) ++ (tW ad2 o2 y2 b cI cO h dr2 3 3 n0 ++ ([] : va_W)))) := hD
    refine t_kmi hP hD hS hA (va_runV (As := [.int (nI p0), .int (nI q)]) (rest := []) ⟨hx, hb, hml, hown, hts⟩ (kX8_settle l D ad1 cI g H.size (nI p0) (nI q) isg hw4 h7) (cwV 2 hts gl_X8_settle rfl rfl rfl (by decide +kernel) ⟨Nat.le_of_ble_eq_true rfl, Nat.le_of_ble_eq_true rfl⟩) (g_preV hK8 (mid_P hP) (mid_D hD) (ci := 8) (q0 := 0) rfl rfl) rfl rfl hl.1 rfl (lv_room (Nat.le_of_ble_eq_true rfl)) dL_law_448 ⟨(show cells + 0 ≤ 600074 by omega), (show slots + 0 ≤ 7301550 by omega)⟩) (fun H locs hP hD hS => ?_)
    rw [tW_r3 rg] at hP hD
    obtain ⟨g1, f_g1⟩ : ∃ z : tG, z = fX8_settle_w g (nI p0) (nI q) := ⟨_, rfl⟩
    rw [← f_g1] at hP hD
    have hP : va_P D vwCl (tW ad1 o1 y1 b cI cO g1 dr 3 3 n0 ++ (tW ad2 o2 y2 b cI cO h dr2 3 3 n0 ++ ([] : va_W))) H := hP
    have hD : va_D A (tW ad1 o1 y1 b cI cO g1 dr 3 3 n0 ++ (tW ad2 o2 y2 b cI cO h dr2 3 3 n0 ++ ([] : va_W))) := hD
    rw [← f_g1] at ck2 b2 b3 eq
    obtain ⟨its, fi⟩ : ∃ z, z = fX8_settle_r g (nI p0) (nI q) := ⟨_, rfl⟩
    rw [← fi] at b1 ng ⊢
    refine lv_istore (lv' := [(7, .int its), (6, .int (nI q)), (5, .int (nI p0)), (4, .ref (ad1 0)), (3, .ref o2), (2, .ref o1), (1, .int (nI t0)), (0, .ref b)]) hx hb dL_law_451 hl (by decide) rfl (fun ls hl => ?_)
    refine lv_iload hx hb dL_law_453 (lv_at hl 0 rfl) ?_
    refine lv_if_gt (tgt := 498) hx hb dL_law_455 (by decide) (fun c2 => absurd c2 ng) (fun c2 => ?_)
    have v1 := ck2.1
    have is1 : ¬ (fX0_isPerson_r g1 (nI p0)) = 0 := by rw [per_is v1.2.2.2.1 ck2.2.2.1 hp]; decide
    refine lv_aload hx hb dL_law_458 (lv_at hl 3 rfl) ?_
    refine lv_iload hx hb dL_law_460 (lv_at hl 2 rfl) ?_
    refine lv_iconst (v := 4) hx hb dL_law_462 (by decide) ?_
    refine lv_iload hx hb dL_law_463 (lv_at hl 1 rfl) ?_
    refine lv_iadd hx hb dL_law_465 ?_
    have hK8 := hK.sub (tys' := [(cI, .int)]) [0] rfl
    have hP : va_P D vwCl (([] : va_W) ++ ((tcW ad1 cI g1 ++ tX ad1 o1 y1 b cI cO g1 dr 3 3 n0) ++ (tW ad2 o2 y2 b cI cO h dr2 3 3 n0 ++ ([] : va_W)))) H := hP
    have hD : va_D A (([] : va_W) ++ ((tcW ad1 cI g1 ++ tX ad1 o1 y1 b cI cO g1 dr 3 3 n0) ++ (tW ad2 o2 y2 b cI cO h dr2 3 3 n0 ++ ([] : va_W)))) := hD
    refine t_kmi hP hD hS hA (va_runV (As := [.int (nI p0), .int (4 + nI q)]) (rest := []) ⟨hx, hb, hml, hown, hts⟩ (kX8_ofCard l D ad1 cI g1 H.size (nI p0) (4 + nI q) (by rw [v1.2.2.2.1]; exact in_NI hp (by decide)) (by rw [show (4 : Int32) + nI q = nI (4 + q) from nI_add 4 q]; exact in_RI (a := 0) (b := 7) (Nat.zero_le _) (by omega) (by decide))) (cwV 2 hts gl_X8_ofCard rfl rfl rfl (by decide +kernel) ⟨Nat.le_of_ble_eq_true rfl, Nat.le_of_ble_eq_true rfl⟩) (g_preV hK8 (mid_P hP) (mid_D hD) (ci := 8) (q0 := 0) rfl rfl) rfl rfl hl.1 rfl (lv_room (Nat.le_of_ble_eq_true rfl)) dL_law_466 ⟨(show cells + 0 + 0 ≤ 600074 by omega), (show slots + 0 + 0 ≤ 7301550 by omega)⟩) (fun H locs hP hD hS => ?_)
    have hP : va_P D vwCl (tW ad1 o1 y1 b cI cO g1 dr 3 3 n0 ++ (tW ad2 o2 y2 b cI cO h dr2 3 3 n0 ++ ([] : va_W))) H := hP
    have hD : va_D A (tW ad1 o1 y1 b cI cO g1 dr 3 3 n0 ++ (tW ad2 o2 y2 b cI cO h dr2 3 3 n0 ++ ([] : va_W))) := hD
    refine lv_aload hx hb dL_law_469 (lv_at hl 3 rfl) ?_
    refine lv_iload hx hb dL_law_471 (lv_at hl 2 rfl) ?_
    refine lv_iload hx hb dL_law_473 (lv_at hl 1 rfl) ?_
    refine lv_iconst (v := 0) hx hb dL_law_475 (by decide) ?_
    have hK8 := hK.sub (tys' := [(cI, .int)]) [0] rfl
    have hP : va_P D vwCl (([] : va_W) ++ ((tcW ad1 cI g1 ++ tX ad1 o1 y1 b cI cO g1 dr 3 3 n0) ++ (tW ad2 o2 y2 b cI cO h dr2 3 3 n0 ++ ([] : va_W)))) H := hP
    have hD : va_D A (([] : va_W) ++ ((tcW ad1 cI g1 ++ tX ad1 o1 y1 b cI cO g1 dr 3 3 n0) ++ (tW ad2 o2 y2 b cI cO h dr2 3 3 n0 ++ ([] : va_W)))) := hD
    refine t_kmi hP hD hS hA (va_runV (As := [.int (nI p0), .int (nI q), .int 0]) (rest := [.int (fX8_ofCard_r g1 (nI p0) (4 + nI q))]) ⟨hx, hb, hml, hown, hts⟩ (kX8_ofWeek l D ad1 cI g1 H.size (nI p0) (nI q) 0 is1 hw4 (in_RI (k := 0) (a := 0) (b := 2) (by decide) (by decide) (by decide))) (cwV 3 hts gl_X8_ofWeek rfl rfl rfl (by decide +kernel) ⟨Nat.le_of_ble_eq_true rfl, Nat.le_of_ble_eq_true rfl⟩) (g_preV hK8 (mid_P hP) (mid_D hD) (ci := 8) (q0 := 0) rfl rfl) rfl rfl hl.1 rfl (lv_room (Nat.le_of_ble_eq_true rfl)) dL_law_476 ⟨(show cells + 0 + 0 + 0 ≤ 600074 by omega), (show slots + 0 + 0 + 0 ≤ 7301550 by omega)⟩) (fun H locs hP hD hS => ?_)
    rw [tW_r3 (ofWeek_KEEP g1 (nI p0) (nI q) 0).r3] at hP hD
    obtain ⟨g2, f_g2⟩ : ∃ z : tG, z = fX8_ofWeek_w g1 (nI p0) (nI q) 0 := ⟨_, rfl⟩
    rw [← f_g2] at hP hD
    have hP : va_P D vwCl (tW ad1 o1 y1 b cI cO g2 dr 3 3 n0 ++ (tW ad2 o2 y2 b cI cO h dr2 3 3 n0 ++ ([] : va_W))) H := hP
    have hD : va_D A (tW ad1 o1 y1 b cI cO g2 dr 3 3 n0 ++ (tW ad2 o2 y2 b cI cO h dr2 3 3 n0 ++ ([] : va_W))) := hD
    have k2 : KEEP g1 g2 := by rw [f_g2]; exact ofWeek_KEEP _ _ _ _
    refine lv_icmp_ne (tgt := 498) hx hb dL_law_479 (by decide) (fun c3 => absurd eq c3) (fun c3 => ?_)
    refine lv_aload_n hx hb dL_law_482 rfl (lv_at hl 4 rfl) ?_
    refine va_get (D := D) (ci := 9) (v := .ref (ad2 0)) (C := RX9) (T := TX9) (N := 9) hx hb hts inX9 hown hK hP ((tW ad1 o1 y1 b cI cO g2 dr 3 3 n0).length + 98) (w2_at tW_o) rfl 0 (by decide) (hts _ (lx_778)) (fun _ h9 => h9) rfl dL_law_483 ?_
    refine lv_iload hx hb dL_law_486 (lv_at hl 2 rfl) ?_
    refine lv_iload hx hb dL_law_488 (lv_at hl 1 rfl) ?_
    have hK8 := hK.sub (tys' := [(cI, .int)]) [0] rfl
    have hP : va_P D vwCl (tW ad1 o1 y1 b cI cO g2 dr 3 3 n0 ++ ((tcW ad2 cI h ++ tX ad2 o2 y2 b cI cO h dr2 3 3 n0) ++ ([] : va_W))) H := hP
    have hD : va_D A (tW ad1 o1 y1 b cI cO g2 dr 3 3 n0 ++ ((tcW ad2 cI h ++ tX ad2 o2 y2 b cI cO h dr2 3 3 n0) ++ ([] : va_W))) := hD
    refine t_kmi hP hD hS hA (va_runV (As := [.int (nI p0), .int (nI q)]) (rest := []) ⟨hx, hb, hml, hown, hts⟩ (kX8_settle l D ad2 cI h H.size (nI p0) (nI q) ish hw4 (by rw [sm.2.2 0 (by decide)]; exact h7)) (cwV 2 hts gl_X8_settle rfl rfl rfl (by decide +kernel) ⟨Nat.le_of_ble_eq_true rfl, Nat.le_of_ble_eq_true rfl⟩) (g_preV hK8 (mid_P hP) (mid_D hD) (ci := 8) (q0 := 0) rfl rfl) rfl rfl hl.1 rfl (lv_room (Nat.le_of_ble_eq_true rfl)) dL_law_490 ⟨(show cells + 0 + 0 + 0 + 0 ≤ 600074 by omega), (show slots + 0 + 0 + 0 + 0 ≤ 7301550 by omega)⟩) (fun H locs hP hD hS => ?_)
    rw [tW_r3 rh] at hP hD
    obtain ⟨h1, f_h1⟩ : ∃ z : tG, z = fX8_settle_w h (nI p0) (nI q) := ⟨_, rfl⟩
    rw [← f_h1] at hP hD
    have hP : va_P D vwCl (tW ad1 o1 y1 b cI cO g2 dr 3 3 n0 ++ (tW ad2 o2 y2 b cI cO h1 dr2 3 3 n0 ++ ([] : va_W))) H := hP
    have hD : va_D A (tW ad1 o1 y1 b cI cO g2 dr 3 3 n0 ++ (tW ad2 o2 y2 b cI cO h1 dr2 3 3 n0 ++ ([] : va_W))) := hD
    rw [← b1]
    refine lv_iload hx hb dL_law_493 (lv_at hl 0 rfl) ?_
    refine lv_icmp_eq (tgt := 500) hx hb dL_law_495 (by decide) (fun c4 => ?_) (fun c4 => absurd rfl c4)
    refine lv_iinc (v := nI (q + 1)) (lv' := [(6, .int (nI (q + 1))), (7, .int its), (5, .int (nI p0)), (4, .ref (ad1 0)), (3, .ref o2), (2, .ref o1), (1, .int (nI t0)), (0, .ref b)]) hx hb dL_law_500 hl (k := 1) rfl (nI_1 q) (by decide) rfl (fun ls hl => ?_)
    refine lv_goto (tgt := 436) hx hb dL_law_503 (by decide) ?_
    rw [← f_h1] at b2 b4
    exact ih (q + 1) g2 h1 H locs ls (by omega) ⟨ck2.keep k2, b4, (k2.same.sy).tr b2⟩ (lv_sub hl [0, 2, 3, 4, 5, 6, 7] rfl) hP hD hS kk
set_option maxHeartbeats 4000000 in
set_option maxRecDepth 100000 in
theorem s_law_cards (hx : p.tables.exec = Jvm.exec) (hb : c.code = code) (hml : c.maxLocals = 18) (hts : ∀ w ∈ lw_tbl, w.before args s = true) (hown : s.vm.findClass RL = some m.cls) (hN : s_N s) (hX : va_X b L xs s s.heap) (hbl : b < s.heap.size) (hbA : ¬ A b) (hA : ∀ q : Nat, s.heap.size ≤ q → A q) (hK : va_K D vwCl (tY_T cI cO) s) (hL : L < 2 ^ 20) (hcl : cells ≤ 600074) (hsl : slots ≤ 7301550) (hn : n0 ≤ n) (v0 : VAL gS n 3) : ∀ (r q : Nat) (g h : tG) (H : Heap) (locs : List Loc) (ls : Array Slot), q + r = 3 → CLO gS n 28 g ∧ VAL h n 3 ∧ SAME g h n → lv_has ls 18 [(5, .int (nI q)), (4, .ref (ad1 0)), (3, .ref o2), (2, .ref o1), (1, .int (nI t0)), (0, .ref b)] → va_P D vwCl (tW ad1 o1 y1 b cI cO g dr 3 3 n0 ++ (tW ad2 o2 y2 b cI cO h dr2 3 3 n0 ++ ([] : va_W))) H → va_D A (tW ad1 o1 y1 b cI cO g dr 3 3 n0 ++ (tW ad2 o2 y2 b cI cO h dr2 3 3 n0 ++ ([] : va_W))) → va_S A s.heap H locs → (∀ (g h : tG) (H : Heap) (locs : List Loc) (ls : Array Slot), CLO gS n 28 g ∧ VAL h n 3 ∧ SAME g h n → lv_has ls 18 [(4, .ref (ad1 0)), (3, .ref o2), (2, .ref o1), (1, .int (nI t0)), (0, .ref b)] → va_P D vwCl (tW ad1 o1 y1 b cI cO g dr 3 3 n0 ++ (tW ad2 o2 y2 b cI cO h dr2 3 3 n0 ++ ([] : va_W))) H → va_D A (tW ad1 o1 y1 b cI cO g dr 3 3 n0 ++ (tW ad2 o2 y2 b cI cO h dr2 3 3 n0 ++ ([] : va_W))) → va_S A s.heap H locs → W p l e room_1 s m args below meth c H locs cells slots Q (F0 m 512 ls [])) → W p l e room_1 s m args below meth c H locs cells slots Q (F0 m 427 ls []) := by
  intro r
  induction r with
  | zero =>
    intro q g h H locs ls hq ck hl hP hD hS kk
    have e9 : q = 3 := by omega
    subst e9
    refine lv_iload hx hb dL_law_427 (lv_at hl 0 rfl) ?_
    refine lv_iconst (v := 3) hx hb dL_law_429 (by decide) ?_
    refine lv_icmp_ge (tgt := 512) hx hb dL_law_430 (by decide) (fun c1 => ?_) (fun c1 => absurd (by decide) c1)
    exact kk g h H locs ls ck (lv_sub hl [1, 2, 3, 4, 5] rfl) hP hD hS
  | succ r ih =>
    intro q g h H locs ls hq ck hl hP hD hS kk
    refine lv_iload hx hb dL_law_427 (lv_at hl 0 rfl) ?_
    refine lv_iconst (v := 3) hx hb dL_law_429 (by decide) ?_
    refine lv_icmp_ge (tgt := 512) hx hb dL_law_430 (by decide) (fun c1 => absurd ((nI_geq (b := 3) (by omega) (by decide)).mp c1) (by omega)) (fun c1 => ?_)
    refine lv_iconst (v := 0) hx hb dL_law_433 (by decide) ?_
    refine lv_istore (lv' := [(6, .int 0), (5, .int (nI q)), (4, .ref (ad1 0)), (3, .ref o2), (2, .ref o1), (1, .int (nI t0)), (0, .ref b)]) hx hb dL_law_434 hl (by decide) rfl (fun ls hl => ?_)
    refine s_law_weeks hx hb hml hts hown hN hX hbl hbA hA hK hL hcl hsl hn v0 (p0 := q) (by omega) 4 0 g h H locs ls rfl ck (lv_sub hl [0, 1, 2, 3, 4, 5, 6] rfl) hP hD hS (fun g h H locs ls ck hl hP hD hS => ?_)
    refine lv_iinc (v := nI (q + 1)) (lv' := [(5, .int (nI (q + 1))), (4, .ref (ad1 0)), (3, .ref o2), (2, .ref o1), (1, .int (nI t0)), (0, .ref b)]) hx hb dL_law_506 hl (k := 0) rfl (nI_1 q) (by decide) rfl (fun ls hl => ?_)
    refine lv_goto (tgt := 427) hx hb dL_law_509 (by decide) ?_
    exact ih (q + 1) g h H locs ls (by omega) ck (lv_sub hl [0, 1, 2, 3, 4, 5] rfl) hP hD hS kk
variable {dr9 : Nat}
set_option maxHeartbeats 4000000 in
set_option maxRecDepth 100000 in
theorem s_law_end (hx : p.tables.exec = Jvm.exec) (hb : c.code = code) (hml : c.maxLocals = 18) (hts : ∀ w ∈ lw_tbl, w.before args s = true) (hown : s.vm.findClass RL = some m.cls) (hN : s_N s) (hX : va_X b L xs s s.heap) (hbl : b < s.heap.size) (hbA : ¬ A b) (hA : ∀ q : Nat, s.heap.size ≤ q → A q) (hK : va_K D vwCl (tY_T cI cO) s) (hL : L < 2 ^ 20) {mc0 ms0 : Nat} (hcl : cells + 99 ≤ 600074) (hsl : slots + 2268 ≤ 7301550) (hT : tc_N s) {g h : tG} (x : XTR g h n0 n j) {H : Heap} {locs : List Loc} {ls : Array Slot} (hl : lv_has ls 18 [(4, .ref (ad1 0)), (3, .ref o2), (2, .ref o1), (1, .int (nI t0)), (0, .ref b)]) (hP : va_P D vwCl (tW ad1 o1 y1 b cI cO g dr 3 3 n0 ++ (tW ad2 o2 y2 b cI cO h dr2 3 3 n0 ++ ([] : va_W))) H) (hD : va_D A (tW ad1 o1 y1 b cI cO g dr 3 3 n0 ++ (tW ad2 o2 y2 b cI cO h dr2 3 3 n0 ++ ([] : va_W)))) (hS : va_S A s.heap H locs) (kk : ∀ (H : Heap) (locs : List Loc) (ls : Array Slot), lv_has ls 18 [(1, .int (nI t0)), (0, .ref b)] → va_S A s.heap H locs → W p l e room_1 s m args below meth c H locs (cells + 99) (slots + 2268) Q (F0 m 530 ls [])) : W p l e room_1 s m args below meth c H locs cells slots Q (F0 m 382 ls []) := by
  have v := x.1
  have per := x.2.2.2.1
  have tl := x.2.2.2.2.1
  have hn := x.2.2.2.2.2.1
  have tp := x.2.2.2.2.2.2.1
  have n40 := v.2.1
  have dy : ∀ a, n0 ≤ a → a < n → ∃ d, 10 ≤ d ∧ d < 28 ∧ g 17 a = nI d := fun a h1 h2 => by
    obtain ⟨d, _, _, e1, e2, _, _, e5, _⟩ := x.2.2.2.2.2.2.2 a h1 h2
    exact ⟨d, e1, e2, e5⟩
  refine lv_aload_n hx hb dL_law_382 rfl (lv_at hl 2 rfl) ?_
  refine t_kf hP hD hS hA (va_runS (As := [.ref o1]) (rest := []) ⟨hx, hb, hml, hown, hts⟩ (kL_isTurned l D H.size b ad1 o1 y1 cI cO g dr 3 3 n0 n tl (by decide) (by decide) v per tp (by omega) hn dy) (cwS 1 hts gl_L_isTurned rfl rfl rfl (by decide +kernel) ⟨Nat.le_of_ble_eq_true rfl, Nat.le_of_ble_eq_true rfl⟩) (i_preS hT hN.2.2 hK (pre_P hP) (pre_D hD)) rfl rfl hl.1 rfl (lv_room (Nat.le_of_ble_eq_true rfl)) dL_law_383 ⟨(show cells + 99 ≤ 600074 by omega), (show slots + 2268 ≤ 7301550 by omega)⟩) (fun r g1 H locs hr1 hP hD hS => ?_)
  obtain ⟨hr1, k1⟩ := hr1
  rw [hr1]
  refine lv_if_ne (tgt := 391) hx hb dL_law_386 (by decide) (fun c9 => ?_) (fun c9 => absurd c9 (by decide))
  have v1 := k1.val v
  have sm : SAME g1 h n := k1.same.sy.tr x.2.2.1
  have per1 : PER g1 := (k1.stay (n := 0)).per per
  have c0 : CLO g1 n 0 g1 := CLO_0 v1 per1 (by rw [k1.2.1 0 (by decide)]; exact tl.1)
  refine lv_iconst (v := 0) hx hb dL_law_391 (by decide) ?_
  refine lv_istore (lv' := [(5, .int 0), (4, .ref (ad1 0)), (3, .ref o2), (2, .ref o1), (1, .int (nI t0)), (0, .ref b)]) hx hb dL_law_392 hl (by decide) rfl (fun ls hl => ?_)
  refine s_law_close hx hb hml hts hown hN hX hbl hbA hA hK hL (cells := cells + 99) (slots := slots + 2268) (by omega) (by omega) hn v1 28 0 g1 h H locs ls rfl ⟨c0, x.2.1, sm⟩ (lv_sub hl [0, 1, 2, 3, 4, 5] rfl) hP hD hS (fun g h H locs ls ck hl hP hD hS => ?_)
  refine lv_iconst (v := 0) hx hb dL_law_424 (by decide) ?_
  refine lv_istore (lv' := [(5, .int 0), (4, .ref (ad1 0)), (3, .ref o2), (2, .ref o1), (1, .int (nI t0)), (0, .ref b)]) hx hb dL_law_425 hl (by decide) rfl (fun ls hl => ?_)
  refine s_law_cards hx hb hml hts hown hN hX hbl hbA hA hK hL (cells := cells + 99) (slots := slots + 2268) (by omega) (by omega) hn v1 3 0 g h H locs ls rfl ck (lv_sub hl [0, 1, 2, 3, 4, 5] rfl) hP hD hS (fun g h H locs ls ck hl hP hD hS => ?_)
  obtain ⟨ck, vh, sm⟩ := ck
  refine lv_aload hx hb dL_law_512 (lv_at hl 0 rfl) ?_
  have hK8 := hK.sub (tys' := [(cI, .int)]) [0] rfl
  have hP : va_P D vwCl (([] : va_W) ++ ((tcW ad1 cI g ++ tX ad1 o1 y1 b cI cO g dr 3 3 n0) ++ (tW ad2 o2 y2 b cI cO h dr2 3 3 n0 ++ ([] : va_W)))) H := hP
  have hD : va_D A (([] : va_W) ++ ((tcW ad1 cI g ++ tX ad1 o1 y1 b cI cO g dr 3 3 n0) ++ (tW ad2 o2 y2 b cI cO h dr2 3 3 n0 ++ ([] : va_W)))) := hD
  refine t_kml hP hD hS hA (va_runV (As := []) (rest := []) ⟨hx, hb, hml, hown, hts⟩ (kX8_digest l D ad1 cI g H.size ) (cwV 0 hts gl_X8_digest rfl rfl rfl (by decide +kernel) ⟨Nat.le_of_ble_eq_true rfl, Nat.le_of_ble_eq_true rfl⟩) (g_preV hK8 (mid_P hP) (mid_D hD) (ci := 8) (q0 := 0) rfl rfl) rfl rfl hl.1 rfl (lv_room (Nat.le_of_ble_eq_true rfl)) dL_law_514 ⟨(show cells + 99 + 0 ≤ 600074 by omega), (show slots + 2268 + 0 ≤ 7301550 by omega)⟩) (fun H locs hP hD hS => ?_)
  rw [tW_r3 (dig_KEEP g).r3] at hP hD
  obtain ⟨g2, f_g2⟩ : ∃ z : tG, z = fX8_digest_w g := ⟨_, rfl⟩
  rw [← f_g2] at hP hD
  have hP : va_P D vwCl (tW ad1 o1 y1 b cI cO g2 dr 3 3 n0 ++ (tW ad2 o2 y2 b cI cO h dr2 3 3 n0 ++ ([] : va_W))) H := hP
  have hD : va_D A (tW ad1 o1 y1 b cI cO g2 dr 3 3 n0 ++ (tW ad2 o2 y2 b cI cO h dr2 3 3 n0 ++ ([] : va_W))) := hD
  refine lv_aload_n hx hb dL_law_517 rfl (lv_at hl 1 rfl) ?_
  refine va_get (D := D) (ci := 9) (v := .ref (ad2 0)) (C := RX9) (T := TX9) (N := 9) hx hb hts inX9 hown hK hP ((tW ad1 o1 y1 b cI cO g2 dr 3 3 n0).length + 98) (w2_at tW_o) rfl 0 (by decide) (hts _ (lx_778)) (fun _ h9 => h9) rfl dL_law_518 ?_
  have hK8 := hK.sub (tys' := [(cI, .int)]) [0] rfl
  have hP : va_P D vwCl (tW ad1 o1 y1 b cI cO g2 dr 3 3 n0 ++ ((tcW ad2 cI h ++ tX ad2 o2 y2 b cI cO h dr2 3 3 n0) ++ ([] : va_W))) H := hP
  have hD : va_D A (tW ad1 o1 y1 b cI cO g2 dr 3 3 n0 ++ ((tcW ad2 cI h ++ tX ad2 o2 y2 b cI cO h dr2 3 3 n0) ++ ([] : va_W))) := hD
  refine t_kml hP hD hS hA (va_runV (As := []) (rest := [.long (fX8_digest_r g)]) ⟨hx, hb, hml, hown, hts⟩ (kX8_digest l D ad2 cI h H.size ) (cwV 0 hts gl_X8_digest rfl rfl rfl (by decide +kernel) ⟨Nat.le_of_ble_eq_true rfl, Nat.le_of_ble_eq_true rfl⟩) (g_preV hK8 (mid_P hP) (mid_D hD) (ci := 8) (q0 := 0) rfl rfl) rfl rfl hl.1 rfl (lv_room (Nat.le_of_ble_eq_true rfl)) dL_law_521 ⟨(show cells + 99 + 0 + 0 ≤ 600074 by omega), (show slots + 2268 + 0 + 0 ≤ 7301550 by omega)⟩) (fun H locs hP hD hS => ?_)
  rw [tW_r3 (dig_KEEP h).r3] at hP hD
  obtain ⟨h2, f_h2⟩ : ∃ z : tG, z = fX8_digest_w h := ⟨_, rfl⟩
  rw [← f_h2] at hP hD
  have hP : va_P D vwCl (tW ad1 o1 y1 b cI cO g2 dr 3 3 n0 ++ (tW ad2 o2 y2 b cI cO h2 dr2 3 3 n0 ++ ([] : va_W))) H := hP
  have hD : va_D A (tW ad1 o1 y1 b cI cO g2 dr 3 3 n0 ++ (tW ad2 o2 y2 b cI cO h2 dr2 3 3 n0 ++ ([] : va_W))) := hD
  rw [digest_congr ck.1 vh sm]
  refine W.lcmp hx hb dL_law_524 ?_
  rw [lg_self]
  refine lv_if_eq (tgt := 530) hx hb dL_law_525 (by decide) (fun c9 => ?_) (fun c9 => absurd rfl c9)
  exact kk H locs ls (lv_sub hl [3, 4] rfl) hS
end LW2
