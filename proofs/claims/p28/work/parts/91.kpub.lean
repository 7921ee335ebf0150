set_option maxHeartbeats 4000000 in
set_option maxRecDepth 100000 in
theorem kX8_card (l : Launch) (D : va_G) (ad : Nat → Nat) (cI : ClassId) (g : tG) (sz : Nat) (h1 : g 45 3 < 4) : Met l yX8_card wsX8_card ({ frames := 2, cells := 0, slots := 0, locals := 43 } : Room) (g_P D [(cI, .int)] (tcW ad cI g) [.ref (ad 0)] sz) (g_Qi D [(cI, .int)] (va_A (tcW ad cI g) sz) (tcW ad cI (fX8_card_w g)) (fX8_card_r g)) 0 0 (va_A (tcW ad cI g) sz) := by
  refine Met.ofW (cc := cX8_card) (maxL := 1) (ret := (some .int)) (by decide) rfl ?_
  intro p e s m args below meth c9 s₁ B hml hv
  obtain ⟨rfl, hsz, hP, hK, hD0⟩ := hv
  have hx := B.exec
  have hb := B.bytes
  have hr := B.returns
  have hts := atoms_spec (ws := wsX8_card) B.pre
  have hown : s.vm.findClass RX8 = some m.cls := findClass_of_methodNamed B.named
  have hlocks := B.notSynchronized
  subst hsz
  have hD := hD0.self (sz := s.heap.size)
  generalize hAe : va_A (tcW ad cI g) s.heap.size = A at hD ⊢
  have hA : ∀ q : Nat, s.heap.size ≤ q → A q := fun q h => by rw [← hAe]; exact Or.inr h
  have hS : va_S A s.heap s.heap [] := va_S.rf
  have hl := lv_entry ([.ref (ad 0)]) (n := 1) (Nat.le_of_ble_eq_true rfl)
  rw [lg_entry_eq]
  generalize (lg_sl ([.ref (ad 0)]) ++ List.replicate (1 - (lg_sl ([.ref (ad 0)])).length) Slot.unset).toArray = ls at hl ⊢
  have hl : lv_has ls 1 [(0, .ref (ad 0))] := hl
  have winX0 : ∀ w ∈ u_ws RX0 TX0 6, w ∈ wsX8_card := by decide +kernel
  have winX8 : ∀ w ∈ u_ws RX8 TX8 9, w ∈ wsX8_card := by decide +kernel
  refine lv_aload_n hx hb dX8_card_0 rfl (lv_at hl 0 rfl) ?_
  refine va_get (D := D) (ci := 8) (v := .ref (ad 19)) (C := RX8) (T := TX8) (N := 9) hx hb hts winX8 hown hK hP 0 rfl rfl 2 (by decide) (hts (.fieldLink RX8 26 "TapCap" "cards" "LTapCap$Cards;") (List.mem_of_getElem? (i := 1) rfl)) (fun _ h9 => h9) rfl dX8_card_1 ?_
  refine va_get (D := D) (ci := 0) (v := .int (g 45 3)) (C := RX0) (T := TX0) (N := 6) hx hb hts winX0 hown hK hP 19 rfl rfl 5 (by decide) (hts (.fieldLink RX8 103 "TapCap$Cards" "count" "I") (List.mem_of_getElem? (i := 2) rfl)) (fun _ h9 => h9) rfl dX8_card_4 ?_
  refine lv_iconst (v := 4) hx hb dX8_card_7 (by decide) ?_
  refine lv_icmp_lt (tgt := 21) hx hb dX8_card_8 (by decide) (fun c1 => ?_) (fun c1 => ?_)
  · refine lv_aload_n hx hb dX8_card_21 rfl (lv_at hl 0 rfl) ?_
    refine va_get (D := D) (ci := 8) (v := .ref (ad 19)) (C := RX8) (T := TX8) (N := 9) hx hb hts winX8 hown hK hP 0 rfl rfl 2 (by decide) (hts (.fieldLink RX8 26 "TapCap" "cards" "LTapCap$Cards;") (List.mem_of_getElem? (i := 1) rfl)) (fun _ h9 => h9) rfl dX8_card_22 ?_
    refine g_ki hK hD hS hA (va_runV (As := []) (rest := []) ⟨hx, hb, hml, hown, hts⟩ (kX0_give l D ad cI g s.heap.size ) (cwV 0 hts gX8_card_X0_give rfl rfl rfl (by decide +kernel) ⟨Nat.le_of_ble_eq_true rfl, Nat.le_of_ble_eq_true rfl⟩) (g_preV hK hP hD (ci := 0) (q0 := 19) rfl rfl) rfl rfl hl.1 rfl (lv_room (Nat.le_of_ble_eq_true rfl)) dX8_card_25 ⟨Nat.le_of_ble_eq_true rfl, Nat.le_of_ble_eq_true rfl⟩) (fun H locs hP hD hS => ?_)
    obtain ⟨g1, hg1⟩ : ∃ z : tG, z = fX0_give_w g := ⟨_, rfl⟩
    rw [← hg1] at hP hD
    have hw := eX8_card_w1 g hg1
    have hP := w_P9 hw hP
    have hD := w_D9 hw hD
    exact g_iret hx hb hr rfl hlocks hK hP hD hS (eX8_card_r1 g hg1).symm dX8_card_28
  · exact absurd h1 c1
set_option maxHeartbeats 4000000 in
set_option maxRecDepth 100000 in
theorem kX8_zone (l : Launch) (D : va_G) (ad : Nat → Nat) (cI : ClassId) (g : tG) (sz : Nat) (x0 : Int32) (x1 : Int32) (h1 : in_N x0 10) (h2 : in_R x1 1 4) : Met l yX8_zone wsX8_zone ({ frames := 1, cells := 0, slots := 0, locals := 22 } : Room) (g_P D [(cI, .int)] (tcW ad cI g) [.ref (ad 0), .int x0, .int x1] sz) (g_Qi D [(cI, .int)] (va_A (tcW ad cI g) sz) (tcW ad cI (fX8_zone_w g x0 x1)) (fX8_zone_r g x0 x1)) 0 0 (va_A (tcW ad cI g) sz) := by
  refine Met.ofW (cc := cX8_zone) (maxL := 4) (ret := (some .int)) (by decide) rfl ?_
  intro p e s m args below meth c9 s₁ B hml hv
  obtain ⟨rfl, hsz, hP, hK, hD0⟩ := hv
  have hx := B.exec
  have hb := B.bytes
  have hr := B.returns
  have hts := atoms_spec (ws := wsX8_zone) B.pre
  have hown : s.vm.findClass RX8 = some m.cls := findClass_of_methodNamed B.named
  have hlocks := B.notSynchronized
  subst hsz
  have hD := hD0.self (sz := s.heap.size)
  generalize hAe : va_A (tcW ad cI g) s.heap.size = A at hD ⊢
  have hA : ∀ q : Nat, s.heap.size ≤ q → A q := fun q h => by rw [← hAe]; exact Or.inr h
  have hS : va_S A s.heap s.heap [] := va_S.rf
  have hl := lv_entry ([.ref (ad 0), .int x0, .int x1]) (n := 4) (Nat.le_of_ble_eq_true rfl)
  rw [lg_entry_eq]
  generalize (lg_sl ([.ref (ad 0), .int x0, .int x1]) ++ List.replicate (4 - (lg_sl ([.ref (ad 0), .int x0, .int x1])).length) Slot.unset).toArray = ls at hl ⊢
  have hl : lv_has ls 4 [(0, .ref (ad 0)), (1, .int x0), (2, .int x1)] := hl
  have winX4 : ∀ w ∈ u_ws RX4 TX4 3, w ∈ wsX8_zone := by decide +kernel
  have winX5 : ∀ w ∈ u_ws RX5 TX5 1, w ∈ wsX8_zone := by decide +kernel
  have winX8 : ∀ w ∈ u_ws RX8 TX8 9, w ∈ wsX8_zone := by decide +kernel
  refine lv_iload_n hx hb dX8_zone_0 rfl (lv_at hl 1 rfl) ?_
  refine lv_bipush (v := 10) hx hb dX8_zone_1 (by decide) ?_
  refine g_kv hK hD hS hA (va_runS (As := [.int x0, .int 10]) (rest := []) ⟨hx, hb, hml, hown, hts⟩ (kX8_needNumber l D ad cI g s.heap.size x0 10 h1) (cwS 2 hts gX8_zone_X8_needNumber rfl rfl rfl (by decide +kernel) ⟨Nat.le_of_ble_eq_true rfl, Nat.le_of_ble_eq_true rfl⟩) (g_preS hK hP hD) rfl rfl hl.1 rfl (lv_room (Nat.le_of_ble_eq_true rfl)) dX8_zone_3 ⟨Nat.le_of_ble_eq_true rfl, Nat.le_of_ble_eq_true rfl⟩) (fun H locs hP hD hS => ?_)
  refine lv_iload_n hx hb dX8_zone_6 rfl (lv_at hl 2 rfl) ?_
  refine lv_iconst (v := 1) hx hb dX8_zone_7 (by decide) ?_
  refine lv_iconst (v := 4) hx hb dX8_zone_8 (by decide) ?_
  refine g_kv hK hD hS hA (va_runS (As := [.int x1, .int 1, .int 4]) (rest := []) ⟨hx, hb, hml, hown, hts⟩ (kX8_needRange l D ad cI g H.size x1 1 4 h2) (cwS 3 hts gX8_zone_X8_needRange rfl rfl rfl (by decide +kernel) ⟨Nat.le_of_ble_eq_true rfl, Nat.le_of_ble_eq_true rfl⟩) (g_preS hK hP hD) rfl rfl hl.1 rfl (lv_room (Nat.le_of_ble_eq_true rfl)) dX8_zone_9 ⟨Nat.le_of_ble_eq_true rfl, Nat.le_of_ble_eq_true rfl⟩) (fun H locs hP hD hS => ?_)
  refine lv_aload_n hx hb dX8_zone_12 rfl (lv_at hl 0 rfl) ?_
  refine va_get (D := D) (ci := 8) (v := .ref (ad 1)) (C := RX8) (T := TX8) (N := 9) hx hb hts winX8 hown hK hP 0 rfl rfl 0 (by decide) (hts (.fieldLink RX8 12 "TapCap" "region" "LTapCap$Region;") (List.mem_of_getElem? (i := 1) rfl)) (fun _ h9 => h9) rfl dX8_zone_13 ?_
  refine va_get (D := D) (ci := 4) (v := .ref (ad 2)) (C := RX4) (T := TX4) (N := 3) hx hb hts winX4 hown hK hP 1 rfl rfl 0 (by decide) (hts (.fieldLink RX8 73 "TapCap$Region" "zoneOf" "LTapCap$Row;") (List.mem_of_getElem? (i := 2) rfl)) (fun _ h9 => h9) rfl dX8_zone_16 ?_
  refine lv_iload_n hx hb dX8_zone_19 rfl (lv_at hl 1 rfl) ?_
  refine g_ki hK hD hS hA (va_runV (As := [.int x0]) (rest := []) ⟨hx, hb, hml, hown, hts⟩ (k_tc_at l D ad cI g H.size 0 (by decide) x0) (cwV 1 hts gX8_zone_X5_at rfl rfl rfl (by decide +kernel) ⟨Nat.le_of_ble_eq_true rfl, Nat.le_of_ble_eq_true rfl⟩) (g_preV hK hP hD (ci := 5) (q0 := 2) rfl rfl) rfl rfl hl.1 rfl (lv_room (Nat.le_of_ble_eq_true rfl)) dX8_zone_20 ⟨Nat.le_of_ble_eq_true rfl, Nat.le_of_ble_eq_true rfl⟩) (fun H locs hP hD hS => ?_)
  refine lv_topi (fun v1 hv1 => ?_)
  refine lv_istore_n (lv' := [(3, .int v1), (0, .ref (ad 0)), (1, .int x0), (2, .int x1)]) hx hb dX8_zone_23 rfl hl (by decide) rfl (fun ls hl => ?_)
  refine lv_aload_n hx hb dX8_zone_24 rfl (lv_at hl 1 rfl) ?_
  refine va_get (D := D) (ci := 8) (v := .ref (ad 1)) (C := RX8) (T := TX8) (N := 9) hx hb hts winX8 hown hK hP 0 rfl rfl 0 (by decide) (hts (.fieldLink RX8 12 "TapCap" "region" "LTapCap$Region;") (List.mem_of_getElem? (i := 1) rfl)) (fun _ h9 => h9) rfl dX8_zone_25 ?_
  refine va_get (D := D) (ci := 4) (v := .ref (ad 2)) (C := RX4) (T := TX4) (N := 3) hx hb hts winX4 hown hK hP 1 rfl rfl 0 (by decide) (hts (.fieldLink RX8 73 "TapCap$Region" "zoneOf" "LTapCap$Row;") (List.mem_of_getElem? (i := 2) rfl)) (fun _ h9 => h9) rfl dX8_zone_28 ?_
  refine lv_iload_n hx hb dX8_zone_31 rfl (lv_at hl 2 rfl) ?_
  refine lv_iload_n hx hb dX8_zone_32 rfl (lv_at hl 3 rfl) ?_
  refine g_kv hK hD hS hA (va_runV (As := [.int x0, .int x1]) (rest := []) ⟨hx, hb, hml, hown, hts⟩ (k_tc_put l D ad cI g H.size 0 (by decide) x0 x1) (cwV 2 hts gX8_zone_X5_put rfl rfl rfl (by decide +kernel) ⟨Nat.le_of_ble_eq_true rfl, Nat.le_of_ble_eq_true rfl⟩) (g_preV hK hP hD (ci := 5) (q0 := 2) rfl rfl) rfl rfl hl.1 rfl (lv_room (Nat.le_of_ble_eq_true rfl)) dX8_zone_33 ⟨Nat.le_of_ble_eq_true rfl, Nat.le_of_ble_eq_true rfl⟩) (fun H locs hP hD hS => ?_)
  obtain ⟨g1, hg1⟩ : ∃ z : tG, z = gP g 0 x0 x1 := ⟨_, rfl⟩
  rw [← hg1] at hP hD
  refine lv_iload_n hx hb dX8_zone_36 rfl (lv_at hl 0 rfl) ?_
  have hw := eX8_zone_w1 g x0 x1 hv1 hg1
  have hP := w_P9 hw hP
  have hD := w_D9 hw hD
  exact g_iret hx hb hr rfl hlocks hK hP hD hS (eX8_zone_r1 g x0 x1 hv1 hg1).symm dX8_zone_37
set_option maxHeartbeats 4000000 in
set_option maxRecDepth 100000 in
theorem kX8_tariff (l : Launch) (D : va_G) (ad : Nat → Nat) (cI : ClassId) (g : tG) (sz : Nat) (x0 : Int32) (x1 : Int32) (x2 : Int32) (x3 : Int32) (x4 : Int32) (h1 : in_R x0 0 27) (h2 : in_R x1 1 9) (h3 : in_R x2 0 5) (h4 : in_R x3 1 50) (h5 : in_R x4 1 200) (h6 : ¬ 6 ≤ g 45 2) (h7 : g 45 0 ≤ x0) : Met l yX8_tariff wsX8_tariff ({ frames := 2, cells := 0, slots := 0, locals := 47 } : Room) (g_P D [(cI, .int)] (tcW ad cI g) [.ref (ad 0), .int x0, .int x1, .int x2, .int x3, .int x4] sz) (g_Qi D [(cI, .int)] (va_A (tcW ad cI g) sz) (tcW ad cI (fX8_tariff_w g x0 x1 x2 x3 x4)) (fX8_tariff_r g x0 x1 x2 x3 x4)) 0 0 (va_A (tcW ad cI g) sz) := by
  refine Met.ofW (cc := cX8_tariff) (maxL := 6) (ret := (some .int)) (by decide) rfl ?_
  intro p e s m args below meth c9 s₁ B hml hv
  obtain ⟨rfl, hsz, hP, hK, hD0⟩ := hv
  have hx := B.exec
  have hb := B.bytes
  have hr := B.returns
  have hts := atoms_spec (ws := wsX8_tariff) B.pre
  have hown : s.vm.findClass RX8 = some m.cls := findClass_of_methodNamed B.named
  have hlocks := B.notSynchronized
  subst hsz
  have hD := hD0.self (sz := s.heap.size)
  generalize hAe : va_A (tcW ad cI g) s.heap.size = A at hD ⊢
  have hA : ∀ q : Nat, s.heap.size ≤ q → A q := fun q h => by rw [← hAe]; exact Or.inr h
  have hS : va_S A s.heap s.heap [] := va_S.rf
  have hl := lv_entry ([.ref (ad 0), .int x0, .int x1, .int x2, .int x3, .int x4]) (n := 6) (Nat.le_of_ble_eq_true rfl)
  rw [lg_entry_eq]
  generalize (lg_sl ([.ref (ad 0), .int x0, .int x1, .int x2, .int x3, .int x4]) ++ List.replicate (6 - (lg_sl ([.ref (ad 0), .int x0, .int x1, .int x2, .int x3, .int x4])).length) Slot.unset).toArray = ls at hl ⊢
  have hl : lv_has ls 6 [(0, .ref (ad 0)), (1, .int x0), (2, .int x1), (3, .int x2), (4, .int x3), (5, .int x4)] := hl
  have winX7 : ∀ w ∈ u_ws RX7 TX7 6, w ∈ wsX8_tariff := by decide +kernel
  have winX8 : ∀ w ∈ u_ws RX8 TX8 9, w ∈ wsX8_tariff := by decide +kernel
  refine lv_iload_n hx hb dX8_tariff_0 rfl (lv_at hl 1 rfl) ?_
  refine lv_iconst (v := 0) hx hb dX8_tariff_1 (by decide) ?_
  refine lv_bipush (v := 27) hx hb dX8_tariff_2 (by decide) ?_
  refine g_kv hK hD hS hA (va_runS (As := [.int x0, .int 0, .int 27]) (rest := []) ⟨hx, hb, hml, hown, hts⟩ (kX8_needRange l D ad cI g s.heap.size x0 0 27 h1) (cwS 3 hts gX8_tariff_X8_needRange rfl rfl rfl (by decide +kernel) ⟨Nat.le_of_ble_eq_true rfl, Nat.le_of_ble_eq_true rfl⟩) (g_preS hK hP hD) rfl rfl hl.1 rfl (lv_room (Nat.le_of_ble_eq_true rfl)) dX8_tariff_4 ⟨Nat.le_of_ble_eq_true rfl, Nat.le_of_ble_eq_true rfl⟩) (fun H locs hP hD hS => ?_)
  refine lv_iload_n hx hb dX8_tariff_7 rfl (lv_at hl 2 rfl) ?_
  refine lv_iconst (v := 1) hx hb dX8_tariff_8 (by decide) ?_
  refine lv_bipush (v := 9) hx hb dX8_tariff_9 (by decide) ?_
  refine g_kv hK hD hS hA (va_runS (As := [.int x1, .int 1, .int 9]) (rest := []) ⟨hx, hb, hml, hown, hts⟩ (kX8_needRange l D ad cI g H.size x1 1 9 h2) (cwS 3 hts gX8_tariff_X8_needRange rfl rfl rfl (by decide +kernel) ⟨Nat.le_of_ble_eq_true rfl, Nat.le_of_ble_eq_true rfl⟩) (g_preS hK hP hD) rfl rfl hl.1 rfl (lv_room (Nat.le_of_ble_eq_true rfl)) dX8_tariff_11 ⟨Nat.le_of_ble_eq_true rfl, Nat.le_of_ble_eq_true rfl⟩) (fun H locs hP hD hS => ?_)
  refine lv_iload_n hx hb dX8_tariff_14 rfl (lv_at hl 3 rfl) ?_
  refine lv_iconst (v := 0) hx hb dX8_tariff_15 (by decide) ?_
  refine lv_iconst (v := 5) hx hb dX8_tariff_16 (by decide) ?_
  refine g_kv hK hD hS hA (va_runS (As := [.int x2, .int 0, .int 5]) (rest := []) ⟨hx, hb, hml, hown, hts⟩ (kX8_needRange l D ad cI g H.size x2 0 5 h3) (cwS 3 hts gX8_tariff_X8_needRange rfl rfl rfl (by decide +kernel) ⟨Nat.le_of_ble_eq_true rfl, Nat.le_of_ble_eq_true rfl⟩) (g_preS hK hP hD) rfl rfl hl.1 rfl (lv_room (Nat.le_of_ble_eq_true rfl)) dX8_tariff_17 ⟨Nat.le_of_ble_eq_true rfl, Nat.le_of_ble_eq_true rfl⟩) (fun H locs hP hD hS => ?_)
  refine lv_iload hx hb dX8_tariff_20 (lv_at hl 4 rfl) ?_
  refine lv_iconst (v := 1) hx hb dX8_tariff_22 (by decide) ?_
  refine lv_bipush (v := 50) hx hb dX8_tariff_23 (by decide) ?_
  refine g_kv hK hD hS hA (va_runS (As := [.int x3, .int 1, .int 50]) (rest := []) ⟨hx, hb, hml, hown, hts⟩ (kX8_needRange l D ad cI g H.size x3 1 50 h4) (cwS 3 hts gX8_tariff_X8_needRange rfl rfl rfl (by decide +kernel) ⟨Nat.le_of_ble_eq_true rfl, Nat.le_of_ble_eq_true rfl⟩) (g_preS hK hP hD) rfl rfl hl.1 rfl (lv_room (Nat.le_of_ble_eq_true rfl)) dX8_tariff_25 ⟨Nat.le_of_ble_eq_true rfl, Nat.le_of_ble_eq_true rfl⟩) (fun H locs hP hD hS => ?_)
  refine lv_iload hx hb dX8_tariff_28 (lv_at hl 5 rfl) ?_
  refine lv_iconst (v := 1) hx hb dX8_tariff_30 (by decide) ?_
  refine lv_sipush (v := 200) hx hb dX8_tariff_31 (by decide) ?_
  refine g_kv hK hD hS hA (va_runS (As := [.int x4, .int 1, .int 200]) (rest := []) ⟨hx, hb, hml, hown, hts⟩ (kX8_needRange l D ad cI g H.size x4 1 200 h5) (cwS 3 hts gX8_tariff_X8_needRange rfl rfl rfl (by decide +kernel) ⟨Nat.le_of_ble_eq_true rfl, Nat.le_of_ble_eq_true rfl⟩) (g_preS hK hP hD) rfl rfl hl.1 rfl (lv_room (Nat.le_of_ble_eq_true rfl)) dX8_tariff_34 ⟨Nat.le_of_ble_eq_true rfl, Nat.le_of_ble_eq_true rfl⟩) (fun H locs hP hD hS => ?_)
  refine lv_aload_n hx hb dX8_tariff_37 rfl (lv_at hl 0 rfl) ?_
  refine va_get (D := D) (ci := 8) (v := .ref (ad 8)) (C := RX8) (T := TX8) (N := 9) hx hb hts winX8 hown hK hP 0 rfl rfl 1 (by decide) (hts (.fieldLink RX8 19 "TapCap" "tariffs" "LTapCap$Tariffs;") (List.mem_of_getElem? (i := 1) rfl)) (fun _ h9 => h9) rfl dX8_tariff_38 ?_
  refine va_get (D := D) (ci := 7) (v := .int (g 45 2)) (C := RX7) (T := TX7) (N := 6) hx hb hts winX7 hown hK hP 8 rfl rfl 5 (by decide) (hts (.fieldLink RX8 89 "TapCap$Tariffs" "count" "I") (List.mem_of_getElem? (i := 2) rfl)) (fun _ h9 => h9) rfl dX8_tariff_41 ?_
  refine lv_bipush (v := 6) hx hb dX8_tariff_44 (by decide) ?_
  refine lv_icmp_ge (tgt := 57) hx hb dX8_tariff_46 (by decide) (fun c1 => ?_) (fun c1 => ?_)
  · exact absurd c1 h6
  · refine lv_iload_n hx hb dX8_tariff_49 rfl (lv_at hl 1 rfl) ?_
    refine lv_aload_n hx hb dX8_tariff_50 rfl (lv_at hl 0 rfl) ?_
    refine va_get (D := D) (ci := 8) (v := .int (g 45 0)) (C := RX8) (T := TX8) (N := 9) hx hb hts winX8 hown hK hP 0 rfl rfl 7 (by decide) (hts (.fieldLink RX8 58 "TapCap" "closedDays" "I") (List.mem_of_getElem? (i := 3) rfl)) (fun _ h9 => h9) rfl dX8_tariff_51 ?_
    refine lv_icmp_ge (tgt := 67) hx hb dX8_tariff_54 (by decide) (fun c2 => ?_) (fun c2 => ?_)
    · refine lv_aload_n hx hb dX8_tariff_67 rfl (lv_at hl 0 rfl) ?_
      refine va_get (D := D) (ci := 8) (v := .ref (ad 8)) (C := RX8) (T := TX8) (N := 9) hx hb hts winX8 hown hK hP 0 rfl rfl 1 (by decide) (hts (.fieldLink RX8 19 "TapCap" "tariffs" "LTapCap$Tariffs;") (List.mem_of_getElem? (i := 1) rfl)) (fun _ h9 => h9) rfl dX8_tariff_68 ?_
      refine lv_iload_n hx hb dX8_tariff_71 rfl (lv_at hl 1 rfl) ?_
      refine lv_iload_n hx hb dX8_tariff_72 rfl (lv_at hl 2 rfl) ?_
      refine lv_iload_n hx hb dX8_tariff_73 rfl (lv_at hl 3 rfl) ?_
      refine lv_iload hx hb dX8_tariff_74 (lv_at hl 4 rfl) ?_
      refine lv_iload hx hb dX8_tariff_76 (lv_at hl 5 rfl) ?_
      refine g_kv hK hD hS hA (va_runV (As := [.int x0, .int x1, .int x2, .int x3, .int x4]) (rest := []) ⟨hx, hb, hml, hown, hts⟩ (kX7_add l D ad cI g H.size x0 x1 x2 x3 x4) (cwV 5 hts gX8_tariff_X7_add rfl rfl rfl (by decide +kernel) ⟨Nat.le_of_ble_eq_true rfl, Nat.le_of_ble_eq_true rfl⟩) (g_preV hK hP hD (ci := 7) (q0 := 8) rfl rfl) rfl rfl hl.1 rfl (lv_room (Nat.le_of_ble_eq_true rfl)) dX8_tariff_78 ⟨Nat.le_of_ble_eq_true rfl, Nat.le_of_ble_eq_true rfl⟩) (fun H locs hP hD hS => ?_)
      obtain ⟨g1, hg1⟩ : ∃ z : tG, z = fX7_add_w g x0 x1 x2 x3 x4 := ⟨_, rfl⟩
      rw [← hg1] at hP hD
      refine lv_aload_n hx hb dX8_tariff_81 rfl (lv_at hl 0 rfl) ?_
      refine va_get (D := D) (ci := 8) (v := .ref (ad 8)) (C := RX8) (T := TX8) (N := 9) hx hb hts winX8 hown hK hP 0 rfl rfl 1 (by decide) (hts (.fieldLink RX8 19 "TapCap" "tariffs" "LTapCap$Tariffs;") (List.mem_of_getElem? (i := 1) rfl)) (fun _ h9 => h9) rfl dX8_tariff_82 ?_
      refine va_get (D := D) (ci := 7) (v := .int (g1 45 2)) (C := RX7) (T := TX7) (N := 6) hx hb hts winX7 hown hK hP 8 rfl rfl 5 (by decide) (hts (.fieldLink RX8 89 "TapCap$Tariffs" "count" "I") (List.mem_of_getElem? (i := 2) rfl)) (fun _ h9 => h9) rfl dX8_tariff_85 ?_
      have hw := eX8_tariff_w1 g x0 x1 x2 x3 x4 hg1
      have hP := w_P9 hw hP
      have hD := w_D9 hw hD
      exact g_iret hx hb hr rfl hlocks hK hP hD hS (eX8_tariff_r1 g x0 x1 x2 x3 x4 hg1).symm dX8_tariff_88
    · exact absurd h7 c2
set_option maxHeartbeats 4000000 in
set_option maxRecDepth 100000 in
theorem kX8_tap (l : Launch) (D : va_G) (ad : Nat → Nat) (cI : ClassId) (g : tG) (sz : Nat) (x0 : Int32) (x1 : Int32) (x2 : Int32) (x3 : Int32) (x4 : Int32) (x5 : Int32) (h1 : in_N x0 (g 45 3)) (h2 : in_N x1 10) (h3 : in_N x2 6) (h4 : in_N x4 28) (h5 : in_R x5 0 1439) (h6 : fX6_isRepeated_r (fX6_write_w g (g 45 4) x0 x1 x2 x3 x4 x5) ((fX6_write_w g (g 45 4) x0 x1 x2 x3 x4 x5) 45 4) = 0 → g 45 4 < 40) : Met l yX8_tap wsX8_tap ({ frames := 3, cells := 0, slots := 0, locals := 67 } : Room) (g_P D [(cI, .int)] (tcW ad cI g) [.ref (ad 0), .int x0, .int x1, .int x2, .int x3, .int x4, .int x5] sz) (g_Qi D [(cI, .int)] (va_A (tcW ad cI g) sz) (tcW ad cI (fX8_tap_w g x0 x1 x2 x3 x4 x5)) (fX8_tap_r g x0 x1 x2 x3 x4 x5)) 0 0 (va_A (tcW ad cI g) sz) := by
  refine Met.ofW (cc := cX8_tap) (maxL := 7) (ret := (some .int)) (by decide) rfl ?_
  intro p e s m args below meth c9 s₁ B hml hv
  obtain ⟨rfl, hsz, hP, hK, hD0⟩ := hv
  have hx := B.exec
  have hb := B.bytes
  have hr := B.returns
  have hts := atoms_spec (ws := wsX8_tap) B.pre
  have hown : s.vm.findClass RX8 = some m.cls := findClass_of_methodNamed B.named
  have hlocks := B.notSynchronized
  subst hsz
  have hD := hD0.self (sz := s.heap.size)
  generalize hAe : va_A (tcW ad cI g) s.heap.size = A at hD ⊢
  have hA : ∀ q : Nat, s.heap.size ≤ q → A q := fun q h => by rw [← hAe]; exact Or.inr h
  have hS : va_S A s.heap s.heap [] := va_S.rf
  have hl := lv_entry ([.ref (ad 0), .int x0, .int x1, .int x2, .int x3, .int x4, .int x5]) (n := 7) (Nat.le_of_ble_eq_true rfl)
  rw [lg_entry_eq]
  generalize (lg_sl ([.ref (ad 0), .int x0, .int x1, .int x2, .int x3, .int x4, .int x5]) ++ List.replicate (7 - (lg_sl ([.ref (ad 0), .int x0, .int x1, .int x2, .int x3, .int x4, .int x5])).length) Slot.unset).toArray = ls at hl ⊢
  have hl : lv_has ls 7 [(0, .ref (ad 0)), (1, .int x0), (2, .int x1), (3, .int x2), (4, .int x3), (5, .int x4), (6, .int x5)] := hl
  have winX6 : ∀ w ∈ u_ws RX6 TX6 9, w ∈ wsX8_tap := by decide +kernel
  have winX8 : ∀ w ∈ u_ws RX8 TX8 9, w ∈ wsX8_tap := by decide +kernel
  refine lv_aload_n hx hb dX8_tap_0 rfl (lv_at hl 0 rfl) ?_
  refine lv_iload_n hx hb dX8_tap_1 rfl (lv_at hl 1 rfl) ?_
  refine lv_iload_n hx hb dX8_tap_2 rfl (lv_at hl 2 rfl) ?_
  refine lv_iload_n hx hb dX8_tap_3 rfl (lv_at hl 3 rfl) ?_
  refine lv_iload hx hb dX8_tap_4 (lv_at hl 5 rfl) ?_
  refine lv_iload hx hb dX8_tap_6 (lv_at hl 6 rfl) ?_
  refine g_kv hK hD hS hA (va_runV (As := [.int x0, .int x1, .int x2, .int x4, .int x5]) (rest := []) ⟨hx, hb, hml, hown, hts⟩ (kX8_needTap l D ad cI g s.heap.size x0 x1 x2 x4 x5 h1 h2 h3 h4 h5) (cwV 5 hts gX8_tap_X8_needTap rfl rfl rfl (by decide +kernel) ⟨Nat.le_of_ble_eq_true rfl, Nat.le_of_ble_eq_true rfl⟩) (g_preV hK hP hD (ci := 8) (q0 := 0) rfl rfl) rfl rfl hl.1 rfl (lv_room (Nat.le_of_ble_eq_true rfl)) dX8_tap_8 ⟨Nat.le_of_ble_eq_true rfl, Nat.le_of_ble_eq_true rfl⟩) (fun H locs hP hD hS => ?_)
  refine lv_aload_n hx hb dX8_tap_11 rfl (lv_at hl 0 rfl) ?_
  refine va_get (D := D) (ci := 8) (v := .ref (ad 19)) (C := RX8) (T := TX8) (N := 9) hx hb hts winX8 hown hK hP 0 rfl rfl 2 (by decide) (hts (.fieldLink RX8 26 "TapCap" "cards" "LTapCap$Cards;") (List.mem_of_getElem? (i := 1) rfl)) (fun _ h9 => h9) rfl dX8_tap_12 ?_
  refine lv_iload_n hx hb dX8_tap_15 rfl (lv_at hl 1 rfl) ?_
  refine g_ki hK hD hS hA (va_runV (As := [.int x0]) (rest := []) ⟨hx, hb, hml, hown, hts⟩ (kX0_isLost l D ad cI g H.size x0) (cwV 1 hts gX8_tap_X0_isLost rfl rfl rfl (by decide +kernel) ⟨Nat.le_of_ble_eq_true rfl, Nat.le_of_ble_eq_true rfl⟩) (g_preV hK hP hD (ci := 0) (q0 := 19) rfl rfl) rfl rfl hl.1 rfl (lv_room (Nat.le_of_ble_eq_true rfl)) dX8_tap_16 ⟨Nat.le_of_ble_eq_true rfl, Nat.le_of_ble_eq_true rfl⟩) (fun H locs hP hD hS => ?_)
  refine lv_if_eq (tgt := 38) hx hb dX8_tap_19 (by decide) (fun c1 => ?_) (fun c1 => ?_)
  · refine lv_aload_n hx hb dX8_tap_38 rfl (lv_at hl 0 rfl) ?_
    refine va_get (D := D) (ci := 8) (v := .ref (ad 30)) (C := RX8) (T := TX8) (N := 9) hx hb hts winX8 hown hK hP 0 rfl rfl 3 (by decide) (hts (.fieldLink RX8 33 "TapCap" "taps" "LTapCap$Taps;") (List.mem_of_getElem? (i := 2) rfl)) (fun _ h9 => h9) rfl dX8_tap_39 ?_
    refine lv_aload_n hx hb dX8_tap_42 rfl (lv_at hl 0 rfl) ?_
    refine va_get (D := D) (ci := 8) (v := .ref (ad 30)) (C := RX8) (T := TX8) (N := 9) hx hb hts winX8 hown hK hP 0 rfl rfl 3 (by decide) (hts (.fieldLink RX8 33 "TapCap" "taps" "LTapCap$Taps;") (List.mem_of_getElem? (i := 2) rfl)) (fun _ h9 => h9) rfl dX8_tap_43 ?_
    refine va_get (D := D) (ci := 6) (v := .int (g 45 4)) (C := RX6) (T := TX6) (N := 9) hx hb hts winX6 hown hK hP 30 rfl rfl 6 (by decide) (hts (.fieldLink RX8 151 "TapCap$Taps" "count" "I") (List.mem_of_getElem? (i := 3) rfl)) (fun _ h9 => h9) rfl dX8_tap_46 ?_
    refine lv_iload_n hx hb dX8_tap_49 rfl (lv_at hl 1 rfl) ?_
    refine lv_iload_n hx hb dX8_tap_50 rfl (lv_at hl 2 rfl) ?_
    refine lv_iload_n hx hb dX8_tap_51 rfl (lv_at hl 3 rfl) ?_
    refine lv_iload hx hb dX8_tap_52 (lv_at hl 4 rfl) ?_
    refine lv_iload hx hb dX8_tap_54 (lv_at hl 5 rfl) ?_
    refine lv_iload hx hb dX8_tap_56 (lv_at hl 6 rfl) ?_
    refine g_kv hK hD hS hA (va_runV (As := [.int (g 45 4), .int x0, .int x1, .int x2, .int x3, .int x4, .int x5]) (rest := []) ⟨hx, hb, hml, hown, hts⟩ (kX6_write l D ad cI g H.size (g 45 4) x0 x1 x2 x3 x4 x5) (cwV 7 hts gX8_tap_X6_write rfl rfl rfl (by decide +kernel) ⟨Nat.le_of_ble_eq_true rfl, Nat.le_of_ble_eq_true rfl⟩) (g_preV hK hP hD (ci := 6) (q0 := 30) rfl rfl) rfl rfl hl.1 rfl (lv_room (Nat.le_of_ble_eq_true rfl)) dX8_tap_58 ⟨Nat.le_of_ble_eq_true rfl, Nat.le_of_ble_eq_true rfl⟩) (fun H locs hP hD hS => ?_)
    obtain ⟨g1, hg1⟩ : ∃ z : tG, z = fX6_write_w g (g 45 4) x0 x1 x2 x3 x4 x5 := ⟨_, rfl⟩
    rw [← hg1] at hP hD
    refine lv_aload_n hx hb dX8_tap_61 rfl (lv_at hl 0 rfl) ?_
    refine va_get (D := D) (ci := 8) (v := .ref (ad 30)) (C := RX8) (T := TX8) (N := 9) hx hb hts winX8 hown hK hP 0 rfl rfl 3 (by decide) (hts (.fieldLink RX8 33 "TapCap" "taps" "LTapCap$Taps;") (List.mem_of_getElem? (i := 2) rfl)) (fun _ h9 => h9) rfl dX8_tap_62 ?_
    refine lv_aload_n hx hb dX8_tap_65 rfl (lv_at hl 0 rfl) ?_
    refine va_get (D := D) (ci := 8) (v := .ref (ad 30)) (C := RX8) (T := TX8) (N := 9) hx hb hts winX8 hown hK hP 0 rfl rfl 3 (by decide) (hts (.fieldLink RX8 33 "TapCap" "taps" "LTapCap$Taps;") (List.mem_of_getElem? (i := 2) rfl)) (fun _ h9 => h9) rfl dX8_tap_66 ?_
    refine va_get (D := D) (ci := 6) (v := .int (g1 45 4)) (C := RX6) (T := TX6) (N := 9) hx hb hts winX6 hown hK hP 30 rfl rfl 6 (by decide) (hts (.fieldLink RX8 151 "TapCap$Taps" "count" "I") (List.mem_of_getElem? (i := 3) rfl)) (fun _ h9 => h9) rfl dX8_tap_69 ?_
    refine g_ki hK hD hS hA (va_runV (As := [.int (g1 45 4)]) (rest := []) ⟨hx, hb, hml, hown, hts⟩ (kX6_isRepeated l D ad cI g1 H.size (g1 45 4)) (cwV 1 hts gX8_tap_X6_isRepeated rfl rfl rfl (by decide +kernel) ⟨Nat.le_of_ble_eq_true rfl, Nat.le_of_ble_eq_true rfl⟩) (g_preV hK hP hD (ci := 6) (q0 := 30) rfl rfl) rfl rfl hl.1 rfl (lv_room (Nat.le_of_ble_eq_true rfl)) dX8_tap_72 ⟨Nat.le_of_ble_eq_true rfl, Nat.le_of_ble_eq_true rfl⟩) (fun H locs hP hD hS => ?_)
    refine lv_if_eq (tgt := 94) hx hb dX8_tap_75 (by decide) (fun c2 => ?_) (fun c2 => ?_)
    · refine lv_aload_n hx hb dX8_tap_94 rfl (lv_at hl 0 rfl) ?_
      refine va_get (D := D) (ci := 8) (v := .ref (ad 30)) (C := RX8) (T := TX8) (N := 9) hx hb hts winX8 hown hK hP 0 rfl rfl 3 (by decide) (hts (.fieldLink RX8 33 "TapCap" "taps" "LTapCap$Taps;") (List.mem_of_getElem? (i := 2) rfl)) (fun _ h9 => h9) rfl dX8_tap_95 ?_
      refine va_get (D := D) (ci := 6) (v := .int (g1 45 4)) (C := RX6) (T := TX6) (N := 9) hx hb hts winX6 hown hK hP 30 rfl rfl 6 (by decide) (hts (.fieldLink RX8 151 "TapCap$Taps" "count" "I") (List.mem_of_getElem? (i := 3) rfl)) (fun _ h9 => h9) rfl dX8_tap_98 ?_
      refine lv_bipush (v := 40) hx hb dX8_tap_101 (by decide) ?_
      refine lv_icmp_lt (tgt := 116) hx hb dX8_tap_103 (by decide) (fun c3 => ?_) (fun c3 => ?_)
      · refine lv_aload_n hx hb dX8_tap_116 rfl (lv_at hl 0 rfl) ?_
        refine va_get (D := D) (ci := 8) (v := .ref (ad 30)) (C := RX8) (T := TX8) (N := 9) hx hb hts winX8 hown hK hP 0 rfl rfl 3 (by decide) (hts (.fieldLink RX8 33 "TapCap" "taps" "LTapCap$Taps;") (List.mem_of_getElem? (i := 2) rfl)) (fun _ h9 => h9) rfl dX8_tap_117 ?_
        refine lv_dup hx hb dX8_tap_120 rfl ?_
        refine va_get (D := D) (ci := 6) (v := .int (g1 45 4)) (C := RX6) (T := TX6) (N := 9) hx hb hts winX6 hown hK hP 30 rfl rfl 6 (by decide) (hts (.fieldLink RX8 151 "TapCap$Taps" "count" "I") (List.mem_of_getElem? (i := 3) rfl)) (fun _ h9 => h9) rfl dX8_tap_121 ?_
        refine lv_iconst (v := 1) hx hb dX8_tap_124 (by decide) ?_
        refine lv_iadd hx hb dX8_tap_125 ?_
        refine lv_topi (fun v1 hv1 => ?_)
        refine va_put (D := D) (ci := 6) (v := .int v1) (ty := .int) (C := RX6) (T := TX6) (N := 9) hx hb hts winX6 tyX6 tyX6_ok nmX6 hown hK hP hD hS 30 rfl rfl 6 (by decide) (hts (.fieldLink RX8 151 "TapCap$Taps" "count" "I") (List.mem_of_getElem? (i := 3) rfl)) (fun _ h9 => h9) rfl (by decide +kernel) rfl rfl (Nat.le_of_ble_eq_true rfl) dX8_tap_126 (fun H locs hP hD hS => ?_)
        have hP := tc_sP_4 hP
        have hD := tc_sD_4 hD
        obtain ⟨g2, hg2⟩ : ∃ z : tG, z = tc_sc g1 4 v1 := ⟨_, rfl⟩
        rw [← hg2] at hP hD
        refine lv_aload_n hx hb dX8_tap_129 rfl (lv_at hl 0 rfl) ?_
        refine va_get (D := D) (ci := 8) (v := .ref (ad 30)) (C := RX8) (T := TX8) (N := 9) hx hb hts winX8 hown hK hP 0 rfl rfl 3 (by decide) (hts (.fieldLink RX8 33 "TapCap" "taps" "LTapCap$Taps;") (List.mem_of_getElem? (i := 2) rfl)) (fun _ h9 => h9) rfl dX8_tap_130 ?_
        refine va_get (D := D) (ci := 6) (v := .int (g2 45 4)) (C := RX6) (T := TX6) (N := 9) hx hb hts winX6 hown hK hP 30 rfl rfl 6 (by decide) (hts (.fieldLink RX8 151 "TapCap$Taps" "count" "I") (List.mem_of_getElem? (i := 3) rfl)) (fun _ h9 => h9) rfl dX8_tap_133 ?_
        have hw := eX8_tap_w1 g x0 x1 x2 x3 x4 x5 c1 hg1 c2 hv1 hg2
        have hP := w_P9 hw hP
        have hD := w_D9 hw hD
        exact g_iret hx hb hr rfl hlocks hK hP hD hS (eX8_tap_r1 g x0 x1 x2 x3 x4 x5 c1 hg1 c2 hv1 hg2).symm dX8_tap_136
      · exact absurd (show g1 45 4 < 40 by rw [hg1, congrFun (fjX6_write g _ _ _ _ _ _ _ 45 (by decide)) 4]; exact h6 (by rw [← hg1]; exact c2)) c3
    · refine lv_aload_n hx hb dX8_tap_78 rfl (lv_at hl 0 rfl) ?_
      refine va_get (D := D) (ci := 8) (v := .ref (ad 30)) (C := RX8) (T := TX8) (N := 9) hx hb hts winX8 hown hK hP 0 rfl rfl 3 (by decide) (hts (.fieldLink RX8 33 "TapCap" "taps" "LTapCap$Taps;") (List.mem_of_getElem? (i := 2) rfl)) (fun _ h9 => h9) rfl dX8_tap_79 ?_
      refine lv_dup hx hb dX8_tap_82 rfl ?_
      refine va_get (D := D) (ci := 6) (v := .int (g1 45 6)) (C := RX6) (T := TX6) (N := 9) hx hb hts winX6 hown hK hP 30 rfl rfl 8 (by decide) (hts (.fieldLink RX8 159 "TapCap$Taps" "doubled" "I") (List.mem_of_getElem? (i := 4) rfl)) (fun _ h9 => h9) rfl dX8_tap_83 ?_
      refine lv_iconst (v := 1) hx hb dX8_tap_86 (by decide) ?_
      refine lv_iadd hx hb dX8_tap_87 ?_
      refine lv_topi (fun v2 hv2 => ?_)
      refine va_put (D := D) (ci := 6) (v := .int v2) (ty := .int) (C := RX6) (T := TX6) (N := 9) hx hb hts winX6 tyX6 tyX6_ok nmX6 hown hK hP hD hS 30 rfl rfl 8 (by decide) (hts (.fieldLink RX8 159 "TapCap$Taps" "doubled" "I") (List.mem_of_getElem? (i := 4) rfl)) (fun _ h9 => h9) rfl (by decide +kernel) rfl rfl (Nat.le_of_ble_eq_true rfl) dX8_tap_88 (fun H locs hP hD hS => ?_)
      have hP := tc_sP_6 hP
      have hD := tc_sD_6 hD
      obtain ⟨g3, hg3⟩ : ∃ z : tG, z = tc_sc g1 6 v2 := ⟨_, rfl⟩
      rw [← hg3] at hP hD
      refine lv_bipush (v := (-3)) hx hb dX8_tap_91 (by decide) ?_
      have hw := eX8_tap_w2 g x0 x1 x2 x3 x4 x5 c1 hg1 c2 hv2 hg3
      have hP := w_P9 hw hP
      have hD := w_D9 hw hD
      exact g_iret hx hb hr rfl hlocks hK hP hD hS (eX8_tap_r2 g x0 x1 x2 x3 x4 x5 c1 hg1 c2 hv2 hg3).symm dX8_tap_93
  · refine lv_aload_n hx hb dX8_tap_22 rfl (lv_at hl 0 rfl) ?_
    refine va_get (D := D) (ci := 8) (v := .ref (ad 30)) (C := RX8) (T := TX8) (N := 9) hx hb hts winX8 hown hK hP 0 rfl rfl 3 (by decide) (hts (.fieldLink RX8 33 "TapCap" "taps" "LTapCap$Taps;") (List.mem_of_getElem? (i := 2) rfl)) (fun _ h9 => h9) rfl dX8_tap_23 ?_
    refine lv_dup hx hb dX8_tap_26 rfl ?_
    refine va_get (D := D) (ci := 6) (v := .int (g 45 5)) (C := RX6) (T := TX6) (N := 9) hx hb hts winX6 hown hK hP 30 rfl rfl 7 (by decide) (hts (.fieldLink RX8 148 "TapCap$Taps" "denied" "I") (List.mem_of_getElem? (i := 5) rfl)) (fun _ h9 => h9) rfl dX8_tap_27 ?_
    refine lv_iconst (v := 1) hx hb dX8_tap_30 (by decide) ?_
    refine lv_iadd hx hb dX8_tap_31 ?_
    refine lv_topi (fun v3 hv3 => ?_)
    refine va_put (D := D) (ci := 6) (v := .int v3) (ty := .int) (C := RX6) (T := TX6) (N := 9) hx hb hts winX6 tyX6 tyX6_ok nmX6 hown hK hP hD hS 30 rfl rfl 7 (by decide) (hts (.fieldLink RX8 148 "TapCap$Taps" "denied" "I") (List.mem_of_getElem? (i := 5) rfl)) (fun _ h9 => h9) rfl (by decide +kernel) rfl rfl (Nat.le_of_ble_eq_true rfl) dX8_tap_32 (fun H locs hP hD hS => ?_)
    have hP := tc_sP_5 hP
    have hD := tc_sD_5 hD
    obtain ⟨g4, hg4⟩ : ∃ z : tG, z = tc_sc g 5 v3 := ⟨_, rfl⟩
    rw [← hg4] at hP hD
    refine lv_bipush (v := (-2)) hx hb dX8_tap_35 (by decide) ?_
    have hw := eX8_tap_w3 g x0 x1 x2 x3 x4 x5 c1 hv3 hg4
    have hP := w_P9 hw hP
    have hD := w_D9 hw hD
    exact g_iret hx hb hr rfl hlocks hK hP hD hS (eX8_tap_r3 g x0 x1 x2 x3 x4 x5 c1 hv3 hg4).symm dX8_tap_37
set_option maxHeartbeats 4000000 in
set_option maxRecDepth 100000 in
theorem kX8_close (l : Launch) (D : va_G) (ad : Nat → Nat) (cI : ClassId) (g : tG) (sz : Nat) (h1 : g 45 0 < 28) : Met l yX8_close wsX8_close ({ frames := 6, cells := 0, slots := 0, locals := 147 } : Room) (g_P D [(cI, .int)] (tcW ad cI g) [.ref (ad 0)] sz) (g_Qi D [(cI, .int)] (va_A (tcW ad cI g) sz) (tcW ad cI (fX8_close_w g)) (fX8_close_r g)) 0 0 (va_A (tcW ad cI g) sz) := by
  refine Met.ofW (cc := cX8_close) (maxL := 4) (ret := (some .int)) (by decide) rfl ?_
  intro p e s m args below meth c9 s₁ B hml hv
  obtain ⟨rfl, hsz, hP, hK, hD0⟩ := hv
  have hx := B.exec
  have hb := B.bytes
  have hr := B.returns
  have hts := atoms_spec (ws := wsX8_close) B.pre
  have hown : s.vm.findClass RX8 = some m.cls := findClass_of_methodNamed B.named
  have hlocks := B.notSynchronized
  subst hsz
  have hD := hD0.self (sz := s.heap.size)
  generalize hAe : va_A (tcW ad cI g) s.heap.size = A at hD ⊢
  have hA : ∀ q : Nat, s.heap.size ≤ q → A q := fun q h => by rw [← hAe]; exact Or.inr h
  have hS : va_S A s.heap s.heap [] := va_S.rf
  have hl := lv_entry ([.ref (ad 0)]) (n := 4) (Nat.le_of_ble_eq_true rfl)
  rw [lg_entry_eq]
  generalize (lg_sl ([.ref (ad 0)]) ++ List.replicate (4 - (lg_sl ([.ref (ad 0)])).length) Slot.unset).toArray = ls at hl ⊢
  have hl : lv_has ls 4 [(0, .ref (ad 0))] := hl
  have winX0 : ∀ w ∈ u_ws RX0 TX0 6, w ∈ wsX8_close := by decide +kernel
  have winX8 : ∀ w ∈ u_ws RX8 TX8 9, w ∈ wsX8_close := by decide +kernel
  refine lv_aload_n hx hb dX8_close_0 rfl (lv_at hl 0 rfl) ?_
  refine va_get (D := D) (ci := 8) (v := .int (g 45 0)) (C := RX8) (T := TX8) (N := 9) hx hb hts winX8 hown hK hP 0 rfl rfl 7 (by decide) (hts (.fieldLink RX8 58 "TapCap" "closedDays" "I") (List.mem_of_getElem? (i := 1) rfl)) (fun _ h9 => h9) rfl dX8_close_1 ?_
  refine lv_bipush (v := 28) hx hb dX8_close_4 (by decide) ?_
  refine lv_icmp_lt (tgt := 19) hx hb dX8_close_6 (by decide) (fun c1 => ?_) (fun c1 => ?_)
  · refine lv_iconst (v := 0) hx hb dX8_close_19 (by decide) ?_
    refine lv_istore_n (lv' := [(1, .int 0), (0, .ref (ad 0))]) hx hb dX8_close_20 rfl hl (by decide) rfl (fun ls hl => ?_)
    refine lv_iconst (v := 0) hx hb dX8_close_21 (by decide) ?_
    refine lv_istore_n (lv' := [(2, .int 0), (1, .int 0), (0, .ref (ad 0))]) hx hb dX8_close_22 rfl hl (by decide) rfl (fun ls hl => ?_)
    have loop23 : ∀ (n : Nat)  (i1 : Int32) (i2 : Int32) (g1 : tG), lpE (sX8_close_23) n (i1, i2, g1) → ∀ (H : Heap) (locs : List Loc), va_P D vwCl (tcW ad cI g1) H → va_D A (tcW ad cI g1) → va_S A s.heap H locs → ∀ (ls : Array Slot), lv_has ls 4 [(2, .int i1), (1, .int i2), (0, .ref (ad 0))] → (∀ r : Int32 × Int32 × tG, r = lp (sX8_close_23) n (i1, i2, g1) → ∀ (H : Heap) (locs : List Loc), va_P D vwCl (tcW ad cI r.2.2) H → va_D A (tcW ad cI r.2.2) → va_S A s.heap H locs → ∀ (ls : Array Slot), lv_has ls 4 [(2, .int r.1), (1, .int r.2.1), (0, .ref (ad 0))] → W p l e (headSpec wsX8_close ({ frames := 6, cells := 0, slots := 0, locals := 147 } : Room)).room s m ([.ref (ad 0)] : List Value).toArray below meth c9 H locs 0 0 (MQ below (g_Qi D [(cI, .int)] A (tcW ad cI (fX8_close_w g)) (fX8_close_r g)) ([.ref (ad 0)] : List Value).toArray s 0 0 A) (F0 m 85 ls [])) → W p l e (headSpec wsX8_close ({ frames := 6, cells := 0, slots := 0, locals := 147 } : Room)).room s m ([.ref (ad 0)] : List Value).toArray below meth c9 H locs 0 0 (MQ below (g_Qi D [(cI, .int)] A (tcW ad cI (fX8_close_w g)) (fX8_close_r g)) ([.ref (ad 0)] : List Value).toArray s 0 0 A) (F0 m 23 ls []) := by
      refine lp_ind ?_
      intro n ih i1 i2 g1 hE H locs hP hD hS ls hl kk
      refine lv_iload_n hx hb dX8_close_23 rfl (lv_at hl 0 rfl) ?_
      refine lv_aload_n hx hb dX8_close_24 rfl (lv_at hl 2 rfl) ?_
      refine va_get (D := D) (ci := 8) (v := .ref (ad 19)) (C := RX8) (T := TX8) (N := 9) hx hb hts winX8 hown hK hP 0 rfl rfl 2 (by decide) (hts (.fieldLink RX8 26 "TapCap" "cards" "LTapCap$Cards;") (List.mem_of_getElem? (i := 2) rfl)) (fun _ h9 => h9) rfl dX8_close_25 ?_
      refine va_get (D := D) (ci := 0) (v := .int (g1 45 3)) (C := RX0) (T := TX0) (N := 6) hx hb hts winX0 hown hK hP 19 rfl rfl 5 (by decide) (hts (.fieldLink RX8 103 "TapCap$Cards" "count" "I") (List.mem_of_getElem? (i := 3) rfl)) (fun _ h9 => h9) rfl dX8_close_28 ?_
      refine lv_icmp_ge (tgt := 85) hx hb dX8_close_31 (by decide) (fun c2 => ?_) (fun c2 => ?_)
      · have hs := eX8_close_23_1 i1 i2 g1 c2
        exact kk _ (lp_none hs).symm H locs hP hD hS ls (lv_sub hl [0, 1, 2] rfl)
      · refine lv_aload_n hx hb dX8_close_34 rfl (lv_at hl 2 rfl) ?_
        refine va_get (D := D) (ci := 8) (v := .ref (ad 19)) (C := RX8) (T := TX8) (N := 9) hx hb hts winX8 hown hK hP 0 rfl rfl 2 (by decide) (hts (.fieldLink RX8 26 "TapCap" "cards" "LTapCap$Cards;") (List.mem_of_getElem? (i := 2) rfl)) (fun _ h9 => h9) rfl dX8_close_35 ?_
        refine lv_iload_n hx hb dX8_close_38 rfl (lv_at hl 0 rfl) ?_
        refine g_ki hK hD hS hA (va_runV (As := [.int i1]) (rest := []) ⟨hx, hb, hml, hown, hts⟩ (kX0_isPerson l D ad cI g1 H.size i1) (cwV 1 hts gX8_close_X0_isPerson rfl rfl rfl (by decide +kernel) ⟨Nat.le_of_ble_eq_true rfl, Nat.le_of_ble_eq_true rfl⟩) (g_preV hK hP hD (ci := 0) (q0 := 19) rfl rfl) rfl rfl hl.1 rfl (lv_room (Nat.le_of_ble_eq_true rfl)) dX8_close_39 ⟨Nat.le_of_ble_eq_true rfl, Nat.le_of_ble_eq_true rfl⟩) (fun H locs hP hD hS => ?_)
        refine lv_if_eq (tgt := 79) hx hb dX8_close_42 (by decide) (fun c3 => ?_) (fun c3 => ?_)
        · refine lv_iinc (v := i1 + 1) (lv' := [(2, .int (i1 + 1)), (1, .int i2), (0, .ref (ad 0))]) hx hb dX8_close_79 hl (k := 0) rfl rfl (by decide) rfl (fun ls hl => ?_)
          refine lv_goto (tgt := 23) hx hb dX8_close_82 (by decide) ?_
          have hs := eX8_close_23_2 i1 i2 g1 c2 c3
          obtain ⟨n9, hn9, hE9, hr9⟩ := lpE_next hE hs
          exact ih n9 (by omega) (i1 + 1) i2 g1 hE9 H locs hP hD hS ls (lv_sub hl [0, 1, 2] rfl) (fun r hr => kk r (hr.trans hr9.symm))
        · refine lv_aload_n hx hb dX8_close_45 rfl (lv_at hl 2 rfl) ?_
          refine lv_iload_n hx hb dX8_close_46 rfl (lv_at hl 0 rfl) ?_
          refine lv_aload_n hx hb dX8_close_47 rfl (lv_at hl 2 rfl) ?_
          refine va_get (D := D) (ci := 8) (v := .int (g1 45 0)) (C := RX8) (T := TX8) (N := 9) hx hb hts winX8 hown hK hP 0 rfl rfl 7 (by decide) (hts (.fieldLink RX8 58 "TapCap" "closedDays" "I") (List.mem_of_getElem? (i := 1) rfl)) (fun _ h9 => h9) rfl dX8_close_48 ?_
          refine g_ki hK hD hS hA (va_runV (As := [.int i1, .int (g1 45 0)]) (rest := []) ⟨hx, hb, hml, hown, hts⟩ (kX8_dueUpTo l D ad cI g1 H.size i1 (g1 45 0)) (cwV 2 hts gX8_close_X8_dueUpTo rfl rfl rfl (by decide +kernel) ⟨Nat.le_of_ble_eq_true rfl, Nat.le_of_ble_eq_true rfl⟩) (g_preV hK hP hD (ci := 8) (q0 := 0) rfl rfl) rfl rfl hl.1 rfl (lv_room (Nat.le_of_ble_eq_true rfl)) dX8_close_51 ⟨Nat.le_of_ble_eq_true rfl, Nat.le_of_ble_eq_true rfl⟩) (fun H locs hP hD hS => ?_)
          obtain ⟨g2, hg2⟩ : ∃ z : tG, z = fX8_dueUpTo_w g1 i1 (g1 45 0) := ⟨_, rfl⟩
          rw [← hg2] at hP hD
          refine lv_topi (fun v1 hv1 => ?_)
          refine lv_istore_n (lv' := [(3, .int v1), (2, .int i1), (1, .int i2), (0, .ref (ad 0))]) hx hb dX8_close_54 rfl hl (by decide) rfl (fun ls hl => ?_)
          refine lv_iload_n hx hb dX8_close_55 rfl (lv_at hl 0 rfl) ?_
          refine lv_if_le (tgt := 79) hx hb dX8_close_56 (by decide) (fun c4 => ?_) (fun c4 => ?_)
          · refine lv_iinc (v := i1 + 1) (lv' := [(2, .int (i1 + 1)), (3, .int v1), (1, .int i2), (0, .ref (ad 0))]) hx hb dX8_close_79 hl (k := 1) rfl rfl (by decide) rfl (fun ls hl => ?_)
            refine lv_goto (tgt := 23) hx hb dX8_close_82 (by decide) ?_
            have hs := eX8_close_23_3 i1 i2 g1 c2 c3 hg2 hv1 c4
            obtain ⟨n9, hn9, hE9, hr9⟩ := lpE_next hE hs
            exact ih n9 (by omega) (i1 + 1) i2 g2 hE9 H locs hP hD hS ls (lv_sub hl [0, 2, 3] rfl) (fun r hr => kk r (hr.trans hr9.symm))
          · refine lv_aload_n hx hb dX8_close_59 rfl (lv_at hl 3 rfl) ?_
            refine va_get (D := D) (ci := 8) (v := .ref (ad 19)) (C := RX8) (T := TX8) (N := 9) hx hb hts winX8 hown hK hP 0 rfl rfl 2 (by decide) (hts (.fieldLink RX8 26 "TapCap" "cards" "LTapCap$Cards;") (List.mem_of_getElem? (i := 2) rfl)) (fun _ h9 => h9) rfl dX8_close_60 ?_
            refine lv_iload_n hx hb dX8_close_63 rfl (lv_at hl 1 rfl) ?_
            refine lv_aload_n hx hb dX8_close_64 rfl (lv_at hl 3 rfl) ?_
            refine va_get (D := D) (ci := 8) (v := .int (g2 45 0)) (C := RX8) (T := TX8) (N := 9) hx hb hts winX8 hown hK hP 0 rfl rfl 7 (by decide) (hts (.fieldLink RX8 58 "TapCap" "closedDays" "I") (List.mem_of_getElem? (i := 1) rfl)) (fun _ h9 => h9) rfl dX8_close_65 ?_
            refine lv_bipush (v := 7) hx hb dX8_close_68 (by decide) ?_
            refine lv_idiv hx hb dX8_close_70 (by decide) ?_
            refine lv_iload_n hx hb dX8_close_71 rfl (lv_at hl 0 rfl) ?_
            refine g_kv hK hD hS hA (va_runV (As := [.int i1, .int ((g2 45 0) / 7), .int v1]) (rest := []) ⟨hx, hb, hml, hown, hts⟩ (kX0_charge l D ad cI g2 H.size i1 ((g2 45 0) / 7) v1) (cwV 3 hts gX8_close_X0_charge rfl rfl rfl (by decide +kernel) ⟨Nat.le_of_ble_eq_true rfl, Nat.le_of_ble_eq_true rfl⟩) (g_preV hK hP hD (ci := 0) (q0 := 19) rfl rfl) rfl rfl hl.1 rfl (lv_room (Nat.le_of_ble_eq_true rfl)) dX8_close_72 ⟨Nat.le_of_ble_eq_true rfl, Nat.le_of_ble_eq_true rfl⟩) (fun H locs hP hD hS => ?_)
            obtain ⟨g3, hg3⟩ : ∃ z : tG, z = fX0_charge_w g2 i1 ((g2 45 0) / 7) v1 := ⟨_, rfl⟩
            rw [← hg3] at hP hD
            refine lv_iload_n hx hb dX8_close_75 rfl (lv_at hl 2 rfl) ?_
            refine lv_iload_n hx hb dX8_close_76 rfl (lv_at hl 0 rfl) ?_
            refine lv_iadd hx hb dX8_close_77 ?_
            refine lv_topi (fun v2 hv2 => ?_)
            refine lv_istore_n (lv' := [(1, .int v2), (3, .int v1), (2, .int i1), (0, .ref (ad 0))]) hx hb dX8_close_78 rfl hl (by decide) rfl (fun ls hl => ?_)
            refine lv_iinc (v := i1 + 1) (lv' := [(2, .int (i1 + 1)), (1, .int v2), (3, .int v1), (0, .ref (ad 0))]) hx hb dX8_close_79 hl (k := 2) rfl rfl (by decide) rfl (fun ls hl => ?_)
            refine lv_goto (tgt := 23) hx hb dX8_close_82 (by decide) ?_
            have hs := eX8_close_23_4 i1 i2 g1 c2 c3 hg2 hv1 c4 hg3 hv2
            obtain ⟨n9, hn9, hE9, hr9⟩ := lpE_next hE hs
            exact ih n9 (by omega) (i1 + 1) v2 g3 hE9 H locs hP hD hS ls (lv_sub hl [0, 1, 3] rfl) (fun r hr => kk r (hr.trans hr9.symm))
    refine loop23 (nn ((g 45 3))) 0 0 g (tX8_close_23 0 g) _ _ hP hD hS ls hl (fun r1 hr1 H locs hP hD hS ls hl => ?_)
    have hl : lv_has ls 4 [(1, .int r1.2.1), (0, .ref (ad 0))] := lv_sub hl [1, 2] rfl
    refine lv_aload_n hx hb dX8_close_85 rfl (lv_at hl 1 rfl) ?_
    refine lv_dup hx hb dX8_close_86 rfl ?_
    refine va_get (D := D) (ci := 8) (v := .int (r1.2.2 45 0)) (C := RX8) (T := TX8) (N := 9) hx hb hts winX8 hown hK hP 0 rfl rfl 7 (by decide) (hts (.fieldLink RX8 58 "TapCap" "closedDays" "I") (List.mem_of_getElem? (i := 1) rfl)) (fun _ h9 => h9) rfl dX8_close_87 ?_
    refine lv_iconst (v := 1) hx hb dX8_close_90 (by decide) ?_
    refine lv_iadd hx hb dX8_close_91 ?_
    refine lv_topi (fun v3 hv3 => ?_)
    refine va_put (D := D) (ci := 8) (v := .int v3) (ty := .int) (C := RX8) (T := TX8) (N := 9) hx hb hts winX8 tyX8 tyX8_ok nmX8 hown hK hP hD hS 0 rfl rfl 7 (by decide) (hts (.fieldLink RX8 58 "TapCap" "closedDays" "I") (List.mem_of_getElem? (i := 1) rfl)) (fun _ h9 => h9) rfl (by decide +kernel) rfl rfl (Nat.le_of_ble_eq_true rfl) dX8_close_92 (fun H locs hP hD hS => ?_)
    have hP := tc_sP_0 hP
    have hD := tc_sD_0 hD
    obtain ⟨g4, hg4⟩ : ∃ z : tG, z = tc_sc r1.2.2 0 v3 := ⟨_, rfl⟩
    rw [← hg4] at hP hD
    refine lv_iload_n hx hb dX8_close_95 rfl (lv_at hl 0 rfl) ?_
    have hw := eX8_close_w1 g hr1 hv3 hg4
    have hP := w_P9 hw hP
    have hD := w_D9 hw hD
    exact g_iret hx hb hr rfl hlocks hK hP hD hS (eX8_close_r1 g hr1 hv3 hg4).symm dX8_close_96
  · exact absurd h1 c1
set_option maxHeartbeats 4000000 in
set_option maxRecDepth 100000 in
theorem kX8_settle (l : Launch) (D : va_G) (ad : Nat → Nat) (cI : ClassId) (g : tG) (sz : Nat) (x0 : Int32) (x1 : Int32) (h1 : ¬ (fX0_isPerson_r g x0) = 0) (h2 : in_N x1 4) (h3 : x1 * 7 < g 45 0) : Met l yX8_settle wsX8_settle ({ frames := 6, cells := 0, slots := 0, locals := 147 } : Room) (g_P D [(cI, .int)] (tcW ad cI g) [.ref (ad 0), .int x0, .int x1] sz) (g_Qi D [(cI, .int)] (va_A (tcW ad cI g) sz) (tcW ad cI (fX8_settle_w g x0 x1)) (fX8_settle_r g x0 x1)) 0 0 (va_A (tcW ad cI g) sz) := by
  refine Met.ofW (cc := cX8_settle) (maxL := 5) (ret := (some .int)) (by decide) rfl ?_
  intro p e s m args below meth c9 s₁ B hml hv
  obtain ⟨rfl, hsz, hP, hK, hD0⟩ := hv
  have hx := B.exec
  have hb := B.bytes
  have hr := B.returns
  have hts := atoms_spec (ws := wsX8_settle) B.pre
  have hown : s.vm.findClass RX8 = some m.cls := findClass_of_methodNamed B.named
  have hlocks := B.notSynchronized
  subst hsz
  have hD := hD0.self (sz := s.heap.size)
  generalize hAe : va_A (tcW ad cI g) s.heap.size = A at hD ⊢
  have hA : ∀ q : Nat, s.heap.size ≤ q → A q := fun q h => by rw [← hAe]; exact Or.inr h
  have hS : va_S A s.heap s.heap [] := va_S.rf
  have hl := lv_entry ([.ref (ad 0), .int x0, .int x1]) (n := 5) (Nat.le_of_ble_eq_true rfl)
  rw [lg_entry_eq]
  generalize (lg_sl ([.ref (ad 0), .int x0, .int x1]) ++ List.replicate (5 - (lg_sl ([.ref (ad 0), .int x0, .int x1])).length) Slot.unset).toArray = ls at hl ⊢
  have hl : lv_has ls 5 [(0, .ref (ad 0)), (1, .int x0), (2, .int x1)] := hl
  have winX8 : ∀ w ∈ u_ws RX8 TX8 9, w ∈ wsX8_settle := by decide +kernel
  refine lv_aload_n hx hb dX8_settle_0 rfl (lv_at hl 0 rfl) ?_
  refine lv_iload_n hx hb dX8_settle_1 rfl (lv_at hl 1 rfl) ?_
  refine g_kv hK hD hS hA (va_runV (As := [.int x0]) (rest := []) ⟨hx, hb, hml, hown, hts⟩ (kX8_needPerson l D ad cI g s.heap.size x0 h1) (cwV 1 hts gX8_settle_X8_needPerson rfl rfl rfl (by decide +kernel) ⟨Nat.le_of_ble_eq_true rfl, Nat.le_of_ble_eq_true rfl⟩) (g_preV hK hP hD (ci := 8) (q0 := 0) rfl rfl) rfl rfl hl.1 rfl (lv_room (Nat.le_of_ble_eq_true rfl)) dX8_settle_2 ⟨Nat.le_of_ble_eq_true rfl, Nat.le_of_ble_eq_true rfl⟩) (fun H locs hP hD hS => ?_)
  refine lv_iload_n hx hb dX8_settle_5 rfl (lv_at hl 2 rfl) ?_
  refine lv_iconst (v := 4) hx hb dX8_settle_6 (by decide) ?_
  refine g_kv hK hD hS hA (va_runS (As := [.int x1, .int 4]) (rest := []) ⟨hx, hb, hml, hown, hts⟩ (kX8_needNumber l D ad cI g H.size x1 4 h2) (cwS 2 hts gX8_settle_X8_needNumber rfl rfl rfl (by decide +kernel) ⟨Nat.le_of_ble_eq_true rfl, Nat.le_of_ble_eq_true rfl⟩) (g_preS hK hP hD) rfl rfl hl.1 rfl (lv_room (Nat.le_of_ble_eq_true rfl)) dX8_settle_7 ⟨Nat.le_of_ble_eq_true rfl, Nat.le_of_ble_eq_true rfl⟩) (fun H locs hP hD hS => ?_)
  refine lv_iload_n hx hb dX8_settle_10 rfl (lv_at hl 2 rfl) ?_
  refine lv_bipush (v := 7) hx hb dX8_settle_11 (by decide) ?_
  refine lv_imul hx hb dX8_settle_13 ?_
  refine lv_topi (fun v1 hv1 => ?_)
  refine lv_istore_n (lv' := [(3, .int v1), (0, .ref (ad 0)), (1, .int x0), (2, .int x1)]) hx hb dX8_settle_14 rfl hl (by decide) rfl (fun ls hl => ?_)
  refine lv_aload_n hx hb dX8_settle_15 rfl (lv_at hl 1 rfl) ?_
  refine va_get (D := D) (ci := 8) (v := .int (g 45 0)) (C := RX8) (T := TX8) (N := 9) hx hb hts winX8 hown hK hP 0 rfl rfl 7 (by decide) (hts (.fieldLink RX8 58 "TapCap" "closedDays" "I") (List.mem_of_getElem? (i := 1) rfl)) (fun _ h9 => h9) rfl dX8_settle_16 ?_
  refine lv_iload_n hx hb dX8_settle_19 rfl (lv_at hl 0 rfl) ?_
  refine lv_icmp_gt (tgt := 33) hx hb dX8_settle_20 (by decide) (fun c1 => ?_) (fun c1 => ?_)
  · refine lv_aload_n hx hb dX8_settle_33 rfl (lv_at hl 1 rfl) ?_
    refine lv_iload_n hx hb dX8_settle_34 rfl (lv_at hl 2 rfl) ?_
    refine lv_aload_n hx hb dX8_settle_35 rfl (lv_at hl 1 rfl) ?_
    refine va_get (D := D) (ci := 8) (v := .int (g 45 0)) (C := RX8) (T := TX8) (N := 9) hx hb hts winX8 hown hK hP 0 rfl rfl 7 (by decide) (hts (.fieldLink RX8 58 "TapCap" "closedDays" "I") (List.mem_of_getElem? (i := 1) rfl)) (fun _ h9 => h9) rfl dX8_settle_36 ?_
    refine lv_iload_n hx hb dX8_settle_39 rfl (lv_at hl 0 rfl) ?_
    refine lv_bipush (v := 7) hx hb dX8_settle_40 (by decide) ?_
    refine lv_iadd hx hb dX8_settle_42 ?_
    refine va_mmin hx hb (hml.trans hl.1.symm) hown (hts (.methodLink RX8 178 Lib.Math.min.name) (List.mem_of_getElem? (i := 2) rfl)) (hts (.static Lib.Math.min.name) (List.mem_of_getElem? (i := 3) rfl)) (hts (.initialized "java/lang/Math") (List.mem_of_getElem? (i := 4) rfl)) (hts (.code Lib.Math.min.name Lib.Math.min.code 2 (some .int)) (List.mem_of_getElem? (i := 5) rfl)) (Nat.le_of_ble_eq_true rfl) (Nat.le_of_ble_eq_true rfl) (Nat.zero_le _) (Nat.zero_le _) dX8_settle_43 ?_
    refine lv_topi (fun v2 hv2 => ?_)
    refine lv_iconst (v := 1) hx hb dX8_settle_46 (by decide) ?_
    refine lv_isub hx hb dX8_settle_47 ?_
    refine g_ki hK hD hS hA (va_runV (As := [.int x0, .int (v2 - 1)]) (rest := []) ⟨hx, hb, hml, hown, hts⟩ (kX8_dueUpTo l D ad cI g H.size x0 (v2 - 1)) (cwV 2 hts gX8_settle_X8_dueUpTo rfl rfl rfl (by decide +kernel) ⟨Nat.le_of_ble_eq_true rfl, Nat.le_of_ble_eq_true rfl⟩) (g_preV hK hP hD (ci := 8) (q0 := 0) rfl rfl) rfl rfl hl.1 rfl (lv_room (Nat.le_of_ble_eq_true rfl)) dX8_settle_48 ⟨Nat.le_of_ble_eq_true rfl, Nat.le_of_ble_eq_true rfl⟩) (fun H locs hP hD hS => ?_)
    obtain ⟨g1, hg1⟩ : ∃ z : tG, z = fX8_dueUpTo_w g x0 (v2 - 1) := ⟨_, rfl⟩
    rw [← hg1] at hP hD
    refine lv_topi (fun v3 hv3 => ?_)
    refine lv_istore (lv' := [(4, .int v3), (3, .int v1), (0, .ref (ad 0)), (1, .int x0), (2, .int x1)]) hx hb dX8_settle_51 hl (by decide) rfl (fun ls hl => ?_)
    refine lv_aload_n hx hb dX8_settle_53 rfl (lv_at hl 2 rfl) ?_
    refine va_get (D := D) (ci := 8) (v := .ref (ad 19)) (C := RX8) (T := TX8) (N := 9) hx hb hts winX8 hown hK hP 0 rfl rfl 2 (by decide) (hts (.fieldLink RX8 26 "TapCap" "cards" "LTapCap$Cards;") (List.mem_of_getElem? (i := 6) rfl)) (fun _ h9 => h9) rfl dX8_settle_54 ?_
    refine lv_iload_n hx hb dX8_settle_57 rfl (lv_at hl 3 rfl) ?_
    refine lv_iload_n hx hb dX8_settle_58 rfl (lv_at hl 4 rfl) ?_
    refine lv_iload hx hb dX8_settle_59 (lv_at hl 0 rfl) ?_
    refine g_kv hK hD hS hA (va_runV (As := [.int x0, .int x1, .int v3]) (rest := []) ⟨hx, hb, hml, hown, hts⟩ (kX0_charge l D ad cI g1 H.size x0 x1 v3) (cwV 3 hts gX8_settle_X0_charge rfl rfl rfl (by decide +kernel) ⟨Nat.le_of_ble_eq_true rfl, Nat.le_of_ble_eq_true rfl⟩) (g_preV hK hP hD (ci := 0) (q0 := 19) rfl rfl) rfl rfl hl.1 rfl (lv_room (Nat.le_of_ble_eq_true rfl)) dX8_settle_61 ⟨Nat.le_of_ble_eq_true rfl, Nat.le_of_ble_eq_true rfl⟩) (fun H locs hP hD hS => ?_)
    obtain ⟨g2, hg2⟩ : ∃ z : tG, z = fX0_charge_w g1 x0 x1 v3 := ⟨_, rfl⟩
    rw [← hg2] at hP hD
    refine lv_iload hx hb dX8_settle_64 (lv_at hl 0 rfl) ?_
    have hw := eX8_settle_w1 g x0 x1 hv1 hv2 hg1 hv3 hg2
    have hP := w_P9 hw hP
    have hD := w_D9 hw hD
    exact g_iret hx hb hr rfl hlocks hK hP hD hS (eX8_settle_r1 g x0 x1 hv1 hv2 hg1 hv3 hg2).symm dX8_settle_66
  · exact absurd (by rw [hv1]; exact h3) c1
set_option maxHeartbeats 4000000 in
set_option maxRecDepth 100000 in
theorem kX8_ofCard (l : Launch) (D : va_G) (ad : Nat → Nat) (cI : ClassId) (g : tG) (sz : Nat) (x0 : Int32) (x1 : Int32) (h1 : in_N x0 (g 45 3)) (h2 : in_R x1 0 7) : Met l yX8_ofCard wsX8_ofCard ({ frames := 3, cells := 0, slots := 0, locals := 66 } : Room) (g_P D [(cI, .int)] (tcW ad cI g) [.ref (ad 0), .int x0, .int x1] sz) (g_Qi D [(cI, .int)] (va_A (tcW ad cI g) sz) (tcW ad cI g) (fX8_ofCard_r g x0 x1)) 0 0 (va_A (tcW ad cI g) sz) := by
  refine Met.ofW (cc := cX8_ofCard) (maxL := 3) (ret := (some .int)) (by decide) rfl ?_
  intro p e s m args below meth c9 s₁ B hml hv
  obtain ⟨rfl, hsz, hP, hK, hD0⟩ := hv
  have hx := B.exec
  have hb := B.bytes
  have hr := B.returns
  have hts := atoms_spec (ws := wsX8_ofCard) B.pre
  have hown : s.vm.findClass RX8 = some m.cls := findClass_of_methodNamed B.named
  have hlocks := B.notSynchronized
  subst hsz
  have hD := hD0.self (sz := s.heap.size)
  generalize hAe : va_A (tcW ad cI g) s.heap.size = A at hD ⊢
  have hA : ∀ q : Nat, s.heap.size ≤ q → A q := fun q h => by rw [← hAe]; exact Or.inr h
  have hS : va_S A s.heap s.heap [] := va_S.rf
  have hl := lv_entry ([.ref (ad 0), .int x0, .int x1]) (n := 3) (Nat.le_of_ble_eq_true rfl)
  rw [lg_entry_eq]
  generalize (lg_sl ([.ref (ad 0), .int x0, .int x1]) ++ List.replicate (3 - (lg_sl ([.ref (ad 0), .int x0, .int x1])).length) Slot.unset).toArray = ls at hl ⊢
  have hl : lv_has ls 3 [(0, .ref (ad 0)), (1, .int x0), (2, .int x1)] := hl
  refine lv_aload_n hx hb dX8_ofCard_0 rfl (lv_at hl 0 rfl) ?_
  refine lv_iload_n hx hb dX8_ofCard_1 rfl (lv_at hl 1 rfl) ?_
  refine g_kv hK hD hS hA (va_runV (As := [.int x0]) (rest := []) ⟨hx, hb, hml, hown, hts⟩ (kX8_needCard l D ad cI g s.heap.size x0 h1) (cwV 1 hts gX8_ofCard_X8_needCard rfl rfl rfl (by decide +kernel) ⟨Nat.le_of_ble_eq_true rfl, Nat.le_of_ble_eq_true rfl⟩) (g_preV hK hP hD (ci := 8) (q0 := 0) rfl rfl) rfl rfl hl.1 rfl (lv_room (Nat.le_of_ble_eq_true rfl)) dX8_ofCard_2 ⟨Nat.le_of_ble_eq_true rfl, Nat.le_of_ble_eq_true rfl⟩) (fun H locs hP hD hS => ?_)
  refine lv_iload_n hx hb dX8_ofCard_5 rfl (lv_at hl 2 rfl) ?_
  refine lv_iconst (v := 0) hx hb dX8_ofCard_6 (by decide) ?_
  refine lv_bipush (v := 7) hx hb dX8_ofCard_7 (by decide) ?_
  refine g_kv hK hD hS hA (va_runS (As := [.int x1, .int 0, .int 7]) (rest := []) ⟨hx, hb, hml, hown, hts⟩ (kX8_needRange l D ad cI g H.size x1 0 7 h2) (cwS 3 hts gX8_ofCard_X8_needRange rfl rfl rfl (by decide +kernel) ⟨Nat.le_of_ble_eq_true rfl, Nat.le_of_ble_eq_true rfl⟩) (g_preS hK hP hD) rfl rfl hl.1 rfl (lv_room (Nat.le_of_ble_eq_true rfl)) dX8_ofCard_9 ⟨Nat.le_of_ble_eq_true rfl, Nat.le_of_ble_eq_true rfl⟩) (fun H locs hP hD hS => ?_)
  refine lv_aload_n hx hb dX8_ofCard_12 rfl (lv_at hl 0 rfl) ?_
  refine lv_iload_n hx hb dX8_ofCard_13 rfl (lv_at hl 1 rfl) ?_
  refine lv_iload_n hx hb dX8_ofCard_14 rfl (lv_at hl 2 rfl) ?_
  refine g_ki hK hD hS hA (va_runV (As := [.int x0, .int x1]) (rest := []) ⟨hx, hb, hml, hown, hts⟩ (kX8_cardAnswer l D ad cI g H.size x0 x1) (cwV 2 hts gX8_ofCard_X8_cardAnswer rfl rfl rfl (by decide +kernel) ⟨Nat.le_of_ble_eq_true rfl, Nat.le_of_ble_eq_true rfl⟩) (g_preV hK hP hD (ci := 8) (q0 := 0) rfl rfl) rfl rfl hl.1 rfl (lv_room (Nat.le_of_ble_eq_true rfl)) dX8_ofCard_15 ⟨Nat.le_of_ble_eq_true rfl, Nat.le_of_ble_eq_true rfl⟩) (fun H locs hP hD hS => ?_)
  exact g_iret hx hb hr rfl hlocks hK hP hD hS (eX8_ofCard_r1 g x0 x1 ).symm dX8_ofCard_18
set_option maxHeartbeats 4000000 in
set_option maxRecDepth 100000 in
theorem kX8_ofDay (l : Launch) (D : va_G) (ad : Nat → Nat) (cI : ClassId) (g : tG) (sz : Nat) (x0 : Int32) (x1 : Int32) (x2 : Int32) (h1 : ¬ (fX0_isPerson_r g x0) = 0) (h2 : in_N x1 28) (h3 : in_R x2 0 7) : Met l yX8_ofDay wsX8_ofDay ({ frames := 5, cells := 0, slots := 0, locals := 124 } : Room) (g_P D [(cI, .int)] (tcW ad cI g) [.ref (ad 0), .int x0, .int x1, .int x2] sz) (g_Qi D [(cI, .int)] (va_A (tcW ad cI g) sz) (tcW ad cI (fX8_ofDay_w g x0 x1 x2)) (fX8_ofDay_r g x0 x1 x2)) 0 0 (va_A (tcW ad cI g) sz) := by
  refine Met.ofW (cc := cX8_ofDay) (maxL := 4) (ret := (some .int)) (by decide) rfl ?_
  intro p e s m args below meth c9 s₁ B hml hv
  obtain ⟨rfl, hsz, hP, hK, hD0⟩ := hv
  have hx := B.exec
  have hb := B.bytes
  have hr := B.returns
  have hts := atoms_spec (ws := wsX8_ofDay) B.pre
  have hown : s.vm.findClass RX8 = some m.cls := findClass_of_methodNamed B.named
  have hlocks := B.notSynchronized
  subst hsz
  have hD := hD0.self (sz := s.heap.size)
  generalize hAe : va_A (tcW ad cI g) s.heap.size = A at hD ⊢
  have hA : ∀ q : Nat, s.heap.size ≤ q → A q := fun q h => by rw [← hAe]; exact Or.inr h
  have hS : va_S A s.heap s.heap [] := va_S.rf
  have hl := lv_entry ([.ref (ad 0), .int x0, .int x1, .int x2]) (n := 4) (Nat.le_of_ble_eq_true rfl)
  rw [lg_entry_eq]
  generalize (lg_sl ([.ref (ad 0), .int x0, .int x1, .int x2]) ++ List.replicate (4 - (lg_sl ([.ref (ad 0), .int x0, .int x1, .int x2])).length) Slot.unset).toArray = ls at hl ⊢
  have hl : lv_has ls 4 [(0, .ref (ad 0)), (1, .int x0), (2, .int x1), (3, .int x2)] := hl
  have winX6 : ∀ w ∈ u_ws RX6 TX6 9, w ∈ wsX8_ofDay := by decide +kernel
  have winX8 : ∀ w ∈ u_ws RX8 TX8 9, w ∈ wsX8_ofDay := by decide +kernel
  refine lv_aload_n hx hb dX8_ofDay_0 rfl (lv_at hl 0 rfl) ?_
  refine lv_iload_n hx hb dX8_ofDay_1 rfl (lv_at hl 1 rfl) ?_
  refine g_kv hK hD hS hA (va_runV (As := [.int x0]) (rest := []) ⟨hx, hb, hml, hown, hts⟩ (kX8_needPerson l D ad cI g s.heap.size x0 h1) (cwV 1 hts gX8_ofDay_X8_needPerson rfl rfl rfl (by decide +kernel) ⟨Nat.le_of_ble_eq_true rfl, Nat.le_of_ble_eq_true rfl⟩) (g_preV hK hP hD (ci := 8) (q0 := 0) rfl rfl) rfl rfl hl.1 rfl (lv_room (Nat.le_of_ble_eq_true rfl)) dX8_ofDay_2 ⟨Nat.le_of_ble_eq_true rfl, Nat.le_of_ble_eq_true rfl⟩) (fun H locs hP hD hS => ?_)
  refine lv_iload_n hx hb dX8_ofDay_5 rfl (lv_at hl 2 rfl) ?_
  refine lv_bipush (v := 28) hx hb dX8_ofDay_6 (by decide) ?_
  refine g_kv hK hD hS hA (va_runS (As := [.int x1, .int 28]) (rest := []) ⟨hx, hb, hml, hown, hts⟩ (kX8_needNumber l D ad cI g H.size x1 28 h2) (cwS 2 hts gX8_ofDay_X8_needNumber rfl rfl rfl (by decide +kernel) ⟨Nat.le_of_ble_eq_true rfl, Nat.le_of_ble_eq_true rfl⟩) (g_preS hK hP hD) rfl rfl hl.1 rfl (lv_room (Nat.le_of_ble_eq_true rfl)) dX8_ofDay_8 ⟨Nat.le_of_ble_eq_true rfl, Nat.le_of_ble_eq_true rfl⟩) (fun H locs hP hD hS => ?_)
  refine lv_iload_n hx hb dX8_ofDay_11 rfl (lv_at hl 3 rfl) ?_
  refine lv_iconst (v := 0) hx hb dX8_ofDay_12 (by decide) ?_
  refine lv_bipush (v := 7) hx hb dX8_ofDay_13 (by decide) ?_
  refine g_kv hK hD hS hA (va_runS (As := [.int x2, .int 0, .int 7]) (rest := []) ⟨hx, hb, hml, hown, hts⟩ (kX8_needRange l D ad cI g H.size x2 0 7 h3) (cwS 3 hts gX8_ofDay_X8_needRange rfl rfl rfl (by decide +kernel) ⟨Nat.le_of_ble_eq_true rfl, Nat.le_of_ble_eq_true rfl⟩) (g_preS hK hP hD) rfl rfl hl.1 rfl (lv_room (Nat.le_of_ble_eq_true rfl)) dX8_ofDay_15 ⟨Nat.le_of_ble_eq_true rfl, Nat.le_of_ble_eq_true rfl⟩) (fun H locs hP hD hS => ?_)
  refine lv_aload_n hx hb dX8_ofDay_18 rfl (lv_at hl 0 rfl) ?_
  refine lv_iload_n hx hb dX8_ofDay_19 rfl (lv_at hl 1 rfl) ?_
  refine lv_aload_n hx hb dX8_ofDay_20 rfl (lv_at hl 0 rfl) ?_
  refine va_get (D := D) (ci := 8) (v := .ref (ad 30)) (C := RX8) (T := TX8) (N := 9) hx hb hts winX8 hown hK hP 0 rfl rfl 3 (by decide) (hts (.fieldLink RX8 33 "TapCap" "taps" "LTapCap$Taps;") (List.mem_of_getElem? (i := 1) rfl)) (fun _ h9 => h9) rfl dX8_ofDay_21 ?_
  refine va_get (D := D) (ci := 6) (v := .int (g 45 4)) (C := RX6) (T := TX6) (N := 9) hx hb hts winX6 hown hK hP 30 rfl rfl 6 (by decide) (hts (.fieldLink RX8 151 "TapCap$Taps" "count" "I") (List.mem_of_getElem? (i := 2) rfl)) (fun _ h9 => h9) rfl dX8_ofDay_24 ?_
  refine lv_iconst (v := (-1)) hx hb dX8_ofDay_27 (by decide) ?_
  refine g_kv hK hD hS hA (va_runV (As := [.int x0, .int (g 45 4), .int ((-1))]) (rest := []) ⟨hx, hb, hml, hown, hts⟩ (kX8_study l D ad cI g H.size x0 (g 45 4) (-1)) (cwV 3 hts gX8_ofDay_X8_study rfl rfl rfl (by decide +kernel) ⟨Nat.le_of_ble_eq_true rfl, Nat.le_of_ble_eq_true rfl⟩) (g_preV hK hP hD (ci := 8) (q0 := 0) rfl rfl) rfl rfl hl.1 rfl (lv_room (Nat.le_of_ble_eq_true rfl)) dX8_ofDay_28 ⟨Nat.le_of_ble_eq_true rfl, Nat.le_of_ble_eq_true rfl⟩) (fun H locs hP hD hS => ?_)
  obtain ⟨g1, hg1⟩ : ∃ z : tG, z = fX8_study_w g x0 (g 45 4) (-1) := ⟨_, rfl⟩
  rw [← hg1] at hP hD
  refine lv_aload_n hx hb dX8_ofDay_31 rfl (lv_at hl 0 rfl) ?_
  refine lv_iload_n hx hb dX8_ofDay_32 rfl (lv_at hl 2 rfl) ?_
  refine lv_iload_n hx hb dX8_ofDay_33 rfl (lv_at hl 3 rfl) ?_
  refine g_ki hK hD hS hA (va_runV (As := [.int x1, .int x2]) (rest := []) ⟨hx, hb, hml, hown, hts⟩ (kX8_dayAnswer l D ad cI g1 H.size x1 x2) (cwV 2 hts gX8_ofDay_X8_dayAnswer rfl rfl rfl (by decide +kernel) ⟨Nat.le_of_ble_eq_true rfl, Nat.le_of_ble_eq_true rfl⟩) (g_preV hK hP hD (ci := 8) (q0 := 0) rfl rfl) rfl rfl hl.1 rfl (lv_room (Nat.le_of_ble_eq_true rfl)) dX8_ofDay_34 ⟨Nat.le_of_ble_eq_true rfl, Nat.le_of_ble_eq_true rfl⟩) (fun H locs hP hD hS => ?_)
  have hw := eX8_ofDay_w1 g x0 x1 x2 hg1
  have hP := w_P9 hw hP
  have hD := w_D9 hw hD
  exact g_iret hx hb hr rfl hlocks hK hP hD hS (eX8_ofDay_r1 g x0 x1 x2 hg1).symm dX8_ofDay_37
set_option maxHeartbeats 4000000 in
set_option maxRecDepth 100000 in
theorem kX8_ofLeg (l : Launch) (D : va_G) (ad : Nat → Nat) (cI : ClassId) (g : tG) (sz : Nat) (x0 : Int32) (x1 : Int32) (x2 : Int32) (x3 : Int32) (h1 : ¬ (fX0_isPerson_r g x0) = 0) (h2 : in_N x1 28) (h3 : in_N x2 (gA (fX8_study_w g x0 (g 45 4) (-1)) 27 x1)) (h4 : in_R x3 0 6) : Met l yX8_ofLeg wsX8_ofLeg ({ frames := 5, cells := 0, slots := 0, locals := 124 } : Room) (g_P D [(cI, .int)] (tcW ad cI g) [.ref (ad 0), .int x0, .int x1, .int x2, .int x3] sz) (g_Qi D [(cI, .int)] (va_A (tcW ad cI g) sz) (tcW ad cI (fX8_ofLeg_w g x0 x1 x2 x3)) (fX8_ofLeg_r g x0 x1 x2 x3)) 0 0 (va_A (tcW ad cI g) sz) := by
  refine Met.ofW (cc := cX8_ofLeg) (maxL := 5) (ret := (some .int)) (by decide) rfl ?_
  intro p e s m args below meth c9 s₁ B hml hv
  obtain ⟨rfl, hsz, hP, hK, hD0⟩ := hv
  have hx := B.exec
  have hb := B.bytes
  have hr := B.returns
  have hts := atoms_spec (ws := wsX8_ofLeg) B.pre
  have hown : s.vm.findClass RX8 = some m.cls := findClass_of_methodNamed B.named
  have hlocks := B.notSynchronized
  subst hsz
  have hD := hD0.self (sz := s.heap.size)
  generalize hAe : va_A (tcW ad cI g) s.heap.size = A at hD ⊢
  have hA : ∀ q : Nat, s.heap.size ≤ q → A q := fun q h => by rw [← hAe]; exact Or.inr h
  have hS : va_S A s.heap s.heap [] := va_S.rf
  have hl := lv_entry ([.ref (ad 0), .int x0, .int x1, .int x2, .int x3]) (n := 5) (Nat.le_of_ble_eq_true rfl)
  rw [lg_entry_eq]
  generalize (lg_sl ([.ref (ad 0), .int x0, .int x1, .int x2, .int x3]) ++ List.replicate (5 - (lg_sl ([.ref (ad 0), .int x0, .int x1, .int x2, .int x3])).length) Slot.unset).toArray = ls at hl ⊢
  have hl : lv_has ls 5 [(0, .ref (ad 0)), (1, .int x0), (2, .int x1), (3, .int x2), (4, .int x3)] := hl
  have winX3 : ∀ w ∈ u_ws RX3 TX3 15, w ∈ wsX8_ofLeg := by decide +kernel
  have winX5 : ∀ w ∈ u_ws RX5 TX5 1, w ∈ wsX8_ofLeg := by decide +kernel
  have winX6 : ∀ w ∈ u_ws RX6 TX6 9, w ∈ wsX8_ofLeg := by decide +kernel
  have winX8 : ∀ w ∈ u_ws RX8 TX8 9, w ∈ wsX8_ofLeg := by decide +kernel
  refine lv_aload_n hx hb dX8_ofLeg_0 rfl (lv_at hl 0 rfl) ?_
  refine lv_iload_n hx hb dX8_ofLeg_1 rfl (lv_at hl 1 rfl) ?_
  refine g_kv hK hD hS hA (va_runV (As := [.int x0]) (rest := []) ⟨hx, hb, hml, hown, hts⟩ (kX8_needPerson l D ad cI g s.heap.size x0 h1) (cwV 1 hts gX8_ofLeg_X8_needPerson rfl rfl rfl (by decide +kernel) ⟨Nat.le_of_ble_eq_true rfl, Nat.le_of_ble_eq_true rfl⟩) (g_preV hK hP hD (ci := 8) (q0 := 0) rfl rfl) rfl rfl hl.1 rfl (lv_room (Nat.le_of_ble_eq_true rfl)) dX8_ofLeg_2 ⟨Nat.le_of_ble_eq_true rfl, Nat.le_of_ble_eq_true rfl⟩) (fun H locs hP hD hS => ?_)
  refine lv_iload_n hx hb dX8_ofLeg_5 rfl (lv_at hl 2 rfl) ?_
  refine lv_bipush (v := 28) hx hb dX8_ofLeg_6 (by decide) ?_
  refine g_kv hK hD hS hA (va_runS (As := [.int x1, .int 28]) (rest := []) ⟨hx, hb, hml, hown, hts⟩ (kX8_needNumber l D ad cI g H.size x1 28 h2) (cwS 2 hts gX8_ofLeg_X8_needNumber rfl rfl rfl (by decide +kernel) ⟨Nat.le_of_ble_eq_true rfl, Nat.le_of_ble_eq_true rfl⟩) (g_preS hK hP hD) rfl rfl hl.1 rfl (lv_room (Nat.le_of_ble_eq_true rfl)) dX8_ofLeg_8 ⟨Nat.le_of_ble_eq_true rfl, Nat.le_of_ble_eq_true rfl⟩) (fun H locs hP hD hS => ?_)
  refine lv_aload_n hx hb dX8_ofLeg_11 rfl (lv_at hl 0 rfl) ?_
  refine lv_iload_n hx hb dX8_ofLeg_12 rfl (lv_at hl 1 rfl) ?_
  refine lv_aload_n hx hb dX8_ofLeg_13 rfl (lv_at hl 0 rfl) ?_
  refine va_get (D := D) (ci := 8) (v := .ref (ad 30)) (C := RX8) (T := TX8) (N := 9) hx hb hts winX8 hown hK hP 0 rfl rfl 3 (by decide) (hts (.fieldLink RX8 33 "TapCap" "taps" "LTapCap$Taps;") (List.mem_of_getElem? (i := 1) rfl)) (fun _ h9 => h9) rfl dX8_ofLeg_14 ?_
  refine va_get (D := D) (ci := 6) (v := .int (g 45 4)) (C := RX6) (T := TX6) (N := 9) hx hb hts winX6 hown hK hP 30 rfl rfl 6 (by decide) (hts (.fieldLink RX8 151 "TapCap$Taps" "count" "I") (List.mem_of_getElem? (i := 2) rfl)) (fun _ h9 => h9) rfl dX8_ofLeg_17 ?_
  refine lv_iconst (v := (-1)) hx hb dX8_ofLeg_20 (by decide) ?_
  refine g_kv hK hD hS hA (va_runV (As := [.int x0, .int (g 45 4), .int ((-1))]) (rest := []) ⟨hx, hb, hml, hown, hts⟩ (kX8_study l D ad cI g H.size x0 (g 45 4) (-1)) (cwV 3 hts gX8_ofLeg_X8_study rfl rfl rfl (by decide +kernel) ⟨Nat.le_of_ble_eq_true rfl, Nat.le_of_ble_eq_true rfl⟩) (g_preV hK hP hD (ci := 8) (q0 := 0) rfl rfl) rfl rfl hl.1 rfl (lv_room (Nat.le_of_ble_eq_true rfl)) dX8_ofLeg_21 ⟨Nat.le_of_ble_eq_true rfl, Nat.le_of_ble_eq_true rfl⟩) (fun H locs hP hD hS => ?_)
  obtain ⟨g1, hg1⟩ : ∃ z : tG, z = fX8_study_w g x0 (g 45 4) (-1) := ⟨_, rfl⟩
  rw [← hg1] at hP hD
  refine lv_iload_n hx hb dX8_ofLeg_24 rfl (lv_at hl 3 rfl) ?_
  refine lv_aload_n hx hb dX8_ofLeg_25 rfl (lv_at hl 0 rfl) ?_
  refine va_get (D := D) (ci := 8) (v := .ref (ad 43)) (C := RX8) (T := TX8) (N := 9) hx hb hts winX8 hown hK hP 0 rfl rfl 4 (by decide) (hts (.fieldLink RX8 40 "TapCap" "legs" "LTapCap$Legs;") (List.mem_of_getElem? (i := 3) rfl)) (fun _ h9 => h9) rfl dX8_ofLeg_26 ?_
  refine va_get (D := D) (ci := 3) (v := .ref (ad 60)) (C := RX3) (T := TX3) (N := 15) hx hb hts winX3 hown hK hP 43 rfl rfl 8 (by decide) (hts (.fieldLink RX8 200 "TapCap$Legs" "countOn" "LTapCap$Row;") (List.mem_of_getElem? (i := 4) rfl)) (fun _ h9 => h9) rfl dX8_ofLeg_29 ?_
  refine lv_iload_n hx hb dX8_ofLeg_32 rfl (lv_at hl 2 rfl) ?_
  refine g_ki hK hD hS hA (va_runV (As := [.int x1]) (rest := [.int x2]) ⟨hx, hb, hml, hown, hts⟩ (k_tc_at l D ad cI g1 H.size 27 (by decide) x1) (cwV 1 hts gX8_ofLeg_X5_at rfl rfl rfl (by decide +kernel) ⟨Nat.le_of_ble_eq_true rfl, Nat.le_of_ble_eq_true rfl⟩) (g_preV hK hP hD (ci := 5) (q0 := 60) rfl rfl) rfl rfl hl.1 rfl (lv_room (Nat.le_of_ble_eq_true rfl)) dX8_ofLeg_33 ⟨Nat.le_of_ble_eq_true rfl, Nat.le_of_ble_eq_true rfl⟩) (fun H locs hP hD hS => ?_)
  refine g_kv hK hD hS hA (va_runS (As := [.int x2, .int (gA g1 27 x1)]) (rest := []) ⟨hx, hb, hml, hown, hts⟩ (kX8_needNumber l D ad cI g1 H.size x2 (gA g1 27 x1) (by rw [hg1]; exact h3)) (cwS 2 hts gX8_ofLeg_X8_needNumber rfl rfl rfl (by decide +kernel) ⟨Nat.le_of_ble_eq_true rfl, Nat.le_of_ble_eq_true rfl⟩) (g_preS hK hP hD) rfl rfl hl.1 rfl (lv_room (Nat.le_of_ble_eq_true rfl)) dX8_ofLeg_36 ⟨Nat.le_of_ble_eq_true rfl, Nat.le_of_ble_eq_true rfl⟩) (fun H locs hP hD hS => ?_)
  refine lv_iload hx hb dX8_ofLeg_39 (lv_at hl 4 rfl) ?_
  refine lv_iconst (v := 0) hx hb dX8_ofLeg_41 (by decide) ?_
  refine lv_bipush (v := 6) hx hb dX8_ofLeg_42 (by decide) ?_
  refine g_kv hK hD hS hA (va_runS (As := [.int x3, .int 0, .int 6]) (rest := []) ⟨hx, hb, hml, hown, hts⟩ (kX8_needRange l D ad cI g1 H.size x3 0 6 h4) (cwS 3 hts gX8_ofLeg_X8_needRange rfl rfl rfl (by decide +kernel) ⟨Nat.le_of_ble_eq_true rfl, Nat.le_of_ble_eq_true rfl⟩) (g_preS hK hP hD) rfl rfl hl.1 rfl (lv_room (Nat.le_of_ble_eq_true rfl)) dX8_ofLeg_44 ⟨Nat.le_of_ble_eq_true rfl, Nat.le_of_ble_eq_true rfl⟩) (fun H locs hP hD hS => ?_)
  refine lv_aload_n hx hb dX8_ofLeg_47 rfl (lv_at hl 0 rfl) ?_
  refine lv_aload_n hx hb dX8_ofLeg_48 rfl (lv_at hl 0 rfl) ?_
  refine va_get (D := D) (ci := 8) (v := .ref (ad 43)) (C := RX8) (T := TX8) (N := 9) hx hb hts winX8 hown hK hP 0 rfl rfl 4 (by decide) (hts (.fieldLink RX8 40 "TapCap" "legs" "LTapCap$Legs;") (List.mem_of_getElem? (i := 3) rfl)) (fun _ h9 => h9) rfl dX8_ofLeg_49 ?_
  refine va_get (D := D) (ci := 3) (v := .ref (ad 58)) (C := RX3) (T := TX3) (N := 15) hx hb hts winX3 hown hK hP 43 rfl rfl 7 (by decide) (hts (.fieldLink RX8 203 "TapCap$Legs" "firstOn" "LTapCap$Row;") (List.mem_of_getElem? (i := 5) rfl)) (fun _ h9 => h9) rfl dX8_ofLeg_52 ?_
  refine lv_iload_n hx hb dX8_ofLeg_55 rfl (lv_at hl 2 rfl) ?_
  refine g_ki hK hD hS hA (va_runV (As := [.int x1]) (rest := [.ref (ad 0)]) ⟨hx, hb, hml, hown, hts⟩ (k_tc_at l D ad cI g1 H.size 26 (by decide) x1) (cwV 1 hts gX8_ofLeg_X5_at rfl rfl rfl (by decide +kernel) ⟨Nat.le_of_ble_eq_true rfl, Nat.le_of_ble_eq_true rfl⟩) (g_preV hK hP hD (ci := 5) (q0 := 58) rfl rfl) rfl rfl hl.1 rfl (lv_room (Nat.le_of_ble_eq_true rfl)) dX8_ofLeg_56 ⟨Nat.le_of_ble_eq_true rfl, Nat.le_of_ble_eq_true rfl⟩) (fun H locs hP hD hS => ?_)
  refine lv_iload_n hx hb dX8_ofLeg_59 rfl (lv_at hl 3 rfl) ?_
  refine lv_iadd hx hb dX8_ofLeg_60 ?_
  refine lv_iload hx hb dX8_ofLeg_61 (lv_at hl 4 rfl) ?_
  refine g_ki hK hD hS hA (va_runV (As := [.int ((gA g1 26 x1) + x2), .int x3]) (rest := []) ⟨hx, hb, hml, hown, hts⟩ (kX8_legAnswer l D ad cI g1 H.size ((gA g1 26 x1) + x2) x3) (cwV 2 hts gX8_ofLeg_X8_legAnswer rfl rfl rfl (by decide +kernel) ⟨Nat.le_of_ble_eq_true rfl, Nat.le_of_ble_eq_true rfl⟩) (g_preV hK hP hD (ci := 8) (q0 := 0) rfl rfl) rfl rfl hl.1 rfl (lv_room (Nat.le_of_ble_eq_true rfl)) dX8_ofLeg_63 ⟨Nat.le_of_ble_eq_true rfl, Nat.le_of_ble_eq_true rfl⟩) (fun H locs hP hD hS => ?_)
  have hw := eX8_ofLeg_w1 g x0 x1 x2 x3 hg1
  have hP := w_P9 hw hP
  have hD := w_D9 hw hD
  exact g_iret hx hb hr rfl hlocks hK hP hD hS (eX8_ofLeg_r1 g x0 x1 x2 x3 hg1).symm dX8_ofLeg_66
set_option maxHeartbeats 4000000 in
set_option maxRecDepth 100000 in
theorem kX8_ofWeek (l : Launch) (D : va_G) (ad : Nat → Nat) (cI : ClassId) (g : tG) (sz : Nat) (x0 : Int32) (x1 : Int32) (x2 : Int32) (h1 : ¬ (fX0_isPerson_r g x0) = 0) (h2 : in_N x1 4) (h3 : in_R x2 0 2) : Met l yX8_ofWeek wsX8_ofWeek ({ frames := 5, cells := 0, slots := 0, locals := 124 } : Room) (g_P D [(cI, .int)] (tcW ad cI g) [.ref (ad 0), .int x0, .int x1, .int x2] sz) (g_Qi D [(cI, .int)] (va_A (tcW ad cI g) sz) (tcW ad cI (fX8_ofWeek_w g x0 x1 x2)) (fX8_ofWeek_r g x0 x1 x2)) 0 0 (va_A (tcW ad cI g) sz) := by
  refine Met.ofW (cc := cX8_ofWeek) (maxL := 4) (ret := (some .int)) (by decide) rfl ?_
  intro p e s m args below meth c9 s₁ B hml hv
  obtain ⟨rfl, hsz, hP, hK, hD0⟩ := hv
  have hx := B.exec
  have hb := B.bytes
  have hr := B.returns
  have hts := atoms_spec (ws := wsX8_ofWeek) B.pre
  have hown : s.vm.findClass RX8 = some m.cls := findClass_of_methodNamed B.named
  have hlocks := B.notSynchronized
  subst hsz
  have hD := hD0.self (sz := s.heap.size)
  generalize hAe : va_A (tcW ad cI g) s.heap.size = A at hD ⊢
  have hA : ∀ q : Nat, s.heap.size ≤ q → A q := fun q h => by rw [← hAe]; exact Or.inr h
  have hS : va_S A s.heap s.heap [] := va_S.rf
  have hl := lv_entry ([.ref (ad 0), .int x0, .int x1, .int x2]) (n := 4) (Nat.le_of_ble_eq_true rfl)
  rw [lg_entry_eq]
  generalize (lg_sl ([.ref (ad 0), .int x0, .int x1, .int x2]) ++ List.replicate (4 - (lg_sl ([.ref (ad 0), .int x0, .int x1, .int x2])).length) Slot.unset).toArray = ls at hl ⊢
  have hl : lv_has ls 4 [(0, .ref (ad 0)), (1, .int x0), (2, .int x1), (3, .int x2)] := hl
  have winX6 : ∀ w ∈ u_ws RX6 TX6 9, w ∈ wsX8_ofWeek := by decide +kernel
  have winX8 : ∀ w ∈ u_ws RX8 TX8 9, w ∈ wsX8_ofWeek := by decide +kernel
  refine lv_aload_n hx hb dX8_ofWeek_0 rfl (lv_at hl 0 rfl) ?_
  refine lv_iload_n hx hb dX8_ofWeek_1 rfl (lv_at hl 1 rfl) ?_
  refine g_kv hK hD hS hA (va_runV (As := [.int x0]) (rest := []) ⟨hx, hb, hml, hown, hts⟩ (kX8_needPerson l D ad cI g s.heap.size x0 h1) (cwV 1 hts gX8_ofWeek_X8_needPerson rfl rfl rfl (by decide +kernel) ⟨Nat.le_of_ble_eq_true rfl, Nat.le_of_ble_eq_true rfl⟩) (g_preV hK hP hD (ci := 8) (q0 := 0) rfl rfl) rfl rfl hl.1 rfl (lv_room (Nat.le_of_ble_eq_true rfl)) dX8_ofWeek_2 ⟨Nat.le_of_ble_eq_true rfl, Nat.le_of_ble_eq_true rfl⟩) (fun H locs hP hD hS => ?_)
  refine lv_iload_n hx hb dX8_ofWeek_5 rfl (lv_at hl 2 rfl) ?_
  refine lv_iconst (v := 4) hx hb dX8_ofWeek_6 (by decide) ?_
  refine g_kv hK hD hS hA (va_runS (As := [.int x1, .int 4]) (rest := []) ⟨hx, hb, hml, hown, hts⟩ (kX8_needNumber l D ad cI g H.size x1 4 h2) (cwS 2 hts gX8_ofWeek_X8_needNumber rfl rfl rfl (by decide +kernel) ⟨Nat.le_of_ble_eq_true rfl, Nat.le_of_ble_eq_true rfl⟩) (g_preS hK hP hD) rfl rfl hl.1 rfl (lv_room (Nat.le_of_ble_eq_true rfl)) dX8_ofWeek_7 ⟨Nat.le_of_ble_eq_true rfl, Nat.le_of_ble_eq_true rfl⟩) (fun H locs hP hD hS => ?_)
  refine lv_iload_n hx hb dX8_ofWeek_10 rfl (lv_at hl 3 rfl) ?_
  refine lv_iconst (v := 0) hx hb dX8_ofWeek_11 (by decide) ?_
  refine lv_iconst (v := 2) hx hb dX8_ofWeek_12 (by decide) ?_
  refine g_kv hK hD hS hA (va_runS (As := [.int x2, .int 0, .int 2]) (rest := []) ⟨hx, hb, hml, hown, hts⟩ (kX8_needRange l D ad cI g H.size x2 0 2 h3) (cwS 3 hts gX8_ofWeek_X8_needRange rfl rfl rfl (by decide +kernel) ⟨Nat.le_of_ble_eq_true rfl, Nat.le_of_ble_eq_true rfl⟩) (g_preS hK hP hD) rfl rfl hl.1 rfl (lv_room (Nat.le_of_ble_eq_true rfl)) dX8_ofWeek_13 ⟨Nat.le_of_ble_eq_true rfl, Nat.le_of_ble_eq_true rfl⟩) (fun H locs hP hD hS => ?_)
  refine lv_aload_n hx hb dX8_ofWeek_16 rfl (lv_at hl 0 rfl) ?_
  refine lv_iload_n hx hb dX8_ofWeek_17 rfl (lv_at hl 1 rfl) ?_
  refine lv_aload_n hx hb dX8_ofWeek_18 rfl (lv_at hl 0 rfl) ?_
  refine va_get (D := D) (ci := 8) (v := .ref (ad 30)) (C := RX8) (T := TX8) (N := 9) hx hb hts winX8 hown hK hP 0 rfl rfl 3 (by decide) (hts (.fieldLink RX8 33 "TapCap" "taps" "LTapCap$Taps;") (List.mem_of_getElem? (i := 1) rfl)) (fun _ h9 => h9) rfl dX8_ofWeek_19 ?_
  refine va_get (D := D) (ci := 6) (v := .int (g 45 4)) (C := RX6) (T := TX6) (N := 9) hx hb hts winX6 hown hK hP 30 rfl rfl 6 (by decide) (hts (.fieldLink RX8 151 "TapCap$Taps" "count" "I") (List.mem_of_getElem? (i := 2) rfl)) (fun _ h9 => h9) rfl dX8_ofWeek_22 ?_
  refine lv_iconst (v := (-1)) hx hb dX8_ofWeek_25 (by decide) ?_
  refine g_kv hK hD hS hA (va_runV (As := [.int x0, .int (g 45 4), .int ((-1))]) (rest := []) ⟨hx, hb, hml, hown, hts⟩ (kX8_study l D ad cI g H.size x0 (g 45 4) (-1)) (cwV 3 hts gX8_ofWeek_X8_study rfl rfl rfl (by decide +kernel) ⟨Nat.le_of_ble_eq_true rfl, Nat.le_of_ble_eq_true rfl⟩) (g_preV hK hP hD (ci := 8) (q0 := 0) rfl rfl) rfl rfl hl.1 rfl (lv_room (Nat.le_of_ble_eq_true rfl)) dX8_ofWeek_26 ⟨Nat.le_of_ble_eq_true rfl, Nat.le_of_ble_eq_true rfl⟩) (fun H locs hP hD hS => ?_)
  obtain ⟨g1, hg1⟩ : ∃ z : tG, z = fX8_study_w g x0 (g 45 4) (-1) := ⟨_, rfl⟩
  rw [← hg1] at hP hD
  refine lv_aload_n hx hb dX8_ofWeek_29 rfl (lv_at hl 0 rfl) ?_
  refine lv_iload_n hx hb dX8_ofWeek_30 rfl (lv_at hl 2 rfl) ?_
  refine lv_iload_n hx hb dX8_ofWeek_31 rfl (lv_at hl 3 rfl) ?_
  refine g_ki hK hD hS hA (va_runV (As := [.int x1, .int x2]) (rest := []) ⟨hx, hb, hml, hown, hts⟩ (kX8_weekAnswer l D ad cI g1 H.size x1 x2) (cwV 2 hts gX8_ofWeek_X8_weekAnswer rfl rfl rfl (by decide +kernel) ⟨Nat.le_of_ble_eq_true rfl, Nat.le_of_ble_eq_true rfl⟩) (g_preV hK hP hD (ci := 8) (q0 := 0) rfl rfl) rfl rfl hl.1 rfl (lv_room (Nat.le_of_ble_eq_true rfl)) dX8_ofWeek_32 ⟨Nat.le_of_ble_eq_true rfl, Nat.le_of_ble_eq_true rfl⟩) (fun H locs hP hD hS => ?_)
  have hw := eX8_ofWeek_w1 g x0 x1 x2 hg1
  have hP := w_P9 hw hP
  have hD := w_D9 hw hD
  exact g_iret hx hb hr rfl hlocks hK hP hD hS (eX8_ofWeek_r1 g x0 x1 x2 hg1).symm dX8_ofWeek_35
set_option maxHeartbeats 4000000 in
set_option maxRecDepth 100000 in
theorem kX8_many (l : Launch) (D : va_G) (ad : Nat → Nat) (cI : ClassId) (g : tG) (sz : Nat) (x0 : Int32) (h1 : in_R x0 0 8) : Met l yX8_many wsX8_many ({ frames := 2, cells := 0, slots := 0, locals := 43 } : Room) (g_P D [(cI, .int)] (tcW ad cI g) [.ref (ad 0), .int x0] sz) (g_Qi D [(cI, .int)] (va_A (tcW ad cI g) sz) (tcW ad cI g) (fX8_many_r g x0)) 0 0 (va_A (tcW ad cI g) sz) := by
  refine Met.ofW (cc := cX8_many) (maxL := 2) (ret := (some .int)) (by decide) rfl ?_
  intro p e s m args below meth c9 s₁ B hml hv
  obtain ⟨rfl, hsz, hP, hK, hD0⟩ := hv
  have hx := B.exec
  have hb := B.bytes
  have hr := B.returns
  have hts := atoms_spec (ws := wsX8_many) B.pre
  have hown : s.vm.findClass RX8 = some m.cls := findClass_of_methodNamed B.named
  have hlocks := B.notSynchronized
  subst hsz
  have hD := hD0.self (sz := s.heap.size)
  generalize hAe : va_A (tcW ad cI g) s.heap.size = A at hD ⊢
  have hA : ∀ q : Nat, s.heap.size ≤ q → A q := fun q h => by rw [← hAe]; exact Or.inr h
  have hS : va_S A s.heap s.heap [] := va_S.rf
  have hl := lv_entry ([.ref (ad 0), .int x0]) (n := 2) (Nat.le_of_ble_eq_true rfl)
  rw [lg_entry_eq]
  generalize (lg_sl ([.ref (ad 0), .int x0]) ++ List.replicate (2 - (lg_sl ([.ref (ad 0), .int x0])).length) Slot.unset).toArray = ls at hl ⊢
  have hl : lv_has ls 2 [(0, .ref (ad 0)), (1, .int x0)] := hl
  refine lv_iload_n hx hb dX8_many_0 rfl (lv_at hl 1 rfl) ?_
  refine lv_iconst (v := 0) hx hb dX8_many_1 (by decide) ?_
  refine lv_bipush (v := 8) hx hb dX8_many_2 (by decide) ?_
  refine g_kv hK hD hS hA (va_runS (As := [.int x0, .int 0, .int 8]) (rest := []) ⟨hx, hb, hml, hown, hts⟩ (kX8_needRange l D ad cI g s.heap.size x0 0 8 h1) (cwS 3 hts gX8_many_X8_needRange rfl rfl rfl (by decide +kernel) ⟨Nat.le_of_ble_eq_true rfl, Nat.le_of_ble_eq_true rfl⟩) (g_preS hK hP hD) rfl rfl hl.1 rfl (lv_room (Nat.le_of_ble_eq_true rfl)) dX8_many_4 ⟨Nat.le_of_ble_eq_true rfl, Nat.le_of_ble_eq_true rfl⟩) (fun H locs hP hD hS => ?_)
  refine lv_aload_n hx hb dX8_many_7 rfl (lv_at hl 0 rfl) ?_
  refine lv_iload_n hx hb dX8_many_8 rfl (lv_at hl 1 rfl) ?_
  refine g_ki hK hD hS hA (va_runV (As := [.int x0]) (rest := []) ⟨hx, hb, hml, hown, hts⟩ (kX8_manyAnswer l D ad cI g H.size x0) (cwV 1 hts gX8_many_X8_manyAnswer rfl rfl rfl (by decide +kernel) ⟨Nat.le_of_ble_eq_true rfl, Nat.le_of_ble_eq_true rfl⟩) (g_preV hK hP hD (ci := 8) (q0 := 0) rfl rfl) rfl rfl hl.1 rfl (lv_room (Nat.le_of_ble_eq_true rfl)) dX8_many_9 ⟨Nat.le_of_ble_eq_true rfl, Nat.le_of_ble_eq_true rfl⟩) (fun H locs hP hD hS => ?_)
  exact g_iret hx hb hr rfl hlocks hK hP hD hS (eX8_many_r1 g x0 ).symm dX8_many_12
set_option maxHeartbeats 4000000 in
set_option maxRecDepth 100000 in
theorem kX8_wouldCost (l : Launch) (D : va_G) (ad : Nat → Nat) (cI : ClassId) (g : tG) (sz : Nat) (x0 : Int32) (x1 : Int32) (x2 : Int32) (x3 : Int32) (x4 : Int32) (x5 : Int32) (h1 : in_N x0 (g 45 3)) (h2 : in_N x1 10) (h3 : in_N x2 6) (h4 : in_N x4 28) (h5 : in_R x5 0 1439) : Met l yX8_wouldCost wsX8_wouldCost ({ frames := 6, cells := 0, slots := 0, locals := 148 } : Room) (g_P D [(cI, .int)] (tcW ad cI g) [.ref (ad 0), .int x0, .int x1, .int x2, .int x3, .int x4, .int x5] sz) (g_Qi D [(cI, .int)] (va_A (tcW ad cI g) sz) (tcW ad cI (fX8_wouldCost_w g x0 x1 x2 x3 x4 x5)) (fX8_wouldCost_r g x0 x1 x2 x3 x4 x5)) 0 0 (va_A (tcW ad cI g) sz) := by
  refine Met.ofW (cc := cX8_wouldCost) (maxL := 10) (ret := (some .int)) (by decide) rfl ?_
  intro p e s m args below meth c9 s₁ B hml hv
  obtain ⟨rfl, hsz, hP, hK, hD0⟩ := hv
  have hx := B.exec
  have hb := B.bytes
  have hr := B.returns
  have hts := atoms_spec (ws := wsX8_wouldCost) B.pre
  have hown : s.vm.findClass RX8 = some m.cls := findClass_of_methodNamed B.named
  have hlocks := B.notSynchronized
  subst hsz
  have hD := hD0.self (sz := s.heap.size)
  generalize hAe : va_A (tcW ad cI g) s.heap.size = A at hD ⊢
  have hA : ∀ q : Nat, s.heap.size ≤ q → A q := fun q h => by rw [← hAe]; exact Or.inr h
  have hS : va_S A s.heap s.heap [] := va_S.rf
  have hl := lv_entry ([.ref (ad 0), .int x0, .int x1, .int x2, .int x3, .int x4, .int x5]) (n := 10) (Nat.le_of_ble_eq_true rfl)
  rw [lg_entry_eq]
  generalize (lg_sl ([.ref (ad 0), .int x0, .int x1, .int x2, .int x3, .int x4, .int x5]) ++ List.replicate (10 - (lg_sl ([.ref (ad 0), .int x0, .int x1, .int x2, .int x3, .int x4, .int x5])).length) Slot.unset).toArray = ls at hl ⊢
  have hl : lv_has ls 10 [(0, .ref (ad 0)), (1, .int x0), (2, .int x1), (3, .int x2), (4, .int x3), (5, .int x4), (6, .int x5)] := hl
  have winX0 : ∀ w ∈ u_ws RX0 TX0 6, w ∈ wsX8_wouldCost := by decide +kernel
  have winX5 : ∀ w ∈ u_ws RX5 TX5 1, w ∈ wsX8_wouldCost := by decide +kernel
  have winX6 : ∀ w ∈ u_ws RX6 TX6 9, w ∈ wsX8_wouldCost := by decide +kernel
  have winX8 : ∀ w ∈ u_ws RX8 TX8 9, w ∈ wsX8_wouldCost := by decide +kernel
  refine lv_aload_n hx hb dX8_wouldCost_0 rfl (lv_at hl 0 rfl) ?_
  refine lv_iload_n hx hb dX8_wouldCost_1 rfl (lv_at hl 1 rfl) ?_
  refine lv_iload_n hx hb dX8_wouldCost_2 rfl (lv_at hl 2 rfl) ?_
  refine lv_iload_n hx hb dX8_wouldCost_3 rfl (lv_at hl 3 rfl) ?_
  refine lv_iload hx hb dX8_wouldCost_4 (lv_at hl 5 rfl) ?_
  refine lv_iload hx hb dX8_wouldCost_6 (lv_at hl 6 rfl) ?_
  refine g_kv hK hD hS hA (va_runV (As := [.int x0, .int x1, .int x2, .int x4, .int x5]) (rest := []) ⟨hx, hb, hml, hown, hts⟩ (kX8_needTap l D ad cI g s.heap.size x0 x1 x2 x4 x5 h1 h2 h3 h4 h5) (cwV 5 hts gX8_wouldCost_X8_needTap rfl rfl rfl (by decide +kernel) ⟨Nat.le_of_ble_eq_true rfl, Nat.le_of_ble_eq_true rfl⟩) (g_preV hK hP hD (ci := 8) (q0 := 0) rfl rfl) rfl rfl hl.1 rfl (lv_room (Nat.le_of_ble_eq_true rfl)) dX8_wouldCost_8 ⟨Nat.le_of_ble_eq_true rfl, Nat.le_of_ble_eq_true rfl⟩) (fun H locs hP hD hS => ?_)
  refine lv_aload_n hx hb dX8_wouldCost_11 rfl (lv_at hl 0 rfl) ?_
  refine va_get (D := D) (ci := 8) (v := .ref (ad 19)) (C := RX8) (T := TX8) (N := 9) hx hb hts winX8 hown hK hP 0 rfl rfl 2 (by decide) (hts (.fieldLink RX8 26 "TapCap" "cards" "LTapCap$Cards;") (List.mem_of_getElem? (i := 1) rfl)) (fun _ h9 => h9) rfl dX8_wouldCost_12 ?_
  refine va_get (D := D) (ci := 0) (v := .ref (ad 22)) (C := RX0) (T := TX0) (N := 6) hx hb hts winX0 hown hK hP 19 rfl rfl 1 (by decide) (hts (.fieldLink RX8 128 "TapCap$Cards" "personOf" "LTapCap$Row;") (List.mem_of_getElem? (i := 2) rfl)) (fun _ h9 => h9) rfl dX8_wouldCost_15 ?_
  refine lv_iload_n hx hb dX8_wouldCost_18 rfl (lv_at hl 1 rfl) ?_
  refine g_ki hK hD hS hA (va_runV (As := [.int x0]) (rest := []) ⟨hx, hb, hml, hown, hts⟩ (k_tc_at l D ad cI g H.size 9 (by decide) x0) (cwV 1 hts gX8_wouldCost_X5_at rfl rfl rfl (by decide +kernel) ⟨Nat.le_of_ble_eq_true rfl, Nat.le_of_ble_eq_true rfl⟩) (g_preV hK hP hD (ci := 5) (q0 := 22) rfl rfl) rfl rfl hl.1 rfl (lv_room (Nat.le_of_ble_eq_true rfl)) dX8_wouldCost_19 ⟨Nat.le_of_ble_eq_true rfl, Nat.le_of_ble_eq_true rfl⟩) (fun H locs hP hD hS => ?_)
  refine lv_topi (fun v1 hv1 => ?_)
  refine lv_istore (lv' := [(7, .int v1), (0, .ref (ad 0)), (1, .int x0), (2, .int x1), (3, .int x2), (4, .int x3), (5, .int x4), (6, .int x5)]) hx hb dX8_wouldCost_22 hl (by decide) rfl (fun ls hl => ?_)
  refine lv_iload hx hb dX8_wouldCost_24 (lv_at hl 6 rfl) ?_
  refine lv_bipush (v := 7) hx hb dX8_wouldCost_26 (by decide) ?_
  refine lv_idiv hx hb dX8_wouldCost_28 (by decide) ?_
  refine lv_topi (fun v2 hv2 => ?_)
  refine lv_istore (lv' := [(8, .int v2), (7, .int v1), (0, .ref (ad 0)), (1, .int x0), (2, .int x1), (3, .int x2), (4, .int x3), (5, .int x4), (6, .int x5)]) hx hb dX8_wouldCost_29 hl (by decide) rfl (fun ls hl => ?_)
  refine lv_aload_n hx hb dX8_wouldCost_31 rfl (lv_at hl 2 rfl) ?_
  refine lv_iload hx hb dX8_wouldCost_32 (lv_at hl 1 rfl) ?_
  refine lv_iload hx hb dX8_wouldCost_34 (lv_at hl 0 rfl) ?_
  refine lv_aload_n hx hb dX8_wouldCost_36 rfl (lv_at hl 2 rfl) ?_
  refine va_get (D := D) (ci := 8) (v := .ref (ad 30)) (C := RX8) (T := TX8) (N := 9) hx hb hts winX8 hown hK hP 0 rfl rfl 3 (by decide) (hts (.fieldLink RX8 33 "TapCap" "taps" "LTapCap$Taps;") (List.mem_of_getElem? (i := 3) rfl)) (fun _ h9 => h9) rfl dX8_wouldCost_37 ?_
  refine va_get (D := D) (ci := 6) (v := .int (g 45 4)) (C := RX6) (T := TX6) (N := 9) hx hb hts winX6 hown hK hP 30 rfl rfl 6 (by decide) (hts (.fieldLink RX8 151 "TapCap$Taps" "count" "I") (List.mem_of_getElem? (i := 4) rfl)) (fun _ h9 => h9) rfl dX8_wouldCost_40 ?_
  refine lv_iconst (v := (-1)) hx hb dX8_wouldCost_43 (by decide) ?_
  refine g_ki hK hD hS hA (va_runV (As := [.int v1, .int v2, .int (g 45 4), .int ((-1))]) (rest := []) ⟨hx, hb, hml, hown, hts⟩ (kX8_costOfWeek l D ad cI g H.size v1 v2 (g 45 4) (-1)) (cwV 4 hts gX8_wouldCost_X8_costOfWeek rfl rfl rfl (by decide +kernel) ⟨Nat.le_of_ble_eq_true rfl, Nat.le_of_ble_eq_true rfl⟩) (g_preV hK hP hD (ci := 8) (q0 := 0) rfl rfl) rfl rfl hl.1 rfl (lv_room (Nat.le_of_ble_eq_true rfl)) dX8_wouldCost_44 ⟨Nat.le_of_ble_eq_true rfl, Nat.le_of_ble_eq_true rfl⟩) (fun H locs hP hD hS => ?_)
  obtain ⟨g1, hg1⟩ : ∃ z : tG, z = fX8_costOfWeek_w g v1 v2 (g 45 4) (-1) := ⟨_, rfl⟩
  rw [← hg1] at hP hD
  refine lv_topi (fun v3 hv3 => ?_)
  refine lv_istore (lv' := [(9, .int v3), (8, .int v2), (7, .int v1), (0, .ref (ad 0)), (1, .int x0), (2, .int x1), (3, .int x2), (4, .int x3), (5, .int x4), (6, .int x5)]) hx hb dX8_wouldCost_47 hl (by decide) rfl (fun ls hl => ?_)
  refine lv_aload_n hx hb dX8_wouldCost_49 rfl (lv_at hl 3 rfl) ?_
  refine va_get (D := D) (ci := 8) (v := .ref (ad 30)) (C := RX8) (T := TX8) (N := 9) hx hb hts winX8 hown hK hP 0 rfl rfl 3 (by decide) (hts (.fieldLink RX8 33 "TapCap" "taps" "LTapCap$Taps;") (List.mem_of_getElem? (i := 3) rfl)) (fun _ h9 => h9) rfl dX8_wouldCost_50 ?_
  refine lv_aload_n hx hb dX8_wouldCost_53 rfl (lv_at hl 3 rfl) ?_
  refine va_get (D := D) (ci := 8) (v := .ref (ad 30)) (C := RX8) (T := TX8) (N := 9) hx hb hts winX8 hown hK hP 0 rfl rfl 3 (by decide) (hts (.fieldLink RX8 33 "TapCap" "taps" "LTapCap$Taps;") (List.mem_of_getElem? (i := 3) rfl)) (fun _ h9 => h9) rfl dX8_wouldCost_54 ?_
  refine va_get (D := D) (ci := 6) (v := .int (g1 45 4)) (C := RX6) (T := TX6) (N := 9) hx hb hts winX6 hown hK hP 30 rfl rfl 6 (by decide) (hts (.fieldLink RX8 151 "TapCap$Taps" "count" "I") (List.mem_of_getElem? (i := 4) rfl)) (fun _ h9 => h9) rfl dX8_wouldCost_57 ?_
  refine lv_iload_n hx hb dX8_wouldCost_60 rfl (lv_at hl 4 rfl) ?_
  refine lv_iload_n hx hb dX8_wouldCost_61 rfl (lv_at hl 5 rfl) ?_
  refine lv_iload_n hx hb dX8_wouldCost_62 rfl (lv_at hl 6 rfl) ?_
  refine lv_iload hx hb dX8_wouldCost_63 (lv_at hl 7 rfl) ?_
  refine lv_iload hx hb dX8_wouldCost_65 (lv_at hl 8 rfl) ?_
  refine lv_iload hx hb dX8_wouldCost_67 (lv_at hl 9 rfl) ?_
  refine g_kv hK hD hS hA (va_runV (As := [.int (g1 45 4), .int x0, .int x1, .int x2, .int x3, .int x4, .int x5]) (rest := []) ⟨hx, hb, hml, hown, hts⟩ (kX6_write l D ad cI g1 H.size (g1 45 4) x0 x1 x2 x3 x4 x5) (cwV 7 hts gX8_wouldCost_X6_write rfl rfl rfl (by decide +kernel) ⟨Nat.le_of_ble_eq_true rfl, Nat.le_of_ble_eq_true rfl⟩) (g_preV hK hP hD (ci := 6) (q0 := 30) rfl rfl) rfl rfl hl.1 rfl (lv_room (Nat.le_of_ble_eq_true rfl)) dX8_wouldCost_69 ⟨Nat.le_of_ble_eq_true rfl, Nat.le_of_ble_eq_true rfl⟩) (fun H locs hP hD hS => ?_)
  obtain ⟨g2, hg2⟩ : ∃ z : tG, z = fX6_write_w g1 (g1 45 4) x0 x1 x2 x3 x4 x5 := ⟨_, rfl⟩
  rw [← hg2] at hP hD
  refine lv_aload_n hx hb dX8_wouldCost_72 rfl (lv_at hl 3 rfl) ?_
  refine lv_iload hx hb dX8_wouldCost_73 (lv_at hl 2 rfl) ?_
  refine lv_iload hx hb dX8_wouldCost_75 (lv_at hl 1 rfl) ?_
  refine lv_aload_n hx hb dX8_wouldCost_77 rfl (lv_at hl 3 rfl) ?_
  refine va_get (D := D) (ci := 8) (v := .ref (ad 30)) (C := RX8) (T := TX8) (N := 9) hx hb hts winX8 hown hK hP 0 rfl rfl 3 (by decide) (hts (.fieldLink RX8 33 "TapCap" "taps" "LTapCap$Taps;") (List.mem_of_getElem? (i := 3) rfl)) (fun _ h9 => h9) rfl dX8_wouldCost_78 ?_
  refine va_get (D := D) (ci := 6) (v := .int (g2 45 4)) (C := RX6) (T := TX6) (N := 9) hx hb hts winX6 hown hK hP 30 rfl rfl 6 (by decide) (hts (.fieldLink RX8 151 "TapCap$Taps" "count" "I") (List.mem_of_getElem? (i := 4) rfl)) (fun _ h9 => h9) rfl dX8_wouldCost_81 ?_
  refine lv_iconst (v := 1) hx hb dX8_wouldCost_84 (by decide) ?_
  refine lv_iadd hx hb dX8_wouldCost_85 ?_
  refine lv_iconst (v := (-1)) hx hb dX8_wouldCost_86 (by decide) ?_
  refine g_ki hK hD hS hA (va_runV (As := [.int v1, .int v2, .int ((g2 45 4) + 1), .int ((-1))]) (rest := []) ⟨hx, hb, hml, hown, hts⟩ (kX8_costOfWeek l D ad cI g2 H.size v1 v2 ((g2 45 4) + 1) (-1)) (cwV 4 hts gX8_wouldCost_X8_costOfWeek rfl rfl rfl (by decide +kernel) ⟨Nat.le_of_ble_eq_true rfl, Nat.le_of_ble_eq_true rfl⟩) (g_preV hK hP hD (ci := 8) (q0 := 0) rfl rfl) rfl rfl hl.1 rfl (lv_room (Nat.le_of_ble_eq_true rfl)) dX8_wouldCost_87 ⟨Nat.le_of_ble_eq_true rfl, Nat.le_of_ble_eq_true rfl⟩) (fun H locs hP hD hS => ?_)
  obtain ⟨g3, hg3⟩ : ∃ z : tG, z = fX8_costOfWeek_w g2 v1 v2 ((g2 45 4) + 1) (-1) := ⟨_, rfl⟩
  rw [← hg3] at hP hD
  refine lv_iload hx hb dX8_wouldCost_90 (lv_at hl 0 rfl) ?_
  refine lv_isub hx hb dX8_wouldCost_92 ?_
  have hw := eX8_wouldCost_w1 g x0 x1 x2 x3 x4 x5 hv1 hv2 hg1 hv3 hg2 hg3
  have hP := w_P9 hw hP
  have hD := w_D9 hw hD
  exact g_iret hx hb hr rfl hlocks hK hP hD hS (eX8_wouldCost_r1 g x0 x1 x2 x3 x4 x5 hv1 hv2 hg1 hv3 hg2 hg3).symm dX8_wouldCost_93
set_option maxHeartbeats 4000000 in
set_option maxRecDepth 100000 in
theorem kX8_guess (l : Launch) (D : va_G) (ad : Nat → Nat) (cI : ClassId) (g : tG) (sz : Nat) (x0 : Int32) (x1 : Int32) (x2 : Int32) (x3 : Int32) (h1 : ¬ (fX0_isPerson_r g x0) = 0) (h2 : in_N x1 28) (h3 : in_N x2 10) : Met l yX8_guess wsX8_guess ({ frames := 5, cells := 0, slots := 0, locals := 124 } : Room) (g_P D [(cI, .int)] (tcW ad cI g) [.ref (ad 0), .int x0, .int x1, .int x2, .int x3] sz) (g_Qi D [(cI, .int)] (va_A (tcW ad cI g) sz) (tcW ad cI (fX8_guess_w g x0 x1 x2 x3)) (fX8_guess_r g x0 x1 x2 x3)) 0 0 (va_A (tcW ad cI g) sz) := by
  refine Met.ofW (cc := cX8_guess) (maxL := 5) (ret := (some .int)) (by decide) rfl ?_
  intro p e s m args below meth c9 s₁ B hml hv
  obtain ⟨rfl, hsz, hP, hK, hD0⟩ := hv
  have hx := B.exec
  have hb := B.bytes
  have hr := B.returns
  have hts := atoms_spec (ws := wsX8_guess) B.pre
  have hown : s.vm.findClass RX8 = some m.cls := findClass_of_methodNamed B.named
  have hlocks := B.notSynchronized
  subst hsz
  have hD := hD0.self (sz := s.heap.size)
  generalize hAe : va_A (tcW ad cI g) s.heap.size = A at hD ⊢
  have hA : ∀ q : Nat, s.heap.size ≤ q → A q := fun q h => by rw [← hAe]; exact Or.inr h
  have hS : va_S A s.heap s.heap [] := va_S.rf
  have hl := lv_entry ([.ref (ad 0), .int x0, .int x1, .int x2, .int x3]) (n := 5) (Nat.le_of_ble_eq_true rfl)
  rw [lg_entry_eq]
  generalize (lg_sl ([.ref (ad 0), .int x0, .int x1, .int x2, .int x3]) ++ List.replicate (5 - (lg_sl ([.ref (ad 0), .int x0, .int x1, .int x2, .int x3])).length) Slot.unset).toArray = ls at hl ⊢
  have hl : lv_has ls 5 [(0, .ref (ad 0)), (1, .int x0), (2, .int x1), (3, .int x2), (4, .int x3)] := hl
  have winX6 : ∀ w ∈ u_ws RX6 TX6 9, w ∈ wsX8_guess := by decide +kernel
  have winX8 : ∀ w ∈ u_ws RX8 TX8 9, w ∈ wsX8_guess := by decide +kernel
  refine lv_aload_n hx hb dX8_guess_0 rfl (lv_at hl 0 rfl) ?_
  refine lv_iload_n hx hb dX8_guess_1 rfl (lv_at hl 1 rfl) ?_
  refine g_kv hK hD hS hA (va_runV (As := [.int x0]) (rest := []) ⟨hx, hb, hml, hown, hts⟩ (kX8_needPerson l D ad cI g s.heap.size x0 h1) (cwV 1 hts gX8_guess_X8_needPerson rfl rfl rfl (by decide +kernel) ⟨Nat.le_of_ble_eq_true rfl, Nat.le_of_ble_eq_true rfl⟩) (g_preV hK hP hD (ci := 8) (q0 := 0) rfl rfl) rfl rfl hl.1 rfl (lv_room (Nat.le_of_ble_eq_true rfl)) dX8_guess_2 ⟨Nat.le_of_ble_eq_true rfl, Nat.le_of_ble_eq_true rfl⟩) (fun H locs hP hD hS => ?_)
  refine lv_iload_n hx hb dX8_guess_5 rfl (lv_at hl 2 rfl) ?_
  refine lv_bipush (v := 28) hx hb dX8_guess_6 (by decide) ?_
  refine g_kv hK hD hS hA (va_runS (As := [.int x1, .int 28]) (rest := []) ⟨hx, hb, hml, hown, hts⟩ (kX8_needNumber l D ad cI g H.size x1 28 h2) (cwS 2 hts gX8_guess_X8_needNumber rfl rfl rfl (by decide +kernel) ⟨Nat.le_of_ble_eq_true rfl, Nat.le_of_ble_eq_true rfl⟩) (g_preS hK hP hD) rfl rfl hl.1 rfl (lv_room (Nat.le_of_ble_eq_true rfl)) dX8_guess_8 ⟨Nat.le_of_ble_eq_true rfl, Nat.le_of_ble_eq_true rfl⟩) (fun H locs hP hD hS => ?_)
  refine lv_iload_n hx hb dX8_guess_11 rfl (lv_at hl 3 rfl) ?_
  refine lv_bipush (v := 10) hx hb dX8_guess_12 (by decide) ?_
  refine g_kv hK hD hS hA (va_runS (As := [.int x2, .int 10]) (rest := []) ⟨hx, hb, hml, hown, hts⟩ (kX8_needNumber l D ad cI g H.size x2 10 h3) (cwS 2 hts gX8_guess_X8_needNumber rfl rfl rfl (by decide +kernel) ⟨Nat.le_of_ble_eq_true rfl, Nat.le_of_ble_eq_true rfl⟩) (g_preS hK hP hD) rfl rfl hl.1 rfl (lv_room (Nat.le_of_ble_eq_true rfl)) dX8_guess_14 ⟨Nat.le_of_ble_eq_true rfl, Nat.le_of_ble_eq_true rfl⟩) (fun H locs hP hD hS => ?_)
  refine lv_aload_n hx hb dX8_guess_17 rfl (lv_at hl 0 rfl) ?_
  refine lv_iload_n hx hb dX8_guess_18 rfl (lv_at hl 1 rfl) ?_
  refine lv_aload_n hx hb dX8_guess_19 rfl (lv_at hl 0 rfl) ?_
  refine va_get (D := D) (ci := 8) (v := .ref (ad 30)) (C := RX8) (T := TX8) (N := 9) hx hb hts winX8 hown hK hP 0 rfl rfl 3 (by decide) (hts (.fieldLink RX8 33 "TapCap" "taps" "LTapCap$Taps;") (List.mem_of_getElem? (i := 1) rfl)) (fun _ h9 => h9) rfl dX8_guess_20 ?_
  refine va_get (D := D) (ci := 6) (v := .int (g 45 4)) (C := RX6) (T := TX6) (N := 9) hx hb hts winX6 hown hK hP 30 rfl rfl 6 (by decide) (hts (.fieldLink RX8 151 "TapCap$Taps" "count" "I") (List.mem_of_getElem? (i := 2) rfl)) (fun _ h9 => h9) rfl dX8_guess_23 ?_
  refine lv_iconst (v := (-1)) hx hb dX8_guess_26 (by decide) ?_
  refine g_kv hK hD hS hA (va_runV (As := [.int x0, .int (g 45 4), .int ((-1))]) (rest := []) ⟨hx, hb, hml, hown, hts⟩ (kX8_study l D ad cI g H.size x0 (g 45 4) (-1)) (cwV 3 hts gX8_guess_X8_study rfl rfl rfl (by decide +kernel) ⟨Nat.le_of_ble_eq_true rfl, Nat.le_of_ble_eq_true rfl⟩) (g_preV hK hP hD (ci := 8) (q0 := 0) rfl rfl) rfl rfl hl.1 rfl (lv_room (Nat.le_of_ble_eq_true rfl)) dX8_guess_27 ⟨Nat.le_of_ble_eq_true rfl, Nat.le_of_ble_eq_true rfl⟩) (fun H locs hP hD hS => ?_)
  obtain ⟨g1, hg1⟩ : ∃ z : tG, z = fX8_study_w g x0 (g 45 4) (-1) := ⟨_, rfl⟩
  rw [← hg1] at hP hD
  refine lv_aload_n hx hb dX8_guess_30 rfl (lv_at hl 0 rfl) ?_
  refine va_get (D := D) (ci := 8) (v := .ref (ad 43)) (C := RX8) (T := TX8) (N := 9) hx hb hts winX8 hown hK hP 0 rfl rfl 4 (by decide) (hts (.fieldLink RX8 40 "TapCap" "legs" "LTapCap$Legs;") (List.mem_of_getElem? (i := 3) rfl)) (fun _ h9 => h9) rfl dX8_guess_31 ?_
  refine lv_iload_n hx hb dX8_guess_34 rfl (lv_at hl 2 rfl) ?_
  refine lv_iload_n hx hb dX8_guess_35 rfl (lv_at hl 3 rfl) ?_
  refine lv_iload hx hb dX8_guess_36 (lv_at hl 4 rfl) ?_
  refine g_ki hK hD hS hA (va_runV (As := [.int x1, .int x2, .int x3]) (rest := []) ⟨hx, hb, hml, hown, hts⟩ (kX3_likeliest l D ad cI g1 H.size x1 x2 x3) (cwV 3 hts gX8_guess_X3_likeliest rfl rfl rfl (by decide +kernel) ⟨Nat.le_of_ble_eq_true rfl, Nat.le_of_ble_eq_true rfl⟩) (g_preV hK hP hD (ci := 3) (q0 := 43) rfl rfl) rfl rfl hl.1 rfl (lv_room (Nat.le_of_ble_eq_true rfl)) dX8_guess_38 ⟨Nat.le_of_ble_eq_true rfl, Nat.le_of_ble_eq_true rfl⟩) (fun H locs hP hD hS => ?_)
  obtain ⟨g2, hg2⟩ : ∃ z : tG, z = fX3_likeliest_w g1 x1 x2 x3 := ⟨_, rfl⟩
  rw [← hg2] at hP hD
  have hw := eX8_guess_w1 g x0 x1 x2 x3 hg1 hg2
  have hP := w_P9 hw hP
  have hD := w_D9 hw hD
  exact g_iret hx hb hr rfl hlocks hK hP hD hS (eX8_guess_r1 g x0 x1 x2 x3 hg1 hg2).symm dX8_guess_41
