def fX7_add_w (g : tG) (x0 : Int32) (x1 : Int32) (x2 : Int32) (x3 : Int32) (x4 : Int32) : tG :=
  let g1 : tG := gP g 3 (g 45 2) x0
  let g2 : tG := gP g1 4 (g1 45 2) x1
  let g3 : tG := gP g2 5 (g2 45 2) x2
  let g4 : tG := gP g3 6 (g3 45 2) x3
  let g5 : tG := gP g4 7 (g4 45 2) x4
  let v1 : Int32 := (g5 45 2) + 1
  let g6 : tG := tc_sc g5 2 v1
  g6
set_option maxRecDepth 20000 in
theorem eX7_add_w1 (g : tG) (x0 : Int32) (x1 : Int32) (x2 : Int32) (x3 : Int32) (x4 : Int32) {g1 : tG} (hg1 : g1 = gP g 3 (g 45 2) x0) {g2 : tG} (hg2 : g2 = gP g1 4 (g1 45 2) x1) {g3 : tG} (hg3 : g3 = gP g2 5 (g2 45 2) x2) {g4 : tG} (hg4 : g4 = gP g3 6 (g3 45 2) x3) {g5 : tG} (hg5 : g5 = gP g4 7 (g4 45 2) x4) {v1 : Int32} (hv1 : v1 = (g5 45 2) + 1) {g6 : tG} (hg6 : g6 = tc_sc g5 2 v1) : fX7_add_w g x0 x1 x2 x3 x4 = g6 := by
  subst hg1
  subst hg2
  subst hg3
  subst hg4
  subst hg5
  subst hv1
  subst hg6
  exact rfl
theorem fjX7_add (g : tG) (x0 : Int32) (x1 : Int32) (x2 : Int32) (x3 : Int32) (x4 : Int32) (j : Nat) (h : j ∉ ([3, 4, 5, 6, 7, 45] : List Nat)) : fX7_add_w g x0 x1 x2 x3 x4 j = g j := by
  obtain ⟨g1, hg1⟩ : ∃ z : tG, z = gP g 3 (g 45 2) x0 := ⟨_, rfl⟩
  obtain ⟨g2, hg2⟩ : ∃ z : tG, z = gP g1 4 (g1 45 2) x1 := ⟨_, rfl⟩
  obtain ⟨g3, hg3⟩ : ∃ z : tG, z = gP g2 5 (g2 45 2) x2 := ⟨_, rfl⟩
  obtain ⟨g4, hg4⟩ : ∃ z : tG, z = gP g3 6 (g3 45 2) x3 := ⟨_, rfl⟩
  obtain ⟨g5, hg5⟩ : ∃ z : tG, z = gP g4 7 (g4 45 2) x4 := ⟨_, rfl⟩
  obtain ⟨v1, hv1⟩ : ∃ z : Int32, z = (g5 45 2) + 1 := ⟨_, rfl⟩
  obtain ⟨g6, hg6⟩ : ∃ z : tG, z = tc_sc g5 2 v1 := ⟨_, rfl⟩
  have qg1 : g1 j = g j := by rw [hg1]; exact gP_ne (fun e9 => h (by rw [e9]; decide))
  have qg2 : g2 j = g1 j := by rw [hg2]; exact gP_ne (fun e9 => h (by rw [e9]; decide))
  have qg3 : g3 j = g2 j := by rw [hg3]; exact gP_ne (fun e9 => h (by rw [e9]; decide))
  have qg4 : g4 j = g3 j := by rw [hg4]; exact gP_ne (fun e9 => h (by rw [e9]; decide))
  have qg5 : g5 j = g4 j := by rw [hg5]; exact gP_ne (fun e9 => h (by rw [e9]; decide))
  have qg6 : g6 j = g5 j := by rw [hg6]; exact sc_nj (fun e9 => h (by rw [e9]; decide))
  have hs := eX7_add_w1 g x0 x1 x2 x3 x4 hg1 hg2 hg3 hg4 hg5 hv1 hg6
  rw [hs]
  exact qg6.trans (qg5.trans (qg4.trans (qg3.trans (qg2.trans (qg1)))))
theorem fiX7_add (g : tG) (x0 : Int32) (x1 : Int32) (x2 : Int32) (x3 : Int32) (x4 : Int32) (k : Nat) (h : k ∉ ([2] : List Nat)) : fX7_add_w g x0 x1 x2 x3 x4 45 k = g 45 k := by
  obtain ⟨g1, hg1⟩ : ∃ z : tG, z = gP g 3 (g 45 2) x0 := ⟨_, rfl⟩
  obtain ⟨g2, hg2⟩ : ∃ z : tG, z = gP g1 4 (g1 45 2) x1 := ⟨_, rfl⟩
  obtain ⟨g3, hg3⟩ : ∃ z : tG, z = gP g2 5 (g2 45 2) x2 := ⟨_, rfl⟩
  obtain ⟨g4, hg4⟩ : ∃ z : tG, z = gP g3 6 (g3 45 2) x3 := ⟨_, rfl⟩
  obtain ⟨g5, hg5⟩ : ∃ z : tG, z = gP g4 7 (g4 45 2) x4 := ⟨_, rfl⟩
  obtain ⟨v1, hv1⟩ : ∃ z : Int32, z = (g5 45 2) + 1 := ⟨_, rfl⟩
  obtain ⟨g6, hg6⟩ : ∃ z : tG, z = tc_sc g5 2 v1 := ⟨_, rfl⟩
  have qg1 : g1 45 k = g 45 k := by rw [hg1]; exact congrFun (gP_ne (by decide)) k
  have qg2 : g2 45 k = g1 45 k := by rw [hg2]; exact congrFun (gP_ne (by decide)) k
  have qg3 : g3 45 k = g2 45 k := by rw [hg3]; exact congrFun (gP_ne (by decide)) k
  have qg4 : g4 45 k = g3 45 k := by rw [hg4]; exact congrFun (gP_ne (by decide)) k
  have qg5 : g5 45 k = g4 45 k := by rw [hg5]; exact congrFun (gP_ne (by decide)) k
  have qg6 : g6 45 k = g5 45 k := by rw [hg6]; exact sc_nk (fun e9 => h (by rw [e9]; decide))
  have hs := eX7_add_w1 g x0 x1 x2 x3 x4 hg1 hg2 hg3 hg4 hg5 hv1 hg6
  rw [hs]
  exact qg6.trans (qg5.trans (qg4.trans (qg3.trans (qg2.trans (qg1)))))
set_option maxHeartbeats 4000000 in
set_option maxRecDepth 100000 in
theorem kX7_add (l : Launch) (D : va_G) (ad : Nat → Nat) (cI : ClassId) (g : tG) (sz : Nat) (x0 : Int32) (x1 : Int32) (x2 : Int32) (x3 : Int32) (x4 : Int32) : Met l yX7_add wsX7_add ({ frames := 1, cells := 0, slots := 0, locals := 22 } : Room) (g_P D [(cI, .int)] (tcW ad cI g) [.ref (ad 8), .int x0, .int x1, .int x2, .int x3, .int x4] sz) (g_Qv D [(cI, .int)] (va_A (tcW ad cI g) sz) (tcW ad cI (fX7_add_w g x0 x1 x2 x3 x4))) 0 0 (va_A (tcW ad cI g) sz) := by
  refine Met.ofW (cc := cX7_add) (maxL := 6) (ret := none) (by decide) rfl ?_
  intro p e s m args below meth c9 s₁ B hml hv
  obtain ⟨rfl, hsz, hP, hK, hD0⟩ := hv
  have hx := B.exec
  have hb := B.bytes
  have hr := B.returns
  have hts := atoms_spec (ws := wsX7_add) B.pre
  have hown : s.vm.findClass RX7 = some m.cls := findClass_of_methodNamed B.named
  have hlocks := B.notSynchronized
  subst hsz
  have hD := hD0.self (sz := s.heap.size)
  generalize hAe : va_A (tcW ad cI g) s.heap.size = A at hD ⊢
  have hA : ∀ q : Nat, s.heap.size ≤ q → A q := fun q h => by rw [← hAe]; exact Or.inr h
  have hS : va_S A s.heap s.heap [] := va_S.rf
  have hl := lv_entry ([.ref (ad 8), .int x0, .int x1, .int x2, .int x3, .int x4]) (n := 6) (Nat.le_of_ble_eq_true rfl)
  rw [lg_entry_eq]
  generalize (lg_sl ([.ref (ad 8), .int x0, .int x1, .int x2, .int x3, .int x4]) ++ List.replicate (6 - (lg_sl ([.ref (ad 8), .int x0, .int x1, .int x2, .int x3, .int x4])).length) Slot.unset).toArray = ls at hl ⊢
  have hl : lv_has ls 6 [(0, .ref (ad 8)), (1, .int x0), (2, .int x1), (3, .int x2), (4, .int x3), (5, .int x4)] := hl
  have winX5 : ∀ w ∈ u_ws RX5 TX5 1, w ∈ wsX7_add := by decide +kernel
  have winX7 : ∀ w ∈ u_ws RX7 TX7 6, w ∈ wsX7_add := by decide +kernel
  refine lv_aload_n hx hb dX7_add_0 rfl (lv_at hl 0 rfl) ?_
  refine va_get (D := D) (ci := 7) (v := .ref (ad 9)) (C := RX7) (T := TX7) (N := 6) hx hb hts winX7 hown hK hP 8 rfl rfl 0 (by decide) (hts (.fieldLink RX7 14 "TapCap$Tariffs" "since" "LTapCap$Row;") (List.mem_of_getElem? (i := 1) rfl)) (fun _ h9 => h9) rfl dX7_add_1 ?_
  refine lv_aload_n hx hb dX7_add_4 rfl (lv_at hl 0 rfl) ?_
  refine va_get (D := D) (ci := 7) (v := .int (g 45 2)) (C := RX7) (T := TX7) (N := 6) hx hb hts winX7 hown hK hP 8 rfl rfl 5 (by decide) (hts (.fieldLink RX7 32 "TapCap$Tariffs" "count" "I") (List.mem_of_getElem? (i := 2) rfl)) (fun _ h9 => h9) rfl dX7_add_5 ?_
  refine lv_iload_n hx hb dX7_add_8 rfl (lv_at hl 1 rfl) ?_
  refine g_kv hK hD hS hA (va_runV (As := [.int (g 45 2), .int x0]) (rest := []) ⟨hx, hb, hml, hown, hts⟩ (k_tc_put l D ad cI g s.heap.size 3 (by decide) (g 45 2) x0) (cwV 2 hts gX7_add_X5_put rfl rfl rfl (by decide +kernel) ⟨Nat.le_of_ble_eq_true rfl, Nat.le_of_ble_eq_true rfl⟩) (g_preV hK hP hD (ci := 5) (q0 := 9) rfl rfl) rfl rfl hl.1 rfl (lv_room (Nat.le_of_ble_eq_true rfl)) dX7_add_9 ⟨Nat.le_of_ble_eq_true rfl, Nat.le_of_ble_eq_true rfl⟩) (fun H locs hP hD hS => ?_)
  obtain ⟨g1, hg1⟩ : ∃ z : tG, z = gP g 3 (g 45 2) x0 := ⟨_, rfl⟩
  rw [← hg1] at hP hD
  refine lv_aload_n hx hb dX7_add_12 rfl (lv_at hl 0 rfl) ?_
  refine va_get (D := D) (ci := 7) (v := .ref (ad 11)) (C := RX7) (T := TX7) (N := 6) hx hb hts winX7 hown hK hP 8 rfl rfl 1 (by decide) (hts (.fieldLink RX7 20 "TapCap$Tariffs" "base" "LTapCap$Row;") (List.mem_of_getElem? (i := 3) rfl)) (fun _ h9 => h9) rfl dX7_add_13 ?_
  refine lv_aload_n hx hb dX7_add_16 rfl (lv_at hl 0 rfl) ?_
  refine va_get (D := D) (ci := 7) (v := .int (g1 45 2)) (C := RX7) (T := TX7) (N := 6) hx hb hts winX7 hown hK hP 8 rfl rfl 5 (by decide) (hts (.fieldLink RX7 32 "TapCap$Tariffs" "count" "I") (List.mem_of_getElem? (i := 2) rfl)) (fun _ h9 => h9) rfl dX7_add_17 ?_
  refine lv_iload_n hx hb dX7_add_20 rfl (lv_at hl 2 rfl) ?_
  refine g_kv hK hD hS hA (va_runV (As := [.int (g1 45 2), .int x1]) (rest := []) ⟨hx, hb, hml, hown, hts⟩ (k_tc_put l D ad cI g1 H.size 4 (by decide) (g1 45 2) x1) (cwV 2 hts gX7_add_X5_put rfl rfl rfl (by decide +kernel) ⟨Nat.le_of_ble_eq_true rfl, Nat.le_of_ble_eq_true rfl⟩) (g_preV hK hP hD (ci := 5) (q0 := 11) rfl rfl) rfl rfl hl.1 rfl (lv_room (Nat.le_of_ble_eq_true rfl)) dX7_add_21 ⟨Nat.le_of_ble_eq_true rfl, Nat.le_of_ble_eq_true rfl⟩) (fun H locs hP hD hS => ?_)
  obtain ⟨g2, hg2⟩ : ∃ z : tG, z = gP g1 4 (g1 45 2) x1 := ⟨_, rfl⟩
  rw [← hg2] at hP hD
  refine lv_aload_n hx hb dX7_add_24 rfl (lv_at hl 0 rfl) ?_
  refine va_get (D := D) (ci := 7) (v := .ref (ad 13)) (C := RX7) (T := TX7) (N := 6) hx hb hts winX7 hown hK hP 8 rfl rfl 2 (by decide) (hts (.fieldLink RX7 23 "TapCap$Tariffs" "step" "LTapCap$Row;") (List.mem_of_getElem? (i := 4) rfl)) (fun _ h9 => h9) rfl dX7_add_25 ?_
  refine lv_aload_n hx hb dX7_add_28 rfl (lv_at hl 0 rfl) ?_
  refine va_get (D := D) (ci := 7) (v := .int (g2 45 2)) (C := RX7) (T := TX7) (N := 6) hx hb hts winX7 hown hK hP 8 rfl rfl 5 (by decide) (hts (.fieldLink RX7 32 "TapCap$Tariffs" "count" "I") (List.mem_of_getElem? (i := 2) rfl)) (fun _ h9 => h9) rfl dX7_add_29 ?_
  refine lv_iload_n hx hb dX7_add_32 rfl (lv_at hl 3 rfl) ?_
  refine g_kv hK hD hS hA (va_runV (As := [.int (g2 45 2), .int x2]) (rest := []) ⟨hx, hb, hml, hown, hts⟩ (k_tc_put l D ad cI g2 H.size 5 (by decide) (g2 45 2) x2) (cwV 2 hts gX7_add_X5_put rfl rfl rfl (by decide +kernel) ⟨Nat.le_of_ble_eq_true rfl, Nat.le_of_ble_eq_true rfl⟩) (g_preV hK hP hD (ci := 5) (q0 := 13) rfl rfl) rfl rfl hl.1 rfl (lv_room (Nat.le_of_ble_eq_true rfl)) dX7_add_33 ⟨Nat.le_of_ble_eq_true rfl, Nat.le_of_ble_eq_true rfl⟩) (fun H locs hP hD hS => ?_)
  obtain ⟨g3, hg3⟩ : ∃ z : tG, z = gP g2 5 (g2 45 2) x2 := ⟨_, rfl⟩
  rw [← hg3] at hP hD
  refine lv_aload_n hx hb dX7_add_36 rfl (lv_at hl 0 rfl) ?_
  refine va_get (D := D) (ci := 7) (v := .ref (ad 15)) (C := RX7) (T := TX7) (N := 6) hx hb hts winX7 hown hK hP 8 rfl rfl 3 (by decide) (hts (.fieldLink RX7 26 "TapCap$Tariffs" "ticket" "LTapCap$Row;") (List.mem_of_getElem? (i := 5) rfl)) (fun _ h9 => h9) rfl dX7_add_37 ?_
  refine lv_aload_n hx hb dX7_add_40 rfl (lv_at hl 0 rfl) ?_
  refine va_get (D := D) (ci := 7) (v := .int (g3 45 2)) (C := RX7) (T := TX7) (N := 6) hx hb hts winX7 hown hK hP 8 rfl rfl 5 (by decide) (hts (.fieldLink RX7 32 "TapCap$Tariffs" "count" "I") (List.mem_of_getElem? (i := 2) rfl)) (fun _ h9 => h9) rfl dX7_add_41 ?_
  refine lv_iload hx hb dX7_add_44 (lv_at hl 4 rfl) ?_
  refine g_kv hK hD hS hA (va_runV (As := [.int (g3 45 2), .int x3]) (rest := []) ⟨hx, hb, hml, hown, hts⟩ (k_tc_put l D ad cI g3 H.size 6 (by decide) (g3 45 2) x3) (cwV 2 hts gX7_add_X5_put rfl rfl rfl (by decide +kernel) ⟨Nat.le_of_ble_eq_true rfl, Nat.le_of_ble_eq_true rfl⟩) (g_preV hK hP hD (ci := 5) (q0 := 15) rfl rfl) rfl rfl hl.1 rfl (lv_room (Nat.le_of_ble_eq_true rfl)) dX7_add_46 ⟨Nat.le_of_ble_eq_true rfl, Nat.le_of_ble_eq_true rfl⟩) (fun H locs hP hD hS => ?_)
  obtain ⟨g4, hg4⟩ : ∃ z : tG, z = gP g3 6 (g3 45 2) x3 := ⟨_, rfl⟩
  rw [← hg4] at hP hD
  refine lv_aload_n hx hb dX7_add_49 rfl (lv_at hl 0 rfl) ?_
  refine va_get (D := D) (ci := 7) (v := .ref (ad 17)) (C := RX7) (T := TX7) (N := 6) hx hb hts winX7 hown hK hP 8 rfl rfl 4 (by decide) (hts (.fieldLink RX7 29 "TapCap$Tariffs" "weekly" "LTapCap$Row;") (List.mem_of_getElem? (i := 6) rfl)) (fun _ h9 => h9) rfl dX7_add_50 ?_
  refine lv_aload_n hx hb dX7_add_53 rfl (lv_at hl 0 rfl) ?_
  refine va_get (D := D) (ci := 7) (v := .int (g4 45 2)) (C := RX7) (T := TX7) (N := 6) hx hb hts winX7 hown hK hP 8 rfl rfl 5 (by decide) (hts (.fieldLink RX7 32 "TapCap$Tariffs" "count" "I") (List.mem_of_getElem? (i := 2) rfl)) (fun _ h9 => h9) rfl dX7_add_54 ?_
  refine lv_iload hx hb dX7_add_57 (lv_at hl 5 rfl) ?_
  refine g_kv hK hD hS hA (va_runV (As := [.int (g4 45 2), .int x4]) (rest := []) ⟨hx, hb, hml, hown, hts⟩ (k_tc_put l D ad cI g4 H.size 7 (by decide) (g4 45 2) x4) (cwV 2 hts gX7_add_X5_put rfl rfl rfl (by decide +kernel) ⟨Nat.le_of_ble_eq_true rfl, Nat.le_of_ble_eq_true rfl⟩) (g_preV hK hP hD (ci := 5) (q0 := 17) rfl rfl) rfl rfl hl.1 rfl (lv_room (Nat.le_of_ble_eq_true rfl)) dX7_add_59 ⟨Nat.le_of_ble_eq_true rfl, Nat.le_of_ble_eq_true rfl⟩) (fun H locs hP hD hS => ?_)
  obtain ⟨g5, hg5⟩ : ∃ z : tG, z = gP g4 7 (g4 45 2) x4 := ⟨_, rfl⟩
  rw [← hg5] at hP hD
  refine lv_aload_n hx hb dX7_add_62 rfl (lv_at hl 0 rfl) ?_
  refine lv_dup hx hb dX7_add_63 rfl ?_
  refine va_get (D := D) (ci := 7) (v := .int (g5 45 2)) (C := RX7) (T := TX7) (N := 6) hx hb hts winX7 hown hK hP 8 rfl rfl 5 (by decide) (hts (.fieldLink RX7 32 "TapCap$Tariffs" "count" "I") (List.mem_of_getElem? (i := 2) rfl)) (fun _ h9 => h9) rfl dX7_add_64 ?_
  refine lv_iconst (v := 1) hx hb dX7_add_67 (by decide) ?_
  refine lv_iadd hx hb dX7_add_68 ?_
  refine lv_topi (fun v1 hv1 => ?_)
  refine va_put (D := D) (ci := 7) (v := .int v1) (ty := .int) (C := RX7) (T := TX7) (N := 6) hx hb hts winX7 tyX7 tyX7_ok nmX7 hown hK hP hD hS 8 rfl rfl 5 (by decide) (hts (.fieldLink RX7 32 "TapCap$Tariffs" "count" "I") (List.mem_of_getElem? (i := 2) rfl)) (fun _ h9 => h9) rfl (by decide +kernel) rfl rfl (Nat.le_of_ble_eq_true rfl) dX7_add_69 (fun H locs hP hD hS => ?_)
  have hP := tc_sP_2 hP
  have hD := tc_sD_2 hD
  obtain ⟨g6, hg6⟩ : ∃ z : tG, z = tc_sc g5 2 v1 := ⟨_, rfl⟩
  rw [← hg6] at hP hD
  have hw := eX7_add_w1 g x0 x1 x2 x3 x4 hg1 hg2 hg3 hg4 hg5 hv1 hg6
  have hP := w_P9 hw hP
  have hD := w_D9 hw hD
  exact g_vret hx hb hr hlocks hK hP hD hS dX7_add_72
def sX7_indexFor_7 (g : tG) (x0 : Int32) : Int32 → Int32 ⊕ Int32 := fun i1 =>
  if i1 ≤ 0 then
    .inr 0
  else
    if x0 < (gA g 3 i1) then
      .inl (i1 + (-1))
    else
      .inr i1
set_option maxRecDepth 20000 in
theorem eX7_indexFor_7_1 (g : tG) (x0 : Int32) (i1 : Int32) (c1 : i1 ≤ 0) : sX7_indexFor_7 g x0 i1 = .inr 0 := by
  exact (if_pos c1).trans rfl
set_option maxRecDepth 20000 in
theorem eX7_indexFor_7_2 (g : tG) (x0 : Int32) (i1 : Int32) (c1 : ¬ (i1 ≤ 0)) (c2 : x0 < (gA g 3 i1)) : sX7_indexFor_7 g x0 i1 = .inl (i1 + (-1)) := by
  exact (if_neg c1).trans ((if_pos c2).trans rfl)
set_option maxRecDepth 20000 in
theorem eX7_indexFor_7_3 (g : tG) (x0 : Int32) (i1 : Int32) (c1 : ¬ (i1 ≤ 0)) (c2 : ¬ (x0 < (gA g 3 i1))) : sX7_indexFor_7 g x0 i1 = .inr i1 := by
  exact (if_neg c1).trans ((if_neg c2).trans rfl)
theorem tX7_indexFor_7 (g : tG) (x0 : Int32) (i1z : Int32) : lrE (sX7_indexFor_7 g x0) (nn i1z + 1) i1z := by
  refine lrE_dn (fun i => i) ?_ _ _ (nn_dn _)
  intro i1 τ h9
  by_cases c1 : i1 ≤ 0
  · have hs := eX7_indexFor_7_1 g x0 i1 c1
    rw [hs] at h9
    exact absurd h9 (fun q => by cases q)
  · by_cases c2 : x0 < (gA g 3 i1)
    · have hs := eX7_indexFor_7_2 g x0 i1 c1 c2
      rw [hs] at h9
      have e9 := Sum.inl.inj h9
      subst e9
      exact ⟨not_le32 c1, rfl⟩
    · have hs := eX7_indexFor_7_3 g x0 i1 c1 c2
      rw [hs] at h9
      exact absurd h9 (fun q => by cases q)
def fX7_indexFor_r (g : tG) (x0 : Int32) : Int32 :=
  let v1 : Int32 := (g 45 2) - 1
  lr (sX7_indexFor_7 g x0) 0 (nn v1 + 1) v1
set_option maxRecDepth 20000 in
theorem eX7_indexFor_r1 (g : tG) (x0 : Int32) {v1 : Int32} (hv1 : v1 = (g 45 2) - 1) : fX7_indexFor_r g x0 = lr (sX7_indexFor_7 g x0) 0 (nn v1 + 1) v1 := by
  subst hv1
  exact rfl
set_option maxHeartbeats 4000000 in
set_option maxRecDepth 100000 in
theorem kX7_indexFor (l : Launch) (D : va_G) (ad : Nat → Nat) (cI : ClassId) (g : tG) (sz : Nat) (x0 : Int32) : Met l yX7_indexFor wsX7_indexFor ({ frames := 1, cells := 0, slots := 0, locals := 21 } : Room) (g_P D [(cI, .int)] (tcW ad cI g) [.ref (ad 8), .int x0] sz) (g_Qi D [(cI, .int)] (va_A (tcW ad cI g) sz) (tcW ad cI g) (fX7_indexFor_r g x0)) 0 0 (va_A (tcW ad cI g) sz) := by
  refine Met.ofW (cc := cX7_indexFor) (maxL := 3) (ret := (some .int)) (by decide) rfl ?_
  intro p e s m args below meth c9 s₁ B hml hv
  obtain ⟨rfl, hsz, hP, hK, hD0⟩ := hv
  have hx := B.exec
  have hb := B.bytes
  have hr := B.returns
  have hts := atoms_spec (ws := wsX7_indexFor) B.pre
  have hown : s.vm.findClass RX7 = some m.cls := findClass_of_methodNamed B.named
  have hlocks := B.notSynchronized
  subst hsz
  have hD := hD0.self (sz := s.heap.size)
  generalize hAe : va_A (tcW ad cI g) s.heap.size = A at hD ⊢
  have hA : ∀ q : Nat, s.heap.size ≤ q → A q := fun q h => by rw [← hAe]; exact Or.inr h
  have hS : va_S A s.heap s.heap [] := va_S.rf
  have hl := lv_entry ([.ref (ad 8), .int x0]) (n := 3) (Nat.le_of_ble_eq_true rfl)
  rw [lg_entry_eq]
  generalize (lg_sl ([.ref (ad 8), .int x0]) ++ List.replicate (3 - (lg_sl ([.ref (ad 8), .int x0])).length) Slot.unset).toArray = ls at hl ⊢
  have hl : lv_has ls 3 [(0, .ref (ad 8)), (1, .int x0)] := hl
  have winX5 : ∀ w ∈ u_ws RX5 TX5 1, w ∈ wsX7_indexFor := by decide +kernel
  have winX7 : ∀ w ∈ u_ws RX7 TX7 6, w ∈ wsX7_indexFor := by decide +kernel
  refine lv_aload_n hx hb dX7_indexFor_0 rfl (lv_at hl 0 rfl) ?_
  refine va_get (D := D) (ci := 7) (v := .int (g 45 2)) (C := RX7) (T := TX7) (N := 6) hx hb hts winX7 hown hK hP 8 rfl rfl 5 (by decide) (hts (.fieldLink RX7 32 "TapCap$Tariffs" "count" "I") (List.mem_of_getElem? (i := 1) rfl)) (fun _ h9 => h9) rfl dX7_indexFor_1 ?_
  refine lv_iconst (v := 1) hx hb dX7_indexFor_4 (by decide) ?_
  refine lv_isub hx hb dX7_indexFor_5 ?_
  refine lv_topi (fun v1 hv1 => ?_)
  refine lv_istore_n (lv' := [(2, .int v1), (0, .ref (ad 8)), (1, .int x0)]) hx hb dX7_indexFor_6 rfl hl (by decide) rfl (fun ls hl => ?_)
  have hf := eX7_indexFor_r1 g x0 hv1
  have loop : ∀ (n : Nat) (i1 : Int32), lrE (sX7_indexFor_7 g x0) n i1 → fX7_indexFor_r g x0 = lr (sX7_indexFor_7 g x0) 0 n i1 → ∀ (H : Heap) (locs : List Loc), va_P D vwCl (tcW ad cI g) H → va_D A (tcW ad cI g) → va_S A s.heap H locs → ∀ (ls : Array Slot), lv_has ls 3 [(2, .int i1), (0, .ref (ad 8)), (1, .int x0)] → W p l e (headSpec wsX7_indexFor ({ frames := 1, cells := 0, slots := 0, locals := 21 } : Room)).room s m ([.ref (ad 8), .int x0] : List Value).toArray below meth c9 H locs 0 0 (MQ below (g_Qi D [(cI, .int)] A (tcW ad cI g) (fX7_indexFor_r g x0)) ([.ref (ad 8), .int x0] : List Value).toArray s 0 0 A) (F0 m 7 ls []) := by
    refine lp_ind ?_
    intro n ih i1 hE hf H locs hP hD hS ls hl
    refine lv_iload_n hx hb dX7_indexFor_7 rfl (lv_at hl 0 rfl) ?_
    refine lv_if_le (tgt := 31) hx hb dX7_indexFor_8 (by decide) (fun c1 => ?_) (fun c1 => ?_)
    · refine lv_iconst (v := 0) hx hb dX7_indexFor_31 (by decide) ?_
      have hs := eX7_indexFor_7_1 g x0 i1 c1
      exact g_iret hx hb hr rfl hlocks hK hP hD hS ((hf.trans (lr_end hE hs)).symm) dX7_indexFor_32
    · refine lv_aload_n hx hb dX7_indexFor_11 rfl (lv_at hl 1 rfl) ?_
      refine va_get (D := D) (ci := 7) (v := .ref (ad 9)) (C := RX7) (T := TX7) (N := 6) hx hb hts winX7 hown hK hP 8 rfl rfl 0 (by decide) (hts (.fieldLink RX7 14 "TapCap$Tariffs" "since" "LTapCap$Row;") (List.mem_of_getElem? (i := 2) rfl)) (fun _ h9 => h9) rfl dX7_indexFor_12 ?_
      refine lv_iload_n hx hb dX7_indexFor_15 rfl (lv_at hl 0 rfl) ?_
      refine g_ki hK hD hS hA (va_runV (As := [.int i1]) (rest := []) ⟨hx, hb, hml, hown, hts⟩ (k_tc_at l D ad cI g H.size 3 (by decide) i1) (cwV 1 hts gX7_indexFor_X5_at rfl rfl rfl (by decide +kernel) ⟨Nat.le_of_ble_eq_true rfl, Nat.le_of_ble_eq_true rfl⟩) (g_preV hK hP hD (ci := 5) (q0 := 9) rfl rfl) rfl rfl hl.1 rfl (lv_room (Nat.le_of_ble_eq_true rfl)) dX7_indexFor_16 ⟨Nat.le_of_ble_eq_true rfl, Nat.le_of_ble_eq_true rfl⟩) (fun H locs hP hD hS => ?_)
      refine lv_iload_n hx hb dX7_indexFor_19 rfl (lv_at hl 2 rfl) ?_
      refine lv_icmp_gt (tgt := 25) hx hb dX7_indexFor_20 (by decide) (fun c2 => ?_) (fun c2 => ?_)
      · refine lv_iinc (v := i1 + (-1)) (lv' := [(2, .int (i1 + (-1))), (0, .ref (ad 8)), (1, .int x0)]) hx hb dX7_indexFor_25 hl (k := 0) rfl rfl (by decide) rfl (fun ls hl => ?_)
        refine lv_goto (tgt := 7) hx hb dX7_indexFor_28 (by decide) ?_
        have hs := eX7_indexFor_7_2 g x0 i1 c1 c2
        obtain ⟨n9, hn9, hE9, hr9⟩ := lrE_next (d := 0) hE hs
        exact ih n9 (by omega) (i1 + (-1)) hE9 (hf.trans hr9) H locs hP hD hS ls (lv_sub hl [0, 1, 2] rfl)
      · refine lv_iload_n hx hb dX7_indexFor_23 rfl (lv_at hl 0 rfl) ?_
        have hs := eX7_indexFor_7_3 g x0 i1 c1 c2
        exact g_iret hx hb hr rfl hlocks hK hP hD hS ((hf.trans (lr_end hE hs)).symm) dX7_indexFor_24
  exact loop _ _ (tX7_indexFor_7 g x0 v1) hf _ _ hP hD hS ls hl
def fX7_fare_r (g : tG) (x0 : Int32) (x1 : Int32) : Int32 :=
  (gA g 4 x0) + ((x1 - 1) * (gA g 5 x0))
set_option maxRecDepth 20000 in
theorem eX7_fare_r1 (g : tG) (x0 : Int32) (x1 : Int32) : fX7_fare_r g x0 x1 = (gA g 4 x0) + ((x1 - 1) * (gA g 5 x0)) := by
  exact rfl
set_option maxHeartbeats 4000000 in
set_option maxRecDepth 100000 in
theorem kX7_fare (l : Launch) (D : va_G) (ad : Nat → Nat) (cI : ClassId) (g : tG) (sz : Nat) (x0 : Int32) (x1 : Int32) : Met l yX7_fare wsX7_fare ({ frames := 1, cells := 0, slots := 0, locals := 21 } : Room) (g_P D [(cI, .int)] (tcW ad cI g) [.ref (ad 8), .int x0, .int x1] sz) (g_Qi D [(cI, .int)] (va_A (tcW ad cI g) sz) (tcW ad cI g) (fX7_fare_r g x0 x1)) 0 0 (va_A (tcW ad cI g) sz) := by
  refine Met.ofW (cc := cX7_fare) (maxL := 3) (ret := (some .int)) (by decide) rfl ?_
  intro p e s m args below meth c9 s₁ B hml hv
  obtain ⟨rfl, hsz, hP, hK, hD0⟩ := hv
  have hx := B.exec
  have hb := B.bytes
  have hr := B.returns
  have hts := atoms_spec (ws := wsX7_fare) B.pre
  have hown : s.vm.findClass RX7 = some m.cls := findClass_of_methodNamed B.named
  have hlocks := B.notSynchronized
  subst hsz
  have hD := hD0.self (sz := s.heap.size)
  generalize hAe : va_A (tcW ad cI g) s.heap.size = A at hD ⊢
  have hA : ∀ q : Nat, s.heap.size ≤ q → A q := fun q h => by rw [← hAe]; exact Or.inr h
  have hS : va_S A s.heap s.heap [] := va_S.rf
  have hl := lv_entry ([.ref (ad 8), .int x0, .int x1]) (n := 3) (Nat.le_of_ble_eq_true rfl)
  rw [lg_entry_eq]
  generalize (lg_sl ([.ref (ad 8), .int x0, .int x1]) ++ List.replicate (3 - (lg_sl ([.ref (ad 8), .int x0, .int x1])).length) Slot.unset).toArray = ls at hl ⊢
  have hl : lv_has ls 3 [(0, .ref (ad 8)), (1, .int x0), (2, .int x1)] := hl
  have winX5 : ∀ w ∈ u_ws RX5 TX5 1, w ∈ wsX7_fare := by decide +kernel
  have winX7 : ∀ w ∈ u_ws RX7 TX7 6, w ∈ wsX7_fare := by decide +kernel
  refine lv_aload_n hx hb dX7_fare_0 rfl (lv_at hl 0 rfl) ?_
  refine va_get (D := D) (ci := 7) (v := .ref (ad 11)) (C := RX7) (T := TX7) (N := 6) hx hb hts winX7 hown hK hP 8 rfl rfl 1 (by decide) (hts (.fieldLink RX7 20 "TapCap$Tariffs" "base" "LTapCap$Row;") (List.mem_of_getElem? (i := 1) rfl)) (fun _ h9 => h9) rfl dX7_fare_1 ?_
  refine lv_iload_n hx hb dX7_fare_4 rfl (lv_at hl 1 rfl) ?_
  refine g_ki hK hD hS hA (va_runV (As := [.int x0]) (rest := []) ⟨hx, hb, hml, hown, hts⟩ (k_tc_at l D ad cI g s.heap.size 4 (by decide) x0) (cwV 1 hts gX7_fare_X5_at rfl rfl rfl (by decide +kernel) ⟨Nat.le_of_ble_eq_true rfl, Nat.le_of_ble_eq_true rfl⟩) (g_preV hK hP hD (ci := 5) (q0 := 11) rfl rfl) rfl rfl hl.1 rfl (lv_room (Nat.le_of_ble_eq_true rfl)) dX7_fare_5 ⟨Nat.le_of_ble_eq_true rfl, Nat.le_of_ble_eq_true rfl⟩) (fun H locs hP hD hS => ?_)
  refine lv_iload_n hx hb dX7_fare_8 rfl (lv_at hl 2 rfl) ?_
  refine lv_iconst (v := 1) hx hb dX7_fare_9 (by decide) ?_
  refine lv_isub hx hb dX7_fare_10 ?_
  refine lv_aload_n hx hb dX7_fare_11 rfl (lv_at hl 0 rfl) ?_
  refine va_get (D := D) (ci := 7) (v := .ref (ad 13)) (C := RX7) (T := TX7) (N := 6) hx hb hts winX7 hown hK hP 8 rfl rfl 2 (by decide) (hts (.fieldLink RX7 23 "TapCap$Tariffs" "step" "LTapCap$Row;") (List.mem_of_getElem? (i := 2) rfl)) (fun _ h9 => h9) rfl dX7_fare_12 ?_
  refine lv_iload_n hx hb dX7_fare_15 rfl (lv_at hl 1 rfl) ?_
  refine g_ki hK hD hS hA (va_runV (As := [.int x0]) (rest := [.int (x1 - 1), .int (gA g 4 x0)]) ⟨hx, hb, hml, hown, hts⟩ (k_tc_at l D ad cI g H.size 5 (by decide) x0) (cwV 1 hts gX7_fare_X5_at rfl rfl rfl (by decide +kernel) ⟨Nat.le_of_ble_eq_true rfl, Nat.le_of_ble_eq_true rfl⟩) (g_preV hK hP hD (ci := 5) (q0 := 13) rfl rfl) rfl rfl hl.1 rfl (lv_room (Nat.le_of_ble_eq_true rfl)) dX7_fare_16 ⟨Nat.le_of_ble_eq_true rfl, Nat.le_of_ble_eq_true rfl⟩) (fun H locs hP hD hS => ?_)
  refine lv_imul hx hb dX7_fare_19 ?_
  refine lv_iadd hx hb dX7_fare_20 ?_
  exact g_iret hx hb hr rfl hlocks hK hP hD hS (eX7_fare_r1 g x0 x1 ).symm dX7_fare_21
def fX7_dayTicket_r (g : tG) (x0 : Int32) (x1 : Int32) : Int32 :=
  (gA g 6 x0) + (((x1 - 1) * 2) * (gA g 5 x0))
set_option maxRecDepth 20000 in
theorem eX7_dayTicket_r1 (g : tG) (x0 : Int32) (x1 : Int32) : fX7_dayTicket_r g x0 x1 = (gA g 6 x0) + (((x1 - 1) * 2) * (gA g 5 x0)) := by
  exact rfl
set_option maxHeartbeats 4000000 in
set_option maxRecDepth 100000 in
theorem kX7_dayTicket (l : Launch) (D : va_G) (ad : Nat → Nat) (cI : ClassId) (g : tG) (sz : Nat) (x0 : Int32) (x1 : Int32) : Met l yX7_dayTicket wsX7_dayTicket ({ frames := 1, cells := 0, slots := 0, locals := 21 } : Room) (g_P D [(cI, .int)] (tcW ad cI g) [.ref (ad 8), .int x0, .int x1] sz) (g_Qi D [(cI, .int)] (va_A (tcW ad cI g) sz) (tcW ad cI g) (fX7_dayTicket_r g x0 x1)) 0 0 (va_A (tcW ad cI g) sz) := by
  refine Met.ofW (cc := cX7_dayTicket) (maxL := 3) (ret := (some .int)) (by decide) rfl ?_
  intro p e s m args below meth c9 s₁ B hml hv
  obtain ⟨rfl, hsz, hP, hK, hD0⟩ := hv
  have hx := B.exec
  have hb := B.bytes
  have hr := B.returns
  have hts := atoms_spec (ws := wsX7_dayTicket) B.pre
  have hown : s.vm.findClass RX7 = some m.cls := findClass_of_methodNamed B.named
  have hlocks := B.notSynchronized
  subst hsz
  have hD := hD0.self (sz := s.heap.size)
  generalize hAe : va_A (tcW ad cI g) s.heap.size = A at hD ⊢
  have hA : ∀ q : Nat, s.heap.size ≤ q → A q := fun q h => by rw [← hAe]; exact Or.inr h
  have hS : va_S A s.heap s.heap [] := va_S.rf
  have hl := lv_entry ([.ref (ad 8), .int x0, .int x1]) (n := 3) (Nat.le_of_ble_eq_true rfl)
  rw [lg_entry_eq]
  generalize (lg_sl ([.ref (ad 8), .int x0, .int x1]) ++ List.replicate (3 - (lg_sl ([.ref (ad 8), .int x0, .int x1])).length) Slot.unset).toArray = ls at hl ⊢
  have hl : lv_has ls 3 [(0, .ref (ad 8)), (1, .int x0), (2, .int x1)] := hl
  have winX5 : ∀ w ∈ u_ws RX5 TX5 1, w ∈ wsX7_dayTicket := by decide +kernel
  have winX7 : ∀ w ∈ u_ws RX7 TX7 6, w ∈ wsX7_dayTicket := by decide +kernel
  refine lv_aload_n hx hb dX7_dayTicket_0 rfl (lv_at hl 0 rfl) ?_
  refine va_get (D := D) (ci := 7) (v := .ref (ad 15)) (C := RX7) (T := TX7) (N := 6) hx hb hts winX7 hown hK hP 8 rfl rfl 3 (by decide) (hts (.fieldLink RX7 26 "TapCap$Tariffs" "ticket" "LTapCap$Row;") (List.mem_of_getElem? (i := 1) rfl)) (fun _ h9 => h9) rfl dX7_dayTicket_1 ?_
  refine lv_iload_n hx hb dX7_dayTicket_4 rfl (lv_at hl 1 rfl) ?_
  refine g_ki hK hD hS hA (va_runV (As := [.int x0]) (rest := []) ⟨hx, hb, hml, hown, hts⟩ (k_tc_at l D ad cI g s.heap.size 6 (by decide) x0) (cwV 1 hts gX7_dayTicket_X5_at rfl rfl rfl (by decide +kernel) ⟨Nat.le_of_ble_eq_true rfl, Nat.le_of_ble_eq_true rfl⟩) (g_preV hK hP hD (ci := 5) (q0 := 15) rfl rfl) rfl rfl hl.1 rfl (lv_room (Nat.le_of_ble_eq_true rfl)) dX7_dayTicket_5 ⟨Nat.le_of_ble_eq_true rfl, Nat.le_of_ble_eq_true rfl⟩) (fun H locs hP hD hS => ?_)
  refine lv_iload_n hx hb dX7_dayTicket_8 rfl (lv_at hl 2 rfl) ?_
  refine lv_iconst (v := 1) hx hb dX7_dayTicket_9 (by decide) ?_
  refine lv_isub hx hb dX7_dayTicket_10 ?_
  refine lv_iconst (v := 2) hx hb dX7_dayTicket_11 (by decide) ?_
  refine lv_imul hx hb dX7_dayTicket_12 ?_
  refine lv_aload_n hx hb dX7_dayTicket_13 rfl (lv_at hl 0 rfl) ?_
  refine va_get (D := D) (ci := 7) (v := .ref (ad 13)) (C := RX7) (T := TX7) (N := 6) hx hb hts winX7 hown hK hP 8 rfl rfl 2 (by decide) (hts (.fieldLink RX7 23 "TapCap$Tariffs" "step" "LTapCap$Row;") (List.mem_of_getElem? (i := 2) rfl)) (fun _ h9 => h9) rfl dX7_dayTicket_14 ?_
  refine lv_iload_n hx hb dX7_dayTicket_17 rfl (lv_at hl 1 rfl) ?_
  refine g_ki hK hD hS hA (va_runV (As := [.int x0]) (rest := [.int ((x1 - 1) * 2), .int (gA g 6 x0)]) ⟨hx, hb, hml, hown, hts⟩ (k_tc_at l D ad cI g H.size 5 (by decide) x0) (cwV 1 hts gX7_dayTicket_X5_at rfl rfl rfl (by decide +kernel) ⟨Nat.le_of_ble_eq_true rfl, Nat.le_of_ble_eq_true rfl⟩) (g_preV hK hP hD (ci := 5) (q0 := 13) rfl rfl) rfl rfl hl.1 rfl (lv_room (Nat.le_of_ble_eq_true rfl)) dX7_dayTicket_18 ⟨Nat.le_of_ble_eq_true rfl, Nat.le_of_ble_eq_true rfl⟩) (fun H locs hP hD hS => ?_)
  refine lv_imul hx hb dX7_dayTicket_21 ?_
  refine lv_iadd hx hb dX7_dayTicket_22 ?_
  exact g_iret hx hb hr rfl hlocks hK hP hD hS (eX7_dayTicket_r1 g x0 x1 ).symm dX7_dayTicket_23
def fX7_weekTicket_r (g : tG) (x0 : Int32) (x1 : Int32) : Int32 :=
  (gA g 7 x0) + (((x1 - 1) * 8) * (gA g 5 x0))
set_option maxRecDepth 20000 in
theorem eX7_weekTicket_r1 (g : tG) (x0 : Int32) (x1 : Int32) : fX7_weekTicket_r g x0 x1 = (gA g 7 x0) + (((x1 - 1) * 8) * (gA g 5 x0)) := by
  exact rfl
set_option maxHeartbeats 4000000 in
set_option maxRecDepth 100000 in
theorem kX7_weekTicket (l : Launch) (D : va_G) (ad : Nat → Nat) (cI : ClassId) (g : tG) (sz : Nat) (x0 : Int32) (x1 : Int32) : Met l yX7_weekTicket wsX7_weekTicket ({ frames := 1, cells := 0, slots := 0, locals := 21 } : Room) (g_P D [(cI, .int)] (tcW ad cI g) [.ref (ad 8), .int x0, .int x1] sz) (g_Qi D [(cI, .int)] (va_A (tcW ad cI g) sz) (tcW ad cI g) (fX7_weekTicket_r g x0 x1)) 0 0 (va_A (tcW ad cI g) sz) := by
  refine Met.ofW (cc := cX7_weekTicket) (maxL := 3) (ret := (some .int)) (by decide) rfl ?_
  intro p e s m args below meth c9 s₁ B hml hv
  obtain ⟨rfl, hsz, hP, hK, hD0⟩ := hv
  have hx := B.exec
  have hb := B.bytes
  have hr := B.returns
  have hts := atoms_spec (ws := wsX7_weekTicket) B.pre
  have hown : s.vm.findClass RX7 = some m.cls := findClass_of_methodNamed B.named
  have hlocks := B.notSynchronized
  subst hsz
  have hD := hD0.self (sz := s.heap.size)
  generalize hAe : va_A (tcW ad cI g) s.heap.size = A at hD ⊢
  have hA : ∀ q : Nat, s.heap.size ≤ q → A q := fun q h => by rw [← hAe]; exact Or.inr h
  have hS : va_S A s.heap s.heap [] := va_S.rf
  have hl := lv_entry ([.ref (ad 8), .int x0, .int x1]) (n := 3) (Nat.le_of_ble_eq_true rfl)
  rw [lg_entry_eq]
  generalize (lg_sl ([.ref (ad 8), .int x0, .int x1]) ++ List.replicate (3 - (lg_sl ([.ref (ad 8), .int x0, .int x1])).length) Slot.unset).toArray = ls at hl ⊢
  have hl : lv_has ls 3 [(0, .ref (ad 8)), (1, .int x0), (2, .int x1)] := hl
  have winX5 : ∀ w ∈ u_ws RX5 TX5 1, w ∈ wsX7_weekTicket := by decide +kernel
  have winX7 : ∀ w ∈ u_ws RX7 TX7 6, w ∈ wsX7_weekTicket := by decide +kernel
  refine lv_aload_n hx hb dX7_weekTicket_0 rfl (lv_at hl 0 rfl) ?_
  refine va_get (D := D) (ci := 7) (v := .ref (ad 17)) (C := RX7) (T := TX7) (N := 6) hx hb hts winX7 hown hK hP 8 rfl rfl 4 (by decide) (hts (.fieldLink RX7 29 "TapCap$Tariffs" "weekly" "LTapCap$Row;") (List.mem_of_getElem? (i := 1) rfl)) (fun _ h9 => h9) rfl dX7_weekTicket_1 ?_
  refine lv_iload_n hx hb dX7_weekTicket_4 rfl (lv_at hl 1 rfl) ?_
  refine g_ki hK hD hS hA (va_runV (As := [.int x0]) (rest := []) ⟨hx, hb, hml, hown, hts⟩ (k_tc_at l D ad cI g s.heap.size 7 (by decide) x0) (cwV 1 hts gX7_weekTicket_X5_at rfl rfl rfl (by decide +kernel) ⟨Nat.le_of_ble_eq_true rfl, Nat.le_of_ble_eq_true rfl⟩) (g_preV hK hP hD (ci := 5) (q0 := 17) rfl rfl) rfl rfl hl.1 rfl (lv_room (Nat.le_of_ble_eq_true rfl)) dX7_weekTicket_5 ⟨Nat.le_of_ble_eq_true rfl, Nat.le_of_ble_eq_true rfl⟩) (fun H locs hP hD hS => ?_)
  refine lv_iload_n hx hb dX7_weekTicket_8 rfl (lv_at hl 2 rfl) ?_
  refine lv_iconst (v := 1) hx hb dX7_weekTicket_9 (by decide) ?_
  refine lv_isub hx hb dX7_weekTicket_10 ?_
  refine lv_bipush (v := 8) hx hb dX7_weekTicket_11 (by decide) ?_
  refine lv_imul hx hb dX7_weekTicket_13 ?_
  refine lv_aload_n hx hb dX7_weekTicket_14 rfl (lv_at hl 0 rfl) ?_
  refine va_get (D := D) (ci := 7) (v := .ref (ad 13)) (C := RX7) (T := TX7) (N := 6) hx hb hts winX7 hown hK hP 8 rfl rfl 2 (by decide) (hts (.fieldLink RX7 23 "TapCap$Tariffs" "step" "LTapCap$Row;") (List.mem_of_getElem? (i := 2) rfl)) (fun _ h9 => h9) rfl dX7_weekTicket_15 ?_
  refine lv_iload_n hx hb dX7_weekTicket_18 rfl (lv_at hl 1 rfl) ?_
  refine g_ki hK hD hS hA (va_runV (As := [.int x0]) (rest := [.int ((x1 - 1) * 8), .int (gA g 7 x0)]) ⟨hx, hb, hml, hown, hts⟩ (k_tc_at l D ad cI g H.size 5 (by decide) x0) (cwV 1 hts gX7_weekTicket_X5_at rfl rfl rfl (by decide +kernel) ⟨Nat.le_of_ble_eq_true rfl, Nat.le_of_ble_eq_true rfl⟩) (g_preV hK hP hD (ci := 5) (q0 := 13) rfl rfl) rfl rfl hl.1 rfl (lv_room (Nat.le_of_ble_eq_true rfl)) dX7_weekTicket_19 ⟨Nat.le_of_ble_eq_true rfl, Nat.le_of_ble_eq_true rfl⟩) (fun H locs hP hD hS => ?_)
  refine lv_imul hx hb dX7_weekTicket_22 ?_
  refine lv_iadd hx hb dX7_weekTicket_23 ?_
  exact g_iret hx hb hr rfl hlocks hK hP hD hS (eX7_weekTicket_r1 g x0 x1 ).symm dX7_weekTicket_24
def fX0_give_r (g : tG) : Int32 :=
  let v1 : Int32 := g 45 3
  let g1 : tG := gP g 9 v1 v1
  let v2 : Int32 := (g1 45 3) + 1
  let g2 : tG := tc_sc g1 3 v2
  v1
def fX0_give_w (g : tG) : tG :=
  let v1 : Int32 := g 45 3
  let g1 : tG := gP g 9 v1 v1
  let v2 : Int32 := (g1 45 3) + 1
  let g2 : tG := tc_sc g1 3 v2
  g2
set_option maxRecDepth 20000 in
theorem eX0_give_r1 (g : tG) {v1 : Int32} (hv1 : v1 = g 45 3) {g1 : tG} (hg1 : g1 = gP g 9 v1 v1) {v2 : Int32} (hv2 : v2 = (g1 45 3) + 1) {g2 : tG} (hg2 : g2 = tc_sc g1 3 v2) : fX0_give_r g = v1 := by
  subst hv1
  subst hg1
  subst hv2
  subst hg2
  exact rfl
set_option maxRecDepth 20000 in
theorem eX0_give_w1 (g : tG) {v1 : Int32} (hv1 : v1 = g 45 3) {g1 : tG} (hg1 : g1 = gP g 9 v1 v1) {v2 : Int32} (hv2 : v2 = (g1 45 3) + 1) {g2 : tG} (hg2 : g2 = tc_sc g1 3 v2) : fX0_give_w g = g2 := by
  subst hv1
  subst hg1
  subst hv2
  subst hg2
  exact rfl
theorem fjX0_give (g : tG) (j : Nat) (h : j ∉ ([9, 45] : List Nat)) : fX0_give_w g j = g j := by
  obtain ⟨v1, hv1⟩ : ∃ z : Int32, z = g 45 3 := ⟨_, rfl⟩
  obtain ⟨g1, hg1⟩ : ∃ z : tG, z = gP g 9 v1 v1 := ⟨_, rfl⟩
  obtain ⟨v2, hv2⟩ : ∃ z : Int32, z = (g1 45 3) + 1 := ⟨_, rfl⟩
  obtain ⟨g2, hg2⟩ : ∃ z : tG, z = tc_sc g1 3 v2 := ⟨_, rfl⟩
  have qg1 : g1 j = g j := by rw [hg1]; exact gP_ne (fun e9 => h (by rw [e9]; decide))
  have qg2 : g2 j = g1 j := by rw [hg2]; exact sc_nj (fun e9 => h (by rw [e9]; decide))
  have hs := eX0_give_w1 g hv1 hg1 hv2 hg2
  rw [hs]
  exact qg2.trans (qg1)
theorem fiX0_give (g : tG) (k : Nat) (h : k ∉ ([3] : List Nat)) : fX0_give_w g 45 k = g 45 k := by
  obtain ⟨v1, hv1⟩ : ∃ z : Int32, z = g 45 3 := ⟨_, rfl⟩
  obtain ⟨g1, hg1⟩ : ∃ z : tG, z = gP g 9 v1 v1 := ⟨_, rfl⟩
  obtain ⟨v2, hv2⟩ : ∃ z : Int32, z = (g1 45 3) + 1 := ⟨_, rfl⟩
  obtain ⟨g2, hg2⟩ : ∃ z : tG, z = tc_sc g1 3 v2 := ⟨_, rfl⟩
  have qg1 : g1 45 k = g 45 k := by rw [hg1]; exact congrFun (gP_ne (by decide)) k
  have qg2 : g2 45 k = g1 45 k := by rw [hg2]; exact sc_nk (fun e9 => h (by rw [e9]; decide))
  have hs := eX0_give_w1 g hv1 hg1 hv2 hg2
  rw [hs]
  exact qg2.trans (qg1)
set_option maxHeartbeats 4000000 in
set_option maxRecDepth 100000 in
theorem kX0_give (l : Launch) (D : va_G) (ad : Nat → Nat) (cI : ClassId) (g : tG) (sz : Nat) : Met l yX0_give wsX0_give ({ frames := 1, cells := 0, slots := 0, locals := 22 } : Room) (g_P D [(cI, .int)] (tcW ad cI g) [.ref (ad 19)] sz) (g_Qi D [(cI, .int)] (va_A (tcW ad cI g) sz) (tcW ad cI (fX0_give_w g)) (fX0_give_r g)) 0 0 (va_A (tcW ad cI g) sz) := by
  refine Met.ofW (cc := cX0_give) (maxL := 2) (ret := (some .int)) (by decide) rfl ?_
  intro p e s m args below meth c9 s₁ B hml hv
  obtain ⟨rfl, hsz, hP, hK, hD0⟩ := hv
  have hx := B.exec
  have hb := B.bytes
  have hr := B.returns
  have hts := atoms_spec (ws := wsX0_give) B.pre
  have hown : s.vm.findClass RX0 = some m.cls := findClass_of_methodNamed B.named
  have hlocks := B.notSynchronized
  subst hsz
  have hD := hD0.self (sz := s.heap.size)
  generalize hAe : va_A (tcW ad cI g) s.heap.size = A at hD ⊢
  have hA : ∀ q : Nat, s.heap.size ≤ q → A q := fun q h => by rw [← hAe]; exact Or.inr h
  have hS : va_S A s.heap s.heap [] := va_S.rf
  have hl := lv_entry ([.ref (ad 19)]) (n := 2) (Nat.le_of_ble_eq_true rfl)
  rw [lg_entry_eq]
  generalize (lg_sl ([.ref (ad 19)]) ++ List.replicate (2 - (lg_sl ([.ref (ad 19)])).length) Slot.unset).toArray = ls at hl ⊢
  have hl : lv_has ls 2 [(0, .ref (ad 19))] := hl
  have winX0 : ∀ w ∈ u_ws RX0 TX0 6, w ∈ wsX0_give := by decide +kernel
  have winX5 : ∀ w ∈ u_ws RX5 TX5 1, w ∈ wsX0_give := by decide +kernel
  refine lv_aload_n hx hb dX0_give_0 rfl (lv_at hl 0 rfl) ?_
  refine va_get (D := D) (ci := 0) (v := .int (g 45 3)) (C := RX0) (T := TX0) (N := 6) hx hb hts winX0 hown hK hP 19 rfl rfl 5 (by decide) (hts (.fieldLink RX0 32 "TapCap$Cards" "count" "I") (List.mem_of_getElem? (i := 1) rfl)) (fun _ h9 => h9) rfl dX0_give_1 ?_
  refine lv_topi (fun v1 hv1 => ?_)
  refine lv_istore_n (lv' := [(1, .int v1), (0, .ref (ad 19))]) hx hb dX0_give_4 rfl hl (by decide) rfl (fun ls hl => ?_)
  refine lv_aload_n hx hb dX0_give_5 rfl (lv_at hl 1 rfl) ?_
  refine va_get (D := D) (ci := 0) (v := .ref (ad 22)) (C := RX0) (T := TX0) (N := 6) hx hb hts winX0 hown hK hP 19 rfl rfl 1 (by decide) (hts (.fieldLink RX0 20 "TapCap$Cards" "personOf" "LTapCap$Row;") (List.mem_of_getElem? (i := 2) rfl)) (fun _ h9 => h9) rfl dX0_give_6 ?_
  refine lv_iload_n hx hb dX0_give_9 rfl (lv_at hl 0 rfl) ?_
  refine lv_iload_n hx hb dX0_give_10 rfl (lv_at hl 0 rfl) ?_
  refine g_kv hK hD hS hA (va_runV (As := [.int v1, .int v1]) (rest := []) ⟨hx, hb, hml, hown, hts⟩ (k_tc_put l D ad cI g s.heap.size 9 (by decide) v1 v1) (cwV 2 hts gX0_give_X5_put rfl rfl rfl (by decide +kernel) ⟨Nat.le_of_ble_eq_true rfl, Nat.le_of_ble_eq_true rfl⟩) (g_preV hK hP hD (ci := 5) (q0 := 22) rfl rfl) rfl rfl hl.1 rfl (lv_room (Nat.le_of_ble_eq_true rfl)) dX0_give_11 ⟨Nat.le_of_ble_eq_true rfl, Nat.le_of_ble_eq_true rfl⟩) (fun H locs hP hD hS => ?_)
  obtain ⟨g1, hg1⟩ : ∃ z : tG, z = gP g 9 v1 v1 := ⟨_, rfl⟩
  rw [← hg1] at hP hD
  refine lv_aload_n hx hb dX0_give_14 rfl (lv_at hl 1 rfl) ?_
  refine lv_dup hx hb dX0_give_15 rfl ?_
  refine va_get (D := D) (ci := 0) (v := .int (g1 45 3)) (C := RX0) (T := TX0) (N := 6) hx hb hts winX0 hown hK hP 19 rfl rfl 5 (by decide) (hts (.fieldLink RX0 32 "TapCap$Cards" "count" "I") (List.mem_of_getElem? (i := 1) rfl)) (fun _ h9 => h9) rfl dX0_give_16 ?_
  refine lv_iconst (v := 1) hx hb dX0_give_19 (by decide) ?_
  refine lv_iadd hx hb dX0_give_20 ?_
  refine lv_topi (fun v2 hv2 => ?_)
  refine va_put (D := D) (ci := 0) (v := .int v2) (ty := .int) (C := RX0) (T := TX0) (N := 6) hx hb hts winX0 tyX0 tyX0_ok nmX0 hown hK hP hD hS 19 rfl rfl 5 (by decide) (hts (.fieldLink RX0 32 "TapCap$Cards" "count" "I") (List.mem_of_getElem? (i := 1) rfl)) (fun _ h9 => h9) rfl (by decide +kernel) rfl rfl (Nat.le_of_ble_eq_true rfl) dX0_give_21 (fun H locs hP hD hS => ?_)
  have hP := tc_sP_3 hP
  have hD := tc_sD_3 hD
  obtain ⟨g2, hg2⟩ : ∃ z : tG, z = tc_sc g1 3 v2 := ⟨_, rfl⟩
  rw [← hg2] at hP hD
  refine lv_iload_n hx hb dX0_give_24 rfl (lv_at hl 0 rfl) ?_
  have hw := eX0_give_w1 g hv1 hg1 hv2 hg2
  have hP := w_P9 hw hP
  have hD := w_D9 hw hD
  exact g_iret hx hb hr rfl hlocks hK hP hD hS (eX0_give_r1 g hv1 hg1 hv2 hg2).symm dX0_give_25
def fX0_isPerson_r (g : tG) (x0 : Int32) : Int32 :=
  if x0 < 0 then
    0
  else
    if (g 45 3) ≤ x0 then
      0
    else
      if (gA g 9 x0) = x0 then
        1
      else
        0
set_option maxRecDepth 20000 in
theorem eX0_isPerson_r1 (g : tG) (x0 : Int32) (c1 : x0 < 0) : fX0_isPerson_r g x0 = 0 := by
  exact (if_pos c1).trans rfl
set_option maxRecDepth 20000 in
theorem eX0_isPerson_r2 (g : tG) (x0 : Int32) (c1 : ¬ (x0 < 0)) (c2 : (g 45 3) ≤ x0) : fX0_isPerson_r g x0 = 0 := by
  exact (if_neg c1).trans ((if_pos c2).trans rfl)
set_option maxRecDepth 20000 in
theorem eX0_isPerson_r3 (g : tG) (x0 : Int32) (c1 : ¬ (x0 < 0)) (c2 : ¬ ((g 45 3) ≤ x0)) (c3 : ¬ ((gA g 9 x0) = x0)) : fX0_isPerson_r g x0 = 0 := by
  exact (if_neg c1).trans ((if_neg c2).trans ((if_neg c3).trans rfl))
set_option maxRecDepth 20000 in
theorem eX0_isPerson_r4 (g : tG) (x0 : Int32) (c1 : ¬ (x0 < 0)) (c2 : ¬ ((g 45 3) ≤ x0)) (c3 : (gA g 9 x0) = x0) : fX0_isPerson_r g x0 = 1 := by
  exact (if_neg c1).trans ((if_neg c2).trans ((if_pos c3).trans rfl))
set_option maxHeartbeats 4000000 in
set_option maxRecDepth 100000 in
theorem kX0_isPerson (l : Launch) (D : va_G) (ad : Nat → Nat) (cI : ClassId) (g : tG) (sz : Nat) (x0 : Int32) : Met l yX0_isPerson wsX0_isPerson ({ frames := 1, cells := 0, slots := 0, locals := 21 } : Room) (g_P D [(cI, .int)] (tcW ad cI g) [.ref (ad 19), .int x0] sz) (g_Qi D [(cI, .int)] (va_A (tcW ad cI g) sz) (tcW ad cI g) (fX0_isPerson_r g x0)) 0 0 (va_A (tcW ad cI g) sz) := by
  refine Met.ofW (cc := cX0_isPerson) (maxL := 2) (ret := (some .boolean)) (by decide) rfl ?_
  intro p e s m args below meth c9 s₁ B hml hv
  obtain ⟨rfl, hsz, hP, hK, hD0⟩ := hv
  have hx := B.exec
  have hb := B.bytes
  have hr := B.returns
  have hts := atoms_spec (ws := wsX0_isPerson) B.pre
  have hown : s.vm.findClass RX0 = some m.cls := findClass_of_methodNamed B.named
  have hlocks := B.notSynchronized
  subst hsz
  have hD := hD0.self (sz := s.heap.size)
  generalize hAe : va_A (tcW ad cI g) s.heap.size = A at hD ⊢
  have hA : ∀ q : Nat, s.heap.size ≤ q → A q := fun q h => by rw [← hAe]; exact Or.inr h
  have hS : va_S A s.heap s.heap [] := va_S.rf
  have hl := lv_entry ([.ref (ad 19), .int x0]) (n := 2) (Nat.le_of_ble_eq_true rfl)
  rw [lg_entry_eq]
  generalize (lg_sl ([.ref (ad 19), .int x0]) ++ List.replicate (2 - (lg_sl ([.ref (ad 19), .int x0])).length) Slot.unset).toArray = ls at hl ⊢
  have hl : lv_has ls 2 [(0, .ref (ad 19)), (1, .int x0)] := hl
  have winX0 : ∀ w ∈ u_ws RX0 TX0 6, w ∈ wsX0_isPerson := by decide +kernel
  have winX5 : ∀ w ∈ u_ws RX5 TX5 1, w ∈ wsX0_isPerson := by decide +kernel
  refine lv_iload_n hx hb dX0_isPerson_0 rfl (lv_at hl 1 rfl) ?_
  refine lv_if_lt (tgt := 28) hx hb dX0_isPerson_1 (by decide) (fun c1 => ?_) (fun c1 => ?_)
  · refine lv_iconst (v := 0) hx hb dX0_isPerson_28 (by decide) ?_
    exact g_iret hx hb hr narrow_z0 hlocks hK hP hD hS (eX0_isPerson_r1 g x0 c1).symm dX0_isPerson_29
  · refine lv_iload_n hx hb dX0_isPerson_4 rfl (lv_at hl 1 rfl) ?_
    refine lv_aload_n hx hb dX0_isPerson_5 rfl (lv_at hl 0 rfl) ?_
    refine va_get (D := D) (ci := 0) (v := .int (g 45 3)) (C := RX0) (T := TX0) (N := 6) hx hb hts winX0 hown hK hP 19 rfl rfl 5 (by decide) (hts (.fieldLink RX0 32 "TapCap$Cards" "count" "I") (List.mem_of_getElem? (i := 1) rfl)) (fun _ h9 => h9) rfl dX0_isPerson_6 ?_
    refine lv_icmp_ge (tgt := 28) hx hb dX0_isPerson_9 (by decide) (fun c2 => ?_) (fun c2 => ?_)
    · refine lv_iconst (v := 0) hx hb dX0_isPerson_28 (by decide) ?_
      exact g_iret hx hb hr narrow_z0 hlocks hK hP hD hS (eX0_isPerson_r2 g x0 c1 c2).symm dX0_isPerson_29
    · refine lv_aload_n hx hb dX0_isPerson_12 rfl (lv_at hl 0 rfl) ?_
      refine va_get (D := D) (ci := 0) (v := .ref (ad 22)) (C := RX0) (T := TX0) (N := 6) hx hb hts winX0 hown hK hP 19 rfl rfl 1 (by decide) (hts (.fieldLink RX0 20 "TapCap$Cards" "personOf" "LTapCap$Row;") (List.mem_of_getElem? (i := 2) rfl)) (fun _ h9 => h9) rfl dX0_isPerson_13 ?_
      refine lv_iload_n hx hb dX0_isPerson_16 rfl (lv_at hl 1 rfl) ?_
      refine g_ki hK hD hS hA (va_runV (As := [.int x0]) (rest := []) ⟨hx, hb, hml, hown, hts⟩ (k_tc_at l D ad cI g s.heap.size 9 (by decide) x0) (cwV 1 hts gX0_isPerson_X5_at rfl rfl rfl (by decide +kernel) ⟨Nat.le_of_ble_eq_true rfl, Nat.le_of_ble_eq_true rfl⟩) (g_preV hK hP hD (ci := 5) (q0 := 22) rfl rfl) rfl rfl hl.1 rfl (lv_room (Nat.le_of_ble_eq_true rfl)) dX0_isPerson_17 ⟨Nat.le_of_ble_eq_true rfl, Nat.le_of_ble_eq_true rfl⟩) (fun H locs hP hD hS => ?_)
      refine lv_iload_n hx hb dX0_isPerson_20 rfl (lv_at hl 1 rfl) ?_
      refine lv_icmp_ne (tgt := 28) hx hb dX0_isPerson_21 (by decide) (fun c3 => ?_) (fun c3 => ?_)
      · refine lv_iconst (v := 0) hx hb dX0_isPerson_28 (by decide) ?_
        exact g_iret hx hb hr narrow_z0 hlocks hK hP hD hS (eX0_isPerson_r3 g x0 c1 c2 c3).symm dX0_isPerson_29
      · refine lv_iconst (v := 1) hx hb dX0_isPerson_24 (by decide) ?_
        refine lv_goto (tgt := 29) hx hb dX0_isPerson_25 (by decide) ?_
        exact g_iret hx hb hr narrow_z1 hlocks hK hP hD hS (eX0_isPerson_r4 g x0 c1 c2 c3).symm dX0_isPerson_29
def fX0_isLost_r (g : tG) (x0 : Int32) : Int32 :=
  if (gA g 10 x0) = 0 then
    0
  else
    1
set_option maxRecDepth 20000 in
theorem eX0_isLost_r1 (g : tG) (x0 : Int32) (c1 : (gA g 10 x0) = 0) : fX0_isLost_r g x0 = 0 := by
  exact (if_pos c1).trans rfl
set_option maxRecDepth 20000 in
theorem eX0_isLost_r2 (g : tG) (x0 : Int32) (c1 : ¬ ((gA g 10 x0) = 0)) : fX0_isLost_r g x0 = 1 := by
  exact (if_neg c1).trans rfl
set_option maxHeartbeats 4000000 in
set_option maxRecDepth 100000 in
theorem kX0_isLost (l : Launch) (D : va_G) (ad : Nat → Nat) (cI : ClassId) (g : tG) (sz : Nat) (x0 : Int32) : Met l yX0_isLost wsX0_isLost ({ frames := 1, cells := 0, slots := 0, locals := 21 } : Room) (g_P D [(cI, .int)] (tcW ad cI g) [.ref (ad 19), .int x0] sz) (g_Qi D [(cI, .int)] (va_A (tcW ad cI g) sz) (tcW ad cI g) (fX0_isLost_r g x0)) 0 0 (va_A (tcW ad cI g) sz) := by
  refine Met.ofW (cc := cX0_isLost) (maxL := 2) (ret := (some .boolean)) (by decide) rfl ?_
  intro p e s m args below meth c9 s₁ B hml hv
  obtain ⟨rfl, hsz, hP, hK, hD0⟩ := hv
  have hx := B.exec
  have hb := B.bytes
  have hr := B.returns
  have hts := atoms_spec (ws := wsX0_isLost) B.pre
  have hown : s.vm.findClass RX0 = some m.cls := findClass_of_methodNamed B.named
  have hlocks := B.notSynchronized
  subst hsz
  have hD := hD0.self (sz := s.heap.size)
  generalize hAe : va_A (tcW ad cI g) s.heap.size = A at hD ⊢
  have hA : ∀ q : Nat, s.heap.size ≤ q → A q := fun q h => by rw [← hAe]; exact Or.inr h
  have hS : va_S A s.heap s.heap [] := va_S.rf
  have hl := lv_entry ([.ref (ad 19), .int x0]) (n := 2) (Nat.le_of_ble_eq_true rfl)
  rw [lg_entry_eq]
  generalize (lg_sl ([.ref (ad 19), .int x0]) ++ List.replicate (2 - (lg_sl ([.ref (ad 19), .int x0])).length) Slot.unset).toArray = ls at hl ⊢
  have hl : lv_has ls 2 [(0, .ref (ad 19)), (1, .int x0)] := hl
  have winX0 : ∀ w ∈ u_ws RX0 TX0 6, w ∈ wsX0_isLost := by decide +kernel
  have winX5 : ∀ w ∈ u_ws RX5 TX5 1, w ∈ wsX0_isLost := by decide +kernel
  refine lv_aload_n hx hb dX0_isLost_0 rfl (lv_at hl 0 rfl) ?_
  refine va_get (D := D) (ci := 0) (v := .ref (ad 24)) (C := RX0) (T := TX0) (N := 6) hx hb hts winX0 hown hK hP 19 rfl rfl 2 (by decide) (hts (.fieldLink RX0 23 "TapCap$Cards" "lost" "LTapCap$Row;") (List.mem_of_getElem? (i := 1) rfl)) (fun _ h9 => h9) rfl dX0_isLost_1 ?_
  refine lv_iload_n hx hb dX0_isLost_4 rfl (lv_at hl 1 rfl) ?_
  refine g_ki hK hD hS hA (va_runV (As := [.int x0]) (rest := []) ⟨hx, hb, hml, hown, hts⟩ (k_tc_at l D ad cI g s.heap.size 10 (by decide) x0) (cwV 1 hts gX0_isLost_X5_at rfl rfl rfl (by decide +kernel) ⟨Nat.le_of_ble_eq_true rfl, Nat.le_of_ble_eq_true rfl⟩) (g_preV hK hP hD (ci := 5) (q0 := 24) rfl rfl) rfl rfl hl.1 rfl (lv_room (Nat.le_of_ble_eq_true rfl)) dX0_isLost_5 ⟨Nat.le_of_ble_eq_true rfl, Nat.le_of_ble_eq_true rfl⟩) (fun H locs hP hD hS => ?_)
  refine lv_if_eq (tgt := 15) hx hb dX0_isLost_8 (by decide) (fun c1 => ?_) (fun c1 => ?_)
  · refine lv_iconst (v := 0) hx hb dX0_isLost_15 (by decide) ?_
    exact g_iret hx hb hr narrow_z0 hlocks hK hP hD hS (eX0_isLost_r1 g x0 c1).symm dX0_isLost_16
  · refine lv_iconst (v := 1) hx hb dX0_isLost_11 (by decide) ?_
    refine lv_goto (tgt := 16) hx hb dX0_isLost_12 (by decide) ?_
    exact g_iret hx hb hr narrow_z1 hlocks hK hP hD hS (eX0_isLost_r2 g x0 c1).symm dX0_isLost_16
def fX0_charge_w (g : tG) (x0 : Int32) (x1 : Int32) (x2 : Int32) : tG :=
  let g1 : tG := gD g 8 x0 (-x2)
  let g2 : tG := gD g1 11 ((x0 * 4) + x1) x2
  g2
set_option maxRecDepth 20000 in
theorem eX0_charge_w1 (g : tG) (x0 : Int32) (x1 : Int32) (x2 : Int32) {g1 : tG} (hg1 : g1 = gD g 8 x0 (-x2)) {g2 : tG} (hg2 : g2 = gD g1 11 ((x0 * 4) + x1) x2) : fX0_charge_w g x0 x1 x2 = g2 := by
  subst hg1
  subst hg2
  exact rfl
theorem fjX0_charge (g : tG) (x0 : Int32) (x1 : Int32) (x2 : Int32) (j : Nat) (h : j ∉ ([8, 11] : List Nat)) : fX0_charge_w g x0 x1 x2 j = g j := by
  obtain ⟨g1, hg1⟩ : ∃ z : tG, z = gD g 8 x0 (-x2) := ⟨_, rfl⟩
  obtain ⟨g2, hg2⟩ : ∃ z : tG, z = gD g1 11 ((x0 * 4) + x1) x2 := ⟨_, rfl⟩
  have qg1 : g1 j = g j := by rw [hg1]; exact gD_ne (fun e9 => h (by rw [e9]; decide))
  have qg2 : g2 j = g1 j := by rw [hg2]; exact gD_ne (fun e9 => h (by rw [e9]; decide))
  have hs := eX0_charge_w1 g x0 x1 x2 hg1 hg2
  rw [hs]
  exact qg2.trans (qg1)
set_option maxHeartbeats 4000000 in
set_option maxRecDepth 100000 in
theorem kX0_charge (l : Launch) (D : va_G) (ad : Nat → Nat) (cI : ClassId) (g : tG) (sz : Nat) (x0 : Int32) (x1 : Int32) (x2 : Int32) : Met l yX0_charge wsX0_charge ({ frames := 1, cells := 0, slots := 0, locals := 22 } : Room) (g_P D [(cI, .int)] (tcW ad cI g) [.ref (ad 19), .int x0, .int x1, .int x2] sz) (g_Qv D [(cI, .int)] (va_A (tcW ad cI g) sz) (tcW ad cI (fX0_charge_w g x0 x1 x2))) 0 0 (va_A (tcW ad cI g) sz) := by
  refine Met.ofW (cc := cX0_charge) (maxL := 4) (ret := none) (by decide) rfl ?_
  intro p e s m args below meth c9 s₁ B hml hv
  obtain ⟨rfl, hsz, hP, hK, hD0⟩ := hv
  have hx := B.exec
  have hb := B.bytes
  have hr := B.returns
  have hts := atoms_spec (ws := wsX0_charge) B.pre
  have hown : s.vm.findClass RX0 = some m.cls := findClass_of_methodNamed B.named
  have hlocks := B.notSynchronized
  subst hsz
  have hD := hD0.self (sz := s.heap.size)
  generalize hAe : va_A (tcW ad cI g) s.heap.size = A at hD ⊢
  have hA : ∀ q : Nat, s.heap.size ≤ q → A q := fun q h => by rw [← hAe]; exact Or.inr h
  have hS : va_S A s.heap s.heap [] := va_S.rf
  have hl := lv_entry ([.ref (ad 19), .int x0, .int x1, .int x2]) (n := 4) (Nat.le_of_ble_eq_true rfl)
  rw [lg_entry_eq]
  generalize (lg_sl ([.ref (ad 19), .int x0, .int x1, .int x2]) ++ List.replicate (4 - (lg_sl ([.ref (ad 19), .int x0, .int x1, .int x2])).length) Slot.unset).toArray = ls at hl ⊢
  have hl : lv_has ls 4 [(0, .ref (ad 19)), (1, .int x0), (2, .int x1), (3, .int x2)] := hl
  have winX0 : ∀ w ∈ u_ws RX0 TX0 6, w ∈ wsX0_charge := by decide +kernel
  have winX5 : ∀ w ∈ u_ws RX5 TX5 1, w ∈ wsX0_charge := by decide +kernel
  refine lv_aload_n hx hb dX0_charge_0 rfl (lv_at hl 0 rfl) ?_
  refine va_get (D := D) (ci := 0) (v := .ref (ad 20)) (C := RX0) (T := TX0) (N := 6) hx hb hts winX0 hown hK hP 19 rfl rfl 0 (by decide) (hts (.fieldLink RX0 14 "TapCap$Cards" "purse" "LTapCap$Row;") (List.mem_of_getElem? (i := 1) rfl)) (fun _ h9 => h9) rfl dX0_charge_1 ?_
  refine lv_iload_n hx hb dX0_charge_4 rfl (lv_at hl 1 rfl) ?_
  refine lv_iload_n hx hb dX0_charge_5 rfl (lv_at hl 3 rfl) ?_
  refine lv_ineg hx hb dX0_charge_6 ?_
  refine g_kv hK hD hS hA (va_runV (As := [.int x0, .int (-x2)]) (rest := []) ⟨hx, hb, hml, hown, hts⟩ (k_tc_add l D ad cI g s.heap.size 8 (by decide) x0 (-x2)) (cwV 2 hts gX0_charge_X5_add rfl rfl rfl (by decide +kernel) ⟨Nat.le_of_ble_eq_true rfl, Nat.le_of_ble_eq_true rfl⟩) (g_preV hK hP hD (ci := 5) (q0 := 20) rfl rfl) rfl rfl hl.1 rfl (lv_room (Nat.le_of_ble_eq_true rfl)) dX0_charge_7 ⟨Nat.le_of_ble_eq_true rfl, Nat.le_of_ble_eq_true rfl⟩) (fun H locs hP hD hS => ?_)
  obtain ⟨g1, hg1⟩ : ∃ z : tG, z = gD g 8 x0 (-x2) := ⟨_, rfl⟩
  rw [← hg1] at hP hD
  refine lv_aload_n hx hb dX0_charge_10 rfl (lv_at hl 0 rfl) ?_
  refine va_get (D := D) (ci := 0) (v := .ref (ad 26)) (C := RX0) (T := TX0) (N := 6) hx hb hts winX0 hown hK hP 19 rfl rfl 3 (by decide) (hts (.fieldLink RX0 26 "TapCap$Cards" "charged" "LTapCap$Row;") (List.mem_of_getElem? (i := 2) rfl)) (fun _ h9 => h9) rfl dX0_charge_11 ?_
  refine lv_iload_n hx hb dX0_charge_14 rfl (lv_at hl 1 rfl) ?_
  refine lv_iconst (v := 4) hx hb dX0_charge_15 (by decide) ?_
  refine lv_imul hx hb dX0_charge_16 ?_
  refine lv_iload_n hx hb dX0_charge_17 rfl (lv_at hl 2 rfl) ?_
  refine lv_iadd hx hb dX0_charge_18 ?_
  refine lv_iload_n hx hb dX0_charge_19 rfl (lv_at hl 3 rfl) ?_
  refine g_kv hK hD hS hA (va_runV (As := [.int ((x0 * 4) + x1), .int x2]) (rest := []) ⟨hx, hb, hml, hown, hts⟩ (k_tc_add l D ad cI g1 H.size 11 (by decide) ((x0 * 4) + x1) x2) (cwV 2 hts gX0_charge_X5_add rfl rfl rfl (by decide +kernel) ⟨Nat.le_of_ble_eq_true rfl, Nat.le_of_ble_eq_true rfl⟩) (g_preV hK hP hD (ci := 5) (q0 := 26) rfl rfl) rfl rfl hl.1 rfl (lv_room (Nat.le_of_ble_eq_true rfl)) dX0_charge_20 ⟨Nat.le_of_ble_eq_true rfl, Nat.le_of_ble_eq_true rfl⟩) (fun H locs hP hD hS => ?_)
  obtain ⟨g2, hg2⟩ : ∃ z : tG, z = gD g1 11 ((x0 * 4) + x1) x2 := ⟨_, rfl⟩
  rw [← hg2] at hP hD
  have hw := eX0_charge_w1 g x0 x1 x2 hg1 hg2
  have hP := w_P9 hw hP
  have hD := w_D9 hw hD
  exact g_vret hx hb hr hlocks hK hP hD hS dX0_charge_23
def fX6_write_w (g : tG) (x0 : Int32) (x1 : Int32) (x2 : Int32) (x3 : Int32) (x4 : Int32) (x5 : Int32) (x6 : Int32) : tG :=
  let g1 : tG := gP g 13 x0 x1
  let g2 : tG := gP g1 14 x0 x2
  let g3 : tG := gP g2 15 x0 x3
  if x4 = 0 then
    let g4 : tG := gP g3 16 x0 0
    let g5 : tG := gP g4 17 x0 x5
    let g6 : tG := gP g5 18 x0 x6
    g6
  else
    let g7 : tG := gP g3 16 x0 1
    let g8 : tG := gP g7 17 x0 x5
    let g9 : tG := gP g8 18 x0 x6
    g9
set_option maxRecDepth 20000 in
theorem eX6_write_w1 (g : tG) (x0 : Int32) (x1 : Int32) (x2 : Int32) (x3 : Int32) (x4 : Int32) (x5 : Int32) (x6 : Int32) {g1 : tG} (hg1 : g1 = gP g 13 x0 x1) {g2 : tG} (hg2 : g2 = gP g1 14 x0 x2) {g3 : tG} (hg3 : g3 = gP g2 15 x0 x3) (c1 : x4 = 0) {g4 : tG} (hg4 : g4 = gP g3 16 x0 0) {g5 : tG} (hg5 : g5 = gP g4 17 x0 x5) {g6 : tG} (hg6 : g6 = gP g5 18 x0 x6) : fX6_write_w g x0 x1 x2 x3 x4 x5 x6 = g6 := by
  subst hg1
  subst hg2
  subst hg3
  subst hg4
  subst hg5
  subst hg6
  exact (if_pos c1).trans rfl
set_option maxRecDepth 20000 in
theorem eX6_write_w2 (g : tG) (x0 : Int32) (x1 : Int32) (x2 : Int32) (x3 : Int32) (x4 : Int32) (x5 : Int32) (x6 : Int32) {g1 : tG} (hg1 : g1 = gP g 13 x0 x1) {g2 : tG} (hg2 : g2 = gP g1 14 x0 x2) {g3 : tG} (hg3 : g3 = gP g2 15 x0 x3) (c1 : ¬ (x4 = 0)) {g7 : tG} (hg7 : g7 = gP g3 16 x0 1) {g8 : tG} (hg8 : g8 = gP g7 17 x0 x5) {g9 : tG} (hg9 : g9 = gP g8 18 x0 x6) : fX6_write_w g x0 x1 x2 x3 x4 x5 x6 = g9 := by
  subst hg1
  subst hg2
  subst hg3
  subst hg7
  subst hg8
  subst hg9
  exact (if_neg c1).trans rfl
theorem fjX6_write (g : tG) (x0 : Int32) (x1 : Int32) (x2 : Int32) (x3 : Int32) (x4 : Int32) (x5 : Int32) (x6 : Int32) (j : Nat) (h : j ∉ ([13, 14, 15, 16, 17, 18] : List Nat)) : fX6_write_w g x0 x1 x2 x3 x4 x5 x6 j = g j := by
  obtain ⟨g1, hg1⟩ : ∃ z : tG, z = gP g 13 x0 x1 := ⟨_, rfl⟩
  obtain ⟨g2, hg2⟩ : ∃ z : tG, z = gP g1 14 x0 x2 := ⟨_, rfl⟩
  obtain ⟨g3, hg3⟩ : ∃ z : tG, z = gP g2 15 x0 x3 := ⟨_, rfl⟩
  by_cases c1 : x4 = 0
  · obtain ⟨g4, hg4⟩ : ∃ z : tG, z = gP g3 16 x0 0 := ⟨_, rfl⟩
    obtain ⟨g5, hg5⟩ : ∃ z : tG, z = gP g4 17 x0 x5 := ⟨_, rfl⟩
    obtain ⟨g6, hg6⟩ : ∃ z : tG, z = gP g5 18 x0 x6 := ⟨_, rfl⟩
    have qg1 : g1 j = g j := by rw [hg1]; exact gP_ne (fun e9 => h (by rw [e9]; decide))
    have qg2 : g2 j = g1 j := by rw [hg2]; exact gP_ne (fun e9 => h (by rw [e9]; decide))
    have qg3 : g3 j = g2 j := by rw [hg3]; exact gP_ne (fun e9 => h (by rw [e9]; decide))
    have qg4 : g4 j = g3 j := by rw [hg4]; exact gP_ne (fun e9 => h (by rw [e9]; decide))
    have qg5 : g5 j = g4 j := by rw [hg5]; exact gP_ne (fun e9 => h (by rw [e9]; decide))
    have qg6 : g6 j = g5 j := by rw [hg6]; exact gP_ne (fun e9 => h (by rw [e9]; decide))
    have hs := eX6_write_w1 g x0 x1 x2 x3 x4 x5 x6 hg1 hg2 hg3 c1 hg4 hg5 hg6
    rw [hs]
    exact qg6.trans (qg5.trans (qg4.trans (qg3.trans (qg2.trans (qg1)))))
  · obtain ⟨g7, hg7⟩ : ∃ z : tG, z = gP g3 16 x0 1 := ⟨_, rfl⟩
    obtain ⟨g8, hg8⟩ : ∃ z : tG, z = gP g7 17 x0 x5 := ⟨_, rfl⟩
    obtain ⟨g9, hg9⟩ : ∃ z : tG, z = gP g8 18 x0 x6 := ⟨_, rfl⟩
    have qg1 : g1 j = g j := by rw [hg1]; exact gP_ne (fun e9 => h (by rw [e9]; decide))
    have qg2 : g2 j = g1 j := by rw [hg2]; exact gP_ne (fun e9 => h (by rw [e9]; decide))
    have qg3 : g3 j = g2 j := by rw [hg3]; exact gP_ne (fun e9 => h (by rw [e9]; decide))
    have qg7 : g7 j = g3 j := by rw [hg7]; exact gP_ne (fun e9 => h (by rw [e9]; decide))
    have qg8 : g8 j = g7 j := by rw [hg8]; exact gP_ne (fun e9 => h (by rw [e9]; decide))
    have qg9 : g9 j = g8 j := by rw [hg9]; exact gP_ne (fun e9 => h (by rw [e9]; decide))
    have hs := eX6_write_w2 g x0 x1 x2 x3 x4 x5 x6 hg1 hg2 hg3 c1 hg7 hg8 hg9
    rw [hs]
    exact qg9.trans (qg8.trans (qg7.trans (qg3.trans (qg2.trans (qg1)))))
set_option maxHeartbeats 4000000 in
set_option maxRecDepth 100000 in
theorem kX6_write (l : Launch) (D : va_G) (ad : Nat → Nat) (cI : ClassId) (g : tG) (sz : Nat) (x0 : Int32) (x1 : Int32) (x2 : Int32) (x3 : Int32) (x4 : Int32) (x5 : Int32) (x6 : Int32) : Met l yX6_write wsX6_write ({ frames := 1, cells := 0, slots := 0, locals := 22 } : Room) (g_P D [(cI, .int)] (tcW ad cI g) [.ref (ad 30), .int x0, .int x1, .int x2, .int x3, .int x4, .int x5, .int x6] sz) (g_Qv D [(cI, .int)] (va_A (tcW ad cI g) sz) (tcW ad cI (fX6_write_w g x0 x1 x2 x3 x4 x5 x6))) 0 0 (va_A (tcW ad cI g) sz) := by
  refine Met.ofW (cc := cX6_write) (maxL := 8) (ret := none) (by decide) rfl ?_
  intro p e s m args below meth c9 s₁ B hml hv
  obtain ⟨rfl, hsz, hP, hK, hD0⟩ := hv
  have hx := B.exec
  have hb := B.bytes
  have hr := B.returns
  have hts := atoms_spec (ws := wsX6_write) B.pre
  have hown : s.vm.findClass RX6 = some m.cls := findClass_of_methodNamed B.named
  have hlocks := B.notSynchronized
  subst hsz
  have hD := hD0.self (sz := s.heap.size)
  generalize hAe : va_A (tcW ad cI g) s.heap.size = A at hD ⊢
  have hA : ∀ q : Nat, s.heap.size ≤ q → A q := fun q h => by rw [← hAe]; exact Or.inr h
  have hS : va_S A s.heap s.heap [] := va_S.rf
  have hl := lv_entry ([.ref (ad 30), .int x0, .int x1, .int x2, .int x3, .int x4, .int x5, .int x6]) (n := 8) (Nat.le_of_ble_eq_true rfl)
  rw [lg_entry_eq]
  generalize (lg_sl ([.ref (ad 30), .int x0, .int x1, .int x2, .int x3, .int x4, .int x5, .int x6]) ++ List.replicate (8 - (lg_sl ([.ref (ad 30), .int x0, .int x1, .int x2, .int x3, .int x4, .int x5, .int x6])).length) Slot.unset).toArray = ls at hl ⊢
  have hl : lv_has ls 8 [(0, .ref (ad 30)), (1, .int x0), (2, .int x1), (3, .int x2), (4, .int x3), (5, .int x4), (6, .int x5), (7, .int x6)] := hl
  have winX5 : ∀ w ∈ u_ws RX5 TX5 1, w ∈ wsX6_write := by decide +kernel
  have winX6 : ∀ w ∈ u_ws RX6 TX6 9, w ∈ wsX6_write := by decide +kernel
  refine lv_aload_n hx hb dX6_write_0 rfl (lv_at hl 0 rfl) ?_
  refine va_get (D := D) (ci := 6) (v := .ref (ad 31)) (C := RX6) (T := TX6) (N := 9) hx hb hts winX6 hown hK hP 30 rfl rfl 0 (by decide) (hts (.fieldLink RX6 14 "TapCap$Taps" "card" "LTapCap$Row;") (List.mem_of_getElem? (i := 1) rfl)) (fun _ h9 => h9) rfl dX6_write_1 ?_
  refine lv_iload_n hx hb dX6_write_4 rfl (lv_at hl 1 rfl) ?_
  refine lv_iload_n hx hb dX6_write_5 rfl (lv_at hl 2 rfl) ?_
  refine g_kv hK hD hS hA (va_runV (As := [.int x0, .int x1]) (rest := []) ⟨hx, hb, hml, hown, hts⟩ (k_tc_put l D ad cI g s.heap.size 13 (by decide) x0 x1) (cwV 2 hts gX6_write_X5_put rfl rfl rfl (by decide +kernel) ⟨Nat.le_of_ble_eq_true rfl, Nat.le_of_ble_eq_true rfl⟩) (g_preV hK hP hD (ci := 5) (q0 := 31) rfl rfl) rfl rfl hl.1 rfl (lv_room (Nat.le_of_ble_eq_true rfl)) dX6_write_6 ⟨Nat.le_of_ble_eq_true rfl, Nat.le_of_ble_eq_true rfl⟩) (fun H locs hP hD hS => ?_)
  obtain ⟨g1, hg1⟩ : ∃ z : tG, z = gP g 13 x0 x1 := ⟨_, rfl⟩
  rw [← hg1] at hP hD
  refine lv_aload_n hx hb dX6_write_9 rfl (lv_at hl 0 rfl) ?_
  refine va_get (D := D) (ci := 6) (v := .ref (ad 33)) (C := RX6) (T := TX6) (N := 9) hx hb hts winX6 hown hK hP 30 rfl rfl 1 (by decide) (hts (.fieldLink RX6 20 "TapCap$Taps" "stop" "LTapCap$Row;") (List.mem_of_getElem? (i := 2) rfl)) (fun _ h9 => h9) rfl dX6_write_10 ?_
  refine lv_iload_n hx hb dX6_write_13 rfl (lv_at hl 1 rfl) ?_
  refine lv_iload_n hx hb dX6_write_14 rfl (lv_at hl 3 rfl) ?_
  refine g_kv hK hD hS hA (va_runV (As := [.int x0, .int x2]) (rest := []) ⟨hx, hb, hml, hown, hts⟩ (k_tc_put l D ad cI g1 H.size 14 (by decide) x0 x2) (cwV 2 hts gX6_write_X5_put rfl rfl rfl (by decide +kernel) ⟨Nat.le_of_ble_eq_true rfl, Nat.le_of_ble_eq_true rfl⟩) (g_preV hK hP hD (ci := 5) (q0 := 33) rfl rfl) rfl rfl hl.1 rfl (lv_room (Nat.le_of_ble_eq_true rfl)) dX6_write_15 ⟨Nat.le_of_ble_eq_true rfl, Nat.le_of_ble_eq_true rfl⟩) (fun H locs hP hD hS => ?_)
  obtain ⟨g2, hg2⟩ : ∃ z : tG, z = gP g1 14 x0 x2 := ⟨_, rfl⟩
  rw [← hg2] at hP hD
  refine lv_aload_n hx hb dX6_write_18 rfl (lv_at hl 0 rfl) ?_
  refine va_get (D := D) (ci := 6) (v := .ref (ad 35)) (C := RX6) (T := TX6) (N := 9) hx hb hts winX6 hown hK hP 30 rfl rfl 2 (by decide) (hts (.fieldLink RX6 23 "TapCap$Taps" "line" "LTapCap$Row;") (List.mem_of_getElem? (i := 3) rfl)) (fun _ h9 => h9) rfl dX6_write_19 ?_
  refine lv_iload_n hx hb dX6_write_22 rfl (lv_at hl 1 rfl) ?_
  refine lv_iload hx hb dX6_write_23 (lv_at hl 4 rfl) ?_
  refine g_kv hK hD hS hA (va_runV (As := [.int x0, .int x3]) (rest := []) ⟨hx, hb, hml, hown, hts⟩ (k_tc_put l D ad cI g2 H.size 15 (by decide) x0 x3) (cwV 2 hts gX6_write_X5_put rfl rfl rfl (by decide +kernel) ⟨Nat.le_of_ble_eq_true rfl, Nat.le_of_ble_eq_true rfl⟩) (g_preV hK hP hD (ci := 5) (q0 := 35) rfl rfl) rfl rfl hl.1 rfl (lv_room (Nat.le_of_ble_eq_true rfl)) dX6_write_25 ⟨Nat.le_of_ble_eq_true rfl, Nat.le_of_ble_eq_true rfl⟩) (fun H locs hP hD hS => ?_)
  obtain ⟨g3, hg3⟩ : ∃ z : tG, z = gP g2 15 x0 x3 := ⟨_, rfl⟩
  rw [← hg3] at hP hD
  refine lv_aload_n hx hb dX6_write_28 rfl (lv_at hl 0 rfl) ?_
  refine va_get (D := D) (ci := 6) (v := .ref (ad 37)) (C := RX6) (T := TX6) (N := 9) hx hb hts winX6 hown hK hP 30 rfl rfl 3 (by decide) (hts (.fieldLink RX6 26 "TapCap$Taps" "in" "LTapCap$Row;") (List.mem_of_getElem? (i := 4) rfl)) (fun _ h9 => h9) rfl dX6_write_29 ?_
  refine lv_iload_n hx hb dX6_write_32 rfl (lv_at hl 1 rfl) ?_
  refine lv_iload hx hb dX6_write_33 (lv_at hl 5 rfl) ?_
  refine lv_if_eq (tgt := 42) hx hb dX6_write_35 (by decide) (fun c1 => ?_) (fun c1 => ?_)
  · refine lv_iconst (v := 0) hx hb dX6_write_42 (by decide) ?_
    refine g_kv hK hD hS hA (va_runV (As := [.int x0, .int 0]) (rest := []) ⟨hx, hb, hml, hown, hts⟩ (k_tc_put l D ad cI g3 H.size 16 (by decide) x0 0) (cwV 2 hts gX6_write_X5_put rfl rfl rfl (by decide +kernel) ⟨Nat.le_of_ble_eq_true rfl, Nat.le_of_ble_eq_true rfl⟩) (g_preV hK hP hD (ci := 5) (q0 := 37) rfl rfl) rfl rfl hl.1 rfl (lv_room (Nat.le_of_ble_eq_true rfl)) dX6_write_43 ⟨Nat.le_of_ble_eq_true rfl, Nat.le_of_ble_eq_true rfl⟩) (fun H locs hP hD hS => ?_)
    obtain ⟨g4, hg4⟩ : ∃ z : tG, z = gP g3 16 x0 0 := ⟨_, rfl⟩
    rw [← hg4] at hP hD
    refine lv_aload_n hx hb dX6_write_46 rfl (lv_at hl 0 rfl) ?_
    refine va_get (D := D) (ci := 6) (v := .ref (ad 39)) (C := RX6) (T := TX6) (N := 9) hx hb hts winX6 hown hK hP 30 rfl rfl 4 (by decide) (hts (.fieldLink RX6 29 "TapCap$Taps" "day" "LTapCap$Row;") (List.mem_of_getElem? (i := 5) rfl)) (fun _ h9 => h9) rfl dX6_write_47 ?_
    refine lv_iload_n hx hb dX6_write_50 rfl (lv_at hl 1 rfl) ?_
    refine lv_iload hx hb dX6_write_51 (lv_at hl 6 rfl) ?_
    refine g_kv hK hD hS hA (va_runV (As := [.int x0, .int x5]) (rest := []) ⟨hx, hb, hml, hown, hts⟩ (k_tc_put l D ad cI g4 H.size 17 (by decide) x0 x5) (cwV 2 hts gX6_write_X5_put rfl rfl rfl (by decide +kernel) ⟨Nat.le_of_ble_eq_true rfl, Nat.le_of_ble_eq_true rfl⟩) (g_preV hK hP hD (ci := 5) (q0 := 39) rfl rfl) rfl rfl hl.1 rfl (lv_room (Nat.le_of_ble_eq_true rfl)) dX6_write_53 ⟨Nat.le_of_ble_eq_true rfl, Nat.le_of_ble_eq_true rfl⟩) (fun H locs hP hD hS => ?_)
    obtain ⟨g5, hg5⟩ : ∃ z : tG, z = gP g4 17 x0 x5 := ⟨_, rfl⟩
    rw [← hg5] at hP hD
    refine lv_aload_n hx hb dX6_write_56 rfl (lv_at hl 0 rfl) ?_
    refine va_get (D := D) (ci := 6) (v := .ref (ad 41)) (C := RX6) (T := TX6) (N := 9) hx hb hts winX6 hown hK hP 30 rfl rfl 5 (by decide) (hts (.fieldLink RX6 32 "TapCap$Taps" "minute" "LTapCap$Row;") (List.mem_of_getElem? (i := 6) rfl)) (fun _ h9 => h9) rfl dX6_write_57 ?_
    refine lv_iload_n hx hb dX6_write_60 rfl (lv_at hl 1 rfl) ?_
    refine lv_iload hx hb dX6_write_61 (lv_at hl 7 rfl) ?_
    refine g_kv hK hD hS hA (va_runV (As := [.int x0, .int x6]) (rest := []) ⟨hx, hb, hml, hown, hts⟩ (k_tc_put l D ad cI g5 H.size 18 (by decide) x0 x6) (cwV 2 hts gX6_write_X5_put rfl rfl rfl (by decide +kernel) ⟨Nat.le_of_ble_eq_true rfl, Nat.le_of_ble_eq_true rfl⟩) (g_preV hK hP hD (ci := 5) (q0 := 41) rfl rfl) rfl rfl hl.1 rfl (lv_room (Nat.le_of_ble_eq_true rfl)) dX6_write_63 ⟨Nat.le_of_ble_eq_true rfl, Nat.le_of_ble_eq_true rfl⟩) (fun H locs hP hD hS => ?_)
    obtain ⟨g6, hg6⟩ : ∃ z : tG, z = gP g5 18 x0 x6 := ⟨_, rfl⟩
    rw [← hg6] at hP hD
    have hw := eX6_write_w1 g x0 x1 x2 x3 x4 x5 x6 hg1 hg2 hg3 c1 hg4 hg5 hg6
    have hP := w_P9 hw hP
    have hD := w_D9 hw hD
    exact g_vret hx hb hr hlocks hK hP hD hS dX6_write_66
  · refine lv_iconst (v := 1) hx hb dX6_write_38 (by decide) ?_
    refine lv_goto (tgt := 43) hx hb dX6_write_39 (by decide) ?_
    refine g_kv hK hD hS hA (va_runV (As := [.int x0, .int 1]) (rest := []) ⟨hx, hb, hml, hown, hts⟩ (k_tc_put l D ad cI g3 H.size 16 (by decide) x0 1) (cwV 2 hts gX6_write_X5_put rfl rfl rfl (by decide +kernel) ⟨Nat.le_of_ble_eq_true rfl, Nat.le_of_ble_eq_true rfl⟩) (g_preV hK hP hD (ci := 5) (q0 := 37) rfl rfl) rfl rfl hl.1 rfl (lv_room (Nat.le_of_ble_eq_true rfl)) dX6_write_43 ⟨Nat.le_of_ble_eq_true rfl, Nat.le_of_ble_eq_true rfl⟩) (fun H locs hP hD hS => ?_)
    obtain ⟨g7, hg7⟩ : ∃ z : tG, z = gP g3 16 x0 1 := ⟨_, rfl⟩
    rw [← hg7] at hP hD
    refine lv_aload_n hx hb dX6_write_46 rfl (lv_at hl 0 rfl) ?_
    refine va_get (D := D) (ci := 6) (v := .ref (ad 39)) (C := RX6) (T := TX6) (N := 9) hx hb hts winX6 hown hK hP 30 rfl rfl 4 (by decide) (hts (.fieldLink RX6 29 "TapCap$Taps" "day" "LTapCap$Row;") (List.mem_of_getElem? (i := 5) rfl)) (fun _ h9 => h9) rfl dX6_write_47 ?_
    refine lv_iload_n hx hb dX6_write_50 rfl (lv_at hl 1 rfl) ?_
    refine lv_iload hx hb dX6_write_51 (lv_at hl 6 rfl) ?_
    refine g_kv hK hD hS hA (va_runV (As := [.int x0, .int x5]) (rest := []) ⟨hx, hb, hml, hown, hts⟩ (k_tc_put l D ad cI g7 H.size 17 (by decide) x0 x5) (cwV 2 hts gX6_write_X5_put rfl rfl rfl (by decide +kernel) ⟨Nat.le_of_ble_eq_true rfl, Nat.le_of_ble_eq_true rfl⟩) (g_preV hK hP hD (ci := 5) (q0 := 39) rfl rfl) rfl rfl hl.1 rfl (lv_room (Nat.le_of_ble_eq_true rfl)) dX6_write_53 ⟨Nat.le_of_ble_eq_true rfl, Nat.le_of_ble_eq_true rfl⟩) (fun H locs hP hD hS => ?_)
    obtain ⟨g8, hg8⟩ : ∃ z : tG, z = gP g7 17 x0 x5 := ⟨_, rfl⟩
    rw [← hg8] at hP hD
    refine lv_aload_n hx hb dX6_write_56 rfl (lv_at hl 0 rfl) ?_
    refine va_get (D := D) (ci := 6) (v := .ref (ad 41)) (C := RX6) (T := TX6) (N := 9) hx hb hts winX6 hown hK hP 30 rfl rfl 5 (by decide) (hts (.fieldLink RX6 32 "TapCap$Taps" "minute" "LTapCap$Row;") (List.mem_of_getElem? (i := 6) rfl)) (fun _ h9 => h9) rfl dX6_write_57 ?_
    refine lv_iload_n hx hb dX6_write_60 rfl (lv_at hl 1 rfl) ?_
    refine lv_iload hx hb dX6_write_61 (lv_at hl 7 rfl) ?_
    refine g_kv hK hD hS hA (va_runV (As := [.int x0, .int x6]) (rest := []) ⟨hx, hb, hml, hown, hts⟩ (k_tc_put l D ad cI g8 H.size 18 (by decide) x0 x6) (cwV 2 hts gX6_write_X5_put rfl rfl rfl (by decide +kernel) ⟨Nat.le_of_ble_eq_true rfl, Nat.le_of_ble_eq_true rfl⟩) (g_preV hK hP hD (ci := 5) (q0 := 41) rfl rfl) rfl rfl hl.1 rfl (lv_room (Nat.le_of_ble_eq_true rfl)) dX6_write_63 ⟨Nat.le_of_ble_eq_true rfl, Nat.le_of_ble_eq_true rfl⟩) (fun H locs hP hD hS => ?_)
    obtain ⟨g9, hg9⟩ : ∃ z : tG, z = gP g8 18 x0 x6 := ⟨_, rfl⟩
    rw [← hg9] at hP hD
    have hw := eX6_write_w2 g x0 x1 x2 x3 x4 x5 x6 hg1 hg2 hg3 c1 hg7 hg8 hg9
    have hP := w_P9 hw hP
    have hD := w_D9 hw hD
    exact g_vret hx hb hr hlocks hK hP hD hS dX6_write_66
def fX6_isSame_r (g : tG) (x0 : Int32) (x1 : Int32) : Int32 :=
  if (gA g 13 x0) = (gA g 13 x1) then
    if (gA g 14 x0) = (gA g 14 x1) then
      if (gA g 15 x0) = (gA g 15 x1) then
        if (gA g 16 x0) = (gA g 16 x1) then
          if (gA g 17 x0) = (gA g 17 x1) then
            if (gA g 18 x0) = (gA g 18 x1) then
              1
            else
              0
          else
            0
        else
          0
      else
        0
    else
      0
  else
    0
set_option maxRecDepth 20000 in
theorem eX6_isSame_r1 (g : tG) (x0 : Int32) (x1 : Int32) (c1 : ¬ ((gA g 13 x0) = (gA g 13 x1))) : fX6_isSame_r g x0 x1 = 0 := by
  exact (if_neg c1).trans rfl
set_option maxRecDepth 20000 in
theorem eX6_isSame_r2 (g : tG) (x0 : Int32) (x1 : Int32) (c1 : (gA g 13 x0) = (gA g 13 x1)) (c2 : ¬ ((gA g 14 x0) = (gA g 14 x1))) : fX6_isSame_r g x0 x1 = 0 := by
  exact (if_pos c1).trans ((if_neg c2).trans rfl)
set_option maxRecDepth 20000 in
theorem eX6_isSame_r3 (g : tG) (x0 : Int32) (x1 : Int32) (c1 : (gA g 13 x0) = (gA g 13 x1)) (c2 : (gA g 14 x0) = (gA g 14 x1)) (c3 : ¬ ((gA g 15 x0) = (gA g 15 x1))) : fX6_isSame_r g x0 x1 = 0 := by
  exact (if_pos c1).trans ((if_pos c2).trans ((if_neg c3).trans rfl))
set_option maxRecDepth 20000 in
theorem eX6_isSame_r4 (g : tG) (x0 : Int32) (x1 : Int32) (c1 : (gA g 13 x0) = (gA g 13 x1)) (c2 : (gA g 14 x0) = (gA g 14 x1)) (c3 : (gA g 15 x0) = (gA g 15 x1)) (c4 : ¬ ((gA g 16 x0) = (gA g 16 x1))) : fX6_isSame_r g x0 x1 = 0 := by
  exact (if_pos c1).trans ((if_pos c2).trans ((if_pos c3).trans ((if_neg c4).trans rfl)))
set_option maxRecDepth 20000 in
theorem eX6_isSame_r5 (g : tG) (x0 : Int32) (x1 : Int32) (c1 : (gA g 13 x0) = (gA g 13 x1)) (c2 : (gA g 14 x0) = (gA g 14 x1)) (c3 : (gA g 15 x0) = (gA g 15 x1)) (c4 : (gA g 16 x0) = (gA g 16 x1)) (c5 : ¬ ((gA g 17 x0) = (gA g 17 x1))) : fX6_isSame_r g x0 x1 = 0 := by
  exact (if_pos c1).trans ((if_pos c2).trans ((if_pos c3).trans ((if_pos c4).trans ((if_neg c5).trans rfl))))
set_option maxRecDepth 20000 in
theorem eX6_isSame_r6 (g : tG) (x0 : Int32) (x1 : Int32) (c1 : (gA g 13 x0) = (gA g 13 x1)) (c2 : (gA g 14 x0) = (gA g 14 x1)) (c3 : (gA g 15 x0) = (gA g 15 x1)) (c4 : (gA g 16 x0) = (gA g 16 x1)) (c5 : (gA g 17 x0) = (gA g 17 x1)) (c6 : ¬ ((gA g 18 x0) = (gA g 18 x1))) : fX6_isSame_r g x0 x1 = 0 := by
  exact (if_pos c1).trans ((if_pos c2).trans ((if_pos c3).trans ((if_pos c4).trans ((if_pos c5).trans ((if_neg c6).trans rfl)))))
set_option maxRecDepth 20000 in
theorem eX6_isSame_r7 (g : tG) (x0 : Int32) (x1 : Int32) (c1 : (gA g 13 x0) = (gA g 13 x1)) (c2 : (gA g 14 x0) = (gA g 14 x1)) (c3 : (gA g 15 x0) = (gA g 15 x1)) (c4 : (gA g 16 x0) = (gA g 16 x1)) (c5 : (gA g 17 x0) = (gA g 17 x1)) (c6 : (gA g 18 x0) = (gA g 18 x1)) : fX6_isSame_r g x0 x1 = 1 := by
  exact (if_pos c1).trans ((if_pos c2).trans ((if_pos c3).trans ((if_pos c4).trans ((if_pos c5).trans ((if_pos c6).trans rfl)))))
set_option maxHeartbeats 4000000 in
set_option maxRecDepth 100000 in
theorem kX6_isSame (l : Launch) (D : va_G) (ad : Nat → Nat) (cI : ClassId) (g : tG) (sz : Nat) (x0 : Int32) (x1 : Int32) : Met l yX6_isSame wsX6_isSame ({ frames := 1, cells := 0, slots := 0, locals := 21 } : Room) (g_P D [(cI, .int)] (tcW ad cI g) [.ref (ad 30), .int x0, .int x1] sz) (g_Qi D [(cI, .int)] (va_A (tcW ad cI g) sz) (tcW ad cI g) (fX6_isSame_r g x0 x1)) 0 0 (va_A (tcW ad cI g) sz) := by
  refine Met.ofW (cc := cX6_isSame) (maxL := 3) (ret := (some .boolean)) (by decide) rfl ?_
  intro p e s m args below meth c9 s₁ B hml hv
  obtain ⟨rfl, hsz, hP, hK, hD0⟩ := hv
  have hx := B.exec
  have hb := B.bytes
  have hr := B.returns
  have hts := atoms_spec (ws := wsX6_isSame) B.pre
  have hown : s.vm.findClass RX6 = some m.cls := findClass_of_methodNamed B.named
  have hlocks := B.notSynchronized
  subst hsz
  have hD := hD0.self (sz := s.heap.size)
  generalize hAe : va_A (tcW ad cI g) s.heap.size = A at hD ⊢
  have hA : ∀ q : Nat, s.heap.size ≤ q → A q := fun q h => by rw [← hAe]; exact Or.inr h
  have hS : va_S A s.heap s.heap [] := va_S.rf
  have hl := lv_entry ([.ref (ad 30), .int x0, .int x1]) (n := 3) (Nat.le_of_ble_eq_true rfl)
  rw [lg_entry_eq]
  generalize (lg_sl ([.ref (ad 30), .int x0, .int x1]) ++ List.replicate (3 - (lg_sl ([.ref (ad 30), .int x0, .int x1])).length) Slot.unset).toArray = ls at hl ⊢
  have hl : lv_has ls 3 [(0, .ref (ad 30)), (1, .int x0), (2, .int x1)] := hl
  have winX5 : ∀ w ∈ u_ws RX5 TX5 1, w ∈ wsX6_isSame := by decide +kernel
  have winX6 : ∀ w ∈ u_ws RX6 TX6 9, w ∈ wsX6_isSame := by decide +kernel
  refine lv_aload_n hx hb dX6_isSame_0 rfl (lv_at hl 0 rfl) ?_
  refine va_get (D := D) (ci := 6) (v := .ref (ad 31)) (C := RX6) (T := TX6) (N := 9) hx hb hts winX6 hown hK hP 30 rfl rfl 0 (by decide) (hts (.fieldLink RX6 14 "TapCap$Taps" "card" "LTapCap$Row;") (List.mem_of_getElem? (i := 1) rfl)) (fun _ h9 => h9) rfl dX6_isSame_1 ?_
  refine lv_iload_n hx hb dX6_isSame_4 rfl (lv_at hl 1 rfl) ?_
  refine g_ki hK hD hS hA (va_runV (As := [.int x0]) (rest := []) ⟨hx, hb, hml, hown, hts⟩ (k_tc_at l D ad cI g s.heap.size 13 (by decide) x0) (cwV 1 hts gX6_isSame_X5_at rfl rfl rfl (by decide +kernel) ⟨Nat.le_of_ble_eq_true rfl, Nat.le_of_ble_eq_true rfl⟩) (g_preV hK hP hD (ci := 5) (q0 := 31) rfl rfl) rfl rfl hl.1 rfl (lv_room (Nat.le_of_ble_eq_true rfl)) dX6_isSame_5 ⟨Nat.le_of_ble_eq_true rfl, Nat.le_of_ble_eq_true rfl⟩) (fun H locs hP hD hS => ?_)
  refine lv_aload_n hx hb dX6_isSame_8 rfl (lv_at hl 0 rfl) ?_
  refine va_get (D := D) (ci := 6) (v := .ref (ad 31)) (C := RX6) (T := TX6) (N := 9) hx hb hts winX6 hown hK hP 30 rfl rfl 0 (by decide) (hts (.fieldLink RX6 14 "TapCap$Taps" "card" "LTapCap$Row;") (List.mem_of_getElem? (i := 1) rfl)) (fun _ h9 => h9) rfl dX6_isSame_9 ?_
  refine lv_iload_n hx hb dX6_isSame_12 rfl (lv_at hl 2 rfl) ?_
  refine g_ki hK hD hS hA (va_runV (As := [.int x1]) (rest := [.int (gA g 13 x0)]) ⟨hx, hb, hml, hown, hts⟩ (k_tc_at l D ad cI g H.size 13 (by decide) x1) (cwV 1 hts gX6_isSame_X5_at rfl rfl rfl (by decide +kernel) ⟨Nat.le_of_ble_eq_true rfl, Nat.le_of_ble_eq_true rfl⟩) (g_preV hK hP hD (ci := 5) (q0 := 31) rfl rfl) rfl rfl hl.1 rfl (lv_room (Nat.le_of_ble_eq_true rfl)) dX6_isSame_13 ⟨Nat.le_of_ble_eq_true rfl, Nat.le_of_ble_eq_true rfl⟩) (fun H locs hP hD hS => ?_)
  refine lv_icmp_ne (tgt := 118) hx hb dX6_isSame_16 (by decide) (fun c1 => ?_) (fun c1 => ?_)
  · refine lv_iconst (v := 0) hx hb dX6_isSame_118 (by decide) ?_
    exact g_iret hx hb hr narrow_z0 hlocks hK hP hD hS (eX6_isSame_r1 g x0 x1 c1).symm dX6_isSame_119
  · refine lv_aload_n hx hb dX6_isSame_19 rfl (lv_at hl 0 rfl) ?_
    refine va_get (D := D) (ci := 6) (v := .ref (ad 33)) (C := RX6) (T := TX6) (N := 9) hx hb hts winX6 hown hK hP 30 rfl rfl 1 (by decide) (hts (.fieldLink RX6 20 "TapCap$Taps" "stop" "LTapCap$Row;") (List.mem_of_getElem? (i := 2) rfl)) (fun _ h9 => h9) rfl dX6_isSame_20 ?_
    refine lv_iload_n hx hb dX6_isSame_23 rfl (lv_at hl 1 rfl) ?_
    refine g_ki hK hD hS hA (va_runV (As := [.int x0]) (rest := []) ⟨hx, hb, hml, hown, hts⟩ (k_tc_at l D ad cI g H.size 14 (by decide) x0) (cwV 1 hts gX6_isSame_X5_at rfl rfl rfl (by decide +kernel) ⟨Nat.le_of_ble_eq_true rfl, Nat.le_of_ble_eq_true rfl⟩) (g_preV hK hP hD (ci := 5) (q0 := 33) rfl rfl) rfl rfl hl.1 rfl (lv_room (Nat.le_of_ble_eq_true rfl)) dX6_isSame_24 ⟨Nat.le_of_ble_eq_true rfl, Nat.le_of_ble_eq_true rfl⟩) (fun H locs hP hD hS => ?_)
    refine lv_aload_n hx hb dX6_isSame_27 rfl (lv_at hl 0 rfl) ?_
    refine va_get (D := D) (ci := 6) (v := .ref (ad 33)) (C := RX6) (T := TX6) (N := 9) hx hb hts winX6 hown hK hP 30 rfl rfl 1 (by decide) (hts (.fieldLink RX6 20 "TapCap$Taps" "stop" "LTapCap$Row;") (List.mem_of_getElem? (i := 2) rfl)) (fun _ h9 => h9) rfl dX6_isSame_28 ?_
    refine lv_iload_n hx hb dX6_isSame_31 rfl (lv_at hl 2 rfl) ?_
    refine g_ki hK hD hS hA (va_runV (As := [.int x1]) (rest := [.int (gA g 14 x0)]) ⟨hx, hb, hml, hown, hts⟩ (k_tc_at l D ad cI g H.size 14 (by decide) x1) (cwV 1 hts gX6_isSame_X5_at rfl rfl rfl (by decide +kernel) ⟨Nat.le_of_ble_eq_true rfl, Nat.le_of_ble_eq_true rfl⟩) (g_preV hK hP hD (ci := 5) (q0 := 33) rfl rfl) rfl rfl hl.1 rfl (lv_room (Nat.le_of_ble_eq_true rfl)) dX6_isSame_32 ⟨Nat.le_of_ble_eq_true rfl, Nat.le_of_ble_eq_true rfl⟩) (fun H locs hP hD hS => ?_)
    refine lv_icmp_ne (tgt := 118) hx hb dX6_isSame_35 (by decide) (fun c2 => ?_) (fun c2 => ?_)
    · refine lv_iconst (v := 0) hx hb dX6_isSame_118 (by decide) ?_
      exact g_iret hx hb hr narrow_z0 hlocks hK hP hD hS (eX6_isSame_r2 g x0 x1 c1 c2).symm dX6_isSame_119
    · refine lv_aload_n hx hb dX6_isSame_38 rfl (lv_at hl 0 rfl) ?_
      refine va_get (D := D) (ci := 6) (v := .ref (ad 35)) (C := RX6) (T := TX6) (N := 9) hx hb hts winX6 hown hK hP 30 rfl rfl 2 (by decide) (hts (.fieldLink RX6 23 "TapCap$Taps" "line" "LTapCap$Row;") (List.mem_of_getElem? (i := 3) rfl)) (fun _ h9 => h9) rfl dX6_isSame_39 ?_
      refine lv_iload_n hx hb dX6_isSame_42 rfl (lv_at hl 1 rfl) ?_
      refine g_ki hK hD hS hA (va_runV (As := [.int x0]) (rest := []) ⟨hx, hb, hml, hown, hts⟩ (k_tc_at l D ad cI g H.size 15 (by decide) x0) (cwV 1 hts gX6_isSame_X5_at rfl rfl rfl (by decide +kernel) ⟨Nat.le_of_ble_eq_true rfl, Nat.le_of_ble_eq_true rfl⟩) (g_preV hK hP hD (ci := 5) (q0 := 35) rfl rfl) rfl rfl hl.1 rfl (lv_room (Nat.le_of_ble_eq_true rfl)) dX6_isSame_43 ⟨Nat.le_of_ble_eq_true rfl, Nat.le_of_ble_eq_true rfl⟩) (fun H locs hP hD hS => ?_)
      refine lv_aload_n hx hb dX6_isSame_46 rfl (lv_at hl 0 rfl) ?_
      refine va_get (D := D) (ci := 6) (v := .ref (ad 35)) (C := RX6) (T := TX6) (N := 9) hx hb hts winX6 hown hK hP 30 rfl rfl 2 (by decide) (hts (.fieldLink RX6 23 "TapCap$Taps" "line" "LTapCap$Row;") (List.mem_of_getElem? (i := 3) rfl)) (fun _ h9 => h9) rfl dX6_isSame_47 ?_
      refine lv_iload_n hx hb dX6_isSame_50 rfl (lv_at hl 2 rfl) ?_
      refine g_ki hK hD hS hA (va_runV (As := [.int x1]) (rest := [.int (gA g 15 x0)]) ⟨hx, hb, hml, hown, hts⟩ (k_tc_at l D ad cI g H.size 15 (by decide) x1) (cwV 1 hts gX6_isSame_X5_at rfl rfl rfl (by decide +kernel) ⟨Nat.le_of_ble_eq_true rfl, Nat.le_of_ble_eq_true rfl⟩) (g_preV hK hP hD (ci := 5) (q0 := 35) rfl rfl) rfl rfl hl.1 rfl (lv_room (Nat.le_of_ble_eq_true rfl)) dX6_isSame_51 ⟨Nat.le_of_ble_eq_true rfl, Nat.le_of_ble_eq_true rfl⟩) (fun H locs hP hD hS => ?_)
      refine lv_icmp_ne (tgt := 118) hx hb dX6_isSame_54 (by decide) (fun c3 => ?_) (fun c3 => ?_)
      · refine lv_iconst (v := 0) hx hb dX6_isSame_118 (by decide) ?_
        exact g_iret hx hb hr narrow_z0 hlocks hK hP hD hS (eX6_isSame_r3 g x0 x1 c1 c2 c3).symm dX6_isSame_119
      · refine lv_aload_n hx hb dX6_isSame_57 rfl (lv_at hl 0 rfl) ?_
        refine va_get (D := D) (ci := 6) (v := .ref (ad 37)) (C := RX6) (T := TX6) (N := 9) hx hb hts winX6 hown hK hP 30 rfl rfl 3 (by decide) (hts (.fieldLink RX6 26 "TapCap$Taps" "in" "LTapCap$Row;") (List.mem_of_getElem? (i := 4) rfl)) (fun _ h9 => h9) rfl dX6_isSame_58 ?_
        refine lv_iload_n hx hb dX6_isSame_61 rfl (lv_at hl 1 rfl) ?_
        refine g_ki hK hD hS hA (va_runV (As := [.int x0]) (rest := []) ⟨hx, hb, hml, hown, hts⟩ (k_tc_at l D ad cI g H.size 16 (by decide) x0) (cwV 1 hts gX6_isSame_X5_at rfl rfl rfl (by decide +kernel) ⟨Nat.le_of_ble_eq_true rfl, Nat.le_of_ble_eq_true rfl⟩) (g_preV hK hP hD (ci := 5) (q0 := 37) rfl rfl) rfl rfl hl.1 rfl (lv_room (Nat.le_of_ble_eq_true rfl)) dX6_isSame_62 ⟨Nat.le_of_ble_eq_true rfl, Nat.le_of_ble_eq_true rfl⟩) (fun H locs hP hD hS => ?_)
        refine lv_aload_n hx hb dX6_isSame_65 rfl (lv_at hl 0 rfl) ?_
        refine va_get (D := D) (ci := 6) (v := .ref (ad 37)) (C := RX6) (T := TX6) (N := 9) hx hb hts winX6 hown hK hP 30 rfl rfl 3 (by decide) (hts (.fieldLink RX6 26 "TapCap$Taps" "in" "LTapCap$Row;") (List.mem_of_getElem? (i := 4) rfl)) (fun _ h9 => h9) rfl dX6_isSame_66 ?_
        refine lv_iload_n hx hb dX6_isSame_69 rfl (lv_at hl 2 rfl) ?_
        refine g_ki hK hD hS hA (va_runV (As := [.int x1]) (rest := [.int (gA g 16 x0)]) ⟨hx, hb, hml, hown, hts⟩ (k_tc_at l D ad cI g H.size 16 (by decide) x1) (cwV 1 hts gX6_isSame_X5_at rfl rfl rfl (by decide +kernel) ⟨Nat.le_of_ble_eq_true rfl, Nat.le_of_ble_eq_true rfl⟩) (g_preV hK hP hD (ci := 5) (q0 := 37) rfl rfl) rfl rfl hl.1 rfl (lv_room (Nat.le_of_ble_eq_true rfl)) dX6_isSame_70 ⟨Nat.le_of_ble_eq_true rfl, Nat.le_of_ble_eq_true rfl⟩) (fun H locs hP hD hS => ?_)
        refine lv_icmp_ne (tgt := 118) hx hb dX6_isSame_73 (by decide) (fun c4 => ?_) (fun c4 => ?_)
        · refine lv_iconst (v := 0) hx hb dX6_isSame_118 (by decide) ?_
          exact g_iret hx hb hr narrow_z0 hlocks hK hP hD hS (eX6_isSame_r4 g x0 x1 c1 c2 c3 c4).symm dX6_isSame_119
        · refine lv_aload_n hx hb dX6_isSame_76 rfl (lv_at hl 0 rfl) ?_
          refine va_get (D := D) (ci := 6) (v := .ref (ad 39)) (C := RX6) (T := TX6) (N := 9) hx hb hts winX6 hown hK hP 30 rfl rfl 4 (by decide) (hts (.fieldLink RX6 29 "TapCap$Taps" "day" "LTapCap$Row;") (List.mem_of_getElem? (i := 5) rfl)) (fun _ h9 => h9) rfl dX6_isSame_77 ?_
          refine lv_iload_n hx hb dX6_isSame_80 rfl (lv_at hl 1 rfl) ?_
          refine g_ki hK hD hS hA (va_runV (As := [.int x0]) (rest := []) ⟨hx, hb, hml, hown, hts⟩ (k_tc_at l D ad cI g H.size 17 (by decide) x0) (cwV 1 hts gX6_isSame_X5_at rfl rfl rfl (by decide +kernel) ⟨Nat.le_of_ble_eq_true rfl, Nat.le_of_ble_eq_true rfl⟩) (g_preV hK hP hD (ci := 5) (q0 := 39) rfl rfl) rfl rfl hl.1 rfl (lv_room (Nat.le_of_ble_eq_true rfl)) dX6_isSame_81 ⟨Nat.le_of_ble_eq_true rfl, Nat.le_of_ble_eq_true rfl⟩) (fun H locs hP hD hS => ?_)
          refine lv_aload_n hx hb dX6_isSame_84 rfl (lv_at hl 0 rfl) ?_
          refine va_get (D := D) (ci := 6) (v := .ref (ad 39)) (C := RX6) (T := TX6) (N := 9) hx hb hts winX6 hown hK hP 30 rfl rfl 4 (by decide) (hts (.fieldLink RX6 29 "TapCap$Taps" "day" "LTapCap$Row;") (List.mem_of_getElem? (i := 5) rfl)) (fun _ h9 => h9) rfl dX6_isSame_85 ?_
          refine lv_iload_n hx hb dX6_isSame_88 rfl (lv_at hl 2 rfl) ?_
          refine g_ki hK hD hS hA (va_runV (As := [.int x1]) (rest := [.int (gA g 17 x0)]) ⟨hx, hb, hml, hown, hts⟩ (k_tc_at l D ad cI g H.size 17 (by decide) x1) (cwV 1 hts gX6_isSame_X5_at rfl rfl rfl (by decide +kernel) ⟨Nat.le_of_ble_eq_true rfl, Nat.le_of_ble_eq_true rfl⟩) (g_preV hK hP hD (ci := 5) (q0 := 39) rfl rfl) rfl rfl hl.1 rfl (lv_room (Nat.le_of_ble_eq_true rfl)) dX6_isSame_89 ⟨Nat.le_of_ble_eq_true rfl, Nat.le_of_ble_eq_true rfl⟩) (fun H locs hP hD hS => ?_)
          refine lv_icmp_ne (tgt := 118) hx hb dX6_isSame_92 (by decide) (fun c5 => ?_) (fun c5 => ?_)
          · refine lv_iconst (v := 0) hx hb dX6_isSame_118 (by decide) ?_
            exact g_iret hx hb hr narrow_z0 hlocks hK hP hD hS (eX6_isSame_r5 g x0 x1 c1 c2 c3 c4 c5).symm dX6_isSame_119
          · refine lv_aload_n hx hb dX6_isSame_95 rfl (lv_at hl 0 rfl) ?_
            refine va_get (D := D) (ci := 6) (v := .ref (ad 41)) (C := RX6) (T := TX6) (N := 9) hx hb hts winX6 hown hK hP 30 rfl rfl 5 (by decide) (hts (.fieldLink RX6 32 "TapCap$Taps" "minute" "LTapCap$Row;") (List.mem_of_getElem? (i := 6) rfl)) (fun _ h9 => h9) rfl dX6_isSame_96 ?_
            refine lv_iload_n hx hb dX6_isSame_99 rfl (lv_at hl 1 rfl) ?_
            refine g_ki hK hD hS hA (va_runV (As := [.int x0]) (rest := []) ⟨hx, hb, hml, hown, hts⟩ (k_tc_at l D ad cI g H.size 18 (by decide) x0) (cwV 1 hts gX6_isSame_X5_at rfl rfl rfl (by decide +kernel) ⟨Nat.le_of_ble_eq_true rfl, Nat.le_of_ble_eq_true rfl⟩) (g_preV hK hP hD (ci := 5) (q0 := 41) rfl rfl) rfl rfl hl.1 rfl (lv_room (Nat.le_of_ble_eq_true rfl)) dX6_isSame_100 ⟨Nat.le_of_ble_eq_true rfl, Nat.le_of_ble_eq_true rfl⟩) (fun H locs hP hD hS => ?_)
            refine lv_aload_n hx hb dX6_isSame_103 rfl (lv_at hl 0 rfl) ?_
            refine va_get (D := D) (ci := 6) (v := .ref (ad 41)) (C := RX6) (T := TX6) (N := 9) hx hb hts winX6 hown hK hP 30 rfl rfl 5 (by decide) (hts (.fieldLink RX6 32 "TapCap$Taps" "minute" "LTapCap$Row;") (List.mem_of_getElem? (i := 6) rfl)) (fun _ h9 => h9) rfl dX6_isSame_104 ?_
            refine lv_iload_n hx hb dX6_isSame_107 rfl (lv_at hl 2 rfl) ?_
            refine g_ki hK hD hS hA (va_runV (As := [.int x1]) (rest := [.int (gA g 18 x0)]) ⟨hx, hb, hml, hown, hts⟩ (k_tc_at l D ad cI g H.size 18 (by decide) x1) (cwV 1 hts gX6_isSame_X5_at rfl rfl rfl (by decide +kernel) ⟨Nat.le_of_ble_eq_true rfl, Nat.le_of_ble_eq_true rfl⟩) (g_preV hK hP hD (ci := 5) (q0 := 41) rfl rfl) rfl rfl hl.1 rfl (lv_room (Nat.le_of_ble_eq_true rfl)) dX6_isSame_108 ⟨Nat.le_of_ble_eq_true rfl, Nat.le_of_ble_eq_true rfl⟩) (fun H locs hP hD hS => ?_)
            refine lv_icmp_ne (tgt := 118) hx hb dX6_isSame_111 (by decide) (fun c6 => ?_) (fun c6 => ?_)
            · refine lv_iconst (v := 0) hx hb dX6_isSame_118 (by decide) ?_
              exact g_iret hx hb hr narrow_z0 hlocks hK hP hD hS (eX6_isSame_r6 g x0 x1 c1 c2 c3 c4 c5 c6).symm dX6_isSame_119
            · refine lv_iconst (v := 1) hx hb dX6_isSame_114 (by decide) ?_
              refine lv_goto (tgt := 119) hx hb dX6_isSame_115 (by decide) ?_
              exact g_iret hx hb hr narrow_z1 hlocks hK hP hD hS (eX6_isSame_r7 g x0 x1 c1 c2 c3 c4 c5 c6).symm dX6_isSame_119
def sX6_isRepeated_2 (g : tG) (x0 : Int32) : Int32 → Int32 ⊕ Int32 := fun i1 =>
  if (g 45 4) ≤ i1 then
    .inr 0
  else
    if (fX6_isSame_r g i1 x0) = 0 then
      .inl (i1 + 1)
    else
      .inr 1
set_option maxRecDepth 20000 in
theorem eX6_isRepeated_2_1 (g : tG) (x0 : Int32) (i1 : Int32) (c1 : (g 45 4) ≤ i1) : sX6_isRepeated_2 g x0 i1 = .inr 0 := by
  exact (if_pos c1).trans rfl
set_option maxRecDepth 20000 in
theorem eX6_isRepeated_2_2 (g : tG) (x0 : Int32) (i1 : Int32) (c1 : ¬ ((g 45 4) ≤ i1)) (c2 : (fX6_isSame_r g i1 x0) = 0) : sX6_isRepeated_2 g x0 i1 = .inl (i1 + 1) := by
  exact (if_neg c1).trans ((if_pos c2).trans rfl)
set_option maxRecDepth 20000 in
theorem eX6_isRepeated_2_3 (g : tG) (x0 : Int32) (i1 : Int32) (c1 : ¬ ((g 45 4) ≤ i1)) (c2 : ¬ ((fX6_isSame_r g i1 x0) = 0)) : sX6_isRepeated_2 g x0 i1 = .inr 1 := by
  exact (if_neg c1).trans ((if_neg c2).trans rfl)
theorem tX6_isRepeated_2 (g : tG) (x0 : Int32) : lrE (sX6_isRepeated_2 g x0) (nn ((g 45 4)) + 1) 0 := by
  refine lrE_up (fun i => i) ((g 45 4)) ?_ _ _ (nn_le _)
  intro i1 τ h9
  by_cases c1 : (g 45 4) ≤ i1
  · have hs := eX6_isRepeated_2_1 g x0 i1 c1
    rw [hs] at h9
    exact absurd h9 (fun q => by cases q)
  · by_cases c2 : (fX6_isSame_r g i1 x0) = 0
    · have hs := eX6_isRepeated_2_2 g x0 i1 c1 c2
      rw [hs] at h9
      have e9 := Sum.inl.inj h9
      subst e9
      exact ⟨not_le32 c1, rfl⟩
    · have hs := eX6_isRepeated_2_3 g x0 i1 c1 c2
      rw [hs] at h9
      exact absurd h9 (fun q => by cases q)
def fX6_isRepeated_r (g : tG) (x0 : Int32) : Int32 :=
  lr (sX6_isRepeated_2 g x0) 0 (nn ((g 45 4)) + 1) 0
set_option maxRecDepth 20000 in
theorem eX6_isRepeated_r1 (g : tG) (x0 : Int32) : fX6_isRepeated_r g x0 = lr (sX6_isRepeated_2 g x0) 0 (nn ((g 45 4)) + 1) 0 := by
  exact rfl
set_option maxHeartbeats 4000000 in
set_option maxRecDepth 100000 in
theorem kX6_isRepeated (l : Launch) (D : va_G) (ad : Nat → Nat) (cI : ClassId) (g : tG) (sz : Nat) (x0 : Int32) : Met l yX6_isRepeated wsX6_isRepeated ({ frames := 2, cells := 0, slots := 0, locals := 43 } : Room) (g_P D [(cI, .int)] (tcW ad cI g) [.ref (ad 30), .int x0] sz) (g_Qi D [(cI, .int)] (va_A (tcW ad cI g) sz) (tcW ad cI g) (fX6_isRepeated_r g x0)) 0 0 (va_A (tcW ad cI g) sz) := by
  refine Met.ofW (cc := cX6_isRepeated) (maxL := 3) (ret := (some .boolean)) (by decide) rfl ?_
  intro p e s m args below meth c9 s₁ B hml hv
  obtain ⟨rfl, hsz, hP, hK, hD0⟩ := hv
  have hx := B.exec
  have hb := B.bytes
  have hr := B.returns
  have hts := atoms_spec (ws := wsX6_isRepeated) B.pre
  have hown : s.vm.findClass RX6 = some m.cls := findClass_of_methodNamed B.named
  have hlocks := B.notSynchronized
  subst hsz
  have hD := hD0.self (sz := s.heap.size)
  generalize hAe : va_A (tcW ad cI g) s.heap.size = A at hD ⊢
  have hA : ∀ q : Nat, s.heap.size ≤ q → A q := fun q h => by rw [← hAe]; exact Or.inr h
  have hS : va_S A s.heap s.heap [] := va_S.rf
  have hl := lv_entry ([.ref (ad 30), .int x0]) (n := 3) (Nat.le_of_ble_eq_true rfl)
  rw [lg_entry_eq]
  generalize (lg_sl ([.ref (ad 30), .int x0]) ++ List.replicate (3 - (lg_sl ([.ref (ad 30), .int x0])).length) Slot.unset).toArray = ls at hl ⊢
  have hl : lv_has ls 3 [(0, .ref (ad 30)), (1, .int x0)] := hl
  have winX6 : ∀ w ∈ u_ws RX6 TX6 9, w ∈ wsX6_isRepeated := by decide +kernel
  refine lv_iconst (v := 0) hx hb dX6_isRepeated_0 (by decide) ?_
  refine lv_istore_n (lv' := [(2, .int 0), (0, .ref (ad 30)), (1, .int x0)]) hx hb dX6_isRepeated_1 rfl hl (by decide) rfl (fun ls hl => ?_)
  have hf := eX6_isRepeated_r1 g x0 
  have loop : ∀ (n : Nat) (i1 : Int32), lrE (sX6_isRepeated_2 g x0) n i1 → fX6_isRepeated_r g x0 = lr (sX6_isRepeated_2 g x0) 0 n i1 → ∀ (H : Heap) (locs : List Loc), va_P D vwCl (tcW ad cI g) H → va_D A (tcW ad cI g) → va_S A s.heap H locs → ∀ (ls : Array Slot), lv_has ls 3 [(2, .int i1), (0, .ref (ad 30)), (1, .int x0)] → W p l e (headSpec wsX6_isRepeated ({ frames := 2, cells := 0, slots := 0, locals := 43 } : Room)).room s m ([.ref (ad 30), .int x0] : List Value).toArray below meth c9 H locs 0 0 (MQ below (g_Qi D [(cI, .int)] A (tcW ad cI g) (fX6_isRepeated_r g x0)) ([.ref (ad 30), .int x0] : List Value).toArray s 0 0 A) (F0 m 2 ls []) := by
    refine lp_ind ?_
    intro n ih i1 hE hf H locs hP hD hS ls hl
    refine lv_iload_n hx hb dX6_isRepeated_2 rfl (lv_at hl 0 rfl) ?_
    refine lv_aload_n hx hb dX6_isRepeated_3 rfl (lv_at hl 1 rfl) ?_
    refine va_get (D := D) (ci := 6) (v := .int (g 45 4)) (C := RX6) (T := TX6) (N := 9) hx hb hts winX6 hown hK hP 30 rfl rfl 6 (by decide) (hts (.fieldLink RX6 35 "TapCap$Taps" "count" "I") (List.mem_of_getElem? (i := 1) rfl)) (fun _ h9 => h9) rfl dX6_isRepeated_4 ?_
    refine lv_icmp_ge (tgt := 27) hx hb dX6_isRepeated_7 (by decide) (fun c1 => ?_) (fun c1 => ?_)
    · refine lv_iconst (v := 0) hx hb dX6_isRepeated_27 (by decide) ?_
      have hs := eX6_isRepeated_2_1 g x0 i1 c1
      exact g_iret hx hb hr narrow_z0 hlocks hK hP hD hS ((hf.trans (lr_end hE hs)).symm) dX6_isRepeated_28
    · refine lv_aload_n hx hb dX6_isRepeated_10 rfl (lv_at hl 1 rfl) ?_
      refine lv_iload_n hx hb dX6_isRepeated_11 rfl (lv_at hl 0 rfl) ?_
      refine lv_iload_n hx hb dX6_isRepeated_12 rfl (lv_at hl 2 rfl) ?_
      refine g_ki hK hD hS hA (va_runV (As := [.int i1, .int x0]) (rest := []) ⟨hx, hb, hml, hown, hts⟩ (kX6_isSame l D ad cI g H.size i1 x0) (cwV 2 hts gX6_isRepeated_X6_isSame rfl rfl rfl (by decide +kernel) ⟨Nat.le_of_ble_eq_true rfl, Nat.le_of_ble_eq_true rfl⟩) (g_preV hK hP hD (ci := 6) (q0 := 30) rfl rfl) rfl rfl hl.1 rfl (lv_room (Nat.le_of_ble_eq_true rfl)) dX6_isRepeated_13 ⟨Nat.le_of_ble_eq_true rfl, Nat.le_of_ble_eq_true rfl⟩) (fun H locs hP hD hS => ?_)
      refine lv_if_eq (tgt := 21) hx hb dX6_isRepeated_16 (by decide) (fun c2 => ?_) (fun c2 => ?_)
      · refine lv_iinc (v := i1 + 1) (lv' := [(2, .int (i1 + 1)), (0, .ref (ad 30)), (1, .int x0)]) hx hb dX6_isRepeated_21 hl (k := 0) rfl rfl (by decide) rfl (fun ls hl => ?_)
        refine lv_goto (tgt := 2) hx hb dX6_isRepeated_24 (by decide) ?_
        have hs := eX6_isRepeated_2_2 g x0 i1 c1 c2
        obtain ⟨n9, hn9, hE9, hr9⟩ := lrE_next (d := 0) hE hs
        exact ih n9 (by omega) (i1 + 1) hE9 (hf.trans hr9) H locs hP hD hS ls (lv_sub hl [0, 1, 2] rfl)
      · refine lv_iconst (v := 1) hx hb dX6_isRepeated_19 (by decide) ?_
        have hs := eX6_isRepeated_2_3 g x0 i1 c1 c2
        exact g_iret hx hb hr narrow_z1 hlocks hK hP hD hS ((hf.trans (lr_end hE hs)).symm) dX6_isRepeated_20
  exact loop _ _ (tX6_isRepeated_2 g x0) hf _ _ hP hD hS ls hl
def sX6_countOf_4 (g : tG) (x0 : Int32) : (Int32 × Int32) → Option (Int32 × Int32) := fun σ =>
  if (g 45 4) ≤ σ.1 then
    none
  else
    if (gA g 13 σ.1) = x0 then
      let v2 : Int32 := σ.2 + 1
      some (σ.1 + 1, v2)
    else
      let v1 : Int32 := σ.2 + 0
      some (σ.1 + 1, v1)
set_option maxRecDepth 20000 in
theorem eX6_countOf_4_1 (g : tG) (x0 : Int32) (i1 : Int32) (i2 : Int32) (c1 : (g 45 4) ≤ i1) : sX6_countOf_4 g x0 (i1, i2) = none := by
  exact (if_pos c1).trans rfl
set_option maxRecDepth 20000 in
theorem eX6_countOf_4_2 (g : tG) (x0 : Int32) (i1 : Int32) (i2 : Int32) (c1 : ¬ ((g 45 4) ≤ i1)) (c2 : ¬ ((gA g 13 i1) = x0)) {v1 : Int32} (hv1 : v1 = i2 + 0) : sX6_countOf_4 g x0 (i1, i2) = some (i1 + 1, v1) := by
  subst hv1
  exact (if_neg c1).trans ((if_neg c2).trans rfl)
set_option maxRecDepth 20000 in
theorem eX6_countOf_4_3 (g : tG) (x0 : Int32) (i1 : Int32) (i2 : Int32) (c1 : ¬ ((g 45 4) ≤ i1)) (c2 : (gA g 13 i1) = x0) {v2 : Int32} (hv2 : v2 = i2 + 1) : sX6_countOf_4 g x0 (i1, i2) = some (i1 + 1, v2) := by
  subst hv2
  exact (if_neg c1).trans ((if_pos c2).trans rfl)
theorem tX6_countOf_4 (g : tG) (x0 : Int32) (i2z : Int32) : lpE (sX6_countOf_4 g x0) (nn ((g 45 4))) (0, i2z) := by
  refine lpE_up (fun σ => σ.1) ((g 45 4)) ?_ _ _ (nn_le _)
  intro σ τ h9
  obtain ⟨i1, i2⟩ := σ
  by_cases c1 : (g 45 4) ≤ i1
  · have hs := eX6_countOf_4_1 g x0 i1 i2 c1
    rw [hs] at h9
    cases h9
  · by_cases c2 : (gA g 13 i1) = x0
    · obtain ⟨v2, hv2⟩ : ∃ z : Int32, z = i2 + 1 := ⟨_, rfl⟩
      have hs := eX6_countOf_4_3 g x0 i1 i2 c1 c2 hv2
      rw [hs] at h9
      have e9 := Option.some.inj h9
      subst e9
      exact ⟨not_le32 c1, rfl⟩
    · obtain ⟨v1, hv1⟩ : ∃ z : Int32, z = i2 + 0 := ⟨_, rfl⟩
      have hs := eX6_countOf_4_2 g x0 i1 i2 c1 c2 hv1
      rw [hs] at h9
      have e9 := Option.some.inj h9
      subst e9
      exact ⟨not_le32 c1, rfl⟩
def fX6_countOf_r (g : tG) (x0 : Int32) : Int32 :=
  let r1 : Int32 × Int32 := lp (sX6_countOf_4 g x0) (nn ((g 45 4))) (0, 0)
  r1.2
set_option maxRecDepth 20000 in
theorem eX6_countOf_r1 (g : tG) (x0 : Int32) {r1 : Int32 × Int32} (hr1 : r1 = lp (sX6_countOf_4 g x0) (nn ((g 45 4))) (0, 0)) : fX6_countOf_r g x0 = r1.2 := by
  subst hr1
  exact rfl
set_option maxHeartbeats 4000000 in
set_option maxRecDepth 100000 in
theorem kX6_countOf (l : Launch) (D : va_G) (ad : Nat → Nat) (cI : ClassId) (g : tG) (sz : Nat) (x0 : Int32) : Met l yX6_countOf wsX6_countOf ({ frames := 1, cells := 0, slots := 0, locals := 21 } : Room) (g_P D [(cI, .int)] (tcW ad cI g) [.ref (ad 30), .int x0] sz) (g_Qi D [(cI, .int)] (va_A (tcW ad cI g) sz) (tcW ad cI g) (fX6_countOf_r g x0)) 0 0 (va_A (tcW ad cI g) sz) := by
  refine Met.ofW (cc := cX6_countOf) (maxL := 4) (ret := (some .int)) (by decide) rfl ?_
  intro p e s m args below meth c9 s₁ B hml hv
  obtain ⟨rfl, hsz, hP, hK, hD0⟩ := hv
  have hx := B.exec
  have hb := B.bytes
  have hr := B.returns
  have hts := atoms_spec (ws := wsX6_countOf) B.pre
  have hown : s.vm.findClass RX6 = some m.cls := findClass_of_methodNamed B.named
  have hlocks := B.notSynchronized
  subst hsz
  have hD := hD0.self (sz := s.heap.size)
  generalize hAe : va_A (tcW ad cI g) s.heap.size = A at hD ⊢
  have hA : ∀ q : Nat, s.heap.size ≤ q → A q := fun q h => by rw [← hAe]; exact Or.inr h
  have hS : va_S A s.heap s.heap [] := va_S.rf
  have hl := lv_entry ([.ref (ad 30), .int x0]) (n := 4) (Nat.le_of_ble_eq_true rfl)
  rw [lg_entry_eq]
  generalize (lg_sl ([.ref (ad 30), .int x0]) ++ List.replicate (4 - (lg_sl ([.ref (ad 30), .int x0])).length) Slot.unset).toArray = ls at hl ⊢
  have hl : lv_has ls 4 [(0, .ref (ad 30)), (1, .int x0)] := hl
  have winX5 : ∀ w ∈ u_ws RX5 TX5 1, w ∈ wsX6_countOf := by decide +kernel
  have winX6 : ∀ w ∈ u_ws RX6 TX6 9, w ∈ wsX6_countOf := by decide +kernel
  refine lv_iconst (v := 0) hx hb dX6_countOf_0 (by decide) ?_
  refine lv_istore_n (lv' := [(2, .int 0), (0, .ref (ad 30)), (1, .int x0)]) hx hb dX6_countOf_1 rfl hl (by decide) rfl (fun ls hl => ?_)
  refine lv_iconst (v := 0) hx hb dX6_countOf_2 (by decide) ?_
  refine lv_istore_n (lv' := [(3, .int 0), (2, .int 0), (0, .ref (ad 30)), (1, .int x0)]) hx hb dX6_countOf_3 rfl hl (by decide) rfl (fun ls hl => ?_)
  have loop4 : ∀ (n : Nat)  (i1 : Int32) (i2 : Int32), lpE (sX6_countOf_4 g x0) n (i1, i2) → ∀ (H : Heap) (locs : List Loc), va_P D vwCl (tcW ad cI g) H → va_D A (tcW ad cI g) → va_S A s.heap H locs → ∀ (ls : Array Slot), lv_has ls 4 [(3, .int i1), (2, .int i2), (0, .ref (ad 30)), (1, .int x0)] → (∀ r : Int32 × Int32, r = lp (sX6_countOf_4 g x0) n (i1, i2) → ∀ (H : Heap) (locs : List Loc), va_P D vwCl (tcW ad cI g) H → va_D A (tcW ad cI g) → va_S A s.heap H locs → ∀ (ls : Array Slot), lv_has ls 4 [(3, .int r.1), (2, .int r.2), (0, .ref (ad 30)), (1, .int x0)] → W p l e (headSpec wsX6_countOf ({ frames := 1, cells := 0, slots := 0, locals := 21 } : Room)).room s m ([.ref (ad 30), .int x0] : List Value).toArray below meth c9 H locs 0 0 (MQ below (g_Qi D [(cI, .int)] A (tcW ad cI g) (fX6_countOf_r g x0)) ([.ref (ad 30), .int x0] : List Value).toArray s 0 0 A) (F0 m 38 ls [])) → W p l e (headSpec wsX6_countOf ({ frames := 1, cells := 0, slots := 0, locals := 21 } : Room)).room s m ([.ref (ad 30), .int x0] : List Value).toArray below meth c9 H locs 0 0 (MQ below (g_Qi D [(cI, .int)] A (tcW ad cI g) (fX6_countOf_r g x0)) ([.ref (ad 30), .int x0] : List Value).toArray s 0 0 A) (F0 m 4 ls []) := by
    refine lp_ind ?_
    intro n ih i1 i2 hE H locs hP hD hS ls hl kk
    refine lv_iload_n hx hb dX6_countOf_4 rfl (lv_at hl 0 rfl) ?_
    refine lv_aload_n hx hb dX6_countOf_5 rfl (lv_at hl 2 rfl) ?_
    refine va_get (D := D) (ci := 6) (v := .int (g 45 4)) (C := RX6) (T := TX6) (N := 9) hx hb hts winX6 hown hK hP 30 rfl rfl 6 (by decide) (hts (.fieldLink RX6 35 "TapCap$Taps" "count" "I") (List.mem_of_getElem? (i := 1) rfl)) (fun _ h9 => h9) rfl dX6_countOf_6 ?_
    refine lv_icmp_ge (tgt := 38) hx hb dX6_countOf_9 (by decide) (fun c1 => ?_) (fun c1 => ?_)
    · have hs := eX6_countOf_4_1 g x0 i1 i2 c1
      exact kk _ (lp_none hs).symm H locs hP hD hS ls (lv_sub hl [0, 1, 2, 3] rfl)
    · refine lv_iload_n hx hb dX6_countOf_12 rfl (lv_at hl 1 rfl) ?_
      refine lv_aload_n hx hb dX6_countOf_13 rfl (lv_at hl 2 rfl) ?_
      refine va_get (D := D) (ci := 6) (v := .ref (ad 31)) (C := RX6) (T := TX6) (N := 9) hx hb hts winX6 hown hK hP 30 rfl rfl 0 (by decide) (hts (.fieldLink RX6 14 "TapCap$Taps" "card" "LTapCap$Row;") (List.mem_of_getElem? (i := 2) rfl)) (fun _ h9 => h9) rfl dX6_countOf_14 ?_
      refine lv_iload_n hx hb dX6_countOf_17 rfl (lv_at hl 0 rfl) ?_
      refine g_ki hK hD hS hA (va_runV (As := [.int i1]) (rest := [.int i2]) ⟨hx, hb, hml, hown, hts⟩ (k_tc_at l D ad cI g H.size 13 (by decide) i1) (cwV 1 hts gX6_countOf_X5_at rfl rfl rfl (by decide +kernel) ⟨Nat.le_of_ble_eq_true rfl, Nat.le_of_ble_eq_true rfl⟩) (g_preV hK hP hD (ci := 5) (q0 := 31) rfl rfl) rfl rfl hl.1 rfl (lv_room (Nat.le_of_ble_eq_true rfl)) dX6_countOf_18 ⟨Nat.le_of_ble_eq_true rfl, Nat.le_of_ble_eq_true rfl⟩) (fun H locs hP hD hS => ?_)
      refine lv_iload_n hx hb dX6_countOf_21 rfl (lv_at hl 3 rfl) ?_
      refine lv_icmp_ne (tgt := 29) hx hb dX6_countOf_22 (by decide) (fun c2 => ?_) (fun c2 => ?_)
      · refine lv_iconst (v := 0) hx hb dX6_countOf_29 (by decide) ?_
        refine lv_iadd hx hb dX6_countOf_30 ?_
        refine lv_topi (fun v1 hv1 => ?_)
        refine lv_istore_n (lv' := [(2, .int v1), (3, .int i1), (0, .ref (ad 30)), (1, .int x0)]) hx hb dX6_countOf_31 rfl hl (by decide) rfl (fun ls hl => ?_)
        refine lv_iinc (v := i1 + 1) (lv' := [(3, .int (i1 + 1)), (2, .int v1), (0, .ref (ad 30)), (1, .int x0)]) hx hb dX6_countOf_32 hl (k := 1) rfl rfl (by decide) rfl (fun ls hl => ?_)
        refine lv_goto (tgt := 4) hx hb dX6_countOf_35 (by decide) ?_
        have hs := eX6_countOf_4_2 g x0 i1 i2 c1 c2 hv1
        obtain ⟨n9, hn9, hE9, hr9⟩ := lpE_next hE hs
        exact ih n9 (by omega) (i1 + 1) v1 hE9 H locs hP hD hS ls (lv_sub hl [0, 1, 2, 3] rfl) (fun r hr => kk r (hr.trans hr9.symm))
      · refine lv_iconst (v := 1) hx hb dX6_countOf_25 (by decide) ?_
        refine lv_goto (tgt := 30) hx hb dX6_countOf_26 (by decide) ?_
        refine lv_iadd hx hb dX6_countOf_30 ?_
        refine lv_topi (fun v2 hv2 => ?_)
        refine lv_istore_n (lv' := [(2, .int v2), (3, .int i1), (0, .ref (ad 30)), (1, .int x0)]) hx hb dX6_countOf_31 rfl hl (by decide) rfl (fun ls hl => ?_)
        refine lv_iinc (v := i1 + 1) (lv' := [(3, .int (i1 + 1)), (2, .int v2), (0, .ref (ad 30)), (1, .int x0)]) hx hb dX6_countOf_32 hl (k := 1) rfl rfl (by decide) rfl (fun ls hl => ?_)
        refine lv_goto (tgt := 4) hx hb dX6_countOf_35 (by decide) ?_
        have hs := eX6_countOf_4_3 g x0 i1 i2 c1 c2 hv2
        obtain ⟨n9, hn9, hE9, hr9⟩ := lpE_next hE hs
        exact ih n9 (by omega) (i1 + 1) v2 hE9 H locs hP hD hS ls (lv_sub hl [0, 1, 2, 3] rfl) (fun r hr => kk r (hr.trans hr9.symm))
  refine loop4 (nn ((g 45 4))) 0 0 (tX6_countOf_4 g x0 0) _ _ hP hD hS ls hl (fun r1 hr1 H locs hP hD hS ls hl => ?_)
  have hl : lv_has ls 4 [(2, .int r1.2)] := lv_sub hl [1] rfl
  refine lv_iload_n hx hb dX6_countOf_38 rfl (lv_at hl 0 rfl) ?_
  exact g_iret hx hb hr rfl hlocks hK hP hD hS (eX6_countOf_r1 g x0 hr1).symm dX6_countOf_39
