def fX2_open_w (g : tG) (x0 : Int32) (x1 : Int32) : tG :=
  let g1 : tG := gP g 38 (g 45 9) x0
  let g2 : tG := gP g1 39 (g1 45 9) x1
  let g3 : tG := gP g2 32 (g2 45 9) 0
  let g4 : tG := gP g3 33 (g3 45 9) 1
  let g5 : tG := gP g4 40 (g4 45 9) 4
  if (gA g5 37 x0) = 0 then
    let g8 : tG := gP g5 36 x0 (g5 45 9)
    let g9 : tG := gD g8 37 x0 1
    let v2 : Int32 := (g9 45 9) + 1
    let g10 : tG := tc_sc g9 9 v2
    g10
  else
    let g6 : tG := gD g5 37 x0 1
    let v1 : Int32 := (g6 45 9) + 1
    let g7 : tG := tc_sc g6 9 v1
    g7
set_option maxRecDepth 20000 in
theorem eX2_open_w1 (g : tG) (x0 : Int32) (x1 : Int32) {g1 : tG} (hg1 : g1 = gP g 38 (g 45 9) x0) {g2 : tG} (hg2 : g2 = gP g1 39 (g1 45 9) x1) {g3 : tG} (hg3 : g3 = gP g2 32 (g2 45 9) 0) {g4 : tG} (hg4 : g4 = gP g3 33 (g3 45 9) 1) {g5 : tG} (hg5 : g5 = gP g4 40 (g4 45 9) 4) (c1 : ¬ ((gA g5 37 x0) = 0)) {g6 : tG} (hg6 : g6 = gD g5 37 x0 1) {v1 : Int32} (hv1 : v1 = (g6 45 9) + 1) {g7 : tG} (hg7 : g7 = tc_sc g6 9 v1) : fX2_open_w g x0 x1 = g7 := by
  subst hg1
  subst hg2
  subst hg3
  subst hg4
  subst hg5
  subst hg6
  subst hv1
  subst hg7
  exact (if_neg c1).trans rfl
set_option maxRecDepth 20000 in
theorem eX2_open_w2 (g : tG) (x0 : Int32) (x1 : Int32) {g1 : tG} (hg1 : g1 = gP g 38 (g 45 9) x0) {g2 : tG} (hg2 : g2 = gP g1 39 (g1 45 9) x1) {g3 : tG} (hg3 : g3 = gP g2 32 (g2 45 9) 0) {g4 : tG} (hg4 : g4 = gP g3 33 (g3 45 9) 1) {g5 : tG} (hg5 : g5 = gP g4 40 (g4 45 9) 4) (c1 : (gA g5 37 x0) = 0) {g8 : tG} (hg8 : g8 = gP g5 36 x0 (g5 45 9)) {g9 : tG} (hg9 : g9 = gD g8 37 x0 1) {v2 : Int32} (hv2 : v2 = (g9 45 9) + 1) {g10 : tG} (hg10 : g10 = tc_sc g9 9 v2) : fX2_open_w g x0 x1 = g10 := by
  subst hg1
  subst hg2
  subst hg3
  subst hg4
  subst hg5
  subst hg8
  subst hg9
  subst hv2
  subst hg10
  exact (if_pos c1).trans rfl
theorem fjX2_open (g : tG) (x0 : Int32) (x1 : Int32) (j : Nat) (h : j ∉ ([32, 33, 36, 37, 38, 39, 40, 45] : List Nat)) : fX2_open_w g x0 x1 j = g j := by
  obtain ⟨g1, hg1⟩ : ∃ z : tG, z = gP g 38 (g 45 9) x0 := ⟨_, rfl⟩
  obtain ⟨g2, hg2⟩ : ∃ z : tG, z = gP g1 39 (g1 45 9) x1 := ⟨_, rfl⟩
  obtain ⟨g3, hg3⟩ : ∃ z : tG, z = gP g2 32 (g2 45 9) 0 := ⟨_, rfl⟩
  obtain ⟨g4, hg4⟩ : ∃ z : tG, z = gP g3 33 (g3 45 9) 1 := ⟨_, rfl⟩
  obtain ⟨g5, hg5⟩ : ∃ z : tG, z = gP g4 40 (g4 45 9) 4 := ⟨_, rfl⟩
  by_cases c1 : (gA g5 37 x0) = 0
  · obtain ⟨g8, hg8⟩ : ∃ z : tG, z = gP g5 36 x0 (g5 45 9) := ⟨_, rfl⟩
    obtain ⟨g9, hg9⟩ : ∃ z : tG, z = gD g8 37 x0 1 := ⟨_, rfl⟩
    obtain ⟨v2, hv2⟩ : ∃ z : Int32, z = (g9 45 9) + 1 := ⟨_, rfl⟩
    obtain ⟨g10, hg10⟩ : ∃ z : tG, z = tc_sc g9 9 v2 := ⟨_, rfl⟩
    have qg1 : g1 j = g j := by rw [hg1]; exact gP_ne (fun e9 => h (by rw [e9]; decide))
    have qg2 : g2 j = g1 j := by rw [hg2]; exact gP_ne (fun e9 => h (by rw [e9]; decide))
    have qg3 : g3 j = g2 j := by rw [hg3]; exact gP_ne (fun e9 => h (by rw [e9]; decide))
    have qg4 : g4 j = g3 j := by rw [hg4]; exact gP_ne (fun e9 => h (by rw [e9]; decide))
    have qg5 : g5 j = g4 j := by rw [hg5]; exact gP_ne (fun e9 => h (by rw [e9]; decide))
    have qg8 : g8 j = g5 j := by rw [hg8]; exact gP_ne (fun e9 => h (by rw [e9]; decide))
    have qg9 : g9 j = g8 j := by rw [hg9]; exact gD_ne (fun e9 => h (by rw [e9]; decide))
    have qg10 : g10 j = g9 j := by rw [hg10]; exact sc_nj (fun e9 => h (by rw [e9]; decide))
    have hs := eX2_open_w2 g x0 x1 hg1 hg2 hg3 hg4 hg5 c1 hg8 hg9 hv2 hg10
    rw [hs]
    exact qg10.trans (qg9.trans (qg8.trans (qg5.trans (qg4.trans (qg3.trans (qg2.trans (qg1)))))))
  · obtain ⟨g6, hg6⟩ : ∃ z : tG, z = gD g5 37 x0 1 := ⟨_, rfl⟩
    obtain ⟨v1, hv1⟩ : ∃ z : Int32, z = (g6 45 9) + 1 := ⟨_, rfl⟩
    obtain ⟨g7, hg7⟩ : ∃ z : tG, z = tc_sc g6 9 v1 := ⟨_, rfl⟩
    have qg1 : g1 j = g j := by rw [hg1]; exact gP_ne (fun e9 => h (by rw [e9]; decide))
    have qg2 : g2 j = g1 j := by rw [hg2]; exact gP_ne (fun e9 => h (by rw [e9]; decide))
    have qg3 : g3 j = g2 j := by rw [hg3]; exact gP_ne (fun e9 => h (by rw [e9]; decide))
    have qg4 : g4 j = g3 j := by rw [hg4]; exact gP_ne (fun e9 => h (by rw [e9]; decide))
    have qg5 : g5 j = g4 j := by rw [hg5]; exact gP_ne (fun e9 => h (by rw [e9]; decide))
    have qg6 : g6 j = g5 j := by rw [hg6]; exact gD_ne (fun e9 => h (by rw [e9]; decide))
    have qg7 : g7 j = g6 j := by rw [hg7]; exact sc_nj (fun e9 => h (by rw [e9]; decide))
    have hs := eX2_open_w1 g x0 x1 hg1 hg2 hg3 hg4 hg5 c1 hg6 hv1 hg7
    rw [hs]
    exact qg7.trans (qg6.trans (qg5.trans (qg4.trans (qg3.trans (qg2.trans (qg1))))))
theorem fiX2_open (g : tG) (x0 : Int32) (x1 : Int32) (k : Nat) (h : k ∉ ([9] : List Nat)) : fX2_open_w g x0 x1 45 k = g 45 k := by
  obtain ⟨g1, hg1⟩ : ∃ z : tG, z = gP g 38 (g 45 9) x0 := ⟨_, rfl⟩
  obtain ⟨g2, hg2⟩ : ∃ z : tG, z = gP g1 39 (g1 45 9) x1 := ⟨_, rfl⟩
  obtain ⟨g3, hg3⟩ : ∃ z : tG, z = gP g2 32 (g2 45 9) 0 := ⟨_, rfl⟩
  obtain ⟨g4, hg4⟩ : ∃ z : tG, z = gP g3 33 (g3 45 9) 1 := ⟨_, rfl⟩
  obtain ⟨g5, hg5⟩ : ∃ z : tG, z = gP g4 40 (g4 45 9) 4 := ⟨_, rfl⟩
  by_cases c1 : (gA g5 37 x0) = 0
  · obtain ⟨g8, hg8⟩ : ∃ z : tG, z = gP g5 36 x0 (g5 45 9) := ⟨_, rfl⟩
    obtain ⟨g9, hg9⟩ : ∃ z : tG, z = gD g8 37 x0 1 := ⟨_, rfl⟩
    obtain ⟨v2, hv2⟩ : ∃ z : Int32, z = (g9 45 9) + 1 := ⟨_, rfl⟩
    obtain ⟨g10, hg10⟩ : ∃ z : tG, z = tc_sc g9 9 v2 := ⟨_, rfl⟩
    have qg1 : g1 45 k = g 45 k := by rw [hg1]; exact congrFun (gP_ne (by decide)) k
    have qg2 : g2 45 k = g1 45 k := by rw [hg2]; exact congrFun (gP_ne (by decide)) k
    have qg3 : g3 45 k = g2 45 k := by rw [hg3]; exact congrFun (gP_ne (by decide)) k
    have qg4 : g4 45 k = g3 45 k := by rw [hg4]; exact congrFun (gP_ne (by decide)) k
    have qg5 : g5 45 k = g4 45 k := by rw [hg5]; exact congrFun (gP_ne (by decide)) k
    have qg8 : g8 45 k = g5 45 k := by rw [hg8]; exact congrFun (gP_ne (by decide)) k
    have qg9 : g9 45 k = g8 45 k := by rw [hg9]; exact congrFun (gD_ne (by decide)) k
    have qg10 : g10 45 k = g9 45 k := by rw [hg10]; exact sc_nk (fun e9 => h (by rw [e9]; decide))
    have hs := eX2_open_w2 g x0 x1 hg1 hg2 hg3 hg4 hg5 c1 hg8 hg9 hv2 hg10
    rw [hs]
    exact qg10.trans (qg9.trans (qg8.trans (qg5.trans (qg4.trans (qg3.trans (qg2.trans (qg1)))))))
  · obtain ⟨g6, hg6⟩ : ∃ z : tG, z = gD g5 37 x0 1 := ⟨_, rfl⟩
    obtain ⟨v1, hv1⟩ : ∃ z : Int32, z = (g6 45 9) + 1 := ⟨_, rfl⟩
    obtain ⟨g7, hg7⟩ : ∃ z : tG, z = tc_sc g6 9 v1 := ⟨_, rfl⟩
    have qg1 : g1 45 k = g 45 k := by rw [hg1]; exact congrFun (gP_ne (by decide)) k
    have qg2 : g2 45 k = g1 45 k := by rw [hg2]; exact congrFun (gP_ne (by decide)) k
    have qg3 : g3 45 k = g2 45 k := by rw [hg3]; exact congrFun (gP_ne (by decide)) k
    have qg4 : g4 45 k = g3 45 k := by rw [hg4]; exact congrFun (gP_ne (by decide)) k
    have qg5 : g5 45 k = g4 45 k := by rw [hg5]; exact congrFun (gP_ne (by decide)) k
    have qg6 : g6 45 k = g5 45 k := by rw [hg6]; exact congrFun (gD_ne (by decide)) k
    have qg7 : g7 45 k = g6 45 k := by rw [hg7]; exact sc_nk (fun e9 => h (by rw [e9]; decide))
    have hs := eX2_open_w1 g x0 x1 hg1 hg2 hg3 hg4 hg5 c1 hg6 hv1 hg7
    rw [hs]
    exact qg7.trans (qg6.trans (qg5.trans (qg4.trans (qg3.trans (qg2.trans (qg1))))))
set_option maxHeartbeats 4000000 in
set_option maxRecDepth 100000 in
theorem kX2_open (l : Launch) (D : va_G) (ad : Nat → Nat) (cI : ClassId) (g : tG) (sz : Nat) (x0 : Int32) (x1 : Int32) : Met l yX2_open wsX2_open ({ frames := 1, cells := 0, slots := 0, locals := 22 } : Room) (g_P D [(cI, .int)] (tcW ad cI g) [.ref (ad 70), .int x0, .int x1] sz) (g_Qv D [(cI, .int)] (va_A (tcW ad cI g) sz) (tcW ad cI (fX2_open_w g x0 x1))) 0 0 (va_A (tcW ad cI g) sz) := by
  refine Met.ofW (cc := cX2_open) (maxL := 3) (ret := none) (by decide) rfl ?_
  intro p e s m args below meth c9 s₁ B hml hv
  obtain ⟨rfl, hsz, hP, hK, hD0⟩ := hv
  have hx := B.exec
  have hb := B.bytes
  have hr := B.returns
  have hts := atoms_spec (ws := wsX2_open) B.pre
  have hown : s.vm.findClass RX2 = some m.cls := findClass_of_methodNamed B.named
  have hlocks := B.notSynchronized
  subst hsz
  have hD := hD0.self (sz := s.heap.size)
  generalize hAe : va_A (tcW ad cI g) s.heap.size = A at hD ⊢
  have hA : ∀ q : Nat, s.heap.size ≤ q → A q := fun q h => by rw [← hAe]; exact Or.inr h
  have hS : va_S A s.heap s.heap [] := va_S.rf
  have hl := lv_entry ([.ref (ad 70), .int x0, .int x1]) (n := 3) (Nat.le_of_ble_eq_true rfl)
  rw [lg_entry_eq]
  generalize (lg_sl ([.ref (ad 70), .int x0, .int x1]) ++ List.replicate (3 - (lg_sl ([.ref (ad 70), .int x0, .int x1])).length) Slot.unset).toArray = ls at hl ⊢
  have hl : lv_has ls 3 [(0, .ref (ad 70)), (1, .int x0), (2, .int x1)] := hl
  have winX2 : ∀ w ∈ u_ws RX2 TX2 10, w ∈ wsX2_open := by decide +kernel
  have winX5 : ∀ w ∈ u_ws RX5 TX5 1, w ∈ wsX2_open := by decide +kernel
  refine lv_aload_n hx hb dX2_open_0 rfl (lv_at hl 0 rfl) ?_
  refine va_get (D := D) (ci := 2) (v := .ref (ad 83)) (C := RX2) (T := TX2) (N := 10) hx hb hts winX2 hown hK hP 70 rfl rfl 6 (by decide) (hts (.fieldLink RX2 35 "TapCap$Journeys" "dayOf" "LTapCap$Row;") (List.mem_of_getElem? (i := 1) rfl)) (fun _ h9 => h9) rfl dX2_open_1 ?_
  refine lv_aload_n hx hb dX2_open_4 rfl (lv_at hl 0 rfl) ?_
  refine va_get (D := D) (ci := 2) (v := .int (g 45 9)) (C := RX2) (T := TX2) (N := 10) hx hb hts winX2 hown hK hP 70 rfl rfl 9 (by decide) (hts (.fieldLink RX2 44 "TapCap$Journeys" "count" "I") (List.mem_of_getElem? (i := 2) rfl)) (fun _ h9 => h9) rfl dX2_open_5 ?_
  refine lv_iload_n hx hb dX2_open_8 rfl (lv_at hl 1 rfl) ?_
  refine g_kv hK hD hS hA (va_runV (As := [.int (g 45 9), .int x0]) (rest := []) ⟨hx, hb, hml, hown, hts⟩ (k_tc_put l D ad cI g s.heap.size 38 (by decide) (g 45 9) x0) (cwV 2 hts gX2_open_X5_put rfl rfl rfl (by decide +kernel) ⟨Nat.le_of_ble_eq_true rfl, Nat.le_of_ble_eq_true rfl⟩) (g_preV hK hP hD (ci := 5) (q0 := 83) rfl rfl) rfl rfl hl.1 rfl (lv_room (Nat.le_of_ble_eq_true rfl)) dX2_open_9 ⟨Nat.le_of_ble_eq_true rfl, Nat.le_of_ble_eq_true rfl⟩) (fun H locs hP hD hS => ?_)
  obtain ⟨g1, hg1⟩ : ∃ z : tG, z = gP g 38 (g 45 9) x0 := ⟨_, rfl⟩
  rw [← hg1] at hP hD
  refine lv_aload_n hx hb dX2_open_12 rfl (lv_at hl 0 rfl) ?_
  refine va_get (D := D) (ci := 2) (v := .ref (ad 85)) (C := RX2) (T := TX2) (N := 10) hx hb hts winX2 hown hK hP 70 rfl rfl 7 (by decide) (hts (.fieldLink RX2 38 "TapCap$Journeys" "firstLeg" "LTapCap$Row;") (List.mem_of_getElem? (i := 3) rfl)) (fun _ h9 => h9) rfl dX2_open_13 ?_
  refine lv_aload_n hx hb dX2_open_16 rfl (lv_at hl 0 rfl) ?_
  refine va_get (D := D) (ci := 2) (v := .int (g1 45 9)) (C := RX2) (T := TX2) (N := 10) hx hb hts winX2 hown hK hP 70 rfl rfl 9 (by decide) (hts (.fieldLink RX2 44 "TapCap$Journeys" "count" "I") (List.mem_of_getElem? (i := 2) rfl)) (fun _ h9 => h9) rfl dX2_open_17 ?_
  refine lv_iload_n hx hb dX2_open_20 rfl (lv_at hl 2 rfl) ?_
  refine g_kv hK hD hS hA (va_runV (As := [.int (g1 45 9), .int x1]) (rest := []) ⟨hx, hb, hml, hown, hts⟩ (k_tc_put l D ad cI g1 H.size 39 (by decide) (g1 45 9) x1) (cwV 2 hts gX2_open_X5_put rfl rfl rfl (by decide +kernel) ⟨Nat.le_of_ble_eq_true rfl, Nat.le_of_ble_eq_true rfl⟩) (g_preV hK hP hD (ci := 5) (q0 := 85) rfl rfl) rfl rfl hl.1 rfl (lv_room (Nat.le_of_ble_eq_true rfl)) dX2_open_21 ⟨Nat.le_of_ble_eq_true rfl, Nat.le_of_ble_eq_true rfl⟩) (fun H locs hP hD hS => ?_)
  obtain ⟨g2, hg2⟩ : ∃ z : tG, z = gP g1 39 (g1 45 9) x1 := ⟨_, rfl⟩
  rw [← hg2] at hP hD
  refine lv_aload_n hx hb dX2_open_24 rfl (lv_at hl 0 rfl) ?_
  refine va_get (D := D) (ci := 2) (v := .ref (ad 71)) (C := RX2) (T := TX2) (N := 10) hx hb hts winX2 hown hK hP 70 rfl rfl 0 (by decide) (hts (.fieldLink RX2 14 "TapCap$Journeys" "legCount" "LTapCap$Row;") (List.mem_of_getElem? (i := 4) rfl)) (fun _ h9 => h9) rfl dX2_open_25 ?_
  refine lv_aload_n hx hb dX2_open_28 rfl (lv_at hl 0 rfl) ?_
  refine va_get (D := D) (ci := 2) (v := .int (g2 45 9)) (C := RX2) (T := TX2) (N := 10) hx hb hts winX2 hown hK hP 70 rfl rfl 9 (by decide) (hts (.fieldLink RX2 44 "TapCap$Journeys" "count" "I") (List.mem_of_getElem? (i := 2) rfl)) (fun _ h9 => h9) rfl dX2_open_29 ?_
  refine lv_iconst (v := 0) hx hb dX2_open_32 (by decide) ?_
  refine g_kv hK hD hS hA (va_runV (As := [.int (g2 45 9), .int 0]) (rest := []) ⟨hx, hb, hml, hown, hts⟩ (k_tc_put l D ad cI g2 H.size 32 (by decide) (g2 45 9) 0) (cwV 2 hts gX2_open_X5_put rfl rfl rfl (by decide +kernel) ⟨Nat.le_of_ble_eq_true rfl, Nat.le_of_ble_eq_true rfl⟩) (g_preV hK hP hD (ci := 5) (q0 := 71) rfl rfl) rfl rfl hl.1 rfl (lv_room (Nat.le_of_ble_eq_true rfl)) dX2_open_33 ⟨Nat.le_of_ble_eq_true rfl, Nat.le_of_ble_eq_true rfl⟩) (fun H locs hP hD hS => ?_)
  obtain ⟨g3, hg3⟩ : ∃ z : tG, z = gP g2 32 (g2 45 9) 0 := ⟨_, rfl⟩
  rw [← hg3] at hP hD
  refine lv_aload_n hx hb dX2_open_36 rfl (lv_at hl 0 rfl) ?_
  refine va_get (D := D) (ci := 2) (v := .ref (ad 73)) (C := RX2) (T := TX2) (N := 10) hx hb hts winX2 hown hK hP 70 rfl rfl 1 (by decide) (hts (.fieldLink RX2 20 "TapCap$Journeys" "top" "LTapCap$Row;") (List.mem_of_getElem? (i := 5) rfl)) (fun _ h9 => h9) rfl dX2_open_37 ?_
  refine lv_aload_n hx hb dX2_open_40 rfl (lv_at hl 0 rfl) ?_
  refine va_get (D := D) (ci := 2) (v := .int (g3 45 9)) (C := RX2) (T := TX2) (N := 10) hx hb hts winX2 hown hK hP 70 rfl rfl 9 (by decide) (hts (.fieldLink RX2 44 "TapCap$Journeys" "count" "I") (List.mem_of_getElem? (i := 2) rfl)) (fun _ h9 => h9) rfl dX2_open_41 ?_
  refine lv_iconst (v := 1) hx hb dX2_open_44 (by decide) ?_
  refine g_kv hK hD hS hA (va_runV (As := [.int (g3 45 9), .int 1]) (rest := []) ⟨hx, hb, hml, hown, hts⟩ (k_tc_put l D ad cI g3 H.size 33 (by decide) (g3 45 9) 1) (cwV 2 hts gX2_open_X5_put rfl rfl rfl (by decide +kernel) ⟨Nat.le_of_ble_eq_true rfl, Nat.le_of_ble_eq_true rfl⟩) (g_preV hK hP hD (ci := 5) (q0 := 73) rfl rfl) rfl rfl hl.1 rfl (lv_room (Nat.le_of_ble_eq_true rfl)) dX2_open_45 ⟨Nat.le_of_ble_eq_true rfl, Nat.le_of_ble_eq_true rfl⟩) (fun H locs hP hD hS => ?_)
  obtain ⟨g4, hg4⟩ : ∃ z : tG, z = gP g3 33 (g3 45 9) 1 := ⟨_, rfl⟩
  rw [← hg4] at hP hD
  refine lv_aload_n hx hb dX2_open_48 rfl (lv_at hl 0 rfl) ?_
  refine va_get (D := D) (ci := 2) (v := .ref (ad 87)) (C := RX2) (T := TX2) (N := 10) hx hb hts winX2 hown hK hP 70 rfl rfl 8 (by decide) (hts (.fieldLink RX2 41 "TapCap$Journeys" "bottom" "LTapCap$Row;") (List.mem_of_getElem? (i := 6) rfl)) (fun _ h9 => h9) rfl dX2_open_49 ?_
  refine lv_aload_n hx hb dX2_open_52 rfl (lv_at hl 0 rfl) ?_
  refine va_get (D := D) (ci := 2) (v := .int (g4 45 9)) (C := RX2) (T := TX2) (N := 10) hx hb hts winX2 hown hK hP 70 rfl rfl 9 (by decide) (hts (.fieldLink RX2 44 "TapCap$Journeys" "count" "I") (List.mem_of_getElem? (i := 2) rfl)) (fun _ h9 => h9) rfl dX2_open_53 ?_
  refine lv_iconst (v := 4) hx hb dX2_open_56 (by decide) ?_
  refine g_kv hK hD hS hA (va_runV (As := [.int (g4 45 9), .int 4]) (rest := []) ⟨hx, hb, hml, hown, hts⟩ (k_tc_put l D ad cI g4 H.size 40 (by decide) (g4 45 9) 4) (cwV 2 hts gX2_open_X5_put rfl rfl rfl (by decide +kernel) ⟨Nat.le_of_ble_eq_true rfl, Nat.le_of_ble_eq_true rfl⟩) (g_preV hK hP hD (ci := 5) (q0 := 87) rfl rfl) rfl rfl hl.1 rfl (lv_room (Nat.le_of_ble_eq_true rfl)) dX2_open_57 ⟨Nat.le_of_ble_eq_true rfl, Nat.le_of_ble_eq_true rfl⟩) (fun H locs hP hD hS => ?_)
  obtain ⟨g5, hg5⟩ : ∃ z : tG, z = gP g4 40 (g4 45 9) 4 := ⟨_, rfl⟩
  rw [← hg5] at hP hD
  refine lv_aload_n hx hb dX2_open_60 rfl (lv_at hl 0 rfl) ?_
  refine va_get (D := D) (ci := 2) (v := .ref (ad 81)) (C := RX2) (T := TX2) (N := 10) hx hb hts winX2 hown hK hP 70 rfl rfl 5 (by decide) (hts (.fieldLink RX2 32 "TapCap$Journeys" "countOn" "LTapCap$Row;") (List.mem_of_getElem? (i := 7) rfl)) (fun _ h9 => h9) rfl dX2_open_61 ?_
  refine lv_iload_n hx hb dX2_open_64 rfl (lv_at hl 1 rfl) ?_
  refine g_ki hK hD hS hA (va_runV (As := [.int x0]) (rest := []) ⟨hx, hb, hml, hown, hts⟩ (k_tc_at l D ad cI g5 H.size 37 (by decide) x0) (cwV 1 hts gX2_open_X5_at rfl rfl rfl (by decide +kernel) ⟨Nat.le_of_ble_eq_true rfl, Nat.le_of_ble_eq_true rfl⟩) (g_preV hK hP hD (ci := 5) (q0 := 81) rfl rfl) rfl rfl hl.1 rfl (lv_room (Nat.le_of_ble_eq_true rfl)) dX2_open_65 ⟨Nat.le_of_ble_eq_true rfl, Nat.le_of_ble_eq_true rfl⟩) (fun H locs hP hD hS => ?_)
  refine lv_if_ne (tgt := 83) hx hb dX2_open_68 (by decide) (fun c1 => ?_) (fun c1 => ?_)
  · refine lv_aload_n hx hb dX2_open_83 rfl (lv_at hl 0 rfl) ?_
    refine va_get (D := D) (ci := 2) (v := .ref (ad 81)) (C := RX2) (T := TX2) (N := 10) hx hb hts winX2 hown hK hP 70 rfl rfl 5 (by decide) (hts (.fieldLink RX2 32 "TapCap$Journeys" "countOn" "LTapCap$Row;") (List.mem_of_getElem? (i := 7) rfl)) (fun _ h9 => h9) rfl dX2_open_84 ?_
    refine lv_iload_n hx hb dX2_open_87 rfl (lv_at hl 1 rfl) ?_
    refine lv_iconst (v := 1) hx hb dX2_open_88 (by decide) ?_
    refine g_kv hK hD hS hA (va_runV (As := [.int x0, .int 1]) (rest := []) ⟨hx, hb, hml, hown, hts⟩ (k_tc_add l D ad cI g5 H.size 37 (by decide) x0 1) (cwV 2 hts gX2_open_X5_add rfl rfl rfl (by decide +kernel) ⟨Nat.le_of_ble_eq_true rfl, Nat.le_of_ble_eq_true rfl⟩) (g_preV hK hP hD (ci := 5) (q0 := 81) rfl rfl) rfl rfl hl.1 rfl (lv_room (Nat.le_of_ble_eq_true rfl)) dX2_open_89 ⟨Nat.le_of_ble_eq_true rfl, Nat.le_of_ble_eq_true rfl⟩) (fun H locs hP hD hS => ?_)
    obtain ⟨g6, hg6⟩ : ∃ z : tG, z = gD g5 37 x0 1 := ⟨_, rfl⟩
    rw [← hg6] at hP hD
    refine lv_aload_n hx hb dX2_open_92 rfl (lv_at hl 0 rfl) ?_
    refine lv_dup hx hb dX2_open_93 rfl ?_
    refine va_get (D := D) (ci := 2) (v := .int (g6 45 9)) (C := RX2) (T := TX2) (N := 10) hx hb hts winX2 hown hK hP 70 rfl rfl 9 (by decide) (hts (.fieldLink RX2 44 "TapCap$Journeys" "count" "I") (List.mem_of_getElem? (i := 2) rfl)) (fun _ h9 => h9) rfl dX2_open_94 ?_
    refine lv_iconst (v := 1) hx hb dX2_open_97 (by decide) ?_
    refine lv_iadd hx hb dX2_open_98 ?_
    refine lv_topi (fun v1 hv1 => ?_)
    refine va_put (D := D) (ci := 2) (v := .int v1) (ty := .int) (C := RX2) (T := TX2) (N := 10) hx hb hts winX2 tyX2 tyX2_ok nmX2 hown hK hP hD hS 70 rfl rfl 9 (by decide) (hts (.fieldLink RX2 44 "TapCap$Journeys" "count" "I") (List.mem_of_getElem? (i := 2) rfl)) (fun _ h9 => h9) rfl (by decide +kernel) rfl rfl (Nat.le_of_ble_eq_true rfl) dX2_open_99 (fun H locs hP hD hS => ?_)
    have hP := tc_sP_9 hP
    have hD := tc_sD_9 hD
    obtain ⟨g7, hg7⟩ : ∃ z : tG, z = tc_sc g6 9 v1 := ⟨_, rfl⟩
    rw [← hg7] at hP hD
    have hw := eX2_open_w1 g x0 x1 hg1 hg2 hg3 hg4 hg5 c1 hg6 hv1 hg7
    have hP := w_P9 hw hP
    have hD := w_D9 hw hD
    exact g_vret hx hb hr hlocks hK hP hD hS dX2_open_102
  · refine lv_aload_n hx hb dX2_open_71 rfl (lv_at hl 0 rfl) ?_
    refine va_get (D := D) (ci := 2) (v := .ref (ad 79)) (C := RX2) (T := TX2) (N := 10) hx hb hts winX2 hown hK hP 70 rfl rfl 4 (by decide) (hts (.fieldLink RX2 29 "TapCap$Journeys" "firstOn" "LTapCap$Row;") (List.mem_of_getElem? (i := 8) rfl)) (fun _ h9 => h9) rfl dX2_open_72 ?_
    refine lv_iload_n hx hb dX2_open_75 rfl (lv_at hl 1 rfl) ?_
    refine lv_aload_n hx hb dX2_open_76 rfl (lv_at hl 0 rfl) ?_
    refine va_get (D := D) (ci := 2) (v := .int (g5 45 9)) (C := RX2) (T := TX2) (N := 10) hx hb hts winX2 hown hK hP 70 rfl rfl 9 (by decide) (hts (.fieldLink RX2 44 "TapCap$Journeys" "count" "I") (List.mem_of_getElem? (i := 2) rfl)) (fun _ h9 => h9) rfl dX2_open_77 ?_
    refine g_kv hK hD hS hA (va_runV (As := [.int x0, .int (g5 45 9)]) (rest := []) ⟨hx, hb, hml, hown, hts⟩ (k_tc_put l D ad cI g5 H.size 36 (by decide) x0 (g5 45 9)) (cwV 2 hts gX2_open_X5_put rfl rfl rfl (by decide +kernel) ⟨Nat.le_of_ble_eq_true rfl, Nat.le_of_ble_eq_true rfl⟩) (g_preV hK hP hD (ci := 5) (q0 := 79) rfl rfl) rfl rfl hl.1 rfl (lv_room (Nat.le_of_ble_eq_true rfl)) dX2_open_80 ⟨Nat.le_of_ble_eq_true rfl, Nat.le_of_ble_eq_true rfl⟩) (fun H locs hP hD hS => ?_)
    obtain ⟨g8, hg8⟩ : ∃ z : tG, z = gP g5 36 x0 (g5 45 9) := ⟨_, rfl⟩
    rw [← hg8] at hP hD
    refine lv_aload_n hx hb dX2_open_83 rfl (lv_at hl 0 rfl) ?_
    refine va_get (D := D) (ci := 2) (v := .ref (ad 81)) (C := RX2) (T := TX2) (N := 10) hx hb hts winX2 hown hK hP 70 rfl rfl 5 (by decide) (hts (.fieldLink RX2 32 "TapCap$Journeys" "countOn" "LTapCap$Row;") (List.mem_of_getElem? (i := 7) rfl)) (fun _ h9 => h9) rfl dX2_open_84 ?_
    refine lv_iload_n hx hb dX2_open_87 rfl (lv_at hl 1 rfl) ?_
    refine lv_iconst (v := 1) hx hb dX2_open_88 (by decide) ?_
    refine g_kv hK hD hS hA (va_runV (As := [.int x0, .int 1]) (rest := []) ⟨hx, hb, hml, hown, hts⟩ (k_tc_add l D ad cI g8 H.size 37 (by decide) x0 1) (cwV 2 hts gX2_open_X5_add rfl rfl rfl (by decide +kernel) ⟨Nat.le_of_ble_eq_true rfl, Nat.le_of_ble_eq_true rfl⟩) (g_preV hK hP hD (ci := 5) (q0 := 81) rfl rfl) rfl rfl hl.1 rfl (lv_room (Nat.le_of_ble_eq_true rfl)) dX2_open_89 ⟨Nat.le_of_ble_eq_true rfl, Nat.le_of_ble_eq_true rfl⟩) (fun H locs hP hD hS => ?_)
    obtain ⟨g9, hg9⟩ : ∃ z : tG, z = gD g8 37 x0 1 := ⟨_, rfl⟩
    rw [← hg9] at hP hD
    refine lv_aload_n hx hb dX2_open_92 rfl (lv_at hl 0 rfl) ?_
    refine lv_dup hx hb dX2_open_93 rfl ?_
    refine va_get (D := D) (ci := 2) (v := .int (g9 45 9)) (C := RX2) (T := TX2) (N := 10) hx hb hts winX2 hown hK hP 70 rfl rfl 9 (by decide) (hts (.fieldLink RX2 44 "TapCap$Journeys" "count" "I") (List.mem_of_getElem? (i := 2) rfl)) (fun _ h9 => h9) rfl dX2_open_94 ?_
    refine lv_iconst (v := 1) hx hb dX2_open_97 (by decide) ?_
    refine lv_iadd hx hb dX2_open_98 ?_
    refine lv_topi (fun v2 hv2 => ?_)
    refine va_put (D := D) (ci := 2) (v := .int v2) (ty := .int) (C := RX2) (T := TX2) (N := 10) hx hb hts winX2 tyX2 tyX2_ok nmX2 hown hK hP hD hS 70 rfl rfl 9 (by decide) (hts (.fieldLink RX2 44 "TapCap$Journeys" "count" "I") (List.mem_of_getElem? (i := 2) rfl)) (fun _ h9 => h9) rfl (by decide +kernel) rfl rfl (Nat.le_of_ble_eq_true rfl) dX2_open_99 (fun H locs hP hD hS => ?_)
    have hP := tc_sP_9 hP
    have hD := tc_sD_9 hD
    obtain ⟨g10, hg10⟩ : ∃ z : tG, z = tc_sc g9 9 v2 := ⟨_, rfl⟩
    rw [← hg10] at hP hD
    have hw := eX2_open_w2 g x0 x1 hg1 hg2 hg3 hg4 hg5 c1 hg8 hg9 hv2 hg10
    have hP := w_P9 hw hP
    have hD := w_D9 hw hD
    exact g_vret hx hb hr hlocks hK hP hD hS dX2_open_102
def fX2_touch_w (g : tG) (x0 : Int32) : tG :=
  let v1 : Int32 := (g 45 9) - 1
  let v2 : Int32 := if (gA g 33 v1) < x0 then x0 else (gA g 33 v1)
  let g1 : tG := gP g 33 v1 v2
  let v3 : Int32 := if x0 < (gA g1 40 v1) then x0 else (gA g1 40 v1)
  let g2 : tG := gP g1 40 v1 v3
  g2
set_option maxRecDepth 20000 in
theorem eX2_touch_w1 (g : tG) (x0 : Int32) {v1 : Int32} (hv1 : v1 = (g 45 9) - 1) {v2 : Int32} (hv2 : v2 = if (gA g 33 v1) < x0 then x0 else (gA g 33 v1)) {g1 : tG} (hg1 : g1 = gP g 33 v1 v2) {v3 : Int32} (hv3 : v3 = if x0 < (gA g1 40 v1) then x0 else (gA g1 40 v1)) {g2 : tG} (hg2 : g2 = gP g1 40 v1 v3) : fX2_touch_w g x0 = g2 := by
  subst hv1
  subst hv2
  subst hg1
  subst hv3
  subst hg2
  exact rfl
theorem fjX2_touch (g : tG) (x0 : Int32) (j : Nat) (h : j ∉ ([33, 40] : List Nat)) : fX2_touch_w g x0 j = g j := by
  obtain ⟨v1, hv1⟩ : ∃ z : Int32, z = (g 45 9) - 1 := ⟨_, rfl⟩
  obtain ⟨v2, hv2⟩ : ∃ z : Int32, z = if (gA g 33 v1) < x0 then x0 else (gA g 33 v1) := ⟨_, rfl⟩
  obtain ⟨g1, hg1⟩ : ∃ z : tG, z = gP g 33 v1 v2 := ⟨_, rfl⟩
  obtain ⟨v3, hv3⟩ : ∃ z : Int32, z = if x0 < (gA g1 40 v1) then x0 else (gA g1 40 v1) := ⟨_, rfl⟩
  obtain ⟨g2, hg2⟩ : ∃ z : tG, z = gP g1 40 v1 v3 := ⟨_, rfl⟩
  have qg1 : g1 j = g j := by rw [hg1]; exact gP_ne (fun e9 => h (by rw [e9]; decide))
  have qg2 : g2 j = g1 j := by rw [hg2]; exact gP_ne (fun e9 => h (by rw [e9]; decide))
  have hs := eX2_touch_w1 g x0 hv1 hv2 hg1 hv3 hg2
  rw [hs]
  exact qg2.trans (qg1)
set_option maxHeartbeats 4000000 in
set_option maxRecDepth 100000 in
theorem kX2_touch (l : Launch) (D : va_G) (ad : Nat → Nat) (cI : ClassId) (g : tG) (sz : Nat) (x0 : Int32) : Met l yX2_touch wsX2_touch ({ frames := 1, cells := 0, slots := 0, locals := 22 } : Room) (g_P D [(cI, .int)] (tcW ad cI g) [.ref (ad 70), .int x0] sz) (g_Qv D [(cI, .int)] (va_A (tcW ad cI g) sz) (tcW ad cI (fX2_touch_w g x0))) 0 0 (va_A (tcW ad cI g) sz) := by
  refine Met.ofW (cc := cX2_touch) (maxL := 3) (ret := none) (by decide) rfl ?_
  intro p e s m args below meth c9 s₁ B hml hv
  obtain ⟨rfl, hsz, hP, hK, hD0⟩ := hv
  have hx := B.exec
  have hb := B.bytes
  have hr := B.returns
  have hts := atoms_spec (ws := wsX2_touch) B.pre
  have hown : s.vm.findClass RX2 = some m.cls := findClass_of_methodNamed B.named
  have hlocks := B.notSynchronized
  subst hsz
  have hD := hD0.self (sz := s.heap.size)
  generalize hAe : va_A (tcW ad cI g) s.heap.size = A at hD ⊢
  have hA : ∀ q : Nat, s.heap.size ≤ q → A q := fun q h => by rw [← hAe]; exact Or.inr h
  have hS : va_S A s.heap s.heap [] := va_S.rf
  have hl := lv_entry ([.ref (ad 70), .int x0]) (n := 3) (Nat.le_of_ble_eq_true rfl)
  rw [lg_entry_eq]
  generalize (lg_sl ([.ref (ad 70), .int x0]) ++ List.replicate (3 - (lg_sl ([.ref (ad 70), .int x0])).length) Slot.unset).toArray = ls at hl ⊢
  have hl : lv_has ls 3 [(0, .ref (ad 70)), (1, .int x0)] := hl
  have winX2 : ∀ w ∈ u_ws RX2 TX2 10, w ∈ wsX2_touch := by decide +kernel
  have winX5 : ∀ w ∈ u_ws RX5 TX5 1, w ∈ wsX2_touch := by decide +kernel
  refine lv_aload_n hx hb dX2_touch_0 rfl (lv_at hl 0 rfl) ?_
  refine va_get (D := D) (ci := 2) (v := .int (g 45 9)) (C := RX2) (T := TX2) (N := 10) hx hb hts winX2 hown hK hP 70 rfl rfl 9 (by decide) (hts (.fieldLink RX2 44 "TapCap$Journeys" "count" "I") (List.mem_of_getElem? (i := 1) rfl)) (fun _ h9 => h9) rfl dX2_touch_1 ?_
  refine lv_iconst (v := 1) hx hb dX2_touch_4 (by decide) ?_
  refine lv_isub hx hb dX2_touch_5 ?_
  refine lv_topi (fun v1 hv1 => ?_)
  refine lv_istore_n (lv' := [(2, .int v1), (0, .ref (ad 70)), (1, .int x0)]) hx hb dX2_touch_6 rfl hl (by decide) rfl (fun ls hl => ?_)
  refine lv_aload_n hx hb dX2_touch_7 rfl (lv_at hl 1 rfl) ?_
  refine va_get (D := D) (ci := 2) (v := .ref (ad 73)) (C := RX2) (T := TX2) (N := 10) hx hb hts winX2 hown hK hP 70 rfl rfl 1 (by decide) (hts (.fieldLink RX2 20 "TapCap$Journeys" "top" "LTapCap$Row;") (List.mem_of_getElem? (i := 2) rfl)) (fun _ h9 => h9) rfl dX2_touch_8 ?_
  refine lv_iload_n hx hb dX2_touch_11 rfl (lv_at hl 0 rfl) ?_
  refine lv_aload_n hx hb dX2_touch_12 rfl (lv_at hl 1 rfl) ?_
  refine va_get (D := D) (ci := 2) (v := .ref (ad 73)) (C := RX2) (T := TX2) (N := 10) hx hb hts winX2 hown hK hP 70 rfl rfl 1 (by decide) (hts (.fieldLink RX2 20 "TapCap$Journeys" "top" "LTapCap$Row;") (List.mem_of_getElem? (i := 2) rfl)) (fun _ h9 => h9) rfl dX2_touch_13 ?_
  refine lv_iload_n hx hb dX2_touch_16 rfl (lv_at hl 0 rfl) ?_
  refine g_ki hK hD hS hA (va_runV (As := [.int v1]) (rest := [.int v1, .ref (ad 73)]) ⟨hx, hb, hml, hown, hts⟩ (k_tc_at l D ad cI g s.heap.size 33 (by decide) v1) (cwV 1 hts gX2_touch_X5_at rfl rfl rfl (by decide +kernel) ⟨Nat.le_of_ble_eq_true rfl, Nat.le_of_ble_eq_true rfl⟩) (g_preV hK hP hD (ci := 5) (q0 := 73) rfl rfl) rfl rfl hl.1 rfl (lv_room (Nat.le_of_ble_eq_true rfl)) dX2_touch_17 ⟨Nat.le_of_ble_eq_true rfl, Nat.le_of_ble_eq_true rfl⟩) (fun H locs hP hD hS => ?_)
  refine lv_iload_n hx hb dX2_touch_20 rfl (lv_at hl 2 rfl) ?_
  refine va_mmax hx hb (hml.trans hl.1.symm) hown (hts (.methodLink RX2 100 Lib.Math.max.name) (List.mem_of_getElem? (i := 3) rfl)) (hts (.static Lib.Math.max.name) (List.mem_of_getElem? (i := 4) rfl)) (hts (.initialized "java/lang/Math") (List.mem_of_getElem? (i := 5) rfl)) (hts (.code Lib.Math.max.name Lib.Math.max.code 2 (some .int)) (List.mem_of_getElem? (i := 6) rfl)) (Nat.le_of_ble_eq_true rfl) (Nat.le_of_ble_eq_true rfl) (Nat.zero_le _) (Nat.zero_le _) dX2_touch_21 ?_
  refine lv_topi (fun v2 hv2 => ?_)
  refine g_kv hK hD hS hA (va_runV (As := [.int v1, .int v2]) (rest := []) ⟨hx, hb, hml, hown, hts⟩ (k_tc_put l D ad cI g H.size 33 (by decide) v1 v2) (cwV 2 hts gX2_touch_X5_put rfl rfl rfl (by decide +kernel) ⟨Nat.le_of_ble_eq_true rfl, Nat.le_of_ble_eq_true rfl⟩) (g_preV hK hP hD (ci := 5) (q0 := 73) rfl rfl) rfl rfl hl.1 rfl (lv_room (Nat.le_of_ble_eq_true rfl)) dX2_touch_24 ⟨Nat.le_of_ble_eq_true rfl, Nat.le_of_ble_eq_true rfl⟩) (fun H locs hP hD hS => ?_)
  obtain ⟨g1, hg1⟩ : ∃ z : tG, z = gP g 33 v1 v2 := ⟨_, rfl⟩
  rw [← hg1] at hP hD
  refine lv_aload_n hx hb dX2_touch_27 rfl (lv_at hl 1 rfl) ?_
  refine va_get (D := D) (ci := 2) (v := .ref (ad 87)) (C := RX2) (T := TX2) (N := 10) hx hb hts winX2 hown hK hP 70 rfl rfl 8 (by decide) (hts (.fieldLink RX2 41 "TapCap$Journeys" "bottom" "LTapCap$Row;") (List.mem_of_getElem? (i := 7) rfl)) (fun _ h9 => h9) rfl dX2_touch_28 ?_
  refine lv_iload_n hx hb dX2_touch_31 rfl (lv_at hl 0 rfl) ?_
  refine lv_aload_n hx hb dX2_touch_32 rfl (lv_at hl 1 rfl) ?_
  refine va_get (D := D) (ci := 2) (v := .ref (ad 87)) (C := RX2) (T := TX2) (N := 10) hx hb hts winX2 hown hK hP 70 rfl rfl 8 (by decide) (hts (.fieldLink RX2 41 "TapCap$Journeys" "bottom" "LTapCap$Row;") (List.mem_of_getElem? (i := 7) rfl)) (fun _ h9 => h9) rfl dX2_touch_33 ?_
  refine lv_iload_n hx hb dX2_touch_36 rfl (lv_at hl 0 rfl) ?_
  refine g_ki hK hD hS hA (va_runV (As := [.int v1]) (rest := [.int v1, .ref (ad 87)]) ⟨hx, hb, hml, hown, hts⟩ (k_tc_at l D ad cI g1 H.size 40 (by decide) v1) (cwV 1 hts gX2_touch_X5_at rfl rfl rfl (by decide +kernel) ⟨Nat.le_of_ble_eq_true rfl, Nat.le_of_ble_eq_true rfl⟩) (g_preV hK hP hD (ci := 5) (q0 := 87) rfl rfl) rfl rfl hl.1 rfl (lv_room (Nat.le_of_ble_eq_true rfl)) dX2_touch_37 ⟨Nat.le_of_ble_eq_true rfl, Nat.le_of_ble_eq_true rfl⟩) (fun H locs hP hD hS => ?_)
  refine lv_iload_n hx hb dX2_touch_40 rfl (lv_at hl 2 rfl) ?_
  refine va_mmin hx hb (hml.trans hl.1.symm) hown (hts (.methodLink RX2 105 Lib.Math.min.name) (List.mem_of_getElem? (i := 8) rfl)) (hts (.static Lib.Math.min.name) (List.mem_of_getElem? (i := 9) rfl)) (hts (.initialized "java/lang/Math") (List.mem_of_getElem? (i := 5) rfl)) (hts (.code Lib.Math.min.name Lib.Math.min.code 2 (some .int)) (List.mem_of_getElem? (i := 10) rfl)) (Nat.le_of_ble_eq_true rfl) (Nat.le_of_ble_eq_true rfl) (Nat.zero_le _) (Nat.zero_le _) dX2_touch_41 ?_
  refine lv_topi (fun v3 hv3 => ?_)
  refine g_kv hK hD hS hA (va_runV (As := [.int v1, .int v3]) (rest := []) ⟨hx, hb, hml, hown, hts⟩ (k_tc_put l D ad cI g1 H.size 40 (by decide) v1 v3) (cwV 2 hts gX2_touch_X5_put rfl rfl rfl (by decide +kernel) ⟨Nat.le_of_ble_eq_true rfl, Nat.le_of_ble_eq_true rfl⟩) (g_preV hK hP hD (ci := 5) (q0 := 87) rfl rfl) rfl rfl hl.1 rfl (lv_room (Nat.le_of_ble_eq_true rfl)) dX2_touch_44 ⟨Nat.le_of_ble_eq_true rfl, Nat.le_of_ble_eq_true rfl⟩) (fun H locs hP hD hS => ?_)
  obtain ⟨g2, hg2⟩ : ∃ z : tG, z = gP g1 40 v1 v3 := ⟨_, rfl⟩
  rw [← hg2] at hP hD
  have hw := eX2_touch_w1 g x0 hv1 hv2 hg1 hv3 hg2
  have hP := w_P9 hw hP
  have hD := w_D9 hw hD
  exact g_vret hx hb hr hlocks hK hP hD hS dX2_touch_47
def fX2_zonesTouched_r (g : tG) (x0 : Int32) : Int32 :=
  ((gA g 33 x0) - (gA g 40 x0)) + 1
set_option maxRecDepth 20000 in
theorem eX2_zonesTouched_r1 (g : tG) (x0 : Int32) : fX2_zonesTouched_r g x0 = ((gA g 33 x0) - (gA g 40 x0)) + 1 := by
  exact rfl
set_option maxHeartbeats 4000000 in
set_option maxRecDepth 100000 in
theorem kX2_zonesTouched (l : Launch) (D : va_G) (ad : Nat → Nat) (cI : ClassId) (g : tG) (sz : Nat) (x0 : Int32) : Met l yX2_zonesTouched wsX2_zonesTouched ({ frames := 1, cells := 0, slots := 0, locals := 21 } : Room) (g_P D [(cI, .int)] (tcW ad cI g) [.ref (ad 70), .int x0] sz) (g_Qi D [(cI, .int)] (va_A (tcW ad cI g) sz) (tcW ad cI g) (fX2_zonesTouched_r g x0)) 0 0 (va_A (tcW ad cI g) sz) := by
  refine Met.ofW (cc := cX2_zonesTouched) (maxL := 2) (ret := (some .int)) (by decide) rfl ?_
  intro p e s m args below meth c9 s₁ B hml hv
  obtain ⟨rfl, hsz, hP, hK, hD0⟩ := hv
  have hx := B.exec
  have hb := B.bytes
  have hr := B.returns
  have hts := atoms_spec (ws := wsX2_zonesTouched) B.pre
  have hown : s.vm.findClass RX2 = some m.cls := findClass_of_methodNamed B.named
  have hlocks := B.notSynchronized
  subst hsz
  have hD := hD0.self (sz := s.heap.size)
  generalize hAe : va_A (tcW ad cI g) s.heap.size = A at hD ⊢
  have hA : ∀ q : Nat, s.heap.size ≤ q → A q := fun q h => by rw [← hAe]; exact Or.inr h
  have hS : va_S A s.heap s.heap [] := va_S.rf
  have hl := lv_entry ([.ref (ad 70), .int x0]) (n := 2) (Nat.le_of_ble_eq_true rfl)
  rw [lg_entry_eq]
  generalize (lg_sl ([.ref (ad 70), .int x0]) ++ List.replicate (2 - (lg_sl ([.ref (ad 70), .int x0])).length) Slot.unset).toArray = ls at hl ⊢
  have hl : lv_has ls 2 [(0, .ref (ad 70)), (1, .int x0)] := hl
  have winX2 : ∀ w ∈ u_ws RX2 TX2 10, w ∈ wsX2_zonesTouched := by decide +kernel
  have winX5 : ∀ w ∈ u_ws RX5 TX5 1, w ∈ wsX2_zonesTouched := by decide +kernel
  refine lv_aload_n hx hb dX2_zonesTouched_0 rfl (lv_at hl 0 rfl) ?_
  refine va_get (D := D) (ci := 2) (v := .ref (ad 73)) (C := RX2) (T := TX2) (N := 10) hx hb hts winX2 hown hK hP 70 rfl rfl 1 (by decide) (hts (.fieldLink RX2 20 "TapCap$Journeys" "top" "LTapCap$Row;") (List.mem_of_getElem? (i := 1) rfl)) (fun _ h9 => h9) rfl dX2_zonesTouched_1 ?_
  refine lv_iload_n hx hb dX2_zonesTouched_4 rfl (lv_at hl 1 rfl) ?_
  refine g_ki hK hD hS hA (va_runV (As := [.int x0]) (rest := []) ⟨hx, hb, hml, hown, hts⟩ (k_tc_at l D ad cI g s.heap.size 33 (by decide) x0) (cwV 1 hts gX2_zonesTouched_X5_at rfl rfl rfl (by decide +kernel) ⟨Nat.le_of_ble_eq_true rfl, Nat.le_of_ble_eq_true rfl⟩) (g_preV hK hP hD (ci := 5) (q0 := 73) rfl rfl) rfl rfl hl.1 rfl (lv_room (Nat.le_of_ble_eq_true rfl)) dX2_zonesTouched_5 ⟨Nat.le_of_ble_eq_true rfl, Nat.le_of_ble_eq_true rfl⟩) (fun H locs hP hD hS => ?_)
  refine lv_aload_n hx hb dX2_zonesTouched_8 rfl (lv_at hl 0 rfl) ?_
  refine va_get (D := D) (ci := 2) (v := .ref (ad 87)) (C := RX2) (T := TX2) (N := 10) hx hb hts winX2 hown hK hP 70 rfl rfl 8 (by decide) (hts (.fieldLink RX2 41 "TapCap$Journeys" "bottom" "LTapCap$Row;") (List.mem_of_getElem? (i := 2) rfl)) (fun _ h9 => h9) rfl dX2_zonesTouched_9 ?_
  refine lv_iload_n hx hb dX2_zonesTouched_12 rfl (lv_at hl 1 rfl) ?_
  refine g_ki hK hD hS hA (va_runV (As := [.int x0]) (rest := [.int (gA g 33 x0)]) ⟨hx, hb, hml, hown, hts⟩ (k_tc_at l D ad cI g H.size 40 (by decide) x0) (cwV 1 hts gX2_zonesTouched_X5_at rfl rfl rfl (by decide +kernel) ⟨Nat.le_of_ble_eq_true rfl, Nat.le_of_ble_eq_true rfl⟩) (g_preV hK hP hD (ci := 5) (q0 := 87) rfl rfl) rfl rfl hl.1 rfl (lv_room (Nat.le_of_ble_eq_true rfl)) dX2_zonesTouched_13 ⟨Nat.le_of_ble_eq_true rfl, Nat.le_of_ble_eq_true rfl⟩) (fun H locs hP hD hS => ?_)
  refine lv_isub hx hb dX2_zonesTouched_16 ?_
  refine lv_iconst (v := 1) hx hb dX2_zonesTouched_17 (by decide) ?_
  refine lv_iadd hx hb dX2_zonesTouched_18 ?_
  exact g_iret hx hb hr rfl hlocks hK hP hD hS (eX2_zonesTouched_r1 g x0 ).symm dX2_zonesTouched_19
def sX2_fares_15 (g : tG) (x0 : Int32) (x1 : Int32) (v1 : Int32) : (Int32 × Int32) → Option (Int32 × Int32) := fun σ =>
  if (gA g 37 x0) ≤ σ.1 then
    none
  else
    if (gA g 33 (v1 + σ.1)) ≤ x1 then
      let v2 : Int32 := σ.2 + 0
      some (σ.1 + 1, v2)
    else
      let v3 : Int32 := σ.2 + (gA g 34 (v1 + σ.1))
      some (σ.1 + 1, v3)
set_option maxRecDepth 20000 in
theorem eX2_fares_15_1 (g : tG) (x0 : Int32) (x1 : Int32) (v1 : Int32) (i1 : Int32) (i2 : Int32) (c1 : (gA g 37 x0) ≤ i1) : sX2_fares_15 g x0 x1 v1 (i1, i2) = none := by
  exact (if_pos c1).trans rfl
set_option maxRecDepth 20000 in
theorem eX2_fares_15_2 (g : tG) (x0 : Int32) (x1 : Int32) (v1 : Int32) (i1 : Int32) (i2 : Int32) (c1 : ¬ ((gA g 37 x0) ≤ i1)) (c2 : (gA g 33 (v1 + i1)) ≤ x1) {v2 : Int32} (hv2 : v2 = i2 + 0) : sX2_fares_15 g x0 x1 v1 (i1, i2) = some (i1 + 1, v2) := by
  subst hv2
  exact (if_neg c1).trans ((if_pos c2).trans rfl)
set_option maxRecDepth 20000 in
theorem eX2_fares_15_3 (g : tG) (x0 : Int32) (x1 : Int32) (v1 : Int32) (i1 : Int32) (i2 : Int32) (c1 : ¬ ((gA g 37 x0) ≤ i1)) (c2 : ¬ ((gA g 33 (v1 + i1)) ≤ x1)) {v3 : Int32} (hv3 : v3 = i2 + (gA g 34 (v1 + i1))) : sX2_fares_15 g x0 x1 v1 (i1, i2) = some (i1 + 1, v3) := by
  subst hv3
  exact (if_neg c1).trans ((if_neg c2).trans rfl)
theorem tX2_fares_15 (g : tG) (x0 : Int32) (x1 : Int32) (v1 : Int32) (i2z : Int32) : lpE (sX2_fares_15 g x0 x1 v1) (nn ((gA g 37 x0))) (0, i2z) := by
  refine lpE_up (fun σ => σ.1) ((gA g 37 x0)) ?_ _ _ (nn_le _)
  intro σ τ h9
  obtain ⟨i1, i2⟩ := σ
  by_cases c1 : (gA g 37 x0) ≤ i1
  · have hs := eX2_fares_15_1 g x0 x1 v1 i1 i2 c1
    rw [hs] at h9
    cases h9
  · by_cases c2 : (gA g 33 (v1 + i1)) ≤ x1
    · obtain ⟨v2, hv2⟩ : ∃ z : Int32, z = i2 + 0 := ⟨_, rfl⟩
      have hs := eX2_fares_15_2 g x0 x1 v1 i1 i2 c1 c2 hv2
      rw [hs] at h9
      have e9 := Option.some.inj h9
      subst e9
      exact ⟨not_le32 c1, rfl⟩
    · obtain ⟨v3, hv3⟩ : ∃ z : Int32, z = i2 + (gA g 34 (v1 + i1)) := ⟨_, rfl⟩
      have hs := eX2_fares_15_3 g x0 x1 v1 i1 i2 c1 c2 hv3
      rw [hs] at h9
      have e9 := Option.some.inj h9
      subst e9
      exact ⟨not_le32 c1, rfl⟩
def fX2_fares_r (g : tG) (x0 : Int32) (x1 : Int32) : Int32 :=
  let v1 : Int32 := gA g 36 x0
  let r1 : Int32 × Int32 := lp (sX2_fares_15 g x0 x1 v1) (nn ((gA g 37 x0))) (0, 0)
  r1.2
set_option maxRecDepth 20000 in
theorem eX2_fares_r1 (g : tG) (x0 : Int32) (x1 : Int32) {v1 : Int32} (hv1 : v1 = gA g 36 x0) {r1 : Int32 × Int32} (hr1 : r1 = lp (sX2_fares_15 g x0 x1 v1) (nn ((gA g 37 x0))) (0, 0)) : fX2_fares_r g x0 x1 = r1.2 := by
  subst hv1
  subst hr1
  exact rfl
set_option maxHeartbeats 4000000 in
set_option maxRecDepth 100000 in
theorem kX2_fares (l : Launch) (D : va_G) (ad : Nat → Nat) (cI : ClassId) (g : tG) (sz : Nat) (x0 : Int32) (x1 : Int32) : Met l yX2_fares wsX2_fares ({ frames := 1, cells := 0, slots := 0, locals := 21 } : Room) (g_P D [(cI, .int)] (tcW ad cI g) [.ref (ad 70), .int x0, .int x1] sz) (g_Qi D [(cI, .int)] (va_A (tcW ad cI g) sz) (tcW ad cI g) (fX2_fares_r g x0 x1)) 0 0 (va_A (tcW ad cI g) sz) := by
  refine Met.ofW (cc := cX2_fares) (maxL := 6) (ret := (some .int)) (by decide) rfl ?_
  intro p e s m args below meth c9 s₁ B hml hv
  obtain ⟨rfl, hsz, hP, hK, hD0⟩ := hv
  have hx := B.exec
  have hb := B.bytes
  have hr := B.returns
  have hts := atoms_spec (ws := wsX2_fares) B.pre
  have hown : s.vm.findClass RX2 = some m.cls := findClass_of_methodNamed B.named
  have hlocks := B.notSynchronized
  subst hsz
  have hD := hD0.self (sz := s.heap.size)
  generalize hAe : va_A (tcW ad cI g) s.heap.size = A at hD ⊢
  have hA : ∀ q : Nat, s.heap.size ≤ q → A q := fun q h => by rw [← hAe]; exact Or.inr h
  have hS : va_S A s.heap s.heap [] := va_S.rf
  have hl := lv_entry ([.ref (ad 70), .int x0, .int x1]) (n := 6) (Nat.le_of_ble_eq_true rfl)
  rw [lg_entry_eq]
  generalize (lg_sl ([.ref (ad 70), .int x0, .int x1]) ++ List.replicate (6 - (lg_sl ([.ref (ad 70), .int x0, .int x1])).length) Slot.unset).toArray = ls at hl ⊢
  have hl : lv_has ls 6 [(0, .ref (ad 70)), (1, .int x0), (2, .int x1)] := hl
  have winX2 : ∀ w ∈ u_ws RX2 TX2 10, w ∈ wsX2_fares := by decide +kernel
  have winX5 : ∀ w ∈ u_ws RX5 TX5 1, w ∈ wsX2_fares := by decide +kernel
  refine lv_iconst (v := 0) hx hb dX2_fares_0 (by decide) ?_
  refine lv_istore_n (lv' := [(3, .int 0), (0, .ref (ad 70)), (1, .int x0), (2, .int x1)]) hx hb dX2_fares_1 rfl hl (by decide) rfl (fun ls hl => ?_)
  refine lv_aload_n hx hb dX2_fares_2 rfl (lv_at hl 1 rfl) ?_
  refine va_get (D := D) (ci := 2) (v := .ref (ad 79)) (C := RX2) (T := TX2) (N := 10) hx hb hts winX2 hown hK hP 70 rfl rfl 4 (by decide) (hts (.fieldLink RX2 29 "TapCap$Journeys" "firstOn" "LTapCap$Row;") (List.mem_of_getElem? (i := 1) rfl)) (fun _ h9 => h9) rfl dX2_fares_3 ?_
  refine lv_iload_n hx hb dX2_fares_6 rfl (lv_at hl 2 rfl) ?_
  refine g_ki hK hD hS hA (va_runV (As := [.int x0]) (rest := []) ⟨hx, hb, hml, hown, hts⟩ (k_tc_at l D ad cI g s.heap.size 36 (by decide) x0) (cwV 1 hts gX2_fares_X5_at rfl rfl rfl (by decide +kernel) ⟨Nat.le_of_ble_eq_true rfl, Nat.le_of_ble_eq_true rfl⟩) (g_preV hK hP hD (ci := 5) (q0 := 79) rfl rfl) rfl rfl hl.1 rfl (lv_room (Nat.le_of_ble_eq_true rfl)) dX2_fares_7 ⟨Nat.le_of_ble_eq_true rfl, Nat.le_of_ble_eq_true rfl⟩) (fun H locs hP hD hS => ?_)
  refine lv_topi (fun v1 hv1 => ?_)
  refine lv_istore (lv' := [(4, .int v1), (3, .int 0), (0, .ref (ad 70)), (1, .int x0), (2, .int x1)]) hx hb dX2_fares_10 hl (by decide) rfl (fun ls hl => ?_)
  refine lv_iconst (v := 0) hx hb dX2_fares_12 (by decide) ?_
  refine lv_istore (lv' := [(5, .int 0), (4, .int v1), (3, .int 0), (0, .ref (ad 70)), (1, .int x0), (2, .int x1)]) hx hb dX2_fares_13 hl (by decide) rfl (fun ls hl => ?_)
  have loop15 : ∀ (n : Nat)  (i1 : Int32) (i2 : Int32), lpE (sX2_fares_15 g x0 x1 v1) n (i1, i2) → ∀ (H : Heap) (locs : List Loc), va_P D vwCl (tcW ad cI g) H → va_D A (tcW ad cI g) → va_S A s.heap H locs → ∀ (ls : Array Slot), lv_has ls 6 [(5, .int i1), (4, .int v1), (3, .int i2), (0, .ref (ad 70)), (1, .int x0), (2, .int x1)] → (∀ r : Int32 × Int32, r = lp (sX2_fares_15 g x0 x1 v1) n (i1, i2) → ∀ (H : Heap) (locs : List Loc), va_P D vwCl (tcW ad cI g) H → va_D A (tcW ad cI g) → va_S A s.heap H locs → ∀ (ls : Array Slot), lv_has ls 6 [(5, .int r.1), (4, .int v1), (3, .int r.2), (0, .ref (ad 70)), (1, .int x0), (2, .int x1)] → W p l e (headSpec wsX2_fares ({ frames := 1, cells := 0, slots := 0, locals := 21 } : Room)).room s m ([.ref (ad 70), .int x0, .int x1] : List Value).toArray below meth c9 H locs 0 0 (MQ below (g_Qi D [(cI, .int)] A (tcW ad cI g) (fX2_fares_r g x0 x1)) ([.ref (ad 70), .int x0, .int x1] : List Value).toArray s 0 0 A) (F0 m 69 ls [])) → W p l e (headSpec wsX2_fares ({ frames := 1, cells := 0, slots := 0, locals := 21 } : Room)).room s m ([.ref (ad 70), .int x0, .int x1] : List Value).toArray below meth c9 H locs 0 0 (MQ below (g_Qi D [(cI, .int)] A (tcW ad cI g) (fX2_fares_r g x0 x1)) ([.ref (ad 70), .int x0, .int x1] : List Value).toArray s 0 0 A) (F0 m 15 ls []) := by
    refine lp_ind ?_
    intro n ih i1 i2 hE H locs hP hD hS ls hl kk
    refine lv_iload hx hb dX2_fares_15 (lv_at hl 0 rfl) ?_
    refine lv_aload_n hx hb dX2_fares_17 rfl (lv_at hl 3 rfl) ?_
    refine va_get (D := D) (ci := 2) (v := .ref (ad 81)) (C := RX2) (T := TX2) (N := 10) hx hb hts winX2 hown hK hP 70 rfl rfl 5 (by decide) (hts (.fieldLink RX2 32 "TapCap$Journeys" "countOn" "LTapCap$Row;") (List.mem_of_getElem? (i := 2) rfl)) (fun _ h9 => h9) rfl dX2_fares_18 ?_
    refine lv_iload_n hx hb dX2_fares_21 rfl (lv_at hl 4 rfl) ?_
    refine g_ki hK hD hS hA (va_runV (As := [.int x0]) (rest := [.int i1]) ⟨hx, hb, hml, hown, hts⟩ (k_tc_at l D ad cI g H.size 37 (by decide) x0) (cwV 1 hts gX2_fares_X5_at rfl rfl rfl (by decide +kernel) ⟨Nat.le_of_ble_eq_true rfl, Nat.le_of_ble_eq_true rfl⟩) (g_preV hK hP hD (ci := 5) (q0 := 81) rfl rfl) rfl rfl hl.1 rfl (lv_room (Nat.le_of_ble_eq_true rfl)) dX2_fares_22 ⟨Nat.le_of_ble_eq_true rfl, Nat.le_of_ble_eq_true rfl⟩) (fun H locs hP hD hS => ?_)
    refine lv_icmp_ge (tgt := 69) hx hb dX2_fares_25 (by decide) (fun c1 => ?_) (fun c1 => ?_)
    · have hs := eX2_fares_15_1 g x0 x1 v1 i1 i2 c1
      exact kk _ (lp_none hs).symm H locs hP hD hS ls (lv_sub hl [0, 1, 2, 3, 4, 5] rfl)
    · refine lv_iload_n hx hb dX2_fares_28 rfl (lv_at hl 2 rfl) ?_
      refine lv_aload_n hx hb dX2_fares_29 rfl (lv_at hl 3 rfl) ?_
      refine va_get (D := D) (ci := 2) (v := .ref (ad 73)) (C := RX2) (T := TX2) (N := 10) hx hb hts winX2 hown hK hP 70 rfl rfl 1 (by decide) (hts (.fieldLink RX2 20 "TapCap$Journeys" "top" "LTapCap$Row;") (List.mem_of_getElem? (i := 3) rfl)) (fun _ h9 => h9) rfl dX2_fares_30 ?_
      refine lv_iload hx hb dX2_fares_33 (lv_at hl 1 rfl) ?_
      refine lv_iload hx hb dX2_fares_35 (lv_at hl 0 rfl) ?_
      refine lv_iadd hx hb dX2_fares_37 ?_
      refine g_ki hK hD hS hA (va_runV (As := [.int (v1 + i1)]) (rest := [.int i2]) ⟨hx, hb, hml, hown, hts⟩ (k_tc_at l D ad cI g H.size 33 (by decide) (v1 + i1)) (cwV 1 hts gX2_fares_X5_at rfl rfl rfl (by decide +kernel) ⟨Nat.le_of_ble_eq_true rfl, Nat.le_of_ble_eq_true rfl⟩) (g_preV hK hP hD (ci := 5) (q0 := 73) rfl rfl) rfl rfl hl.1 rfl (lv_room (Nat.le_of_ble_eq_true rfl)) dX2_fares_38 ⟨Nat.le_of_ble_eq_true rfl, Nat.le_of_ble_eq_true rfl⟩) (fun H locs hP hD hS => ?_)
      refine lv_iload_n hx hb dX2_fares_41 rfl (lv_at hl 5 rfl) ?_
      refine lv_icmp_le (tgt := 60) hx hb dX2_fares_42 (by decide) (fun c2 => ?_) (fun c2 => ?_)
      · refine lv_iconst (v := 0) hx hb dX2_fares_60 (by decide) ?_
        refine lv_iadd hx hb dX2_fares_61 ?_
        refine lv_topi (fun v2 hv2 => ?_)
        refine lv_istore_n (lv' := [(3, .int v2), (5, .int i1), (4, .int v1), (0, .ref (ad 70)), (1, .int x0), (2, .int x1)]) hx hb dX2_fares_62 rfl hl (by decide) rfl (fun ls hl => ?_)
        refine lv_iinc (v := i1 + 1) (lv' := [(5, .int (i1 + 1)), (3, .int v2), (4, .int v1), (0, .ref (ad 70)), (1, .int x0), (2, .int x1)]) hx hb dX2_fares_63 hl (k := 1) rfl rfl (by decide) rfl (fun ls hl => ?_)
        refine lv_goto (tgt := 15) hx hb dX2_fares_66 (by decide) ?_
        have hs := eX2_fares_15_2 g x0 x1 v1 i1 i2 c1 c2 hv2
        obtain ⟨n9, hn9, hE9, hr9⟩ := lpE_next hE hs
        exact ih n9 (by omega) (i1 + 1) v2 hE9 H locs hP hD hS ls (lv_sub hl [0, 2, 1, 3, 4, 5] rfl) (fun r hr => kk r (hr.trans hr9.symm))
      · refine lv_aload_n hx hb dX2_fares_45 rfl (lv_at hl 3 rfl) ?_
        refine va_get (D := D) (ci := 2) (v := .ref (ad 75)) (C := RX2) (T := TX2) (N := 10) hx hb hts winX2 hown hK hP 70 rfl rfl 2 (by decide) (hts (.fieldLink RX2 23 "TapCap$Journeys" "fare" "LTapCap$Row;") (List.mem_of_getElem? (i := 4) rfl)) (fun _ h9 => h9) rfl dX2_fares_46 ?_
        refine lv_iload hx hb dX2_fares_49 (lv_at hl 1 rfl) ?_
        refine lv_iload hx hb dX2_fares_51 (lv_at hl 0 rfl) ?_
        refine lv_iadd hx hb dX2_fares_53 ?_
        refine g_ki hK hD hS hA (va_runV (As := [.int (v1 + i1)]) (rest := [.int i2]) ⟨hx, hb, hml, hown, hts⟩ (k_tc_at l D ad cI g H.size 34 (by decide) (v1 + i1)) (cwV 1 hts gX2_fares_X5_at rfl rfl rfl (by decide +kernel) ⟨Nat.le_of_ble_eq_true rfl, Nat.le_of_ble_eq_true rfl⟩) (g_preV hK hP hD (ci := 5) (q0 := 75) rfl rfl) rfl rfl hl.1 rfl (lv_room (Nat.le_of_ble_eq_true rfl)) dX2_fares_54 ⟨Nat.le_of_ble_eq_true rfl, Nat.le_of_ble_eq_true rfl⟩) (fun H locs hP hD hS => ?_)
        refine lv_goto (tgt := 61) hx hb dX2_fares_57 (by decide) ?_
        refine lv_iadd hx hb dX2_fares_61 ?_
        refine lv_topi (fun v3 hv3 => ?_)
        refine lv_istore_n (lv' := [(3, .int v3), (5, .int i1), (4, .int v1), (0, .ref (ad 70)), (1, .int x0), (2, .int x1)]) hx hb dX2_fares_62 rfl hl (by decide) rfl (fun ls hl => ?_)
        refine lv_iinc (v := i1 + 1) (lv' := [(5, .int (i1 + 1)), (3, .int v3), (4, .int v1), (0, .ref (ad 70)), (1, .int x0), (2, .int x1)]) hx hb dX2_fares_63 hl (k := 1) rfl rfl (by decide) rfl (fun ls hl => ?_)
        refine lv_goto (tgt := 15) hx hb dX2_fares_66 (by decide) ?_
        have hs := eX2_fares_15_3 g x0 x1 v1 i1 i2 c1 c2 hv3
        obtain ⟨n9, hn9, hE9, hr9⟩ := lpE_next hE hs
        exact ih n9 (by omega) (i1 + 1) v3 hE9 H locs hP hD hS ls (lv_sub hl [0, 2, 1, 3, 4, 5] rfl) (fun r hr => kk r (hr.trans hr9.symm))
  refine loop15 (nn ((gA g 37 x0))) 0 0 (tX2_fares_15 g x0 x1 v1 0) _ _ hP hD hS ls hl (fun r1 hr1 H locs hP hD hS ls hl => ?_)
  have hl : lv_has ls 6 [(3, .int r1.2)] := lv_sub hl [2] rfl
  refine lv_iload_n hx hb dX2_fares_69 rfl (lv_at hl 0 rfl) ?_
  exact g_iret hx hb hr rfl hlocks hK hP hD hS (eX2_fares_r1 g x0 x1 hv1 hr1).symm dX2_fares_70
def sX2_legsOfCarrier_16 (g : tG) (x0 : Int32) (x3 : Int32) (v1 : Int32) : (Int32 × Int32) → Option (Int32 × Int32) := fun σ =>
  if (gA g 32 x0) ≤ σ.1 then
    none
  else
    if (gA g 1 (gA g 24 (v1 + σ.1))) = x3 then
      let v3 : Int32 := σ.2 + 1
      some (σ.1 + 1, v3)
    else
      let v2 : Int32 := σ.2 + 0
      some (σ.1 + 1, v2)
set_option maxRecDepth 20000 in
theorem eX2_legsOfCarrier_16_1 (g : tG) (x0 : Int32) (x3 : Int32) (v1 : Int32) (i1 : Int32) (i2 : Int32) (c1 : (gA g 32 x0) ≤ i1) : sX2_legsOfCarrier_16 g x0 x3 v1 (i1, i2) = none := by
  exact (if_pos c1).trans rfl
set_option maxRecDepth 20000 in
theorem eX2_legsOfCarrier_16_2 (g : tG) (x0 : Int32) (x3 : Int32) (v1 : Int32) (i1 : Int32) (i2 : Int32) (c1 : ¬ ((gA g 32 x0) ≤ i1)) (c2 : ¬ ((gA g 1 (gA g 24 (v1 + i1))) = x3)) {v2 : Int32} (hv2 : v2 = i2 + 0) : sX2_legsOfCarrier_16 g x0 x3 v1 (i1, i2) = some (i1 + 1, v2) := by
  subst hv2
  exact (if_neg c1).trans ((if_neg c2).trans rfl)
set_option maxRecDepth 20000 in
theorem eX2_legsOfCarrier_16_3 (g : tG) (x0 : Int32) (x3 : Int32) (v1 : Int32) (i1 : Int32) (i2 : Int32) (c1 : ¬ ((gA g 32 x0) ≤ i1)) (c2 : (gA g 1 (gA g 24 (v1 + i1))) = x3) {v3 : Int32} (hv3 : v3 = i2 + 1) : sX2_legsOfCarrier_16 g x0 x3 v1 (i1, i2) = some (i1 + 1, v3) := by
  subst hv3
  exact (if_neg c1).trans ((if_pos c2).trans rfl)
theorem tX2_legsOfCarrier_16 (g : tG) (x0 : Int32) (x3 : Int32) (v1 : Int32) (i2z : Int32) : lpE (sX2_legsOfCarrier_16 g x0 x3 v1) (nn ((gA g 32 x0))) (0, i2z) := by
  refine lpE_up (fun σ => σ.1) ((gA g 32 x0)) ?_ _ _ (nn_le _)
  intro σ τ h9
  obtain ⟨i1, i2⟩ := σ
  by_cases c1 : (gA g 32 x0) ≤ i1
  · have hs := eX2_legsOfCarrier_16_1 g x0 x3 v1 i1 i2 c1
    rw [hs] at h9
    cases h9
  · by_cases c2 : (gA g 1 (gA g 24 (v1 + i1))) = x3
    · obtain ⟨v3, hv3⟩ : ∃ z : Int32, z = i2 + 1 := ⟨_, rfl⟩
      have hs := eX2_legsOfCarrier_16_3 g x0 x3 v1 i1 i2 c1 c2 hv3
      rw [hs] at h9
      have e9 := Option.some.inj h9
      subst e9
      exact ⟨not_le32 c1, rfl⟩
    · obtain ⟨v2, hv2⟩ : ∃ z : Int32, z = i2 + 0 := ⟨_, rfl⟩
      have hs := eX2_legsOfCarrier_16_2 g x0 x3 v1 i1 i2 c1 c2 hv2
      rw [hs] at h9
      have e9 := Option.some.inj h9
      subst e9
      exact ⟨not_le32 c1, rfl⟩
def fX2_legsOfCarrier_r (g : tG) (x0 : Int32) (x3 : Int32) : Int32 :=
  let v1 : Int32 := gA g 39 x0
  let r1 : Int32 × Int32 := lp (sX2_legsOfCarrier_16 g x0 x3 v1) (nn ((gA g 32 x0))) (0, 0)
  r1.2
set_option maxRecDepth 20000 in
theorem eX2_legsOfCarrier_r1 (g : tG) (x0 : Int32) (x3 : Int32) {v1 : Int32} (hv1 : v1 = gA g 39 x0) {r1 : Int32 × Int32} (hr1 : r1 = lp (sX2_legsOfCarrier_16 g x0 x3 v1) (nn ((gA g 32 x0))) (0, 0)) : fX2_legsOfCarrier_r g x0 x3 = r1.2 := by
  subst hv1
  subst hr1
  exact rfl
set_option maxHeartbeats 4000000 in
set_option maxRecDepth 100000 in
theorem kX2_legsOfCarrier (l : Launch) (D : va_G) (ad : Nat → Nat) (cI : ClassId) (g : tG) (sz : Nat) (x0 : Int32) (x3 : Int32) : Met l yX2_legsOfCarrier wsX2_legsOfCarrier ({ frames := 1, cells := 0, slots := 0, locals := 21 } : Room) (g_P D [(cI, .int)] (tcW ad cI g) [.ref (ad 70), .int x0, .ref (ad 43), .ref (ad 1), .int x3] sz) (g_Qi D [(cI, .int)] (va_A (tcW ad cI g) sz) (tcW ad cI g) (fX2_legsOfCarrier_r g x0 x3)) 0 0 (va_A (tcW ad cI g) sz) := by
  refine Met.ofW (cc := cX2_legsOfCarrier) (maxL := 8) (ret := (some .int)) (by decide) rfl ?_
  intro p e s m args below meth c9 s₁ B hml hv
  obtain ⟨rfl, hsz, hP, hK, hD0⟩ := hv
  have hx := B.exec
  have hb := B.bytes
  have hr := B.returns
  have hts := atoms_spec (ws := wsX2_legsOfCarrier) B.pre
  have hown : s.vm.findClass RX2 = some m.cls := findClass_of_methodNamed B.named
  have hlocks := B.notSynchronized
  subst hsz
  have hD := hD0.self (sz := s.heap.size)
  generalize hAe : va_A (tcW ad cI g) s.heap.size = A at hD ⊢
  have hA : ∀ q : Nat, s.heap.size ≤ q → A q := fun q h => by rw [← hAe]; exact Or.inr h
  have hS : va_S A s.heap s.heap [] := va_S.rf
  have hl := lv_entry ([.ref (ad 70), .int x0, .ref (ad 43), .ref (ad 1), .int x3]) (n := 8) (Nat.le_of_ble_eq_true rfl)
  rw [lg_entry_eq]
  generalize (lg_sl ([.ref (ad 70), .int x0, .ref (ad 43), .ref (ad 1), .int x3]) ++ List.replicate (8 - (lg_sl ([.ref (ad 70), .int x0, .ref (ad 43), .ref (ad 1), .int x3])).length) Slot.unset).toArray = ls at hl ⊢
  have hl : lv_has ls 8 [(0, .ref (ad 70)), (1, .int x0), (2, .ref (ad 43)), (3, .ref (ad 1)), (4, .int x3)] := hl
  have winX2 : ∀ w ∈ u_ws RX2 TX2 10, w ∈ wsX2_legsOfCarrier := by decide +kernel
  have winX3 : ∀ w ∈ u_ws RX3 TX3 15, w ∈ wsX2_legsOfCarrier := by decide +kernel
  have winX4 : ∀ w ∈ u_ws RX4 TX4 3, w ∈ wsX2_legsOfCarrier := by decide +kernel
  have winX5 : ∀ w ∈ u_ws RX5 TX5 1, w ∈ wsX2_legsOfCarrier := by decide +kernel
  refine lv_iconst (v := 0) hx hb dX2_legsOfCarrier_0 (by decide) ?_
  refine lv_istore (lv' := [(5, .int 0), (0, .ref (ad 70)), (1, .int x0), (2, .ref (ad 43)), (3, .ref (ad 1)), (4, .int x3)]) hx hb dX2_legsOfCarrier_1 hl (by decide) rfl (fun ls hl => ?_)
  refine lv_aload_n hx hb dX2_legsOfCarrier_3 rfl (lv_at hl 1 rfl) ?_
  refine va_get (D := D) (ci := 2) (v := .ref (ad 85)) (C := RX2) (T := TX2) (N := 10) hx hb hts winX2 hown hK hP 70 rfl rfl 7 (by decide) (hts (.fieldLink RX2 38 "TapCap$Journeys" "firstLeg" "LTapCap$Row;") (List.mem_of_getElem? (i := 1) rfl)) (fun _ h9 => h9) rfl dX2_legsOfCarrier_4 ?_
  refine lv_iload_n hx hb dX2_legsOfCarrier_7 rfl (lv_at hl 2 rfl) ?_
  refine g_ki hK hD hS hA (va_runV (As := [.int x0]) (rest := []) ⟨hx, hb, hml, hown, hts⟩ (k_tc_at l D ad cI g s.heap.size 39 (by decide) x0) (cwV 1 hts gX2_legsOfCarrier_X5_at rfl rfl rfl (by decide +kernel) ⟨Nat.le_of_ble_eq_true rfl, Nat.le_of_ble_eq_true rfl⟩) (g_preV hK hP hD (ci := 5) (q0 := 85) rfl rfl) rfl rfl hl.1 rfl (lv_room (Nat.le_of_ble_eq_true rfl)) dX2_legsOfCarrier_8 ⟨Nat.le_of_ble_eq_true rfl, Nat.le_of_ble_eq_true rfl⟩) (fun H locs hP hD hS => ?_)
  refine lv_topi (fun v1 hv1 => ?_)
  refine lv_istore (lv' := [(6, .int v1), (5, .int 0), (0, .ref (ad 70)), (1, .int x0), (2, .ref (ad 43)), (3, .ref (ad 1)), (4, .int x3)]) hx hb dX2_legsOfCarrier_11 hl (by decide) rfl (fun ls hl => ?_)
  refine lv_iconst (v := 0) hx hb dX2_legsOfCarrier_13 (by decide) ?_
  refine lv_istore (lv' := [(7, .int 0), (6, .int v1), (5, .int 0), (0, .ref (ad 70)), (1, .int x0), (2, .ref (ad 43)), (3, .ref (ad 1)), (4, .int x3)]) hx hb dX2_legsOfCarrier_14 hl (by decide) rfl (fun ls hl => ?_)
  have loop16 : ∀ (n : Nat)  (i1 : Int32) (i2 : Int32), lpE (sX2_legsOfCarrier_16 g x0 x3 v1) n (i1, i2) → ∀ (H : Heap) (locs : List Loc), va_P D vwCl (tcW ad cI g) H → va_D A (tcW ad cI g) → va_S A s.heap H locs → ∀ (ls : Array Slot), lv_has ls 8 [(7, .int i1), (6, .int v1), (5, .int i2), (0, .ref (ad 70)), (1, .int x0), (2, .ref (ad 43)), (3, .ref (ad 1)), (4, .int x3)] → (∀ r : Int32 × Int32, r = lp (sX2_legsOfCarrier_16 g x0 x3 v1) n (i1, i2) → ∀ (H : Heap) (locs : List Loc), va_P D vwCl (tcW ad cI g) H → va_D A (tcW ad cI g) → va_S A s.heap H locs → ∀ (ls : Array Slot), lv_has ls 8 [(7, .int r.1), (6, .int v1), (5, .int r.2), (0, .ref (ad 70)), (1, .int x0), (2, .ref (ad 43)), (3, .ref (ad 1)), (4, .int x3)] → W p l e (headSpec wsX2_legsOfCarrier ({ frames := 1, cells := 0, slots := 0, locals := 21 } : Room)).room s m ([.ref (ad 70), .int x0, .ref (ad 43), .ref (ad 1), .int x3] : List Value).toArray below meth c9 H locs 0 0 (MQ below (g_Qi D [(cI, .int)] A (tcW ad cI g) (fX2_legsOfCarrier_r g x0 x3)) ([.ref (ad 70), .int x0, .ref (ad 43), .ref (ad 1), .int x3] : List Value).toArray s 0 0 A) (F0 m 69 ls [])) → W p l e (headSpec wsX2_legsOfCarrier ({ frames := 1, cells := 0, slots := 0, locals := 21 } : Room)).room s m ([.ref (ad 70), .int x0, .ref (ad 43), .ref (ad 1), .int x3] : List Value).toArray below meth c9 H locs 0 0 (MQ below (g_Qi D [(cI, .int)] A (tcW ad cI g) (fX2_legsOfCarrier_r g x0 x3)) ([.ref (ad 70), .int x0, .ref (ad 43), .ref (ad 1), .int x3] : List Value).toArray s 0 0 A) (F0 m 16 ls []) := by
    refine lp_ind ?_
    intro n ih i1 i2 hE H locs hP hD hS ls hl kk
    refine lv_iload hx hb dX2_legsOfCarrier_16 (lv_at hl 0 rfl) ?_
    refine lv_aload_n hx hb dX2_legsOfCarrier_18 rfl (lv_at hl 3 rfl) ?_
    refine va_get (D := D) (ci := 2) (v := .ref (ad 71)) (C := RX2) (T := TX2) (N := 10) hx hb hts winX2 hown hK hP 70 rfl rfl 0 (by decide) (hts (.fieldLink RX2 14 "TapCap$Journeys" "legCount" "LTapCap$Row;") (List.mem_of_getElem? (i := 2) rfl)) (fun _ h9 => h9) rfl dX2_legsOfCarrier_19 ?_
    refine lv_iload_n hx hb dX2_legsOfCarrier_22 rfl (lv_at hl 4 rfl) ?_
    refine g_ki hK hD hS hA (va_runV (As := [.int x0]) (rest := [.int i1]) ⟨hx, hb, hml, hown, hts⟩ (k_tc_at l D ad cI g H.size 32 (by decide) x0) (cwV 1 hts gX2_legsOfCarrier_X5_at rfl rfl rfl (by decide +kernel) ⟨Nat.le_of_ble_eq_true rfl, Nat.le_of_ble_eq_true rfl⟩) (g_preV hK hP hD (ci := 5) (q0 := 71) rfl rfl) rfl rfl hl.1 rfl (lv_room (Nat.le_of_ble_eq_true rfl)) dX2_legsOfCarrier_23 ⟨Nat.le_of_ble_eq_true rfl, Nat.le_of_ble_eq_true rfl⟩) (fun H locs hP hD hS => ?_)
    refine lv_icmp_ge (tgt := 69) hx hb dX2_legsOfCarrier_26 (by decide) (fun c1 => ?_) (fun c1 => ?_)
    · have hs := eX2_legsOfCarrier_16_1 g x0 x3 v1 i1 i2 c1
      exact kk _ (lp_none hs).symm H locs hP hD hS ls (lv_sub hl [0, 1, 2, 3, 4, 5, 6, 7] rfl)
    · refine lv_iload hx hb dX2_legsOfCarrier_29 (lv_at hl 2 rfl) ?_
      refine lv_aload_n hx hb dX2_legsOfCarrier_31 rfl (lv_at hl 6 rfl) ?_
      refine va_get (D := D) (ci := 4) (v := .ref (ad 4)) (C := RX4) (T := TX4) (N := 3) hx hb hts winX4 hown hK hP 1 rfl rfl 1 (by decide) (hts (.fieldLink RX2 111 "TapCap$Region" "carrierOf" "LTapCap$Row;") (List.mem_of_getElem? (i := 3) rfl)) (fun _ h9 => h9) rfl dX2_legsOfCarrier_32 ?_
      refine lv_aload_n hx hb dX2_legsOfCarrier_35 rfl (lv_at hl 5 rfl) ?_
      refine va_get (D := D) (ci := 3) (v := .ref (ad 54)) (C := RX3) (T := TX3) (N := 15) hx hb hts winX3 hown hK hP 43 rfl rfl 5 (by decide) (hts (.fieldLink RX2 108 "TapCap$Legs" "lineOf" "LTapCap$Row;") (List.mem_of_getElem? (i := 4) rfl)) (fun _ h9 => h9) rfl dX2_legsOfCarrier_36 ?_
      refine lv_iload hx hb dX2_legsOfCarrier_39 (lv_at hl 1 rfl) ?_
      refine lv_iload hx hb dX2_legsOfCarrier_41 (lv_at hl 0 rfl) ?_
      refine lv_iadd hx hb dX2_legsOfCarrier_43 ?_
      refine g_ki hK hD hS hA (va_runV (As := [.int (v1 + i1)]) (rest := [.ref (ad 4), .int i2]) ⟨hx, hb, hml, hown, hts⟩ (k_tc_at l D ad cI g H.size 24 (by decide) (v1 + i1)) (cwV 1 hts gX2_legsOfCarrier_X5_at rfl rfl rfl (by decide +kernel) ⟨Nat.le_of_ble_eq_true rfl, Nat.le_of_ble_eq_true rfl⟩) (g_preV hK hP hD (ci := 5) (q0 := 54) rfl rfl) rfl rfl hl.1 rfl (lv_room (Nat.le_of_ble_eq_true rfl)) dX2_legsOfCarrier_44 ⟨Nat.le_of_ble_eq_true rfl, Nat.le_of_ble_eq_true rfl⟩) (fun H locs hP hD hS => ?_)
      refine g_ki hK hD hS hA (va_runV (As := [.int (gA g 24 (v1 + i1))]) (rest := [.int i2]) ⟨hx, hb, hml, hown, hts⟩ (k_tc_at l D ad cI g H.size 1 (by decide) (gA g 24 (v1 + i1))) (cwV 1 hts gX2_legsOfCarrier_X5_at rfl rfl rfl (by decide +kernel) ⟨Nat.le_of_ble_eq_true rfl, Nat.le_of_ble_eq_true rfl⟩) (g_preV hK hP hD (ci := 5) (q0 := 4) rfl rfl) rfl rfl hl.1 rfl (lv_room (Nat.le_of_ble_eq_true rfl)) dX2_legsOfCarrier_47 ⟨Nat.le_of_ble_eq_true rfl, Nat.le_of_ble_eq_true rfl⟩) (fun H locs hP hD hS => ?_)
      refine lv_iload hx hb dX2_legsOfCarrier_50 (lv_at hl 7 rfl) ?_
      refine lv_icmp_ne (tgt := 59) hx hb dX2_legsOfCarrier_52 (by decide) (fun c2 => ?_) (fun c2 => ?_)
      · refine lv_iconst (v := 0) hx hb dX2_legsOfCarrier_59 (by decide) ?_
        refine lv_iadd hx hb dX2_legsOfCarrier_60 ?_
        refine lv_topi (fun v2 hv2 => ?_)
        refine lv_istore (lv' := [(5, .int v2), (7, .int i1), (6, .int v1), (0, .ref (ad 70)), (1, .int x0), (2, .ref (ad 43)), (3, .ref (ad 1)), (4, .int x3)]) hx hb dX2_legsOfCarrier_61 hl (by decide) rfl (fun ls hl => ?_)
        refine lv_iinc (v := i1 + 1) (lv' := [(7, .int (i1 + 1)), (5, .int v2), (6, .int v1), (0, .ref (ad 70)), (1, .int x0), (2, .ref (ad 43)), (3, .ref (ad 1)), (4, .int x3)]) hx hb dX2_legsOfCarrier_63 hl (k := 1) rfl rfl (by decide) rfl (fun ls hl => ?_)
        refine lv_goto (tgt := 16) hx hb dX2_legsOfCarrier_66 (by decide) ?_
        have hs := eX2_legsOfCarrier_16_2 g x0 x3 v1 i1 i2 c1 c2 hv2
        obtain ⟨n9, hn9, hE9, hr9⟩ := lpE_next hE hs
        exact ih n9 (by omega) (i1 + 1) v2 hE9 H locs hP hD hS ls (lv_sub hl [0, 2, 1, 3, 4, 5, 6, 7] rfl) (fun r hr => kk r (hr.trans hr9.symm))
      · refine lv_iconst (v := 1) hx hb dX2_legsOfCarrier_55 (by decide) ?_
        refine lv_goto (tgt := 60) hx hb dX2_legsOfCarrier_56 (by decide) ?_
        refine lv_iadd hx hb dX2_legsOfCarrier_60 ?_
        refine lv_topi (fun v3 hv3 => ?_)
        refine lv_istore (lv' := [(5, .int v3), (7, .int i1), (6, .int v1), (0, .ref (ad 70)), (1, .int x0), (2, .ref (ad 43)), (3, .ref (ad 1)), (4, .int x3)]) hx hb dX2_legsOfCarrier_61 hl (by decide) rfl (fun ls hl => ?_)
        refine lv_iinc (v := i1 + 1) (lv' := [(7, .int (i1 + 1)), (5, .int v3), (6, .int v1), (0, .ref (ad 70)), (1, .int x0), (2, .ref (ad 43)), (3, .ref (ad 1)), (4, .int x3)]) hx hb dX2_legsOfCarrier_63 hl (k := 1) rfl rfl (by decide) rfl (fun ls hl => ?_)
        refine lv_goto (tgt := 16) hx hb dX2_legsOfCarrier_66 (by decide) ?_
        have hs := eX2_legsOfCarrier_16_3 g x0 x3 v1 i1 i2 c1 c2 hv3
        obtain ⟨n9, hn9, hE9, hr9⟩ := lpE_next hE hs
        exact ih n9 (by omega) (i1 + 1) v3 hE9 H locs hP hD hS ls (lv_sub hl [0, 2, 1, 3, 4, 5, 6, 7] rfl) (fun r hr => kk r (hr.trans hr9.symm))
  refine loop16 (nn ((gA g 32 x0))) 0 0 (tX2_legsOfCarrier_16 g x0 x3 v1 0) _ _ hP hD hS ls hl (fun r1 hr1 H locs hP hD hS ls hl => ?_)
  have hl : lv_has ls 8 [(5, .int r1.2)] := lv_sub hl [2] rfl
  refine lv_iload hx hb dX2_legsOfCarrier_69 (lv_at hl 0 rfl) ?_
  exact g_iret hx hb hr rfl hlocks hK hP hD hS (eX2_legsOfCarrier_r1 g x0 x3 hv1 hr1).symm dX2_legsOfCarrier_71
def sX2_read_24 : (Int32 × tG) → Option (Int32 × tG) := fun σ =>
  if (σ.2 45 7) ≤ σ.1 then
    none
  else
    let v1 : Int32 := gA σ.2 19 σ.1
    if (gA σ.2 37 v1) ≤ 0 then
      let g5 : tG := fX2_open_w σ.2 v1 σ.1
      let g6 : tG := gP g5 35 σ.1 ((gA g5 37 v1) - 1)
      let g7 : tG := gD g6 32 ((g6 45 9) - 1) 1
      let g8 : tG := fX2_touch_w g7 (gA g7 0 (gA g7 20 σ.1))
      let g9 : tG := fX2_touch_w g8 (gA g8 0 (gA g8 21 σ.1))
      some (σ.1 + 1, g9)
    else
      if 20 < ((gA σ.2 22 σ.1) - (gA σ.2 23 (σ.1 - 1))) then
        let g10 : tG := fX2_open_w σ.2 v1 σ.1
        let g11 : tG := gP g10 35 σ.1 ((gA g10 37 v1) - 1)
        let g12 : tG := gD g11 32 ((g11 45 9) - 1) 1
        let g13 : tG := fX2_touch_w g12 (gA g12 0 (gA g12 20 σ.1))
        let g14 : tG := fX2_touch_w g13 (gA g13 0 (gA g13 21 σ.1))
        some (σ.1 + 1, g14)
      else
        let g15 : tG := gP σ.2 35 σ.1 ((gA σ.2 37 v1) - 1)
        let g16 : tG := gD g15 32 ((g15 45 9) - 1) 1
        let g17 : tG := fX2_touch_w g16 (gA g16 0 (gA g16 20 σ.1))
        let g18 : tG := fX2_touch_w g17 (gA g17 0 (gA g17 21 σ.1))
        some (σ.1 + 1, g18)
set_option maxRecDepth 20000 in
theorem eX2_read_24_1 (i1 : Int32) (g4 : tG) (c1 : (g4 45 7) ≤ i1) : sX2_read_24 (i1, g4) = none := by
  exact (if_pos c1).trans rfl
set_option maxRecDepth 20000 in
theorem eX2_read_24_2 (i1 : Int32) (g4 : tG) (c1 : ¬ ((g4 45 7) ≤ i1)) {v1 : Int32} (hv1 : v1 = gA g4 19 i1) (c2 : (gA g4 37 v1) ≤ 0) {g5 : tG} (hg5 : g5 = fX2_open_w g4 v1 i1) {g6 : tG} (hg6 : g6 = gP g5 35 i1 ((gA g5 37 v1) - 1)) {g7 : tG} (hg7 : g7 = gD g6 32 ((g6 45 9) - 1) 1) {g8 : tG} (hg8 : g8 = fX2_touch_w g7 (gA g7 0 (gA g7 20 i1))) {g9 : tG} (hg9 : g9 = fX2_touch_w g8 (gA g8 0 (gA g8 21 i1))) : sX2_read_24 (i1, g4) = some (i1 + 1, g9) := by
  subst hv1
  subst hg5
  subst hg6
  subst hg7
  subst hg8
  subst hg9
  exact (if_neg c1).trans ((if_pos c2).trans rfl)
set_option maxRecDepth 20000 in
theorem eX2_read_24_3 (i1 : Int32) (g4 : tG) (c1 : ¬ ((g4 45 7) ≤ i1)) {v1 : Int32} (hv1 : v1 = gA g4 19 i1) (c2 : ¬ ((gA g4 37 v1) ≤ 0)) (c4 : 20 < ((gA g4 22 i1) - (gA g4 23 (i1 - 1)))) {g10 : tG} (hg10 : g10 = fX2_open_w g4 v1 i1) {g11 : tG} (hg11 : g11 = gP g10 35 i1 ((gA g10 37 v1) - 1)) {g12 : tG} (hg12 : g12 = gD g11 32 ((g11 45 9) - 1) 1) {g13 : tG} (hg13 : g13 = fX2_touch_w g12 (gA g12 0 (gA g12 20 i1))) {g14 : tG} (hg14 : g14 = fX2_touch_w g13 (gA g13 0 (gA g13 21 i1))) : sX2_read_24 (i1, g4) = some (i1 + 1, g14) := by
  subst hv1
  subst hg10
  subst hg11
  subst hg12
  subst hg13
  subst hg14
  exact (if_neg c1).trans ((if_neg c2).trans ((if_pos c4).trans rfl))
set_option maxRecDepth 20000 in
theorem eX2_read_24_4 (i1 : Int32) (g4 : tG) (c1 : ¬ ((g4 45 7) ≤ i1)) {v1 : Int32} (hv1 : v1 = gA g4 19 i1) (c2 : ¬ ((gA g4 37 v1) ≤ 0)) (c4 : ¬ (20 < ((gA g4 22 i1) - (gA g4 23 (i1 - 1))))) {g15 : tG} (hg15 : g15 = gP g4 35 i1 ((gA g4 37 v1) - 1)) {g16 : tG} (hg16 : g16 = gD g15 32 ((g15 45 9) - 1) 1) {g17 : tG} (hg17 : g17 = fX2_touch_w g16 (gA g16 0 (gA g16 20 i1))) {g18 : tG} (hg18 : g18 = fX2_touch_w g17 (gA g17 0 (gA g17 21 i1))) : sX2_read_24 (i1, g4) = some (i1 + 1, g18) := by
  subst hv1
  subst hg15
  subst hg16
  subst hg17
  subst hg18
  exact (if_neg c1).trans ((if_neg c2).trans ((if_neg c4).trans rfl))
theorem fj_X2_read_24 (σ τ : Int32 × tG) (j : Nat) (h : j ∉ ([32, 33, 35, 36, 37, 38, 39, 40, 45] : List Nat)) (e : sX2_read_24 σ = some τ) : τ.2 j = σ.2 j := by
  obtain ⟨i1, g4⟩ := σ
  by_cases c1 : (g4 45 7) ≤ i1
  · have hs := eX2_read_24_1 i1 g4 c1
    rw [hs] at e
    cases e
  · obtain ⟨v1, hv1⟩ : ∃ z : Int32, z = gA g4 19 i1 := ⟨_, rfl⟩
    by_cases c2 : (gA g4 37 v1) ≤ 0
    · obtain ⟨g5, hg5⟩ : ∃ z : tG, z = fX2_open_w g4 v1 i1 := ⟨_, rfl⟩
      obtain ⟨g6, hg6⟩ : ∃ z : tG, z = gP g5 35 i1 ((gA g5 37 v1) - 1) := ⟨_, rfl⟩
      obtain ⟨g7, hg7⟩ : ∃ z : tG, z = gD g6 32 ((g6 45 9) - 1) 1 := ⟨_, rfl⟩
      obtain ⟨g8, hg8⟩ : ∃ z : tG, z = fX2_touch_w g7 (gA g7 0 (gA g7 20 i1)) := ⟨_, rfl⟩
      obtain ⟨g9, hg9⟩ : ∃ z : tG, z = fX2_touch_w g8 (gA g8 0 (gA g8 21 i1)) := ⟨_, rfl⟩
      have qg5 : g5 j = g4 j := by rw [hg5]; exact fjX2_open g4 v1 i1 j (fun hm => h (sub9 (a := [32, 33, 36, 37, 38, 39, 40, 45]) (b := [32, 33, 35, 36, 37, 38, 39, 40, 45]) (by decide) hm))
      have qg6 : g6 j = g5 j := by rw [hg6]; exact gP_ne (fun e9 => h (by rw [e9]; decide))
      have qg7 : g7 j = g6 j := by rw [hg7]; exact gD_ne (fun e9 => h (by rw [e9]; decide))
      have qg8 : g8 j = g7 j := by rw [hg8]; exact fjX2_touch g7 (gA g7 0 (gA g7 20 i1)) j (fun hm => h (sub9 (a := [33, 40]) (b := [32, 33, 35, 36, 37, 38, 39, 40, 45]) (by decide) hm))
      have qg9 : g9 j = g8 j := by rw [hg9]; exact fjX2_touch g8 (gA g8 0 (gA g8 21 i1)) j (fun hm => h (sub9 (a := [33, 40]) (b := [32, 33, 35, 36, 37, 38, 39, 40, 45]) (by decide) hm))
      have hs := eX2_read_24_2 i1 g4 c1 hv1 c2 hg5 hg6 hg7 hg8 hg9
      rw [hs] at e
      have e9 := Option.some.inj e
      subst e9
      exact qg9.trans (qg8.trans (qg7.trans (qg6.trans (qg5))))
    · by_cases c4 : 20 < ((gA g4 22 i1) - (gA g4 23 (i1 - 1)))
      · obtain ⟨g10, hg10⟩ : ∃ z : tG, z = fX2_open_w g4 v1 i1 := ⟨_, rfl⟩
        obtain ⟨g11, hg11⟩ : ∃ z : tG, z = gP g10 35 i1 ((gA g10 37 v1) - 1) := ⟨_, rfl⟩
        obtain ⟨g12, hg12⟩ : ∃ z : tG, z = gD g11 32 ((g11 45 9) - 1) 1 := ⟨_, rfl⟩
        obtain ⟨g13, hg13⟩ : ∃ z : tG, z = fX2_touch_w g12 (gA g12 0 (gA g12 20 i1)) := ⟨_, rfl⟩
        obtain ⟨g14, hg14⟩ : ∃ z : tG, z = fX2_touch_w g13 (gA g13 0 (gA g13 21 i1)) := ⟨_, rfl⟩
        have qg10 : g10 j = g4 j := by rw [hg10]; exact fjX2_open g4 v1 i1 j (fun hm => h (sub9 (a := [32, 33, 36, 37, 38, 39, 40, 45]) (b := [32, 33, 35, 36, 37, 38, 39, 40, 45]) (by decide) hm))
        have qg11 : g11 j = g10 j := by rw [hg11]; exact gP_ne (fun e9 => h (by rw [e9]; decide))
        have qg12 : g12 j = g11 j := by rw [hg12]; exact gD_ne (fun e9 => h (by rw [e9]; decide))
        have qg13 : g13 j = g12 j := by rw [hg13]; exact fjX2_touch g12 (gA g12 0 (gA g12 20 i1)) j (fun hm => h (sub9 (a := [33, 40]) (b := [32, 33, 35, 36, 37, 38, 39, 40, 45]) (by decide) hm))
        have qg14 : g14 j = g13 j := by rw [hg14]; exact fjX2_touch g13 (gA g13 0 (gA g13 21 i1)) j (fun hm => h (sub9 (a := [33, 40]) (b := [32, 33, 35, 36, 37, 38, 39, 40, 45]) (by decide) hm))
        have hs := eX2_read_24_3 i1 g4 c1 hv1 c2 c4 hg10 hg11 hg12 hg13 hg14
        rw [hs] at e
        have e9 := Option.some.inj e
        subst e9
        exact qg14.trans (qg13.trans (qg12.trans (qg11.trans (qg10))))
      · obtain ⟨g15, hg15⟩ : ∃ z : tG, z = gP g4 35 i1 ((gA g4 37 v1) - 1) := ⟨_, rfl⟩
        obtain ⟨g16, hg16⟩ : ∃ z : tG, z = gD g15 32 ((g15 45 9) - 1) 1 := ⟨_, rfl⟩
        obtain ⟨g17, hg17⟩ : ∃ z : tG, z = fX2_touch_w g16 (gA g16 0 (gA g16 20 i1)) := ⟨_, rfl⟩
        obtain ⟨g18, hg18⟩ : ∃ z : tG, z = fX2_touch_w g17 (gA g17 0 (gA g17 21 i1)) := ⟨_, rfl⟩
        have qg15 : g15 j = g4 j := by rw [hg15]; exact gP_ne (fun e9 => h (by rw [e9]; decide))
        have qg16 : g16 j = g15 j := by rw [hg16]; exact gD_ne (fun e9 => h (by rw [e9]; decide))
        have qg17 : g17 j = g16 j := by rw [hg17]; exact fjX2_touch g16 (gA g16 0 (gA g16 20 i1)) j (fun hm => h (sub9 (a := [33, 40]) (b := [32, 33, 35, 36, 37, 38, 39, 40, 45]) (by decide) hm))
        have qg18 : g18 j = g17 j := by rw [hg18]; exact fjX2_touch g17 (gA g17 0 (gA g17 21 i1)) j (fun hm => h (sub9 (a := [33, 40]) (b := [32, 33, 35, 36, 37, 38, 39, 40, 45]) (by decide) hm))
        have hs := eX2_read_24_4 i1 g4 c1 hv1 c2 c4 hg15 hg16 hg17 hg18
        rw [hs] at e
        have e9 := Option.some.inj e
        subst e9
        exact qg18.trans (qg17.trans (qg16.trans (qg15)))
theorem fjX2_read_24 (n : Nat) (σ : Int32 × tG) (j : Nat) (h : j ∉ ([32, 33, 35, 36, 37, 38, 39, 40, 45] : List Nat)) : ((lp (sX2_read_24) n σ).2) j = σ.2 j :=
  lp_inv (fun τ => τ.2 j = σ.2 j) (fun a b e9 h9 => (fj_X2_read_24 a b j h e9).trans h9) n σ rfl
theorem fk_X2_read_24 (σ τ : Int32 × tG) (k : Nat) (h : k ∉ ([9] : List Nat)) (e : sX2_read_24 σ = some τ) : τ.2 45 k = σ.2 45 k := by
  obtain ⟨i1, g4⟩ := σ
  by_cases c1 : (g4 45 7) ≤ i1
  · have hs := eX2_read_24_1 i1 g4 c1
    rw [hs] at e
    cases e
  · obtain ⟨v1, hv1⟩ : ∃ z : Int32, z = gA g4 19 i1 := ⟨_, rfl⟩
    by_cases c2 : (gA g4 37 v1) ≤ 0
    · obtain ⟨g5, hg5⟩ : ∃ z : tG, z = fX2_open_w g4 v1 i1 := ⟨_, rfl⟩
      obtain ⟨g6, hg6⟩ : ∃ z : tG, z = gP g5 35 i1 ((gA g5 37 v1) - 1) := ⟨_, rfl⟩
      obtain ⟨g7, hg7⟩ : ∃ z : tG, z = gD g6 32 ((g6 45 9) - 1) 1 := ⟨_, rfl⟩
      obtain ⟨g8, hg8⟩ : ∃ z : tG, z = fX2_touch_w g7 (gA g7 0 (gA g7 20 i1)) := ⟨_, rfl⟩
      obtain ⟨g9, hg9⟩ : ∃ z : tG, z = fX2_touch_w g8 (gA g8 0 (gA g8 21 i1)) := ⟨_, rfl⟩
      have qg5 : g5 45 k = g4 45 k := by rw [hg5]; exact fiX2_open g4 v1 i1 k (fun hm => h (sub9 (a := [9]) (b := [9]) (by decide) hm))
      have qg6 : g6 45 k = g5 45 k := by rw [hg6]; exact congrFun (gP_ne (by decide)) k
      have qg7 : g7 45 k = g6 45 k := by rw [hg7]; exact congrFun (gD_ne (by decide)) k
      have qg8 : g8 45 k = g7 45 k := by rw [hg8]; exact congrFun (fjX2_touch g7 (gA g7 0 (gA g7 20 i1)) 45 (by decide)) k
      have qg9 : g9 45 k = g8 45 k := by rw [hg9]; exact congrFun (fjX2_touch g8 (gA g8 0 (gA g8 21 i1)) 45 (by decide)) k
      have hs := eX2_read_24_2 i1 g4 c1 hv1 c2 hg5 hg6 hg7 hg8 hg9
      rw [hs] at e
      have e9 := Option.some.inj e
      subst e9
      exact qg9.trans (qg8.trans (qg7.trans (qg6.trans (qg5))))
    · by_cases c4 : 20 < ((gA g4 22 i1) - (gA g4 23 (i1 - 1)))
      · obtain ⟨g10, hg10⟩ : ∃ z : tG, z = fX2_open_w g4 v1 i1 := ⟨_, rfl⟩
        obtain ⟨g11, hg11⟩ : ∃ z : tG, z = gP g10 35 i1 ((gA g10 37 v1) - 1) := ⟨_, rfl⟩
        obtain ⟨g12, hg12⟩ : ∃ z : tG, z = gD g11 32 ((g11 45 9) - 1) 1 := ⟨_, rfl⟩
        obtain ⟨g13, hg13⟩ : ∃ z : tG, z = fX2_touch_w g12 (gA g12 0 (gA g12 20 i1)) := ⟨_, rfl⟩
        obtain ⟨g14, hg14⟩ : ∃ z : tG, z = fX2_touch_w g13 (gA g13 0 (gA g13 21 i1)) := ⟨_, rfl⟩
        have qg10 : g10 45 k = g4 45 k := by rw [hg10]; exact fiX2_open g4 v1 i1 k (fun hm => h (sub9 (a := [9]) (b := [9]) (by decide) hm))
        have qg11 : g11 45 k = g10 45 k := by rw [hg11]; exact congrFun (gP_ne (by decide)) k
        have qg12 : g12 45 k = g11 45 k := by rw [hg12]; exact congrFun (gD_ne (by decide)) k
        have qg13 : g13 45 k = g12 45 k := by rw [hg13]; exact congrFun (fjX2_touch g12 (gA g12 0 (gA g12 20 i1)) 45 (by decide)) k
        have qg14 : g14 45 k = g13 45 k := by rw [hg14]; exact congrFun (fjX2_touch g13 (gA g13 0 (gA g13 21 i1)) 45 (by decide)) k
        have hs := eX2_read_24_3 i1 g4 c1 hv1 c2 c4 hg10 hg11 hg12 hg13 hg14
        rw [hs] at e
        have e9 := Option.some.inj e
        subst e9
        exact qg14.trans (qg13.trans (qg12.trans (qg11.trans (qg10))))
      · obtain ⟨g15, hg15⟩ : ∃ z : tG, z = gP g4 35 i1 ((gA g4 37 v1) - 1) := ⟨_, rfl⟩
        obtain ⟨g16, hg16⟩ : ∃ z : tG, z = gD g15 32 ((g15 45 9) - 1) 1 := ⟨_, rfl⟩
        obtain ⟨g17, hg17⟩ : ∃ z : tG, z = fX2_touch_w g16 (gA g16 0 (gA g16 20 i1)) := ⟨_, rfl⟩
        obtain ⟨g18, hg18⟩ : ∃ z : tG, z = fX2_touch_w g17 (gA g17 0 (gA g17 21 i1)) := ⟨_, rfl⟩
        have qg15 : g15 45 k = g4 45 k := by rw [hg15]; exact congrFun (gP_ne (by decide)) k
        have qg16 : g16 45 k = g15 45 k := by rw [hg16]; exact congrFun (gD_ne (by decide)) k
        have qg17 : g17 45 k = g16 45 k := by rw [hg17]; exact congrFun (fjX2_touch g16 (gA g16 0 (gA g16 20 i1)) 45 (by decide)) k
        have qg18 : g18 45 k = g17 45 k := by rw [hg18]; exact congrFun (fjX2_touch g17 (gA g17 0 (gA g17 21 i1)) 45 (by decide)) k
        have hs := eX2_read_24_4 i1 g4 c1 hv1 c2 c4 hg15 hg16 hg17 hg18
        rw [hs] at e
        have e9 := Option.some.inj e
        subst e9
        exact qg18.trans (qg17.trans (qg16.trans (qg15)))
theorem fiX2_read_24 (n : Nat) (σ : Int32 × tG) (k : Nat) (h : k ∉ ([9] : List Nat)) : ((lp (sX2_read_24) n σ).2) 45 k = σ.2 45 k :=
  lp_inv (fun τ => τ.2 45 k = σ.2 45 k) (fun a b e9 h9 => (fk_X2_read_24 a b k h e9).trans h9) n σ rfl
theorem tX2_read_24 (g4z : tG) : lpE (sX2_read_24) (nn ((g4z 45 7))) (0, g4z) := by
  refine lpE_upI (fun σ => σ.2 45 7 = (g4z 45 7)) (fun σ => σ.1) ((g4z 45 7)) ?_ _ _ rfl (nn_le _)
  intro σ τ hI h9
  have qk := fk_X2_read_24 _ _ 7 (by decide) h9
  obtain ⟨i1, g4⟩ := σ
  by_cases c1 : (g4 45 7) ≤ i1
  · have hs := eX2_read_24_1 i1 g4 c1
    rw [hs] at h9
    cases h9
  · obtain ⟨v1, hv1⟩ : ∃ z : Int32, z = gA g4 19 i1 := ⟨_, rfl⟩
    by_cases c2 : (gA g4 37 v1) ≤ 0
    · obtain ⟨g5, hg5⟩ : ∃ z : tG, z = fX2_open_w g4 v1 i1 := ⟨_, rfl⟩
      obtain ⟨g6, hg6⟩ : ∃ z : tG, z = gP g5 35 i1 ((gA g5 37 v1) - 1) := ⟨_, rfl⟩
      obtain ⟨g7, hg7⟩ : ∃ z : tG, z = gD g6 32 ((g6 45 9) - 1) 1 := ⟨_, rfl⟩
      obtain ⟨g8, hg8⟩ : ∃ z : tG, z = fX2_touch_w g7 (gA g7 0 (gA g7 20 i1)) := ⟨_, rfl⟩
      obtain ⟨g9, hg9⟩ : ∃ z : tG, z = fX2_touch_w g8 (gA g8 0 (gA g8 21 i1)) := ⟨_, rfl⟩
      have hs := eX2_read_24_2 i1 g4 c1 hv1 c2 hg5 hg6 hg7 hg8 hg9
      rw [hs] at h9
      have e9 := Option.some.inj h9
      subst e9
      exact ⟨qk.trans hI, lt_eq32 (not_le32 c1) hI, rfl⟩
    · by_cases c4 : 20 < ((gA g4 22 i1) - (gA g4 23 (i1 - 1)))
      · obtain ⟨g10, hg10⟩ : ∃ z : tG, z = fX2_open_w g4 v1 i1 := ⟨_, rfl⟩
        obtain ⟨g11, hg11⟩ : ∃ z : tG, z = gP g10 35 i1 ((gA g10 37 v1) - 1) := ⟨_, rfl⟩
        obtain ⟨g12, hg12⟩ : ∃ z : tG, z = gD g11 32 ((g11 45 9) - 1) 1 := ⟨_, rfl⟩
        obtain ⟨g13, hg13⟩ : ∃ z : tG, z = fX2_touch_w g12 (gA g12 0 (gA g12 20 i1)) := ⟨_, rfl⟩
        obtain ⟨g14, hg14⟩ : ∃ z : tG, z = fX2_touch_w g13 (gA g13 0 (gA g13 21 i1)) := ⟨_, rfl⟩
        have hs := eX2_read_24_3 i1 g4 c1 hv1 c2 c4 hg10 hg11 hg12 hg13 hg14
        rw [hs] at h9
        have e9 := Option.some.inj h9
        subst e9
        exact ⟨qk.trans hI, lt_eq32 (not_le32 c1) hI, rfl⟩
      · obtain ⟨g15, hg15⟩ : ∃ z : tG, z = gP g4 35 i1 ((gA g4 37 v1) - 1) := ⟨_, rfl⟩
        obtain ⟨g16, hg16⟩ : ∃ z : tG, z = gD g15 32 ((g15 45 9) - 1) 1 := ⟨_, rfl⟩
        obtain ⟨g17, hg17⟩ : ∃ z : tG, z = fX2_touch_w g16 (gA g16 0 (gA g16 20 i1)) := ⟨_, rfl⟩
        obtain ⟨g18, hg18⟩ : ∃ z : tG, z = fX2_touch_w g17 (gA g17 0 (gA g17 21 i1)) := ⟨_, rfl⟩
        have hs := eX2_read_24_4 i1 g4 c1 hv1 c2 c4 hg15 hg16 hg17 hg18
        rw [hs] at h9
        have e9 := Option.some.inj h9
        subst e9
        exact ⟨qk.trans hI, lt_eq32 (not_le32 c1) hI, rfl⟩
def sX2_read_185 : (Int32 × tG) → Option (Int32 × tG) := fun σ =>
  if (σ.2 45 9) ≤ σ.1 then
    none
  else
    let v2 : Int32 := fX7_indexFor_r σ.2 (gA σ.2 38 σ.1)
    let g20 : tG := gP σ.2 34 σ.1 (fX7_fare_r σ.2 v2 (fX2_zonesTouched_r σ.2 σ.1))
    some (σ.1 + 1, g20)
set_option maxRecDepth 20000 in
theorem eX2_read_185_1 (i2 : Int32) (g19 : tG) (c7 : (g19 45 9) ≤ i2) : sX2_read_185 (i2, g19) = none := by
  exact (if_pos c7).trans rfl
set_option maxRecDepth 20000 in
theorem eX2_read_185_2 (i2 : Int32) (g19 : tG) (c7 : ¬ ((g19 45 9) ≤ i2)) {v2 : Int32} (hv2 : v2 = fX7_indexFor_r g19 (gA g19 38 i2)) {g20 : tG} (hg20 : g20 = gP g19 34 i2 (fX7_fare_r g19 v2 (fX2_zonesTouched_r g19 i2))) : sX2_read_185 (i2, g19) = some (i2 + 1, g20) := by
  subst hv2
  subst hg20
  exact (if_neg c7).trans rfl
theorem fj_X2_read_185 (σ τ : Int32 × tG) (j : Nat) (h : j ∉ ([34] : List Nat)) (e : sX2_read_185 σ = some τ) : τ.2 j = σ.2 j := by
  obtain ⟨i2, g19⟩ := σ
  by_cases c7 : (g19 45 9) ≤ i2
  · have hs := eX2_read_185_1 i2 g19 c7
    rw [hs] at e
    cases e
  · obtain ⟨v2, hv2⟩ : ∃ z : Int32, z = fX7_indexFor_r g19 (gA g19 38 i2) := ⟨_, rfl⟩
    obtain ⟨g20, hg20⟩ : ∃ z : tG, z = gP g19 34 i2 (fX7_fare_r g19 v2 (fX2_zonesTouched_r g19 i2)) := ⟨_, rfl⟩
    have qg20 : g20 j = g19 j := by rw [hg20]; exact gP_ne (fun e9 => h (by rw [e9]; decide))
    have hs := eX2_read_185_2 i2 g19 c7 hv2 hg20
    rw [hs] at e
    have e9 := Option.some.inj e
    subst e9
    exact qg20
theorem fjX2_read_185 (n : Nat) (σ : Int32 × tG) (j : Nat) (h : j ∉ ([34] : List Nat)) : ((lp (sX2_read_185) n σ).2) j = σ.2 j :=
  lp_inv (fun τ => τ.2 j = σ.2 j) (fun a b e9 h9 => (fj_X2_read_185 a b j h e9).trans h9) n σ rfl
theorem tX2_read_185 (g19z : tG) : lpE (sX2_read_185) (nn ((g19z 45 9))) (0, g19z) := by
  refine lpE_upI (fun σ => σ.2 45 9 = (g19z 45 9)) (fun σ => σ.1) ((g19z 45 9)) ?_ _ _ rfl (nn_le _)
  intro σ τ hI h9
  have qk := congrFun (fj_X2_read_185 _ _ 45 (by decide) h9) 9
  obtain ⟨i2, g19⟩ := σ
  by_cases c7 : (g19 45 9) ≤ i2
  · have hs := eX2_read_185_1 i2 g19 c7
    rw [hs] at h9
    cases h9
  · obtain ⟨v2, hv2⟩ : ∃ z : Int32, z = fX7_indexFor_r g19 (gA g19 38 i2) := ⟨_, rfl⟩
    obtain ⟨g20, hg20⟩ : ∃ z : tG, z = gP g19 34 i2 (fX7_fare_r g19 v2 (fX2_zonesTouched_r g19 i2)) := ⟨_, rfl⟩
    have hs := eX2_read_185_2 i2 g19 c7 hv2 hg20
    rw [hs] at h9
    have e9 := Option.some.inj h9
    subst e9
    exact ⟨qk.trans hI, lt_eq32 (not_le32 c7) hI, rfl⟩
def fX2_read_w (g : tG) : tG :=
  let g1 : tG := tc_sc g 9 0
  let g2 : tG := gF g1 36 0
  let g3 : tG := gF g2 37 0
  let r1 : Int32 × tG := lp (sX2_read_24) (nn ((g3 45 7))) (0, g3)
  let r2 : Int32 × tG := lp (sX2_read_185) (nn ((r1.2 45 9))) (0, r1.2)
  r2.2
set_option maxRecDepth 20000 in
theorem eX2_read_w1 (g : tG) {g1 : tG} (hg1 : g1 = tc_sc g 9 0) {g2 : tG} (hg2 : g2 = gF g1 36 0) {g3 : tG} (hg3 : g3 = gF g2 37 0) {r1 : Int32 × tG} (hr1 : r1 = lp (sX2_read_24) (nn ((g3 45 7))) (0, g3)) {r2 : Int32 × tG} (hr2 : r2 = lp (sX2_read_185) (nn ((r1.2 45 9))) (0, r1.2)) : fX2_read_w g = r2.2 := by
  subst hg1
  subst hg2
  subst hg3
  subst hr1
  subst hr2
  exact rfl
theorem fjX2_read (g : tG) (j : Nat) (h : j ∉ ([32, 33, 34, 35, 36, 37, 38, 39, 40, 45] : List Nat)) : fX2_read_w g j = g j := by
  obtain ⟨g1, hg1⟩ : ∃ z : tG, z = tc_sc g 9 0 := ⟨_, rfl⟩
  obtain ⟨g2, hg2⟩ : ∃ z : tG, z = gF g1 36 0 := ⟨_, rfl⟩
  obtain ⟨g3, hg3⟩ : ∃ z : tG, z = gF g2 37 0 := ⟨_, rfl⟩
  obtain ⟨r1, hr1⟩ : ∃ z : Int32 × tG, z = lp (sX2_read_24) (nn ((g3 45 7))) (0, g3) := ⟨_, rfl⟩
  obtain ⟨r2, hr2⟩ : ∃ z : Int32 × tG, z = lp (sX2_read_185) (nn ((r1.2 45 9))) (0, r1.2) := ⟨_, rfl⟩
  have qg1 : g1 j = g j := by rw [hg1]; exact sc_nj (fun e9 => h (by rw [e9]; decide))
  have qg2 : g2 j = g1 j := by rw [hg2]; exact gF_ne (fun e9 => h (by rw [e9]; decide))
  have qg3 : g3 j = g2 j := by rw [hg3]; exact gF_ne (fun e9 => h (by rw [e9]; decide))
  have qr1 : r1.2 j = g3 j := by rw [hr1]; exact fjX2_read_24 _ _ j (fun hm => h (sub9 (a := [32, 33, 35, 36, 37, 38, 39, 40, 45]) (b := [32, 33, 34, 35, 36, 37, 38, 39, 40, 45]) (by decide) hm))
  have qr2 : r2.2 j = r1.2 j := by rw [hr2]; exact fjX2_read_185 _ _ j (fun hm => h (sub9 (a := [34]) (b := [32, 33, 34, 35, 36, 37, 38, 39, 40, 45]) (by decide) hm))
  have hs := eX2_read_w1 g hg1 hg2 hg3 hr1 hr2
  rw [hs]
  exact qr2.trans (qr1.trans (qg3.trans (qg2.trans (qg1))))
theorem fiX2_read (g : tG) (k : Nat) (h : k ∉ ([9] : List Nat)) : fX2_read_w g 45 k = g 45 k := by
  obtain ⟨g1, hg1⟩ : ∃ z : tG, z = tc_sc g 9 0 := ⟨_, rfl⟩
  obtain ⟨g2, hg2⟩ : ∃ z : tG, z = gF g1 36 0 := ⟨_, rfl⟩
  obtain ⟨g3, hg3⟩ : ∃ z : tG, z = gF g2 37 0 := ⟨_, rfl⟩
  obtain ⟨r1, hr1⟩ : ∃ z : Int32 × tG, z = lp (sX2_read_24) (nn ((g3 45 7))) (0, g3) := ⟨_, rfl⟩
  obtain ⟨r2, hr2⟩ : ∃ z : Int32 × tG, z = lp (sX2_read_185) (nn ((r1.2 45 9))) (0, r1.2) := ⟨_, rfl⟩
  have qg1 : g1 45 k = g 45 k := by rw [hg1]; exact sc_nk (fun e9 => h (by rw [e9]; decide))
  have qg2 : g2 45 k = g1 45 k := by rw [hg2]; exact congrFun (gF_ne (by decide)) k
  have qg3 : g3 45 k = g2 45 k := by rw [hg3]; exact congrFun (gF_ne (by decide)) k
  have qr1 : r1.2 45 k = g3 45 k := by rw [hr1]; exact fiX2_read_24 _ _ k (fun hm => h (sub9 (a := [9]) (b := [9]) (by decide) hm))
  have qr2 : r2.2 45 k = r1.2 45 k := by rw [hr2]; exact congrFun (fjX2_read_185 _ _ 45 (by decide)) k
  have hs := eX2_read_w1 g hg1 hg2 hg3 hr1 hr2
  rw [hs]
  exact qr2.trans (qr1.trans (qg3.trans (qg2.trans (qg1))))
set_option maxHeartbeats 4000000 in
set_option maxRecDepth 100000 in
theorem kX2_read (l : Launch) (D : va_G) (ad : Nat → Nat) (cI : ClassId) (g : tG) (sz : Nat) : Met l yX2_read wsX2_read ({ frames := 2, cells := 0, slots := 0, locals := 44 } : Room) (g_P D [(cI, .int)] (tcW ad cI g) [.ref (ad 70), .ref (ad 43), .ref (ad 1), .ref (ad 8)] sz) (g_Qv D [(cI, .int)] (va_A (tcW ad cI g) sz) (tcW ad cI (fX2_read_w g))) 0 0 (va_A (tcW ad cI g) sz) := by
  refine Met.ofW (cc := cX2_read) (maxL := 7) (ret := none) (by decide) rfl ?_
  intro p e s m args below meth c9 s₁ B hml hv
  obtain ⟨rfl, hsz, hP, hK, hD0⟩ := hv
  have hx := B.exec
  have hb := B.bytes
  have hr := B.returns
  have hts := atoms_spec (ws := wsX2_read) B.pre
  have hown : s.vm.findClass RX2 = some m.cls := findClass_of_methodNamed B.named
  have hlocks := B.notSynchronized
  subst hsz
  have hD := hD0.self (sz := s.heap.size)
  generalize hAe : va_A (tcW ad cI g) s.heap.size = A at hD ⊢
  have hA : ∀ q : Nat, s.heap.size ≤ q → A q := fun q h => by rw [← hAe]; exact Or.inr h
  have hS : va_S A s.heap s.heap [] := va_S.rf
  have hl := lv_entry ([.ref (ad 70), .ref (ad 43), .ref (ad 1), .ref (ad 8)]) (n := 7) (Nat.le_of_ble_eq_true rfl)
  rw [lg_entry_eq]
  generalize (lg_sl ([.ref (ad 70), .ref (ad 43), .ref (ad 1), .ref (ad 8)]) ++ List.replicate (7 - (lg_sl ([.ref (ad 70), .ref (ad 43), .ref (ad 1), .ref (ad 8)])).length) Slot.unset).toArray = ls at hl ⊢
  have hl : lv_has ls 7 [(0, .ref (ad 70)), (1, .ref (ad 43)), (2, .ref (ad 1)), (3, .ref (ad 8))] := hl
  have winX2 : ∀ w ∈ u_ws RX2 TX2 10, w ∈ wsX2_read := by decide +kernel
  have winX3 : ∀ w ∈ u_ws RX3 TX3 15, w ∈ wsX2_read := by decide +kernel
  have winX4 : ∀ w ∈ u_ws RX4 TX4 3, w ∈ wsX2_read := by decide +kernel
  have winX5 : ∀ w ∈ u_ws RX5 TX5 1, w ∈ wsX2_read := by decide +kernel
  refine lv_aload_n hx hb dX2_read_0 rfl (lv_at hl 0 rfl) ?_
  refine lv_iconst (v := 0) hx hb dX2_read_1 (by decide) ?_
  refine va_put (D := D) (ci := 2) (v := .int 0) (ty := .int) (C := RX2) (T := TX2) (N := 10) hx hb hts winX2 tyX2 tyX2_ok nmX2 hown hK hP hD hS 70 rfl rfl 9 (by decide) (hts (.fieldLink RX2 44 "TapCap$Journeys" "count" "I") (List.mem_of_getElem? (i := 1) rfl)) (fun _ h9 => h9) rfl (by decide +kernel) rfl rfl (Nat.le_of_ble_eq_true rfl) dX2_read_2 (fun H locs hP hD hS => ?_)
  have hP := tc_sP_9 hP
  have hD := tc_sD_9 hD
  obtain ⟨g1, hg1⟩ : ∃ z : tG, z = tc_sc g 9 0 := ⟨_, rfl⟩
  rw [← hg1] at hP hD
  refine lv_aload_n hx hb dX2_read_5 rfl (lv_at hl 0 rfl) ?_
  refine va_get (D := D) (ci := 2) (v := .ref (ad 79)) (C := RX2) (T := TX2) (N := 10) hx hb hts winX2 hown hK hP 70 rfl rfl 4 (by decide) (hts (.fieldLink RX2 29 "TapCap$Journeys" "firstOn" "LTapCap$Row;") (List.mem_of_getElem? (i := 2) rfl)) (fun _ h9 => h9) rfl dX2_read_6 ?_
  refine lv_iconst (v := 0) hx hb dX2_read_9 (by decide) ?_
  refine g_kv hK hD hS hA (va_runV (As := [.int 0]) (rest := []) ⟨hx, hb, hml, hown, hts⟩ (k_tc_fill l D ad cI g1 H.size 36 (by decide) 0) (cwV 1 hts gX2_read_X5_fill rfl rfl rfl (by decide +kernel) ⟨Nat.le_of_ble_eq_true rfl, Nat.le_of_ble_eq_true rfl⟩) (g_preV hK hP hD (ci := 5) (q0 := 79) rfl rfl) rfl rfl hl.1 rfl (lv_room (Nat.le_of_ble_eq_true rfl)) dX2_read_10 ⟨Nat.le_of_ble_eq_true rfl, Nat.le_of_ble_eq_true rfl⟩) (fun H locs hP hD hS => ?_)
  obtain ⟨g2, hg2⟩ : ∃ z : tG, z = gF g1 36 0 := ⟨_, rfl⟩
  rw [← hg2] at hP hD
  refine lv_aload_n hx hb dX2_read_13 rfl (lv_at hl 0 rfl) ?_
  refine va_get (D := D) (ci := 2) (v := .ref (ad 81)) (C := RX2) (T := TX2) (N := 10) hx hb hts winX2 hown hK hP 70 rfl rfl 5 (by decide) (hts (.fieldLink RX2 32 "TapCap$Journeys" "countOn" "LTapCap$Row;") (List.mem_of_getElem? (i := 3) rfl)) (fun _ h9 => h9) rfl dX2_read_14 ?_
  refine lv_iconst (v := 0) hx hb dX2_read_17 (by decide) ?_
  refine g_kv hK hD hS hA (va_runV (As := [.int 0]) (rest := []) ⟨hx, hb, hml, hown, hts⟩ (k_tc_fill l D ad cI g2 H.size 37 (by decide) 0) (cwV 1 hts gX2_read_X5_fill rfl rfl rfl (by decide +kernel) ⟨Nat.le_of_ble_eq_true rfl, Nat.le_of_ble_eq_true rfl⟩) (g_preV hK hP hD (ci := 5) (q0 := 81) rfl rfl) rfl rfl hl.1 rfl (lv_room (Nat.le_of_ble_eq_true rfl)) dX2_read_18 ⟨Nat.le_of_ble_eq_true rfl, Nat.le_of_ble_eq_true rfl⟩) (fun H locs hP hD hS => ?_)
  obtain ⟨g3, hg3⟩ : ∃ z : tG, z = gF g2 37 0 := ⟨_, rfl⟩
  rw [← hg3] at hP hD
  refine lv_iconst (v := 0) hx hb dX2_read_21 (by decide) ?_
  refine lv_istore (lv' := [(4, .int 0), (0, .ref (ad 70)), (1, .ref (ad 43)), (2, .ref (ad 1)), (3, .ref (ad 8))]) hx hb dX2_read_22 hl (by decide) rfl (fun ls hl => ?_)
  have loop24 : ∀ (n : Nat)  (i1 : Int32) (g4 : tG), lpE (sX2_read_24) n (i1, g4) → ∀ (H : Heap) (locs : List Loc), va_P D vwCl (tcW ad cI g4) H → va_D A (tcW ad cI g4) → va_S A s.heap H locs → ∀ (ls : Array Slot), lv_has ls 7 [(4, .int i1), (0, .ref (ad 70)), (1, .ref (ad 43)), (2, .ref (ad 1)), (3, .ref (ad 8))] → (∀ r : Int32 × tG, r = lp (sX2_read_24) n (i1, g4) → ∀ (H : Heap) (locs : List Loc), va_P D vwCl (tcW ad cI r.2) H → va_D A (tcW ad cI r.2) → va_S A s.heap H locs → ∀ (ls : Array Slot), lv_has ls 7 [(4, .int r.1), (0, .ref (ad 70)), (1, .ref (ad 43)), (2, .ref (ad 1)), (3, .ref (ad 8))] → W p l e (headSpec wsX2_read ({ frames := 2, cells := 0, slots := 0, locals := 44 } : Room)).room s m ([.ref (ad 70), .ref (ad 43), .ref (ad 1), .ref (ad 8)] : List Value).toArray below meth c9 H locs 0 0 (MQ below (g_Qv D [(cI, .int)] A (tcW ad cI (fX2_read_w g))) ([.ref (ad 70), .ref (ad 43), .ref (ad 1), .ref (ad 8)] : List Value).toArray s 0 0 A) (F0 m 182 ls [])) → W p l e (headSpec wsX2_read ({ frames := 2, cells := 0, slots := 0, locals := 44 } : Room)).room s m ([.ref (ad 70), .ref (ad 43), .ref (ad 1), .ref (ad 8)] : List Value).toArray below meth c9 H locs 0 0 (MQ below (g_Qv D [(cI, .int)] A (tcW ad cI (fX2_read_w g))) ([.ref (ad 70), .ref (ad 43), .ref (ad 1), .ref (ad 8)] : List Value).toArray s 0 0 A) (F0 m 24 ls []) := by
    refine lp_ind ?_
    intro n ih i1 g4 hE H locs hP hD hS ls hl kk
    refine lv_iload hx hb dX2_read_24 (lv_at hl 0 rfl) ?_
    refine lv_aload_n hx hb dX2_read_26 rfl (lv_at hl 2 rfl) ?_
    refine va_get (D := D) (ci := 3) (v := .int (g4 45 7)) (C := RX3) (T := TX3) (N := 15) hx hb hts winX3 hown hK hP 43 rfl rfl 10 (by decide) (hts (.fieldLink RX2 51 "TapCap$Legs" "count" "I") (List.mem_of_getElem? (i := 4) rfl)) (fun _ h9 => h9) rfl dX2_read_27 ?_
    refine lv_icmp_ge (tgt := 182) hx hb dX2_read_30 (by decide) (fun c1 => ?_) (fun c1 => ?_)
    · have hs := eX2_read_24_1 i1 g4 c1
      exact kk _ (lp_none hs).symm H locs hP hD hS ls (lv_sub hl [0, 1, 2, 3, 4] rfl)
    · refine lv_aload_n hx hb dX2_read_33 rfl (lv_at hl 2 rfl) ?_
      refine va_get (D := D) (ci := 3) (v := .ref (ad 44)) (C := RX3) (T := TX3) (N := 15) hx hb hts winX3 hown hK hP 43 rfl rfl 0 (by decide) (hts (.fieldLink RX2 54 "TapCap$Legs" "dayOf" "LTapCap$Row;") (List.mem_of_getElem? (i := 5) rfl)) (fun _ h9 => h9) rfl dX2_read_34 ?_
      refine lv_iload hx hb dX2_read_37 (lv_at hl 0 rfl) ?_
      refine g_ki hK hD hS hA (va_runV (As := [.int i1]) (rest := []) ⟨hx, hb, hml, hown, hts⟩ (k_tc_at l D ad cI g4 H.size 19 (by decide) i1) (cwV 1 hts gX2_read_X5_at rfl rfl rfl (by decide +kernel) ⟨Nat.le_of_ble_eq_true rfl, Nat.le_of_ble_eq_true rfl⟩) (g_preV hK hP hD (ci := 5) (q0 := 44) rfl rfl) rfl rfl hl.1 rfl (lv_room (Nat.le_of_ble_eq_true rfl)) dX2_read_39 ⟨Nat.le_of_ble_eq_true rfl, Nat.le_of_ble_eq_true rfl⟩) (fun H locs hP hD hS => ?_)
      refine lv_topi (fun v1 hv1 => ?_)
      refine lv_istore (lv' := [(5, .int v1), (4, .int i1), (0, .ref (ad 70)), (1, .ref (ad 43)), (2, .ref (ad 1)), (3, .ref (ad 8))]) hx hb dX2_read_42 hl (by decide) rfl (fun ls hl => ?_)
      refine lv_aload_n hx hb dX2_read_44 rfl (lv_at hl 2 rfl) ?_
      refine va_get (D := D) (ci := 2) (v := .ref (ad 81)) (C := RX2) (T := TX2) (N := 10) hx hb hts winX2 hown hK hP 70 rfl rfl 5 (by decide) (hts (.fieldLink RX2 32 "TapCap$Journeys" "countOn" "LTapCap$Row;") (List.mem_of_getElem? (i := 3) rfl)) (fun _ h9 => h9) rfl dX2_read_45 ?_
      refine lv_iload hx hb dX2_read_48 (lv_at hl 0 rfl) ?_
      refine g_ki hK hD hS hA (va_runV (As := [.int v1]) (rest := []) ⟨hx, hb, hml, hown, hts⟩ (k_tc_at l D ad cI g4 H.size 37 (by decide) v1) (cwV 1 hts gX2_read_X5_at rfl rfl rfl (by decide +kernel) ⟨Nat.le_of_ble_eq_true rfl, Nat.le_of_ble_eq_true rfl⟩) (g_preV hK hP hD (ci := 5) (q0 := 81) rfl rfl) rfl rfl hl.1 rfl (lv_room (Nat.le_of_ble_eq_true rfl)) dX2_read_50 ⟨Nat.le_of_ble_eq_true rfl, Nat.le_of_ble_eq_true rfl⟩) (fun H locs hP hD hS => ?_)
      refine lv_if_le (tgt := 86) hx hb dX2_read_53 (by decide) (fun c2 => ?_) (fun c2 => ?_)
      · refine lv_iconst (v := 0) hx hb dX2_read_86 (by decide) ?_
        refine lv_istore (lv' := [(6, .int 0), (5, .int v1), (4, .int i1), (0, .ref (ad 70)), (1, .ref (ad 43)), (2, .ref (ad 1)), (3, .ref (ad 8))]) hx hb dX2_read_87 hl (by decide) rfl (fun ls hl => ?_)
        refine lv_iload hx hb dX2_read_89 (lv_at hl 0 rfl) ?_
        refine lv_if_ne (tgt := 102) hx hb dX2_read_91 (by decide) (fun c3 => ?_) (fun c3 => ?_)
        · exact absurd (by decide) c3
        · refine lv_aload_n hx hb dX2_read_94 rfl (lv_at hl 3 rfl) ?_
          refine lv_iload hx hb dX2_read_95 (lv_at hl 1 rfl) ?_
          refine lv_iload hx hb dX2_read_97 (lv_at hl 2 rfl) ?_
          refine g_kv hK hD hS hA (va_runV (As := [.int v1, .int i1]) (rest := []) ⟨hx, hb, hml, hown, hts⟩ (kX2_open l D ad cI g4 H.size v1 i1) (cwV 2 hts gX2_read_X2_open rfl rfl rfl (by decide +kernel) ⟨Nat.le_of_ble_eq_true rfl, Nat.le_of_ble_eq_true rfl⟩) (g_preV hK hP hD (ci := 2) (q0 := 70) rfl rfl) rfl rfl hl.1 rfl (lv_room (Nat.le_of_ble_eq_true rfl)) dX2_read_99 ⟨Nat.le_of_ble_eq_true rfl, Nat.le_of_ble_eq_true rfl⟩) (fun H locs hP hD hS => ?_)
          obtain ⟨g5, hg5⟩ : ∃ z : tG, z = fX2_open_w g4 v1 i1 := ⟨_, rfl⟩
          rw [← hg5] at hP hD
          refine lv_aload_n hx hb dX2_read_102 rfl (lv_at hl 3 rfl) ?_
          refine va_get (D := D) (ci := 2) (v := .ref (ad 77)) (C := RX2) (T := TX2) (N := 10) hx hb hts winX2 hown hK hP 70 rfl rfl 3 (by decide) (hts (.fieldLink RX2 26 "TapCap$Journeys" "indexOfLeg" "LTapCap$Row;") (List.mem_of_getElem? (i := 6) rfl)) (fun _ h9 => h9) rfl dX2_read_103 ?_
          refine lv_iload hx hb dX2_read_106 (lv_at hl 2 rfl) ?_
          refine lv_aload_n hx hb dX2_read_108 rfl (lv_at hl 3 rfl) ?_
          refine va_get (D := D) (ci := 2) (v := .ref (ad 81)) (C := RX2) (T := TX2) (N := 10) hx hb hts winX2 hown hK hP 70 rfl rfl 5 (by decide) (hts (.fieldLink RX2 32 "TapCap$Journeys" "countOn" "LTapCap$Row;") (List.mem_of_getElem? (i := 3) rfl)) (fun _ h9 => h9) rfl dX2_read_109 ?_
          refine lv_iload hx hb dX2_read_112 (lv_at hl 1 rfl) ?_
          refine g_ki hK hD hS hA (va_runV (As := [.int v1]) (rest := [.int i1, .ref (ad 77)]) ⟨hx, hb, hml, hown, hts⟩ (k_tc_at l D ad cI g5 H.size 37 (by decide) v1) (cwV 1 hts gX2_read_X5_at rfl rfl rfl (by decide +kernel) ⟨Nat.le_of_ble_eq_true rfl, Nat.le_of_ble_eq_true rfl⟩) (g_preV hK hP hD (ci := 5) (q0 := 81) rfl rfl) rfl rfl hl.1 rfl (lv_room (Nat.le_of_ble_eq_true rfl)) dX2_read_114 ⟨Nat.le_of_ble_eq_true rfl, Nat.le_of_ble_eq_true rfl⟩) (fun H locs hP hD hS => ?_)
          refine lv_iconst (v := 1) hx hb dX2_read_117 (by decide) ?_
          refine lv_isub hx hb dX2_read_118 ?_
          refine g_kv hK hD hS hA (va_runV (As := [.int i1, .int ((gA g5 37 v1) - 1)]) (rest := []) ⟨hx, hb, hml, hown, hts⟩ (k_tc_put l D ad cI g5 H.size 35 (by decide) i1 ((gA g5 37 v1) - 1)) (cwV 2 hts gX2_read_X5_put rfl rfl rfl (by decide +kernel) ⟨Nat.le_of_ble_eq_true rfl, Nat.le_of_ble_eq_true rfl⟩) (g_preV hK hP hD (ci := 5) (q0 := 77) rfl rfl) rfl rfl hl.1 rfl (lv_room (Nat.le_of_ble_eq_true rfl)) dX2_read_119 ⟨Nat.le_of_ble_eq_true rfl, Nat.le_of_ble_eq_true rfl⟩) (fun H locs hP hD hS => ?_)
          obtain ⟨g6, hg6⟩ : ∃ z : tG, z = gP g5 35 i1 ((gA g5 37 v1) - 1) := ⟨_, rfl⟩
          rw [← hg6] at hP hD
          refine lv_aload_n hx hb dX2_read_122 rfl (lv_at hl 3 rfl) ?_
          refine va_get (D := D) (ci := 2) (v := .ref (ad 71)) (C := RX2) (T := TX2) (N := 10) hx hb hts winX2 hown hK hP 70 rfl rfl 0 (by decide) (hts (.fieldLink RX2 14 "TapCap$Journeys" "legCount" "LTapCap$Row;") (List.mem_of_getElem? (i := 7) rfl)) (fun _ h9 => h9) rfl dX2_read_123 ?_
          refine lv_aload_n hx hb dX2_read_126 rfl (lv_at hl 3 rfl) ?_
          refine va_get (D := D) (ci := 2) (v := .int (g6 45 9)) (C := RX2) (T := TX2) (N := 10) hx hb hts winX2 hown hK hP 70 rfl rfl 9 (by decide) (hts (.fieldLink RX2 44 "TapCap$Journeys" "count" "I") (List.mem_of_getElem? (i := 1) rfl)) (fun _ h9 => h9) rfl dX2_read_127 ?_
          refine lv_iconst (v := 1) hx hb dX2_read_130 (by decide) ?_
          refine lv_isub hx hb dX2_read_131 ?_
          refine lv_iconst (v := 1) hx hb dX2_read_132 (by decide) ?_
          refine g_kv hK hD hS hA (va_runV (As := [.int ((g6 45 9) - 1), .int 1]) (rest := []) ⟨hx, hb, hml, hown, hts⟩ (k_tc_add l D ad cI g6 H.size 32 (by decide) ((g6 45 9) - 1) 1) (cwV 2 hts gX2_read_X5_add rfl rfl rfl (by decide +kernel) ⟨Nat.le_of_ble_eq_true rfl, Nat.le_of_ble_eq_true rfl⟩) (g_preV hK hP hD (ci := 5) (q0 := 71) rfl rfl) rfl rfl hl.1 rfl (lv_room (Nat.le_of_ble_eq_true rfl)) dX2_read_133 ⟨Nat.le_of_ble_eq_true rfl, Nat.le_of_ble_eq_true rfl⟩) (fun H locs hP hD hS => ?_)
          obtain ⟨g7, hg7⟩ : ∃ z : tG, z = gD g6 32 ((g6 45 9) - 1) 1 := ⟨_, rfl⟩
          rw [← hg7] at hP hD
          refine lv_aload_n hx hb dX2_read_136 rfl (lv_at hl 3 rfl) ?_
          refine lv_aload_n hx hb dX2_read_137 rfl (lv_at hl 5 rfl) ?_
          refine va_get (D := D) (ci := 4) (v := .ref (ad 2)) (C := RX4) (T := TX4) (N := 3) hx hb hts winX4 hown hK hP 1 rfl rfl 0 (by decide) (hts (.fieldLink RX2 75 "TapCap$Region" "zoneOf" "LTapCap$Row;") (List.mem_of_getElem? (i := 8) rfl)) (fun _ h9 => h9) rfl dX2_read_138 ?_
          refine lv_aload_n hx hb dX2_read_141 rfl (lv_at hl 4 rfl) ?_
          refine va_get (D := D) (ci := 3) (v := .ref (ad 46)) (C := RX3) (T := TX3) (N := 15) hx hb hts winX3 hown hK hP 43 rfl rfl 1 (by decide) (hts (.fieldLink RX2 80 "TapCap$Legs" "from" "LTapCap$Row;") (List.mem_of_getElem? (i := 9) rfl)) (fun _ h9 => h9) rfl dX2_read_142 ?_
          refine lv_iload hx hb dX2_read_145 (lv_at hl 2 rfl) ?_
          refine g_ki hK hD hS hA (va_runV (As := [.int i1]) (rest := [.ref (ad 2), .ref (ad 70)]) ⟨hx, hb, hml, hown, hts⟩ (k_tc_at l D ad cI g7 H.size 20 (by decide) i1) (cwV 1 hts gX2_read_X5_at rfl rfl rfl (by decide +kernel) ⟨Nat.le_of_ble_eq_true rfl, Nat.le_of_ble_eq_true rfl⟩) (g_preV hK hP hD (ci := 5) (q0 := 46) rfl rfl) rfl rfl hl.1 rfl (lv_room (Nat.le_of_ble_eq_true rfl)) dX2_read_147 ⟨Nat.le_of_ble_eq_true rfl, Nat.le_of_ble_eq_true rfl⟩) (fun H locs hP hD hS => ?_)
          refine g_ki hK hD hS hA (va_runV (As := [.int (gA g7 20 i1)]) (rest := [.ref (ad 70)]) ⟨hx, hb, hml, hown, hts⟩ (k_tc_at l D ad cI g7 H.size 0 (by decide) (gA g7 20 i1)) (cwV 1 hts gX2_read_X5_at rfl rfl rfl (by decide +kernel) ⟨Nat.le_of_ble_eq_true rfl, Nat.le_of_ble_eq_true rfl⟩) (g_preV hK hP hD (ci := 5) (q0 := 2) rfl rfl) rfl rfl hl.1 rfl (lv_room (Nat.le_of_ble_eq_true rfl)) dX2_read_150 ⟨Nat.le_of_ble_eq_true rfl, Nat.le_of_ble_eq_true rfl⟩) (fun H locs hP hD hS => ?_)
          refine g_kv hK hD hS hA (va_runV (As := [.int (gA g7 0 (gA g7 20 i1))]) (rest := []) ⟨hx, hb, hml, hown, hts⟩ (kX2_touch l D ad cI g7 H.size (gA g7 0 (gA g7 20 i1))) (cwV 1 hts gX2_read_X2_touch rfl rfl rfl (by decide +kernel) ⟨Nat.le_of_ble_eq_true rfl, Nat.le_of_ble_eq_true rfl⟩) (g_preV hK hP hD (ci := 2) (q0 := 70) rfl rfl) rfl rfl hl.1 rfl (lv_room (Nat.le_of_ble_eq_true rfl)) dX2_read_153 ⟨Nat.le_of_ble_eq_true rfl, Nat.le_of_ble_eq_true rfl⟩) (fun H locs hP hD hS => ?_)
          obtain ⟨g8, hg8⟩ : ∃ z : tG, z = fX2_touch_w g7 (gA g7 0 (gA g7 20 i1)) := ⟨_, rfl⟩
          rw [← hg8] at hP hD
          refine lv_aload_n hx hb dX2_read_156 rfl (lv_at hl 3 rfl) ?_
          refine lv_aload_n hx hb dX2_read_157 rfl (lv_at hl 5 rfl) ?_
          refine va_get (D := D) (ci := 4) (v := .ref (ad 2)) (C := RX4) (T := TX4) (N := 3) hx hb hts winX4 hown hK hP 1 rfl rfl 0 (by decide) (hts (.fieldLink RX2 75 "TapCap$Region" "zoneOf" "LTapCap$Row;") (List.mem_of_getElem? (i := 8) rfl)) (fun _ h9 => h9) rfl dX2_read_158 ?_
          refine lv_aload_n hx hb dX2_read_161 rfl (lv_at hl 4 rfl) ?_
          refine va_get (D := D) (ci := 3) (v := .ref (ad 48)) (C := RX3) (T := TX3) (N := 15) hx hb hts winX3 hown hK hP 43 rfl rfl 2 (by decide) (hts (.fieldLink RX2 86 "TapCap$Legs" "to" "LTapCap$Row;") (List.mem_of_getElem? (i := 10) rfl)) (fun _ h9 => h9) rfl dX2_read_162 ?_
          refine lv_iload hx hb dX2_read_165 (lv_at hl 2 rfl) ?_
          refine g_ki hK hD hS hA (va_runV (As := [.int i1]) (rest := [.ref (ad 2), .ref (ad 70)]) ⟨hx, hb, hml, hown, hts⟩ (k_tc_at l D ad cI g8 H.size 21 (by decide) i1) (cwV 1 hts gX2_read_X5_at rfl rfl rfl (by decide +kernel) ⟨Nat.le_of_ble_eq_true rfl, Nat.le_of_ble_eq_true rfl⟩) (g_preV hK hP hD (ci := 5) (q0 := 48) rfl rfl) rfl rfl hl.1 rfl (lv_room (Nat.le_of_ble_eq_true rfl)) dX2_read_167 ⟨Nat.le_of_ble_eq_true rfl, Nat.le_of_ble_eq_true rfl⟩) (fun H locs hP hD hS => ?_)
          refine g_ki hK hD hS hA (va_runV (As := [.int (gA g8 21 i1)]) (rest := [.ref (ad 70)]) ⟨hx, hb, hml, hown, hts⟩ (k_tc_at l D ad cI g8 H.size 0 (by decide) (gA g8 21 i1)) (cwV 1 hts gX2_read_X5_at rfl rfl rfl (by decide +kernel) ⟨Nat.le_of_ble_eq_true rfl, Nat.le_of_ble_eq_true rfl⟩) (g_preV hK hP hD (ci := 5) (q0 := 2) rfl rfl) rfl rfl hl.1 rfl (lv_room (Nat.le_of_ble_eq_true rfl)) dX2_read_170 ⟨Nat.le_of_ble_eq_true rfl, Nat.le_of_ble_eq_true rfl⟩) (fun H locs hP hD hS => ?_)
          refine g_kv hK hD hS hA (va_runV (As := [.int (gA g8 0 (gA g8 21 i1))]) (rest := []) ⟨hx, hb, hml, hown, hts⟩ (kX2_touch l D ad cI g8 H.size (gA g8 0 (gA g8 21 i1))) (cwV 1 hts gX2_read_X2_touch rfl rfl rfl (by decide +kernel) ⟨Nat.le_of_ble_eq_true rfl, Nat.le_of_ble_eq_true rfl⟩) (g_preV hK hP hD (ci := 2) (q0 := 70) rfl rfl) rfl rfl hl.1 rfl (lv_room (Nat.le_of_ble_eq_true rfl)) dX2_read_173 ⟨Nat.le_of_ble_eq_true rfl, Nat.le_of_ble_eq_true rfl⟩) (fun H locs hP hD hS => ?_)
          obtain ⟨g9, hg9⟩ : ∃ z : tG, z = fX2_touch_w g8 (gA g8 0 (gA g8 21 i1)) := ⟨_, rfl⟩
          rw [← hg9] at hP hD
          refine lv_iinc (v := i1 + 1) (lv' := [(4, .int (i1 + 1)), (6, .int 0), (5, .int v1), (0, .ref (ad 70)), (1, .ref (ad 43)), (2, .ref (ad 1)), (3, .ref (ad 8))]) hx hb dX2_read_176 hl (k := 2) rfl rfl (by decide) rfl (fun ls hl => ?_)
          refine lv_goto (tgt := 24) hx hb dX2_read_179 (by decide) ?_
          have hs := eX2_read_24_2 i1 g4 c1 hv1 c2 hg5 hg6 hg7 hg8 hg9
          obtain ⟨n9, hn9, hE9, hr9⟩ := lpE_next hE hs
          exact ih n9 (by omega) (i1 + 1) g9 hE9 H locs hP hD hS ls (lv_sub hl [0, 3, 4, 5, 6] rfl) (fun r hr => kk r (hr.trans hr9.symm))
      · refine lv_aload_n hx hb dX2_read_56 rfl (lv_at hl 3 rfl) ?_
        refine va_get (D := D) (ci := 3) (v := .ref (ad 50)) (C := RX3) (T := TX3) (N := 15) hx hb hts winX3 hown hK hP 43 rfl rfl 3 (by decide) (hts (.fieldLink RX2 59 "TapCap$Legs" "begin" "LTapCap$Row;") (List.mem_of_getElem? (i := 11) rfl)) (fun _ h9 => h9) rfl dX2_read_57 ?_
        refine lv_iload hx hb dX2_read_60 (lv_at hl 1 rfl) ?_
        refine g_ki hK hD hS hA (va_runV (As := [.int i1]) (rest := []) ⟨hx, hb, hml, hown, hts⟩ (k_tc_at l D ad cI g4 H.size 22 (by decide) i1) (cwV 1 hts gX2_read_X5_at rfl rfl rfl (by decide +kernel) ⟨Nat.le_of_ble_eq_true rfl, Nat.le_of_ble_eq_true rfl⟩) (g_preV hK hP hD (ci := 5) (q0 := 50) rfl rfl) rfl rfl hl.1 rfl (lv_room (Nat.le_of_ble_eq_true rfl)) dX2_read_62 ⟨Nat.le_of_ble_eq_true rfl, Nat.le_of_ble_eq_true rfl⟩) (fun H locs hP hD hS => ?_)
        refine lv_aload_n hx hb dX2_read_65 rfl (lv_at hl 3 rfl) ?_
        refine va_get (D := D) (ci := 3) (v := .ref (ad 52)) (C := RX3) (T := TX3) (N := 15) hx hb hts winX3 hown hK hP 43 rfl rfl 4 (by decide) (hts (.fieldLink RX2 62 "TapCap$Legs" "end" "LTapCap$Row;") (List.mem_of_getElem? (i := 12) rfl)) (fun _ h9 => h9) rfl dX2_read_66 ?_
        refine lv_iload hx hb dX2_read_69 (lv_at hl 1 rfl) ?_
        refine lv_iconst (v := 1) hx hb dX2_read_71 (by decide) ?_
        refine lv_isub hx hb dX2_read_72 ?_
        refine g_ki hK hD hS hA (va_runV (As := [.int (i1 - 1)]) (rest := [.int (gA g4 22 i1)]) ⟨hx, hb, hml, hown, hts⟩ (k_tc_at l D ad cI g4 H.size 23 (by decide) (i1 - 1)) (cwV 1 hts gX2_read_X5_at rfl rfl rfl (by decide +kernel) ⟨Nat.le_of_ble_eq_true rfl, Nat.le_of_ble_eq_true rfl⟩) (g_preV hK hP hD (ci := 5) (q0 := 52) rfl rfl) rfl rfl hl.1 rfl (lv_room (Nat.le_of_ble_eq_true rfl)) dX2_read_73 ⟨Nat.le_of_ble_eq_true rfl, Nat.le_of_ble_eq_true rfl⟩) (fun H locs hP hD hS => ?_)
        refine lv_isub hx hb dX2_read_76 ?_
        refine lv_bipush (v := 20) hx hb dX2_read_77 (by decide) ?_
        refine lv_icmp_gt (tgt := 86) hx hb dX2_read_79 (by decide) (fun c4 => ?_) (fun c4 => ?_)
        · refine lv_iconst (v := 0) hx hb dX2_read_86 (by decide) ?_
          refine lv_istore (lv' := [(6, .int 0), (5, .int v1), (4, .int i1), (0, .ref (ad 70)), (1, .ref (ad 43)), (2, .ref (ad 1)), (3, .ref (ad 8))]) hx hb dX2_read_87 hl (by decide) rfl (fun ls hl => ?_)
          refine lv_iload hx hb dX2_read_89 (lv_at hl 0 rfl) ?_
          refine lv_if_ne (tgt := 102) hx hb dX2_read_91 (by decide) (fun c5 => ?_) (fun c5 => ?_)
          · exact absurd (by decide) c5
          · refine lv_aload_n hx hb dX2_read_94 rfl (lv_at hl 3 rfl) ?_
            refine lv_iload hx hb dX2_read_95 (lv_at hl 1 rfl) ?_
            refine lv_iload hx hb dX2_read_97 (lv_at hl 2 rfl) ?_
            refine g_kv hK hD hS hA (va_runV (As := [.int v1, .int i1]) (rest := []) ⟨hx, hb, hml, hown, hts⟩ (kX2_open l D ad cI g4 H.size v1 i1) (cwV 2 hts gX2_read_X2_open rfl rfl rfl (by decide +kernel) ⟨Nat.le_of_ble_eq_true rfl, Nat.le_of_ble_eq_true rfl⟩) (g_preV hK hP hD (ci := 2) (q0 := 70) rfl rfl) rfl rfl hl.1 rfl (lv_room (Nat.le_of_ble_eq_true rfl)) dX2_read_99 ⟨Nat.le_of_ble_eq_true rfl, Nat.le_of_ble_eq_true rfl⟩) (fun H locs hP hD hS => ?_)
            obtain ⟨g10, hg10⟩ : ∃ z : tG, z = fX2_open_w g4 v1 i1 := ⟨_, rfl⟩
            rw [← hg10] at hP hD
            refine lv_aload_n hx hb dX2_read_102 rfl (lv_at hl 3 rfl) ?_
            refine va_get (D := D) (ci := 2) (v := .ref (ad 77)) (C := RX2) (T := TX2) (N := 10) hx hb hts winX2 hown hK hP 70 rfl rfl 3 (by decide) (hts (.fieldLink RX2 26 "TapCap$Journeys" "indexOfLeg" "LTapCap$Row;") (List.mem_of_getElem? (i := 6) rfl)) (fun _ h9 => h9) rfl dX2_read_103 ?_
            refine lv_iload hx hb dX2_read_106 (lv_at hl 2 rfl) ?_
            refine lv_aload_n hx hb dX2_read_108 rfl (lv_at hl 3 rfl) ?_
            refine va_get (D := D) (ci := 2) (v := .ref (ad 81)) (C := RX2) (T := TX2) (N := 10) hx hb hts winX2 hown hK hP 70 rfl rfl 5 (by decide) (hts (.fieldLink RX2 32 "TapCap$Journeys" "countOn" "LTapCap$Row;") (List.mem_of_getElem? (i := 3) rfl)) (fun _ h9 => h9) rfl dX2_read_109 ?_
            refine lv_iload hx hb dX2_read_112 (lv_at hl 1 rfl) ?_
            refine g_ki hK hD hS hA (va_runV (As := [.int v1]) (rest := [.int i1, .ref (ad 77)]) ⟨hx, hb, hml, hown, hts⟩ (k_tc_at l D ad cI g10 H.size 37 (by decide) v1) (cwV 1 hts gX2_read_X5_at rfl rfl rfl (by decide +kernel) ⟨Nat.le_of_ble_eq_true rfl, Nat.le_of_ble_eq_true rfl⟩) (g_preV hK hP hD (ci := 5) (q0 := 81) rfl rfl) rfl rfl hl.1 rfl (lv_room (Nat.le_of_ble_eq_true rfl)) dX2_read_114 ⟨Nat.le_of_ble_eq_true rfl, Nat.le_of_ble_eq_true rfl⟩) (fun H locs hP hD hS => ?_)
            refine lv_iconst (v := 1) hx hb dX2_read_117 (by decide) ?_
            refine lv_isub hx hb dX2_read_118 ?_
            refine g_kv hK hD hS hA (va_runV (As := [.int i1, .int ((gA g10 37 v1) - 1)]) (rest := []) ⟨hx, hb, hml, hown, hts⟩ (k_tc_put l D ad cI g10 H.size 35 (by decide) i1 ((gA g10 37 v1) - 1)) (cwV 2 hts gX2_read_X5_put rfl rfl rfl (by decide +kernel) ⟨Nat.le_of_ble_eq_true rfl, Nat.le_of_ble_eq_true rfl⟩) (g_preV hK hP hD (ci := 5) (q0 := 77) rfl rfl) rfl rfl hl.1 rfl (lv_room (Nat.le_of_ble_eq_true rfl)) dX2_read_119 ⟨Nat.le_of_ble_eq_true rfl, Nat.le_of_ble_eq_true rfl⟩) (fun H locs hP hD hS => ?_)
            obtain ⟨g11, hg11⟩ : ∃ z : tG, z = gP g10 35 i1 ((gA g10 37 v1) - 1) := ⟨_, rfl⟩
            rw [← hg11] at hP hD
            refine lv_aload_n hx hb dX2_read_122 rfl (lv_at hl 3 rfl) ?_
            refine va_get (D := D) (ci := 2) (v := .ref (ad 71)) (C := RX2) (T := TX2) (N := 10) hx hb hts winX2 hown hK hP 70 rfl rfl 0 (by decide) (hts (.fieldLink RX2 14 "TapCap$Journeys" "legCount" "LTapCap$Row;") (List.mem_of_getElem? (i := 7) rfl)) (fun _ h9 => h9) rfl dX2_read_123 ?_
            refine lv_aload_n hx hb dX2_read_126 rfl (lv_at hl 3 rfl) ?_
            refine va_get (D := D) (ci := 2) (v := .int (g11 45 9)) (C := RX2) (T := TX2) (N := 10) hx hb hts winX2 hown hK hP 70 rfl rfl 9 (by decide) (hts (.fieldLink RX2 44 "TapCap$Journeys" "count" "I") (List.mem_of_getElem? (i := 1) rfl)) (fun _ h9 => h9) rfl dX2_read_127 ?_
            refine lv_iconst (v := 1) hx hb dX2_read_130 (by decide) ?_
            refine lv_isub hx hb dX2_read_131 ?_
            refine lv_iconst (v := 1) hx hb dX2_read_132 (by decide) ?_
            refine g_kv hK hD hS hA (va_runV (As := [.int ((g11 45 9) - 1), .int 1]) (rest := []) ⟨hx, hb, hml, hown, hts⟩ (k_tc_add l D ad cI g11 H.size 32 (by decide) ((g11 45 9) - 1) 1) (cwV 2 hts gX2_read_X5_add rfl rfl rfl (by decide +kernel) ⟨Nat.le_of_ble_eq_true rfl, Nat.le_of_ble_eq_true rfl⟩) (g_preV hK hP hD (ci := 5) (q0 := 71) rfl rfl) rfl rfl hl.1 rfl (lv_room (Nat.le_of_ble_eq_true rfl)) dX2_read_133 ⟨Nat.le_of_ble_eq_true rfl, Nat.le_of_ble_eq_true rfl⟩) (fun H locs hP hD hS => ?_)
            obtain ⟨g12, hg12⟩ : ∃ z : tG, z = gD g11 32 ((g11 45 9) - 1) 1 := ⟨_, rfl⟩
            rw [← hg12] at hP hD
            refine lv_aload_n hx hb dX2_read_136 rfl (lv_at hl 3 rfl) ?_
            refine lv_aload_n hx hb dX2_read_137 rfl (lv_at hl 5 rfl) ?_
            refine va_get (D := D) (ci := 4) (v := .ref (ad 2)) (C := RX4) (T := TX4) (N := 3) hx hb hts winX4 hown hK hP 1 rfl rfl 0 (by decide) (hts (.fieldLink RX2 75 "TapCap$Region" "zoneOf" "LTapCap$Row;") (List.mem_of_getElem? (i := 8) rfl)) (fun _ h9 => h9) rfl dX2_read_138 ?_
            refine lv_aload_n hx hb dX2_read_141 rfl (lv_at hl 4 rfl) ?_
            refine va_get (D := D) (ci := 3) (v := .ref (ad 46)) (C := RX3) (T := TX3) (N := 15) hx hb hts winX3 hown hK hP 43 rfl rfl 1 (by decide) (hts (.fieldLink RX2 80 "TapCap$Legs" "from" "LTapCap$Row;") (List.mem_of_getElem? (i := 9) rfl)) (fun _ h9 => h9) rfl dX2_read_142 ?_
            refine lv_iload hx hb dX2_read_145 (lv_at hl 2 rfl) ?_
            refine g_ki hK hD hS hA (va_runV (As := [.int i1]) (rest := [.ref (ad 2), .ref (ad 70)]) ⟨hx, hb, hml, hown, hts⟩ (k_tc_at l D ad cI g12 H.size 20 (by decide) i1) (cwV 1 hts gX2_read_X5_at rfl rfl rfl (by decide +kernel) ⟨Nat.le_of_ble_eq_true rfl, Nat.le_of_ble_eq_true rfl⟩) (g_preV hK hP hD (ci := 5) (q0 := 46) rfl rfl) rfl rfl hl.1 rfl (lv_room (Nat.le_of_ble_eq_true rfl)) dX2_read_147 ⟨Nat.le_of_ble_eq_true rfl, Nat.le_of_ble_eq_true rfl⟩) (fun H locs hP hD hS => ?_)
            refine g_ki hK hD hS hA (va_runV (As := [.int (gA g12 20 i1)]) (rest := [.ref (ad 70)]) ⟨hx, hb, hml, hown, hts⟩ (k_tc_at l D ad cI g12 H.size 0 (by decide) (gA g12 20 i1)) (cwV 1 hts gX2_read_X5_at rfl rfl rfl (by decide +kernel) ⟨Nat.le_of_ble_eq_true rfl, Nat.le_of_ble_eq_true rfl⟩) (g_preV hK hP hD (ci := 5) (q0 := 2) rfl rfl) rfl rfl hl.1 rfl (lv_room (Nat.le_of_ble_eq_true rfl)) dX2_read_150 ⟨Nat.le_of_ble_eq_true rfl, Nat.le_of_ble_eq_true rfl⟩) (fun H locs hP hD hS => ?_)
            refine g_kv hK hD hS hA (va_runV (As := [.int (gA g12 0 (gA g12 20 i1))]) (rest := []) ⟨hx, hb, hml, hown, hts⟩ (kX2_touch l D ad cI g12 H.size (gA g12 0 (gA g12 20 i1))) (cwV 1 hts gX2_read_X2_touch rfl rfl rfl (by decide +kernel) ⟨Nat.le_of_ble_eq_true rfl, Nat.le_of_ble_eq_true rfl⟩) (g_preV hK hP hD (ci := 2) (q0 := 70) rfl rfl) rfl rfl hl.1 rfl (lv_room (Nat.le_of_ble_eq_true rfl)) dX2_read_153 ⟨Nat.le_of_ble_eq_true rfl, Nat.le_of_ble_eq_true rfl⟩) (fun H locs hP hD hS => ?_)
            obtain ⟨g13, hg13⟩ : ∃ z : tG, z = fX2_touch_w g12 (gA g12 0 (gA g12 20 i1)) := ⟨_, rfl⟩
            rw [← hg13] at hP hD
            refine lv_aload_n hx hb dX2_read_156 rfl (lv_at hl 3 rfl) ?_
            refine lv_aload_n hx hb dX2_read_157 rfl (lv_at hl 5 rfl) ?_
            refine va_get (D := D) (ci := 4) (v := .ref (ad 2)) (C := RX4) (T := TX4) (N := 3) hx hb hts winX4 hown hK hP 1 rfl rfl 0 (by decide) (hts (.fieldLink RX2 75 "TapCap$Region" "zoneOf" "LTapCap$Row;") (List.mem_of_getElem? (i := 8) rfl)) (fun _ h9 => h9) rfl dX2_read_158 ?_
            refine lv_aload_n hx hb dX2_read_161 rfl (lv_at hl 4 rfl) ?_
            refine va_get (D := D) (ci := 3) (v := .ref (ad 48)) (C := RX3) (T := TX3) (N := 15) hx hb hts winX3 hown hK hP 43 rfl rfl 2 (by decide) (hts (.fieldLink RX2 86 "TapCap$Legs" "to" "LTapCap$Row;") (List.mem_of_getElem? (i := 10) rfl)) (fun _ h9 => h9) rfl dX2_read_162 ?_
            refine lv_iload hx hb dX2_read_165 (lv_at hl 2 rfl) ?_
            refine g_ki hK hD hS hA (va_runV (As := [.int i1]) (rest := [.ref (ad 2), .ref (ad 70)]) ⟨hx, hb, hml, hown, hts⟩ (k_tc_at l D ad cI g13 H.size 21 (by decide) i1) (cwV 1 hts gX2_read_X5_at rfl rfl rfl (by decide +kernel) ⟨Nat.le_of_ble_eq_true rfl, Nat.le_of_ble_eq_true rfl⟩) (g_preV hK hP hD (ci := 5) (q0 := 48) rfl rfl) rfl rfl hl.1 rfl (lv_room (Nat.le_of_ble_eq_true rfl)) dX2_read_167 ⟨Nat.le_of_ble_eq_true rfl, Nat.le_of_ble_eq_true rfl⟩) (fun H locs hP hD hS => ?_)
            refine g_ki hK hD hS hA (va_runV (As := [.int (gA g13 21 i1)]) (rest := [.ref (ad 70)]) ⟨hx, hb, hml, hown, hts⟩ (k_tc_at l D ad cI g13 H.size 0 (by decide) (gA g13 21 i1)) (cwV 1 hts gX2_read_X5_at rfl rfl rfl (by decide +kernel) ⟨Nat.le_of_ble_eq_true rfl, Nat.le_of_ble_eq_true rfl⟩) (g_preV hK hP hD (ci := 5) (q0 := 2) rfl rfl) rfl rfl hl.1 rfl (lv_room (Nat.le_of_ble_eq_true rfl)) dX2_read_170 ⟨Nat.le_of_ble_eq_true rfl, Nat.le_of_ble_eq_true rfl⟩) (fun H locs hP hD hS => ?_)
            refine g_kv hK hD hS hA (va_runV (As := [.int (gA g13 0 (gA g13 21 i1))]) (rest := []) ⟨hx, hb, hml, hown, hts⟩ (kX2_touch l D ad cI g13 H.size (gA g13 0 (gA g13 21 i1))) (cwV 1 hts gX2_read_X2_touch rfl rfl rfl (by decide +kernel) ⟨Nat.le_of_ble_eq_true rfl, Nat.le_of_ble_eq_true rfl⟩) (g_preV hK hP hD (ci := 2) (q0 := 70) rfl rfl) rfl rfl hl.1 rfl (lv_room (Nat.le_of_ble_eq_true rfl)) dX2_read_173 ⟨Nat.le_of_ble_eq_true rfl, Nat.le_of_ble_eq_true rfl⟩) (fun H locs hP hD hS => ?_)
            obtain ⟨g14, hg14⟩ : ∃ z : tG, z = fX2_touch_w g13 (gA g13 0 (gA g13 21 i1)) := ⟨_, rfl⟩
            rw [← hg14] at hP hD
            refine lv_iinc (v := i1 + 1) (lv' := [(4, .int (i1 + 1)), (6, .int 0), (5, .int v1), (0, .ref (ad 70)), (1, .ref (ad 43)), (2, .ref (ad 1)), (3, .ref (ad 8))]) hx hb dX2_read_176 hl (k := 2) rfl rfl (by decide) rfl (fun ls hl => ?_)
            refine lv_goto (tgt := 24) hx hb dX2_read_179 (by decide) ?_
            have hs := eX2_read_24_3 i1 g4 c1 hv1 c2 c4 hg10 hg11 hg12 hg13 hg14
            obtain ⟨n9, hn9, hE9, hr9⟩ := lpE_next hE hs
            exact ih n9 (by omega) (i1 + 1) g14 hE9 H locs hP hD hS ls (lv_sub hl [0, 3, 4, 5, 6] rfl) (fun r hr => kk r (hr.trans hr9.symm))
        · refine lv_iconst (v := 1) hx hb dX2_read_82 (by decide) ?_
          refine lv_goto (tgt := 87) hx hb dX2_read_83 (by decide) ?_
          refine lv_istore (lv' := [(6, .int 1), (5, .int v1), (4, .int i1), (0, .ref (ad 70)), (1, .ref (ad 43)), (2, .ref (ad 1)), (3, .ref (ad 8))]) hx hb dX2_read_87 hl (by decide) rfl (fun ls hl => ?_)
          refine lv_iload hx hb dX2_read_89 (lv_at hl 0 rfl) ?_
          refine lv_if_ne (tgt := 102) hx hb dX2_read_91 (by decide) (fun c6 => ?_) (fun c6 => ?_)
          · refine lv_aload_n hx hb dX2_read_102 rfl (lv_at hl 3 rfl) ?_
            refine va_get (D := D) (ci := 2) (v := .ref (ad 77)) (C := RX2) (T := TX2) (N := 10) hx hb hts winX2 hown hK hP 70 rfl rfl 3 (by decide) (hts (.fieldLink RX2 26 "TapCap$Journeys" "indexOfLeg" "LTapCap$Row;") (List.mem_of_getElem? (i := 6) rfl)) (fun _ h9 => h9) rfl dX2_read_103 ?_
            refine lv_iload hx hb dX2_read_106 (lv_at hl 2 rfl) ?_
            refine lv_aload_n hx hb dX2_read_108 rfl (lv_at hl 3 rfl) ?_
            refine va_get (D := D) (ci := 2) (v := .ref (ad 81)) (C := RX2) (T := TX2) (N := 10) hx hb hts winX2 hown hK hP 70 rfl rfl 5 (by decide) (hts (.fieldLink RX2 32 "TapCap$Journeys" "countOn" "LTapCap$Row;") (List.mem_of_getElem? (i := 3) rfl)) (fun _ h9 => h9) rfl dX2_read_109 ?_
            refine lv_iload hx hb dX2_read_112 (lv_at hl 1 rfl) ?_
            refine g_ki hK hD hS hA (va_runV (As := [.int v1]) (rest := [.int i1, .ref (ad 77)]) ⟨hx, hb, hml, hown, hts⟩ (k_tc_at l D ad cI g4 H.size 37 (by decide) v1) (cwV 1 hts gX2_read_X5_at rfl rfl rfl (by decide +kernel) ⟨Nat.le_of_ble_eq_true rfl, Nat.le_of_ble_eq_true rfl⟩) (g_preV hK hP hD (ci := 5) (q0 := 81) rfl rfl) rfl rfl hl.1 rfl (lv_room (Nat.le_of_ble_eq_true rfl)) dX2_read_114 ⟨Nat.le_of_ble_eq_true rfl, Nat.le_of_ble_eq_true rfl⟩) (fun H locs hP hD hS => ?_)
            refine lv_iconst (v := 1) hx hb dX2_read_117 (by decide) ?_
            refine lv_isub hx hb dX2_read_118 ?_
            refine g_kv hK hD hS hA (va_runV (As := [.int i1, .int ((gA g4 37 v1) - 1)]) (rest := []) ⟨hx, hb, hml, hown, hts⟩ (k_tc_put l D ad cI g4 H.size 35 (by decide) i1 ((gA g4 37 v1) - 1)) (cwV 2 hts gX2_read_X5_put rfl rfl rfl (by decide +kernel) ⟨Nat.le_of_ble_eq_true rfl, Nat.le_of_ble_eq_true rfl⟩) (g_preV hK hP hD (ci := 5) (q0 := 77) rfl rfl) rfl rfl hl.1 rfl (lv_room (Nat.le_of_ble_eq_true rfl)) dX2_read_119 ⟨Nat.le_of_ble_eq_true rfl, Nat.le_of_ble_eq_true rfl⟩) (fun H locs hP hD hS => ?_)
            obtain ⟨g15, hg15⟩ : ∃ z : tG, z = gP g4 35 i1 ((gA g4 37 v1) - 1) := ⟨_, rfl⟩
            rw [← hg15] at hP hD
            refine lv_aload_n hx hb dX2_read_122 rfl (lv_at hl 3 rfl) ?_
            refine va_get (D := D) (ci := 2) (v := .ref (ad 71)) (C := RX2) (T := TX2) (N := 10) hx hb hts winX2 hown hK hP 70 rfl rfl 0 (by decide) (hts (.fieldLink RX2 14 "TapCap$Journeys" "legCount" "LTapCap$Row;") (List.mem_of_getElem? (i := 7) rfl)) (fun _ h9 => h9) rfl dX2_read_123 ?_
            refine lv_aload_n hx hb dX2_read_126 rfl (lv_at hl 3 rfl) ?_
            refine va_get (D := D) (ci := 2) (v := .int (g15 45 9)) (C := RX2) (T := TX2) (N := 10) hx hb hts winX2 hown hK hP 70 rfl rfl 9 (by decide) (hts (.fieldLink RX2 44 "TapCap$Journeys" "count" "I") (List.mem_of_getElem? (i := 1) rfl)) (fun _ h9 => h9) rfl dX2_read_127 ?_
            refine lv_iconst (v := 1) hx hb dX2_read_130 (by decide) ?_
            refine lv_isub hx hb dX2_read_131 ?_
            refine lv_iconst (v := 1) hx hb dX2_read_132 (by decide) ?_
            refine g_kv hK hD hS hA (va_runV (As := [.int ((g15 45 9) - 1), .int 1]) (rest := []) ⟨hx, hb, hml, hown, hts⟩ (k_tc_add l D ad cI g15 H.size 32 (by decide) ((g15 45 9) - 1) 1) (cwV 2 hts gX2_read_X5_add rfl rfl rfl (by decide +kernel) ⟨Nat.le_of_ble_eq_true rfl, Nat.le_of_ble_eq_true rfl⟩) (g_preV hK hP hD (ci := 5) (q0 := 71) rfl rfl) rfl rfl hl.1 rfl (lv_room (Nat.le_of_ble_eq_true rfl)) dX2_read_133 ⟨Nat.le_of_ble_eq_true rfl, Nat.le_of_ble_eq_true rfl⟩) (fun H locs hP hD hS => ?_)
            obtain ⟨g16, hg16⟩ : ∃ z : tG, z = gD g15 32 ((g15 45 9) - 1) 1 := ⟨_, rfl⟩
            rw [← hg16] at hP hD
            refine lv_aload_n hx hb dX2_read_136 rfl (lv_at hl 3 rfl) ?_
            refine lv_aload_n hx hb dX2_read_137 rfl (lv_at hl 5 rfl) ?_
            refine va_get (D := D) (ci := 4) (v := .ref (ad 2)) (C := RX4) (T := TX4) (N := 3) hx hb hts winX4 hown hK hP 1 rfl rfl 0 (by decide) (hts (.fieldLink RX2 75 "TapCap$Region" "zoneOf" "LTapCap$Row;") (List.mem_of_getElem? (i := 8) rfl)) (fun _ h9 => h9) rfl dX2_read_138 ?_
            refine lv_aload_n hx hb dX2_read_141 rfl (lv_at hl 4 rfl) ?_
            refine va_get (D := D) (ci := 3) (v := .ref (ad 46)) (C := RX3) (T := TX3) (N := 15) hx hb hts winX3 hown hK hP 43 rfl rfl 1 (by decide) (hts (.fieldLink RX2 80 "TapCap$Legs" "from" "LTapCap$Row;") (List.mem_of_getElem? (i := 9) rfl)) (fun _ h9 => h9) rfl dX2_read_142 ?_
            refine lv_iload hx hb dX2_read_145 (lv_at hl 2 rfl) ?_
            refine g_ki hK hD hS hA (va_runV (As := [.int i1]) (rest := [.ref (ad 2), .ref (ad 70)]) ⟨hx, hb, hml, hown, hts⟩ (k_tc_at l D ad cI g16 H.size 20 (by decide) i1) (cwV 1 hts gX2_read_X5_at rfl rfl rfl (by decide +kernel) ⟨Nat.le_of_ble_eq_true rfl, Nat.le_of_ble_eq_true rfl⟩) (g_preV hK hP hD (ci := 5) (q0 := 46) rfl rfl) rfl rfl hl.1 rfl (lv_room (Nat.le_of_ble_eq_true rfl)) dX2_read_147 ⟨Nat.le_of_ble_eq_true rfl, Nat.le_of_ble_eq_true rfl⟩) (fun H locs hP hD hS => ?_)
            refine g_ki hK hD hS hA (va_runV (As := [.int (gA g16 20 i1)]) (rest := [.ref (ad 70)]) ⟨hx, hb, hml, hown, hts⟩ (k_tc_at l D ad cI g16 H.size 0 (by decide) (gA g16 20 i1)) (cwV 1 hts gX2_read_X5_at rfl rfl rfl (by decide +kernel) ⟨Nat.le_of_ble_eq_true rfl, Nat.le_of_ble_eq_true rfl⟩) (g_preV hK hP hD (ci := 5) (q0 := 2) rfl rfl) rfl rfl hl.1 rfl (lv_room (Nat.le_of_ble_eq_true rfl)) dX2_read_150 ⟨Nat.le_of_ble_eq_true rfl, Nat.le_of_ble_eq_true rfl⟩) (fun H locs hP hD hS => ?_)
            refine g_kv hK hD hS hA (va_runV (As := [.int (gA g16 0 (gA g16 20 i1))]) (rest := []) ⟨hx, hb, hml, hown, hts⟩ (kX2_touch l D ad cI g16 H.size (gA g16 0 (gA g16 20 i1))) (cwV 1 hts gX2_read_X2_touch rfl rfl rfl (by decide +kernel) ⟨Nat.le_of_ble_eq_true rfl, Nat.le_of_ble_eq_true rfl⟩) (g_preV hK hP hD (ci := 2) (q0 := 70) rfl rfl) rfl rfl hl.1 rfl (lv_room (Nat.le_of_ble_eq_true rfl)) dX2_read_153 ⟨Nat.le_of_ble_eq_true rfl, Nat.le_of_ble_eq_true rfl⟩) (fun H locs hP hD hS => ?_)
            obtain ⟨g17, hg17⟩ : ∃ z : tG, z = fX2_touch_w g16 (gA g16 0 (gA g16 20 i1)) := ⟨_, rfl⟩
            rw [← hg17] at hP hD
            refine lv_aload_n hx hb dX2_read_156 rfl (lv_at hl 3 rfl) ?_
            refine lv_aload_n hx hb dX2_read_157 rfl (lv_at hl 5 rfl) ?_
            refine va_get (D := D) (ci := 4) (v := .ref (ad 2)) (C := RX4) (T := TX4) (N := 3) hx hb hts winX4 hown hK hP 1 rfl rfl 0 (by decide) (hts (.fieldLink RX2 75 "TapCap$Region" "zoneOf" "LTapCap$Row;") (List.mem_of_getElem? (i := 8) rfl)) (fun _ h9 => h9) rfl dX2_read_158 ?_
            refine lv_aload_n hx hb dX2_read_161 rfl (lv_at hl 4 rfl) ?_
            refine va_get (D := D) (ci := 3) (v := .ref (ad 48)) (C := RX3) (T := TX3) (N := 15) hx hb hts winX3 hown hK hP 43 rfl rfl 2 (by decide) (hts (.fieldLink RX2 86 "TapCap$Legs" "to" "LTapCap$Row;") (List.mem_of_getElem? (i := 10) rfl)) (fun _ h9 => h9) rfl dX2_read_162 ?_
            refine lv_iload hx hb dX2_read_165 (lv_at hl 2 rfl) ?_
            refine g_ki hK hD hS hA (va_runV (As := [.int i1]) (rest := [.ref (ad 2), .ref (ad 70)]) ⟨hx, hb, hml, hown, hts⟩ (k_tc_at l D ad cI g17 H.size 21 (by decide) i1) (cwV 1 hts gX2_read_X5_at rfl rfl rfl (by decide +kernel) ⟨Nat.le_of_ble_eq_true rfl, Nat.le_of_ble_eq_true rfl⟩) (g_preV hK hP hD (ci := 5) (q0 := 48) rfl rfl) rfl rfl hl.1 rfl (lv_room (Nat.le_of_ble_eq_true rfl)) dX2_read_167 ⟨Nat.le_of_ble_eq_true rfl, Nat.le_of_ble_eq_true rfl⟩) (fun H locs hP hD hS => ?_)
            refine g_ki hK hD hS hA (va_runV (As := [.int (gA g17 21 i1)]) (rest := [.ref (ad 70)]) ⟨hx, hb, hml, hown, hts⟩ (k_tc_at l D ad cI g17 H.size 0 (by decide) (gA g17 21 i1)) (cwV 1 hts gX2_read_X5_at rfl rfl rfl (by decide +kernel) ⟨Nat.le_of_ble_eq_true rfl, Nat.le_of_ble_eq_true rfl⟩) (g_preV hK hP hD (ci := 5) (q0 := 2) rfl rfl) rfl rfl hl.1 rfl (lv_room (Nat.le_of_ble_eq_true rfl)) dX2_read_170 ⟨Nat.le_of_ble_eq_true rfl, Nat.le_of_ble_eq_true rfl⟩) (fun H locs hP hD hS => ?_)
            refine g_kv hK hD hS hA (va_runV (As := [.int (gA g17 0 (gA g17 21 i1))]) (rest := []) ⟨hx, hb, hml, hown, hts⟩ (kX2_touch l D ad cI g17 H.size (gA g17 0 (gA g17 21 i1))) (cwV 1 hts gX2_read_X2_touch rfl rfl rfl (by decide +kernel) ⟨Nat.le_of_ble_eq_true rfl, Nat.le_of_ble_eq_true rfl⟩) (g_preV hK hP hD (ci := 2) (q0 := 70) rfl rfl) rfl rfl hl.1 rfl (lv_room (Nat.le_of_ble_eq_true rfl)) dX2_read_173 ⟨Nat.le_of_ble_eq_true rfl, Nat.le_of_ble_eq_true rfl⟩) (fun H locs hP hD hS => ?_)
            obtain ⟨g18, hg18⟩ : ∃ z : tG, z = fX2_touch_w g17 (gA g17 0 (gA g17 21 i1)) := ⟨_, rfl⟩
            rw [← hg18] at hP hD
            refine lv_iinc (v := i1 + 1) (lv' := [(4, .int (i1 + 1)), (6, .int 1), (5, .int v1), (0, .ref (ad 70)), (1, .ref (ad 43)), (2, .ref (ad 1)), (3, .ref (ad 8))]) hx hb dX2_read_176 hl (k := 2) rfl rfl (by decide) rfl (fun ls hl => ?_)
            refine lv_goto (tgt := 24) hx hb dX2_read_179 (by decide) ?_
            have hs := eX2_read_24_4 i1 g4 c1 hv1 c2 c4 hg15 hg16 hg17 hg18
            obtain ⟨n9, hn9, hE9, hr9⟩ := lpE_next hE hs
            exact ih n9 (by omega) (i1 + 1) g18 hE9 H locs hP hD hS ls (lv_sub hl [0, 3, 4, 5, 6] rfl) (fun r hr => kk r (hr.trans hr9.symm))
          · exact absurd c6 (by decide)
  refine loop24 (nn ((g3 45 7))) 0 g3 (tX2_read_24 g3) _ _ hP hD hS ls hl (fun r1 hr1 H locs hP hD hS ls hl => ?_)
  have hl : lv_has ls 7 [(0, .ref (ad 70)), (3, .ref (ad 8))] := lv_sub hl [1, 4] rfl
  refine lv_iconst (v := 0) hx hb dX2_read_182 (by decide) ?_
  refine lv_istore (lv' := [(4, .int 0), (0, .ref (ad 70)), (3, .ref (ad 8))]) hx hb dX2_read_183 hl (by decide) rfl (fun ls hl => ?_)
  have loop185 : ∀ (n : Nat)  (i2 : Int32) (g19 : tG), lpE (sX2_read_185) n (i2, g19) → ∀ (H : Heap) (locs : List Loc), va_P D vwCl (tcW ad cI g19) H → va_D A (tcW ad cI g19) → va_S A s.heap H locs → ∀ (ls : Array Slot), lv_has ls 7 [(4, .int i2), (0, .ref (ad 70)), (3, .ref (ad 8))] → (∀ r : Int32 × tG, r = lp (sX2_read_185) n (i2, g19) → ∀ (H : Heap) (locs : List Loc), va_P D vwCl (tcW ad cI r.2) H → va_D A (tcW ad cI r.2) → va_S A s.heap H locs → ∀ (ls : Array Slot), lv_has ls 7 [(4, .int r.1), (0, .ref (ad 70)), (3, .ref (ad 8))] → W p l e (headSpec wsX2_read ({ frames := 2, cells := 0, slots := 0, locals := 44 } : Room)).room s m ([.ref (ad 70), .ref (ad 43), .ref (ad 1), .ref (ad 8)] : List Value).toArray below meth c9 H locs 0 0 (MQ below (g_Qv D [(cI, .int)] A (tcW ad cI (fX2_read_w g))) ([.ref (ad 70), .ref (ad 43), .ref (ad 1), .ref (ad 8)] : List Value).toArray s 0 0 A) (F0 m 236 ls [])) → W p l e (headSpec wsX2_read ({ frames := 2, cells := 0, slots := 0, locals := 44 } : Room)).room s m ([.ref (ad 70), .ref (ad 43), .ref (ad 1), .ref (ad 8)] : List Value).toArray below meth c9 H locs 0 0 (MQ below (g_Qv D [(cI, .int)] A (tcW ad cI (fX2_read_w g))) ([.ref (ad 70), .ref (ad 43), .ref (ad 1), .ref (ad 8)] : List Value).toArray s 0 0 A) (F0 m 185 ls []) := by
    refine lp_ind ?_
    intro n ih i2 g19 hE H locs hP hD hS ls hl kk
    refine lv_iload hx hb dX2_read_185 (lv_at hl 0 rfl) ?_
    refine lv_aload_n hx hb dX2_read_187 rfl (lv_at hl 1 rfl) ?_
    refine va_get (D := D) (ci := 2) (v := .int (g19 45 9)) (C := RX2) (T := TX2) (N := 10) hx hb hts winX2 hown hK hP 70 rfl rfl 9 (by decide) (hts (.fieldLink RX2 44 "TapCap$Journeys" "count" "I") (List.mem_of_getElem? (i := 1) rfl)) (fun _ h9 => h9) rfl dX2_read_188 ?_
    refine lv_icmp_ge (tgt := 236) hx hb dX2_read_191 (by decide) (fun c7 => ?_) (fun c7 => ?_)
    · have hs := eX2_read_185_1 i2 g19 c7
      exact kk _ (lp_none hs).symm H locs hP hD hS ls (lv_sub hl [0, 1, 2] rfl)
    · refine lv_aload_n hx hb dX2_read_194 rfl (lv_at hl 2 rfl) ?_
      refine lv_aload_n hx hb dX2_read_195 rfl (lv_at hl 1 rfl) ?_
      refine va_get (D := D) (ci := 2) (v := .ref (ad 83)) (C := RX2) (T := TX2) (N := 10) hx hb hts winX2 hown hK hP 70 rfl rfl 6 (by decide) (hts (.fieldLink RX2 35 "TapCap$Journeys" "dayOf" "LTapCap$Row;") (List.mem_of_getElem? (i := 13) rfl)) (fun _ h9 => h9) rfl dX2_read_196 ?_
      refine lv_iload hx hb dX2_read_199 (lv_at hl 0 rfl) ?_
      refine g_ki hK hD hS hA (va_runV (As := [.int i2]) (rest := [.ref (ad 8)]) ⟨hx, hb, hml, hown, hts⟩ (k_tc_at l D ad cI g19 H.size 38 (by decide) i2) (cwV 1 hts gX2_read_X5_at rfl rfl rfl (by decide +kernel) ⟨Nat.le_of_ble_eq_true rfl, Nat.le_of_ble_eq_true rfl⟩) (g_preV hK hP hD (ci := 5) (q0 := 83) rfl rfl) rfl rfl hl.1 rfl (lv_room (Nat.le_of_ble_eq_true rfl)) dX2_read_201 ⟨Nat.le_of_ble_eq_true rfl, Nat.le_of_ble_eq_true rfl⟩) (fun H locs hP hD hS => ?_)
      refine g_ki hK hD hS hA (va_runV (As := [.int (gA g19 38 i2)]) (rest := []) ⟨hx, hb, hml, hown, hts⟩ (kX7_indexFor l D ad cI g19 H.size (gA g19 38 i2)) (cwV 1 hts gX2_read_X7_indexFor rfl rfl rfl (by decide +kernel) ⟨Nat.le_of_ble_eq_true rfl, Nat.le_of_ble_eq_true rfl⟩) (g_preV hK hP hD (ci := 7) (q0 := 8) rfl rfl) rfl rfl hl.1 rfl (lv_room (Nat.le_of_ble_eq_true rfl)) dX2_read_204 ⟨Nat.le_of_ble_eq_true rfl, Nat.le_of_ble_eq_true rfl⟩) (fun H locs hP hD hS => ?_)
      refine lv_topi (fun v2 hv2 => ?_)
      refine lv_istore (lv' := [(5, .int v2), (4, .int i2), (0, .ref (ad 70)), (3, .ref (ad 8))]) hx hb dX2_read_207 hl (by decide) rfl (fun ls hl => ?_)
      refine lv_aload_n hx hb dX2_read_209 rfl (lv_at hl 2 rfl) ?_
      refine va_get (D := D) (ci := 2) (v := .ref (ad 75)) (C := RX2) (T := TX2) (N := 10) hx hb hts winX2 hown hK hP 70 rfl rfl 2 (by decide) (hts (.fieldLink RX2 23 "TapCap$Journeys" "fare" "LTapCap$Row;") (List.mem_of_getElem? (i := 14) rfl)) (fun _ h9 => h9) rfl dX2_read_210 ?_
      refine lv_iload hx hb dX2_read_213 (lv_at hl 1 rfl) ?_
      refine lv_aload_n hx hb dX2_read_215 rfl (lv_at hl 3 rfl) ?_
      refine lv_iload hx hb dX2_read_216 (lv_at hl 0 rfl) ?_
      refine lv_aload_n hx hb dX2_read_218 rfl (lv_at hl 2 rfl) ?_
      refine lv_iload hx hb dX2_read_219 (lv_at hl 1 rfl) ?_
      refine g_ki hK hD hS hA (va_runV (As := [.int i2]) (rest := [.int v2, .ref (ad 8), .int i2, .ref (ad 75)]) ⟨hx, hb, hml, hown, hts⟩ (kX2_zonesTouched l D ad cI g19 H.size i2) (cwV 1 hts gX2_read_X2_zonesTouched rfl rfl rfl (by decide +kernel) ⟨Nat.le_of_ble_eq_true rfl, Nat.le_of_ble_eq_true rfl⟩) (g_preV hK hP hD (ci := 2) (q0 := 70) rfl rfl) rfl rfl hl.1 rfl (lv_room (Nat.le_of_ble_eq_true rfl)) dX2_read_221 ⟨Nat.le_of_ble_eq_true rfl, Nat.le_of_ble_eq_true rfl⟩) (fun H locs hP hD hS => ?_)
      refine g_ki hK hD hS hA (va_runV (As := [.int v2, .int (fX2_zonesTouched_r g19 i2)]) (rest := [.int i2, .ref (ad 75)]) ⟨hx, hb, hml, hown, hts⟩ (kX7_fare l D ad cI g19 H.size v2 (fX2_zonesTouched_r g19 i2)) (cwV 2 hts gX2_read_X7_fare rfl rfl rfl (by decide +kernel) ⟨Nat.le_of_ble_eq_true rfl, Nat.le_of_ble_eq_true rfl⟩) (g_preV hK hP hD (ci := 7) (q0 := 8) rfl rfl) rfl rfl hl.1 rfl (lv_room (Nat.le_of_ble_eq_true rfl)) dX2_read_224 ⟨Nat.le_of_ble_eq_true rfl, Nat.le_of_ble_eq_true rfl⟩) (fun H locs hP hD hS => ?_)
      refine g_kv hK hD hS hA (va_runV (As := [.int i2, .int (fX7_fare_r g19 v2 (fX2_zonesTouched_r g19 i2))]) (rest := []) ⟨hx, hb, hml, hown, hts⟩ (k_tc_put l D ad cI g19 H.size 34 (by decide) i2 (fX7_fare_r g19 v2 (fX2_zonesTouched_r g19 i2))) (cwV 2 hts gX2_read_X5_put rfl rfl rfl (by decide +kernel) ⟨Nat.le_of_ble_eq_true rfl, Nat.le_of_ble_eq_true rfl⟩) (g_preV hK hP hD (ci := 5) (q0 := 75) rfl rfl) rfl rfl hl.1 rfl (lv_room (Nat.le_of_ble_eq_true rfl)) dX2_read_227 ⟨Nat.le_of_ble_eq_true rfl, Nat.le_of_ble_eq_true rfl⟩) (fun H locs hP hD hS => ?_)
      obtain ⟨g20, hg20⟩ : ∃ z : tG, z = gP g19 34 i2 (fX7_fare_r g19 v2 (fX2_zonesTouched_r g19 i2)) := ⟨_, rfl⟩
      rw [← hg20] at hP hD
      refine lv_iinc (v := i2 + 1) (lv' := [(4, .int (i2 + 1)), (5, .int v2), (0, .ref (ad 70)), (3, .ref (ad 8))]) hx hb dX2_read_230 hl (k := 1) rfl rfl (by decide) rfl (fun ls hl => ?_)
      refine lv_goto (tgt := 185) hx hb dX2_read_233 (by decide) ?_
      have hs := eX2_read_185_2 i2 g19 c7 hv2 hg20
      obtain ⟨n9, hn9, hE9, hr9⟩ := lpE_next hE hs
      exact ih n9 (by omega) (i2 + 1) g20 hE9 H locs hP hD hS ls (lv_sub hl [0, 2, 3] rfl) (fun r hr => kk r (hr.trans hr9.symm))
  refine loop185 (nn ((r1.2 45 9))) 0 r1.2 (tX2_read_185 r1.2) _ _ hP hD hS ls hl (fun r2 hr2 H locs hP hD hS ls hl => ?_)
  have hl : lv_has ls 7 [] := lv_sub hl [] rfl
  have hw := eX2_read_w1 g hg1 hg2 hg3 hr1 hr2
  have hP := w_P9 hw hP
  have hD := w_D9 hw hD
  exact g_vret hx hb hr hlocks hK hP hD hS dX2_read_236
