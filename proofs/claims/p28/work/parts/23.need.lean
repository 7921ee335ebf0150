set_option maxHeartbeats 4000000 in
set_option maxRecDepth 100000 in
theorem kX8_needNumber (l : Launch) (D : va_G) (ad : Nat → Nat) (cI : ClassId) (g : tG) (sz : Nat) (x0 : Int32) (x1 : Int32) (h1 : in_N x0 x1) : Met l yX8_needNumber wsX8_needNumber ({ frames := 0, cells := 0, slots := 0, locals := 0 } : Room) (g_P D [(cI, .int)] (tcW ad cI g) [.int x0, .int x1] sz) (g_Qv D [(cI, .int)] (va_A (tcW ad cI g) sz) (tcW ad cI g)) 0 0 (va_A (tcW ad cI g) sz) := by
  refine Met.ofW (cc := cX8_needNumber) (maxL := 2) (ret := none) (by decide) rfl ?_
  intro p e s m args below meth c9 s₁ B hml hv
  obtain ⟨rfl, hsz, hP, hK, hD0⟩ := hv
  have hx := B.exec
  have hb := B.bytes
  have hr := B.returns
  have hts := atoms_spec (ws := wsX8_needNumber) B.pre
  have hown : s.vm.findClass RX8 = some m.cls := findClass_of_methodNamed B.named
  have hlocks := B.notSynchronized
  subst hsz
  have hD := hD0.self (sz := s.heap.size)
  generalize hAe : va_A (tcW ad cI g) s.heap.size = A at hD ⊢
  have hA : ∀ q : Nat, s.heap.size ≤ q → A q := fun q h => by rw [← hAe]; exact Or.inr h
  have hS : va_S A s.heap s.heap [] := va_S.rf
  have hl := lv_entry ([.int x0, .int x1]) (n := 2) (Nat.le_of_ble_eq_true rfl)
  rw [lg_entry_eq]
  generalize (lg_sl ([.int x0, .int x1]) ++ List.replicate (2 - (lg_sl ([.int x0, .int x1])).length) Slot.unset).toArray = ls at hl ⊢
  have hl : lv_has ls 2 [(0, .int x0), (1, .int x1)] := hl
  refine lv_iload_n hx hb dX8_needNumber_0 rfl (lv_at hl 0 rfl) ?_
  refine lv_if_lt (tgt := 9) hx hb dX8_needNumber_1 (by decide) (fun c1 => ?_) (fun c1 => ?_)
  · exact absurd c1 h1.1
  · refine lv_iload_n hx hb dX8_needNumber_4 rfl (lv_at hl 0 rfl) ?_
    refine lv_iload_n hx hb dX8_needNumber_5 rfl (lv_at hl 1 rfl) ?_
    refine lv_icmp_lt (tgt := 19) hx hb dX8_needNumber_6 (by decide) (fun c2 => ?_) (fun c2 => ?_)
    · exact g_vret hx hb hr hlocks hK hP hD hS dX8_needNumber_19
    · exact absurd h1.2 c2
set_option maxHeartbeats 4000000 in
set_option maxRecDepth 100000 in
theorem kX8_needRange (l : Launch) (D : va_G) (ad : Nat → Nat) (cI : ClassId) (g : tG) (sz : Nat) (x0 : Int32) (x1 : Int32) (x2 : Int32) (h1 : in_R x0 x1 x2) : Met l yX8_needRange wsX8_needRange ({ frames := 0, cells := 0, slots := 0, locals := 0 } : Room) (g_P D [(cI, .int)] (tcW ad cI g) [.int x0, .int x1, .int x2] sz) (g_Qv D [(cI, .int)] (va_A (tcW ad cI g) sz) (tcW ad cI g)) 0 0 (va_A (tcW ad cI g) sz) := by
  refine Met.ofW (cc := cX8_needRange) (maxL := 3) (ret := none) (by decide) rfl ?_
  intro p e s m args below meth c9 s₁ B hml hv
  obtain ⟨rfl, hsz, hP, hK, hD0⟩ := hv
  have hx := B.exec
  have hb := B.bytes
  have hr := B.returns
  have hts := atoms_spec (ws := wsX8_needRange) B.pre
  have hown : s.vm.findClass RX8 = some m.cls := findClass_of_methodNamed B.named
  have hlocks := B.notSynchronized
  subst hsz
  have hD := hD0.self (sz := s.heap.size)
  generalize hAe : va_A (tcW ad cI g) s.heap.size = A at hD ⊢
  have hA : ∀ q : Nat, s.heap.size ≤ q → A q := fun q h => by rw [← hAe]; exact Or.inr h
  have hS : va_S A s.heap s.heap [] := va_S.rf
  have hl := lv_entry ([.int x0, .int x1, .int x2]) (n := 3) (Nat.le_of_ble_eq_true rfl)
  rw [lg_entry_eq]
  generalize (lg_sl ([.int x0, .int x1, .int x2]) ++ List.replicate (3 - (lg_sl ([.int x0, .int x1, .int x2])).length) Slot.unset).toArray = ls at hl ⊢
  have hl : lv_has ls 3 [(0, .int x0), (1, .int x1), (2, .int x2)] := hl
  refine lv_iload_n hx hb dX8_needRange_0 rfl (lv_at hl 0 rfl) ?_
  refine lv_iload_n hx hb dX8_needRange_1 rfl (lv_at hl 1 rfl) ?_
  refine lv_icmp_lt (tgt := 10) hx hb dX8_needRange_2 (by decide) (fun c1 => ?_) (fun c1 => ?_)
  · exact absurd c1 h1.1
  · refine lv_iload_n hx hb dX8_needRange_5 rfl (lv_at hl 0 rfl) ?_
    refine lv_iload_n hx hb dX8_needRange_6 rfl (lv_at hl 2 rfl) ?_
    refine lv_icmp_le (tgt := 20) hx hb dX8_needRange_7 (by decide) (fun c2 => ?_) (fun c2 => ?_)
    · exact g_vret hx hb hr hlocks hK hP hD hS dX8_needRange_20
    · exact absurd h1.2 c2
set_option maxHeartbeats 4000000 in
set_option maxRecDepth 100000 in
theorem kX8_needCard (l : Launch) (D : va_G) (ad : Nat → Nat) (cI : ClassId) (g : tG) (sz : Nat) (x0 : Int32) (h1 : in_N x0 (g 45 3)) : Met l yX8_needCard wsX8_needCard ({ frames := 1, cells := 0, slots := 0, locals := 21 } : Room) (g_P D [(cI, .int)] (tcW ad cI g) [.ref (ad 0), .int x0] sz) (g_Qv D [(cI, .int)] (va_A (tcW ad cI g) sz) (tcW ad cI g)) 0 0 (va_A (tcW ad cI g) sz) := by
  refine Met.ofW (cc := cX8_needCard) (maxL := 2) (ret := none) (by decide) rfl ?_
  intro p e s m args below meth c9 s₁ B hml hv
  obtain ⟨rfl, hsz, hP, hK, hD0⟩ := hv
  have hx := B.exec
  have hb := B.bytes
  have hr := B.returns
  have hts := atoms_spec (ws := wsX8_needCard) B.pre
  have hown : s.vm.findClass RX8 = some m.cls := findClass_of_methodNamed B.named
  have hlocks := B.notSynchronized
  subst hsz
  have hD := hD0.self (sz := s.heap.size)
  generalize hAe : va_A (tcW ad cI g) s.heap.size = A at hD ⊢
  have hA : ∀ q : Nat, s.heap.size ≤ q → A q := fun q h => by rw [← hAe]; exact Or.inr h
  have hS : va_S A s.heap s.heap [] := va_S.rf
  have hl := lv_entry ([.ref (ad 0), .int x0]) (n := 2) (Nat.le_of_ble_eq_true rfl)
  rw [lg_entry_eq]
  generalize (lg_sl ([.ref (ad 0), .int x0]) ++ List.replicate (2 - (lg_sl ([.ref (ad 0), .int x0])).length) Slot.unset).toArray = ls at hl ⊢
  have hl : lv_has ls 2 [(0, .ref (ad 0)), (1, .int x0)] := hl
  have winX0 : ∀ w ∈ u_ws RX0 TX0 6, w ∈ wsX8_needCard := by decide +kernel
  have winX8 : ∀ w ∈ u_ws RX8 TX8 9, w ∈ wsX8_needCard := by decide +kernel
  refine lv_iload_n hx hb dX8_needCard_0 rfl (lv_at hl 1 rfl) ?_
  refine lv_aload_n hx hb dX8_needCard_1 rfl (lv_at hl 0 rfl) ?_
  refine va_get (D := D) (ci := 8) (v := .ref (ad 19)) (C := RX8) (T := TX8) (N := 9) hx hb hts winX8 hown hK hP 0 rfl rfl 2 (by decide) (hts (.fieldLink RX8 26 "TapCap" "cards" "LTapCap$Cards;") (List.mem_of_getElem? (i := 1) rfl)) (fun _ h9 => h9) rfl dX8_needCard_2 ?_
  refine va_get (D := D) (ci := 0) (v := .int (g 45 3)) (C := RX0) (T := TX0) (N := 6) hx hb hts winX0 hown hK hP 19 rfl rfl 5 (by decide) (hts (.fieldLink RX8 103 "TapCap$Cards" "count" "I") (List.mem_of_getElem? (i := 2) rfl)) (fun _ h9 => h9) rfl dX8_needCard_5 ?_
  refine g_kv hK hD hS hA (va_runS (As := [.int x0, .int (g 45 3)]) (rest := []) ⟨hx, hb, hml, hown, hts⟩ (kX8_needNumber l D ad cI g s.heap.size x0 (g 45 3) h1) (cwS 2 hts gX8_needCard_X8_needNumber rfl rfl rfl (by decide +kernel) ⟨Nat.le_of_ble_eq_true rfl, Nat.le_of_ble_eq_true rfl⟩) (g_preS hK hP hD) rfl rfl hl.1 rfl (lv_room (Nat.le_of_ble_eq_true rfl)) dX8_needCard_8 ⟨Nat.le_of_ble_eq_true rfl, Nat.le_of_ble_eq_true rfl⟩) (fun H locs hP hD hS => ?_)
  exact g_vret hx hb hr hlocks hK hP hD hS dX8_needCard_11
set_option maxHeartbeats 4000000 in
set_option maxRecDepth 100000 in
theorem kX8_needPerson (l : Launch) (D : va_G) (ad : Nat → Nat) (cI : ClassId) (g : tG) (sz : Nat) (x0 : Int32) (h1 : ¬ (fX0_isPerson_r g x0) = 0) : Met l yX8_needPerson wsX8_needPerson ({ frames := 2, cells := 0, slots := 0, locals := 42 } : Room) (g_P D [(cI, .int)] (tcW ad cI g) [.ref (ad 0), .int x0] sz) (g_Qv D [(cI, .int)] (va_A (tcW ad cI g) sz) (tcW ad cI g)) 0 0 (va_A (tcW ad cI g) sz) := by
  refine Met.ofW (cc := cX8_needPerson) (maxL := 2) (ret := none) (by decide) rfl ?_
  intro p e s m args below meth c9 s₁ B hml hv
  obtain ⟨rfl, hsz, hP, hK, hD0⟩ := hv
  have hx := B.exec
  have hb := B.bytes
  have hr := B.returns
  have hts := atoms_spec (ws := wsX8_needPerson) B.pre
  have hown : s.vm.findClass RX8 = some m.cls := findClass_of_methodNamed B.named
  have hlocks := B.notSynchronized
  subst hsz
  have hD := hD0.self (sz := s.heap.size)
  generalize hAe : va_A (tcW ad cI g) s.heap.size = A at hD ⊢
  have hA : ∀ q : Nat, s.heap.size ≤ q → A q := fun q h => by rw [← hAe]; exact Or.inr h
  have hS : va_S A s.heap s.heap [] := va_S.rf
  have hl := lv_entry ([.ref (ad 0), .int x0]) (n := 2) (Nat.le_of_ble_eq_true rfl)
  rw [lg_entry_eq]
  generalize (lg_sl ([.ref (ad 0), .int x0]) ++ List.replicate (2 - (lg_sl ([.ref (ad 0), .int x0])).length) Slot.unset).toArray = ls at hl ⊢
  have hl : lv_has ls 2 [(0, .ref (ad 0)), (1, .int x0)] := hl
  have winX8 : ∀ w ∈ u_ws RX8 TX8 9, w ∈ wsX8_needPerson := by decide +kernel
  refine lv_aload_n hx hb dX8_needPerson_0 rfl (lv_at hl 0 rfl) ?_
  refine va_get (D := D) (ci := 8) (v := .ref (ad 19)) (C := RX8) (T := TX8) (N := 9) hx hb hts winX8 hown hK hP 0 rfl rfl 2 (by decide) (hts (.fieldLink RX8 26 "TapCap" "cards" "LTapCap$Cards;") (List.mem_of_getElem? (i := 1) rfl)) (fun _ h9 => h9) rfl dX8_needPerson_1 ?_
  refine lv_iload_n hx hb dX8_needPerson_4 rfl (lv_at hl 1 rfl) ?_
  refine g_ki hK hD hS hA (va_runV (As := [.int x0]) (rest := []) ⟨hx, hb, hml, hown, hts⟩ (kX0_isPerson l D ad cI g s.heap.size x0) (cwV 1 hts gX8_needPerson_X0_isPerson rfl rfl rfl (by decide +kernel) ⟨Nat.le_of_ble_eq_true rfl, Nat.le_of_ble_eq_true rfl⟩) (g_preV hK hP hD (ci := 0) (q0 := 19) rfl rfl) rfl rfl hl.1 rfl (lv_room (Nat.le_of_ble_eq_true rfl)) dX8_needPerson_5 ⟨Nat.le_of_ble_eq_true rfl, Nat.le_of_ble_eq_true rfl⟩) (fun H locs hP hD hS => ?_)
  refine lv_if_ne (tgt := 21) hx hb dX8_needPerson_8 (by decide) (fun c1 => ?_) (fun c1 => ?_)
  · exact g_vret hx hb hr hlocks hK hP hD hS dX8_needPerson_21
  · exact absurd c1 h1
set_option maxHeartbeats 4000000 in
set_option maxRecDepth 100000 in
theorem kX8_needTap (l : Launch) (D : va_G) (ad : Nat → Nat) (cI : ClassId) (g : tG) (sz : Nat) (x0 : Int32) (x1 : Int32) (x2 : Int32) (x3 : Int32) (x4 : Int32) (h1 : in_N x0 (g 45 3)) (h2 : in_N x1 10) (h3 : in_N x2 6) (h4 : in_N x3 28) (h5 : in_R x4 0 1439) : Met l yX8_needTap wsX8_needTap ({ frames := 2, cells := 0, slots := 0, locals := 42 } : Room) (g_P D [(cI, .int)] (tcW ad cI g) [.ref (ad 0), .int x0, .int x1, .int x2, .int x3, .int x4] sz) (g_Qv D [(cI, .int)] (va_A (tcW ad cI g) sz) (tcW ad cI g)) 0 0 (va_A (tcW ad cI g) sz) := by
  refine Met.ofW (cc := cX8_needTap) (maxL := 6) (ret := none) (by decide) rfl ?_
  intro p e s m args below meth c9 s₁ B hml hv
  obtain ⟨rfl, hsz, hP, hK, hD0⟩ := hv
  have hx := B.exec
  have hb := B.bytes
  have hr := B.returns
  have hts := atoms_spec (ws := wsX8_needTap) B.pre
  have hown : s.vm.findClass RX8 = some m.cls := findClass_of_methodNamed B.named
  have hlocks := B.notSynchronized
  subst hsz
  have hD := hD0.self (sz := s.heap.size)
  generalize hAe : va_A (tcW ad cI g) s.heap.size = A at hD ⊢
  have hA : ∀ q : Nat, s.heap.size ≤ q → A q := fun q h => by rw [← hAe]; exact Or.inr h
  have hS : va_S A s.heap s.heap [] := va_S.rf
  have hl := lv_entry ([.ref (ad 0), .int x0, .int x1, .int x2, .int x3, .int x4]) (n := 6) (Nat.le_of_ble_eq_true rfl)
  rw [lg_entry_eq]
  generalize (lg_sl ([.ref (ad 0), .int x0, .int x1, .int x2, .int x3, .int x4]) ++ List.replicate (6 - (lg_sl ([.ref (ad 0), .int x0, .int x1, .int x2, .int x3, .int x4])).length) Slot.unset).toArray = ls at hl ⊢
  have hl : lv_has ls 6 [(0, .ref (ad 0)), (1, .int x0), (2, .int x1), (3, .int x2), (4, .int x3), (5, .int x4)] := hl
  refine lv_aload_n hx hb dX8_needTap_0 rfl (lv_at hl 0 rfl) ?_
  refine lv_iload_n hx hb dX8_needTap_1 rfl (lv_at hl 1 rfl) ?_
  refine g_kv hK hD hS hA (va_runV (As := [.int x0]) (rest := []) ⟨hx, hb, hml, hown, hts⟩ (kX8_needCard l D ad cI g s.heap.size x0 h1) (cwV 1 hts gX8_needTap_X8_needCard rfl rfl rfl (by decide +kernel) ⟨Nat.le_of_ble_eq_true rfl, Nat.le_of_ble_eq_true rfl⟩) (g_preV hK hP hD (ci := 8) (q0 := 0) rfl rfl) rfl rfl hl.1 rfl (lv_room (Nat.le_of_ble_eq_true rfl)) dX8_needTap_2 ⟨Nat.le_of_ble_eq_true rfl, Nat.le_of_ble_eq_true rfl⟩) (fun H locs hP hD hS => ?_)
  refine lv_iload_n hx hb dX8_needTap_5 rfl (lv_at hl 2 rfl) ?_
  refine lv_bipush (v := 10) hx hb dX8_needTap_6 (by decide) ?_
  refine g_kv hK hD hS hA (va_runS (As := [.int x1, .int 10]) (rest := []) ⟨hx, hb, hml, hown, hts⟩ (kX8_needNumber l D ad cI g H.size x1 10 h2) (cwS 2 hts gX8_needTap_X8_needNumber rfl rfl rfl (by decide +kernel) ⟨Nat.le_of_ble_eq_true rfl, Nat.le_of_ble_eq_true rfl⟩) (g_preS hK hP hD) rfl rfl hl.1 rfl (lv_room (Nat.le_of_ble_eq_true rfl)) dX8_needTap_8 ⟨Nat.le_of_ble_eq_true rfl, Nat.le_of_ble_eq_true rfl⟩) (fun H locs hP hD hS => ?_)
  refine lv_iload_n hx hb dX8_needTap_11 rfl (lv_at hl 3 rfl) ?_
  refine lv_bipush (v := 6) hx hb dX8_needTap_12 (by decide) ?_
  refine g_kv hK hD hS hA (va_runS (As := [.int x2, .int 6]) (rest := []) ⟨hx, hb, hml, hown, hts⟩ (kX8_needNumber l D ad cI g H.size x2 6 h3) (cwS 2 hts gX8_needTap_X8_needNumber rfl rfl rfl (by decide +kernel) ⟨Nat.le_of_ble_eq_true rfl, Nat.le_of_ble_eq_true rfl⟩) (g_preS hK hP hD) rfl rfl hl.1 rfl (lv_room (Nat.le_of_ble_eq_true rfl)) dX8_needTap_14 ⟨Nat.le_of_ble_eq_true rfl, Nat.le_of_ble_eq_true rfl⟩) (fun H locs hP hD hS => ?_)
  refine lv_iload hx hb dX8_needTap_17 (lv_at hl 4 rfl) ?_
  refine lv_bipush (v := 28) hx hb dX8_needTap_19 (by decide) ?_
  refine g_kv hK hD hS hA (va_runS (As := [.int x3, .int 28]) (rest := []) ⟨hx, hb, hml, hown, hts⟩ (kX8_needNumber l D ad cI g H.size x3 28 h4) (cwS 2 hts gX8_needTap_X8_needNumber rfl rfl rfl (by decide +kernel) ⟨Nat.le_of_ble_eq_true rfl, Nat.le_of_ble_eq_true rfl⟩) (g_preS hK hP hD) rfl rfl hl.1 rfl (lv_room (Nat.le_of_ble_eq_true rfl)) dX8_needTap_21 ⟨Nat.le_of_ble_eq_true rfl, Nat.le_of_ble_eq_true rfl⟩) (fun H locs hP hD hS => ?_)
  refine lv_iload hx hb dX8_needTap_24 (lv_at hl 5 rfl) ?_
  refine lv_iconst (v := 0) hx hb dX8_needTap_26 (by decide) ?_
  refine lv_sipush (v := 1439) hx hb dX8_needTap_27 (by decide) ?_
  refine g_kv hK hD hS hA (va_runS (As := [.int x4, .int 0, .int 1439]) (rest := []) ⟨hx, hb, hml, hown, hts⟩ (kX8_needRange l D ad cI g H.size x4 0 1439 h5) (cwS 3 hts gX8_needTap_X8_needRange rfl rfl rfl (by decide +kernel) ⟨Nat.le_of_ble_eq_true rfl, Nat.le_of_ble_eq_true rfl⟩) (g_preS hK hP hD) rfl rfl hl.1 rfl (lv_room (Nat.le_of_ble_eq_true rfl)) dX8_needTap_30 ⟨Nat.le_of_ble_eq_true rfl, Nat.le_of_ble_eq_true rfl⟩) (fun H locs hP hD hS => ?_)
  exact g_vret hx hb hr hlocks hK hP hD hS dX8_needTap_33
def fX8_study_w (g : tG) (x0 : Int32) (x1 : Int32) (x2 : Int32) : tG :=
  let g1 : tG := fX3_read_w g x1 x0 x2
  let g2 : tG := fX2_read_w g1
  let g3 : tG := fX1_read_w g2
  g3
set_option maxRecDepth 20000 in
theorem eX8_study_w1 (g : tG) (x0 : Int32) (x1 : Int32) (x2 : Int32) {g1 : tG} (hg1 : g1 = fX3_read_w g x1 x0 x2) {g2 : tG} (hg2 : g2 = fX2_read_w g1) {g3 : tG} (hg3 : g3 = fX1_read_w g2) : fX8_study_w g x0 x1 x2 = g3 := by
  have z9 := hg1.symm
  subst z9
  have z9 := hg2.symm
  subst z9
  have z9 := hg3.symm
  subst z9
  exact rfl
theorem fjX8_study (g : tG) (x0 : Int32) (x1 : Int32) (x2 : Int32) (j : Nat) (h : j ∉ ([19, 20, 21, 22, 23, 24, 25, 26, 27, 28, 29, 30, 31, 32, 33, 34, 35, 36, 37, 38, 39, 40, 41, 42, 43, 44, 45] : List Nat)) : fX8_study_w g x0 x1 x2 j = g j := by
  obtain ⟨g1, hg1⟩ : ∃ z : tG, z = fX3_read_w g x1 x0 x2 := ⟨_, rfl⟩
  obtain ⟨g2, hg2⟩ : ∃ z : tG, z = fX2_read_w g1 := ⟨_, rfl⟩
  obtain ⟨g3, hg3⟩ : ∃ z : tG, z = fX1_read_w g2 := ⟨_, rfl⟩
  have qg1 : g1 j = g j := by rw [hg1]; exact fjX3_read g x1 x0 x2 j (fun hm => h (sub9 (a := [19, 20, 21, 22, 23, 24, 25, 26, 27, 28, 29, 30, 31, 45]) (b := [19, 20, 21, 22, 23, 24, 25, 26, 27, 28, 29, 30, 31, 32, 33, 34, 35, 36, 37, 38, 39, 40, 41, 42, 43, 44, 45]) (by decide) hm))
  have qg2 : g2 j = g1 j := by rw [hg2]; exact fjX2_read g1 j (fun hm => h (sub9 (a := [32, 33, 34, 35, 36, 37, 38, 39, 40, 45]) (b := [19, 20, 21, 22, 23, 24, 25, 26, 27, 28, 29, 30, 31, 32, 33, 34, 35, 36, 37, 38, 39, 40, 41, 42, 43, 44, 45]) (by decide) hm))
  have qg3 : g3 j = g2 j := by rw [hg3]; exact fjX1_read g2 j (fun hm => h (sub9 (a := [41, 42, 43, 44]) (b := [19, 20, 21, 22, 23, 24, 25, 26, 27, 28, 29, 30, 31, 32, 33, 34, 35, 36, 37, 38, 39, 40, 41, 42, 43, 44, 45]) (by decide) hm))
  have hs := eX8_study_w1 g x0 x1 x2 hg1 hg2 hg3
  rw [hs]
  exact qg3.trans (qg2.trans (qg1))
theorem fiX8_study (g : tG) (x0 : Int32) (x1 : Int32) (x2 : Int32) (k : Nat) (h : k ∉ ([7, 8, 9] : List Nat)) : fX8_study_w g x0 x1 x2 45 k = g 45 k := by
  obtain ⟨g1, hg1⟩ : ∃ z : tG, z = fX3_read_w g x1 x0 x2 := ⟨_, rfl⟩
  obtain ⟨g2, hg2⟩ : ∃ z : tG, z = fX2_read_w g1 := ⟨_, rfl⟩
  obtain ⟨g3, hg3⟩ : ∃ z : tG, z = fX1_read_w g2 := ⟨_, rfl⟩
  have qg1 : g1 45 k = g 45 k := by rw [hg1]; exact fiX3_read g x1 x0 x2 k (fun hm => h (sub9 (a := [7, 8]) (b := [7, 8, 9]) (by decide) hm))
  have qg2 : g2 45 k = g1 45 k := by rw [hg2]; exact fiX2_read g1 k (fun hm => h (sub9 (a := [9]) (b := [7, 8, 9]) (by decide) hm))
  have qg3 : g3 45 k = g2 45 k := by rw [hg3]; exact congrFun (fjX1_read g2 45 (by decide)) k
  have hs := eX8_study_w1 g x0 x1 x2 hg1 hg2 hg3
  rw [hs]
  exact qg3.trans (qg2.trans (qg1))
set_option maxHeartbeats 4000000 in
set_option maxRecDepth 100000 in
theorem kX8_study (l : Launch) (D : va_G) (ad : Nat → Nat) (cI : ClassId) (g : tG) (sz : Nat) (x0 : Int32) (x1 : Int32) (x2 : Int32) : Met l yX8_study wsX8_study ({ frames := 4, cells := 0, slots := 0, locals := 101 } : Room) (g_P D [(cI, .int)] (tcW ad cI g) [.ref (ad 0), .int x0, .int x1, .int x2] sz) (g_Qv D [(cI, .int)] (va_A (tcW ad cI g) sz) (tcW ad cI (fX8_study_w g x0 x1 x2))) 0 0 (va_A (tcW ad cI g) sz) := by
  refine Met.ofW (cc := cX8_study) (maxL := 4) (ret := none) (by decide) rfl ?_
  intro p e s m args below meth c9 s₁ B hml hv
  obtain ⟨rfl, hsz, hP, hK, hD0⟩ := hv
  have hx := B.exec
  have hb := B.bytes
  have hr := B.returns
  have hts := atoms_spec (ws := wsX8_study) B.pre
  have hown : s.vm.findClass RX8 = some m.cls := findClass_of_methodNamed B.named
  have hlocks := B.notSynchronized
  subst hsz
  have hD := hD0.self (sz := s.heap.size)
  generalize hAe : va_A (tcW ad cI g) s.heap.size = A at hD ⊢
  have hA : ∀ q : Nat, s.heap.size ≤ q → A q := fun q h => by rw [← hAe]; exact Or.inr h
  have hS : va_S A s.heap s.heap [] := va_S.rf
  have hl := lv_entry ([.ref (ad 0), .int x0, .int x1, .int x2]) (n := 4) (Nat.le_of_ble_eq_true rfl)
  rw [lg_entry_eq]
  generalize (lg_sl ([.ref (ad 0), .int x0, .int x1, .int x2]) ++ List.replicate (4 - (lg_sl ([.ref (ad 0), .int x0, .int x1, .int x2])).length) Slot.unset).toArray = ls at hl ⊢
  have hl : lv_has ls 4 [(0, .ref (ad 0)), (1, .int x0), (2, .int x1), (3, .int x2)] := hl
  have winX8 : ∀ w ∈ u_ws RX8 TX8 9, w ∈ wsX8_study := by decide +kernel
  refine lv_aload_n hx hb dX8_study_0 rfl (lv_at hl 0 rfl) ?_
  refine va_get (D := D) (ci := 8) (v := .ref (ad 43)) (C := RX8) (T := TX8) (N := 9) hx hb hts winX8 hown hK hP 0 rfl rfl 4 (by decide) (hts (.fieldLink RX8 40 "TapCap" "legs" "LTapCap$Legs;") (List.mem_of_getElem? (i := 1) rfl)) (fun _ h9 => h9) rfl dX8_study_1 ?_
  refine lv_aload_n hx hb dX8_study_4 rfl (lv_at hl 0 rfl) ?_
  refine va_get (D := D) (ci := 8) (v := .ref (ad 30)) (C := RX8) (T := TX8) (N := 9) hx hb hts winX8 hown hK hP 0 rfl rfl 3 (by decide) (hts (.fieldLink RX8 33 "TapCap" "taps" "LTapCap$Taps;") (List.mem_of_getElem? (i := 2) rfl)) (fun _ h9 => h9) rfl dX8_study_5 ?_
  refine lv_iload_n hx hb dX8_study_8 rfl (lv_at hl 2 rfl) ?_
  refine lv_aload_n hx hb dX8_study_9 rfl (lv_at hl 0 rfl) ?_
  refine va_get (D := D) (ci := 8) (v := .ref (ad 19)) (C := RX8) (T := TX8) (N := 9) hx hb hts winX8 hown hK hP 0 rfl rfl 2 (by decide) (hts (.fieldLink RX8 26 "TapCap" "cards" "LTapCap$Cards;") (List.mem_of_getElem? (i := 3) rfl)) (fun _ h9 => h9) rfl dX8_study_10 ?_
  refine lv_iload_n hx hb dX8_study_13 rfl (lv_at hl 1 rfl) ?_
  refine lv_iload_n hx hb dX8_study_14 rfl (lv_at hl 3 rfl) ?_
  refine g_kv hK hD hS hA (va_runV (As := [.ref (ad 30), .int x1, .ref (ad 19), .int x0, .int x2]) (rest := []) ⟨hx, hb, hml, hown, hts⟩ (kX3_read l D ad cI g s.heap.size x1 x0 x2) (cwV 5 hts gX8_study_X3_read rfl rfl rfl (by decide +kernel) ⟨Nat.le_of_ble_eq_true rfl, Nat.le_of_ble_eq_true rfl⟩) (g_preV hK hP hD (ci := 3) (q0 := 43) rfl rfl) rfl rfl hl.1 rfl (lv_room (Nat.le_of_ble_eq_true rfl)) dX8_study_15 ⟨Nat.le_of_ble_eq_true rfl, Nat.le_of_ble_eq_true rfl⟩) (fun H locs hP hD hS => ?_)
  obtain ⟨g1, hg1⟩ : ∃ z : tG, z = fX3_read_w g x1 x0 x2 := ⟨_, rfl⟩
  rw [← hg1] at hP hD
  refine lv_aload_n hx hb dX8_study_18 rfl (lv_at hl 0 rfl) ?_
  refine va_get (D := D) (ci := 8) (v := .ref (ad 70)) (C := RX8) (T := TX8) (N := 9) hx hb hts winX8 hown hK hP 0 rfl rfl 5 (by decide) (hts (.fieldLink RX8 47 "TapCap" "journeys" "LTapCap$Journeys;") (List.mem_of_getElem? (i := 4) rfl)) (fun _ h9 => h9) rfl dX8_study_19 ?_
  refine lv_aload_n hx hb dX8_study_22 rfl (lv_at hl 0 rfl) ?_
  refine va_get (D := D) (ci := 8) (v := .ref (ad 43)) (C := RX8) (T := TX8) (N := 9) hx hb hts winX8 hown hK hP 0 rfl rfl 4 (by decide) (hts (.fieldLink RX8 40 "TapCap" "legs" "LTapCap$Legs;") (List.mem_of_getElem? (i := 1) rfl)) (fun _ h9 => h9) rfl dX8_study_23 ?_
  refine lv_aload_n hx hb dX8_study_26 rfl (lv_at hl 0 rfl) ?_
  refine va_get (D := D) (ci := 8) (v := .ref (ad 1)) (C := RX8) (T := TX8) (N := 9) hx hb hts winX8 hown hK hP 0 rfl rfl 0 (by decide) (hts (.fieldLink RX8 12 "TapCap" "region" "LTapCap$Region;") (List.mem_of_getElem? (i := 5) rfl)) (fun _ h9 => h9) rfl dX8_study_27 ?_
  refine lv_aload_n hx hb dX8_study_30 rfl (lv_at hl 0 rfl) ?_
  refine va_get (D := D) (ci := 8) (v := .ref (ad 8)) (C := RX8) (T := TX8) (N := 9) hx hb hts winX8 hown hK hP 0 rfl rfl 1 (by decide) (hts (.fieldLink RX8 19 "TapCap" "tariffs" "LTapCap$Tariffs;") (List.mem_of_getElem? (i := 6) rfl)) (fun _ h9 => h9) rfl dX8_study_31 ?_
  refine g_kv hK hD hS hA (va_runV (As := [.ref (ad 43), .ref (ad 1), .ref (ad 8)]) (rest := []) ⟨hx, hb, hml, hown, hts⟩ (kX2_read l D ad cI g1 H.size ) (cwV 3 hts gX8_study_X2_read rfl rfl rfl (by decide +kernel) ⟨Nat.le_of_ble_eq_true rfl, Nat.le_of_ble_eq_true rfl⟩) (g_preV hK hP hD (ci := 2) (q0 := 70) rfl rfl) rfl rfl hl.1 rfl (lv_room (Nat.le_of_ble_eq_true rfl)) dX8_study_34 ⟨Nat.le_of_ble_eq_true rfl, Nat.le_of_ble_eq_true rfl⟩) (fun H locs hP hD hS => ?_)
  obtain ⟨g2, hg2⟩ : ∃ z : tG, z = fX2_read_w g1 := ⟨_, rfl⟩
  rw [← hg2] at hP hD
  refine lv_aload_n hx hb dX8_study_37 rfl (lv_at hl 0 rfl) ?_
  refine va_get (D := D) (ci := 8) (v := .ref (ad 89)) (C := RX8) (T := TX8) (N := 9) hx hb hts winX8 hown hK hP 0 rfl rfl 6 (by decide) (hts (.fieldLink RX8 54 "TapCap" "costs" "LTapCap$Costs;") (List.mem_of_getElem? (i := 7) rfl)) (fun _ h9 => h9) rfl dX8_study_38 ?_
  refine lv_aload_n hx hb dX8_study_41 rfl (lv_at hl 0 rfl) ?_
  refine va_get (D := D) (ci := 8) (v := .ref (ad 70)) (C := RX8) (T := TX8) (N := 9) hx hb hts winX8 hown hK hP 0 rfl rfl 5 (by decide) (hts (.fieldLink RX8 47 "TapCap" "journeys" "LTapCap$Journeys;") (List.mem_of_getElem? (i := 4) rfl)) (fun _ h9 => h9) rfl dX8_study_42 ?_
  refine lv_aload_n hx hb dX8_study_45 rfl (lv_at hl 0 rfl) ?_
  refine va_get (D := D) (ci := 8) (v := .ref (ad 8)) (C := RX8) (T := TX8) (N := 9) hx hb hts winX8 hown hK hP 0 rfl rfl 1 (by decide) (hts (.fieldLink RX8 19 "TapCap" "tariffs" "LTapCap$Tariffs;") (List.mem_of_getElem? (i := 6) rfl)) (fun _ h9 => h9) rfl dX8_study_46 ?_
  refine g_kv hK hD hS hA (va_runV (As := [.ref (ad 70), .ref (ad 8)]) (rest := []) ⟨hx, hb, hml, hown, hts⟩ (kX1_read l D ad cI g2 H.size ) (cwV 2 hts gX8_study_X1_read rfl rfl rfl (by decide +kernel) ⟨Nat.le_of_ble_eq_true rfl, Nat.le_of_ble_eq_true rfl⟩) (g_preV hK hP hD (ci := 1) (q0 := 89) rfl rfl) rfl rfl hl.1 rfl (lv_room (Nat.le_of_ble_eq_true rfl)) dX8_study_49 ⟨Nat.le_of_ble_eq_true rfl, Nat.le_of_ble_eq_true rfl⟩) (fun H locs hP hD hS => ?_)
  obtain ⟨g3, hg3⟩ : ∃ z : tG, z = fX1_read_w g2 := ⟨_, rfl⟩
  rw [← hg3] at hP hD
  have hw := eX8_study_w1 g x0 x1 x2 hg1 hg2 hg3
  have hP := w_P9 hw hP
  have hD := w_D9 hw hD
  exact g_vret hx hb hr hlocks hK hP hD hS dX8_study_52
def fX8_costOfWeek_r (g : tG) (x0 : Int32) (x1 : Int32) (x2 : Int32) (x3 : Int32) : Int32 :=
  let g1 : tG := fX8_study_w g x0 x2 x3
  fX1_ofWholeWeek_r g1 x1
def fX8_costOfWeek_w (g : tG) (x0 : Int32) (x1 : Int32) (x2 : Int32) (x3 : Int32) : tG :=
  let g1 : tG := fX8_study_w g x0 x2 x3
  g1
set_option maxRecDepth 20000 in
theorem eX8_costOfWeek_r1 (g : tG) (x0 : Int32) (x1 : Int32) (x2 : Int32) (x3 : Int32) {g1 : tG} (hg1 : g1 = fX8_study_w g x0 x2 x3) : fX8_costOfWeek_r g x0 x1 x2 x3 = fX1_ofWholeWeek_r g1 x1 := by
  have z9 := hg1.symm
  subst z9
  exact rfl
set_option maxRecDepth 20000 in
theorem eX8_costOfWeek_w1 (g : tG) (x0 : Int32) (x1 : Int32) (x2 : Int32) (x3 : Int32) {g1 : tG} (hg1 : g1 = fX8_study_w g x0 x2 x3) : fX8_costOfWeek_w g x0 x1 x2 x3 = g1 := by
  have z9 := hg1.symm
  subst z9
  exact rfl
theorem fjX8_costOfWeek (g : tG) (x0 : Int32) (x1 : Int32) (x2 : Int32) (x3 : Int32) (j : Nat) (h : j ∉ ([19, 20, 21, 22, 23, 24, 25, 26, 27, 28, 29, 30, 31, 32, 33, 34, 35, 36, 37, 38, 39, 40, 41, 42, 43, 44, 45] : List Nat)) : fX8_costOfWeek_w g x0 x1 x2 x3 j = g j := by
  obtain ⟨g1, hg1⟩ : ∃ z : tG, z = fX8_study_w g x0 x2 x3 := ⟨_, rfl⟩
  have qg1 : g1 j = g j := by rw [hg1]; exact fjX8_study g x0 x2 x3 j (fun hm => h (sub9 (a := [19, 20, 21, 22, 23, 24, 25, 26, 27, 28, 29, 30, 31, 32, 33, 34, 35, 36, 37, 38, 39, 40, 41, 42, 43, 44, 45]) (b := [19, 20, 21, 22, 23, 24, 25, 26, 27, 28, 29, 30, 31, 32, 33, 34, 35, 36, 37, 38, 39, 40, 41, 42, 43, 44, 45]) (by decide) hm))
  have hs := eX8_costOfWeek_w1 g x0 x1 x2 x3 hg1
  rw [hs]
  exact qg1
theorem fiX8_costOfWeek (g : tG) (x0 : Int32) (x1 : Int32) (x2 : Int32) (x3 : Int32) (k : Nat) (h : k ∉ ([7, 8, 9] : List Nat)) : fX8_costOfWeek_w g x0 x1 x2 x3 45 k = g 45 k := by
  obtain ⟨g1, hg1⟩ : ∃ z : tG, z = fX8_study_w g x0 x2 x3 := ⟨_, rfl⟩
  have qg1 : g1 45 k = g 45 k := by rw [hg1]; exact fiX8_study g x0 x2 x3 k (fun hm => h (sub9 (a := [7, 8, 9]) (b := [7, 8, 9]) (by decide) hm))
  have hs := eX8_costOfWeek_w1 g x0 x1 x2 x3 hg1
  rw [hs]
  exact qg1
set_option maxHeartbeats 4000000 in
set_option maxRecDepth 100000 in
theorem kX8_costOfWeek (l : Launch) (D : va_G) (ad : Nat → Nat) (cI : ClassId) (g : tG) (sz : Nat) (x0 : Int32) (x1 : Int32) (x2 : Int32) (x3 : Int32) : Met l yX8_costOfWeek wsX8_costOfWeek ({ frames := 5, cells := 0, slots := 0, locals := 124 } : Room) (g_P D [(cI, .int)] (tcW ad cI g) [.ref (ad 0), .int x0, .int x1, .int x2, .int x3] sz) (g_Qi D [(cI, .int)] (va_A (tcW ad cI g) sz) (tcW ad cI (fX8_costOfWeek_w g x0 x1 x2 x3)) (fX8_costOfWeek_r g x0 x1 x2 x3)) 0 0 (va_A (tcW ad cI g) sz) := by
  refine Met.ofW (cc := cX8_costOfWeek) (maxL := 5) (ret := (some .int)) (by decide) rfl ?_
  intro p e s m args below meth c9 s₁ B hml hv
  obtain ⟨rfl, hsz, hP, hK, hD0⟩ := hv
  have hx := B.exec
  have hb := B.bytes
  have hr := B.returns
  have hts := atoms_spec (ws := wsX8_costOfWeek) B.pre
  have hown : s.vm.findClass RX8 = some m.cls := findClass_of_methodNamed B.named
  have hlocks := B.notSynchronized
  subst hsz
  have hD := hD0.self (sz := s.heap.size)
  generalize hAe : va_A (tcW ad cI g) s.heap.size = A at hD ⊢
  have hA : ∀ q : Nat, s.heap.size ≤ q → A q := fun q h => by rw [← hAe]; exact Or.inr h
  have hS : va_S A s.heap s.heap [] := va_S.rf
  have hl := lv_entry ([.ref (ad 0), .int x0, .int x1, .int x2, .int x3]) (n := 5) (Nat.le_of_ble_eq_true rfl)
  rw [lg_entry_eq]
  generalize (lg_sl ([.ref (ad 0), .int x0, .int x1, .int x2, .int x3]) ++ List.replicate (5 - (lg_sl ([.ref (ad 0), .int x0, .int x1, .int x2, .int x3])).length) Slot.unset).toArray = ls at hl ⊢
  have hl : lv_has ls 5 [(0, .ref (ad 0)), (1, .int x0), (2, .int x1), (3, .int x2), (4, .int x3)] := hl
  have winX8 : ∀ w ∈ u_ws RX8 TX8 9, w ∈ wsX8_costOfWeek := by decide +kernel
  refine lv_aload_n hx hb dX8_costOfWeek_0 rfl (lv_at hl 0 rfl) ?_
  refine lv_iload_n hx hb dX8_costOfWeek_1 rfl (lv_at hl 1 rfl) ?_
  refine lv_iload_n hx hb dX8_costOfWeek_2 rfl (lv_at hl 3 rfl) ?_
  refine lv_iload hx hb dX8_costOfWeek_3 (lv_at hl 4 rfl) ?_
  refine g_kv hK hD hS hA (va_runV (As := [.int x0, .int x2, .int x3]) (rest := []) ⟨hx, hb, hml, hown, hts⟩ (kX8_study l D ad cI g s.heap.size x0 x2 x3) (cwV 3 hts gX8_costOfWeek_X8_study rfl rfl rfl (by decide +kernel) ⟨Nat.le_of_ble_eq_true rfl, Nat.le_of_ble_eq_true rfl⟩) (g_preV hK hP hD (ci := 8) (q0 := 0) rfl rfl) rfl rfl hl.1 rfl (lv_room (Nat.le_of_ble_eq_true rfl)) dX8_costOfWeek_5 ⟨Nat.le_of_ble_eq_true rfl, Nat.le_of_ble_eq_true rfl⟩) (fun H locs hP hD hS => ?_)
  obtain ⟨g1, hg1⟩ : ∃ z : tG, z = fX8_study_w g x0 x2 x3 := ⟨_, rfl⟩
  rw [← hg1] at hP hD
  refine lv_aload_n hx hb dX8_costOfWeek_8 rfl (lv_at hl 0 rfl) ?_
  refine va_get (D := D) (ci := 8) (v := .ref (ad 89)) (C := RX8) (T := TX8) (N := 9) hx hb hts winX8 hown hK hP 0 rfl rfl 6 (by decide) (hts (.fieldLink RX8 54 "TapCap" "costs" "LTapCap$Costs;") (List.mem_of_getElem? (i := 1) rfl)) (fun _ h9 => h9) rfl dX8_costOfWeek_9 ?_
  refine lv_iload_n hx hb dX8_costOfWeek_12 rfl (lv_at hl 2 rfl) ?_
  refine g_ki hK hD hS hA (va_runV (As := [.int x1]) (rest := []) ⟨hx, hb, hml, hown, hts⟩ (kX1_ofWholeWeek l D ad cI g1 H.size x1) (cwV 1 hts gX8_costOfWeek_X1_ofWholeWeek rfl rfl rfl (by decide +kernel) ⟨Nat.le_of_ble_eq_true rfl, Nat.le_of_ble_eq_true rfl⟩) (g_preV hK hP hD (ci := 1) (q0 := 89) rfl rfl) rfl rfl hl.1 rfl (lv_room (Nat.le_of_ble_eq_true rfl)) dX8_costOfWeek_13 ⟨Nat.le_of_ble_eq_true rfl, Nat.le_of_ble_eq_true rfl⟩) (fun H locs hP hD hS => ?_)
  have hw := eX8_costOfWeek_w1 g x0 x1 x2 x3 hg1
  have hP := w_P9 hw hP
  have hD := w_D9 hw hD
  exact g_iret hx hb hr rfl hlocks hK hP hD hS (eX8_costOfWeek_r1 g x0 x1 x2 x3 hg1).symm dX8_costOfWeek_16
def fX8_dueUpTo_r (g : tG) (x0 : Int32) (x1 : Int32) : Int32 :=
  let g1 : tG := fX8_study_w g x0 (g 45 4) (-1)
  let v1 : Int32 := x1 / 7
  (fX1_leastUpTo_r g1 v1 x1) - (gA g1 11 ((x0 * 4) + v1))
def fX8_dueUpTo_w (g : tG) (x0 : Int32) (x1 : Int32) : tG :=
  let g1 : tG := fX8_study_w g x0 (g 45 4) (-1)
  let v1 : Int32 := x1 / 7
  g1
set_option maxRecDepth 20000 in
theorem eX8_dueUpTo_r1 (g : tG) (x0 : Int32) (x1 : Int32) {g1 : tG} (hg1 : g1 = fX8_study_w g x0 (g 45 4) (-1)) {v1 : Int32} (hv1 : v1 = x1 / 7) : fX8_dueUpTo_r g x0 x1 = (fX1_leastUpTo_r g1 v1 x1) - (gA g1 11 ((x0 * 4) + v1)) := by
  have z9 := hg1.symm
  subst z9
  have z9 := hv1.symm
  subst z9
  exact rfl
set_option maxRecDepth 20000 in
theorem eX8_dueUpTo_w1 (g : tG) (x0 : Int32) (x1 : Int32) {g1 : tG} (hg1 : g1 = fX8_study_w g x0 (g 45 4) (-1)) {v1 : Int32} (hv1 : v1 = x1 / 7) : fX8_dueUpTo_w g x0 x1 = g1 := by
  have z9 := hg1.symm
  subst z9
  have z9 := hv1.symm
  subst z9
  exact rfl
theorem fjX8_dueUpTo (g : tG) (x0 : Int32) (x1 : Int32) (j : Nat) (h : j ∉ ([19, 20, 21, 22, 23, 24, 25, 26, 27, 28, 29, 30, 31, 32, 33, 34, 35, 36, 37, 38, 39, 40, 41, 42, 43, 44, 45] : List Nat)) : fX8_dueUpTo_w g x0 x1 j = g j := by
  obtain ⟨g1, hg1⟩ : ∃ z : tG, z = fX8_study_w g x0 (g 45 4) (-1) := ⟨_, rfl⟩
  obtain ⟨v1, hv1⟩ : ∃ z : Int32, z = x1 / 7 := ⟨_, rfl⟩
  have qg1 : g1 j = g j := by rw [hg1]; exact fjX8_study g x0 (g 45 4) (-1) j (fun hm => h (sub9 (a := [19, 20, 21, 22, 23, 24, 25, 26, 27, 28, 29, 30, 31, 32, 33, 34, 35, 36, 37, 38, 39, 40, 41, 42, 43, 44, 45]) (b := [19, 20, 21, 22, 23, 24, 25, 26, 27, 28, 29, 30, 31, 32, 33, 34, 35, 36, 37, 38, 39, 40, 41, 42, 43, 44, 45]) (by decide) hm))
  have hs := eX8_dueUpTo_w1 g x0 x1 hg1 hv1
  rw [hs]
  exact qg1
theorem fiX8_dueUpTo (g : tG) (x0 : Int32) (x1 : Int32) (k : Nat) (h : k ∉ ([7, 8, 9] : List Nat)) : fX8_dueUpTo_w g x0 x1 45 k = g 45 k := by
  obtain ⟨g1, hg1⟩ : ∃ z : tG, z = fX8_study_w g x0 (g 45 4) (-1) := ⟨_, rfl⟩
  obtain ⟨v1, hv1⟩ : ∃ z : Int32, z = x1 / 7 := ⟨_, rfl⟩
  have qg1 : g1 45 k = g 45 k := by rw [hg1]; exact fiX8_study g x0 (g 45 4) (-1) k (fun hm => h (sub9 (a := [7, 8, 9]) (b := [7, 8, 9]) (by decide) hm))
  have hs := eX8_dueUpTo_w1 g x0 x1 hg1 hv1
  rw [hs]
  exact qg1
set_option maxHeartbeats 4000000 in
set_option maxRecDepth 100000 in
theorem kX8_dueUpTo (l : Launch) (D : va_G) (ad : Nat → Nat) (cI : ClassId) (g : tG) (sz : Nat) (x0 : Int32) (x1 : Int32) : Met l yX8_dueUpTo wsX8_dueUpTo ({ frames := 5, cells := 0, slots := 0, locals := 124 } : Room) (g_P D [(cI, .int)] (tcW ad cI g) [.ref (ad 0), .int x0, .int x1] sz) (g_Qi D [(cI, .int)] (va_A (tcW ad cI g) sz) (tcW ad cI (fX8_dueUpTo_w g x0 x1)) (fX8_dueUpTo_r g x0 x1)) 0 0 (va_A (tcW ad cI g) sz) := by
  refine Met.ofW (cc := cX8_dueUpTo) (maxL := 4) (ret := (some .int)) (by decide) rfl ?_
  intro p e s m args below meth c9 s₁ B hml hv
  obtain ⟨rfl, hsz, hP, hK, hD0⟩ := hv
  have hx := B.exec
  have hb := B.bytes
  have hr := B.returns
  have hts := atoms_spec (ws := wsX8_dueUpTo) B.pre
  have hown : s.vm.findClass RX8 = some m.cls := findClass_of_methodNamed B.named
  have hlocks := B.notSynchronized
  subst hsz
  have hD := hD0.self (sz := s.heap.size)
  generalize hAe : va_A (tcW ad cI g) s.heap.size = A at hD ⊢
  have hA : ∀ q : Nat, s.heap.size ≤ q → A q := fun q h => by rw [← hAe]; exact Or.inr h
  have hS : va_S A s.heap s.heap [] := va_S.rf
  have hl := lv_entry ([.ref (ad 0), .int x0, .int x1]) (n := 4) (Nat.le_of_ble_eq_true rfl)
  rw [lg_entry_eq]
  generalize (lg_sl ([.ref (ad 0), .int x0, .int x1]) ++ List.replicate (4 - (lg_sl ([.ref (ad 0), .int x0, .int x1])).length) Slot.unset).toArray = ls at hl ⊢
  have hl : lv_has ls 4 [(0, .ref (ad 0)), (1, .int x0), (2, .int x1)] := hl
  have winX0 : ∀ w ∈ u_ws RX0 TX0 6, w ∈ wsX8_dueUpTo := by decide +kernel
  have winX5 : ∀ w ∈ u_ws RX5 TX5 1, w ∈ wsX8_dueUpTo := by decide +kernel
  have winX6 : ∀ w ∈ u_ws RX6 TX6 9, w ∈ wsX8_dueUpTo := by decide +kernel
  have winX8 : ∀ w ∈ u_ws RX8 TX8 9, w ∈ wsX8_dueUpTo := by decide +kernel
  refine lv_aload_n hx hb dX8_dueUpTo_0 rfl (lv_at hl 0 rfl) ?_
  refine lv_iload_n hx hb dX8_dueUpTo_1 rfl (lv_at hl 1 rfl) ?_
  refine lv_aload_n hx hb dX8_dueUpTo_2 rfl (lv_at hl 0 rfl) ?_
  refine va_get (D := D) (ci := 8) (v := .ref (ad 30)) (C := RX8) (T := TX8) (N := 9) hx hb hts winX8 hown hK hP 0 rfl rfl 3 (by decide) (hts (.fieldLink RX8 33 "TapCap" "taps" "LTapCap$Taps;") (List.mem_of_getElem? (i := 1) rfl)) (fun _ h9 => h9) rfl dX8_dueUpTo_3 ?_
  refine va_get (D := D) (ci := 6) (v := .int (g 45 4)) (C := RX6) (T := TX6) (N := 9) hx hb hts winX6 hown hK hP 30 rfl rfl 6 (by decide) (hts (.fieldLink RX8 151 "TapCap$Taps" "count" "I") (List.mem_of_getElem? (i := 2) rfl)) (fun _ h9 => h9) rfl dX8_dueUpTo_6 ?_
  refine lv_iconst (v := (-1)) hx hb dX8_dueUpTo_9 (by decide) ?_
  refine g_kv hK hD hS hA (va_runV (As := [.int x0, .int (g 45 4), .int ((-1))]) (rest := []) ⟨hx, hb, hml, hown, hts⟩ (kX8_study l D ad cI g s.heap.size x0 (g 45 4) (-1)) (cwV 3 hts gX8_dueUpTo_X8_study rfl rfl rfl (by decide +kernel) ⟨Nat.le_of_ble_eq_true rfl, Nat.le_of_ble_eq_true rfl⟩) (g_preV hK hP hD (ci := 8) (q0 := 0) rfl rfl) rfl rfl hl.1 rfl (lv_room (Nat.le_of_ble_eq_true rfl)) dX8_dueUpTo_10 ⟨Nat.le_of_ble_eq_true rfl, Nat.le_of_ble_eq_true rfl⟩) (fun H locs hP hD hS => ?_)
  obtain ⟨g1, hg1⟩ : ∃ z : tG, z = fX8_study_w g x0 (g 45 4) (-1) := ⟨_, rfl⟩
  rw [← hg1] at hP hD
  refine lv_iload_n hx hb dX8_dueUpTo_13 rfl (lv_at hl 2 rfl) ?_
  refine lv_bipush (v := 7) hx hb dX8_dueUpTo_14 (by decide) ?_
  refine lv_idiv hx hb dX8_dueUpTo_16 (by decide) ?_
  refine lv_topi (fun v1 hv1 => ?_)
  refine lv_istore_n (lv' := [(3, .int v1), (0, .ref (ad 0)), (1, .int x0), (2, .int x1)]) hx hb dX8_dueUpTo_17 rfl hl (by decide) rfl (fun ls hl => ?_)
  refine lv_aload_n hx hb dX8_dueUpTo_18 rfl (lv_at hl 1 rfl) ?_
  refine va_get (D := D) (ci := 8) (v := .ref (ad 89)) (C := RX8) (T := TX8) (N := 9) hx hb hts winX8 hown hK hP 0 rfl rfl 6 (by decide) (hts (.fieldLink RX8 54 "TapCap" "costs" "LTapCap$Costs;") (List.mem_of_getElem? (i := 3) rfl)) (fun _ h9 => h9) rfl dX8_dueUpTo_19 ?_
  refine lv_iload_n hx hb dX8_dueUpTo_22 rfl (lv_at hl 0 rfl) ?_
  refine lv_iload_n hx hb dX8_dueUpTo_23 rfl (lv_at hl 3 rfl) ?_
  refine g_ki hK hD hS hA (va_runV (As := [.int v1, .int x1]) (rest := []) ⟨hx, hb, hml, hown, hts⟩ (kX1_leastUpTo l D ad cI g1 H.size v1 x1) (cwV 2 hts gX8_dueUpTo_X1_leastUpTo rfl rfl rfl (by decide +kernel) ⟨Nat.le_of_ble_eq_true rfl, Nat.le_of_ble_eq_true rfl⟩) (g_preV hK hP hD (ci := 1) (q0 := 89) rfl rfl) rfl rfl hl.1 rfl (lv_room (Nat.le_of_ble_eq_true rfl)) dX8_dueUpTo_24 ⟨Nat.le_of_ble_eq_true rfl, Nat.le_of_ble_eq_true rfl⟩) (fun H locs hP hD hS => ?_)
  refine lv_aload_n hx hb dX8_dueUpTo_27 rfl (lv_at hl 1 rfl) ?_
  refine va_get (D := D) (ci := 8) (v := .ref (ad 19)) (C := RX8) (T := TX8) (N := 9) hx hb hts winX8 hown hK hP 0 rfl rfl 2 (by decide) (hts (.fieldLink RX8 26 "TapCap" "cards" "LTapCap$Cards;") (List.mem_of_getElem? (i := 4) rfl)) (fun _ h9 => h9) rfl dX8_dueUpTo_28 ?_
  refine va_get (D := D) (ci := 0) (v := .ref (ad 26)) (C := RX0) (T := TX0) (N := 6) hx hb hts winX0 hown hK hP 19 rfl rfl 3 (by decide) (hts (.fieldLink RX8 271 "TapCap$Cards" "charged" "LTapCap$Row;") (List.mem_of_getElem? (i := 5) rfl)) (fun _ h9 => h9) rfl dX8_dueUpTo_31 ?_
  refine lv_iload_n hx hb dX8_dueUpTo_34 rfl (lv_at hl 2 rfl) ?_
  refine lv_iconst (v := 4) hx hb dX8_dueUpTo_35 (by decide) ?_
  refine lv_imul hx hb dX8_dueUpTo_36 ?_
  refine lv_iload_n hx hb dX8_dueUpTo_37 rfl (lv_at hl 0 rfl) ?_
  refine lv_iadd hx hb dX8_dueUpTo_38 ?_
  refine g_ki hK hD hS hA (va_runV (As := [.int ((x0 * 4) + v1)]) (rest := [.int (fX1_leastUpTo_r g1 v1 x1)]) ⟨hx, hb, hml, hown, hts⟩ (k_tc_at l D ad cI g1 H.size 11 (by decide) ((x0 * 4) + v1)) (cwV 1 hts gX8_dueUpTo_X5_at rfl rfl rfl (by decide +kernel) ⟨Nat.le_of_ble_eq_true rfl, Nat.le_of_ble_eq_true rfl⟩) (g_preV hK hP hD (ci := 5) (q0 := 26) rfl rfl) rfl rfl hl.1 rfl (lv_room (Nat.le_of_ble_eq_true rfl)) dX8_dueUpTo_39 ⟨Nat.le_of_ble_eq_true rfl, Nat.le_of_ble_eq_true rfl⟩) (fun H locs hP hD hS => ?_)
  refine lv_isub hx hb dX8_dueUpTo_42 ?_
  have hw := eX8_dueUpTo_w1 g x0 x1 hg1 hv1
  have hP := w_P9 hw hP
  have hD := w_D9 hw hD
  exact g_iret hx hb hr rfl hlocks hK hP hD hS (eX8_dueUpTo_r1 g x0 x1 hg1 hv1).symm dX8_dueUpTo_43
