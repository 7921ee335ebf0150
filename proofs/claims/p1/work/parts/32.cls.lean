set_option maxHeartbeats 4000000 in
set_option maxRecDepth 100000 in
theorem kMany_0 (l : Launch) (D : va_G) (ad : Nat → Nat) (cI : ClassId) (sz : Nat) : Met l yX8_manyAnswer wsX8_manyAnswer ({ frames := 2, cells := 0, slots := 0, locals := 60 } : Room) (g_P D [(cI, .int)] (tcW ad cI tc_0) [.ref (ad 0), .int 0] sz) (g_Qi D [(cI, .int)] (va_A (tcW ad cI tc_0) sz) (tcW ad cI tc_0) 0) 0 0 (va_A (tcW ad cI tc_0) sz) := by
  refine Met.ofW (cc := cX8_manyAnswer) (maxL := 2) (ret := (some .int)) (by decide) rfl ?_
  intro p e s m args below meth c9 s₁ B hml hv
  obtain ⟨rfl, hsz, hP, hK, hD0⟩ := hv
  have hx := B.exec
  have hb := B.bytes
  have hr := B.returns
  have hts := atoms_spec (ws := wsX8_manyAnswer) B.pre
  have hown : s.vm.findClass RX8 = some m.cls := findClass_of_methodNamed B.named
  have hlocks := B.notSynchronized
  subst hsz
  have hD := hD0.self (sz := s.heap.size)
  generalize hAe : va_A (tcW ad cI tc_0) s.heap.size = A at hD ⊢
  have hA : ∀ q : Nat, s.heap.size ≤ q → A q := fun q h => by rw [← hAe]; exact Or.inr h
  have hS : va_S A s.heap s.heap [] := va_S.rf
  have hl := lv_entry ([.ref (ad 0), .int 0]) (n := 2) (Nat.le_of_ble_eq_true rfl)
  rw [lg_entry_eq]
  generalize (lg_sl ([.ref (ad 0), .int 0]) ++ List.replicate (2 - (lg_sl ([.ref (ad 0), .int 0])).length) Slot.unset).toArray = ls at hl ⊢
  have hl : lv_has ls 2 [(0, .ref (ad 0)), (1, .int 0)] := hl
  have winX0 : ∀ w ∈ u_ws RX0 TX0 6, w ∈ wsX8_manyAnswer := by decide +kernel
  have winX5 : ∀ w ∈ u_ws RX5 TX5 1, w ∈ wsX8_manyAnswer := by decide +kernel
  have winX6 : ∀ w ∈ u_ws RX6 TX6 9, w ∈ wsX8_manyAnswer := by decide +kernel
  have winX7 : ∀ w ∈ u_ws RX7 TX7 6, w ∈ wsX8_manyAnswer := by decide +kernel
  have winX8 : ∀ w ∈ u_ws RX8 TX8 9, w ∈ wsX8_manyAnswer := by decide +kernel
  refine lv_iload_n hx hb dX8_manyAnswer_0 rfl (lv_at hl 1 rfl) ?_
  refine lv_tableIn (off := 47) (tgt := 48) hx hb dX8_manyAnswer_1 (by decide) (by decide) (by decide) (by decide) ?_
  refine lv_aload_n hx hb dX8_manyAnswer_48 rfl (lv_at hl 0 rfl) ?_
  refine va_get (D := D) (ci := 8) (v := .ref (ad 19)) (C := RX8) (T := TX8) (N := 9) hx hb hts winX8 hown hK hP 0 rfl rfl 2 (by decide) (hts (.fieldLink RX8 26 "TapCap" "cards" "LTapCap$Cards;") (List.mem_of_getElem? (i := 1) rfl)) (fun _ h9 => h9) rfl dX8_manyAnswer_49 ?_
  refine va_get (D := D) (ci := 0) (v := .int (tc_0 45 3)) (C := RX0) (T := TX0) (N := 6) hx hb hts winX0 hown hK hP 19 rfl rfl 5 (by decide) (hts (.fieldLink RX8 103 "TapCap$Cards" "count" "I") (List.mem_of_getElem? (i := 2) rfl)) (fun _ h9 => h9) rfl dX8_manyAnswer_52 ?_
  exact g_iret hx hb hr rfl hlocks hK hP hD hS (by rfl) dX8_manyAnswer_55
set_option maxHeartbeats 4000000 in
set_option maxRecDepth 100000 in
theorem kMany_1 (l : Launch) (D : va_G) (ad : Nat → Nat) (cI : ClassId) (sz : Nat) : Met l yX8_manyAnswer wsX8_manyAnswer ({ frames := 2, cells := 0, slots := 0, locals := 60 } : Room) (g_P D [(cI, .int)] (tcW ad cI tc_0) [.ref (ad 0), .int 1] sz) (g_Qi D [(cI, .int)] (va_A (tcW ad cI tc_0) sz) (tcW ad cI tc_0) 0) 0 0 (va_A (tcW ad cI tc_0) sz) := by
  refine Met.ofW (cc := cX8_manyAnswer) (maxL := 2) (ret := (some .int)) (by decide) rfl ?_
  intro p e s m args below meth c9 s₁ B hml hv
  obtain ⟨rfl, hsz, hP, hK, hD0⟩ := hv
  have hx := B.exec
  have hb := B.bytes
  have hr := B.returns
  have hts := atoms_spec (ws := wsX8_manyAnswer) B.pre
  have hown : s.vm.findClass RX8 = some m.cls := findClass_of_methodNamed B.named
  have hlocks := B.notSynchronized
  subst hsz
  have hD := hD0.self (sz := s.heap.size)
  generalize hAe : va_A (tcW ad cI tc_0) s.heap.size = A at hD ⊢
  have hA : ∀ q : Nat, s.heap.size ≤ q → A q := fun q h => by rw [← hAe]; exact Or.inr h
  have hS : va_S A s.heap s.heap [] := va_S.rf
  have hl := lv_entry ([.ref (ad 0), .int 1]) (n := 2) (Nat.le_of_ble_eq_true rfl)
  rw [lg_entry_eq]
  generalize (lg_sl ([.ref (ad 0), .int 1]) ++ List.replicate (2 - (lg_sl ([.ref (ad 0), .int 1])).length) Slot.unset).toArray = ls at hl ⊢
  have hl : lv_has ls 2 [(0, .ref (ad 0)), (1, .int 1)] := hl
  have winX0 : ∀ w ∈ u_ws RX0 TX0 6, w ∈ wsX8_manyAnswer := by decide +kernel
  have winX5 : ∀ w ∈ u_ws RX5 TX5 1, w ∈ wsX8_manyAnswer := by decide +kernel
  have winX6 : ∀ w ∈ u_ws RX6 TX6 9, w ∈ wsX8_manyAnswer := by decide +kernel
  have winX7 : ∀ w ∈ u_ws RX7 TX7 6, w ∈ wsX8_manyAnswer := by decide +kernel
  have winX8 : ∀ w ∈ u_ws RX8 TX8 9, w ∈ wsX8_manyAnswer := by decide +kernel
  refine lv_iload_n hx hb dX8_manyAnswer_0 rfl (lv_at hl 1 rfl) ?_
  refine lv_tableIn (off := 55) (tgt := 56) hx hb dX8_manyAnswer_1 (by decide) (by decide) (by decide) (by decide) ?_
  refine lv_aload_n hx hb dX8_manyAnswer_56 rfl (lv_at hl 0 rfl) ?_
  refine va_get (D := D) (ci := 8) (v := .ref (ad 30)) (C := RX8) (T := TX8) (N := 9) hx hb hts winX8 hown hK hP 0 rfl rfl 3 (by decide) (hts (.fieldLink RX8 33 "TapCap" "taps" "LTapCap$Taps;") (List.mem_of_getElem? (i := 3) rfl)) (fun _ h9 => h9) rfl dX8_manyAnswer_57 ?_
  refine va_get (D := D) (ci := 6) (v := .int (tc_0 45 4)) (C := RX6) (T := TX6) (N := 9) hx hb hts winX6 hown hK hP 30 rfl rfl 6 (by decide) (hts (.fieldLink RX8 151 "TapCap$Taps" "count" "I") (List.mem_of_getElem? (i := 4) rfl)) (fun _ h9 => h9) rfl dX8_manyAnswer_60 ?_
  exact g_iret hx hb hr rfl hlocks hK hP hD hS (by rfl) dX8_manyAnswer_63
set_option maxHeartbeats 4000000 in
set_option maxRecDepth 100000 in
theorem kMany_2 (l : Launch) (D : va_G) (ad : Nat → Nat) (cI : ClassId) (sz : Nat) : Met l yX8_manyAnswer wsX8_manyAnswer ({ frames := 2, cells := 0, slots := 0, locals := 60 } : Room) (g_P D [(cI, .int)] (tcW ad cI tc_0) [.ref (ad 0), .int 2] sz) (g_Qi D [(cI, .int)] (va_A (tcW ad cI tc_0) sz) (tcW ad cI tc_0) 0) 0 0 (va_A (tcW ad cI tc_0) sz) := by
  refine Met.ofW (cc := cX8_manyAnswer) (maxL := 2) (ret := (some .int)) (by decide) rfl ?_
  intro p e s m args below meth c9 s₁ B hml hv
  obtain ⟨rfl, hsz, hP, hK, hD0⟩ := hv
  have hx := B.exec
  have hb := B.bytes
  have hr := B.returns
  have hts := atoms_spec (ws := wsX8_manyAnswer) B.pre
  have hown : s.vm.findClass RX8 = some m.cls := findClass_of_methodNamed B.named
  have hlocks := B.notSynchronized
  subst hsz
  have hD := hD0.self (sz := s.heap.size)
  generalize hAe : va_A (tcW ad cI tc_0) s.heap.size = A at hD ⊢
  have hA : ∀ q : Nat, s.heap.size ≤ q → A q := fun q h => by rw [← hAe]; exact Or.inr h
  have hS : va_S A s.heap s.heap [] := va_S.rf
  have hl := lv_entry ([.ref (ad 0), .int 2]) (n := 2) (Nat.le_of_ble_eq_true rfl)
  rw [lg_entry_eq]
  generalize (lg_sl ([.ref (ad 0), .int 2]) ++ List.replicate (2 - (lg_sl ([.ref (ad 0), .int 2])).length) Slot.unset).toArray = ls at hl ⊢
  have hl : lv_has ls 2 [(0, .ref (ad 0)), (1, .int 2)] := hl
  have winX0 : ∀ w ∈ u_ws RX0 TX0 6, w ∈ wsX8_manyAnswer := by decide +kernel
  have winX5 : ∀ w ∈ u_ws RX5 TX5 1, w ∈ wsX8_manyAnswer := by decide +kernel
  have winX6 : ∀ w ∈ u_ws RX6 TX6 9, w ∈ wsX8_manyAnswer := by decide +kernel
  have winX7 : ∀ w ∈ u_ws RX7 TX7 6, w ∈ wsX8_manyAnswer := by decide +kernel
  have winX8 : ∀ w ∈ u_ws RX8 TX8 9, w ∈ wsX8_manyAnswer := by decide +kernel
  refine lv_iload_n hx hb dX8_manyAnswer_0 rfl (lv_at hl 1 rfl) ?_
  refine lv_tableIn (off := 63) (tgt := 64) hx hb dX8_manyAnswer_1 (by decide) (by decide) (by decide) (by decide) ?_
  refine lv_aload_n hx hb dX8_manyAnswer_64 rfl (lv_at hl 0 rfl) ?_
  refine va_get (D := D) (ci := 8) (v := .ref (ad 30)) (C := RX8) (T := TX8) (N := 9) hx hb hts winX8 hown hK hP 0 rfl rfl 3 (by decide) (hts (.fieldLink RX8 33 "TapCap" "taps" "LTapCap$Taps;") (List.mem_of_getElem? (i := 3) rfl)) (fun _ h9 => h9) rfl dX8_manyAnswer_65 ?_
  refine va_get (D := D) (ci := 6) (v := .int (tc_0 45 5)) (C := RX6) (T := TX6) (N := 9) hx hb hts winX6 hown hK hP 30 rfl rfl 7 (by decide) (hts (.fieldLink RX8 148 "TapCap$Taps" "denied" "I") (List.mem_of_getElem? (i := 5) rfl)) (fun _ h9 => h9) rfl dX8_manyAnswer_68 ?_
  exact g_iret hx hb hr rfl hlocks hK hP hD hS (by rfl) dX8_manyAnswer_71
set_option maxHeartbeats 4000000 in
set_option maxRecDepth 100000 in
theorem kMany_3 (l : Launch) (D : va_G) (ad : Nat → Nat) (cI : ClassId) (sz : Nat) : Met l yX8_manyAnswer wsX8_manyAnswer ({ frames := 2, cells := 0, slots := 0, locals := 60 } : Room) (g_P D [(cI, .int)] (tcW ad cI tc_0) [.ref (ad 0), .int 3] sz) (g_Qi D [(cI, .int)] (va_A (tcW ad cI tc_0) sz) (tcW ad cI tc_0) 0) 0 0 (va_A (tcW ad cI tc_0) sz) := by
  refine Met.ofW (cc := cX8_manyAnswer) (maxL := 2) (ret := (some .int)) (by decide) rfl ?_
  intro p e s m args below meth c9 s₁ B hml hv
  obtain ⟨rfl, hsz, hP, hK, hD0⟩ := hv
  have hx := B.exec
  have hb := B.bytes
  have hr := B.returns
  have hts := atoms_spec (ws := wsX8_manyAnswer) B.pre
  have hown : s.vm.findClass RX8 = some m.cls := findClass_of_methodNamed B.named
  have hlocks := B.notSynchronized
  subst hsz
  have hD := hD0.self (sz := s.heap.size)
  generalize hAe : va_A (tcW ad cI tc_0) s.heap.size = A at hD ⊢
  have hA : ∀ q : Nat, s.heap.size ≤ q → A q := fun q h => by rw [← hAe]; exact Or.inr h
  have hS : va_S A s.heap s.heap [] := va_S.rf
  have hl := lv_entry ([.ref (ad 0), .int 3]) (n := 2) (Nat.le_of_ble_eq_true rfl)
  rw [lg_entry_eq]
  generalize (lg_sl ([.ref (ad 0), .int 3]) ++ List.replicate (2 - (lg_sl ([.ref (ad 0), .int 3])).length) Slot.unset).toArray = ls at hl ⊢
  have hl : lv_has ls 2 [(0, .ref (ad 0)), (1, .int 3)] := hl
  have winX0 : ∀ w ∈ u_ws RX0 TX0 6, w ∈ wsX8_manyAnswer := by decide +kernel
  have winX5 : ∀ w ∈ u_ws RX5 TX5 1, w ∈ wsX8_manyAnswer := by decide +kernel
  have winX6 : ∀ w ∈ u_ws RX6 TX6 9, w ∈ wsX8_manyAnswer := by decide +kernel
  have winX7 : ∀ w ∈ u_ws RX7 TX7 6, w ∈ wsX8_manyAnswer := by decide +kernel
  have winX8 : ∀ w ∈ u_ws RX8 TX8 9, w ∈ wsX8_manyAnswer := by decide +kernel
  refine lv_iload_n hx hb dX8_manyAnswer_0 rfl (lv_at hl 1 rfl) ?_
  refine lv_tableIn (off := 71) (tgt := 72) hx hb dX8_manyAnswer_1 (by decide) (by decide) (by decide) (by decide) ?_
  refine lv_aload_n hx hb dX8_manyAnswer_72 rfl (lv_at hl 0 rfl) ?_
  refine va_get (D := D) (ci := 8) (v := .ref (ad 30)) (C := RX8) (T := TX8) (N := 9) hx hb hts winX8 hown hK hP 0 rfl rfl 3 (by decide) (hts (.fieldLink RX8 33 "TapCap" "taps" "LTapCap$Taps;") (List.mem_of_getElem? (i := 3) rfl)) (fun _ h9 => h9) rfl dX8_manyAnswer_73 ?_
  refine va_get (D := D) (ci := 6) (v := .int (tc_0 45 6)) (C := RX6) (T := TX6) (N := 9) hx hb hts winX6 hown hK hP 30 rfl rfl 8 (by decide) (hts (.fieldLink RX8 159 "TapCap$Taps" "doubled" "I") (List.mem_of_getElem? (i := 6) rfl)) (fun _ h9 => h9) rfl dX8_manyAnswer_76 ?_
  exact g_iret hx hb hr rfl hlocks hK hP hD hS (by rfl) dX8_manyAnswer_79
set_option maxHeartbeats 4000000 in
set_option maxRecDepth 100000 in
theorem kMany_4 (l : Launch) (D : va_G) (ad : Nat → Nat) (cI : ClassId) (sz : Nat) : Met l yX8_manyAnswer wsX8_manyAnswer ({ frames := 2, cells := 0, slots := 0, locals := 60 } : Room) (g_P D [(cI, .int)] (tcW ad cI tc_0) [.ref (ad 0), .int 4] sz) (g_Qi D [(cI, .int)] (va_A (tcW ad cI tc_0) sz) (tcW ad cI tc_0) 0) 0 0 (va_A (tcW ad cI tc_0) sz) := by
  refine Met.ofW (cc := cX8_manyAnswer) (maxL := 2) (ret := (some .int)) (by decide) rfl ?_
  intro p e s m args below meth c9 s₁ B hml hv
  obtain ⟨rfl, hsz, hP, hK, hD0⟩ := hv
  have hx := B.exec
  have hb := B.bytes
  have hr := B.returns
  have hts := atoms_spec (ws := wsX8_manyAnswer) B.pre
  have hown : s.vm.findClass RX8 = some m.cls := findClass_of_methodNamed B.named
  have hlocks := B.notSynchronized
  subst hsz
  have hD := hD0.self (sz := s.heap.size)
  generalize hAe : va_A (tcW ad cI tc_0) s.heap.size = A at hD ⊢
  have hA : ∀ q : Nat, s.heap.size ≤ q → A q := fun q h => by rw [← hAe]; exact Or.inr h
  have hS : va_S A s.heap s.heap [] := va_S.rf
  have hl := lv_entry ([.ref (ad 0), .int 4]) (n := 2) (Nat.le_of_ble_eq_true rfl)
  rw [lg_entry_eq]
  generalize (lg_sl ([.ref (ad 0), .int 4]) ++ List.replicate (2 - (lg_sl ([.ref (ad 0), .int 4])).length) Slot.unset).toArray = ls at hl ⊢
  have hl : lv_has ls 2 [(0, .ref (ad 0)), (1, .int 4)] := hl
  have winX0 : ∀ w ∈ u_ws RX0 TX0 6, w ∈ wsX8_manyAnswer := by decide +kernel
  have winX5 : ∀ w ∈ u_ws RX5 TX5 1, w ∈ wsX8_manyAnswer := by decide +kernel
  have winX6 : ∀ w ∈ u_ws RX6 TX6 9, w ∈ wsX8_manyAnswer := by decide +kernel
  have winX7 : ∀ w ∈ u_ws RX7 TX7 6, w ∈ wsX8_manyAnswer := by decide +kernel
  have winX8 : ∀ w ∈ u_ws RX8 TX8 9, w ∈ wsX8_manyAnswer := by decide +kernel
  refine lv_iload_n hx hb dX8_manyAnswer_0 rfl (lv_at hl 1 rfl) ?_
  refine lv_tableIn (off := 79) (tgt := 80) hx hb dX8_manyAnswer_1 (by decide) (by decide) (by decide) (by decide) ?_
  refine lv_aload_n hx hb dX8_manyAnswer_80 rfl (lv_at hl 0 rfl) ?_
  refine va_get (D := D) (ci := 8) (v := .int (tc_0 45 0)) (C := RX8) (T := TX8) (N := 9) hx hb hts winX8 hown hK hP 0 rfl rfl 7 (by decide) (hts (.fieldLink RX8 58 "TapCap" "closedDays" "I") (List.mem_of_getElem? (i := 7) rfl)) (fun _ h9 => h9) rfl dX8_manyAnswer_81 ?_
  exact g_iret hx hb hr rfl hlocks hK hP hD hS (by rfl) dX8_manyAnswer_84
set_option maxHeartbeats 4000000 in
set_option maxRecDepth 100000 in
theorem kMany_5 (l : Launch) (D : va_G) (ad : Nat → Nat) (cI : ClassId) (sz : Nat) : Met l yX8_manyAnswer wsX8_manyAnswer ({ frames := 2, cells := 0, slots := 0, locals := 60 } : Room) (g_P D [(cI, .int)] (tcW ad cI tc_0) [.ref (ad 0), .int 5] sz) (g_Qi D [(cI, .int)] (va_A (tcW ad cI tc_0) sz) (tcW ad cI tc_0) 1) 0 0 (va_A (tcW ad cI tc_0) sz) := by
  refine Met.ofW (cc := cX8_manyAnswer) (maxL := 2) (ret := (some .int)) (by decide) rfl ?_
  intro p e s m args below meth c9 s₁ B hml hv
  obtain ⟨rfl, hsz, hP, hK, hD0⟩ := hv
  have hx := B.exec
  have hb := B.bytes
  have hr := B.returns
  have hts := atoms_spec (ws := wsX8_manyAnswer) B.pre
  have hown : s.vm.findClass RX8 = some m.cls := findClass_of_methodNamed B.named
  have hlocks := B.notSynchronized
  subst hsz
  have hD := hD0.self (sz := s.heap.size)
  generalize hAe : va_A (tcW ad cI tc_0) s.heap.size = A at hD ⊢
  have hA : ∀ q : Nat, s.heap.size ≤ q → A q := fun q h => by rw [← hAe]; exact Or.inr h
  have hS : va_S A s.heap s.heap [] := va_S.rf
  have hl := lv_entry ([.ref (ad 0), .int 5]) (n := 2) (Nat.le_of_ble_eq_true rfl)
  rw [lg_entry_eq]
  generalize (lg_sl ([.ref (ad 0), .int 5]) ++ List.replicate (2 - (lg_sl ([.ref (ad 0), .int 5])).length) Slot.unset).toArray = ls at hl ⊢
  have hl : lv_has ls 2 [(0, .ref (ad 0)), (1, .int 5)] := hl
  have winX0 : ∀ w ∈ u_ws RX0 TX0 6, w ∈ wsX8_manyAnswer := by decide +kernel
  have winX5 : ∀ w ∈ u_ws RX5 TX5 1, w ∈ wsX8_manyAnswer := by decide +kernel
  have winX6 : ∀ w ∈ u_ws RX6 TX6 9, w ∈ wsX8_manyAnswer := by decide +kernel
  have winX7 : ∀ w ∈ u_ws RX7 TX7 6, w ∈ wsX8_manyAnswer := by decide +kernel
  have winX8 : ∀ w ∈ u_ws RX8 TX8 9, w ∈ wsX8_manyAnswer := by decide +kernel
  refine lv_iload_n hx hb dX8_manyAnswer_0 rfl (lv_at hl 1 rfl) ?_
  refine lv_tableIn (off := 84) (tgt := 85) hx hb dX8_manyAnswer_1 (by decide) (by decide) (by decide) (by decide) ?_
  refine lv_aload_n hx hb dX8_manyAnswer_85 rfl (lv_at hl 0 rfl) ?_
  refine va_get (D := D) (ci := 8) (v := .ref (ad 8)) (C := RX8) (T := TX8) (N := 9) hx hb hts winX8 hown hK hP 0 rfl rfl 1 (by decide) (hts (.fieldLink RX8 19 "TapCap" "tariffs" "LTapCap$Tariffs;") (List.mem_of_getElem? (i := 8) rfl)) (fun _ h9 => h9) rfl dX8_manyAnswer_86 ?_
  refine va_get (D := D) (ci := 7) (v := .int (tc_0 45 2)) (C := RX7) (T := TX7) (N := 6) hx hb hts winX7 hown hK hP 8 rfl rfl 5 (by decide) (hts (.fieldLink RX8 89 "TapCap$Tariffs" "count" "I") (List.mem_of_getElem? (i := 9) rfl)) (fun _ h9 => h9) rfl dX8_manyAnswer_89 ?_
  exact g_iret hx hb hr rfl hlocks hK hP hD hS (by rfl) dX8_manyAnswer_92
set_option maxHeartbeats 4000000 in
set_option maxRecDepth 100000 in
theorem kMany_6 (l : Launch) (D : va_G) (ad : Nat → Nat) (cI : ClassId) (sz : Nat) : Met l yX8_manyAnswer wsX8_manyAnswer ({ frames := 2, cells := 0, slots := 0, locals := 60 } : Room) (g_P D [(cI, .int)] (tcW ad cI tc_0) [.ref (ad 0), .int 6] sz) (g_Qi D [(cI, .int)] (va_A (tcW ad cI tc_0) sz) (tcW ad cI tc_0) 0) 0 0 (va_A (tcW ad cI tc_0) sz) := by
  refine Met.ofW (cc := cX8_manyAnswer) (maxL := 2) (ret := (some .int)) (by decide) rfl ?_
  intro p e s m args below meth c9 s₁ B hml hv
  obtain ⟨rfl, hsz, hP, hK, hD0⟩ := hv
  have hx := B.exec
  have hb := B.bytes
  have hr := B.returns
  have hts := atoms_spec (ws := wsX8_manyAnswer) B.pre
  have hown : s.vm.findClass RX8 = some m.cls := findClass_of_methodNamed B.named
  have hlocks := B.notSynchronized
  subst hsz
  have hD := hD0.self (sz := s.heap.size)
  generalize hAe : va_A (tcW ad cI tc_0) s.heap.size = A at hD ⊢
  have hA : ∀ q : Nat, s.heap.size ≤ q → A q := fun q h => by rw [← hAe]; exact Or.inr h
  have hS : va_S A s.heap s.heap [] := va_S.rf
  have hl := lv_entry ([.ref (ad 0), .int 6]) (n := 2) (Nat.le_of_ble_eq_true rfl)
  rw [lg_entry_eq]
  generalize (lg_sl ([.ref (ad 0), .int 6]) ++ List.replicate (2 - (lg_sl ([.ref (ad 0), .int 6])).length) Slot.unset).toArray = ls at hl ⊢
  have hl : lv_has ls 2 [(0, .ref (ad 0)), (1, .int 6)] := hl
  have winX0 : ∀ w ∈ u_ws RX0 TX0 6, w ∈ wsX8_manyAnswer := by decide +kernel
  have winX5 : ∀ w ∈ u_ws RX5 TX5 1, w ∈ wsX8_manyAnswer := by decide +kernel
  have winX6 : ∀ w ∈ u_ws RX6 TX6 9, w ∈ wsX8_manyAnswer := by decide +kernel
  have winX7 : ∀ w ∈ u_ws RX7 TX7 6, w ∈ wsX8_manyAnswer := by decide +kernel
  have winX8 : ∀ w ∈ u_ws RX8 TX8 9, w ∈ wsX8_manyAnswer := by decide +kernel
  refine lv_iload_n hx hb dX8_manyAnswer_0 rfl (lv_at hl 1 rfl) ?_
  refine lv_tableIn (off := 92) (tgt := 93) hx hb dX8_manyAnswer_1 (by decide) (by decide) (by decide) (by decide) ?_
  refine lv_aload_n hx hb dX8_manyAnswer_93 rfl (lv_at hl 0 rfl) ?_
  refine va_get (D := D) (ci := 8) (v := .ref (ad 19)) (C := RX8) (T := TX8) (N := 9) hx hb hts winX8 hown hK hP 0 rfl rfl 2 (by decide) (hts (.fieldLink RX8 26 "TapCap" "cards" "LTapCap$Cards;") (List.mem_of_getElem? (i := 1) rfl)) (fun _ h9 => h9) rfl dX8_manyAnswer_94 ?_
  refine va_get (D := D) (ci := 0) (v := .ref (ad 20)) (C := RX0) (T := TX0) (N := 6) hx hb hts winX0 hown hK hP 19 rfl rfl 0 (by decide) (hts (.fieldLink RX8 137 "TapCap$Cards" "purse" "LTapCap$Row;") (List.mem_of_getElem? (i := 10) rfl)) (fun _ h9 => h9) rfl dX8_manyAnswer_97 ?_
  refine g_ki hK hD hS hA (va_runV (As := []) (rest := []) ⟨hx, hb, hml, hown, hts⟩ (c_tc_sum l D ad cI tc_0 s.heap.size 8 (by decide) ) (cwV 0 hts gX8_manyAnswer_X5_sum rfl rfl rfl (by decide +kernel) ⟨Nat.le_of_ble_eq_true rfl, Nat.le_of_ble_eq_true rfl⟩) (g_preV hK hP hD (ci := 5) (q0 := 20) rfl rfl) rfl rfl hl.1 rfl (lv_room (Nat.le_of_ble_eq_true rfl)) dX8_manyAnswer_100 ⟨Nat.le_of_ble_eq_true rfl, Nat.le_of_ble_eq_true rfl⟩) (fun H locs hP hD hS => ?_)
  exact g_iret hx hb hr rfl hlocks hK hP hD hS (by rfl) dX8_manyAnswer_103
set_option maxHeartbeats 4000000 in
set_option maxRecDepth 100000 in
theorem kMany_7 (l : Launch) (D : va_G) (ad : Nat → Nat) (cI : ClassId) (sz : Nat) : Met l yX8_manyAnswer wsX8_manyAnswer ({ frames := 2, cells := 0, slots := 0, locals := 60 } : Room) (g_P D [(cI, .int)] (tcW ad cI tc_0) [.ref (ad 0), .int 7] sz) (g_Qi D [(cI, .int)] (va_A (tcW ad cI tc_0) sz) (tcW ad cI tc_0) 0) 0 0 (va_A (tcW ad cI tc_0) sz) := by
  refine Met.ofW (cc := cX8_manyAnswer) (maxL := 2) (ret := (some .int)) (by decide) rfl ?_
  intro p e s m args below meth c9 s₁ B hml hv
  obtain ⟨rfl, hsz, hP, hK, hD0⟩ := hv
  have hx := B.exec
  have hb := B.bytes
  have hr := B.returns
  have hts := atoms_spec (ws := wsX8_manyAnswer) B.pre
  have hown : s.vm.findClass RX8 = some m.cls := findClass_of_methodNamed B.named
  have hlocks := B.notSynchronized
  subst hsz
  have hD := hD0.self (sz := s.heap.size)
  generalize hAe : va_A (tcW ad cI tc_0) s.heap.size = A at hD ⊢
  have hA : ∀ q : Nat, s.heap.size ≤ q → A q := fun q h => by rw [← hAe]; exact Or.inr h
  have hS : va_S A s.heap s.heap [] := va_S.rf
  have hl := lv_entry ([.ref (ad 0), .int 7]) (n := 2) (Nat.le_of_ble_eq_true rfl)
  rw [lg_entry_eq]
  generalize (lg_sl ([.ref (ad 0), .int 7]) ++ List.replicate (2 - (lg_sl ([.ref (ad 0), .int 7])).length) Slot.unset).toArray = ls at hl ⊢
  have hl : lv_has ls 2 [(0, .ref (ad 0)), (1, .int 7)] := hl
  have winX0 : ∀ w ∈ u_ws RX0 TX0 6, w ∈ wsX8_manyAnswer := by decide +kernel
  have winX5 : ∀ w ∈ u_ws RX5 TX5 1, w ∈ wsX8_manyAnswer := by decide +kernel
  have winX6 : ∀ w ∈ u_ws RX6 TX6 9, w ∈ wsX8_manyAnswer := by decide +kernel
  have winX7 : ∀ w ∈ u_ws RX7 TX7 6, w ∈ wsX8_manyAnswer := by decide +kernel
  have winX8 : ∀ w ∈ u_ws RX8 TX8 9, w ∈ wsX8_manyAnswer := by decide +kernel
  refine lv_iload_n hx hb dX8_manyAnswer_0 rfl (lv_at hl 1 rfl) ?_
  refine lv_tableIn (off := 103) (tgt := 104) hx hb dX8_manyAnswer_1 (by decide) (by decide) (by decide) (by decide) ?_
  refine lv_aload_n hx hb dX8_manyAnswer_104 rfl (lv_at hl 0 rfl) ?_
  refine va_get (D := D) (ci := 8) (v := .ref (ad 19)) (C := RX8) (T := TX8) (N := 9) hx hb hts winX8 hown hK hP 0 rfl rfl 2 (by decide) (hts (.fieldLink RX8 26 "TapCap" "cards" "LTapCap$Cards;") (List.mem_of_getElem? (i := 1) rfl)) (fun _ h9 => h9) rfl dX8_manyAnswer_105 ?_
  refine va_get (D := D) (ci := 0) (v := .ref (ad 26)) (C := RX0) (T := TX0) (N := 6) hx hb hts winX0 hown hK hP 19 rfl rfl 3 (by decide) (hts (.fieldLink RX8 271 "TapCap$Cards" "charged" "LTapCap$Row;") (List.mem_of_getElem? (i := 11) rfl)) (fun _ h9 => h9) rfl dX8_manyAnswer_108 ?_
  refine g_ki hK hD hS hA (va_runV (As := []) (rest := []) ⟨hx, hb, hml, hown, hts⟩ (c_tc_sum l D ad cI tc_0 s.heap.size 11 (by decide) ) (cwV 0 hts gX8_manyAnswer_X5_sum rfl rfl rfl (by decide +kernel) ⟨Nat.le_of_ble_eq_true rfl, Nat.le_of_ble_eq_true rfl⟩) (g_preV hK hP hD (ci := 5) (q0 := 26) rfl rfl) rfl rfl hl.1 rfl (lv_room (Nat.le_of_ble_eq_true rfl)) dX8_manyAnswer_111 ⟨Nat.le_of_ble_eq_true rfl, Nat.le_of_ble_eq_true rfl⟩) (fun H locs hP hD hS => ?_)
  exact g_iret hx hb hr rfl hlocks hK hP hD hS (by rfl) dX8_manyAnswer_114
set_option maxHeartbeats 4000000 in
set_option maxRecDepth 100000 in
theorem kMany_8 (l : Launch) (D : va_G) (ad : Nat → Nat) (cI : ClassId) (sz : Nat) : Met l yX8_manyAnswer wsX8_manyAnswer ({ frames := 2, cells := 0, slots := 0, locals := 60 } : Room) (g_P D [(cI, .int)] (tcW ad cI tc_0) [.ref (ad 0), .int 8] sz) (g_Qi D [(cI, .int)] (va_A (tcW ad cI tc_0) sz) (tcW ad cI tc_0) 0) 0 0 (va_A (tcW ad cI tc_0) sz) := by
  refine Met.ofW (cc := cX8_manyAnswer) (maxL := 2) (ret := (some .int)) (by decide) rfl ?_
  intro p e s m args below meth c9 s₁ B hml hv
  obtain ⟨rfl, hsz, hP, hK, hD0⟩ := hv
  have hx := B.exec
  have hb := B.bytes
  have hr := B.returns
  have hts := atoms_spec (ws := wsX8_manyAnswer) B.pre
  have hown : s.vm.findClass RX8 = some m.cls := findClass_of_methodNamed B.named
  have hlocks := B.notSynchronized
  subst hsz
  have hD := hD0.self (sz := s.heap.size)
  generalize hAe : va_A (tcW ad cI tc_0) s.heap.size = A at hD ⊢
  have hA : ∀ q : Nat, s.heap.size ≤ q → A q := fun q h => by rw [← hAe]; exact Or.inr h
  have hS : va_S A s.heap s.heap [] := va_S.rf
  have hl := lv_entry ([.ref (ad 0), .int 8]) (n := 2) (Nat.le_of_ble_eq_true rfl)
  rw [lg_entry_eq]
  generalize (lg_sl ([.ref (ad 0), .int 8]) ++ List.replicate (2 - (lg_sl ([.ref (ad 0), .int 8])).length) Slot.unset).toArray = ls at hl ⊢
  have hl : lv_has ls 2 [(0, .ref (ad 0)), (1, .int 8)] := hl
  have winX0 : ∀ w ∈ u_ws RX0 TX0 6, w ∈ wsX8_manyAnswer := by decide +kernel
  have winX5 : ∀ w ∈ u_ws RX5 TX5 1, w ∈ wsX8_manyAnswer := by decide +kernel
  have winX6 : ∀ w ∈ u_ws RX6 TX6 9, w ∈ wsX8_manyAnswer := by decide +kernel
  have winX7 : ∀ w ∈ u_ws RX7 TX7 6, w ∈ wsX8_manyAnswer := by decide +kernel
  have winX8 : ∀ w ∈ u_ws RX8 TX8 9, w ∈ wsX8_manyAnswer := by decide +kernel
  refine lv_iload_n hx hb dX8_manyAnswer_0 rfl (lv_at hl 1 rfl) ?_
  refine lv_tableOut (tgt := 115) hx hb dX8_manyAnswer_1 (by decide) (by decide) ?_
  refine lv_aload_n hx hb dX8_manyAnswer_115 rfl (lv_at hl 0 rfl) ?_
  refine va_get (D := D) (ci := 8) (v := .int (tc_0 45 1)) (C := RX8) (T := TX8) (N := 9) hx hb hts winX8 hown hK hP 0 rfl rfl 8 (by decide) (hts (.fieldLink RX8 62 "TapCap" "refunded" "I") (List.mem_of_getElem? (i := 12) rfl)) (fun _ h9 => h9) rfl dX8_manyAnswer_116 ?_
  exact g_iret hx hb hr rfl hlocks hK hP hD hS (by rfl) dX8_manyAnswer_119
theorem r08 {x : Int32} (h : in_R x 0 8) : x = 0 ∨ x = 1 ∨ x = 2 ∨ x = 3 ∨ x = 4 ∨ x = 5 ∨ x = 6 ∨ x = 7 ∨ x = 8 := by
  obtain ⟨h1, h2⟩ := h
  rw [Int32.lt_iff_toInt_lt, z_int] at h1
  rw [Int32.le_iff_toInt_le] at h2
  have e : (8 : Int32).toInt = 8 := by decide
  have h3 : x.toInt = 0 ∨ x.toInt = 1 ∨ x.toInt = 2 ∨ x.toInt = 3 ∨ x.toInt = 4 ∨ x.toInt = 5 ∨ x.toInt = 6 ∨ x.toInt = 7 ∨ x.toInt = 8 := by omega
  rcases h3 with h | h | h | h | h | h | h | h | h
  · exact Or.inl (Int32.toInt_inj.mp (h.trans (by decide)))
  · exact Or.inr (Or.inl (Int32.toInt_inj.mp (h.trans (by decide))))
  · exact Or.inr (Or.inr (Or.inl (Int32.toInt_inj.mp (h.trans (by decide)))))
  · exact Or.inr (Or.inr (Or.inr (Or.inl (Int32.toInt_inj.mp (h.trans (by decide))))))
  · exact Or.inr (Or.inr (Or.inr (Or.inr (Or.inl (Int32.toInt_inj.mp (h.trans (by decide)))))))
  · exact Or.inr (Or.inr (Or.inr (Or.inr (Or.inr (Or.inl (Int32.toInt_inj.mp (h.trans (by decide))))))))
  · exact Or.inr (Or.inr (Or.inr (Or.inr (Or.inr (Or.inr (Or.inl (Int32.toInt_inj.mp (h.trans (by decide)))))))))
  · exact Or.inr (Or.inr (Or.inr (Or.inr (Or.inr (Or.inr (Or.inr (Or.inl (Int32.toInt_inj.mp (h.trans (by decide))))))))))
  · exact Or.inr (Or.inr (Or.inr (Or.inr (Or.inr (Or.inr (Or.inr (Or.inr ((Int32.toInt_inj.mp (h.trans (by decide)))))))))))
def many_0 (x : Int32) : Int32 := if x = 5 then 1 else 0
set_option maxHeartbeats 4000000 in
set_option maxRecDepth 100000 in
theorem o_many (l : Launch) (hfl : l.stackTraces = false) (D : va_G) (ad : Nat → Nat) (cI : ClassId) (sz : Nat) (x0 : Int32) (sa : Nat → Nat) : vx_Met l yX8_many wsX8_many ({ frames := 10, cells := 1, slots := 6, locals := 300 } : Room) (h_P D [(cI, .int)] (tcW ad cI tc_0) [.ref (ad 0), .int x0] sz sa) (o_Qi (va_A (tcW ad cI tc_0) sz) (fun r => r = many_0 x0 ∧ in_R x0 0 8)) (o_X (va_A (tcW ad cI tc_0) sz) (fun E => (E = ex_IA ∧ (¬ in_R x0 0 8)))) 1 6 (va_A (tcW ad cI tc_0) sz) := by
  refine vx_ofW (cc := cX8_many) (maxL := 2) (ret := (some .int)) (by decide) rfl ?_
  intro p e s m args below meth c9 s₁ B hml htab hv
  obtain ⟨rfl, hE, hZ, hsz, hP, hK, hD0⟩ := hv
  have hx := B.exec
  have hb := B.bytes
  have hr := B.returns
  have hts := atoms_spec (ws := wsX8_many) B.pre
  have hown : s.vm.findClass RX8 = some m.cls := findClass_of_methodNamed B.named
  have hlocks := B.notSynchronized
  subst hsz
  have hD := hD0.self (sz := s.heap.size)
  generalize hAe : va_A (tcW ad cI tc_0) s.heap.size = A at hD hZ ⊢
  have hA : ∀ q : Nat, s.heap.size ≤ q → A q := fun q h => by rw [← hAe]; exact Or.inr h
  have hS : va_S A s.heap s.heap [] := va_S.rf
  have hl := lv_entry ([.ref (ad 0), .int x0]) (n := 2) (Nat.le_of_ble_eq_true rfl)
  rw [lg_entry_eq]
  generalize (lg_sl ([.ref (ad 0), .int x0]) ++ List.replicate (2 - (lg_sl ([.ref (ad 0), .int x0])).length) Slot.unset).toArray = ls at hl ⊢
  have hl : lv_has ls 2 [(0, .ref (ad 0)), (1, .int x0)] := hl
  have winX0 : ∀ w ∈ u_ws RX0 TX0 6, w ∈ wsX8_many := by decide +kernel
  have winX5 : ∀ w ∈ u_ws RX5 TX5 1, w ∈ wsX8_many := by decide +kernel
  have winX6 : ∀ w ∈ u_ws RX6 TX6 9, w ∈ wsX8_many := by decide +kernel
  have winX7 : ∀ w ∈ u_ws RX7 TX7 6, w ∈ wsX8_many := by decide +kernel
  have winX8 : ∀ w ∈ u_ws RX8 TX8 9, w ∈ wsX8_many := by decide +kernel
  refine lv_iload_n hx hb dX8_many_0 rfl (lv_at hl 1 rfl) ?_
  refine lv_iconst (v := 0) hx hb dX8_many_1 (by decide) ?_
  refine lv_bipush (v := 8) hx hb dX8_many_2 (by decide) ?_
  refine h_kv hK hD hS hA (vx_runS (As := [.int x0, .int 0, .int 8]) (rest := []) ⟨hx, hb, hml, hown, hts⟩ (h_needRange l hfl D [(cI, .int)] (tcW ad cI tc_0) s.heap.size x0 0 8 sa) (cwS 3 hts gX8_many_X8_needRange rfl rfl rfl (by decide +kernel) ⟨Nat.le_of_ble_eq_true rfl, Nat.le_of_ble_eq_true rfl⟩) (h_preS hE hZ hK hP hD hS hA) rfl rfl hl.1 rfl (lv_room (Nat.le_of_ble_eq_true rfl)) dX8_many_4 ⟨Nat.le_of_ble_eq_true rfl, Nat.le_of_ble_eq_true rfl⟩) (fun E ce q9 H locs hex hP hD hS hce hcv hcl => ?_) (fun H locs ok_49 hP hD hS => ?_)
  · exact o_out htab hlocks hS hce hcv hcl (⟨hex.1, hex.2⟩) (Nat.le_of_ble_eq_true rfl) (Nat.le_of_ble_eq_true rfl)
  refine lv_aload_n hx hb dX8_many_7 rfl (lv_at hl 0 rfl) ?_
  refine lv_iload_n hx hb dX8_many_8 rfl (lv_at hl 1 rfl) ?_
  rcases r08 ok_49 with rfl | rfl | rfl | rfl | rfl | rfl | rfl | rfl | rfl
  · refine g_ki hK hD hS hA (va_runV (As := [.int 0]) (rest := []) ⟨hx, hb, hml, hown, hts⟩ (kMany_0 l D ad cI H.size) (cwV 1 hts gX8_many_X8_manyAnswer rfl rfl rfl (by decide +kernel) ⟨Nat.le_of_ble_eq_true rfl, Nat.le_of_ble_eq_true rfl⟩) (g_preV hK hP hD (ci := 8) (q0 := 0) rfl rfl) rfl rfl hl.1 rfl (lv_room (Nat.le_of_ble_eq_true rfl)) dX8_many_9 ⟨Nat.le_of_ble_eq_true rfl, Nat.le_of_ble_eq_true rfl⟩) (fun H locs hP hD hS => ?_)
    exact o_iret ⟨by decide, ok_49⟩ hx hb hr rfl hlocks hS dX8_many_12 (Nat.le_of_ble_eq_true rfl) (Nat.le_of_ble_eq_true rfl)
  · refine g_ki hK hD hS hA (va_runV (As := [.int 1]) (rest := []) ⟨hx, hb, hml, hown, hts⟩ (kMany_1 l D ad cI H.size) (cwV 1 hts gX8_many_X8_manyAnswer rfl rfl rfl (by decide +kernel) ⟨Nat.le_of_ble_eq_true rfl, Nat.le_of_ble_eq_true rfl⟩) (g_preV hK hP hD (ci := 8) (q0 := 0) rfl rfl) rfl rfl hl.1 rfl (lv_room (Nat.le_of_ble_eq_true rfl)) dX8_many_9 ⟨Nat.le_of_ble_eq_true rfl, Nat.le_of_ble_eq_true rfl⟩) (fun H locs hP hD hS => ?_)
    exact o_iret ⟨by decide, ok_49⟩ hx hb hr rfl hlocks hS dX8_many_12 (Nat.le_of_ble_eq_true rfl) (Nat.le_of_ble_eq_true rfl)
  · refine g_ki hK hD hS hA (va_runV (As := [.int 2]) (rest := []) ⟨hx, hb, hml, hown, hts⟩ (kMany_2 l D ad cI H.size) (cwV 1 hts gX8_many_X8_manyAnswer rfl rfl rfl (by decide +kernel) ⟨Nat.le_of_ble_eq_true rfl, Nat.le_of_ble_eq_true rfl⟩) (g_preV hK hP hD (ci := 8) (q0 := 0) rfl rfl) rfl rfl hl.1 rfl (lv_room (Nat.le_of_ble_eq_true rfl)) dX8_many_9 ⟨Nat.le_of_ble_eq_true rfl, Nat.le_of_ble_eq_true rfl⟩) (fun H locs hP hD hS => ?_)
    exact o_iret ⟨by decide, ok_49⟩ hx hb hr rfl hlocks hS dX8_many_12 (Nat.le_of_ble_eq_true rfl) (Nat.le_of_ble_eq_true rfl)
  · refine g_ki hK hD hS hA (va_runV (As := [.int 3]) (rest := []) ⟨hx, hb, hml, hown, hts⟩ (kMany_3 l D ad cI H.size) (cwV 1 hts gX8_many_X8_manyAnswer rfl rfl rfl (by decide +kernel) ⟨Nat.le_of_ble_eq_true rfl, Nat.le_of_ble_eq_true rfl⟩) (g_preV hK hP hD (ci := 8) (q0 := 0) rfl rfl) rfl rfl hl.1 rfl (lv_room (Nat.le_of_ble_eq_true rfl)) dX8_many_9 ⟨Nat.le_of_ble_eq_true rfl, Nat.le_of_ble_eq_true rfl⟩) (fun H locs hP hD hS => ?_)
    exact o_iret ⟨by decide, ok_49⟩ hx hb hr rfl hlocks hS dX8_many_12 (Nat.le_of_ble_eq_true rfl) (Nat.le_of_ble_eq_true rfl)
  · refine g_ki hK hD hS hA (va_runV (As := [.int 4]) (rest := []) ⟨hx, hb, hml, hown, hts⟩ (kMany_4 l D ad cI H.size) (cwV 1 hts gX8_many_X8_manyAnswer rfl rfl rfl (by decide +kernel) ⟨Nat.le_of_ble_eq_true rfl, Nat.le_of_ble_eq_true rfl⟩) (g_preV hK hP hD (ci := 8) (q0 := 0) rfl rfl) rfl rfl hl.1 rfl (lv_room (Nat.le_of_ble_eq_true rfl)) dX8_many_9 ⟨Nat.le_of_ble_eq_true rfl, Nat.le_of_ble_eq_true rfl⟩) (fun H locs hP hD hS => ?_)
    exact o_iret ⟨by decide, ok_49⟩ hx hb hr rfl hlocks hS dX8_many_12 (Nat.le_of_ble_eq_true rfl) (Nat.le_of_ble_eq_true rfl)
  · refine g_ki hK hD hS hA (va_runV (As := [.int 5]) (rest := []) ⟨hx, hb, hml, hown, hts⟩ (kMany_5 l D ad cI H.size) (cwV 1 hts gX8_many_X8_manyAnswer rfl rfl rfl (by decide +kernel) ⟨Nat.le_of_ble_eq_true rfl, Nat.le_of_ble_eq_true rfl⟩) (g_preV hK hP hD (ci := 8) (q0 := 0) rfl rfl) rfl rfl hl.1 rfl (lv_room (Nat.le_of_ble_eq_true rfl)) dX8_many_9 ⟨Nat.le_of_ble_eq_true rfl, Nat.le_of_ble_eq_true rfl⟩) (fun H locs hP hD hS => ?_)
    exact o_iret ⟨by decide, ok_49⟩ hx hb hr rfl hlocks hS dX8_many_12 (Nat.le_of_ble_eq_true rfl) (Nat.le_of_ble_eq_true rfl)
  · refine g_ki hK hD hS hA (va_runV (As := [.int 6]) (rest := []) ⟨hx, hb, hml, hown, hts⟩ (kMany_6 l D ad cI H.size) (cwV 1 hts gX8_many_X8_manyAnswer rfl rfl rfl (by decide +kernel) ⟨Nat.le_of_ble_eq_true rfl, Nat.le_of_ble_eq_true rfl⟩) (g_preV hK hP hD (ci := 8) (q0 := 0) rfl rfl) rfl rfl hl.1 rfl (lv_room (Nat.le_of_ble_eq_true rfl)) dX8_many_9 ⟨Nat.le_of_ble_eq_true rfl, Nat.le_of_ble_eq_true rfl⟩) (fun H locs hP hD hS => ?_)
    exact o_iret ⟨by decide, ok_49⟩ hx hb hr rfl hlocks hS dX8_many_12 (Nat.le_of_ble_eq_true rfl) (Nat.le_of_ble_eq_true rfl)
  · refine g_ki hK hD hS hA (va_runV (As := [.int 7]) (rest := []) ⟨hx, hb, hml, hown, hts⟩ (kMany_7 l D ad cI H.size) (cwV 1 hts gX8_many_X8_manyAnswer rfl rfl rfl (by decide +kernel) ⟨Nat.le_of_ble_eq_true rfl, Nat.le_of_ble_eq_true rfl⟩) (g_preV hK hP hD (ci := 8) (q0 := 0) rfl rfl) rfl rfl hl.1 rfl (lv_room (Nat.le_of_ble_eq_true rfl)) dX8_many_9 ⟨Nat.le_of_ble_eq_true rfl, Nat.le_of_ble_eq_true rfl⟩) (fun H locs hP hD hS => ?_)
    exact o_iret ⟨by decide, ok_49⟩ hx hb hr rfl hlocks hS dX8_many_12 (Nat.le_of_ble_eq_true rfl) (Nat.le_of_ble_eq_true rfl)
  · refine g_ki hK hD hS hA (va_runV (As := [.int 8]) (rest := []) ⟨hx, hb, hml, hown, hts⟩ (kMany_8 l D ad cI H.size) (cwV 1 hts gX8_many_X8_manyAnswer rfl rfl rfl (by decide +kernel) ⟨Nat.le_of_ble_eq_true rfl, Nat.le_of_ble_eq_true rfl⟩) (g_preV hK hP hD (ci := 8) (q0 := 0) rfl rfl) rfl rfl hl.1 rfl (lv_room (Nat.le_of_ble_eq_true rfl)) dX8_many_9 ⟨Nat.le_of_ble_eq_true rfl, Nat.le_of_ble_eq_true rfl⟩) (fun H locs hP hD hS => ?_)
    exact o_iret ⟨by decide, ok_49⟩ hx hb hr rfl hlocks hS dX8_many_12 (Nat.le_of_ble_eq_true rfl) (Nat.le_of_ble_eq_true rfl)
set_option maxHeartbeats 4000000 in
set_option maxRecDepth 100000 in
theorem o_meanFare (l : Launch) (hfl : l.stackTraces = false) (D : va_G) (ad : Nat → Nat) (cI : ClassId) (sz : Nat) (x0 : Int32) (sa : Nat → Nat) : vx_Met l yX8_meanFare wsX8_meanFare ({ frames := 10, cells := 1, slots := 6, locals := 300 } : Room) (h_P D [(cI, .int)] (tcW ad cI tc_0) [.ref (ad 0), .int x0] sz sa) (o_Qd (va_A (tcW ad cI tc_0) sz) (fun r => r = FP.dconst0 ∧ (in_N x0 28))) (o_X (va_A (tcW ad cI tc_0) sz) (fun E => (E = ex_IX ∧ (¬ in_N x0 28)))) 1 6 (va_A (tcW ad cI tc_0) sz) := by
  refine vx_ofW (cc := cX8_meanFare) (maxL := 5) (ret := (some .double)) (by decide) rfl ?_
  intro p e s m args below meth c9 s₁ B hml htab hv
  obtain ⟨rfl, hE, hZ, hsz, hP, hK, hD0⟩ := hv
  have hx := B.exec
  have hb := B.bytes
  have hr := B.returns
  have hts := atoms_spec (ws := wsX8_meanFare) B.pre
  have hown : s.vm.findClass RX8 = some m.cls := findClass_of_methodNamed B.named
  have hlocks := B.notSynchronized
  subst hsz
  have hD := hD0.self (sz := s.heap.size)
  generalize hAe : va_A (tcW ad cI tc_0) s.heap.size = A at hD hZ ⊢
  have hA : ∀ q : Nat, s.heap.size ≤ q → A q := fun q h => by rw [← hAe]; exact Or.inr h
  have hS : va_S A s.heap s.heap [] := va_S.rf
  have hl := lv_entry ([.ref (ad 0), .int x0]) (n := 5) (Nat.le_of_ble_eq_true rfl)
  rw [lg_entry_eq]
  generalize (lg_sl ([.ref (ad 0), .int x0]) ++ List.replicate (5 - (lg_sl ([.ref (ad 0), .int x0])).length) Slot.unset).toArray = ls at hl ⊢
  have hl : lv_has ls 5 [(0, .ref (ad 0)), (1, .int x0)] := hl
  have winX0 : ∀ w ∈ u_ws RX0 TX0 6, w ∈ wsX8_meanFare := by decide +kernel
  have winX1 : ∀ w ∈ u_ws RX1 TX1 4, w ∈ wsX8_meanFare := by decide +kernel
  have winX2 : ∀ w ∈ u_ws RX2 TX2 10, w ∈ wsX8_meanFare := by decide +kernel
  have winX3 : ∀ w ∈ u_ws RX3 TX3 15, w ∈ wsX8_meanFare := by decide +kernel
  have winX4 : ∀ w ∈ u_ws RX4 TX4 3, w ∈ wsX8_meanFare := by decide +kernel
  have winX5 : ∀ w ∈ u_ws RX5 TX5 1, w ∈ wsX8_meanFare := by decide +kernel
  have winX6 : ∀ w ∈ u_ws RX6 TX6 9, w ∈ wsX8_meanFare := by decide +kernel
  have winX7 : ∀ w ∈ u_ws RX7 TX7 6, w ∈ wsX8_meanFare := by decide +kernel
  have winX8 : ∀ w ∈ u_ws RX8 TX8 9, w ∈ wsX8_meanFare := by decide +kernel
  refine lv_iload_n hx hb dX8_meanFare_0 rfl (lv_at hl 1 rfl) ?_
  refine lv_bipush (v := 28) hx hb dX8_meanFare_1 (by decide) ?_
  refine h_kv hK hD hS hA (vx_runS (As := [.int x0, .int 28]) (rest := []) ⟨hx, hb, hml, hown, hts⟩ (h_needNumber l hfl D [(cI, .int)] (tcW ad cI tc_0) s.heap.size x0 28 sa) (cwS 2 hts gX8_meanFare_X8_needNumber rfl rfl rfl (by decide +kernel) ⟨Nat.le_of_ble_eq_true rfl, Nat.le_of_ble_eq_true rfl⟩) (h_preS hE hZ hK hP hD hS hA) rfl rfl hl.1 rfl (lv_room (Nat.le_of_ble_eq_true rfl)) dX8_meanFare_3 ⟨Nat.le_of_ble_eq_true rfl, Nat.le_of_ble_eq_true rfl⟩) (fun E ce q9 H locs hex hP hD hS hce hcv hcl => ?_) (fun H locs ok_50 hP hD hS => ?_)
  · exact o_out htab hlocks hS hce hcv hcl (⟨hex.1, hex.2⟩) (Nat.le_of_ble_eq_true rfl) (Nat.le_of_ble_eq_true rfl)
  refine lv_iconst (v := 0) hx hb dX8_meanFare_6 (by decide) ?_
  refine lv_istore_n (lv' := [(2, .int 0), (0, .ref (ad 0)), (1, .int x0)]) hx hb dX8_meanFare_7 rfl hl (by decide) rfl (fun ls hl => ?_)
  refine lv_iconst (v := 0) hx hb dX8_meanFare_8 (by decide) ?_
  refine lv_istore_n (lv' := [(3, .int 0), (2, .int 0), (0, .ref (ad 0)), (1, .int x0)]) hx hb dX8_meanFare_9 rfl hl (by decide) rfl (fun ls hl => ?_)
  refine lv_iconst (v := 0) hx hb dX8_meanFare_10 (by decide) ?_
  refine lv_istore (lv' := [(4, .int 0), (3, .int 0), (2, .int 0), (0, .ref (ad 0)), (1, .int x0)]) hx hb dX8_meanFare_11 hl (by decide) rfl (fun ls hl => ?_)
  refine lv_iload hx hb dX8_meanFare_13 (lv_at hl 0 rfl) ?_
  refine lv_aload_n hx hb dX8_meanFare_15 rfl (lv_at hl 3 rfl) ?_
  refine va_get (D := D) (ci := 8) (v := .ref (ad 19)) (C := RX8) (T := TX8) (N := 9) hx hb hts winX8 hown hK hP 0 rfl rfl 2 (by decide) (hts (.fieldLink RX8 26 "TapCap" "cards" "LTapCap$Cards;") (List.mem_of_getElem? (i := 1) rfl)) (fun _ h9 => h9) rfl dX8_meanFare_16 ?_
  refine va_get (D := D) (ci := 0) (v := .int (tc_0 45 3)) (C := RX0) (T := TX0) (N := 6) hx hb hts winX0 hown hK hP 19 rfl rfl 5 (by decide) (hts (.fieldLink RX8 103 "TapCap$Cards" "count" "I") (List.mem_of_getElem? (i := 2) rfl)) (fun _ h9 => h9) rfl dX8_meanFare_19 ?_
  refine lv_icmp_ge (tgt := 83) hx hb dX8_meanFare_22 (by decide) (fun c_51 => ?_) (fun c_51 => ?_)
  · refine lv_iload_n hx hb dX8_meanFare_83 rfl (lv_at hl 1 rfl) ?_
    refine lv_if_le (tgt := 95) hx hb dX8_meanFare_84 (by decide) (fun c_52 => ?_) (fun c_52 => ?_)
    · refine lv_dconst0 hx hb dX8_meanFare_95 ?_
      refine o_dret ?_ hx hb hr hlocks hS dX8_meanFare_96 (Nat.le_of_ble_eq_true rfl) (Nat.le_of_ble_eq_true rfl)
      exact ⟨rfl, ok_50⟩
    · exact absurd (by decide) c_52
  · exact absurd (by decide) c_51
def digest_0 : Int64 := ((((((((4806 * 31 + 0) * 31 + 0) * 31 + 0) * 31 + 0) * 31 + 0) * 31 + 1) * 31 + 0) * 31 + 0) * 31 + 0
set_option maxHeartbeats 4000000 in
set_option maxRecDepth 100000 in
theorem o_digest (l : Launch) (hfl : l.stackTraces = false) (D : va_G) (ad : Nat → Nat) (cI : ClassId) (sz : Nat) (sa : Nat → Nat) : vx_Met l yX8_digest wsX8_digest ({ frames := 10, cells := 0, slots := 0, locals := 300 } : Room) (h_P D [(cI, .int)] (tcW ad cI tc_0) [.ref (ad 0)] sz sa) (o_Ql (va_A (tcW ad cI tc_0) sz) (fun r => r = digest_0 ∧ True)) (o_X (va_A (tcW ad cI tc_0) sz) (fun _ => False)) 0 0 (va_A (tcW ad cI tc_0) sz) := by
  refine vx_ofW (cc := cX8_digest) (maxL := 5) (ret := (some .long)) (by decide) rfl ?_
  intro p e s m args below meth c9 s₁ B hml htab hv
  obtain ⟨rfl, hE, hZ, hsz, hP, hK, hD0⟩ := hv
  have hx := B.exec
  have hb := B.bytes
  have hr := B.returns
  have hts := atoms_spec (ws := wsX8_digest) B.pre
  have hown : s.vm.findClass RX8 = some m.cls := findClass_of_methodNamed B.named
  have hlocks := B.notSynchronized
  subst hsz
  have hD := hD0.self (sz := s.heap.size)
  generalize hAe : va_A (tcW ad cI tc_0) s.heap.size = A at hD hZ ⊢
  have hA : ∀ q : Nat, s.heap.size ≤ q → A q := fun q h => by rw [← hAe]; exact Or.inr h
  have hS : va_S A s.heap s.heap [] := va_S.rf
  have hl := lv_entry ([.ref (ad 0)]) (n := 5) (Nat.le_of_ble_eq_true rfl)
  rw [lg_entry_eq]
  generalize (lg_sl ([.ref (ad 0)]) ++ List.replicate (5 - (lg_sl ([.ref (ad 0)])).length) Slot.unset).toArray = ls at hl ⊢
  have hl : lv_has ls 5 [(0, .ref (ad 0))] := hl
  have winX0 : ∀ w ∈ u_ws RX0 TX0 6, w ∈ wsX8_digest := by decide +kernel
  have winX1 : ∀ w ∈ u_ws RX1 TX1 4, w ∈ wsX8_digest := by decide +kernel
  have winX2 : ∀ w ∈ u_ws RX2 TX2 10, w ∈ wsX8_digest := by decide +kernel
  have winX3 : ∀ w ∈ u_ws RX3 TX3 15, w ∈ wsX8_digest := by decide +kernel
  have winX4 : ∀ w ∈ u_ws RX4 TX4 3, w ∈ wsX8_digest := by decide +kernel
  have winX5 : ∀ w ∈ u_ws RX5 TX5 1, w ∈ wsX8_digest := by decide +kernel
  have winX6 : ∀ w ∈ u_ws RX6 TX6 9, w ∈ wsX8_digest := by decide +kernel
  have winX7 : ∀ w ∈ u_ws RX7 TX7 6, w ∈ wsX8_digest := by decide +kernel
  have winX8 : ∀ w ∈ u_ws RX8 TX8 9, w ∈ wsX8_digest := by decide +kernel
  refine lv_ldc2 hx hb hown (hts (.constantLong RX8 238 (4806)) (List.mem_of_getElem? (i := 1) rfl)) dX8_digest_0 ?_
  refine lv_lstore_n (lv' := [(1, .long 4806), (0, .ref (ad 0))]) hx hb dX8_digest_3 rfl hl (by decide) rfl (fun ls hl => ?_)
  refine lv_iconst (v := 0) hx hb dX8_digest_4 (by decide) ?_
  refine lv_istore_n (lv' := [(3, .int 0), (1, .long 4806), (0, .ref (ad 0))]) hx hb dX8_digest_5 rfl hl (by decide) rfl (fun ls hl => ?_)
  refine lv_iload_n hx hb dX8_digest_6 rfl (lv_at hl 0 rfl) ?_
  refine lv_bipush (v := 8) hx hb dX8_digest_7 (by decide) ?_
  refine lv_icmp_gt (tgt := 31) hx hb dX8_digest_9 (by decide) (fun c_53 => ?_) (fun c_53 => ?_)
  · exact absurd c_53 (by decide)
  · refine lv_lload_n hx hb dX8_digest_12 rfl (lv_at hl 1 rfl) ?_
    refine lv_ldc2 hx hb hown (hts (.constantLong RX8 240 (31)) (List.mem_of_getElem? (i := 2) rfl)) dX8_digest_13 ?_
    refine lv_lmul hx hb dX8_digest_16 ?_
    refine lv_aload_n hx hb dX8_digest_17 rfl (lv_at hl 2 rfl) ?_
    refine lv_iload_n hx hb dX8_digest_18 rfl (lv_at hl 0 rfl) ?_
    refine g_ki hK hD hS hA (va_runV (As := [.int 0]) (rest := [.long (4806 * 31)]) ⟨hx, hb, hml, hown, hts⟩ (kMany_0 l D ad cI s.heap.size) (cwV 1 hts gX8_digest_X8_manyAnswer rfl rfl rfl (by decide +kernel) ⟨Nat.le_of_ble_eq_true rfl, Nat.le_of_ble_eq_true rfl⟩) (g_preV hK hP hD (ci := 8) (q0 := 0) rfl rfl) rfl rfl hl.1 rfl (lv_room (Nat.le_of_ble_eq_true rfl)) dX8_digest_19 ⟨Nat.le_of_ble_eq_true rfl, Nat.le_of_ble_eq_true rfl⟩) (fun H locs hP hD hS => ?_)
    refine lv_i2l (v := 0) hx hb dX8_digest_22 (by decide) ?_
    refine lv_ladd hx hb dX8_digest_23 ?_
    refine lv_lstore_n (lv' := [(1, .long ((4806 * 31) + 0)), (3, .int 0), (0, .ref (ad 0))]) hx hb dX8_digest_24 rfl hl (by decide) rfl (fun ls hl => ?_)
    refine lv_iinc (v := 1) (lv' := [(3, .int 1), (1, .long ((4806 * 31) + 0)), (0, .ref (ad 0))]) hx hb dX8_digest_25 hl (k := 1) rfl (by decide) (by decide) rfl (fun ls hl => ?_)
    refine lv_goto (tgt := 6) hx hb dX8_digest_28 (by decide) ?_
    refine lv_iload_n hx hb dX8_digest_6 rfl (lv_at hl 0 rfl) ?_
    refine lv_bipush (v := 8) hx hb dX8_digest_7 (by decide) ?_
    refine lv_icmp_gt (tgt := 31) hx hb dX8_digest_9 (by decide) (fun c_54 => ?_) (fun c_54 => ?_)
    · exact absurd c_54 (by decide)
    · refine lv_lload_n hx hb dX8_digest_12 rfl (lv_at hl 1 rfl) ?_
      refine lv_ldc2 hx hb hown (hts (.constantLong RX8 240 (31)) (List.mem_of_getElem? (i := 2) rfl)) dX8_digest_13 ?_
      refine lv_lmul hx hb dX8_digest_16 ?_
      refine lv_aload_n hx hb dX8_digest_17 rfl (lv_at hl 2 rfl) ?_
      refine lv_iload_n hx hb dX8_digest_18 rfl (lv_at hl 0 rfl) ?_
      refine g_ki hK hD hS hA (va_runV (As := [.int 1]) (rest := [.long (((4806 * 31) + 0) * 31)]) ⟨hx, hb, hml, hown, hts⟩ (kMany_1 l D ad cI H.size) (cwV 1 hts gX8_digest_X8_manyAnswer rfl rfl rfl (by decide +kernel) ⟨Nat.le_of_ble_eq_true rfl, Nat.le_of_ble_eq_true rfl⟩) (g_preV hK hP hD (ci := 8) (q0 := 0) rfl rfl) rfl rfl hl.1 rfl (lv_room (Nat.le_of_ble_eq_true rfl)) dX8_digest_19 ⟨Nat.le_of_ble_eq_true rfl, Nat.le_of_ble_eq_true rfl⟩) (fun H locs hP hD hS => ?_)
      refine lv_i2l (v := 0) hx hb dX8_digest_22 (by decide) ?_
      refine lv_ladd hx hb dX8_digest_23 ?_
      refine lv_lstore_n (lv' := [(1, .long ((((4806 * 31) + 0) * 31) + 0)), (3, .int 1), (0, .ref (ad 0))]) hx hb dX8_digest_24 rfl hl (by decide) rfl (fun ls hl => ?_)
      refine lv_iinc (v := 2) (lv' := [(3, .int 2), (1, .long ((((4806 * 31) + 0) * 31) + 0)), (0, .ref (ad 0))]) hx hb dX8_digest_25 hl (k := 1) rfl (by decide) (by decide) rfl (fun ls hl => ?_)
      refine lv_goto (tgt := 6) hx hb dX8_digest_28 (by decide) ?_
      refine lv_iload_n hx hb dX8_digest_6 rfl (lv_at hl 0 rfl) ?_
      refine lv_bipush (v := 8) hx hb dX8_digest_7 (by decide) ?_
      refine lv_icmp_gt (tgt := 31) hx hb dX8_digest_9 (by decide) (fun c_55 => ?_) (fun c_55 => ?_)
      · exact absurd c_55 (by decide)
      · refine lv_lload_n hx hb dX8_digest_12 rfl (lv_at hl 1 rfl) ?_
        refine lv_ldc2 hx hb hown (hts (.constantLong RX8 240 (31)) (List.mem_of_getElem? (i := 2) rfl)) dX8_digest_13 ?_
        refine lv_lmul hx hb dX8_digest_16 ?_
        refine lv_aload_n hx hb dX8_digest_17 rfl (lv_at hl 2 rfl) ?_
        refine lv_iload_n hx hb dX8_digest_18 rfl (lv_at hl 0 rfl) ?_
        refine g_ki hK hD hS hA (va_runV (As := [.int 2]) (rest := [.long (((((4806 * 31) + 0) * 31) + 0) * 31)]) ⟨hx, hb, hml, hown, hts⟩ (kMany_2 l D ad cI H.size) (cwV 1 hts gX8_digest_X8_manyAnswer rfl rfl rfl (by decide +kernel) ⟨Nat.le_of_ble_eq_true rfl, Nat.le_of_ble_eq_true rfl⟩) (g_preV hK hP hD (ci := 8) (q0 := 0) rfl rfl) rfl rfl hl.1 rfl (lv_room (Nat.le_of_ble_eq_true rfl)) dX8_digest_19 ⟨Nat.le_of_ble_eq_true rfl, Nat.le_of_ble_eq_true rfl⟩) (fun H locs hP hD hS => ?_)
        refine lv_i2l (v := 0) hx hb dX8_digest_22 (by decide) ?_
        refine lv_ladd hx hb dX8_digest_23 ?_
        refine lv_lstore_n (lv' := [(1, .long ((((((4806 * 31) + 0) * 31) + 0) * 31) + 0)), (3, .int 2), (0, .ref (ad 0))]) hx hb dX8_digest_24 rfl hl (by decide) rfl (fun ls hl => ?_)
        refine lv_iinc (v := 3) (lv' := [(3, .int 3), (1, .long ((((((4806 * 31) + 0) * 31) + 0) * 31) + 0)), (0, .ref (ad 0))]) hx hb dX8_digest_25 hl (k := 1) rfl (by decide) (by decide) rfl (fun ls hl => ?_)
        refine lv_goto (tgt := 6) hx hb dX8_digest_28 (by decide) ?_
        refine lv_iload_n hx hb dX8_digest_6 rfl (lv_at hl 0 rfl) ?_
        refine lv_bipush (v := 8) hx hb dX8_digest_7 (by decide) ?_
        refine lv_icmp_gt (tgt := 31) hx hb dX8_digest_9 (by decide) (fun c_56 => ?_) (fun c_56 => ?_)
        · exact absurd c_56 (by decide)
        · refine lv_lload_n hx hb dX8_digest_12 rfl (lv_at hl 1 rfl) ?_
          refine lv_ldc2 hx hb hown (hts (.constantLong RX8 240 (31)) (List.mem_of_getElem? (i := 2) rfl)) dX8_digest_13 ?_
          refine lv_lmul hx hb dX8_digest_16 ?_
          refine lv_aload_n hx hb dX8_digest_17 rfl (lv_at hl 2 rfl) ?_
          refine lv_iload_n hx hb dX8_digest_18 rfl (lv_at hl 0 rfl) ?_
          refine g_ki hK hD hS hA (va_runV (As := [.int 3]) (rest := [.long (((((((4806 * 31) + 0) * 31) + 0) * 31) + 0) * 31)]) ⟨hx, hb, hml, hown, hts⟩ (kMany_3 l D ad cI H.size) (cwV 1 hts gX8_digest_X8_manyAnswer rfl rfl rfl (by decide +kernel) ⟨Nat.le_of_ble_eq_true rfl, Nat.le_of_ble_eq_true rfl⟩) (g_preV hK hP hD (ci := 8) (q0 := 0) rfl rfl) rfl rfl hl.1 rfl (lv_room (Nat.le_of_ble_eq_true rfl)) dX8_digest_19 ⟨Nat.le_of_ble_eq_true rfl, Nat.le_of_ble_eq_true rfl⟩) (fun H locs hP hD hS => ?_)
          refine lv_i2l (v := 0) hx hb dX8_digest_22 (by decide) ?_
          refine lv_ladd hx hb dX8_digest_23 ?_
          refine lv_lstore_n (lv' := [(1, .long ((((((((4806 * 31) + 0) * 31) + 0) * 31) + 0) * 31) + 0)), (3, .int 3), (0, .ref (ad 0))]) hx hb dX8_digest_24 rfl hl (by decide) rfl (fun ls hl => ?_)
          refine lv_iinc (v := 4) (lv' := [(3, .int 4), (1, .long ((((((((4806 * 31) + 0) * 31) + 0) * 31) + 0) * 31) + 0)), (0, .ref (ad 0))]) hx hb dX8_digest_25 hl (k := 1) rfl (by decide) (by decide) rfl (fun ls hl => ?_)
          refine lv_goto (tgt := 6) hx hb dX8_digest_28 (by decide) ?_
          refine lv_iload_n hx hb dX8_digest_6 rfl (lv_at hl 0 rfl) ?_
          refine lv_bipush (v := 8) hx hb dX8_digest_7 (by decide) ?_
          refine lv_icmp_gt (tgt := 31) hx hb dX8_digest_9 (by decide) (fun c_57 => ?_) (fun c_57 => ?_)
          · exact absurd c_57 (by decide)
          · refine lv_lload_n hx hb dX8_digest_12 rfl (lv_at hl 1 rfl) ?_
            refine lv_ldc2 hx hb hown (hts (.constantLong RX8 240 (31)) (List.mem_of_getElem? (i := 2) rfl)) dX8_digest_13 ?_
            refine lv_lmul hx hb dX8_digest_16 ?_
            refine lv_aload_n hx hb dX8_digest_17 rfl (lv_at hl 2 rfl) ?_
            refine lv_iload_n hx hb dX8_digest_18 rfl (lv_at hl 0 rfl) ?_
            refine g_ki hK hD hS hA (va_runV (As := [.int 4]) (rest := [.long (((((((((4806 * 31) + 0) * 31) + 0) * 31) + 0) * 31) + 0) * 31)]) ⟨hx, hb, hml, hown, hts⟩ (kMany_4 l D ad cI H.size) (cwV 1 hts gX8_digest_X8_manyAnswer rfl rfl rfl (by decide +kernel) ⟨Nat.le_of_ble_eq_true rfl, Nat.le_of_ble_eq_true rfl⟩) (g_preV hK hP hD (ci := 8) (q0 := 0) rfl rfl) rfl rfl hl.1 rfl (lv_room (Nat.le_of_ble_eq_true rfl)) dX8_digest_19 ⟨Nat.le_of_ble_eq_true rfl, Nat.le_of_ble_eq_true rfl⟩) (fun H locs hP hD hS => ?_)
            refine lv_i2l (v := 0) hx hb dX8_digest_22 (by decide) ?_
            refine lv_ladd hx hb dX8_digest_23 ?_
            refine lv_lstore_n (lv' := [(1, .long ((((((((((4806 * 31) + 0) * 31) + 0) * 31) + 0) * 31) + 0) * 31) + 0)), (3, .int 4), (0, .ref (ad 0))]) hx hb dX8_digest_24 rfl hl (by decide) rfl (fun ls hl => ?_)
            refine lv_iinc (v := 5) (lv' := [(3, .int 5), (1, .long ((((((((((4806 * 31) + 0) * 31) + 0) * 31) + 0) * 31) + 0) * 31) + 0)), (0, .ref (ad 0))]) hx hb dX8_digest_25 hl (k := 1) rfl (by decide) (by decide) rfl (fun ls hl => ?_)
            refine lv_goto (tgt := 6) hx hb dX8_digest_28 (by decide) ?_
            refine lv_iload_n hx hb dX8_digest_6 rfl (lv_at hl 0 rfl) ?_
            refine lv_bipush (v := 8) hx hb dX8_digest_7 (by decide) ?_
            refine lv_icmp_gt (tgt := 31) hx hb dX8_digest_9 (by decide) (fun c_58 => ?_) (fun c_58 => ?_)
            · exact absurd c_58 (by decide)
            · refine lv_lload_n hx hb dX8_digest_12 rfl (lv_at hl 1 rfl) ?_
              refine lv_ldc2 hx hb hown (hts (.constantLong RX8 240 (31)) (List.mem_of_getElem? (i := 2) rfl)) dX8_digest_13 ?_
              refine lv_lmul hx hb dX8_digest_16 ?_
              refine lv_aload_n hx hb dX8_digest_17 rfl (lv_at hl 2 rfl) ?_
              refine lv_iload_n hx hb dX8_digest_18 rfl (lv_at hl 0 rfl) ?_
              refine g_ki hK hD hS hA (va_runV (As := [.int 5]) (rest := [.long (((((((((((4806 * 31) + 0) * 31) + 0) * 31) + 0) * 31) + 0) * 31) + 0) * 31)]) ⟨hx, hb, hml, hown, hts⟩ (kMany_5 l D ad cI H.size) (cwV 1 hts gX8_digest_X8_manyAnswer rfl rfl rfl (by decide +kernel) ⟨Nat.le_of_ble_eq_true rfl, Nat.le_of_ble_eq_true rfl⟩) (g_preV hK hP hD (ci := 8) (q0 := 0) rfl rfl) rfl rfl hl.1 rfl (lv_room (Nat.le_of_ble_eq_true rfl)) dX8_digest_19 ⟨Nat.le_of_ble_eq_true rfl, Nat.le_of_ble_eq_true rfl⟩) (fun H locs hP hD hS => ?_)
              refine lv_i2l (v := 1) hx hb dX8_digest_22 (by decide) ?_
              refine lv_ladd hx hb dX8_digest_23 ?_
              refine lv_lstore_n (lv' := [(1, .long ((((((((((((4806 * 31) + 0) * 31) + 0) * 31) + 0) * 31) + 0) * 31) + 0) * 31) + 1)), (3, .int 5), (0, .ref (ad 0))]) hx hb dX8_digest_24 rfl hl (by decide) rfl (fun ls hl => ?_)
              refine lv_iinc (v := 6) (lv' := [(3, .int 6), (1, .long ((((((((((((4806 * 31) + 0) * 31) + 0) * 31) + 0) * 31) + 0) * 31) + 0) * 31) + 1)), (0, .ref (ad 0))]) hx hb dX8_digest_25 hl (k := 1) rfl (by decide) (by decide) rfl (fun ls hl => ?_)
              refine lv_goto (tgt := 6) hx hb dX8_digest_28 (by decide) ?_
              refine lv_iload_n hx hb dX8_digest_6 rfl (lv_at hl 0 rfl) ?_
              refine lv_bipush (v := 8) hx hb dX8_digest_7 (by decide) ?_
              refine lv_icmp_gt (tgt := 31) hx hb dX8_digest_9 (by decide) (fun c_59 => ?_) (fun c_59 => ?_)
              · exact absurd c_59 (by decide)
              · refine lv_lload_n hx hb dX8_digest_12 rfl (lv_at hl 1 rfl) ?_
                refine lv_ldc2 hx hb hown (hts (.constantLong RX8 240 (31)) (List.mem_of_getElem? (i := 2) rfl)) dX8_digest_13 ?_
                refine lv_lmul hx hb dX8_digest_16 ?_
                refine lv_aload_n hx hb dX8_digest_17 rfl (lv_at hl 2 rfl) ?_
                refine lv_iload_n hx hb dX8_digest_18 rfl (lv_at hl 0 rfl) ?_
                refine g_ki hK hD hS hA (va_runV (As := [.int 6]) (rest := [.long (((((((((((((4806 * 31) + 0) * 31) + 0) * 31) + 0) * 31) + 0) * 31) + 0) * 31) + 1) * 31)]) ⟨hx, hb, hml, hown, hts⟩ (kMany_6 l D ad cI H.size) (cwV 1 hts gX8_digest_X8_manyAnswer rfl rfl rfl (by decide +kernel) ⟨Nat.le_of_ble_eq_true rfl, Nat.le_of_ble_eq_true rfl⟩) (g_preV hK hP hD (ci := 8) (q0 := 0) rfl rfl) rfl rfl hl.1 rfl (lv_room (Nat.le_of_ble_eq_true rfl)) dX8_digest_19 ⟨Nat.le_of_ble_eq_true rfl, Nat.le_of_ble_eq_true rfl⟩) (fun H locs hP hD hS => ?_)
                refine lv_i2l (v := 0) hx hb dX8_digest_22 (by decide) ?_
                refine lv_ladd hx hb dX8_digest_23 ?_
                refine lv_lstore_n (lv' := [(1, .long ((((((((((((((4806 * 31) + 0) * 31) + 0) * 31) + 0) * 31) + 0) * 31) + 0) * 31) + 1) * 31) + 0)), (3, .int 6), (0, .ref (ad 0))]) hx hb dX8_digest_24 rfl hl (by decide) rfl (fun ls hl => ?_)
                refine lv_iinc (v := 7) (lv' := [(3, .int 7), (1, .long ((((((((((((((4806 * 31) + 0) * 31) + 0) * 31) + 0) * 31) + 0) * 31) + 0) * 31) + 1) * 31) + 0)), (0, .ref (ad 0))]) hx hb dX8_digest_25 hl (k := 1) rfl (by decide) (by decide) rfl (fun ls hl => ?_)
                refine lv_goto (tgt := 6) hx hb dX8_digest_28 (by decide) ?_
                refine lv_iload_n hx hb dX8_digest_6 rfl (lv_at hl 0 rfl) ?_
                refine lv_bipush (v := 8) hx hb dX8_digest_7 (by decide) ?_
                refine lv_icmp_gt (tgt := 31) hx hb dX8_digest_9 (by decide) (fun c_60 => ?_) (fun c_60 => ?_)
                · exact absurd c_60 (by decide)
                · refine lv_lload_n hx hb dX8_digest_12 rfl (lv_at hl 1 rfl) ?_
                  refine lv_ldc2 hx hb hown (hts (.constantLong RX8 240 (31)) (List.mem_of_getElem? (i := 2) rfl)) dX8_digest_13 ?_
                  refine lv_lmul hx hb dX8_digest_16 ?_
                  refine lv_aload_n hx hb dX8_digest_17 rfl (lv_at hl 2 rfl) ?_
                  refine lv_iload_n hx hb dX8_digest_18 rfl (lv_at hl 0 rfl) ?_
                  refine g_ki hK hD hS hA (va_runV (As := [.int 7]) (rest := [.long (((((((((((((((4806 * 31) + 0) * 31) + 0) * 31) + 0) * 31) + 0) * 31) + 0) * 31) + 1) * 31) + 0) * 31)]) ⟨hx, hb, hml, hown, hts⟩ (kMany_7 l D ad cI H.size) (cwV 1 hts gX8_digest_X8_manyAnswer rfl rfl rfl (by decide +kernel) ⟨Nat.le_of_ble_eq_true rfl, Nat.le_of_ble_eq_true rfl⟩) (g_preV hK hP hD (ci := 8) (q0 := 0) rfl rfl) rfl rfl hl.1 rfl (lv_room (Nat.le_of_ble_eq_true rfl)) dX8_digest_19 ⟨Nat.le_of_ble_eq_true rfl, Nat.le_of_ble_eq_true rfl⟩) (fun H locs hP hD hS => ?_)
                  refine lv_i2l (v := 0) hx hb dX8_digest_22 (by decide) ?_
                  refine lv_ladd hx hb dX8_digest_23 ?_
                  refine lv_lstore_n (lv' := [(1, .long ((((((((((((((((4806 * 31) + 0) * 31) + 0) * 31) + 0) * 31) + 0) * 31) + 0) * 31) + 1) * 31) + 0) * 31) + 0)), (3, .int 7), (0, .ref (ad 0))]) hx hb dX8_digest_24 rfl hl (by decide) rfl (fun ls hl => ?_)
                  refine lv_iinc (v := 8) (lv' := [(3, .int 8), (1, .long ((((((((((((((((4806 * 31) + 0) * 31) + 0) * 31) + 0) * 31) + 0) * 31) + 0) * 31) + 1) * 31) + 0) * 31) + 0)), (0, .ref (ad 0))]) hx hb dX8_digest_25 hl (k := 1) rfl (by decide) (by decide) rfl (fun ls hl => ?_)
                  refine lv_goto (tgt := 6) hx hb dX8_digest_28 (by decide) ?_
                  refine lv_iload_n hx hb dX8_digest_6 rfl (lv_at hl 0 rfl) ?_
                  refine lv_bipush (v := 8) hx hb dX8_digest_7 (by decide) ?_
                  refine lv_icmp_gt (tgt := 31) hx hb dX8_digest_9 (by decide) (fun c_61 => ?_) (fun c_61 => ?_)
                  · exact absurd c_61 (by decide)
                  · refine lv_lload_n hx hb dX8_digest_12 rfl (lv_at hl 1 rfl) ?_
                    refine lv_ldc2 hx hb hown (hts (.constantLong RX8 240 (31)) (List.mem_of_getElem? (i := 2) rfl)) dX8_digest_13 ?_
                    refine lv_lmul hx hb dX8_digest_16 ?_
                    refine lv_aload_n hx hb dX8_digest_17 rfl (lv_at hl 2 rfl) ?_
                    refine lv_iload_n hx hb dX8_digest_18 rfl (lv_at hl 0 rfl) ?_
                    refine g_ki hK hD hS hA (va_runV (As := [.int 8]) (rest := [.long (((((((((((((((((4806 * 31) + 0) * 31) + 0) * 31) + 0) * 31) + 0) * 31) + 0) * 31) + 1) * 31) + 0) * 31) + 0) * 31)]) ⟨hx, hb, hml, hown, hts⟩ (kMany_8 l D ad cI H.size) (cwV 1 hts gX8_digest_X8_manyAnswer rfl rfl rfl (by decide +kernel) ⟨Nat.le_of_ble_eq_true rfl, Nat.le_of_ble_eq_true rfl⟩) (g_preV hK hP hD (ci := 8) (q0 := 0) rfl rfl) rfl rfl hl.1 rfl (lv_room (Nat.le_of_ble_eq_true rfl)) dX8_digest_19 ⟨Nat.le_of_ble_eq_true rfl, Nat.le_of_ble_eq_true rfl⟩) (fun H locs hP hD hS => ?_)
                    refine lv_i2l (v := 0) hx hb dX8_digest_22 (by decide) ?_
                    refine lv_ladd hx hb dX8_digest_23 ?_
                    refine lv_lstore_n (lv' := [(1, .long ((((((((((((((((((4806 * 31) + 0) * 31) + 0) * 31) + 0) * 31) + 0) * 31) + 0) * 31) + 1) * 31) + 0) * 31) + 0) * 31) + 0)), (3, .int 8), (0, .ref (ad 0))]) hx hb dX8_digest_24 rfl hl (by decide) rfl (fun ls hl => ?_)
                    refine lv_iinc (v := 9) (lv' := [(3, .int 9), (1, .long ((((((((((((((((((4806 * 31) + 0) * 31) + 0) * 31) + 0) * 31) + 0) * 31) + 0) * 31) + 1) * 31) + 0) * 31) + 0) * 31) + 0)), (0, .ref (ad 0))]) hx hb dX8_digest_25 hl (k := 1) rfl (by decide) (by decide) rfl (fun ls hl => ?_)
                    refine lv_goto (tgt := 6) hx hb dX8_digest_28 (by decide) ?_
                    refine lv_iload_n hx hb dX8_digest_6 rfl (lv_at hl 0 rfl) ?_
                    refine lv_bipush (v := 8) hx hb dX8_digest_7 (by decide) ?_
                    refine lv_icmp_gt (tgt := 31) hx hb dX8_digest_9 (by decide) (fun c_62 => ?_) (fun c_62 => ?_)
                    · refine lv_iconst (v := 0) hx hb dX8_digest_31 (by decide) ?_
                      refine lv_istore_n (lv' := [(3, .int 0), (1, .long ((((((((((((((((((4806 * 31) + 0) * 31) + 0) * 31) + 0) * 31) + 0) * 31) + 0) * 31) + 1) * 31) + 0) * 31) + 0) * 31) + 0)), (0, .ref (ad 0))]) hx hb dX8_digest_32 rfl hl (by decide) rfl (fun ls hl => ?_)
                      refine lv_iload_n hx hb dX8_digest_33 rfl (lv_at hl 0 rfl) ?_
                      refine lv_aload_n hx hb dX8_digest_34 rfl (lv_at hl 2 rfl) ?_
                      refine va_get (D := D) (ci := 8) (v := .ref (ad 19)) (C := RX8) (T := TX8) (N := 9) hx hb hts winX8 hown hK hP 0 rfl rfl 2 (by decide) (hts (.fieldLink RX8 26 "TapCap" "cards" "LTapCap$Cards;") (List.mem_of_getElem? (i := 3) rfl)) (fun _ h9 => h9) rfl dX8_digest_35 ?_
                      refine va_get (D := D) (ci := 0) (v := .int (tc_0 45 3)) (C := RX0) (T := TX0) (N := 6) hx hb hts winX0 hown hK hP 19 rfl rfl 5 (by decide) (hts (.fieldLink RX8 103 "TapCap$Cards" "count" "I") (List.mem_of_getElem? (i := 4) rfl)) (fun _ h9 => h9) rfl dX8_digest_38 ?_
                      refine lv_icmp_ge (tgt := 81) hx hb dX8_digest_41 (by decide) (fun c_63 => ?_) (fun c_63 => ?_)
                      · refine lv_iconst (v := 0) hx hb dX8_digest_81 (by decide) ?_
                        refine lv_istore_n (lv' := [(3, .int 0), (1, .long ((((((((((((((((((4806 * 31) + 0) * 31) + 0) * 31) + 0) * 31) + 0) * 31) + 0) * 31) + 1) * 31) + 0) * 31) + 0) * 31) + 0)), (0, .ref (ad 0))]) hx hb dX8_digest_82 rfl hl (by decide) rfl (fun ls hl => ?_)
                        refine lv_iload_n hx hb dX8_digest_83 rfl (lv_at hl 0 rfl) ?_
                        refine lv_aload_n hx hb dX8_digest_84 rfl (lv_at hl 2 rfl) ?_
                        refine va_get (D := D) (ci := 8) (v := .ref (ad 19)) (C := RX8) (T := TX8) (N := 9) hx hb hts winX8 hown hK hP 0 rfl rfl 2 (by decide) (hts (.fieldLink RX8 26 "TapCap" "cards" "LTapCap$Cards;") (List.mem_of_getElem? (i := 3) rfl)) (fun _ h9 => h9) rfl dX8_digest_85 ?_
                        refine va_get (D := D) (ci := 0) (v := .int (tc_0 45 3)) (C := RX0) (T := TX0) (N := 6) hx hb hts winX0 hown hK hP 19 rfl rfl 5 (by decide) (hts (.fieldLink RX8 103 "TapCap$Cards" "count" "I") (List.mem_of_getElem? (i := 4) rfl)) (fun _ h9 => h9) rfl dX8_digest_88 ?_
                        refine lv_icmp_ge (tgt := 118) hx hb dX8_digest_91 (by decide) (fun c_64 => ?_) (fun c_64 => ?_)
                        · refine lv_lload_n hx hb dX8_digest_118 rfl (lv_at hl 1 rfl) ?_
                          refine o_lret ?_ hx hb hr hlocks hS dX8_digest_119 (Nat.le_of_ble_eq_true rfl) (Nat.le_of_ble_eq_true rfl)
                          exact ⟨by rfl, trivial⟩
                        · exact absurd (by decide) c_64
                      · exact absurd (by decide) c_63
                    · exact absurd (by decide) c_62
