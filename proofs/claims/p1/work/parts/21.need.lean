theorem narrow_z0 : narrow .boolean (.int 0) = .int 0 := rfl
theorem narrow_z1 : narrow .boolean (.int 1) = .int 1 := rfl
/-- a number of so many -/
def in_N (n c : Int32) : Prop := ¬ n < 0 ∧ n < c
/-- within bounds -/
def in_R (v a b : Int32) : Prop := ¬ v < a ∧ v ≤ b
set_option maxHeartbeats 4000000 in
set_option maxRecDepth 100000 in
theorem h_needNumber (l : Launch) (hfl : l.stackTraces = false) (D : va_G) (tys : List (ClassId × FieldType)) (ws : va_W) (sz : Nat) (n c : Int32) (sa : Nat → Nat) : vx_Met l yX8_needNumber wsX8_needNumber ({ frames := 7, cells := 1, slots := 6, locals := 120 } : Room) (h_P D tys ws [.int n, .int c] sz sa) (h_Qv D tys (va_A ws sz) ws (in_N n c)) (h_X D tys (va_A ws sz) ws (fun E => E = ex_IX ∧ ¬ (in_N n c))) 1 6 (va_A ws sz) := by
  refine vx_ofW (cc := cX8_needNumber) (maxL := 2) (ret := none) (by decide) rfl ?_
  intro p e s m args below meth c9 s₁ B hml htab hv
  obtain ⟨rfl, hE, hZ, hsz, hP, hK, hD0⟩ := hv
  have hx := B.exec
  have hb := B.bytes
  have hr := B.returns
  have hts := atoms_spec (ws := wsX8_needNumber) B.pre
  have hown : s.vm.findClass RX8 = some m.cls := findClass_of_methodNamed B.named
  have hlocks := B.notSynchronized
  subst hsz
  have hD := hD0.self (sz := s.heap.size)
  generalize hAe : va_A ws s.heap.size = A at hD hZ ⊢
  have hA : ∀ q : Nat, s.heap.size ≤ q → A q := fun q h => by rw [← hAe]; exact Or.inr h
  have hS : va_S A s.heap s.heap [] := va_S.rf
  have hl := lv_entry ([.int n, .int c]) (n := 2) (Nat.le_of_ble_eq_true rfl)
  rw [lg_entry_eq]
  generalize (lg_sl ([.int n, .int c]) ++ List.replicate (2 - (lg_sl ([.int n, .int c])).length) Slot.unset).toArray = ls at hl ⊢
  have hl : lv_has ls 2 [(0, .int n), (1, .int c)] := hl
  refine lv_iload_n hx hb dX8_needNumber_0 rfl (lv_at hl 0 rfl) ?_
  refine lv_if_lt (tgt := 9) hx hb dX8_needNumber_1 (by decide) (fun c_1 => ?_) (fun c_1 => ?_)
  · have hat : ∀ w ∈ vx_atS RX8 250 ex_IX ["java/lang/RuntimeException", "java/lang/Exception"], w.before _ s = true := vx_hat (B := [.declares (Bundle.initS "java/lang/RuntimeException"), .declares (Bundle.initS "java/lang/Exception"), .declares (Bundle.initS Bundle.tN), .castable ex_IX ex_IX]) (fun w h => hts w (List.mem_cons_of_mem _ (List.mem_append_right _ h))) (by decide +kernel) (vx_c (hE.1.use rfl) (vx_c (hE.2.1.use rfl) (vx_c (hE.2.2.1.use rfl) (vx_c (hE.2.2.2.1.use rfl) vx_n))))
    exact vx_throwS (own := RX8) (cls := ex_IX) (text := "no such number") (names := ["java/lang/RuntimeException", "java/lang/Exception"]) (ik := 246) (is := 248) (ic := 250) (sa := sa 0) (A := A) hx hb hfl hown (by decide +kernel) (by decide +kernel) (hts (.classLink RX8 246 "java/lang/IndexOutOfBoundsException") (List.mem_of_getElem? (i := 1) rfl)) (hts (.initialized "java/lang/IndexOutOfBoundsException") (List.mem_of_getElem? (i := 2) rfl)) hE.2.2.2.2.2.1 hat (by decide +kernel) hZ.1 hZ.2 hS (hl.1.trans hml.symm) dX8_needNumber_9 dX8_needNumber_12 dX8_needNumber_13 dX8_needNumber_15 dX8_needNumber_18 (fun x hx9 => absurd hx9 (htab x)) (Nat.le_of_ble_eq_true rfl) (Nat.le_of_ble_eq_true rfl) (Nat.le_of_ble_eq_true rfl) (Nat.le_of_ble_eq_true rfl) hlocks (h_thrown hK hP hD hS ⟨rfl, (fun h => h.1 c_1)⟩) hS.2.2 (Nat.le_of_ble_eq_true rfl) (Nat.le_of_ble_eq_true rfl)
  · refine lv_iload_n hx hb dX8_needNumber_4 rfl (lv_at hl 0 rfl) ?_
    refine lv_iload_n hx hb dX8_needNumber_5 rfl (lv_at hl 1 rfl) ?_
    refine lv_icmp_lt (tgt := 19) hx hb dX8_needNumber_6 (by decide) (fun c_2 => ?_) (fun c_2 => ?_)
    · exact h_vret ⟨c_1, c_2⟩ hx hb hr hlocks hK hP hD hS dX8_needNumber_19 (Nat.le_of_ble_eq_true rfl) (Nat.le_of_ble_eq_true rfl)
    · have hat : ∀ w ∈ vx_atS RX8 250 ex_IX ["java/lang/RuntimeException", "java/lang/Exception"], w.before _ s = true := vx_hat (B := [.declares (Bundle.initS "java/lang/RuntimeException"), .declares (Bundle.initS "java/lang/Exception"), .declares (Bundle.initS Bundle.tN), .castable ex_IX ex_IX]) (fun w h => hts w (List.mem_cons_of_mem _ (List.mem_append_right _ h))) (by decide +kernel) (vx_c (hE.1.use rfl) (vx_c (hE.2.1.use rfl) (vx_c (hE.2.2.1.use rfl) (vx_c (hE.2.2.2.1.use rfl) vx_n))))
      exact vx_throwS (own := RX8) (cls := ex_IX) (text := "no such number") (names := ["java/lang/RuntimeException", "java/lang/Exception"]) (ik := 246) (is := 248) (ic := 250) (sa := sa 0) (A := A) hx hb hfl hown (by decide +kernel) (by decide +kernel) (hts (.classLink RX8 246 "java/lang/IndexOutOfBoundsException") (List.mem_of_getElem? (i := 1) rfl)) (hts (.initialized "java/lang/IndexOutOfBoundsException") (List.mem_of_getElem? (i := 2) rfl)) hE.2.2.2.2.2.1 hat (by decide +kernel) hZ.1 hZ.2 hS (hl.1.trans hml.symm) dX8_needNumber_9 dX8_needNumber_12 dX8_needNumber_13 dX8_needNumber_15 dX8_needNumber_18 (fun x hx9 => absurd hx9 (htab x)) (Nat.le_of_ble_eq_true rfl) (Nat.le_of_ble_eq_true rfl) (Nat.le_of_ble_eq_true rfl) (Nat.le_of_ble_eq_true rfl) hlocks (h_thrown hK hP hD hS ⟨rfl, (fun h => c_2 h.2)⟩) hS.2.2 (Nat.le_of_ble_eq_true rfl) (Nat.le_of_ble_eq_true rfl)
set_option maxHeartbeats 4000000 in
set_option maxRecDepth 100000 in
theorem h_needRange (l : Launch) (hfl : l.stackTraces = false) (D : va_G) (tys : List (ClassId × FieldType)) (ws : va_W) (sz : Nat) (v a b : Int32) (sa : Nat → Nat) : vx_Met l yX8_needRange wsX8_needRange ({ frames := 7, cells := 1, slots := 6, locals := 120 } : Room) (h_P D tys ws [.int v, .int a, .int b] sz sa) (h_Qv D tys (va_A ws sz) ws (in_R v a b)) (h_X D tys (va_A ws sz) ws (fun E => E = ex_IA ∧ ¬ (in_R v a b))) 1 6 (va_A ws sz) := by
  refine vx_ofW (cc := cX8_needRange) (maxL := 3) (ret := none) (by decide) rfl ?_
  intro p e s m args below meth c9 s₁ B hml htab hv
  obtain ⟨rfl, hE, hZ, hsz, hP, hK, hD0⟩ := hv
  have hx := B.exec
  have hb := B.bytes
  have hr := B.returns
  have hts := atoms_spec (ws := wsX8_needRange) B.pre
  have hown : s.vm.findClass RX8 = some m.cls := findClass_of_methodNamed B.named
  have hlocks := B.notSynchronized
  subst hsz
  have hD := hD0.self (sz := s.heap.size)
  generalize hAe : va_A ws s.heap.size = A at hD hZ ⊢
  have hA : ∀ q : Nat, s.heap.size ≤ q → A q := fun q h => by rw [← hAe]; exact Or.inr h
  have hS : va_S A s.heap s.heap [] := va_S.rf
  have hl := lv_entry ([.int v, .int a, .int b]) (n := 3) (Nat.le_of_ble_eq_true rfl)
  rw [lg_entry_eq]
  generalize (lg_sl ([.int v, .int a, .int b]) ++ List.replicate (3 - (lg_sl ([.int v, .int a, .int b])).length) Slot.unset).toArray = ls at hl ⊢
  have hl : lv_has ls 3 [(0, .int v), (1, .int a), (2, .int b)] := hl
  refine lv_iload_n hx hb dX8_needRange_0 rfl (lv_at hl 0 rfl) ?_
  refine lv_iload_n hx hb dX8_needRange_1 rfl (lv_at hl 1 rfl) ?_
  refine lv_icmp_lt (tgt := 10) hx hb dX8_needRange_2 (by decide) (fun c_3 => ?_) (fun c_3 => ?_)
  · have hat : ∀ w ∈ vx_atS RX8 121 ex_IA ["java/lang/RuntimeException", "java/lang/Exception"], w.before _ s = true := vx_hat (B := [.declares (Bundle.initS "java/lang/RuntimeException"), .declares (Bundle.initS "java/lang/Exception"), .declares (Bundle.initS Bundle.tN), .castable ex_IA ex_IA]) (fun w h => hts w (List.mem_cons_of_mem _ (List.mem_append_right _ h))) (by decide +kernel) (vx_c (hE.1.use rfl) (vx_c (hE.2.1.use rfl) (vx_c (hE.2.2.1.use rfl) (vx_c (hE.2.2.2.2.1.use rfl) vx_n))))
    exact vx_throwS (own := RX8) (cls := ex_IA) (text := "not within its bounds") (names := ["java/lang/RuntimeException", "java/lang/Exception"]) (ik := 117) (is := 251) (ic := 121) (sa := sa 1) (A := A) hx hb hfl hown (by decide +kernel) (by decide +kernel) (hts (.classLink RX8 117 "java/lang/IllegalArgumentException") (List.mem_of_getElem? (i := 1) rfl)) (hts (.initialized "java/lang/IllegalArgumentException") (List.mem_of_getElem? (i := 2) rfl)) hE.2.2.2.2.2.2.1 hat (by decide +kernel) hZ.1 hZ.2 hS (hl.1.trans hml.symm) dX8_needRange_10 dX8_needRange_13 dX8_needRange_14 dX8_needRange_16 dX8_needRange_19 (fun x hx9 => absurd hx9 (htab x)) (Nat.le_of_ble_eq_true rfl) (Nat.le_of_ble_eq_true rfl) (Nat.le_of_ble_eq_true rfl) (Nat.le_of_ble_eq_true rfl) hlocks (h_thrown hK hP hD hS ⟨rfl, (fun h => h.1 c_3)⟩) hS.2.2 (Nat.le_of_ble_eq_true rfl) (Nat.le_of_ble_eq_true rfl)
  · refine lv_iload_n hx hb dX8_needRange_5 rfl (lv_at hl 0 rfl) ?_
    refine lv_iload_n hx hb dX8_needRange_6 rfl (lv_at hl 2 rfl) ?_
    refine lv_icmp_le (tgt := 20) hx hb dX8_needRange_7 (by decide) (fun c_4 => ?_) (fun c_4 => ?_)
    · exact h_vret ⟨c_3, c_4⟩ hx hb hr hlocks hK hP hD hS dX8_needRange_20 (Nat.le_of_ble_eq_true rfl) (Nat.le_of_ble_eq_true rfl)
    · have hat : ∀ w ∈ vx_atS RX8 121 ex_IA ["java/lang/RuntimeException", "java/lang/Exception"], w.before _ s = true := vx_hat (B := [.declares (Bundle.initS "java/lang/RuntimeException"), .declares (Bundle.initS "java/lang/Exception"), .declares (Bundle.initS Bundle.tN), .castable ex_IA ex_IA]) (fun w h => hts w (List.mem_cons_of_mem _ (List.mem_append_right _ h))) (by decide +kernel) (vx_c (hE.1.use rfl) (vx_c (hE.2.1.use rfl) (vx_c (hE.2.2.1.use rfl) (vx_c (hE.2.2.2.2.1.use rfl) vx_n))))
      exact vx_throwS (own := RX8) (cls := ex_IA) (text := "not within its bounds") (names := ["java/lang/RuntimeException", "java/lang/Exception"]) (ik := 117) (is := 251) (ic := 121) (sa := sa 1) (A := A) hx hb hfl hown (by decide +kernel) (by decide +kernel) (hts (.classLink RX8 117 "java/lang/IllegalArgumentException") (List.mem_of_getElem? (i := 1) rfl)) (hts (.initialized "java/lang/IllegalArgumentException") (List.mem_of_getElem? (i := 2) rfl)) hE.2.2.2.2.2.2.1 hat (by decide +kernel) hZ.1 hZ.2 hS (hl.1.trans hml.symm) dX8_needRange_10 dX8_needRange_13 dX8_needRange_14 dX8_needRange_16 dX8_needRange_19 (fun x hx9 => absurd hx9 (htab x)) (Nat.le_of_ble_eq_true rfl) (Nat.le_of_ble_eq_true rfl) (Nat.le_of_ble_eq_true rfl) (Nat.le_of_ble_eq_true rfl) hlocks (h_thrown hK hP hD hS ⟨rfl, (fun h => c_4 h.2)⟩) hS.2.2 (Nat.le_of_ble_eq_true rfl) (Nat.le_of_ble_eq_true rfl)
def fX0_isPerson_r (g : Nat → Nat → Int32) (x0 : Int32) : Int32 := (if x0 < 0 then 0 else (if (g 45 3) ≤ x0 then 0 else (if (rw_at (tc_len 9) (g 9) x0) = x0 then 1 else 0)))
set_option maxHeartbeats 4000000 in
set_option maxRecDepth 100000 in
theorem kX0_isPerson (l : Launch) (D : va_G) (ad : Nat → Nat) (cI : ClassId) (g : Nat → Nat → Int32) (sz : Nat) (x0 : Int32) : Met l yX0_isPerson wsX0_isPerson ({ frames := 2, cells := 0, slots := 0, locals := 60 } : Room) (g_P D [(cI, .int)] (tcW ad cI g) [.ref (ad 19), .int x0] sz) (g_Qi D [(cI, .int)] (va_A (tcW ad cI g) sz) (tcW ad cI g) (fX0_isPerson_r g x0)) 0 0 (va_A (tcW ad cI g) sz) := by
  refine Met.ofW (cc := cX0_isPerson) (maxL := 2) (ret := (some .boolean)) (by decide) rfl ?_
  intro p e s m args below meth c9 s₁ B hml hv
  obtain ⟨rfl, hsz, hP, hK, hD0⟩ := hv
  have hx := B.exec
  have hb := B.bytes
  have hr := B.returns
  have hts := atoms_spec (ws := wsX0_isPerson) B.pre
  have hown : s.vm.findClass RX0 = some m.cls := findClass_of_methodNamed B.named
  have hlocks := B.notSynchronized
  subst hsz
  have hD := hD0.self (sz := s.heap.size)
  generalize hAe : va_A (tcW ad cI g) s.heap.size = A at hD ⊢
  have hA : ∀ q : Nat, s.heap.size ≤ q → A q := fun q h => by rw [← hAe]; exact Or.inr h
  have hS : va_S A s.heap s.heap [] := va_S.rf
  have hl := lv_entry ([.ref (ad 19), .int x0]) (n := 2) (Nat.le_of_ble_eq_true rfl)
  rw [lg_entry_eq]
  generalize (lg_sl ([.ref (ad 19), .int x0]) ++ List.replicate (2 - (lg_sl ([.ref (ad 19), .int x0])).length) Slot.unset).toArray = ls at hl ⊢
  have hl : lv_has ls 2 [(0, .ref (ad 19)), (1, .int x0)] := hl
  have winX0 : ∀ w ∈ u_ws RX0 TX0 6, w ∈ wsX0_isPerson := by decide +kernel
  have winX5 : ∀ w ∈ u_ws RX5 TX5 1, w ∈ wsX0_isPerson := by decide +kernel
  refine lv_iload_n hx hb dX0_isPerson_0 rfl (lv_at hl 1 rfl) ?_
  refine lv_if_lt (tgt := 28) hx hb dX0_isPerson_1 (by decide) (fun c_5 => ?_) (fun c_5 => ?_)
  · refine lv_iconst (v := 0) hx hb dX0_isPerson_28 (by decide) ?_
    exact g_iret hx hb hr narrow_z0 hlocks hK hP hD hS (by unfold fX0_isPerson_r; rw [if_pos c_5]) dX0_isPerson_29
  · refine lv_iload_n hx hb dX0_isPerson_4 rfl (lv_at hl 1 rfl) ?_
    refine lv_aload_n hx hb dX0_isPerson_5 rfl (lv_at hl 0 rfl) ?_
    refine va_get (D := D) (ci := 0) (v := .int (g 45 3)) (C := RX0) (T := TX0) (N := 6) hx hb hts winX0 hown hK hP 19 rfl rfl 5 (by decide) (hts (.fieldLink RX0 32 "TapCap$Cards" "count" "I") (List.mem_of_getElem? (i := 1) rfl)) (fun _ h9 => h9) rfl dX0_isPerson_6 ?_
    refine lv_icmp_ge (tgt := 28) hx hb dX0_isPerson_9 (by decide) (fun c_6 => ?_) (fun c_6 => ?_)
    · refine lv_iconst (v := 0) hx hb dX0_isPerson_28 (by decide) ?_
      exact g_iret hx hb hr narrow_z0 hlocks hK hP hD hS (by unfold fX0_isPerson_r; rw [if_neg c_5, if_pos c_6]) dX0_isPerson_29
    · refine lv_aload_n hx hb dX0_isPerson_12 rfl (lv_at hl 0 rfl) ?_
      refine va_get (D := D) (ci := 0) (v := .ref (ad 22)) (C := RX0) (T := TX0) (N := 6) hx hb hts winX0 hown hK hP 19 rfl rfl 1 (by decide) (hts (.fieldLink RX0 20 "TapCap$Cards" "personOf" "LTapCap$Row;") (List.mem_of_getElem? (i := 2) rfl)) (fun _ h9 => h9) rfl dX0_isPerson_13 ?_
      refine lv_iload_n hx hb dX0_isPerson_16 rfl (lv_at hl 1 rfl) ?_
      refine g_ki hK hD hS hA (va_runV (As := [.int x0]) (rest := []) ⟨hx, hb, hml, hown, hts⟩ (c_tc_at l D ad cI g s.heap.size 9 (by decide) x0) (cwV 1 hts gX0_isPerson_X5_at rfl rfl rfl (by decide +kernel) ⟨Nat.le_of_ble_eq_true rfl, Nat.le_of_ble_eq_true rfl⟩) (g_preV hK hP hD (ci := 5) (q0 := 22) rfl rfl) rfl rfl hl.1 rfl (lv_room (Nat.le_of_ble_eq_true rfl)) dX0_isPerson_17 ⟨Nat.le_of_ble_eq_true rfl, Nat.le_of_ble_eq_true rfl⟩) (fun H locs hP hD hS => ?_)
      refine lv_iload_n hx hb dX0_isPerson_20 rfl (lv_at hl 1 rfl) ?_
      refine lv_icmp_ne (tgt := 28) hx hb dX0_isPerson_21 (by decide) (fun c_7 => ?_) (fun c_7 => ?_)
      · refine lv_iconst (v := 0) hx hb dX0_isPerson_28 (by decide) ?_
        exact g_iret hx hb hr narrow_z0 hlocks hK hP hD hS (by unfold fX0_isPerson_r; rw [if_neg c_5, if_neg c_6, if_neg c_7]) dX0_isPerson_29
      · refine lv_iconst (v := 1) hx hb dX0_isPerson_24 (by decide) ?_
        refine lv_goto (tgt := 29) hx hb dX0_isPerson_25 (by decide) ?_
        exact g_iret hx hb hr narrow_z1 hlocks hK hP hD hS (by unfold fX0_isPerson_r; rw [if_neg c_5, if_neg c_6, if_pos c_7]) dX0_isPerson_29
set_option maxHeartbeats 4000000 in
set_option maxRecDepth 100000 in
theorem h_needCard (l : Launch) (hfl : l.stackTraces = false) (D : va_G) (ad : Nat → Nat) (cI : ClassId) (g : Nat → Nat → Int32) (sz : Nat) (x0 : Int32) (sa : Nat → Nat) : vx_Met l yX8_needCard wsX8_needCard ({ frames := 8, cells := 1, slots := 6, locals := 160 } : Room) (h_P D [(cI, .int)] (tcW ad cI g) [.ref (ad 0), .int x0] sz sa) (h_Qv D [(cI, .int)] (va_A (tcW ad cI g) sz) (tcW ad cI g) ((in_N x0 (g 45 3)))) (h_X D [(cI, .int)] (va_A (tcW ad cI g) sz) (tcW ad cI g) (fun E => (E = ex_IX ∧ (¬ in_N x0 (g 45 3))))) 1 6 (va_A (tcW ad cI g) sz) := by
  refine vx_ofW (cc := cX8_needCard) (maxL := 2) (ret := none) (by decide) rfl ?_
  intro p e s m args below meth c9 s₁ B hml htab hv
  obtain ⟨rfl, hE, hZ, hsz, hP, hK, hD0⟩ := hv
  have hx := B.exec
  have hb := B.bytes
  have hr := B.returns
  have hts := atoms_spec (ws := wsX8_needCard) B.pre
  have hown : s.vm.findClass RX8 = some m.cls := findClass_of_methodNamed B.named
  have hlocks := B.notSynchronized
  subst hsz
  have hD := hD0.self (sz := s.heap.size)
  generalize hAe : va_A (tcW ad cI g) s.heap.size = A at hD hZ ⊢
  have hA : ∀ q : Nat, s.heap.size ≤ q → A q := fun q h => by rw [← hAe]; exact Or.inr h
  have hS : va_S A s.heap s.heap [] := va_S.rf
  have hl := lv_entry ([.ref (ad 0), .int x0]) (n := 2) (Nat.le_of_ble_eq_true rfl)
  rw [lg_entry_eq]
  generalize (lg_sl ([.ref (ad 0), .int x0]) ++ List.replicate (2 - (lg_sl ([.ref (ad 0), .int x0])).length) Slot.unset).toArray = ls at hl ⊢
  have hl : lv_has ls 2 [(0, .ref (ad 0)), (1, .int x0)] := hl
  have winX8 : ∀ w ∈ u_ws RX8 TX8 9, w ∈ wsX8_needCard := by decide +kernel
  have winX0 : ∀ w ∈ u_ws RX0 TX0 6, w ∈ wsX8_needCard := by decide +kernel
  refine lv_iload_n hx hb dX8_needCard_0 rfl (lv_at hl 1 rfl) ?_
  refine lv_aload_n hx hb dX8_needCard_1 rfl (lv_at hl 0 rfl) ?_
  refine va_get (D := D) (ci := 8) (v := .ref (ad 19)) (C := RX8) (T := TX8) (N := 9) hx hb hts winX8 hown hK hP 0 rfl rfl 2 (by decide) (hts (.fieldLink RX8 26 "TapCap" "cards" "LTapCap$Cards;") (List.mem_of_getElem? (i := 1) rfl)) (fun _ h9 => h9) rfl dX8_needCard_2 ?_
  refine va_get (D := D) (ci := 0) (v := .int (g 45 3)) (C := RX0) (T := TX0) (N := 6) hx hb hts winX0 hown hK hP 19 rfl rfl 5 (by decide) (hts (.fieldLink RX8 103 "TapCap$Cards" "count" "I") (List.mem_of_getElem? (i := 2) rfl)) (fun _ h9 => h9) rfl dX8_needCard_5 ?_
  refine h_kv hK hD hS hA (vx_runS (As := [.int x0, .int (g 45 3)]) (rest := []) ⟨hx, hb, hml, hown, hts⟩ (h_needNumber l hfl D [(cI, .int)] (tcW ad cI g) s.heap.size x0 (g 45 3) sa) (cwS 2 hts gX8_needCard_X8_needNumber rfl rfl rfl (by decide +kernel) ⟨Nat.le_of_ble_eq_true rfl, Nat.le_of_ble_eq_true rfl⟩) (h_preS hE hZ hK hP hD hS hA) rfl rfl hl.1 rfl (lv_room (Nat.le_of_ble_eq_true rfl)) dX8_needCard_8 ⟨Nat.le_of_ble_eq_true rfl, Nat.le_of_ble_eq_true rfl⟩) (fun E ce q9 H locs hex hP hD hS hce hcv hcl => ?_) (fun H locs ok_8 hP hD hS => ?_)
  · exact h_out htab hlocks hK hP hD hS hce hcv hcl (⟨hex.1, hex.2⟩) (Nat.le_of_ble_eq_true rfl) (Nat.le_of_ble_eq_true rfl)
  exact h_vret ok_8 hx hb hr hlocks hK hP hD hS dX8_needCard_11 (Nat.le_of_ble_eq_true rfl) (Nat.le_of_ble_eq_true rfl)
set_option maxHeartbeats 4000000 in
set_option maxRecDepth 100000 in
theorem h_needPerson (l : Launch) (hfl : l.stackTraces = false) (D : va_G) (ad : Nat → Nat) (cI : ClassId) (g : Nat → Nat → Int32) (sz : Nat) (x0 : Int32) (sa : Nat → Nat) : vx_Met l yX8_needPerson wsX8_needPerson ({ frames := 8, cells := 1, slots := 6, locals := 160 } : Room) (h_P D [(cI, .int)] (tcW ad cI g) [.ref (ad 0), .int x0] sz sa) (h_Qv D [(cI, .int)] (va_A (tcW ad cI g) sz) (tcW ad cI g) (¬ fX0_isPerson_r g x0 = 0)) (h_X D [(cI, .int)] (va_A (tcW ad cI g) sz) (tcW ad cI g) (fun E => E = ex_IX ∧ ¬ (¬ fX0_isPerson_r g x0 = 0))) 1 6 (va_A (tcW ad cI g) sz) := by
  refine vx_ofW (cc := cX8_needPerson) (maxL := 2) (ret := none) (by decide) rfl ?_
  intro p e s m args below meth c9 s₁ B hml htab hv
  obtain ⟨rfl, hE, hZ, hsz, hP, hK, hD0⟩ := hv
  have hx := B.exec
  have hb := B.bytes
  have hr := B.returns
  have hts := atoms_spec (ws := wsX8_needPerson) B.pre
  have hown : s.vm.findClass RX8 = some m.cls := findClass_of_methodNamed B.named
  have hlocks := B.notSynchronized
  subst hsz
  have hD := hD0.self (sz := s.heap.size)
  generalize hAe : va_A (tcW ad cI g) s.heap.size = A at hD hZ ⊢
  have hA : ∀ q : Nat, s.heap.size ≤ q → A q := fun q h => by rw [← hAe]; exact Or.inr h
  have hS : va_S A s.heap s.heap [] := va_S.rf
  have hl := lv_entry ([.ref (ad 0), .int x0]) (n := 2) (Nat.le_of_ble_eq_true rfl)
  rw [lg_entry_eq]
  generalize (lg_sl ([.ref (ad 0), .int x0]) ++ List.replicate (2 - (lg_sl ([.ref (ad 0), .int x0])).length) Slot.unset).toArray = ls at hl ⊢
  have hl : lv_has ls 2 [(0, .ref (ad 0)), (1, .int x0)] := hl
  have winX8 : ∀ w ∈ u_ws RX8 TX8 9, w ∈ wsX8_needPerson := by decide +kernel
  have winX0 : ∀ w ∈ u_ws RX0 TX0 6, w ∈ wsX8_needPerson := by decide +kernel
  have winX5 : ∀ w ∈ u_ws RX5 TX5 1, w ∈ wsX8_needPerson := by decide +kernel
  refine lv_aload_n hx hb dX8_needPerson_0 rfl (lv_at hl 0 rfl) ?_
  refine va_get (D := D) (ci := 8) (v := .ref (ad 19)) (C := RX8) (T := TX8) (N := 9) hx hb hts winX8 hown hK hP 0 rfl rfl 2 (by decide) (hts (.fieldLink RX8 26 "TapCap" "cards" "LTapCap$Cards;") (List.mem_of_getElem? (i := 3) rfl)) (fun _ h9 => h9) rfl dX8_needPerson_1 ?_
  refine lv_iload_n hx hb dX8_needPerson_4 rfl (lv_at hl 1 rfl) ?_
  refine g_ki hK hD hS hA (va_runV (As := [.int x0]) (rest := []) ⟨hx, hb, hml, hown, hts⟩ (kX0_isPerson l D ad cI g s.heap.size x0) (cwV 1 hts gX8_needPerson_X0_isPerson rfl rfl rfl (by decide +kernel) ⟨Nat.le_of_ble_eq_true rfl, Nat.le_of_ble_eq_true rfl⟩) (g_preV hK hP hD (ci := 0) (q0 := 19) rfl rfl) rfl rfl hl.1 rfl (lv_room (Nat.le_of_ble_eq_true rfl)) dX8_needPerson_5 ⟨Nat.le_of_ble_eq_true rfl, Nat.le_of_ble_eq_true rfl⟩) (fun H locs hP hD hS => ?_)
  refine lv_if_ne (tgt := 21) hx hb dX8_needPerson_8 (by decide) (fun c_9 => ?_) (fun c_9 => ?_)
  · exact h_vret c_9 hx hb hr hlocks hK hP hD hS dX8_needPerson_21 (Nat.le_of_ble_eq_true rfl) (Nat.le_of_ble_eq_true rfl)
  · have hat : ∀ w ∈ vx_atS RX8 250 ex_IX ["java/lang/RuntimeException", "java/lang/Exception"], w.before _ s = true := vx_hat (B := [.declares (Bundle.initS "java/lang/RuntimeException"), .declares (Bundle.initS "java/lang/Exception"), .declares (Bundle.initS Bundle.tN), .castable ex_IX ex_IX]) (fun w h => hts w (List.mem_cons_of_mem _ (List.mem_append_right _ h))) (by decide +kernel) (vx_c (hE.1.use rfl) (vx_c (hE.2.1.use rfl) (vx_c (hE.2.2.1.use rfl) (vx_c (hE.2.2.2.1.use rfl) vx_n))))
    exact vx_throwS (own := RX8) (cls := ex_IX) (text := "no such person") (names := ["java/lang/RuntimeException", "java/lang/Exception"]) (ik := 246) (is := 253) (ic := 250) (sa := sa 2) (A := A) hx hb hfl hown (by decide +kernel) (by decide +kernel) (hts (.classLink RX8 246 "java/lang/IndexOutOfBoundsException") (List.mem_of_getElem? (i := 1) rfl)) (hts (.initialized "java/lang/IndexOutOfBoundsException") (List.mem_of_getElem? (i := 2) rfl)) hE.2.2.2.2.2.2.2 hat (by decide +kernel) hZ.1 hZ.2 hS (hl.1.trans hml.symm) dX8_needPerson_11 dX8_needPerson_14 dX8_needPerson_15 dX8_needPerson_17 dX8_needPerson_20 (fun x hx9 => absurd hx9 (htab x)) (Nat.le_of_ble_eq_true rfl) (Nat.le_of_ble_eq_true rfl) (Nat.le_of_ble_eq_true rfl) (Nat.le_of_ble_eq_true rfl) hlocks (h_thrown hK hP hD hS ⟨rfl, fun h => h c_9⟩) hS.2.2 (Nat.le_of_ble_eq_true rfl) (Nat.le_of_ble_eq_true rfl)
set_option maxHeartbeats 4000000 in
set_option maxRecDepth 100000 in
theorem h_needTap (l : Launch) (hfl : l.stackTraces = false) (D : va_G) (ad : Nat → Nat) (cI : ClassId) (g : Nat → Nat → Int32) (sz : Nat) (x0 x1 x2 x3 x4 : Int32) (sa : Nat → Nat) : vx_Met l yX8_needTap wsX8_needTap ({ frames := 9, cells := 5, slots := 30, locals := 220 } : Room) (h_P D [(cI, .int)] (tcW ad cI g) [.ref (ad 0), .int x0, .int x1, .int x2, .int x3, .int x4] sz sa) (h_Qv D [(cI, .int)] (va_A (tcW ad cI g) sz) (tcW ad cI g) (((in_N x0 (g 45 3))) ∧ (in_N x1 10) ∧ (in_N x2 6) ∧ (in_N x3 28) ∧ (in_R x4 0 1439))) (h_X D [(cI, .int)] (va_A (tcW ad cI g) sz) (tcW ad cI g) (fun E => (E = ex_IX ∧ ((¬ in_N x0 (g 45 3)))) ∨ (E = ex_IX ∧ ((in_N x0 (g 45 3))) ∧ (¬ in_N x1 10)) ∨ (E = ex_IX ∧ ((in_N x0 (g 45 3))) ∧ (in_N x1 10) ∧ (¬ in_N x2 6)) ∨ (E = ex_IX ∧ ((in_N x0 (g 45 3))) ∧ (in_N x1 10) ∧ (in_N x2 6) ∧ (¬ in_N x3 28)) ∨ (E = ex_IA ∧ ((in_N x0 (g 45 3))) ∧ (in_N x1 10) ∧ (in_N x2 6) ∧ (in_N x3 28) ∧ (¬ in_R x4 0 1439)))) 5 30 (va_A (tcW ad cI g) sz) := by
  refine vx_ofW (cc := cX8_needTap) (maxL := 6) (ret := none) (by decide) rfl ?_
  intro p e s m args below meth c9 s₁ B hml htab hv
  obtain ⟨rfl, hE, hZ, hsz, hP, hK, hD0⟩ := hv
  have hx := B.exec
  have hb := B.bytes
  have hr := B.returns
  have hts := atoms_spec (ws := wsX8_needTap) B.pre
  have hown : s.vm.findClass RX8 = some m.cls := findClass_of_methodNamed B.named
  have hlocks := B.notSynchronized
  subst hsz
  have hD := hD0.self (sz := s.heap.size)
  generalize hAe : va_A (tcW ad cI g) s.heap.size = A at hD hZ ⊢
  have hA : ∀ q : Nat, s.heap.size ≤ q → A q := fun q h => by rw [← hAe]; exact Or.inr h
  have hS : va_S A s.heap s.heap [] := va_S.rf
  have hl := lv_entry ([.ref (ad 0), .int x0, .int x1, .int x2, .int x3, .int x4]) (n := 6) (Nat.le_of_ble_eq_true rfl)
  rw [lg_entry_eq]
  generalize (lg_sl ([.ref (ad 0), .int x0, .int x1, .int x2, .int x3, .int x4]) ++ List.replicate (6 - (lg_sl ([.ref (ad 0), .int x0, .int x1, .int x2, .int x3, .int x4])).length) Slot.unset).toArray = ls at hl ⊢
  have hl : lv_has ls 6 [(0, .ref (ad 0)), (1, .int x0), (2, .int x1), (3, .int x2), (4, .int x3), (5, .int x4)] := hl
  have winX8 : ∀ w ∈ u_ws RX8 TX8 9, w ∈ wsX8_needTap := by decide +kernel
  have winX0 : ∀ w ∈ u_ws RX0 TX0 6, w ∈ wsX8_needTap := by decide +kernel
  refine lv_aload_n hx hb dX8_needTap_0 rfl (lv_at hl 0 rfl) ?_
  refine lv_iload_n hx hb dX8_needTap_1 rfl (lv_at hl 1 rfl) ?_
  refine h_kv hK hD hS hA (vx_runV (As := [.int x0]) (rest := []) ⟨hx, hb, hml, hown, hts⟩ (h_needCard l hfl D ad cI g s.heap.size x0 sa) (cwV 1 hts gX8_needTap_X8_needCard rfl rfl rfl (by decide +kernel) ⟨Nat.le_of_ble_eq_true rfl, Nat.le_of_ble_eq_true rfl⟩) (h_preV hE hZ hK hP hD hS hA (ci := 8) (q0 := 0) rfl rfl) rfl rfl hl.1 rfl (lv_room (Nat.le_of_ble_eq_true rfl)) dX8_needTap_2 ⟨Nat.le_of_ble_eq_true rfl, Nat.le_of_ble_eq_true rfl⟩) (fun E ce q9 H locs hex hP hD hS hce hcv hcl => ?_) (fun H locs ok_10 hP hD hS => ?_)
  · exact h_out htab hlocks hK hP hD hS hce hcv hcl (Or.inl (⟨hex.1, hex.2⟩)) (Nat.le_of_ble_eq_true rfl) (Nat.le_of_ble_eq_true rfl)
  refine lv_iload_n hx hb dX8_needTap_5 rfl (lv_at hl 2 rfl) ?_
  refine lv_bipush (v := 10) hx hb dX8_needTap_6 (by decide) ?_
  refine h_kv hK hD hS hA (vx_runS (As := [.int x1, .int 10]) (rest := []) ⟨hx, hb, hml, hown, hts⟩ (h_needNumber l hfl D [(cI, .int)] (tcW ad cI g) H.size x1 10 sa) (cwS 2 hts gX8_needTap_X8_needNumber rfl rfl rfl (by decide +kernel) ⟨Nat.le_of_ble_eq_true rfl, Nat.le_of_ble_eq_true rfl⟩) (h_preS hE hZ hK hP hD hS hA) rfl rfl hl.1 rfl (lv_room (Nat.le_of_ble_eq_true rfl)) dX8_needTap_8 ⟨Nat.le_of_ble_eq_true rfl, Nat.le_of_ble_eq_true rfl⟩) (fun E ce q9 H locs hex hP hD hS hce hcv hcl => ?_) (fun H locs ok_11 hP hD hS => ?_)
  · exact h_out htab hlocks hK hP hD hS hce hcv hcl (Or.inr (Or.inl (⟨hex.1, ok_10, hex.2⟩))) (Nat.le_of_ble_eq_true rfl) (Nat.le_of_ble_eq_true rfl)
  refine lv_iload_n hx hb dX8_needTap_11 rfl (lv_at hl 3 rfl) ?_
  refine lv_bipush (v := 6) hx hb dX8_needTap_12 (by decide) ?_
  refine h_kv hK hD hS hA (vx_runS (As := [.int x2, .int 6]) (rest := []) ⟨hx, hb, hml, hown, hts⟩ (h_needNumber l hfl D [(cI, .int)] (tcW ad cI g) H.size x2 6 sa) (cwS 2 hts gX8_needTap_X8_needNumber rfl rfl rfl (by decide +kernel) ⟨Nat.le_of_ble_eq_true rfl, Nat.le_of_ble_eq_true rfl⟩) (h_preS hE hZ hK hP hD hS hA) rfl rfl hl.1 rfl (lv_room (Nat.le_of_ble_eq_true rfl)) dX8_needTap_14 ⟨Nat.le_of_ble_eq_true rfl, Nat.le_of_ble_eq_true rfl⟩) (fun E ce q9 H locs hex hP hD hS hce hcv hcl => ?_) (fun H locs ok_12 hP hD hS => ?_)
  · exact h_out htab hlocks hK hP hD hS hce hcv hcl (Or.inr (Or.inr (Or.inl (⟨hex.1, ok_10, ok_11, hex.2⟩)))) (Nat.le_of_ble_eq_true rfl) (Nat.le_of_ble_eq_true rfl)
  refine lv_iload hx hb dX8_needTap_17 (lv_at hl 4 rfl) ?_
  refine lv_bipush (v := 28) hx hb dX8_needTap_19 (by decide) ?_
  refine h_kv hK hD hS hA (vx_runS (As := [.int x3, .int 28]) (rest := []) ⟨hx, hb, hml, hown, hts⟩ (h_needNumber l hfl D [(cI, .int)] (tcW ad cI g) H.size x3 28 sa) (cwS 2 hts gX8_needTap_X8_needNumber rfl rfl rfl (by decide +kernel) ⟨Nat.le_of_ble_eq_true rfl, Nat.le_of_ble_eq_true rfl⟩) (h_preS hE hZ hK hP hD hS hA) rfl rfl hl.1 rfl (lv_room (Nat.le_of_ble_eq_true rfl)) dX8_needTap_21 ⟨Nat.le_of_ble_eq_true rfl, Nat.le_of_ble_eq_true rfl⟩) (fun E ce q9 H locs hex hP hD hS hce hcv hcl => ?_) (fun H locs ok_13 hP hD hS => ?_)
  · exact h_out htab hlocks hK hP hD hS hce hcv hcl (Or.inr (Or.inr (Or.inr (Or.inl (⟨hex.1, ok_10, ok_11, ok_12, hex.2⟩))))) (Nat.le_of_ble_eq_true rfl) (Nat.le_of_ble_eq_true rfl)
  refine lv_iload hx hb dX8_needTap_24 (lv_at hl 5 rfl) ?_
  refine lv_iconst (v := 0) hx hb dX8_needTap_26 (by decide) ?_
  refine lv_sipush (v := 1439) hx hb dX8_needTap_27 (by decide) ?_
  refine h_kv hK hD hS hA (vx_runS (As := [.int x4, .int 0, .int 1439]) (rest := []) ⟨hx, hb, hml, hown, hts⟩ (h_needRange l hfl D [(cI, .int)] (tcW ad cI g) H.size x4 0 1439 sa) (cwS 3 hts gX8_needTap_X8_needRange rfl rfl rfl (by decide +kernel) ⟨Nat.le_of_ble_eq_true rfl, Nat.le_of_ble_eq_true rfl⟩) (h_preS hE hZ hK hP hD hS hA) rfl rfl hl.1 rfl (lv_room (Nat.le_of_ble_eq_true rfl)) dX8_needTap_30 ⟨Nat.le_of_ble_eq_true rfl, Nat.le_of_ble_eq_true rfl⟩) (fun E ce q9 H locs hex hP hD hS hce hcv hcl => ?_) (fun H locs ok_14 hP hD hS => ?_)
  · exact h_out htab hlocks hK hP hD hS hce hcv hcl (Or.inr (Or.inr (Or.inr (Or.inr (⟨hex.1, ok_10, ok_11, ok_12, ok_13, hex.2⟩))))) (Nat.le_of_ble_eq_true rfl) (Nat.le_of_ble_eq_true rfl)
  exact h_vret ⟨ok_10, ok_11, ok_12, ok_13, ok_14⟩ hx hb hr hlocks hK hP hD hS dX8_needTap_33 (Nat.le_of_ble_eq_true rfl) (Nat.le_of_ble_eq_true rfl)
