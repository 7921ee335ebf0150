set_option maxHeartbeats 4000000 in
set_option maxRecDepth 100000 in
theorem w_carrier (l : Launch) (hfl : l.stackTraces = false) (D : va_G) (ad : Nat → Nat) (cI cJ : ClassId) (sz o : Nat) (x0 x1 : Int32) (sa : Nat → Nat) : vx_Met l yL_carrier wsL_carrier ({ frames := 11, cells := 2, slots := 12, locals := 400 } : Room) (w_P D [(cI, .int), (cJ, .long)] (wrW ad cI cJ o) [.ref (ad 0), .int x0, .int x1, .ref o] sz sa) (w_Q D cJ o (va_A (wrW ad cI cJ o) sz) (fun k y => ((in_N x0 6) ∧ (in_N x1 3) ∧ k = 0 ∧ y = (0 : Int32).toInt64) ∨ ((¬ in_N x0 6) ∧ k = 1) ∨ ((in_N x0 6) ∧ (¬ in_N x1 3) ∧ k = 1))) (o_X (va_A (wrW ad cI cJ o) sz) (fun _ => False)) 2 12 (va_A (wrW ad cI cJ o) sz) := by
  refine vx_ofWH (cc := cL_carrier) (maxL := 5) (ret := (some .int)) (hh := [(0, 10, 13, 13)]) (by decide) rfl ?_
  intro p e s m args below meth c9 s₁ B hml hv
  obtain ⟨rfl, hN, hE, hZ, hsz, hP, hK, hD0⟩ := hv
  have hx := B.exec
  have hb := B.bytes
  have hr := B.returns
  have hts := atoms_spec (ws := wsL_carrier) B.pre
  have hown : s.vm.findClass RL = some m.cls := findClass_of_methodNamed B.named
  have hlocks := B.notSynchronized
  subst hsz
  have hD := hD0.self (sz := s.heap.size)
  generalize hAe : va_A (wrW ad cI cJ o) s.heap.size = A at hD hZ ⊢
  have hA : ∀ q : Nat, s.heap.size ≤ q → A q := fun q h => by rw [← hAe]; exact Or.inr h
  have hS : va_S A s.heap s.heap [] := va_S.rf
  have hl := lv_entry ([.ref (ad 0), .int x0, .int x1, .ref o]) (n := 5) (Nat.le_of_ble_eq_true rfl)
  rw [lg_entry_eq]
  generalize (lg_sl ([.ref (ad 0), .int x0, .int x1, .ref o]) ++ List.replicate (5 - (lg_sl ([.ref (ad 0), .int x0, .int x1, .ref o])).length) Slot.unset).toArray = ls at hl ⊢
  have hl : lv_has ls 5 [(0, .ref (ad 0)), (1, .int x0), (2, .int x1), (3, .ref o)] := hl
  have htab := vx_table (x := yL_carrier) B (hts _ (List.mem_of_getElem? (i := 0) rfl))
  have hKI := hK.sub (tys' := [(cI, .int)]) [0] rfl
  refine lv_aload_n hx hb dL_carrier_0 rfl (lv_at hl 3 rfl) ?_
  refine lv_iconst (v := 0) hx hb dL_carrier_1 (by decide) ?_
  refine lv_aload_n hx hb dL_carrier_2 rfl (lv_at hl 0 rfl) ?_
  refine lv_iload_n hx hb dL_carrier_3 rfl (lv_at hl 1 rfl) ?_
  refine lv_iload_n hx hb dL_carrier_4 rfl (lv_at hl 2 rfl) ?_
  refine w_ki hP hD hS hA (vx_runV (As := [.int x0, .int x1]) (rest := [.int 0, .ref o]) ⟨hx, hb, hml, hown, hts⟩ (o_carrier l hfl D ad cI s.heap.size x0 x1 sa) (cwV 2 hts gL_carrier_X8_carrier rfl rfl rfl (by decide +kernel) ⟨Nat.le_of_ble_eq_true rfl, Nat.le_of_ble_eq_true rfl⟩) (h_preV hE hZ hKI (pre_P hP) (pre_D hD) hS hA (ci := 8) (q0 := 0) rfl rfl) rfl rfl hl.1 rfl (lv_room (Nat.le_of_ble_eq_true rfl)) dL_carrier_5 ⟨Nat.le_of_ble_eq_true rfl, Nat.le_of_ble_eq_true rfl⟩) (fun E ce q9 H locs hex hP hD hS hce hcv hcl => ?_) (fun r H locs hw hP hD hS => ?_)
  · rcases hex with hex | hex
    · obtain ⟨rfl, hx1⟩ := hex
      have hex : True ∧ _ := ⟨trivial, hx1⟩
      refine vx_catch (own := RL) (name := "java/lang/IndexOutOfBoundsException") (pc := 5) hown [] { startPc := 0, endPc := 10, handlerPc := 13, catchType := 13 } [] (htab.trans rfl) (fun z hz => absurd hz List.not_mem_nil) (by decide) (by decide) (hts (.classLink RL 13 "java/lang/IndexOutOfBoundsException") (List.mem_of_getElem? (i := 1) rfl)) (hE.2.2.2.1.use rfl) hce hcv hcl ?_
      refine lv_astore (lv' := [(4, .ref q9), (0, .ref (ad 0)), (1, .int x0), (2, .int x1), (3, .ref o)]) hx hb dL_carrier_13 hl (by decide) rfl (fun ls hl => ?_)
      refine lv_iconst (v := 1) hx hb dL_carrier_15 (by decide) ?_
      exact w_ret (Or.inr (Or.inl (⟨hex.2, rfl⟩))) hx hb hr hlocks hP hS dL_carrier_16 (Nat.le_of_ble_eq_true rfl) (Nat.le_of_ble_eq_true rfl)
    · obtain ⟨rfl, hx1⟩ := hex
      have hex : True ∧ _ := ⟨trivial, hx1⟩
      refine vx_catch (own := RL) (name := "java/lang/IndexOutOfBoundsException") (pc := 5) hown [] { startPc := 0, endPc := 10, handlerPc := 13, catchType := 13 } [] (htab.trans rfl) (fun z hz => absurd hz List.not_mem_nil) (by decide) (by decide) (hts (.classLink RL 13 "java/lang/IndexOutOfBoundsException") (List.mem_of_getElem? (i := 1) rfl)) (hE.2.2.2.1.use rfl) hce hcv hcl ?_
      refine lv_astore (lv' := [(4, .ref q9), (0, .ref (ad 0)), (1, .int x0), (2, .int x1), (3, .ref o)]) hx hb dL_carrier_13 hl (by decide) rfl (fun ls hl => ?_)
      refine lv_iconst (v := 1) hx hb dL_carrier_15 (by decide) ?_
      exact w_ret (Or.inr (Or.inr (⟨hex.2.1, hex.2.2, rfl⟩))) hx hb hr hlocks hP hS dL_carrier_16 (Nat.le_of_ble_eq_true rfl) (Nat.le_of_ble_eq_true rfl)
  · refine lv_i2l (v := r.toInt64) hx hb dL_carrier_8 rfl ?_
    refine va_last (tys := [(cI, .int), (cJ, .long)]) hx hb hK hP hD hS 0 1 rfl rfl (by unfold vp_in; decide) dL_carrier_9 (fun H locs hP hD hS => ?_)
    refine lv_goto (tgt := 17) hx hb dL_carrier_10 (by decide) ?_
    refine lv_iconst (v := 0) hx hb dL_carrier_17 (by decide) ?_
    exact w_ret (Or.inl (⟨hw.2.1, hw.2.2, rfl, show r.toInt64 = _ by rw [hw.1]⟩)) hx hb hr hlocks hP hS dL_carrier_18 (Nat.le_of_ble_eq_true rfl) (Nat.le_of_ble_eq_true rfl)
set_option maxHeartbeats 4000000 in
set_option maxRecDepth 100000 in
theorem w_tariff (l : Launch) (hfl : l.stackTraces = false) (D : va_G) (ad : Nat → Nat) (cI cJ : ClassId) (sz o : Nat) (x0 x1 x2 x3 x4 : Int32) (sa : Nat → Nat) : vx_Met l yL_tariff wsL_tariff ({ frames := 11, cells := 5, slots := 30, locals := 400 } : Room) (w_P D [(cI, .int), (cJ, .long)] (wrW ad cI cJ o) [.ref (ad 0), .int x0, .int x1, .int x2, .int x3, .int x4, .ref o] sz sa) (w_Q D cJ o (va_A (wrW ad cI cJ o) sz) (fun k y => ((in_R x0 0 27) ∧ (in_R x1 1 9) ∧ (in_R x2 0 5) ∧ (in_R x3 1 50) ∧ (in_R x4 1 200) ∧ k = 0 ∧ y = (2 : Int32).toInt64) ∨ ((¬ in_R x0 0 27) ∧ k = 1) ∨ ((in_R x0 0 27) ∧ (¬ in_R x1 1 9) ∧ k = 1) ∨ ((in_R x0 0 27) ∧ (in_R x1 1 9) ∧ (¬ in_R x2 0 5) ∧ k = 1) ∨ ((in_R x0 0 27) ∧ (in_R x1 1 9) ∧ (in_R x2 0 5) ∧ (¬ in_R x3 1 50) ∧ k = 1) ∨ ((in_R x0 0 27) ∧ (in_R x1 1 9) ∧ (in_R x2 0 5) ∧ (in_R x3 1 50) ∧ (¬ in_R x4 1 200) ∧ k = 1))) (o_X (va_A (wrW ad cI cJ o) sz) (fun _ => False)) 5 30 (va_A (wrW ad cI cJ o) sz) := by
  refine vx_ofWH (cc := cL_tariff) (maxL := 8) (ret := (some .int)) (hh := [(0, 16, 19, 15), (0, 16, 23, 24)]) (by decide) rfl ?_
  intro p e s m args below meth c9 s₁ B hml hv
  obtain ⟨rfl, hN, hE, hZ, hsz, hP, hK, hD0⟩ := hv
  have hx := B.exec
  have hb := B.bytes
  have hr := B.returns
  have hts := atoms_spec (ws := wsL_tariff) B.pre
  have hown : s.vm.findClass RL = some m.cls := findClass_of_methodNamed B.named
  have hlocks := B.notSynchronized
  subst hsz
  have hD := hD0.self (sz := s.heap.size)
  generalize hAe : va_A (wrW ad cI cJ o) s.heap.size = A at hD hZ ⊢
  have hA : ∀ q : Nat, s.heap.size ≤ q → A q := fun q h => by rw [← hAe]; exact Or.inr h
  have hS : va_S A s.heap s.heap [] := va_S.rf
  have hl := lv_entry ([.ref (ad 0), .int x0, .int x1, .int x2, .int x3, .int x4, .ref o]) (n := 8) (Nat.le_of_ble_eq_true rfl)
  rw [lg_entry_eq]
  generalize (lg_sl ([.ref (ad 0), .int x0, .int x1, .int x2, .int x3, .int x4, .ref o]) ++ List.replicate (8 - (lg_sl ([.ref (ad 0), .int x0, .int x1, .int x2, .int x3, .int x4, .ref o])).length) Slot.unset).toArray = ls at hl ⊢
  have hl : lv_has ls 8 [(0, .ref (ad 0)), (1, .int x0), (2, .int x1), (3, .int x2), (4, .int x3), (5, .int x4), (6, .ref o)] := hl
  have htab := vx_table (x := yL_tariff) B (hts _ (List.mem_of_getElem? (i := 0) rfl))
  have hKI := hK.sub (tys' := [(cI, .int)]) [0] rfl
  refine lv_aload hx hb dL_tariff_0 (lv_at hl 6 rfl) ?_
  refine lv_iconst (v := 0) hx hb dL_tariff_2 (by decide) ?_
  refine lv_aload_n hx hb dL_tariff_3 rfl (lv_at hl 0 rfl) ?_
  refine lv_iload_n hx hb dL_tariff_4 rfl (lv_at hl 1 rfl) ?_
  refine lv_iload_n hx hb dL_tariff_5 rfl (lv_at hl 2 rfl) ?_
  refine lv_iload_n hx hb dL_tariff_6 rfl (lv_at hl 3 rfl) ?_
  refine lv_iload hx hb dL_tariff_7 (lv_at hl 4 rfl) ?_
  refine lv_iload hx hb dL_tariff_9 (lv_at hl 5 rfl) ?_
  refine w_ki hP hD hS hA (vx_runV (As := [.int x0, .int x1, .int x2, .int x3, .int x4]) (rest := [.int 0, .ref o]) ⟨hx, hb, hml, hown, hts⟩ (o_tariff l hfl D ad cI s.heap.size x0 x1 x2 x3 x4 sa) (cwV 5 hts gL_tariff_X8_tariff rfl rfl rfl (by decide +kernel) ⟨Nat.le_of_ble_eq_true rfl, Nat.le_of_ble_eq_true rfl⟩) (h_preV hE hZ hKI (pre_P hP) (pre_D hD) hS hA (ci := 8) (q0 := 0) rfl rfl) rfl rfl hl.1 rfl (lv_room (Nat.le_of_ble_eq_true rfl)) dL_tariff_11 ⟨Nat.le_of_ble_eq_true rfl, Nat.le_of_ble_eq_true rfl⟩) (fun E ce q9 H locs hex hP hD hS hce hcv hcl => ?_) (fun r H locs hw hP hD hS => ?_)
  · rcases hex with hex | hex | hex | hex | hex
    · obtain ⟨rfl, hx1⟩ := hex
      have hex : True ∧ _ := ⟨trivial, hx1⟩
      refine vx_catch (own := RL) (name := "java/lang/IllegalArgumentException") (pc := 11) hown [] { startPc := 0, endPc := 16, handlerPc := 19, catchType := 15 } [{ startPc := 0, endPc := 16, handlerPc := 23, catchType := 24 }] (htab.trans rfl) (fun z hz => absurd hz List.not_mem_nil) (by decide) (by decide) (hts (.classLink RL 15 "java/lang/IllegalArgumentException") (List.mem_of_getElem? (i := 1) rfl)) (hE.2.2.2.2.1.use rfl) hce hcv hcl ?_
      refine lv_astore (lv' := [(7, .ref q9), (0, .ref (ad 0)), (1, .int x0), (2, .int x1), (3, .int x2), (4, .int x3), (5, .int x4), (6, .ref o)]) hx hb dL_tariff_19 hl (by decide) rfl (fun ls hl => ?_)
      refine lv_iconst (v := 1) hx hb dL_tariff_21 (by decide) ?_
      exact w_ret (Or.inr (Or.inl (⟨hex.2, rfl⟩))) hx hb hr hlocks hP hS dL_tariff_22 (Nat.le_of_ble_eq_true rfl) (Nat.le_of_ble_eq_true rfl)
    · obtain ⟨rfl, hx1⟩ := hex
      have hex : True ∧ _ := ⟨trivial, hx1⟩
      refine vx_catch (own := RL) (name := "java/lang/IllegalArgumentException") (pc := 11) hown [] { startPc := 0, endPc := 16, handlerPc := 19, catchType := 15 } [{ startPc := 0, endPc := 16, handlerPc := 23, catchType := 24 }] (htab.trans rfl) (fun z hz => absurd hz List.not_mem_nil) (by decide) (by decide) (hts (.classLink RL 15 "java/lang/IllegalArgumentException") (List.mem_of_getElem? (i := 1) rfl)) (hE.2.2.2.2.1.use rfl) hce hcv hcl ?_
      refine lv_astore (lv' := [(7, .ref q9), (0, .ref (ad 0)), (1, .int x0), (2, .int x1), (3, .int x2), (4, .int x3), (5, .int x4), (6, .ref o)]) hx hb dL_tariff_19 hl (by decide) rfl (fun ls hl => ?_)
      refine lv_iconst (v := 1) hx hb dL_tariff_21 (by decide) ?_
      exact w_ret (Or.inr (Or.inr (Or.inl (⟨hex.2.1, hex.2.2, rfl⟩)))) hx hb hr hlocks hP hS dL_tariff_22 (Nat.le_of_ble_eq_true rfl) (Nat.le_of_ble_eq_true rfl)
    · obtain ⟨rfl, hx1⟩ := hex
      have hex : True ∧ _ := ⟨trivial, hx1⟩
      refine vx_catch (own := RL) (name := "java/lang/IllegalArgumentException") (pc := 11) hown [] { startPc := 0, endPc := 16, handlerPc := 19, catchType := 15 } [{ startPc := 0, endPc := 16, handlerPc := 23, catchType := 24 }] (htab.trans rfl) (fun z hz => absurd hz List.not_mem_nil) (by decide) (by decide) (hts (.classLink RL 15 "java/lang/IllegalArgumentException") (List.mem_of_getElem? (i := 1) rfl)) (hE.2.2.2.2.1.use rfl) hce hcv hcl ?_
      refine lv_astore (lv' := [(7, .ref q9), (0, .ref (ad 0)), (1, .int x0), (2, .int x1), (3, .int x2), (4, .int x3), (5, .int x4), (6, .ref o)]) hx hb dL_tariff_19 hl (by decide) rfl (fun ls hl => ?_)
      refine lv_iconst (v := 1) hx hb dL_tariff_21 (by decide) ?_
      exact w_ret (Or.inr (Or.inr (Or.inr (Or.inl (⟨hex.2.1, hex.2.2.1, hex.2.2.2, rfl⟩))))) hx hb hr hlocks hP hS dL_tariff_22 (Nat.le_of_ble_eq_true rfl) (Nat.le_of_ble_eq_true rfl)
    · obtain ⟨rfl, hx1⟩ := hex
      have hex : True ∧ _ := ⟨trivial, hx1⟩
      refine vx_catch (own := RL) (name := "java/lang/IllegalArgumentException") (pc := 11) hown [] { startPc := 0, endPc := 16, handlerPc := 19, catchType := 15 } [{ startPc := 0, endPc := 16, handlerPc := 23, catchType := 24 }] (htab.trans rfl) (fun z hz => absurd hz List.not_mem_nil) (by decide) (by decide) (hts (.classLink RL 15 "java/lang/IllegalArgumentException") (List.mem_of_getElem? (i := 1) rfl)) (hE.2.2.2.2.1.use rfl) hce hcv hcl ?_
      refine lv_astore (lv' := [(7, .ref q9), (0, .ref (ad 0)), (1, .int x0), (2, .int x1), (3, .int x2), (4, .int x3), (5, .int x4), (6, .ref o)]) hx hb dL_tariff_19 hl (by decide) rfl (fun ls hl => ?_)
      refine lv_iconst (v := 1) hx hb dL_tariff_21 (by decide) ?_
      exact w_ret (Or.inr (Or.inr (Or.inr (Or.inr (Or.inl (⟨hex.2.1, hex.2.2.1, hex.2.2.2.1, hex.2.2.2.2, rfl⟩)))))) hx hb hr hlocks hP hS dL_tariff_22 (Nat.le_of_ble_eq_true rfl) (Nat.le_of_ble_eq_true rfl)
    · obtain ⟨rfl, hx1⟩ := hex
      have hex : True ∧ _ := ⟨trivial, hx1⟩
      refine vx_catch (own := RL) (name := "java/lang/IllegalArgumentException") (pc := 11) hown [] { startPc := 0, endPc := 16, handlerPc := 19, catchType := 15 } [{ startPc := 0, endPc := 16, handlerPc := 23, catchType := 24 }] (htab.trans rfl) (fun z hz => absurd hz List.not_mem_nil) (by decide) (by decide) (hts (.classLink RL 15 "java/lang/IllegalArgumentException") (List.mem_of_getElem? (i := 1) rfl)) (hE.2.2.2.2.1.use rfl) hce hcv hcl ?_
      refine lv_astore (lv' := [(7, .ref q9), (0, .ref (ad 0)), (1, .int x0), (2, .int x1), (3, .int x2), (4, .int x3), (5, .int x4), (6, .ref o)]) hx hb dL_tariff_19 hl (by decide) rfl (fun ls hl => ?_)
      refine lv_iconst (v := 1) hx hb dL_tariff_21 (by decide) ?_
      exact w_ret (Or.inr (Or.inr (Or.inr (Or.inr (Or.inr (⟨hex.2.1, hex.2.2.1, hex.2.2.2.1, hex.2.2.2.2.1, hex.2.2.2.2.2, rfl⟩)))))) hx hb hr hlocks hP hS dL_tariff_22 (Nat.le_of_ble_eq_true rfl) (Nat.le_of_ble_eq_true rfl)
  · refine lv_i2l (v := r.toInt64) hx hb dL_tariff_14 rfl ?_
    refine va_last (tys := [(cI, .int), (cJ, .long)]) hx hb hK hP hD hS 0 1 rfl rfl (by unfold vp_in; decide) dL_tariff_15 (fun H locs hP hD hS => ?_)
    refine lv_goto (tgt := 27) hx hb dL_tariff_16 (by decide) ?_
    refine lv_iconst (v := 0) hx hb dL_tariff_27 (by decide) ?_
    exact w_ret (Or.inl (⟨hw.2.1, hw.2.2.1, hw.2.2.2.1, hw.2.2.2.2.1, hw.2.2.2.2.2, rfl, show r.toInt64 = _ by rw [hw.1]⟩)) hx hb hr hlocks hP hS dL_tariff_28 (Nat.le_of_ble_eq_true rfl) (Nat.le_of_ble_eq_true rfl)
set_option maxHeartbeats 4000000 in
set_option maxRecDepth 100000 in
theorem w_card (l : Launch) (hfl : l.stackTraces = false) (D : va_G) (ad : Nat → Nat) (cI cJ : ClassId) (sz o : Nat) (sa : Nat → Nat) : vx_Met l yL_card wsL_card ({ frames := 11, cells := 0, slots := 0, locals := 400 } : Room) (w_P D [(cI, .int), (cJ, .long)] (wrW ad cI cJ o) [.ref (ad 0), .ref o] sz sa) (w_Q D cJ o (va_A (wrW ad cI cJ o) sz) (fun k y => (k = 0 ∧ y = (0 : Int32).toInt64))) (o_X (va_A (wrW ad cI cJ o) sz) (fun _ => False)) 0 0 (va_A (wrW ad cI cJ o) sz) := by
  refine vx_ofWH (cc := cL_card) (maxL := 3) (ret := (some .int)) (hh := [(0, 8, 11, 24)]) (by decide) rfl ?_
  intro p e s m args below meth c9 s₁ B hml hv
  obtain ⟨rfl, hN, hE, hZ, hsz, hP, hK, hD0⟩ := hv
  have hx := B.exec
  have hb := B.bytes
  have hr := B.returns
  have hts := atoms_spec (ws := wsL_card) B.pre
  have hown : s.vm.findClass RL = some m.cls := findClass_of_methodNamed B.named
  have hlocks := B.notSynchronized
  subst hsz
  have hD := hD0.self (sz := s.heap.size)
  generalize hAe : va_A (wrW ad cI cJ o) s.heap.size = A at hD hZ ⊢
  have hA : ∀ q : Nat, s.heap.size ≤ q → A q := fun q h => by rw [← hAe]; exact Or.inr h
  have hS : va_S A s.heap s.heap [] := va_S.rf
  have hl := lv_entry ([.ref (ad 0), .ref o]) (n := 3) (Nat.le_of_ble_eq_true rfl)
  rw [lg_entry_eq]
  generalize (lg_sl ([.ref (ad 0), .ref o]) ++ List.replicate (3 - (lg_sl ([.ref (ad 0), .ref o])).length) Slot.unset).toArray = ls at hl ⊢
  have hl : lv_has ls 3 [(0, .ref (ad 0)), (1, .ref o)] := hl
  have htab := vx_table (x := yL_card) B (hts _ (List.mem_of_getElem? (i := 0) rfl))
  have hKI := hK.sub (tys' := [(cI, .int)]) [0] rfl
  refine lv_aload_n hx hb dL_card_0 rfl (lv_at hl 1 rfl) ?_
  refine lv_iconst (v := 0) hx hb dL_card_1 (by decide) ?_
  refine lv_aload_n hx hb dL_card_2 rfl (lv_at hl 0 rfl) ?_
  refine w_ki hP hD hS hA (vx_runV (As := []) (rest := [.int 0, .ref o]) ⟨hx, hb, hml, hown, hts⟩ (o_card l hfl D ad cI s.heap.size  sa) (cwV 0 hts gL_card_X8_card rfl rfl rfl (by decide +kernel) ⟨Nat.le_of_ble_eq_true rfl, Nat.le_of_ble_eq_true rfl⟩) (h_preV hE hZ hKI (pre_P hP) (pre_D hD) hS hA (ci := 8) (q0 := 0) rfl rfl) rfl rfl hl.1 rfl (lv_room (Nat.le_of_ble_eq_true rfl)) dL_card_3 ⟨Nat.le_of_ble_eq_true rfl, Nat.le_of_ble_eq_true rfl⟩) (fun E ce q9 H locs hex hP hD hS hce hcv hcl => ?_) (fun r H locs hw hP hD hS => ?_)
  · exact hex.elim
  · refine lv_i2l (v := r.toInt64) hx hb dL_card_6 rfl ?_
    refine va_last (tys := [(cI, .int), (cJ, .long)]) hx hb hK hP hD hS 0 1 rfl rfl (by unfold vp_in; decide) dL_card_7 (fun H locs hP hD hS => ?_)
    refine lv_goto (tgt := 14) hx hb dL_card_8 (by decide) ?_
    refine lv_iconst (v := 0) hx hb dL_card_14 (by decide) ?_
    exact w_ret (⟨rfl, show r.toInt64 = _ by rw [hw.1]⟩) hx hb hr hlocks hP hS dL_card_15 (Nat.le_of_ble_eq_true rfl) (Nat.le_of_ble_eq_true rfl)
set_option maxHeartbeats 4000000 in
set_option maxRecDepth 100000 in
theorem w_tie (l : Launch) (hfl : l.stackTraces = false) (D : va_G) (ad : Nat → Nat) (cI cJ : ClassId) (sz o : Nat) (x0 x1 : Int32) (sa : Nat → Nat) : vx_Met l yL_tie wsL_tie ({ frames := 11, cells := 1, slots := 6, locals := 400 } : Room) (w_P D [(cI, .int), (cJ, .long)] (wrW ad cI cJ o) [.ref (ad 0), .int x0, .int x1, .ref o] sz sa) (w_Q D cJ o (va_A (wrW ad cI cJ o) sz) (fun k y => (k = 1))) (o_X (va_A (wrW ad cI cJ o) sz) (fun _ => False)) 1 6 (va_A (wrW ad cI cJ o) sz) := by
  refine vx_ofWH (cc := cL_tie) (maxL := 5) (ret := (some .int)) (hh := [(0, 10, 13, 13), (0, 10, 17, 15), (0, 10, 21, 24)]) (by decide) rfl ?_
  intro p e s m args below meth c9 s₁ B hml hv
  obtain ⟨rfl, hN, hE, hZ, hsz, hP, hK, hD0⟩ := hv
  have hx := B.exec
  have hb := B.bytes
  have hr := B.returns
  have hts := atoms_spec (ws := wsL_tie) B.pre
  have hown : s.vm.findClass RL = some m.cls := findClass_of_methodNamed B.named
  have hlocks := B.notSynchronized
  subst hsz
  have hD := hD0.self (sz := s.heap.size)
  generalize hAe : va_A (wrW ad cI cJ o) s.heap.size = A at hD hZ ⊢
  have hA : ∀ q : Nat, s.heap.size ≤ q → A q := fun q h => by rw [← hAe]; exact Or.inr h
  have hS : va_S A s.heap s.heap [] := va_S.rf
  have hl := lv_entry ([.ref (ad 0), .int x0, .int x1, .ref o]) (n := 5) (Nat.le_of_ble_eq_true rfl)
  rw [lg_entry_eq]
  generalize (lg_sl ([.ref (ad 0), .int x0, .int x1, .ref o]) ++ List.replicate (5 - (lg_sl ([.ref (ad 0), .int x0, .int x1, .ref o])).length) Slot.unset).toArray = ls at hl ⊢
  have hl : lv_has ls 5 [(0, .ref (ad 0)), (1, .int x0), (2, .int x1), (3, .ref o)] := hl
  have htab := vx_table (x := yL_tie) B (hts _ (List.mem_of_getElem? (i := 0) rfl))
  have hKI := hK.sub (tys' := [(cI, .int)]) [0] rfl
  refine lv_aload_n hx hb dL_tie_0 rfl (lv_at hl 3 rfl) ?_
  refine lv_iconst (v := 0) hx hb dL_tie_1 (by decide) ?_
  refine lv_aload_n hx hb dL_tie_2 rfl (lv_at hl 0 rfl) ?_
  refine lv_iload_n hx hb dL_tie_3 rfl (lv_at hl 1 rfl) ?_
  refine lv_iload_n hx hb dL_tie_4 rfl (lv_at hl 2 rfl) ?_
  refine w_ki hP hD hS hA (vx_runV (As := [.int x0, .int x1]) (rest := [.int 0, .ref o]) ⟨hx, hb, hml, hown, hts⟩ (o_tie l hfl D ad cI s.heap.size x0 x1 sa) (cwV 2 hts gL_tie_X8_tie rfl rfl rfl (by decide +kernel) ⟨Nat.le_of_ble_eq_true rfl, Nat.le_of_ble_eq_true rfl⟩) (h_preV hE hZ hKI (pre_P hP) (pre_D hD) hS hA (ci := 8) (q0 := 0) rfl rfl) rfl rfl hl.1 rfl (lv_room (Nat.le_of_ble_eq_true rfl)) dL_tie_5 ⟨Nat.le_of_ble_eq_true rfl, Nat.le_of_ble_eq_true rfl⟩) (fun E ce q9 H locs hex hP hD hS hce hcv hcl => ?_) (fun r H locs hw hP hD hS => ?_)
  · subst hex
    refine vx_catch (own := RL) (name := "java/lang/IndexOutOfBoundsException") (pc := 5) hown [] { startPc := 0, endPc := 10, handlerPc := 13, catchType := 13 } [{ startPc := 0, endPc := 10, handlerPc := 17, catchType := 15 }, { startPc := 0, endPc := 10, handlerPc := 21, catchType := 24 }] (htab.trans rfl) (fun z hz => absurd hz List.not_mem_nil) (by decide) (by decide) (hts (.classLink RL 13 "java/lang/IndexOutOfBoundsException") (List.mem_of_getElem? (i := 1) rfl)) (hE.2.2.2.1.use rfl) hce hcv hcl ?_
    refine lv_astore (lv' := [(4, .ref q9), (0, .ref (ad 0)), (1, .int x0), (2, .int x1), (3, .ref o)]) hx hb dL_tie_13 hl (by decide) rfl (fun ls hl => ?_)
    refine lv_iconst (v := 1) hx hb dL_tie_15 (by decide) ?_
    exact w_ret (rfl) hx hb hr hlocks hP hS dL_tie_16 (Nat.le_of_ble_eq_true rfl) (Nat.le_of_ble_eq_true rfl)
  · exact hw.elim
set_option maxHeartbeats 4000000 in
set_option maxRecDepth 100000 in
theorem w_lose (l : Launch) (hfl : l.stackTraces = false) (D : va_G) (ad : Nat → Nat) (cI cJ : ClassId) (sz o : Nat) (x0 x1 : Int32) (sa : Nat → Nat) : vx_Met l yL_lose wsL_lose ({ frames := 11, cells := 1, slots := 6, locals := 400 } : Room) (w_P D [(cI, .int), (cJ, .long)] (wrW ad cI cJ o) [.ref (ad 0), .int x0, .int x1, .ref o] sz sa) (w_Q D cJ o (va_A (wrW ad cI cJ o) sz) (fun k y => (k = 1))) (o_X (va_A (wrW ad cI cJ o) sz) (fun _ => False)) 1 6 (va_A (wrW ad cI cJ o) sz) := by
  refine vx_ofWH (cc := cL_lose) (maxL := 5) (ret := (some .int)) (hh := [(0, 17, 20, 13)]) (by decide) rfl ?_
  intro p e s m args below meth c9 s₁ B hml hv
  obtain ⟨rfl, hN, hE, hZ, hsz, hP, hK, hD0⟩ := hv
  have hx := B.exec
  have hb := B.bytes
  have hr := B.returns
  have hts := atoms_spec (ws := wsL_lose) B.pre
  have hown : s.vm.findClass RL = some m.cls := findClass_of_methodNamed B.named
  have hlocks := B.notSynchronized
  subst hsz
  have hD := hD0.self (sz := s.heap.size)
  generalize hAe : va_A (wrW ad cI cJ o) s.heap.size = A at hD hZ ⊢
  have hA : ∀ q : Nat, s.heap.size ≤ q → A q := fun q h => by rw [← hAe]; exact Or.inr h
  have hS : va_S A s.heap s.heap [] := va_S.rf
  have hl := lv_entry ([.ref (ad 0), .int x0, .int x1, .ref o]) (n := 5) (Nat.le_of_ble_eq_true rfl)
  rw [lg_entry_eq]
  generalize (lg_sl ([.ref (ad 0), .int x0, .int x1, .ref o]) ++ List.replicate (5 - (lg_sl ([.ref (ad 0), .int x0, .int x1, .ref o])).length) Slot.unset).toArray = ls at hl ⊢
  have hl : lv_has ls 5 [(0, .ref (ad 0)), (1, .int x0), (2, .int x1), (3, .ref o)] := hl
  have htab := vx_table (x := yL_lose) B (hts _ (List.mem_of_getElem? (i := 0) rfl))
  have hKI := hK.sub (tys' := [(cI, .int)]) [0] rfl
  refine lv_aload_n hx hb dL_lose_0 rfl (lv_at hl 3 rfl) ?_
  refine lv_iconst (v := 0) hx hb dL_lose_1 (by decide) ?_
  refine lv_aload_n hx hb dL_lose_2 rfl (lv_at hl 0 rfl) ?_
  refine lv_iload_n hx hb dL_lose_3 rfl (lv_at hl 1 rfl) ?_
  refine lv_iload_n hx hb dL_lose_4 rfl (lv_at hl 2 rfl) ?_
  refine w_ki hP hD hS hA (vx_runV (As := [.int x0, .int x1]) (rest := [.int 0, .ref o]) ⟨hx, hb, hml, hown, hts⟩ (o_lose l hfl D ad cI s.heap.size x0 x1 sa) (cwV 2 hts gL_lose_X8_lose rfl rfl rfl (by decide +kernel) ⟨Nat.le_of_ble_eq_true rfl, Nat.le_of_ble_eq_true rfl⟩) (h_preV hE hZ hKI (pre_P hP) (pre_D hD) hS hA (ci := 8) (q0 := 0) rfl rfl) rfl rfl hl.1 rfl (lv_room (Nat.le_of_ble_eq_true rfl)) dL_lose_5 ⟨Nat.le_of_ble_eq_true rfl, Nat.le_of_ble_eq_true rfl⟩) (fun E ce q9 H locs hex hP hD hS hce hcv hcl => ?_) (fun r H locs hw hP hD hS => ?_)
  · subst hex
    refine vx_catch (own := RL) (name := "java/lang/IndexOutOfBoundsException") (pc := 5) hown [] { startPc := 0, endPc := 17, handlerPc := 20, catchType := 13 } [] (htab.trans rfl) (fun z hz => absurd hz List.not_mem_nil) (by decide) (by decide) (hts (.classLink RL 13 "java/lang/IndexOutOfBoundsException") (List.mem_of_getElem? (i := 1) rfl)) (hE.2.2.2.1.use rfl) hce hcv hcl ?_
    refine lv_astore (lv' := [(4, .ref q9), (0, .ref (ad 0)), (1, .int x0), (2, .int x1), (3, .ref o)]) hx hb dL_lose_20 hl (by decide) rfl (fun ls hl => ?_)
    refine lv_iconst (v := 1) hx hb dL_lose_22 (by decide) ?_
    exact w_ret (rfl) hx hb hr hlocks hP hS dL_lose_23 (Nat.le_of_ble_eq_true rfl) (Nat.le_of_ble_eq_true rfl)
  · exact hw.elim
set_option maxHeartbeats 4000000 in
set_option maxRecDepth 100000 in
theorem w_pay (l : Launch) (hfl : l.stackTraces = false) (D : va_G) (ad : Nat → Nat) (cI cJ : ClassId) (sz o : Nat) (x0 x1 : Int32) (sa : Nat → Nat) : vx_Met l yL_pay wsL_pay ({ frames := 11, cells := 1, slots := 6, locals := 400 } : Room) (w_P D [(cI, .int), (cJ, .long)] (wrW ad cI cJ o) [.ref (ad 0), .int x0, .int x1, .ref o] sz sa) (w_Q D cJ o (va_A (wrW ad cI cJ o) sz) (fun k y => (k = 1))) (o_X (va_A (wrW ad cI cJ o) sz) (fun _ => False)) 1 6 (va_A (wrW ad cI cJ o) sz) := by
  refine vx_ofWH (cc := cL_pay) (maxL := 5) (ret := (some .int)) (hh := [(0, 10, 13, 13), (0, 10, 17, 15)]) (by decide) rfl ?_
  intro p e s m args below meth c9 s₁ B hml hv
  obtain ⟨rfl, hN, hE, hZ, hsz, hP, hK, hD0⟩ := hv
  have hx := B.exec
  have hb := B.bytes
  have hr := B.returns
  have hts := atoms_spec (ws := wsL_pay) B.pre
  have hown : s.vm.findClass RL = some m.cls := findClass_of_methodNamed B.named
  have hlocks := B.notSynchronized
  subst hsz
  have hD := hD0.self (sz := s.heap.size)
  generalize hAe : va_A (wrW ad cI cJ o) s.heap.size = A at hD hZ ⊢
  have hA : ∀ q : Nat, s.heap.size ≤ q → A q := fun q h => by rw [← hAe]; exact Or.inr h
  have hS : va_S A s.heap s.heap [] := va_S.rf
  have hl := lv_entry ([.ref (ad 0), .int x0, .int x1, .ref o]) (n := 5) (Nat.le_of_ble_eq_true rfl)
  rw [lg_entry_eq]
  generalize (lg_sl ([.ref (ad 0), .int x0, .int x1, .ref o]) ++ List.replicate (5 - (lg_sl ([.ref (ad 0), .int x0, .int x1, .ref o])).length) Slot.unset).toArray = ls at hl ⊢
  have hl : lv_has ls 5 [(0, .ref (ad 0)), (1, .int x0), (2, .int x1), (3, .ref o)] := hl
  have htab := vx_table (x := yL_pay) B (hts _ (List.mem_of_getElem? (i := 0) rfl))
  have hKI := hK.sub (tys' := [(cI, .int)]) [0] rfl
  refine lv_aload_n hx hb dL_pay_0 rfl (lv_at hl 3 rfl) ?_
  refine lv_iconst (v := 0) hx hb dL_pay_1 (by decide) ?_
  refine lv_aload_n hx hb dL_pay_2 rfl (lv_at hl 0 rfl) ?_
  refine lv_iload_n hx hb dL_pay_3 rfl (lv_at hl 1 rfl) ?_
  refine lv_iload_n hx hb dL_pay_4 rfl (lv_at hl 2 rfl) ?_
  refine w_ki hP hD hS hA (vx_runV (As := [.int x0, .int x1]) (rest := [.int 0, .ref o]) ⟨hx, hb, hml, hown, hts⟩ (o_pay l hfl D ad cI s.heap.size x0 x1 sa) (cwV 2 hts gL_pay_X8_pay rfl rfl rfl (by decide +kernel) ⟨Nat.le_of_ble_eq_true rfl, Nat.le_of_ble_eq_true rfl⟩) (h_preV hE hZ hKI (pre_P hP) (pre_D hD) hS hA (ci := 8) (q0 := 0) rfl rfl) rfl rfl hl.1 rfl (lv_room (Nat.le_of_ble_eq_true rfl)) dL_pay_5 ⟨Nat.le_of_ble_eq_true rfl, Nat.le_of_ble_eq_true rfl⟩) (fun E ce q9 H locs hex hP hD hS hce hcv hcl => ?_) (fun r H locs hw hP hD hS => ?_)
  · subst hex
    refine vx_catch (own := RL) (name := "java/lang/IndexOutOfBoundsException") (pc := 5) hown [] { startPc := 0, endPc := 10, handlerPc := 13, catchType := 13 } [{ startPc := 0, endPc := 10, handlerPc := 17, catchType := 15 }] (htab.trans rfl) (fun z hz => absurd hz List.not_mem_nil) (by decide) (by decide) (hts (.classLink RL 13 "java/lang/IndexOutOfBoundsException") (List.mem_of_getElem? (i := 1) rfl)) (hE.2.2.2.1.use rfl) hce hcv hcl ?_
    refine lv_astore (lv' := [(4, .ref q9), (0, .ref (ad 0)), (1, .int x0), (2, .int x1), (3, .ref o)]) hx hb dL_pay_13 hl (by decide) rfl (fun ls hl => ?_)
    refine lv_iconst (v := 1) hx hb dL_pay_15 (by decide) ?_
    exact w_ret (rfl) hx hb hr hlocks hP hS dL_pay_16 (Nat.le_of_ble_eq_true rfl) (Nat.le_of_ble_eq_true rfl)
  · exact hw.elim
set_option maxHeartbeats 4000000 in
set_option maxRecDepth 100000 in
theorem w_late (l : Launch) (hfl : l.stackTraces = false) (D : va_G) (ad : Nat → Nat) (cI cJ : ClassId) (sz o : Nat) (x0 x1 x2 : Int32) (sa : Nat → Nat) : vx_Met l yL_late wsL_late ({ frames := 11, cells := 3, slots := 18, locals := 400 } : Room) (w_P D [(cI, .int), (cJ, .long)] (wrW ad cI cJ o) [.ref (ad 0), .int x0, .int x1, .int x2, .ref o] sz sa) (w_Q D cJ o (va_A (wrW ad cI cJ o) sz) (fun k y => ((in_N x0 6) ∧ (in_N x1 28) ∧ (in_R x2 0 200) ∧ k = 0 ∧ y = (0 : Int32).toInt64) ∨ ((¬ in_N x0 6) ∧ k = 1) ∨ ((in_N x0 6) ∧ (¬ in_N x1 28) ∧ k = 1) ∨ ((in_N x0 6) ∧ (in_N x1 28) ∧ (¬ in_R x2 0 200) ∧ k = 2))) (o_X (va_A (wrW ad cI cJ o) sz) (fun _ => False)) 3 18 (va_A (wrW ad cI cJ o) sz) := by
  refine vx_ofWH (cc := cL_late) (maxL := 6) (ret := (some .int)) (hh := [(0, 12, 15, 13), (0, 12, 19, 15)]) (by decide) rfl ?_
  intro p e s m args below meth c9 s₁ B hml hv
  obtain ⟨rfl, hN, hE, hZ, hsz, hP, hK, hD0⟩ := hv
  have hx := B.exec
  have hb := B.bytes
  have hr := B.returns
  have hts := atoms_spec (ws := wsL_late) B.pre
  have hown : s.vm.findClass RL = some m.cls := findClass_of_methodNamed B.named
  have hlocks := B.notSynchronized
  subst hsz
  have hD := hD0.self (sz := s.heap.size)
  generalize hAe : va_A (wrW ad cI cJ o) s.heap.size = A at hD hZ ⊢
  have hA : ∀ q : Nat, s.heap.size ≤ q → A q := fun q h => by rw [← hAe]; exact Or.inr h
  have hS : va_S A s.heap s.heap [] := va_S.rf
  have hl := lv_entry ([.ref (ad 0), .int x0, .int x1, .int x2, .ref o]) (n := 6) (Nat.le_of_ble_eq_true rfl)
  rw [lg_entry_eq]
  generalize (lg_sl ([.ref (ad 0), .int x0, .int x1, .int x2, .ref o]) ++ List.replicate (6 - (lg_sl ([.ref (ad 0), .int x0, .int x1, .int x2, .ref o])).length) Slot.unset).toArray = ls at hl ⊢
  have hl : lv_has ls 6 [(0, .ref (ad 0)), (1, .int x0), (2, .int x1), (3, .int x2), (4, .ref o)] := hl
  have htab := vx_table (x := yL_late) B (hts _ (List.mem_of_getElem? (i := 0) rfl))
  have hKI := hK.sub (tys' := [(cI, .int)]) [0] rfl
  refine lv_aload hx hb dL_late_0 (lv_at hl 4 rfl) ?_
  refine lv_iconst (v := 0) hx hb dL_late_2 (by decide) ?_
  refine lv_aload_n hx hb dL_late_3 rfl (lv_at hl 0 rfl) ?_
  refine lv_iload_n hx hb dL_late_4 rfl (lv_at hl 1 rfl) ?_
  refine lv_iload_n hx hb dL_late_5 rfl (lv_at hl 2 rfl) ?_
  refine lv_iload_n hx hb dL_late_6 rfl (lv_at hl 3 rfl) ?_
  refine w_ki hP hD hS hA (vx_runV (As := [.int x0, .int x1, .int x2]) (rest := [.int 0, .ref o]) ⟨hx, hb, hml, hown, hts⟩ (o_late l hfl D ad cI s.heap.size x0 x1 x2 sa) (cwV 3 hts gL_late_X8_late rfl rfl rfl (by decide +kernel) ⟨Nat.le_of_ble_eq_true rfl, Nat.le_of_ble_eq_true rfl⟩) (h_preV hE hZ hKI (pre_P hP) (pre_D hD) hS hA (ci := 8) (q0 := 0) rfl rfl) rfl rfl hl.1 rfl (lv_room (Nat.le_of_ble_eq_true rfl)) dL_late_7 ⟨Nat.le_of_ble_eq_true rfl, Nat.le_of_ble_eq_true rfl⟩) (fun E ce q9 H locs hex hP hD hS hce hcv hcl => ?_) (fun r H locs hw hP hD hS => ?_)
  · rcases hex with hex | hex | hex
    · obtain ⟨rfl, hx1⟩ := hex
      have hex : True ∧ _ := ⟨trivial, hx1⟩
      refine vx_catch (own := RL) (name := "java/lang/IndexOutOfBoundsException") (pc := 7) hown [] { startPc := 0, endPc := 12, handlerPc := 15, catchType := 13 } [{ startPc := 0, endPc := 12, handlerPc := 19, catchType := 15 }] (htab.trans rfl) (fun z hz => absurd hz List.not_mem_nil) (by decide) (by decide) (hts (.classLink RL 13 "java/lang/IndexOutOfBoundsException") (List.mem_of_getElem? (i := 1) rfl)) (hE.2.2.2.1.use rfl) hce hcv hcl ?_
      refine lv_astore (lv' := [(5, .ref q9), (0, .ref (ad 0)), (1, .int x0), (2, .int x1), (3, .int x2), (4, .ref o)]) hx hb dL_late_15 hl (by decide) rfl (fun ls hl => ?_)
      refine lv_iconst (v := 1) hx hb dL_late_17 (by decide) ?_
      exact w_ret (Or.inr (Or.inl (⟨hex.2, rfl⟩))) hx hb hr hlocks hP hS dL_late_18 (Nat.le_of_ble_eq_true rfl) (Nat.le_of_ble_eq_true rfl)
    · obtain ⟨rfl, hx1⟩ := hex
      have hex : True ∧ _ := ⟨trivial, hx1⟩
      refine vx_catch (own := RL) (name := "java/lang/IndexOutOfBoundsException") (pc := 7) hown [] { startPc := 0, endPc := 12, handlerPc := 15, catchType := 13 } [{ startPc := 0, endPc := 12, handlerPc := 19, catchType := 15 }] (htab.trans rfl) (fun z hz => absurd hz List.not_mem_nil) (by decide) (by decide) (hts (.classLink RL 13 "java/lang/IndexOutOfBoundsException") (List.mem_of_getElem? (i := 1) rfl)) (hE.2.2.2.1.use rfl) hce hcv hcl ?_
      refine lv_astore (lv' := [(5, .ref q9), (0, .ref (ad 0)), (1, .int x0), (2, .int x1), (3, .int x2), (4, .ref o)]) hx hb dL_late_15 hl (by decide) rfl (fun ls hl => ?_)
      refine lv_iconst (v := 1) hx hb dL_late_17 (by decide) ?_
      exact w_ret (Or.inr (Or.inr (Or.inl (⟨hex.2.1, hex.2.2, rfl⟩)))) hx hb hr hlocks hP hS dL_late_18 (Nat.le_of_ble_eq_true rfl) (Nat.le_of_ble_eq_true rfl)
    · obtain ⟨rfl, hx1⟩ := hex
      have hex : True ∧ _ := ⟨trivial, hx1⟩
      refine vx_catch (own := RL) (name := "java/lang/IllegalArgumentException") (pc := 7) hown [{ startPc := 0, endPc := 12, handlerPc := 15, catchType := 13 }] { startPc := 0, endPc := 12, handlerPc := 19, catchType := 15 } [] (htab.trans rfl) (fun z hz => by rw [List.mem_singleton.mp hz]; exact Or.inr ⟨by decide, "java/lang/IndexOutOfBoundsException", (hts (.classLink RL 13 "java/lang/IndexOutOfBoundsException") (List.mem_of_getElem? (i := 1) rfl)), hN⟩) (by decide) (by decide) (hts (.classLink RL 15 "java/lang/IllegalArgumentException") (List.mem_of_getElem? (i := 2) rfl)) (hE.2.2.2.2.1.use rfl) hce hcv hcl ?_
      refine lv_astore (lv' := [(5, .ref q9), (0, .ref (ad 0)), (1, .int x0), (2, .int x1), (3, .int x2), (4, .ref o)]) hx hb dL_late_19 hl (by decide) rfl (fun ls hl => ?_)
      refine lv_iconst (v := 2) hx hb dL_late_21 (by decide) ?_
      exact w_ret (Or.inr (Or.inr (Or.inr (⟨hex.2.1, hex.2.2.1, hex.2.2.2, rfl⟩)))) hx hb hr hlocks hP hS dL_late_22 (Nat.le_of_ble_eq_true rfl) (Nat.le_of_ble_eq_true rfl)
  · refine lv_i2l (v := r.toInt64) hx hb dL_late_10 rfl ?_
    refine va_last (tys := [(cI, .int), (cJ, .long)]) hx hb hK hP hD hS 0 1 rfl rfl (by unfold vp_in; decide) dL_late_11 (fun H locs hP hD hS => ?_)
    refine lv_goto (tgt := 23) hx hb dL_late_12 (by decide) ?_
    refine lv_iconst (v := 0) hx hb dL_late_23 (by decide) ?_
    exact w_ret (Or.inl (⟨hw.2.1, hw.2.2.1, hw.2.2.2, rfl, show r.toInt64 = _ by rw [hw.1]⟩)) hx hb hr hlocks hP hS dL_late_24 (Nat.le_of_ble_eq_true rfl) (Nat.le_of_ble_eq_true rfl)
set_option maxHeartbeats 4000000 in
set_option maxRecDepth 100000 in
theorem w_tap (l : Launch) (hfl : l.stackTraces = false) (D : va_G) (ad : Nat → Nat) (cI cJ : ClassId) (sz o : Nat) (x0 x1 x2 x3 x4 x5 : Int32) (sa : Nat → Nat) : vx_Met l yL_tap wsL_tap ({ frames := 11, cells := 5, slots := 30, locals := 400 } : Room) (w_P D [(cI, .int), (cJ, .long)] (wrW ad cI cJ o) [.ref (ad 0), .int x0, .int x1, .int x2, .int x3, .int x4, .int x5, .ref o] sz sa) (w_Q D cJ o (va_A (wrW ad cI cJ o) sz) (fun k y => (k = 1))) (o_X (va_A (wrW ad cI cJ o) sz) (fun _ => False)) 5 30 (va_A (wrW ad cI cJ o) sz) := by
  refine vx_ofWH (cc := cL_tap) (maxL := 9) (ret := (some .int)) (hh := [(0, 18, 21, 13), (0, 18, 25, 15), (0, 18, 29, 24)]) (by decide) rfl ?_
  intro p e s m args below meth c9 s₁ B hml hv
  obtain ⟨rfl, hN, hE, hZ, hsz, hP, hK, hD0⟩ := hv
  have hx := B.exec
  have hb := B.bytes
  have hr := B.returns
  have hts := atoms_spec (ws := wsL_tap) B.pre
  have hown : s.vm.findClass RL = some m.cls := findClass_of_methodNamed B.named
  have hlocks := B.notSynchronized
  subst hsz
  have hD := hD0.self (sz := s.heap.size)
  generalize hAe : va_A (wrW ad cI cJ o) s.heap.size = A at hD hZ ⊢
  have hA : ∀ q : Nat, s.heap.size ≤ q → A q := fun q h => by rw [← hAe]; exact Or.inr h
  have hS : va_S A s.heap s.heap [] := va_S.rf
  have hl := lv_entry ([.ref (ad 0), .int x0, .int x1, .int x2, .int x3, .int x4, .int x5, .ref o]) (n := 9) (Nat.le_of_ble_eq_true rfl)
  rw [lg_entry_eq]
  generalize (lg_sl ([.ref (ad 0), .int x0, .int x1, .int x2, .int x3, .int x4, .int x5, .ref o]) ++ List.replicate (9 - (lg_sl ([.ref (ad 0), .int x0, .int x1, .int x2, .int x3, .int x4, .int x5, .ref o])).length) Slot.unset).toArray = ls at hl ⊢
  have hl : lv_has ls 9 [(0, .ref (ad 0)), (1, .int x0), (2, .int x1), (3, .int x2), (4, .int x3), (5, .int x4), (6, .int x5), (7, .ref o)] := hl
  have htab := vx_table (x := yL_tap) B (hts _ (List.mem_of_getElem? (i := 0) rfl))
  have hKI := hK.sub (tys' := [(cI, .int)]) [0] rfl
  refine lv_aload hx hb dL_tap_0 (lv_at hl 7 rfl) ?_
  refine lv_iconst (v := 0) hx hb dL_tap_2 (by decide) ?_
  refine lv_aload_n hx hb dL_tap_3 rfl (lv_at hl 0 rfl) ?_
  refine lv_iload_n hx hb dL_tap_4 rfl (lv_at hl 1 rfl) ?_
  refine lv_iload_n hx hb dL_tap_5 rfl (lv_at hl 2 rfl) ?_
  refine lv_iload_n hx hb dL_tap_6 rfl (lv_at hl 3 rfl) ?_
  refine lv_iload hx hb dL_tap_7 (lv_at hl 4 rfl) ?_
  refine lv_iload hx hb dL_tap_9 (lv_at hl 5 rfl) ?_
  refine lv_iload hx hb dL_tap_11 (lv_at hl 6 rfl) ?_
  refine w_ki hP hD hS hA (vx_runV (As := [.int x0, .int x1, .int x2, .int x3, .int x4, .int x5]) (rest := [.int 0, .ref o]) ⟨hx, hb, hml, hown, hts⟩ (o_tap l hfl D ad cI s.heap.size x0 x1 x2 x3 x4 x5 sa) (cwV 6 hts gL_tap_X8_tap rfl rfl rfl (by decide +kernel) ⟨Nat.le_of_ble_eq_true rfl, Nat.le_of_ble_eq_true rfl⟩) (h_preV hE hZ hKI (pre_P hP) (pre_D hD) hS hA (ci := 8) (q0 := 0) rfl rfl) rfl rfl hl.1 rfl (lv_room (Nat.le_of_ble_eq_true rfl)) dL_tap_13 ⟨Nat.le_of_ble_eq_true rfl, Nat.le_of_ble_eq_true rfl⟩) (fun E ce q9 H locs hex hP hD hS hce hcv hcl => ?_) (fun r H locs hw hP hD hS => ?_)
  · subst hex
    refine vx_catch (own := RL) (name := "java/lang/IndexOutOfBoundsException") (pc := 13) hown [] { startPc := 0, endPc := 18, handlerPc := 21, catchType := 13 } [{ startPc := 0, endPc := 18, handlerPc := 25, catchType := 15 }, { startPc := 0, endPc := 18, handlerPc := 29, catchType := 24 }] (htab.trans rfl) (fun z hz => absurd hz List.not_mem_nil) (by decide) (by decide) (hts (.classLink RL 13 "java/lang/IndexOutOfBoundsException") (List.mem_of_getElem? (i := 1) rfl)) (hE.2.2.2.1.use rfl) hce hcv hcl ?_
    refine lv_astore (lv' := [(8, .ref q9), (0, .ref (ad 0)), (1, .int x0), (2, .int x1), (3, .int x2), (4, .int x3), (5, .int x4), (6, .int x5), (7, .ref o)]) hx hb dL_tap_21 hl (by decide) rfl (fun ls hl => ?_)
    refine lv_iconst (v := 1) hx hb dL_tap_23 (by decide) ?_
    exact w_ret (rfl) hx hb hr hlocks hP hS dL_tap_24 (Nat.le_of_ble_eq_true rfl) (Nat.le_of_ble_eq_true rfl)
  · exact hw.elim
set_option maxHeartbeats 4000000 in
set_option maxRecDepth 100000 in
theorem w_close (l : Launch) (hfl : l.stackTraces = false) (D : va_G) (ad : Nat → Nat) (cI cJ : ClassId) (sz o : Nat) (sa : Nat → Nat) : vx_Met l yL_close wsL_close ({ frames := 11, cells := 0, slots := 0, locals := 400 } : Room) (w_P D [(cI, .int), (cJ, .long)] (wrW ad cI cJ o) [.ref (ad 0), .ref o] sz sa) (w_Q D cJ o (va_A (wrW ad cI cJ o) sz) (fun k y => (k = 0 ∧ y = (0 : Int32).toInt64))) (o_X (va_A (wrW ad cI cJ o) sz) (fun _ => False)) 0 0 (va_A (wrW ad cI cJ o) sz) := by
  refine vx_ofWH (cc := cL_close) (maxL := 3) (ret := (some .int)) (hh := [(0, 8, 11, 24)]) (by decide) rfl ?_
  intro p e s m args below meth c9 s₁ B hml hv
  obtain ⟨rfl, hN, hE, hZ, hsz, hP, hK, hD0⟩ := hv
  have hx := B.exec
  have hb := B.bytes
  have hr := B.returns
  have hts := atoms_spec (ws := wsL_close) B.pre
  have hown : s.vm.findClass RL = some m.cls := findClass_of_methodNamed B.named
  have hlocks := B.notSynchronized
  subst hsz
  have hD := hD0.self (sz := s.heap.size)
  generalize hAe : va_A (wrW ad cI cJ o) s.heap.size = A at hD hZ ⊢
  have hA : ∀ q : Nat, s.heap.size ≤ q → A q := fun q h => by rw [← hAe]; exact Or.inr h
  have hS : va_S A s.heap s.heap [] := va_S.rf
  have hl := lv_entry ([.ref (ad 0), .ref o]) (n := 3) (Nat.le_of_ble_eq_true rfl)
  rw [lg_entry_eq]
  generalize (lg_sl ([.ref (ad 0), .ref o]) ++ List.replicate (3 - (lg_sl ([.ref (ad 0), .ref o])).length) Slot.unset).toArray = ls at hl ⊢
  have hl : lv_has ls 3 [(0, .ref (ad 0)), (1, .ref o)] := hl
  have htab := vx_table (x := yL_close) B (hts _ (List.mem_of_getElem? (i := 0) rfl))
  have hKI := hK.sub (tys' := [(cI, .int)]) [0] rfl
  refine lv_aload_n hx hb dL_close_0 rfl (lv_at hl 1 rfl) ?_
  refine lv_iconst (v := 0) hx hb dL_close_1 (by decide) ?_
  refine lv_aload_n hx hb dL_close_2 rfl (lv_at hl 0 rfl) ?_
  refine w_ki hP hD hS hA (vx_runV (As := []) (rest := [.int 0, .ref o]) ⟨hx, hb, hml, hown, hts⟩ (o_close l hfl D ad cI s.heap.size  sa) (cwV 0 hts gL_close_X8_close rfl rfl rfl (by decide +kernel) ⟨Nat.le_of_ble_eq_true rfl, Nat.le_of_ble_eq_true rfl⟩) (h_preV hE hZ hKI (pre_P hP) (pre_D hD) hS hA (ci := 8) (q0 := 0) rfl rfl) rfl rfl hl.1 rfl (lv_room (Nat.le_of_ble_eq_true rfl)) dL_close_3 ⟨Nat.le_of_ble_eq_true rfl, Nat.le_of_ble_eq_true rfl⟩) (fun E ce q9 H locs hex hP hD hS hce hcv hcl => ?_) (fun r H locs hw hP hD hS => ?_)
  · exact hex.elim
  · refine lv_i2l (v := r.toInt64) hx hb dL_close_6 rfl ?_
    refine va_last (tys := [(cI, .int), (cJ, .long)]) hx hb hK hP hD hS 0 1 rfl rfl (by unfold vp_in; decide) dL_close_7 (fun H locs hP hD hS => ?_)
    refine lv_goto (tgt := 14) hx hb dL_close_8 (by decide) ?_
    refine lv_iconst (v := 0) hx hb dL_close_14 (by decide) ?_
    exact w_ret (⟨rfl, show r.toInt64 = _ by rw [hw.1]⟩) hx hb hr hlocks hP hS dL_close_15 (Nat.le_of_ble_eq_true rfl) (Nat.le_of_ble_eq_true rfl)
set_option maxHeartbeats 4000000 in
set_option maxRecDepth 100000 in
theorem w_settle (l : Launch) (hfl : l.stackTraces = false) (D : va_G) (ad : Nat → Nat) (cI cJ : ClassId) (sz o : Nat) (x0 x1 : Int32) (sa : Nat → Nat) : vx_Met l yL_settle wsL_settle ({ frames := 11, cells := 1, slots := 6, locals := 400 } : Room) (w_P D [(cI, .int), (cJ, .long)] (wrW ad cI cJ o) [.ref (ad 0), .int x0, .int x1, .ref o] sz sa) (w_Q D cJ o (va_A (wrW ad cI cJ o) sz) (fun k y => (k = 1))) (o_X (va_A (wrW ad cI cJ o) sz) (fun _ => False)) 1 6 (va_A (wrW ad cI cJ o) sz) := by
  refine vx_ofWH (cc := cL_settle) (maxL := 5) (ret := (some .int)) (hh := [(0, 10, 13, 13), (0, 10, 17, 24)]) (by decide) rfl ?_
  intro p e s m args below meth c9 s₁ B hml hv
  obtain ⟨rfl, hN, hE, hZ, hsz, hP, hK, hD0⟩ := hv
  have hx := B.exec
  have hb := B.bytes
  have hr := B.returns
  have hts := atoms_spec (ws := wsL_settle) B.pre
  have hown : s.vm.findClass RL = some m.cls := findClass_of_methodNamed B.named
  have hlocks := B.notSynchronized
  subst hsz
  have hD := hD0.self (sz := s.heap.size)
  generalize hAe : va_A (wrW ad cI cJ o) s.heap.size = A at hD hZ ⊢
  have hA : ∀ q : Nat, s.heap.size ≤ q → A q := fun q h => by rw [← hAe]; exact Or.inr h
  have hS : va_S A s.heap s.heap [] := va_S.rf
  have hl := lv_entry ([.ref (ad 0), .int x0, .int x1, .ref o]) (n := 5) (Nat.le_of_ble_eq_true rfl)
  rw [lg_entry_eq]
  generalize (lg_sl ([.ref (ad 0), .int x0, .int x1, .ref o]) ++ List.replicate (5 - (lg_sl ([.ref (ad 0), .int x0, .int x1, .ref o])).length) Slot.unset).toArray = ls at hl ⊢
  have hl : lv_has ls 5 [(0, .ref (ad 0)), (1, .int x0), (2, .int x1), (3, .ref o)] := hl
  have htab := vx_table (x := yL_settle) B (hts _ (List.mem_of_getElem? (i := 0) rfl))
  have hKI := hK.sub (tys' := [(cI, .int)]) [0] rfl
  refine lv_aload_n hx hb dL_settle_0 rfl (lv_at hl 3 rfl) ?_
  refine lv_iconst (v := 0) hx hb dL_settle_1 (by decide) ?_
  refine lv_aload_n hx hb dL_settle_2 rfl (lv_at hl 0 rfl) ?_
  refine lv_iload_n hx hb dL_settle_3 rfl (lv_at hl 1 rfl) ?_
  refine lv_iload_n hx hb dL_settle_4 rfl (lv_at hl 2 rfl) ?_
  refine w_ki hP hD hS hA (vx_runV (As := [.int x0, .int x1]) (rest := [.int 0, .ref o]) ⟨hx, hb, hml, hown, hts⟩ (o_settle l hfl D ad cI s.heap.size x0 x1 sa) (cwV 2 hts gL_settle_X8_settle rfl rfl rfl (by decide +kernel) ⟨Nat.le_of_ble_eq_true rfl, Nat.le_of_ble_eq_true rfl⟩) (h_preV hE hZ hKI (pre_P hP) (pre_D hD) hS hA (ci := 8) (q0 := 0) rfl rfl) rfl rfl hl.1 rfl (lv_room (Nat.le_of_ble_eq_true rfl)) dL_settle_5 ⟨Nat.le_of_ble_eq_true rfl, Nat.le_of_ble_eq_true rfl⟩) (fun E ce q9 H locs hex hP hD hS hce hcv hcl => ?_) (fun r H locs hw hP hD hS => ?_)
  · subst hex
    refine vx_catch (own := RL) (name := "java/lang/IndexOutOfBoundsException") (pc := 5) hown [] { startPc := 0, endPc := 10, handlerPc := 13, catchType := 13 } [{ startPc := 0, endPc := 10, handlerPc := 17, catchType := 24 }] (htab.trans rfl) (fun z hz => absurd hz List.not_mem_nil) (by decide) (by decide) (hts (.classLink RL 13 "java/lang/IndexOutOfBoundsException") (List.mem_of_getElem? (i := 1) rfl)) (hE.2.2.2.1.use rfl) hce hcv hcl ?_
    refine lv_astore (lv' := [(4, .ref q9), (0, .ref (ad 0)), (1, .int x0), (2, .int x1), (3, .ref o)]) hx hb dL_settle_13 hl (by decide) rfl (fun ls hl => ?_)
    refine lv_iconst (v := 1) hx hb dL_settle_15 (by decide) ?_
    exact w_ret (rfl) hx hb hr hlocks hP hS dL_settle_16 (Nat.le_of_ble_eq_true rfl) (Nat.le_of_ble_eq_true rfl)
  · exact hw.elim
set_option maxHeartbeats 4000000 in
set_option maxRecDepth 100000 in
theorem w_refund (l : Launch) (hfl : l.stackTraces = false) (D : va_G) (ad : Nat → Nat) (cI cJ : ClassId) (sz o : Nat) (x0 x1 x2 : Int32) (sa : Nat → Nat) : vx_Met l yL_refund wsL_refund ({ frames := 11, cells := 1, slots := 6, locals := 400 } : Room) (w_P D [(cI, .int), (cJ, .long)] (wrW ad cI cJ o) [.ref (ad 0), .int x0, .int x1, .int x2, .ref o] sz sa) (w_Q D cJ o (va_A (wrW ad cI cJ o) sz) (fun k y => (k = 1))) (o_X (va_A (wrW ad cI cJ o) sz) (fun _ => False)) 1 6 (va_A (wrW ad cI cJ o) sz) := by
  refine vx_ofWH (cc := cL_refund) (maxL := 6) (ret := (some .int)) (hh := [(0, 12, 15, 13), (0, 12, 19, 24)]) (by decide) rfl ?_
  intro p e s m args below meth c9 s₁ B hml hv
  obtain ⟨rfl, hN, hE, hZ, hsz, hP, hK, hD0⟩ := hv
  have hx := B.exec
  have hb := B.bytes
  have hr := B.returns
  have hts := atoms_spec (ws := wsL_refund) B.pre
  have hown : s.vm.findClass RL = some m.cls := findClass_of_methodNamed B.named
  have hlocks := B.notSynchronized
  subst hsz
  have hD := hD0.self (sz := s.heap.size)
  generalize hAe : va_A (wrW ad cI cJ o) s.heap.size = A at hD hZ ⊢
  have hA : ∀ q : Nat, s.heap.size ≤ q → A q := fun q h => by rw [← hAe]; exact Or.inr h
  have hS : va_S A s.heap s.heap [] := va_S.rf
  have hl := lv_entry ([.ref (ad 0), .int x0, .int x1, .int x2, .ref o]) (n := 6) (Nat.le_of_ble_eq_true rfl)
  rw [lg_entry_eq]
  generalize (lg_sl ([.ref (ad 0), .int x0, .int x1, .int x2, .ref o]) ++ List.replicate (6 - (lg_sl ([.ref (ad 0), .int x0, .int x1, .int x2, .ref o])).length) Slot.unset).toArray = ls at hl ⊢
  have hl : lv_has ls 6 [(0, .ref (ad 0)), (1, .int x0), (2, .int x1), (3, .int x2), (4, .ref o)] := hl
  have htab := vx_table (x := yL_refund) B (hts _ (List.mem_of_getElem? (i := 0) rfl))
  have hKI := hK.sub (tys' := [(cI, .int)]) [0] rfl
  refine lv_aload hx hb dL_refund_0 (lv_at hl 4 rfl) ?_
  refine lv_iconst (v := 0) hx hb dL_refund_2 (by decide) ?_
  refine lv_aload_n hx hb dL_refund_3 rfl (lv_at hl 0 rfl) ?_
  refine lv_iload_n hx hb dL_refund_4 rfl (lv_at hl 1 rfl) ?_
  refine lv_iload_n hx hb dL_refund_5 rfl (lv_at hl 2 rfl) ?_
  refine lv_iload_n hx hb dL_refund_6 rfl (lv_at hl 3 rfl) ?_
  refine w_ki hP hD hS hA (vx_runV (As := [.int x0, .int x1, .int x2]) (rest := [.int 0, .ref o]) ⟨hx, hb, hml, hown, hts⟩ (o_refund l hfl D ad cI s.heap.size x0 x1 x2 sa) (cwV 3 hts gL_refund_X8_refund rfl rfl rfl (by decide +kernel) ⟨Nat.le_of_ble_eq_true rfl, Nat.le_of_ble_eq_true rfl⟩) (h_preV hE hZ hKI (pre_P hP) (pre_D hD) hS hA (ci := 8) (q0 := 0) rfl rfl) rfl rfl hl.1 rfl (lv_room (Nat.le_of_ble_eq_true rfl)) dL_refund_7 ⟨Nat.le_of_ble_eq_true rfl, Nat.le_of_ble_eq_true rfl⟩) (fun E ce q9 H locs hex hP hD hS hce hcv hcl => ?_) (fun r H locs hw hP hD hS => ?_)
  · subst hex
    refine vx_catch (own := RL) (name := "java/lang/IndexOutOfBoundsException") (pc := 7) hown [] { startPc := 0, endPc := 12, handlerPc := 15, catchType := 13 } [{ startPc := 0, endPc := 12, handlerPc := 19, catchType := 24 }] (htab.trans rfl) (fun z hz => absurd hz List.not_mem_nil) (by decide) (by decide) (hts (.classLink RL 13 "java/lang/IndexOutOfBoundsException") (List.mem_of_getElem? (i := 1) rfl)) (hE.2.2.2.1.use rfl) hce hcv hcl ?_
    refine lv_astore (lv' := [(5, .ref q9), (0, .ref (ad 0)), (1, .int x0), (2, .int x1), (3, .int x2), (4, .ref o)]) hx hb dL_refund_15 hl (by decide) rfl (fun ls hl => ?_)
    refine lv_iconst (v := 1) hx hb dL_refund_17 (by decide) ?_
    exact w_ret (rfl) hx hb hr hlocks hP hS dL_refund_18 (Nat.le_of_ble_eq_true rfl) (Nat.le_of_ble_eq_true rfl)
  · exact hw.elim
set_option maxHeartbeats 4000000 in
set_option maxRecDepth 100000 in
theorem w_ofCard (l : Launch) (hfl : l.stackTraces = false) (D : va_G) (ad : Nat → Nat) (cI cJ : ClassId) (sz o : Nat) (x0 x1 : Int32) (sa : Nat → Nat) : vx_Met l yL_ofCard wsL_ofCard ({ frames := 11, cells := 1, slots := 6, locals := 400 } : Room) (w_P D [(cI, .int), (cJ, .long)] (wrW ad cI cJ o) [.ref (ad 0), .int x0, .int x1, .ref o] sz sa) (w_Q D cJ o (va_A (wrW ad cI cJ o) sz) (fun k y => (k = 1))) (o_X (va_A (wrW ad cI cJ o) sz) (fun _ => False)) 1 6 (va_A (wrW ad cI cJ o) sz) := by
  refine vx_ofWH (cc := cL_ofCard) (maxL := 5) (ret := (some .int)) (hh := [(0, 10, 13, 13), (0, 10, 17, 15)]) (by decide) rfl ?_
  intro p e s m args below meth c9 s₁ B hml hv
  obtain ⟨rfl, hN, hE, hZ, hsz, hP, hK, hD0⟩ := hv
  have hx := B.exec
  have hb := B.bytes
  have hr := B.returns
  have hts := atoms_spec (ws := wsL_ofCard) B.pre
  have hown : s.vm.findClass RL = some m.cls := findClass_of_methodNamed B.named
  have hlocks := B.notSynchronized
  subst hsz
  have hD := hD0.self (sz := s.heap.size)
  generalize hAe : va_A (wrW ad cI cJ o) s.heap.size = A at hD hZ ⊢
  have hA : ∀ q : Nat, s.heap.size ≤ q → A q := fun q h => by rw [← hAe]; exact Or.inr h
  have hS : va_S A s.heap s.heap [] := va_S.rf
  have hl := lv_entry ([.ref (ad 0), .int x0, .int x1, .ref o]) (n := 5) (Nat.le_of_ble_eq_true rfl)
  rw [lg_entry_eq]
  generalize (lg_sl ([.ref (ad 0), .int x0, .int x1, .ref o]) ++ List.replicate (5 - (lg_sl ([.ref (ad 0), .int x0, .int x1, .ref o])).length) Slot.unset).toArray = ls at hl ⊢
  have hl : lv_has ls 5 [(0, .ref (ad 0)), (1, .int x0), (2, .int x1), (3, .ref o)] := hl
  have htab := vx_table (x := yL_ofCard) B (hts _ (List.mem_of_getElem? (i := 0) rfl))
  have hKI := hK.sub (tys' := [(cI, .int)]) [0] rfl
  refine lv_aload_n hx hb dL_ofCard_0 rfl (lv_at hl 3 rfl) ?_
  refine lv_iconst (v := 0) hx hb dL_ofCard_1 (by decide) ?_
  refine lv_aload_n hx hb dL_ofCard_2 rfl (lv_at hl 0 rfl) ?_
  refine lv_iload_n hx hb dL_ofCard_3 rfl (lv_at hl 1 rfl) ?_
  refine lv_iload_n hx hb dL_ofCard_4 rfl (lv_at hl 2 rfl) ?_
  refine w_ki hP hD hS hA (vx_runV (As := [.int x0, .int x1]) (rest := [.int 0, .ref o]) ⟨hx, hb, hml, hown, hts⟩ (o_ofCard l hfl D ad cI s.heap.size x0 x1 sa) (cwV 2 hts gL_ofCard_X8_ofCard rfl rfl rfl (by decide +kernel) ⟨Nat.le_of_ble_eq_true rfl, Nat.le_of_ble_eq_true rfl⟩) (h_preV hE hZ hKI (pre_P hP) (pre_D hD) hS hA (ci := 8) (q0 := 0) rfl rfl) rfl rfl hl.1 rfl (lv_room (Nat.le_of_ble_eq_true rfl)) dL_ofCard_5 ⟨Nat.le_of_ble_eq_true rfl, Nat.le_of_ble_eq_true rfl⟩) (fun E ce q9 H locs hex hP hD hS hce hcv hcl => ?_) (fun r H locs hw hP hD hS => ?_)
  · subst hex
    refine vx_catch (own := RL) (name := "java/lang/IndexOutOfBoundsException") (pc := 5) hown [] { startPc := 0, endPc := 10, handlerPc := 13, catchType := 13 } [{ startPc := 0, endPc := 10, handlerPc := 17, catchType := 15 }] (htab.trans rfl) (fun z hz => absurd hz List.not_mem_nil) (by decide) (by decide) (hts (.classLink RL 13 "java/lang/IndexOutOfBoundsException") (List.mem_of_getElem? (i := 1) rfl)) (hE.2.2.2.1.use rfl) hce hcv hcl ?_
    refine lv_astore (lv' := [(4, .ref q9), (0, .ref (ad 0)), (1, .int x0), (2, .int x1), (3, .ref o)]) hx hb dL_ofCard_13 hl (by decide) rfl (fun ls hl => ?_)
    refine lv_iconst (v := 1) hx hb dL_ofCard_15 (by decide) ?_
    exact w_ret (rfl) hx hb hr hlocks hP hS dL_ofCard_16 (Nat.le_of_ble_eq_true rfl) (Nat.le_of_ble_eq_true rfl)
  · exact hw.elim
set_option maxHeartbeats 4000000 in
set_option maxRecDepth 100000 in
theorem w_ofDay (l : Launch) (hfl : l.stackTraces = false) (D : va_G) (ad : Nat → Nat) (cI cJ : ClassId) (sz o : Nat) (x0 x1 x2 : Int32) (sa : Nat → Nat) : vx_Met l yL_ofDay wsL_ofDay ({ frames := 11, cells := 1, slots := 6, locals := 400 } : Room) (w_P D [(cI, .int), (cJ, .long)] (wrW ad cI cJ o) [.ref (ad 0), .int x0, .int x1, .int x2, .ref o] sz sa) (w_Q D cJ o (va_A (wrW ad cI cJ o) sz) (fun k y => (k = 1))) (o_X (va_A (wrW ad cI cJ o) sz) (fun _ => False)) 1 6 (va_A (wrW ad cI cJ o) sz) := by
  refine vx_ofWH (cc := cL_ofDay) (maxL := 6) (ret := (some .int)) (hh := [(0, 12, 15, 13), (0, 12, 19, 15)]) (by decide) rfl ?_
  intro p e s m args below meth c9 s₁ B hml hv
  obtain ⟨rfl, hN, hE, hZ, hsz, hP, hK, hD0⟩ := hv
  have hx := B.exec
  have hb := B.bytes
  have hr := B.returns
  have hts := atoms_spec (ws := wsL_ofDay) B.pre
  have hown : s.vm.findClass RL = some m.cls := findClass_of_methodNamed B.named
  have hlocks := B.notSynchronized
  subst hsz
  have hD := hD0.self (sz := s.heap.size)
  generalize hAe : va_A (wrW ad cI cJ o) s.heap.size = A at hD hZ ⊢
  have hA : ∀ q : Nat, s.heap.size ≤ q → A q := fun q h => by rw [← hAe]; exact Or.inr h
  have hS : va_S A s.heap s.heap [] := va_S.rf
  have hl := lv_entry ([.ref (ad 0), .int x0, .int x1, .int x2, .ref o]) (n := 6) (Nat.le_of_ble_eq_true rfl)
  rw [lg_entry_eq]
  generalize (lg_sl ([.ref (ad 0), .int x0, .int x1, .int x2, .ref o]) ++ List.replicate (6 - (lg_sl ([.ref (ad 0), .int x0, .int x1, .int x2, .ref o])).length) Slot.unset).toArray = ls at hl ⊢
  have hl : lv_has ls 6 [(0, .ref (ad 0)), (1, .int x0), (2, .int x1), (3, .int x2), (4, .ref o)] := hl
  have htab := vx_table (x := yL_ofDay) B (hts _ (List.mem_of_getElem? (i := 0) rfl))
  have hKI := hK.sub (tys' := [(cI, .int)]) [0] rfl
  refine lv_aload hx hb dL_ofDay_0 (lv_at hl 4 rfl) ?_
  refine lv_iconst (v := 0) hx hb dL_ofDay_2 (by decide) ?_
  refine lv_aload_n hx hb dL_ofDay_3 rfl (lv_at hl 0 rfl) ?_
  refine lv_iload_n hx hb dL_ofDay_4 rfl (lv_at hl 1 rfl) ?_
  refine lv_iload_n hx hb dL_ofDay_5 rfl (lv_at hl 2 rfl) ?_
  refine lv_iload_n hx hb dL_ofDay_6 rfl (lv_at hl 3 rfl) ?_
  refine w_ki hP hD hS hA (vx_runV (As := [.int x0, .int x1, .int x2]) (rest := [.int 0, .ref o]) ⟨hx, hb, hml, hown, hts⟩ (o_ofDay l hfl D ad cI s.heap.size x0 x1 x2 sa) (cwV 3 hts gL_ofDay_X8_ofDay rfl rfl rfl (by decide +kernel) ⟨Nat.le_of_ble_eq_true rfl, Nat.le_of_ble_eq_true rfl⟩) (h_preV hE hZ hKI (pre_P hP) (pre_D hD) hS hA (ci := 8) (q0 := 0) rfl rfl) rfl rfl hl.1 rfl (lv_room (Nat.le_of_ble_eq_true rfl)) dL_ofDay_7 ⟨Nat.le_of_ble_eq_true rfl, Nat.le_of_ble_eq_true rfl⟩) (fun E ce q9 H locs hex hP hD hS hce hcv hcl => ?_) (fun r H locs hw hP hD hS => ?_)
  · subst hex
    refine vx_catch (own := RL) (name := "java/lang/IndexOutOfBoundsException") (pc := 7) hown [] { startPc := 0, endPc := 12, handlerPc := 15, catchType := 13 } [{ startPc := 0, endPc := 12, handlerPc := 19, catchType := 15 }] (htab.trans rfl) (fun z hz => absurd hz List.not_mem_nil) (by decide) (by decide) (hts (.classLink RL 13 "java/lang/IndexOutOfBoundsException") (List.mem_of_getElem? (i := 1) rfl)) (hE.2.2.2.1.use rfl) hce hcv hcl ?_
    refine lv_astore (lv' := [(5, .ref q9), (0, .ref (ad 0)), (1, .int x0), (2, .int x1), (3, .int x2), (4, .ref o)]) hx hb dL_ofDay_15 hl (by decide) rfl (fun ls hl => ?_)
    refine lv_iconst (v := 1) hx hb dL_ofDay_17 (by decide) ?_
    exact w_ret (rfl) hx hb hr hlocks hP hS dL_ofDay_18 (Nat.le_of_ble_eq_true rfl) (Nat.le_of_ble_eq_true rfl)
  · exact hw.elim
set_option maxHeartbeats 4000000 in
set_option maxRecDepth 100000 in
theorem w_ofLeg (l : Launch) (hfl : l.stackTraces = false) (D : va_G) (ad : Nat → Nat) (cI cJ : ClassId) (sz o : Nat) (x0 x1 x2 x3 : Int32) (sa : Nat → Nat) : vx_Met l yL_ofLeg wsL_ofLeg ({ frames := 11, cells := 1, slots := 6, locals := 400 } : Room) (w_P D [(cI, .int), (cJ, .long)] (wrW ad cI cJ o) [.ref (ad 0), .int x0, .int x1, .int x2, .int x3, .ref o] sz sa) (w_Q D cJ o (va_A (wrW ad cI cJ o) sz) (fun k y => (k = 1))) (o_X (va_A (wrW ad cI cJ o) sz) (fun _ => False)) 1 6 (va_A (wrW ad cI cJ o) sz) := by
  refine vx_ofWH (cc := cL_ofLeg) (maxL := 7) (ret := (some .int)) (hh := [(0, 14, 17, 13), (0, 14, 21, 15)]) (by decide) rfl ?_
  intro p e s m args below meth c9 s₁ B hml hv
  obtain ⟨rfl, hN, hE, hZ, hsz, hP, hK, hD0⟩ := hv
  have hx := B.exec
  have hb := B.bytes
  have hr := B.returns
  have hts := atoms_spec (ws := wsL_ofLeg) B.pre
  have hown : s.vm.findClass RL = some m.cls := findClass_of_methodNamed B.named
  have hlocks := B.notSynchronized
  subst hsz
  have hD := hD0.self (sz := s.heap.size)
  generalize hAe : va_A (wrW ad cI cJ o) s.heap.size = A at hD hZ ⊢
  have hA : ∀ q : Nat, s.heap.size ≤ q → A q := fun q h => by rw [← hAe]; exact Or.inr h
  have hS : va_S A s.heap s.heap [] := va_S.rf
  have hl := lv_entry ([.ref (ad 0), .int x0, .int x1, .int x2, .int x3, .ref o]) (n := 7) (Nat.le_of_ble_eq_true rfl)
  rw [lg_entry_eq]
  generalize (lg_sl ([.ref (ad 0), .int x0, .int x1, .int x2, .int x3, .ref o]) ++ List.replicate (7 - (lg_sl ([.ref (ad 0), .int x0, .int x1, .int x2, .int x3, .ref o])).length) Slot.unset).toArray = ls at hl ⊢
  have hl : lv_has ls 7 [(0, .ref (ad 0)), (1, .int x0), (2, .int x1), (3, .int x2), (4, .int x3), (5, .ref o)] := hl
  have htab := vx_table (x := yL_ofLeg) B (hts _ (List.mem_of_getElem? (i := 0) rfl))
  have hKI := hK.sub (tys' := [(cI, .int)]) [0] rfl
  refine lv_aload hx hb dL_ofLeg_0 (lv_at hl 5 rfl) ?_
  refine lv_iconst (v := 0) hx hb dL_ofLeg_2 (by decide) ?_
  refine lv_aload_n hx hb dL_ofLeg_3 rfl (lv_at hl 0 rfl) ?_
  refine lv_iload_n hx hb dL_ofLeg_4 rfl (lv_at hl 1 rfl) ?_
  refine lv_iload_n hx hb dL_ofLeg_5 rfl (lv_at hl 2 rfl) ?_
  refine lv_iload_n hx hb dL_ofLeg_6 rfl (lv_at hl 3 rfl) ?_
  refine lv_iload hx hb dL_ofLeg_7 (lv_at hl 4 rfl) ?_
  refine w_ki hP hD hS hA (vx_runV (As := [.int x0, .int x1, .int x2, .int x3]) (rest := [.int 0, .ref o]) ⟨hx, hb, hml, hown, hts⟩ (o_ofLeg l hfl D ad cI s.heap.size x0 x1 x2 x3 sa) (cwV 4 hts gL_ofLeg_X8_ofLeg rfl rfl rfl (by decide +kernel) ⟨Nat.le_of_ble_eq_true rfl, Nat.le_of_ble_eq_true rfl⟩) (h_preV hE hZ hKI (pre_P hP) (pre_D hD) hS hA (ci := 8) (q0 := 0) rfl rfl) rfl rfl hl.1 rfl (lv_room (Nat.le_of_ble_eq_true rfl)) dL_ofLeg_9 ⟨Nat.le_of_ble_eq_true rfl, Nat.le_of_ble_eq_true rfl⟩) (fun E ce q9 H locs hex hP hD hS hce hcv hcl => ?_) (fun r H locs hw hP hD hS => ?_)
  · subst hex
    refine vx_catch (own := RL) (name := "java/lang/IndexOutOfBoundsException") (pc := 9) hown [] { startPc := 0, endPc := 14, handlerPc := 17, catchType := 13 } [{ startPc := 0, endPc := 14, handlerPc := 21, catchType := 15 }] (htab.trans rfl) (fun z hz => absurd hz List.not_mem_nil) (by decide) (by decide) (hts (.classLink RL 13 "java/lang/IndexOutOfBoundsException") (List.mem_of_getElem? (i := 1) rfl)) (hE.2.2.2.1.use rfl) hce hcv hcl ?_
    refine lv_astore (lv' := [(6, .ref q9), (0, .ref (ad 0)), (1, .int x0), (2, .int x1), (3, .int x2), (4, .int x3), (5, .ref o)]) hx hb dL_ofLeg_17 hl (by decide) rfl (fun ls hl => ?_)
    refine lv_iconst (v := 1) hx hb dL_ofLeg_19 (by decide) ?_
    exact w_ret (rfl) hx hb hr hlocks hP hS dL_ofLeg_20 (Nat.le_of_ble_eq_true rfl) (Nat.le_of_ble_eq_true rfl)
  · exact hw.elim
set_option maxHeartbeats 4000000 in
set_option maxRecDepth 100000 in
theorem w_ofJourney (l : Launch) (hfl : l.stackTraces = false) (D : va_G) (ad : Nat → Nat) (cI cJ : ClassId) (sz o : Nat) (x0 x1 x2 x3 : Int32) (sa : Nat → Nat) : vx_Met l yL_ofJourney wsL_ofJourney ({ frames := 11, cells := 1, slots := 6, locals := 400 } : Room) (w_P D [(cI, .int), (cJ, .long)] (wrW ad cI cJ o) [.ref (ad 0), .int x0, .int x1, .int x2, .int x3, .ref o] sz sa) (w_Q D cJ o (va_A (wrW ad cI cJ o) sz) (fun k y => (k = 1))) (o_X (va_A (wrW ad cI cJ o) sz) (fun _ => False)) 1 6 (va_A (wrW ad cI cJ o) sz) := by
  refine vx_ofWH (cc := cL_ofJourney) (maxL := 7) (ret := (some .int)) (hh := [(0, 14, 17, 13), (0, 14, 21, 15)]) (by decide) rfl ?_
  intro p e s m args below meth c9 s₁ B hml hv
  obtain ⟨rfl, hN, hE, hZ, hsz, hP, hK, hD0⟩ := hv
  have hx := B.exec
  have hb := B.bytes
  have hr := B.returns
  have hts := atoms_spec (ws := wsL_ofJourney) B.pre
  have hown : s.vm.findClass RL = some m.cls := findClass_of_methodNamed B.named
  have hlocks := B.notSynchronized
  subst hsz
  have hD := hD0.self (sz := s.heap.size)
  generalize hAe : va_A (wrW ad cI cJ o) s.heap.size = A at hD hZ ⊢
  have hA : ∀ q : Nat, s.heap.size ≤ q → A q := fun q h => by rw [← hAe]; exact Or.inr h
  have hS : va_S A s.heap s.heap [] := va_S.rf
  have hl := lv_entry ([.ref (ad 0), .int x0, .int x1, .int x2, .int x3, .ref o]) (n := 7) (Nat.le_of_ble_eq_true rfl)
  rw [lg_entry_eq]
  generalize (lg_sl ([.ref (ad 0), .int x0, .int x1, .int x2, .int x3, .ref o]) ++ List.replicate (7 - (lg_sl ([.ref (ad 0), .int x0, .int x1, .int x2, .int x3, .ref o])).length) Slot.unset).toArray = ls at hl ⊢
  have hl : lv_has ls 7 [(0, .ref (ad 0)), (1, .int x0), (2, .int x1), (3, .int x2), (4, .int x3), (5, .ref o)] := hl
  have htab := vx_table (x := yL_ofJourney) B (hts _ (List.mem_of_getElem? (i := 0) rfl))
  have hKI := hK.sub (tys' := [(cI, .int)]) [0] rfl
  refine lv_aload hx hb dL_ofJourney_0 (lv_at hl 5 rfl) ?_
  refine lv_iconst (v := 0) hx hb dL_ofJourney_2 (by decide) ?_
  refine lv_aload_n hx hb dL_ofJourney_3 rfl (lv_at hl 0 rfl) ?_
  refine lv_iload_n hx hb dL_ofJourney_4 rfl (lv_at hl 1 rfl) ?_
  refine lv_iload_n hx hb dL_ofJourney_5 rfl (lv_at hl 2 rfl) ?_
  refine lv_iload_n hx hb dL_ofJourney_6 rfl (lv_at hl 3 rfl) ?_
  refine lv_iload hx hb dL_ofJourney_7 (lv_at hl 4 rfl) ?_
  refine w_ki hP hD hS hA (vx_runV (As := [.int x0, .int x1, .int x2, .int x3]) (rest := [.int 0, .ref o]) ⟨hx, hb, hml, hown, hts⟩ (o_ofJourney l hfl D ad cI s.heap.size x0 x1 x2 x3 sa) (cwV 4 hts gL_ofJourney_X8_ofJourney rfl rfl rfl (by decide +kernel) ⟨Nat.le_of_ble_eq_true rfl, Nat.le_of_ble_eq_true rfl⟩) (h_preV hE hZ hKI (pre_P hP) (pre_D hD) hS hA (ci := 8) (q0 := 0) rfl rfl) rfl rfl hl.1 rfl (lv_room (Nat.le_of_ble_eq_true rfl)) dL_ofJourney_9 ⟨Nat.le_of_ble_eq_true rfl, Nat.le_of_ble_eq_true rfl⟩) (fun E ce q9 H locs hex hP hD hS hce hcv hcl => ?_) (fun r H locs hw hP hD hS => ?_)
  · subst hex
    refine vx_catch (own := RL) (name := "java/lang/IndexOutOfBoundsException") (pc := 9) hown [] { startPc := 0, endPc := 14, handlerPc := 17, catchType := 13 } [{ startPc := 0, endPc := 14, handlerPc := 21, catchType := 15 }] (htab.trans rfl) (fun z hz => absurd hz List.not_mem_nil) (by decide) (by decide) (hts (.classLink RL 13 "java/lang/IndexOutOfBoundsException") (List.mem_of_getElem? (i := 1) rfl)) (hE.2.2.2.1.use rfl) hce hcv hcl ?_
    refine lv_astore (lv' := [(6, .ref q9), (0, .ref (ad 0)), (1, .int x0), (2, .int x1), (3, .int x2), (4, .int x3), (5, .ref o)]) hx hb dL_ofJourney_17 hl (by decide) rfl (fun ls hl => ?_)
    refine lv_iconst (v := 1) hx hb dL_ofJourney_19 (by decide) ?_
    exact w_ret (rfl) hx hb hr hlocks hP hS dL_ofJourney_20 (Nat.le_of_ble_eq_true rfl) (Nat.le_of_ble_eq_true rfl)
  · exact hw.elim
set_option maxHeartbeats 4000000 in
set_option maxRecDepth 100000 in
theorem w_ofWeek (l : Launch) (hfl : l.stackTraces = false) (D : va_G) (ad : Nat → Nat) (cI cJ : ClassId) (sz o : Nat) (x0 x1 x2 : Int32) (sa : Nat → Nat) : vx_Met l yL_ofWeek wsL_ofWeek ({ frames := 11, cells := 1, slots := 6, locals := 400 } : Room) (w_P D [(cI, .int), (cJ, .long)] (wrW ad cI cJ o) [.ref (ad 0), .int x0, .int x1, .int x2, .ref o] sz sa) (w_Q D cJ o (va_A (wrW ad cI cJ o) sz) (fun k y => (k = 1))) (o_X (va_A (wrW ad cI cJ o) sz) (fun _ => False)) 1 6 (va_A (wrW ad cI cJ o) sz) := by
  refine vx_ofWH (cc := cL_ofWeek) (maxL := 6) (ret := (some .int)) (hh := [(0, 12, 15, 13), (0, 12, 19, 15)]) (by decide) rfl ?_
  intro p e s m args below meth c9 s₁ B hml hv
  obtain ⟨rfl, hN, hE, hZ, hsz, hP, hK, hD0⟩ := hv
  have hx := B.exec
  have hb := B.bytes
  have hr := B.returns
  have hts := atoms_spec (ws := wsL_ofWeek) B.pre
  have hown : s.vm.findClass RL = some m.cls := findClass_of_methodNamed B.named
  have hlocks := B.notSynchronized
  subst hsz
  have hD := hD0.self (sz := s.heap.size)
  generalize hAe : va_A (wrW ad cI cJ o) s.heap.size = A at hD hZ ⊢
  have hA : ∀ q : Nat, s.heap.size ≤ q → A q := fun q h => by rw [← hAe]; exact Or.inr h
  have hS : va_S A s.heap s.heap [] := va_S.rf
  have hl := lv_entry ([.ref (ad 0), .int x0, .int x1, .int x2, .ref o]) (n := 6) (Nat.le_of_ble_eq_true rfl)
  rw [lg_entry_eq]
  generalize (lg_sl ([.ref (ad 0), .int x0, .int x1, .int x2, .ref o]) ++ List.replicate (6 - (lg_sl ([.ref (ad 0), .int x0, .int x1, .int x2, .ref o])).length) Slot.unset).toArray = ls at hl ⊢
  have hl : lv_has ls 6 [(0, .ref (ad 0)), (1, .int x0), (2, .int x1), (3, .int x2), (4, .ref o)] := hl
  have htab := vx_table (x := yL_ofWeek) B (hts _ (List.mem_of_getElem? (i := 0) rfl))
  have hKI := hK.sub (tys' := [(cI, .int)]) [0] rfl
  refine lv_aload hx hb dL_ofWeek_0 (lv_at hl 4 rfl) ?_
  refine lv_iconst (v := 0) hx hb dL_ofWeek_2 (by decide) ?_
  refine lv_aload_n hx hb dL_ofWeek_3 rfl (lv_at hl 0 rfl) ?_
  refine lv_iload_n hx hb dL_ofWeek_4 rfl (lv_at hl 1 rfl) ?_
  refine lv_iload_n hx hb dL_ofWeek_5 rfl (lv_at hl 2 rfl) ?_
  refine lv_iload_n hx hb dL_ofWeek_6 rfl (lv_at hl 3 rfl) ?_
  refine w_ki hP hD hS hA (vx_runV (As := [.int x0, .int x1, .int x2]) (rest := [.int 0, .ref o]) ⟨hx, hb, hml, hown, hts⟩ (o_ofWeek l hfl D ad cI s.heap.size x0 x1 x2 sa) (cwV 3 hts gL_ofWeek_X8_ofWeek rfl rfl rfl (by decide +kernel) ⟨Nat.le_of_ble_eq_true rfl, Nat.le_of_ble_eq_true rfl⟩) (h_preV hE hZ hKI (pre_P hP) (pre_D hD) hS hA (ci := 8) (q0 := 0) rfl rfl) rfl rfl hl.1 rfl (lv_room (Nat.le_of_ble_eq_true rfl)) dL_ofWeek_7 ⟨Nat.le_of_ble_eq_true rfl, Nat.le_of_ble_eq_true rfl⟩) (fun E ce q9 H locs hex hP hD hS hce hcv hcl => ?_) (fun r H locs hw hP hD hS => ?_)
  · subst hex
    refine vx_catch (own := RL) (name := "java/lang/IndexOutOfBoundsException") (pc := 7) hown [] { startPc := 0, endPc := 12, handlerPc := 15, catchType := 13 } [{ startPc := 0, endPc := 12, handlerPc := 19, catchType := 15 }] (htab.trans rfl) (fun z hz => absurd hz List.not_mem_nil) (by decide) (by decide) (hts (.classLink RL 13 "java/lang/IndexOutOfBoundsException") (List.mem_of_getElem? (i := 1) rfl)) (hE.2.2.2.1.use rfl) hce hcv hcl ?_
    refine lv_astore (lv' := [(5, .ref q9), (0, .ref (ad 0)), (1, .int x0), (2, .int x1), (3, .int x2), (4, .ref o)]) hx hb dL_ofWeek_15 hl (by decide) rfl (fun ls hl => ?_)
    refine lv_iconst (v := 1) hx hb dL_ofWeek_17 (by decide) ?_
    exact w_ret (rfl) hx hb hr hlocks hP hS dL_ofWeek_18 (Nat.le_of_ble_eq_true rfl) (Nat.le_of_ble_eq_true rfl)
  · exact hw.elim
set_option maxHeartbeats 4000000 in
set_option maxRecDepth 100000 in
theorem w_share (l : Launch) (hfl : l.stackTraces = false) (D : va_G) (ad : Nat → Nat) (cI cJ : ClassId) (sz o : Nat) (x0 x1 x2 : Int32) (sa : Nat → Nat) : vx_Met l yL_share wsL_share ({ frames := 11, cells := 2, slots := 12, locals := 400 } : Room) (w_P D [(cI, .int), (cJ, .long)] (wrW ad cI cJ o) [.ref (ad 0), .int x0, .int x1, .int x2, .ref o] sz sa) (w_Q D cJ o (va_A (wrW ad cI cJ o) sz) (fun k y => (k = 1))) (o_X (va_A (wrW ad cI cJ o) sz) (fun _ => False)) 2 12 (va_A (wrW ad cI cJ o) sz) := by
  refine vx_ofWH (cc := cL_share) (maxL := 6) (ret := (some .int)) (hh := [(0, 12, 15, 13)]) (by decide) rfl ?_
  intro p e s m args below meth c9 s₁ B hml hv
  obtain ⟨rfl, hN, hE, hZ, hsz, hP, hK, hD0⟩ := hv
  have hx := B.exec
  have hb := B.bytes
  have hr := B.returns
  have hts := atoms_spec (ws := wsL_share) B.pre
  have hown : s.vm.findClass RL = some m.cls := findClass_of_methodNamed B.named
  have hlocks := B.notSynchronized
  subst hsz
  have hD := hD0.self (sz := s.heap.size)
  generalize hAe : va_A (wrW ad cI cJ o) s.heap.size = A at hD hZ ⊢
  have hA : ∀ q : Nat, s.heap.size ≤ q → A q := fun q h => by rw [← hAe]; exact Or.inr h
  have hS : va_S A s.heap s.heap [] := va_S.rf
  have hl := lv_entry ([.ref (ad 0), .int x0, .int x1, .int x2, .ref o]) (n := 6) (Nat.le_of_ble_eq_true rfl)
  rw [lg_entry_eq]
  generalize (lg_sl ([.ref (ad 0), .int x0, .int x1, .int x2, .ref o]) ++ List.replicate (6 - (lg_sl ([.ref (ad 0), .int x0, .int x1, .int x2, .ref o])).length) Slot.unset).toArray = ls at hl ⊢
  have hl : lv_has ls 6 [(0, .ref (ad 0)), (1, .int x0), (2, .int x1), (3, .int x2), (4, .ref o)] := hl
  have htab := vx_table (x := yL_share) B (hts _ (List.mem_of_getElem? (i := 0) rfl))
  have hKI := hK.sub (tys' := [(cI, .int)]) [0] rfl
  refine lv_aload hx hb dL_share_0 (lv_at hl 4 rfl) ?_
  refine lv_iconst (v := 0) hx hb dL_share_2 (by decide) ?_
  refine lv_aload_n hx hb dL_share_3 rfl (lv_at hl 0 rfl) ?_
  refine lv_iload_n hx hb dL_share_4 rfl (lv_at hl 1 rfl) ?_
  refine lv_iload_n hx hb dL_share_5 rfl (lv_at hl 2 rfl) ?_
  refine lv_iload_n hx hb dL_share_6 rfl (lv_at hl 3 rfl) ?_
  refine w_ki hP hD hS hA (vx_runV (As := [.int x0, .int x1, .int x2]) (rest := [.int 0, .ref o]) ⟨hx, hb, hml, hown, hts⟩ (o_share l hfl D ad cI s.heap.size x0 x1 x2 sa) (cwV 3 hts gL_share_X8_share rfl rfl rfl (by decide +kernel) ⟨Nat.le_of_ble_eq_true rfl, Nat.le_of_ble_eq_true rfl⟩) (h_preV hE hZ hKI (pre_P hP) (pre_D hD) hS hA (ci := 8) (q0 := 0) rfl rfl) rfl rfl hl.1 rfl (lv_room (Nat.le_of_ble_eq_true rfl)) dL_share_7 ⟨Nat.le_of_ble_eq_true rfl, Nat.le_of_ble_eq_true rfl⟩) (fun E ce q9 H locs hex hP hD hS hce hcv hcl => ?_) (fun r H locs hw hP hD hS => ?_)
  · subst hex
    refine vx_catch (own := RL) (name := "java/lang/IndexOutOfBoundsException") (pc := 7) hown [] { startPc := 0, endPc := 12, handlerPc := 15, catchType := 13 } [] (htab.trans rfl) (fun z hz => absurd hz List.not_mem_nil) (by decide) (by decide) (hts (.classLink RL 13 "java/lang/IndexOutOfBoundsException") (List.mem_of_getElem? (i := 1) rfl)) (hE.2.2.2.1.use rfl) hce hcv hcl ?_
    refine lv_astore (lv' := [(5, .ref q9), (0, .ref (ad 0)), (1, .int x0), (2, .int x1), (3, .int x2), (4, .ref o)]) hx hb dL_share_15 hl (by decide) rfl (fun ls hl => ?_)
    refine lv_iconst (v := 1) hx hb dL_share_17 (by decide) ?_
    exact w_ret (rfl) hx hb hr hlocks hP hS dL_share_18 (Nat.le_of_ble_eq_true rfl) (Nat.le_of_ble_eq_true rfl)
  · exact hw.elim
set_option maxHeartbeats 4000000 in
set_option maxRecDepth 100000 in
theorem w_check (l : Launch) (hfl : l.stackTraces = false) (D : va_G) (ad : Nat → Nat) (cI cJ : ClassId) (sz o : Nat) (x0 x1 x2 : Int32) (sa : Nat → Nat) : vx_Met l yL_check wsL_check ({ frames := 11, cells := 1, slots := 6, locals := 400 } : Room) (w_P D [(cI, .int), (cJ, .long)] (wrW ad cI cJ o) [.ref (ad 0), .int x0, .int x1, .int x2, .ref o] sz sa) (w_Q D cJ o (va_A (wrW ad cI cJ o) sz) (fun k y => (k = 1))) (o_X (va_A (wrW ad cI cJ o) sz) (fun _ => False)) 1 6 (va_A (wrW ad cI cJ o) sz) := by
  refine vx_ofWH (cc := cL_check) (maxL := 6) (ret := (some .int)) (hh := [(0, 12, 15, 13), (0, 12, 19, 15)]) (by decide) rfl ?_
  intro p e s m args below meth c9 s₁ B hml hv
  obtain ⟨rfl, hN, hE, hZ, hsz, hP, hK, hD0⟩ := hv
  have hx := B.exec
  have hb := B.bytes
  have hr := B.returns
  have hts := atoms_spec (ws := wsL_check) B.pre
  have hown : s.vm.findClass RL = some m.cls := findClass_of_methodNamed B.named
  have hlocks := B.notSynchronized
  subst hsz
  have hD := hD0.self (sz := s.heap.size)
  generalize hAe : va_A (wrW ad cI cJ o) s.heap.size = A at hD hZ ⊢
  have hA : ∀ q : Nat, s.heap.size ≤ q → A q := fun q h => by rw [← hAe]; exact Or.inr h
  have hS : va_S A s.heap s.heap [] := va_S.rf
  have hl := lv_entry ([.ref (ad 0), .int x0, .int x1, .int x2, .ref o]) (n := 6) (Nat.le_of_ble_eq_true rfl)
  rw [lg_entry_eq]
  generalize (lg_sl ([.ref (ad 0), .int x0, .int x1, .int x2, .ref o]) ++ List.replicate (6 - (lg_sl ([.ref (ad 0), .int x0, .int x1, .int x2, .ref o])).length) Slot.unset).toArray = ls at hl ⊢
  have hl : lv_has ls 6 [(0, .ref (ad 0)), (1, .int x0), (2, .int x1), (3, .int x2), (4, .ref o)] := hl
  have htab := vx_table (x := yL_check) B (hts _ (List.mem_of_getElem? (i := 0) rfl))
  have hKI := hK.sub (tys' := [(cI, .int)]) [0] rfl
  refine lv_aload hx hb dL_check_0 (lv_at hl 4 rfl) ?_
  refine lv_iconst (v := 0) hx hb dL_check_2 (by decide) ?_
  refine lv_aload_n hx hb dL_check_3 rfl (lv_at hl 0 rfl) ?_
  refine lv_iload_n hx hb dL_check_4 rfl (lv_at hl 1 rfl) ?_
  refine lv_iload_n hx hb dL_check_5 rfl (lv_at hl 2 rfl) ?_
  refine lv_iload_n hx hb dL_check_6 rfl (lv_at hl 3 rfl) ?_
  refine w_ki hP hD hS hA (vx_runV (As := [.int x0, .int x1, .int x2]) (rest := [.int 0, .ref o]) ⟨hx, hb, hml, hown, hts⟩ (o_check l hfl D ad cI s.heap.size x0 x1 x2 sa) (cwV 3 hts gL_check_X8_check rfl rfl rfl (by decide +kernel) ⟨Nat.le_of_ble_eq_true rfl, Nat.le_of_ble_eq_true rfl⟩) (h_preV hE hZ hKI (pre_P hP) (pre_D hD) hS hA (ci := 8) (q0 := 0) rfl rfl) rfl rfl hl.1 rfl (lv_room (Nat.le_of_ble_eq_true rfl)) dL_check_7 ⟨Nat.le_of_ble_eq_true rfl, Nat.le_of_ble_eq_true rfl⟩) (fun E ce q9 H locs hex hP hD hS hce hcv hcl => ?_) (fun r H locs hw hP hD hS => ?_)
  · subst hex
    refine vx_catch (own := RL) (name := "java/lang/IndexOutOfBoundsException") (pc := 7) hown [] { startPc := 0, endPc := 12, handlerPc := 15, catchType := 13 } [{ startPc := 0, endPc := 12, handlerPc := 19, catchType := 15 }] (htab.trans rfl) (fun z hz => absurd hz List.not_mem_nil) (by decide) (by decide) (hts (.classLink RL 13 "java/lang/IndexOutOfBoundsException") (List.mem_of_getElem? (i := 1) rfl)) (hE.2.2.2.1.use rfl) hce hcv hcl ?_
    refine lv_astore (lv' := [(5, .ref q9), (0, .ref (ad 0)), (1, .int x0), (2, .int x1), (3, .int x2), (4, .ref o)]) hx hb dL_check_15 hl (by decide) rfl (fun ls hl => ?_)
    refine lv_iconst (v := 1) hx hb dL_check_17 (by decide) ?_
    exact w_ret (rfl) hx hb hr hlocks hP hS dL_check_18 (Nat.le_of_ble_eq_true rfl) (Nat.le_of_ble_eq_true rfl)
  · exact hw.elim
set_option maxHeartbeats 4000000 in
set_option maxRecDepth 100000 in
theorem w_many (l : Launch) (hfl : l.stackTraces = false) (D : va_G) (ad : Nat → Nat) (cI cJ : ClassId) (sz o : Nat) (x0 : Int32) (sa : Nat → Nat) : vx_Met l yL_many wsL_many ({ frames := 11, cells := 1, slots := 6, locals := 400 } : Room) (w_P D [(cI, .int), (cJ, .long)] (wrW ad cI cJ o) [.ref (ad 0), .int x0, .ref o] sz sa) (w_Q D cJ o (va_A (wrW ad cI cJ o) sz) (fun k y => ((in_R x0 0 8) ∧ k = 0 ∧ y = (many_0 x0 : Int32).toInt64) ∨ ((¬ in_R x0 0 8) ∧ k = 1))) (o_X (va_A (wrW ad cI cJ o) sz) (fun _ => False)) 1 6 (va_A (wrW ad cI cJ o) sz) := by
  refine vx_ofWH (cc := cL_many) (maxL := 4) (ret := (some .int)) (hh := [(0, 9, 12, 15)]) (by decide) rfl ?_
  intro p e s m args below meth c9 s₁ B hml hv
  obtain ⟨rfl, hN, hE, hZ, hsz, hP, hK, hD0⟩ := hv
  have hx := B.exec
  have hb := B.bytes
  have hr := B.returns
  have hts := atoms_spec (ws := wsL_many) B.pre
  have hown : s.vm.findClass RL = some m.cls := findClass_of_methodNamed B.named
  have hlocks := B.notSynchronized
  subst hsz
  have hD := hD0.self (sz := s.heap.size)
  generalize hAe : va_A (wrW ad cI cJ o) s.heap.size = A at hD hZ ⊢
  have hA : ∀ q : Nat, s.heap.size ≤ q → A q := fun q h => by rw [← hAe]; exact Or.inr h
  have hS : va_S A s.heap s.heap [] := va_S.rf
  have hl := lv_entry ([.ref (ad 0), .int x0, .ref o]) (n := 4) (Nat.le_of_ble_eq_true rfl)
  rw [lg_entry_eq]
  generalize (lg_sl ([.ref (ad 0), .int x0, .ref o]) ++ List.replicate (4 - (lg_sl ([.ref (ad 0), .int x0, .ref o])).length) Slot.unset).toArray = ls at hl ⊢
  have hl : lv_has ls 4 [(0, .ref (ad 0)), (1, .int x0), (2, .ref o)] := hl
  have htab := vx_table (x := yL_many) B (hts _ (List.mem_of_getElem? (i := 0) rfl))
  have hKI := hK.sub (tys' := [(cI, .int)]) [0] rfl
  refine lv_aload_n hx hb dL_many_0 rfl (lv_at hl 2 rfl) ?_
  refine lv_iconst (v := 0) hx hb dL_many_1 (by decide) ?_
  refine lv_aload_n hx hb dL_many_2 rfl (lv_at hl 0 rfl) ?_
  refine lv_iload_n hx hb dL_many_3 rfl (lv_at hl 1 rfl) ?_
  refine w_ki hP hD hS hA (vx_runV (As := [.int x0]) (rest := [.int 0, .ref o]) ⟨hx, hb, hml, hown, hts⟩ (o_many l hfl D ad cI s.heap.size x0 sa) (cwV 1 hts gL_many_X8_many rfl rfl rfl (by decide +kernel) ⟨Nat.le_of_ble_eq_true rfl, Nat.le_of_ble_eq_true rfl⟩) (h_preV hE hZ hKI (pre_P hP) (pre_D hD) hS hA (ci := 8) (q0 := 0) rfl rfl) rfl rfl hl.1 rfl (lv_room (Nat.le_of_ble_eq_true rfl)) dL_many_4 ⟨Nat.le_of_ble_eq_true rfl, Nat.le_of_ble_eq_true rfl⟩) (fun E ce q9 H locs hex hP hD hS hce hcv hcl => ?_) (fun r H locs hw hP hD hS => ?_)
  · obtain ⟨rfl, hx1⟩ := hex
    have hex : True ∧ _ := ⟨trivial, hx1⟩
    refine vx_catch (own := RL) (name := "java/lang/IllegalArgumentException") (pc := 4) hown [] { startPc := 0, endPc := 9, handlerPc := 12, catchType := 15 } [] (htab.trans rfl) (fun z hz => absurd hz List.not_mem_nil) (by decide) (by decide) (hts (.classLink RL 15 "java/lang/IllegalArgumentException") (List.mem_of_getElem? (i := 1) rfl)) (hE.2.2.2.2.1.use rfl) hce hcv hcl ?_
    refine lv_astore_n (lv' := [(3, .ref q9), (0, .ref (ad 0)), (1, .int x0), (2, .ref o)]) hx hb dL_many_12 rfl hl (by decide) rfl (fun ls hl => ?_)
    refine lv_iconst (v := 1) hx hb dL_many_13 (by decide) ?_
    exact w_ret (Or.inr (⟨hex.2, rfl⟩)) hx hb hr hlocks hP hS dL_many_14 (Nat.le_of_ble_eq_true rfl) (Nat.le_of_ble_eq_true rfl)
  · refine lv_i2l (v := r.toInt64) hx hb dL_many_7 rfl ?_
    refine va_last (tys := [(cI, .int), (cJ, .long)]) hx hb hK hP hD hS 0 1 rfl rfl (by unfold vp_in; decide) dL_many_8 (fun H locs hP hD hS => ?_)
    refine lv_goto (tgt := 15) hx hb dL_many_9 (by decide) ?_
    refine lv_iconst (v := 0) hx hb dL_many_15 (by decide) ?_
    exact w_ret (Or.inl (⟨hw.2, rfl, show r.toInt64 = _ by rw [hw.1]⟩)) hx hb hr hlocks hP hS dL_many_16 (Nat.le_of_ble_eq_true rfl) (Nat.le_of_ble_eq_true rfl)
set_option maxHeartbeats 4000000 in
set_option maxRecDepth 100000 in
theorem w_meanFare (l : Launch) (hfl : l.stackTraces = false) (D : va_G) (ad : Nat → Nat) (cI cJ : ClassId) (sz o : Nat) (x0 : Int32) (sa : Nat → Nat) : vx_Met l yL_meanFare wsL_meanFare ({ frames := 11, cells := 1, slots := 6, locals := 400 } : Room) (w_P D [(cI, .int), (cJ, .double)] (wrD ad cI cJ o) [.ref (ad 0), .int x0, .ref o] sz sa) (w_R D cJ o (va_A (wrD ad cI cJ o) sz) (fun k y => ((in_N x0 28) ∧ k = 0 ∧ y = FP.dconst0) ∨ ((¬ in_N x0 28) ∧ k = 1))) (o_X (va_A (wrD ad cI cJ o) sz) (fun _ => False)) 1 6 (va_A (wrD ad cI cJ o) sz) := by
  refine vx_ofWH (cc := cL_meanFare) (maxL := 4) (ret := (some .int)) (hh := [(0, 8, 11, 13)]) (by decide) rfl ?_
  intro p e s m args below meth c9 s₁ B hml hv
  obtain ⟨rfl, hN, hE, hZ, hsz, hP, hK, hD0⟩ := hv
  have hx := B.exec
  have hb := B.bytes
  have hr := B.returns
  have hts := atoms_spec (ws := wsL_meanFare) B.pre
  have hown : s.vm.findClass RL = some m.cls := findClass_of_methodNamed B.named
  have hlocks := B.notSynchronized
  subst hsz
  have hD := hD0.self (sz := s.heap.size)
  generalize hAe : va_A (wrD ad cI cJ o) s.heap.size = A at hD hZ ⊢
  have hA : ∀ q : Nat, s.heap.size ≤ q → A q := fun q h => by rw [← hAe]; exact Or.inr h
  have hS : va_S A s.heap s.heap [] := va_S.rf
  have hl := lv_entry ([.ref (ad 0), .int x0, .ref o]) (n := 4) (Nat.le_of_ble_eq_true rfl)
  rw [lg_entry_eq]
  generalize (lg_sl ([.ref (ad 0), .int x0, .ref o]) ++ List.replicate (4 - (lg_sl ([.ref (ad 0), .int x0, .ref o])).length) Slot.unset).toArray = ls at hl ⊢
  have hl : lv_has ls 4 [(0, .ref (ad 0)), (1, .int x0), (2, .ref o)] := hl
  have htab := vx_table (x := yL_meanFare) B (hts _ (List.mem_of_getElem? (i := 0) rfl))
  have hKI := hK.sub (tys' := [(cI, .int)]) [0] rfl
  refine lv_aload_n hx hb dL_meanFare_0 rfl (lv_at hl 2 rfl) ?_
  refine lv_iconst (v := 0) hx hb dL_meanFare_1 (by decide) ?_
  refine lv_aload_n hx hb dL_meanFare_2 rfl (lv_at hl 0 rfl) ?_
  refine lv_iload_n hx hb dL_meanFare_3 rfl (lv_at hl 1 rfl) ?_
  refine w_kd hP hD hS hA (vx_runV (As := [.int x0]) (rest := [.int 0, .ref o]) ⟨hx, hb, hml, hown, hts⟩ (o_meanFare l hfl D ad cI s.heap.size x0 sa) (cwV 1 hts gL_meanFare_X8_meanFare rfl rfl rfl (by decide +kernel) ⟨Nat.le_of_ble_eq_true rfl, Nat.le_of_ble_eq_true rfl⟩) (h_preV hE hZ hKI (pre_P hP) (pre_D hD) hS hA (ci := 8) (q0 := 0) rfl rfl) rfl rfl hl.1 rfl (lv_room (Nat.le_of_ble_eq_true rfl)) dL_meanFare_4 ⟨Nat.le_of_ble_eq_true rfl, Nat.le_of_ble_eq_true rfl⟩) (fun E ce q9 H locs hex hP hD hS hce hcv hcl => ?_) (fun r H locs hw hP hD hS => ?_)
  · obtain ⟨rfl, hx1⟩ := hex
    have hex : True ∧ _ := ⟨trivial, hx1⟩
    refine vx_catch (own := RL) (name := "java/lang/IndexOutOfBoundsException") (pc := 4) hown [] { startPc := 0, endPc := 8, handlerPc := 11, catchType := 13 } [] (htab.trans rfl) (fun z hz => absurd hz List.not_mem_nil) (by decide) (by decide) (hts (.classLink RL 13 "java/lang/IndexOutOfBoundsException") (List.mem_of_getElem? (i := 1) rfl)) (hE.2.2.2.1.use rfl) hce hcv hcl ?_
    refine lv_astore_n (lv' := [(3, .ref q9), (0, .ref (ad 0)), (1, .int x0), (2, .ref o)]) hx hb dL_meanFare_11 rfl hl (by decide) rfl (fun ls hl => ?_)
    refine lv_iconst (v := 1) hx hb dL_meanFare_12 (by decide) ?_
    exact w_retd (Or.inr (⟨hex.2, rfl⟩)) hx hb hr hlocks hP hS dL_meanFare_13 (Nat.le_of_ble_eq_true rfl) (Nat.le_of_ble_eq_true rfl)
  · refine va_dast (tys := [(cI, .int), (cJ, .double)]) hx hb hK hP hD hS 0 1 rfl rfl (by unfold vp_in; decide) dL_meanFare_7 (fun H locs hP hD hS => ?_)
    refine lv_goto (tgt := 14) hx hb dL_meanFare_8 (by decide) ?_
    refine lv_iconst (v := 0) hx hb dL_meanFare_14 (by decide) ?_
    exact w_retd (Or.inl (⟨hw.2, rfl, show r = FP.dconst0 from hw.1⟩)) hx hb hr hlocks hP hS dL_meanFare_15 (Nat.le_of_ble_eq_true rfl) (Nat.le_of_ble_eq_true rfl)
set_option maxHeartbeats 4000000 in
set_option maxRecDepth 100000 in
theorem w_wouldCost (l : Launch) (hfl : l.stackTraces = false) (D : va_G) (ad : Nat → Nat) (cI cJ : ClassId) (sz o : Nat) (x0 x1 x2 x3 x4 x5 : Int32) (sa : Nat → Nat) : vx_Met l yL_wouldCost wsL_wouldCost ({ frames := 11, cells := 5, slots := 30, locals := 400 } : Room) (w_P D [(cI, .int), (cJ, .long)] (wrW ad cI cJ o) [.ref (ad 0), .int x0, .int x1, .int x2, .int x3, .int x4, .int x5, .ref o] sz sa) (w_Q D cJ o (va_A (wrW ad cI cJ o) sz) (fun k y => (k = 1))) (o_X (va_A (wrW ad cI cJ o) sz) (fun _ => False)) 5 30 (va_A (wrW ad cI cJ o) sz) := by
  refine vx_ofWH (cc := cL_wouldCost) (maxL := 9) (ret := (some .int)) (hh := [(0, 18, 21, 13), (0, 18, 25, 15)]) (by decide) rfl ?_
  intro p e s m args below meth c9 s₁ B hml hv
  obtain ⟨rfl, hN, hE, hZ, hsz, hP, hK, hD0⟩ := hv
  have hx := B.exec
  have hb := B.bytes
  have hr := B.returns
  have hts := atoms_spec (ws := wsL_wouldCost) B.pre
  have hown : s.vm.findClass RL = some m.cls := findClass_of_methodNamed B.named
  have hlocks := B.notSynchronized
  subst hsz
  have hD := hD0.self (sz := s.heap.size)
  generalize hAe : va_A (wrW ad cI cJ o) s.heap.size = A at hD hZ ⊢
  have hA : ∀ q : Nat, s.heap.size ≤ q → A q := fun q h => by rw [← hAe]; exact Or.inr h
  have hS : va_S A s.heap s.heap [] := va_S.rf
  have hl := lv_entry ([.ref (ad 0), .int x0, .int x1, .int x2, .int x3, .int x4, .int x5, .ref o]) (n := 9) (Nat.le_of_ble_eq_true rfl)
  rw [lg_entry_eq]
  generalize (lg_sl ([.ref (ad 0), .int x0, .int x1, .int x2, .int x3, .int x4, .int x5, .ref o]) ++ List.replicate (9 - (lg_sl ([.ref (ad 0), .int x0, .int x1, .int x2, .int x3, .int x4, .int x5, .ref o])).length) Slot.unset).toArray = ls at hl ⊢
  have hl : lv_has ls 9 [(0, .ref (ad 0)), (1, .int x0), (2, .int x1), (3, .int x2), (4, .int x3), (5, .int x4), (6, .int x5), (7, .ref o)] := hl
  have htab := vx_table (x := yL_wouldCost) B (hts _ (List.mem_of_getElem? (i := 0) rfl))
  have hKI := hK.sub (tys' := [(cI, .int)]) [0] rfl
  refine lv_aload hx hb dL_wouldCost_0 (lv_at hl 7 rfl) ?_
  refine lv_iconst (v := 0) hx hb dL_wouldCost_2 (by decide) ?_
  refine lv_aload_n hx hb dL_wouldCost_3 rfl (lv_at hl 0 rfl) ?_
  refine lv_iload_n hx hb dL_wouldCost_4 rfl (lv_at hl 1 rfl) ?_
  refine lv_iload_n hx hb dL_wouldCost_5 rfl (lv_at hl 2 rfl) ?_
  refine lv_iload_n hx hb dL_wouldCost_6 rfl (lv_at hl 3 rfl) ?_
  refine lv_iload hx hb dL_wouldCost_7 (lv_at hl 4 rfl) ?_
  refine lv_iload hx hb dL_wouldCost_9 (lv_at hl 5 rfl) ?_
  refine lv_iload hx hb dL_wouldCost_11 (lv_at hl 6 rfl) ?_
  refine w_ki hP hD hS hA (vx_runV (As := [.int x0, .int x1, .int x2, .int x3, .int x4, .int x5]) (rest := [.int 0, .ref o]) ⟨hx, hb, hml, hown, hts⟩ (o_wouldCost l hfl D ad cI s.heap.size x0 x1 x2 x3 x4 x5 sa) (cwV 6 hts gL_wouldCost_X8_wouldCost rfl rfl rfl (by decide +kernel) ⟨Nat.le_of_ble_eq_true rfl, Nat.le_of_ble_eq_true rfl⟩) (h_preV hE hZ hKI (pre_P hP) (pre_D hD) hS hA (ci := 8) (q0 := 0) rfl rfl) rfl rfl hl.1 rfl (lv_room (Nat.le_of_ble_eq_true rfl)) dL_wouldCost_13 ⟨Nat.le_of_ble_eq_true rfl, Nat.le_of_ble_eq_true rfl⟩) (fun E ce q9 H locs hex hP hD hS hce hcv hcl => ?_) (fun r H locs hw hP hD hS => ?_)
  · subst hex
    refine vx_catch (own := RL) (name := "java/lang/IndexOutOfBoundsException") (pc := 13) hown [] { startPc := 0, endPc := 18, handlerPc := 21, catchType := 13 } [{ startPc := 0, endPc := 18, handlerPc := 25, catchType := 15 }] (htab.trans rfl) (fun z hz => absurd hz List.not_mem_nil) (by decide) (by decide) (hts (.classLink RL 13 "java/lang/IndexOutOfBoundsException") (List.mem_of_getElem? (i := 1) rfl)) (hE.2.2.2.1.use rfl) hce hcv hcl ?_
    refine lv_astore (lv' := [(8, .ref q9), (0, .ref (ad 0)), (1, .int x0), (2, .int x1), (3, .int x2), (4, .int x3), (5, .int x4), (6, .int x5), (7, .ref o)]) hx hb dL_wouldCost_21 hl (by decide) rfl (fun ls hl => ?_)
    refine lv_iconst (v := 1) hx hb dL_wouldCost_23 (by decide) ?_
    exact w_ret (rfl) hx hb hr hlocks hP hS dL_wouldCost_24 (Nat.le_of_ble_eq_true rfl) (Nat.le_of_ble_eq_true rfl)
  · exact hw.elim
set_option maxHeartbeats 4000000 in
set_option maxRecDepth 100000 in
theorem w_guess (l : Launch) (hfl : l.stackTraces = false) (D : va_G) (ad : Nat → Nat) (cI cJ : ClassId) (sz o : Nat) (x0 x1 x2 x3 : Int32) (sa : Nat → Nat) : vx_Met l yL_guess wsL_guess ({ frames := 11, cells := 1, slots := 6, locals := 400 } : Room) (w_P D [(cI, .int), (cJ, .long)] (wrW ad cI cJ o) [.ref (ad 0), .int x0, .int x1, .int x2, .int x3, .ref o] sz sa) (w_Q D cJ o (va_A (wrW ad cI cJ o) sz) (fun k y => (k = 1))) (o_X (va_A (wrW ad cI cJ o) sz) (fun _ => False)) 1 6 (va_A (wrW ad cI cJ o) sz) := by
  refine vx_ofWH (cc := cL_guess) (maxL := 7) (ret := (some .int)) (hh := [(0, 14, 17, 13)]) (by decide) rfl ?_
  intro p e s m args below meth c9 s₁ B hml hv
  obtain ⟨rfl, hN, hE, hZ, hsz, hP, hK, hD0⟩ := hv
  have hx := B.exec
  have hb := B.bytes
  have hr := B.returns
  have hts := atoms_spec (ws := wsL_guess) B.pre
  have hown : s.vm.findClass RL = some m.cls := findClass_of_methodNamed B.named
  have hlocks := B.notSynchronized
  subst hsz
  have hD := hD0.self (sz := s.heap.size)
  generalize hAe : va_A (wrW ad cI cJ o) s.heap.size = A at hD hZ ⊢
  have hA : ∀ q : Nat, s.heap.size ≤ q → A q := fun q h => by rw [← hAe]; exact Or.inr h
  have hS : va_S A s.heap s.heap [] := va_S.rf
  have hl := lv_entry ([.ref (ad 0), .int x0, .int x1, .int x2, .int x3, .ref o]) (n := 7) (Nat.le_of_ble_eq_true rfl)
  rw [lg_entry_eq]
  generalize (lg_sl ([.ref (ad 0), .int x0, .int x1, .int x2, .int x3, .ref o]) ++ List.replicate (7 - (lg_sl ([.ref (ad 0), .int x0, .int x1, .int x2, .int x3, .ref o])).length) Slot.unset).toArray = ls at hl ⊢
  have hl : lv_has ls 7 [(0, .ref (ad 0)), (1, .int x0), (2, .int x1), (3, .int x2), (4, .int x3), (5, .ref o)] := hl
  have htab := vx_table (x := yL_guess) B (hts _ (List.mem_of_getElem? (i := 0) rfl))
  have hKI := hK.sub (tys' := [(cI, .int)]) [0] rfl
  refine lv_aload hx hb dL_guess_0 (lv_at hl 5 rfl) ?_
  refine lv_iconst (v := 0) hx hb dL_guess_2 (by decide) ?_
  refine lv_aload_n hx hb dL_guess_3 rfl (lv_at hl 0 rfl) ?_
  refine lv_iload_n hx hb dL_guess_4 rfl (lv_at hl 1 rfl) ?_
  refine lv_iload_n hx hb dL_guess_5 rfl (lv_at hl 2 rfl) ?_
  refine lv_iload_n hx hb dL_guess_6 rfl (lv_at hl 3 rfl) ?_
  refine lv_iload hx hb dL_guess_7 (lv_at hl 4 rfl) ?_
  refine w_ki hP hD hS hA (vx_runV (As := [.int x0, .int x1, .int x2, .int x3]) (rest := [.int 0, .ref o]) ⟨hx, hb, hml, hown, hts⟩ (o_guess l hfl D ad cI s.heap.size x0 x1 x2 x3 sa) (cwV 4 hts gL_guess_X8_guess rfl rfl rfl (by decide +kernel) ⟨Nat.le_of_ble_eq_true rfl, Nat.le_of_ble_eq_true rfl⟩) (h_preV hE hZ hKI (pre_P hP) (pre_D hD) hS hA (ci := 8) (q0 := 0) rfl rfl) rfl rfl hl.1 rfl (lv_room (Nat.le_of_ble_eq_true rfl)) dL_guess_9 ⟨Nat.le_of_ble_eq_true rfl, Nat.le_of_ble_eq_true rfl⟩) (fun E ce q9 H locs hex hP hD hS hce hcv hcl => ?_) (fun r H locs hw hP hD hS => ?_)
  · subst hex
    refine vx_catch (own := RL) (name := "java/lang/IndexOutOfBoundsException") (pc := 9) hown [] { startPc := 0, endPc := 14, handlerPc := 17, catchType := 13 } [] (htab.trans rfl) (fun z hz => absurd hz List.not_mem_nil) (by decide) (by decide) (hts (.classLink RL 13 "java/lang/IndexOutOfBoundsException") (List.mem_of_getElem? (i := 1) rfl)) (hE.2.2.2.1.use rfl) hce hcv hcl ?_
    refine lv_astore (lv' := [(6, .ref q9), (0, .ref (ad 0)), (1, .int x0), (2, .int x1), (3, .int x2), (4, .int x3), (5, .ref o)]) hx hb dL_guess_17 hl (by decide) rfl (fun ls hl => ?_)
    refine lv_iconst (v := 1) hx hb dL_guess_19 (by decide) ?_
    exact w_ret (rfl) hx hb hr hlocks hP hS dL_guess_20 (Nat.le_of_ble_eq_true rfl) (Nat.le_of_ble_eq_true rfl)
  · exact hw.elim
set_option maxHeartbeats 4000000 in
set_option maxRecDepth 100000 in
theorem w_worth (l : Launch) (hfl : l.stackTraces = false) (D : va_G) (ad : Nat → Nat) (cI cJ : ClassId) (sz o : Nat) (x0 x1 x2 : Int32) (sa : Nat → Nat) : vx_Met l yL_worth wsL_worth ({ frames := 11, cells := 1, slots := 6, locals := 400 } : Room) (w_P D [(cI, .int), (cJ, .long)] (wrW ad cI cJ o) [.ref (ad 0), .int x0, .int x1, .int x2, .ref o] sz sa) (w_Q D cJ o (va_A (wrW ad cI cJ o) sz) (fun k y => (k = 1))) (o_X (va_A (wrW ad cI cJ o) sz) (fun _ => False)) 1 6 (va_A (wrW ad cI cJ o) sz) := by
  refine vx_ofWH (cc := cL_worth) (maxL := 6) (ret := (some .int)) (hh := [(0, 12, 15, 13), (0, 12, 19, 15)]) (by decide) rfl ?_
  intro p e s m args below meth c9 s₁ B hml hv
  obtain ⟨rfl, hN, hE, hZ, hsz, hP, hK, hD0⟩ := hv
  have hx := B.exec
  have hb := B.bytes
  have hr := B.returns
  have hts := atoms_spec (ws := wsL_worth) B.pre
  have hown : s.vm.findClass RL = some m.cls := findClass_of_methodNamed B.named
  have hlocks := B.notSynchronized
  subst hsz
  have hD := hD0.self (sz := s.heap.size)
  generalize hAe : va_A (wrW ad cI cJ o) s.heap.size = A at hD hZ ⊢
  have hA : ∀ q : Nat, s.heap.size ≤ q → A q := fun q h => by rw [← hAe]; exact Or.inr h
  have hS : va_S A s.heap s.heap [] := va_S.rf
  have hl := lv_entry ([.ref (ad 0), .int x0, .int x1, .int x2, .ref o]) (n := 6) (Nat.le_of_ble_eq_true rfl)
  rw [lg_entry_eq]
  generalize (lg_sl ([.ref (ad 0), .int x0, .int x1, .int x2, .ref o]) ++ List.replicate (6 - (lg_sl ([.ref (ad 0), .int x0, .int x1, .int x2, .ref o])).length) Slot.unset).toArray = ls at hl ⊢
  have hl : lv_has ls 6 [(0, .ref (ad 0)), (1, .int x0), (2, .int x1), (3, .int x2), (4, .ref o)] := hl
  have htab := vx_table (x := yL_worth) B (hts _ (List.mem_of_getElem? (i := 0) rfl))
  have hKI := hK.sub (tys' := [(cI, .int)]) [0] rfl
  refine lv_aload hx hb dL_worth_0 (lv_at hl 4 rfl) ?_
  refine lv_iconst (v := 0) hx hb dL_worth_2 (by decide) ?_
  refine lv_aload_n hx hb dL_worth_3 rfl (lv_at hl 0 rfl) ?_
  refine lv_iload_n hx hb dL_worth_4 rfl (lv_at hl 1 rfl) ?_
  refine lv_iload_n hx hb dL_worth_5 rfl (lv_at hl 2 rfl) ?_
  refine lv_iload_n hx hb dL_worth_6 rfl (lv_at hl 3 rfl) ?_
  refine w_ki hP hD hS hA (vx_runV (As := [.int x0, .int x1, .int x2]) (rest := [.int 0, .ref o]) ⟨hx, hb, hml, hown, hts⟩ (o_worth l hfl D ad cI s.heap.size x0 x1 x2 sa) (cwV 3 hts gL_worth_X8_worth rfl rfl rfl (by decide +kernel) ⟨Nat.le_of_ble_eq_true rfl, Nat.le_of_ble_eq_true rfl⟩) (h_preV hE hZ hKI (pre_P hP) (pre_D hD) hS hA (ci := 8) (q0 := 0) rfl rfl) rfl rfl hl.1 rfl (lv_room (Nat.le_of_ble_eq_true rfl)) dL_worth_7 ⟨Nat.le_of_ble_eq_true rfl, Nat.le_of_ble_eq_true rfl⟩) (fun E ce q9 H locs hex hP hD hS hce hcv hcl => ?_) (fun r H locs hw hP hD hS => ?_)
  · subst hex
    refine vx_catch (own := RL) (name := "java/lang/IndexOutOfBoundsException") (pc := 7) hown [] { startPc := 0, endPc := 12, handlerPc := 15, catchType := 13 } [{ startPc := 0, endPc := 12, handlerPc := 19, catchType := 15 }] (htab.trans rfl) (fun z hz => absurd hz List.not_mem_nil) (by decide) (by decide) (hts (.classLink RL 13 "java/lang/IndexOutOfBoundsException") (List.mem_of_getElem? (i := 1) rfl)) (hE.2.2.2.1.use rfl) hce hcv hcl ?_
    refine lv_astore (lv' := [(5, .ref q9), (0, .ref (ad 0)), (1, .int x0), (2, .int x1), (3, .int x2), (4, .ref o)]) hx hb dL_worth_15 hl (by decide) rfl (fun ls hl => ?_)
    refine lv_iconst (v := 1) hx hb dL_worth_17 (by decide) ?_
    exact w_ret (rfl) hx hb hr hlocks hP hS dL_worth_18 (Nat.le_of_ble_eq_true rfl) (Nat.le_of_ble_eq_true rfl)
  · exact hw.elim
