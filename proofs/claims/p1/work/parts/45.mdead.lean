theorem fs_0 {fs : List Value} {v : Value} (h : 0 < fs.length) : (fs.set 0 v)[0]? = some v := by
  cases fs with
  | nil => exact absurd h (Nat.lt_irrefl 0)
  | cons a t => rfl
theorem fs_6 {fs : List Value} {v w : Value} (h : fs[6]? = some w) : (fs.set 0 v)[6]? = some w := by
  cases fs with
  | nil => cases h
  | cons a t => exact h
theorem fs_l {fs : List Value} {v : Value} (h : 0 < fs.length) : 0 < (fs.set 0 v).length := by rw [List.length_set]; exact h
set_option maxHeartbeats 4000000 in
set_option maxRecDepth 100000 in
theorem qm_tie (l : Launch) (D : va_G) (tys : List (ClassId × FieldType)) (ws : va_W) (sz h0 : Nat) (fs : List Value) (x0 x1 : Int32) (hk : ws[0]? = some (h0, .inr (9, fs))) (hc : fs[6]? = some (.int 0)) (hlen : 0 < fs.length) : Met l yX9_tie wsX9_tie ({ frames := 6, cells := 0, slots := 0, locals := 220 } : Room) (g_P D tys ws [.ref h0, .int x0, .int x1] sz) (m_Qi D (va_A ws sz) h0 (fun r t => r = 0 ∧ t = 1)) 0 0 (va_A ws sz) := by
  refine Met.ofW (cc := cX9_tie) (maxL := 4) (ret := (some .int)) (by decide) rfl ?_
  intro p e s m args below meth c9 s₁ B hml hv
  obtain ⟨rfl, hsz, hP, hK, hD0⟩ := hv
  have hx := B.exec
  have hb := B.bytes
  have hr := B.returns
  have hts := atoms_spec (ws := wsX9_tie) B.pre
  have hown : s.vm.findClass RX9 = some m.cls := findClass_of_methodNamed B.named
  have hlocks := B.notSynchronized
  subst hsz
  have hD := hD0.self (sz := s.heap.size)
  generalize hAe : va_A ws s.heap.size = A at hD ⊢
  have hA : ∀ q : Nat, s.heap.size ≤ q → A q := fun q h => by rw [← hAe]; exact Or.inr h
  have hS : va_S A s.heap s.heap [] := va_S.rf
  have hl := lv_entry ([.ref h0, .int x0, .int x1]) (n := 4) (Nat.le_of_ble_eq_true rfl)
  rw [lg_entry_eq]
  generalize (lg_sl ([.ref h0, .int x0, .int x1]) ++ List.replicate (4 - (lg_sl ([.ref h0, .int x0, .int x1])).length) Slot.unset).toArray = ls at hl ⊢
  have hl : lv_has ls 4 [(0, .ref h0), (1, .int x0), (2, .int x1)] := hl
  have winX9 : ∀ w ∈ u_ws RX9 TX9 16, w ∈ wsX9_tie := by decide +kernel
  refine lv_aload_n hx hb dX9_tie_0 rfl (lv_at hl 0 rfl) ?_
  refine lv_iconst (v := 0) hx hb dX9_tie_1 (by decide) ?_
  refine va_put (D := D) (ci := 9) (v := .int 0) (ty := .int) (C := RX9) (T := TX9) (N := 16) hx hb hts winX9 tyX9 tyX9_ok nmX9 hown hK hP hD hS 0 hk rfl 0 (by decide) (hts (.fieldLink RX9 39 "TapCapModel" "thrown" "I") (List.mem_of_getElem? (i := 1) rfl)) (fun _ h9 => h9) rfl (by decide +kernel) rfl rfl hlen dX9_tie_2 (fun H locs hP hD hS => ?_)
  refine lv_aload_n hx hb dX9_tie_5 rfl (lv_at hl 0 rfl) ?_
  refine lv_iload_n hx hb dX9_tie_6 rfl (lv_at hl 1 rfl) ?_
  refine g_ki hK hD hS hA (va_runV (As := [.int x0]) (rest := []) ⟨hx, hb, hml, hown, hts⟩ (m_isCard l D tys (ws.set 0 (h0, .inr (9, (fs.set 0 (.int 0))))) H.size h0 (fs.set 0 (.int 0)) x0 (set_at (y := (h0, .inr (9, (fs.set 0 (.int 0))))) hk) (fs_6 hc)) (cwV 1 hts gX9_tie_X9_isCard rfl rfl rfl (by decide +kernel) ⟨Nat.le_of_ble_eq_true rfl, Nat.le_of_ble_eq_true rfl⟩) (g_preV hK hP hD (ci := 9) (q0 := 0) rfl (set_at (y := (h0, .inr (9, (fs.set 0 (.int 0))))) hk)) rfl rfl hl.1 rfl (lv_room (Nat.le_of_ble_eq_true rfl)) dX9_tie_7 ⟨Nat.le_of_ble_eq_true rfl, Nat.le_of_ble_eq_true rfl⟩) (fun H locs hP hD hS => ?_)
  refine lv_if_eq (tgt := 21) hx hb dX9_tie_10 (by decide) (fun c_5 => ?_) (fun c_5 => ?_)
  · refine lv_aload_n hx hb dX9_tie_21 rfl (lv_at hl 0 rfl) ?_
    refine lv_iconst (v := 1) hx hb dX9_tie_22 (by decide) ?_
    refine g_ki hK hD hS hA (va_runV (As := [.int 1]) (rest := []) ⟨hx, hb, hml, hown, hts⟩ (m_no l D tys (ws.set 0 (h0, .inr (9, (fs.set 0 (.int 0))))) H.size h0 (fs.set 0 (.int 0)) 1 (set_at (y := (h0, .inr (9, (fs.set 0 (.int 0))))) hk) (fs_l hlen)) (cwV 1 hts gX9_tie_X9_no rfl rfl rfl (by decide +kernel) ⟨Nat.le_of_ble_eq_true rfl, Nat.le_of_ble_eq_true rfl⟩) (g_preV hK hP hD (ci := 9) (q0 := 0) rfl (set_at (y := (h0, .inr (9, (fs.set 0 (.int 0))))) hk)) rfl rfl hl.1 rfl (lv_room (Nat.le_of_ble_eq_true rfl)) dX9_tie_23 ⟨Nat.le_of_ble_eq_true rfl, Nat.le_of_ble_eq_true rfl⟩) (fun H locs hP hD hS => ?_)
    exact m_iret (w := 1) (set_at (y := (h0, .inr (9, ((fs.set 0 (.int 0)).set 0 (.int 1))))) (set_at (y := (h0, .inr (9, (fs.set 0 (.int 0))))) hk)) (fs_0 (fs_l hlen)) ⟨rfl, rfl⟩ hx hb hr rfl hlocks hP hD hS dX9_tie_26 (Nat.le_of_ble_eq_true rfl) (Nat.le_of_ble_eq_true rfl)
  · exact absurd (by decide) c_5
set_option maxHeartbeats 4000000 in
set_option maxRecDepth 100000 in
theorem qm_lose (l : Launch) (D : va_G) (tys : List (ClassId × FieldType)) (ws : va_W) (sz h0 : Nat) (fs : List Value) (x0 x1 : Int32) (hk : ws[0]? = some (h0, .inr (9, fs))) (hc : fs[6]? = some (.int 0)) (hlen : 0 < fs.length) : Met l yX9_lose wsX9_lose ({ frames := 6, cells := 0, slots := 0, locals := 220 } : Room) (g_P D tys ws [.ref h0, .int x0, .int x1] sz) (m_Qi D (va_A ws sz) h0 (fun r t => r = 0 ∧ t = 1)) 0 0 (va_A ws sz) := by
  refine Met.ofW (cc := cX9_lose) (maxL := 4) (ret := (some .boolean)) (by decide) rfl ?_
  intro p e s m args below meth c9 s₁ B hml hv
  obtain ⟨rfl, hsz, hP, hK, hD0⟩ := hv
  have hx := B.exec
  have hb := B.bytes
  have hr := B.returns
  have hts := atoms_spec (ws := wsX9_lose) B.pre
  have hown : s.vm.findClass RX9 = some m.cls := findClass_of_methodNamed B.named
  have hlocks := B.notSynchronized
  subst hsz
  have hD := hD0.self (sz := s.heap.size)
  generalize hAe : va_A ws s.heap.size = A at hD ⊢
  have hA : ∀ q : Nat, s.heap.size ≤ q → A q := fun q h => by rw [← hAe]; exact Or.inr h
  have hS : va_S A s.heap s.heap [] := va_S.rf
  have hl := lv_entry ([.ref h0, .int x0, .int x1]) (n := 4) (Nat.le_of_ble_eq_true rfl)
  rw [lg_entry_eq]
  generalize (lg_sl ([.ref h0, .int x0, .int x1]) ++ List.replicate (4 - (lg_sl ([.ref h0, .int x0, .int x1])).length) Slot.unset).toArray = ls at hl ⊢
  have hl : lv_has ls 4 [(0, .ref h0), (1, .int x0), (2, .int x1)] := hl
  have winX9 : ∀ w ∈ u_ws RX9 TX9 16, w ∈ wsX9_lose := by decide +kernel
  refine lv_aload_n hx hb dX9_lose_0 rfl (lv_at hl 0 rfl) ?_
  refine lv_iconst (v := 0) hx hb dX9_lose_1 (by decide) ?_
  refine va_put (D := D) (ci := 9) (v := .int 0) (ty := .int) (C := RX9) (T := TX9) (N := 16) hx hb hts winX9 tyX9 tyX9_ok nmX9 hown hK hP hD hS 0 hk rfl 0 (by decide) (hts (.fieldLink RX9 39 "TapCapModel" "thrown" "I") (List.mem_of_getElem? (i := 1) rfl)) (fun _ h9 => h9) rfl (by decide +kernel) rfl rfl hlen dX9_lose_2 (fun H locs hP hD hS => ?_)
  refine lv_aload_n hx hb dX9_lose_5 rfl (lv_at hl 0 rfl) ?_
  refine lv_iload_n hx hb dX9_lose_6 rfl (lv_at hl 1 rfl) ?_
  refine g_ki hK hD hS hA (va_runV (As := [.int x0]) (rest := []) ⟨hx, hb, hml, hown, hts⟩ (m_isCard l D tys (ws.set 0 (h0, .inr (9, (fs.set 0 (.int 0))))) H.size h0 (fs.set 0 (.int 0)) x0 (set_at (y := (h0, .inr (9, (fs.set 0 (.int 0))))) hk) (fs_6 hc)) (cwV 1 hts gX9_lose_X9_isCard rfl rfl rfl (by decide +kernel) ⟨Nat.le_of_ble_eq_true rfl, Nat.le_of_ble_eq_true rfl⟩) (g_preV hK hP hD (ci := 9) (q0 := 0) rfl (set_at (y := (h0, .inr (9, (fs.set 0 (.int 0))))) hk)) rfl rfl hl.1 rfl (lv_room (Nat.le_of_ble_eq_true rfl)) dX9_lose_7 ⟨Nat.le_of_ble_eq_true rfl, Nat.le_of_ble_eq_true rfl⟩) (fun H locs hP hD hS => ?_)
  refine lv_if_ne (tgt := 27) hx hb dX9_lose_10 (by decide) (fun c_6 => ?_) (fun c_6 => ?_)
  · exact absurd rfl c_6
  · refine lv_aload_n hx hb dX9_lose_13 rfl (lv_at hl 0 rfl) ?_
    refine lv_iconst (v := 1) hx hb dX9_lose_14 (by decide) ?_
    refine g_ki hK hD hS hA (va_runV (As := [.int 1]) (rest := []) ⟨hx, hb, hml, hown, hts⟩ (m_no l D tys (ws.set 0 (h0, .inr (9, (fs.set 0 (.int 0))))) H.size h0 (fs.set 0 (.int 0)) 1 (set_at (y := (h0, .inr (9, (fs.set 0 (.int 0))))) hk) (fs_l hlen)) (cwV 1 hts gX9_lose_X9_no rfl rfl rfl (by decide +kernel) ⟨Nat.le_of_ble_eq_true rfl, Nat.le_of_ble_eq_true rfl⟩) (g_preV hK hP hD (ci := 9) (q0 := 0) rfl (set_at (y := (h0, .inr (9, (fs.set 0 (.int 0))))) hk)) rfl rfl hl.1 rfl (lv_room (Nat.le_of_ble_eq_true rfl)) dX9_lose_15 ⟨Nat.le_of_ble_eq_true rfl, Nat.le_of_ble_eq_true rfl⟩) (fun H locs hP hD hS => ?_)
    refine lv_if_le (tgt := 25) hx hb dX9_lose_18 (by decide) (fun c_7 => ?_) (fun c_7 => ?_)
    · refine lv_iconst (v := 0) hx hb dX9_lose_25 (by decide) ?_
      exact m_iret (w := 1) (set_at (y := (h0, .inr (9, ((fs.set 0 (.int 0)).set 0 (.int 1))))) (set_at (y := (h0, .inr (9, (fs.set 0 (.int 0))))) hk)) (fs_0 (fs_l hlen)) ⟨rfl, rfl⟩ hx hb hr narrow_z0 hlocks hP hD hS dX9_lose_26 (Nat.le_of_ble_eq_true rfl) (Nat.le_of_ble_eq_true rfl)
    · exact absurd (by decide) c_7
set_option maxHeartbeats 4000000 in
set_option maxRecDepth 100000 in
theorem qm_pay (l : Launch) (D : va_G) (tys : List (ClassId × FieldType)) (ws : va_W) (sz h0 : Nat) (fs : List Value) (x0 x1 : Int32) (hk : ws[0]? = some (h0, .inr (9, fs))) (hc : fs[6]? = some (.int 0)) (hlen : 0 < fs.length) : Met l yX9_pay wsX9_pay ({ frames := 6, cells := 0, slots := 0, locals := 220 } : Room) (g_P D tys ws [.ref h0, .int x0, .int x1] sz) (m_Qi D (va_A ws sz) h0 (fun r t => r = 0 ∧ t = 1)) 0 0 (va_A ws sz) := by
  refine Met.ofW (cc := cX9_pay) (maxL := 3) (ret := (some .int)) (by decide) rfl ?_
  intro p e s m args below meth c9 s₁ B hml hv
  obtain ⟨rfl, hsz, hP, hK, hD0⟩ := hv
  have hx := B.exec
  have hb := B.bytes
  have hr := B.returns
  have hts := atoms_spec (ws := wsX9_pay) B.pre
  have hown : s.vm.findClass RX9 = some m.cls := findClass_of_methodNamed B.named
  have hlocks := B.notSynchronized
  subst hsz
  have hD := hD0.self (sz := s.heap.size)
  generalize hAe : va_A ws s.heap.size = A at hD ⊢
  have hA : ∀ q : Nat, s.heap.size ≤ q → A q := fun q h => by rw [← hAe]; exact Or.inr h
  have hS : va_S A s.heap s.heap [] := va_S.rf
  have hl := lv_entry ([.ref h0, .int x0, .int x1]) (n := 3) (Nat.le_of_ble_eq_true rfl)
  rw [lg_entry_eq]
  generalize (lg_sl ([.ref h0, .int x0, .int x1]) ++ List.replicate (3 - (lg_sl ([.ref h0, .int x0, .int x1])).length) Slot.unset).toArray = ls at hl ⊢
  have hl : lv_has ls 3 [(0, .ref h0), (1, .int x0), (2, .int x1)] := hl
  have winX9 : ∀ w ∈ u_ws RX9 TX9 16, w ∈ wsX9_pay := by decide +kernel
  refine lv_aload_n hx hb dX9_pay_0 rfl (lv_at hl 0 rfl) ?_
  refine lv_iconst (v := 0) hx hb dX9_pay_1 (by decide) ?_
  refine va_put (D := D) (ci := 9) (v := .int 0) (ty := .int) (C := RX9) (T := TX9) (N := 16) hx hb hts winX9 tyX9 tyX9_ok nmX9 hown hK hP hD hS 0 hk rfl 0 (by decide) (hts (.fieldLink RX9 39 "TapCapModel" "thrown" "I") (List.mem_of_getElem? (i := 1) rfl)) (fun _ h9 => h9) rfl (by decide +kernel) rfl rfl hlen dX9_pay_2 (fun H locs hP hD hS => ?_)
  refine lv_aload_n hx hb dX9_pay_5 rfl (lv_at hl 0 rfl) ?_
  refine lv_iload_n hx hb dX9_pay_6 rfl (lv_at hl 1 rfl) ?_
  refine g_ki hK hD hS hA (va_runV (As := [.int x0]) (rest := []) ⟨hx, hb, hml, hown, hts⟩ (m_isCard l D tys (ws.set 0 (h0, .inr (9, (fs.set 0 (.int 0))))) H.size h0 (fs.set 0 (.int 0)) x0 (set_at (y := (h0, .inr (9, (fs.set 0 (.int 0))))) hk) (fs_6 hc)) (cwV 1 hts gX9_pay_X9_isCard rfl rfl rfl (by decide +kernel) ⟨Nat.le_of_ble_eq_true rfl, Nat.le_of_ble_eq_true rfl⟩) (g_preV hK hP hD (ci := 9) (q0 := 0) rfl (set_at (y := (h0, .inr (9, (fs.set 0 (.int 0))))) hk)) rfl rfl hl.1 rfl (lv_room (Nat.le_of_ble_eq_true rfl)) dX9_pay_7 ⟨Nat.le_of_ble_eq_true rfl, Nat.le_of_ble_eq_true rfl⟩) (fun H locs hP hD hS => ?_)
  refine lv_if_ne (tgt := 19) hx hb dX9_pay_10 (by decide) (fun c_8 => ?_) (fun c_8 => ?_)
  · exact absurd rfl c_8
  · refine lv_aload_n hx hb dX9_pay_13 rfl (lv_at hl 0 rfl) ?_
    refine lv_iconst (v := 1) hx hb dX9_pay_14 (by decide) ?_
    refine g_ki hK hD hS hA (va_runV (As := [.int 1]) (rest := []) ⟨hx, hb, hml, hown, hts⟩ (m_no l D tys (ws.set 0 (h0, .inr (9, (fs.set 0 (.int 0))))) H.size h0 (fs.set 0 (.int 0)) 1 (set_at (y := (h0, .inr (9, (fs.set 0 (.int 0))))) hk) (fs_l hlen)) (cwV 1 hts gX9_pay_X9_no rfl rfl rfl (by decide +kernel) ⟨Nat.le_of_ble_eq_true rfl, Nat.le_of_ble_eq_true rfl⟩) (g_preV hK hP hD (ci := 9) (q0 := 0) rfl (set_at (y := (h0, .inr (9, (fs.set 0 (.int 0))))) hk)) rfl rfl hl.1 rfl (lv_room (Nat.le_of_ble_eq_true rfl)) dX9_pay_15 ⟨Nat.le_of_ble_eq_true rfl, Nat.le_of_ble_eq_true rfl⟩) (fun H locs hP hD hS => ?_)
    exact m_iret (w := 1) (set_at (y := (h0, .inr (9, ((fs.set 0 (.int 0)).set 0 (.int 1))))) (set_at (y := (h0, .inr (9, (fs.set 0 (.int 0))))) hk)) (fs_0 (fs_l hlen)) ⟨rfl, rfl⟩ hx hb hr rfl hlocks hP hD hS dX9_pay_18 (Nat.le_of_ble_eq_true rfl) (Nat.le_of_ble_eq_true rfl)
set_option maxHeartbeats 4000000 in
set_option maxRecDepth 100000 in
theorem qm_tap (l : Launch) (D : va_G) (tys : List (ClassId × FieldType)) (ws : va_W) (sz h0 : Nat) (fs : List Value) (x0 x1 x2 x3 x4 x5 : Int32) (hk : ws[0]? = some (h0, .inr (9, fs))) (hc : fs[6]? = some (.int 0)) (hlen : 0 < fs.length) : Met l yX9_tap wsX9_tap ({ frames := 6, cells := 0, slots := 0, locals := 220 } : Room) (g_P D tys ws [.ref h0, .int x0, .int x1, .int x2, .int x3, .int x4, .int x5] sz) (m_Qi D (va_A ws sz) h0 (fun r t => r = 0 ∧ t = 1)) 0 0 (va_A ws sz) := by
  refine Met.ofW (cc := cX9_tap) (maxL := 10) (ret := (some .int)) (by decide) rfl ?_
  intro p e s m args below meth c9 s₁ B hml hv
  obtain ⟨rfl, hsz, hP, hK, hD0⟩ := hv
  have hx := B.exec
  have hb := B.bytes
  have hr := B.returns
  have hts := atoms_spec (ws := wsX9_tap) B.pre
  have hown : s.vm.findClass RX9 = some m.cls := findClass_of_methodNamed B.named
  have hlocks := B.notSynchronized
  subst hsz
  have hD := hD0.self (sz := s.heap.size)
  generalize hAe : va_A ws s.heap.size = A at hD ⊢
  have hA : ∀ q : Nat, s.heap.size ≤ q → A q := fun q h => by rw [← hAe]; exact Or.inr h
  have hS : va_S A s.heap s.heap [] := va_S.rf
  have hl := lv_entry ([.ref h0, .int x0, .int x1, .int x2, .int x3, .int x4, .int x5]) (n := 10) (Nat.le_of_ble_eq_true rfl)
  rw [lg_entry_eq]
  generalize (lg_sl ([.ref h0, .int x0, .int x1, .int x2, .int x3, .int x4, .int x5]) ++ List.replicate (10 - (lg_sl ([.ref h0, .int x0, .int x1, .int x2, .int x3, .int x4, .int x5])).length) Slot.unset).toArray = ls at hl ⊢
  have hl : lv_has ls 10 [(0, .ref h0), (1, .int x0), (2, .int x1), (3, .int x2), (4, .int x3), (5, .int x4), (6, .int x5)] := hl
  have winX9 : ∀ w ∈ u_ws RX9 TX9 16, w ∈ wsX9_tap := by decide +kernel
  refine lv_aload_n hx hb dX9_tap_0 rfl (lv_at hl 0 rfl) ?_
  refine lv_iconst (v := 0) hx hb dX9_tap_1 (by decide) ?_
  refine va_put (D := D) (ci := 9) (v := .int 0) (ty := .int) (C := RX9) (T := TX9) (N := 16) hx hb hts winX9 tyX9 tyX9_ok nmX9 hown hK hP hD hS 0 hk rfl 0 (by decide) (hts (.fieldLink RX9 39 "TapCapModel" "thrown" "I") (List.mem_of_getElem? (i := 1) rfl)) (fun _ h9 => h9) rfl (by decide +kernel) rfl rfl hlen dX9_tap_2 (fun H locs hP hD hS => ?_)
  refine lv_aload_n hx hb dX9_tap_5 rfl (lv_at hl 0 rfl) ?_
  refine lv_iload_n hx hb dX9_tap_6 rfl (lv_at hl 1 rfl) ?_
  refine lv_iload_n hx hb dX9_tap_7 rfl (lv_at hl 2 rfl) ?_
  refine lv_iload_n hx hb dX9_tap_8 rfl (lv_at hl 3 rfl) ?_
  refine lv_iload hx hb dX9_tap_9 (lv_at hl 5 rfl) ?_
  refine g_ki hK hD hS hA (va_runV (As := [.int x0, .int x1, .int x2, .int x4]) (rest := []) ⟨hx, hb, hml, hown, hts⟩ (m_isPlace l D tys (ws.set 0 (h0, .inr (9, (fs.set 0 (.int 0))))) H.size h0 (fs.set 0 (.int 0)) x0 x1 x2 x4 (set_at (y := (h0, .inr (9, (fs.set 0 (.int 0))))) hk) (fs_6 hc)) (cwV 4 hts gX9_tap_X9_isPlace rfl rfl rfl (by decide +kernel) ⟨Nat.le_of_ble_eq_true rfl, Nat.le_of_ble_eq_true rfl⟩) (g_preV hK hP hD (ci := 9) (q0 := 0) rfl (set_at (y := (h0, .inr (9, (fs.set 0 (.int 0))))) hk)) rfl rfl hl.1 rfl (lv_room (Nat.le_of_ble_eq_true rfl)) dX9_tap_11 ⟨Nat.le_of_ble_eq_true rfl, Nat.le_of_ble_eq_true rfl⟩) (fun H locs hP hD hS => ?_)
  refine lv_if_ne (tgt := 23) hx hb dX9_tap_14 (by decide) (fun c_9 => ?_) (fun c_9 => ?_)
  · exact absurd rfl c_9
  · refine lv_aload_n hx hb dX9_tap_17 rfl (lv_at hl 0 rfl) ?_
    refine lv_iconst (v := 1) hx hb dX9_tap_18 (by decide) ?_
    refine g_ki hK hD hS hA (va_runV (As := [.int 1]) (rest := []) ⟨hx, hb, hml, hown, hts⟩ (m_no l D tys (ws.set 0 (h0, .inr (9, (fs.set 0 (.int 0))))) H.size h0 (fs.set 0 (.int 0)) 1 (set_at (y := (h0, .inr (9, (fs.set 0 (.int 0))))) hk) (fs_l hlen)) (cwV 1 hts gX9_tap_X9_no rfl rfl rfl (by decide +kernel) ⟨Nat.le_of_ble_eq_true rfl, Nat.le_of_ble_eq_true rfl⟩) (g_preV hK hP hD (ci := 9) (q0 := 0) rfl (set_at (y := (h0, .inr (9, (fs.set 0 (.int 0))))) hk)) rfl rfl hl.1 rfl (lv_room (Nat.le_of_ble_eq_true rfl)) dX9_tap_19 ⟨Nat.le_of_ble_eq_true rfl, Nat.le_of_ble_eq_true rfl⟩) (fun H locs hP hD hS => ?_)
    exact m_iret (w := 1) (set_at (y := (h0, .inr (9, ((fs.set 0 (.int 0)).set 0 (.int 1))))) (set_at (y := (h0, .inr (9, (fs.set 0 (.int 0))))) hk)) (fs_0 (fs_l hlen)) ⟨rfl, rfl⟩ hx hb hr rfl hlocks hP hD hS dX9_tap_22 (Nat.le_of_ble_eq_true rfl) (Nat.le_of_ble_eq_true rfl)
set_option maxHeartbeats 4000000 in
set_option maxRecDepth 100000 in
theorem qm_settle (l : Launch) (D : va_G) (tys : List (ClassId × FieldType)) (ws : va_W) (sz h0 : Nat) (fs : List Value) (x0 x1 : Int32) (hk : ws[0]? = some (h0, .inr (9, fs))) (hc : fs[6]? = some (.int 0)) (hlen : 0 < fs.length) : Met l yX9_settle wsX9_settle ({ frames := 6, cells := 0, slots := 0, locals := 220 } : Room) (g_P D tys ws [.ref h0, .int x0, .int x1] sz) (m_Qi D (va_A ws sz) h0 (fun r t => r = 0 ∧ t = 1)) 0 0 (va_A ws sz) := by
  refine Met.ofW (cc := cX9_settle) (maxL := 3) (ret := (some .int)) (by decide) rfl ?_
  intro p e s m args below meth c9 s₁ B hml hv
  obtain ⟨rfl, hsz, hP, hK, hD0⟩ := hv
  have hx := B.exec
  have hb := B.bytes
  have hr := B.returns
  have hts := atoms_spec (ws := wsX9_settle) B.pre
  have hown : s.vm.findClass RX9 = some m.cls := findClass_of_methodNamed B.named
  have hlocks := B.notSynchronized
  subst hsz
  have hD := hD0.self (sz := s.heap.size)
  generalize hAe : va_A ws s.heap.size = A at hD ⊢
  have hA : ∀ q : Nat, s.heap.size ≤ q → A q := fun q h => by rw [← hAe]; exact Or.inr h
  have hS : va_S A s.heap s.heap [] := va_S.rf
  have hl := lv_entry ([.ref h0, .int x0, .int x1]) (n := 3) (Nat.le_of_ble_eq_true rfl)
  rw [lg_entry_eq]
  generalize (lg_sl ([.ref h0, .int x0, .int x1]) ++ List.replicate (3 - (lg_sl ([.ref h0, .int x0, .int x1])).length) Slot.unset).toArray = ls at hl ⊢
  have hl : lv_has ls 3 [(0, .ref h0), (1, .int x0), (2, .int x1)] := hl
  have winX9 : ∀ w ∈ u_ws RX9 TX9 16, w ∈ wsX9_settle := by decide +kernel
  refine lv_aload_n hx hb dX9_settle_0 rfl (lv_at hl 0 rfl) ?_
  refine lv_iconst (v := 0) hx hb dX9_settle_1 (by decide) ?_
  refine va_put (D := D) (ci := 9) (v := .int 0) (ty := .int) (C := RX9) (T := TX9) (N := 16) hx hb hts winX9 tyX9 tyX9_ok nmX9 hown hK hP hD hS 0 hk rfl 0 (by decide) (hts (.fieldLink RX9 39 "TapCapModel" "thrown" "I") (List.mem_of_getElem? (i := 1) rfl)) (fun _ h9 => h9) rfl (by decide +kernel) rfl rfl hlen dX9_settle_2 (fun H locs hP hD hS => ?_)
  refine lv_aload_n hx hb dX9_settle_5 rfl (lv_at hl 0 rfl) ?_
  refine lv_iload_n hx hb dX9_settle_6 rfl (lv_at hl 1 rfl) ?_
  refine g_ki hK hD hS hA (va_runV (As := [.int x0]) (rest := []) ⟨hx, hb, hml, hown, hts⟩ (m_isPerson l D tys (ws.set 0 (h0, .inr (9, (fs.set 0 (.int 0))))) H.size h0 (fs.set 0 (.int 0)) x0 (set_at (y := (h0, .inr (9, (fs.set 0 (.int 0))))) hk) (fs_6 hc)) (cwV 1 hts gX9_settle_X9_isPerson rfl rfl rfl (by decide +kernel) ⟨Nat.le_of_ble_eq_true rfl, Nat.le_of_ble_eq_true rfl⟩) (g_preV hK hP hD (ci := 9) (q0 := 0) rfl (set_at (y := (h0, .inr (9, (fs.set 0 (.int 0))))) hk)) rfl rfl hl.1 rfl (lv_room (Nat.le_of_ble_eq_true rfl)) dX9_settle_7 ⟨Nat.le_of_ble_eq_true rfl, Nat.le_of_ble_eq_true rfl⟩) (fun H locs hP hD hS => ?_)
  refine lv_if_eq (tgt := 22) hx hb dX9_settle_10 (by decide) (fun c_10 => ?_) (fun c_10 => ?_)
  · refine lv_aload_n hx hb dX9_settle_22 rfl (lv_at hl 0 rfl) ?_
    refine lv_iconst (v := 1) hx hb dX9_settle_23 (by decide) ?_
    refine g_ki hK hD hS hA (va_runV (As := [.int 1]) (rest := []) ⟨hx, hb, hml, hown, hts⟩ (m_no l D tys (ws.set 0 (h0, .inr (9, (fs.set 0 (.int 0))))) H.size h0 (fs.set 0 (.int 0)) 1 (set_at (y := (h0, .inr (9, (fs.set 0 (.int 0))))) hk) (fs_l hlen)) (cwV 1 hts gX9_settle_X9_no rfl rfl rfl (by decide +kernel) ⟨Nat.le_of_ble_eq_true rfl, Nat.le_of_ble_eq_true rfl⟩) (g_preV hK hP hD (ci := 9) (q0 := 0) rfl (set_at (y := (h0, .inr (9, (fs.set 0 (.int 0))))) hk)) rfl rfl hl.1 rfl (lv_room (Nat.le_of_ble_eq_true rfl)) dX9_settle_24 ⟨Nat.le_of_ble_eq_true rfl, Nat.le_of_ble_eq_true rfl⟩) (fun H locs hP hD hS => ?_)
    exact m_iret (w := 1) (set_at (y := (h0, .inr (9, ((fs.set 0 (.int 0)).set 0 (.int 1))))) (set_at (y := (h0, .inr (9, (fs.set 0 (.int 0))))) hk)) (fs_0 (fs_l hlen)) ⟨rfl, rfl⟩ hx hb hr rfl hlocks hP hD hS dX9_settle_27 (Nat.le_of_ble_eq_true rfl) (Nat.le_of_ble_eq_true rfl)
  · exact absurd (by decide) c_10
set_option maxHeartbeats 4000000 in
set_option maxRecDepth 100000 in
theorem qm_refund (l : Launch) (D : va_G) (tys : List (ClassId × FieldType)) (ws : va_W) (sz h0 : Nat) (fs : List Value) (x0 x1 x2 : Int32) (hk : ws[0]? = some (h0, .inr (9, fs))) (hc : fs[6]? = some (.int 0)) (hlen : 0 < fs.length) : Met l yX9_refund wsX9_refund ({ frames := 6, cells := 0, slots := 0, locals := 220 } : Room) (g_P D tys ws [.ref h0, .int x0, .int x1, .int x2] sz) (m_Qi D (va_A ws sz) h0 (fun r t => r = 0 ∧ t = 1)) 0 0 (va_A ws sz) := by
  refine Met.ofW (cc := cX9_refund) (maxL := 14) (ret := (some .int)) (by decide) rfl ?_
  intro p e s m args below meth c9 s₁ B hml hv
  obtain ⟨rfl, hsz, hP, hK, hD0⟩ := hv
  have hx := B.exec
  have hb := B.bytes
  have hr := B.returns
  have hts := atoms_spec (ws := wsX9_refund) B.pre
  have hown : s.vm.findClass RX9 = some m.cls := findClass_of_methodNamed B.named
  have hlocks := B.notSynchronized
  subst hsz
  have hD := hD0.self (sz := s.heap.size)
  generalize hAe : va_A ws s.heap.size = A at hD ⊢
  have hA : ∀ q : Nat, s.heap.size ≤ q → A q := fun q h => by rw [← hAe]; exact Or.inr h
  have hS : va_S A s.heap s.heap [] := va_S.rf
  have hl := lv_entry ([.ref h0, .int x0, .int x1, .int x2]) (n := 14) (Nat.le_of_ble_eq_true rfl)
  rw [lg_entry_eq]
  generalize (lg_sl ([.ref h0, .int x0, .int x1, .int x2]) ++ List.replicate (14 - (lg_sl ([.ref h0, .int x0, .int x1, .int x2])).length) Slot.unset).toArray = ls at hl ⊢
  have hl : lv_has ls 14 [(0, .ref h0), (1, .int x0), (2, .int x1), (3, .int x2)] := hl
  have winX9 : ∀ w ∈ u_ws RX9 TX9 16, w ∈ wsX9_refund := by decide +kernel
  refine lv_aload_n hx hb dX9_refund_0 rfl (lv_at hl 0 rfl) ?_
  refine lv_iconst (v := 0) hx hb dX9_refund_1 (by decide) ?_
  refine va_put (D := D) (ci := 9) (v := .int 0) (ty := .int) (C := RX9) (T := TX9) (N := 16) hx hb hts winX9 tyX9 tyX9_ok nmX9 hown hK hP hD hS 0 hk rfl 0 (by decide) (hts (.fieldLink RX9 39 "TapCapModel" "thrown" "I") (List.mem_of_getElem? (i := 1) rfl)) (fun _ h9 => h9) rfl (by decide +kernel) rfl rfl hlen dX9_refund_2 (fun H locs hP hD hS => ?_)
  refine lv_aload_n hx hb dX9_refund_5 rfl (lv_at hl 0 rfl) ?_
  refine lv_iload_n hx hb dX9_refund_6 rfl (lv_at hl 1 rfl) ?_
  refine g_ki hK hD hS hA (va_runV (As := [.int x0]) (rest := []) ⟨hx, hb, hml, hown, hts⟩ (m_isPerson l D tys (ws.set 0 (h0, .inr (9, (fs.set 0 (.int 0))))) H.size h0 (fs.set 0 (.int 0)) x0 (set_at (y := (h0, .inr (9, (fs.set 0 (.int 0))))) hk) (fs_6 hc)) (cwV 1 hts gX9_refund_X9_isPerson rfl rfl rfl (by decide +kernel) ⟨Nat.le_of_ble_eq_true rfl, Nat.le_of_ble_eq_true rfl⟩) (g_preV hK hP hD (ci := 9) (q0 := 0) rfl (set_at (y := (h0, .inr (9, (fs.set 0 (.int 0))))) hk)) rfl rfl hl.1 rfl (lv_room (Nat.le_of_ble_eq_true rfl)) dX9_refund_7 ⟨Nat.le_of_ble_eq_true rfl, Nat.le_of_ble_eq_true rfl⟩) (fun H locs hP hD hS => ?_)
  refine lv_if_eq (tgt := 29) hx hb dX9_refund_10 (by decide) (fun c_11 => ?_) (fun c_11 => ?_)
  · refine lv_aload_n hx hb dX9_refund_29 rfl (lv_at hl 0 rfl) ?_
    refine lv_iconst (v := 1) hx hb dX9_refund_30 (by decide) ?_
    refine g_ki hK hD hS hA (va_runV (As := [.int 1]) (rest := []) ⟨hx, hb, hml, hown, hts⟩ (m_no l D tys (ws.set 0 (h0, .inr (9, (fs.set 0 (.int 0))))) H.size h0 (fs.set 0 (.int 0)) 1 (set_at (y := (h0, .inr (9, (fs.set 0 (.int 0))))) hk) (fs_l hlen)) (cwV 1 hts gX9_refund_X9_no rfl rfl rfl (by decide +kernel) ⟨Nat.le_of_ble_eq_true rfl, Nat.le_of_ble_eq_true rfl⟩) (g_preV hK hP hD (ci := 9) (q0 := 0) rfl (set_at (y := (h0, .inr (9, (fs.set 0 (.int 0))))) hk)) rfl rfl hl.1 rfl (lv_room (Nat.le_of_ble_eq_true rfl)) dX9_refund_31 ⟨Nat.le_of_ble_eq_true rfl, Nat.le_of_ble_eq_true rfl⟩) (fun H locs hP hD hS => ?_)
    exact m_iret (w := 1) (set_at (y := (h0, .inr (9, ((fs.set 0 (.int 0)).set 0 (.int 1))))) (set_at (y := (h0, .inr (9, (fs.set 0 (.int 0))))) hk)) (fs_0 (fs_l hlen)) ⟨rfl, rfl⟩ hx hb hr rfl hlocks hP hD hS dX9_refund_34 (Nat.le_of_ble_eq_true rfl) (Nat.le_of_ble_eq_true rfl)
  · exact absurd (by decide) c_11
set_option maxHeartbeats 4000000 in
set_option maxRecDepth 100000 in
theorem qm_ofCard (l : Launch) (D : va_G) (tys : List (ClassId × FieldType)) (ws : va_W) (sz h0 : Nat) (fs : List Value) (x0 x1 : Int32) (hk : ws[0]? = some (h0, .inr (9, fs))) (hc : fs[6]? = some (.int 0)) (hlen : 0 < fs.length) : Met l yX9_ofCard wsX9_ofCard ({ frames := 6, cells := 0, slots := 0, locals := 220 } : Room) (g_P D tys ws [.ref h0, .int x0, .int x1] sz) (m_Qi D (va_A ws sz) h0 (fun r t => r = 0 ∧ t = 1)) 0 0 (va_A ws sz) := by
  refine Met.ofW (cc := cX9_ofCard) (maxL := 3) (ret := (some .int)) (by decide) rfl ?_
  intro p e s m args below meth c9 s₁ B hml hv
  obtain ⟨rfl, hsz, hP, hK, hD0⟩ := hv
  have hx := B.exec
  have hb := B.bytes
  have hr := B.returns
  have hts := atoms_spec (ws := wsX9_ofCard) B.pre
  have hown : s.vm.findClass RX9 = some m.cls := findClass_of_methodNamed B.named
  have hlocks := B.notSynchronized
  subst hsz
  have hD := hD0.self (sz := s.heap.size)
  generalize hAe : va_A ws s.heap.size = A at hD ⊢
  have hA : ∀ q : Nat, s.heap.size ≤ q → A q := fun q h => by rw [← hAe]; exact Or.inr h
  have hS : va_S A s.heap s.heap [] := va_S.rf
  have hl := lv_entry ([.ref h0, .int x0, .int x1]) (n := 3) (Nat.le_of_ble_eq_true rfl)
  rw [lg_entry_eq]
  generalize (lg_sl ([.ref h0, .int x0, .int x1]) ++ List.replicate (3 - (lg_sl ([.ref h0, .int x0, .int x1])).length) Slot.unset).toArray = ls at hl ⊢
  have hl : lv_has ls 3 [(0, .ref h0), (1, .int x0), (2, .int x1)] := hl
  have winX9 : ∀ w ∈ u_ws RX9 TX9 16, w ∈ wsX9_ofCard := by decide +kernel
  refine lv_aload_n hx hb dX9_ofCard_0 rfl (lv_at hl 0 rfl) ?_
  refine lv_iconst (v := 0) hx hb dX9_ofCard_1 (by decide) ?_
  refine va_put (D := D) (ci := 9) (v := .int 0) (ty := .int) (C := RX9) (T := TX9) (N := 16) hx hb hts winX9 tyX9 tyX9_ok nmX9 hown hK hP hD hS 0 hk rfl 0 (by decide) (hts (.fieldLink RX9 39 "TapCapModel" "thrown" "I") (List.mem_of_getElem? (i := 1) rfl)) (fun _ h9 => h9) rfl (by decide +kernel) rfl rfl hlen dX9_ofCard_2 (fun H locs hP hD hS => ?_)
  refine lv_aload_n hx hb dX9_ofCard_5 rfl (lv_at hl 0 rfl) ?_
  refine lv_iload_n hx hb dX9_ofCard_6 rfl (lv_at hl 1 rfl) ?_
  refine g_ki hK hD hS hA (va_runV (As := [.int x0]) (rest := []) ⟨hx, hb, hml, hown, hts⟩ (m_isCard l D tys (ws.set 0 (h0, .inr (9, (fs.set 0 (.int 0))))) H.size h0 (fs.set 0 (.int 0)) x0 (set_at (y := (h0, .inr (9, (fs.set 0 (.int 0))))) hk) (fs_6 hc)) (cwV 1 hts gX9_ofCard_X9_isCard rfl rfl rfl (by decide +kernel) ⟨Nat.le_of_ble_eq_true rfl, Nat.le_of_ble_eq_true rfl⟩) (g_preV hK hP hD (ci := 9) (q0 := 0) rfl (set_at (y := (h0, .inr (9, (fs.set 0 (.int 0))))) hk)) rfl rfl hl.1 rfl (lv_room (Nat.le_of_ble_eq_true rfl)) dX9_ofCard_7 ⟨Nat.le_of_ble_eq_true rfl, Nat.le_of_ble_eq_true rfl⟩) (fun H locs hP hD hS => ?_)
  refine lv_if_ne (tgt := 19) hx hb dX9_ofCard_10 (by decide) (fun c_12 => ?_) (fun c_12 => ?_)
  · exact absurd rfl c_12
  · refine lv_aload_n hx hb dX9_ofCard_13 rfl (lv_at hl 0 rfl) ?_
    refine lv_iconst (v := 1) hx hb dX9_ofCard_14 (by decide) ?_
    refine g_ki hK hD hS hA (va_runV (As := [.int 1]) (rest := []) ⟨hx, hb, hml, hown, hts⟩ (m_no l D tys (ws.set 0 (h0, .inr (9, (fs.set 0 (.int 0))))) H.size h0 (fs.set 0 (.int 0)) 1 (set_at (y := (h0, .inr (9, (fs.set 0 (.int 0))))) hk) (fs_l hlen)) (cwV 1 hts gX9_ofCard_X9_no rfl rfl rfl (by decide +kernel) ⟨Nat.le_of_ble_eq_true rfl, Nat.le_of_ble_eq_true rfl⟩) (g_preV hK hP hD (ci := 9) (q0 := 0) rfl (set_at (y := (h0, .inr (9, (fs.set 0 (.int 0))))) hk)) rfl rfl hl.1 rfl (lv_room (Nat.le_of_ble_eq_true rfl)) dX9_ofCard_15 ⟨Nat.le_of_ble_eq_true rfl, Nat.le_of_ble_eq_true rfl⟩) (fun H locs hP hD hS => ?_)
    exact m_iret (w := 1) (set_at (y := (h0, .inr (9, ((fs.set 0 (.int 0)).set 0 (.int 1))))) (set_at (y := (h0, .inr (9, (fs.set 0 (.int 0))))) hk)) (fs_0 (fs_l hlen)) ⟨rfl, rfl⟩ hx hb hr rfl hlocks hP hD hS dX9_ofCard_18 (Nat.le_of_ble_eq_true rfl) (Nat.le_of_ble_eq_true rfl)
set_option maxHeartbeats 4000000 in
set_option maxRecDepth 100000 in
theorem qm_ofDay (l : Launch) (D : va_G) (tys : List (ClassId × FieldType)) (ws : va_W) (sz h0 : Nat) (fs : List Value) (x0 x1 x2 : Int32) (hk : ws[0]? = some (h0, .inr (9, fs))) (hc : fs[6]? = some (.int 0)) (hlen : 0 < fs.length) : Met l yX9_ofDay wsX9_ofDay ({ frames := 6, cells := 0, slots := 0, locals := 220 } : Room) (g_P D tys ws [.ref h0, .int x0, .int x1, .int x2] sz) (m_Qi D (va_A ws sz) h0 (fun r t => r = 0 ∧ t = 1)) 0 0 (va_A ws sz) := by
  refine Met.ofW (cc := cX9_ofDay) (maxL := 4) (ret := (some .int)) (by decide) rfl ?_
  intro p e s m args below meth c9 s₁ B hml hv
  obtain ⟨rfl, hsz, hP, hK, hD0⟩ := hv
  have hx := B.exec
  have hb := B.bytes
  have hr := B.returns
  have hts := atoms_spec (ws := wsX9_ofDay) B.pre
  have hown : s.vm.findClass RX9 = some m.cls := findClass_of_methodNamed B.named
  have hlocks := B.notSynchronized
  subst hsz
  have hD := hD0.self (sz := s.heap.size)
  generalize hAe : va_A ws s.heap.size = A at hD ⊢
  have hA : ∀ q : Nat, s.heap.size ≤ q → A q := fun q h => by rw [← hAe]; exact Or.inr h
  have hS : va_S A s.heap s.heap [] := va_S.rf
  have hl := lv_entry ([.ref h0, .int x0, .int x1, .int x2]) (n := 4) (Nat.le_of_ble_eq_true rfl)
  rw [lg_entry_eq]
  generalize (lg_sl ([.ref h0, .int x0, .int x1, .int x2]) ++ List.replicate (4 - (lg_sl ([.ref h0, .int x0, .int x1, .int x2])).length) Slot.unset).toArray = ls at hl ⊢
  have hl : lv_has ls 4 [(0, .ref h0), (1, .int x0), (2, .int x1), (3, .int x2)] := hl
  have winX9 : ∀ w ∈ u_ws RX9 TX9 16, w ∈ wsX9_ofDay := by decide +kernel
  refine lv_aload_n hx hb dX9_ofDay_0 rfl (lv_at hl 0 rfl) ?_
  refine lv_iconst (v := 0) hx hb dX9_ofDay_1 (by decide) ?_
  refine va_put (D := D) (ci := 9) (v := .int 0) (ty := .int) (C := RX9) (T := TX9) (N := 16) hx hb hts winX9 tyX9 tyX9_ok nmX9 hown hK hP hD hS 0 hk rfl 0 (by decide) (hts (.fieldLink RX9 39 "TapCapModel" "thrown" "I") (List.mem_of_getElem? (i := 1) rfl)) (fun _ h9 => h9) rfl (by decide +kernel) rfl rfl hlen dX9_ofDay_2 (fun H locs hP hD hS => ?_)
  refine lv_aload_n hx hb dX9_ofDay_5 rfl (lv_at hl 0 rfl) ?_
  refine lv_iload_n hx hb dX9_ofDay_6 rfl (lv_at hl 1 rfl) ?_
  refine g_ki hK hD hS hA (va_runV (As := [.int x0]) (rest := []) ⟨hx, hb, hml, hown, hts⟩ (m_isPerson l D tys (ws.set 0 (h0, .inr (9, (fs.set 0 (.int 0))))) H.size h0 (fs.set 0 (.int 0)) x0 (set_at (y := (h0, .inr (9, (fs.set 0 (.int 0))))) hk) (fs_6 hc)) (cwV 1 hts gX9_ofDay_X9_isPerson rfl rfl rfl (by decide +kernel) ⟨Nat.le_of_ble_eq_true rfl, Nat.le_of_ble_eq_true rfl⟩) (g_preV hK hP hD (ci := 9) (q0 := 0) rfl (set_at (y := (h0, .inr (9, (fs.set 0 (.int 0))))) hk)) rfl rfl hl.1 rfl (lv_room (Nat.le_of_ble_eq_true rfl)) dX9_ofDay_7 ⟨Nat.le_of_ble_eq_true rfl, Nat.le_of_ble_eq_true rfl⟩) (fun H locs hP hD hS => ?_)
  refine lv_if_eq (tgt := 20) hx hb dX9_ofDay_10 (by decide) (fun c_13 => ?_) (fun c_13 => ?_)
  · refine lv_aload_n hx hb dX9_ofDay_20 rfl (lv_at hl 0 rfl) ?_
    refine lv_iconst (v := 1) hx hb dX9_ofDay_21 (by decide) ?_
    refine g_ki hK hD hS hA (va_runV (As := [.int 1]) (rest := []) ⟨hx, hb, hml, hown, hts⟩ (m_no l D tys (ws.set 0 (h0, .inr (9, (fs.set 0 (.int 0))))) H.size h0 (fs.set 0 (.int 0)) 1 (set_at (y := (h0, .inr (9, (fs.set 0 (.int 0))))) hk) (fs_l hlen)) (cwV 1 hts gX9_ofDay_X9_no rfl rfl rfl (by decide +kernel) ⟨Nat.le_of_ble_eq_true rfl, Nat.le_of_ble_eq_true rfl⟩) (g_preV hK hP hD (ci := 9) (q0 := 0) rfl (set_at (y := (h0, .inr (9, (fs.set 0 (.int 0))))) hk)) rfl rfl hl.1 rfl (lv_room (Nat.le_of_ble_eq_true rfl)) dX9_ofDay_22 ⟨Nat.le_of_ble_eq_true rfl, Nat.le_of_ble_eq_true rfl⟩) (fun H locs hP hD hS => ?_)
    exact m_iret (w := 1) (set_at (y := (h0, .inr (9, ((fs.set 0 (.int 0)).set 0 (.int 1))))) (set_at (y := (h0, .inr (9, (fs.set 0 (.int 0))))) hk)) (fs_0 (fs_l hlen)) ⟨rfl, rfl⟩ hx hb hr rfl hlocks hP hD hS dX9_ofDay_25 (Nat.le_of_ble_eq_true rfl) (Nat.le_of_ble_eq_true rfl)
  · exact absurd (by decide) c_13
set_option maxHeartbeats 4000000 in
set_option maxRecDepth 100000 in
theorem qm_ofLeg (l : Launch) (D : va_G) (tys : List (ClassId × FieldType)) (ws : va_W) (sz h0 : Nat) (fs : List Value) (x0 x1 x2 x3 : Int32) (hk : ws[0]? = some (h0, .inr (9, fs))) (hc : fs[6]? = some (.int 0)) (hlen : 0 < fs.length) : Met l yX9_ofLeg wsX9_ofLeg ({ frames := 6, cells := 0, slots := 0, locals := 220 } : Room) (g_P D tys ws [.ref h0, .int x0, .int x1, .int x2, .int x3] sz) (m_Qi D (va_A ws sz) h0 (fun r t => r = 0 ∧ t = 1)) 0 0 (va_A ws sz) := by
  refine Met.ofW (cc := cX9_ofLeg) (maxL := 6) (ret := (some .int)) (by decide) rfl ?_
  intro p e s m args below meth c9 s₁ B hml hv
  obtain ⟨rfl, hsz, hP, hK, hD0⟩ := hv
  have hx := B.exec
  have hb := B.bytes
  have hr := B.returns
  have hts := atoms_spec (ws := wsX9_ofLeg) B.pre
  have hown : s.vm.findClass RX9 = some m.cls := findClass_of_methodNamed B.named
  have hlocks := B.notSynchronized
  subst hsz
  have hD := hD0.self (sz := s.heap.size)
  generalize hAe : va_A ws s.heap.size = A at hD ⊢
  have hA : ∀ q : Nat, s.heap.size ≤ q → A q := fun q h => by rw [← hAe]; exact Or.inr h
  have hS : va_S A s.heap s.heap [] := va_S.rf
  have hl := lv_entry ([.ref h0, .int x0, .int x1, .int x2, .int x3]) (n := 6) (Nat.le_of_ble_eq_true rfl)
  rw [lg_entry_eq]
  generalize (lg_sl ([.ref h0, .int x0, .int x1, .int x2, .int x3]) ++ List.replicate (6 - (lg_sl ([.ref h0, .int x0, .int x1, .int x2, .int x3])).length) Slot.unset).toArray = ls at hl ⊢
  have hl : lv_has ls 6 [(0, .ref h0), (1, .int x0), (2, .int x1), (3, .int x2), (4, .int x3)] := hl
  have winX9 : ∀ w ∈ u_ws RX9 TX9 16, w ∈ wsX9_ofLeg := by decide +kernel
  refine lv_aload_n hx hb dX9_ofLeg_0 rfl (lv_at hl 0 rfl) ?_
  refine lv_iconst (v := 0) hx hb dX9_ofLeg_1 (by decide) ?_
  refine va_put (D := D) (ci := 9) (v := .int 0) (ty := .int) (C := RX9) (T := TX9) (N := 16) hx hb hts winX9 tyX9 tyX9_ok nmX9 hown hK hP hD hS 0 hk rfl 0 (by decide) (hts (.fieldLink RX9 39 "TapCapModel" "thrown" "I") (List.mem_of_getElem? (i := 1) rfl)) (fun _ h9 => h9) rfl (by decide +kernel) rfl rfl hlen dX9_ofLeg_2 (fun H locs hP hD hS => ?_)
  refine lv_aload_n hx hb dX9_ofLeg_5 rfl (lv_at hl 0 rfl) ?_
  refine lv_iload_n hx hb dX9_ofLeg_6 rfl (lv_at hl 1 rfl) ?_
  refine g_ki hK hD hS hA (va_runV (As := [.int x0]) (rest := []) ⟨hx, hb, hml, hown, hts⟩ (m_isPerson l D tys (ws.set 0 (h0, .inr (9, (fs.set 0 (.int 0))))) H.size h0 (fs.set 0 (.int 0)) x0 (set_at (y := (h0, .inr (9, (fs.set 0 (.int 0))))) hk) (fs_6 hc)) (cwV 1 hts gX9_ofLeg_X9_isPerson rfl rfl rfl (by decide +kernel) ⟨Nat.le_of_ble_eq_true rfl, Nat.le_of_ble_eq_true rfl⟩) (g_preV hK hP hD (ci := 9) (q0 := 0) rfl (set_at (y := (h0, .inr (9, (fs.set 0 (.int 0))))) hk)) rfl rfl hl.1 rfl (lv_room (Nat.le_of_ble_eq_true rfl)) dX9_ofLeg_7 ⟨Nat.le_of_ble_eq_true rfl, Nat.le_of_ble_eq_true rfl⟩) (fun H locs hP hD hS => ?_)
  refine lv_if_eq (tgt := 20) hx hb dX9_ofLeg_10 (by decide) (fun c_14 => ?_) (fun c_14 => ?_)
  · refine lv_aload_n hx hb dX9_ofLeg_20 rfl (lv_at hl 0 rfl) ?_
    refine lv_iconst (v := 1) hx hb dX9_ofLeg_21 (by decide) ?_
    refine g_ki hK hD hS hA (va_runV (As := [.int 1]) (rest := []) ⟨hx, hb, hml, hown, hts⟩ (m_no l D tys (ws.set 0 (h0, .inr (9, (fs.set 0 (.int 0))))) H.size h0 (fs.set 0 (.int 0)) 1 (set_at (y := (h0, .inr (9, (fs.set 0 (.int 0))))) hk) (fs_l hlen)) (cwV 1 hts gX9_ofLeg_X9_no rfl rfl rfl (by decide +kernel) ⟨Nat.le_of_ble_eq_true rfl, Nat.le_of_ble_eq_true rfl⟩) (g_preV hK hP hD (ci := 9) (q0 := 0) rfl (set_at (y := (h0, .inr (9, (fs.set 0 (.int 0))))) hk)) rfl rfl hl.1 rfl (lv_room (Nat.le_of_ble_eq_true rfl)) dX9_ofLeg_22 ⟨Nat.le_of_ble_eq_true rfl, Nat.le_of_ble_eq_true rfl⟩) (fun H locs hP hD hS => ?_)
    exact m_iret (w := 1) (set_at (y := (h0, .inr (9, ((fs.set 0 (.int 0)).set 0 (.int 1))))) (set_at (y := (h0, .inr (9, (fs.set 0 (.int 0))))) hk)) (fs_0 (fs_l hlen)) ⟨rfl, rfl⟩ hx hb hr rfl hlocks hP hD hS dX9_ofLeg_25 (Nat.le_of_ble_eq_true rfl) (Nat.le_of_ble_eq_true rfl)
  · exact absurd (by decide) c_14
set_option maxHeartbeats 4000000 in
set_option maxRecDepth 100000 in
theorem qm_ofJourney (l : Launch) (D : va_G) (tys : List (ClassId × FieldType)) (ws : va_W) (sz h0 : Nat) (fs : List Value) (x0 x1 x2 x3 : Int32) (hk : ws[0]? = some (h0, .inr (9, fs))) (hc : fs[6]? = some (.int 0)) (hlen : 0 < fs.length) : Met l yX9_ofJourney wsX9_ofJourney ({ frames := 6, cells := 0, slots := 0, locals := 220 } : Room) (g_P D tys ws [.ref h0, .int x0, .int x1, .int x2, .int x3] sz) (m_Qi D (va_A ws sz) h0 (fun r t => r = 0 ∧ t = 1)) 0 0 (va_A ws sz) := by
  refine Met.ofW (cc := cX9_ofJourney) (maxL := 6) (ret := (some .int)) (by decide) rfl ?_
  intro p e s m args below meth c9 s₁ B hml hv
  obtain ⟨rfl, hsz, hP, hK, hD0⟩ := hv
  have hx := B.exec
  have hb := B.bytes
  have hr := B.returns
  have hts := atoms_spec (ws := wsX9_ofJourney) B.pre
  have hown : s.vm.findClass RX9 = some m.cls := findClass_of_methodNamed B.named
  have hlocks := B.notSynchronized
  subst hsz
  have hD := hD0.self (sz := s.heap.size)
  generalize hAe : va_A ws s.heap.size = A at hD ⊢
  have hA : ∀ q : Nat, s.heap.size ≤ q → A q := fun q h => by rw [← hAe]; exact Or.inr h
  have hS : va_S A s.heap s.heap [] := va_S.rf
  have hl := lv_entry ([.ref h0, .int x0, .int x1, .int x2, .int x3]) (n := 6) (Nat.le_of_ble_eq_true rfl)
  rw [lg_entry_eq]
  generalize (lg_sl ([.ref h0, .int x0, .int x1, .int x2, .int x3]) ++ List.replicate (6 - (lg_sl ([.ref h0, .int x0, .int x1, .int x2, .int x3])).length) Slot.unset).toArray = ls at hl ⊢
  have hl : lv_has ls 6 [(0, .ref h0), (1, .int x0), (2, .int x1), (3, .int x2), (4, .int x3)] := hl
  have winX9 : ∀ w ∈ u_ws RX9 TX9 16, w ∈ wsX9_ofJourney := by decide +kernel
  refine lv_aload_n hx hb dX9_ofJourney_0 rfl (lv_at hl 0 rfl) ?_
  refine lv_iconst (v := 0) hx hb dX9_ofJourney_1 (by decide) ?_
  refine va_put (D := D) (ci := 9) (v := .int 0) (ty := .int) (C := RX9) (T := TX9) (N := 16) hx hb hts winX9 tyX9 tyX9_ok nmX9 hown hK hP hD hS 0 hk rfl 0 (by decide) (hts (.fieldLink RX9 39 "TapCapModel" "thrown" "I") (List.mem_of_getElem? (i := 1) rfl)) (fun _ h9 => h9) rfl (by decide +kernel) rfl rfl hlen dX9_ofJourney_2 (fun H locs hP hD hS => ?_)
  refine lv_aload_n hx hb dX9_ofJourney_5 rfl (lv_at hl 0 rfl) ?_
  refine lv_iload_n hx hb dX9_ofJourney_6 rfl (lv_at hl 1 rfl) ?_
  refine g_ki hK hD hS hA (va_runV (As := [.int x0]) (rest := []) ⟨hx, hb, hml, hown, hts⟩ (m_isPerson l D tys (ws.set 0 (h0, .inr (9, (fs.set 0 (.int 0))))) H.size h0 (fs.set 0 (.int 0)) x0 (set_at (y := (h0, .inr (9, (fs.set 0 (.int 0))))) hk) (fs_6 hc)) (cwV 1 hts gX9_ofJourney_X9_isPerson rfl rfl rfl (by decide +kernel) ⟨Nat.le_of_ble_eq_true rfl, Nat.le_of_ble_eq_true rfl⟩) (g_preV hK hP hD (ci := 9) (q0 := 0) rfl (set_at (y := (h0, .inr (9, (fs.set 0 (.int 0))))) hk)) rfl rfl hl.1 rfl (lv_room (Nat.le_of_ble_eq_true rfl)) dX9_ofJourney_7 ⟨Nat.le_of_ble_eq_true rfl, Nat.le_of_ble_eq_true rfl⟩) (fun H locs hP hD hS => ?_)
  refine lv_if_eq (tgt := 20) hx hb dX9_ofJourney_10 (by decide) (fun c_15 => ?_) (fun c_15 => ?_)
  · refine lv_aload_n hx hb dX9_ofJourney_20 rfl (lv_at hl 0 rfl) ?_
    refine lv_iconst (v := 1) hx hb dX9_ofJourney_21 (by decide) ?_
    refine g_ki hK hD hS hA (va_runV (As := [.int 1]) (rest := []) ⟨hx, hb, hml, hown, hts⟩ (m_no l D tys (ws.set 0 (h0, .inr (9, (fs.set 0 (.int 0))))) H.size h0 (fs.set 0 (.int 0)) 1 (set_at (y := (h0, .inr (9, (fs.set 0 (.int 0))))) hk) (fs_l hlen)) (cwV 1 hts gX9_ofJourney_X9_no rfl rfl rfl (by decide +kernel) ⟨Nat.le_of_ble_eq_true rfl, Nat.le_of_ble_eq_true rfl⟩) (g_preV hK hP hD (ci := 9) (q0 := 0) rfl (set_at (y := (h0, .inr (9, (fs.set 0 (.int 0))))) hk)) rfl rfl hl.1 rfl (lv_room (Nat.le_of_ble_eq_true rfl)) dX9_ofJourney_22 ⟨Nat.le_of_ble_eq_true rfl, Nat.le_of_ble_eq_true rfl⟩) (fun H locs hP hD hS => ?_)
    exact m_iret (w := 1) (set_at (y := (h0, .inr (9, ((fs.set 0 (.int 0)).set 0 (.int 1))))) (set_at (y := (h0, .inr (9, (fs.set 0 (.int 0))))) hk)) (fs_0 (fs_l hlen)) ⟨rfl, rfl⟩ hx hb hr rfl hlocks hP hD hS dX9_ofJourney_25 (Nat.le_of_ble_eq_true rfl) (Nat.le_of_ble_eq_true rfl)
  · exact absurd (by decide) c_15
set_option maxHeartbeats 4000000 in
set_option maxRecDepth 100000 in
theorem qm_ofWeek (l : Launch) (D : va_G) (tys : List (ClassId × FieldType)) (ws : va_W) (sz h0 : Nat) (fs : List Value) (x0 x1 x2 : Int32) (hk : ws[0]? = some (h0, .inr (9, fs))) (hc : fs[6]? = some (.int 0)) (hlen : 0 < fs.length) : Met l yX9_ofWeek wsX9_ofWeek ({ frames := 6, cells := 0, slots := 0, locals := 220 } : Room) (g_P D tys ws [.ref h0, .int x0, .int x1, .int x2] sz) (m_Qi D (va_A ws sz) h0 (fun r t => r = 0 ∧ t = 1)) 0 0 (va_A ws sz) := by
  refine Met.ofW (cc := cX9_ofWeek) (maxL := 4) (ret := (some .int)) (by decide) rfl ?_
  intro p e s m args below meth c9 s₁ B hml hv
  obtain ⟨rfl, hsz, hP, hK, hD0⟩ := hv
  have hx := B.exec
  have hb := B.bytes
  have hr := B.returns
  have hts := atoms_spec (ws := wsX9_ofWeek) B.pre
  have hown : s.vm.findClass RX9 = some m.cls := findClass_of_methodNamed B.named
  have hlocks := B.notSynchronized
  subst hsz
  have hD := hD0.self (sz := s.heap.size)
  generalize hAe : va_A ws s.heap.size = A at hD ⊢
  have hA : ∀ q : Nat, s.heap.size ≤ q → A q := fun q h => by rw [← hAe]; exact Or.inr h
  have hS : va_S A s.heap s.heap [] := va_S.rf
  have hl := lv_entry ([.ref h0, .int x0, .int x1, .int x2]) (n := 4) (Nat.le_of_ble_eq_true rfl)
  rw [lg_entry_eq]
  generalize (lg_sl ([.ref h0, .int x0, .int x1, .int x2]) ++ List.replicate (4 - (lg_sl ([.ref h0, .int x0, .int x1, .int x2])).length) Slot.unset).toArray = ls at hl ⊢
  have hl : lv_has ls 4 [(0, .ref h0), (1, .int x0), (2, .int x1), (3, .int x2)] := hl
  have winX9 : ∀ w ∈ u_ws RX9 TX9 16, w ∈ wsX9_ofWeek := by decide +kernel
  refine lv_aload_n hx hb dX9_ofWeek_0 rfl (lv_at hl 0 rfl) ?_
  refine lv_iconst (v := 0) hx hb dX9_ofWeek_1 (by decide) ?_
  refine va_put (D := D) (ci := 9) (v := .int 0) (ty := .int) (C := RX9) (T := TX9) (N := 16) hx hb hts winX9 tyX9 tyX9_ok nmX9 hown hK hP hD hS 0 hk rfl 0 (by decide) (hts (.fieldLink RX9 39 "TapCapModel" "thrown" "I") (List.mem_of_getElem? (i := 1) rfl)) (fun _ h9 => h9) rfl (by decide +kernel) rfl rfl hlen dX9_ofWeek_2 (fun H locs hP hD hS => ?_)
  refine lv_aload_n hx hb dX9_ofWeek_5 rfl (lv_at hl 0 rfl) ?_
  refine lv_iload_n hx hb dX9_ofWeek_6 rfl (lv_at hl 1 rfl) ?_
  refine g_ki hK hD hS hA (va_runV (As := [.int x0]) (rest := []) ⟨hx, hb, hml, hown, hts⟩ (m_isPerson l D tys (ws.set 0 (h0, .inr (9, (fs.set 0 (.int 0))))) H.size h0 (fs.set 0 (.int 0)) x0 (set_at (y := (h0, .inr (9, (fs.set 0 (.int 0))))) hk) (fs_6 hc)) (cwV 1 hts gX9_ofWeek_X9_isPerson rfl rfl rfl (by decide +kernel) ⟨Nat.le_of_ble_eq_true rfl, Nat.le_of_ble_eq_true rfl⟩) (g_preV hK hP hD (ci := 9) (q0 := 0) rfl (set_at (y := (h0, .inr (9, (fs.set 0 (.int 0))))) hk)) rfl rfl hl.1 rfl (lv_room (Nat.le_of_ble_eq_true rfl)) dX9_ofWeek_7 ⟨Nat.le_of_ble_eq_true rfl, Nat.le_of_ble_eq_true rfl⟩) (fun H locs hP hD hS => ?_)
  refine lv_if_eq (tgt := 22) hx hb dX9_ofWeek_10 (by decide) (fun c_16 => ?_) (fun c_16 => ?_)
  · refine lv_aload_n hx hb dX9_ofWeek_22 rfl (lv_at hl 0 rfl) ?_
    refine lv_iconst (v := 1) hx hb dX9_ofWeek_23 (by decide) ?_
    refine g_ki hK hD hS hA (va_runV (As := [.int 1]) (rest := []) ⟨hx, hb, hml, hown, hts⟩ (m_no l D tys (ws.set 0 (h0, .inr (9, (fs.set 0 (.int 0))))) H.size h0 (fs.set 0 (.int 0)) 1 (set_at (y := (h0, .inr (9, (fs.set 0 (.int 0))))) hk) (fs_l hlen)) (cwV 1 hts gX9_ofWeek_X9_no rfl rfl rfl (by decide +kernel) ⟨Nat.le_of_ble_eq_true rfl, Nat.le_of_ble_eq_true rfl⟩) (g_preV hK hP hD (ci := 9) (q0 := 0) rfl (set_at (y := (h0, .inr (9, (fs.set 0 (.int 0))))) hk)) rfl rfl hl.1 rfl (lv_room (Nat.le_of_ble_eq_true rfl)) dX9_ofWeek_24 ⟨Nat.le_of_ble_eq_true rfl, Nat.le_of_ble_eq_true rfl⟩) (fun H locs hP hD hS => ?_)
    exact m_iret (w := 1) (set_at (y := (h0, .inr (9, ((fs.set 0 (.int 0)).set 0 (.int 1))))) (set_at (y := (h0, .inr (9, (fs.set 0 (.int 0))))) hk)) (fs_0 (fs_l hlen)) ⟨rfl, rfl⟩ hx hb hr rfl hlocks hP hD hS dX9_ofWeek_27 (Nat.le_of_ble_eq_true rfl) (Nat.le_of_ble_eq_true rfl)
  · exact absurd (by decide) c_16
set_option maxHeartbeats 4000000 in
set_option maxRecDepth 100000 in
theorem qm_share (l : Launch) (D : va_G) (tys : List (ClassId × FieldType)) (ws : va_W) (sz h0 : Nat) (fs : List Value) (x0 x1 x2 : Int32) (hk : ws[0]? = some (h0, .inr (9, fs))) (hc : fs[6]? = some (.int 0)) (hlen : 0 < fs.length) : Met l yX9_share wsX9_share ({ frames := 6, cells := 0, slots := 0, locals := 220 } : Room) (g_P D tys ws [.ref h0, .int x0, .int x1, .int x2] sz) (m_Qi D (va_A ws sz) h0 (fun r t => r = 0 ∧ t = 1)) 0 0 (va_A ws sz) := by
  refine Met.ofW (cc := cX9_share) (maxL := 4) (ret := (some .int)) (by decide) rfl ?_
  intro p e s m args below meth c9 s₁ B hml hv
  obtain ⟨rfl, hsz, hP, hK, hD0⟩ := hv
  have hx := B.exec
  have hb := B.bytes
  have hr := B.returns
  have hts := atoms_spec (ws := wsX9_share) B.pre
  have hown : s.vm.findClass RX9 = some m.cls := findClass_of_methodNamed B.named
  have hlocks := B.notSynchronized
  subst hsz
  have hD := hD0.self (sz := s.heap.size)
  generalize hAe : va_A ws s.heap.size = A at hD ⊢
  have hA : ∀ q : Nat, s.heap.size ≤ q → A q := fun q h => by rw [← hAe]; exact Or.inr h
  have hS : va_S A s.heap s.heap [] := va_S.rf
  have hl := lv_entry ([.ref h0, .int x0, .int x1, .int x2]) (n := 4) (Nat.le_of_ble_eq_true rfl)
  rw [lg_entry_eq]
  generalize (lg_sl ([.ref h0, .int x0, .int x1, .int x2]) ++ List.replicate (4 - (lg_sl ([.ref h0, .int x0, .int x1, .int x2])).length) Slot.unset).toArray = ls at hl ⊢
  have hl : lv_has ls 4 [(0, .ref h0), (1, .int x0), (2, .int x1), (3, .int x2)] := hl
  have winX9 : ∀ w ∈ u_ws RX9 TX9 16, w ∈ wsX9_share := by decide +kernel
  refine lv_aload_n hx hb dX9_share_0 rfl (lv_at hl 0 rfl) ?_
  refine lv_iconst (v := 0) hx hb dX9_share_1 (by decide) ?_
  refine va_put (D := D) (ci := 9) (v := .int 0) (ty := .int) (C := RX9) (T := TX9) (N := 16) hx hb hts winX9 tyX9 tyX9_ok nmX9 hown hK hP hD hS 0 hk rfl 0 (by decide) (hts (.fieldLink RX9 39 "TapCapModel" "thrown" "I") (List.mem_of_getElem? (i := 1) rfl)) (fun _ h9 => h9) rfl (by decide +kernel) rfl rfl hlen dX9_share_2 (fun H locs hP hD hS => ?_)
  refine lv_iload_n hx hb dX9_share_5 rfl (lv_at hl 1 rfl) ?_
  refine lv_iconst (v := 0) hx hb dX9_share_6 (by decide) ?_
  refine lv_iconst (v := 2) hx hb dX9_share_7 (by decide) ?_
  refine g_ki hK hD hS hA (va_runS (As := [.int x0, .int 0, .int 2]) (rest := []) ⟨hx, hb, hml, hown, hts⟩ (m_in l D tys (ws.set 0 (h0, .inr (9, (fs.set 0 (.int 0))))) H.size x0 0 2) (cwS 3 hts gX9_share_X9_in rfl rfl rfl (by decide +kernel) ⟨Nat.le_of_ble_eq_true rfl, Nat.le_of_ble_eq_true rfl⟩) (g_preS hK hP hD) rfl rfl hl.1 rfl (lv_room (Nat.le_of_ble_eq_true rfl)) dX9_share_8 ⟨Nat.le_of_ble_eq_true rfl, Nat.le_of_ble_eq_true rfl⟩) (fun H locs hP hD hS => ?_)
  refine lv_if_eq (tgt := 29) hx hb dX9_share_11 (by decide) (fun c_17 => ?_) (fun c_17 => ?_)
  · refine lv_aload_n hx hb dX9_share_29 rfl (lv_at hl 0 rfl) ?_
    refine lv_iconst (v := 1) hx hb dX9_share_30 (by decide) ?_
    refine g_ki hK hD hS hA (va_runV (As := [.int 1]) (rest := []) ⟨hx, hb, hml, hown, hts⟩ (m_no l D tys (ws.set 0 (h0, .inr (9, (fs.set 0 (.int 0))))) H.size h0 (fs.set 0 (.int 0)) 1 (set_at (y := (h0, .inr (9, (fs.set 0 (.int 0))))) hk) (fs_l hlen)) (cwV 1 hts gX9_share_X9_no rfl rfl rfl (by decide +kernel) ⟨Nat.le_of_ble_eq_true rfl, Nat.le_of_ble_eq_true rfl⟩) (g_preV hK hP hD (ci := 9) (q0 := 0) rfl (set_at (y := (h0, .inr (9, (fs.set 0 (.int 0))))) hk)) rfl rfl hl.1 rfl (lv_room (Nat.le_of_ble_eq_true rfl)) dX9_share_31 ⟨Nat.le_of_ble_eq_true rfl, Nat.le_of_ble_eq_true rfl⟩) (fun H locs hP hD hS => ?_)
    exact m_iret (w := 1) (set_at (y := (h0, .inr (9, ((fs.set 0 (.int 0)).set 0 (.int 1))))) (set_at (y := (h0, .inr (9, (fs.set 0 (.int 0))))) hk)) (fs_0 (fs_l hlen)) ⟨rfl, rfl⟩ hx hb hr rfl hlocks hP hD hS dX9_share_34 (Nat.le_of_ble_eq_true rfl) (Nat.le_of_ble_eq_true rfl)
  · refine lv_aload_n hx hb dX9_share_14 rfl (lv_at hl 0 rfl) ?_
    refine lv_iload_n hx hb dX9_share_15 rfl (lv_at hl 2 rfl) ?_
    refine g_ki hK hD hS hA (va_runV (As := [.int x1]) (rest := []) ⟨hx, hb, hml, hown, hts⟩ (m_isPerson l D tys (ws.set 0 (h0, .inr (9, (fs.set 0 (.int 0))))) H.size h0 (fs.set 0 (.int 0)) x1 (set_at (y := (h0, .inr (9, (fs.set 0 (.int 0))))) hk) (fs_6 hc)) (cwV 1 hts gX9_share_X9_isPerson rfl rfl rfl (by decide +kernel) ⟨Nat.le_of_ble_eq_true rfl, Nat.le_of_ble_eq_true rfl⟩) (g_preV hK hP hD (ci := 9) (q0 := 0) rfl (set_at (y := (h0, .inr (9, (fs.set 0 (.int 0))))) hk)) rfl rfl hl.1 rfl (lv_room (Nat.le_of_ble_eq_true rfl)) dX9_share_16 ⟨Nat.le_of_ble_eq_true rfl, Nat.le_of_ble_eq_true rfl⟩) (fun H locs hP hD hS => ?_)
    refine lv_if_eq (tgt := 29) hx hb dX9_share_19 (by decide) (fun c_18 => ?_) (fun c_18 => ?_)
    · refine lv_aload_n hx hb dX9_share_29 rfl (lv_at hl 0 rfl) ?_
      refine lv_iconst (v := 1) hx hb dX9_share_30 (by decide) ?_
      refine g_ki hK hD hS hA (va_runV (As := [.int 1]) (rest := []) ⟨hx, hb, hml, hown, hts⟩ (m_no l D tys (ws.set 0 (h0, .inr (9, (fs.set 0 (.int 0))))) H.size h0 (fs.set 0 (.int 0)) 1 (set_at (y := (h0, .inr (9, (fs.set 0 (.int 0))))) hk) (fs_l hlen)) (cwV 1 hts gX9_share_X9_no rfl rfl rfl (by decide +kernel) ⟨Nat.le_of_ble_eq_true rfl, Nat.le_of_ble_eq_true rfl⟩) (g_preV hK hP hD (ci := 9) (q0 := 0) rfl (set_at (y := (h0, .inr (9, (fs.set 0 (.int 0))))) hk)) rfl rfl hl.1 rfl (lv_room (Nat.le_of_ble_eq_true rfl)) dX9_share_31 ⟨Nat.le_of_ble_eq_true rfl, Nat.le_of_ble_eq_true rfl⟩) (fun H locs hP hD hS => ?_)
      exact m_iret (w := 1) (set_at (y := (h0, .inr (9, ((fs.set 0 (.int 0)).set 0 (.int 1))))) (set_at (y := (h0, .inr (9, (fs.set 0 (.int 0))))) hk)) (fs_0 (fs_l hlen)) ⟨rfl, rfl⟩ hx hb hr rfl hlocks hP hD hS dX9_share_34 (Nat.le_of_ble_eq_true rfl) (Nat.le_of_ble_eq_true rfl)
    · exact absurd (by decide) c_18
set_option maxHeartbeats 4000000 in
set_option maxRecDepth 100000 in
theorem qm_check (l : Launch) (D : va_G) (tys : List (ClassId × FieldType)) (ws : va_W) (sz h0 : Nat) (fs : List Value) (x0 x1 x2 : Int32) (hk : ws[0]? = some (h0, .inr (9, fs))) (hc : fs[6]? = some (.int 0)) (hlen : 0 < fs.length) : Met l yX9_check wsX9_check ({ frames := 6, cells := 0, slots := 0, locals := 220 } : Room) (g_P D tys ws [.ref h0, .int x0, .int x1, .int x2] sz) (m_Qi D (va_A ws sz) h0 (fun r t => r = 0 ∧ t = 1)) 0 0 (va_A ws sz) := by
  refine Met.ofW (cc := cX9_check) (maxL := 8) (ret := (some .int)) (by decide) rfl ?_
  intro p e s m args below meth c9 s₁ B hml hv
  obtain ⟨rfl, hsz, hP, hK, hD0⟩ := hv
  have hx := B.exec
  have hb := B.bytes
  have hr := B.returns
  have hts := atoms_spec (ws := wsX9_check) B.pre
  have hown : s.vm.findClass RX9 = some m.cls := findClass_of_methodNamed B.named
  have hlocks := B.notSynchronized
  subst hsz
  have hD := hD0.self (sz := s.heap.size)
  generalize hAe : va_A ws s.heap.size = A at hD ⊢
  have hA : ∀ q : Nat, s.heap.size ≤ q → A q := fun q h => by rw [← hAe]; exact Or.inr h
  have hS : va_S A s.heap s.heap [] := va_S.rf
  have hl := lv_entry ([.ref h0, .int x0, .int x1, .int x2]) (n := 8) (Nat.le_of_ble_eq_true rfl)
  rw [lg_entry_eq]
  generalize (lg_sl ([.ref h0, .int x0, .int x1, .int x2]) ++ List.replicate (8 - (lg_sl ([.ref h0, .int x0, .int x1, .int x2])).length) Slot.unset).toArray = ls at hl ⊢
  have hl : lv_has ls 8 [(0, .ref h0), (1, .int x0), (2, .int x1), (3, .int x2)] := hl
  have winX9 : ∀ w ∈ u_ws RX9 TX9 16, w ∈ wsX9_check := by decide +kernel
  refine lv_aload_n hx hb dX9_check_0 rfl (lv_at hl 0 rfl) ?_
  refine lv_iconst (v := 0) hx hb dX9_check_1 (by decide) ?_
  refine va_put (D := D) (ci := 9) (v := .int 0) (ty := .int) (C := RX9) (T := TX9) (N := 16) hx hb hts winX9 tyX9 tyX9_ok nmX9 hown hK hP hD hS 0 hk rfl 0 (by decide) (hts (.fieldLink RX9 39 "TapCapModel" "thrown" "I") (List.mem_of_getElem? (i := 1) rfl)) (fun _ h9 => h9) rfl (by decide +kernel) rfl rfl hlen dX9_check_2 (fun H locs hP hD hS => ?_)
  refine lv_aload_n hx hb dX9_check_5 rfl (lv_at hl 0 rfl) ?_
  refine lv_iload_n hx hb dX9_check_6 rfl (lv_at hl 1 rfl) ?_
  refine g_ki hK hD hS hA (va_runV (As := [.int x0]) (rest := []) ⟨hx, hb, hml, hown, hts⟩ (m_isCard l D tys (ws.set 0 (h0, .inr (9, (fs.set 0 (.int 0))))) H.size h0 (fs.set 0 (.int 0)) x0 (set_at (y := (h0, .inr (9, (fs.set 0 (.int 0))))) hk) (fs_6 hc)) (cwV 1 hts gX9_check_X9_isCard rfl rfl rfl (by decide +kernel) ⟨Nat.le_of_ble_eq_true rfl, Nat.le_of_ble_eq_true rfl⟩) (g_preV hK hP hD (ci := 9) (q0 := 0) rfl (set_at (y := (h0, .inr (9, (fs.set 0 (.int 0))))) hk)) rfl rfl hl.1 rfl (lv_room (Nat.le_of_ble_eq_true rfl)) dX9_check_7 ⟨Nat.le_of_ble_eq_true rfl, Nat.le_of_ble_eq_true rfl⟩) (fun H locs hP hD hS => ?_)
  refine lv_if_eq (tgt := 20) hx hb dX9_check_10 (by decide) (fun c_19 => ?_) (fun c_19 => ?_)
  · refine lv_aload_n hx hb dX9_check_20 rfl (lv_at hl 0 rfl) ?_
    refine lv_iconst (v := 1) hx hb dX9_check_21 (by decide) ?_
    refine g_ki hK hD hS hA (va_runV (As := [.int 1]) (rest := []) ⟨hx, hb, hml, hown, hts⟩ (m_no l D tys (ws.set 0 (h0, .inr (9, (fs.set 0 (.int 0))))) H.size h0 (fs.set 0 (.int 0)) 1 (set_at (y := (h0, .inr (9, (fs.set 0 (.int 0))))) hk) (fs_l hlen)) (cwV 1 hts gX9_check_X9_no rfl rfl rfl (by decide +kernel) ⟨Nat.le_of_ble_eq_true rfl, Nat.le_of_ble_eq_true rfl⟩) (g_preV hK hP hD (ci := 9) (q0 := 0) rfl (set_at (y := (h0, .inr (9, (fs.set 0 (.int 0))))) hk)) rfl rfl hl.1 rfl (lv_room (Nat.le_of_ble_eq_true rfl)) dX9_check_22 ⟨Nat.le_of_ble_eq_true rfl, Nat.le_of_ble_eq_true rfl⟩) (fun H locs hP hD hS => ?_)
    exact m_iret (w := 1) (set_at (y := (h0, .inr (9, ((fs.set 0 (.int 0)).set 0 (.int 1))))) (set_at (y := (h0, .inr (9, (fs.set 0 (.int 0))))) hk)) (fs_0 (fs_l hlen)) ⟨rfl, rfl⟩ hx hb hr rfl hlocks hP hD hS dX9_check_25 (Nat.le_of_ble_eq_true rfl) (Nat.le_of_ble_eq_true rfl)
  · exact absurd (by decide) c_19
set_option maxHeartbeats 4000000 in
set_option maxRecDepth 100000 in
theorem qm_wouldCost (l : Launch) (D : va_G) (tys : List (ClassId × FieldType)) (ws : va_W) (sz h0 : Nat) (fs : List Value) (x0 x1 x2 x3 x4 x5 : Int32) (hk : ws[0]? = some (h0, .inr (9, fs))) (hc : fs[6]? = some (.int 0)) (hlen : 0 < fs.length) : Met l yX9_wouldCost wsX9_wouldCost ({ frames := 6, cells := 0, slots := 0, locals := 220 } : Room) (g_P D tys ws [.ref h0, .int x0, .int x1, .int x2, .int x3, .int x4, .int x5] sz) (m_Qi D (va_A ws sz) h0 (fun r t => r = 0 ∧ t = 1)) 0 0 (va_A ws sz) := by
  refine Met.ofW (cc := cX9_wouldCost) (maxL := 10) (ret := (some .int)) (by decide) rfl ?_
  intro p e s m args below meth c9 s₁ B hml hv
  obtain ⟨rfl, hsz, hP, hK, hD0⟩ := hv
  have hx := B.exec
  have hb := B.bytes
  have hr := B.returns
  have hts := atoms_spec (ws := wsX9_wouldCost) B.pre
  have hown : s.vm.findClass RX9 = some m.cls := findClass_of_methodNamed B.named
  have hlocks := B.notSynchronized
  subst hsz
  have hD := hD0.self (sz := s.heap.size)
  generalize hAe : va_A ws s.heap.size = A at hD ⊢
  have hA : ∀ q : Nat, s.heap.size ≤ q → A q := fun q h => by rw [← hAe]; exact Or.inr h
  have hS : va_S A s.heap s.heap [] := va_S.rf
  have hl := lv_entry ([.ref h0, .int x0, .int x1, .int x2, .int x3, .int x4, .int x5]) (n := 10) (Nat.le_of_ble_eq_true rfl)
  rw [lg_entry_eq]
  generalize (lg_sl ([.ref h0, .int x0, .int x1, .int x2, .int x3, .int x4, .int x5]) ++ List.replicate (10 - (lg_sl ([.ref h0, .int x0, .int x1, .int x2, .int x3, .int x4, .int x5])).length) Slot.unset).toArray = ls at hl ⊢
  have hl : lv_has ls 10 [(0, .ref h0), (1, .int x0), (2, .int x1), (3, .int x2), (4, .int x3), (5, .int x4), (6, .int x5)] := hl
  have winX9 : ∀ w ∈ u_ws RX9 TX9 16, w ∈ wsX9_wouldCost := by decide +kernel
  refine lv_aload_n hx hb dX9_wouldCost_0 rfl (lv_at hl 0 rfl) ?_
  refine lv_iconst (v := 0) hx hb dX9_wouldCost_1 (by decide) ?_
  refine va_put (D := D) (ci := 9) (v := .int 0) (ty := .int) (C := RX9) (T := TX9) (N := 16) hx hb hts winX9 tyX9 tyX9_ok nmX9 hown hK hP hD hS 0 hk rfl 0 (by decide) (hts (.fieldLink RX9 39 "TapCapModel" "thrown" "I") (List.mem_of_getElem? (i := 1) rfl)) (fun _ h9 => h9) rfl (by decide +kernel) rfl rfl hlen dX9_wouldCost_2 (fun H locs hP hD hS => ?_)
  refine lv_aload_n hx hb dX9_wouldCost_5 rfl (lv_at hl 0 rfl) ?_
  refine lv_iload_n hx hb dX9_wouldCost_6 rfl (lv_at hl 1 rfl) ?_
  refine lv_iload_n hx hb dX9_wouldCost_7 rfl (lv_at hl 2 rfl) ?_
  refine lv_iload_n hx hb dX9_wouldCost_8 rfl (lv_at hl 3 rfl) ?_
  refine lv_iload hx hb dX9_wouldCost_9 (lv_at hl 5 rfl) ?_
  refine g_ki hK hD hS hA (va_runV (As := [.int x0, .int x1, .int x2, .int x4]) (rest := []) ⟨hx, hb, hml, hown, hts⟩ (m_isPlace l D tys (ws.set 0 (h0, .inr (9, (fs.set 0 (.int 0))))) H.size h0 (fs.set 0 (.int 0)) x0 x1 x2 x4 (set_at (y := (h0, .inr (9, (fs.set 0 (.int 0))))) hk) (fs_6 hc)) (cwV 4 hts gX9_wouldCost_X9_isPlace rfl rfl rfl (by decide +kernel) ⟨Nat.le_of_ble_eq_true rfl, Nat.le_of_ble_eq_true rfl⟩) (g_preV hK hP hD (ci := 9) (q0 := 0) rfl (set_at (y := (h0, .inr (9, (fs.set 0 (.int 0))))) hk)) rfl rfl hl.1 rfl (lv_room (Nat.le_of_ble_eq_true rfl)) dX9_wouldCost_11 ⟨Nat.le_of_ble_eq_true rfl, Nat.le_of_ble_eq_true rfl⟩) (fun H locs hP hD hS => ?_)
  refine lv_if_ne (tgt := 23) hx hb dX9_wouldCost_14 (by decide) (fun c_20 => ?_) (fun c_20 => ?_)
  · exact absurd rfl c_20
  · refine lv_aload_n hx hb dX9_wouldCost_17 rfl (lv_at hl 0 rfl) ?_
    refine lv_iconst (v := 1) hx hb dX9_wouldCost_18 (by decide) ?_
    refine g_ki hK hD hS hA (va_runV (As := [.int 1]) (rest := []) ⟨hx, hb, hml, hown, hts⟩ (m_no l D tys (ws.set 0 (h0, .inr (9, (fs.set 0 (.int 0))))) H.size h0 (fs.set 0 (.int 0)) 1 (set_at (y := (h0, .inr (9, (fs.set 0 (.int 0))))) hk) (fs_l hlen)) (cwV 1 hts gX9_wouldCost_X9_no rfl rfl rfl (by decide +kernel) ⟨Nat.le_of_ble_eq_true rfl, Nat.le_of_ble_eq_true rfl⟩) (g_preV hK hP hD (ci := 9) (q0 := 0) rfl (set_at (y := (h0, .inr (9, (fs.set 0 (.int 0))))) hk)) rfl rfl hl.1 rfl (lv_room (Nat.le_of_ble_eq_true rfl)) dX9_wouldCost_19 ⟨Nat.le_of_ble_eq_true rfl, Nat.le_of_ble_eq_true rfl⟩) (fun H locs hP hD hS => ?_)
    exact m_iret (w := 1) (set_at (y := (h0, .inr (9, ((fs.set 0 (.int 0)).set 0 (.int 1))))) (set_at (y := (h0, .inr (9, (fs.set 0 (.int 0))))) hk)) (fs_0 (fs_l hlen)) ⟨rfl, rfl⟩ hx hb hr rfl hlocks hP hD hS dX9_wouldCost_22 (Nat.le_of_ble_eq_true rfl) (Nat.le_of_ble_eq_true rfl)
set_option maxHeartbeats 4000000 in
set_option maxRecDepth 100000 in
theorem qm_guess (l : Launch) (D : va_G) (tys : List (ClassId × FieldType)) (ws : va_W) (sz h0 : Nat) (fs : List Value) (x0 x1 x2 x3 : Int32) (hk : ws[0]? = some (h0, .inr (9, fs))) (hc : fs[6]? = some (.int 0)) (hlen : 0 < fs.length) : Met l yX9_guess_ wsX9_guess_ ({ frames := 6, cells := 0, slots := 0, locals := 220 } : Room) (g_P D tys ws [.ref h0, .int x0, .int x1, .int x2, .int x3] sz) (m_Qi D (va_A ws sz) h0 (fun r t => r = 0 ∧ t = 1)) 0 0 (va_A ws sz) := by
  refine Met.ofW (cc := cX9_guess_) (maxL := 5) (ret := (some .int)) (by decide) rfl ?_
  intro p e s m args below meth c9 s₁ B hml hv
  obtain ⟨rfl, hsz, hP, hK, hD0⟩ := hv
  have hx := B.exec
  have hb := B.bytes
  have hr := B.returns
  have hts := atoms_spec (ws := wsX9_guess_) B.pre
  have hown : s.vm.findClass RX9 = some m.cls := findClass_of_methodNamed B.named
  have hlocks := B.notSynchronized
  subst hsz
  have hD := hD0.self (sz := s.heap.size)
  generalize hAe : va_A ws s.heap.size = A at hD ⊢
  have hA : ∀ q : Nat, s.heap.size ≤ q → A q := fun q h => by rw [← hAe]; exact Or.inr h
  have hS : va_S A s.heap s.heap [] := va_S.rf
  have hl := lv_entry ([.ref h0, .int x0, .int x1, .int x2, .int x3]) (n := 5) (Nat.le_of_ble_eq_true rfl)
  rw [lg_entry_eq]
  generalize (lg_sl ([.ref h0, .int x0, .int x1, .int x2, .int x3]) ++ List.replicate (5 - (lg_sl ([.ref h0, .int x0, .int x1, .int x2, .int x3])).length) Slot.unset).toArray = ls at hl ⊢
  have hl : lv_has ls 5 [(0, .ref h0), (1, .int x0), (2, .int x1), (3, .int x2), (4, .int x3)] := hl
  have winX9 : ∀ w ∈ u_ws RX9 TX9 16, w ∈ wsX9_guess_ := by decide +kernel
  refine lv_aload_n hx hb dX9_guess__0 rfl (lv_at hl 0 rfl) ?_
  refine lv_iconst (v := 0) hx hb dX9_guess__1 (by decide) ?_
  refine va_put (D := D) (ci := 9) (v := .int 0) (ty := .int) (C := RX9) (T := TX9) (N := 16) hx hb hts winX9 tyX9 tyX9_ok nmX9 hown hK hP hD hS 0 hk rfl 0 (by decide) (hts (.fieldLink RX9 39 "TapCapModel" "thrown" "I") (List.mem_of_getElem? (i := 1) rfl)) (fun _ h9 => h9) rfl (by decide +kernel) rfl rfl hlen dX9_guess__2 (fun H locs hP hD hS => ?_)
  refine lv_aload_n hx hb dX9_guess__5 rfl (lv_at hl 0 rfl) ?_
  refine lv_iload_n hx hb dX9_guess__6 rfl (lv_at hl 1 rfl) ?_
  refine g_ki hK hD hS hA (va_runV (As := [.int x0]) (rest := []) ⟨hx, hb, hml, hown, hts⟩ (m_isPerson l D tys (ws.set 0 (h0, .inr (9, (fs.set 0 (.int 0))))) H.size h0 (fs.set 0 (.int 0)) x0 (set_at (y := (h0, .inr (9, (fs.set 0 (.int 0))))) hk) (fs_6 hc)) (cwV 1 hts gX9_guess__X9_isPerson rfl rfl rfl (by decide +kernel) ⟨Nat.le_of_ble_eq_true rfl, Nat.le_of_ble_eq_true rfl⟩) (g_preV hK hP hD (ci := 9) (q0 := 0) rfl (set_at (y := (h0, .inr (9, (fs.set 0 (.int 0))))) hk)) rfl rfl hl.1 rfl (lv_room (Nat.le_of_ble_eq_true rfl)) dX9_guess__7 ⟨Nat.le_of_ble_eq_true rfl, Nat.le_of_ble_eq_true rfl⟩) (fun H locs hP hD hS => ?_)
  refine lv_if_eq (tgt := 30) hx hb dX9_guess__10 (by decide) (fun c_21 => ?_) (fun c_21 => ?_)
  · refine lv_aload_n hx hb dX9_guess__30 rfl (lv_at hl 0 rfl) ?_
    refine lv_iconst (v := 1) hx hb dX9_guess__31 (by decide) ?_
    refine g_ki hK hD hS hA (va_runV (As := [.int 1]) (rest := []) ⟨hx, hb, hml, hown, hts⟩ (m_no l D tys (ws.set 0 (h0, .inr (9, (fs.set 0 (.int 0))))) H.size h0 (fs.set 0 (.int 0)) 1 (set_at (y := (h0, .inr (9, (fs.set 0 (.int 0))))) hk) (fs_l hlen)) (cwV 1 hts gX9_guess__X9_no rfl rfl rfl (by decide +kernel) ⟨Nat.le_of_ble_eq_true rfl, Nat.le_of_ble_eq_true rfl⟩) (g_preV hK hP hD (ci := 9) (q0 := 0) rfl (set_at (y := (h0, .inr (9, (fs.set 0 (.int 0))))) hk)) rfl rfl hl.1 rfl (lv_room (Nat.le_of_ble_eq_true rfl)) dX9_guess__32 ⟨Nat.le_of_ble_eq_true rfl, Nat.le_of_ble_eq_true rfl⟩) (fun H locs hP hD hS => ?_)
    exact m_iret (w := 1) (set_at (y := (h0, .inr (9, ((fs.set 0 (.int 0)).set 0 (.int 1))))) (set_at (y := (h0, .inr (9, (fs.set 0 (.int 0))))) hk)) (fs_0 (fs_l hlen)) ⟨rfl, rfl⟩ hx hb hr rfl hlocks hP hD hS dX9_guess__35 (Nat.le_of_ble_eq_true rfl) (Nat.le_of_ble_eq_true rfl)
  · exact absurd (by decide) c_21
set_option maxHeartbeats 4000000 in
set_option maxRecDepth 100000 in
theorem qm_worth (l : Launch) (D : va_G) (tys : List (ClassId × FieldType)) (ws : va_W) (sz h0 : Nat) (fs : List Value) (x0 x1 x2 : Int32) (hk : ws[0]? = some (h0, .inr (9, fs))) (hc : fs[6]? = some (.int 0)) (hlen : 0 < fs.length) : Met l yX9_worth wsX9_worth ({ frames := 6, cells := 0, slots := 0, locals := 220 } : Room) (g_P D tys ws [.ref h0, .int x0, .int x1, .int x2] sz) (m_Qi D (va_A ws sz) h0 (fun r t => r = 0 ∧ t = 1)) 0 0 (va_A ws sz) := by
  refine Met.ofW (cc := cX9_worth) (maxL := 4) (ret := (some .int)) (by decide) rfl ?_
  intro p e s m args below meth c9 s₁ B hml hv
  obtain ⟨rfl, hsz, hP, hK, hD0⟩ := hv
  have hx := B.exec
  have hb := B.bytes
  have hr := B.returns
  have hts := atoms_spec (ws := wsX9_worth) B.pre
  have hown : s.vm.findClass RX9 = some m.cls := findClass_of_methodNamed B.named
  have hlocks := B.notSynchronized
  subst hsz
  have hD := hD0.self (sz := s.heap.size)
  generalize hAe : va_A ws s.heap.size = A at hD ⊢
  have hA : ∀ q : Nat, s.heap.size ≤ q → A q := fun q h => by rw [← hAe]; exact Or.inr h
  have hS : va_S A s.heap s.heap [] := va_S.rf
  have hl := lv_entry ([.ref h0, .int x0, .int x1, .int x2]) (n := 4) (Nat.le_of_ble_eq_true rfl)
  rw [lg_entry_eq]
  generalize (lg_sl ([.ref h0, .int x0, .int x1, .int x2]) ++ List.replicate (4 - (lg_sl ([.ref h0, .int x0, .int x1, .int x2])).length) Slot.unset).toArray = ls at hl ⊢
  have hl : lv_has ls 4 [(0, .ref h0), (1, .int x0), (2, .int x1), (3, .int x2)] := hl
  have winX9 : ∀ w ∈ u_ws RX9 TX9 16, w ∈ wsX9_worth := by decide +kernel
  refine lv_aload_n hx hb dX9_worth_0 rfl (lv_at hl 0 rfl) ?_
  refine lv_iconst (v := 0) hx hb dX9_worth_1 (by decide) ?_
  refine va_put (D := D) (ci := 9) (v := .int 0) (ty := .int) (C := RX9) (T := TX9) (N := 16) hx hb hts winX9 tyX9 tyX9_ok nmX9 hown hK hP hD hS 0 hk rfl 0 (by decide) (hts (.fieldLink RX9 39 "TapCapModel" "thrown" "I") (List.mem_of_getElem? (i := 1) rfl)) (fun _ h9 => h9) rfl (by decide +kernel) rfl rfl hlen dX9_worth_2 (fun H locs hP hD hS => ?_)
  refine lv_aload_n hx hb dX9_worth_5 rfl (lv_at hl 0 rfl) ?_
  refine lv_iload_n hx hb dX9_worth_6 rfl (lv_at hl 1 rfl) ?_
  refine g_ki hK hD hS hA (va_runV (As := [.int x0]) (rest := []) ⟨hx, hb, hml, hown, hts⟩ (m_isPerson l D tys (ws.set 0 (h0, .inr (9, (fs.set 0 (.int 0))))) H.size h0 (fs.set 0 (.int 0)) x0 (set_at (y := (h0, .inr (9, (fs.set 0 (.int 0))))) hk) (fs_6 hc)) (cwV 1 hts gX9_worth_X9_isPerson rfl rfl rfl (by decide +kernel) ⟨Nat.le_of_ble_eq_true rfl, Nat.le_of_ble_eq_true rfl⟩) (g_preV hK hP hD (ci := 9) (q0 := 0) rfl (set_at (y := (h0, .inr (9, (fs.set 0 (.int 0))))) hk)) rfl rfl hl.1 rfl (lv_room (Nat.le_of_ble_eq_true rfl)) dX9_worth_7 ⟨Nat.le_of_ble_eq_true rfl, Nat.le_of_ble_eq_true rfl⟩) (fun H locs hP hD hS => ?_)
  refine lv_if_eq (tgt := 22) hx hb dX9_worth_10 (by decide) (fun c_22 => ?_) (fun c_22 => ?_)
  · refine lv_aload_n hx hb dX9_worth_22 rfl (lv_at hl 0 rfl) ?_
    refine lv_iconst (v := 1) hx hb dX9_worth_23 (by decide) ?_
    refine g_ki hK hD hS hA (va_runV (As := [.int 1]) (rest := []) ⟨hx, hb, hml, hown, hts⟩ (m_no l D tys (ws.set 0 (h0, .inr (9, (fs.set 0 (.int 0))))) H.size h0 (fs.set 0 (.int 0)) 1 (set_at (y := (h0, .inr (9, (fs.set 0 (.int 0))))) hk) (fs_l hlen)) (cwV 1 hts gX9_worth_X9_no rfl rfl rfl (by decide +kernel) ⟨Nat.le_of_ble_eq_true rfl, Nat.le_of_ble_eq_true rfl⟩) (g_preV hK hP hD (ci := 9) (q0 := 0) rfl (set_at (y := (h0, .inr (9, (fs.set 0 (.int 0))))) hk)) rfl rfl hl.1 rfl (lv_room (Nat.le_of_ble_eq_true rfl)) dX9_worth_24 ⟨Nat.le_of_ble_eq_true rfl, Nat.le_of_ble_eq_true rfl⟩) (fun H locs hP hD hS => ?_)
    exact m_iret (w := 1) (set_at (y := (h0, .inr (9, ((fs.set 0 (.int 0)).set 0 (.int 1))))) (set_at (y := (h0, .inr (9, (fs.set 0 (.int 0))))) hk)) (fs_0 (fs_l hlen)) ⟨rfl, rfl⟩ hx hb hr rfl hlocks hP hD hS dX9_worth_27 (Nat.le_of_ble_eq_true rfl) (Nat.le_of_ble_eq_true rfl)
  · exact absurd (by decide) c_22
