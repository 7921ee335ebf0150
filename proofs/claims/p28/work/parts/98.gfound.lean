/-! found -/
theorem tW_scP {ad : Nat → Nat} {o9 : Nat} {y : tA} {b : Nat} {cI cO : ClassId} {g : tG} {dr : Nat} {cd c' : Int32} {nf n : Nat} {D : va_G} {H : Heap} (h : va_P D vwCl ((tW ad o9 y b cI cO g dr cd nf n).set 98 (o9, .inr (9, (tFs ad y b dr cd).set 7 (.int c')))) H) : va_P D vwCl (tW ad o9 y b cI cO g dr c' nf n) H := h
theorem tW_scD {ad : Nat → Nat} {o9 : Nat} {y : tA} {b : Nat} {cI cO : ClassId} {g : tG} {dr : Nat} {cd c' : Int32} {nf n : Nat} {A : Nat → Prop} (h : va_D A ((tW ad o9 y b cI cO g dr cd nf n).set 98 (o9, .inr (9, (tFs ad y b dr cd).set 7 (.int c'))))) : va_D A (tW ad o9 y b cI cO g dr c' nf n) := h

set_option maxHeartbeats 4000000 in
set_option maxRecDepth 100000 in
theorem kX9_found (l : Launch) (D : va_G) (sz b L : Nat) (xs : Nat → Int32) (ad : Nat → Nat) (o9 : Nat) (y : tA) (cI cO : ClassId) (dr : Nat) (hdr : dr < 2 ^ 10) (hL : L < 2 ^ 20) : Met l yX9_found wsX9_found ({ frames := 6, cells := 220, slots := 3908, locals := 230 } : Room) (s_P D (tY_T cI cO) (tW ad o9 y b cI cO tc_0 dr 0 1 0) [.ref o9, .int 6] sz b L xs) (t_Qy D (tY_T cI cO) (va_A (tW ad o9 y b cI cO tc_0 dr 0 1 0) sz) (fun u => tV ad o9 u b cI cO (foundF xs L dr) 3 3) 1) 220 3908 (va_A (tW ad o9 y b cI cO tc_0 dr 0 1 0) sz) := by
  refine Met.ofW (cc := cX9_found) (maxL := 3) (ret := (some .boolean)) (by decide) rfl ?_
  intro p e s m args below meth c9 s₁ B hml hv
  obtain ⟨rfl, hN, hX, hbl, hbA, hsz, hP, hK, hD0⟩ := hv
  have hx := B.exec
  have hb := B.bytes
  have hr := B.returns
  have hts := atoms_spec (ws := wsX9_found) B.pre
  have hown : s.vm.findClass RX9 = some m.cls := findClass_of_methodNamed B.named
  have hlocks := B.notSynchronized
  subst hsz
  have hD := hD0.self (sz := s.heap.size)
  generalize hAe : va_A (tW ad o9 y b cI cO tc_0 dr 0 1 0) s.heap.size = A at hD hbA ⊢
  have hA : ∀ q : Nat, s.heap.size ≤ q → A q := fun q h => by rw [← hAe]; exact Or.inr h
  have hS : va_S A s.heap s.heap [] := va_S.rf
  have hl := lv_entry ([.ref o9, .int 6]) (n := 3) (Nat.le_of_ble_eq_true rfl)
  rw [lg_entry_eq]
  generalize (lg_sl ([.ref o9, .int 6]) ++ List.replicate (3 - (lg_sl ([.ref o9, .int 6])).length) Slot.unset).toArray = ls at hl ⊢
  have hl : lv_has ls 3 [(0, .ref o9), (1, .int 6)] := hl
  have winX9 : ∀ w ∈ u_ws RX9 TX9 9, w ∈ wsX9_found := by decide +kernel
  have st0 := STG_0
  refine lv_iconst (v := 0) hx hb dX9_found_0 (by decide) ?_
  refine lv_istore_n (lv' := [(2, .int 0), (0, .ref o9), (1, .int 6)]) hx hb dX9_found_1 rfl hl (by decide) rfl (fun ls hl => ?_)
  refine lv_iload_n hx hb dX9_found_2 rfl (lv_at hl 0 rfl) ?_
  refine lv_iconst (v := 3) hx hb dX9_found_3 (by decide) ?_
  refine lv_icmp_ge (tgt := 36) hx hb dX9_found_4 (by decide) (fun c9 => absurd c9 (by decide)) (fun c9 => ?_)
  refine lv_aload_n hx hb dX9_found_7 rfl (lv_at hl 1 rfl) ?_
  refine va_get (D := D) (ci := 9) (v := .ref (ad 0)) (C := RX9) (T := TX9) (N := 9) hx hb hts winX9 hown hK hP 98 rfl rfl 0 (by decide) (hts (.fieldLink RX9 10 "TapCapLaw$Told" "m" "LTapCap;") (List.mem_of_getElem? (i := 1) rfl)) (fun _ h9 => h9) rfl dX9_found_8 ?_
  obtain ⟨r1, st1, r3⟩ := card_step st0 (by decide)
  have hP : va_P D vwCl (tcW ad cI tc_0 ++ tX ad o9 y b cI cO tc_0 dr 0 1 0) s.heap := hP
  have hD : va_D A (tcW ad cI tc_0 ++ tX ad o9 y b cI cO tc_0 dr 0 1 0) := hD
  have hK8 := hK.sub (tys' := [(cI, .int)]) [0] rfl
  refine t_ki hP hD hS hA (va_runV (As := []) (rest := []) ⟨hx, hb, hml, hown, hts⟩ (kX8_card l D ad cI tc_0 s.heap.size (by rw [st0.1]; decide)) (cwV 0 hts gX9_found_X8_card rfl rfl rfl (by decide +kernel) ⟨Nat.le_of_ble_eq_true rfl, Nat.le_of_ble_eq_true rfl⟩) (g_preV hK8 (pre_P hP) (pre_D hD) (ci := 8) (q0 := 0) rfl rfl) rfl rfl hl.1 rfl (lv_room (Nat.le_of_ble_eq_true rfl)) dX9_found_11 ⟨Nat.le_of_ble_eq_true rfl, Nat.le_of_ble_eq_true rfl⟩) (fun H locs hP hD hS => ?_)
  rw [tX_step (r3 0 (by decide) (by decide)) (fun w hw i _ => by rw [r3 (3 + w) (by omega) (by omega)]) (fun w hw i _ => by rw [r3 (13 + w) (by omega) (by omega)])] at hP hD
  rw [r1]
  obtain ⟨g1, f1⟩ : ∃ z, z = fX8_card_w tc_0 := ⟨_, rfl⟩
  rw [← f1] at hP hD st1
  refine lv_aload_n hx hb dX9_found_14 rfl (lv_at hl 1 rfl) ?_
  refine lv_dup hx hb dX9_found_15 rfl ?_
  refine va_get (D := D) (ci := 9) (v := .int 0) (C := RX9) (T := TX9) (N := 9) hx hb hts winX9 hown hK hP 98 rfl rfl 7 (by decide) (hts (.fieldLink RX9 87 "TapCapLaw$Told" "cards" "I") (List.mem_of_getElem? (i := 2) rfl)) (fun _ h9 => h9) rfl dX9_found_16 ?_
  refine lv_dup_x1 hx hb dX9_found_19 rfl rfl ?_
  refine lv_iconst (v := 1) hx hb dX9_found_20 (by decide) ?_
  refine lv_iadd hx hb dX9_found_21 ?_
  rw [show (0 : Int32) + 1 = 1 from rfl]
  refine va_put (D := D) (ci := 9) (v := .int 1) (ty := .int) (C := RX9) (T := TX9) (N := 9) hx hb hts winX9 tyX9 tyX9_ok nmX9 hown hK hP hD hS 98 rfl rfl 7 (by decide) (hts (.fieldLink RX9 87 "TapCapLaw$Told" "cards" "I") (List.mem_of_getElem? (i := 2) rfl)) (fun _ h9 => h9) rfl (by decide +kernel) rfl rfl (Nat.le_of_ble_eq_true rfl) dX9_found_22 (fun H locs hP hD hS => ?_)
  have hP := tW_scP hP
  have hD := tW_scD hD
  refine lv_icmp_eq (tgt := 30) hx hb dX9_found_25 (by decide) (fun c9 => ?_) (fun c9 => absurd rfl c9)
  refine lv_iinc (v := 1) (lv' := [(2, .int 1), (0, .ref o9), (1, .int 6)]) hx hb dX9_found_30 hl (k := 0) rfl (by decide) (by decide) rfl (fun ls hl => ?_)
  refine lv_goto (tgt := 2) hx hb dX9_found_33 (by decide) ?_
  refine lv_iload_n hx hb dX9_found_2 rfl (lv_at hl 0 rfl) ?_
  refine lv_iconst (v := 3) hx hb dX9_found_3 (by decide) ?_
  refine lv_icmp_ge (tgt := 36) hx hb dX9_found_4 (by decide) (fun c9 => absurd c9 (by decide)) (fun c9 => ?_)
  refine lv_aload_n hx hb dX9_found_7 rfl (lv_at hl 1 rfl) ?_
  refine va_get (D := D) (ci := 9) (v := .ref (ad 0)) (C := RX9) (T := TX9) (N := 9) hx hb hts winX9 hown hK hP 98 rfl rfl 0 (by decide) (hts (.fieldLink RX9 10 "TapCapLaw$Told" "m" "LTapCap;") (List.mem_of_getElem? (i := 1) rfl)) (fun _ h9 => h9) rfl dX9_found_8 ?_
  obtain ⟨r1, st2, r3⟩ := card_step st1 (by decide)
  have hP : va_P D vwCl (tcW ad cI g1 ++ tX ad o9 y b cI cO g1 dr 1 1 0) H := hP
  have hD : va_D A (tcW ad cI g1 ++ tX ad o9 y b cI cO g1 dr 1 1 0) := hD
  have hK8 := hK.sub (tys' := [(cI, .int)]) [0] rfl
  refine t_ki hP hD hS hA (va_runV (As := []) (rest := []) ⟨hx, hb, hml, hown, hts⟩ (kX8_card l D ad cI g1 H.size (by rw [st1.1]; decide)) (cwV 0 hts gX9_found_X8_card rfl rfl rfl (by decide +kernel) ⟨Nat.le_of_ble_eq_true rfl, Nat.le_of_ble_eq_true rfl⟩) (g_preV hK8 (pre_P hP) (pre_D hD) (ci := 8) (q0 := 0) rfl rfl) rfl rfl hl.1 rfl (lv_room (Nat.le_of_ble_eq_true rfl)) dX9_found_11 ⟨Nat.le_of_ble_eq_true rfl, Nat.le_of_ble_eq_true rfl⟩) (fun H locs hP hD hS => ?_)
  rw [tX_step (r3 0 (by decide) (by decide)) (fun w hw i _ => by rw [r3 (3 + w) (by omega) (by omega)]) (fun w hw i _ => by rw [r3 (13 + w) (by omega) (by omega)])] at hP hD
  rw [r1]
  obtain ⟨g2, f2⟩ : ∃ z, z = fX8_card_w g1 := ⟨_, rfl⟩
  rw [← f2] at hP hD st2
  refine lv_aload_n hx hb dX9_found_14 rfl (lv_at hl 1 rfl) ?_
  refine lv_dup hx hb dX9_found_15 rfl ?_
  refine va_get (D := D) (ci := 9) (v := .int 1) (C := RX9) (T := TX9) (N := 9) hx hb hts winX9 hown hK hP 98 rfl rfl 7 (by decide) (hts (.fieldLink RX9 87 "TapCapLaw$Told" "cards" "I") (List.mem_of_getElem? (i := 2) rfl)) (fun _ h9 => h9) rfl dX9_found_16 ?_
  refine lv_dup_x1 hx hb dX9_found_19 rfl rfl ?_
  refine lv_iconst (v := 1) hx hb dX9_found_20 (by decide) ?_
  refine lv_iadd hx hb dX9_found_21 ?_
  rw [show (1 : Int32) + 1 = 2 from rfl]
  refine va_put (D := D) (ci := 9) (v := .int 2) (ty := .int) (C := RX9) (T := TX9) (N := 9) hx hb hts winX9 tyX9 tyX9_ok nmX9 hown hK hP hD hS 98 rfl rfl 7 (by decide) (hts (.fieldLink RX9 87 "TapCapLaw$Told" "cards" "I") (List.mem_of_getElem? (i := 2) rfl)) (fun _ h9 => h9) rfl (by decide +kernel) rfl rfl (Nat.le_of_ble_eq_true rfl) dX9_found_22 (fun H locs hP hD hS => ?_)
  have hP := tW_scP hP
  have hD := tW_scD hD
  refine lv_icmp_eq (tgt := 30) hx hb dX9_found_25 (by decide) (fun c9 => ?_) (fun c9 => absurd rfl c9)
  refine lv_iinc (v := 2) (lv' := [(2, .int 2), (0, .ref o9), (1, .int 6)]) hx hb dX9_found_30 hl (k := 0) rfl (by decide) (by decide) rfl (fun ls hl => ?_)
  refine lv_goto (tgt := 2) hx hb dX9_found_33 (by decide) ?_
  refine lv_iload_n hx hb dX9_found_2 rfl (lv_at hl 0 rfl) ?_
  refine lv_iconst (v := 3) hx hb dX9_found_3 (by decide) ?_
  refine lv_icmp_ge (tgt := 36) hx hb dX9_found_4 (by decide) (fun c9 => absurd c9 (by decide)) (fun c9 => ?_)
  refine lv_aload_n hx hb dX9_found_7 rfl (lv_at hl 1 rfl) ?_
  refine va_get (D := D) (ci := 9) (v := .ref (ad 0)) (C := RX9) (T := TX9) (N := 9) hx hb hts winX9 hown hK hP 98 rfl rfl 0 (by decide) (hts (.fieldLink RX9 10 "TapCapLaw$Told" "m" "LTapCap;") (List.mem_of_getElem? (i := 1) rfl)) (fun _ h9 => h9) rfl dX9_found_8 ?_
  obtain ⟨r1, st3, r3⟩ := card_step st2 (by decide)
  have hP : va_P D vwCl (tcW ad cI g2 ++ tX ad o9 y b cI cO g2 dr 2 1 0) H := hP
  have hD : va_D A (tcW ad cI g2 ++ tX ad o9 y b cI cO g2 dr 2 1 0) := hD
  have hK8 := hK.sub (tys' := [(cI, .int)]) [0] rfl
  refine t_ki hP hD hS hA (va_runV (As := []) (rest := []) ⟨hx, hb, hml, hown, hts⟩ (kX8_card l D ad cI g2 H.size (by rw [st2.1]; decide)) (cwV 0 hts gX9_found_X8_card rfl rfl rfl (by decide +kernel) ⟨Nat.le_of_ble_eq_true rfl, Nat.le_of_ble_eq_true rfl⟩) (g_preV hK8 (pre_P hP) (pre_D hD) (ci := 8) (q0 := 0) rfl rfl) rfl rfl hl.1 rfl (lv_room (Nat.le_of_ble_eq_true rfl)) dX9_found_11 ⟨Nat.le_of_ble_eq_true rfl, Nat.le_of_ble_eq_true rfl⟩) (fun H locs hP hD hS => ?_)
  rw [tX_step (r3 0 (by decide) (by decide)) (fun w hw i _ => by rw [r3 (3 + w) (by omega) (by omega)]) (fun w hw i _ => by rw [r3 (13 + w) (by omega) (by omega)])] at hP hD
  rw [r1]
  obtain ⟨g3, f3⟩ : ∃ z, z = fX8_card_w g2 := ⟨_, rfl⟩
  rw [← f3] at hP hD st3
  refine lv_aload_n hx hb dX9_found_14 rfl (lv_at hl 1 rfl) ?_
  refine lv_dup hx hb dX9_found_15 rfl ?_
  refine va_get (D := D) (ci := 9) (v := .int 2) (C := RX9) (T := TX9) (N := 9) hx hb hts winX9 hown hK hP 98 rfl rfl 7 (by decide) (hts (.fieldLink RX9 87 "TapCapLaw$Told" "cards" "I") (List.mem_of_getElem? (i := 2) rfl)) (fun _ h9 => h9) rfl dX9_found_16 ?_
  refine lv_dup_x1 hx hb dX9_found_19 rfl rfl ?_
  refine lv_iconst (v := 1) hx hb dX9_found_20 (by decide) ?_
  refine lv_iadd hx hb dX9_found_21 ?_
  rw [show (2 : Int32) + 1 = 3 from rfl]
  refine va_put (D := D) (ci := 9) (v := .int 3) (ty := .int) (C := RX9) (T := TX9) (N := 9) hx hb hts winX9 tyX9 tyX9_ok nmX9 hown hK hP hD hS 98 rfl rfl 7 (by decide) (hts (.fieldLink RX9 87 "TapCapLaw$Told" "cards" "I") (List.mem_of_getElem? (i := 2) rfl)) (fun _ h9 => h9) rfl (by decide +kernel) rfl rfl (Nat.le_of_ble_eq_true rfl) dX9_found_22 (fun H locs hP hD hS => ?_)
  have hP := tW_scP hP
  have hD := tW_scD hD
  refine lv_icmp_eq (tgt := 30) hx hb dX9_found_25 (by decide) (fun c9 => ?_) (fun c9 => absurd rfl c9)
  refine lv_iinc (v := 3) (lv' := [(2, .int 3), (0, .ref o9), (1, .int 6)]) hx hb dX9_found_30 hl (k := 0) rfl (by decide) (by decide) rfl (fun ls hl => ?_)
  refine lv_goto (tgt := 2) hx hb dX9_found_33 (by decide) ?_
  refine lv_iload_n hx hb dX9_found_2 rfl (lv_at hl 0 rfl) ?_
  refine lv_iconst (v := 3) hx hb dX9_found_3 (by decide) ?_
  refine lv_icmp_ge (tgt := 36) hx hb dX9_found_4 (by decide) (fun c9 => ?_) (fun c9 => absurd (by decide) c9)
  obtain ⟨τ0, t0⟩ : ∃ z : tG × Nat, z = (g3, dr) := ⟨_, rfl⟩
  have hP : va_P D vwCl (tW ad o9 y b cI cO τ0.1 τ0.2 3 1 0) H := by rw [t0]; exact hP
  have hD : va_D A (tW ad o9 y b cI cO τ0.1 τ0.2 3 1 0) := by rw [t0]; exact hD
  have q0 : STG τ0.1 3 1 := by rw [t0]; exact st3
  have d0 : τ0.2 = dr := by rw [t0]
  refine lv_iconst (v := 0) hx hb dX9_found_36 (by decide) ?_
  refine lv_istore_n (lv' := [(2, .int 0), (0, .ref o9), (1, .int 6)]) hx hb dX9_found_37 rfl hl (by decide) rfl (fun ls hl => ?_)
  refine lv_iload_n hx hb dX9_found_38 rfl (lv_at hl 0 rfl) ?_
  refine lv_iconst (v := 4) hx hb dX9_found_39 (by decide) ?_
  refine lv_icmp_ge (tgt := 70) hx hb dX9_found_40 (by decide) (fun c9 => absurd c9 (by decide)) (fun c9 => ?_)
  refine lv_aload_n hx hb dX9_found_43 rfl (lv_at hl 1 rfl) ?_
  refine lv_aload_n hx hb dX9_found_44 rfl (lv_at hl 1 rfl) ?_
  refine lv_iconst (v := 5) hx hb dX9_found_45 (by decide) ?_
  refine g_ki hK hD hS hA (va_runV (As := [.int (nI 5)]) (rest := [.ref o9]) ⟨hx, hb, hml, hown, hts⟩ (kX9_draw l D H.size b L xs ad o9 y cI cO τ0.1 τ0.2 3 1 0 5 (by decide) (by decide) (by omega) hL) (cwV 1 hts gX9_found_X9_draw rfl rfl rfl (by decide +kernel) ⟨Nat.le_of_ble_eq_true rfl, Nat.le_of_ble_eq_true rfl⟩) (s_preV hN hX hbl hbA hS hA hK hP hD (ci := 9) (q0 := 98) rfl rfl) rfl rfl hl.1 rfl (lv_room (Nat.le_of_ble_eq_true rfl)) dX9_found_46 ⟨Nat.le_of_ble_eq_true rfl, Nat.le_of_ble_eq_true rfl⟩) (fun H locs hP hD hS => ?_)
  obtain ⟨eu1, lu1⟩ := dN_is xs L (τ0.2) (m := 5) (by decide) (by decide)
  rw [eu1]
  refine lv_iconst (v := 1) hx hb dX9_found_49 (by decide) ?_
  refine lv_aload_n hx hb dX9_found_50 rfl (lv_at hl 1 rfl) ?_
  refine lv_iconst (v := 4) hx hb dX9_found_51 (by decide) ?_
  refine g_ki hK hD hS hA (va_runV (As := [.int (nI 4)]) (rest := [.int 1, .int (nI (dN xs L τ0.2 5)), .ref o9]) ⟨hx, hb, hml, hown, hts⟩ (kX9_draw l D H.size b L xs ad o9 y cI cO τ0.1 (τ0.2 + 1) 3 1 0 4 (by decide) (by decide) (by omega) hL) (cwV 1 hts gX9_found_X9_draw rfl rfl rfl (by decide +kernel) ⟨Nat.le_of_ble_eq_true rfl, Nat.le_of_ble_eq_true rfl⟩) (s_preV hN hX hbl hbA hS hA hK hP hD (ci := 9) (q0 := 98) rfl rfl) rfl rfl hl.1 rfl (lv_room (Nat.le_of_ble_eq_true rfl)) dX9_found_52 ⟨Nat.le_of_ble_eq_true rfl, Nat.le_of_ble_eq_true rfl⟩) (fun H locs hP hD hS => ?_)
  obtain ⟨eu2, lu2⟩ := dN_is xs L (τ0.2 + 1) (m := 4) (by decide) (by decide)
  rw [eu2]
  refine lv_iadd hx hb dX9_found_55 ?_
  rw [show (1 : Int32) + (nI (dN xs L (τ0.2 + 1) 4)) = nI (1 + (dN xs L (τ0.2 + 1) 4)) from nI_add _ _]
  refine g_ki hK hD hS hA (va_runV (As := [.int (nI (dN xs L τ0.2 5)), .int (nI (1 + dN xs L (τ0.2 + 1) 4))]) (rest := []) ⟨hx, hb, hml, hown, hts⟩ (kX9_zone l D H.size b ad o9 y cI cO τ0.1 (τ0.2 + 2) 3 1 0 (dN xs L τ0.2 5) (nI (1 + dN xs L (τ0.2 + 1) 4)) (by omega) (in_RI (a := 1) (b := 4) (by omega) (by omega) (by decide))) (cwV 2 hts gX9_found_X9_zone rfl rfl rfl (by decide +kernel) ⟨Nat.le_of_ble_eq_true rfl, Nat.le_of_ble_eq_true rfl⟩) (g_preV hK hP hD (ci := 9) (q0 := 98) rfl rfl) rfl rfl hl.1 rfl (lv_room (Nat.le_of_ble_eq_true rfl)) dX9_found_56 ⟨Nat.le_of_ble_eq_true rfl, Nat.le_of_ble_eq_true rfl⟩) (fun H locs hP hD hS => ?_)
  have q1 := zoneF_ok xs L q0
  obtain ⟨τ1, t1⟩ : ∃ z : tG × Nat, z = zoneF xs L τ0 := ⟨_, rfl⟩
  have hP : va_P D vwCl (tW ad o9 y b cI cO τ1.1 τ1.2 3 1 0) H := by rw [t1]; exact hP
  have hD : va_D A (tW ad o9 y b cI cO τ1.1 τ1.2 3 1 0) := by rw [t1]; exact hD
  rw [← t1] at q1
  have d1 := q1.2
  refine lv_if_ne (tgt := 64) hx hb dX9_found_59 (by decide) (fun c9 => ?_) (fun c9 => absurd c9 (by decide))
  refine lv_iinc (v := 1) (lv' := [(2, .int 1), (0, .ref o9), (1, .int 6)]) hx hb dX9_found_64 hl (k := 0) rfl (by decide) (by decide) rfl (fun ls hl => ?_)
  refine lv_goto (tgt := 38) hx hb dX9_found_67 (by decide) ?_
  refine lv_iload_n hx hb dX9_found_38 rfl (lv_at hl 0 rfl) ?_
  refine lv_iconst (v := 4) hx hb dX9_found_39 (by decide) ?_
  refine lv_icmp_ge (tgt := 70) hx hb dX9_found_40 (by decide) (fun c9 => absurd c9 (by decide)) (fun c9 => ?_)
  refine lv_aload_n hx hb dX9_found_43 rfl (lv_at hl 1 rfl) ?_
  refine lv_aload_n hx hb dX9_found_44 rfl (lv_at hl 1 rfl) ?_
  refine lv_iconst (v := 5) hx hb dX9_found_45 (by decide) ?_
  refine g_ki hK hD hS hA (va_runV (As := [.int (nI 5)]) (rest := [.ref o9]) ⟨hx, hb, hml, hown, hts⟩ (kX9_draw l D H.size b L xs ad o9 y cI cO τ1.1 τ1.2 3 1 0 5 (by decide) (by decide) (by omega) hL) (cwV 1 hts gX9_found_X9_draw rfl rfl rfl (by decide +kernel) ⟨Nat.le_of_ble_eq_true rfl, Nat.le_of_ble_eq_true rfl⟩) (s_preV hN hX hbl hbA hS hA hK hP hD (ci := 9) (q0 := 98) rfl rfl) rfl rfl hl.1 rfl (lv_room (Nat.le_of_ble_eq_true rfl)) dX9_found_46 ⟨Nat.le_of_ble_eq_true rfl, Nat.le_of_ble_eq_true rfl⟩) (fun H locs hP hD hS => ?_)
  obtain ⟨eu3, lu3⟩ := dN_is xs L (τ1.2) (m := 5) (by decide) (by decide)
  rw [eu3]
  refine lv_iconst (v := 1) hx hb dX9_found_49 (by decide) ?_
  refine lv_aload_n hx hb dX9_found_50 rfl (lv_at hl 1 rfl) ?_
  refine lv_iconst (v := 4) hx hb dX9_found_51 (by decide) ?_
  refine g_ki hK hD hS hA (va_runV (As := [.int (nI 4)]) (rest := [.int 1, .int (nI (dN xs L τ1.2 5)), .ref o9]) ⟨hx, hb, hml, hown, hts⟩ (kX9_draw l D H.size b L xs ad o9 y cI cO τ1.1 (τ1.2 + 1) 3 1 0 4 (by decide) (by decide) (by omega) hL) (cwV 1 hts gX9_found_X9_draw rfl rfl rfl (by decide +kernel) ⟨Nat.le_of_ble_eq_true rfl, Nat.le_of_ble_eq_true rfl⟩) (s_preV hN hX hbl hbA hS hA hK hP hD (ci := 9) (q0 := 98) rfl rfl) rfl rfl hl.1 rfl (lv_room (Nat.le_of_ble_eq_true rfl)) dX9_found_52 ⟨Nat.le_of_ble_eq_true rfl, Nat.le_of_ble_eq_true rfl⟩) (fun H locs hP hD hS => ?_)
  obtain ⟨eu4, lu4⟩ := dN_is xs L (τ1.2 + 1) (m := 4) (by decide) (by decide)
  rw [eu4]
  refine lv_iadd hx hb dX9_found_55 ?_
  rw [show (1 : Int32) + (nI (dN xs L (τ1.2 + 1) 4)) = nI (1 + (dN xs L (τ1.2 + 1) 4)) from nI_add _ _]
  refine g_ki hK hD hS hA (va_runV (As := [.int (nI (dN xs L τ1.2 5)), .int (nI (1 + dN xs L (τ1.2 + 1) 4))]) (rest := []) ⟨hx, hb, hml, hown, hts⟩ (kX9_zone l D H.size b ad o9 y cI cO τ1.1 (τ1.2 + 2) 3 1 0 (dN xs L τ1.2 5) (nI (1 + dN xs L (τ1.2 + 1) 4)) (by omega) (in_RI (a := 1) (b := 4) (by omega) (by omega) (by decide))) (cwV 2 hts gX9_found_X9_zone rfl rfl rfl (by decide +kernel) ⟨Nat.le_of_ble_eq_true rfl, Nat.le_of_ble_eq_true rfl⟩) (g_preV hK hP hD (ci := 9) (q0 := 98) rfl rfl) rfl rfl hl.1 rfl (lv_room (Nat.le_of_ble_eq_true rfl)) dX9_found_56 ⟨Nat.le_of_ble_eq_true rfl, Nat.le_of_ble_eq_true rfl⟩) (fun H locs hP hD hS => ?_)
  have q2 := zoneF_ok xs L q1.1
  obtain ⟨τ2, t2⟩ : ∃ z : tG × Nat, z = zoneF xs L τ1 := ⟨_, rfl⟩
  have hP : va_P D vwCl (tW ad o9 y b cI cO τ2.1 τ2.2 3 1 0) H := by rw [t2]; exact hP
  have hD : va_D A (tW ad o9 y b cI cO τ2.1 τ2.2 3 1 0) := by rw [t2]; exact hD
  rw [← t2] at q2
  have d2 := q2.2
  refine lv_if_ne (tgt := 64) hx hb dX9_found_59 (by decide) (fun c9 => ?_) (fun c9 => absurd c9 (by decide))
  refine lv_iinc (v := 2) (lv' := [(2, .int 2), (0, .ref o9), (1, .int 6)]) hx hb dX9_found_64 hl (k := 0) rfl (by decide) (by decide) rfl (fun ls hl => ?_)
  refine lv_goto (tgt := 38) hx hb dX9_found_67 (by decide) ?_
  refine lv_iload_n hx hb dX9_found_38 rfl (lv_at hl 0 rfl) ?_
  refine lv_iconst (v := 4) hx hb dX9_found_39 (by decide) ?_
  refine lv_icmp_ge (tgt := 70) hx hb dX9_found_40 (by decide) (fun c9 => absurd c9 (by decide)) (fun c9 => ?_)
  refine lv_aload_n hx hb dX9_found_43 rfl (lv_at hl 1 rfl) ?_
  refine lv_aload_n hx hb dX9_found_44 rfl (lv_at hl 1 rfl) ?_
  refine lv_iconst (v := 5) hx hb dX9_found_45 (by decide) ?_
  refine g_ki hK hD hS hA (va_runV (As := [.int (nI 5)]) (rest := [.ref o9]) ⟨hx, hb, hml, hown, hts⟩ (kX9_draw l D H.size b L xs ad o9 y cI cO τ2.1 τ2.2 3 1 0 5 (by decide) (by decide) (by omega) hL) (cwV 1 hts gX9_found_X9_draw rfl rfl rfl (by decide +kernel) ⟨Nat.le_of_ble_eq_true rfl, Nat.le_of_ble_eq_true rfl⟩) (s_preV hN hX hbl hbA hS hA hK hP hD (ci := 9) (q0 := 98) rfl rfl) rfl rfl hl.1 rfl (lv_room (Nat.le_of_ble_eq_true rfl)) dX9_found_46 ⟨Nat.le_of_ble_eq_true rfl, Nat.le_of_ble_eq_true rfl⟩) (fun H locs hP hD hS => ?_)
  obtain ⟨eu5, lu5⟩ := dN_is xs L (τ2.2) (m := 5) (by decide) (by decide)
  rw [eu5]
  refine lv_iconst (v := 1) hx hb dX9_found_49 (by decide) ?_
  refine lv_aload_n hx hb dX9_found_50 rfl (lv_at hl 1 rfl) ?_
  refine lv_iconst (v := 4) hx hb dX9_found_51 (by decide) ?_
  refine g_ki hK hD hS hA (va_runV (As := [.int (nI 4)]) (rest := [.int 1, .int (nI (dN xs L τ2.2 5)), .ref o9]) ⟨hx, hb, hml, hown, hts⟩ (kX9_draw l D H.size b L xs ad o9 y cI cO τ2.1 (τ2.2 + 1) 3 1 0 4 (by decide) (by decide) (by omega) hL) (cwV 1 hts gX9_found_X9_draw rfl rfl rfl (by decide +kernel) ⟨Nat.le_of_ble_eq_true rfl, Nat.le_of_ble_eq_true rfl⟩) (s_preV hN hX hbl hbA hS hA hK hP hD (ci := 9) (q0 := 98) rfl rfl) rfl rfl hl.1 rfl (lv_room (Nat.le_of_ble_eq_true rfl)) dX9_found_52 ⟨Nat.le_of_ble_eq_true rfl, Nat.le_of_ble_eq_true rfl⟩) (fun H locs hP hD hS => ?_)
  obtain ⟨eu6, lu6⟩ := dN_is xs L (τ2.2 + 1) (m := 4) (by decide) (by decide)
  rw [eu6]
  refine lv_iadd hx hb dX9_found_55 ?_
  rw [show (1 : Int32) + (nI (dN xs L (τ2.2 + 1) 4)) = nI (1 + (dN xs L (τ2.2 + 1) 4)) from nI_add _ _]
  refine g_ki hK hD hS hA (va_runV (As := [.int (nI (dN xs L τ2.2 5)), .int (nI (1 + dN xs L (τ2.2 + 1) 4))]) (rest := []) ⟨hx, hb, hml, hown, hts⟩ (kX9_zone l D H.size b ad o9 y cI cO τ2.1 (τ2.2 + 2) 3 1 0 (dN xs L τ2.2 5) (nI (1 + dN xs L (τ2.2 + 1) 4)) (by omega) (in_RI (a := 1) (b := 4) (by omega) (by omega) (by decide))) (cwV 2 hts gX9_found_X9_zone rfl rfl rfl (by decide +kernel) ⟨Nat.le_of_ble_eq_true rfl, Nat.le_of_ble_eq_true rfl⟩) (g_preV hK hP hD (ci := 9) (q0 := 98) rfl rfl) rfl rfl hl.1 rfl (lv_room (Nat.le_of_ble_eq_true rfl)) dX9_found_56 ⟨Nat.le_of_ble_eq_true rfl, Nat.le_of_ble_eq_true rfl⟩) (fun H locs hP hD hS => ?_)
  have q3 := zoneF_ok xs L q2.1
  obtain ⟨τ3, t3⟩ : ∃ z : tG × Nat, z = zoneF xs L τ2 := ⟨_, rfl⟩
  have hP : va_P D vwCl (tW ad o9 y b cI cO τ3.1 τ3.2 3 1 0) H := by rw [t3]; exact hP
  have hD : va_D A (tW ad o9 y b cI cO τ3.1 τ3.2 3 1 0) := by rw [t3]; exact hD
  rw [← t3] at q3
  have d3 := q3.2
  refine lv_if_ne (tgt := 64) hx hb dX9_found_59 (by decide) (fun c9 => ?_) (fun c9 => absurd c9 (by decide))
  refine lv_iinc (v := 3) (lv' := [(2, .int 3), (0, .ref o9), (1, .int 6)]) hx hb dX9_found_64 hl (k := 0) rfl (by decide) (by decide) rfl (fun ls hl => ?_)
  refine lv_goto (tgt := 38) hx hb dX9_found_67 (by decide) ?_
  refine lv_iload_n hx hb dX9_found_38 rfl (lv_at hl 0 rfl) ?_
  refine lv_iconst (v := 4) hx hb dX9_found_39 (by decide) ?_
  refine lv_icmp_ge (tgt := 70) hx hb dX9_found_40 (by decide) (fun c9 => absurd c9 (by decide)) (fun c9 => ?_)
  refine lv_aload_n hx hb dX9_found_43 rfl (lv_at hl 1 rfl) ?_
  refine lv_aload_n hx hb dX9_found_44 rfl (lv_at hl 1 rfl) ?_
  refine lv_iconst (v := 5) hx hb dX9_found_45 (by decide) ?_
  refine g_ki hK hD hS hA (va_runV (As := [.int (nI 5)]) (rest := [.ref o9]) ⟨hx, hb, hml, hown, hts⟩ (kX9_draw l D H.size b L xs ad o9 y cI cO τ3.1 τ3.2 3 1 0 5 (by decide) (by decide) (by omega) hL) (cwV 1 hts gX9_found_X9_draw rfl rfl rfl (by decide +kernel) ⟨Nat.le_of_ble_eq_true rfl, Nat.le_of_ble_eq_true rfl⟩) (s_preV hN hX hbl hbA hS hA hK hP hD (ci := 9) (q0 := 98) rfl rfl) rfl rfl hl.1 rfl (lv_room (Nat.le_of_ble_eq_true rfl)) dX9_found_46 ⟨Nat.le_of_ble_eq_true rfl, Nat.le_of_ble_eq_true rfl⟩) (fun H locs hP hD hS => ?_)
  obtain ⟨eu7, lu7⟩ := dN_is xs L (τ3.2) (m := 5) (by decide) (by decide)
  rw [eu7]
  refine lv_iconst (v := 1) hx hb dX9_found_49 (by decide) ?_
  refine lv_aload_n hx hb dX9_found_50 rfl (lv_at hl 1 rfl) ?_
  refine lv_iconst (v := 4) hx hb dX9_found_51 (by decide) ?_
  refine g_ki hK hD hS hA (va_runV (As := [.int (nI 4)]) (rest := [.int 1, .int (nI (dN xs L τ3.2 5)), .ref o9]) ⟨hx, hb, hml, hown, hts⟩ (kX9_draw l D H.size b L xs ad o9 y cI cO τ3.1 (τ3.2 + 1) 3 1 0 4 (by decide) (by decide) (by omega) hL) (cwV 1 hts gX9_found_X9_draw rfl rfl rfl (by decide +kernel) ⟨Nat.le_of_ble_eq_true rfl, Nat.le_of_ble_eq_true rfl⟩) (s_preV hN hX hbl hbA hS hA hK hP hD (ci := 9) (q0 := 98) rfl rfl) rfl rfl hl.1 rfl (lv_room (Nat.le_of_ble_eq_true rfl)) dX9_found_52 ⟨Nat.le_of_ble_eq_true rfl, Nat.le_of_ble_eq_true rfl⟩) (fun H locs hP hD hS => ?_)
  obtain ⟨eu8, lu8⟩ := dN_is xs L (τ3.2 + 1) (m := 4) (by decide) (by decide)
  rw [eu8]
  refine lv_iadd hx hb dX9_found_55 ?_
  rw [show (1 : Int32) + (nI (dN xs L (τ3.2 + 1) 4)) = nI (1 + (dN xs L (τ3.2 + 1) 4)) from nI_add _ _]
  refine g_ki hK hD hS hA (va_runV (As := [.int (nI (dN xs L τ3.2 5)), .int (nI (1 + dN xs L (τ3.2 + 1) 4))]) (rest := []) ⟨hx, hb, hml, hown, hts⟩ (kX9_zone l D H.size b ad o9 y cI cO τ3.1 (τ3.2 + 2) 3 1 0 (dN xs L τ3.2 5) (nI (1 + dN xs L (τ3.2 + 1) 4)) (by omega) (in_RI (a := 1) (b := 4) (by omega) (by omega) (by decide))) (cwV 2 hts gX9_found_X9_zone rfl rfl rfl (by decide +kernel) ⟨Nat.le_of_ble_eq_true rfl, Nat.le_of_ble_eq_true rfl⟩) (g_preV hK hP hD (ci := 9) (q0 := 98) rfl rfl) rfl rfl hl.1 rfl (lv_room (Nat.le_of_ble_eq_true rfl)) dX9_found_56 ⟨Nat.le_of_ble_eq_true rfl, Nat.le_of_ble_eq_true rfl⟩) (fun H locs hP hD hS => ?_)
  have q4 := zoneF_ok xs L q3.1
  obtain ⟨τ4, t4⟩ : ∃ z : tG × Nat, z = zoneF xs L τ3 := ⟨_, rfl⟩
  have hP : va_P D vwCl (tW ad o9 y b cI cO τ4.1 τ4.2 3 1 0) H := by rw [t4]; exact hP
  have hD : va_D A (tW ad o9 y b cI cO τ4.1 τ4.2 3 1 0) := by rw [t4]; exact hD
  rw [← t4] at q4
  have d4 := q4.2
  refine lv_if_ne (tgt := 64) hx hb dX9_found_59 (by decide) (fun c9 => ?_) (fun c9 => absurd c9 (by decide))
  refine lv_iinc (v := 4) (lv' := [(2, .int 4), (0, .ref o9), (1, .int 6)]) hx hb dX9_found_64 hl (k := 0) rfl (by decide) (by decide) rfl (fun ls hl => ?_)
  refine lv_goto (tgt := 38) hx hb dX9_found_67 (by decide) ?_
  refine lv_iload_n hx hb dX9_found_38 rfl (lv_at hl 0 rfl) ?_
  refine lv_iconst (v := 4) hx hb dX9_found_39 (by decide) ?_
  refine lv_icmp_ge (tgt := 70) hx hb dX9_found_40 (by decide) (fun c9 => ?_) (fun c9 => absurd (by decide) c9)
  refine lv_aload_n hx hb dX9_found_70 rfl (lv_at hl 1 rfl) ?_
  refine lv_aload_n hx hb dX9_found_71 rfl (lv_at hl 1 rfl) ?_
  refine lv_bipush (v := 8) hx hb dX9_found_72 (by decide) ?_
  refine g_ki hK hD hS hA (va_runV (As := [.int (nI 8)]) (rest := [.ref o9]) ⟨hx, hb, hml, hown, hts⟩ (kX9_draw l D H.size b L xs ad o9 y cI cO τ4.1 τ4.2 3 1 0 8 (by decide) (by decide) (by omega) hL) (cwV 1 hts gX9_found_X9_draw rfl rfl rfl (by decide +kernel) ⟨Nat.le_of_ble_eq_true rfl, Nat.le_of_ble_eq_true rfl⟩) (s_preV hN hX hbl hbA hS hA hK hP hD (ci := 9) (q0 := 98) rfl rfl) rfl rfl hl.1 rfl (lv_room (Nat.le_of_ble_eq_true rfl)) dX9_found_74 ⟨Nat.le_of_ble_eq_true rfl, Nat.le_of_ble_eq_true rfl⟩) (fun H locs hP hD hS => ?_)
  obtain ⟨eu9, lu9⟩ := dN_is xs L (τ4.2) (m := 8) (by decide) (by decide)
  rw [eu9]
  refine lv_iconst (v := 1) hx hb dX9_found_77 (by decide) ?_
  refine lv_aload_n hx hb dX9_found_78 rfl (lv_at hl 1 rfl) ?_
  refine lv_iconst (v := 4) hx hb dX9_found_79 (by decide) ?_
  refine g_ki hK hD hS hA (va_runV (As := [.int (nI 4)]) (rest := [.int 1, .int (nI (dN xs L τ4.2 8)), .ref o9]) ⟨hx, hb, hml, hown, hts⟩ (kX9_draw l D H.size b L xs ad o9 y cI cO τ4.1 (τ4.2 + 1) 3 1 0 4 (by decide) (by decide) (by omega) hL) (cwV 1 hts gX9_found_X9_draw rfl rfl rfl (by decide +kernel) ⟨Nat.le_of_ble_eq_true rfl, Nat.le_of_ble_eq_true rfl⟩) (s_preV hN hX hbl hbA hS hA hK hP hD (ci := 9) (q0 := 98) rfl rfl) rfl rfl hl.1 rfl (lv_room (Nat.le_of_ble_eq_true rfl)) dX9_found_80 ⟨Nat.le_of_ble_eq_true rfl, Nat.le_of_ble_eq_true rfl⟩) (fun H locs hP hD hS => ?_)
  obtain ⟨eu10, lu10⟩ := dN_is xs L (τ4.2 + 1) (m := 4) (by decide) (by decide)
  rw [eu10]
  refine lv_iadd hx hb dX9_found_83 ?_
  rw [show (1 : Int32) + (nI (dN xs L (τ4.2 + 1) 4)) = nI (1 + (dN xs L (τ4.2 + 1) 4)) from nI_add _ _]
  refine lv_aload_n hx hb dX9_found_84 rfl (lv_at hl 1 rfl) ?_
  refine lv_iconst (v := 4) hx hb dX9_found_85 (by decide) ?_
  refine g_ki hK hD hS hA (va_runV (As := [.int (nI 4)]) (rest := [.int (nI (1 + (dN xs L (τ4.2 + 1) 4))), .int (nI (dN xs L τ4.2 8)), .ref o9]) ⟨hx, hb, hml, hown, hts⟩ (kX9_draw l D H.size b L xs ad o9 y cI cO τ4.1 (τ4.2 + 2) 3 1 0 4 (by decide) (by decide) (by omega) hL) (cwV 1 hts gX9_found_X9_draw rfl rfl rfl (by decide +kernel) ⟨Nat.le_of_ble_eq_true rfl, Nat.le_of_ble_eq_true rfl⟩) (s_preV hN hX hbl hbA hS hA hK hP hD (ci := 9) (q0 := 98) rfl rfl) rfl rfl hl.1 rfl (lv_room (Nat.le_of_ble_eq_true rfl)) dX9_found_86 ⟨Nat.le_of_ble_eq_true rfl, Nat.le_of_ble_eq_true rfl⟩) (fun H locs hP hD hS => ?_)
  obtain ⟨eu11, lu11⟩ := dN_is xs L (τ4.2 + 2) (m := 4) (by decide) (by decide)
  rw [eu11]
  refine lv_iconst (v := 3) hx hb dX9_found_89 (by decide) ?_
  refine lv_aload_n hx hb dX9_found_90 rfl (lv_at hl 1 rfl) ?_
  refine lv_bipush (v := 12) hx hb dX9_found_91 (by decide) ?_
  refine g_ki hK hD hS hA (va_runV (As := [.int (nI 12)]) (rest := [.int 3, .int (nI (dN xs L (τ4.2 + 2) 4)), .int (nI (1 + (dN xs L (τ4.2 + 1) 4))), .int (nI (dN xs L τ4.2 8)), .ref o9]) ⟨hx, hb, hml, hown, hts⟩ (kX9_draw l D H.size b L xs ad o9 y cI cO τ4.1 (τ4.2 + 3) 3 1 0 12 (by decide) (by decide) (by omega) hL) (cwV 1 hts gX9_found_X9_draw rfl rfl rfl (by decide +kernel) ⟨Nat.le_of_ble_eq_true rfl, Nat.le_of_ble_eq_true rfl⟩) (s_preV hN hX hbl hbA hS hA hK hP hD (ci := 9) (q0 := 98) rfl rfl) rfl rfl hl.1 rfl (lv_room (Nat.le_of_ble_eq_true rfl)) dX9_found_93 ⟨Nat.le_of_ble_eq_true rfl, Nat.le_of_ble_eq_true rfl⟩) (fun H locs hP hD hS => ?_)
  obtain ⟨eu12, lu12⟩ := dN_is xs L (τ4.2 + 3) (m := 12) (by decide) (by decide)
  rw [eu12]
  refine lv_iadd hx hb dX9_found_96 ?_
  rw [show (3 : Int32) + (nI (dN xs L (τ4.2 + 3) 12)) = nI (3 + (dN xs L (τ4.2 + 3) 12)) from nI_add _ _]
  refine lv_bipush (v := 10) hx hb dX9_found_97 (by decide) ?_
  refine lv_aload_n hx hb dX9_found_99 rfl (lv_at hl 1 rfl) ?_
  refine lv_bipush (v := 40) hx hb dX9_found_100 (by decide) ?_
  refine g_ki hK hD hS hA (va_runV (As := [.int (nI 40)]) (rest := [.int 10, .int (nI (3 + (dN xs L (τ4.2 + 3) 12))), .int (nI (dN xs L (τ4.2 + 2) 4)), .int (nI (1 + (dN xs L (τ4.2 + 1) 4))), .int (nI (dN xs L τ4.2 8)), .ref o9]) ⟨hx, hb, hml, hown, hts⟩ (kX9_draw l D H.size b L xs ad o9 y cI cO τ4.1 (τ4.2 + 4) 3 1 0 40 (by decide) (by decide) (by omega) hL) (cwV 1 hts gX9_found_X9_draw rfl rfl rfl (by decide +kernel) ⟨Nat.le_of_ble_eq_true rfl, Nat.le_of_ble_eq_true rfl⟩) (s_preV hN hX hbl hbA hS hA hK hP hD (ci := 9) (q0 := 98) rfl rfl) rfl rfl hl.1 rfl (lv_room (Nat.le_of_ble_eq_true rfl)) dX9_found_102 ⟨Nat.le_of_ble_eq_true rfl, Nat.le_of_ble_eq_true rfl⟩) (fun H locs hP hD hS => ?_)
  obtain ⟨eu13, lu13⟩ := dN_is xs L (τ4.2 + 4) (m := 40) (by decide) (by decide)
  rw [eu13]
  refine lv_iadd hx hb dX9_found_105 ?_
  rw [show (10 : Int32) + (nI (dN xs L (τ4.2 + 4) 40)) = nI (10 + (dN xs L (τ4.2 + 4) 40)) from nI_add _ _]
  obtain ⟨b0, b1, b2, b3, b4⟩ := tar_bnd xs L τ4.2 (m := 8) (by decide) (by decide)
  refine t_ky hD hS hA (va_runV (As := [.int (nI (dN xs L τ4.2 8)), .int (nI (1 + (dN xs L (τ4.2 + 1) 4))), .int (nI (dN xs L (τ4.2 + 2) 4)), .int (nI (3 + (dN xs L (τ4.2 + 3) 12))), .int (nI (10 + (dN xs L (τ4.2 + 4) 40)))]) (rest := []) ⟨hx, hb, hml, hown, hts⟩ (kX9_tariff l D H.size b ad o9 y cI cO τ4.1 (τ4.2 + 5) 3 1 0 (nI (dN xs L τ4.2 8)) (nI (1 + (dN xs L (τ4.2 + 1) 4))) (nI (dN xs L (τ4.2 + 2) 4)) (nI (3 + (dN xs L (τ4.2 + 3) 12))) (nI (10 + (dN xs L (τ4.2 + 4) 40))) b0 b1 b2 b3 b4 q4.1.2.1 (by decide) q4.1.2.2.1 (by decide)) (cwV 5 hts gX9_found_X9_tariff rfl rfl rfl (by decide +kernel) ⟨Nat.le_of_ble_eq_true rfl, Nat.le_of_ble_eq_true rfl⟩) (p_preV hN.2.2 hK hP hD (ci := 9) (q0 := 98) rfl rfl) rfl rfl hl.1 rfl (lv_room (Nat.le_of_ble_eq_true rfl)) dX9_found_106 ⟨Nat.le_of_ble_eq_true rfl, Nat.le_of_ble_eq_true rfl⟩) (fun y1 H locs hP hD hS => ?_)
  have q5 := tarF_ok xs L (m := 8) (by decide) (by decide) q4.1 (by decide) (by decide)
  obtain ⟨τ5, t5⟩ : ∃ z : tG × Nat, z = tarF xs L 8 τ4 := ⟨_, rfl⟩
  have hP : va_P D vwCl (tW ad o9 y1 b cI cO τ5.1 τ5.2 3 2 0) H := by rw [t5]; exact hP
  have hD : va_D A (tW ad o9 y1 b cI cO τ5.1 τ5.2 3 2 0) := by rw [t5]; exact hD
  rw [← t5] at q5
  have d5 := q5.2
  refine lv_if_eq (tgt := 154) hx hb dX9_found_109 (by decide) (fun c9 => absurd c9 (by decide)) (fun c9 => ?_)
  refine lv_aload_n hx hb dX9_found_112 rfl (lv_at hl 1 rfl) ?_
  refine lv_aload_n hx hb dX9_found_113 rfl (lv_at hl 1 rfl) ?_
  refine lv_bipush (v := 14) hx hb dX9_found_114 (by decide) ?_
  refine g_ki hK hD hS hA (va_runV (As := [.int (nI 14)]) (rest := [.ref o9]) ⟨hx, hb, hml, hown, hts⟩ (kX9_draw l D H.size b L xs ad o9 y1 cI cO τ5.1 τ5.2 3 2 0 14 (by decide) (by decide) (by omega) hL) (cwV 1 hts gX9_found_X9_draw rfl rfl rfl (by decide +kernel) ⟨Nat.le_of_ble_eq_true rfl, Nat.le_of_ble_eq_true rfl⟩) (s_preV hN hX hbl hbA hS hA hK hP hD (ci := 9) (q0 := 98) rfl rfl) rfl rfl hl.1 rfl (lv_room (Nat.le_of_ble_eq_true rfl)) dX9_found_116 ⟨Nat.le_of_ble_eq_true rfl, Nat.le_of_ble_eq_true rfl⟩) (fun H locs hP hD hS => ?_)
  obtain ⟨eu14, lu14⟩ := dN_is xs L (τ5.2) (m := 14) (by decide) (by decide)
  rw [eu14]
  refine lv_iconst (v := 1) hx hb dX9_found_119 (by decide) ?_
  refine lv_aload_n hx hb dX9_found_120 rfl (lv_at hl 1 rfl) ?_
  refine lv_iconst (v := 4) hx hb dX9_found_121 (by decide) ?_
  refine g_ki hK hD hS hA (va_runV (As := [.int (nI 4)]) (rest := [.int 1, .int (nI (dN xs L τ5.2 14)), .ref o9]) ⟨hx, hb, hml, hown, hts⟩ (kX9_draw l D H.size b L xs ad o9 y1 cI cO τ5.1 (τ5.2 + 1) 3 2 0 4 (by decide) (by decide) (by omega) hL) (cwV 1 hts gX9_found_X9_draw rfl rfl rfl (by decide +kernel) ⟨Nat.le_of_ble_eq_true rfl, Nat.le_of_ble_eq_true rfl⟩) (s_preV hN hX hbl hbA hS hA hK hP hD (ci := 9) (q0 := 98) rfl rfl) rfl rfl hl.1 rfl (lv_room (Nat.le_of_ble_eq_true rfl)) dX9_found_122 ⟨Nat.le_of_ble_eq_true rfl, Nat.le_of_ble_eq_true rfl⟩) (fun H locs hP hD hS => ?_)
  obtain ⟨eu15, lu15⟩ := dN_is xs L (τ5.2 + 1) (m := 4) (by decide) (by decide)
  rw [eu15]
  refine lv_iadd hx hb dX9_found_125 ?_
  rw [show (1 : Int32) + (nI (dN xs L (τ5.2 + 1) 4)) = nI (1 + (dN xs L (τ5.2 + 1) 4)) from nI_add _ _]
  refine lv_aload_n hx hb dX9_found_126 rfl (lv_at hl 1 rfl) ?_
  refine lv_iconst (v := 4) hx hb dX9_found_127 (by decide) ?_
  refine g_ki hK hD hS hA (va_runV (As := [.int (nI 4)]) (rest := [.int (nI (1 + (dN xs L (τ5.2 + 1) 4))), .int (nI (dN xs L τ5.2 14)), .ref o9]) ⟨hx, hb, hml, hown, hts⟩ (kX9_draw l D H.size b L xs ad o9 y1 cI cO τ5.1 (τ5.2 + 2) 3 2 0 4 (by decide) (by decide) (by omega) hL) (cwV 1 hts gX9_found_X9_draw rfl rfl rfl (by decide +kernel) ⟨Nat.le_of_ble_eq_true rfl, Nat.le_of_ble_eq_true rfl⟩) (s_preV hN hX hbl hbA hS hA hK hP hD (ci := 9) (q0 := 98) rfl rfl) rfl rfl hl.1 rfl (lv_room (Nat.le_of_ble_eq_true rfl)) dX9_found_128 ⟨Nat.le_of_ble_eq_true rfl, Nat.le_of_ble_eq_true rfl⟩) (fun H locs hP hD hS => ?_)
  obtain ⟨eu16, lu16⟩ := dN_is xs L (τ5.2 + 2) (m := 4) (by decide) (by decide)
  rw [eu16]
  refine lv_iconst (v := 3) hx hb dX9_found_131 (by decide) ?_
  refine lv_aload_n hx hb dX9_found_132 rfl (lv_at hl 1 rfl) ?_
  refine lv_bipush (v := 12) hx hb dX9_found_133 (by decide) ?_
  refine g_ki hK hD hS hA (va_runV (As := [.int (nI 12)]) (rest := [.int 3, .int (nI (dN xs L (τ5.2 + 2) 4)), .int (nI (1 + (dN xs L (τ5.2 + 1) 4))), .int (nI (dN xs L τ5.2 14)), .ref o9]) ⟨hx, hb, hml, hown, hts⟩ (kX9_draw l D H.size b L xs ad o9 y1 cI cO τ5.1 (τ5.2 + 3) 3 2 0 12 (by decide) (by decide) (by omega) hL) (cwV 1 hts gX9_found_X9_draw rfl rfl rfl (by decide +kernel) ⟨Nat.le_of_ble_eq_true rfl, Nat.le_of_ble_eq_true rfl⟩) (s_preV hN hX hbl hbA hS hA hK hP hD (ci := 9) (q0 := 98) rfl rfl) rfl rfl hl.1 rfl (lv_room (Nat.le_of_ble_eq_true rfl)) dX9_found_135 ⟨Nat.le_of_ble_eq_true rfl, Nat.le_of_ble_eq_true rfl⟩) (fun H locs hP hD hS => ?_)
  obtain ⟨eu17, lu17⟩ := dN_is xs L (τ5.2 + 3) (m := 12) (by decide) (by decide)
  rw [eu17]
  refine lv_iadd hx hb dX9_found_138 ?_
  rw [show (3 : Int32) + (nI (dN xs L (τ5.2 + 3) 12)) = nI (3 + (dN xs L (τ5.2 + 3) 12)) from nI_add _ _]
  refine lv_bipush (v := 10) hx hb dX9_found_139 (by decide) ?_
  refine lv_aload_n hx hb dX9_found_141 rfl (lv_at hl 1 rfl) ?_
  refine lv_bipush (v := 40) hx hb dX9_found_142 (by decide) ?_
  refine g_ki hK hD hS hA (va_runV (As := [.int (nI 40)]) (rest := [.int 10, .int (nI (3 + (dN xs L (τ5.2 + 3) 12))), .int (nI (dN xs L (τ5.2 + 2) 4)), .int (nI (1 + (dN xs L (τ5.2 + 1) 4))), .int (nI (dN xs L τ5.2 14)), .ref o9]) ⟨hx, hb, hml, hown, hts⟩ (kX9_draw l D H.size b L xs ad o9 y1 cI cO τ5.1 (τ5.2 + 4) 3 2 0 40 (by decide) (by decide) (by omega) hL) (cwV 1 hts gX9_found_X9_draw rfl rfl rfl (by decide +kernel) ⟨Nat.le_of_ble_eq_true rfl, Nat.le_of_ble_eq_true rfl⟩) (s_preV hN hX hbl hbA hS hA hK hP hD (ci := 9) (q0 := 98) rfl rfl) rfl rfl hl.1 rfl (lv_room (Nat.le_of_ble_eq_true rfl)) dX9_found_144 ⟨Nat.le_of_ble_eq_true rfl, Nat.le_of_ble_eq_true rfl⟩) (fun H locs hP hD hS => ?_)
  obtain ⟨eu18, lu18⟩ := dN_is xs L (τ5.2 + 4) (m := 40) (by decide) (by decide)
  rw [eu18]
  refine lv_iadd hx hb dX9_found_147 ?_
  rw [show (10 : Int32) + (nI (dN xs L (τ5.2 + 4) 40)) = nI (10 + (dN xs L (τ5.2 + 4) 40)) from nI_add _ _]
  obtain ⟨b0, b1, b2, b3, b4⟩ := tar_bnd xs L τ5.2 (m := 14) (by decide) (by decide)
  refine t_ky hD hS hA (va_runV (As := [.int (nI (dN xs L τ5.2 14)), .int (nI (1 + (dN xs L (τ5.2 + 1) 4))), .int (nI (dN xs L (τ5.2 + 2) 4)), .int (nI (3 + (dN xs L (τ5.2 + 3) 12))), .int (nI (10 + (dN xs L (τ5.2 + 4) 40)))]) (rest := []) ⟨hx, hb, hml, hown, hts⟩ (kX9_tariff l D H.size b ad o9 y1 cI cO τ5.1 (τ5.2 + 5) 3 2 0 (nI (dN xs L τ5.2 14)) (nI (1 + (dN xs L (τ5.2 + 1) 4))) (nI (dN xs L (τ5.2 + 2) 4)) (nI (3 + (dN xs L (τ5.2 + 3) 12))) (nI (10 + (dN xs L (τ5.2 + 4) 40))) b0 b1 b2 b3 b4 q5.1.2.1 (by decide) q5.1.2.2.1 (by decide)) (cwV 5 hts gX9_found_X9_tariff rfl rfl rfl (by decide +kernel) ⟨Nat.le_of_ble_eq_true rfl, Nat.le_of_ble_eq_true rfl⟩) (p_preV hN.2.2 hK hP hD (ci := 9) (q0 := 98) rfl rfl) rfl rfl hl.1 rfl (lv_room (Nat.le_of_ble_eq_true rfl)) dX9_found_148 ⟨Nat.le_of_ble_eq_true rfl, Nat.le_of_ble_eq_true rfl⟩) (fun y2 H locs hP hD hS => ?_)
  have q6 := tarF_ok xs L (m := 14) (by decide) (by decide) q5.1 (by decide) (by decide)
  obtain ⟨τ6, t6⟩ : ∃ z : tG × Nat, z = tarF xs L 14 τ5 := ⟨_, rfl⟩
  have hP : va_P D vwCl (tW ad o9 y2 b cI cO τ6.1 τ6.2 3 3 0) H := by rw [t6]; exact hP
  have hD : va_D A (tW ad o9 y2 b cI cO τ6.1 τ6.2 3 3 0) := by rw [t6]; exact hD
  rw [← t6] at q6
  have d6 := q6.2
  refine lv_if_ne (tgt := 156) hx hb dX9_found_151 (by decide) (fun c9 => ?_) (fun c9 => absurd c9 (by decide))
  obtain ⟨σ0, s0⟩ : ∃ z : tS, z = ((τ6.1, 0), τ6.2) := ⟨_, rfl⟩
  have hP : va_P D vwCl (tV ad o9 y2 b cI cO σ0 3 3) H := by rw [s0]; exact hP
  have hD : va_D A (tV ad o9 y2 b cI cO σ0 3 3) := by rw [s0]; exact hD
  have p0 : RGN σ0.1.1 σ0.1.2 := by rw [s0]; exact q6.1.rgn
  have e0 : σ0.2 = τ6.2 := by rw [s0]
  refine lv_iconst (v := 0) hx hb dX9_found_156 (by decide) ?_
  refine lv_istore_n (lv' := [(2, .int 0), (0, .ref o9), (1, .int 6)]) hx hb dX9_found_157 rfl hl (by decide) rfl (fun ls hl => ?_)
  refine lv_iload_n hx hb dX9_found_158 rfl (lv_at hl 0 rfl) ?_
  refine lv_iload_n hx hb dX9_found_159 rfl (lv_at hl 2 rfl) ?_
  refine lv_icmp_ge (tgt := 189) hx hb dX9_found_160 (by decide) (fun c9 => absurd c9 (by decide)) (fun c9 => ?_)
  refine lv_aload_n hx hb dX9_found_163 rfl (lv_at hl 1 rfl) ?_
  refine lv_aload_n hx hb dX9_found_164 rfl (lv_at hl 1 rfl) ?_
  refine lv_iconst (v := 3) hx hb dX9_found_165 (by decide) ?_
  refine g_ki hK hD hS hA (va_runV (As := [.int (nI 3)]) (rest := [.ref o9]) ⟨hx, hb, hml, hown, hts⟩ (kX9_draw l D H.size b L xs ad o9 y2 cI cO σ0.1.1 σ0.2 3 3 σ0.1.2 3 (by decide) (by decide) (by omega) hL) (cwV 1 hts gX9_found_X9_draw rfl rfl rfl (by decide +kernel) ⟨Nat.le_of_ble_eq_true rfl, Nat.le_of_ble_eq_true rfl⟩) (s_preV hN hX hbl hbA hS hA hK hP hD (ci := 9) (q0 := 98) rfl rfl) rfl rfl hl.1 rfl (lv_room (Nat.le_of_ble_eq_true rfl)) dX9_found_166 ⟨Nat.le_of_ble_eq_true rfl, Nat.le_of_ble_eq_true rfl⟩) (fun H locs hP hD hS => ?_)
  obtain ⟨eu19, lu19⟩ := dN_is xs L (σ0.2) (m := 3) (by decide) (by decide)
  rw [eu19]
  refine lv_aload_n hx hb dX9_found_169 rfl (lv_at hl 1 rfl) ?_
  refine lv_bipush (v := 10) hx hb dX9_found_170 (by decide) ?_
  refine g_ki hK hD hS hA (va_runV (As := [.int (nI 10)]) (rest := [.int (nI (dN xs L σ0.2 3)), .ref o9]) ⟨hx, hb, hml, hown, hts⟩ (kX9_draw l D H.size b L xs ad o9 y2 cI cO σ0.1.1 (σ0.2 + 1) 3 3 σ0.1.2 10 (by decide) (by decide) (by omega) hL) (cwV 1 hts gX9_found_X9_draw rfl rfl rfl (by decide +kernel) ⟨Nat.le_of_ble_eq_true rfl, Nat.le_of_ble_eq_true rfl⟩) (s_preV hN hX hbl hbA hS hA hK hP hD (ci := 9) (q0 := 98) rfl rfl) rfl rfl hl.1 rfl (lv_room (Nat.le_of_ble_eq_true rfl)) dX9_found_172 ⟨Nat.le_of_ble_eq_true rfl, Nat.le_of_ble_eq_true rfl⟩) (fun H locs hP hD hS => ?_)
  obtain ⟨eu20, lu20⟩ := dN_is xs L (σ0.2 + 1) (m := 10) (by decide) (by decide)
  rw [eu20]
  refine t_ky hD hS hA (va_runV (As := [.int (nI (dN xs L σ0.2 3)), .int (nI (dN xs L (σ0.2 + 1) 10))]) (rest := []) ⟨hx, hb, hml, hown, hts⟩ (kX9_trip l D H.size b L xs ad o9 y2 cI cO σ0.1.1 (σ0.2 + 2) 3 3 σ0.1.2 (dN xs L σ0.2 3) (dN xs L (σ0.2 + 1) 10) lu19 lu20 p0 (by omega) hL) (cwV 2 hts gX9_found_X9_trip rfl rfl rfl (by decide +kernel) ⟨Nat.le_of_ble_eq_true rfl, Nat.le_of_ble_eq_true rfl⟩) (s_preV hN hX hbl hbA hS hA hK hP hD (ci := 9) (q0 := 98) rfl rfl) rfl rfl hl.1 rfl (lv_room (Nat.le_of_ble_eq_true rfl)) dX9_found_175 ⟨Nat.le_of_ble_eq_true rfl, Nat.le_of_ble_eq_true rfl⟩) (fun y3 H locs hP hD hS => ?_)
  have o1 := tripF_ok xs L (σ := (σ0.1, σ0.2 + 2)) p0 lu19 lu20
  obtain ⟨σ1, s1⟩ : ∃ z : tS, z = tripF xs L (dN xs L σ0.2 3) (dN xs L (σ0.2 + 1) 10) (σ0.1, σ0.2 + 2) := ⟨_, rfl⟩
  have hP : va_P D vwCl (tV ad o9 y3 b cI cO σ1 3 3) H := by rw [s1]; exact hP
  have hD : va_D A (tV ad o9 y3 b cI cO σ1 3 3) := by rw [s1]; exact hD
  rw [← s1] at o1
  have p1 := o1.1
  have e1 : σ1.2 ≤ σ0.2 + 2 + 34 := o1.2.2.2
  refine lv_if_ne (tgt := 183) hx hb dX9_found_178 (by decide) (fun c9 => ?_) (fun c9 => absurd c9 (by decide))
  refine lv_iinc (v := 1) (lv' := [(2, .int 1), (0, .ref o9), (1, .int 6)]) hx hb dX9_found_183 hl (k := 0) rfl (by decide) (by decide) rfl (fun ls hl => ?_)
  refine lv_goto (tgt := 158) hx hb dX9_found_186 (by decide) ?_
  refine lv_iload_n hx hb dX9_found_158 rfl (lv_at hl 0 rfl) ?_
  refine lv_iload_n hx hb dX9_found_159 rfl (lv_at hl 2 rfl) ?_
  refine lv_icmp_ge (tgt := 189) hx hb dX9_found_160 (by decide) (fun c9 => absurd c9 (by decide)) (fun c9 => ?_)
  refine lv_aload_n hx hb dX9_found_163 rfl (lv_at hl 1 rfl) ?_
  refine lv_aload_n hx hb dX9_found_164 rfl (lv_at hl 1 rfl) ?_
  refine lv_iconst (v := 3) hx hb dX9_found_165 (by decide) ?_
  refine g_ki hK hD hS hA (va_runV (As := [.int (nI 3)]) (rest := [.ref o9]) ⟨hx, hb, hml, hown, hts⟩ (kX9_draw l D H.size b L xs ad o9 y3 cI cO σ1.1.1 σ1.2 3 3 σ1.1.2 3 (by decide) (by decide) (by omega) hL) (cwV 1 hts gX9_found_X9_draw rfl rfl rfl (by decide +kernel) ⟨Nat.le_of_ble_eq_true rfl, Nat.le_of_ble_eq_true rfl⟩) (s_preV hN hX hbl hbA hS hA hK hP hD (ci := 9) (q0 := 98) rfl rfl) rfl rfl hl.1 rfl (lv_room (Nat.le_of_ble_eq_true rfl)) dX9_found_166 ⟨Nat.le_of_ble_eq_true rfl, Nat.le_of_ble_eq_true rfl⟩) (fun H locs hP hD hS => ?_)
  obtain ⟨eu21, lu21⟩ := dN_is xs L (σ1.2) (m := 3) (by decide) (by decide)
  rw [eu21]
  refine lv_aload_n hx hb dX9_found_169 rfl (lv_at hl 1 rfl) ?_
  refine lv_bipush (v := 10) hx hb dX9_found_170 (by decide) ?_
  refine g_ki hK hD hS hA (va_runV (As := [.int (nI 10)]) (rest := [.int (nI (dN xs L σ1.2 3)), .ref o9]) ⟨hx, hb, hml, hown, hts⟩ (kX9_draw l D H.size b L xs ad o9 y3 cI cO σ1.1.1 (σ1.2 + 1) 3 3 σ1.1.2 10 (by decide) (by decide) (by omega) hL) (cwV 1 hts gX9_found_X9_draw rfl rfl rfl (by decide +kernel) ⟨Nat.le_of_ble_eq_true rfl, Nat.le_of_ble_eq_true rfl⟩) (s_preV hN hX hbl hbA hS hA hK hP hD (ci := 9) (q0 := 98) rfl rfl) rfl rfl hl.1 rfl (lv_room (Nat.le_of_ble_eq_true rfl)) dX9_found_172 ⟨Nat.le_of_ble_eq_true rfl, Nat.le_of_ble_eq_true rfl⟩) (fun H locs hP hD hS => ?_)
  obtain ⟨eu22, lu22⟩ := dN_is xs L (σ1.2 + 1) (m := 10) (by decide) (by decide)
  rw [eu22]
  refine t_ky hD hS hA (va_runV (As := [.int (nI (dN xs L σ1.2 3)), .int (nI (dN xs L (σ1.2 + 1) 10))]) (rest := []) ⟨hx, hb, hml, hown, hts⟩ (kX9_trip l D H.size b L xs ad o9 y3 cI cO σ1.1.1 (σ1.2 + 2) 3 3 σ1.1.2 (dN xs L σ1.2 3) (dN xs L (σ1.2 + 1) 10) lu21 lu22 p1 (by omega) hL) (cwV 2 hts gX9_found_X9_trip rfl rfl rfl (by decide +kernel) ⟨Nat.le_of_ble_eq_true rfl, Nat.le_of_ble_eq_true rfl⟩) (s_preV hN hX hbl hbA hS hA hK hP hD (ci := 9) (q0 := 98) rfl rfl) rfl rfl hl.1 rfl (lv_room (Nat.le_of_ble_eq_true rfl)) dX9_found_175 ⟨Nat.le_of_ble_eq_true rfl, Nat.le_of_ble_eq_true rfl⟩) (fun y4 H locs hP hD hS => ?_)
  have o2 := tripF_ok xs L (σ := (σ1.1, σ1.2 + 2)) p1 lu21 lu22
  obtain ⟨σ2, s2⟩ : ∃ z : tS, z = tripF xs L (dN xs L σ1.2 3) (dN xs L (σ1.2 + 1) 10) (σ1.1, σ1.2 + 2) := ⟨_, rfl⟩
  have hP : va_P D vwCl (tV ad o9 y4 b cI cO σ2 3 3) H := by rw [s2]; exact hP
  have hD : va_D A (tV ad o9 y4 b cI cO σ2 3 3) := by rw [s2]; exact hD
  rw [← s2] at o2
  have p2 := o2.1
  have e2 : σ2.2 ≤ σ1.2 + 2 + 34 := o2.2.2.2
  refine lv_if_ne (tgt := 183) hx hb dX9_found_178 (by decide) (fun c9 => ?_) (fun c9 => absurd c9 (by decide))
  refine lv_iinc (v := 2) (lv' := [(2, .int 2), (0, .ref o9), (1, .int 6)]) hx hb dX9_found_183 hl (k := 0) rfl (by decide) (by decide) rfl (fun ls hl => ?_)
  refine lv_goto (tgt := 158) hx hb dX9_found_186 (by decide) ?_
  refine lv_iload_n hx hb dX9_found_158 rfl (lv_at hl 0 rfl) ?_
  refine lv_iload_n hx hb dX9_found_159 rfl (lv_at hl 2 rfl) ?_
  refine lv_icmp_ge (tgt := 189) hx hb dX9_found_160 (by decide) (fun c9 => absurd c9 (by decide)) (fun c9 => ?_)
  refine lv_aload_n hx hb dX9_found_163 rfl (lv_at hl 1 rfl) ?_
  refine lv_aload_n hx hb dX9_found_164 rfl (lv_at hl 1 rfl) ?_
  refine lv_iconst (v := 3) hx hb dX9_found_165 (by decide) ?_
  refine g_ki hK hD hS hA (va_runV (As := [.int (nI 3)]) (rest := [.ref o9]) ⟨hx, hb, hml, hown, hts⟩ (kX9_draw l D H.size b L xs ad o9 y4 cI cO σ2.1.1 σ2.2 3 3 σ2.1.2 3 (by decide) (by decide) (by omega) hL) (cwV 1 hts gX9_found_X9_draw rfl rfl rfl (by decide +kernel) ⟨Nat.le_of_ble_eq_true rfl, Nat.le_of_ble_eq_true rfl⟩) (s_preV hN hX hbl hbA hS hA hK hP hD (ci := 9) (q0 := 98) rfl rfl) rfl rfl hl.1 rfl (lv_room (Nat.le_of_ble_eq_true rfl)) dX9_found_166 ⟨Nat.le_of_ble_eq_true rfl, Nat.le_of_ble_eq_true rfl⟩) (fun H locs hP hD hS => ?_)
  obtain ⟨eu23, lu23⟩ := dN_is xs L (σ2.2) (m := 3) (by decide) (by decide)
  rw [eu23]
  refine lv_aload_n hx hb dX9_found_169 rfl (lv_at hl 1 rfl) ?_
  refine lv_bipush (v := 10) hx hb dX9_found_170 (by decide) ?_
  refine g_ki hK hD hS hA (va_runV (As := [.int (nI 10)]) (rest := [.int (nI (dN xs L σ2.2 3)), .ref o9]) ⟨hx, hb, hml, hown, hts⟩ (kX9_draw l D H.size b L xs ad o9 y4 cI cO σ2.1.1 (σ2.2 + 1) 3 3 σ2.1.2 10 (by decide) (by decide) (by omega) hL) (cwV 1 hts gX9_found_X9_draw rfl rfl rfl (by decide +kernel) ⟨Nat.le_of_ble_eq_true rfl, Nat.le_of_ble_eq_true rfl⟩) (s_preV hN hX hbl hbA hS hA hK hP hD (ci := 9) (q0 := 98) rfl rfl) rfl rfl hl.1 rfl (lv_room (Nat.le_of_ble_eq_true rfl)) dX9_found_172 ⟨Nat.le_of_ble_eq_true rfl, Nat.le_of_ble_eq_true rfl⟩) (fun H locs hP hD hS => ?_)
  obtain ⟨eu24, lu24⟩ := dN_is xs L (σ2.2 + 1) (m := 10) (by decide) (by decide)
  rw [eu24]
  refine t_ky hD hS hA (va_runV (As := [.int (nI (dN xs L σ2.2 3)), .int (nI (dN xs L (σ2.2 + 1) 10))]) (rest := []) ⟨hx, hb, hml, hown, hts⟩ (kX9_trip l D H.size b L xs ad o9 y4 cI cO σ2.1.1 (σ2.2 + 2) 3 3 σ2.1.2 (dN xs L σ2.2 3) (dN xs L (σ2.2 + 1) 10) lu23 lu24 p2 (by omega) hL) (cwV 2 hts gX9_found_X9_trip rfl rfl rfl (by decide +kernel) ⟨Nat.le_of_ble_eq_true rfl, Nat.le_of_ble_eq_true rfl⟩) (s_preV hN hX hbl hbA hS hA hK hP hD (ci := 9) (q0 := 98) rfl rfl) rfl rfl hl.1 rfl (lv_room (Nat.le_of_ble_eq_true rfl)) dX9_found_175 ⟨Nat.le_of_ble_eq_true rfl, Nat.le_of_ble_eq_true rfl⟩) (fun y5 H locs hP hD hS => ?_)
  have o3 := tripF_ok xs L (σ := (σ2.1, σ2.2 + 2)) p2 lu23 lu24
  obtain ⟨σ3, s3⟩ : ∃ z : tS, z = tripF xs L (dN xs L σ2.2 3) (dN xs L (σ2.2 + 1) 10) (σ2.1, σ2.2 + 2) := ⟨_, rfl⟩
  have hP : va_P D vwCl (tV ad o9 y5 b cI cO σ3 3 3) H := by rw [s3]; exact hP
  have hD : va_D A (tV ad o9 y5 b cI cO σ3 3 3) := by rw [s3]; exact hD
  rw [← s3] at o3
  have p3 := o3.1
  have e3 : σ3.2 ≤ σ2.2 + 2 + 34 := o3.2.2.2
  refine lv_if_ne (tgt := 183) hx hb dX9_found_178 (by decide) (fun c9 => ?_) (fun c9 => absurd c9 (by decide))
  refine lv_iinc (v := 3) (lv' := [(2, .int 3), (0, .ref o9), (1, .int 6)]) hx hb dX9_found_183 hl (k := 0) rfl (by decide) (by decide) rfl (fun ls hl => ?_)
  refine lv_goto (tgt := 158) hx hb dX9_found_186 (by decide) ?_
  refine lv_iload_n hx hb dX9_found_158 rfl (lv_at hl 0 rfl) ?_
  refine lv_iload_n hx hb dX9_found_159 rfl (lv_at hl 2 rfl) ?_
  refine lv_icmp_ge (tgt := 189) hx hb dX9_found_160 (by decide) (fun c9 => absurd c9 (by decide)) (fun c9 => ?_)
  refine lv_aload_n hx hb dX9_found_163 rfl (lv_at hl 1 rfl) ?_
  refine lv_aload_n hx hb dX9_found_164 rfl (lv_at hl 1 rfl) ?_
  refine lv_iconst (v := 3) hx hb dX9_found_165 (by decide) ?_
  refine g_ki hK hD hS hA (va_runV (As := [.int (nI 3)]) (rest := [.ref o9]) ⟨hx, hb, hml, hown, hts⟩ (kX9_draw l D H.size b L xs ad o9 y5 cI cO σ3.1.1 σ3.2 3 3 σ3.1.2 3 (by decide) (by decide) (by omega) hL) (cwV 1 hts gX9_found_X9_draw rfl rfl rfl (by decide +kernel) ⟨Nat.le_of_ble_eq_true rfl, Nat.le_of_ble_eq_true rfl⟩) (s_preV hN hX hbl hbA hS hA hK hP hD (ci := 9) (q0 := 98) rfl rfl) rfl rfl hl.1 rfl (lv_room (Nat.le_of_ble_eq_true rfl)) dX9_found_166 ⟨Nat.le_of_ble_eq_true rfl, Nat.le_of_ble_eq_true rfl⟩) (fun H locs hP hD hS => ?_)
  obtain ⟨eu25, lu25⟩ := dN_is xs L (σ3.2) (m := 3) (by decide) (by decide)
  rw [eu25]
  refine lv_aload_n hx hb dX9_found_169 rfl (lv_at hl 1 rfl) ?_
  refine lv_bipush (v := 10) hx hb dX9_found_170 (by decide) ?_
  refine g_ki hK hD hS hA (va_runV (As := [.int (nI 10)]) (rest := [.int (nI (dN xs L σ3.2 3)), .ref o9]) ⟨hx, hb, hml, hown, hts⟩ (kX9_draw l D H.size b L xs ad o9 y5 cI cO σ3.1.1 (σ3.2 + 1) 3 3 σ3.1.2 10 (by decide) (by decide) (by omega) hL) (cwV 1 hts gX9_found_X9_draw rfl rfl rfl (by decide +kernel) ⟨Nat.le_of_ble_eq_true rfl, Nat.le_of_ble_eq_true rfl⟩) (s_preV hN hX hbl hbA hS hA hK hP hD (ci := 9) (q0 := 98) rfl rfl) rfl rfl hl.1 rfl (lv_room (Nat.le_of_ble_eq_true rfl)) dX9_found_172 ⟨Nat.le_of_ble_eq_true rfl, Nat.le_of_ble_eq_true rfl⟩) (fun H locs hP hD hS => ?_)
  obtain ⟨eu26, lu26⟩ := dN_is xs L (σ3.2 + 1) (m := 10) (by decide) (by decide)
  rw [eu26]
  refine t_ky hD hS hA (va_runV (As := [.int (nI (dN xs L σ3.2 3)), .int (nI (dN xs L (σ3.2 + 1) 10))]) (rest := []) ⟨hx, hb, hml, hown, hts⟩ (kX9_trip l D H.size b L xs ad o9 y5 cI cO σ3.1.1 (σ3.2 + 2) 3 3 σ3.1.2 (dN xs L σ3.2 3) (dN xs L (σ3.2 + 1) 10) lu25 lu26 p3 (by omega) hL) (cwV 2 hts gX9_found_X9_trip rfl rfl rfl (by decide +kernel) ⟨Nat.le_of_ble_eq_true rfl, Nat.le_of_ble_eq_true rfl⟩) (s_preV hN hX hbl hbA hS hA hK hP hD (ci := 9) (q0 := 98) rfl rfl) rfl rfl hl.1 rfl (lv_room (Nat.le_of_ble_eq_true rfl)) dX9_found_175 ⟨Nat.le_of_ble_eq_true rfl, Nat.le_of_ble_eq_true rfl⟩) (fun y6 H locs hP hD hS => ?_)
  have o4 := tripF_ok xs L (σ := (σ3.1, σ3.2 + 2)) p3 lu25 lu26
  obtain ⟨σ4, s4⟩ : ∃ z : tS, z = tripF xs L (dN xs L σ3.2 3) (dN xs L (σ3.2 + 1) 10) (σ3.1, σ3.2 + 2) := ⟨_, rfl⟩
  have hP : va_P D vwCl (tV ad o9 y6 b cI cO σ4 3 3) H := by rw [s4]; exact hP
  have hD : va_D A (tV ad o9 y6 b cI cO σ4 3 3) := by rw [s4]; exact hD
  rw [← s4] at o4
  have p4 := o4.1
  have e4 : σ4.2 ≤ σ3.2 + 2 + 34 := o4.2.2.2
  refine lv_if_ne (tgt := 183) hx hb dX9_found_178 (by decide) (fun c9 => ?_) (fun c9 => absurd c9 (by decide))
  refine lv_iinc (v := 4) (lv' := [(2, .int 4), (0, .ref o9), (1, .int 6)]) hx hb dX9_found_183 hl (k := 0) rfl (by decide) (by decide) rfl (fun ls hl => ?_)
  refine lv_goto (tgt := 158) hx hb dX9_found_186 (by decide) ?_
  refine lv_iload_n hx hb dX9_found_158 rfl (lv_at hl 0 rfl) ?_
  refine lv_iload_n hx hb dX9_found_159 rfl (lv_at hl 2 rfl) ?_
  refine lv_icmp_ge (tgt := 189) hx hb dX9_found_160 (by decide) (fun c9 => absurd c9 (by decide)) (fun c9 => ?_)
  refine lv_aload_n hx hb dX9_found_163 rfl (lv_at hl 1 rfl) ?_
  refine lv_aload_n hx hb dX9_found_164 rfl (lv_at hl 1 rfl) ?_
  refine lv_iconst (v := 3) hx hb dX9_found_165 (by decide) ?_
  refine g_ki hK hD hS hA (va_runV (As := [.int (nI 3)]) (rest := [.ref o9]) ⟨hx, hb, hml, hown, hts⟩ (kX9_draw l D H.size b L xs ad o9 y6 cI cO σ4.1.1 σ4.2 3 3 σ4.1.2 3 (by decide) (by decide) (by omega) hL) (cwV 1 hts gX9_found_X9_draw rfl rfl rfl (by decide +kernel) ⟨Nat.le_of_ble_eq_true rfl, Nat.le_of_ble_eq_true rfl⟩) (s_preV hN hX hbl hbA hS hA hK hP hD (ci := 9) (q0 := 98) rfl rfl) rfl rfl hl.1 rfl (lv_room (Nat.le_of_ble_eq_true rfl)) dX9_found_166 ⟨Nat.le_of_ble_eq_true rfl, Nat.le_of_ble_eq_true rfl⟩) (fun H locs hP hD hS => ?_)
  obtain ⟨eu27, lu27⟩ := dN_is xs L (σ4.2) (m := 3) (by decide) (by decide)
  rw [eu27]
  refine lv_aload_n hx hb dX9_found_169 rfl (lv_at hl 1 rfl) ?_
  refine lv_bipush (v := 10) hx hb dX9_found_170 (by decide) ?_
  refine g_ki hK hD hS hA (va_runV (As := [.int (nI 10)]) (rest := [.int (nI (dN xs L σ4.2 3)), .ref o9]) ⟨hx, hb, hml, hown, hts⟩ (kX9_draw l D H.size b L xs ad o9 y6 cI cO σ4.1.1 (σ4.2 + 1) 3 3 σ4.1.2 10 (by decide) (by decide) (by omega) hL) (cwV 1 hts gX9_found_X9_draw rfl rfl rfl (by decide +kernel) ⟨Nat.le_of_ble_eq_true rfl, Nat.le_of_ble_eq_true rfl⟩) (s_preV hN hX hbl hbA hS hA hK hP hD (ci := 9) (q0 := 98) rfl rfl) rfl rfl hl.1 rfl (lv_room (Nat.le_of_ble_eq_true rfl)) dX9_found_172 ⟨Nat.le_of_ble_eq_true rfl, Nat.le_of_ble_eq_true rfl⟩) (fun H locs hP hD hS => ?_)
  obtain ⟨eu28, lu28⟩ := dN_is xs L (σ4.2 + 1) (m := 10) (by decide) (by decide)
  rw [eu28]
  refine t_ky hD hS hA (va_runV (As := [.int (nI (dN xs L σ4.2 3)), .int (nI (dN xs L (σ4.2 + 1) 10))]) (rest := []) ⟨hx, hb, hml, hown, hts⟩ (kX9_trip l D H.size b L xs ad o9 y6 cI cO σ4.1.1 (σ4.2 + 2) 3 3 σ4.1.2 (dN xs L σ4.2 3) (dN xs L (σ4.2 + 1) 10) lu27 lu28 p4 (by omega) hL) (cwV 2 hts gX9_found_X9_trip rfl rfl rfl (by decide +kernel) ⟨Nat.le_of_ble_eq_true rfl, Nat.le_of_ble_eq_true rfl⟩) (s_preV hN hX hbl hbA hS hA hK hP hD (ci := 9) (q0 := 98) rfl rfl) rfl rfl hl.1 rfl (lv_room (Nat.le_of_ble_eq_true rfl)) dX9_found_175 ⟨Nat.le_of_ble_eq_true rfl, Nat.le_of_ble_eq_true rfl⟩) (fun y7 H locs hP hD hS => ?_)
  have o5 := tripF_ok xs L (σ := (σ4.1, σ4.2 + 2)) p4 lu27 lu28
  obtain ⟨σ5, s5⟩ : ∃ z : tS, z = tripF xs L (dN xs L σ4.2 3) (dN xs L (σ4.2 + 1) 10) (σ4.1, σ4.2 + 2) := ⟨_, rfl⟩
  have hP : va_P D vwCl (tV ad o9 y7 b cI cO σ5 3 3) H := by rw [s5]; exact hP
  have hD : va_D A (tV ad o9 y7 b cI cO σ5 3 3) := by rw [s5]; exact hD
  rw [← s5] at o5
  have p5 := o5.1
  have e5 : σ5.2 ≤ σ4.2 + 2 + 34 := o5.2.2.2
  refine lv_if_ne (tgt := 183) hx hb dX9_found_178 (by decide) (fun c9 => ?_) (fun c9 => absurd c9 (by decide))
  refine lv_iinc (v := 5) (lv' := [(2, .int 5), (0, .ref o9), (1, .int 6)]) hx hb dX9_found_183 hl (k := 0) rfl (by decide) (by decide) rfl (fun ls hl => ?_)
  refine lv_goto (tgt := 158) hx hb dX9_found_186 (by decide) ?_
  refine lv_iload_n hx hb dX9_found_158 rfl (lv_at hl 0 rfl) ?_
  refine lv_iload_n hx hb dX9_found_159 rfl (lv_at hl 2 rfl) ?_
  refine lv_icmp_ge (tgt := 189) hx hb dX9_found_160 (by decide) (fun c9 => absurd c9 (by decide)) (fun c9 => ?_)
  refine lv_aload_n hx hb dX9_found_163 rfl (lv_at hl 1 rfl) ?_
  refine lv_aload_n hx hb dX9_found_164 rfl (lv_at hl 1 rfl) ?_
  refine lv_iconst (v := 3) hx hb dX9_found_165 (by decide) ?_
  refine g_ki hK hD hS hA (va_runV (As := [.int (nI 3)]) (rest := [.ref o9]) ⟨hx, hb, hml, hown, hts⟩ (kX9_draw l D H.size b L xs ad o9 y7 cI cO σ5.1.1 σ5.2 3 3 σ5.1.2 3 (by decide) (by decide) (by omega) hL) (cwV 1 hts gX9_found_X9_draw rfl rfl rfl (by decide +kernel) ⟨Nat.le_of_ble_eq_true rfl, Nat.le_of_ble_eq_true rfl⟩) (s_preV hN hX hbl hbA hS hA hK hP hD (ci := 9) (q0 := 98) rfl rfl) rfl rfl hl.1 rfl (lv_room (Nat.le_of_ble_eq_true rfl)) dX9_found_166 ⟨Nat.le_of_ble_eq_true rfl, Nat.le_of_ble_eq_true rfl⟩) (fun H locs hP hD hS => ?_)
  obtain ⟨eu29, lu29⟩ := dN_is xs L (σ5.2) (m := 3) (by decide) (by decide)
  rw [eu29]
  refine lv_aload_n hx hb dX9_found_169 rfl (lv_at hl 1 rfl) ?_
  refine lv_bipush (v := 10) hx hb dX9_found_170 (by decide) ?_
  refine g_ki hK hD hS hA (va_runV (As := [.int (nI 10)]) (rest := [.int (nI (dN xs L σ5.2 3)), .ref o9]) ⟨hx, hb, hml, hown, hts⟩ (kX9_draw l D H.size b L xs ad o9 y7 cI cO σ5.1.1 (σ5.2 + 1) 3 3 σ5.1.2 10 (by decide) (by decide) (by omega) hL) (cwV 1 hts gX9_found_X9_draw rfl rfl rfl (by decide +kernel) ⟨Nat.le_of_ble_eq_true rfl, Nat.le_of_ble_eq_true rfl⟩) (s_preV hN hX hbl hbA hS hA hK hP hD (ci := 9) (q0 := 98) rfl rfl) rfl rfl hl.1 rfl (lv_room (Nat.le_of_ble_eq_true rfl)) dX9_found_172 ⟨Nat.le_of_ble_eq_true rfl, Nat.le_of_ble_eq_true rfl⟩) (fun H locs hP hD hS => ?_)
  obtain ⟨eu30, lu30⟩ := dN_is xs L (σ5.2 + 1) (m := 10) (by decide) (by decide)
  rw [eu30]
  refine t_ky hD hS hA (va_runV (As := [.int (nI (dN xs L σ5.2 3)), .int (nI (dN xs L (σ5.2 + 1) 10))]) (rest := []) ⟨hx, hb, hml, hown, hts⟩ (kX9_trip l D H.size b L xs ad o9 y7 cI cO σ5.1.1 (σ5.2 + 2) 3 3 σ5.1.2 (dN xs L σ5.2 3) (dN xs L (σ5.2 + 1) 10) lu29 lu30 p5 (by omega) hL) (cwV 2 hts gX9_found_X9_trip rfl rfl rfl (by decide +kernel) ⟨Nat.le_of_ble_eq_true rfl, Nat.le_of_ble_eq_true rfl⟩) (s_preV hN hX hbl hbA hS hA hK hP hD (ci := 9) (q0 := 98) rfl rfl) rfl rfl hl.1 rfl (lv_room (Nat.le_of_ble_eq_true rfl)) dX9_found_175 ⟨Nat.le_of_ble_eq_true rfl, Nat.le_of_ble_eq_true rfl⟩) (fun y8 H locs hP hD hS => ?_)
  have o6 := tripF_ok xs L (σ := (σ5.1, σ5.2 + 2)) p5 lu29 lu30
  obtain ⟨σ6, s6⟩ : ∃ z : tS, z = tripF xs L (dN xs L σ5.2 3) (dN xs L (σ5.2 + 1) 10) (σ5.1, σ5.2 + 2) := ⟨_, rfl⟩
  have hP : va_P D vwCl (tV ad o9 y8 b cI cO σ6 3 3) H := by rw [s6]; exact hP
  have hD : va_D A (tV ad o9 y8 b cI cO σ6 3 3) := by rw [s6]; exact hD
  rw [← s6] at o6
  have p6 := o6.1
  have e6 : σ6.2 ≤ σ5.2 + 2 + 34 := o6.2.2.2
  refine lv_if_ne (tgt := 183) hx hb dX9_found_178 (by decide) (fun c9 => ?_) (fun c9 => absurd c9 (by decide))
  refine lv_iinc (v := 6) (lv' := [(2, .int 6), (0, .ref o9), (1, .int 6)]) hx hb dX9_found_183 hl (k := 0) rfl (by decide) (by decide) rfl (fun ls hl => ?_)
  refine lv_goto (tgt := 158) hx hb dX9_found_186 (by decide) ?_
  refine lv_iload_n hx hb dX9_found_158 rfl (lv_at hl 0 rfl) ?_
  refine lv_iload_n hx hb dX9_found_159 rfl (lv_at hl 2 rfl) ?_
  refine lv_icmp_ge (tgt := 189) hx hb dX9_found_160 (by decide) (fun c9 => ?_) (fun c9 => absurd (by decide) c9)
  have z0 : foundF xs L dr = tripsL xs L 6 σ0 := by
    rw [s0, t6, t5, t4, t3, t2, t1, t0, f3, f2, f1]
    rfl
  have z1 : tripsL xs L 6 σ0 = tripsL xs L 5 σ1 := by rw [s1]; exact tripsL_s (k := 5)
  have z2 : tripsL xs L 5 σ1 = tripsL xs L 4 σ2 := by rw [s2]; exact tripsL_s (k := 4)
  have z3 : tripsL xs L 4 σ2 = tripsL xs L 3 σ3 := by rw [s3]; exact tripsL_s (k := 3)
  have z4 : tripsL xs L 3 σ3 = tripsL xs L 2 σ4 := by rw [s4]; exact tripsL_s (k := 2)
  have z5 : tripsL xs L 2 σ4 = tripsL xs L 1 σ5 := by rw [s5]; exact tripsL_s (k := 1)
  have z6 : tripsL xs L 1 σ5 = tripsL xs L 0 σ6 := by rw [s6]; exact tripsL_s (k := 0)
  have z9 : foundF xs L dr = σ6 := z0.trans (z1.trans (z2.trans (z3.trans (z4.trans (z5.trans (z6.trans tripsL_0))))))
  refine lv_iconst (v := 1) hx hb dX9_found_189 (by decide) ?_
  refine W.widen (k := 220) (n := 3908) (by decide) (by decide) ?_
  exact g_yret y8 (by rw [z9]) hx hb hr narrow_z1 hlocks hK hP hD hS rfl dX9_found_190
