section LW3
variable {p : Program} {l : Launch} {e : Env} {s : State} {m : MethodId} {args : Array Value} {below : List Frame} {meth : Method} {c : Code} {H : Heap} {locs : List Loc} {cells slots : Nat} {Q : State → Prop}
variable {D : va_G} {A : Nat → Prop} {ad1 ad2 : Nat → Nat} {o1 o2 b L : Nat} {xs : Nat → Int32} {y1 y2 : tA} {cI cO : ClassId} {g h : tG} {dr dr2 n0 n j t0 : Nat}
set_option maxHeartbeats 4000000 in
set_option maxRecDepth 100000 in
theorem s_law_time (hx : p.tables.exec = Jvm.exec) (hb : c.code = code) (hml : c.maxLocals = 18) (hts : ∀ w ∈ lw_tbl, w.before args s = true) (hown : s.vm.findClass RL = some m.cls) (hN : s_N s) (hX : va_X b L xs s s.heap) (hbl : b < s.heap.size) (hbA : ¬ A b) (hA : ∀ q : Nat, s.heap.size ≤ q → A q) (hK : va_K D vwCl (tY_T cI cO) s) (hL : L < 2 ^ 20) (hT : tc_N s) (ht : t0 < 3) (hcl : cells + 749 ≤ 600074) (hsl : slots + 14684 ≤ 7301550) {H : Heap} {locs : List Loc} {ls : Array Slot} (hl : lv_has ls 18 [(1, .int (nI t0)), (0, .ref b)]) (hS : va_S A s.heap H locs) (kk : ∀ (H : Heap) (locs : List Loc) (ls : Array Slot), lv_has ls 18 [(1, .int (nI (t0 + 1))), (0, .ref b)] → va_S A s.heap H locs → W p l e room_1 s m args below meth c H locs (cells + 749) (slots + 14684) Q (F0 m 2 ls [])) : W p l e room_1 s m args below meth c H locs cells slots Q (F0 m 2 ls []) := by
  refine lv_iload_n hx hb dL_law_2 rfl (lv_at hl 0 rfl) ?_
  refine lv_iconst (v := 3) hx hb dL_law_3 (by decide) ?_
  refine lv_icmp_ge (tgt := 536) hx hb dL_law_4 (by decide) (fun c9 => absurd ((nI_geq (b := 3) (by omega) (by decide)).mp c9) (by omega)) (fun c9 => ?_)
  have hP : va_P D vwCl [] H := fun k q h9 => by simp at h9
  have hD : va_D A [] := ⟨fun i j p q h9 => by simp at h9, fun k q h9 => by simp at h9⟩
  obtain ⟨d0, hd0⟩ : ∃ z, z = 31 * t0 + 7 := ⟨_, rfl⟩
  refine va_new (ci := 9) (fs := [.null, .null, .int 0, .null, .null, .null, .null, .int 0, .null]) (C := RX9) (T := TX9) (N := 9) hx hb hts inX9 tyX9 tyX9_ok hown (hts _ (lx_459)) (hts _ (lx_460)) (hts _ (lx_29)) hK hP hD hS hA rfl (fun j hj => by rcases (show j = 0 ∨ j = 1 ∨ j = 2 ∨ j = 3 ∨ j = 4 ∨ j = 5 ∨ j = 6 ∨ j = 7 ∨ j = 8 by omega) with rfl | rfl | rfl | rfl | rfl | rfl | rfl | rfl | rfl <;> rfl) (show cells + 1 ≤ 600074 by omega) (show slots + 9 ≤ 7301550 by omega) dL_law_7 (fun o1 H hP hD hS => ?_)
  refine lv_dup hx hb dL_law_10 rfl ?_
  refine lv_aload_n hx hb dL_law_11 rfl (lv_at hl 1 rfl) ?_
  refine lv_bipush (v := 31) hx hb dL_law_12 (by decide) ?_
  refine lv_iload_n hx hb dL_law_14 rfl (lv_at hl 0 rfl) ?_
  refine lv_imul hx hb dL_law_15 ?_
  refine lv_bipush (v := 7) hx hb dL_law_16 (by decide) ?_
  refine lv_iadd hx hb dL_law_18 ?_
  rw [show (31 : Int32) * nI t0 + 7 = nI d0 from by rw [hd0, show (31 : Int32) * nI t0 = nI (31 * t0) from nI_mul 31 t0]; exact nI_add _ 7]
  have hP : va_P D vwCl ([(o1, .inr (9, [.null, .null, .int 0, .null, .null, .null, .null, .int 0, .null]))] ++ ([] : va_W)) H := hP
  have hD : va_D A ([(o1, .inr (9, [.null, .null, .int 0, .null, .null, .null, .null, .int 0, .null]))] ++ ([] : va_W)) := hD
  refine t_kn (a := [(o1, .inr (9, [.null, .null, .int 0, .null, .null, .null, .null, .int 0, .null]))]) (b := ([] : va_W)) hP hD hS hA (va_runI (As := [.ref b, .int (nI d0)]) (rest := [.ref o1]) ⟨hx, hb, hml, hown, hts⟩ (kX9_init l D H.size b o1 d0 cI cO) (cwI 2 hts gl_X9_init rfl rfl rfl (hts _ (lx_29)) (hts _ (lx_461)) (hts _ (lx_462)) rfl (by decide +kernel) ⟨Nat.le_of_ble_eq_true rfl, Nat.le_of_ble_eq_true rfl⟩) (i_preS hT hN.2.2 hK (pre_P hP) (pre_D hD)) rfl rfl hl.1 rfl (lv_room (Nat.le_of_ble_eq_true rfl)) dL_law_19 ⟨(show cells + 1 + 104 ≤ 600074 by omega), (show slots + 9 + 2291 ≤ 7301550 by omega)⟩) (fun u1 H locs hP hD hS => ?_)
  obtain ⟨ad1, y1⟩ := u1
  have hP : va_P D vwCl (tW ad1 o1 y1 b cI cO tc_0 d0 0 1 0) H := by rw [← List.append_nil (tW ad1 o1 y1 b cI cO tc_0 d0 0 1 0)]; exact hP
  have hD : va_D A (tW ad1 o1 y1 b cI cO tc_0 d0 0 1 0) := by rw [← List.append_nil (tW ad1 o1 y1 b cI cO tc_0 d0 0 1 0)]; exact hD
  refine lv_astore_n (lv' := [(2, .ref o1), (1, .int (nI t0)), (0, .ref b)]) hx hb dL_law_22 rfl hl (by decide) rfl (fun ls hl => ?_)
  refine va_new (ci := 9) (fs := [.null, .null, .int 0, .null, .null, .null, .null, .int 0, .null]) (C := RX9) (T := TX9) (N := 9) hx hb hts inX9 tyX9 tyX9_ok hown (hts _ (lx_459)) (hts _ (lx_460)) (hts _ (lx_29)) hK hP hD hS hA rfl (fun j hj => by rcases (show j = 0 ∨ j = 1 ∨ j = 2 ∨ j = 3 ∨ j = 4 ∨ j = 5 ∨ j = 6 ∨ j = 7 ∨ j = 8 by omega) with rfl | rfl | rfl | rfl | rfl | rfl | rfl | rfl | rfl <;> rfl) (show cells + 1 + 104 + 1 ≤ 600074 by omega) (show slots + 9 + 2291 + 9 ≤ 7301550 by omega) dL_law_23 (fun o2 H hP hD hS => ?_)
  refine lv_dup hx hb dL_law_26 rfl ?_
  refine lv_aload_n hx hb dL_law_27 rfl (lv_at hl 2 rfl) ?_
  refine lv_bipush (v := 31) hx hb dL_law_28 (by decide) ?_
  refine lv_iload_n hx hb dL_law_30 rfl (lv_at hl 1 rfl) ?_
  refine lv_imul hx hb dL_law_31 ?_
  refine lv_bipush (v := 7) hx hb dL_law_32 (by decide) ?_
  refine lv_iadd hx hb dL_law_34 ?_
  rw [show (31 : Int32) * nI t0 + 7 = nI d0 from by rw [hd0, show (31 : Int32) * nI t0 = nI (31 * t0) from nI_mul 31 t0]; exact nI_add _ 7]
  have hP := swap_P hP
  have hD := swap_D hD
  refine t_kn (a := [(o2, .inr (9, [.null, .null, .int 0, .null, .null, .null, .null, .int 0, .null]))]) (b := tW ad1 o1 y1 b cI cO tc_0 d0 0 1 0) hP hD hS hA (va_runI (As := [.ref b, .int (nI d0)]) (rest := [.ref o2]) ⟨hx, hb, hml, hown, hts⟩ (kX9_init l D H.size b o2 d0 cI cO) (cwI 2 hts gl_X9_init rfl rfl rfl (hts _ (lx_29)) (hts _ (lx_461)) (hts _ (lx_462)) rfl (by decide +kernel) ⟨Nat.le_of_ble_eq_true rfl, Nat.le_of_ble_eq_true rfl⟩) (i_preS hT hN.2.2 hK (pre_P hP) (pre_D hD)) rfl rfl hl.1 rfl (lv_room (Nat.le_of_ble_eq_true rfl)) dL_law_35 ⟨(show cells + 1 + 104 + 1 + 104 ≤ 600074 by omega), (show slots + 9 + 2291 + 9 + 2291 ≤ 7301550 by omega)⟩) (fun u2 H locs hP hD hS => ?_)
  obtain ⟨ad2, y2⟩ := u2
  have hP : va_P D vwCl (tW ad1 o1 y1 b cI cO tc_0 d0 0 1 0 ++ tW ad2 o2 y2 b cI cO tc_0 d0 0 1 0) H := swap_P hP
  have hD : va_D A (tW ad1 o1 y1 b cI cO tc_0 d0 0 1 0 ++ tW ad2 o2 y2 b cI cO tc_0 d0 0 1 0) := swap_D hD
  refine lv_astore_n (lv' := [(3, .ref o2), (2, .ref o1), (1, .int (nI t0)), (0, .ref b)]) hx hb dL_law_38 rfl hl (by decide) rfl (fun ls hl => ?_)
  refine lv_aload_n hx hb dL_law_39 rfl (lv_at hl 1 rfl) ?_
  refine va_get (D := D) (ci := 9) (v := .ref (ad1 0)) (C := RX9) (T := TX9) (N := 9) hx hb hts inX9 hown hK hP 98 (get_left tW_o) rfl 0 (by decide) (hts _ (lx_778)) (fun _ h9 => h9) rfl dL_law_40 ?_
  refine lv_astore (lv' := [(4, .ref (ad1 0)), (3, .ref o2), (2, .ref o1), (1, .int (nI t0)), (0, .ref b)]) hx hb dL_law_43 hl (by decide) rfl (fun ls hl => ?_)
  refine lv_aload_n hx hb dL_law_45 rfl (lv_at hl 2 rfl) ?_
  refine lv_bipush (v := 6) hx hb dL_law_46 (by decide) ?_
  refine t_kf hP hD hS hA (va_runV (As := [.int 6]) (rest := []) ⟨hx, hb, hml, hown, hts⟩ (kX9_found l D H.size b L xs ad1 o1 y1 cI cO d0 (by omega) hL) (cwV 1 hts gl_X9_found rfl rfl rfl (by decide +kernel) ⟨Nat.le_of_ble_eq_true rfl, Nat.le_of_ble_eq_true rfl⟩) (s_preV hN hX hbl hbA hS hA hK (pre_P hP) (pre_D hD) (ci := 9) (q0 := 98) rfl rfl) rfl rfl hl.1 rfl (lv_room (Nat.le_of_ble_eq_true rfl)) dL_law_48 ⟨(show cells + 1 + 104 + 1 + 104 + 220 ≤ 600074 by omega), (show slots + 9 + 2291 + 9 + 2291 + 3908 ≤ 7301550 by omega)⟩) (fun r y1 H locs hr1 hP hD hS => ?_)
  rw [hr1]
  refine lv_if_eq (tgt := 63) hx hb dL_law_51 (by decide) (fun c9 => absurd c9 (by decide)) (fun c9 => ?_)
  have hP := swap_P hP
  have hD := swap_D hD
  refine lv_aload_n hx hb dL_law_54 rfl (lv_at hl 1 rfl) ?_
  refine lv_bipush (v := 6) hx hb dL_law_55 (by decide) ?_
  refine t_kf hP hD hS hA (va_runV (As := [.int 6]) (rest := []) ⟨hx, hb, hml, hown, hts⟩ (kX9_found l D H.size b L xs ad2 o2 y2 cI cO d0 (by omega) hL) (cwV 1 hts gl_X9_found rfl rfl rfl (by decide +kernel) ⟨Nat.le_of_ble_eq_true rfl, Nat.le_of_ble_eq_true rfl⟩) (s_preV hN hX hbl hbA hS hA hK (pre_P hP) (pre_D hD) (ci := 9) (q0 := 98) rfl rfl) rfl rfl hl.1 rfl (lv_room (Nat.le_of_ble_eq_true rfl)) dL_law_57 ⟨(show cells + 1 + 104 + 1 + 104 + 220 + 220 ≤ 600074 by omega), (show slots + 9 + 2291 + 9 + 2291 + 3908 + 3908 ≤ 7301550 by omega)⟩) (fun r y2 H locs hr1 hP hD hS => ?_)
  rw [hr1]
  refine lv_if_ne (tgt := 65) hx hb dL_law_60 (by decide) (fun c9 => ?_) (fun c9 => absurd c9 (by decide))
  obtain ⟨rg, tl, d9⟩ := foundF_ok xs L d0
  obtain ⟨σ, hσ⟩ : ∃ z : tS, z = foundF xs L d0 := ⟨_, rfl⟩
  rw [← hσ] at rg tl d9
  have hP : va_P D vwCl (tW ad1 o1 y1 b cI cO σ.1.1 σ.2 3 3 σ.1.2 ++ (tW ad2 o2 y2 b cI cO σ.1.1 σ.2 3 3 σ.1.2 ++ ([] : va_W))) H := by rw [List.append_nil, hσ]; exact swap_P hP
  have hD : va_D A (tW ad1 o1 y1 b cI cO σ.1.1 σ.2 3 3 σ.1.2 ++ (tW ad2 o2 y2 b cI cO σ.1.1 σ.2 3 3 σ.1.2 ++ ([] : va_W))) := by rw [List.append_nil, hσ]; exact swap_D hD
  refine lv_iconst (v := 0) hx hb dL_law_65 (by decide) ?_
  refine lv_istore (lv' := [(5, .int 0), (4, .ref (ad1 0)), (3, .ref o2), (2, .ref o1), (1, .int (nI t0)), (0, .ref b)]) hx hb dL_law_66 hl (by decide) rfl (fun ls hl => ?_)
  have x0 : XTR σ.1.1 σ.1.1 σ.1.2 σ.1.2 0 := ⟨rg.1, rg.1, SAME.rf, rg.2.1, tl, Nat.le_refl _, rg.2.2, fun a h1 h2 => absurd h1 (by omega)⟩
  refine s_law_taps hx hb hml hts hown hN hX hbl hbA hA hK hL (cells := cells + 1 + 104 + 1 + 104 + 220 + 220) (slots := slots + 9 + 2291 + 9 + 2291 + 3908 + 3908) (by omega) (by omega) 6 0 σ.1.2 σ.2 σ.1.1 σ.1.1 H locs ls rfl x0 (by omega) (lv_sub hl [0, 1, 2, 3, 4, 5] rfl) hP hD hS (fun n dr j g h H locs ls x hl hP hD hS => ?_)
  refine s_law_end hx hb hml hts hown hN hX hbl hbA hA hK hL (mc0 := 0) (ms0 := 0) (cells := cells + 1 + 104 + 1 + 104 + 220 + 220) (slots := slots + 9 + 2291 + 9 + 2291 + 3908 + 3908) (by omega) (by omega) hT x hl hP hD hS (fun H locs ls hl hS => ?_)
  refine lv_iinc (v := nI (t0 + 1)) (lv' := [(1, .int (nI (t0 + 1))), (0, .ref b)]) hx hb dL_law_530 hl (k := 0) rfl (nI_1 t0) (by decide) rfl (fun ls hl => ?_)
  refine lv_goto (tgt := 2) hx hb dL_law_533 (by decide) ?_
  refine W.widen (k := cells + 749) (n := slots + 14684) (by omega) (by omega) ?_
  exact kk H locs ls hl hS
end LW3
