set_option maxHeartbeats 4000000 in
set_option maxRecDepth 100000 in
theorem kX8_digestDay (l : Launch) (D : va_G) (ad : Nat → Nat) (cI : ClassId) (g : tG) (sz : Nat) (x0 : Int64) (x1 : Int32) : Met l yX8_digestDay wsX8_digestDay ({ frames := 4, cells := 0, slots := 0, locals := 101 } : Room) (g_P D [(cI, .int)] (tcW ad cI g) [.ref (ad 0), .long x0, .int x1] sz) (g_Ql D [(cI, .int)] (va_A (tcW ad cI g) sz) (tcW ad cI g) (fX8_digestDay_r g x0 x1)) 0 0 (va_A (tcW ad cI g) sz) := by
  refine Met.ofW (cc := cX8_digestDay) (maxL := 9) (ret := (some .long)) (by decide) rfl ?_
  intro p e s m args below meth c9 s₁ B hml hv
  obtain ⟨rfl, hsz, hP, hK, hD0⟩ := hv
  have hx := B.exec
  have hb := B.bytes
  have hr := B.returns
  have hts := atoms_spec (ws := wsX8_digestDay) B.pre
  have hown : s.vm.findClass RX8 = some m.cls := findClass_of_methodNamed B.named
  have hlocks := B.notSynchronized
  subst hsz
  have hD := hD0.self (sz := s.heap.size)
  generalize hAe : va_A (tcW ad cI g) s.heap.size = A at hD ⊢
  have hA : ∀ q : Nat, s.heap.size ≤ q → A q := fun q h => by rw [← hAe]; exact Or.inr h
  have hS : va_S A s.heap s.heap [] := va_S.rf
  have hl := lv_entry ([.ref (ad 0), .long x0, .int x1]) (n := 9) (Nat.le_of_ble_eq_true rfl)
  rw [lg_entry_eq]
  generalize (lg_sl ([.ref (ad 0), .long x0, .int x1]) ++ List.replicate (9 - (lg_sl ([.ref (ad 0), .long x0, .int x1])).length) Slot.unset).toArray = ls at hl ⊢
  have hl : lv_has ls 9 [(0, .ref (ad 0)), (1, .long x0), (3, .int x1)] := hl
  have winX3 : ∀ w ∈ u_ws RX3 TX3 15, w ∈ wsX8_digestDay := by decide +kernel
  have winX5 : ∀ w ∈ u_ws RX5 TX5 1, w ∈ wsX8_digestDay := by decide +kernel
  have winX8 : ∀ w ∈ u_ws RX8 TX8 9, w ∈ wsX8_digestDay := by decide +kernel
  refine lv_lload_n hx hb dX8_digestDay_0 rfl (lv_at hl 1 rfl) ?_
  refine lv_lstore (lv' := [(4, .long x0), (0, .ref (ad 0)), (1, .long x0), (3, .int x1)]) hx hb dX8_digestDay_1 hl (by decide) rfl (fun ls hl => ?_)
  refine lv_iconst (v := 0) hx hb dX8_digestDay_3 (by decide) ?_
  refine lv_istore (lv' := [(6, .int 0), (4, .long x0), (0, .ref (ad 0)), (1, .long x0), (3, .int x1)]) hx hb dX8_digestDay_4 hl (by decide) rfl (fun ls hl => ?_)
  have hl : lv_has ls 9 [(6, .int 0), (4, .long x0), (0, .ref (ad 0)), (3, .int x1)] := lv_sub hl [0, 1, 2, 4] rfl
  have loop6 : ∀ (n : Nat)  (i1 : Int32) (i2 : Int64), lpE (sX8_digestDay_6 g x1) n (i1, i2) → ∀ (H : Heap) (locs : List Loc), va_P D vwCl (tcW ad cI g) H → va_D A (tcW ad cI g) → va_S A s.heap H locs → ∀ (ls : Array Slot), lv_has ls 9 [(6, .int i1), (4, .long i2), (0, .ref (ad 0)), (3, .int x1)] → (∀ r : Int32 × Int64, r = lp (sX8_digestDay_6 g x1) n (i1, i2) → ∀ (H : Heap) (locs : List Loc), va_P D vwCl (tcW ad cI g) H → va_D A (tcW ad cI g) → va_S A s.heap H locs → ∀ (ls : Array Slot), lv_has ls 9 [(6, .int r.1), (4, .long r.2), (0, .ref (ad 0)), (3, .int x1)] → W p l e (headSpec wsX8_digestDay ({ frames := 4, cells := 0, slots := 0, locals := 101 } : Room)).room s m ([.ref (ad 0), .long x0, .int x1] : List Value).toArray below meth c9 H locs 0 0 (MQ below (g_Ql D [(cI, .int)] A (tcW ad cI g) (fX8_digestDay_r g x0 x1)) ([.ref (ad 0), .long x0, .int x1] : List Value).toArray s 0 0 A) (F0 m 36 ls [])) → W p l e (headSpec wsX8_digestDay ({ frames := 4, cells := 0, slots := 0, locals := 101 } : Room)).room s m ([.ref (ad 0), .long x0, .int x1] : List Value).toArray below meth c9 H locs 0 0 (MQ below (g_Ql D [(cI, .int)] A (tcW ad cI g) (fX8_digestDay_r g x0 x1)) ([.ref (ad 0), .long x0, .int x1] : List Value).toArray s 0 0 A) (F0 m 6 ls []) := by
    refine lp_ind ?_
    intro n ih i1 i2 hE H locs hP hD hS ls hl kk
    refine lv_iload hx hb dX8_digestDay_6 (lv_at hl 0 rfl) ?_
    refine lv_bipush (v := 7) hx hb dX8_digestDay_8 (by decide) ?_
    refine lv_icmp_gt (tgt := 36) hx hb dX8_digestDay_10 (by decide) (fun c1 => ?_) (fun c1 => ?_)
    · have hs := eX8_digestDay_6_1 g x1 i1 i2 c1
      exact kk _ (lp_none hs).symm H locs hP hD hS ls (lv_sub hl [0, 1, 2, 3] rfl)
    · refine lv_lload hx hb dX8_digestDay_13 (lv_at hl 1 rfl) ?_
      refine lv_ldc2 hx hb hown (hts (.constantLong RX8 240 (31)) (List.mem_of_getElem? (i := 1) rfl)) dX8_digestDay_15 ?_
      refine lv_lmul hx hb dX8_digestDay_18 ?_
      refine lv_aload_n hx hb dX8_digestDay_19 rfl (lv_at hl 2 rfl) ?_
      refine lv_iload_n hx hb dX8_digestDay_20 rfl (lv_at hl 3 rfl) ?_
      refine lv_iload hx hb dX8_digestDay_21 (lv_at hl 0 rfl) ?_
      refine g_ki hK hD hS hA (va_runV (As := [.int x1, .int i1]) (rest := [.long (i2 * 31)]) ⟨hx, hb, hml, hown, hts⟩ (kX8_dayAnswer l D ad cI g H.size x1 i1) (cwV 2 hts gX8_digestDay_X8_dayAnswer rfl rfl rfl (by decide +kernel) ⟨Nat.le_of_ble_eq_true rfl, Nat.le_of_ble_eq_true rfl⟩) (g_preV hK hP hD (ci := 8) (q0 := 0) rfl rfl) rfl rfl hl.1 rfl (lv_room (Nat.le_of_ble_eq_true rfl)) dX8_digestDay_23 ⟨Nat.le_of_ble_eq_true rfl, Nat.le_of_ble_eq_true rfl⟩) (fun H locs hP hD hS => ?_)
      refine lv_i2l (v := (fX8_dayAnswer_r g x1 i1).toInt64) hx hb dX8_digestDay_26 rfl ?_
      refine lv_ladd hx hb dX8_digestDay_27 ?_
      refine lv_topl (fun v1 hv1 => ?_)
      refine lv_lstore (lv' := [(4, .long v1), (6, .int i1), (0, .ref (ad 0)), (3, .int x1)]) hx hb dX8_digestDay_28 hl (by decide) rfl (fun ls hl => ?_)
      refine lv_iinc (v := i1 + 1) (lv' := [(6, .int (i1 + 1)), (4, .long v1), (0, .ref (ad 0)), (3, .int x1)]) hx hb dX8_digestDay_30 hl (k := 1) rfl rfl (by decide) rfl (fun ls hl => ?_)
      refine lv_goto (tgt := 6) hx hb dX8_digestDay_33 (by decide) ?_
      have hs := eX8_digestDay_6_2 g x1 i1 i2 c1 hv1
      obtain ⟨n9, hn9, hE9, hr9⟩ := lpE_next hE hs
      exact ih n9 (by omega) (i1 + 1) v1 hE9 H locs hP hD hS ls (lv_sub hl [0, 1, 2, 3] rfl) (fun r hr => kk r (hr.trans hr9.symm))
  refine loop6 8 0 x0 (tX8_digestDay_6 g x1 x0) _ _ hP hD hS ls hl (fun r1 hr1 H locs hP hD hS ls hl => ?_)
  have hl : lv_has ls 9 [(4, .long r1.2), (0, .ref (ad 0)), (3, .int x1)] := lv_sub hl [1, 2, 3] rfl
  refine lv_aload_n hx hb dX8_digestDay_36 rfl (lv_at hl 1 rfl) ?_
  refine va_get (D := D) (ci := 8) (v := .ref (ad 43)) (C := RX8) (T := TX8) (N := 9) hx hb hts winX8 hown hK hP 0 rfl rfl 4 (by decide) (hts (.fieldLink RX8 40 "TapCap" "legs" "LTapCap$Legs;") (List.mem_of_getElem? (i := 2) rfl)) (fun _ h9 => h9) rfl dX8_digestDay_37 ?_
  refine va_get (D := D) (ci := 3) (v := .ref (ad 62)) (C := RX3) (T := TX3) (N := 15) hx hb hts winX3 hown hK hP 43 rfl rfl 9 (by decide) (hts (.fieldLink RX8 284 "TapCap$Legs" "tapsOn" "LTapCap$Row;") (List.mem_of_getElem? (i := 3) rfl)) (fun _ h9 => h9) rfl dX8_digestDay_40 ?_
  refine lv_iload_n hx hb dX8_digestDay_43 rfl (lv_at hl 2 rfl) ?_
  refine g_ki hK hD hS hA (va_runV (As := [.int x1]) (rest := []) ⟨hx, hb, hml, hown, hts⟩ (k_tc_at l D ad cI g H.size 28 (by decide) x1) (cwV 1 hts gX8_digestDay_X5_at rfl rfl rfl (by decide +kernel) ⟨Nat.le_of_ble_eq_true rfl, Nat.le_of_ble_eq_true rfl⟩) (g_preV hK hP hD (ci := 5) (q0 := 62) rfl rfl) rfl rfl hl.1 rfl (lv_room (Nat.le_of_ble_eq_true rfl)) dX8_digestDay_44 ⟨Nat.le_of_ble_eq_true rfl, Nat.le_of_ble_eq_true rfl⟩) (fun H locs hP hD hS => ?_)
  refine lv_if_ne (tgt := 53) hx hb dX8_digestDay_47 (by decide) (fun c2 => ?_) (fun c2 => ?_)
  · refine lv_iconst (v := 0) hx hb dX8_digestDay_53 (by decide) ?_
    refine lv_istore (lv' := [(6, .int 0), (4, .long r1.2), (0, .ref (ad 0)), (3, .int x1)]) hx hb dX8_digestDay_54 hl (by decide) rfl (fun ls hl => ?_)
    have loop56 : ∀ (n : Nat)  (i3 : Int32) (i4 : Int64), lpE (sX8_digestDay_56 g x1) n (i3, i4) → ∀ (H : Heap) (locs : List Loc), va_P D vwCl (tcW ad cI g) H → va_D A (tcW ad cI g) → va_S A s.heap H locs → ∀ (ls : Array Slot), lv_has ls 9 [(6, .int i3), (4, .long i4), (0, .ref (ad 0)), (3, .int x1)] → (∀ r : Int32 × Int64, r = lp (sX8_digestDay_56 g x1) n (i3, i4) → ∀ (H : Heap) (locs : List Loc), va_P D vwCl (tcW ad cI g) H → va_D A (tcW ad cI g) → va_S A s.heap H locs → ∀ (ls : Array Slot), lv_has ls 9 [(6, .int r.1), (4, .long r.2), (0, .ref (ad 0)), (3, .int x1)] → W p l e (headSpec wsX8_digestDay ({ frames := 4, cells := 0, slots := 0, locals := 101 } : Room)).room s m ([.ref (ad 0), .long x0, .int x1] : List Value).toArray below meth c9 H locs 0 0 (MQ below (g_Ql D [(cI, .int)] A (tcW ad cI g) (fX8_digestDay_r g x0 x1)) ([.ref (ad 0), .long x0, .int x1] : List Value).toArray s 0 0 A) (F0 m 85 ls [])) → W p l e (headSpec wsX8_digestDay ({ frames := 4, cells := 0, slots := 0, locals := 101 } : Room)).room s m ([.ref (ad 0), .long x0, .int x1] : List Value).toArray below meth c9 H locs 0 0 (MQ below (g_Ql D [(cI, .int)] A (tcW ad cI g) (fX8_digestDay_r g x0 x1)) ([.ref (ad 0), .long x0, .int x1] : List Value).toArray s 0 0 A) (F0 m 56 ls []) := by
      refine lp_ind ?_
      intro n ih i3 i4 hE H locs hP hD hS ls hl kk
      refine lv_iload hx hb dX8_digestDay_56 (lv_at hl 0 rfl) ?_
      refine lv_iconst (v := 3) hx hb dX8_digestDay_58 (by decide) ?_
      refine lv_icmp_ge (tgt := 85) hx hb dX8_digestDay_59 (by decide) (fun c3 => ?_) (fun c3 => ?_)
      · have hs := eX8_digestDay_56_1 g x1 i3 i4 c3
        exact kk _ (lp_none hs).symm H locs hP hD hS ls (lv_sub hl [0, 1, 2, 3] rfl)
      · refine lv_lload hx hb dX8_digestDay_62 (lv_at hl 1 rfl) ?_
        refine lv_ldc2 hx hb hown (hts (.constantLong RX8 240 (31)) (List.mem_of_getElem? (i := 1) rfl)) dX8_digestDay_64 ?_
        refine lv_lmul hx hb dX8_digestDay_67 ?_
        refine lv_aload_n hx hb dX8_digestDay_68 rfl (lv_at hl 2 rfl) ?_
        refine lv_iload hx hb dX8_digestDay_69 (lv_at hl 0 rfl) ?_
        refine lv_iload_n hx hb dX8_digestDay_71 rfl (lv_at hl 3 rfl) ?_
        refine g_ki hK hD hS hA (va_runV (As := [.int i3, .int x1]) (rest := [.long (i4 * 31)]) ⟨hx, hb, hml, hown, hts⟩ (kX8_shareAnswer l D ad cI g H.size i3 x1) (cwV 2 hts gX8_digestDay_X8_shareAnswer rfl rfl rfl (by decide +kernel) ⟨Nat.le_of_ble_eq_true rfl, Nat.le_of_ble_eq_true rfl⟩) (g_preV hK hP hD (ci := 8) (q0 := 0) rfl rfl) rfl rfl hl.1 rfl (lv_room (Nat.le_of_ble_eq_true rfl)) dX8_digestDay_72 ⟨Nat.le_of_ble_eq_true rfl, Nat.le_of_ble_eq_true rfl⟩) (fun H locs hP hD hS => ?_)
        refine lv_i2l (v := (fX8_shareAnswer_r g i3 x1).toInt64) hx hb dX8_digestDay_75 rfl ?_
        refine lv_ladd hx hb dX8_digestDay_76 ?_
        refine lv_topl (fun v2 hv2 => ?_)
        refine lv_lstore (lv' := [(4, .long v2), (6, .int i3), (0, .ref (ad 0)), (3, .int x1)]) hx hb dX8_digestDay_77 hl (by decide) rfl (fun ls hl => ?_)
        refine lv_iinc (v := i3 + 1) (lv' := [(6, .int (i3 + 1)), (4, .long v2), (0, .ref (ad 0)), (3, .int x1)]) hx hb dX8_digestDay_79 hl (k := 1) rfl rfl (by decide) rfl (fun ls hl => ?_)
        refine lv_goto (tgt := 56) hx hb dX8_digestDay_82 (by decide) ?_
        have hs := eX8_digestDay_56_2 g x1 i3 i4 c3 hv2
        obtain ⟨n9, hn9, hE9, hr9⟩ := lpE_next hE hs
        exact ih n9 (by omega) (i3 + 1) v2 hE9 H locs hP hD hS ls (lv_sub hl [0, 1, 2, 3] rfl) (fun r hr => kk r (hr.trans hr9.symm))
    refine loop56 3 0 r1.2 (tX8_digestDay_56 g x1 r1.2) _ _ hP hD hS ls hl (fun r2 hr2 H locs hP hD hS ls hl => ?_)
    have hl : lv_has ls 9 [(4, .long r2.2), (0, .ref (ad 0)), (3, .int x1)] := lv_sub hl [1, 2, 3] rfl
    refine lv_aload_n hx hb dX8_digestDay_85 rfl (lv_at hl 1 rfl) ?_
    refine va_get (D := D) (ci := 8) (v := .ref (ad 43)) (C := RX8) (T := TX8) (N := 9) hx hb hts winX8 hown hK hP 0 rfl rfl 4 (by decide) (hts (.fieldLink RX8 40 "TapCap" "legs" "LTapCap$Legs;") (List.mem_of_getElem? (i := 2) rfl)) (fun _ h9 => h9) rfl dX8_digestDay_86 ?_
    refine va_get (D := D) (ci := 3) (v := .ref (ad 58)) (C := RX3) (T := TX3) (N := 15) hx hb hts winX3 hown hK hP 43 rfl rfl 7 (by decide) (hts (.fieldLink RX8 203 "TapCap$Legs" "firstOn" "LTapCap$Row;") (List.mem_of_getElem? (i := 4) rfl)) (fun _ h9 => h9) rfl dX8_digestDay_89 ?_
    refine lv_iload_n hx hb dX8_digestDay_92 rfl (lv_at hl 2 rfl) ?_
    refine g_ki hK hD hS hA (va_runV (As := [.int x1]) (rest := []) ⟨hx, hb, hml, hown, hts⟩ (k_tc_at l D ad cI g H.size 26 (by decide) x1) (cwV 1 hts gX8_digestDay_X5_at rfl rfl rfl (by decide +kernel) ⟨Nat.le_of_ble_eq_true rfl, Nat.le_of_ble_eq_true rfl⟩) (g_preV hK hP hD (ci := 5) (q0 := 58) rfl rfl) rfl rfl hl.1 rfl (lv_room (Nat.le_of_ble_eq_true rfl)) dX8_digestDay_93 ⟨Nat.le_of_ble_eq_true rfl, Nat.le_of_ble_eq_true rfl⟩) (fun H locs hP hD hS => ?_)
    refine lv_topi (fun v3 hv3 => ?_)
    refine lv_istore (lv' := [(6, .int v3), (4, .long r2.2), (0, .ref (ad 0)), (3, .int x1)]) hx hb dX8_digestDay_96 hl (by decide) rfl (fun ls hl => ?_)
    refine lv_iconst (v := 0) hx hb dX8_digestDay_98 (by decide) ?_
    refine lv_istore (lv' := [(7, .int 0), (6, .int v3), (4, .long r2.2), (0, .ref (ad 0)), (3, .int x1)]) hx hb dX8_digestDay_99 hl (by decide) rfl (fun ls hl => ?_)
    have loop101 : ∀ (n : Nat)  (i5 : Int32) (i6 : Int64), lpE (sX8_digestDay_101 g x1 v3) n (i5, i6) → ∀ (H : Heap) (locs : List Loc), va_P D vwCl (tcW ad cI g) H → va_D A (tcW ad cI g) → va_S A s.heap H locs → ∀ (ls : Array Slot), lv_has ls 9 [(7, .int i5), (6, .int v3), (4, .long i6), (0, .ref (ad 0)), (3, .int x1)] → (∀ r : Int32 × Int64, r = lp (sX8_digestDay_101 g x1 v3) n (i5, i6) → ∀ (H : Heap) (locs : List Loc), va_P D vwCl (tcW ad cI g) H → va_D A (tcW ad cI g) → va_S A s.heap H locs → ∀ (ls : Array Slot), lv_has ls 9 [(7, .int r.1), (6, .int v3), (4, .long r.2), (0, .ref (ad 0)), (3, .int x1)] → W p l e (headSpec wsX8_digestDay ({ frames := 4, cells := 0, slots := 0, locals := 101 } : Room)).room s m ([.ref (ad 0), .long x0, .int x1] : List Value).toArray below meth c9 H locs 0 0 (MQ below (g_Ql D [(cI, .int)] A (tcW ad cI g) (fX8_digestDay_r g x0 x1)) ([.ref (ad 0), .long x0, .int x1] : List Value).toArray s 0 0 A) (F0 m 160 ls [])) → W p l e (headSpec wsX8_digestDay ({ frames := 4, cells := 0, slots := 0, locals := 101 } : Room)).room s m ([.ref (ad 0), .long x0, .int x1] : List Value).toArray below meth c9 H locs 0 0 (MQ below (g_Ql D [(cI, .int)] A (tcW ad cI g) (fX8_digestDay_r g x0 x1)) ([.ref (ad 0), .long x0, .int x1] : List Value).toArray s 0 0 A) (F0 m 101 ls []) := by
      refine lp_ind ?_
      intro n ih i5 i6 hE H locs hP hD hS ls hl kk
      refine lv_iload hx hb dX8_digestDay_101 (lv_at hl 0 rfl) ?_
      refine lv_aload_n hx hb dX8_digestDay_103 rfl (lv_at hl 3 rfl) ?_
      refine va_get (D := D) (ci := 8) (v := .ref (ad 43)) (C := RX8) (T := TX8) (N := 9) hx hb hts winX8 hown hK hP 0 rfl rfl 4 (by decide) (hts (.fieldLink RX8 40 "TapCap" "legs" "LTapCap$Legs;") (List.mem_of_getElem? (i := 2) rfl)) (fun _ h9 => h9) rfl dX8_digestDay_104 ?_
      refine va_get (D := D) (ci := 3) (v := .ref (ad 60)) (C := RX3) (T := TX3) (N := 15) hx hb hts winX3 hown hK hP 43 rfl rfl 8 (by decide) (hts (.fieldLink RX8 200 "TapCap$Legs" "countOn" "LTapCap$Row;") (List.mem_of_getElem? (i := 5) rfl)) (fun _ h9 => h9) rfl dX8_digestDay_107 ?_
      refine lv_iload_n hx hb dX8_digestDay_110 rfl (lv_at hl 4 rfl) ?_
      refine g_ki hK hD hS hA (va_runV (As := [.int x1]) (rest := [.int i5]) ⟨hx, hb, hml, hown, hts⟩ (k_tc_at l D ad cI g H.size 27 (by decide) x1) (cwV 1 hts gX8_digestDay_X5_at rfl rfl rfl (by decide +kernel) ⟨Nat.le_of_ble_eq_true rfl, Nat.le_of_ble_eq_true rfl⟩) (g_preV hK hP hD (ci := 5) (q0 := 60) rfl rfl) rfl rfl hl.1 rfl (lv_room (Nat.le_of_ble_eq_true rfl)) dX8_digestDay_111 ⟨Nat.le_of_ble_eq_true rfl, Nat.le_of_ble_eq_true rfl⟩) (fun H locs hP hD hS => ?_)
      refine lv_icmp_ge (tgt := 160) hx hb dX8_digestDay_114 (by decide) (fun c4 => ?_) (fun c4 => ?_)
      · have hs := eX8_digestDay_101_1 g x1 v3 i5 i6 c4
        exact kk _ (lp_none hs).symm H locs hP hD hS ls (lv_sub hl [0, 1, 2, 3, 4] rfl)
      · refine lv_iconst (v := 0) hx hb dX8_digestDay_117 (by decide) ?_
        refine lv_istore (lv' := [(8, .int 0), (7, .int i5), (6, .int v3), (4, .long i6), (0, .ref (ad 0)), (3, .int x1)]) hx hb dX8_digestDay_118 hl (by decide) rfl (fun ls hl => ?_)
        have loop120 : ∀ (n : Nat)  (i7 : Int32) (i8 : Int64), lpE (sX8_digestDay_120 g v3 i5) n (i7, i8) → ∀ (H : Heap) (locs : List Loc), va_P D vwCl (tcW ad cI g) H → va_D A (tcW ad cI g) → va_S A s.heap H locs → ∀ (ls : Array Slot), lv_has ls 9 [(8, .int i7), (7, .int i5), (6, .int v3), (4, .long i8), (0, .ref (ad 0)), (3, .int x1)] → (∀ r : Int32 × Int64, r = lp (sX8_digestDay_120 g v3 i5) n (i7, i8) → ∀ (H : Heap) (locs : List Loc), va_P D vwCl (tcW ad cI g) H → va_D A (tcW ad cI g) → va_S A s.heap H locs → ∀ (ls : Array Slot), lv_has ls 9 [(8, .int r.1), (7, .int i5), (6, .int v3), (4, .long r.2), (0, .ref (ad 0)), (3, .int x1)] → W p l e (headSpec wsX8_digestDay ({ frames := 4, cells := 0, slots := 0, locals := 101 } : Room)).room s m ([.ref (ad 0), .long x0, .int x1] : List Value).toArray below meth c9 H locs 0 0 (MQ below (g_Ql D [(cI, .int)] A (tcW ad cI g) (fX8_digestDay_r g x0 x1)) ([.ref (ad 0), .long x0, .int x1] : List Value).toArray s 0 0 A) (F0 m 154 ls [])) → W p l e (headSpec wsX8_digestDay ({ frames := 4, cells := 0, slots := 0, locals := 101 } : Room)).room s m ([.ref (ad 0), .long x0, .int x1] : List Value).toArray below meth c9 H locs 0 0 (MQ below (g_Ql D [(cI, .int)] A (tcW ad cI g) (fX8_digestDay_r g x0 x1)) ([.ref (ad 0), .long x0, .int x1] : List Value).toArray s 0 0 A) (F0 m 120 ls []) := by
          refine lp_ind ?_
          intro n ih i7 i8 hE H locs hP hD hS ls hl kk
          refine lv_iload hx hb dX8_digestDay_120 (lv_at hl 0 rfl) ?_
          refine lv_bipush (v := 6) hx hb dX8_digestDay_122 (by decide) ?_
          refine lv_icmp_gt (tgt := 154) hx hb dX8_digestDay_124 (by decide) (fun c5 => ?_) (fun c5 => ?_)
          · have hs := eX8_digestDay_120_1 g v3 i5 i7 i8 c5
            exact kk _ (lp_none hs).symm H locs hP hD hS ls (lv_sub hl [0, 1, 2, 3, 4, 5] rfl)
          · refine lv_lload hx hb dX8_digestDay_127 (lv_at hl 3 rfl) ?_
            refine lv_ldc2 hx hb hown (hts (.constantLong RX8 240 (31)) (List.mem_of_getElem? (i := 1) rfl)) dX8_digestDay_129 ?_
            refine lv_lmul hx hb dX8_digestDay_132 ?_
            refine lv_aload_n hx hb dX8_digestDay_133 rfl (lv_at hl 4 rfl) ?_
            refine lv_iload hx hb dX8_digestDay_134 (lv_at hl 2 rfl) ?_
            refine lv_iload hx hb dX8_digestDay_136 (lv_at hl 1 rfl) ?_
            refine lv_iadd hx hb dX8_digestDay_138 ?_
            refine lv_iload hx hb dX8_digestDay_139 (lv_at hl 0 rfl) ?_
            refine g_ki hK hD hS hA (va_runV (As := [.int (v3 + i5), .int i7]) (rest := [.long (i8 * 31)]) ⟨hx, hb, hml, hown, hts⟩ (kX8_legAnswer l D ad cI g H.size (v3 + i5) i7) (cwV 2 hts gX8_digestDay_X8_legAnswer rfl rfl rfl (by decide +kernel) ⟨Nat.le_of_ble_eq_true rfl, Nat.le_of_ble_eq_true rfl⟩) (g_preV hK hP hD (ci := 8) (q0 := 0) rfl rfl) rfl rfl hl.1 rfl (lv_room (Nat.le_of_ble_eq_true rfl)) dX8_digestDay_141 ⟨Nat.le_of_ble_eq_true rfl, Nat.le_of_ble_eq_true rfl⟩) (fun H locs hP hD hS => ?_)
            refine lv_i2l (v := (fX8_legAnswer_r g (v3 + i5) i7).toInt64) hx hb dX8_digestDay_144 rfl ?_
            refine lv_ladd hx hb dX8_digestDay_145 ?_
            refine lv_topl (fun v4 hv4 => ?_)
            refine lv_lstore (lv' := [(4, .long v4), (8, .int i7), (7, .int i5), (6, .int v3), (0, .ref (ad 0)), (3, .int x1)]) hx hb dX8_digestDay_146 hl (by decide) rfl (fun ls hl => ?_)
            refine lv_iinc (v := i7 + 1) (lv' := [(8, .int (i7 + 1)), (4, .long v4), (7, .int i5), (6, .int v3), (0, .ref (ad 0)), (3, .int x1)]) hx hb dX8_digestDay_148 hl (k := 1) rfl rfl (by decide) rfl (fun ls hl => ?_)
            refine lv_goto (tgt := 120) hx hb dX8_digestDay_151 (by decide) ?_
            have hs := eX8_digestDay_120_2 g v3 i5 i7 i8 c5 hv4
            obtain ⟨n9, hn9, hE9, hr9⟩ := lpE_next hE hs
            exact ih n9 (by omega) (i7 + 1) v4 hE9 H locs hP hD hS ls (lv_sub hl [0, 2, 3, 1, 4, 5] rfl) (fun r hr => kk r (hr.trans hr9.symm))
        refine loop120 7 0 i6 (tX8_digestDay_120 g v3 i5 i6) _ _ hP hD hS ls hl (fun r3 hr3 H locs hP hD hS ls hl => ?_)
        have hl : lv_has ls 9 [(7, .int i5), (6, .int v3), (4, .long r3.2), (0, .ref (ad 0)), (3, .int x1)] := lv_sub hl [1, 2, 3, 4, 5] rfl
        refine lv_iinc (v := i5 + 1) (lv' := [(7, .int (i5 + 1)), (6, .int v3), (4, .long r3.2), (0, .ref (ad 0)), (3, .int x1)]) hx hb dX8_digestDay_154 hl (k := 0) rfl rfl (by decide) rfl (fun ls hl => ?_)
        refine lv_goto (tgt := 101) hx hb dX8_digestDay_157 (by decide) ?_
        have hs := eX8_digestDay_101_2 g x1 v3 i5 i6 c4 hr3
        obtain ⟨n9, hn9, hE9, hr9⟩ := lpE_next hE hs
        exact ih n9 (by omega) (i5 + 1) r3.2 hE9 H locs hP hD hS ls (lv_sub hl [0, 1, 2, 3, 4] rfl) (fun r hr => kk r (hr.trans hr9.symm))
    refine loop101 (nn ((gA g 27 x1))) 0 r2.2 (tX8_digestDay_101 g x1 v3 r2.2) _ _ hP hD hS ls hl (fun r4 hr4 H locs hP hD hS ls hl => ?_)
    have hl : lv_has ls 9 [(4, .long r4.2)] := lv_sub hl [2] rfl
    refine lv_lload hx hb dX8_digestDay_160 (lv_at hl 0 rfl) ?_
    exact g_lret hx hb hr hlocks hK hP hD hS (eX8_digestDay_r1 g x0 x1 hr1 c2 hr2 hv3 hr4).symm dX8_digestDay_162
  · refine lv_lload hx hb dX8_digestDay_50 (lv_at hl 0 rfl) ?_
    exact g_lret hx hb hr hlocks hK hP hD hS (eX8_digestDay_r2 g x0 x1 hr1 c2).symm dX8_digestDay_52
set_option maxHeartbeats 4000000 in
set_option maxRecDepth 100000 in
theorem kX8_digestPerson (l : Launch) (D : va_G) (ad : Nat → Nat) (cI : ClassId) (g : tG) (sz : Nat) (x0 : Int64) (x1 : Int32) : Met l yX8_digestPerson wsX8_digestPerson ({ frames := 5, cells := 0, slots := 0, locals := 129 } : Room) (g_P D [(cI, .int)] (tcW ad cI g) [.ref (ad 0), .long x0, .int x1] sz) (g_Ql D [(cI, .int)] (va_A (tcW ad cI g) sz) (tcW ad cI (fX8_digestPerson_w g x0 x1)) (fX8_digestPerson_r g x0 x1)) 0 0 (va_A (tcW ad cI g) sz) := by
  refine Met.ofW (cc := cX8_digestPerson) (maxL := 8) (ret := (some .long)) (by decide) rfl ?_
  intro p e s m args below meth c9 s₁ B hml hv
  obtain ⟨rfl, hsz, hP, hK, hD0⟩ := hv
  have hx := B.exec
  have hb := B.bytes
  have hr := B.returns
  have hts := atoms_spec (ws := wsX8_digestPerson) B.pre
  have hown : s.vm.findClass RX8 = some m.cls := findClass_of_methodNamed B.named
  have hlocks := B.notSynchronized
  subst hsz
  have hD := hD0.self (sz := s.heap.size)
  generalize hAe : va_A (tcW ad cI g) s.heap.size = A at hD ⊢
  have hA : ∀ q : Nat, s.heap.size ≤ q → A q := fun q h => by rw [← hAe]; exact Or.inr h
  have hS : va_S A s.heap s.heap [] := va_S.rf
  have hl := lv_entry ([.ref (ad 0), .long x0, .int x1]) (n := 8) (Nat.le_of_ble_eq_true rfl)
  rw [lg_entry_eq]
  generalize (lg_sl ([.ref (ad 0), .long x0, .int x1]) ++ List.replicate (8 - (lg_sl ([.ref (ad 0), .long x0, .int x1])).length) Slot.unset).toArray = ls at hl ⊢
  have hl : lv_has ls 8 [(0, .ref (ad 0)), (1, .long x0), (3, .int x1)] := hl
  have winX6 : ∀ w ∈ u_ws RX6 TX6 9, w ∈ wsX8_digestPerson := by decide +kernel
  have winX8 : ∀ w ∈ u_ws RX8 TX8 9, w ∈ wsX8_digestPerson := by decide +kernel
  refine lv_aload_n hx hb dX8_digestPerson_0 rfl (lv_at hl 0 rfl) ?_
  refine lv_iload_n hx hb dX8_digestPerson_1 rfl (lv_at hl 2 rfl) ?_
  refine lv_aload_n hx hb dX8_digestPerson_2 rfl (lv_at hl 0 rfl) ?_
  refine va_get (D := D) (ci := 8) (v := .ref (ad 30)) (C := RX8) (T := TX8) (N := 9) hx hb hts winX8 hown hK hP 0 rfl rfl 3 (by decide) (hts (.fieldLink RX8 33 "TapCap" "taps" "LTapCap$Taps;") (List.mem_of_getElem? (i := 1) rfl)) (fun _ h9 => h9) rfl dX8_digestPerson_3 ?_
  refine va_get (D := D) (ci := 6) (v := .int (g 45 4)) (C := RX6) (T := TX6) (N := 9) hx hb hts winX6 hown hK hP 30 rfl rfl 6 (by decide) (hts (.fieldLink RX8 151 "TapCap$Taps" "count" "I") (List.mem_of_getElem? (i := 2) rfl)) (fun _ h9 => h9) rfl dX8_digestPerson_6 ?_
  refine lv_iconst (v := (-1)) hx hb dX8_digestPerson_9 (by decide) ?_
  refine g_kv hK hD hS hA (va_runV (As := [.int x1, .int (g 45 4), .int ((-1))]) (rest := []) ⟨hx, hb, hml, hown, hts⟩ (kX8_study l D ad cI g s.heap.size x1 (g 45 4) (-1)) (cwV 3 hts gX8_digestPerson_X8_study rfl rfl rfl (by decide +kernel) ⟨Nat.le_of_ble_eq_true rfl, Nat.le_of_ble_eq_true rfl⟩) (g_preV hK hP hD (ci := 8) (q0 := 0) rfl rfl) rfl rfl hl.1 rfl (lv_room (Nat.le_of_ble_eq_true rfl)) dX8_digestPerson_10 ⟨Nat.le_of_ble_eq_true rfl, Nat.le_of_ble_eq_true rfl⟩) (fun H locs hP hD hS => ?_)
  obtain ⟨g1, hg1⟩ : ∃ z : tG, z = fX8_study_w g x1 (g 45 4) (-1) := ⟨_, rfl⟩
  rw [← hg1] at hP hD
  refine lv_lload_n hx hb dX8_digestPerson_13 rfl (lv_at hl 1 rfl) ?_
  refine lv_lstore (lv' := [(4, .long x0), (0, .ref (ad 0)), (1, .long x0), (3, .int x1)]) hx hb dX8_digestPerson_14 hl (by decide) rfl (fun ls hl => ?_)
  refine lv_iconst (v := 0) hx hb dX8_digestPerson_16 (by decide) ?_
  refine lv_istore (lv' := [(6, .int 0), (4, .long x0), (0, .ref (ad 0)), (1, .long x0), (3, .int x1)]) hx hb dX8_digestPerson_17 hl (by decide) rfl (fun ls hl => ?_)
  have hl : lv_has ls 8 [(6, .int 0), (4, .long x0), (0, .ref (ad 0))] := lv_sub hl [0, 1, 2] rfl
  have loop19 : ∀ (n : Nat)  (i1 : Int32) (i2 : Int64), lpE (sX8_digestPerson_19 g1) n (i1, i2) → ∀ (H : Heap) (locs : List Loc), va_P D vwCl (tcW ad cI g1) H → va_D A (tcW ad cI g1) → va_S A s.heap H locs → ∀ (ls : Array Slot), lv_has ls 8 [(6, .int i1), (4, .long i2), (0, .ref (ad 0))] → (∀ r : Int32 × Int64, r = lp (sX8_digestPerson_19 g1) n (i1, i2) → ∀ (H : Heap) (locs : List Loc), va_P D vwCl (tcW ad cI g1) H → va_D A (tcW ad cI g1) → va_S A s.heap H locs → ∀ (ls : Array Slot), lv_has ls 8 [(6, .int r.1), (4, .long r.2), (0, .ref (ad 0))] → W p l e (headSpec wsX8_digestPerson ({ frames := 5, cells := 0, slots := 0, locals := 129 } : Room)).room s m ([.ref (ad 0), .long x0, .int x1] : List Value).toArray below meth c9 H locs 0 0 (MQ below (g_Ql D [(cI, .int)] A (tcW ad cI (fX8_digestPerson_w g x0 x1)) (fX8_digestPerson_r g x0 x1)) ([.ref (ad 0), .long x0, .int x1] : List Value).toArray s 0 0 A) (F0 m 42 ls [])) → W p l e (headSpec wsX8_digestPerson ({ frames := 5, cells := 0, slots := 0, locals := 129 } : Room)).room s m ([.ref (ad 0), .long x0, .int x1] : List Value).toArray below meth c9 H locs 0 0 (MQ below (g_Ql D [(cI, .int)] A (tcW ad cI (fX8_digestPerson_w g x0 x1)) (fX8_digestPerson_r g x0 x1)) ([.ref (ad 0), .long x0, .int x1] : List Value).toArray s 0 0 A) (F0 m 19 ls []) := by
    refine lp_ind ?_
    intro n ih i1 i2 hE H locs hP hD hS ls hl kk
    refine lv_iload hx hb dX8_digestPerson_19 (lv_at hl 0 rfl) ?_
    refine lv_bipush (v := 28) hx hb dX8_digestPerson_21 (by decide) ?_
    refine lv_icmp_ge (tgt := 42) hx hb dX8_digestPerson_23 (by decide) (fun c1 => ?_) (fun c1 => ?_)
    · have hs := eX8_digestPerson_19_1 g1 i1 i2 c1
      exact kk _ (lp_none hs).symm H locs hP hD hS ls (lv_sub hl [0, 1, 2] rfl)
    · refine lv_aload_n hx hb dX8_digestPerson_26 rfl (lv_at hl 2 rfl) ?_
      refine lv_lload hx hb dX8_digestPerson_27 (lv_at hl 1 rfl) ?_
      refine lv_iload hx hb dX8_digestPerson_29 (lv_at hl 0 rfl) ?_
      refine g_kl hK hD hS hA (va_runV (As := [.long i2, .int i1]) (rest := []) ⟨hx, hb, hml, hown, hts⟩ (kX8_digestDay l D ad cI g1 H.size i2 i1) (cwV 2 hts gX8_digestPerson_X8_digestDay rfl rfl rfl (by decide +kernel) ⟨Nat.le_of_ble_eq_true rfl, Nat.le_of_ble_eq_true rfl⟩) (g_preV hK hP hD (ci := 8) (q0 := 0) rfl rfl) rfl rfl hl.1 rfl (lv_room (Nat.le_of_ble_eq_true rfl)) dX8_digestPerson_31 ⟨Nat.le_of_ble_eq_true rfl, Nat.le_of_ble_eq_true rfl⟩) (fun H locs hP hD hS => ?_)
      refine lv_topl (fun v1 hv1 => ?_)
      refine lv_lstore (lv' := [(4, .long v1), (6, .int i1), (0, .ref (ad 0))]) hx hb dX8_digestPerson_34 hl (by decide) rfl (fun ls hl => ?_)
      refine lv_iinc (v := i1 + 1) (lv' := [(6, .int (i1 + 1)), (4, .long v1), (0, .ref (ad 0))]) hx hb dX8_digestPerson_36 hl (k := 1) rfl rfl (by decide) rfl (fun ls hl => ?_)
      refine lv_goto (tgt := 19) hx hb dX8_digestPerson_39 (by decide) ?_
      have hs := eX8_digestPerson_19_2 g1 i1 i2 c1 hv1
      obtain ⟨n9, hn9, hE9, hr9⟩ := lpE_next hE hs
      exact ih n9 (by omega) (i1 + 1) v1 hE9 H locs hP hD hS ls (lv_sub hl [0, 1, 2] rfl) (fun r hr => kk r (hr.trans hr9.symm))
  refine loop19 28 0 x0 (tX8_digestPerson_19 g1 x0) _ _ hP hD hS ls hl (fun r1 hr1 H locs hP hD hS ls hl => ?_)
  have hl : lv_has ls 8 [(4, .long r1.2), (0, .ref (ad 0))] := lv_sub hl [1, 2] rfl
  refine lv_iconst (v := 0) hx hb dX8_digestPerson_42 (by decide) ?_
  refine lv_istore (lv' := [(6, .int 0), (4, .long r1.2), (0, .ref (ad 0))]) hx hb dX8_digestPerson_43 hl (by decide) rfl (fun ls hl => ?_)
  have loop45 : ∀ (n : Nat)  (i3 : Int32) (i4 : Int64), lpE (sX8_digestPerson_45 g1) n (i3, i4) → ∀ (H : Heap) (locs : List Loc), va_P D vwCl (tcW ad cI g1) H → va_D A (tcW ad cI g1) → va_S A s.heap H locs → ∀ (ls : Array Slot), lv_has ls 8 [(6, .int i3), (4, .long i4), (0, .ref (ad 0))] → (∀ r : Int32 × Int64, r = lp (sX8_digestPerson_45 g1) n (i3, i4) → ∀ (H : Heap) (locs : List Loc), va_P D vwCl (tcW ad cI g1) H → va_D A (tcW ad cI g1) → va_S A s.heap H locs → ∀ (ls : Array Slot), lv_has ls 8 [(6, .int r.1), (4, .long r.2), (0, .ref (ad 0))] → W p l e (headSpec wsX8_digestPerson ({ frames := 5, cells := 0, slots := 0, locals := 129 } : Room)).room s m ([.ref (ad 0), .long x0, .int x1] : List Value).toArray below meth c9 H locs 0 0 (MQ below (g_Ql D [(cI, .int)] A (tcW ad cI (fX8_digestPerson_w g x0 x1)) (fX8_digestPerson_r g x0 x1)) ([.ref (ad 0), .long x0, .int x1] : List Value).toArray s 0 0 A) (F0 m 90 ls [])) → W p l e (headSpec wsX8_digestPerson ({ frames := 5, cells := 0, slots := 0, locals := 129 } : Room)).room s m ([.ref (ad 0), .long x0, .int x1] : List Value).toArray below meth c9 H locs 0 0 (MQ below (g_Ql D [(cI, .int)] A (tcW ad cI (fX8_digestPerson_w g x0 x1)) (fX8_digestPerson_r g x0 x1)) ([.ref (ad 0), .long x0, .int x1] : List Value).toArray s 0 0 A) (F0 m 45 ls []) := by
    refine lp_ind ?_
    intro n ih i3 i4 hE H locs hP hD hS ls hl kk
    refine lv_iload hx hb dX8_digestPerson_45 (lv_at hl 0 rfl) ?_
    refine lv_iconst (v := 4) hx hb dX8_digestPerson_47 (by decide) ?_
    refine lv_icmp_ge (tgt := 90) hx hb dX8_digestPerson_48 (by decide) (fun c2 => ?_) (fun c2 => ?_)
    · have hs := eX8_digestPerson_45_1 g1 i3 i4 c2
      exact kk _ (lp_none hs).symm H locs hP hD hS ls (lv_sub hl [0, 1, 2] rfl)
    · refine lv_iconst (v := 0) hx hb dX8_digestPerson_51 (by decide) ?_
      refine lv_istore (lv' := [(7, .int 0), (6, .int i3), (4, .long i4), (0, .ref (ad 0))]) hx hb dX8_digestPerson_52 hl (by decide) rfl (fun ls hl => ?_)
      have loop54 : ∀ (n : Nat)  (i5 : Int32) (i6 : Int64), lpE (sX8_digestPerson_54 g1 i3) n (i5, i6) → ∀ (H : Heap) (locs : List Loc), va_P D vwCl (tcW ad cI g1) H → va_D A (tcW ad cI g1) → va_S A s.heap H locs → ∀ (ls : Array Slot), lv_has ls 8 [(7, .int i5), (6, .int i3), (4, .long i6), (0, .ref (ad 0))] → (∀ r : Int32 × Int64, r = lp (sX8_digestPerson_54 g1 i3) n (i5, i6) → ∀ (H : Heap) (locs : List Loc), va_P D vwCl (tcW ad cI g1) H → va_D A (tcW ad cI g1) → va_S A s.heap H locs → ∀ (ls : Array Slot), lv_has ls 8 [(7, .int r.1), (6, .int i3), (4, .long r.2), (0, .ref (ad 0))] → W p l e (headSpec wsX8_digestPerson ({ frames := 5, cells := 0, slots := 0, locals := 129 } : Room)).room s m ([.ref (ad 0), .long x0, .int x1] : List Value).toArray below meth c9 H locs 0 0 (MQ below (g_Ql D [(cI, .int)] A (tcW ad cI (fX8_digestPerson_w g x0 x1)) (fX8_digestPerson_r g x0 x1)) ([.ref (ad 0), .long x0, .int x1] : List Value).toArray s 0 0 A) (F0 m 84 ls [])) → W p l e (headSpec wsX8_digestPerson ({ frames := 5, cells := 0, slots := 0, locals := 129 } : Room)).room s m ([.ref (ad 0), .long x0, .int x1] : List Value).toArray below meth c9 H locs 0 0 (MQ below (g_Ql D [(cI, .int)] A (tcW ad cI (fX8_digestPerson_w g x0 x1)) (fX8_digestPerson_r g x0 x1)) ([.ref (ad 0), .long x0, .int x1] : List Value).toArray s 0 0 A) (F0 m 54 ls []) := by
        refine lp_ind ?_
        intro n ih i5 i6 hE H locs hP hD hS ls hl kk
        refine lv_iload hx hb dX8_digestPerson_54 (lv_at hl 0 rfl) ?_
        refine lv_iconst (v := 2) hx hb dX8_digestPerson_56 (by decide) ?_
        refine lv_icmp_gt (tgt := 84) hx hb dX8_digestPerson_57 (by decide) (fun c3 => ?_) (fun c3 => ?_)
        · have hs := eX8_digestPerson_54_1 g1 i3 i5 i6 c3
          exact kk _ (lp_none hs).symm H locs hP hD hS ls (lv_sub hl [0, 1, 2, 3] rfl)
        · refine lv_lload hx hb dX8_digestPerson_60 (lv_at hl 2 rfl) ?_
          refine lv_ldc2 hx hb hown (hts (.constantLong RX8 240 (31)) (List.mem_of_getElem? (i := 3) rfl)) dX8_digestPerson_62 ?_
          refine lv_lmul hx hb dX8_digestPerson_65 ?_
          refine lv_aload_n hx hb dX8_digestPerson_66 rfl (lv_at hl 3 rfl) ?_
          refine lv_iload hx hb dX8_digestPerson_67 (lv_at hl 1 rfl) ?_
          refine lv_iload hx hb dX8_digestPerson_69 (lv_at hl 0 rfl) ?_
          refine g_ki hK hD hS hA (va_runV (As := [.int i3, .int i5]) (rest := [.long (i6 * 31)]) ⟨hx, hb, hml, hown, hts⟩ (kX8_weekAnswer l D ad cI g1 H.size i3 i5) (cwV 2 hts gX8_digestPerson_X8_weekAnswer rfl rfl rfl (by decide +kernel) ⟨Nat.le_of_ble_eq_true rfl, Nat.le_of_ble_eq_true rfl⟩) (g_preV hK hP hD (ci := 8) (q0 := 0) rfl rfl) rfl rfl hl.1 rfl (lv_room (Nat.le_of_ble_eq_true rfl)) dX8_digestPerson_71 ⟨Nat.le_of_ble_eq_true rfl, Nat.le_of_ble_eq_true rfl⟩) (fun H locs hP hD hS => ?_)
          refine lv_i2l (v := (fX8_weekAnswer_r g1 i3 i5).toInt64) hx hb dX8_digestPerson_74 rfl ?_
          refine lv_ladd hx hb dX8_digestPerson_75 ?_
          refine lv_topl (fun v2 hv2 => ?_)
          refine lv_lstore (lv' := [(4, .long v2), (7, .int i5), (6, .int i3), (0, .ref (ad 0))]) hx hb dX8_digestPerson_76 hl (by decide) rfl (fun ls hl => ?_)
          refine lv_iinc (v := i5 + 1) (lv' := [(7, .int (i5 + 1)), (4, .long v2), (6, .int i3), (0, .ref (ad 0))]) hx hb dX8_digestPerson_78 hl (k := 1) rfl rfl (by decide) rfl (fun ls hl => ?_)
          refine lv_goto (tgt := 54) hx hb dX8_digestPerson_81 (by decide) ?_
          have hs := eX8_digestPerson_54_2 g1 i3 i5 i6 c3 hv2
          obtain ⟨n9, hn9, hE9, hr9⟩ := lpE_next hE hs
          exact ih n9 (by omega) (i5 + 1) v2 hE9 H locs hP hD hS ls (lv_sub hl [0, 2, 1, 3] rfl) (fun r hr => kk r (hr.trans hr9.symm))
      refine loop54 3 0 i4 (tX8_digestPerson_54 g1 i3 i4) _ _ hP hD hS ls hl (fun r2 hr2 H locs hP hD hS ls hl => ?_)
      have hl : lv_has ls 8 [(6, .int i3), (4, .long r2.2), (0, .ref (ad 0))] := lv_sub hl [1, 2, 3] rfl
      refine lv_iinc (v := i3 + 1) (lv' := [(6, .int (i3 + 1)), (4, .long r2.2), (0, .ref (ad 0))]) hx hb dX8_digestPerson_84 hl (k := 0) rfl rfl (by decide) rfl (fun ls hl => ?_)
      refine lv_goto (tgt := 45) hx hb dX8_digestPerson_87 (by decide) ?_
      have hs := eX8_digestPerson_45_2 g1 i3 i4 c2 hr2
      obtain ⟨n9, hn9, hE9, hr9⟩ := lpE_next hE hs
      exact ih n9 (by omega) (i3 + 1) r2.2 hE9 H locs hP hD hS ls (lv_sub hl [0, 1, 2] rfl) (fun r hr => kk r (hr.trans hr9.symm))
  refine loop45 4 0 r1.2 (tX8_digestPerson_45 g1 r1.2) _ _ hP hD hS ls hl (fun r3 hr3 H locs hP hD hS ls hl => ?_)
  have hl : lv_has ls 8 [(4, .long r3.2), (0, .ref (ad 0))] := lv_sub hl [1, 2] rfl
  refine lv_iconst (v := 0) hx hb dX8_digestPerson_90 (by decide) ?_
  refine lv_istore (lv' := [(6, .int 0), (4, .long r3.2), (0, .ref (ad 0))]) hx hb dX8_digestPerson_91 hl (by decide) rfl (fun ls hl => ?_)
  have loop93 : ∀ (n : Nat)  (i7 : Int32) (i8 : Int64) (g2 : tG), lpE (sX8_digestPerson_93) n (i7, i8, g2) → ∀ (H : Heap) (locs : List Loc), va_P D vwCl (tcW ad cI g2) H → va_D A (tcW ad cI g2) → va_S A s.heap H locs → ∀ (ls : Array Slot), lv_has ls 8 [(6, .int i7), (4, .long i8), (0, .ref (ad 0))] → (∀ r : Int32 × Int64 × tG, r = lp (sX8_digestPerson_93) n (i7, i8, g2) → ∀ (H : Heap) (locs : List Loc), va_P D vwCl (tcW ad cI r.2.2) H → va_D A (tcW ad cI r.2.2) → va_S A s.heap H locs → ∀ (ls : Array Slot), lv_has ls 8 [(6, .int r.1), (4, .long r.2.1), (0, .ref (ad 0))] → W p l e (headSpec wsX8_digestPerson ({ frames := 5, cells := 0, slots := 0, locals := 129 } : Room)).room s m ([.ref (ad 0), .long x0, .int x1] : List Value).toArray below meth c9 H locs 0 0 (MQ below (g_Ql D [(cI, .int)] A (tcW ad cI (fX8_digestPerson_w g x0 x1)) (fX8_digestPerson_r g x0 x1)) ([.ref (ad 0), .long x0, .int x1] : List Value).toArray s 0 0 A) (F0 m 128 ls [])) → W p l e (headSpec wsX8_digestPerson ({ frames := 5, cells := 0, slots := 0, locals := 129 } : Room)).room s m ([.ref (ad 0), .long x0, .int x1] : List Value).toArray below meth c9 H locs 0 0 (MQ below (g_Ql D [(cI, .int)] A (tcW ad cI (fX8_digestPerson_w g x0 x1)) (fX8_digestPerson_r g x0 x1)) ([.ref (ad 0), .long x0, .int x1] : List Value).toArray s 0 0 A) (F0 m 93 ls []) := by
    refine lp_ind ?_
    intro n ih i7 i8 g2 hE H locs hP hD hS ls hl kk
    refine lv_iload hx hb dX8_digestPerson_93 (lv_at hl 0 rfl) ?_
    refine lv_bipush (v := 10) hx hb dX8_digestPerson_95 (by decide) ?_
    refine lv_icmp_ge (tgt := 128) hx hb dX8_digestPerson_97 (by decide) (fun c4 => ?_) (fun c4 => ?_)
    · have hs := eX8_digestPerson_93_1 i7 i8 g2 c4
      exact kk _ (lp_none hs).symm H locs hP hD hS ls (lv_sub hl [0, 1, 2] rfl)
    · refine lv_lload hx hb dX8_digestPerson_100 (lv_at hl 1 rfl) ?_
      refine lv_ldc2 hx hb hown (hts (.constantLong RX8 240 (31)) (List.mem_of_getElem? (i := 3) rfl)) dX8_digestPerson_102 ?_
      refine lv_lmul hx hb dX8_digestPerson_105 ?_
      refine lv_aload_n hx hb dX8_digestPerson_106 rfl (lv_at hl 2 rfl) ?_
      refine va_get (D := D) (ci := 8) (v := .ref (ad 43)) (C := RX8) (T := TX8) (N := 9) hx hb hts winX8 hown hK hP 0 rfl rfl 4 (by decide) (hts (.fieldLink RX8 40 "TapCap" "legs" "LTapCap$Legs;") (List.mem_of_getElem? (i := 4) rfl)) (fun _ h9 => h9) rfl dX8_digestPerson_107 ?_
      refine lv_bipush (v := 27) hx hb dX8_digestPerson_110 (by decide) ?_
      refine lv_iload hx hb dX8_digestPerson_112 (lv_at hl 0 rfl) ?_
      refine lv_iconst (v := 1) hx hb dX8_digestPerson_114 (by decide) ?_
      refine g_ki hK hD hS hA (va_runV (As := [.int 27, .int i7, .int 1]) (rest := [.long (i8 * 31)]) ⟨hx, hb, hml, hown, hts⟩ (kX3_likeliest l D ad cI g2 H.size 27 i7 1) (cwV 3 hts gX8_digestPerson_X3_likeliest rfl rfl rfl (by decide +kernel) ⟨Nat.le_of_ble_eq_true rfl, Nat.le_of_ble_eq_true rfl⟩) (g_preV hK hP hD (ci := 3) (q0 := 43) rfl rfl) rfl rfl hl.1 rfl (lv_room (Nat.le_of_ble_eq_true rfl)) dX8_digestPerson_115 ⟨Nat.le_of_ble_eq_true rfl, Nat.le_of_ble_eq_true rfl⟩) (fun H locs hP hD hS => ?_)
      obtain ⟨g3, hg3⟩ : ∃ z : tG, z = fX3_likeliest_w g2 27 i7 1 := ⟨_, rfl⟩
      rw [← hg3] at hP hD
      refine lv_i2l (v := (fX3_likeliest_r g2 27 i7 1).toInt64) hx hb dX8_digestPerson_118 rfl ?_
      refine lv_ladd hx hb dX8_digestPerson_119 ?_
      refine lv_topl (fun v3 hv3 => ?_)
      refine lv_lstore (lv' := [(4, .long v3), (6, .int i7), (0, .ref (ad 0))]) hx hb dX8_digestPerson_120 hl (by decide) rfl (fun ls hl => ?_)
      refine lv_iinc (v := i7 + 1) (lv' := [(6, .int (i7 + 1)), (4, .long v3), (0, .ref (ad 0))]) hx hb dX8_digestPerson_122 hl (k := 1) rfl rfl (by decide) rfl (fun ls hl => ?_)
      refine lv_goto (tgt := 93) hx hb dX8_digestPerson_125 (by decide) ?_
      have hs := eX8_digestPerson_93_2 i7 i8 g2 c4 hg3 hv3
      obtain ⟨n9, hn9, hE9, hr9⟩ := lpE_next hE hs
      exact ih n9 (by omega) (i7 + 1) v3 g3 hE9 H locs hP hD hS ls (lv_sub hl [0, 1, 2] rfl) (fun r hr => kk r (hr.trans hr9.symm))
  refine loop93 10 0 r3.2 g1 (tX8_digestPerson_93 r3.2 g1) _ _ hP hD hS ls hl (fun r4 hr4 H locs hP hD hS ls hl => ?_)
  have hl : lv_has ls 8 [(4, .long r4.2.1)] := lv_sub hl [1] rfl
  refine lv_lload hx hb dX8_digestPerson_128 (lv_at hl 0 rfl) ?_
  have hw := eX8_digestPerson_w1 g x0 x1 hg1 hr1 hr3 hr4
  have hP := w_P9 hw hP
  have hD := w_D9 hw hD
  exact g_lret hx hb hr hlocks hK hP hD hS (eX8_digestPerson_r1 g x0 x1 hg1 hr1 hr3 hr4).symm dX8_digestPerson_130
set_option maxHeartbeats 4000000 in
set_option maxRecDepth 100000 in
theorem kX8_digest (l : Launch) (D : va_G) (ad : Nat → Nat) (cI : ClassId) (g : tG) (sz : Nat) : Met l yX8_digest wsX8_digest ({ frames := 6, cells := 0, slots := 0, locals := 156 } : Room) (g_P D [(cI, .int)] (tcW ad cI g) [.ref (ad 0)] sz) (g_Ql D [(cI, .int)] (va_A (tcW ad cI g) sz) (tcW ad cI (fX8_digest_w g)) (fX8_digest_r g)) 0 0 (va_A (tcW ad cI g) sz) := by
  refine Met.ofW (cc := cX8_digest) (maxL := 5) (ret := (some .long)) (by decide) rfl ?_
  intro p e s m args below meth c9 s₁ B hml hv
  obtain ⟨rfl, hsz, hP, hK, hD0⟩ := hv
  have hx := B.exec
  have hb := B.bytes
  have hr := B.returns
  have hts := atoms_spec (ws := wsX8_digest) B.pre
  have hown : s.vm.findClass RX8 = some m.cls := findClass_of_methodNamed B.named
  have hlocks := B.notSynchronized
  subst hsz
  have hD := hD0.self (sz := s.heap.size)
  generalize hAe : va_A (tcW ad cI g) s.heap.size = A at hD ⊢
  have hA : ∀ q : Nat, s.heap.size ≤ q → A q := fun q h => by rw [← hAe]; exact Or.inr h
  have hS : va_S A s.heap s.heap [] := va_S.rf
  have hl := lv_entry ([.ref (ad 0)]) (n := 5) (Nat.le_of_ble_eq_true rfl)
  rw [lg_entry_eq]
  generalize (lg_sl ([.ref (ad 0)]) ++ List.replicate (5 - (lg_sl ([.ref (ad 0)])).length) Slot.unset).toArray = ls at hl ⊢
  have hl : lv_has ls 5 [(0, .ref (ad 0))] := hl
  have winX0 : ∀ w ∈ u_ws RX0 TX0 6, w ∈ wsX8_digest := by decide +kernel
  have winX8 : ∀ w ∈ u_ws RX8 TX8 9, w ∈ wsX8_digest := by decide +kernel
  refine lv_ldc2 hx hb hown (hts (.constantLong RX8 238 (4806)) (List.mem_of_getElem? (i := 1) rfl)) dX8_digest_0 ?_
  refine lv_lstore_n (lv' := [(1, .long 4806), (0, .ref (ad 0))]) hx hb dX8_digest_3 rfl hl (by decide) rfl (fun ls hl => ?_)
  refine lv_iconst (v := 0) hx hb dX8_digest_4 (by decide) ?_
  refine lv_istore_n (lv' := [(3, .int 0), (1, .long 4806), (0, .ref (ad 0))]) hx hb dX8_digest_5 rfl hl (by decide) rfl (fun ls hl => ?_)
  have loop6 : ∀ (n : Nat)  (i1 : Int32) (i2 : Int64), lpE (sX8_digest_6 g) n (i1, i2) → ∀ (H : Heap) (locs : List Loc), va_P D vwCl (tcW ad cI g) H → va_D A (tcW ad cI g) → va_S A s.heap H locs → ∀ (ls : Array Slot), lv_has ls 5 [(3, .int i1), (1, .long i2), (0, .ref (ad 0))] → (∀ r : Int32 × Int64, r = lp (sX8_digest_6 g) n (i1, i2) → ∀ (H : Heap) (locs : List Loc), va_P D vwCl (tcW ad cI g) H → va_D A (tcW ad cI g) → va_S A s.heap H locs → ∀ (ls : Array Slot), lv_has ls 5 [(3, .int r.1), (1, .long r.2), (0, .ref (ad 0))] → W p l e (headSpec wsX8_digest ({ frames := 6, cells := 0, slots := 0, locals := 156 } : Room)).room s m ([.ref (ad 0)] : List Value).toArray below meth c9 H locs 0 0 (MQ below (g_Ql D [(cI, .int)] A (tcW ad cI (fX8_digest_w g)) (fX8_digest_r g)) ([.ref (ad 0)] : List Value).toArray s 0 0 A) (F0 m 31 ls [])) → W p l e (headSpec wsX8_digest ({ frames := 6, cells := 0, slots := 0, locals := 156 } : Room)).room s m ([.ref (ad 0)] : List Value).toArray below meth c9 H locs 0 0 (MQ below (g_Ql D [(cI, .int)] A (tcW ad cI (fX8_digest_w g)) (fX8_digest_r g)) ([.ref (ad 0)] : List Value).toArray s 0 0 A) (F0 m 6 ls []) := by
    refine lp_ind ?_
    intro n ih i1 i2 hE H locs hP hD hS ls hl kk
    refine lv_iload_n hx hb dX8_digest_6 rfl (lv_at hl 0 rfl) ?_
    refine lv_bipush (v := 8) hx hb dX8_digest_7 (by decide) ?_
    refine lv_icmp_gt (tgt := 31) hx hb dX8_digest_9 (by decide) (fun c1 => ?_) (fun c1 => ?_)
    · have hs := eX8_digest_6_1 g i1 i2 c1
      exact kk _ (lp_none hs).symm H locs hP hD hS ls (lv_sub hl [0, 1, 2] rfl)
    · refine lv_lload_n hx hb dX8_digest_12 rfl (lv_at hl 1 rfl) ?_
      refine lv_ldc2 hx hb hown (hts (.constantLong RX8 240 (31)) (List.mem_of_getElem? (i := 2) rfl)) dX8_digest_13 ?_
      refine lv_lmul hx hb dX8_digest_16 ?_
      refine lv_aload_n hx hb dX8_digest_17 rfl (lv_at hl 2 rfl) ?_
      refine lv_iload_n hx hb dX8_digest_18 rfl (lv_at hl 0 rfl) ?_
      refine g_ki hK hD hS hA (va_runV (As := [.int i1]) (rest := [.long (i2 * 31)]) ⟨hx, hb, hml, hown, hts⟩ (kX8_manyAnswer l D ad cI g H.size i1) (cwV 1 hts gX8_digest_X8_manyAnswer rfl rfl rfl (by decide +kernel) ⟨Nat.le_of_ble_eq_true rfl, Nat.le_of_ble_eq_true rfl⟩) (g_preV hK hP hD (ci := 8) (q0 := 0) rfl rfl) rfl rfl hl.1 rfl (lv_room (Nat.le_of_ble_eq_true rfl)) dX8_digest_19 ⟨Nat.le_of_ble_eq_true rfl, Nat.le_of_ble_eq_true rfl⟩) (fun H locs hP hD hS => ?_)
      refine lv_i2l (v := (fX8_manyAnswer_r g i1).toInt64) hx hb dX8_digest_22 rfl ?_
      refine lv_ladd hx hb dX8_digest_23 ?_
      refine lv_topl (fun v1 hv1 => ?_)
      refine lv_lstore_n (lv' := [(1, .long v1), (3, .int i1), (0, .ref (ad 0))]) hx hb dX8_digest_24 rfl hl (by decide) rfl (fun ls hl => ?_)
      refine lv_iinc (v := i1 + 1) (lv' := [(3, .int (i1 + 1)), (1, .long v1), (0, .ref (ad 0))]) hx hb dX8_digest_25 hl (k := 1) rfl rfl (by decide) rfl (fun ls hl => ?_)
      refine lv_goto (tgt := 6) hx hb dX8_digest_28 (by decide) ?_
      have hs := eX8_digest_6_2 g i1 i2 c1 hv1
      obtain ⟨n9, hn9, hE9, hr9⟩ := lpE_next hE hs
      exact ih n9 (by omega) (i1 + 1) v1 hE9 H locs hP hD hS ls (lv_sub hl [0, 1, 2] rfl) (fun r hr => kk r (hr.trans hr9.symm))
  refine loop6 9 0 4806 (tX8_digest_6 g 4806) _ _ hP hD hS ls hl (fun r1 hr1 H locs hP hD hS ls hl => ?_)
  have hl : lv_has ls 5 [(1, .long r1.2), (0, .ref (ad 0))] := lv_sub hl [1, 2] rfl
  refine lv_iconst (v := 0) hx hb dX8_digest_31 (by decide) ?_
  refine lv_istore_n (lv' := [(3, .int 0), (1, .long r1.2), (0, .ref (ad 0))]) hx hb dX8_digest_32 rfl hl (by decide) rfl (fun ls hl => ?_)
  have loop33 : ∀ (n : Nat)  (i3 : Int32) (i4 : Int64), lpE (sX8_digest_33 g) n (i3, i4) → ∀ (H : Heap) (locs : List Loc), va_P D vwCl (tcW ad cI g) H → va_D A (tcW ad cI g) → va_S A s.heap H locs → ∀ (ls : Array Slot), lv_has ls 5 [(3, .int i3), (1, .long i4), (0, .ref (ad 0))] → (∀ r : Int32 × Int64, r = lp (sX8_digest_33 g) n (i3, i4) → ∀ (H : Heap) (locs : List Loc), va_P D vwCl (tcW ad cI g) H → va_D A (tcW ad cI g) → va_S A s.heap H locs → ∀ (ls : Array Slot), lv_has ls 5 [(3, .int r.1), (1, .long r.2), (0, .ref (ad 0))] → W p l e (headSpec wsX8_digest ({ frames := 6, cells := 0, slots := 0, locals := 156 } : Room)).room s m ([.ref (ad 0)] : List Value).toArray below meth c9 H locs 0 0 (MQ below (g_Ql D [(cI, .int)] A (tcW ad cI (fX8_digest_w g)) (fX8_digest_r g)) ([.ref (ad 0)] : List Value).toArray s 0 0 A) (F0 m 81 ls [])) → W p l e (headSpec wsX8_digest ({ frames := 6, cells := 0, slots := 0, locals := 156 } : Room)).room s m ([.ref (ad 0)] : List Value).toArray below meth c9 H locs 0 0 (MQ below (g_Ql D [(cI, .int)] A (tcW ad cI (fX8_digest_w g)) (fX8_digest_r g)) ([.ref (ad 0)] : List Value).toArray s 0 0 A) (F0 m 33 ls []) := by
    refine lp_ind ?_
    intro n ih i3 i4 hE H locs hP hD hS ls hl kk
    refine lv_iload_n hx hb dX8_digest_33 rfl (lv_at hl 0 rfl) ?_
    refine lv_aload_n hx hb dX8_digest_34 rfl (lv_at hl 2 rfl) ?_
    refine va_get (D := D) (ci := 8) (v := .ref (ad 19)) (C := RX8) (T := TX8) (N := 9) hx hb hts winX8 hown hK hP 0 rfl rfl 2 (by decide) (hts (.fieldLink RX8 26 "TapCap" "cards" "LTapCap$Cards;") (List.mem_of_getElem? (i := 3) rfl)) (fun _ h9 => h9) rfl dX8_digest_35 ?_
    refine va_get (D := D) (ci := 0) (v := .int (g 45 3)) (C := RX0) (T := TX0) (N := 6) hx hb hts winX0 hown hK hP 19 rfl rfl 5 (by decide) (hts (.fieldLink RX8 103 "TapCap$Cards" "count" "I") (List.mem_of_getElem? (i := 4) rfl)) (fun _ h9 => h9) rfl dX8_digest_38 ?_
    refine lv_icmp_ge (tgt := 81) hx hb dX8_digest_41 (by decide) (fun c2 => ?_) (fun c2 => ?_)
    · have hs := eX8_digest_33_1 g i3 i4 c2
      exact kk _ (lp_none hs).symm H locs hP hD hS ls (lv_sub hl [0, 1, 2] rfl)
    · refine lv_iconst (v := 0) hx hb dX8_digest_44 (by decide) ?_
      refine lv_istore (lv' := [(4, .int 0), (3, .int i3), (1, .long i4), (0, .ref (ad 0))]) hx hb dX8_digest_45 hl (by decide) rfl (fun ls hl => ?_)
      have loop47 : ∀ (n : Nat)  (i5 : Int32) (i6 : Int64), lpE (sX8_digest_47 g i3) n (i5, i6) → ∀ (H : Heap) (locs : List Loc), va_P D vwCl (tcW ad cI g) H → va_D A (tcW ad cI g) → va_S A s.heap H locs → ∀ (ls : Array Slot), lv_has ls 5 [(4, .int i5), (3, .int i3), (1, .long i6), (0, .ref (ad 0))] → (∀ r : Int32 × Int64, r = lp (sX8_digest_47 g i3) n (i5, i6) → ∀ (H : Heap) (locs : List Loc), va_P D vwCl (tcW ad cI g) H → va_D A (tcW ad cI g) → va_S A s.heap H locs → ∀ (ls : Array Slot), lv_has ls 5 [(4, .int r.1), (3, .int i3), (1, .long r.2), (0, .ref (ad 0))] → W p l e (headSpec wsX8_digest ({ frames := 6, cells := 0, slots := 0, locals := 156 } : Room)).room s m ([.ref (ad 0)] : List Value).toArray below meth c9 H locs 0 0 (MQ below (g_Ql D [(cI, .int)] A (tcW ad cI (fX8_digest_w g)) (fX8_digest_r g)) ([.ref (ad 0)] : List Value).toArray s 0 0 A) (F0 m 75 ls [])) → W p l e (headSpec wsX8_digest ({ frames := 6, cells := 0, slots := 0, locals := 156 } : Room)).room s m ([.ref (ad 0)] : List Value).toArray below meth c9 H locs 0 0 (MQ below (g_Ql D [(cI, .int)] A (tcW ad cI (fX8_digest_w g)) (fX8_digest_r g)) ([.ref (ad 0)] : List Value).toArray s 0 0 A) (F0 m 47 ls []) := by
        refine lp_ind ?_
        intro n ih i5 i6 hE H locs hP hD hS ls hl kk
        refine lv_iload hx hb dX8_digest_47 (lv_at hl 0 rfl) ?_
        refine lv_bipush (v := 7) hx hb dX8_digest_49 (by decide) ?_
        refine lv_icmp_gt (tgt := 75) hx hb dX8_digest_51 (by decide) (fun c3 => ?_) (fun c3 => ?_)
        · have hs := eX8_digest_47_1 g i3 i5 i6 c3
          exact kk _ (lp_none hs).symm H locs hP hD hS ls (lv_sub hl [0, 1, 2, 3] rfl)
        · refine lv_lload_n hx hb dX8_digest_54 rfl (lv_at hl 2 rfl) ?_
          refine lv_ldc2 hx hb hown (hts (.constantLong RX8 240 (31)) (List.mem_of_getElem? (i := 2) rfl)) dX8_digest_55 ?_
          refine lv_lmul hx hb dX8_digest_58 ?_
          refine lv_aload_n hx hb dX8_digest_59 rfl (lv_at hl 3 rfl) ?_
          refine lv_iload_n hx hb dX8_digest_60 rfl (lv_at hl 1 rfl) ?_
          refine lv_iload hx hb dX8_digest_61 (lv_at hl 0 rfl) ?_
          refine g_ki hK hD hS hA (va_runV (As := [.int i3, .int i5]) (rest := [.long (i6 * 31)]) ⟨hx, hb, hml, hown, hts⟩ (kX8_cardAnswer l D ad cI g H.size i3 i5) (cwV 2 hts gX8_digest_X8_cardAnswer rfl rfl rfl (by decide +kernel) ⟨Nat.le_of_ble_eq_true rfl, Nat.le_of_ble_eq_true rfl⟩) (g_preV hK hP hD (ci := 8) (q0 := 0) rfl rfl) rfl rfl hl.1 rfl (lv_room (Nat.le_of_ble_eq_true rfl)) dX8_digest_63 ⟨Nat.le_of_ble_eq_true rfl, Nat.le_of_ble_eq_true rfl⟩) (fun H locs hP hD hS => ?_)
          refine lv_i2l (v := (fX8_cardAnswer_r g i3 i5).toInt64) hx hb dX8_digest_66 rfl ?_
          refine lv_ladd hx hb dX8_digest_67 ?_
          refine lv_topl (fun v2 hv2 => ?_)
          refine lv_lstore_n (lv' := [(1, .long v2), (4, .int i5), (3, .int i3), (0, .ref (ad 0))]) hx hb dX8_digest_68 rfl hl (by decide) rfl (fun ls hl => ?_)
          refine lv_iinc (v := i5 + 1) (lv' := [(4, .int (i5 + 1)), (1, .long v2), (3, .int i3), (0, .ref (ad 0))]) hx hb dX8_digest_69 hl (k := 1) rfl rfl (by decide) rfl (fun ls hl => ?_)
          refine lv_goto (tgt := 47) hx hb dX8_digest_72 (by decide) ?_
          have hs := eX8_digest_47_2 g i3 i5 i6 c3 hv2
          obtain ⟨n9, hn9, hE9, hr9⟩ := lpE_next hE hs
          exact ih n9 (by omega) (i5 + 1) v2 hE9 H locs hP hD hS ls (lv_sub hl [0, 2, 1, 3] rfl) (fun r hr => kk r (hr.trans hr9.symm))
      refine loop47 8 0 i4 (tX8_digest_47 g i3 i4) _ _ hP hD hS ls hl (fun r2 hr2 H locs hP hD hS ls hl => ?_)
      have hl : lv_has ls 5 [(3, .int i3), (1, .long r2.2), (0, .ref (ad 0))] := lv_sub hl [1, 2, 3] rfl
      refine lv_iinc (v := i3 + 1) (lv' := [(3, .int (i3 + 1)), (1, .long r2.2), (0, .ref (ad 0))]) hx hb dX8_digest_75 hl (k := 0) rfl rfl (by decide) rfl (fun ls hl => ?_)
      refine lv_goto (tgt := 33) hx hb dX8_digest_78 (by decide) ?_
      have hs := eX8_digest_33_2 g i3 i4 c2 hr2
      obtain ⟨n9, hn9, hE9, hr9⟩ := lpE_next hE hs
      exact ih n9 (by omega) (i3 + 1) r2.2 hE9 H locs hP hD hS ls (lv_sub hl [0, 1, 2] rfl) (fun r hr => kk r (hr.trans hr9.symm))
  refine loop33 (nn ((g 45 3))) 0 r1.2 (tX8_digest_33 g r1.2) _ _ hP hD hS ls hl (fun r3 hr3 H locs hP hD hS ls hl => ?_)
  have hl : lv_has ls 5 [(1, .long r3.2), (0, .ref (ad 0))] := lv_sub hl [1, 2] rfl
  refine lv_iconst (v := 0) hx hb dX8_digest_81 (by decide) ?_
  refine lv_istore_n (lv' := [(3, .int 0), (1, .long r3.2), (0, .ref (ad 0))]) hx hb dX8_digest_82 rfl hl (by decide) rfl (fun ls hl => ?_)
  have loop83 : ∀ (n : Nat)  (i7 : Int32) (i8 : Int64) (g1 : tG), lpE (sX8_digest_83) n (i7, i8, g1) → ∀ (H : Heap) (locs : List Loc), va_P D vwCl (tcW ad cI g1) H → va_D A (tcW ad cI g1) → va_S A s.heap H locs → ∀ (ls : Array Slot), lv_has ls 5 [(3, .int i7), (1, .long i8), (0, .ref (ad 0))] → (∀ r : Int32 × Int64 × tG, r = lp (sX8_digest_83) n (i7, i8, g1) → ∀ (H : Heap) (locs : List Loc), va_P D vwCl (tcW ad cI r.2.2) H → va_D A (tcW ad cI r.2.2) → va_S A s.heap H locs → ∀ (ls : Array Slot), lv_has ls 5 [(3, .int r.1), (1, .long r.2.1), (0, .ref (ad 0))] → W p l e (headSpec wsX8_digest ({ frames := 6, cells := 0, slots := 0, locals := 156 } : Room)).room s m ([.ref (ad 0)] : List Value).toArray below meth c9 H locs 0 0 (MQ below (g_Ql D [(cI, .int)] A (tcW ad cI (fX8_digest_w g)) (fX8_digest_r g)) ([.ref (ad 0)] : List Value).toArray s 0 0 A) (F0 m 118 ls [])) → W p l e (headSpec wsX8_digest ({ frames := 6, cells := 0, slots := 0, locals := 156 } : Room)).room s m ([.ref (ad 0)] : List Value).toArray below meth c9 H locs 0 0 (MQ below (g_Ql D [(cI, .int)] A (tcW ad cI (fX8_digest_w g)) (fX8_digest_r g)) ([.ref (ad 0)] : List Value).toArray s 0 0 A) (F0 m 83 ls []) := by
    refine lp_ind ?_
    intro n ih i7 i8 g1 hE H locs hP hD hS ls hl kk
    refine lv_iload_n hx hb dX8_digest_83 rfl (lv_at hl 0 rfl) ?_
    refine lv_aload_n hx hb dX8_digest_84 rfl (lv_at hl 2 rfl) ?_
    refine va_get (D := D) (ci := 8) (v := .ref (ad 19)) (C := RX8) (T := TX8) (N := 9) hx hb hts winX8 hown hK hP 0 rfl rfl 2 (by decide) (hts (.fieldLink RX8 26 "TapCap" "cards" "LTapCap$Cards;") (List.mem_of_getElem? (i := 3) rfl)) (fun _ h9 => h9) rfl dX8_digest_85 ?_
    refine va_get (D := D) (ci := 0) (v := .int (g1 45 3)) (C := RX0) (T := TX0) (N := 6) hx hb hts winX0 hown hK hP 19 rfl rfl 5 (by decide) (hts (.fieldLink RX8 103 "TapCap$Cards" "count" "I") (List.mem_of_getElem? (i := 4) rfl)) (fun _ h9 => h9) rfl dX8_digest_88 ?_
    refine lv_icmp_ge (tgt := 118) hx hb dX8_digest_91 (by decide) (fun c4 => ?_) (fun c4 => ?_)
    · have hs := eX8_digest_83_1 i7 i8 g1 c4
      exact kk _ (lp_none hs).symm H locs hP hD hS ls (lv_sub hl [0, 1, 2] rfl)
    · refine lv_aload_n hx hb dX8_digest_94 rfl (lv_at hl 2 rfl) ?_
      refine va_get (D := D) (ci := 8) (v := .ref (ad 19)) (C := RX8) (T := TX8) (N := 9) hx hb hts winX8 hown hK hP 0 rfl rfl 2 (by decide) (hts (.fieldLink RX8 26 "TapCap" "cards" "LTapCap$Cards;") (List.mem_of_getElem? (i := 3) rfl)) (fun _ h9 => h9) rfl dX8_digest_95 ?_
      refine lv_iload_n hx hb dX8_digest_98 rfl (lv_at hl 0 rfl) ?_
      refine g_ki hK hD hS hA (va_runV (As := [.int i7]) (rest := []) ⟨hx, hb, hml, hown, hts⟩ (kX0_isPerson l D ad cI g1 H.size i7) (cwV 1 hts gX8_digest_X0_isPerson rfl rfl rfl (by decide +kernel) ⟨Nat.le_of_ble_eq_true rfl, Nat.le_of_ble_eq_true rfl⟩) (g_preV hK hP hD (ci := 0) (q0 := 19) rfl rfl) rfl rfl hl.1 rfl (lv_room (Nat.le_of_ble_eq_true rfl)) dX8_digest_99 ⟨Nat.le_of_ble_eq_true rfl, Nat.le_of_ble_eq_true rfl⟩) (fun H locs hP hD hS => ?_)
      refine lv_if_eq (tgt := 112) hx hb dX8_digest_102 (by decide) (fun c5 => ?_) (fun c5 => ?_)
      · refine lv_iinc (v := i7 + 1) (lv' := [(3, .int (i7 + 1)), (1, .long i8), (0, .ref (ad 0))]) hx hb dX8_digest_112 hl (k := 0) rfl rfl (by decide) rfl (fun ls hl => ?_)
        refine lv_goto (tgt := 83) hx hb dX8_digest_115 (by decide) ?_
        have hs := eX8_digest_83_2 i7 i8 g1 c4 c5
        obtain ⟨n9, hn9, hE9, hr9⟩ := lpE_next hE hs
        exact ih n9 (by omega) (i7 + 1) i8 g1 hE9 H locs hP hD hS ls (lv_sub hl [0, 1, 2] rfl) (fun r hr => kk r (hr.trans hr9.symm))
      · refine lv_aload_n hx hb dX8_digest_105 rfl (lv_at hl 2 rfl) ?_
        refine lv_lload_n hx hb dX8_digest_106 rfl (lv_at hl 1 rfl) ?_
        refine lv_iload_n hx hb dX8_digest_107 rfl (lv_at hl 0 rfl) ?_
        refine g_kl hK hD hS hA (va_runV (As := [.long i8, .int i7]) (rest := []) ⟨hx, hb, hml, hown, hts⟩ (kX8_digestPerson l D ad cI g1 H.size i8 i7) (cwV 2 hts gX8_digest_X8_digestPerson rfl rfl rfl (by decide +kernel) ⟨Nat.le_of_ble_eq_true rfl, Nat.le_of_ble_eq_true rfl⟩) (g_preV hK hP hD (ci := 8) (q0 := 0) rfl rfl) rfl rfl hl.1 rfl (lv_room (Nat.le_of_ble_eq_true rfl)) dX8_digest_108 ⟨Nat.le_of_ble_eq_true rfl, Nat.le_of_ble_eq_true rfl⟩) (fun H locs hP hD hS => ?_)
        obtain ⟨g2, hg2⟩ : ∃ z : tG, z = fX8_digestPerson_w g1 i8 i7 := ⟨_, rfl⟩
        rw [← hg2] at hP hD
        refine lv_topl (fun v3 hv3 => ?_)
        refine lv_lstore_n (lv' := [(1, .long v3), (3, .int i7), (0, .ref (ad 0))]) hx hb dX8_digest_111 rfl hl (by decide) rfl (fun ls hl => ?_)
        refine lv_iinc (v := i7 + 1) (lv' := [(3, .int (i7 + 1)), (1, .long v3), (0, .ref (ad 0))]) hx hb dX8_digest_112 hl (k := 1) rfl rfl (by decide) rfl (fun ls hl => ?_)
        refine lv_goto (tgt := 83) hx hb dX8_digest_115 (by decide) ?_
        have hs := eX8_digest_83_3 i7 i8 g1 c4 c5 hg2 hv3
        obtain ⟨n9, hn9, hE9, hr9⟩ := lpE_next hE hs
        exact ih n9 (by omega) (i7 + 1) v3 g2 hE9 H locs hP hD hS ls (lv_sub hl [0, 1, 2] rfl) (fun r hr => kk r (hr.trans hr9.symm))
  refine loop83 (nn ((g 45 3))) 0 r3.2 g (tX8_digest_83 r3.2 g) _ _ hP hD hS ls hl (fun r4 hr4 H locs hP hD hS ls hl => ?_)
  have hl : lv_has ls 5 [(1, .long r4.2.1)] := lv_sub hl [1] rfl
  refine lv_lload_n hx hb dX8_digest_118 rfl (lv_at hl 0 rfl) ?_
  have hw := eX8_digest_w1 g hr1 hr3 hr4
  have hP := w_P9 hw hP
  have hD := w_D9 hw hD
  exact g_lret hx hb hr hlocks hK hP hD hS (eX8_digest_r1 g hr1 hr3 hr4).symm dX8_digest_119
