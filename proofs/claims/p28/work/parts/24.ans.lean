theorem ne_int {x : Int32} {k : Nat} (hk : k < 2 ^ 31) (h : ¬ x = nI k) : x.toInt ≠ (k : Int) := fun e => h (Int32.toInt_inj.mp (by rw [e, nI_toInt hk]))
theorem sw_out4 {x : Int32} (c1 : ¬ x = 0) (c2 : ¬ x = 1) (c3 : ¬ x = 2) (c4 : ¬ x = 3) : x.toInt < 0 ∨ 3 < x.toInt := by
  have h1 : x.toInt ≠ 0 := ne_int (k := 0) (by decide) c1
  have h2 : x.toInt ≠ 1 := ne_int (k := 1) (by decide) c2
  have h3 : x.toInt ≠ 2 := ne_int (k := 2) (by decide) c3
  have h4 : x.toInt ≠ 3 := ne_int (k := 3) (by decide) c4
  omega
theorem sw_out6 {x : Int32} (c1 : ¬ x = 0) (c2 : ¬ x = 1) (c3 : ¬ x = 2) (c4 : ¬ x = 3) (c5 : ¬ x = 4) (c6 : ¬ x = 5) : x.toInt < 0 ∨ 5 < x.toInt := by
  have h1 : x.toInt ≠ 0 := ne_int (k := 0) (by decide) c1
  have h2 : x.toInt ≠ 1 := ne_int (k := 1) (by decide) c2
  have h3 : x.toInt ≠ 2 := ne_int (k := 2) (by decide) c3
  have h4 : x.toInt ≠ 3 := ne_int (k := 3) (by decide) c4
  have h5 : x.toInt ≠ 4 := ne_int (k := 4) (by decide) c5
  have h6 : x.toInt ≠ 5 := ne_int (k := 5) (by decide) c6
  omega
theorem sw_out7 {x : Int32} (c1 : ¬ x = 0) (c2 : ¬ x = 1) (c3 : ¬ x = 2) (c4 : ¬ x = 3) (c5 : ¬ x = 4) (c6 : ¬ x = 5) (c7 : ¬ x = 6) : x.toInt < 0 ∨ 6 < x.toInt := by
  have h1 : x.toInt ≠ 0 := ne_int (k := 0) (by decide) c1
  have h2 : x.toInt ≠ 1 := ne_int (k := 1) (by decide) c2
  have h3 : x.toInt ≠ 2 := ne_int (k := 2) (by decide) c3
  have h4 : x.toInt ≠ 3 := ne_int (k := 3) (by decide) c4
  have h5 : x.toInt ≠ 4 := ne_int (k := 4) (by decide) c5
  have h6 : x.toInt ≠ 5 := ne_int (k := 5) (by decide) c6
  have h7 : x.toInt ≠ 6 := ne_int (k := 6) (by decide) c7
  omega
theorem sw_out8 {x : Int32} (c1 : ¬ x = 0) (c2 : ¬ x = 1) (c3 : ¬ x = 2) (c4 : ¬ x = 3) (c5 : ¬ x = 4) (c6 : ¬ x = 5) (c7 : ¬ x = 6) (c8 : ¬ x = 7) : x.toInt < 0 ∨ 7 < x.toInt := by
  have h1 : x.toInt ≠ 0 := ne_int (k := 0) (by decide) c1
  have h2 : x.toInt ≠ 1 := ne_int (k := 1) (by decide) c2
  have h3 : x.toInt ≠ 2 := ne_int (k := 2) (by decide) c3
  have h4 : x.toInt ≠ 3 := ne_int (k := 3) (by decide) c4
  have h5 : x.toInt ≠ 4 := ne_int (k := 4) (by decide) c5
  have h6 : x.toInt ≠ 5 := ne_int (k := 5) (by decide) c6
  have h7 : x.toInt ≠ 6 := ne_int (k := 6) (by decide) c7
  have h8 : x.toInt ≠ 7 := ne_int (k := 7) (by decide) c8
  omega
def fX8_cardAnswer_r (g : tG) (x0 : Int32) (x1 : Int32) : Int32 :=
  if x1 = 0 then
    gA g 8 x0
  else
    if x1 = 1 then
      gA g 9 x0
    else
      if x1 = 2 then
        gA g 10 x0
      else
        if x1 = 3 then
          fX6_countOf_r g x0
        else
          gA g 11 (((x0 * 4) + x1) - 4)
set_option maxRecDepth 20000 in
theorem eX8_cardAnswer_r1 (g : tG) (x0 : Int32) (x1 : Int32) (c1 : x1 = 0) : fX8_cardAnswer_r g x0 x1 = gA g 8 x0 := by
  exact (if_pos c1).trans rfl
set_option maxRecDepth 20000 in
theorem eX8_cardAnswer_r2 (g : tG) (x0 : Int32) (x1 : Int32) (c1 : ¬ (x1 = 0)) (c2 : x1 = 1) : fX8_cardAnswer_r g x0 x1 = gA g 9 x0 := by
  exact (if_neg c1).trans ((if_pos c2).trans rfl)
set_option maxRecDepth 20000 in
theorem eX8_cardAnswer_r3 (g : tG) (x0 : Int32) (x1 : Int32) (c1 : ¬ (x1 = 0)) (c2 : ¬ (x1 = 1)) (c3 : x1 = 2) : fX8_cardAnswer_r g x0 x1 = gA g 10 x0 := by
  exact (if_neg c1).trans ((if_neg c2).trans ((if_pos c3).trans rfl))
set_option maxRecDepth 20000 in
theorem eX8_cardAnswer_r4 (g : tG) (x0 : Int32) (x1 : Int32) (c1 : ¬ (x1 = 0)) (c2 : ¬ (x1 = 1)) (c3 : ¬ (x1 = 2)) (c4 : x1 = 3) : fX8_cardAnswer_r g x0 x1 = fX6_countOf_r g x0 := by
  exact (if_neg c1).trans ((if_neg c2).trans ((if_neg c3).trans ((if_pos c4).trans rfl)))
set_option maxRecDepth 20000 in
theorem eX8_cardAnswer_r5 (g : tG) (x0 : Int32) (x1 : Int32) (c1 : ¬ (x1 = 0)) (c2 : ¬ (x1 = 1)) (c3 : ¬ (x1 = 2)) (c4 : ¬ (x1 = 3)) : fX8_cardAnswer_r g x0 x1 = gA g 11 (((x0 * 4) + x1) - 4) := by
  exact (if_neg c1).trans ((if_neg c2).trans ((if_neg c3).trans ((if_neg c4).trans rfl)))
set_option maxHeartbeats 4000000 in
set_option maxRecDepth 100000 in
theorem kX8_cardAnswer (l : Launch) (D : va_G) (ad : Nat → Nat) (cI : ClassId) (g : tG) (sz : Nat) (x0 : Int32) (x1 : Int32) : Met l yX8_cardAnswer wsX8_cardAnswer ({ frames := 2, cells := 0, slots := 0, locals := 44 } : Room) (g_P D [(cI, .int)] (tcW ad cI g) [.ref (ad 0), .int x0, .int x1] sz) (g_Qi D [(cI, .int)] (va_A (tcW ad cI g) sz) (tcW ad cI g) (fX8_cardAnswer_r g x0 x1)) 0 0 (va_A (tcW ad cI g) sz) := by
  refine Met.ofW (cc := cX8_cardAnswer) (maxL := 3) (ret := (some .int)) (by decide) rfl ?_
  intro p e s m args below meth c9 s₁ B hml hv
  obtain ⟨rfl, hsz, hP, hK, hD0⟩ := hv
  have hx := B.exec
  have hb := B.bytes
  have hr := B.returns
  have hts := atoms_spec (ws := wsX8_cardAnswer) B.pre
  have hown : s.vm.findClass RX8 = some m.cls := findClass_of_methodNamed B.named
  have hlocks := B.notSynchronized
  subst hsz
  have hD := hD0.self (sz := s.heap.size)
  generalize hAe : va_A (tcW ad cI g) s.heap.size = A at hD ⊢
  have hA : ∀ q : Nat, s.heap.size ≤ q → A q := fun q h => by rw [← hAe]; exact Or.inr h
  have hS : va_S A s.heap s.heap [] := va_S.rf
  have hl := lv_entry ([.ref (ad 0), .int x0, .int x1]) (n := 3) (Nat.le_of_ble_eq_true rfl)
  rw [lg_entry_eq]
  generalize (lg_sl ([.ref (ad 0), .int x0, .int x1]) ++ List.replicate (3 - (lg_sl ([.ref (ad 0), .int x0, .int x1])).length) Slot.unset).toArray = ls at hl ⊢
  have hl : lv_has ls 3 [(0, .ref (ad 0)), (1, .int x0), (2, .int x1)] := hl
  have winX0 : ∀ w ∈ u_ws RX0 TX0 6, w ∈ wsX8_cardAnswer := by decide +kernel
  have winX5 : ∀ w ∈ u_ws RX5 TX5 1, w ∈ wsX8_cardAnswer := by decide +kernel
  have winX8 : ∀ w ∈ u_ws RX8 TX8 9, w ∈ wsX8_cardAnswer := by decide +kernel
  refine lv_iload_n hx hb dX8_cardAnswer_0 rfl (lv_at hl 2 rfl) ?_
  refine (Classical.em (x1 = 0)).elim (fun c1 => ?_) (fun c1 => ?_)
  · refine lv_tableIn (off := 31) (tgt := 32) hx hb dX8_cardAnswer_1 (by rw [c1]; decide) (by rw [c1]; decide) (by rw [c1]; decide) (by decide) ?_
    refine lv_aload_n hx hb dX8_cardAnswer_32 rfl (lv_at hl 0 rfl) ?_
    refine va_get (D := D) (ci := 8) (v := .ref (ad 19)) (C := RX8) (T := TX8) (N := 9) hx hb hts winX8 hown hK hP 0 rfl rfl 2 (by decide) (hts (.fieldLink RX8 26 "TapCap" "cards" "LTapCap$Cards;") (List.mem_of_getElem? (i := 1) rfl)) (fun _ h9 => h9) rfl dX8_cardAnswer_33 ?_
    refine va_get (D := D) (ci := 0) (v := .ref (ad 20)) (C := RX0) (T := TX0) (N := 6) hx hb hts winX0 hown hK hP 19 rfl rfl 0 (by decide) (hts (.fieldLink RX8 137 "TapCap$Cards" "purse" "LTapCap$Row;") (List.mem_of_getElem? (i := 2) rfl)) (fun _ h9 => h9) rfl dX8_cardAnswer_36 ?_
    refine lv_iload_n hx hb dX8_cardAnswer_39 rfl (lv_at hl 1 rfl) ?_
    refine g_ki hK hD hS hA (va_runV (As := [.int x0]) (rest := []) ⟨hx, hb, hml, hown, hts⟩ (k_tc_at l D ad cI g s.heap.size 8 (by decide) x0) (cwV 1 hts gX8_cardAnswer_X5_at rfl rfl rfl (by decide +kernel) ⟨Nat.le_of_ble_eq_true rfl, Nat.le_of_ble_eq_true rfl⟩) (g_preV hK hP hD (ci := 5) (q0 := 20) rfl rfl) rfl rfl hl.1 rfl (lv_room (Nat.le_of_ble_eq_true rfl)) dX8_cardAnswer_40 ⟨Nat.le_of_ble_eq_true rfl, Nat.le_of_ble_eq_true rfl⟩) (fun H locs hP hD hS => ?_)
    exact g_iret hx hb hr rfl hlocks hK hP hD hS (eX8_cardAnswer_r1 g x0 x1 c1).symm dX8_cardAnswer_43
  · refine (Classical.em (x1 = 1)).elim (fun c2 => ?_) (fun c2 => ?_)
    · refine lv_tableIn (off := 43) (tgt := 44) hx hb dX8_cardAnswer_1 (by rw [c2]; decide) (by rw [c2]; decide) (by rw [c2]; decide) (by decide) ?_
      refine lv_aload_n hx hb dX8_cardAnswer_44 rfl (lv_at hl 0 rfl) ?_
      refine va_get (D := D) (ci := 8) (v := .ref (ad 19)) (C := RX8) (T := TX8) (N := 9) hx hb hts winX8 hown hK hP 0 rfl rfl 2 (by decide) (hts (.fieldLink RX8 26 "TapCap" "cards" "LTapCap$Cards;") (List.mem_of_getElem? (i := 1) rfl)) (fun _ h9 => h9) rfl dX8_cardAnswer_45 ?_
      refine va_get (D := D) (ci := 0) (v := .ref (ad 22)) (C := RX0) (T := TX0) (N := 6) hx hb hts winX0 hown hK hP 19 rfl rfl 1 (by decide) (hts (.fieldLink RX8 128 "TapCap$Cards" "personOf" "LTapCap$Row;") (List.mem_of_getElem? (i := 3) rfl)) (fun _ h9 => h9) rfl dX8_cardAnswer_48 ?_
      refine lv_iload_n hx hb dX8_cardAnswer_51 rfl (lv_at hl 1 rfl) ?_
      refine g_ki hK hD hS hA (va_runV (As := [.int x0]) (rest := []) ⟨hx, hb, hml, hown, hts⟩ (k_tc_at l D ad cI g s.heap.size 9 (by decide) x0) (cwV 1 hts gX8_cardAnswer_X5_at rfl rfl rfl (by decide +kernel) ⟨Nat.le_of_ble_eq_true rfl, Nat.le_of_ble_eq_true rfl⟩) (g_preV hK hP hD (ci := 5) (q0 := 22) rfl rfl) rfl rfl hl.1 rfl (lv_room (Nat.le_of_ble_eq_true rfl)) dX8_cardAnswer_52 ⟨Nat.le_of_ble_eq_true rfl, Nat.le_of_ble_eq_true rfl⟩) (fun H locs hP hD hS => ?_)
      exact g_iret hx hb hr rfl hlocks hK hP hD hS (eX8_cardAnswer_r2 g x0 x1 c1 c2).symm dX8_cardAnswer_55
    · refine (Classical.em (x1 = 2)).elim (fun c3 => ?_) (fun c3 => ?_)
      · refine lv_tableIn (off := 55) (tgt := 56) hx hb dX8_cardAnswer_1 (by rw [c3]; decide) (by rw [c3]; decide) (by rw [c3]; decide) (by decide) ?_
        refine lv_aload_n hx hb dX8_cardAnswer_56 rfl (lv_at hl 0 rfl) ?_
        refine va_get (D := D) (ci := 8) (v := .ref (ad 19)) (C := RX8) (T := TX8) (N := 9) hx hb hts winX8 hown hK hP 0 rfl rfl 2 (by decide) (hts (.fieldLink RX8 26 "TapCap" "cards" "LTapCap$Cards;") (List.mem_of_getElem? (i := 1) rfl)) (fun _ h9 => h9) rfl dX8_cardAnswer_57 ?_
        refine va_get (D := D) (ci := 0) (v := .ref (ad 24)) (C := RX0) (T := TX0) (N := 6) hx hb hts winX0 hown hK hP 19 rfl rfl 2 (by decide) (hts (.fieldLink RX8 134 "TapCap$Cards" "lost" "LTapCap$Row;") (List.mem_of_getElem? (i := 4) rfl)) (fun _ h9 => h9) rfl dX8_cardAnswer_60 ?_
        refine lv_iload_n hx hb dX8_cardAnswer_63 rfl (lv_at hl 1 rfl) ?_
        refine g_ki hK hD hS hA (va_runV (As := [.int x0]) (rest := []) ⟨hx, hb, hml, hown, hts⟩ (k_tc_at l D ad cI g s.heap.size 10 (by decide) x0) (cwV 1 hts gX8_cardAnswer_X5_at rfl rfl rfl (by decide +kernel) ⟨Nat.le_of_ble_eq_true rfl, Nat.le_of_ble_eq_true rfl⟩) (g_preV hK hP hD (ci := 5) (q0 := 24) rfl rfl) rfl rfl hl.1 rfl (lv_room (Nat.le_of_ble_eq_true rfl)) dX8_cardAnswer_64 ⟨Nat.le_of_ble_eq_true rfl, Nat.le_of_ble_eq_true rfl⟩) (fun H locs hP hD hS => ?_)
        exact g_iret hx hb hr rfl hlocks hK hP hD hS (eX8_cardAnswer_r3 g x0 x1 c1 c2 c3).symm dX8_cardAnswer_67
      · refine (Classical.em (x1 = 3)).elim (fun c4 => ?_) (fun c4 => ?_)
        · refine lv_tableIn (off := 67) (tgt := 68) hx hb dX8_cardAnswer_1 (by rw [c4]; decide) (by rw [c4]; decide) (by rw [c4]; decide) (by decide) ?_
          refine lv_aload_n hx hb dX8_cardAnswer_68 rfl (lv_at hl 0 rfl) ?_
          refine va_get (D := D) (ci := 8) (v := .ref (ad 30)) (C := RX8) (T := TX8) (N := 9) hx hb hts winX8 hown hK hP 0 rfl rfl 3 (by decide) (hts (.fieldLink RX8 33 "TapCap" "taps" "LTapCap$Taps;") (List.mem_of_getElem? (i := 5) rfl)) (fun _ h9 => h9) rfl dX8_cardAnswer_69 ?_
          refine lv_iload_n hx hb dX8_cardAnswer_72 rfl (lv_at hl 1 rfl) ?_
          refine g_ki hK hD hS hA (va_runV (As := [.int x0]) (rest := []) ⟨hx, hb, hml, hown, hts⟩ (kX6_countOf l D ad cI g s.heap.size x0) (cwV 1 hts gX8_cardAnswer_X6_countOf rfl rfl rfl (by decide +kernel) ⟨Nat.le_of_ble_eq_true rfl, Nat.le_of_ble_eq_true rfl⟩) (g_preV hK hP hD (ci := 6) (q0 := 30) rfl rfl) rfl rfl hl.1 rfl (lv_room (Nat.le_of_ble_eq_true rfl)) dX8_cardAnswer_73 ⟨Nat.le_of_ble_eq_true rfl, Nat.le_of_ble_eq_true rfl⟩) (fun H locs hP hD hS => ?_)
          exact g_iret hx hb hr rfl hlocks hK hP hD hS (eX8_cardAnswer_r4 g x0 x1 c1 c2 c3 c4).symm dX8_cardAnswer_76
        · refine lv_tableOut (tgt := 77) hx hb dX8_cardAnswer_1 (sw_out4 c1 c2 c3 c4) (by decide) ?_
          refine lv_aload_n hx hb dX8_cardAnswer_77 rfl (lv_at hl 0 rfl) ?_
          refine va_get (D := D) (ci := 8) (v := .ref (ad 19)) (C := RX8) (T := TX8) (N := 9) hx hb hts winX8 hown hK hP 0 rfl rfl 2 (by decide) (hts (.fieldLink RX8 26 "TapCap" "cards" "LTapCap$Cards;") (List.mem_of_getElem? (i := 1) rfl)) (fun _ h9 => h9) rfl dX8_cardAnswer_78 ?_
          refine va_get (D := D) (ci := 0) (v := .ref (ad 26)) (C := RX0) (T := TX0) (N := 6) hx hb hts winX0 hown hK hP 19 rfl rfl 3 (by decide) (hts (.fieldLink RX8 271 "TapCap$Cards" "charged" "LTapCap$Row;") (List.mem_of_getElem? (i := 6) rfl)) (fun _ h9 => h9) rfl dX8_cardAnswer_81 ?_
          refine lv_iload_n hx hb dX8_cardAnswer_84 rfl (lv_at hl 1 rfl) ?_
          refine lv_iconst (v := 4) hx hb dX8_cardAnswer_85 (by decide) ?_
          refine lv_imul hx hb dX8_cardAnswer_86 ?_
          refine lv_iload_n hx hb dX8_cardAnswer_87 rfl (lv_at hl 2 rfl) ?_
          refine lv_iadd hx hb dX8_cardAnswer_88 ?_
          refine lv_iconst (v := 4) hx hb dX8_cardAnswer_89 (by decide) ?_
          refine lv_isub hx hb dX8_cardAnswer_90 ?_
          refine g_ki hK hD hS hA (va_runV (As := [.int (((x0 * 4) + x1) - 4)]) (rest := []) ⟨hx, hb, hml, hown, hts⟩ (k_tc_at l D ad cI g s.heap.size 11 (by decide) (((x0 * 4) + x1) - 4)) (cwV 1 hts gX8_cardAnswer_X5_at rfl rfl rfl (by decide +kernel) ⟨Nat.le_of_ble_eq_true rfl, Nat.le_of_ble_eq_true rfl⟩) (g_preV hK hP hD (ci := 5) (q0 := 26) rfl rfl) rfl rfl hl.1 rfl (lv_room (Nat.le_of_ble_eq_true rfl)) dX8_cardAnswer_91 ⟨Nat.le_of_ble_eq_true rfl, Nat.le_of_ble_eq_true rfl⟩) (fun H locs hP hD hS => ?_)
          exact g_iret hx hb hr rfl hlocks hK hP hD hS (eX8_cardAnswer_r5 g x0 x1 c1 c2 c3 c4).symm dX8_cardAnswer_94
def fX8_dayAnswer_r (g : tG) (x0 : Int32) (x1 : Int32) : Int32 :=
  if x1 = 0 then
    gA g 28 x0
  else
    if x1 = 1 then
      gA g 27 x0
    else
      if x1 = 2 then
        gA g 37 x0
      else
        if x1 = 3 then
          fX3_guessesOn_r g x0
        else
          if x1 = 4 then
            fX2_fares_r g x0 0
          else
            if x1 = 5 then
              fX1_byItself_r g x0
            else
              if x1 = 6 then
                gA g 41 x0
              else
                fX1_withinWeek_r g x0
set_option maxRecDepth 20000 in
theorem eX8_dayAnswer_r1 (g : tG) (x0 : Int32) (x1 : Int32) (c1 : x1 = 0) : fX8_dayAnswer_r g x0 x1 = gA g 28 x0 := by
  exact (if_pos c1).trans rfl
set_option maxRecDepth 20000 in
theorem eX8_dayAnswer_r2 (g : tG) (x0 : Int32) (x1 : Int32) (c1 : ¬ (x1 = 0)) (c2 : x1 = 1) : fX8_dayAnswer_r g x0 x1 = gA g 27 x0 := by
  exact (if_neg c1).trans ((if_pos c2).trans rfl)
set_option maxRecDepth 20000 in
theorem eX8_dayAnswer_r3 (g : tG) (x0 : Int32) (x1 : Int32) (c1 : ¬ (x1 = 0)) (c2 : ¬ (x1 = 1)) (c3 : x1 = 2) : fX8_dayAnswer_r g x0 x1 = gA g 37 x0 := by
  exact (if_neg c1).trans ((if_neg c2).trans ((if_pos c3).trans rfl))
set_option maxRecDepth 20000 in
theorem eX8_dayAnswer_r4 (g : tG) (x0 : Int32) (x1 : Int32) (c1 : ¬ (x1 = 0)) (c2 : ¬ (x1 = 1)) (c3 : ¬ (x1 = 2)) (c4 : x1 = 3) : fX8_dayAnswer_r g x0 x1 = fX3_guessesOn_r g x0 := by
  exact (if_neg c1).trans ((if_neg c2).trans ((if_neg c3).trans ((if_pos c4).trans rfl)))
set_option maxRecDepth 20000 in
theorem eX8_dayAnswer_r5 (g : tG) (x0 : Int32) (x1 : Int32) (c1 : ¬ (x1 = 0)) (c2 : ¬ (x1 = 1)) (c3 : ¬ (x1 = 2)) (c4 : ¬ (x1 = 3)) (c5 : x1 = 4) : fX8_dayAnswer_r g x0 x1 = fX2_fares_r g x0 0 := by
  exact (if_neg c1).trans ((if_neg c2).trans ((if_neg c3).trans ((if_neg c4).trans ((if_pos c5).trans rfl))))
set_option maxRecDepth 20000 in
theorem eX8_dayAnswer_r6 (g : tG) (x0 : Int32) (x1 : Int32) (c1 : ¬ (x1 = 0)) (c2 : ¬ (x1 = 1)) (c3 : ¬ (x1 = 2)) (c4 : ¬ (x1 = 3)) (c5 : ¬ (x1 = 4)) (c6 : x1 = 5) : fX8_dayAnswer_r g x0 x1 = fX1_byItself_r g x0 := by
  exact (if_neg c1).trans ((if_neg c2).trans ((if_neg c3).trans ((if_neg c4).trans ((if_neg c5).trans ((if_pos c6).trans rfl)))))
set_option maxRecDepth 20000 in
theorem eX8_dayAnswer_r7 (g : tG) (x0 : Int32) (x1 : Int32) (c1 : ¬ (x1 = 0)) (c2 : ¬ (x1 = 1)) (c3 : ¬ (x1 = 2)) (c4 : ¬ (x1 = 3)) (c5 : ¬ (x1 = 4)) (c6 : ¬ (x1 = 5)) (c7 : x1 = 6) : fX8_dayAnswer_r g x0 x1 = gA g 41 x0 := by
  exact (if_neg c1).trans ((if_neg c2).trans ((if_neg c3).trans ((if_neg c4).trans ((if_neg c5).trans ((if_neg c6).trans ((if_pos c7).trans rfl))))))
set_option maxRecDepth 20000 in
theorem eX8_dayAnswer_r8 (g : tG) (x0 : Int32) (x1 : Int32) (c1 : ¬ (x1 = 0)) (c2 : ¬ (x1 = 1)) (c3 : ¬ (x1 = 2)) (c4 : ¬ (x1 = 3)) (c5 : ¬ (x1 = 4)) (c6 : ¬ (x1 = 5)) (c7 : ¬ (x1 = 6)) : fX8_dayAnswer_r g x0 x1 = fX1_withinWeek_r g x0 := by
  exact (if_neg c1).trans ((if_neg c2).trans ((if_neg c3).trans ((if_neg c4).trans ((if_neg c5).trans ((if_neg c6).trans ((if_neg c7).trans rfl))))))
set_option maxHeartbeats 4000000 in
set_option maxRecDepth 100000 in
theorem kX8_dayAnswer (l : Launch) (D : va_G) (ad : Nat → Nat) (cI : ClassId) (g : tG) (sz : Nat) (x0 : Int32) (x1 : Int32) : Met l yX8_dayAnswer wsX8_dayAnswer ({ frames := 2, cells := 0, slots := 0, locals := 46 } : Room) (g_P D [(cI, .int)] (tcW ad cI g) [.ref (ad 0), .int x0, .int x1] sz) (g_Qi D [(cI, .int)] (va_A (tcW ad cI g) sz) (tcW ad cI g) (fX8_dayAnswer_r g x0 x1)) 0 0 (va_A (tcW ad cI g) sz) := by
  refine Met.ofW (cc := cX8_dayAnswer) (maxL := 3) (ret := (some .int)) (by decide) rfl ?_
  intro p e s m args below meth c9 s₁ B hml hv
  obtain ⟨rfl, hsz, hP, hK, hD0⟩ := hv
  have hx := B.exec
  have hb := B.bytes
  have hr := B.returns
  have hts := atoms_spec (ws := wsX8_dayAnswer) B.pre
  have hown : s.vm.findClass RX8 = some m.cls := findClass_of_methodNamed B.named
  have hlocks := B.notSynchronized
  subst hsz
  have hD := hD0.self (sz := s.heap.size)
  generalize hAe : va_A (tcW ad cI g) s.heap.size = A at hD ⊢
  have hA : ∀ q : Nat, s.heap.size ≤ q → A q := fun q h => by rw [← hAe]; exact Or.inr h
  have hS : va_S A s.heap s.heap [] := va_S.rf
  have hl := lv_entry ([.ref (ad 0), .int x0, .int x1]) (n := 3) (Nat.le_of_ble_eq_true rfl)
  rw [lg_entry_eq]
  generalize (lg_sl ([.ref (ad 0), .int x0, .int x1]) ++ List.replicate (3 - (lg_sl ([.ref (ad 0), .int x0, .int x1])).length) Slot.unset).toArray = ls at hl ⊢
  have hl : lv_has ls 3 [(0, .ref (ad 0)), (1, .int x0), (2, .int x1)] := hl
  have winX1 : ∀ w ∈ u_ws RX1 TX1 4, w ∈ wsX8_dayAnswer := by decide +kernel
  have winX2 : ∀ w ∈ u_ws RX2 TX2 10, w ∈ wsX8_dayAnswer := by decide +kernel
  have winX3 : ∀ w ∈ u_ws RX3 TX3 15, w ∈ wsX8_dayAnswer := by decide +kernel
  have winX5 : ∀ w ∈ u_ws RX5 TX5 1, w ∈ wsX8_dayAnswer := by decide +kernel
  have winX8 : ∀ w ∈ u_ws RX8 TX8 9, w ∈ wsX8_dayAnswer := by decide +kernel
  refine lv_iload_n hx hb dX8_dayAnswer_0 rfl (lv_at hl 2 rfl) ?_
  refine (Classical.em (x1 = 0)).elim (fun c1 => ?_) (fun c1 => ?_)
  · refine lv_tableIn (off := 43) (tgt := 44) hx hb dX8_dayAnswer_1 (by rw [c1]; decide) (by rw [c1]; decide) (by rw [c1]; decide) (by decide) ?_
    refine lv_aload_n hx hb dX8_dayAnswer_44 rfl (lv_at hl 0 rfl) ?_
    refine va_get (D := D) (ci := 8) (v := .ref (ad 43)) (C := RX8) (T := TX8) (N := 9) hx hb hts winX8 hown hK hP 0 rfl rfl 4 (by decide) (hts (.fieldLink RX8 40 "TapCap" "legs" "LTapCap$Legs;") (List.mem_of_getElem? (i := 1) rfl)) (fun _ h9 => h9) rfl dX8_dayAnswer_45 ?_
    refine va_get (D := D) (ci := 3) (v := .ref (ad 62)) (C := RX3) (T := TX3) (N := 15) hx hb hts winX3 hown hK hP 43 rfl rfl 9 (by decide) (hts (.fieldLink RX8 284 "TapCap$Legs" "tapsOn" "LTapCap$Row;") (List.mem_of_getElem? (i := 2) rfl)) (fun _ h9 => h9) rfl dX8_dayAnswer_48 ?_
    refine lv_iload_n hx hb dX8_dayAnswer_51 rfl (lv_at hl 1 rfl) ?_
    refine g_ki hK hD hS hA (va_runV (As := [.int x0]) (rest := []) ⟨hx, hb, hml, hown, hts⟩ (k_tc_at l D ad cI g s.heap.size 28 (by decide) x0) (cwV 1 hts gX8_dayAnswer_X5_at rfl rfl rfl (by decide +kernel) ⟨Nat.le_of_ble_eq_true rfl, Nat.le_of_ble_eq_true rfl⟩) (g_preV hK hP hD (ci := 5) (q0 := 62) rfl rfl) rfl rfl hl.1 rfl (lv_room (Nat.le_of_ble_eq_true rfl)) dX8_dayAnswer_52 ⟨Nat.le_of_ble_eq_true rfl, Nat.le_of_ble_eq_true rfl⟩) (fun H locs hP hD hS => ?_)
    exact g_iret hx hb hr rfl hlocks hK hP hD hS (eX8_dayAnswer_r1 g x0 x1 c1).symm dX8_dayAnswer_55
  · refine (Classical.em (x1 = 1)).elim (fun c2 => ?_) (fun c2 => ?_)
    · refine lv_tableIn (off := 55) (tgt := 56) hx hb dX8_dayAnswer_1 (by rw [c2]; decide) (by rw [c2]; decide) (by rw [c2]; decide) (by decide) ?_
      refine lv_aload_n hx hb dX8_dayAnswer_56 rfl (lv_at hl 0 rfl) ?_
      refine va_get (D := D) (ci := 8) (v := .ref (ad 43)) (C := RX8) (T := TX8) (N := 9) hx hb hts winX8 hown hK hP 0 rfl rfl 4 (by decide) (hts (.fieldLink RX8 40 "TapCap" "legs" "LTapCap$Legs;") (List.mem_of_getElem? (i := 1) rfl)) (fun _ h9 => h9) rfl dX8_dayAnswer_57 ?_
      refine va_get (D := D) (ci := 3) (v := .ref (ad 60)) (C := RX3) (T := TX3) (N := 15) hx hb hts winX3 hown hK hP 43 rfl rfl 8 (by decide) (hts (.fieldLink RX8 200 "TapCap$Legs" "countOn" "LTapCap$Row;") (List.mem_of_getElem? (i := 3) rfl)) (fun _ h9 => h9) rfl dX8_dayAnswer_60 ?_
      refine lv_iload_n hx hb dX8_dayAnswer_63 rfl (lv_at hl 1 rfl) ?_
      refine g_ki hK hD hS hA (va_runV (As := [.int x0]) (rest := []) ⟨hx, hb, hml, hown, hts⟩ (k_tc_at l D ad cI g s.heap.size 27 (by decide) x0) (cwV 1 hts gX8_dayAnswer_X5_at rfl rfl rfl (by decide +kernel) ⟨Nat.le_of_ble_eq_true rfl, Nat.le_of_ble_eq_true rfl⟩) (g_preV hK hP hD (ci := 5) (q0 := 60) rfl rfl) rfl rfl hl.1 rfl (lv_room (Nat.le_of_ble_eq_true rfl)) dX8_dayAnswer_64 ⟨Nat.le_of_ble_eq_true rfl, Nat.le_of_ble_eq_true rfl⟩) (fun H locs hP hD hS => ?_)
      exact g_iret hx hb hr rfl hlocks hK hP hD hS (eX8_dayAnswer_r2 g x0 x1 c1 c2).symm dX8_dayAnswer_67
    · refine (Classical.em (x1 = 2)).elim (fun c3 => ?_) (fun c3 => ?_)
      · refine lv_tableIn (off := 67) (tgt := 68) hx hb dX8_dayAnswer_1 (by rw [c3]; decide) (by rw [c3]; decide) (by rw [c3]; decide) (by decide) ?_
        refine lv_aload_n hx hb dX8_dayAnswer_68 rfl (lv_at hl 0 rfl) ?_
        refine va_get (D := D) (ci := 8) (v := .ref (ad 70)) (C := RX8) (T := TX8) (N := 9) hx hb hts winX8 hown hK hP 0 rfl rfl 5 (by decide) (hts (.fieldLink RX8 47 "TapCap" "journeys" "LTapCap$Journeys;") (List.mem_of_getElem? (i := 4) rfl)) (fun _ h9 => h9) rfl dX8_dayAnswer_69 ?_
        refine va_get (D := D) (ci := 2) (v := .ref (ad 81)) (C := RX2) (T := TX2) (N := 10) hx hb hts winX2 hown hK hP 70 rfl rfl 5 (by decide) (hts (.fieldLink RX8 209 "TapCap$Journeys" "countOn" "LTapCap$Row;") (List.mem_of_getElem? (i := 5) rfl)) (fun _ h9 => h9) rfl dX8_dayAnswer_72 ?_
        refine lv_iload_n hx hb dX8_dayAnswer_75 rfl (lv_at hl 1 rfl) ?_
        refine g_ki hK hD hS hA (va_runV (As := [.int x0]) (rest := []) ⟨hx, hb, hml, hown, hts⟩ (k_tc_at l D ad cI g s.heap.size 37 (by decide) x0) (cwV 1 hts gX8_dayAnswer_X5_at rfl rfl rfl (by decide +kernel) ⟨Nat.le_of_ble_eq_true rfl, Nat.le_of_ble_eq_true rfl⟩) (g_preV hK hP hD (ci := 5) (q0 := 81) rfl rfl) rfl rfl hl.1 rfl (lv_room (Nat.le_of_ble_eq_true rfl)) dX8_dayAnswer_76 ⟨Nat.le_of_ble_eq_true rfl, Nat.le_of_ble_eq_true rfl⟩) (fun H locs hP hD hS => ?_)
        exact g_iret hx hb hr rfl hlocks hK hP hD hS (eX8_dayAnswer_r3 g x0 x1 c1 c2 c3).symm dX8_dayAnswer_79
      · refine (Classical.em (x1 = 3)).elim (fun c4 => ?_) (fun c4 => ?_)
        · refine lv_tableIn (off := 79) (tgt := 80) hx hb dX8_dayAnswer_1 (by rw [c4]; decide) (by rw [c4]; decide) (by rw [c4]; decide) (by decide) ?_
          refine lv_aload_n hx hb dX8_dayAnswer_80 rfl (lv_at hl 0 rfl) ?_
          refine va_get (D := D) (ci := 8) (v := .ref (ad 43)) (C := RX8) (T := TX8) (N := 9) hx hb hts winX8 hown hK hP 0 rfl rfl 4 (by decide) (hts (.fieldLink RX8 40 "TapCap" "legs" "LTapCap$Legs;") (List.mem_of_getElem? (i := 1) rfl)) (fun _ h9 => h9) rfl dX8_dayAnswer_81 ?_
          refine lv_iload_n hx hb dX8_dayAnswer_84 rfl (lv_at hl 1 rfl) ?_
          refine g_ki hK hD hS hA (va_runV (As := [.int x0]) (rest := []) ⟨hx, hb, hml, hown, hts⟩ (kX3_guessesOn l D ad cI g s.heap.size x0) (cwV 1 hts gX8_dayAnswer_X3_guessesOn rfl rfl rfl (by decide +kernel) ⟨Nat.le_of_ble_eq_true rfl, Nat.le_of_ble_eq_true rfl⟩) (g_preV hK hP hD (ci := 3) (q0 := 43) rfl rfl) rfl rfl hl.1 rfl (lv_room (Nat.le_of_ble_eq_true rfl)) dX8_dayAnswer_85 ⟨Nat.le_of_ble_eq_true rfl, Nat.le_of_ble_eq_true rfl⟩) (fun H locs hP hD hS => ?_)
          exact g_iret hx hb hr rfl hlocks hK hP hD hS (eX8_dayAnswer_r4 g x0 x1 c1 c2 c3 c4).symm dX8_dayAnswer_88
        · refine (Classical.em (x1 = 4)).elim (fun c5 => ?_) (fun c5 => ?_)
          · refine lv_tableIn (off := 88) (tgt := 89) hx hb dX8_dayAnswer_1 (by rw [c5]; decide) (by rw [c5]; decide) (by rw [c5]; decide) (by decide) ?_
            refine lv_aload_n hx hb dX8_dayAnswer_89 rfl (lv_at hl 0 rfl) ?_
            refine va_get (D := D) (ci := 8) (v := .ref (ad 70)) (C := RX8) (T := TX8) (N := 9) hx hb hts winX8 hown hK hP 0 rfl rfl 5 (by decide) (hts (.fieldLink RX8 47 "TapCap" "journeys" "LTapCap$Journeys;") (List.mem_of_getElem? (i := 4) rfl)) (fun _ h9 => h9) rfl dX8_dayAnswer_90 ?_
            refine lv_iload_n hx hb dX8_dayAnswer_93 rfl (lv_at hl 1 rfl) ?_
            refine lv_iconst (v := 0) hx hb dX8_dayAnswer_94 (by decide) ?_
            refine g_ki hK hD hS hA (va_runV (As := [.int x0, .int 0]) (rest := []) ⟨hx, hb, hml, hown, hts⟩ (kX2_fares l D ad cI g s.heap.size x0 0) (cwV 2 hts gX8_dayAnswer_X2_fares rfl rfl rfl (by decide +kernel) ⟨Nat.le_of_ble_eq_true rfl, Nat.le_of_ble_eq_true rfl⟩) (g_preV hK hP hD (ci := 2) (q0 := 70) rfl rfl) rfl rfl hl.1 rfl (lv_room (Nat.le_of_ble_eq_true rfl)) dX8_dayAnswer_95 ⟨Nat.le_of_ble_eq_true rfl, Nat.le_of_ble_eq_true rfl⟩) (fun H locs hP hD hS => ?_)
            exact g_iret hx hb hr rfl hlocks hK hP hD hS (eX8_dayAnswer_r5 g x0 x1 c1 c2 c3 c4 c5).symm dX8_dayAnswer_98
          · refine (Classical.em (x1 = 5)).elim (fun c6 => ?_) (fun c6 => ?_)
            · refine lv_tableIn (off := 98) (tgt := 99) hx hb dX8_dayAnswer_1 (by rw [c6]; decide) (by rw [c6]; decide) (by rw [c6]; decide) (by decide) ?_
              refine lv_aload_n hx hb dX8_dayAnswer_99 rfl (lv_at hl 0 rfl) ?_
              refine va_get (D := D) (ci := 8) (v := .ref (ad 89)) (C := RX8) (T := TX8) (N := 9) hx hb hts winX8 hown hK hP 0 rfl rfl 6 (by decide) (hts (.fieldLink RX8 54 "TapCap" "costs" "LTapCap$Costs;") (List.mem_of_getElem? (i := 6) rfl)) (fun _ h9 => h9) rfl dX8_dayAnswer_100 ?_
              refine lv_iload_n hx hb dX8_dayAnswer_103 rfl (lv_at hl 1 rfl) ?_
              refine g_ki hK hD hS hA (va_runV (As := [.int x0]) (rest := []) ⟨hx, hb, hml, hown, hts⟩ (kX1_byItself l D ad cI g s.heap.size x0) (cwV 1 hts gX8_dayAnswer_X1_byItself rfl rfl rfl (by decide +kernel) ⟨Nat.le_of_ble_eq_true rfl, Nat.le_of_ble_eq_true rfl⟩) (g_preV hK hP hD (ci := 1) (q0 := 89) rfl rfl) rfl rfl hl.1 rfl (lv_room (Nat.le_of_ble_eq_true rfl)) dX8_dayAnswer_104 ⟨Nat.le_of_ble_eq_true rfl, Nat.le_of_ble_eq_true rfl⟩) (fun H locs hP hD hS => ?_)
              exact g_iret hx hb hr rfl hlocks hK hP hD hS (eX8_dayAnswer_r6 g x0 x1 c1 c2 c3 c4 c5 c6).symm dX8_dayAnswer_107
            · refine (Classical.em (x1 = 6)).elim (fun c7 => ?_) (fun c7 => ?_)
              · refine lv_tableIn (off := 107) (tgt := 108) hx hb dX8_dayAnswer_1 (by rw [c7]; decide) (by rw [c7]; decide) (by rw [c7]; decide) (by decide) ?_
                refine lv_aload_n hx hb dX8_dayAnswer_108 rfl (lv_at hl 0 rfl) ?_
                refine va_get (D := D) (ci := 8) (v := .ref (ad 89)) (C := RX8) (T := TX8) (N := 9) hx hb hts winX8 hown hK hP 0 rfl rfl 6 (by decide) (hts (.fieldLink RX8 54 "TapCap" "costs" "LTapCap$Costs;") (List.mem_of_getElem? (i := 6) rfl)) (fun _ h9 => h9) rfl dX8_dayAnswer_109 ?_
                refine va_get (D := D) (ci := 1) (v := .ref (ad 90)) (C := RX1) (T := TX1) (N := 4) hx hb hts winX1 hown hK hP 89 rfl rfl 0 (by decide) (hts (.fieldLink RX8 293 "TapCap$Costs" "dayChoice" "LTapCap$Row;") (List.mem_of_getElem? (i := 7) rfl)) (fun _ h9 => h9) rfl dX8_dayAnswer_112 ?_
                refine lv_iload_n hx hb dX8_dayAnswer_115 rfl (lv_at hl 1 rfl) ?_
                refine g_ki hK hD hS hA (va_runV (As := [.int x0]) (rest := []) ⟨hx, hb, hml, hown, hts⟩ (k_tc_at l D ad cI g s.heap.size 41 (by decide) x0) (cwV 1 hts gX8_dayAnswer_X5_at rfl rfl rfl (by decide +kernel) ⟨Nat.le_of_ble_eq_true rfl, Nat.le_of_ble_eq_true rfl⟩) (g_preV hK hP hD (ci := 5) (q0 := 90) rfl rfl) rfl rfl hl.1 rfl (lv_room (Nat.le_of_ble_eq_true rfl)) dX8_dayAnswer_116 ⟨Nat.le_of_ble_eq_true rfl, Nat.le_of_ble_eq_true rfl⟩) (fun H locs hP hD hS => ?_)
                exact g_iret hx hb hr rfl hlocks hK hP hD hS (eX8_dayAnswer_r7 g x0 x1 c1 c2 c3 c4 c5 c6 c7).symm dX8_dayAnswer_119
              · refine lv_tableOut (tgt := 120) hx hb dX8_dayAnswer_1 (sw_out7 c1 c2 c3 c4 c5 c6 c7) (by decide) ?_
                refine lv_aload_n hx hb dX8_dayAnswer_120 rfl (lv_at hl 0 rfl) ?_
                refine va_get (D := D) (ci := 8) (v := .ref (ad 89)) (C := RX8) (T := TX8) (N := 9) hx hb hts winX8 hown hK hP 0 rfl rfl 6 (by decide) (hts (.fieldLink RX8 54 "TapCap" "costs" "LTapCap$Costs;") (List.mem_of_getElem? (i := 6) rfl)) (fun _ h9 => h9) rfl dX8_dayAnswer_121 ?_
                refine lv_iload_n hx hb dX8_dayAnswer_124 rfl (lv_at hl 1 rfl) ?_
                refine g_ki hK hD hS hA (va_runV (As := [.int x0]) (rest := []) ⟨hx, hb, hml, hown, hts⟩ (kX1_withinWeek l D ad cI g s.heap.size x0) (cwV 1 hts gX8_dayAnswer_X1_withinWeek rfl rfl rfl (by decide +kernel) ⟨Nat.le_of_ble_eq_true rfl, Nat.le_of_ble_eq_true rfl⟩) (g_preV hK hP hD (ci := 1) (q0 := 89) rfl rfl) rfl rfl hl.1 rfl (lv_room (Nat.le_of_ble_eq_true rfl)) dX8_dayAnswer_125 ⟨Nat.le_of_ble_eq_true rfl, Nat.le_of_ble_eq_true rfl⟩) (fun H locs hP hD hS => ?_)
                exact g_iret hx hb hr rfl hlocks hK hP hD hS (eX8_dayAnswer_r8 g x0 x1 c1 c2 c3 c4 c5 c6 c7).symm dX8_dayAnswer_128
def fX8_legAnswer_r (g : tG) (x0 : Int32) (x1 : Int32) : Int32 :=
  if x1 = 0 then
    gA g 20 x0
  else
    if x1 = 1 then
      gA g 21 x0
    else
      if x1 = 2 then
        gA g 22 x0
      else
        if x1 = 3 then
          gA g 23 x0
        else
          if x1 = 4 then
            gA g 24 x0
          else
            if x1 = 5 then
              gA g 25 x0
            else
              gA g 35 x0
set_option maxRecDepth 20000 in
theorem eX8_legAnswer_r1 (g : tG) (x0 : Int32) (x1 : Int32) (c1 : x1 = 0) : fX8_legAnswer_r g x0 x1 = gA g 20 x0 := by
  exact (if_pos c1).trans rfl
set_option maxRecDepth 20000 in
theorem eX8_legAnswer_r2 (g : tG) (x0 : Int32) (x1 : Int32) (c1 : ¬ (x1 = 0)) (c2 : x1 = 1) : fX8_legAnswer_r g x0 x1 = gA g 21 x0 := by
  exact (if_neg c1).trans ((if_pos c2).trans rfl)
set_option maxRecDepth 20000 in
theorem eX8_legAnswer_r3 (g : tG) (x0 : Int32) (x1 : Int32) (c1 : ¬ (x1 = 0)) (c2 : ¬ (x1 = 1)) (c3 : x1 = 2) : fX8_legAnswer_r g x0 x1 = gA g 22 x0 := by
  exact (if_neg c1).trans ((if_neg c2).trans ((if_pos c3).trans rfl))
set_option maxRecDepth 20000 in
theorem eX8_legAnswer_r4 (g : tG) (x0 : Int32) (x1 : Int32) (c1 : ¬ (x1 = 0)) (c2 : ¬ (x1 = 1)) (c3 : ¬ (x1 = 2)) (c4 : x1 = 3) : fX8_legAnswer_r g x0 x1 = gA g 23 x0 := by
  exact (if_neg c1).trans ((if_neg c2).trans ((if_neg c3).trans ((if_pos c4).trans rfl)))
set_option maxRecDepth 20000 in
theorem eX8_legAnswer_r5 (g : tG) (x0 : Int32) (x1 : Int32) (c1 : ¬ (x1 = 0)) (c2 : ¬ (x1 = 1)) (c3 : ¬ (x1 = 2)) (c4 : ¬ (x1 = 3)) (c5 : x1 = 4) : fX8_legAnswer_r g x0 x1 = gA g 24 x0 := by
  exact (if_neg c1).trans ((if_neg c2).trans ((if_neg c3).trans ((if_neg c4).trans ((if_pos c5).trans rfl))))
set_option maxRecDepth 20000 in
theorem eX8_legAnswer_r6 (g : tG) (x0 : Int32) (x1 : Int32) (c1 : ¬ (x1 = 0)) (c2 : ¬ (x1 = 1)) (c3 : ¬ (x1 = 2)) (c4 : ¬ (x1 = 3)) (c5 : ¬ (x1 = 4)) (c6 : x1 = 5) : fX8_legAnswer_r g x0 x1 = gA g 25 x0 := by
  exact (if_neg c1).trans ((if_neg c2).trans ((if_neg c3).trans ((if_neg c4).trans ((if_neg c5).trans ((if_pos c6).trans rfl)))))
set_option maxRecDepth 20000 in
theorem eX8_legAnswer_r7 (g : tG) (x0 : Int32) (x1 : Int32) (c1 : ¬ (x1 = 0)) (c2 : ¬ (x1 = 1)) (c3 : ¬ (x1 = 2)) (c4 : ¬ (x1 = 3)) (c5 : ¬ (x1 = 4)) (c6 : ¬ (x1 = 5)) : fX8_legAnswer_r g x0 x1 = gA g 35 x0 := by
  exact (if_neg c1).trans ((if_neg c2).trans ((if_neg c3).trans ((if_neg c4).trans ((if_neg c5).trans ((if_neg c6).trans rfl)))))
set_option maxHeartbeats 4000000 in
set_option maxRecDepth 100000 in
theorem kX8_legAnswer (l : Launch) (D : va_G) (ad : Nat → Nat) (cI : ClassId) (g : tG) (sz : Nat) (x0 : Int32) (x1 : Int32) : Met l yX8_legAnswer wsX8_legAnswer ({ frames := 1, cells := 0, slots := 0, locals := 21 } : Room) (g_P D [(cI, .int)] (tcW ad cI g) [.ref (ad 0), .int x0, .int x1] sz) (g_Qi D [(cI, .int)] (va_A (tcW ad cI g) sz) (tcW ad cI g) (fX8_legAnswer_r g x0 x1)) 0 0 (va_A (tcW ad cI g) sz) := by
  refine Met.ofW (cc := cX8_legAnswer) (maxL := 3) (ret := (some .int)) (by decide) rfl ?_
  intro p e s m args below meth c9 s₁ B hml hv
  obtain ⟨rfl, hsz, hP, hK, hD0⟩ := hv
  have hx := B.exec
  have hb := B.bytes
  have hr := B.returns
  have hts := atoms_spec (ws := wsX8_legAnswer) B.pre
  have hown : s.vm.findClass RX8 = some m.cls := findClass_of_methodNamed B.named
  have hlocks := B.notSynchronized
  subst hsz
  have hD := hD0.self (sz := s.heap.size)
  generalize hAe : va_A (tcW ad cI g) s.heap.size = A at hD ⊢
  have hA : ∀ q : Nat, s.heap.size ≤ q → A q := fun q h => by rw [← hAe]; exact Or.inr h
  have hS : va_S A s.heap s.heap [] := va_S.rf
  have hl := lv_entry ([.ref (ad 0), .int x0, .int x1]) (n := 3) (Nat.le_of_ble_eq_true rfl)
  rw [lg_entry_eq]
  generalize (lg_sl ([.ref (ad 0), .int x0, .int x1]) ++ List.replicate (3 - (lg_sl ([.ref (ad 0), .int x0, .int x1])).length) Slot.unset).toArray = ls at hl ⊢
  have hl : lv_has ls 3 [(0, .ref (ad 0)), (1, .int x0), (2, .int x1)] := hl
  have winX2 : ∀ w ∈ u_ws RX2 TX2 10, w ∈ wsX8_legAnswer := by decide +kernel
  have winX3 : ∀ w ∈ u_ws RX3 TX3 15, w ∈ wsX8_legAnswer := by decide +kernel
  have winX5 : ∀ w ∈ u_ws RX5 TX5 1, w ∈ wsX8_legAnswer := by decide +kernel
  have winX8 : ∀ w ∈ u_ws RX8 TX8 9, w ∈ wsX8_legAnswer := by decide +kernel
  refine lv_iload_n hx hb dX8_legAnswer_0 rfl (lv_at hl 2 rfl) ?_
  refine (Classical.em (x1 = 0)).elim (fun c1 => ?_) (fun c1 => ?_)
  · refine lv_tableIn (off := 39) (tgt := 40) hx hb dX8_legAnswer_1 (by rw [c1]; decide) (by rw [c1]; decide) (by rw [c1]; decide) (by decide) ?_
    refine lv_aload_n hx hb dX8_legAnswer_40 rfl (lv_at hl 0 rfl) ?_
    refine va_get (D := D) (ci := 8) (v := .ref (ad 43)) (C := RX8) (T := TX8) (N := 9) hx hb hts winX8 hown hK hP 0 rfl rfl 4 (by decide) (hts (.fieldLink RX8 40 "TapCap" "legs" "LTapCap$Legs;") (List.mem_of_getElem? (i := 1) rfl)) (fun _ h9 => h9) rfl dX8_legAnswer_41 ?_
    refine va_get (D := D) (ci := 3) (v := .ref (ad 46)) (C := RX3) (T := TX3) (N := 15) hx hb hts winX3 hown hK hP 43 rfl rfl 1 (by decide) (hts (.fieldLink RX8 299 "TapCap$Legs" "from" "LTapCap$Row;") (List.mem_of_getElem? (i := 2) rfl)) (fun _ h9 => h9) rfl dX8_legAnswer_44 ?_
    refine lv_iload_n hx hb dX8_legAnswer_47 rfl (lv_at hl 1 rfl) ?_
    refine g_ki hK hD hS hA (va_runV (As := [.int x0]) (rest := []) ⟨hx, hb, hml, hown, hts⟩ (k_tc_at l D ad cI g s.heap.size 20 (by decide) x0) (cwV 1 hts gX8_legAnswer_X5_at rfl rfl rfl (by decide +kernel) ⟨Nat.le_of_ble_eq_true rfl, Nat.le_of_ble_eq_true rfl⟩) (g_preV hK hP hD (ci := 5) (q0 := 46) rfl rfl) rfl rfl hl.1 rfl (lv_room (Nat.le_of_ble_eq_true rfl)) dX8_legAnswer_48 ⟨Nat.le_of_ble_eq_true rfl, Nat.le_of_ble_eq_true rfl⟩) (fun H locs hP hD hS => ?_)
    exact g_iret hx hb hr rfl hlocks hK hP hD hS (eX8_legAnswer_r1 g x0 x1 c1).symm dX8_legAnswer_51
  · refine (Classical.em (x1 = 1)).elim (fun c2 => ?_) (fun c2 => ?_)
    · refine lv_tableIn (off := 51) (tgt := 52) hx hb dX8_legAnswer_1 (by rw [c2]; decide) (by rw [c2]; decide) (by rw [c2]; decide) (by decide) ?_
      refine lv_aload_n hx hb dX8_legAnswer_52 rfl (lv_at hl 0 rfl) ?_
      refine va_get (D := D) (ci := 8) (v := .ref (ad 43)) (C := RX8) (T := TX8) (N := 9) hx hb hts winX8 hown hK hP 0 rfl rfl 4 (by decide) (hts (.fieldLink RX8 40 "TapCap" "legs" "LTapCap$Legs;") (List.mem_of_getElem? (i := 1) rfl)) (fun _ h9 => h9) rfl dX8_legAnswer_53 ?_
      refine va_get (D := D) (ci := 3) (v := .ref (ad 48)) (C := RX3) (T := TX3) (N := 15) hx hb hts winX3 hown hK hP 43 rfl rfl 2 (by decide) (hts (.fieldLink RX8 302 "TapCap$Legs" "to" "LTapCap$Row;") (List.mem_of_getElem? (i := 3) rfl)) (fun _ h9 => h9) rfl dX8_legAnswer_56 ?_
      refine lv_iload_n hx hb dX8_legAnswer_59 rfl (lv_at hl 1 rfl) ?_
      refine g_ki hK hD hS hA (va_runV (As := [.int x0]) (rest := []) ⟨hx, hb, hml, hown, hts⟩ (k_tc_at l D ad cI g s.heap.size 21 (by decide) x0) (cwV 1 hts gX8_legAnswer_X5_at rfl rfl rfl (by decide +kernel) ⟨Nat.le_of_ble_eq_true rfl, Nat.le_of_ble_eq_true rfl⟩) (g_preV hK hP hD (ci := 5) (q0 := 48) rfl rfl) rfl rfl hl.1 rfl (lv_room (Nat.le_of_ble_eq_true rfl)) dX8_legAnswer_60 ⟨Nat.le_of_ble_eq_true rfl, Nat.le_of_ble_eq_true rfl⟩) (fun H locs hP hD hS => ?_)
      exact g_iret hx hb hr rfl hlocks hK hP hD hS (eX8_legAnswer_r2 g x0 x1 c1 c2).symm dX8_legAnswer_63
    · refine (Classical.em (x1 = 2)).elim (fun c3 => ?_) (fun c3 => ?_)
      · refine lv_tableIn (off := 63) (tgt := 64) hx hb dX8_legAnswer_1 (by rw [c3]; decide) (by rw [c3]; decide) (by rw [c3]; decide) (by decide) ?_
        refine lv_aload_n hx hb dX8_legAnswer_64 rfl (lv_at hl 0 rfl) ?_
        refine va_get (D := D) (ci := 8) (v := .ref (ad 43)) (C := RX8) (T := TX8) (N := 9) hx hb hts winX8 hown hK hP 0 rfl rfl 4 (by decide) (hts (.fieldLink RX8 40 "TapCap" "legs" "LTapCap$Legs;") (List.mem_of_getElem? (i := 1) rfl)) (fun _ h9 => h9) rfl dX8_legAnswer_65 ?_
        refine va_get (D := D) (ci := 3) (v := .ref (ad 50)) (C := RX3) (T := TX3) (N := 15) hx hb hts winX3 hown hK hP 43 rfl rfl 3 (by decide) (hts (.fieldLink RX8 305 "TapCap$Legs" "begin" "LTapCap$Row;") (List.mem_of_getElem? (i := 4) rfl)) (fun _ h9 => h9) rfl dX8_legAnswer_68 ?_
        refine lv_iload_n hx hb dX8_legAnswer_71 rfl (lv_at hl 1 rfl) ?_
        refine g_ki hK hD hS hA (va_runV (As := [.int x0]) (rest := []) ⟨hx, hb, hml, hown, hts⟩ (k_tc_at l D ad cI g s.heap.size 22 (by decide) x0) (cwV 1 hts gX8_legAnswer_X5_at rfl rfl rfl (by decide +kernel) ⟨Nat.le_of_ble_eq_true rfl, Nat.le_of_ble_eq_true rfl⟩) (g_preV hK hP hD (ci := 5) (q0 := 50) rfl rfl) rfl rfl hl.1 rfl (lv_room (Nat.le_of_ble_eq_true rfl)) dX8_legAnswer_72 ⟨Nat.le_of_ble_eq_true rfl, Nat.le_of_ble_eq_true rfl⟩) (fun H locs hP hD hS => ?_)
        exact g_iret hx hb hr rfl hlocks hK hP hD hS (eX8_legAnswer_r3 g x0 x1 c1 c2 c3).symm dX8_legAnswer_75
      · refine (Classical.em (x1 = 3)).elim (fun c4 => ?_) (fun c4 => ?_)
        · refine lv_tableIn (off := 75) (tgt := 76) hx hb dX8_legAnswer_1 (by rw [c4]; decide) (by rw [c4]; decide) (by rw [c4]; decide) (by decide) ?_
          refine lv_aload_n hx hb dX8_legAnswer_76 rfl (lv_at hl 0 rfl) ?_
          refine va_get (D := D) (ci := 8) (v := .ref (ad 43)) (C := RX8) (T := TX8) (N := 9) hx hb hts winX8 hown hK hP 0 rfl rfl 4 (by decide) (hts (.fieldLink RX8 40 "TapCap" "legs" "LTapCap$Legs;") (List.mem_of_getElem? (i := 1) rfl)) (fun _ h9 => h9) rfl dX8_legAnswer_77 ?_
          refine va_get (D := D) (ci := 3) (v := .ref (ad 52)) (C := RX3) (T := TX3) (N := 15) hx hb hts winX3 hown hK hP 43 rfl rfl 4 (by decide) (hts (.fieldLink RX8 308 "TapCap$Legs" "end" "LTapCap$Row;") (List.mem_of_getElem? (i := 5) rfl)) (fun _ h9 => h9) rfl dX8_legAnswer_80 ?_
          refine lv_iload_n hx hb dX8_legAnswer_83 rfl (lv_at hl 1 rfl) ?_
          refine g_ki hK hD hS hA (va_runV (As := [.int x0]) (rest := []) ⟨hx, hb, hml, hown, hts⟩ (k_tc_at l D ad cI g s.heap.size 23 (by decide) x0) (cwV 1 hts gX8_legAnswer_X5_at rfl rfl rfl (by decide +kernel) ⟨Nat.le_of_ble_eq_true rfl, Nat.le_of_ble_eq_true rfl⟩) (g_preV hK hP hD (ci := 5) (q0 := 52) rfl rfl) rfl rfl hl.1 rfl (lv_room (Nat.le_of_ble_eq_true rfl)) dX8_legAnswer_84 ⟨Nat.le_of_ble_eq_true rfl, Nat.le_of_ble_eq_true rfl⟩) (fun H locs hP hD hS => ?_)
          exact g_iret hx hb hr rfl hlocks hK hP hD hS (eX8_legAnswer_r4 g x0 x1 c1 c2 c3 c4).symm dX8_legAnswer_87
        · refine (Classical.em (x1 = 4)).elim (fun c5 => ?_) (fun c5 => ?_)
          · refine lv_tableIn (off := 87) (tgt := 88) hx hb dX8_legAnswer_1 (by rw [c5]; decide) (by rw [c5]; decide) (by rw [c5]; decide) (by decide) ?_
            refine lv_aload_n hx hb dX8_legAnswer_88 rfl (lv_at hl 0 rfl) ?_
            refine va_get (D := D) (ci := 8) (v := .ref (ad 43)) (C := RX8) (T := TX8) (N := 9) hx hb hts winX8 hown hK hP 0 rfl rfl 4 (by decide) (hts (.fieldLink RX8 40 "TapCap" "legs" "LTapCap$Legs;") (List.mem_of_getElem? (i := 1) rfl)) (fun _ h9 => h9) rfl dX8_legAnswer_89 ?_
            refine va_get (D := D) (ci := 3) (v := .ref (ad 54)) (C := RX3) (T := TX3) (N := 15) hx hb hts winX3 hown hK hP 43 rfl rfl 5 (by decide) (hts (.fieldLink RX8 311 "TapCap$Legs" "lineOf" "LTapCap$Row;") (List.mem_of_getElem? (i := 6) rfl)) (fun _ h9 => h9) rfl dX8_legAnswer_92 ?_
            refine lv_iload_n hx hb dX8_legAnswer_95 rfl (lv_at hl 1 rfl) ?_
            refine g_ki hK hD hS hA (va_runV (As := [.int x0]) (rest := []) ⟨hx, hb, hml, hown, hts⟩ (k_tc_at l D ad cI g s.heap.size 24 (by decide) x0) (cwV 1 hts gX8_legAnswer_X5_at rfl rfl rfl (by decide +kernel) ⟨Nat.le_of_ble_eq_true rfl, Nat.le_of_ble_eq_true rfl⟩) (g_preV hK hP hD (ci := 5) (q0 := 54) rfl rfl) rfl rfl hl.1 rfl (lv_room (Nat.le_of_ble_eq_true rfl)) dX8_legAnswer_96 ⟨Nat.le_of_ble_eq_true rfl, Nat.le_of_ble_eq_true rfl⟩) (fun H locs hP hD hS => ?_)
            exact g_iret hx hb hr rfl hlocks hK hP hD hS (eX8_legAnswer_r5 g x0 x1 c1 c2 c3 c4 c5).symm dX8_legAnswer_99
          · refine (Classical.em (x1 = 5)).elim (fun c6 => ?_) (fun c6 => ?_)
            · refine lv_tableIn (off := 99) (tgt := 100) hx hb dX8_legAnswer_1 (by rw [c6]; decide) (by rw [c6]; decide) (by rw [c6]; decide) (by decide) ?_
              refine lv_aload_n hx hb dX8_legAnswer_100 rfl (lv_at hl 0 rfl) ?_
              refine va_get (D := D) (ci := 8) (v := .ref (ad 43)) (C := RX8) (T := TX8) (N := 9) hx hb hts winX8 hown hK hP 0 rfl rfl 4 (by decide) (hts (.fieldLink RX8 40 "TapCap" "legs" "LTapCap$Legs;") (List.mem_of_getElem? (i := 1) rfl)) (fun _ h9 => h9) rfl dX8_legAnswer_101 ?_
              refine va_get (D := D) (ci := 3) (v := .ref (ad 56)) (C := RX3) (T := TX3) (N := 15) hx hb hts winX3 hown hK hP 43 rfl rfl 6 (by decide) (hts (.fieldLink RX8 314 "TapCap$Legs" "guessed" "LTapCap$Row;") (List.mem_of_getElem? (i := 7) rfl)) (fun _ h9 => h9) rfl dX8_legAnswer_104 ?_
              refine lv_iload_n hx hb dX8_legAnswer_107 rfl (lv_at hl 1 rfl) ?_
              refine g_ki hK hD hS hA (va_runV (As := [.int x0]) (rest := []) ⟨hx, hb, hml, hown, hts⟩ (k_tc_at l D ad cI g s.heap.size 25 (by decide) x0) (cwV 1 hts gX8_legAnswer_X5_at rfl rfl rfl (by decide +kernel) ⟨Nat.le_of_ble_eq_true rfl, Nat.le_of_ble_eq_true rfl⟩) (g_preV hK hP hD (ci := 5) (q0 := 56) rfl rfl) rfl rfl hl.1 rfl (lv_room (Nat.le_of_ble_eq_true rfl)) dX8_legAnswer_108 ⟨Nat.le_of_ble_eq_true rfl, Nat.le_of_ble_eq_true rfl⟩) (fun H locs hP hD hS => ?_)
              exact g_iret hx hb hr rfl hlocks hK hP hD hS (eX8_legAnswer_r6 g x0 x1 c1 c2 c3 c4 c5 c6).symm dX8_legAnswer_111
            · refine lv_tableOut (tgt := 112) hx hb dX8_legAnswer_1 (sw_out6 c1 c2 c3 c4 c5 c6) (by decide) ?_
              refine lv_aload_n hx hb dX8_legAnswer_112 rfl (lv_at hl 0 rfl) ?_
              refine va_get (D := D) (ci := 8) (v := .ref (ad 70)) (C := RX8) (T := TX8) (N := 9) hx hb hts winX8 hown hK hP 0 rfl rfl 5 (by decide) (hts (.fieldLink RX8 47 "TapCap" "journeys" "LTapCap$Journeys;") (List.mem_of_getElem? (i := 8) rfl)) (fun _ h9 => h9) rfl dX8_legAnswer_113 ?_
              refine va_get (D := D) (ci := 2) (v := .ref (ad 77)) (C := RX2) (T := TX2) (N := 10) hx hb hts winX2 hown hK hP 70 rfl rfl 3 (by decide) (hts (.fieldLink RX8 317 "TapCap$Journeys" "indexOfLeg" "LTapCap$Row;") (List.mem_of_getElem? (i := 9) rfl)) (fun _ h9 => h9) rfl dX8_legAnswer_116 ?_
              refine lv_iload_n hx hb dX8_legAnswer_119 rfl (lv_at hl 1 rfl) ?_
              refine g_ki hK hD hS hA (va_runV (As := [.int x0]) (rest := []) ⟨hx, hb, hml, hown, hts⟩ (k_tc_at l D ad cI g s.heap.size 35 (by decide) x0) (cwV 1 hts gX8_legAnswer_X5_at rfl rfl rfl (by decide +kernel) ⟨Nat.le_of_ble_eq_true rfl, Nat.le_of_ble_eq_true rfl⟩) (g_preV hK hP hD (ci := 5) (q0 := 77) rfl rfl) rfl rfl hl.1 rfl (lv_room (Nat.le_of_ble_eq_true rfl)) dX8_legAnswer_120 ⟨Nat.le_of_ble_eq_true rfl, Nat.le_of_ble_eq_true rfl⟩) (fun H locs hP hD hS => ?_)
              exact g_iret hx hb hr rfl hlocks hK hP hD hS (eX8_legAnswer_r7 g x0 x1 c1 c2 c3 c4 c5 c6).symm dX8_legAnswer_123
def fX8_weekAnswer_r (g : tG) (x0 : Int32) (x1 : Int32) : Int32 :=
  if x1 = 0 then
    fX1_ofWholeWeek_r g x0
  else
    if x1 = 1 then
      gA g 42 x0
    else
      fX1_ofDaysByThemselves_r g x0
set_option maxRecDepth 20000 in
theorem eX8_weekAnswer_r1 (g : tG) (x0 : Int32) (x1 : Int32) (c1 : x1 = 0) : fX8_weekAnswer_r g x0 x1 = fX1_ofWholeWeek_r g x0 := by
  exact (if_pos c1).trans rfl
set_option maxRecDepth 20000 in
theorem eX8_weekAnswer_r2 (g : tG) (x0 : Int32) (x1 : Int32) (c1 : ¬ (x1 = 0)) (c2 : x1 = 1) : fX8_weekAnswer_r g x0 x1 = gA g 42 x0 := by
  exact (if_neg c1).trans ((if_pos c2).trans rfl)
set_option maxRecDepth 20000 in
theorem eX8_weekAnswer_r3 (g : tG) (x0 : Int32) (x1 : Int32) (c1 : ¬ (x1 = 0)) (c2 : ¬ (x1 = 1)) : fX8_weekAnswer_r g x0 x1 = fX1_ofDaysByThemselves_r g x0 := by
  exact (if_neg c1).trans ((if_neg c2).trans rfl)
set_option maxHeartbeats 4000000 in
set_option maxRecDepth 100000 in
theorem kX8_weekAnswer (l : Launch) (D : va_G) (ad : Nat → Nat) (cI : ClassId) (g : tG) (sz : Nat) (x0 : Int32) (x1 : Int32) : Met l yX8_weekAnswer wsX8_weekAnswer ({ frames := 3, cells := 0, slots := 0, locals := 67 } : Room) (g_P D [(cI, .int)] (tcW ad cI g) [.ref (ad 0), .int x0, .int x1] sz) (g_Qi D [(cI, .int)] (va_A (tcW ad cI g) sz) (tcW ad cI g) (fX8_weekAnswer_r g x0 x1)) 0 0 (va_A (tcW ad cI g) sz) := by
  refine Met.ofW (cc := cX8_weekAnswer) (maxL := 3) (ret := (some .int)) (by decide) rfl ?_
  intro p e s m args below meth c9 s₁ B hml hv
  obtain ⟨rfl, hsz, hP, hK, hD0⟩ := hv
  have hx := B.exec
  have hb := B.bytes
  have hr := B.returns
  have hts := atoms_spec (ws := wsX8_weekAnswer) B.pre
  have hown : s.vm.findClass RX8 = some m.cls := findClass_of_methodNamed B.named
  have hlocks := B.notSynchronized
  subst hsz
  have hD := hD0.self (sz := s.heap.size)
  generalize hAe : va_A (tcW ad cI g) s.heap.size = A at hD ⊢
  have hA : ∀ q : Nat, s.heap.size ≤ q → A q := fun q h => by rw [← hAe]; exact Or.inr h
  have hS : va_S A s.heap s.heap [] := va_S.rf
  have hl := lv_entry ([.ref (ad 0), .int x0, .int x1]) (n := 3) (Nat.le_of_ble_eq_true rfl)
  rw [lg_entry_eq]
  generalize (lg_sl ([.ref (ad 0), .int x0, .int x1]) ++ List.replicate (3 - (lg_sl ([.ref (ad 0), .int x0, .int x1])).length) Slot.unset).toArray = ls at hl ⊢
  have hl : lv_has ls 3 [(0, .ref (ad 0)), (1, .int x0), (2, .int x1)] := hl
  have winX1 : ∀ w ∈ u_ws RX1 TX1 4, w ∈ wsX8_weekAnswer := by decide +kernel
  have winX5 : ∀ w ∈ u_ws RX5 TX5 1, w ∈ wsX8_weekAnswer := by decide +kernel
  have winX8 : ∀ w ∈ u_ws RX8 TX8 9, w ∈ wsX8_weekAnswer := by decide +kernel
  refine lv_iload_n hx hb dX8_weekAnswer_0 rfl (lv_at hl 2 rfl) ?_
  refine (Classical.em (x1 = 0)).elim (fun c1 => ?_) (fun c1 => ?_)
  · refine lv_lookup (off := 27) (tgt := 28) hx hb dX8_weekAnswer_1 (by decide) (by rw [c1]; decide) (by decide) ?_
    refine lv_aload_n hx hb dX8_weekAnswer_28 rfl (lv_at hl 0 rfl) ?_
    refine va_get (D := D) (ci := 8) (v := .ref (ad 89)) (C := RX8) (T := TX8) (N := 9) hx hb hts winX8 hown hK hP 0 rfl rfl 6 (by decide) (hts (.fieldLink RX8 54 "TapCap" "costs" "LTapCap$Costs;") (List.mem_of_getElem? (i := 1) rfl)) (fun _ h9 => h9) rfl dX8_weekAnswer_29 ?_
    refine lv_iload_n hx hb dX8_weekAnswer_32 rfl (lv_at hl 1 rfl) ?_
    refine g_ki hK hD hS hA (va_runV (As := [.int x0]) (rest := []) ⟨hx, hb, hml, hown, hts⟩ (kX1_ofWholeWeek l D ad cI g s.heap.size x0) (cwV 1 hts gX8_weekAnswer_X1_ofWholeWeek rfl rfl rfl (by decide +kernel) ⟨Nat.le_of_ble_eq_true rfl, Nat.le_of_ble_eq_true rfl⟩) (g_preV hK hP hD (ci := 1) (q0 := 89) rfl rfl) rfl rfl hl.1 rfl (lv_room (Nat.le_of_ble_eq_true rfl)) dX8_weekAnswer_33 ⟨Nat.le_of_ble_eq_true rfl, Nat.le_of_ble_eq_true rfl⟩) (fun H locs hP hD hS => ?_)
    exact g_iret hx hb hr rfl hlocks hK hP hD hS (eX8_weekAnswer_r1 g x0 x1 c1).symm dX8_weekAnswer_36
  · refine (Classical.em (x1 = 1)).elim (fun c2 => ?_) (fun c2 => ?_)
    · refine lv_lookup (off := 36) (tgt := 37) hx hb dX8_weekAnswer_1 (by decide) (by rw [c2]; decide) (by decide) ?_
      refine lv_aload_n hx hb dX8_weekAnswer_37 rfl (lv_at hl 0 rfl) ?_
      refine va_get (D := D) (ci := 8) (v := .ref (ad 89)) (C := RX8) (T := TX8) (N := 9) hx hb hts winX8 hown hK hP 0 rfl rfl 6 (by decide) (hts (.fieldLink RX8 54 "TapCap" "costs" "LTapCap$Costs;") (List.mem_of_getElem? (i := 1) rfl)) (fun _ h9 => h9) rfl dX8_weekAnswer_38 ?_
      refine va_get (D := D) (ci := 1) (v := .ref (ad 92)) (C := RX1) (T := TX1) (N := 4) hx hb hts winX1 hown hK hP 89 rfl rfl 1 (by decide) (hts (.fieldLink RX8 329 "TapCap$Costs" "weekChoice" "LTapCap$Row;") (List.mem_of_getElem? (i := 2) rfl)) (fun _ h9 => h9) rfl dX8_weekAnswer_41 ?_
      refine lv_iload_n hx hb dX8_weekAnswer_44 rfl (lv_at hl 1 rfl) ?_
      refine g_ki hK hD hS hA (va_runV (As := [.int x0]) (rest := []) ⟨hx, hb, hml, hown, hts⟩ (k_tc_at l D ad cI g s.heap.size 42 (by decide) x0) (cwV 1 hts gX8_weekAnswer_X5_at rfl rfl rfl (by decide +kernel) ⟨Nat.le_of_ble_eq_true rfl, Nat.le_of_ble_eq_true rfl⟩) (g_preV hK hP hD (ci := 5) (q0 := 92) rfl rfl) rfl rfl hl.1 rfl (lv_room (Nat.le_of_ble_eq_true rfl)) dX8_weekAnswer_45 ⟨Nat.le_of_ble_eq_true rfl, Nat.le_of_ble_eq_true rfl⟩) (fun H locs hP hD hS => ?_)
      exact g_iret hx hb hr rfl hlocks hK hP hD hS (eX8_weekAnswer_r2 g x0 x1 c1 c2).symm dX8_weekAnswer_48
    · refine lv_lookup (off := 48) (tgt := 49) hx hb dX8_weekAnswer_1 (by decide) ((lv_osw c1 (by decide)).trans ((lv_osw c2 (by decide)).trans (rfl))) (by decide) ?_
      refine lv_aload_n hx hb dX8_weekAnswer_49 rfl (lv_at hl 0 rfl) ?_
      refine va_get (D := D) (ci := 8) (v := .ref (ad 89)) (C := RX8) (T := TX8) (N := 9) hx hb hts winX8 hown hK hP 0 rfl rfl 6 (by decide) (hts (.fieldLink RX8 54 "TapCap" "costs" "LTapCap$Costs;") (List.mem_of_getElem? (i := 1) rfl)) (fun _ h9 => h9) rfl dX8_weekAnswer_50 ?_
      refine lv_iload_n hx hb dX8_weekAnswer_53 rfl (lv_at hl 1 rfl) ?_
      refine g_ki hK hD hS hA (va_runV (As := [.int x0]) (rest := []) ⟨hx, hb, hml, hown, hts⟩ (kX1_ofDaysByThemselves l D ad cI g s.heap.size x0) (cwV 1 hts gX8_weekAnswer_X1_ofDaysByThemselves rfl rfl rfl (by decide +kernel) ⟨Nat.le_of_ble_eq_true rfl, Nat.le_of_ble_eq_true rfl⟩) (g_preV hK hP hD (ci := 1) (q0 := 89) rfl rfl) rfl rfl hl.1 rfl (lv_room (Nat.le_of_ble_eq_true rfl)) dX8_weekAnswer_54 ⟨Nat.le_of_ble_eq_true rfl, Nat.le_of_ble_eq_true rfl⟩) (fun H locs hP hD hS => ?_)
      exact g_iret hx hb hr rfl hlocks hK hP hD hS (eX8_weekAnswer_r3 g x0 x1 c1 c2).symm dX8_weekAnswer_57
def fX8_manyAnswer_r (g : tG) (x0 : Int32) : Int32 :=
  if x0 = 0 then
    g 45 3
  else
    if x0 = 1 then
      g 45 4
    else
      if x0 = 2 then
        g 45 5
      else
        if x0 = 3 then
          g 45 6
        else
          if x0 = 4 then
            g 45 0
          else
            if x0 = 5 then
              g 45 2
            else
              if x0 = 6 then
                gS g 8
              else
                if x0 = 7 then
                  gS g 11
                else
                  g 45 1
set_option maxRecDepth 20000 in
theorem eX8_manyAnswer_r1 (g : tG) (x0 : Int32) (c1 : x0 = 0) : fX8_manyAnswer_r g x0 = g 45 3 := by
  exact (if_pos c1).trans rfl
set_option maxRecDepth 20000 in
theorem eX8_manyAnswer_r2 (g : tG) (x0 : Int32) (c1 : ¬ (x0 = 0)) (c2 : x0 = 1) : fX8_manyAnswer_r g x0 = g 45 4 := by
  exact (if_neg c1).trans ((if_pos c2).trans rfl)
set_option maxRecDepth 20000 in
theorem eX8_manyAnswer_r3 (g : tG) (x0 : Int32) (c1 : ¬ (x0 = 0)) (c2 : ¬ (x0 = 1)) (c3 : x0 = 2) : fX8_manyAnswer_r g x0 = g 45 5 := by
  exact (if_neg c1).trans ((if_neg c2).trans ((if_pos c3).trans rfl))
set_option maxRecDepth 20000 in
theorem eX8_manyAnswer_r4 (g : tG) (x0 : Int32) (c1 : ¬ (x0 = 0)) (c2 : ¬ (x0 = 1)) (c3 : ¬ (x0 = 2)) (c4 : x0 = 3) : fX8_manyAnswer_r g x0 = g 45 6 := by
  exact (if_neg c1).trans ((if_neg c2).trans ((if_neg c3).trans ((if_pos c4).trans rfl)))
set_option maxRecDepth 20000 in
theorem eX8_manyAnswer_r5 (g : tG) (x0 : Int32) (c1 : ¬ (x0 = 0)) (c2 : ¬ (x0 = 1)) (c3 : ¬ (x0 = 2)) (c4 : ¬ (x0 = 3)) (c5 : x0 = 4) : fX8_manyAnswer_r g x0 = g 45 0 := by
  exact (if_neg c1).trans ((if_neg c2).trans ((if_neg c3).trans ((if_neg c4).trans ((if_pos c5).trans rfl))))
set_option maxRecDepth 20000 in
theorem eX8_manyAnswer_r6 (g : tG) (x0 : Int32) (c1 : ¬ (x0 = 0)) (c2 : ¬ (x0 = 1)) (c3 : ¬ (x0 = 2)) (c4 : ¬ (x0 = 3)) (c5 : ¬ (x0 = 4)) (c6 : x0 = 5) : fX8_manyAnswer_r g x0 = g 45 2 := by
  exact (if_neg c1).trans ((if_neg c2).trans ((if_neg c3).trans ((if_neg c4).trans ((if_neg c5).trans ((if_pos c6).trans rfl)))))
set_option maxRecDepth 20000 in
theorem eX8_manyAnswer_r7 (g : tG) (x0 : Int32) (c1 : ¬ (x0 = 0)) (c2 : ¬ (x0 = 1)) (c3 : ¬ (x0 = 2)) (c4 : ¬ (x0 = 3)) (c5 : ¬ (x0 = 4)) (c6 : ¬ (x0 = 5)) (c7 : x0 = 6) : fX8_manyAnswer_r g x0 = gS g 8 := by
  exact (if_neg c1).trans ((if_neg c2).trans ((if_neg c3).trans ((if_neg c4).trans ((if_neg c5).trans ((if_neg c6).trans ((if_pos c7).trans rfl))))))
set_option maxRecDepth 20000 in
theorem eX8_manyAnswer_r8 (g : tG) (x0 : Int32) (c1 : ¬ (x0 = 0)) (c2 : ¬ (x0 = 1)) (c3 : ¬ (x0 = 2)) (c4 : ¬ (x0 = 3)) (c5 : ¬ (x0 = 4)) (c6 : ¬ (x0 = 5)) (c7 : ¬ (x0 = 6)) (c8 : x0 = 7) : fX8_manyAnswer_r g x0 = gS g 11 := by
  exact (if_neg c1).trans ((if_neg c2).trans ((if_neg c3).trans ((if_neg c4).trans ((if_neg c5).trans ((if_neg c6).trans ((if_neg c7).trans ((if_pos c8).trans rfl)))))))
set_option maxRecDepth 20000 in
theorem eX8_manyAnswer_r9 (g : tG) (x0 : Int32) (c1 : ¬ (x0 = 0)) (c2 : ¬ (x0 = 1)) (c3 : ¬ (x0 = 2)) (c4 : ¬ (x0 = 3)) (c5 : ¬ (x0 = 4)) (c6 : ¬ (x0 = 5)) (c7 : ¬ (x0 = 6)) (c8 : ¬ (x0 = 7)) : fX8_manyAnswer_r g x0 = g 45 1 := by
  exact (if_neg c1).trans ((if_neg c2).trans ((if_neg c3).trans ((if_neg c4).trans ((if_neg c5).trans ((if_neg c6).trans ((if_neg c7).trans ((if_neg c8).trans rfl)))))))
set_option maxHeartbeats 4000000 in
set_option maxRecDepth 100000 in
theorem kX8_manyAnswer (l : Launch) (D : va_G) (ad : Nat → Nat) (cI : ClassId) (g : tG) (sz : Nat) (x0 : Int32) : Met l yX8_manyAnswer wsX8_manyAnswer ({ frames := 1, cells := 0, slots := 0, locals := 22 } : Room) (g_P D [(cI, .int)] (tcW ad cI g) [.ref (ad 0), .int x0] sz) (g_Qi D [(cI, .int)] (va_A (tcW ad cI g) sz) (tcW ad cI g) (fX8_manyAnswer_r g x0)) 0 0 (va_A (tcW ad cI g) sz) := by
  refine Met.ofW (cc := cX8_manyAnswer) (maxL := 2) (ret := (some .int)) (by decide) rfl ?_
  intro p e s m args below meth c9 s₁ B hml hv
  obtain ⟨rfl, hsz, hP, hK, hD0⟩ := hv
  have hx := B.exec
  have hb := B.bytes
  have hr := B.returns
  have hts := atoms_spec (ws := wsX8_manyAnswer) B.pre
  have hown : s.vm.findClass RX8 = some m.cls := findClass_of_methodNamed B.named
  have hlocks := B.notSynchronized
  subst hsz
  have hD := hD0.self (sz := s.heap.size)
  generalize hAe : va_A (tcW ad cI g) s.heap.size = A at hD ⊢
  have hA : ∀ q : Nat, s.heap.size ≤ q → A q := fun q h => by rw [← hAe]; exact Or.inr h
  have hS : va_S A s.heap s.heap [] := va_S.rf
  have hl := lv_entry ([.ref (ad 0), .int x0]) (n := 2) (Nat.le_of_ble_eq_true rfl)
  rw [lg_entry_eq]
  generalize (lg_sl ([.ref (ad 0), .int x0]) ++ List.replicate (2 - (lg_sl ([.ref (ad 0), .int x0])).length) Slot.unset).toArray = ls at hl ⊢
  have hl : lv_has ls 2 [(0, .ref (ad 0)), (1, .int x0)] := hl
  have winX0 : ∀ w ∈ u_ws RX0 TX0 6, w ∈ wsX8_manyAnswer := by decide +kernel
  have winX5 : ∀ w ∈ u_ws RX5 TX5 1, w ∈ wsX8_manyAnswer := by decide +kernel
  have winX6 : ∀ w ∈ u_ws RX6 TX6 9, w ∈ wsX8_manyAnswer := by decide +kernel
  have winX7 : ∀ w ∈ u_ws RX7 TX7 6, w ∈ wsX8_manyAnswer := by decide +kernel
  have winX8 : ∀ w ∈ u_ws RX8 TX8 9, w ∈ wsX8_manyAnswer := by decide +kernel
  refine lv_iload_n hx hb dX8_manyAnswer_0 rfl (lv_at hl 1 rfl) ?_
  refine (Classical.em (x0 = 0)).elim (fun c1 => ?_) (fun c1 => ?_)
  · refine lv_tableIn (off := 47) (tgt := 48) hx hb dX8_manyAnswer_1 (by rw [c1]; decide) (by rw [c1]; decide) (by rw [c1]; decide) (by decide) ?_
    refine lv_aload_n hx hb dX8_manyAnswer_48 rfl (lv_at hl 0 rfl) ?_
    refine va_get (D := D) (ci := 8) (v := .ref (ad 19)) (C := RX8) (T := TX8) (N := 9) hx hb hts winX8 hown hK hP 0 rfl rfl 2 (by decide) (hts (.fieldLink RX8 26 "TapCap" "cards" "LTapCap$Cards;") (List.mem_of_getElem? (i := 1) rfl)) (fun _ h9 => h9) rfl dX8_manyAnswer_49 ?_
    refine va_get (D := D) (ci := 0) (v := .int (g 45 3)) (C := RX0) (T := TX0) (N := 6) hx hb hts winX0 hown hK hP 19 rfl rfl 5 (by decide) (hts (.fieldLink RX8 103 "TapCap$Cards" "count" "I") (List.mem_of_getElem? (i := 2) rfl)) (fun _ h9 => h9) rfl dX8_manyAnswer_52 ?_
    exact g_iret hx hb hr rfl hlocks hK hP hD hS (eX8_manyAnswer_r1 g x0 c1).symm dX8_manyAnswer_55
  · refine (Classical.em (x0 = 1)).elim (fun c2 => ?_) (fun c2 => ?_)
    · refine lv_tableIn (off := 55) (tgt := 56) hx hb dX8_manyAnswer_1 (by rw [c2]; decide) (by rw [c2]; decide) (by rw [c2]; decide) (by decide) ?_
      refine lv_aload_n hx hb dX8_manyAnswer_56 rfl (lv_at hl 0 rfl) ?_
      refine va_get (D := D) (ci := 8) (v := .ref (ad 30)) (C := RX8) (T := TX8) (N := 9) hx hb hts winX8 hown hK hP 0 rfl rfl 3 (by decide) (hts (.fieldLink RX8 33 "TapCap" "taps" "LTapCap$Taps;") (List.mem_of_getElem? (i := 3) rfl)) (fun _ h9 => h9) rfl dX8_manyAnswer_57 ?_
      refine va_get (D := D) (ci := 6) (v := .int (g 45 4)) (C := RX6) (T := TX6) (N := 9) hx hb hts winX6 hown hK hP 30 rfl rfl 6 (by decide) (hts (.fieldLink RX8 151 "TapCap$Taps" "count" "I") (List.mem_of_getElem? (i := 4) rfl)) (fun _ h9 => h9) rfl dX8_manyAnswer_60 ?_
      exact g_iret hx hb hr rfl hlocks hK hP hD hS (eX8_manyAnswer_r2 g x0 c1 c2).symm dX8_manyAnswer_63
    · refine (Classical.em (x0 = 2)).elim (fun c3 => ?_) (fun c3 => ?_)
      · refine lv_tableIn (off := 63) (tgt := 64) hx hb dX8_manyAnswer_1 (by rw [c3]; decide) (by rw [c3]; decide) (by rw [c3]; decide) (by decide) ?_
        refine lv_aload_n hx hb dX8_manyAnswer_64 rfl (lv_at hl 0 rfl) ?_
        refine va_get (D := D) (ci := 8) (v := .ref (ad 30)) (C := RX8) (T := TX8) (N := 9) hx hb hts winX8 hown hK hP 0 rfl rfl 3 (by decide) (hts (.fieldLink RX8 33 "TapCap" "taps" "LTapCap$Taps;") (List.mem_of_getElem? (i := 3) rfl)) (fun _ h9 => h9) rfl dX8_manyAnswer_65 ?_
        refine va_get (D := D) (ci := 6) (v := .int (g 45 5)) (C := RX6) (T := TX6) (N := 9) hx hb hts winX6 hown hK hP 30 rfl rfl 7 (by decide) (hts (.fieldLink RX8 148 "TapCap$Taps" "denied" "I") (List.mem_of_getElem? (i := 5) rfl)) (fun _ h9 => h9) rfl dX8_manyAnswer_68 ?_
        exact g_iret hx hb hr rfl hlocks hK hP hD hS (eX8_manyAnswer_r3 g x0 c1 c2 c3).symm dX8_manyAnswer_71
      · refine (Classical.em (x0 = 3)).elim (fun c4 => ?_) (fun c4 => ?_)
        · refine lv_tableIn (off := 71) (tgt := 72) hx hb dX8_manyAnswer_1 (by rw [c4]; decide) (by rw [c4]; decide) (by rw [c4]; decide) (by decide) ?_
          refine lv_aload_n hx hb dX8_manyAnswer_72 rfl (lv_at hl 0 rfl) ?_
          refine va_get (D := D) (ci := 8) (v := .ref (ad 30)) (C := RX8) (T := TX8) (N := 9) hx hb hts winX8 hown hK hP 0 rfl rfl 3 (by decide) (hts (.fieldLink RX8 33 "TapCap" "taps" "LTapCap$Taps;") (List.mem_of_getElem? (i := 3) rfl)) (fun _ h9 => h9) rfl dX8_manyAnswer_73 ?_
          refine va_get (D := D) (ci := 6) (v := .int (g 45 6)) (C := RX6) (T := TX6) (N := 9) hx hb hts winX6 hown hK hP 30 rfl rfl 8 (by decide) (hts (.fieldLink RX8 159 "TapCap$Taps" "doubled" "I") (List.mem_of_getElem? (i := 6) rfl)) (fun _ h9 => h9) rfl dX8_manyAnswer_76 ?_
          exact g_iret hx hb hr rfl hlocks hK hP hD hS (eX8_manyAnswer_r4 g x0 c1 c2 c3 c4).symm dX8_manyAnswer_79
        · refine (Classical.em (x0 = 4)).elim (fun c5 => ?_) (fun c5 => ?_)
          · refine lv_tableIn (off := 79) (tgt := 80) hx hb dX8_manyAnswer_1 (by rw [c5]; decide) (by rw [c5]; decide) (by rw [c5]; decide) (by decide) ?_
            refine lv_aload_n hx hb dX8_manyAnswer_80 rfl (lv_at hl 0 rfl) ?_
            refine va_get (D := D) (ci := 8) (v := .int (g 45 0)) (C := RX8) (T := TX8) (N := 9) hx hb hts winX8 hown hK hP 0 rfl rfl 7 (by decide) (hts (.fieldLink RX8 58 "TapCap" "closedDays" "I") (List.mem_of_getElem? (i := 7) rfl)) (fun _ h9 => h9) rfl dX8_manyAnswer_81 ?_
            exact g_iret hx hb hr rfl hlocks hK hP hD hS (eX8_manyAnswer_r5 g x0 c1 c2 c3 c4 c5).symm dX8_manyAnswer_84
          · refine (Classical.em (x0 = 5)).elim (fun c6 => ?_) (fun c6 => ?_)
            · refine lv_tableIn (off := 84) (tgt := 85) hx hb dX8_manyAnswer_1 (by rw [c6]; decide) (by rw [c6]; decide) (by rw [c6]; decide) (by decide) ?_
              refine lv_aload_n hx hb dX8_manyAnswer_85 rfl (lv_at hl 0 rfl) ?_
              refine va_get (D := D) (ci := 8) (v := .ref (ad 8)) (C := RX8) (T := TX8) (N := 9) hx hb hts winX8 hown hK hP 0 rfl rfl 1 (by decide) (hts (.fieldLink RX8 19 "TapCap" "tariffs" "LTapCap$Tariffs;") (List.mem_of_getElem? (i := 8) rfl)) (fun _ h9 => h9) rfl dX8_manyAnswer_86 ?_
              refine va_get (D := D) (ci := 7) (v := .int (g 45 2)) (C := RX7) (T := TX7) (N := 6) hx hb hts winX7 hown hK hP 8 rfl rfl 5 (by decide) (hts (.fieldLink RX8 89 "TapCap$Tariffs" "count" "I") (List.mem_of_getElem? (i := 9) rfl)) (fun _ h9 => h9) rfl dX8_manyAnswer_89 ?_
              exact g_iret hx hb hr rfl hlocks hK hP hD hS (eX8_manyAnswer_r6 g x0 c1 c2 c3 c4 c5 c6).symm dX8_manyAnswer_92
            · refine (Classical.em (x0 = 6)).elim (fun c7 => ?_) (fun c7 => ?_)
              · refine lv_tableIn (off := 92) (tgt := 93) hx hb dX8_manyAnswer_1 (by rw [c7]; decide) (by rw [c7]; decide) (by rw [c7]; decide) (by decide) ?_
                refine lv_aload_n hx hb dX8_manyAnswer_93 rfl (lv_at hl 0 rfl) ?_
                refine va_get (D := D) (ci := 8) (v := .ref (ad 19)) (C := RX8) (T := TX8) (N := 9) hx hb hts winX8 hown hK hP 0 rfl rfl 2 (by decide) (hts (.fieldLink RX8 26 "TapCap" "cards" "LTapCap$Cards;") (List.mem_of_getElem? (i := 1) rfl)) (fun _ h9 => h9) rfl dX8_manyAnswer_94 ?_
                refine va_get (D := D) (ci := 0) (v := .ref (ad 20)) (C := RX0) (T := TX0) (N := 6) hx hb hts winX0 hown hK hP 19 rfl rfl 0 (by decide) (hts (.fieldLink RX8 137 "TapCap$Cards" "purse" "LTapCap$Row;") (List.mem_of_getElem? (i := 10) rfl)) (fun _ h9 => h9) rfl dX8_manyAnswer_97 ?_
                refine g_ki hK hD hS hA (va_runV (As := []) (rest := []) ⟨hx, hb, hml, hown, hts⟩ (k_tc_sum l D ad cI g s.heap.size 8 (by decide) ) (cwV 0 hts gX8_manyAnswer_X5_sum rfl rfl rfl (by decide +kernel) ⟨Nat.le_of_ble_eq_true rfl, Nat.le_of_ble_eq_true rfl⟩) (g_preV hK hP hD (ci := 5) (q0 := 20) rfl rfl) rfl rfl hl.1 rfl (lv_room (Nat.le_of_ble_eq_true rfl)) dX8_manyAnswer_100 ⟨Nat.le_of_ble_eq_true rfl, Nat.le_of_ble_eq_true rfl⟩) (fun H locs hP hD hS => ?_)
                exact g_iret hx hb hr rfl hlocks hK hP hD hS (eX8_manyAnswer_r7 g x0 c1 c2 c3 c4 c5 c6 c7).symm dX8_manyAnswer_103
              · refine (Classical.em (x0 = 7)).elim (fun c8 => ?_) (fun c8 => ?_)
                · refine lv_tableIn (off := 103) (tgt := 104) hx hb dX8_manyAnswer_1 (by rw [c8]; decide) (by rw [c8]; decide) (by rw [c8]; decide) (by decide) ?_
                  refine lv_aload_n hx hb dX8_manyAnswer_104 rfl (lv_at hl 0 rfl) ?_
                  refine va_get (D := D) (ci := 8) (v := .ref (ad 19)) (C := RX8) (T := TX8) (N := 9) hx hb hts winX8 hown hK hP 0 rfl rfl 2 (by decide) (hts (.fieldLink RX8 26 "TapCap" "cards" "LTapCap$Cards;") (List.mem_of_getElem? (i := 1) rfl)) (fun _ h9 => h9) rfl dX8_manyAnswer_105 ?_
                  refine va_get (D := D) (ci := 0) (v := .ref (ad 26)) (C := RX0) (T := TX0) (N := 6) hx hb hts winX0 hown hK hP 19 rfl rfl 3 (by decide) (hts (.fieldLink RX8 271 "TapCap$Cards" "charged" "LTapCap$Row;") (List.mem_of_getElem? (i := 11) rfl)) (fun _ h9 => h9) rfl dX8_manyAnswer_108 ?_
                  refine g_ki hK hD hS hA (va_runV (As := []) (rest := []) ⟨hx, hb, hml, hown, hts⟩ (k_tc_sum l D ad cI g s.heap.size 11 (by decide) ) (cwV 0 hts gX8_manyAnswer_X5_sum rfl rfl rfl (by decide +kernel) ⟨Nat.le_of_ble_eq_true rfl, Nat.le_of_ble_eq_true rfl⟩) (g_preV hK hP hD (ci := 5) (q0 := 26) rfl rfl) rfl rfl hl.1 rfl (lv_room (Nat.le_of_ble_eq_true rfl)) dX8_manyAnswer_111 ⟨Nat.le_of_ble_eq_true rfl, Nat.le_of_ble_eq_true rfl⟩) (fun H locs hP hD hS => ?_)
                  exact g_iret hx hb hr rfl hlocks hK hP hD hS (eX8_manyAnswer_r8 g x0 c1 c2 c3 c4 c5 c6 c7 c8).symm dX8_manyAnswer_114
                · refine lv_tableOut (tgt := 115) hx hb dX8_manyAnswer_1 (sw_out8 c1 c2 c3 c4 c5 c6 c7 c8) (by decide) ?_
                  refine lv_aload_n hx hb dX8_manyAnswer_115 rfl (lv_at hl 0 rfl) ?_
                  refine va_get (D := D) (ci := 8) (v := .int (g 45 1)) (C := RX8) (T := TX8) (N := 9) hx hb hts winX8 hown hK hP 0 rfl rfl 8 (by decide) (hts (.fieldLink RX8 62 "TapCap" "refunded" "I") (List.mem_of_getElem? (i := 12) rfl)) (fun _ h9 => h9) rfl dX8_manyAnswer_116 ?_
                  exact g_iret hx hb hr rfl hlocks hK hP hD hS (eX8_manyAnswer_r9 g x0 c1 c2 c3 c4 c5 c6 c7 c8).symm dX8_manyAnswer_119
def fX8_partOf_r (g : tG) (x0 : Int32) (x1 : Int32) (x2 : Int32) : Int32 :=
  if x2 ≤ 0 then
    0
  else
    (x0 * x1) / x2
set_option maxRecDepth 20000 in
theorem eX8_partOf_r1 (g : tG) (x0 : Int32) (x1 : Int32) (x2 : Int32) (c1 : x2 ≤ 0) : fX8_partOf_r g x0 x1 x2 = 0 := by
  exact (if_pos c1).trans rfl
set_option maxRecDepth 20000 in
theorem eX8_partOf_r2 (g : tG) (x0 : Int32) (x1 : Int32) (x2 : Int32) (c1 : ¬ (x2 ≤ 0)) : fX8_partOf_r g x0 x1 x2 = (x0 * x1) / x2 := by
  exact (if_neg c1).trans rfl
set_option maxHeartbeats 4000000 in
set_option maxRecDepth 100000 in
theorem kX8_partOf (l : Launch) (D : va_G) (ad : Nat → Nat) (cI : ClassId) (g : tG) (sz : Nat) (x0 : Int32) (x1 : Int32) (x2 : Int32) : Met l yX8_partOf wsX8_partOf ({ frames := 0, cells := 0, slots := 0, locals := 0 } : Room) (g_P D [(cI, .int)] (tcW ad cI g) [.int x0, .int x1, .int x2] sz) (g_Qi D [(cI, .int)] (va_A (tcW ad cI g) sz) (tcW ad cI g) (fX8_partOf_r g x0 x1 x2)) 0 0 (va_A (tcW ad cI g) sz) := by
  refine Met.ofW (cc := cX8_partOf) (maxL := 3) (ret := (some .int)) (by decide) rfl ?_
  intro p e s m args below meth c9 s₁ B hml hv
  obtain ⟨rfl, hsz, hP, hK, hD0⟩ := hv
  have hx := B.exec
  have hb := B.bytes
  have hr := B.returns
  have hts := atoms_spec (ws := wsX8_partOf) B.pre
  have hown : s.vm.findClass RX8 = some m.cls := findClass_of_methodNamed B.named
  have hlocks := B.notSynchronized
  subst hsz
  have hD := hD0.self (sz := s.heap.size)
  generalize hAe : va_A (tcW ad cI g) s.heap.size = A at hD ⊢
  have hA : ∀ q : Nat, s.heap.size ≤ q → A q := fun q h => by rw [← hAe]; exact Or.inr h
  have hS : va_S A s.heap s.heap [] := va_S.rf
  have hl := lv_entry ([.int x0, .int x1, .int x2]) (n := 3) (Nat.le_of_ble_eq_true rfl)
  rw [lg_entry_eq]
  generalize (lg_sl ([.int x0, .int x1, .int x2]) ++ List.replicate (3 - (lg_sl ([.int x0, .int x1, .int x2])).length) Slot.unset).toArray = ls at hl ⊢
  have hl : lv_has ls 3 [(0, .int x0), (1, .int x1), (2, .int x2)] := hl
  refine lv_iload_n hx hb dX8_partOf_0 rfl (lv_at hl 2 rfl) ?_
  refine lv_if_le (tgt := 12) hx hb dX8_partOf_1 (by decide) (fun c1 => ?_) (fun c1 => ?_)
  · refine lv_iconst (v := 0) hx hb dX8_partOf_12 (by decide) ?_
    exact g_iret hx hb hr rfl hlocks hK hP hD hS (eX8_partOf_r1 g x0 x1 x2 c1).symm dX8_partOf_13
  · refine lv_iload_n hx hb dX8_partOf_4 rfl (lv_at hl 0 rfl) ?_
    refine lv_iload_n hx hb dX8_partOf_5 rfl (lv_at hl 1 rfl) ?_
    refine lv_imul hx hb dX8_partOf_6 ?_
    refine lv_iload_n hx hb dX8_partOf_7 rfl (lv_at hl 2 rfl) ?_
    refine lv_idiv hx hb dX8_partOf_8 (fun h9 => c1 (by rw [h9]; decide)) ?_
    refine lv_goto (tgt := 13) hx hb dX8_partOf_9 (by decide) ?_
    exact g_iret hx hb hr rfl hlocks hK hP hD hS (eX8_partOf_r2 g x0 x1 x2 c1).symm dX8_partOf_13
def sX8_weightOf_18 (g : tG) (x0 : Int32) (x1 : Int32) (v1 : Int32) : (Int32 × Int32) → Option (Int32 × Int32) := fun σ =>
  if (gA g 37 x1) ≤ σ.1 then
    none
  else
    let v2 : Int32 := v1 + σ.1
    let v3 : Int32 := fX2_legsOfCarrier_r g v2 x0
    let v4 : Int32 := σ.2 + (fX8_partOf_r g (gA g 34 v2) v3 (gA g 32 v2))
    some (σ.1 + 1, v4)
set_option maxRecDepth 20000 in
theorem eX8_weightOf_18_1 (g : tG) (x0 : Int32) (x1 : Int32) (v1 : Int32) (i1 : Int32) (i2 : Int32) (c1 : (gA g 37 x1) ≤ i1) : sX8_weightOf_18 g x0 x1 v1 (i1, i2) = none := by
  exact (if_pos c1).trans rfl
set_option maxRecDepth 20000 in
theorem eX8_weightOf_18_2 (g : tG) (x0 : Int32) (x1 : Int32) (v1 : Int32) (i1 : Int32) (i2 : Int32) (c1 : ¬ ((gA g 37 x1) ≤ i1)) {v2 : Int32} (hv2 : v2 = v1 + i1) {v3 : Int32} (hv3 : v3 = fX2_legsOfCarrier_r g v2 x0) {v4 : Int32} (hv4 : v4 = i2 + (fX8_partOf_r g (gA g 34 v2) v3 (gA g 32 v2))) : sX8_weightOf_18 g x0 x1 v1 (i1, i2) = some (i1 + 1, v4) := by
  have z9 := hv2.symm
  subst z9
  have z9 := hv3.symm
  subst z9
  have z9 := hv4.symm
  subst z9
  exact (if_neg c1).trans rfl
theorem tX8_weightOf_18 (g : tG) (x0 : Int32) (x1 : Int32) (v1 : Int32) (i2z : Int32) : lpE (sX8_weightOf_18 g x0 x1 v1) (nn ((gA g 37 x1))) (0, i2z) := by
  refine lpE_up (fun σ => σ.1) ((gA g 37 x1)) ?_ _ _ (nn_le _)
  intro σ τ h9
  obtain ⟨i1, i2⟩ := σ
  by_cases c1 : (gA g 37 x1) ≤ i1
  · have hs := eX8_weightOf_18_1 g x0 x1 v1 i1 i2 c1
    rw [hs] at h9
    cases h9
  · obtain ⟨v2, hv2⟩ : ∃ z : Int32, z = v1 + i1 := ⟨_, rfl⟩
    obtain ⟨v3, hv3⟩ : ∃ z : Int32, z = fX2_legsOfCarrier_r g v2 x0 := ⟨_, rfl⟩
    obtain ⟨v4, hv4⟩ : ∃ z : Int32, z = i2 + (fX8_partOf_r g (gA g 34 v2) v3 (gA g 32 v2)) := ⟨_, rfl⟩
    have hs := eX8_weightOf_18_2 g x0 x1 v1 i1 i2 c1 hv2 hv3 hv4
    rw [hs] at h9
    have e9 := Option.some.inj h9
    subst e9
    exact ⟨not_le32 c1, rfl⟩
def fX8_weightOf_r (g : tG) (x0 : Int32) (x1 : Int32) : Int32 :=
  let v1 : Int32 := gA g 36 x1
  let r1 : Int32 × Int32 := lp (sX8_weightOf_18 g x0 x1 v1) (nn ((gA g 37 x1))) (0, 0)
  r1.2
set_option maxRecDepth 20000 in
theorem eX8_weightOf_r1 (g : tG) (x0 : Int32) (x1 : Int32) {v1 : Int32} (hv1 : v1 = gA g 36 x1) {r1 : Int32 × Int32} (hr1 : r1 = lp (sX8_weightOf_18 g x0 x1 v1) (nn ((gA g 37 x1))) (0, 0)) : fX8_weightOf_r g x0 x1 = r1.2 := by
  have z9 := hv1.symm
  subst z9
  have z9 := hr1.symm
  subst z9
  exact rfl
set_option maxHeartbeats 4000000 in
set_option maxRecDepth 100000 in
theorem kX8_weightOf (l : Launch) (D : va_G) (ad : Nat → Nat) (cI : ClassId) (g : tG) (sz : Nat) (x0 : Int32) (x1 : Int32) : Met l yX8_weightOf wsX8_weightOf ({ frames := 2, cells := 0, slots := 0, locals := 48 } : Room) (g_P D [(cI, .int)] (tcW ad cI g) [.ref (ad 0), .int x0, .int x1] sz) (g_Qi D [(cI, .int)] (va_A (tcW ad cI g) sz) (tcW ad cI g) (fX8_weightOf_r g x0 x1)) 0 0 (va_A (tcW ad cI g) sz) := by
  refine Met.ofW (cc := cX8_weightOf) (maxL := 8) (ret := (some .int)) (by decide) rfl ?_
  intro p e s m args below meth c9 s₁ B hml hv
  obtain ⟨rfl, hsz, hP, hK, hD0⟩ := hv
  have hx := B.exec
  have hb := B.bytes
  have hr := B.returns
  have hts := atoms_spec (ws := wsX8_weightOf) B.pre
  have hown : s.vm.findClass RX8 = some m.cls := findClass_of_methodNamed B.named
  have hlocks := B.notSynchronized
  subst hsz
  have hD := hD0.self (sz := s.heap.size)
  generalize hAe : va_A (tcW ad cI g) s.heap.size = A at hD ⊢
  have hA : ∀ q : Nat, s.heap.size ≤ q → A q := fun q h => by rw [← hAe]; exact Or.inr h
  have hS : va_S A s.heap s.heap [] := va_S.rf
  have hl := lv_entry ([.ref (ad 0), .int x0, .int x1]) (n := 8) (Nat.le_of_ble_eq_true rfl)
  rw [lg_entry_eq]
  generalize (lg_sl ([.ref (ad 0), .int x0, .int x1]) ++ List.replicate (8 - (lg_sl ([.ref (ad 0), .int x0, .int x1])).length) Slot.unset).toArray = ls at hl ⊢
  have hl : lv_has ls 8 [(0, .ref (ad 0)), (1, .int x0), (2, .int x1)] := hl
  have winX2 : ∀ w ∈ u_ws RX2 TX2 10, w ∈ wsX8_weightOf := by decide +kernel
  have winX5 : ∀ w ∈ u_ws RX5 TX5 1, w ∈ wsX8_weightOf := by decide +kernel
  have winX8 : ∀ w ∈ u_ws RX8 TX8 9, w ∈ wsX8_weightOf := by decide +kernel
  refine lv_iconst (v := 0) hx hb dX8_weightOf_0 (by decide) ?_
  refine lv_istore_n (lv' := [(3, .int 0), (0, .ref (ad 0)), (1, .int x0), (2, .int x1)]) hx hb dX8_weightOf_1 rfl hl (by decide) rfl (fun ls hl => ?_)
  refine lv_aload_n hx hb dX8_weightOf_2 rfl (lv_at hl 1 rfl) ?_
  refine va_get (D := D) (ci := 8) (v := .ref (ad 70)) (C := RX8) (T := TX8) (N := 9) hx hb hts winX8 hown hK hP 0 rfl rfl 5 (by decide) (hts (.fieldLink RX8 47 "TapCap" "journeys" "LTapCap$Journeys;") (List.mem_of_getElem? (i := 1) rfl)) (fun _ h9 => h9) rfl dX8_weightOf_3 ?_
  refine va_get (D := D) (ci := 2) (v := .ref (ad 79)) (C := RX2) (T := TX2) (N := 10) hx hb hts winX2 hown hK hP 70 rfl rfl 4 (by decide) (hts (.fieldLink RX8 210 "TapCap$Journeys" "firstOn" "LTapCap$Row;") (List.mem_of_getElem? (i := 2) rfl)) (fun _ h9 => h9) rfl dX8_weightOf_6 ?_
  refine lv_iload_n hx hb dX8_weightOf_9 rfl (lv_at hl 3 rfl) ?_
  refine g_ki hK hD hS hA (va_runV (As := [.int x1]) (rest := []) ⟨hx, hb, hml, hown, hts⟩ (k_tc_at l D ad cI g s.heap.size 36 (by decide) x1) (cwV 1 hts gX8_weightOf_X5_at rfl rfl rfl (by decide +kernel) ⟨Nat.le_of_ble_eq_true rfl, Nat.le_of_ble_eq_true rfl⟩) (g_preV hK hP hD (ci := 5) (q0 := 79) rfl rfl) rfl rfl hl.1 rfl (lv_room (Nat.le_of_ble_eq_true rfl)) dX8_weightOf_10 ⟨Nat.le_of_ble_eq_true rfl, Nat.le_of_ble_eq_true rfl⟩) (fun H locs hP hD hS => ?_)
  refine lv_topi (fun v1 hv1 => ?_)
  refine lv_istore (lv' := [(4, .int v1), (3, .int 0), (0, .ref (ad 0)), (1, .int x0), (2, .int x1)]) hx hb dX8_weightOf_13 hl (by decide) rfl (fun ls hl => ?_)
  refine lv_iconst (v := 0) hx hb dX8_weightOf_15 (by decide) ?_
  refine lv_istore (lv' := [(5, .int 0), (4, .int v1), (3, .int 0), (0, .ref (ad 0)), (1, .int x0), (2, .int x1)]) hx hb dX8_weightOf_16 hl (by decide) rfl (fun ls hl => ?_)
  have loop18 : ∀ (n : Nat)  (i1 : Int32) (i2 : Int32), lpE (sX8_weightOf_18 g x0 x1 v1) n (i1, i2) → ∀ (H : Heap) (locs : List Loc), va_P D vwCl (tcW ad cI g) H → va_D A (tcW ad cI g) → va_S A s.heap H locs → ∀ (ls : Array Slot), lv_has ls 8 [(5, .int i1), (4, .int v1), (3, .int i2), (0, .ref (ad 0)), (1, .int x0), (2, .int x1)] → (∀ r : Int32 × Int32, r = lp (sX8_weightOf_18 g x0 x1 v1) n (i1, i2) → ∀ (H : Heap) (locs : List Loc), va_P D vwCl (tcW ad cI g) H → va_D A (tcW ad cI g) → va_S A s.heap H locs → ∀ (ls : Array Slot), lv_has ls 8 [(5, .int r.1), (4, .int v1), (3, .int r.2), (0, .ref (ad 0)), (1, .int x0), (2, .int x1)] → W p l e (headSpec wsX8_weightOf ({ frames := 2, cells := 0, slots := 0, locals := 48 } : Room)).room s m ([.ref (ad 0), .int x0, .int x1] : List Value).toArray below meth c9 H locs 0 0 (MQ below (g_Qi D [(cI, .int)] A (tcW ad cI g) (fX8_weightOf_r g x0 x1)) ([.ref (ad 0), .int x0, .int x1] : List Value).toArray s 0 0 A) (F0 m 99 ls [])) → W p l e (headSpec wsX8_weightOf ({ frames := 2, cells := 0, slots := 0, locals := 48 } : Room)).room s m ([.ref (ad 0), .int x0, .int x1] : List Value).toArray below meth c9 H locs 0 0 (MQ below (g_Qi D [(cI, .int)] A (tcW ad cI g) (fX8_weightOf_r g x0 x1)) ([.ref (ad 0), .int x0, .int x1] : List Value).toArray s 0 0 A) (F0 m 18 ls []) := by
    refine lp_ind ?_
    intro n ih i1 i2 hE H locs hP hD hS ls hl kk
    refine lv_iload hx hb dX8_weightOf_18 (lv_at hl 0 rfl) ?_
    refine lv_aload_n hx hb dX8_weightOf_20 rfl (lv_at hl 3 rfl) ?_
    refine va_get (D := D) (ci := 8) (v := .ref (ad 70)) (C := RX8) (T := TX8) (N := 9) hx hb hts winX8 hown hK hP 0 rfl rfl 5 (by decide) (hts (.fieldLink RX8 47 "TapCap" "journeys" "LTapCap$Journeys;") (List.mem_of_getElem? (i := 1) rfl)) (fun _ h9 => h9) rfl dX8_weightOf_21 ?_
    refine va_get (D := D) (ci := 2) (v := .ref (ad 81)) (C := RX2) (T := TX2) (N := 10) hx hb hts winX2 hown hK hP 70 rfl rfl 5 (by decide) (hts (.fieldLink RX8 209 "TapCap$Journeys" "countOn" "LTapCap$Row;") (List.mem_of_getElem? (i := 3) rfl)) (fun _ h9 => h9) rfl dX8_weightOf_24 ?_
    refine lv_iload_n hx hb dX8_weightOf_27 rfl (lv_at hl 5 rfl) ?_
    refine g_ki hK hD hS hA (va_runV (As := [.int x1]) (rest := [.int i1]) ⟨hx, hb, hml, hown, hts⟩ (k_tc_at l D ad cI g H.size 37 (by decide) x1) (cwV 1 hts gX8_weightOf_X5_at rfl rfl rfl (by decide +kernel) ⟨Nat.le_of_ble_eq_true rfl, Nat.le_of_ble_eq_true rfl⟩) (g_preV hK hP hD (ci := 5) (q0 := 81) rfl rfl) rfl rfl hl.1 rfl (lv_room (Nat.le_of_ble_eq_true rfl)) dX8_weightOf_28 ⟨Nat.le_of_ble_eq_true rfl, Nat.le_of_ble_eq_true rfl⟩) (fun H locs hP hD hS => ?_)
    refine lv_icmp_ge (tgt := 99) hx hb dX8_weightOf_31 (by decide) (fun c1 => ?_) (fun c1 => ?_)
    · have hs := eX8_weightOf_18_1 g x0 x1 v1 i1 i2 c1
      exact kk _ (lp_none hs).symm H locs hP hD hS ls (lv_sub hl [0, 1, 2, 3, 4, 5] rfl)
    · refine lv_iload hx hb dX8_weightOf_34 (lv_at hl 1 rfl) ?_
      refine lv_iload hx hb dX8_weightOf_36 (lv_at hl 0 rfl) ?_
      refine lv_iadd hx hb dX8_weightOf_38 ?_
      refine lv_topi (fun v2 hv2 => ?_)
      refine lv_istore (lv' := [(6, .int v2), (5, .int i1), (4, .int v1), (3, .int i2), (0, .ref (ad 0)), (1, .int x0), (2, .int x1)]) hx hb dX8_weightOf_39 hl (by decide) rfl (fun ls hl => ?_)
      refine lv_aload_n hx hb dX8_weightOf_41 rfl (lv_at hl 4 rfl) ?_
      refine va_get (D := D) (ci := 8) (v := .ref (ad 70)) (C := RX8) (T := TX8) (N := 9) hx hb hts winX8 hown hK hP 0 rfl rfl 5 (by decide) (hts (.fieldLink RX8 47 "TapCap" "journeys" "LTapCap$Journeys;") (List.mem_of_getElem? (i := 1) rfl)) (fun _ h9 => h9) rfl dX8_weightOf_42 ?_
      refine lv_iload hx hb dX8_weightOf_45 (lv_at hl 0 rfl) ?_
      refine lv_aload_n hx hb dX8_weightOf_47 rfl (lv_at hl 4 rfl) ?_
      refine va_get (D := D) (ci := 8) (v := .ref (ad 43)) (C := RX8) (T := TX8) (N := 9) hx hb hts winX8 hown hK hP 0 rfl rfl 4 (by decide) (hts (.fieldLink RX8 40 "TapCap" "legs" "LTapCap$Legs;") (List.mem_of_getElem? (i := 4) rfl)) (fun _ h9 => h9) rfl dX8_weightOf_48 ?_
      refine lv_aload_n hx hb dX8_weightOf_51 rfl (lv_at hl 4 rfl) ?_
      refine va_get (D := D) (ci := 8) (v := .ref (ad 1)) (C := RX8) (T := TX8) (N := 9) hx hb hts winX8 hown hK hP 0 rfl rfl 0 (by decide) (hts (.fieldLink RX8 12 "TapCap" "region" "LTapCap$Region;") (List.mem_of_getElem? (i := 5) rfl)) (fun _ h9 => h9) rfl dX8_weightOf_52 ?_
      refine lv_iload_n hx hb dX8_weightOf_55 rfl (lv_at hl 5 rfl) ?_
      refine g_ki hK hD hS hA (va_runV (As := [.int v2, .ref (ad 43), .ref (ad 1), .int x0]) (rest := []) ⟨hx, hb, hml, hown, hts⟩ (kX2_legsOfCarrier l D ad cI g H.size v2 x0) (cwV 4 hts gX8_weightOf_X2_legsOfCarrier rfl rfl rfl (by decide +kernel) ⟨Nat.le_of_ble_eq_true rfl, Nat.le_of_ble_eq_true rfl⟩) (g_preV hK hP hD (ci := 2) (q0 := 70) rfl rfl) rfl rfl hl.1 rfl (lv_room (Nat.le_of_ble_eq_true rfl)) dX8_weightOf_56 ⟨Nat.le_of_ble_eq_true rfl, Nat.le_of_ble_eq_true rfl⟩) (fun H locs hP hD hS => ?_)
      refine lv_topi (fun v3 hv3 => ?_)
      refine lv_istore (lv' := [(7, .int v3), (6, .int v2), (5, .int i1), (4, .int v1), (3, .int i2), (0, .ref (ad 0)), (1, .int x0), (2, .int x1)]) hx hb dX8_weightOf_59 hl (by decide) rfl (fun ls hl => ?_)
      refine lv_iload_n hx hb dX8_weightOf_61 rfl (lv_at hl 4 rfl) ?_
      refine lv_aload_n hx hb dX8_weightOf_62 rfl (lv_at hl 5 rfl) ?_
      refine va_get (D := D) (ci := 8) (v := .ref (ad 70)) (C := RX8) (T := TX8) (N := 9) hx hb hts winX8 hown hK hP 0 rfl rfl 5 (by decide) (hts (.fieldLink RX8 47 "TapCap" "journeys" "LTapCap$Journeys;") (List.mem_of_getElem? (i := 1) rfl)) (fun _ h9 => h9) rfl dX8_weightOf_63 ?_
      refine va_get (D := D) (ci := 2) (v := .ref (ad 75)) (C := RX2) (T := TX2) (N := 10) hx hb hts winX2 hown hK hP 70 rfl rfl 2 (by decide) (hts (.fieldLink RX8 278 "TapCap$Journeys" "fare" "LTapCap$Row;") (List.mem_of_getElem? (i := 6) rfl)) (fun _ h9 => h9) rfl dX8_weightOf_66 ?_
      refine lv_iload hx hb dX8_weightOf_69 (lv_at hl 1 rfl) ?_
      refine g_ki hK hD hS hA (va_runV (As := [.int v2]) (rest := [.int i2]) ⟨hx, hb, hml, hown, hts⟩ (k_tc_at l D ad cI g H.size 34 (by decide) v2) (cwV 1 hts gX8_weightOf_X5_at rfl rfl rfl (by decide +kernel) ⟨Nat.le_of_ble_eq_true rfl, Nat.le_of_ble_eq_true rfl⟩) (g_preV hK hP hD (ci := 5) (q0 := 75) rfl rfl) rfl rfl hl.1 rfl (lv_room (Nat.le_of_ble_eq_true rfl)) dX8_weightOf_71 ⟨Nat.le_of_ble_eq_true rfl, Nat.le_of_ble_eq_true rfl⟩) (fun H locs hP hD hS => ?_)
      refine lv_iload hx hb dX8_weightOf_74 (lv_at hl 0 rfl) ?_
      refine lv_aload_n hx hb dX8_weightOf_76 rfl (lv_at hl 5 rfl) ?_
      refine va_get (D := D) (ci := 8) (v := .ref (ad 70)) (C := RX8) (T := TX8) (N := 9) hx hb hts winX8 hown hK hP 0 rfl rfl 5 (by decide) (hts (.fieldLink RX8 47 "TapCap" "journeys" "LTapCap$Journeys;") (List.mem_of_getElem? (i := 1) rfl)) (fun _ h9 => h9) rfl dX8_weightOf_77 ?_
      refine va_get (D := D) (ci := 2) (v := .ref (ad 71)) (C := RX2) (T := TX2) (N := 10) hx hb hts winX2 hown hK hP 70 rfl rfl 0 (by decide) (hts (.fieldLink RX8 320 "TapCap$Journeys" "legCount" "LTapCap$Row;") (List.mem_of_getElem? (i := 7) rfl)) (fun _ h9 => h9) rfl dX8_weightOf_80 ?_
      refine lv_iload hx hb dX8_weightOf_83 (lv_at hl 1 rfl) ?_
      refine g_ki hK hD hS hA (va_runV (As := [.int v2]) (rest := [.int v3, .int (gA g 34 v2), .int i2]) ⟨hx, hb, hml, hown, hts⟩ (k_tc_at l D ad cI g H.size 32 (by decide) v2) (cwV 1 hts gX8_weightOf_X5_at rfl rfl rfl (by decide +kernel) ⟨Nat.le_of_ble_eq_true rfl, Nat.le_of_ble_eq_true rfl⟩) (g_preV hK hP hD (ci := 5) (q0 := 71) rfl rfl) rfl rfl hl.1 rfl (lv_room (Nat.le_of_ble_eq_true rfl)) dX8_weightOf_85 ⟨Nat.le_of_ble_eq_true rfl, Nat.le_of_ble_eq_true rfl⟩) (fun H locs hP hD hS => ?_)
      refine g_ki hK hD hS hA (va_runS (As := [.int (gA g 34 v2), .int v3, .int (gA g 32 v2)]) (rest := [.int i2]) ⟨hx, hb, hml, hown, hts⟩ (kX8_partOf l D ad cI g H.size (gA g 34 v2) v3 (gA g 32 v2)) (cwS 3 hts gX8_weightOf_X8_partOf rfl rfl rfl (by decide +kernel) ⟨Nat.le_of_ble_eq_true rfl, Nat.le_of_ble_eq_true rfl⟩) (g_preS hK hP hD) rfl rfl hl.1 rfl (lv_room (Nat.le_of_ble_eq_true rfl)) dX8_weightOf_88 ⟨Nat.le_of_ble_eq_true rfl, Nat.le_of_ble_eq_true rfl⟩) (fun H locs hP hD hS => ?_)
      refine lv_iadd hx hb dX8_weightOf_91 ?_
      refine lv_topi (fun v4 hv4 => ?_)
      refine lv_istore_n (lv' := [(3, .int v4), (7, .int v3), (6, .int v2), (5, .int i1), (4, .int v1), (0, .ref (ad 0)), (1, .int x0), (2, .int x1)]) hx hb dX8_weightOf_92 rfl hl (by decide) rfl (fun ls hl => ?_)
      refine lv_iinc (v := i1 + 1) (lv' := [(5, .int (i1 + 1)), (3, .int v4), (7, .int v3), (6, .int v2), (4, .int v1), (0, .ref (ad 0)), (1, .int x0), (2, .int x1)]) hx hb dX8_weightOf_93 hl (k := 3) rfl rfl (by decide) rfl (fun ls hl => ?_)
      refine lv_goto (tgt := 18) hx hb dX8_weightOf_96 (by decide) ?_
      have hs := eX8_weightOf_18_2 g x0 x1 v1 i1 i2 c1 hv2 hv3 hv4
      obtain ⟨n9, hn9, hE9, hr9⟩ := lpE_next hE hs
      exact ih n9 (by omega) (i1 + 1) v4 hE9 H locs hP hD hS ls (lv_sub hl [0, 4, 1, 5, 6, 7] rfl) (fun r hr => kk r (hr.trans hr9.symm))
  refine loop18 (nn ((gA g 37 x1))) 0 0 (tX8_weightOf_18 g x0 x1 v1 0) _ _ hP hD hS ls hl (fun r1 hr1 H locs hP hD hS ls hl => ?_)
  have hl : lv_has ls 8 [(3, .int r1.2)] := lv_sub hl [2] rfl
  refine lv_iload_n hx hb dX8_weightOf_99 rfl (lv_at hl 0 rfl) ?_
  exact g_iret hx hb hr rfl hlocks hK hP hD hS (eX8_weightOf_r1 g x0 x1 hv1 hr1).symm dX8_weightOf_100
def sX8_shareAnswer_31 (g : tG) (x1 : Int32) : (Int32 × Int32) → Option (Int32 × Int32) := fun σ =>
  if 3 ≤ σ.1 then
    none
  else
    let v2 : Int32 := σ.2 + (fX8_weightOf_r g σ.1 x1)
    some (σ.1 + 1, v2)
set_option maxRecDepth 20000 in
theorem eX8_shareAnswer_31_1 (g : tG) (x1 : Int32) (i1 : Int32) (i2 : Int32) (c2 : 3 ≤ i1) : sX8_shareAnswer_31 g x1 (i1, i2) = none := by
  exact (if_pos c2).trans rfl
set_option maxRecDepth 20000 in
theorem eX8_shareAnswer_31_2 (g : tG) (x1 : Int32) (i1 : Int32) (i2 : Int32) (c2 : ¬ (3 ≤ i1)) {v2 : Int32} (hv2 : v2 = i2 + (fX8_weightOf_r g i1 x1)) : sX8_shareAnswer_31 g x1 (i1, i2) = some (i1 + 1, v2) := by
  have z9 := hv2.symm
  subst z9
  exact (if_neg c2).trans rfl
theorem tX8_shareAnswer_31 (g : tG) (x1 : Int32) (i2z : Int32) : lpE (sX8_shareAnswer_31 g x1) 3 (0, i2z) := by
  refine lpE_up (fun σ => σ.1) 3 ?_ _ _ (by show (3 : Int32).toInt - (0 : Int32).toInt ≤ ((3 : Nat) : Int); decide)
  intro σ τ h9
  obtain ⟨i1, i2⟩ := σ
  by_cases c2 : 3 ≤ i1
  · have hs := eX8_shareAnswer_31_1 g x1 i1 i2 c2
    rw [hs] at h9
    cases h9
  · obtain ⟨v2, hv2⟩ : ∃ z : Int32, z = i2 + (fX8_weightOf_r g i1 x1) := ⟨_, rfl⟩
    have hs := eX8_shareAnswer_31_2 g x1 i1 i2 c2 hv2
    rw [hs] at h9
    have e9 := Option.some.inj h9
    subst e9
    exact ⟨not_le32 c2, rfl⟩
def sX8_shareAnswer_109 (g : tG) (x0 : Int32) (x1 : Int32) (v1 : Int32) (r1 : Int32 × Int32) : (Int32 × Int32) → Option (Int32 × Int32) := fun σ =>
  if 3 ≤ σ.1 then
    none
  else
    if σ.1 = x0 then
      some (σ.1 + 1, σ.2)
    else
      let v3 : Int32 := σ.2 - (fX8_partOf_r g v1 (fX8_weightOf_r g σ.1 x1) r1.2)
      some (σ.1 + 1, v3)
set_option maxRecDepth 20000 in
theorem eX8_shareAnswer_109_1 (g : tG) (x0 : Int32) (x1 : Int32) (v1 : Int32) (r1 : Int32 × Int32) (i3 : Int32) (i4 : Int32) (c4 : 3 ≤ i3) : sX8_shareAnswer_109 g x0 x1 v1 r1 (i3, i4) = none := by
  exact (if_pos c4).trans rfl
set_option maxRecDepth 20000 in
theorem eX8_shareAnswer_109_2 (g : tG) (x0 : Int32) (x1 : Int32) (v1 : Int32) (r1 : Int32 × Int32) (i3 : Int32) (i4 : Int32) (c4 : ¬ (3 ≤ i3)) (c5 : i3 = x0) : sX8_shareAnswer_109 g x0 x1 v1 r1 (i3, i4) = some (i3 + 1, i4) := by
  exact (if_neg c4).trans ((if_pos c5).trans rfl)
set_option maxRecDepth 20000 in
theorem eX8_shareAnswer_109_3 (g : tG) (x0 : Int32) (x1 : Int32) (v1 : Int32) (r1 : Int32 × Int32) (i3 : Int32) (i4 : Int32) (c4 : ¬ (3 ≤ i3)) (c5 : ¬ (i3 = x0)) {v3 : Int32} (hv3 : v3 = i4 - (fX8_partOf_r g v1 (fX8_weightOf_r g i3 x1) r1.2)) : sX8_shareAnswer_109 g x0 x1 v1 r1 (i3, i4) = some (i3 + 1, v3) := by
  have z9 := hv3.symm
  subst z9
  exact (if_neg c4).trans ((if_neg c5).trans rfl)
theorem tX8_shareAnswer_109 (g : tG) (x0 : Int32) (x1 : Int32) (v1 : Int32) (r1 : Int32 × Int32) (i4z : Int32) : lpE (sX8_shareAnswer_109 g x0 x1 v1 r1) 3 (0, i4z) := by
  refine lpE_up (fun σ => σ.1) 3 ?_ _ _ (by show (3 : Int32).toInt - (0 : Int32).toInt ≤ ((3 : Nat) : Int); decide)
  intro σ τ h9
  obtain ⟨i3, i4⟩ := σ
  by_cases c4 : 3 ≤ i3
  · have hs := eX8_shareAnswer_109_1 g x0 x1 v1 r1 i3 i4 c4
    rw [hs] at h9
    cases h9
  · by_cases c5 : i3 = x0
    · have hs := eX8_shareAnswer_109_2 g x0 x1 v1 r1 i3 i4 c4 c5
      rw [hs] at h9
      have e9 := Option.some.inj h9
      subst e9
      exact ⟨not_le32 c4, rfl⟩
    · obtain ⟨v3, hv3⟩ : ∃ z : Int32, z = i4 - (fX8_partOf_r g v1 (fX8_weightOf_r g i3 x1) r1.2) := ⟨_, rfl⟩
      have hs := eX8_shareAnswer_109_3 g x0 x1 v1 r1 i3 i4 c4 c5 hv3
      rw [hs] at h9
      have e9 := Option.some.inj h9
      subst e9
      exact ⟨not_le32 c4, rfl⟩
def fX8_shareAnswer_r (g : tG) (x0 : Int32) (x1 : Int32) : Int32 :=
  if (gA g 27 x1) = 0 then
    0
  else
    let v1 : Int32 := fX1_byItself_r g x1
    let r1 : Int32 × Int32 := lp (sX8_shareAnswer_31 g x1) 3 (0, 0)
    if x0 = (gA g 1 (gA g 24 (gA g 26 x1))) then
      let r2 : Int32 × Int32 := lp (sX8_shareAnswer_109 g x0 x1 v1 r1) 3 (0, v1)
      r2.2
    else
      fX8_partOf_r g v1 (fX8_weightOf_r g x0 x1) r1.2
set_option maxRecDepth 20000 in
theorem eX8_shareAnswer_r1 (g : tG) (x0 : Int32) (x1 : Int32) (c1 : ¬ ((gA g 27 x1) = 0)) {v1 : Int32} (hv1 : v1 = fX1_byItself_r g x1) {r1 : Int32 × Int32} (hr1 : r1 = lp (sX8_shareAnswer_31 g x1) 3 (0, 0)) (c3 : x0 = (gA g 1 (gA g 24 (gA g 26 x1)))) {r2 : Int32 × Int32} (hr2 : r2 = lp (sX8_shareAnswer_109 g x0 x1 v1 r1) 3 (0, v1)) : fX8_shareAnswer_r g x0 x1 = r2.2 := by
  have z9 := hv1.symm
  subst z9
  have z9 := hr1.symm
  subst z9
  have z9 := hr2.symm
  subst z9
  exact (if_neg c1).trans ((if_pos c3).trans rfl)
set_option maxRecDepth 20000 in
theorem eX8_shareAnswer_r2 (g : tG) (x0 : Int32) (x1 : Int32) (c1 : ¬ ((gA g 27 x1) = 0)) {v1 : Int32} (hv1 : v1 = fX1_byItself_r g x1) {r1 : Int32 × Int32} (hr1 : r1 = lp (sX8_shareAnswer_31 g x1) 3 (0, 0)) (c3 : ¬ (x0 = (gA g 1 (gA g 24 (gA g 26 x1))))) : fX8_shareAnswer_r g x0 x1 = fX8_partOf_r g v1 (fX8_weightOf_r g x0 x1) r1.2 := by
  have z9 := hv1.symm
  subst z9
  have z9 := hr1.symm
  subst z9
  exact (if_neg c1).trans ((if_neg c3).trans rfl)
set_option maxRecDepth 20000 in
theorem eX8_shareAnswer_r3 (g : tG) (x0 : Int32) (x1 : Int32) (c1 : (gA g 27 x1) = 0) : fX8_shareAnswer_r g x0 x1 = 0 := by
  exact (if_pos c1).trans rfl
set_option maxHeartbeats 4000000 in
set_option maxRecDepth 100000 in
theorem kX8_shareAnswer (l : Launch) (D : va_G) (ad : Nat → Nat) (cI : ClassId) (g : tG) (sz : Nat) (x0 : Int32) (x1 : Int32) : Met l yX8_shareAnswer wsX8_shareAnswer ({ frames := 3, cells := 0, slots := 0, locals := 75 } : Room) (g_P D [(cI, .int)] (tcW ad cI g) [.ref (ad 0), .int x0, .int x1] sz) (g_Qi D [(cI, .int)] (va_A (tcW ad cI g) sz) (tcW ad cI g) (fX8_shareAnswer_r g x0 x1)) 0 0 (va_A (tcW ad cI g) sz) := by
  refine Met.ofW (cc := cX8_shareAnswer) (maxL := 7) (ret := (some .int)) (by decide) rfl ?_
  intro p e s m args below meth c9 s₁ B hml hv
  obtain ⟨rfl, hsz, hP, hK, hD0⟩ := hv
  have hx := B.exec
  have hb := B.bytes
  have hr := B.returns
  have hts := atoms_spec (ws := wsX8_shareAnswer) B.pre
  have hown : s.vm.findClass RX8 = some m.cls := findClass_of_methodNamed B.named
  have hlocks := B.notSynchronized
  subst hsz
  have hD := hD0.self (sz := s.heap.size)
  generalize hAe : va_A (tcW ad cI g) s.heap.size = A at hD ⊢
  have hA : ∀ q : Nat, s.heap.size ≤ q → A q := fun q h => by rw [← hAe]; exact Or.inr h
  have hS : va_S A s.heap s.heap [] := va_S.rf
  have hl := lv_entry ([.ref (ad 0), .int x0, .int x1]) (n := 7) (Nat.le_of_ble_eq_true rfl)
  rw [lg_entry_eq]
  generalize (lg_sl ([.ref (ad 0), .int x0, .int x1]) ++ List.replicate (7 - (lg_sl ([.ref (ad 0), .int x0, .int x1])).length) Slot.unset).toArray = ls at hl ⊢
  have hl : lv_has ls 7 [(0, .ref (ad 0)), (1, .int x0), (2, .int x1)] := hl
  have winX3 : ∀ w ∈ u_ws RX3 TX3 15, w ∈ wsX8_shareAnswer := by decide +kernel
  have winX4 : ∀ w ∈ u_ws RX4 TX4 3, w ∈ wsX8_shareAnswer := by decide +kernel
  have winX5 : ∀ w ∈ u_ws RX5 TX5 1, w ∈ wsX8_shareAnswer := by decide +kernel
  have winX8 : ∀ w ∈ u_ws RX8 TX8 9, w ∈ wsX8_shareAnswer := by decide +kernel
  refine lv_aload_n hx hb dX8_shareAnswer_0 rfl (lv_at hl 0 rfl) ?_
  refine va_get (D := D) (ci := 8) (v := .ref (ad 43)) (C := RX8) (T := TX8) (N := 9) hx hb hts winX8 hown hK hP 0 rfl rfl 4 (by decide) (hts (.fieldLink RX8 40 "TapCap" "legs" "LTapCap$Legs;") (List.mem_of_getElem? (i := 1) rfl)) (fun _ h9 => h9) rfl dX8_shareAnswer_1 ?_
  refine va_get (D := D) (ci := 3) (v := .ref (ad 60)) (C := RX3) (T := TX3) (N := 15) hx hb hts winX3 hown hK hP 43 rfl rfl 8 (by decide) (hts (.fieldLink RX8 200 "TapCap$Legs" "countOn" "LTapCap$Row;") (List.mem_of_getElem? (i := 2) rfl)) (fun _ h9 => h9) rfl dX8_shareAnswer_4 ?_
  refine lv_iload_n hx hb dX8_shareAnswer_7 rfl (lv_at hl 2 rfl) ?_
  refine g_ki hK hD hS hA (va_runV (As := [.int x1]) (rest := []) ⟨hx, hb, hml, hown, hts⟩ (k_tc_at l D ad cI g s.heap.size 27 (by decide) x1) (cwV 1 hts gX8_shareAnswer_X5_at rfl rfl rfl (by decide +kernel) ⟨Nat.le_of_ble_eq_true rfl, Nat.le_of_ble_eq_true rfl⟩) (g_preV hK hP hD (ci := 5) (q0 := 60) rfl rfl) rfl rfl hl.1 rfl (lv_room (Nat.le_of_ble_eq_true rfl)) dX8_shareAnswer_8 ⟨Nat.le_of_ble_eq_true rfl, Nat.le_of_ble_eq_true rfl⟩) (fun H locs hP hD hS => ?_)
  refine lv_if_ne (tgt := 16) hx hb dX8_shareAnswer_11 (by decide) (fun c1 => ?_) (fun c1 => ?_)
  · refine lv_aload_n hx hb dX8_shareAnswer_16 rfl (lv_at hl 0 rfl) ?_
    refine va_get (D := D) (ci := 8) (v := .ref (ad 89)) (C := RX8) (T := TX8) (N := 9) hx hb hts winX8 hown hK hP 0 rfl rfl 6 (by decide) (hts (.fieldLink RX8 54 "TapCap" "costs" "LTapCap$Costs;") (List.mem_of_getElem? (i := 3) rfl)) (fun _ h9 => h9) rfl dX8_shareAnswer_17 ?_
    refine lv_iload_n hx hb dX8_shareAnswer_20 rfl (lv_at hl 2 rfl) ?_
    refine g_ki hK hD hS hA (va_runV (As := [.int x1]) (rest := []) ⟨hx, hb, hml, hown, hts⟩ (kX1_byItself l D ad cI g H.size x1) (cwV 1 hts gX8_shareAnswer_X1_byItself rfl rfl rfl (by decide +kernel) ⟨Nat.le_of_ble_eq_true rfl, Nat.le_of_ble_eq_true rfl⟩) (g_preV hK hP hD (ci := 1) (q0 := 89) rfl rfl) rfl rfl hl.1 rfl (lv_room (Nat.le_of_ble_eq_true rfl)) dX8_shareAnswer_21 ⟨Nat.le_of_ble_eq_true rfl, Nat.le_of_ble_eq_true rfl⟩) (fun H locs hP hD hS => ?_)
    refine lv_topi (fun v1 hv1 => ?_)
    refine lv_istore_n (lv' := [(3, .int v1), (0, .ref (ad 0)), (1, .int x0), (2, .int x1)]) hx hb dX8_shareAnswer_24 rfl hl (by decide) rfl (fun ls hl => ?_)
    refine lv_iconst (v := 0) hx hb dX8_shareAnswer_25 (by decide) ?_
    refine lv_istore (lv' := [(4, .int 0), (3, .int v1), (0, .ref (ad 0)), (1, .int x0), (2, .int x1)]) hx hb dX8_shareAnswer_26 hl (by decide) rfl (fun ls hl => ?_)
    refine lv_iconst (v := 0) hx hb dX8_shareAnswer_28 (by decide) ?_
    refine lv_istore (lv' := [(5, .int 0), (4, .int 0), (3, .int v1), (0, .ref (ad 0)), (1, .int x0), (2, .int x1)]) hx hb dX8_shareAnswer_29 hl (by decide) rfl (fun ls hl => ?_)
    have loop31 : ∀ (n : Nat)  (i1 : Int32) (i2 : Int32), lpE (sX8_shareAnswer_31 g x1) n (i1, i2) → ∀ (H : Heap) (locs : List Loc), va_P D vwCl (tcW ad cI g) H → va_D A (tcW ad cI g) → va_S A s.heap H locs → ∀ (ls : Array Slot), lv_has ls 7 [(5, .int i1), (4, .int i2), (3, .int v1), (0, .ref (ad 0)), (1, .int x0), (2, .int x1)] → (∀ r : Int32 × Int32, r = lp (sX8_shareAnswer_31 g x1) n (i1, i2) → ∀ (H : Heap) (locs : List Loc), va_P D vwCl (tcW ad cI g) H → va_D A (tcW ad cI g) → va_S A s.heap H locs → ∀ (ls : Array Slot), lv_has ls 7 [(5, .int r.1), (4, .int r.2), (3, .int v1), (0, .ref (ad 0)), (1, .int x0), (2, .int x1)] → W p l e (headSpec wsX8_shareAnswer ({ frames := 3, cells := 0, slots := 0, locals := 75 } : Room)).room s m ([.ref (ad 0), .int x0, .int x1] : List Value).toArray below meth c9 H locs 0 0 (MQ below (g_Qi D [(cI, .int)] A (tcW ad cI g) (fX8_shareAnswer_r g x0 x1)) ([.ref (ad 0), .int x0, .int x1] : List Value).toArray s 0 0 A) (F0 m 55 ls [])) → W p l e (headSpec wsX8_shareAnswer ({ frames := 3, cells := 0, slots := 0, locals := 75 } : Room)).room s m ([.ref (ad 0), .int x0, .int x1] : List Value).toArray below meth c9 H locs 0 0 (MQ below (g_Qi D [(cI, .int)] A (tcW ad cI g) (fX8_shareAnswer_r g x0 x1)) ([.ref (ad 0), .int x0, .int x1] : List Value).toArray s 0 0 A) (F0 m 31 ls []) := by
      refine lp_ind ?_
      intro n ih i1 i2 hE H locs hP hD hS ls hl kk
      refine lv_iload hx hb dX8_shareAnswer_31 (lv_at hl 0 rfl) ?_
      refine lv_iconst (v := 3) hx hb dX8_shareAnswer_33 (by decide) ?_
      refine lv_icmp_ge (tgt := 55) hx hb dX8_shareAnswer_34 (by decide) (fun c2 => ?_) (fun c2 => ?_)
      · have hs := eX8_shareAnswer_31_1 g x1 i1 i2 c2
        exact kk _ (lp_none hs).symm H locs hP hD hS ls (lv_sub hl [0, 1, 2, 3, 4, 5] rfl)
      · refine lv_iload hx hb dX8_shareAnswer_37 (lv_at hl 1 rfl) ?_
        refine lv_aload_n hx hb dX8_shareAnswer_39 rfl (lv_at hl 3 rfl) ?_
        refine lv_iload hx hb dX8_shareAnswer_40 (lv_at hl 0 rfl) ?_
        refine lv_iload_n hx hb dX8_shareAnswer_42 rfl (lv_at hl 5 rfl) ?_
        refine g_ki hK hD hS hA (va_runV (As := [.int i1, .int x1]) (rest := [.int i2]) ⟨hx, hb, hml, hown, hts⟩ (kX8_weightOf l D ad cI g H.size i1 x1) (cwV 2 hts gX8_shareAnswer_X8_weightOf rfl rfl rfl (by decide +kernel) ⟨Nat.le_of_ble_eq_true rfl, Nat.le_of_ble_eq_true rfl⟩) (g_preV hK hP hD (ci := 8) (q0 := 0) rfl rfl) rfl rfl hl.1 rfl (lv_room (Nat.le_of_ble_eq_true rfl)) dX8_shareAnswer_43 ⟨Nat.le_of_ble_eq_true rfl, Nat.le_of_ble_eq_true rfl⟩) (fun H locs hP hD hS => ?_)
        refine lv_iadd hx hb dX8_shareAnswer_46 ?_
        refine lv_topi (fun v2 hv2 => ?_)
        refine lv_istore (lv' := [(4, .int v2), (5, .int i1), (3, .int v1), (0, .ref (ad 0)), (1, .int x0), (2, .int x1)]) hx hb dX8_shareAnswer_47 hl (by decide) rfl (fun ls hl => ?_)
        refine lv_iinc (v := i1 + 1) (lv' := [(5, .int (i1 + 1)), (4, .int v2), (3, .int v1), (0, .ref (ad 0)), (1, .int x0), (2, .int x1)]) hx hb dX8_shareAnswer_49 hl (k := 1) rfl rfl (by decide) rfl (fun ls hl => ?_)
        refine lv_goto (tgt := 31) hx hb dX8_shareAnswer_52 (by decide) ?_
        have hs := eX8_shareAnswer_31_2 g x1 i1 i2 c2 hv2
        obtain ⟨n9, hn9, hE9, hr9⟩ := lpE_next hE hs
        exact ih n9 (by omega) (i1 + 1) v2 hE9 H locs hP hD hS ls (lv_sub hl [0, 1, 2, 3, 4, 5] rfl) (fun r hr => kk r (hr.trans hr9.symm))
    refine loop31 3 0 0 (tX8_shareAnswer_31 g x1 0) _ _ hP hD hS ls hl (fun r1 hr1 H locs hP hD hS ls hl => ?_)
    have hl : lv_has ls 7 [(4, .int r1.2), (3, .int v1), (0, .ref (ad 0)), (1, .int x0), (2, .int x1)] := lv_sub hl [1, 2, 3, 4, 5] rfl
    refine lv_iload_n hx hb dX8_shareAnswer_55 rfl (lv_at hl 3 rfl) ?_
    refine lv_aload_n hx hb dX8_shareAnswer_56 rfl (lv_at hl 2 rfl) ?_
    refine va_get (D := D) (ci := 8) (v := .ref (ad 1)) (C := RX8) (T := TX8) (N := 9) hx hb hts winX8 hown hK hP 0 rfl rfl 0 (by decide) (hts (.fieldLink RX8 12 "TapCap" "region" "LTapCap$Region;") (List.mem_of_getElem? (i := 4) rfl)) (fun _ h9 => h9) rfl dX8_shareAnswer_57 ?_
    refine va_get (D := D) (ci := 4) (v := .ref (ad 4)) (C := RX4) (T := TX4) (N := 3) hx hb hts winX4 hown hK hP 1 rfl rfl 1 (by decide) (hts (.fieldLink RX8 86 "TapCap$Region" "carrierOf" "LTapCap$Row;") (List.mem_of_getElem? (i := 5) rfl)) (fun _ h9 => h9) rfl dX8_shareAnswer_60 ?_
    refine lv_aload_n hx hb dX8_shareAnswer_63 rfl (lv_at hl 2 rfl) ?_
    refine va_get (D := D) (ci := 8) (v := .ref (ad 43)) (C := RX8) (T := TX8) (N := 9) hx hb hts winX8 hown hK hP 0 rfl rfl 4 (by decide) (hts (.fieldLink RX8 40 "TapCap" "legs" "LTapCap$Legs;") (List.mem_of_getElem? (i := 1) rfl)) (fun _ h9 => h9) rfl dX8_shareAnswer_64 ?_
    refine va_get (D := D) (ci := 3) (v := .ref (ad 54)) (C := RX3) (T := TX3) (N := 15) hx hb hts winX3 hown hK hP 43 rfl rfl 5 (by decide) (hts (.fieldLink RX8 311 "TapCap$Legs" "lineOf" "LTapCap$Row;") (List.mem_of_getElem? (i := 6) rfl)) (fun _ h9 => h9) rfl dX8_shareAnswer_67 ?_
    refine lv_aload_n hx hb dX8_shareAnswer_70 rfl (lv_at hl 2 rfl) ?_
    refine va_get (D := D) (ci := 8) (v := .ref (ad 43)) (C := RX8) (T := TX8) (N := 9) hx hb hts winX8 hown hK hP 0 rfl rfl 4 (by decide) (hts (.fieldLink RX8 40 "TapCap" "legs" "LTapCap$Legs;") (List.mem_of_getElem? (i := 1) rfl)) (fun _ h9 => h9) rfl dX8_shareAnswer_71 ?_
    refine va_get (D := D) (ci := 3) (v := .ref (ad 58)) (C := RX3) (T := TX3) (N := 15) hx hb hts winX3 hown hK hP 43 rfl rfl 7 (by decide) (hts (.fieldLink RX8 203 "TapCap$Legs" "firstOn" "LTapCap$Row;") (List.mem_of_getElem? (i := 7) rfl)) (fun _ h9 => h9) rfl dX8_shareAnswer_74 ?_
    refine lv_iload_n hx hb dX8_shareAnswer_77 rfl (lv_at hl 4 rfl) ?_
    refine g_ki hK hD hS hA (va_runV (As := [.int x1]) (rest := [.ref (ad 54), .ref (ad 4), .int x0]) ⟨hx, hb, hml, hown, hts⟩ (k_tc_at l D ad cI g H.size 26 (by decide) x1) (cwV 1 hts gX8_shareAnswer_X5_at rfl rfl rfl (by decide +kernel) ⟨Nat.le_of_ble_eq_true rfl, Nat.le_of_ble_eq_true rfl⟩) (g_preV hK hP hD (ci := 5) (q0 := 58) rfl rfl) rfl rfl hl.1 rfl (lv_room (Nat.le_of_ble_eq_true rfl)) dX8_shareAnswer_78 ⟨Nat.le_of_ble_eq_true rfl, Nat.le_of_ble_eq_true rfl⟩) (fun H locs hP hD hS => ?_)
    refine g_ki hK hD hS hA (va_runV (As := [.int (gA g 26 x1)]) (rest := [.ref (ad 4), .int x0]) ⟨hx, hb, hml, hown, hts⟩ (k_tc_at l D ad cI g H.size 24 (by decide) (gA g 26 x1)) (cwV 1 hts gX8_shareAnswer_X5_at rfl rfl rfl (by decide +kernel) ⟨Nat.le_of_ble_eq_true rfl, Nat.le_of_ble_eq_true rfl⟩) (g_preV hK hP hD (ci := 5) (q0 := 54) rfl rfl) rfl rfl hl.1 rfl (lv_room (Nat.le_of_ble_eq_true rfl)) dX8_shareAnswer_81 ⟨Nat.le_of_ble_eq_true rfl, Nat.le_of_ble_eq_true rfl⟩) (fun H locs hP hD hS => ?_)
    refine g_ki hK hD hS hA (va_runV (As := [.int (gA g 24 (gA g 26 x1))]) (rest := [.int x0]) ⟨hx, hb, hml, hown, hts⟩ (k_tc_at l D ad cI g H.size 1 (by decide) (gA g 24 (gA g 26 x1))) (cwV 1 hts gX8_shareAnswer_X5_at rfl rfl rfl (by decide +kernel) ⟨Nat.le_of_ble_eq_true rfl, Nat.le_of_ble_eq_true rfl⟩) (g_preV hK hP hD (ci := 5) (q0 := 4) rfl rfl) rfl rfl hl.1 rfl (lv_room (Nat.le_of_ble_eq_true rfl)) dX8_shareAnswer_84 ⟨Nat.le_of_ble_eq_true rfl, Nat.le_of_ble_eq_true rfl⟩) (fun H locs hP hD hS => ?_)
    refine lv_icmp_eq (tgt := 103) hx hb dX8_shareAnswer_87 (by decide) (fun c3 => ?_) (fun c3 => ?_)
    · refine lv_iload_n hx hb dX8_shareAnswer_103 rfl (lv_at hl 1 rfl) ?_
      refine lv_istore (lv' := [(5, .int v1), (4, .int r1.2), (3, .int v1), (0, .ref (ad 0)), (1, .int x0), (2, .int x1)]) hx hb dX8_shareAnswer_104 hl (by decide) rfl (fun ls hl => ?_)
      refine lv_iconst (v := 0) hx hb dX8_shareAnswer_106 (by decide) ?_
      refine lv_istore (lv' := [(6, .int 0), (5, .int v1), (4, .int r1.2), (3, .int v1), (0, .ref (ad 0)), (1, .int x0), (2, .int x1)]) hx hb dX8_shareAnswer_107 hl (by decide) rfl (fun ls hl => ?_)
      have loop109 : ∀ (n : Nat)  (i3 : Int32) (i4 : Int32), lpE (sX8_shareAnswer_109 g x0 x1 v1 r1) n (i3, i4) → ∀ (H : Heap) (locs : List Loc), va_P D vwCl (tcW ad cI g) H → va_D A (tcW ad cI g) → va_S A s.heap H locs → ∀ (ls : Array Slot), lv_has ls 7 [(6, .int i3), (5, .int i4), (4, .int r1.2), (3, .int v1), (0, .ref (ad 0)), (1, .int x0), (2, .int x1)] → (∀ r : Int32 × Int32, r = lp (sX8_shareAnswer_109 g x0 x1 v1 r1) n (i3, i4) → ∀ (H : Heap) (locs : List Loc), va_P D vwCl (tcW ad cI g) H → va_D A (tcW ad cI g) → va_S A s.heap H locs → ∀ (ls : Array Slot), lv_has ls 7 [(6, .int r.1), (5, .int r.2), (4, .int r1.2), (3, .int v1), (0, .ref (ad 0)), (1, .int x0), (2, .int x1)] → W p l e (headSpec wsX8_shareAnswer ({ frames := 3, cells := 0, slots := 0, locals := 75 } : Room)).room s m ([.ref (ad 0), .int x0, .int x1] : List Value).toArray below meth c9 H locs 0 0 (MQ below (g_Qi D [(cI, .int)] A (tcW ad cI g) (fX8_shareAnswer_r g x0 x1)) ([.ref (ad 0), .int x0, .int x1] : List Value).toArray s 0 0 A) (F0 m 145 ls [])) → W p l e (headSpec wsX8_shareAnswer ({ frames := 3, cells := 0, slots := 0, locals := 75 } : Room)).room s m ([.ref (ad 0), .int x0, .int x1] : List Value).toArray below meth c9 H locs 0 0 (MQ below (g_Qi D [(cI, .int)] A (tcW ad cI g) (fX8_shareAnswer_r g x0 x1)) ([.ref (ad 0), .int x0, .int x1] : List Value).toArray s 0 0 A) (F0 m 109 ls []) := by
        refine lp_ind ?_
        intro n ih i3 i4 hE H locs hP hD hS ls hl kk
        refine lv_iload hx hb dX8_shareAnswer_109 (lv_at hl 0 rfl) ?_
        refine lv_iconst (v := 3) hx hb dX8_shareAnswer_111 (by decide) ?_
        refine lv_icmp_ge (tgt := 145) hx hb dX8_shareAnswer_112 (by decide) (fun c4 => ?_) (fun c4 => ?_)
        · have hs := eX8_shareAnswer_109_1 g x0 x1 v1 r1 i3 i4 c4
          exact kk _ (lp_none hs).symm H locs hP hD hS ls (lv_sub hl [0, 1, 2, 3, 4, 5, 6] rfl)
        · refine lv_iload hx hb dX8_shareAnswer_115 (lv_at hl 0 rfl) ?_
          refine lv_iload_n hx hb dX8_shareAnswer_117 rfl (lv_at hl 5 rfl) ?_
          refine lv_icmp_eq (tgt := 139) hx hb dX8_shareAnswer_118 (by decide) (fun c5 => ?_) (fun c5 => ?_)
          · refine lv_iinc (v := i3 + 1) (lv' := [(6, .int (i3 + 1)), (5, .int i4), (4, .int r1.2), (3, .int v1), (0, .ref (ad 0)), (1, .int x0), (2, .int x1)]) hx hb dX8_shareAnswer_139 hl (k := 0) rfl rfl (by decide) rfl (fun ls hl => ?_)
            refine lv_goto (tgt := 109) hx hb dX8_shareAnswer_142 (by decide) ?_
            have hs := eX8_shareAnswer_109_2 g x0 x1 v1 r1 i3 i4 c4 c5
            obtain ⟨n9, hn9, hE9, hr9⟩ := lpE_next hE hs
            exact ih n9 (by omega) (i3 + 1) i4 hE9 H locs hP hD hS ls (lv_sub hl [0, 1, 2, 3, 4, 5, 6] rfl) (fun r hr => kk r (hr.trans hr9.symm))
          · refine lv_iload hx hb dX8_shareAnswer_121 (lv_at hl 1 rfl) ?_
            refine lv_iload_n hx hb dX8_shareAnswer_123 rfl (lv_at hl 3 rfl) ?_
            refine lv_aload_n hx hb dX8_shareAnswer_124 rfl (lv_at hl 4 rfl) ?_
            refine lv_iload hx hb dX8_shareAnswer_125 (lv_at hl 0 rfl) ?_
            refine lv_iload_n hx hb dX8_shareAnswer_127 rfl (lv_at hl 6 rfl) ?_
            refine g_ki hK hD hS hA (va_runV (As := [.int i3, .int x1]) (rest := [.int v1, .int i4]) ⟨hx, hb, hml, hown, hts⟩ (kX8_weightOf l D ad cI g H.size i3 x1) (cwV 2 hts gX8_shareAnswer_X8_weightOf rfl rfl rfl (by decide +kernel) ⟨Nat.le_of_ble_eq_true rfl, Nat.le_of_ble_eq_true rfl⟩) (g_preV hK hP hD (ci := 8) (q0 := 0) rfl rfl) rfl rfl hl.1 rfl (lv_room (Nat.le_of_ble_eq_true rfl)) dX8_shareAnswer_128 ⟨Nat.le_of_ble_eq_true rfl, Nat.le_of_ble_eq_true rfl⟩) (fun H locs hP hD hS => ?_)
            refine lv_iload hx hb dX8_shareAnswer_131 (lv_at hl 2 rfl) ?_
            refine g_ki hK hD hS hA (va_runS (As := [.int v1, .int (fX8_weightOf_r g i3 x1), .int r1.2]) (rest := [.int i4]) ⟨hx, hb, hml, hown, hts⟩ (kX8_partOf l D ad cI g H.size v1 (fX8_weightOf_r g i3 x1) r1.2) (cwS 3 hts gX8_shareAnswer_X8_partOf rfl rfl rfl (by decide +kernel) ⟨Nat.le_of_ble_eq_true rfl, Nat.le_of_ble_eq_true rfl⟩) (g_preS hK hP hD) rfl rfl hl.1 rfl (lv_room (Nat.le_of_ble_eq_true rfl)) dX8_shareAnswer_133 ⟨Nat.le_of_ble_eq_true rfl, Nat.le_of_ble_eq_true rfl⟩) (fun H locs hP hD hS => ?_)
            refine lv_isub hx hb dX8_shareAnswer_136 ?_
            refine lv_topi (fun v3 hv3 => ?_)
            refine lv_istore (lv' := [(5, .int v3), (6, .int i3), (4, .int r1.2), (3, .int v1), (0, .ref (ad 0)), (1, .int x0), (2, .int x1)]) hx hb dX8_shareAnswer_137 hl (by decide) rfl (fun ls hl => ?_)
            refine lv_iinc (v := i3 + 1) (lv' := [(6, .int (i3 + 1)), (5, .int v3), (4, .int r1.2), (3, .int v1), (0, .ref (ad 0)), (1, .int x0), (2, .int x1)]) hx hb dX8_shareAnswer_139 hl (k := 1) rfl rfl (by decide) rfl (fun ls hl => ?_)
            refine lv_goto (tgt := 109) hx hb dX8_shareAnswer_142 (by decide) ?_
            have hs := eX8_shareAnswer_109_3 g x0 x1 v1 r1 i3 i4 c4 c5 hv3
            obtain ⟨n9, hn9, hE9, hr9⟩ := lpE_next hE hs
            exact ih n9 (by omega) (i3 + 1) v3 hE9 H locs hP hD hS ls (lv_sub hl [0, 1, 2, 3, 4, 5, 6] rfl) (fun r hr => kk r (hr.trans hr9.symm))
      refine loop109 3 0 v1 (tX8_shareAnswer_109 g x0 x1 v1 r1 v1) _ _ hP hD hS ls hl (fun r2 hr2 H locs hP hD hS ls hl => ?_)
      have hl : lv_has ls 7 [(5, .int r2.2)] := lv_sub hl [1] rfl
      refine lv_iload hx hb dX8_shareAnswer_145 (lv_at hl 0 rfl) ?_
      exact g_iret hx hb hr rfl hlocks hK hP hD hS (eX8_shareAnswer_r1 g x0 x1 c1 hv1 hr1 c3 hr2).symm dX8_shareAnswer_147
    · refine lv_iload_n hx hb dX8_shareAnswer_90 rfl (lv_at hl 1 rfl) ?_
      refine lv_aload_n hx hb dX8_shareAnswer_91 rfl (lv_at hl 2 rfl) ?_
      refine lv_iload_n hx hb dX8_shareAnswer_92 rfl (lv_at hl 3 rfl) ?_
      refine lv_iload_n hx hb dX8_shareAnswer_93 rfl (lv_at hl 4 rfl) ?_
      refine g_ki hK hD hS hA (va_runV (As := [.int x0, .int x1]) (rest := [.int v1]) ⟨hx, hb, hml, hown, hts⟩ (kX8_weightOf l D ad cI g H.size x0 x1) (cwV 2 hts gX8_shareAnswer_X8_weightOf rfl rfl rfl (by decide +kernel) ⟨Nat.le_of_ble_eq_true rfl, Nat.le_of_ble_eq_true rfl⟩) (g_preV hK hP hD (ci := 8) (q0 := 0) rfl rfl) rfl rfl hl.1 rfl (lv_room (Nat.le_of_ble_eq_true rfl)) dX8_shareAnswer_94 ⟨Nat.le_of_ble_eq_true rfl, Nat.le_of_ble_eq_true rfl⟩) (fun H locs hP hD hS => ?_)
      refine lv_iload hx hb dX8_shareAnswer_97 (lv_at hl 0 rfl) ?_
      refine g_ki hK hD hS hA (va_runS (As := [.int v1, .int (fX8_weightOf_r g x0 x1), .int r1.2]) (rest := []) ⟨hx, hb, hml, hown, hts⟩ (kX8_partOf l D ad cI g H.size v1 (fX8_weightOf_r g x0 x1) r1.2) (cwS 3 hts gX8_shareAnswer_X8_partOf rfl rfl rfl (by decide +kernel) ⟨Nat.le_of_ble_eq_true rfl, Nat.le_of_ble_eq_true rfl⟩) (g_preS hK hP hD) rfl rfl hl.1 rfl (lv_room (Nat.le_of_ble_eq_true rfl)) dX8_shareAnswer_99 ⟨Nat.le_of_ble_eq_true rfl, Nat.le_of_ble_eq_true rfl⟩) (fun H locs hP hD hS => ?_)
      exact g_iret hx hb hr rfl hlocks hK hP hD hS (eX8_shareAnswer_r2 g x0 x1 c1 hv1 hr1 c3).symm dX8_shareAnswer_102
  · refine lv_iconst (v := 0) hx hb dX8_shareAnswer_14 (by decide) ?_
    exact g_iret hx hb hr rfl hlocks hK hP hD hS (eX8_shareAnswer_r3 g x0 x1 c1).symm dX8_shareAnswer_15
