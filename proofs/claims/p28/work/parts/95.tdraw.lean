theorem s_blind {D : va_G} {tys : List (ClassId × FieldType)} {ws : va_W} {av : List Value} {sz b L : Nat} {xs : Nat → Int32} : FrameBlind (s_P D tys ws av sz b L xs) := by
  intro a U g mk q
  obtain ⟨q0, qN, qX, qb, qA, q1, qP, qK, qD⟩ := q
  exact ⟨q0, ⟨qN.1.same rfl rfl, qN.2.1.same rfl rfl, va_AOA.of (over_moved (a := #[]) (a' := #[]) (Vm.Alike.refl U.vm) qN.2.2)⟩, va_X.moved (u := U) (U := U.calling g mk a) (Vm.Alike.refl U.vm) qX, qb, qA, q1, qP, va_K.moved (u := U) (U := U.calling g mk a) (Vm.Alike.refl U.vm) qK, qD⟩
theorem s_pre {s : State} {H : Heap} {locs : List Loc} {D : va_G} {tys : List (ClassId × FieldType)} {ws : va_W} {As : List Value} {A : Nat → Prop} {b L : Nat} {xs : Nat → Int32} (hN : s_N s) (hX : va_X b L xs s s.heap) (hbl : b < s.heap.size) (hbA : ¬ A b) (hS : va_S A s.heap H locs) (hF : ∀ q, va_A ws H.size q → A q) (hK : va_K D vwCl tys s) (hP : va_P D vwCl ws H) (hD : va_D A ws) :
    ∀ U : State, U.heap = H → s.WarmedH U.vm → s_P D tys ws As H.size b L xs As.toArray U := fun U hU hW =>
  ⟨rfl, hN.moved hW, by rw [hU]; exact va_X.moved hW.alike (hX.kept (hS.2.1 b hbl hbA)), Nat.lt_of_lt_of_le hbl hS.1, fun h => hbA (hF b h), by rw [hU], by rw [hU]; exact hP, va_K.moved hW.alike hK, hD.weaken (fun _ _ _ _ => trivial)⟩
theorem s_preS {s : State} {H : Heap} {locs : List Loc} {D : va_G} {tys : List (ClassId × FieldType)} {ws : va_W} {As : List Value} {A : Nat → Prop} {b L : Nat} {xs : Nat → Int32} (hN : s_N s) (hX : va_X b L xs s s.heap) (hbl : b < s.heap.size) (hbA : ¬ A b) (hS : va_S A s.heap H locs) (hA : ∀ q, s.heap.size ≤ q → A q) (hK : va_K D vwCl tys s) (hP : va_P D vwCl ws H) (hD : va_D A ws) : PreS s H (s_P D tys ws As H.size b L xs) As :=
  ⟨s_blind, s_pre hN hX hbl hbA hS (g_free hD hS hA) hK hP hD⟩
theorem s_preV {s : State} {H : Heap} {locs : List Loc} {D : va_G} {tys : List (ClassId × FieldType)} {ws : va_W} {As : List Value} {A : Nat → Prop} {b L : Nat} {xs : Nat → Int32} (hN : s_N s) (hX : va_X b L xs s s.heap) (hbl : b < s.heap.size) (hbA : ¬ A b) (hS : va_S A s.heap H locs) (hA : ∀ q, s.heap.size ≤ q → A q) (hK : va_K D vwCl tys s) (hP : va_P D vwCl ws H) (hD : va_D A ws) {ci q0 h : Nat} {q : vw_C} {fs : List Value} (hc : vwCl[ci]? = some q) (he : ws[q0]? = some (h, .inr (ci, fs))) : PreV s H q.1 h (s_P D tys ws (.ref h :: As) H.size b L xs) As :=
  ⟨s_blind, va_recv hK hP hc he, s_pre hN hX hbl hbA hS (g_free hD hS hA) hK hP hD⟩
abbrev tY_T (cI cO : ClassId) : List (ClassId × FieldType) := [(cI, .int), (cO, .array .int)]
theorem tW_sdP {ad : Nat → Nat} {o9 : Nat} {y : tA} {b : Nat} {cI cO : ClassId} {g : tG} {dr d' : Nat} {cd : Int32} {nf n : Nat} {D : va_G} {H : Heap} (h : va_P D vwCl ((tW ad o9 y b cI cO g dr cd nf n).set 98 (o9, .inr (9, (tFs ad y b dr cd).set 2 (.int (nI d'))))) H) : va_P D vwCl (tW ad o9 y b cI cO g d' cd nf n) H := h
theorem tW_sdD {ad : Nat → Nat} {o9 : Nat} {y : tA} {b : Nat} {cI cO : ClassId} {g : tG} {dr d' : Nat} {cd : Int32} {nf n : Nat} {A : Nat → Prop} (h : va_D A ((tW ad o9 y b cI cO g dr cd nf n).set 98 (o9, .inr (9, (tFs ad y b dr cd).set 2 (.int (nI d')))))) : va_D A (tW ad o9 y b cI cO g d' cd nf n) := h

set_option maxHeartbeats 4000000 in
set_option maxRecDepth 100000 in
theorem kX9_draw (l : Launch) (D : va_G) (sz b L : Nat) (xs : Nat → Int32) (ad : Nat → Nat) (o9 : Nat) (y : tA) (cI cO : ClassId) (g : tG) (dr : Nat) (cd : Int32) (nf n : Nat) (m0 : Nat) (h0 : 0 < m0) (hm : m0 < 2 ^ 20) (hdr : dr < 2 ^ 20) (hL : L < 2 ^ 20) : Met l yX9_draw wsX9_draw ({ frames := 1, cells := 0, slots := 0, locals := 30 } : Room) (s_P D (tY_T cI cO) (tW ad o9 y b cI cO g dr cd nf n) [.ref o9, .int ((nI m0))] sz b L xs) (g_Qi D (tY_T cI cO) (va_A (tW ad o9 y b cI cO g dr cd nf n) sz) (tW ad o9 y b cI cO g (dr + 1) cd nf n) (drV xs L dr (nI m0))) 0 0 (va_A (tW ad o9 y b cI cO g dr cd nf n) sz) := by
  refine Met.ofW (cc := cX9_draw) (maxL := 3) (ret := (some .int)) (by decide) rfl ?_
  intro p e s m args below meth c9 s₁ B hml hv
  obtain ⟨rfl, hN, hX, hbl, hbA, hsz, hP, hK, hD0⟩ := hv
  have hx := B.exec
  have hb := B.bytes
  have hr := B.returns
  have hts := atoms_spec (ws := wsX9_draw) B.pre
  have hown : s.vm.findClass RX9 = some m.cls := findClass_of_methodNamed B.named
  have hlocks := B.notSynchronized
  subst hsz
  have hD := hD0.self (sz := s.heap.size)
  generalize hAe : va_A (tW ad o9 y b cI cO g dr cd nf n) s.heap.size = A at hD hbA ⊢
  have hA : ∀ q : Nat, s.heap.size ≤ q → A q := fun q h => by rw [← hAe]; exact Or.inr h
  have hS : va_S A s.heap s.heap [] := va_S.rf
  have hl := lv_entry ([.ref o9, .int ((nI m0))]) (n := 3) (Nat.le_of_ble_eq_true rfl)
  rw [lg_entry_eq]
  generalize (lg_sl ([.ref o9, .int ((nI m0))]) ++ List.replicate (3 - (lg_sl ([.ref o9, .int ((nI m0))])).length) Slot.unset).toArray = ls at hl ⊢
  have hl : lv_has ls 3 [(0, .ref o9), (1, .int ((nI m0)))] := hl
  have winX9 : ∀ w ∈ u_ws RX9 TX9 9, w ∈ wsX9_draw := by decide +kernel
  have e24 : nI dr - nI dr / 24 * 24 = nI (dr % 24) := pk_rem (d := 24) (by omega) (by decide) (by decide)
  have e8 : nI dr / 24 - nI dr / 24 / 8 * 8 = nI (dr / 24 % 8) := by rw [show nI dr / 24 = nI (dr / 24) from pk_div (d := 24) (by omega) (by decide) (by decide)]; exact pk_rem (d := 8) (by omega) (by decide) (by decide)
  refine lv_aload_n hx hb dX9_draw_0 rfl (lv_at hl 0 rfl) ?_
  refine va_get (D := D) (ci := 9) (v := .ref b) (C := RX9) (T := TX9) (N := 9) hx hb hts winX9 hown hK hP 98 rfl rfl 1 (by decide) (hts (.fieldLink RX9 34 "TapCapLaw$Told" "s" "[I") (List.mem_of_getElem? (i := 1) rfl)) (fun _ h9 => h9) rfl dX9_draw_1 ?_
  refine lv_aload_n hx hb dX9_draw_4 rfl (lv_at hl 0 rfl) ?_
  refine va_get (D := D) (ci := 9) (v := .int (nI dr)) (C := RX9) (T := TX9) (N := 9) hx hb hts winX9 hown hK hP 98 rfl rfl 2 (by decide) (hts (.fieldLink RX9 37 "TapCapLaw$Told" "draws" "I") (List.mem_of_getElem? (i := 2) rfl)) (fun _ h9 => h9) rfl dX9_draw_5 ?_
  refine lv_bipush (v := 24) hx hb dX9_draw_8 (by decide) ?_
  refine lv_irem hx hb dX9_draw_10 (by decide) ?_
  rw [e24]
  refine g_ki hK hD hS hA (va_runSN (As := [.ref b, .int (nI (dr % 24))]) (rest := []) ⟨hx, hb, hml, hown, hts⟩ (kL_cell l D (tY_T cI cO) (tW ad o9 y b cI cO g dr cd nf n) s.heap.size b L xs (dr % 24) (by omega) hL) ⟨va_cnB (host := RL) 2 hts gX9_draw_L_cell_n41 rfl rfl rfl hN.1 (hts (.initialized RL) (List.mem_of_getElem? (i := 3) rfl)) (by decide +kernel) ⟨Nat.le_of_ble_eq_true rfl, Nat.le_of_ble_eq_true rfl⟩, (hts (.static yL_cell) (List.mem_of_getElem? (i := 4) rfl)), trivial⟩ (s_preS hN hX hbl hbA hS hA hK hP hD) rfl rfl hl.1 rfl (lv_room (Nat.le_of_ble_eq_true rfl)) dX9_draw_11 ⟨Nat.le_of_ble_eq_true rfl, Nat.le_of_ble_eq_true rfl⟩) (fun H locs hP hD hS => ?_)
  refine lv_aload_n hx hb dX9_draw_14 rfl (lv_at hl 0 rfl) ?_
  refine va_get (D := D) (ci := 9) (v := .int (nI dr)) (C := RX9) (T := TX9) (N := 9) hx hb hts winX9 hown hK hP 98 rfl rfl 2 (by decide) (hts (.fieldLink RX9 37 "TapCapLaw$Told" "draws" "I") (List.mem_of_getElem? (i := 2) rfl)) (fun _ h9 => h9) rfl dX9_draw_15 ?_
  refine lv_bipush (v := 24) hx hb dX9_draw_18 (by decide) ?_
  refine lv_idiv hx hb dX9_draw_20 (by decide) ?_
  refine lv_bipush (v := 8) hx hb dX9_draw_21 (by decide) ?_
  refine lv_irem hx hb dX9_draw_23 (by decide) ?_
  rw [e8]
  refine lv_ishr hx hb dX9_draw_24 ?_
  refine lv_sipush (v := 313) hx hb dX9_draw_25 (by decide) ?_
  refine lv_aload_n hx hb dX9_draw_28 rfl (lv_at hl 0 rfl) ?_
  refine va_get (D := D) (ci := 9) (v := .int (nI dr)) (C := RX9) (T := TX9) (N := 9) hx hb hts winX9 hown hK hP 98 rfl rfl 2 (by decide) (hts (.fieldLink RX9 37 "TapCapLaw$Told" "draws" "I") (List.mem_of_getElem? (i := 2) rfl)) (fun _ h9 => h9) rfl dX9_draw_29 ?_
  refine lv_imul hx hb dX9_draw_32 ?_
  refine lv_iadd hx hb dX9_draw_33 ?_
  refine lv_iload_n hx hb dX9_draw_34 rfl (lv_at hl 1 rfl) ?_
  refine g_ki hK hD hS hA (va_runSN (As := [.int (((ceV xs L (dr % 24)) >>> ((nI (dr / 24 % 8)) &&& 31)) + (313 * (nI dr))), .int ((nI m0))]) (rest := []) ⟨hx, hb, hml, hown, hts⟩ (kL_below l D (tY_T cI cO) (tW ad o9 y b cI cO g dr cd nf n) H.size (((ceV xs L (dr % 24)) >>> ((nI (dr / 24 % 8)) &&& 31)) + (313 * (nI dr))) (nI m0) (fun h => by have := (nI_eq (b := 0) (by omega) (by decide)).mp h; omega)) ⟨va_cnB (host := RL) 2 hts gX9_draw_L_below_n47 rfl rfl rfl hN.2.1 (hts (.initialized RL) (List.mem_of_getElem? (i := 3) rfl)) (by decide +kernel) ⟨Nat.le_of_ble_eq_true rfl, Nat.le_of_ble_eq_true rfl⟩, (hts (.static yL_below) (List.mem_of_getElem? (i := 5) rfl)), trivial⟩ (g_preS hK hP hD) rfl rfl hl.1 rfl (lv_room (Nat.le_of_ble_eq_true rfl)) dX9_draw_35 ⟨Nat.le_of_ble_eq_true rfl, Nat.le_of_ble_eq_true rfl⟩) (fun H locs hP hD hS => ?_)
  rw [show blV (((ceV xs L (dr % 24)) >>> ((nI (dr / 24 % 8)) &&& 31)) + (313 * (nI dr))) (nI m0) = drV xs L dr (nI m0) from rfl]
  refine lv_istore_n (lv' := [(2, .int (drV xs L dr (nI m0))), (0, .ref o9), (1, .int ((nI m0)))]) hx hb dX9_draw_38 rfl hl (by decide) rfl (fun ls hl => ?_)
  refine lv_aload_n hx hb dX9_draw_39 rfl (lv_at hl 1 rfl) ?_
  refine lv_dup hx hb dX9_draw_40 rfl ?_
  refine va_get (D := D) (ci := 9) (v := .int (nI dr)) (C := RX9) (T := TX9) (N := 9) hx hb hts winX9 hown hK hP 98 rfl rfl 2 (by decide) (hts (.fieldLink RX9 37 "TapCapLaw$Told" "draws" "I") (List.mem_of_getElem? (i := 2) rfl)) (fun _ h9 => h9) rfl dX9_draw_41 ?_
  refine lv_iconst (v := 1) hx hb dX9_draw_44 (by decide) ?_
  refine lv_iadd hx hb dX9_draw_45 ?_
  rw [show nI dr + 1 = nI (dr + 1) from nI_1 dr]
  refine va_put (D := D) (ci := 9) (v := .int (nI (dr + 1))) (ty := .int) (C := RX9) (T := TX9) (N := 9) hx hb hts winX9 tyX9 tyX9_ok nmX9 hown hK hP hD hS 98 rfl rfl 2 (by decide) (hts (.fieldLink RX9 37 "TapCapLaw$Told" "draws" "I") (List.mem_of_getElem? (i := 2) rfl)) (fun _ h9 => h9) rfl (by decide +kernel) rfl rfl (Nat.le_of_ble_eq_true rfl) dX9_draw_46 (fun H locs hP hD hS => ?_)
  have hP := tW_sdP hP
  have hD := tW_sdD hD
  refine lv_iload_n hx hb dX9_draw_49 rfl (lv_at hl 0 rfl) ?_
  exact g_iret hx hb hr rfl hlocks hK hP hD hS rfl dX9_draw_50
