def fX1_lastDayOf_r (g : tG) (x0 : Int32) : Int32 :=
  ((x0 * 7) + 7) - 1
set_option maxRecDepth 20000 in
theorem eX1_lastDayOf_r1 (g : tG) (x0 : Int32) : fX1_lastDayOf_r g x0 = ((x0 * 7) + 7) - 1 := by
  exact rfl
set_option maxHeartbeats 4000000 in
set_option maxRecDepth 100000 in
theorem kX1_lastDayOf (l : Launch) (D : va_G) (ad : Nat → Nat) (cI : ClassId) (g : tG) (sz : Nat) (x0 : Int32) : Met l yX1_lastDayOf wsX1_lastDayOf ({ frames := 0, cells := 0, slots := 0, locals := 0 } : Room) (g_P D [(cI, .int)] (tcW ad cI g) [.int x0] sz) (g_Qi D [(cI, .int)] (va_A (tcW ad cI g) sz) (tcW ad cI g) (fX1_lastDayOf_r g x0)) 0 0 (va_A (tcW ad cI g) sz) := by
  refine Met.ofW (cc := cX1_lastDayOf) (maxL := 1) (ret := (some .int)) (by decide) rfl ?_
  intro p e s m args below meth c9 s₁ B hml hv
  obtain ⟨rfl, hsz, hP, hK, hD0⟩ := hv
  have hx := B.exec
  have hb := B.bytes
  have hr := B.returns
  have hts := atoms_spec (ws := wsX1_lastDayOf) B.pre
  have hown : s.vm.findClass RX1 = some m.cls := findClass_of_methodNamed B.named
  have hlocks := B.notSynchronized
  subst hsz
  have hD := hD0.self (sz := s.heap.size)
  generalize hAe : va_A (tcW ad cI g) s.heap.size = A at hD ⊢
  have hA : ∀ q : Nat, s.heap.size ≤ q → A q := fun q h => by rw [← hAe]; exact Or.inr h
  have hS : va_S A s.heap s.heap [] := va_S.rf
  have hl := lv_entry ([.int x0]) (n := 1) (Nat.le_of_ble_eq_true rfl)
  rw [lg_entry_eq]
  generalize (lg_sl ([.int x0]) ++ List.replicate (1 - (lg_sl ([.int x0])).length) Slot.unset).toArray = ls at hl ⊢
  have hl : lv_has ls 1 [(0, .int x0)] := hl
  refine lv_iload_n hx hb dX1_lastDayOf_0 rfl (lv_at hl 0 rfl) ?_
  refine lv_bipush (v := 7) hx hb dX1_lastDayOf_1 (by decide) ?_
  refine lv_imul hx hb dX1_lastDayOf_3 ?_
  refine lv_bipush (v := 7) hx hb dX1_lastDayOf_4 (by decide) ?_
  refine lv_iadd hx hb dX1_lastDayOf_6 ?_
  refine lv_iconst (v := 1) hx hb dX1_lastDayOf_7 (by decide) ?_
  refine lv_isub hx hb dX1_lastDayOf_8 ?_
  exact g_iret hx hb hr rfl hlocks hK hP hD hS (eX1_lastDayOf_r1 g x0 ).symm dX1_lastDayOf_9
def sX1_upTo_20 (g : tG) (x1 : Int32) (x2 : Int32) : (Int32 × Int32) → Option (Int32 × Int32) := fun σ =>
  if x1 < σ.1 then
    none
  else
    if 28 ≤ σ.1 then
      none
    else
      let v3 : Int32 := σ.2 + (gA g 43 ((σ.1 * 5) + x2))
      some (σ.1 + 1, v3)
set_option maxRecDepth 20000 in
theorem eX1_upTo_20_1 (g : tG) (x1 : Int32) (x2 : Int32) (i1 : Int32) (i2 : Int32) (c1 : x1 < i1) : sX1_upTo_20 g x1 x2 (i1, i2) = none := by
  exact (if_pos c1).trans rfl
set_option maxRecDepth 20000 in
theorem eX1_upTo_20_2 (g : tG) (x1 : Int32) (x2 : Int32) (i1 : Int32) (i2 : Int32) (c1 : ¬ (x1 < i1)) (c2 : 28 ≤ i1) : sX1_upTo_20 g x1 x2 (i1, i2) = none := by
  exact (if_neg c1).trans ((if_pos c2).trans rfl)
set_option maxRecDepth 20000 in
theorem eX1_upTo_20_3 (g : tG) (x1 : Int32) (x2 : Int32) (i1 : Int32) (i2 : Int32) (c1 : ¬ (x1 < i1)) (c2 : ¬ (28 ≤ i1)) {v3 : Int32} (hv3 : v3 = i2 + (gA g 43 ((i1 * 5) + x2))) : sX1_upTo_20 g x1 x2 (i1, i2) = some (i1 + 1, v3) := by
  subst hv3
  exact (if_neg c1).trans ((if_neg c2).trans rfl)
theorem tX1_upTo_20 (g : tG) (x1 : Int32) (x2 : Int32) (i1z : Int32) (i2z : Int32) : lpE (sX1_upTo_20 g x1 x2) (((28 : Int32).toInt - i1z.toInt).toNat) (i1z, i2z) := by
  refine lpE_up (fun σ => σ.1) 28 ?_ _ _ (nn_sub _ _)
  intro σ τ h9
  obtain ⟨i1, i2⟩ := σ
  by_cases c1 : x1 < i1
  · have hs := eX1_upTo_20_1 g x1 x2 i1 i2 c1
    rw [hs] at h9
    cases h9
  · by_cases c2 : 28 ≤ i1
    · have hs := eX1_upTo_20_2 g x1 x2 i1 i2 c1 c2
      rw [hs] at h9
      cases h9
    · obtain ⟨v3, hv3⟩ : ∃ z : Int32, z = i2 + (gA g 43 ((i1 * 5) + x2)) := ⟨_, rfl⟩
      have hs := eX1_upTo_20_3 g x1 x2 i1 i2 c1 c2 hv3
      rw [hs] at h9
      have e9 := Option.some.inj h9
      subst e9
      exact ⟨not_le32 c2, rfl⟩
def fX1_upTo_r (g : tG) (x0 : Int32) (x1 : Int32) (x2 : Int32) : Int32 :=
  let v1 : Int32 := gA g 44 ((x0 * 5) + x2)
  let v2 : Int32 := x0 * 7
  let r1 : Int32 × Int32 := lp (sX1_upTo_20 g x1 x2) (((28 : Int32).toInt - v2.toInt).toNat) (v2, v1)
  r1.2
set_option maxRecDepth 20000 in
theorem eX1_upTo_r1 (g : tG) (x0 : Int32) (x1 : Int32) (x2 : Int32) {v1 : Int32} (hv1 : v1 = gA g 44 ((x0 * 5) + x2)) {v2 : Int32} (hv2 : v2 = x0 * 7) {r1 : Int32 × Int32} (hr1 : r1 = lp (sX1_upTo_20 g x1 x2) (((28 : Int32).toInt - v2.toInt).toNat) (v2, v1)) : fX1_upTo_r g x0 x1 x2 = r1.2 := by
  subst hv1
  subst hv2
  subst hr1
  exact rfl
set_option maxHeartbeats 4000000 in
set_option maxRecDepth 100000 in
theorem kX1_upTo (l : Launch) (D : va_G) (ad : Nat → Nat) (cI : ClassId) (g : tG) (sz : Nat) (x0 : Int32) (x1 : Int32) (x2 : Int32) : Met l yX1_upTo wsX1_upTo ({ frames := 1, cells := 0, slots := 0, locals := 21 } : Room) (g_P D [(cI, .int)] (tcW ad cI g) [.ref (ad 89), .int x0, .int x1, .int x2] sz) (g_Qi D [(cI, .int)] (va_A (tcW ad cI g) sz) (tcW ad cI g) (fX1_upTo_r g x0 x1 x2)) 0 0 (va_A (tcW ad cI g) sz) := by
  refine Met.ofW (cc := cX1_upTo) (maxL := 6) (ret := (some .int)) (by decide) rfl ?_
  intro p e s m args below meth c9 s₁ B hml hv
  obtain ⟨rfl, hsz, hP, hK, hD0⟩ := hv
  have hx := B.exec
  have hb := B.bytes
  have hr := B.returns
  have hts := atoms_spec (ws := wsX1_upTo) B.pre
  have hown : s.vm.findClass RX1 = some m.cls := findClass_of_methodNamed B.named
  have hlocks := B.notSynchronized
  subst hsz
  have hD := hD0.self (sz := s.heap.size)
  generalize hAe : va_A (tcW ad cI g) s.heap.size = A at hD ⊢
  have hA : ∀ q : Nat, s.heap.size ≤ q → A q := fun q h => by rw [← hAe]; exact Or.inr h
  have hS : va_S A s.heap s.heap [] := va_S.rf
  have hl := lv_entry ([.ref (ad 89), .int x0, .int x1, .int x2]) (n := 6) (Nat.le_of_ble_eq_true rfl)
  rw [lg_entry_eq]
  generalize (lg_sl ([.ref (ad 89), .int x0, .int x1, .int x2]) ++ List.replicate (6 - (lg_sl ([.ref (ad 89), .int x0, .int x1, .int x2])).length) Slot.unset).toArray = ls at hl ⊢
  have hl : lv_has ls 6 [(0, .ref (ad 89)), (1, .int x0), (2, .int x1), (3, .int x2)] := hl
  have winX1 : ∀ w ∈ u_ws RX1 TX1 4, w ∈ wsX1_upTo := by decide +kernel
  have winX5 : ∀ w ∈ u_ws RX5 TX5 1, w ∈ wsX1_upTo := by decide +kernel
  refine lv_aload_n hx hb dX1_upTo_0 rfl (lv_at hl 0 rfl) ?_
  refine va_get (D := D) (ci := 1) (v := .ref (ad 96)) (C := RX1) (T := TX1) (N := 4) hx hb hts winX1 hown hK hP 89 rfl rfl 3 (by decide) (hts (.fieldLink RX1 26 "TapCap$Costs" "weekTickets" "LTapCap$Row;") (List.mem_of_getElem? (i := 1) rfl)) (fun _ h9 => h9) rfl dX1_upTo_1 ?_
  refine lv_iload_n hx hb dX1_upTo_4 rfl (lv_at hl 1 rfl) ?_
  refine lv_iconst (v := 5) hx hb dX1_upTo_5 (by decide) ?_
  refine lv_imul hx hb dX1_upTo_6 ?_
  refine lv_iload_n hx hb dX1_upTo_7 rfl (lv_at hl 3 rfl) ?_
  refine lv_iadd hx hb dX1_upTo_8 ?_
  refine g_ki hK hD hS hA (va_runV (As := [.int ((x0 * 5) + x2)]) (rest := []) ⟨hx, hb, hml, hown, hts⟩ (k_tc_at l D ad cI g s.heap.size 44 (by decide) ((x0 * 5) + x2)) (cwV 1 hts gX1_upTo_X5_at rfl rfl rfl (by decide +kernel) ⟨Nat.le_of_ble_eq_true rfl, Nat.le_of_ble_eq_true rfl⟩) (g_preV hK hP hD (ci := 5) (q0 := 96) rfl rfl) rfl rfl hl.1 rfl (lv_room (Nat.le_of_ble_eq_true rfl)) dX1_upTo_9 ⟨Nat.le_of_ble_eq_true rfl, Nat.le_of_ble_eq_true rfl⟩) (fun H locs hP hD hS => ?_)
  refine lv_topi (fun v1 hv1 => ?_)
  refine lv_istore (lv' := [(4, .int v1), (0, .ref (ad 89)), (1, .int x0), (2, .int x1), (3, .int x2)]) hx hb dX1_upTo_12 hl (by decide) rfl (fun ls hl => ?_)
  refine lv_iload_n hx hb dX1_upTo_14 rfl (lv_at hl 2 rfl) ?_
  refine lv_bipush (v := 7) hx hb dX1_upTo_15 (by decide) ?_
  refine lv_imul hx hb dX1_upTo_17 ?_
  refine lv_topi (fun v2 hv2 => ?_)
  refine lv_istore (lv' := [(5, .int v2), (4, .int v1), (0, .ref (ad 89)), (1, .int x0), (2, .int x1), (3, .int x2)]) hx hb dX1_upTo_18 hl (by decide) rfl (fun ls hl => ?_)
  have hl : lv_has ls 6 [(5, .int v2), (4, .int v1), (0, .ref (ad 89)), (2, .int x1), (3, .int x2)] := lv_sub hl [0, 1, 2, 4, 5] rfl
  have loop20 : ∀ (n : Nat)  (i1 : Int32) (i2 : Int32), lpE (sX1_upTo_20 g x1 x2) n (i1, i2) → ∀ (H : Heap) (locs : List Loc), va_P D vwCl (tcW ad cI g) H → va_D A (tcW ad cI g) → va_S A s.heap H locs → ∀ (ls : Array Slot), lv_has ls 6 [(5, .int i1), (4, .int i2), (0, .ref (ad 89)), (2, .int x1), (3, .int x2)] → (∀ r : Int32 × Int32, r = lp (sX1_upTo_20 g x1 x2) n (i1, i2) → ∀ (H : Heap) (locs : List Loc), va_P D vwCl (tcW ad cI g) H → va_D A (tcW ad cI g) → va_S A s.heap H locs → ∀ (ls : Array Slot), lv_has ls 6 [(5, .int r.1), (4, .int r.2), (0, .ref (ad 89)), (2, .int x1), (3, .int x2)] → W p l e (headSpec wsX1_upTo ({ frames := 1, cells := 0, slots := 0, locals := 21 } : Room)).room s m ([.ref (ad 89), .int x0, .int x1, .int x2] : List Value).toArray below meth c9 H locs 0 0 (MQ below (g_Qi D [(cI, .int)] A (tcW ad cI g) (fX1_upTo_r g x0 x1 x2)) ([.ref (ad 89), .int x0, .int x1, .int x2] : List Value).toArray s 0 0 A) (F0 m 57 ls [])) → W p l e (headSpec wsX1_upTo ({ frames := 1, cells := 0, slots := 0, locals := 21 } : Room)).room s m ([.ref (ad 89), .int x0, .int x1, .int x2] : List Value).toArray below meth c9 H locs 0 0 (MQ below (g_Qi D [(cI, .int)] A (tcW ad cI g) (fX1_upTo_r g x0 x1 x2)) ([.ref (ad 89), .int x0, .int x1, .int x2] : List Value).toArray s 0 0 A) (F0 m 20 ls []) := by
    refine lp_ind ?_
    intro n ih i1 i2 hE H locs hP hD hS ls hl kk
    refine lv_iload hx hb dX1_upTo_20 (lv_at hl 0 rfl) ?_
    refine lv_iload_n hx hb dX1_upTo_22 rfl (lv_at hl 3 rfl) ?_
    refine lv_icmp_gt (tgt := 57) hx hb dX1_upTo_23 (by decide) (fun c1 => ?_) (fun c1 => ?_)
    · have hs := eX1_upTo_20_1 g x1 x2 i1 i2 c1
      exact kk _ (lp_none hs).symm H locs hP hD hS ls (lv_sub hl [0, 1, 2, 3, 4] rfl)
    · refine lv_iload hx hb dX1_upTo_26 (lv_at hl 0 rfl) ?_
      refine lv_bipush (v := 28) hx hb dX1_upTo_28 (by decide) ?_
      refine lv_icmp_ge (tgt := 57) hx hb dX1_upTo_30 (by decide) (fun c2 => ?_) (fun c2 => ?_)
      · have hs := eX1_upTo_20_2 g x1 x2 i1 i2 c1 c2
        exact kk _ (lp_none hs).symm H locs hP hD hS ls (lv_sub hl [0, 1, 2, 3, 4] rfl)
      · refine lv_iload hx hb dX1_upTo_33 (lv_at hl 1 rfl) ?_
        refine lv_aload_n hx hb dX1_upTo_35 rfl (lv_at hl 2 rfl) ?_
        refine va_get (D := D) (ci := 1) (v := .ref (ad 94)) (C := RX1) (T := TX1) (N := 4) hx hb hts winX1 hown hK hP 89 rfl rfl 2 (by decide) (hts (.fieldLink RX1 23 "TapCap$Costs" "beside" "LTapCap$Row;") (List.mem_of_getElem? (i := 2) rfl)) (fun _ h9 => h9) rfl dX1_upTo_36 ?_
        refine lv_iload hx hb dX1_upTo_39 (lv_at hl 0 rfl) ?_
        refine lv_iconst (v := 5) hx hb dX1_upTo_41 (by decide) ?_
        refine lv_imul hx hb dX1_upTo_42 ?_
        refine lv_iload_n hx hb dX1_upTo_43 rfl (lv_at hl 4 rfl) ?_
        refine lv_iadd hx hb dX1_upTo_44 ?_
        refine g_ki hK hD hS hA (va_runV (As := [.int ((i1 * 5) + x2)]) (rest := [.int i2]) ⟨hx, hb, hml, hown, hts⟩ (k_tc_at l D ad cI g H.size 43 (by decide) ((i1 * 5) + x2)) (cwV 1 hts gX1_upTo_X5_at rfl rfl rfl (by decide +kernel) ⟨Nat.le_of_ble_eq_true rfl, Nat.le_of_ble_eq_true rfl⟩) (g_preV hK hP hD (ci := 5) (q0 := 94) rfl rfl) rfl rfl hl.1 rfl (lv_room (Nat.le_of_ble_eq_true rfl)) dX1_upTo_45 ⟨Nat.le_of_ble_eq_true rfl, Nat.le_of_ble_eq_true rfl⟩) (fun H locs hP hD hS => ?_)
        refine lv_iadd hx hb dX1_upTo_48 ?_
        refine lv_topi (fun v3 hv3 => ?_)
        refine lv_istore (lv' := [(4, .int v3), (5, .int i1), (0, .ref (ad 89)), (2, .int x1), (3, .int x2)]) hx hb dX1_upTo_49 hl (by decide) rfl (fun ls hl => ?_)
        refine lv_iinc (v := i1 + 1) (lv' := [(5, .int (i1 + 1)), (4, .int v3), (0, .ref (ad 89)), (2, .int x1), (3, .int x2)]) hx hb dX1_upTo_51 hl (k := 1) rfl rfl (by decide) rfl (fun ls hl => ?_)
        refine lv_goto (tgt := 20) hx hb dX1_upTo_54 (by decide) ?_
        have hs := eX1_upTo_20_3 g x1 x2 i1 i2 c1 c2 hv3
        obtain ⟨n9, hn9, hE9, hr9⟩ := lpE_next hE hs
        exact ih n9 (by omega) (i1 + 1) v3 hE9 H locs hP hD hS ls (lv_sub hl [0, 1, 2, 3, 4] rfl) (fun r hr => kk r (hr.trans hr9.symm))
  refine loop20 (((28 : Int32).toInt - v2.toInt).toNat) v2 v1 (tX1_upTo_20 g x1 x2 v2 v1) _ _ hP hD hS ls hl (fun r1 hr1 H locs hP hD hS ls hl => ?_)
  have hl : lv_has ls 6 [(4, .int r1.2)] := lv_sub hl [1] rfl
  refine lv_iload hx hb dX1_upTo_57 (lv_at hl 0 rfl) ?_
  exact g_iret hx hb hr rfl hlocks hK hP hD hS (eX1_upTo_r1 g x0 x1 x2 hv1 hv2 hr1).symm dX1_upTo_59
def sX1_choiceUpTo_14 (g : tG) (x0 : Int32) (x1 : Int32) : (Int32 × Int32 × Int32) → Option (Int32 × Int32 × Int32) := fun σ =>
  if 4 < σ.1 then
    none
  else
    let v2 : Int32 := fX1_upTo_r g x0 x1 σ.1
    if σ.2.2 ≤ v2 then
      some (σ.1 + 1, σ.2.1, σ.2.2)
    else
      some (σ.1 + 1, σ.1, v2)
set_option maxRecDepth 20000 in
theorem eX1_choiceUpTo_14_1 (g : tG) (x0 : Int32) (x1 : Int32) (i1 : Int32) (i2 : Int32) (i3 : Int32) (c1 : 4 < i1) : sX1_choiceUpTo_14 g x0 x1 (i1, i2, i3) = none := by
  exact (if_pos c1).trans rfl
set_option maxRecDepth 20000 in
theorem eX1_choiceUpTo_14_2 (g : tG) (x0 : Int32) (x1 : Int32) (i1 : Int32) (i2 : Int32) (i3 : Int32) (c1 : ¬ (4 < i1)) {v2 : Int32} (hv2 : v2 = fX1_upTo_r g x0 x1 i1) (c2 : i3 ≤ v2) : sX1_choiceUpTo_14 g x0 x1 (i1, i2, i3) = some (i1 + 1, i2, i3) := by
  subst hv2
  exact (if_neg c1).trans ((if_pos c2).trans rfl)
set_option maxRecDepth 20000 in
theorem eX1_choiceUpTo_14_3 (g : tG) (x0 : Int32) (x1 : Int32) (i1 : Int32) (i2 : Int32) (i3 : Int32) (c1 : ¬ (4 < i1)) {v2 : Int32} (hv2 : v2 = fX1_upTo_r g x0 x1 i1) (c2 : ¬ (i3 ≤ v2)) : sX1_choiceUpTo_14 g x0 x1 (i1, i2, i3) = some (i1 + 1, i1, v2) := by
  subst hv2
  exact (if_neg c1).trans ((if_neg c2).trans rfl)
theorem tX1_choiceUpTo_14 (g : tG) (x0 : Int32) (x1 : Int32) (i2z : Int32) (i3z : Int32) : lpE (sX1_choiceUpTo_14 g x0 x1) 4 (1, i2z, i3z) := by
  refine lpE_up (fun σ => σ.1) 5 ?_ _ _ (by show (5 : Int32).toInt - (1 : Int32).toInt ≤ ((4 : Nat) : Int); decide)
  intro σ τ h9
  obtain ⟨i1, i2, i3⟩ := σ
  by_cases c1 : 4 < i1
  · have hs := eX1_choiceUpTo_14_1 g x0 x1 i1 i2 i3 c1
    rw [hs] at h9
    cases h9
  · obtain ⟨v2, hv2⟩ : ∃ z : Int32, z = fX1_upTo_r g x0 x1 i1 := ⟨_, rfl⟩
    by_cases c2 : i3 ≤ v2
    · have hs := eX1_choiceUpTo_14_2 g x0 x1 i1 i2 i3 c1 hv2 c2
      rw [hs] at h9
      have e9 := Option.some.inj h9
      subst e9
      exact ⟨lt_next c1 (by decide), rfl⟩
    · have hs := eX1_choiceUpTo_14_3 g x0 x1 i1 i2 i3 c1 hv2 c2
      rw [hs] at h9
      have e9 := Option.some.inj h9
      subst e9
      exact ⟨lt_next c1 (by decide), rfl⟩
def fX1_choiceUpTo_r (g : tG) (x0 : Int32) (x1 : Int32) : Int32 :=
  let v1 : Int32 := fX1_upTo_r g x0 x1 0
  let r1 : Int32 × Int32 × Int32 := lp (sX1_choiceUpTo_14 g x0 x1) 4 (1, 0, v1)
  r1.2.1
set_option maxRecDepth 20000 in
theorem eX1_choiceUpTo_r1 (g : tG) (x0 : Int32) (x1 : Int32) {v1 : Int32} (hv1 : v1 = fX1_upTo_r g x0 x1 0) {r1 : Int32 × Int32 × Int32} (hr1 : r1 = lp (sX1_choiceUpTo_14 g x0 x1) 4 (1, 0, v1)) : fX1_choiceUpTo_r g x0 x1 = r1.2.1 := by
  subst hv1
  subst hr1
  exact rfl
set_option maxHeartbeats 4000000 in
set_option maxRecDepth 100000 in
theorem kX1_choiceUpTo (l : Launch) (D : va_G) (ad : Nat → Nat) (cI : ClassId) (g : tG) (sz : Nat) (x0 : Int32) (x1 : Int32) : Met l yX1_choiceUpTo wsX1_choiceUpTo ({ frames := 2, cells := 0, slots := 0, locals := 46 } : Room) (g_P D [(cI, .int)] (tcW ad cI g) [.ref (ad 89), .int x0, .int x1] sz) (g_Qi D [(cI, .int)] (va_A (tcW ad cI g) sz) (tcW ad cI g) (fX1_choiceUpTo_r g x0 x1)) 0 0 (va_A (tcW ad cI g) sz) := by
  refine Met.ofW (cc := cX1_choiceUpTo) (maxL := 7) (ret := (some .int)) (by decide) rfl ?_
  intro p e s m args below meth c9 s₁ B hml hv
  obtain ⟨rfl, hsz, hP, hK, hD0⟩ := hv
  have hx := B.exec
  have hb := B.bytes
  have hr := B.returns
  have hts := atoms_spec (ws := wsX1_choiceUpTo) B.pre
  have hown : s.vm.findClass RX1 = some m.cls := findClass_of_methodNamed B.named
  have hlocks := B.notSynchronized
  subst hsz
  have hD := hD0.self (sz := s.heap.size)
  generalize hAe : va_A (tcW ad cI g) s.heap.size = A at hD ⊢
  have hA : ∀ q : Nat, s.heap.size ≤ q → A q := fun q h => by rw [← hAe]; exact Or.inr h
  have hS : va_S A s.heap s.heap [] := va_S.rf
  have hl := lv_entry ([.ref (ad 89), .int x0, .int x1]) (n := 7) (Nat.le_of_ble_eq_true rfl)
  rw [lg_entry_eq]
  generalize (lg_sl ([.ref (ad 89), .int x0, .int x1]) ++ List.replicate (7 - (lg_sl ([.ref (ad 89), .int x0, .int x1])).length) Slot.unset).toArray = ls at hl ⊢
  have hl : lv_has ls 7 [(0, .ref (ad 89)), (1, .int x0), (2, .int x1)] := hl
  refine lv_aload_n hx hb dX1_choiceUpTo_0 rfl (lv_at hl 0 rfl) ?_
  refine lv_iload_n hx hb dX1_choiceUpTo_1 rfl (lv_at hl 1 rfl) ?_
  refine lv_iload_n hx hb dX1_choiceUpTo_2 rfl (lv_at hl 2 rfl) ?_
  refine lv_iconst (v := 0) hx hb dX1_choiceUpTo_3 (by decide) ?_
  refine g_ki hK hD hS hA (va_runV (As := [.int x0, .int x1, .int 0]) (rest := []) ⟨hx, hb, hml, hown, hts⟩ (kX1_upTo l D ad cI g s.heap.size x0 x1 0) (cwV 3 hts gX1_choiceUpTo_X1_upTo rfl rfl rfl (by decide +kernel) ⟨Nat.le_of_ble_eq_true rfl, Nat.le_of_ble_eq_true rfl⟩) (g_preV hK hP hD (ci := 1) (q0 := 89) rfl rfl) rfl rfl hl.1 rfl (lv_room (Nat.le_of_ble_eq_true rfl)) dX1_choiceUpTo_4 ⟨Nat.le_of_ble_eq_true rfl, Nat.le_of_ble_eq_true rfl⟩) (fun H locs hP hD hS => ?_)
  refine lv_topi (fun v1 hv1 => ?_)
  refine lv_istore_n (lv' := [(3, .int v1), (0, .ref (ad 89)), (1, .int x0), (2, .int x1)]) hx hb dX1_choiceUpTo_7 rfl hl (by decide) rfl (fun ls hl => ?_)
  refine lv_iconst (v := 0) hx hb dX1_choiceUpTo_8 (by decide) ?_
  refine lv_istore (lv' := [(4, .int 0), (3, .int v1), (0, .ref (ad 89)), (1, .int x0), (2, .int x1)]) hx hb dX1_choiceUpTo_9 hl (by decide) rfl (fun ls hl => ?_)
  refine lv_iconst (v := 1) hx hb dX1_choiceUpTo_11 (by decide) ?_
  refine lv_istore (lv' := [(5, .int 1), (4, .int 0), (3, .int v1), (0, .ref (ad 89)), (1, .int x0), (2, .int x1)]) hx hb dX1_choiceUpTo_12 hl (by decide) rfl (fun ls hl => ?_)
  have loop14 : ∀ (n : Nat)  (i1 : Int32) (i2 : Int32) (i3 : Int32), lpE (sX1_choiceUpTo_14 g x0 x1) n (i1, i2, i3) → ∀ (H : Heap) (locs : List Loc), va_P D vwCl (tcW ad cI g) H → va_D A (tcW ad cI g) → va_S A s.heap H locs → ∀ (ls : Array Slot), lv_has ls 7 [(5, .int i1), (4, .int i2), (3, .int i3), (0, .ref (ad 89)), (1, .int x0), (2, .int x1)] → (∀ r : Int32 × Int32 × Int32, r = lp (sX1_choiceUpTo_14 g x0 x1) n (i1, i2, i3) → ∀ (H : Heap) (locs : List Loc), va_P D vwCl (tcW ad cI g) H → va_D A (tcW ad cI g) → va_S A s.heap H locs → ∀ (ls : Array Slot), lv_has ls 7 [(5, .int r.1), (4, .int r.2.1), (3, .int r.2.2), (0, .ref (ad 89)), (1, .int x0), (2, .int x1)] → W p l e (headSpec wsX1_choiceUpTo ({ frames := 2, cells := 0, slots := 0, locals := 46 } : Room)).room s m ([.ref (ad 89), .int x0, .int x1] : List Value).toArray below meth c9 H locs 0 0 (MQ below (g_Qi D [(cI, .int)] A (tcW ad cI g) (fX1_choiceUpTo_r g x0 x1)) ([.ref (ad 89), .int x0, .int x1] : List Value).toArray s 0 0 A) (F0 m 49 ls [])) → W p l e (headSpec wsX1_choiceUpTo ({ frames := 2, cells := 0, slots := 0, locals := 46 } : Room)).room s m ([.ref (ad 89), .int x0, .int x1] : List Value).toArray below meth c9 H locs 0 0 (MQ below (g_Qi D [(cI, .int)] A (tcW ad cI g) (fX1_choiceUpTo_r g x0 x1)) ([.ref (ad 89), .int x0, .int x1] : List Value).toArray s 0 0 A) (F0 m 14 ls []) := by
    refine lp_ind ?_
    intro n ih i1 i2 i3 hE H locs hP hD hS ls hl kk
    refine lv_iload hx hb dX1_choiceUpTo_14 (lv_at hl 0 rfl) ?_
    refine lv_iconst (v := 4) hx hb dX1_choiceUpTo_16 (by decide) ?_
    refine lv_icmp_gt (tgt := 49) hx hb dX1_choiceUpTo_17 (by decide) (fun c1 => ?_) (fun c1 => ?_)
    · have hs := eX1_choiceUpTo_14_1 g x0 x1 i1 i2 i3 c1
      exact kk _ (lp_none hs).symm H locs hP hD hS ls (lv_sub hl [0, 1, 2, 3, 4, 5] rfl)
    · refine lv_aload_n hx hb dX1_choiceUpTo_20 rfl (lv_at hl 3 rfl) ?_
      refine lv_iload_n hx hb dX1_choiceUpTo_21 rfl (lv_at hl 4 rfl) ?_
      refine lv_iload_n hx hb dX1_choiceUpTo_22 rfl (lv_at hl 5 rfl) ?_
      refine lv_iload hx hb dX1_choiceUpTo_23 (lv_at hl 0 rfl) ?_
      refine g_ki hK hD hS hA (va_runV (As := [.int x0, .int x1, .int i1]) (rest := []) ⟨hx, hb, hml, hown, hts⟩ (kX1_upTo l D ad cI g H.size x0 x1 i1) (cwV 3 hts gX1_choiceUpTo_X1_upTo rfl rfl rfl (by decide +kernel) ⟨Nat.le_of_ble_eq_true rfl, Nat.le_of_ble_eq_true rfl⟩) (g_preV hK hP hD (ci := 1) (q0 := 89) rfl rfl) rfl rfl hl.1 rfl (lv_room (Nat.le_of_ble_eq_true rfl)) dX1_choiceUpTo_25 ⟨Nat.le_of_ble_eq_true rfl, Nat.le_of_ble_eq_true rfl⟩) (fun H locs hP hD hS => ?_)
      refine lv_topi (fun v2 hv2 => ?_)
      refine lv_istore (lv' := [(6, .int v2), (5, .int i1), (4, .int i2), (3, .int i3), (0, .ref (ad 89)), (1, .int x0), (2, .int x1)]) hx hb dX1_choiceUpTo_28 hl (by decide) rfl (fun ls hl => ?_)
      refine lv_iload hx hb dX1_choiceUpTo_30 (lv_at hl 0 rfl) ?_
      refine lv_iload_n hx hb dX1_choiceUpTo_32 rfl (lv_at hl 3 rfl) ?_
      refine lv_icmp_ge (tgt := 43) hx hb dX1_choiceUpTo_33 (by decide) (fun c2 => ?_) (fun c2 => ?_)
      · refine lv_iinc (v := i1 + 1) (lv' := [(5, .int (i1 + 1)), (6, .int v2), (4, .int i2), (3, .int i3), (0, .ref (ad 89)), (1, .int x0), (2, .int x1)]) hx hb dX1_choiceUpTo_43 hl (k := 1) rfl rfl (by decide) rfl (fun ls hl => ?_)
        refine lv_goto (tgt := 14) hx hb dX1_choiceUpTo_46 (by decide) ?_
        have hs := eX1_choiceUpTo_14_2 g x0 x1 i1 i2 i3 c1 hv2 c2
        obtain ⟨n9, hn9, hE9, hr9⟩ := lpE_next hE hs
        exact ih n9 (by omega) (i1 + 1) i2 i3 hE9 H locs hP hD hS ls (lv_sub hl [0, 2, 3, 4, 5, 6] rfl) (fun r hr => kk r (hr.trans hr9.symm))
      · refine lv_iload hx hb dX1_choiceUpTo_36 (lv_at hl 0 rfl) ?_
        refine lv_istore_n (lv' := [(3, .int v2), (6, .int v2), (5, .int i1), (4, .int i2), (0, .ref (ad 89)), (1, .int x0), (2, .int x1)]) hx hb dX1_choiceUpTo_38 rfl hl (by decide) rfl (fun ls hl => ?_)
        refine lv_iload hx hb dX1_choiceUpTo_39 (lv_at hl 2 rfl) ?_
        refine lv_istore (lv' := [(4, .int i1), (3, .int v2), (6, .int v2), (5, .int i1), (0, .ref (ad 89)), (1, .int x0), (2, .int x1)]) hx hb dX1_choiceUpTo_41 hl (by decide) rfl (fun ls hl => ?_)
        refine lv_iinc (v := i1 + 1) (lv' := [(5, .int (i1 + 1)), (4, .int i1), (3, .int v2), (6, .int v2), (0, .ref (ad 89)), (1, .int x0), (2, .int x1)]) hx hb dX1_choiceUpTo_43 hl (k := 3) rfl rfl (by decide) rfl (fun ls hl => ?_)
        refine lv_goto (tgt := 14) hx hb dX1_choiceUpTo_46 (by decide) ?_
        have hs := eX1_choiceUpTo_14_3 g x0 x1 i1 i2 i3 c1 hv2 c2
        obtain ⟨n9, hn9, hE9, hr9⟩ := lpE_next hE hs
        exact ih n9 (by omega) (i1 + 1) i1 v2 hE9 H locs hP hD hS ls (lv_sub hl [0, 1, 2, 4, 5, 6] rfl) (fun r hr => kk r (hr.trans hr9.symm))
  refine loop14 4 1 0 v1 (tX1_choiceUpTo_14 g x0 x1 0 v1) _ _ hP hD hS ls hl (fun r1 hr1 H locs hP hD hS ls hl => ?_)
  have hl : lv_has ls 7 [(4, .int r1.2.1)] := lv_sub hl [1] rfl
  refine lv_iload hx hb dX1_choiceUpTo_49 (lv_at hl 0 rfl) ?_
  exact g_iret hx hb hr rfl hlocks hK hP hD hS (eX1_choiceUpTo_r1 g x0 x1 hv1 hr1).symm dX1_choiceUpTo_51
def sX1_readDay_31 (x0 : Int32) (v1 : Int32) (i1 : Int32) (g1 : tG) : (Int32 × Int32 × Int32) → Option (Int32 × Int32 × Int32) := fun σ =>
  if 4 < σ.1 then
    none
  else
    let v3 : Int32 := if σ.1 < i1 then i1 else σ.1
    let v4 : Int32 := (fX7_dayTicket_r g1 v1 σ.1) + (fX2_fares_r g1 x0 v3)
    if σ.2.2 ≤ v4 then
      some (σ.1 + 1, σ.2.1, σ.2.2)
    else
      some (σ.1 + 1, σ.1, v4)
set_option maxRecDepth 20000 in
theorem eX1_readDay_31_1 (x0 : Int32) (v1 : Int32) (i1 : Int32) (g1 : tG) (i2 : Int32) (i3 : Int32) (i4 : Int32) (c2 : 4 < i2) : sX1_readDay_31 x0 v1 i1 g1 (i2, i3, i4) = none := by
  exact (if_pos c2).trans rfl
set_option maxRecDepth 20000 in
theorem eX1_readDay_31_2 (x0 : Int32) (v1 : Int32) (i1 : Int32) (g1 : tG) (i2 : Int32) (i3 : Int32) (i4 : Int32) (c2 : ¬ (4 < i2)) {v3 : Int32} (hv3 : v3 = if i2 < i1 then i1 else i2) {v4 : Int32} (hv4 : v4 = (fX7_dayTicket_r g1 v1 i2) + (fX2_fares_r g1 x0 v3)) (c3 : i4 ≤ v4) : sX1_readDay_31 x0 v1 i1 g1 (i2, i3, i4) = some (i2 + 1, i3, i4) := by
  subst hv3
  subst hv4
  exact (if_neg c2).trans ((if_pos c3).trans rfl)
set_option maxRecDepth 20000 in
theorem eX1_readDay_31_3 (x0 : Int32) (v1 : Int32) (i1 : Int32) (g1 : tG) (i2 : Int32) (i3 : Int32) (i4 : Int32) (c2 : ¬ (4 < i2)) {v3 : Int32} (hv3 : v3 = if i2 < i1 then i1 else i2) {v4 : Int32} (hv4 : v4 = (fX7_dayTicket_r g1 v1 i2) + (fX2_fares_r g1 x0 v3)) (c3 : ¬ (i4 ≤ v4)) : sX1_readDay_31 x0 v1 i1 g1 (i2, i3, i4) = some (i2 + 1, i2, v4) := by
  subst hv3
  subst hv4
  exact (if_neg c2).trans ((if_neg c3).trans rfl)
theorem tX1_readDay_31 (x0 : Int32) (v1 : Int32) (i1 : Int32) (g1 : tG) (i3z : Int32) (i4z : Int32) : lpE (sX1_readDay_31 x0 v1 i1 g1) 4 (1, i3z, i4z) := by
  refine lpE_up (fun σ => σ.1) 5 ?_ _ _ (by show (5 : Int32).toInt - (1 : Int32).toInt ≤ ((4 : Nat) : Int); decide)
  intro σ τ h9
  obtain ⟨i2, i3, i4⟩ := σ
  by_cases c2 : 4 < i2
  · have hs := eX1_readDay_31_1 x0 v1 i1 g1 i2 i3 i4 c2
    rw [hs] at h9
    cases h9
  · obtain ⟨v3, hv3⟩ : ∃ z : Int32, z = if i2 < i1 then i1 else i2 := ⟨_, rfl⟩
    obtain ⟨v4, hv4⟩ : ∃ z : Int32, z = (fX7_dayTicket_r g1 v1 i2) + (fX2_fares_r g1 x0 v3) := ⟨_, rfl⟩
    by_cases c3 : i4 ≤ v4
    · have hs := eX1_readDay_31_2 x0 v1 i1 g1 i2 i3 i4 c2 hv3 hv4 c3
      rw [hs] at h9
      have e9 := Option.some.inj h9
      subst e9
      exact ⟨lt_next c2 (by decide), rfl⟩
    · have hs := eX1_readDay_31_3 x0 v1 i1 g1 i2 i3 i4 c2 hv3 hv4 c3
      rw [hs] at h9
      have e9 := Option.some.inj h9
      subst e9
      exact ⟨lt_next c2 (by decide), rfl⟩
def sX1_readDay_10 (x0 : Int32) (v1 : Int32) : (Int32 × tG) → Option (Int32 × tG) := fun σ =>
  if 4 < σ.1 then
    none
  else
    let v2 : Int32 := fX2_fares_r σ.2 x0 σ.1
    let r1 : Int32 × Int32 × Int32 := lp (sX1_readDay_31 x0 v1 σ.1 σ.2) 4 (1, 0, v2)
    let g2 : tG := gP σ.2 43 ((x0 * 5) + σ.1) r1.2.2
    if σ.1 = 0 then
      let g3 : tG := gP g2 41 x0 r1.2.1
      some (σ.1 + 1, g3)
    else
      some (σ.1 + 1, g2)
set_option maxRecDepth 20000 in
theorem eX1_readDay_10_1 (x0 : Int32) (v1 : Int32) (i1 : Int32) (g1 : tG) (c1 : 4 < i1) : sX1_readDay_10 x0 v1 (i1, g1) = none := by
  exact (if_pos c1).trans rfl
set_option maxRecDepth 20000 in
theorem eX1_readDay_10_2 (x0 : Int32) (v1 : Int32) (i1 : Int32) (g1 : tG) (c1 : ¬ (4 < i1)) {v2 : Int32} (hv2 : v2 = fX2_fares_r g1 x0 i1) {r1 : Int32 × Int32 × Int32} (hr1 : r1 = lp (sX1_readDay_31 x0 v1 i1 g1) 4 (1, 0, v2)) {g2 : tG} (hg2 : g2 = gP g1 43 ((x0 * 5) + i1) r1.2.2) (c4 : ¬ (i1 = 0)) : sX1_readDay_10 x0 v1 (i1, g1) = some (i1 + 1, g2) := by
  subst hv2
  subst hr1
  subst hg2
  exact (if_neg c1).trans ((if_neg c4).trans rfl)
set_option maxRecDepth 20000 in
theorem eX1_readDay_10_3 (x0 : Int32) (v1 : Int32) (i1 : Int32) (g1 : tG) (c1 : ¬ (4 < i1)) {v2 : Int32} (hv2 : v2 = fX2_fares_r g1 x0 i1) {r1 : Int32 × Int32 × Int32} (hr1 : r1 = lp (sX1_readDay_31 x0 v1 i1 g1) 4 (1, 0, v2)) {g2 : tG} (hg2 : g2 = gP g1 43 ((x0 * 5) + i1) r1.2.2) (c4 : i1 = 0) {g3 : tG} (hg3 : g3 = gP g2 41 x0 r1.2.1) : sX1_readDay_10 x0 v1 (i1, g1) = some (i1 + 1, g3) := by
  subst hv2
  subst hr1
  subst hg2
  subst hg3
  exact (if_neg c1).trans ((if_pos c4).trans rfl)
theorem fj_X1_readDay_10 (x0 : Int32) (v1 : Int32) (σ τ : Int32 × tG) (j : Nat) (h : j ∉ ([41, 43] : List Nat)) (e : sX1_readDay_10 x0 v1 σ = some τ) : τ.2 j = σ.2 j := by
  obtain ⟨i1, g1⟩ := σ
  by_cases c1 : 4 < i1
  · have hs := eX1_readDay_10_1 x0 v1 i1 g1 c1
    rw [hs] at e
    cases e
  · obtain ⟨v2, hv2⟩ : ∃ z : Int32, z = fX2_fares_r g1 x0 i1 := ⟨_, rfl⟩
    obtain ⟨r1, hr1⟩ : ∃ z : Int32 × Int32 × Int32, z = lp (sX1_readDay_31 x0 v1 i1 g1) 4 (1, 0, v2) := ⟨_, rfl⟩
    obtain ⟨g2, hg2⟩ : ∃ z : tG, z = gP g1 43 ((x0 * 5) + i1) r1.2.2 := ⟨_, rfl⟩
    by_cases c4 : i1 = 0
    · obtain ⟨g3, hg3⟩ : ∃ z : tG, z = gP g2 41 x0 r1.2.1 := ⟨_, rfl⟩
      have qg2 : g2 j = g1 j := by rw [hg2]; exact gP_ne (fun e9 => h (by rw [e9]; decide))
      have qg3 : g3 j = g2 j := by rw [hg3]; exact gP_ne (fun e9 => h (by rw [e9]; decide))
      have hs := eX1_readDay_10_3 x0 v1 i1 g1 c1 hv2 hr1 hg2 c4 hg3
      rw [hs] at e
      have e9 := Option.some.inj e
      subst e9
      exact qg3.trans (qg2)
    · have qg2 : g2 j = g1 j := by rw [hg2]; exact gP_ne (fun e9 => h (by rw [e9]; decide))
      have hs := eX1_readDay_10_2 x0 v1 i1 g1 c1 hv2 hr1 hg2 c4
      rw [hs] at e
      have e9 := Option.some.inj e
      subst e9
      exact qg2
theorem fjX1_readDay_10 (x0 : Int32) (v1 : Int32) (n : Nat) (σ : Int32 × tG) (j : Nat) (h : j ∉ ([41, 43] : List Nat)) : ((lp (sX1_readDay_10 x0 v1) n σ).2) j = σ.2 j :=
  lp_inv (fun τ => τ.2 j = σ.2 j) (fun a b e9 h9 => (fj_X1_readDay_10 x0 v1 a b j h e9).trans h9) n σ rfl
theorem tX1_readDay_10 (x0 : Int32) (v1 : Int32) (g1z : tG) : lpE (sX1_readDay_10 x0 v1) 5 (0, g1z) := by
  refine lpE_up (fun σ => σ.1) 5 ?_ _ _ (by show (5 : Int32).toInt - (0 : Int32).toInt ≤ ((5 : Nat) : Int); decide)
  intro σ τ h9
  obtain ⟨i1, g1⟩ := σ
  by_cases c1 : 4 < i1
  · have hs := eX1_readDay_10_1 x0 v1 i1 g1 c1
    rw [hs] at h9
    cases h9
  · obtain ⟨v2, hv2⟩ : ∃ z : Int32, z = fX2_fares_r g1 x0 i1 := ⟨_, rfl⟩
    obtain ⟨r1, hr1⟩ : ∃ z : Int32 × Int32 × Int32, z = lp (sX1_readDay_31 x0 v1 i1 g1) 4 (1, 0, v2) := ⟨_, rfl⟩
    obtain ⟨g2, hg2⟩ : ∃ z : tG, z = gP g1 43 ((x0 * 5) + i1) r1.2.2 := ⟨_, rfl⟩
    by_cases c4 : i1 = 0
    · obtain ⟨g3, hg3⟩ : ∃ z : tG, z = gP g2 41 x0 r1.2.1 := ⟨_, rfl⟩
      have hs := eX1_readDay_10_3 x0 v1 i1 g1 c1 hv2 hr1 hg2 c4 hg3
      rw [hs] at h9
      have e9 := Option.some.inj h9
      subst e9
      exact ⟨lt_next c1 (by decide), rfl⟩
    · have hs := eX1_readDay_10_2 x0 v1 i1 g1 c1 hv2 hr1 hg2 c4
      rw [hs] at h9
      have e9 := Option.some.inj h9
      subst e9
      exact ⟨lt_next c1 (by decide), rfl⟩
def fX1_readDay_w (g : tG) (x0 : Int32) : tG :=
  let v1 : Int32 := fX7_indexFor_r g x0
  let r2 : Int32 × tG := lp (sX1_readDay_10 x0 v1) 5 (0, g)
  r2.2
set_option maxRecDepth 20000 in
theorem eX1_readDay_w1 (g : tG) (x0 : Int32) {v1 : Int32} (hv1 : v1 = fX7_indexFor_r g x0) {r2 : Int32 × tG} (hr2 : r2 = lp (sX1_readDay_10 x0 v1) 5 (0, g)) : fX1_readDay_w g x0 = r2.2 := by
  subst hv1
  subst hr2
  exact rfl
theorem fjX1_readDay (g : tG) (x0 : Int32) (j : Nat) (h : j ∉ ([41, 43] : List Nat)) : fX1_readDay_w g x0 j = g j := by
  obtain ⟨v1, hv1⟩ : ∃ z : Int32, z = fX7_indexFor_r g x0 := ⟨_, rfl⟩
  obtain ⟨r2, hr2⟩ : ∃ z : Int32 × tG, z = lp (sX1_readDay_10 x0 v1) 5 (0, g) := ⟨_, rfl⟩
  have qr2 : r2.2 j = g j := by rw [hr2]; exact fjX1_readDay_10 x0 v1 _ _ j (fun hm => h (sub9 (a := [41, 43]) (b := [41, 43]) (by decide) hm))
  have hs := eX1_readDay_w1 g x0 hv1 hr2
  rw [hs]
  exact qr2
set_option maxHeartbeats 4000000 in
set_option maxRecDepth 100000 in
theorem kX1_readDay (l : Launch) (D : va_G) (ad : Nat → Nat) (cI : ClassId) (g : tG) (sz : Nat) (x0 : Int32) : Met l yX1_readDay wsX1_readDay ({ frames := 2, cells := 0, slots := 0, locals := 46 } : Room) (g_P D [(cI, .int)] (tcW ad cI g) [.ref (ad 89), .int x0, .ref (ad 70), .ref (ad 8)] sz) (g_Qv D [(cI, .int)] (va_A (tcW ad cI g) sz) (tcW ad cI (fX1_readDay_w g x0))) 0 0 (va_A (tcW ad cI g) sz) := by
  refine Met.ofW (cc := cX1_readDay) (maxL := 10) (ret := none) (by decide) rfl ?_
  intro p e s m args below meth c9 s₁ B hml hv
  obtain ⟨rfl, hsz, hP, hK, hD0⟩ := hv
  have hx := B.exec
  have hb := B.bytes
  have hr := B.returns
  have hts := atoms_spec (ws := wsX1_readDay) B.pre
  have hown : s.vm.findClass RX1 = some m.cls := findClass_of_methodNamed B.named
  have hlocks := B.notSynchronized
  subst hsz
  have hD := hD0.self (sz := s.heap.size)
  generalize hAe : va_A (tcW ad cI g) s.heap.size = A at hD ⊢
  have hA : ∀ q : Nat, s.heap.size ≤ q → A q := fun q h => by rw [← hAe]; exact Or.inr h
  have hS : va_S A s.heap s.heap [] := va_S.rf
  have hl := lv_entry ([.ref (ad 89), .int x0, .ref (ad 70), .ref (ad 8)]) (n := 10) (Nat.le_of_ble_eq_true rfl)
  rw [lg_entry_eq]
  generalize (lg_sl ([.ref (ad 89), .int x0, .ref (ad 70), .ref (ad 8)]) ++ List.replicate (10 - (lg_sl ([.ref (ad 89), .int x0, .ref (ad 70), .ref (ad 8)])).length) Slot.unset).toArray = ls at hl ⊢
  have hl : lv_has ls 10 [(0, .ref (ad 89)), (1, .int x0), (2, .ref (ad 70)), (3, .ref (ad 8))] := hl
  have winX1 : ∀ w ∈ u_ws RX1 TX1 4, w ∈ wsX1_readDay := by decide +kernel
  have winX5 : ∀ w ∈ u_ws RX5 TX5 1, w ∈ wsX1_readDay := by decide +kernel
  refine lv_aload_n hx hb dX1_readDay_0 rfl (lv_at hl 3 rfl) ?_
  refine lv_iload_n hx hb dX1_readDay_1 rfl (lv_at hl 1 rfl) ?_
  refine g_ki hK hD hS hA (va_runV (As := [.int x0]) (rest := []) ⟨hx, hb, hml, hown, hts⟩ (kX7_indexFor l D ad cI g s.heap.size x0) (cwV 1 hts gX1_readDay_X7_indexFor rfl rfl rfl (by decide +kernel) ⟨Nat.le_of_ble_eq_true rfl, Nat.le_of_ble_eq_true rfl⟩) (g_preV hK hP hD (ci := 7) (q0 := 8) rfl rfl) rfl rfl hl.1 rfl (lv_room (Nat.le_of_ble_eq_true rfl)) dX1_readDay_2 ⟨Nat.le_of_ble_eq_true rfl, Nat.le_of_ble_eq_true rfl⟩) (fun H locs hP hD hS => ?_)
  refine lv_topi (fun v1 hv1 => ?_)
  refine lv_istore (lv' := [(4, .int v1), (0, .ref (ad 89)), (1, .int x0), (2, .ref (ad 70)), (3, .ref (ad 8))]) hx hb dX1_readDay_5 hl (by decide) rfl (fun ls hl => ?_)
  refine lv_iconst (v := 0) hx hb dX1_readDay_7 (by decide) ?_
  refine lv_istore (lv' := [(5, .int 0), (4, .int v1), (0, .ref (ad 89)), (1, .int x0), (2, .ref (ad 70)), (3, .ref (ad 8))]) hx hb dX1_readDay_8 hl (by decide) rfl (fun ls hl => ?_)
  have loop10 : ∀ (n : Nat)  (i1 : Int32) (g1 : tG), lpE (sX1_readDay_10 x0 v1) n (i1, g1) → ∀ (H : Heap) (locs : List Loc), va_P D vwCl (tcW ad cI g1) H → va_D A (tcW ad cI g1) → va_S A s.heap H locs → ∀ (ls : Array Slot), lv_has ls 10 [(5, .int i1), (4, .int v1), (0, .ref (ad 89)), (1, .int x0), (2, .ref (ad 70)), (3, .ref (ad 8))] → (∀ r : Int32 × tG, r = lp (sX1_readDay_10 x0 v1) n (i1, g1) → ∀ (H : Heap) (locs : List Loc), va_P D vwCl (tcW ad cI r.2) H → va_D A (tcW ad cI r.2) → va_S A s.heap H locs → ∀ (ls : Array Slot), lv_has ls 10 [(5, .int r.1), (4, .int v1), (0, .ref (ad 89)), (1, .int x0), (2, .ref (ad 70)), (3, .ref (ad 8))] → W p l e (headSpec wsX1_readDay ({ frames := 2, cells := 0, slots := 0, locals := 46 } : Room)).room s m ([.ref (ad 89), .int x0, .ref (ad 70), .ref (ad 8)] : List Value).toArray below meth c9 H locs 0 0 (MQ below (g_Qv D [(cI, .int)] A (tcW ad cI (fX1_readDay_w g x0))) ([.ref (ad 89), .int x0, .ref (ad 70), .ref (ad 8)] : List Value).toArray s 0 0 A) (F0 m 117 ls [])) → W p l e (headSpec wsX1_readDay ({ frames := 2, cells := 0, slots := 0, locals := 46 } : Room)).room s m ([.ref (ad 89), .int x0, .ref (ad 70), .ref (ad 8)] : List Value).toArray below meth c9 H locs 0 0 (MQ below (g_Qv D [(cI, .int)] A (tcW ad cI (fX1_readDay_w g x0))) ([.ref (ad 89), .int x0, .ref (ad 70), .ref (ad 8)] : List Value).toArray s 0 0 A) (F0 m 10 ls []) := by
    refine lp_ind ?_
    intro n ih i1 g1 hE H locs hP hD hS ls hl kk
    refine lv_iload hx hb dX1_readDay_10 (lv_at hl 0 rfl) ?_
    refine lv_iconst (v := 4) hx hb dX1_readDay_12 (by decide) ?_
    refine lv_icmp_gt (tgt := 117) hx hb dX1_readDay_13 (by decide) (fun c1 => ?_) (fun c1 => ?_)
    · have hs := eX1_readDay_10_1 x0 v1 i1 g1 c1
      exact kk _ (lp_none hs).symm H locs hP hD hS ls (lv_sub hl [0, 1, 2, 3, 4, 5] rfl)
    · refine lv_aload_n hx hb dX1_readDay_16 rfl (lv_at hl 4 rfl) ?_
      refine lv_iload_n hx hb dX1_readDay_17 rfl (lv_at hl 3 rfl) ?_
      refine lv_iload hx hb dX1_readDay_18 (lv_at hl 0 rfl) ?_
      refine g_ki hK hD hS hA (va_runV (As := [.int x0, .int i1]) (rest := []) ⟨hx, hb, hml, hown, hts⟩ (kX2_fares l D ad cI g1 H.size x0 i1) (cwV 2 hts gX1_readDay_X2_fares rfl rfl rfl (by decide +kernel) ⟨Nat.le_of_ble_eq_true rfl, Nat.le_of_ble_eq_true rfl⟩) (g_preV hK hP hD (ci := 2) (q0 := 70) rfl rfl) rfl rfl hl.1 rfl (lv_room (Nat.le_of_ble_eq_true rfl)) dX1_readDay_20 ⟨Nat.le_of_ble_eq_true rfl, Nat.le_of_ble_eq_true rfl⟩) (fun H locs hP hD hS => ?_)
      refine lv_topi (fun v2 hv2 => ?_)
      refine lv_istore (lv' := [(6, .int v2), (5, .int i1), (4, .int v1), (0, .ref (ad 89)), (1, .int x0), (2, .ref (ad 70)), (3, .ref (ad 8))]) hx hb dX1_readDay_23 hl (by decide) rfl (fun ls hl => ?_)
      refine lv_iconst (v := 0) hx hb dX1_readDay_25 (by decide) ?_
      refine lv_istore (lv' := [(7, .int 0), (6, .int v2), (5, .int i1), (4, .int v1), (0, .ref (ad 89)), (1, .int x0), (2, .ref (ad 70)), (3, .ref (ad 8))]) hx hb dX1_readDay_26 hl (by decide) rfl (fun ls hl => ?_)
      refine lv_iconst (v := 1) hx hb dX1_readDay_28 (by decide) ?_
      refine lv_istore (lv' := [(8, .int 1), (7, .int 0), (6, .int v2), (5, .int i1), (4, .int v1), (0, .ref (ad 89)), (1, .int x0), (2, .ref (ad 70)), (3, .ref (ad 8))]) hx hb dX1_readDay_29 hl (by decide) rfl (fun ls hl => ?_)
      have loop31 : ∀ (n : Nat)  (i2 : Int32) (i3 : Int32) (i4 : Int32), lpE (sX1_readDay_31 x0 v1 i1 g1) n (i2, i3, i4) → ∀ (H : Heap) (locs : List Loc), va_P D vwCl (tcW ad cI g1) H → va_D A (tcW ad cI g1) → va_S A s.heap H locs → ∀ (ls : Array Slot), lv_has ls 10 [(8, .int i2), (7, .int i3), (6, .int i4), (5, .int i1), (4, .int v1), (0, .ref (ad 89)), (1, .int x0), (2, .ref (ad 70)), (3, .ref (ad 8))] → (∀ r : Int32 × Int32 × Int32, r = lp (sX1_readDay_31 x0 v1 i1 g1) n (i2, i3, i4) → ∀ (H : Heap) (locs : List Loc), va_P D vwCl (tcW ad cI g1) H → va_D A (tcW ad cI g1) → va_S A s.heap H locs → ∀ (ls : Array Slot), lv_has ls 10 [(8, .int r.1), (7, .int r.2.1), (6, .int r.2.2), (5, .int i1), (4, .int v1), (0, .ref (ad 89)), (1, .int x0), (2, .ref (ad 70)), (3, .ref (ad 8))] → W p l e (headSpec wsX1_readDay ({ frames := 2, cells := 0, slots := 0, locals := 46 } : Room)).room s m ([.ref (ad 89), .int x0, .ref (ad 70), .ref (ad 8)] : List Value).toArray below meth c9 H locs 0 0 (MQ below (g_Qv D [(cI, .int)] A (tcW ad cI (fX1_readDay_w g x0))) ([.ref (ad 89), .int x0, .ref (ad 70), .ref (ad 8)] : List Value).toArray s 0 0 A) (F0 m 81 ls [])) → W p l e (headSpec wsX1_readDay ({ frames := 2, cells := 0, slots := 0, locals := 46 } : Room)).room s m ([.ref (ad 89), .int x0, .ref (ad 70), .ref (ad 8)] : List Value).toArray below meth c9 H locs 0 0 (MQ below (g_Qv D [(cI, .int)] A (tcW ad cI (fX1_readDay_w g x0))) ([.ref (ad 89), .int x0, .ref (ad 70), .ref (ad 8)] : List Value).toArray s 0 0 A) (F0 m 31 ls []) := by
        refine lp_ind ?_
        intro n ih i2 i3 i4 hE H locs hP hD hS ls hl kk
        refine lv_iload hx hb dX1_readDay_31 (lv_at hl 0 rfl) ?_
        refine lv_iconst (v := 4) hx hb dX1_readDay_33 (by decide) ?_
        refine lv_icmp_gt (tgt := 81) hx hb dX1_readDay_34 (by decide) (fun c2 => ?_) (fun c2 => ?_)
        · have hs := eX1_readDay_31_1 x0 v1 i1 g1 i2 i3 i4 c2
          exact kk _ (lp_none hs).symm H locs hP hD hS ls (lv_sub hl [0, 1, 2, 3, 4, 5, 6, 7, 8] rfl)
        · refine lv_aload_n hx hb dX1_readDay_37 rfl (lv_at hl 8 rfl) ?_
          refine lv_iload hx hb dX1_readDay_38 (lv_at hl 4 rfl) ?_
          refine lv_iload hx hb dX1_readDay_40 (lv_at hl 0 rfl) ?_
          refine g_ki hK hD hS hA (va_runV (As := [.int v1, .int i2]) (rest := []) ⟨hx, hb, hml, hown, hts⟩ (kX7_dayTicket l D ad cI g1 H.size v1 i2) (cwV 2 hts gX1_readDay_X7_dayTicket rfl rfl rfl (by decide +kernel) ⟨Nat.le_of_ble_eq_true rfl, Nat.le_of_ble_eq_true rfl⟩) (g_preV hK hP hD (ci := 7) (q0 := 8) rfl rfl) rfl rfl hl.1 rfl (lv_room (Nat.le_of_ble_eq_true rfl)) dX1_readDay_42 ⟨Nat.le_of_ble_eq_true rfl, Nat.le_of_ble_eq_true rfl⟩) (fun H locs hP hD hS => ?_)
          refine lv_aload_n hx hb dX1_readDay_45 rfl (lv_at hl 7 rfl) ?_
          refine lv_iload_n hx hb dX1_readDay_46 rfl (lv_at hl 6 rfl) ?_
          refine lv_iload hx hb dX1_readDay_47 (lv_at hl 0 rfl) ?_
          refine lv_iload hx hb dX1_readDay_49 (lv_at hl 3 rfl) ?_
          refine va_mmax hx hb (hml.trans hl.1.symm) hown (hts (.methodLink RX1 70 Lib.Math.max.name) (List.mem_of_getElem? (i := 1) rfl)) (hts (.static Lib.Math.max.name) (List.mem_of_getElem? (i := 2) rfl)) (hts (.initialized "java/lang/Math") (List.mem_of_getElem? (i := 3) rfl)) (hts (.code Lib.Math.max.name Lib.Math.max.code 2 (some .int)) (List.mem_of_getElem? (i := 4) rfl)) (Nat.le_of_ble_eq_true rfl) (Nat.le_of_ble_eq_true rfl) (Nat.zero_le _) (Nat.zero_le _) dX1_readDay_51 ?_
          refine lv_topi (fun v3 hv3 => ?_)
          refine g_ki hK hD hS hA (va_runV (As := [.int x0, .int v3]) (rest := [.int (fX7_dayTicket_r g1 v1 i2)]) ⟨hx, hb, hml, hown, hts⟩ (kX2_fares l D ad cI g1 H.size x0 v3) (cwV 2 hts gX1_readDay_X2_fares rfl rfl rfl (by decide +kernel) ⟨Nat.le_of_ble_eq_true rfl, Nat.le_of_ble_eq_true rfl⟩) (g_preV hK hP hD (ci := 2) (q0 := 70) rfl rfl) rfl rfl hl.1 rfl (lv_room (Nat.le_of_ble_eq_true rfl)) dX1_readDay_54 ⟨Nat.le_of_ble_eq_true rfl, Nat.le_of_ble_eq_true rfl⟩) (fun H locs hP hD hS => ?_)
          refine lv_iadd hx hb dX1_readDay_57 ?_
          refine lv_topi (fun v4 hv4 => ?_)
          refine lv_istore (lv' := [(9, .int v4), (8, .int i2), (7, .int i3), (6, .int i4), (5, .int i1), (4, .int v1), (0, .ref (ad 89)), (1, .int x0), (2, .ref (ad 70)), (3, .ref (ad 8))]) hx hb dX1_readDay_58 hl (by decide) rfl (fun ls hl => ?_)
          refine lv_iload hx hb dX1_readDay_60 (lv_at hl 0 rfl) ?_
          refine lv_iload hx hb dX1_readDay_62 (lv_at hl 3 rfl) ?_
          refine lv_icmp_ge (tgt := 75) hx hb dX1_readDay_64 (by decide) (fun c3 => ?_) (fun c3 => ?_)
          · refine lv_iinc (v := i2 + 1) (lv' := [(8, .int (i2 + 1)), (9, .int v4), (7, .int i3), (6, .int i4), (5, .int i1), (4, .int v1), (0, .ref (ad 89)), (1, .int x0), (2, .ref (ad 70)), (3, .ref (ad 8))]) hx hb dX1_readDay_75 hl (k := 1) rfl rfl (by decide) rfl (fun ls hl => ?_)
            refine lv_goto (tgt := 31) hx hb dX1_readDay_78 (by decide) ?_
            have hs := eX1_readDay_31_2 x0 v1 i1 g1 i2 i3 i4 c2 hv3 hv4 c3
            obtain ⟨n9, hn9, hE9, hr9⟩ := lpE_next hE hs
            exact ih n9 (by omega) (i2 + 1) i3 i4 hE9 H locs hP hD hS ls (lv_sub hl [0, 2, 3, 4, 5, 6, 7, 8, 9] rfl) (fun r hr => kk r (hr.trans hr9.symm))
          · refine lv_iload hx hb dX1_readDay_67 (lv_at hl 0 rfl) ?_
            refine lv_istore (lv' := [(6, .int v4), (9, .int v4), (8, .int i2), (7, .int i3), (5, .int i1), (4, .int v1), (0, .ref (ad 89)), (1, .int x0), (2, .ref (ad 70)), (3, .ref (ad 8))]) hx hb dX1_readDay_69 hl (by decide) rfl (fun ls hl => ?_)
            refine lv_iload hx hb dX1_readDay_71 (lv_at hl 2 rfl) ?_
            refine lv_istore (lv' := [(7, .int i2), (6, .int v4), (9, .int v4), (8, .int i2), (5, .int i1), (4, .int v1), (0, .ref (ad 89)), (1, .int x0), (2, .ref (ad 70)), (3, .ref (ad 8))]) hx hb dX1_readDay_73 hl (by decide) rfl (fun ls hl => ?_)
            refine lv_iinc (v := i2 + 1) (lv' := [(8, .int (i2 + 1)), (7, .int i2), (6, .int v4), (9, .int v4), (5, .int i1), (4, .int v1), (0, .ref (ad 89)), (1, .int x0), (2, .ref (ad 70)), (3, .ref (ad 8))]) hx hb dX1_readDay_75 hl (k := 3) rfl rfl (by decide) rfl (fun ls hl => ?_)
            refine lv_goto (tgt := 31) hx hb dX1_readDay_78 (by decide) ?_
            have hs := eX1_readDay_31_3 x0 v1 i1 g1 i2 i3 i4 c2 hv3 hv4 c3
            obtain ⟨n9, hn9, hE9, hr9⟩ := lpE_next hE hs
            exact ih n9 (by omega) (i2 + 1) i2 v4 hE9 H locs hP hD hS ls (lv_sub hl [0, 1, 2, 4, 5, 6, 7, 8, 9] rfl) (fun r hr => kk r (hr.trans hr9.symm))
      refine loop31 4 1 0 v2 (tX1_readDay_31 x0 v1 i1 g1 0 v2) _ _ hP hD hS ls hl (fun r1 hr1 H locs hP hD hS ls hl => ?_)
      have hl : lv_has ls 10 [(7, .int r1.2.1), (6, .int r1.2.2), (5, .int i1), (4, .int v1), (0, .ref (ad 89)), (1, .int x0), (2, .ref (ad 70)), (3, .ref (ad 8))] := lv_sub hl [1, 2, 3, 4, 5, 6, 7, 8] rfl
      refine lv_aload_n hx hb dX1_readDay_81 rfl (lv_at hl 4 rfl) ?_
      refine va_get (D := D) (ci := 1) (v := .ref (ad 94)) (C := RX1) (T := TX1) (N := 4) hx hb hts winX1 hown hK hP 89 rfl rfl 2 (by decide) (hts (.fieldLink RX1 23 "TapCap$Costs" "beside" "LTapCap$Row;") (List.mem_of_getElem? (i := 5) rfl)) (fun _ h9 => h9) rfl dX1_readDay_82 ?_
      refine lv_iload_n hx hb dX1_readDay_85 rfl (lv_at hl 5 rfl) ?_
      refine lv_iconst (v := 5) hx hb dX1_readDay_86 (by decide) ?_
      refine lv_imul hx hb dX1_readDay_87 ?_
      refine lv_iload hx hb dX1_readDay_88 (lv_at hl 2 rfl) ?_
      refine lv_iadd hx hb dX1_readDay_90 ?_
      refine lv_iload hx hb dX1_readDay_91 (lv_at hl 1 rfl) ?_
      refine g_kv hK hD hS hA (va_runV (As := [.int ((x0 * 5) + i1), .int r1.2.2]) (rest := []) ⟨hx, hb, hml, hown, hts⟩ (k_tc_put l D ad cI g1 H.size 43 (by decide) ((x0 * 5) + i1) r1.2.2) (cwV 2 hts gX1_readDay_X5_put rfl rfl rfl (by decide +kernel) ⟨Nat.le_of_ble_eq_true rfl, Nat.le_of_ble_eq_true rfl⟩) (g_preV hK hP hD (ci := 5) (q0 := 94) rfl rfl) rfl rfl hl.1 rfl (lv_room (Nat.le_of_ble_eq_true rfl)) dX1_readDay_93 ⟨Nat.le_of_ble_eq_true rfl, Nat.le_of_ble_eq_true rfl⟩) (fun H locs hP hD hS => ?_)
      obtain ⟨g2, hg2⟩ : ∃ z : tG, z = gP g1 43 ((x0 * 5) + i1) r1.2.2 := ⟨_, rfl⟩
      rw [← hg2] at hP hD
      refine lv_iload hx hb dX1_readDay_96 (lv_at hl 2 rfl) ?_
      refine lv_if_ne (tgt := 111) hx hb dX1_readDay_98 (by decide) (fun c4 => ?_) (fun c4 => ?_)
      · refine lv_iinc (v := i1 + 1) (lv' := [(5, .int (i1 + 1)), (7, .int r1.2.1), (6, .int r1.2.2), (4, .int v1), (0, .ref (ad 89)), (1, .int x0), (2, .ref (ad 70)), (3, .ref (ad 8))]) hx hb dX1_readDay_111 hl (k := 2) rfl rfl (by decide) rfl (fun ls hl => ?_)
        refine lv_goto (tgt := 10) hx hb dX1_readDay_114 (by decide) ?_
        have hs := eX1_readDay_10_2 x0 v1 i1 g1 c1 hv2 hr1 hg2 c4
        obtain ⟨n9, hn9, hE9, hr9⟩ := lpE_next hE hs
        exact ih n9 (by omega) (i1 + 1) g2 hE9 H locs hP hD hS ls (lv_sub hl [0, 3, 4, 5, 6, 7] rfl) (fun r hr => kk r (hr.trans hr9.symm))
      · refine lv_aload_n hx hb dX1_readDay_101 rfl (lv_at hl 4 rfl) ?_
        refine va_get (D := D) (ci := 1) (v := .ref (ad 90)) (C := RX1) (T := TX1) (N := 4) hx hb hts winX1 hown hK hP 89 rfl rfl 0 (by decide) (hts (.fieldLink RX1 14 "TapCap$Costs" "dayChoice" "LTapCap$Row;") (List.mem_of_getElem? (i := 6) rfl)) (fun _ h9 => h9) rfl dX1_readDay_102 ?_
        refine lv_iload_n hx hb dX1_readDay_105 rfl (lv_at hl 5 rfl) ?_
        refine lv_iload hx hb dX1_readDay_106 (lv_at hl 0 rfl) ?_
        refine g_kv hK hD hS hA (va_runV (As := [.int x0, .int r1.2.1]) (rest := []) ⟨hx, hb, hml, hown, hts⟩ (k_tc_put l D ad cI g2 H.size 41 (by decide) x0 r1.2.1) (cwV 2 hts gX1_readDay_X5_put rfl rfl rfl (by decide +kernel) ⟨Nat.le_of_ble_eq_true rfl, Nat.le_of_ble_eq_true rfl⟩) (g_preV hK hP hD (ci := 5) (q0 := 90) rfl rfl) rfl rfl hl.1 rfl (lv_room (Nat.le_of_ble_eq_true rfl)) dX1_readDay_108 ⟨Nat.le_of_ble_eq_true rfl, Nat.le_of_ble_eq_true rfl⟩) (fun H locs hP hD hS => ?_)
        obtain ⟨g3, hg3⟩ : ∃ z : tG, z = gP g2 41 x0 r1.2.1 := ⟨_, rfl⟩
        rw [← hg3] at hP hD
        refine lv_iinc (v := i1 + 1) (lv' := [(5, .int (i1 + 1)), (7, .int r1.2.1), (6, .int r1.2.2), (4, .int v1), (0, .ref (ad 89)), (1, .int x0), (2, .ref (ad 70)), (3, .ref (ad 8))]) hx hb dX1_readDay_111 hl (k := 2) rfl rfl (by decide) rfl (fun ls hl => ?_)
        refine lv_goto (tgt := 10) hx hb dX1_readDay_114 (by decide) ?_
        have hs := eX1_readDay_10_3 x0 v1 i1 g1 c1 hv2 hr1 hg2 c4 hg3
        obtain ⟨n9, hn9, hE9, hr9⟩ := lpE_next hE hs
        exact ih n9 (by omega) (i1 + 1) g3 hE9 H locs hP hD hS ls (lv_sub hl [0, 3, 4, 5, 6, 7] rfl) (fun r hr => kk r (hr.trans hr9.symm))
  refine loop10 5 0 g (tX1_readDay_10 x0 v1 g) _ _ hP hD hS ls hl (fun r2 hr2 H locs hP hD hS ls hl => ?_)
  have hl : lv_has ls 10 [] := lv_sub hl [] rfl
  have hw := eX1_readDay_w1 g x0 hv1 hr2
  have hP := w_P9 hw hP
  have hD := w_D9 hw hD
  exact g_vret hx hb hr hlocks hK hP hD hS dX1_readDay_117
def sX1_read_18 : (Int32 × tG) → Option (Int32 × tG) := fun σ =>
  if 28 ≤ σ.1 then
    none
  else
    if (gA σ.2 37 σ.1) ≤ 0 then
      some (σ.1 + 1, σ.2)
    else
      let g4 : tG := fX1_readDay_w σ.2 σ.1
      some (σ.1 + 1, g4)
set_option maxRecDepth 20000 in
theorem eX1_read_18_1 (i1 : Int32) (g3 : tG) (c1 : 28 ≤ i1) : sX1_read_18 (i1, g3) = none := by
  exact (if_pos c1).trans rfl
set_option maxRecDepth 20000 in
theorem eX1_read_18_2 (i1 : Int32) (g3 : tG) (c1 : ¬ (28 ≤ i1)) (c2 : (gA g3 37 i1) ≤ 0) : sX1_read_18 (i1, g3) = some (i1 + 1, g3) := by
  exact (if_neg c1).trans ((if_pos c2).trans rfl)
set_option maxRecDepth 20000 in
theorem eX1_read_18_3 (i1 : Int32) (g3 : tG) (c1 : ¬ (28 ≤ i1)) (c2 : ¬ ((gA g3 37 i1) ≤ 0)) {g4 : tG} (hg4 : g4 = fX1_readDay_w g3 i1) : sX1_read_18 (i1, g3) = some (i1 + 1, g4) := by
  subst hg4
  exact (if_neg c1).trans ((if_neg c2).trans rfl)
theorem fj_X1_read_18 (σ τ : Int32 × tG) (j : Nat) (h : j ∉ ([41, 43] : List Nat)) (e : sX1_read_18 σ = some τ) : τ.2 j = σ.2 j := by
  obtain ⟨i1, g3⟩ := σ
  by_cases c1 : 28 ≤ i1
  · have hs := eX1_read_18_1 i1 g3 c1
    rw [hs] at e
    cases e
  · by_cases c2 : (gA g3 37 i1) ≤ 0
    · have hs := eX1_read_18_2 i1 g3 c1 c2
      rw [hs] at e
      have e9 := Option.some.inj e
      subst e9
      exact rfl
    · obtain ⟨g4, hg4⟩ : ∃ z : tG, z = fX1_readDay_w g3 i1 := ⟨_, rfl⟩
      have qg4 : g4 j = g3 j := by rw [hg4]; exact fjX1_readDay g3 i1 j (fun hm => h (sub9 (a := [41, 43]) (b := [41, 43]) (by decide) hm))
      have hs := eX1_read_18_3 i1 g3 c1 c2 hg4
      rw [hs] at e
      have e9 := Option.some.inj e
      subst e9
      exact qg4
theorem fjX1_read_18 (n : Nat) (σ : Int32 × tG) (j : Nat) (h : j ∉ ([41, 43] : List Nat)) : ((lp (sX1_read_18) n σ).2) j = σ.2 j :=
  lp_inv (fun τ => τ.2 j = σ.2 j) (fun a b e9 h9 => (fj_X1_read_18 a b j h e9).trans h9) n σ rfl
theorem tX1_read_18 (g3z : tG) : lpE (sX1_read_18) 28 (0, g3z) := by
  refine lpE_up (fun σ => σ.1) 28 ?_ _ _ (by show (28 : Int32).toInt - (0 : Int32).toInt ≤ ((28 : Nat) : Int); decide)
  intro σ τ h9
  obtain ⟨i1, g3⟩ := σ
  by_cases c1 : 28 ≤ i1
  · have hs := eX1_read_18_1 i1 g3 c1
    rw [hs] at h9
    cases h9
  · by_cases c2 : (gA g3 37 i1) ≤ 0
    · have hs := eX1_read_18_2 i1 g3 c1 c2
      rw [hs] at h9
      have e9 := Option.some.inj h9
      subst e9
      exact ⟨not_le32 c1, rfl⟩
    · obtain ⟨g4, hg4⟩ : ∃ z : tG, z = fX1_readDay_w g3 i1 := ⟨_, rfl⟩
      have hs := eX1_read_18_3 i1 g3 c1 c2 hg4
      rw [hs] at h9
      have e9 := Option.some.inj h9
      subst e9
      exact ⟨not_le32 c1, rfl⟩
def sX1_read_68 (i2 : Int32) (v1 : Int32) : (Int32 × tG) → Option (Int32 × tG) := fun σ =>
  if 4 < σ.1 then
    none
  else
    let g7 : tG := gP σ.2 44 ((i2 * 5) + σ.1) (fX7_weekTicket_r σ.2 v1 σ.1)
    some (σ.1 + 1, g7)
set_option maxRecDepth 20000 in
theorem eX1_read_68_1 (i2 : Int32) (v1 : Int32) (i3 : Int32) (g6 : tG) (c4 : 4 < i3) : sX1_read_68 i2 v1 (i3, g6) = none := by
  exact (if_pos c4).trans rfl
set_option maxRecDepth 20000 in
theorem eX1_read_68_2 (i2 : Int32) (v1 : Int32) (i3 : Int32) (g6 : tG) (c4 : ¬ (4 < i3)) {g7 : tG} (hg7 : g7 = gP g6 44 ((i2 * 5) + i3) (fX7_weekTicket_r g6 v1 i3)) : sX1_read_68 i2 v1 (i3, g6) = some (i3 + 1, g7) := by
  subst hg7
  exact (if_neg c4).trans rfl
theorem fj_X1_read_68 (i2 : Int32) (v1 : Int32) (σ τ : Int32 × tG) (j : Nat) (h : j ∉ ([44] : List Nat)) (e : sX1_read_68 i2 v1 σ = some τ) : τ.2 j = σ.2 j := by
  obtain ⟨i3, g6⟩ := σ
  by_cases c4 : 4 < i3
  · have hs := eX1_read_68_1 i2 v1 i3 g6 c4
    rw [hs] at e
    cases e
  · obtain ⟨g7, hg7⟩ : ∃ z : tG, z = gP g6 44 ((i2 * 5) + i3) (fX7_weekTicket_r g6 v1 i3) := ⟨_, rfl⟩
    have qg7 : g7 j = g6 j := by rw [hg7]; exact gP_ne (fun e9 => h (by rw [e9]; decide))
    have hs := eX1_read_68_2 i2 v1 i3 g6 c4 hg7
    rw [hs] at e
    have e9 := Option.some.inj e
    subst e9
    exact qg7
theorem fjX1_read_68 (i2 : Int32) (v1 : Int32) (n : Nat) (σ : Int32 × tG) (j : Nat) (h : j ∉ ([44] : List Nat)) : ((lp (sX1_read_68 i2 v1) n σ).2) j = σ.2 j :=
  lp_inv (fun τ => τ.2 j = σ.2 j) (fun a b e9 h9 => (fj_X1_read_68 i2 v1 a b j h e9).trans h9) n σ rfl
theorem tX1_read_68 (i2 : Int32) (v1 : Int32) (g6z : tG) : lpE (sX1_read_68 i2 v1) 4 (1, g6z) := by
  refine lpE_up (fun σ => σ.1) 5 ?_ _ _ (by show (5 : Int32).toInt - (1 : Int32).toInt ≤ ((4 : Nat) : Int); decide)
  intro σ τ h9
  obtain ⟨i3, g6⟩ := σ
  by_cases c4 : 4 < i3
  · have hs := eX1_read_68_1 i2 v1 i3 g6 c4
    rw [hs] at h9
    cases h9
  · obtain ⟨g7, hg7⟩ : ∃ z : tG, z = gP g6 44 ((i2 * 5) + i3) (fX7_weekTicket_r g6 v1 i3) := ⟨_, rfl⟩
    have hs := eX1_read_68_2 i2 v1 i3 g6 c4 hg7
    rw [hs] at h9
    have e9 := Option.some.inj h9
    subst e9
    exact ⟨lt_next c4 (by decide), rfl⟩
def sX1_read_50 : (Int32 × tG) → Option (Int32 × tG) := fun σ =>
  if 4 ≤ σ.1 then
    none
  else
    let v1 : Int32 := fX7_indexFor_r σ.2 (σ.1 * 7)
    let r2 : Int32 × tG := lp (sX1_read_68 σ.1 v1) 4 (1, σ.2)
    let g8 : tG := gP r2.2 42 σ.1 (fX1_choiceUpTo_r r2.2 σ.1 (fX1_lastDayOf_r r2.2 σ.1))
    some (σ.1 + 1, g8)
set_option maxRecDepth 20000 in
theorem eX1_read_50_1 (i2 : Int32) (g5 : tG) (c3 : 4 ≤ i2) : sX1_read_50 (i2, g5) = none := by
  exact (if_pos c3).trans rfl
set_option maxRecDepth 20000 in
theorem eX1_read_50_2 (i2 : Int32) (g5 : tG) (c3 : ¬ (4 ≤ i2)) {v1 : Int32} (hv1 : v1 = fX7_indexFor_r g5 (i2 * 7)) {r2 : Int32 × tG} (hr2 : r2 = lp (sX1_read_68 i2 v1) 4 (1, g5)) {g8 : tG} (hg8 : g8 = gP r2.2 42 i2 (fX1_choiceUpTo_r r2.2 i2 (fX1_lastDayOf_r r2.2 i2))) : sX1_read_50 (i2, g5) = some (i2 + 1, g8) := by
  subst hv1
  subst hr2
  subst hg8
  exact (if_neg c3).trans rfl
theorem fj_X1_read_50 (σ τ : Int32 × tG) (j : Nat) (h : j ∉ ([42, 44] : List Nat)) (e : sX1_read_50 σ = some τ) : τ.2 j = σ.2 j := by
  obtain ⟨i2, g5⟩ := σ
  by_cases c3 : 4 ≤ i2
  · have hs := eX1_read_50_1 i2 g5 c3
    rw [hs] at e
    cases e
  · obtain ⟨v1, hv1⟩ : ∃ z : Int32, z = fX7_indexFor_r g5 (i2 * 7) := ⟨_, rfl⟩
    obtain ⟨r2, hr2⟩ : ∃ z : Int32 × tG, z = lp (sX1_read_68 i2 v1) 4 (1, g5) := ⟨_, rfl⟩
    obtain ⟨g8, hg8⟩ : ∃ z : tG, z = gP r2.2 42 i2 (fX1_choiceUpTo_r r2.2 i2 (fX1_lastDayOf_r r2.2 i2)) := ⟨_, rfl⟩
    have qr2 : r2.2 j = g5 j := by rw [hr2]; exact fjX1_read_68 i2 v1 _ _ j (fun hm => h (sub9 (a := [44]) (b := [42, 44]) (by decide) hm))
    have qg8 : g8 j = r2.2 j := by rw [hg8]; exact gP_ne (fun e9 => h (by rw [e9]; decide))
    have hs := eX1_read_50_2 i2 g5 c3 hv1 hr2 hg8
    rw [hs] at e
    have e9 := Option.some.inj e
    subst e9
    exact qg8.trans (qr2)
theorem fjX1_read_50 (n : Nat) (σ : Int32 × tG) (j : Nat) (h : j ∉ ([42, 44] : List Nat)) : ((lp (sX1_read_50) n σ).2) j = σ.2 j :=
  lp_inv (fun τ => τ.2 j = σ.2 j) (fun a b e9 h9 => (fj_X1_read_50 a b j h e9).trans h9) n σ rfl
theorem tX1_read_50 (g5z : tG) : lpE (sX1_read_50) 4 (0, g5z) := by
  refine lpE_up (fun σ => σ.1) 4 ?_ _ _ (by show (4 : Int32).toInt - (0 : Int32).toInt ≤ ((4 : Nat) : Int); decide)
  intro σ τ h9
  obtain ⟨i2, g5⟩ := σ
  by_cases c3 : 4 ≤ i2
  · have hs := eX1_read_50_1 i2 g5 c3
    rw [hs] at h9
    cases h9
  · obtain ⟨v1, hv1⟩ : ∃ z : Int32, z = fX7_indexFor_r g5 (i2 * 7) := ⟨_, rfl⟩
    obtain ⟨r2, hr2⟩ : ∃ z : Int32 × tG, z = lp (sX1_read_68 i2 v1) 4 (1, g5) := ⟨_, rfl⟩
    obtain ⟨g8, hg8⟩ : ∃ z : tG, z = gP r2.2 42 i2 (fX1_choiceUpTo_r r2.2 i2 (fX1_lastDayOf_r r2.2 i2)) := ⟨_, rfl⟩
    have hs := eX1_read_50_2 i2 g5 c3 hv1 hr2 hg8
    rw [hs] at h9
    have e9 := Option.some.inj h9
    subst e9
    exact ⟨not_le32 c3, rfl⟩
def fX1_read_w (g : tG) : tG :=
  let g1 : tG := gF g 41 0
  let g2 : tG := gF g1 43 0
  let r1 : Int32 × tG := lp (sX1_read_18) 28 (0, g2)
  let r3 : Int32 × tG := lp (sX1_read_50) 4 (0, r1.2)
  r3.2
set_option maxRecDepth 20000 in
theorem eX1_read_w1 (g : tG) {g1 : tG} (hg1 : g1 = gF g 41 0) {g2 : tG} (hg2 : g2 = gF g1 43 0) {r1 : Int32 × tG} (hr1 : r1 = lp (sX1_read_18) 28 (0, g2)) {r3 : Int32 × tG} (hr3 : r3 = lp (sX1_read_50) 4 (0, r1.2)) : fX1_read_w g = r3.2 := by
  subst hg1
  subst hg2
  subst hr1
  subst hr3
  exact rfl
theorem fjX1_read (g : tG) (j : Nat) (h : j ∉ ([41, 42, 43, 44] : List Nat)) : fX1_read_w g j = g j := by
  obtain ⟨g1, hg1⟩ : ∃ z : tG, z = gF g 41 0 := ⟨_, rfl⟩
  obtain ⟨g2, hg2⟩ : ∃ z : tG, z = gF g1 43 0 := ⟨_, rfl⟩
  obtain ⟨r1, hr1⟩ : ∃ z : Int32 × tG, z = lp (sX1_read_18) 28 (0, g2) := ⟨_, rfl⟩
  obtain ⟨r3, hr3⟩ : ∃ z : Int32 × tG, z = lp (sX1_read_50) 4 (0, r1.2) := ⟨_, rfl⟩
  have qg1 : g1 j = g j := by rw [hg1]; exact gF_ne (fun e9 => h (by rw [e9]; decide))
  have qg2 : g2 j = g1 j := by rw [hg2]; exact gF_ne (fun e9 => h (by rw [e9]; decide))
  have qr1 : r1.2 j = g2 j := by rw [hr1]; exact fjX1_read_18 _ _ j (fun hm => h (sub9 (a := [41, 43]) (b := [41, 42, 43, 44]) (by decide) hm))
  have qr3 : r3.2 j = r1.2 j := by rw [hr3]; exact fjX1_read_50 _ _ j (fun hm => h (sub9 (a := [42, 44]) (b := [41, 42, 43, 44]) (by decide) hm))
  have hs := eX1_read_w1 g hg1 hg2 hr1 hr3
  rw [hs]
  exact qr3.trans (qr1.trans (qg2.trans (qg1)))
set_option maxHeartbeats 4000000 in
set_option maxRecDepth 100000 in
theorem kX1_read (l : Launch) (D : va_G) (ad : Nat → Nat) (cI : ClassId) (g : tG) (sz : Nat) : Met l yX1_read wsX1_read ({ frames := 3, cells := 0, slots := 0, locals := 75 } : Room) (g_P D [(cI, .int)] (tcW ad cI g) [.ref (ad 89), .ref (ad 70), .ref (ad 8)] sz) (g_Qv D [(cI, .int)] (va_A (tcW ad cI g) sz) (tcW ad cI (fX1_read_w g))) 0 0 (va_A (tcW ad cI g) sz) := by
  refine Met.ofW (cc := cX1_read) (maxL := 6) (ret := none) (by decide) rfl ?_
  intro p e s m args below meth c9 s₁ B hml hv
  obtain ⟨rfl, hsz, hP, hK, hD0⟩ := hv
  have hx := B.exec
  have hb := B.bytes
  have hr := B.returns
  have hts := atoms_spec (ws := wsX1_read) B.pre
  have hown : s.vm.findClass RX1 = some m.cls := findClass_of_methodNamed B.named
  have hlocks := B.notSynchronized
  subst hsz
  have hD := hD0.self (sz := s.heap.size)
  generalize hAe : va_A (tcW ad cI g) s.heap.size = A at hD ⊢
  have hA : ∀ q : Nat, s.heap.size ≤ q → A q := fun q h => by rw [← hAe]; exact Or.inr h
  have hS : va_S A s.heap s.heap [] := va_S.rf
  have hl := lv_entry ([.ref (ad 89), .ref (ad 70), .ref (ad 8)]) (n := 6) (Nat.le_of_ble_eq_true rfl)
  rw [lg_entry_eq]
  generalize (lg_sl ([.ref (ad 89), .ref (ad 70), .ref (ad 8)]) ++ List.replicate (6 - (lg_sl ([.ref (ad 89), .ref (ad 70), .ref (ad 8)])).length) Slot.unset).toArray = ls at hl ⊢
  have hl : lv_has ls 6 [(0, .ref (ad 89)), (1, .ref (ad 70)), (2, .ref (ad 8))] := hl
  have winX1 : ∀ w ∈ u_ws RX1 TX1 4, w ∈ wsX1_read := by decide +kernel
  have winX2 : ∀ w ∈ u_ws RX2 TX2 10, w ∈ wsX1_read := by decide +kernel
  have winX5 : ∀ w ∈ u_ws RX5 TX5 1, w ∈ wsX1_read := by decide +kernel
  refine lv_aload_n hx hb dX1_read_0 rfl (lv_at hl 0 rfl) ?_
  refine va_get (D := D) (ci := 1) (v := .ref (ad 90)) (C := RX1) (T := TX1) (N := 4) hx hb hts winX1 hown hK hP 89 rfl rfl 0 (by decide) (hts (.fieldLink RX1 14 "TapCap$Costs" "dayChoice" "LTapCap$Row;") (List.mem_of_getElem? (i := 1) rfl)) (fun _ h9 => h9) rfl dX1_read_1 ?_
  refine lv_iconst (v := 0) hx hb dX1_read_4 (by decide) ?_
  refine g_kv hK hD hS hA (va_runV (As := [.int 0]) (rest := []) ⟨hx, hb, hml, hown, hts⟩ (k_tc_fill l D ad cI g s.heap.size 41 (by decide) 0) (cwV 1 hts gX1_read_X5_fill rfl rfl rfl (by decide +kernel) ⟨Nat.le_of_ble_eq_true rfl, Nat.le_of_ble_eq_true rfl⟩) (g_preV hK hP hD (ci := 5) (q0 := 90) rfl rfl) rfl rfl hl.1 rfl (lv_room (Nat.le_of_ble_eq_true rfl)) dX1_read_5 ⟨Nat.le_of_ble_eq_true rfl, Nat.le_of_ble_eq_true rfl⟩) (fun H locs hP hD hS => ?_)
  obtain ⟨g1, hg1⟩ : ∃ z : tG, z = gF g 41 0 := ⟨_, rfl⟩
  rw [← hg1] at hP hD
  refine lv_aload_n hx hb dX1_read_8 rfl (lv_at hl 0 rfl) ?_
  refine va_get (D := D) (ci := 1) (v := .ref (ad 94)) (C := RX1) (T := TX1) (N := 4) hx hb hts winX1 hown hK hP 89 rfl rfl 2 (by decide) (hts (.fieldLink RX1 23 "TapCap$Costs" "beside" "LTapCap$Row;") (List.mem_of_getElem? (i := 2) rfl)) (fun _ h9 => h9) rfl dX1_read_9 ?_
  refine lv_iconst (v := 0) hx hb dX1_read_12 (by decide) ?_
  refine g_kv hK hD hS hA (va_runV (As := [.int 0]) (rest := []) ⟨hx, hb, hml, hown, hts⟩ (k_tc_fill l D ad cI g1 H.size 43 (by decide) 0) (cwV 1 hts gX1_read_X5_fill rfl rfl rfl (by decide +kernel) ⟨Nat.le_of_ble_eq_true rfl, Nat.le_of_ble_eq_true rfl⟩) (g_preV hK hP hD (ci := 5) (q0 := 94) rfl rfl) rfl rfl hl.1 rfl (lv_room (Nat.le_of_ble_eq_true rfl)) dX1_read_13 ⟨Nat.le_of_ble_eq_true rfl, Nat.le_of_ble_eq_true rfl⟩) (fun H locs hP hD hS => ?_)
  obtain ⟨g2, hg2⟩ : ∃ z : tG, z = gF g1 43 0 := ⟨_, rfl⟩
  rw [← hg2] at hP hD
  refine lv_iconst (v := 0) hx hb dX1_read_16 (by decide) ?_
  refine lv_istore_n (lv' := [(3, .int 0), (0, .ref (ad 89)), (1, .ref (ad 70)), (2, .ref (ad 8))]) hx hb dX1_read_17 rfl hl (by decide) rfl (fun ls hl => ?_)
  have loop18 : ∀ (n : Nat)  (i1 : Int32) (g3 : tG), lpE (sX1_read_18) n (i1, g3) → ∀ (H : Heap) (locs : List Loc), va_P D vwCl (tcW ad cI g3) H → va_D A (tcW ad cI g3) → va_S A s.heap H locs → ∀ (ls : Array Slot), lv_has ls 6 [(3, .int i1), (0, .ref (ad 89)), (1, .ref (ad 70)), (2, .ref (ad 8))] → (∀ r : Int32 × tG, r = lp (sX1_read_18) n (i1, g3) → ∀ (H : Heap) (locs : List Loc), va_P D vwCl (tcW ad cI r.2) H → va_D A (tcW ad cI r.2) → va_S A s.heap H locs → ∀ (ls : Array Slot), lv_has ls 6 [(3, .int r.1), (0, .ref (ad 89)), (1, .ref (ad 70)), (2, .ref (ad 8))] → W p l e (headSpec wsX1_read ({ frames := 3, cells := 0, slots := 0, locals := 75 } : Room)).room s m ([.ref (ad 89), .ref (ad 70), .ref (ad 8)] : List Value).toArray below meth c9 H locs 0 0 (MQ below (g_Qv D [(cI, .int)] A (tcW ad cI (fX1_read_w g))) ([.ref (ad 89), .ref (ad 70), .ref (ad 8)] : List Value).toArray s 0 0 A) (F0 m 48 ls [])) → W p l e (headSpec wsX1_read ({ frames := 3, cells := 0, slots := 0, locals := 75 } : Room)).room s m ([.ref (ad 89), .ref (ad 70), .ref (ad 8)] : List Value).toArray below meth c9 H locs 0 0 (MQ below (g_Qv D [(cI, .int)] A (tcW ad cI (fX1_read_w g))) ([.ref (ad 89), .ref (ad 70), .ref (ad 8)] : List Value).toArray s 0 0 A) (F0 m 18 ls []) := by
    refine lp_ind ?_
    intro n ih i1 g3 hE H locs hP hD hS ls hl kk
    refine lv_iload_n hx hb dX1_read_18 rfl (lv_at hl 0 rfl) ?_
    refine lv_bipush (v := 28) hx hb dX1_read_19 (by decide) ?_
    refine lv_icmp_ge (tgt := 48) hx hb dX1_read_21 (by decide) (fun c1 => ?_) (fun c1 => ?_)
    · have hs := eX1_read_18_1 i1 g3 c1
      exact kk _ (lp_none hs).symm H locs hP hD hS ls (lv_sub hl [0, 1, 2, 3] rfl)
    · refine lv_aload_n hx hb dX1_read_24 rfl (lv_at hl 2 rfl) ?_
      refine va_get (D := D) (ci := 2) (v := .ref (ad 81)) (C := RX2) (T := TX2) (N := 10) hx hb hts winX2 hown hK hP 70 rfl rfl 5 (by decide) (hts (.fieldLink RX1 32 "TapCap$Journeys" "countOn" "LTapCap$Row;") (List.mem_of_getElem? (i := 3) rfl)) (fun _ h9 => h9) rfl dX1_read_25 ?_
      refine lv_iload_n hx hb dX1_read_28 rfl (lv_at hl 0 rfl) ?_
      refine g_ki hK hD hS hA (va_runV (As := [.int i1]) (rest := []) ⟨hx, hb, hml, hown, hts⟩ (k_tc_at l D ad cI g3 H.size 37 (by decide) i1) (cwV 1 hts gX1_read_X5_at rfl rfl rfl (by decide +kernel) ⟨Nat.le_of_ble_eq_true rfl, Nat.le_of_ble_eq_true rfl⟩) (g_preV hK hP hD (ci := 5) (q0 := 81) rfl rfl) rfl rfl hl.1 rfl (lv_room (Nat.le_of_ble_eq_true rfl)) dX1_read_29 ⟨Nat.le_of_ble_eq_true rfl, Nat.le_of_ble_eq_true rfl⟩) (fun H locs hP hD hS => ?_)
      refine lv_if_le (tgt := 42) hx hb dX1_read_32 (by decide) (fun c2 => ?_) (fun c2 => ?_)
      · refine lv_iinc (v := i1 + 1) (lv' := [(3, .int (i1 + 1)), (0, .ref (ad 89)), (1, .ref (ad 70)), (2, .ref (ad 8))]) hx hb dX1_read_42 hl (k := 0) rfl rfl (by decide) rfl (fun ls hl => ?_)
        refine lv_goto (tgt := 18) hx hb dX1_read_45 (by decide) ?_
        have hs := eX1_read_18_2 i1 g3 c1 c2
        obtain ⟨n9, hn9, hE9, hr9⟩ := lpE_next hE hs
        exact ih n9 (by omega) (i1 + 1) g3 hE9 H locs hP hD hS ls (lv_sub hl [0, 1, 2, 3] rfl) (fun r hr => kk r (hr.trans hr9.symm))
      · refine lv_aload_n hx hb dX1_read_35 rfl (lv_at hl 1 rfl) ?_
        refine lv_iload_n hx hb dX1_read_36 rfl (lv_at hl 0 rfl) ?_
        refine lv_aload_n hx hb dX1_read_37 rfl (lv_at hl 2 rfl) ?_
        refine lv_aload_n hx hb dX1_read_38 rfl (lv_at hl 3 rfl) ?_
        refine g_kv hK hD hS hA (va_runV (As := [.int i1, .ref (ad 70), .ref (ad 8)]) (rest := []) ⟨hx, hb, hml, hown, hts⟩ (kX1_readDay l D ad cI g3 H.size i1) (cwV 3 hts gX1_read_X1_readDay rfl rfl rfl (by decide +kernel) ⟨Nat.le_of_ble_eq_true rfl, Nat.le_of_ble_eq_true rfl⟩) (g_preV hK hP hD (ci := 1) (q0 := 89) rfl rfl) rfl rfl hl.1 rfl (lv_room (Nat.le_of_ble_eq_true rfl)) dX1_read_39 ⟨Nat.le_of_ble_eq_true rfl, Nat.le_of_ble_eq_true rfl⟩) (fun H locs hP hD hS => ?_)
        obtain ⟨g4, hg4⟩ : ∃ z : tG, z = fX1_readDay_w g3 i1 := ⟨_, rfl⟩
        rw [← hg4] at hP hD
        refine lv_iinc (v := i1 + 1) (lv' := [(3, .int (i1 + 1)), (0, .ref (ad 89)), (1, .ref (ad 70)), (2, .ref (ad 8))]) hx hb dX1_read_42 hl (k := 0) rfl rfl (by decide) rfl (fun ls hl => ?_)
        refine lv_goto (tgt := 18) hx hb dX1_read_45 (by decide) ?_
        have hs := eX1_read_18_3 i1 g3 c1 c2 hg4
        obtain ⟨n9, hn9, hE9, hr9⟩ := lpE_next hE hs
        exact ih n9 (by omega) (i1 + 1) g4 hE9 H locs hP hD hS ls (lv_sub hl [0, 1, 2, 3] rfl) (fun r hr => kk r (hr.trans hr9.symm))
  refine loop18 28 0 g2 (tX1_read_18 g2) _ _ hP hD hS ls hl (fun r1 hr1 H locs hP hD hS ls hl => ?_)
  have hl : lv_has ls 6 [(0, .ref (ad 89)), (2, .ref (ad 8))] := lv_sub hl [1, 3] rfl
  refine lv_iconst (v := 0) hx hb dX1_read_48 (by decide) ?_
  refine lv_istore_n (lv' := [(3, .int 0), (0, .ref (ad 89)), (2, .ref (ad 8))]) hx hb dX1_read_49 rfl hl (by decide) rfl (fun ls hl => ?_)
  have loop50 : ∀ (n : Nat)  (i2 : Int32) (g5 : tG), lpE (sX1_read_50) n (i2, g5) → ∀ (H : Heap) (locs : List Loc), va_P D vwCl (tcW ad cI g5) H → va_D A (tcW ad cI g5) → va_S A s.heap H locs → ∀ (ls : Array Slot), lv_has ls 6 [(3, .int i2), (0, .ref (ad 89)), (2, .ref (ad 8))] → (∀ r : Int32 × tG, r = lp (sX1_read_50) n (i2, g5) → ∀ (H : Heap) (locs : List Loc), va_P D vwCl (tcW ad cI r.2) H → va_D A (tcW ad cI r.2) → va_S A s.heap H locs → ∀ (ls : Array Slot), lv_has ls 6 [(3, .int r.1), (0, .ref (ad 89)), (2, .ref (ad 8))] → W p l e (headSpec wsX1_read ({ frames := 3, cells := 0, slots := 0, locals := 75 } : Room)).room s m ([.ref (ad 89), .ref (ad 70), .ref (ad 8)] : List Value).toArray below meth c9 H locs 0 0 (MQ below (g_Qv D [(cI, .int)] A (tcW ad cI (fX1_read_w g))) ([.ref (ad 89), .ref (ad 70), .ref (ad 8)] : List Value).toArray s 0 0 A) (F0 m 124 ls [])) → W p l e (headSpec wsX1_read ({ frames := 3, cells := 0, slots := 0, locals := 75 } : Room)).room s m ([.ref (ad 89), .ref (ad 70), .ref (ad 8)] : List Value).toArray below meth c9 H locs 0 0 (MQ below (g_Qv D [(cI, .int)] A (tcW ad cI (fX1_read_w g))) ([.ref (ad 89), .ref (ad 70), .ref (ad 8)] : List Value).toArray s 0 0 A) (F0 m 50 ls []) := by
    refine lp_ind ?_
    intro n ih i2 g5 hE H locs hP hD hS ls hl kk
    refine lv_iload_n hx hb dX1_read_50 rfl (lv_at hl 0 rfl) ?_
    refine lv_iconst (v := 4) hx hb dX1_read_51 (by decide) ?_
    refine lv_icmp_ge (tgt := 124) hx hb dX1_read_52 (by decide) (fun c3 => ?_) (fun c3 => ?_)
    · have hs := eX1_read_50_1 i2 g5 c3
      exact kk _ (lp_none hs).symm H locs hP hD hS ls (lv_sub hl [0, 1, 2] rfl)
    · refine lv_aload_n hx hb dX1_read_55 rfl (lv_at hl 2 rfl) ?_
      refine lv_iload_n hx hb dX1_read_56 rfl (lv_at hl 0 rfl) ?_
      refine lv_bipush (v := 7) hx hb dX1_read_57 (by decide) ?_
      refine lv_imul hx hb dX1_read_59 ?_
      refine g_ki hK hD hS hA (va_runV (As := [.int (i2 * 7)]) (rest := []) ⟨hx, hb, hml, hown, hts⟩ (kX7_indexFor l D ad cI g5 H.size (i2 * 7)) (cwV 1 hts gX1_read_X7_indexFor rfl rfl rfl (by decide +kernel) ⟨Nat.le_of_ble_eq_true rfl, Nat.le_of_ble_eq_true rfl⟩) (g_preV hK hP hD (ci := 7) (q0 := 8) rfl rfl) rfl rfl hl.1 rfl (lv_room (Nat.le_of_ble_eq_true rfl)) dX1_read_60 ⟨Nat.le_of_ble_eq_true rfl, Nat.le_of_ble_eq_true rfl⟩) (fun H locs hP hD hS => ?_)
      refine lv_topi (fun v1 hv1 => ?_)
      refine lv_istore (lv' := [(4, .int v1), (3, .int i2), (0, .ref (ad 89)), (2, .ref (ad 8))]) hx hb dX1_read_63 hl (by decide) rfl (fun ls hl => ?_)
      refine lv_iconst (v := 1) hx hb dX1_read_65 (by decide) ?_
      refine lv_istore (lv' := [(5, .int 1), (4, .int v1), (3, .int i2), (0, .ref (ad 89)), (2, .ref (ad 8))]) hx hb dX1_read_66 hl (by decide) rfl (fun ls hl => ?_)
      have loop68 : ∀ (n : Nat)  (i3 : Int32) (g6 : tG), lpE (sX1_read_68 i2 v1) n (i3, g6) → ∀ (H : Heap) (locs : List Loc), va_P D vwCl (tcW ad cI g6) H → va_D A (tcW ad cI g6) → va_S A s.heap H locs → ∀ (ls : Array Slot), lv_has ls 6 [(5, .int i3), (4, .int v1), (3, .int i2), (0, .ref (ad 89)), (2, .ref (ad 8))] → (∀ r : Int32 × tG, r = lp (sX1_read_68 i2 v1) n (i3, g6) → ∀ (H : Heap) (locs : List Loc), va_P D vwCl (tcW ad cI r.2) H → va_D A (tcW ad cI r.2) → va_S A s.heap H locs → ∀ (ls : Array Slot), lv_has ls 6 [(5, .int r.1), (4, .int v1), (3, .int i2), (0, .ref (ad 89)), (2, .ref (ad 8))] → W p l e (headSpec wsX1_read ({ frames := 3, cells := 0, slots := 0, locals := 75 } : Room)).room s m ([.ref (ad 89), .ref (ad 70), .ref (ad 8)] : List Value).toArray below meth c9 H locs 0 0 (MQ below (g_Qv D [(cI, .int)] A (tcW ad cI (fX1_read_w g))) ([.ref (ad 89), .ref (ad 70), .ref (ad 8)] : List Value).toArray s 0 0 A) (F0 m 101 ls [])) → W p l e (headSpec wsX1_read ({ frames := 3, cells := 0, slots := 0, locals := 75 } : Room)).room s m ([.ref (ad 89), .ref (ad 70), .ref (ad 8)] : List Value).toArray below meth c9 H locs 0 0 (MQ below (g_Qv D [(cI, .int)] A (tcW ad cI (fX1_read_w g))) ([.ref (ad 89), .ref (ad 70), .ref (ad 8)] : List Value).toArray s 0 0 A) (F0 m 68 ls []) := by
        refine lp_ind ?_
        intro n ih i3 g6 hE H locs hP hD hS ls hl kk
        refine lv_iload hx hb dX1_read_68 (lv_at hl 0 rfl) ?_
        refine lv_iconst (v := 4) hx hb dX1_read_70 (by decide) ?_
        refine lv_icmp_gt (tgt := 101) hx hb dX1_read_71 (by decide) (fun c4 => ?_) (fun c4 => ?_)
        · have hs := eX1_read_68_1 i2 v1 i3 g6 c4
          exact kk _ (lp_none hs).symm H locs hP hD hS ls (lv_sub hl [0, 1, 2, 3, 4] rfl)
        · refine lv_aload_n hx hb dX1_read_74 rfl (lv_at hl 3 rfl) ?_
          refine va_get (D := D) (ci := 1) (v := .ref (ad 96)) (C := RX1) (T := TX1) (N := 4) hx hb hts winX1 hown hK hP 89 rfl rfl 3 (by decide) (hts (.fieldLink RX1 26 "TapCap$Costs" "weekTickets" "LTapCap$Row;") (List.mem_of_getElem? (i := 4) rfl)) (fun _ h9 => h9) rfl dX1_read_75 ?_
          refine lv_iload_n hx hb dX1_read_78 rfl (lv_at hl 2 rfl) ?_
          refine lv_iconst (v := 5) hx hb dX1_read_79 (by decide) ?_
          refine lv_imul hx hb dX1_read_80 ?_
          refine lv_iload hx hb dX1_read_81 (lv_at hl 0 rfl) ?_
          refine lv_iadd hx hb dX1_read_83 ?_
          refine lv_aload_n hx hb dX1_read_84 rfl (lv_at hl 4 rfl) ?_
          refine lv_iload hx hb dX1_read_85 (lv_at hl 1 rfl) ?_
          refine lv_iload hx hb dX1_read_87 (lv_at hl 0 rfl) ?_
          refine g_ki hK hD hS hA (va_runV (As := [.int v1, .int i3]) (rest := [.int ((i2 * 5) + i3), .ref (ad 96)]) ⟨hx, hb, hml, hown, hts⟩ (kX7_weekTicket l D ad cI g6 H.size v1 i3) (cwV 2 hts gX1_read_X7_weekTicket rfl rfl rfl (by decide +kernel) ⟨Nat.le_of_ble_eq_true rfl, Nat.le_of_ble_eq_true rfl⟩) (g_preV hK hP hD (ci := 7) (q0 := 8) rfl rfl) rfl rfl hl.1 rfl (lv_room (Nat.le_of_ble_eq_true rfl)) dX1_read_89 ⟨Nat.le_of_ble_eq_true rfl, Nat.le_of_ble_eq_true rfl⟩) (fun H locs hP hD hS => ?_)
          refine g_kv hK hD hS hA (va_runV (As := [.int ((i2 * 5) + i3), .int (fX7_weekTicket_r g6 v1 i3)]) (rest := []) ⟨hx, hb, hml, hown, hts⟩ (k_tc_put l D ad cI g6 H.size 44 (by decide) ((i2 * 5) + i3) (fX7_weekTicket_r g6 v1 i3)) (cwV 2 hts gX1_read_X5_put rfl rfl rfl (by decide +kernel) ⟨Nat.le_of_ble_eq_true rfl, Nat.le_of_ble_eq_true rfl⟩) (g_preV hK hP hD (ci := 5) (q0 := 96) rfl rfl) rfl rfl hl.1 rfl (lv_room (Nat.le_of_ble_eq_true rfl)) dX1_read_92 ⟨Nat.le_of_ble_eq_true rfl, Nat.le_of_ble_eq_true rfl⟩) (fun H locs hP hD hS => ?_)
          obtain ⟨g7, hg7⟩ : ∃ z : tG, z = gP g6 44 ((i2 * 5) + i3) (fX7_weekTicket_r g6 v1 i3) := ⟨_, rfl⟩
          rw [← hg7] at hP hD
          refine lv_iinc (v := i3 + 1) (lv' := [(5, .int (i3 + 1)), (4, .int v1), (3, .int i2), (0, .ref (ad 89)), (2, .ref (ad 8))]) hx hb dX1_read_95 hl (k := 0) rfl rfl (by decide) rfl (fun ls hl => ?_)
          refine lv_goto (tgt := 68) hx hb dX1_read_98 (by decide) ?_
          have hs := eX1_read_68_2 i2 v1 i3 g6 c4 hg7
          obtain ⟨n9, hn9, hE9, hr9⟩ := lpE_next hE hs
          exact ih n9 (by omega) (i3 + 1) g7 hE9 H locs hP hD hS ls (lv_sub hl [0, 1, 2, 3, 4] rfl) (fun r hr => kk r (hr.trans hr9.symm))
      refine loop68 4 1 g5 (tX1_read_68 i2 v1 g5) _ _ hP hD hS ls hl (fun r2 hr2 H locs hP hD hS ls hl => ?_)
      have hl : lv_has ls 6 [(3, .int i2), (0, .ref (ad 89)), (2, .ref (ad 8))] := lv_sub hl [2, 3, 4] rfl
      refine lv_aload_n hx hb dX1_read_101 rfl (lv_at hl 1 rfl) ?_
      refine va_get (D := D) (ci := 1) (v := .ref (ad 92)) (C := RX1) (T := TX1) (N := 4) hx hb hts winX1 hown hK hP 89 rfl rfl 1 (by decide) (hts (.fieldLink RX1 20 "TapCap$Costs" "weekChoice" "LTapCap$Row;") (List.mem_of_getElem? (i := 5) rfl)) (fun _ h9 => h9) rfl dX1_read_102 ?_
      refine lv_iload_n hx hb dX1_read_105 rfl (lv_at hl 0 rfl) ?_
      refine lv_aload_n hx hb dX1_read_106 rfl (lv_at hl 1 rfl) ?_
      refine lv_iload_n hx hb dX1_read_107 rfl (lv_at hl 0 rfl) ?_
      refine lv_iload_n hx hb dX1_read_108 rfl (lv_at hl 0 rfl) ?_
      refine g_ki hK hD hS hA (va_runS (As := [.int i2]) (rest := [.int i2, .ref (ad 89), .int i2, .ref (ad 92)]) ⟨hx, hb, hml, hown, hts⟩ (kX1_lastDayOf l D ad cI r2.2 H.size i2) (cwS 1 hts gX1_read_X1_lastDayOf rfl rfl rfl (by decide +kernel) ⟨Nat.le_of_ble_eq_true rfl, Nat.le_of_ble_eq_true rfl⟩) (g_preS hK hP hD) rfl rfl hl.1 rfl (lv_room (Nat.le_of_ble_eq_true rfl)) dX1_read_109 ⟨Nat.le_of_ble_eq_true rfl, Nat.le_of_ble_eq_true rfl⟩) (fun H locs hP hD hS => ?_)
      refine g_ki hK hD hS hA (va_runV (As := [.int i2, .int (fX1_lastDayOf_r r2.2 i2)]) (rest := [.int i2, .ref (ad 92)]) ⟨hx, hb, hml, hown, hts⟩ (kX1_choiceUpTo l D ad cI r2.2 H.size i2 (fX1_lastDayOf_r r2.2 i2)) (cwV 2 hts gX1_read_X1_choiceUpTo rfl rfl rfl (by decide +kernel) ⟨Nat.le_of_ble_eq_true rfl, Nat.le_of_ble_eq_true rfl⟩) (g_preV hK hP hD (ci := 1) (q0 := 89) rfl rfl) rfl rfl hl.1 rfl (lv_room (Nat.le_of_ble_eq_true rfl)) dX1_read_112 ⟨Nat.le_of_ble_eq_true rfl, Nat.le_of_ble_eq_true rfl⟩) (fun H locs hP hD hS => ?_)
      refine g_kv hK hD hS hA (va_runV (As := [.int i2, .int (fX1_choiceUpTo_r r2.2 i2 (fX1_lastDayOf_r r2.2 i2))]) (rest := []) ⟨hx, hb, hml, hown, hts⟩ (k_tc_put l D ad cI r2.2 H.size 42 (by decide) i2 (fX1_choiceUpTo_r r2.2 i2 (fX1_lastDayOf_r r2.2 i2))) (cwV 2 hts gX1_read_X5_put rfl rfl rfl (by decide +kernel) ⟨Nat.le_of_ble_eq_true rfl, Nat.le_of_ble_eq_true rfl⟩) (g_preV hK hP hD (ci := 5) (q0 := 92) rfl rfl) rfl rfl hl.1 rfl (lv_room (Nat.le_of_ble_eq_true rfl)) dX1_read_115 ⟨Nat.le_of_ble_eq_true rfl, Nat.le_of_ble_eq_true rfl⟩) (fun H locs hP hD hS => ?_)
      obtain ⟨g8, hg8⟩ : ∃ z : tG, z = gP r2.2 42 i2 (fX1_choiceUpTo_r r2.2 i2 (fX1_lastDayOf_r r2.2 i2)) := ⟨_, rfl⟩
      rw [← hg8] at hP hD
      refine lv_iinc (v := i2 + 1) (lv' := [(3, .int (i2 + 1)), (0, .ref (ad 89)), (2, .ref (ad 8))]) hx hb dX1_read_118 hl (k := 0) rfl rfl (by decide) rfl (fun ls hl => ?_)
      refine lv_goto (tgt := 50) hx hb dX1_read_121 (by decide) ?_
      have hs := eX1_read_50_2 i2 g5 c3 hv1 hr2 hg8
      obtain ⟨n9, hn9, hE9, hr9⟩ := lpE_next hE hs
      exact ih n9 (by omega) (i2 + 1) g8 hE9 H locs hP hD hS ls (lv_sub hl [0, 1, 2] rfl) (fun r hr => kk r (hr.trans hr9.symm))
  refine loop50 4 0 r1.2 (tX1_read_50 r1.2) _ _ hP hD hS ls hl (fun r3 hr3 H locs hP hD hS ls hl => ?_)
  have hl : lv_has ls 6 [] := lv_sub hl [] rfl
  have hw := eX1_read_w1 g hg1 hg2 hr1 hr3
  have hP := w_P9 hw hP
  have hD := w_D9 hw hD
  exact g_vret hx hb hr hlocks hK hP hD hS dX1_read_124
def fX1_byItself_r (g : tG) (x0 : Int32) : Int32 :=
  gA g 43 (x0 * 5)
set_option maxRecDepth 20000 in
theorem eX1_byItself_r1 (g : tG) (x0 : Int32) : fX1_byItself_r g x0 = gA g 43 (x0 * 5) := by
  exact rfl
set_option maxHeartbeats 4000000 in
set_option maxRecDepth 100000 in
theorem kX1_byItself (l : Launch) (D : va_G) (ad : Nat → Nat) (cI : ClassId) (g : tG) (sz : Nat) (x0 : Int32) : Met l yX1_byItself wsX1_byItself ({ frames := 1, cells := 0, slots := 0, locals := 21 } : Room) (g_P D [(cI, .int)] (tcW ad cI g) [.ref (ad 89), .int x0] sz) (g_Qi D [(cI, .int)] (va_A (tcW ad cI g) sz) (tcW ad cI g) (fX1_byItself_r g x0)) 0 0 (va_A (tcW ad cI g) sz) := by
  refine Met.ofW (cc := cX1_byItself) (maxL := 2) (ret := (some .int)) (by decide) rfl ?_
  intro p e s m args below meth c9 s₁ B hml hv
  obtain ⟨rfl, hsz, hP, hK, hD0⟩ := hv
  have hx := B.exec
  have hb := B.bytes
  have hr := B.returns
  have hts := atoms_spec (ws := wsX1_byItself) B.pre
  have hown : s.vm.findClass RX1 = some m.cls := findClass_of_methodNamed B.named
  have hlocks := B.notSynchronized
  subst hsz
  have hD := hD0.self (sz := s.heap.size)
  generalize hAe : va_A (tcW ad cI g) s.heap.size = A at hD ⊢
  have hA : ∀ q : Nat, s.heap.size ≤ q → A q := fun q h => by rw [← hAe]; exact Or.inr h
  have hS : va_S A s.heap s.heap [] := va_S.rf
  have hl := lv_entry ([.ref (ad 89), .int x0]) (n := 2) (Nat.le_of_ble_eq_true rfl)
  rw [lg_entry_eq]
  generalize (lg_sl ([.ref (ad 89), .int x0]) ++ List.replicate (2 - (lg_sl ([.ref (ad 89), .int x0])).length) Slot.unset).toArray = ls at hl ⊢
  have hl : lv_has ls 2 [(0, .ref (ad 89)), (1, .int x0)] := hl
  have winX1 : ∀ w ∈ u_ws RX1 TX1 4, w ∈ wsX1_byItself := by decide +kernel
  have winX5 : ∀ w ∈ u_ws RX5 TX5 1, w ∈ wsX1_byItself := by decide +kernel
  refine lv_aload_n hx hb dX1_byItself_0 rfl (lv_at hl 0 rfl) ?_
  refine va_get (D := D) (ci := 1) (v := .ref (ad 94)) (C := RX1) (T := TX1) (N := 4) hx hb hts winX1 hown hK hP 89 rfl rfl 2 (by decide) (hts (.fieldLink RX1 23 "TapCap$Costs" "beside" "LTapCap$Row;") (List.mem_of_getElem? (i := 1) rfl)) (fun _ h9 => h9) rfl dX1_byItself_1 ?_
  refine lv_iload_n hx hb dX1_byItself_4 rfl (lv_at hl 1 rfl) ?_
  refine lv_iconst (v := 5) hx hb dX1_byItself_5 (by decide) ?_
  refine lv_imul hx hb dX1_byItself_6 ?_
  refine g_ki hK hD hS hA (va_runV (As := [.int (x0 * 5)]) (rest := []) ⟨hx, hb, hml, hown, hts⟩ (k_tc_at l D ad cI g s.heap.size 43 (by decide) (x0 * 5)) (cwV 1 hts gX1_byItself_X5_at rfl rfl rfl (by decide +kernel) ⟨Nat.le_of_ble_eq_true rfl, Nat.le_of_ble_eq_true rfl⟩) (g_preV hK hP hD (ci := 5) (q0 := 94) rfl rfl) rfl rfl hl.1 rfl (lv_room (Nat.le_of_ble_eq_true rfl)) dX1_byItself_7 ⟨Nat.le_of_ble_eq_true rfl, Nat.le_of_ble_eq_true rfl⟩) (fun H locs hP hD hS => ?_)
  exact g_iret hx hb hr rfl hlocks hK hP hD hS (eX1_byItself_r1 g x0 ).symm dX1_byItself_10
def fX1_withinWeek_r (g : tG) (x0 : Int32) : Int32 :=
  gA g 43 ((x0 * 5) + (gA g 42 (x0 / 7)))
set_option maxRecDepth 20000 in
theorem eX1_withinWeek_r1 (g : tG) (x0 : Int32) : fX1_withinWeek_r g x0 = gA g 43 ((x0 * 5) + (gA g 42 (x0 / 7))) := by
  exact rfl
set_option maxHeartbeats 4000000 in
set_option maxRecDepth 100000 in
theorem kX1_withinWeek (l : Launch) (D : va_G) (ad : Nat → Nat) (cI : ClassId) (g : tG) (sz : Nat) (x0 : Int32) : Met l yX1_withinWeek wsX1_withinWeek ({ frames := 1, cells := 0, slots := 0, locals := 21 } : Room) (g_P D [(cI, .int)] (tcW ad cI g) [.ref (ad 89), .int x0] sz) (g_Qi D [(cI, .int)] (va_A (tcW ad cI g) sz) (tcW ad cI g) (fX1_withinWeek_r g x0)) 0 0 (va_A (tcW ad cI g) sz) := by
  refine Met.ofW (cc := cX1_withinWeek) (maxL := 2) (ret := (some .int)) (by decide) rfl ?_
  intro p e s m args below meth c9 s₁ B hml hv
  obtain ⟨rfl, hsz, hP, hK, hD0⟩ := hv
  have hx := B.exec
  have hb := B.bytes
  have hr := B.returns
  have hts := atoms_spec (ws := wsX1_withinWeek) B.pre
  have hown : s.vm.findClass RX1 = some m.cls := findClass_of_methodNamed B.named
  have hlocks := B.notSynchronized
  subst hsz
  have hD := hD0.self (sz := s.heap.size)
  generalize hAe : va_A (tcW ad cI g) s.heap.size = A at hD ⊢
  have hA : ∀ q : Nat, s.heap.size ≤ q → A q := fun q h => by rw [← hAe]; exact Or.inr h
  have hS : va_S A s.heap s.heap [] := va_S.rf
  have hl := lv_entry ([.ref (ad 89), .int x0]) (n := 2) (Nat.le_of_ble_eq_true rfl)
  rw [lg_entry_eq]
  generalize (lg_sl ([.ref (ad 89), .int x0]) ++ List.replicate (2 - (lg_sl ([.ref (ad 89), .int x0])).length) Slot.unset).toArray = ls at hl ⊢
  have hl : lv_has ls 2 [(0, .ref (ad 89)), (1, .int x0)] := hl
  have winX1 : ∀ w ∈ u_ws RX1 TX1 4, w ∈ wsX1_withinWeek := by decide +kernel
  have winX5 : ∀ w ∈ u_ws RX5 TX5 1, w ∈ wsX1_withinWeek := by decide +kernel
  refine lv_aload_n hx hb dX1_withinWeek_0 rfl (lv_at hl 0 rfl) ?_
  refine va_get (D := D) (ci := 1) (v := .ref (ad 94)) (C := RX1) (T := TX1) (N := 4) hx hb hts winX1 hown hK hP 89 rfl rfl 2 (by decide) (hts (.fieldLink RX1 23 "TapCap$Costs" "beside" "LTapCap$Row;") (List.mem_of_getElem? (i := 1) rfl)) (fun _ h9 => h9) rfl dX1_withinWeek_1 ?_
  refine lv_iload_n hx hb dX1_withinWeek_4 rfl (lv_at hl 1 rfl) ?_
  refine lv_iconst (v := 5) hx hb dX1_withinWeek_5 (by decide) ?_
  refine lv_imul hx hb dX1_withinWeek_6 ?_
  refine lv_aload_n hx hb dX1_withinWeek_7 rfl (lv_at hl 0 rfl) ?_
  refine va_get (D := D) (ci := 1) (v := .ref (ad 92)) (C := RX1) (T := TX1) (N := 4) hx hb hts winX1 hown hK hP 89 rfl rfl 1 (by decide) (hts (.fieldLink RX1 20 "TapCap$Costs" "weekChoice" "LTapCap$Row;") (List.mem_of_getElem? (i := 2) rfl)) (fun _ h9 => h9) rfl dX1_withinWeek_8 ?_
  refine lv_iload_n hx hb dX1_withinWeek_11 rfl (lv_at hl 1 rfl) ?_
  refine lv_bipush (v := 7) hx hb dX1_withinWeek_12 (by decide) ?_
  refine lv_idiv hx hb dX1_withinWeek_14 (by decide) ?_
  refine g_ki hK hD hS hA (va_runV (As := [.int (x0 / 7)]) (rest := [.int (x0 * 5), .ref (ad 94)]) ⟨hx, hb, hml, hown, hts⟩ (k_tc_at l D ad cI g s.heap.size 42 (by decide) (x0 / 7)) (cwV 1 hts gX1_withinWeek_X5_at rfl rfl rfl (by decide +kernel) ⟨Nat.le_of_ble_eq_true rfl, Nat.le_of_ble_eq_true rfl⟩) (g_preV hK hP hD (ci := 5) (q0 := 92) rfl rfl) rfl rfl hl.1 rfl (lv_room (Nat.le_of_ble_eq_true rfl)) dX1_withinWeek_15 ⟨Nat.le_of_ble_eq_true rfl, Nat.le_of_ble_eq_true rfl⟩) (fun H locs hP hD hS => ?_)
  refine lv_iadd hx hb dX1_withinWeek_18 ?_
  refine g_ki hK hD hS hA (va_runV (As := [.int ((x0 * 5) + (gA g 42 (x0 / 7)))]) (rest := []) ⟨hx, hb, hml, hown, hts⟩ (k_tc_at l D ad cI g H.size 43 (by decide) ((x0 * 5) + (gA g 42 (x0 / 7)))) (cwV 1 hts gX1_withinWeek_X5_at rfl rfl rfl (by decide +kernel) ⟨Nat.le_of_ble_eq_true rfl, Nat.le_of_ble_eq_true rfl⟩) (g_preV hK hP hD (ci := 5) (q0 := 94) rfl rfl) rfl rfl hl.1 rfl (lv_room (Nat.le_of_ble_eq_true rfl)) dX1_withinWeek_19 ⟨Nat.le_of_ble_eq_true rfl, Nat.le_of_ble_eq_true rfl⟩) (fun H locs hP hD hS => ?_)
  exact g_iret hx hb hr rfl hlocks hK hP hD hS (eX1_withinWeek_r1 g x0 ).symm dX1_withinWeek_22
def fX1_ofWholeWeek_r (g : tG) (x0 : Int32) : Int32 :=
  fX1_upTo_r g x0 (fX1_lastDayOf_r g x0) (gA g 42 x0)
set_option maxRecDepth 20000 in
theorem eX1_ofWholeWeek_r1 (g : tG) (x0 : Int32) : fX1_ofWholeWeek_r g x0 = fX1_upTo_r g x0 (fX1_lastDayOf_r g x0) (gA g 42 x0) := by
  exact rfl
set_option maxHeartbeats 4000000 in
set_option maxRecDepth 100000 in
theorem kX1_ofWholeWeek (l : Launch) (D : va_G) (ad : Nat → Nat) (cI : ClassId) (g : tG) (sz : Nat) (x0 : Int32) : Met l yX1_ofWholeWeek wsX1_ofWholeWeek ({ frames := 2, cells := 0, slots := 0, locals := 46 } : Room) (g_P D [(cI, .int)] (tcW ad cI g) [.ref (ad 89), .int x0] sz) (g_Qi D [(cI, .int)] (va_A (tcW ad cI g) sz) (tcW ad cI g) (fX1_ofWholeWeek_r g x0)) 0 0 (va_A (tcW ad cI g) sz) := by
  refine Met.ofW (cc := cX1_ofWholeWeek) (maxL := 2) (ret := (some .int)) (by decide) rfl ?_
  intro p e s m args below meth c9 s₁ B hml hv
  obtain ⟨rfl, hsz, hP, hK, hD0⟩ := hv
  have hx := B.exec
  have hb := B.bytes
  have hr := B.returns
  have hts := atoms_spec (ws := wsX1_ofWholeWeek) B.pre
  have hown : s.vm.findClass RX1 = some m.cls := findClass_of_methodNamed B.named
  have hlocks := B.notSynchronized
  subst hsz
  have hD := hD0.self (sz := s.heap.size)
  generalize hAe : va_A (tcW ad cI g) s.heap.size = A at hD ⊢
  have hA : ∀ q : Nat, s.heap.size ≤ q → A q := fun q h => by rw [← hAe]; exact Or.inr h
  have hS : va_S A s.heap s.heap [] := va_S.rf
  have hl := lv_entry ([.ref (ad 89), .int x0]) (n := 2) (Nat.le_of_ble_eq_true rfl)
  rw [lg_entry_eq]
  generalize (lg_sl ([.ref (ad 89), .int x0]) ++ List.replicate (2 - (lg_sl ([.ref (ad 89), .int x0])).length) Slot.unset).toArray = ls at hl ⊢
  have hl : lv_has ls 2 [(0, .ref (ad 89)), (1, .int x0)] := hl
  have winX1 : ∀ w ∈ u_ws RX1 TX1 4, w ∈ wsX1_ofWholeWeek := by decide +kernel
  have winX5 : ∀ w ∈ u_ws RX5 TX5 1, w ∈ wsX1_ofWholeWeek := by decide +kernel
  refine lv_aload_n hx hb dX1_ofWholeWeek_0 rfl (lv_at hl 0 rfl) ?_
  refine lv_iload_n hx hb dX1_ofWholeWeek_1 rfl (lv_at hl 1 rfl) ?_
  refine lv_iload_n hx hb dX1_ofWholeWeek_2 rfl (lv_at hl 1 rfl) ?_
  refine g_ki hK hD hS hA (va_runS (As := [.int x0]) (rest := [.int x0, .ref (ad 89)]) ⟨hx, hb, hml, hown, hts⟩ (kX1_lastDayOf l D ad cI g s.heap.size x0) (cwS 1 hts gX1_ofWholeWeek_X1_lastDayOf rfl rfl rfl (by decide +kernel) ⟨Nat.le_of_ble_eq_true rfl, Nat.le_of_ble_eq_true rfl⟩) (g_preS hK hP hD) rfl rfl hl.1 rfl (lv_room (Nat.le_of_ble_eq_true rfl)) dX1_ofWholeWeek_3 ⟨Nat.le_of_ble_eq_true rfl, Nat.le_of_ble_eq_true rfl⟩) (fun H locs hP hD hS => ?_)
  refine lv_aload_n hx hb dX1_ofWholeWeek_6 rfl (lv_at hl 0 rfl) ?_
  refine va_get (D := D) (ci := 1) (v := .ref (ad 92)) (C := RX1) (T := TX1) (N := 4) hx hb hts winX1 hown hK hP 89 rfl rfl 1 (by decide) (hts (.fieldLink RX1 20 "TapCap$Costs" "weekChoice" "LTapCap$Row;") (List.mem_of_getElem? (i := 1) rfl)) (fun _ h9 => h9) rfl dX1_ofWholeWeek_7 ?_
  refine lv_iload_n hx hb dX1_ofWholeWeek_10 rfl (lv_at hl 1 rfl) ?_
  refine g_ki hK hD hS hA (va_runV (As := [.int x0]) (rest := [.int (fX1_lastDayOf_r g x0), .int x0, .ref (ad 89)]) ⟨hx, hb, hml, hown, hts⟩ (k_tc_at l D ad cI g H.size 42 (by decide) x0) (cwV 1 hts gX1_ofWholeWeek_X5_at rfl rfl rfl (by decide +kernel) ⟨Nat.le_of_ble_eq_true rfl, Nat.le_of_ble_eq_true rfl⟩) (g_preV hK hP hD (ci := 5) (q0 := 92) rfl rfl) rfl rfl hl.1 rfl (lv_room (Nat.le_of_ble_eq_true rfl)) dX1_ofWholeWeek_11 ⟨Nat.le_of_ble_eq_true rfl, Nat.le_of_ble_eq_true rfl⟩) (fun H locs hP hD hS => ?_)
  refine g_ki hK hD hS hA (va_runV (As := [.int x0, .int (fX1_lastDayOf_r g x0), .int (gA g 42 x0)]) (rest := []) ⟨hx, hb, hml, hown, hts⟩ (kX1_upTo l D ad cI g H.size x0 (fX1_lastDayOf_r g x0) (gA g 42 x0)) (cwV 3 hts gX1_ofWholeWeek_X1_upTo rfl rfl rfl (by decide +kernel) ⟨Nat.le_of_ble_eq_true rfl, Nat.le_of_ble_eq_true rfl⟩) (g_preV hK hP hD (ci := 1) (q0 := 89) rfl rfl) rfl rfl hl.1 rfl (lv_room (Nat.le_of_ble_eq_true rfl)) dX1_ofWholeWeek_14 ⟨Nat.le_of_ble_eq_true rfl, Nat.le_of_ble_eq_true rfl⟩) (fun H locs hP hD hS => ?_)
  exact g_iret hx hb hr rfl hlocks hK hP hD hS (eX1_ofWholeWeek_r1 g x0 ).symm dX1_ofWholeWeek_17
def fX1_ofDaysByThemselves_r (g : tG) (x0 : Int32) : Int32 :=
  fX1_upTo_r g x0 (fX1_lastDayOf_r g x0) 0
set_option maxRecDepth 20000 in
theorem eX1_ofDaysByThemselves_r1 (g : tG) (x0 : Int32) : fX1_ofDaysByThemselves_r g x0 = fX1_upTo_r g x0 (fX1_lastDayOf_r g x0) 0 := by
  exact rfl
set_option maxHeartbeats 4000000 in
set_option maxRecDepth 100000 in
theorem kX1_ofDaysByThemselves (l : Launch) (D : va_G) (ad : Nat → Nat) (cI : ClassId) (g : tG) (sz : Nat) (x0 : Int32) : Met l yX1_ofDaysByThemselves wsX1_ofDaysByThemselves ({ frames := 2, cells := 0, slots := 0, locals := 46 } : Room) (g_P D [(cI, .int)] (tcW ad cI g) [.ref (ad 89), .int x0] sz) (g_Qi D [(cI, .int)] (va_A (tcW ad cI g) sz) (tcW ad cI g) (fX1_ofDaysByThemselves_r g x0)) 0 0 (va_A (tcW ad cI g) sz) := by
  refine Met.ofW (cc := cX1_ofDaysByThemselves) (maxL := 2) (ret := (some .int)) (by decide) rfl ?_
  intro p e s m args below meth c9 s₁ B hml hv
  obtain ⟨rfl, hsz, hP, hK, hD0⟩ := hv
  have hx := B.exec
  have hb := B.bytes
  have hr := B.returns
  have hts := atoms_spec (ws := wsX1_ofDaysByThemselves) B.pre
  have hown : s.vm.findClass RX1 = some m.cls := findClass_of_methodNamed B.named
  have hlocks := B.notSynchronized
  subst hsz
  have hD := hD0.self (sz := s.heap.size)
  generalize hAe : va_A (tcW ad cI g) s.heap.size = A at hD ⊢
  have hA : ∀ q : Nat, s.heap.size ≤ q → A q := fun q h => by rw [← hAe]; exact Or.inr h
  have hS : va_S A s.heap s.heap [] := va_S.rf
  have hl := lv_entry ([.ref (ad 89), .int x0]) (n := 2) (Nat.le_of_ble_eq_true rfl)
  rw [lg_entry_eq]
  generalize (lg_sl ([.ref (ad 89), .int x0]) ++ List.replicate (2 - (lg_sl ([.ref (ad 89), .int x0])).length) Slot.unset).toArray = ls at hl ⊢
  have hl : lv_has ls 2 [(0, .ref (ad 89)), (1, .int x0)] := hl
  refine lv_aload_n hx hb dX1_ofDaysByThemselves_0 rfl (lv_at hl 0 rfl) ?_
  refine lv_iload_n hx hb dX1_ofDaysByThemselves_1 rfl (lv_at hl 1 rfl) ?_
  refine lv_iload_n hx hb dX1_ofDaysByThemselves_2 rfl (lv_at hl 1 rfl) ?_
  refine g_ki hK hD hS hA (va_runS (As := [.int x0]) (rest := [.int x0, .ref (ad 89)]) ⟨hx, hb, hml, hown, hts⟩ (kX1_lastDayOf l D ad cI g s.heap.size x0) (cwS 1 hts gX1_ofDaysByThemselves_X1_lastDayOf rfl rfl rfl (by decide +kernel) ⟨Nat.le_of_ble_eq_true rfl, Nat.le_of_ble_eq_true rfl⟩) (g_preS hK hP hD) rfl rfl hl.1 rfl (lv_room (Nat.le_of_ble_eq_true rfl)) dX1_ofDaysByThemselves_3 ⟨Nat.le_of_ble_eq_true rfl, Nat.le_of_ble_eq_true rfl⟩) (fun H locs hP hD hS => ?_)
  refine lv_iconst (v := 0) hx hb dX1_ofDaysByThemselves_6 (by decide) ?_
  refine g_ki hK hD hS hA (va_runV (As := [.int x0, .int (fX1_lastDayOf_r g x0), .int 0]) (rest := []) ⟨hx, hb, hml, hown, hts⟩ (kX1_upTo l D ad cI g H.size x0 (fX1_lastDayOf_r g x0) 0) (cwV 3 hts gX1_ofDaysByThemselves_X1_upTo rfl rfl rfl (by decide +kernel) ⟨Nat.le_of_ble_eq_true rfl, Nat.le_of_ble_eq_true rfl⟩) (g_preV hK hP hD (ci := 1) (q0 := 89) rfl rfl) rfl rfl hl.1 rfl (lv_room (Nat.le_of_ble_eq_true rfl)) dX1_ofDaysByThemselves_7 ⟨Nat.le_of_ble_eq_true rfl, Nat.le_of_ble_eq_true rfl⟩) (fun H locs hP hD hS => ?_)
  exact g_iret hx hb hr rfl hlocks hK hP hD hS (eX1_ofDaysByThemselves_r1 g x0 ).symm dX1_ofDaysByThemselves_10
def fX1_leastUpTo_r (g : tG) (x0 : Int32) (x1 : Int32) : Int32 :=
  fX1_upTo_r g x0 x1 (fX1_choiceUpTo_r g x0 x1)
set_option maxRecDepth 20000 in
theorem eX1_leastUpTo_r1 (g : tG) (x0 : Int32) (x1 : Int32) : fX1_leastUpTo_r g x0 x1 = fX1_upTo_r g x0 x1 (fX1_choiceUpTo_r g x0 x1) := by
  exact rfl
set_option maxHeartbeats 4000000 in
set_option maxRecDepth 100000 in
theorem kX1_leastUpTo (l : Launch) (D : va_G) (ad : Nat → Nat) (cI : ClassId) (g : tG) (sz : Nat) (x0 : Int32) (x1 : Int32) : Met l yX1_leastUpTo wsX1_leastUpTo ({ frames := 3, cells := 0, slots := 0, locals := 72 } : Room) (g_P D [(cI, .int)] (tcW ad cI g) [.ref (ad 89), .int x0, .int x1] sz) (g_Qi D [(cI, .int)] (va_A (tcW ad cI g) sz) (tcW ad cI g) (fX1_leastUpTo_r g x0 x1)) 0 0 (va_A (tcW ad cI g) sz) := by
  refine Met.ofW (cc := cX1_leastUpTo) (maxL := 3) (ret := (some .int)) (by decide) rfl ?_
  intro p e s m args below meth c9 s₁ B hml hv
  obtain ⟨rfl, hsz, hP, hK, hD0⟩ := hv
  have hx := B.exec
  have hb := B.bytes
  have hr := B.returns
  have hts := atoms_spec (ws := wsX1_leastUpTo) B.pre
  have hown : s.vm.findClass RX1 = some m.cls := findClass_of_methodNamed B.named
  have hlocks := B.notSynchronized
  subst hsz
  have hD := hD0.self (sz := s.heap.size)
  generalize hAe : va_A (tcW ad cI g) s.heap.size = A at hD ⊢
  have hA : ∀ q : Nat, s.heap.size ≤ q → A q := fun q h => by rw [← hAe]; exact Or.inr h
  have hS : va_S A s.heap s.heap [] := va_S.rf
  have hl := lv_entry ([.ref (ad 89), .int x0, .int x1]) (n := 3) (Nat.le_of_ble_eq_true rfl)
  rw [lg_entry_eq]
  generalize (lg_sl ([.ref (ad 89), .int x0, .int x1]) ++ List.replicate (3 - (lg_sl ([.ref (ad 89), .int x0, .int x1])).length) Slot.unset).toArray = ls at hl ⊢
  have hl : lv_has ls 3 [(0, .ref (ad 89)), (1, .int x0), (2, .int x1)] := hl
  refine lv_aload_n hx hb dX1_leastUpTo_0 rfl (lv_at hl 0 rfl) ?_
  refine lv_iload_n hx hb dX1_leastUpTo_1 rfl (lv_at hl 1 rfl) ?_
  refine lv_iload_n hx hb dX1_leastUpTo_2 rfl (lv_at hl 2 rfl) ?_
  refine lv_aload_n hx hb dX1_leastUpTo_3 rfl (lv_at hl 0 rfl) ?_
  refine lv_iload_n hx hb dX1_leastUpTo_4 rfl (lv_at hl 1 rfl) ?_
  refine lv_iload_n hx hb dX1_leastUpTo_5 rfl (lv_at hl 2 rfl) ?_
  refine g_ki hK hD hS hA (va_runV (As := [.int x0, .int x1]) (rest := [.int x1, .int x0, .ref (ad 89)]) ⟨hx, hb, hml, hown, hts⟩ (kX1_choiceUpTo l D ad cI g s.heap.size x0 x1) (cwV 2 hts gX1_leastUpTo_X1_choiceUpTo rfl rfl rfl (by decide +kernel) ⟨Nat.le_of_ble_eq_true rfl, Nat.le_of_ble_eq_true rfl⟩) (g_preV hK hP hD (ci := 1) (q0 := 89) rfl rfl) rfl rfl hl.1 rfl (lv_room (Nat.le_of_ble_eq_true rfl)) dX1_leastUpTo_6 ⟨Nat.le_of_ble_eq_true rfl, Nat.le_of_ble_eq_true rfl⟩) (fun H locs hP hD hS => ?_)
  refine g_ki hK hD hS hA (va_runV (As := [.int x0, .int x1, .int (fX1_choiceUpTo_r g x0 x1)]) (rest := []) ⟨hx, hb, hml, hown, hts⟩ (kX1_upTo l D ad cI g H.size x0 x1 (fX1_choiceUpTo_r g x0 x1)) (cwV 3 hts gX1_leastUpTo_X1_upTo rfl rfl rfl (by decide +kernel) ⟨Nat.le_of_ble_eq_true rfl, Nat.le_of_ble_eq_true rfl⟩) (g_preV hK hP hD (ci := 1) (q0 := 89) rfl rfl) rfl rfl hl.1 rfl (lv_room (Nat.le_of_ble_eq_true rfl)) dX1_leastUpTo_9 ⟨Nat.le_of_ble_eq_true rfl, Nat.le_of_ble_eq_true rfl⟩) (fun H locs hP hD hS => ?_)
  exact g_iret hx hb hr rfl hlocks hK hP hD hS (eX1_leastUpTo_r1 g x0 x1 ).symm dX1_leastUpTo_12
