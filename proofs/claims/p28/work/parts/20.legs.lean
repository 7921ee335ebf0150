def sX3_insert_15 (v1 : Int32) : (Int32 × tG) → Option (Int32 × tG) := fun σ =>
  if σ.1 ≤ 0 then
    none
  else
    if (gA σ.2 30 (σ.1 - 1)) ≤ v1 then
      none
    else
      let g2 : tG := gP σ.2 30 σ.1 (gA σ.2 30 (σ.1 - 1))
      let g3 : tG := gP g2 29 σ.1 (gA g2 29 (σ.1 - 1))
      some (σ.1 + (-1), g3)
set_option maxRecDepth 20000 in
theorem eX3_insert_15_1 (v1 : Int32) (i1 : Int32) (g1 : tG) (c1 : i1 ≤ 0) : sX3_insert_15 v1 (i1, g1) = none := by
  exact (if_pos c1).trans rfl
set_option maxRecDepth 20000 in
theorem eX3_insert_15_2 (v1 : Int32) (i1 : Int32) (g1 : tG) (c1 : ¬ (i1 ≤ 0)) (c2 : (gA g1 30 (i1 - 1)) ≤ v1) : sX3_insert_15 v1 (i1, g1) = none := by
  exact (if_neg c1).trans ((if_pos c2).trans rfl)
set_option maxRecDepth 20000 in
theorem eX3_insert_15_3 (v1 : Int32) (i1 : Int32) (g1 : tG) (c1 : ¬ (i1 ≤ 0)) (c2 : ¬ ((gA g1 30 (i1 - 1)) ≤ v1)) {g2 : tG} (hg2 : g2 = gP g1 30 i1 (gA g1 30 (i1 - 1))) {g3 : tG} (hg3 : g3 = gP g2 29 i1 (gA g2 29 (i1 - 1))) : sX3_insert_15 v1 (i1, g1) = some (i1 + (-1), g3) := by
  subst hg2
  subst hg3
  exact (if_neg c1).trans ((if_neg c2).trans rfl)
theorem fj_X3_insert_15 (v1 : Int32) (σ τ : Int32 × tG) (j : Nat) (h : j ∉ ([29, 30] : List Nat)) (e : sX3_insert_15 v1 σ = some τ) : τ.2 j = σ.2 j := by
  obtain ⟨i1, g1⟩ := σ
  by_cases c1 : i1 ≤ 0
  · have hs := eX3_insert_15_1 v1 i1 g1 c1
    rw [hs] at e
    cases e
  · by_cases c2 : (gA g1 30 (i1 - 1)) ≤ v1
    · have hs := eX3_insert_15_2 v1 i1 g1 c1 c2
      rw [hs] at e
      cases e
    · obtain ⟨g2, hg2⟩ : ∃ z : tG, z = gP g1 30 i1 (gA g1 30 (i1 - 1)) := ⟨_, rfl⟩
      obtain ⟨g3, hg3⟩ : ∃ z : tG, z = gP g2 29 i1 (gA g2 29 (i1 - 1)) := ⟨_, rfl⟩
      have qg2 : g2 j = g1 j := by rw [hg2]; exact gP_ne (fun e9 => h (by rw [e9]; decide))
      have qg3 : g3 j = g2 j := by rw [hg3]; exact gP_ne (fun e9 => h (by rw [e9]; decide))
      have hs := eX3_insert_15_3 v1 i1 g1 c1 c2 hg2 hg3
      rw [hs] at e
      have e9 := Option.some.inj e
      subst e9
      exact qg3.trans (qg2)
theorem fjX3_insert_15 (v1 : Int32) (n : Nat) (σ : Int32 × tG) (j : Nat) (h : j ∉ ([29, 30] : List Nat)) : ((lp (sX3_insert_15 v1) n σ).2) j = σ.2 j :=
  lp_inv (fun τ => τ.2 j = σ.2 j) (fun a b e9 h9 => (fj_X3_insert_15 v1 a b j h e9).trans h9) n σ rfl
theorem tX3_insert_15 (v1 : Int32) (i1z : Int32) (g1z : tG) : lpE (sX3_insert_15 v1) (nn i1z) (i1z, g1z) := by
  refine lpE_dn (fun σ => σ.1) ?_ _ _ (nn_dn _)
  intro σ τ h9
  obtain ⟨i1, g1⟩ := σ
  by_cases c1 : i1 ≤ 0
  · have hs := eX3_insert_15_1 v1 i1 g1 c1
    rw [hs] at h9
    cases h9
  · by_cases c2 : (gA g1 30 (i1 - 1)) ≤ v1
    · have hs := eX3_insert_15_2 v1 i1 g1 c1 c2
      rw [hs] at h9
      cases h9
    · obtain ⟨g2, hg2⟩ : ∃ z : tG, z = gP g1 30 i1 (gA g1 30 (i1 - 1)) := ⟨_, rfl⟩
      obtain ⟨g3, hg3⟩ : ∃ z : tG, z = gP g2 29 i1 (gA g2 29 (i1 - 1)) := ⟨_, rfl⟩
      have hs := eX3_insert_15_3 v1 i1 g1 c1 c2 hg2 hg3
      rw [hs] at h9
      have e9 := Option.some.inj h9
      subst e9
      exact ⟨not_le32 c1, rfl⟩
def fX3_insert_w (g : tG) (x0 : Int32) (x1 : Int32) (x2 : Int32) : tG :=
  let v1 : Int32 := (x1 * 1440) + x2
  let v2 : Int32 := g 45 8
  let r1 : Int32 × tG := lp (sX3_insert_15 v1) (nn v2) (v2, g)
  let g4 : tG := gP r1.2 30 r1.1 v1
  let g5 : tG := gP g4 29 r1.1 x0
  let v3 : Int32 := (g5 45 8) + 1
  let g6 : tG := tc_sc g5 8 v3
  let g7 : tG := gD g6 28 x1 1
  g7
set_option maxRecDepth 20000 in
theorem eX3_insert_w1 (g : tG) (x0 : Int32) (x1 : Int32) (x2 : Int32) {v1 : Int32} (hv1 : v1 = (x1 * 1440) + x2) {v2 : Int32} (hv2 : v2 = g 45 8) {r1 : Int32 × tG} (hr1 : r1 = lp (sX3_insert_15 v1) (nn v2) (v2, g)) {g4 : tG} (hg4 : g4 = gP r1.2 30 r1.1 v1) {g5 : tG} (hg5 : g5 = gP g4 29 r1.1 x0) {v3 : Int32} (hv3 : v3 = (g5 45 8) + 1) {g6 : tG} (hg6 : g6 = tc_sc g5 8 v3) {g7 : tG} (hg7 : g7 = gD g6 28 x1 1) : fX3_insert_w g x0 x1 x2 = g7 := by
  subst hv1
  subst hv2
  subst hr1
  subst hg4
  subst hg5
  subst hv3
  subst hg6
  subst hg7
  exact rfl
theorem fjX3_insert (g : tG) (x0 : Int32) (x1 : Int32) (x2 : Int32) (j : Nat) (h : j ∉ ([28, 29, 30, 45] : List Nat)) : fX3_insert_w g x0 x1 x2 j = g j := by
  obtain ⟨v1, hv1⟩ : ∃ z : Int32, z = (x1 * 1440) + x2 := ⟨_, rfl⟩
  obtain ⟨v2, hv2⟩ : ∃ z : Int32, z = g 45 8 := ⟨_, rfl⟩
  obtain ⟨r1, hr1⟩ : ∃ z : Int32 × tG, z = lp (sX3_insert_15 v1) (nn v2) (v2, g) := ⟨_, rfl⟩
  obtain ⟨g4, hg4⟩ : ∃ z : tG, z = gP r1.2 30 r1.1 v1 := ⟨_, rfl⟩
  obtain ⟨g5, hg5⟩ : ∃ z : tG, z = gP g4 29 r1.1 x0 := ⟨_, rfl⟩
  obtain ⟨v3, hv3⟩ : ∃ z : Int32, z = (g5 45 8) + 1 := ⟨_, rfl⟩
  obtain ⟨g6, hg6⟩ : ∃ z : tG, z = tc_sc g5 8 v3 := ⟨_, rfl⟩
  obtain ⟨g7, hg7⟩ : ∃ z : tG, z = gD g6 28 x1 1 := ⟨_, rfl⟩
  have qr1 : r1.2 j = g j := by rw [hr1]; exact fjX3_insert_15 v1 _ _ j (fun hm => h (sub9 (a := [29, 30]) (b := [28, 29, 30, 45]) (by decide) hm))
  have qg4 : g4 j = r1.2 j := by rw [hg4]; exact gP_ne (fun e9 => h (by rw [e9]; decide))
  have qg5 : g5 j = g4 j := by rw [hg5]; exact gP_ne (fun e9 => h (by rw [e9]; decide))
  have qg6 : g6 j = g5 j := by rw [hg6]; exact sc_nj (fun e9 => h (by rw [e9]; decide))
  have qg7 : g7 j = g6 j := by rw [hg7]; exact gD_ne (fun e9 => h (by rw [e9]; decide))
  have hs := eX3_insert_w1 g x0 x1 x2 hv1 hv2 hr1 hg4 hg5 hv3 hg6 hg7
  rw [hs]
  exact qg7.trans (qg6.trans (qg5.trans (qg4.trans (qr1))))
theorem fiX3_insert (g : tG) (x0 : Int32) (x1 : Int32) (x2 : Int32) (k : Nat) (h : k ∉ ([8] : List Nat)) : fX3_insert_w g x0 x1 x2 45 k = g 45 k := by
  obtain ⟨v1, hv1⟩ : ∃ z : Int32, z = (x1 * 1440) + x2 := ⟨_, rfl⟩
  obtain ⟨v2, hv2⟩ : ∃ z : Int32, z = g 45 8 := ⟨_, rfl⟩
  obtain ⟨r1, hr1⟩ : ∃ z : Int32 × tG, z = lp (sX3_insert_15 v1) (nn v2) (v2, g) := ⟨_, rfl⟩
  obtain ⟨g4, hg4⟩ : ∃ z : tG, z = gP r1.2 30 r1.1 v1 := ⟨_, rfl⟩
  obtain ⟨g5, hg5⟩ : ∃ z : tG, z = gP g4 29 r1.1 x0 := ⟨_, rfl⟩
  obtain ⟨v3, hv3⟩ : ∃ z : Int32, z = (g5 45 8) + 1 := ⟨_, rfl⟩
  obtain ⟨g6, hg6⟩ : ∃ z : tG, z = tc_sc g5 8 v3 := ⟨_, rfl⟩
  obtain ⟨g7, hg7⟩ : ∃ z : tG, z = gD g6 28 x1 1 := ⟨_, rfl⟩
  have qr1 : r1.2 45 k = g 45 k := by rw [hr1]; exact congrFun (fjX3_insert_15 v1 _ _ 45 (by decide)) k
  have qg4 : g4 45 k = r1.2 45 k := by rw [hg4]; exact congrFun (gP_ne (by decide)) k
  have qg5 : g5 45 k = g4 45 k := by rw [hg5]; exact congrFun (gP_ne (by decide)) k
  have qg6 : g6 45 k = g5 45 k := by rw [hg6]; exact sc_nk (fun e9 => h (by rw [e9]; decide))
  have qg7 : g7 45 k = g6 45 k := by rw [hg7]; exact congrFun (gD_ne (by decide)) k
  have hs := eX3_insert_w1 g x0 x1 x2 hv1 hv2 hr1 hg4 hg5 hv3 hg6 hg7
  rw [hs]
  exact qg7.trans (qg6.trans (qg5.trans (qg4.trans (qr1))))
set_option maxHeartbeats 4000000 in
set_option maxRecDepth 100000 in
theorem kX3_insert (l : Launch) (D : va_G) (ad : Nat → Nat) (cI : ClassId) (g : tG) (sz : Nat) (x0 : Int32) (x1 : Int32) (x2 : Int32) : Met l yX3_insert wsX3_insert ({ frames := 1, cells := 0, slots := 0, locals := 22 } : Room) (g_P D [(cI, .int)] (tcW ad cI g) [.ref (ad 43), .int x0, .int x1, .int x2] sz) (g_Qv D [(cI, .int)] (va_A (tcW ad cI g) sz) (tcW ad cI (fX3_insert_w g x0 x1 x2))) 0 0 (va_A (tcW ad cI g) sz) := by
  refine Met.ofW (cc := cX3_insert) (maxL := 6) (ret := none) (by decide) rfl ?_
  intro p e s m args below meth c9 s₁ B hml hv
  obtain ⟨rfl, hsz, hP, hK, hD0⟩ := hv
  have hx := B.exec
  have hb := B.bytes
  have hr := B.returns
  have hts := atoms_spec (ws := wsX3_insert) B.pre
  have hown : s.vm.findClass RX3 = some m.cls := findClass_of_methodNamed B.named
  have hlocks := B.notSynchronized
  subst hsz
  have hD := hD0.self (sz := s.heap.size)
  generalize hAe : va_A (tcW ad cI g) s.heap.size = A at hD ⊢
  have hA : ∀ q : Nat, s.heap.size ≤ q → A q := fun q h => by rw [← hAe]; exact Or.inr h
  have hS : va_S A s.heap s.heap [] := va_S.rf
  have hl := lv_entry ([.ref (ad 43), .int x0, .int x1, .int x2]) (n := 6) (Nat.le_of_ble_eq_true rfl)
  rw [lg_entry_eq]
  generalize (lg_sl ([.ref (ad 43), .int x0, .int x1, .int x2]) ++ List.replicate (6 - (lg_sl ([.ref (ad 43), .int x0, .int x1, .int x2])).length) Slot.unset).toArray = ls at hl ⊢
  have hl : lv_has ls 6 [(0, .ref (ad 43)), (1, .int x0), (2, .int x1), (3, .int x2)] := hl
  have winX3 : ∀ w ∈ u_ws RX3 TX3 15, w ∈ wsX3_insert := by decide +kernel
  have winX5 : ∀ w ∈ u_ws RX5 TX5 1, w ∈ wsX3_insert := by decide +kernel
  refine lv_iload_n hx hb dX3_insert_0 rfl (lv_at hl 2 rfl) ?_
  refine lv_sipush (v := 1440) hx hb dX3_insert_1 (by decide) ?_
  refine lv_imul hx hb dX3_insert_4 ?_
  refine lv_iload_n hx hb dX3_insert_5 rfl (lv_at hl 3 rfl) ?_
  refine lv_iadd hx hb dX3_insert_6 ?_
  refine lv_topi (fun v1 hv1 => ?_)
  refine lv_istore (lv' := [(4, .int v1), (0, .ref (ad 43)), (1, .int x0), (2, .int x1), (3, .int x2)]) hx hb dX3_insert_7 hl (by decide) rfl (fun ls hl => ?_)
  refine lv_aload_n hx hb dX3_insert_9 rfl (lv_at hl 1 rfl) ?_
  refine va_get (D := D) (ci := 3) (v := .int (g 45 8)) (C := RX3) (T := TX3) (N := 15) hx hb hts winX3 hown hK hP 43 rfl rfl 14 (by decide) (hts (.fieldLink RX3 60 "TapCap$Legs" "ordered" "I") (List.mem_of_getElem? (i := 1) rfl)) (fun _ h9 => h9) rfl dX3_insert_10 ?_
  refine lv_topi (fun v2 hv2 => ?_)
  refine lv_istore (lv' := [(5, .int v2), (4, .int v1), (0, .ref (ad 43)), (1, .int x0), (2, .int x1), (3, .int x2)]) hx hb dX3_insert_13 hl (by decide) rfl (fun ls hl => ?_)
  have hl : lv_has ls 6 [(5, .int v2), (4, .int v1), (0, .ref (ad 43)), (1, .int x0), (2, .int x1)] := lv_sub hl [0, 1, 2, 3, 4] rfl
  have loop15 : ∀ (n : Nat)  (i1 : Int32) (g1 : tG), lpE (sX3_insert_15 v1) n (i1, g1) → ∀ (H : Heap) (locs : List Loc), va_P D vwCl (tcW ad cI g1) H → va_D A (tcW ad cI g1) → va_S A s.heap H locs → ∀ (ls : Array Slot), lv_has ls 6 [(5, .int i1), (4, .int v1), (0, .ref (ad 43)), (1, .int x0), (2, .int x1)] → (∀ r : Int32 × tG, r = lp (sX3_insert_15 v1) n (i1, g1) → ∀ (H : Heap) (locs : List Loc), va_P D vwCl (tcW ad cI r.2) H → va_D A (tcW ad cI r.2) → va_S A s.heap H locs → ∀ (ls : Array Slot), lv_has ls 6 [(5, .int r.1), (4, .int v1), (0, .ref (ad 43)), (1, .int x0), (2, .int x1)] → W p l e (headSpec wsX3_insert ({ frames := 1, cells := 0, slots := 0, locals := 22 } : Room)).room s m ([.ref (ad 43), .int x0, .int x1, .int x2] : List Value).toArray below meth c9 H locs 0 0 (MQ below (g_Qv D [(cI, .int)] A (tcW ad cI (fX3_insert_w g x0 x1 x2))) ([.ref (ad 43), .int x0, .int x1, .int x2] : List Value).toArray s 0 0 A) (F0 m 82 ls [])) → W p l e (headSpec wsX3_insert ({ frames := 1, cells := 0, slots := 0, locals := 22 } : Room)).room s m ([.ref (ad 43), .int x0, .int x1, .int x2] : List Value).toArray below meth c9 H locs 0 0 (MQ below (g_Qv D [(cI, .int)] A (tcW ad cI (fX3_insert_w g x0 x1 x2))) ([.ref (ad 43), .int x0, .int x1, .int x2] : List Value).toArray s 0 0 A) (F0 m 15 ls []) := by
    refine lp_ind ?_
    intro n ih i1 g1 hE H locs hP hD hS ls hl kk
    refine lv_iload hx hb dX3_insert_15 (lv_at hl 0 rfl) ?_
    refine lv_if_le (tgt := 82) hx hb dX3_insert_17 (by decide) (fun c1 => ?_) (fun c1 => ?_)
    · have hs := eX3_insert_15_1 v1 i1 g1 c1
      exact kk _ (lp_none hs).symm H locs hP hD hS ls (lv_sub hl [0, 1, 2, 3, 4] rfl)
    · refine lv_aload_n hx hb dX3_insert_20 rfl (lv_at hl 2 rfl) ?_
      refine va_get (D := D) (ci := 3) (v := .ref (ad 66)) (C := RX3) (T := TX3) (N := 15) hx hb hts winX3 hown hK hP 43 rfl rfl 12 (by decide) (hts (.fieldLink RX3 54 "TapCap$Legs" "moments" "LTapCap$Row;") (List.mem_of_getElem? (i := 2) rfl)) (fun _ h9 => h9) rfl dX3_insert_21 ?_
      refine lv_iload hx hb dX3_insert_24 (lv_at hl 0 rfl) ?_
      refine lv_iconst (v := 1) hx hb dX3_insert_26 (by decide) ?_
      refine lv_isub hx hb dX3_insert_27 ?_
      refine g_ki hK hD hS hA (va_runV (As := [.int (i1 - 1)]) (rest := []) ⟨hx, hb, hml, hown, hts⟩ (k_tc_at l D ad cI g1 H.size 30 (by decide) (i1 - 1)) (cwV 1 hts gX3_insert_X5_at rfl rfl rfl (by decide +kernel) ⟨Nat.le_of_ble_eq_true rfl, Nat.le_of_ble_eq_true rfl⟩) (g_preV hK hP hD (ci := 5) (q0 := 66) rfl rfl) rfl rfl hl.1 rfl (lv_room (Nat.le_of_ble_eq_true rfl)) dX3_insert_28 ⟨Nat.le_of_ble_eq_true rfl, Nat.le_of_ble_eq_true rfl⟩) (fun H locs hP hD hS => ?_)
      refine lv_iload hx hb dX3_insert_31 (lv_at hl 1 rfl) ?_
      refine lv_icmp_le (tgt := 82) hx hb dX3_insert_33 (by decide) (fun c2 => ?_) (fun c2 => ?_)
      · have hs := eX3_insert_15_2 v1 i1 g1 c1 c2
        exact kk _ (lp_none hs).symm H locs hP hD hS ls (lv_sub hl [0, 1, 2, 3, 4] rfl)
      · refine lv_aload_n hx hb dX3_insert_36 rfl (lv_at hl 2 rfl) ?_
        refine va_get (D := D) (ci := 3) (v := .ref (ad 66)) (C := RX3) (T := TX3) (N := 15) hx hb hts winX3 hown hK hP 43 rfl rfl 12 (by decide) (hts (.fieldLink RX3 54 "TapCap$Legs" "moments" "LTapCap$Row;") (List.mem_of_getElem? (i := 2) rfl)) (fun _ h9 => h9) rfl dX3_insert_37 ?_
        refine lv_iload hx hb dX3_insert_40 (lv_at hl 0 rfl) ?_
        refine lv_aload_n hx hb dX3_insert_42 rfl (lv_at hl 2 rfl) ?_
        refine va_get (D := D) (ci := 3) (v := .ref (ad 66)) (C := RX3) (T := TX3) (N := 15) hx hb hts winX3 hown hK hP 43 rfl rfl 12 (by decide) (hts (.fieldLink RX3 54 "TapCap$Legs" "moments" "LTapCap$Row;") (List.mem_of_getElem? (i := 2) rfl)) (fun _ h9 => h9) rfl dX3_insert_43 ?_
        refine lv_iload hx hb dX3_insert_46 (lv_at hl 0 rfl) ?_
        refine lv_iconst (v := 1) hx hb dX3_insert_48 (by decide) ?_
        refine lv_isub hx hb dX3_insert_49 ?_
        refine g_ki hK hD hS hA (va_runV (As := [.int (i1 - 1)]) (rest := [.int i1, .ref (ad 66)]) ⟨hx, hb, hml, hown, hts⟩ (k_tc_at l D ad cI g1 H.size 30 (by decide) (i1 - 1)) (cwV 1 hts gX3_insert_X5_at rfl rfl rfl (by decide +kernel) ⟨Nat.le_of_ble_eq_true rfl, Nat.le_of_ble_eq_true rfl⟩) (g_preV hK hP hD (ci := 5) (q0 := 66) rfl rfl) rfl rfl hl.1 rfl (lv_room (Nat.le_of_ble_eq_true rfl)) dX3_insert_50 ⟨Nat.le_of_ble_eq_true rfl, Nat.le_of_ble_eq_true rfl⟩) (fun H locs hP hD hS => ?_)
        refine g_kv hK hD hS hA (va_runV (As := [.int i1, .int (gA g1 30 (i1 - 1))]) (rest := []) ⟨hx, hb, hml, hown, hts⟩ (k_tc_put l D ad cI g1 H.size 30 (by decide) i1 (gA g1 30 (i1 - 1))) (cwV 2 hts gX3_insert_X5_put rfl rfl rfl (by decide +kernel) ⟨Nat.le_of_ble_eq_true rfl, Nat.le_of_ble_eq_true rfl⟩) (g_preV hK hP hD (ci := 5) (q0 := 66) rfl rfl) rfl rfl hl.1 rfl (lv_room (Nat.le_of_ble_eq_true rfl)) dX3_insert_53 ⟨Nat.le_of_ble_eq_true rfl, Nat.le_of_ble_eq_true rfl⟩) (fun H locs hP hD hS => ?_)
        obtain ⟨g2, hg2⟩ : ∃ z : tG, z = gP g1 30 i1 (gA g1 30 (i1 - 1)) := ⟨_, rfl⟩
        rw [← hg2] at hP hD
        refine lv_aload_n hx hb dX3_insert_56 rfl (lv_at hl 2 rfl) ?_
        refine va_get (D := D) (ci := 3) (v := .ref (ad 64)) (C := RX3) (T := TX3) (N := 15) hx hb hts winX3 hown hK hP 43 rfl rfl 11 (by decide) (hts (.fieldLink RX3 51 "TapCap$Legs" "order" "LTapCap$Row;") (List.mem_of_getElem? (i := 3) rfl)) (fun _ h9 => h9) rfl dX3_insert_57 ?_
        refine lv_iload hx hb dX3_insert_60 (lv_at hl 0 rfl) ?_
        refine lv_aload_n hx hb dX3_insert_62 rfl (lv_at hl 2 rfl) ?_
        refine va_get (D := D) (ci := 3) (v := .ref (ad 64)) (C := RX3) (T := TX3) (N := 15) hx hb hts winX3 hown hK hP 43 rfl rfl 11 (by decide) (hts (.fieldLink RX3 51 "TapCap$Legs" "order" "LTapCap$Row;") (List.mem_of_getElem? (i := 3) rfl)) (fun _ h9 => h9) rfl dX3_insert_63 ?_
        refine lv_iload hx hb dX3_insert_66 (lv_at hl 0 rfl) ?_
        refine lv_iconst (v := 1) hx hb dX3_insert_68 (by decide) ?_
        refine lv_isub hx hb dX3_insert_69 ?_
        refine g_ki hK hD hS hA (va_runV (As := [.int (i1 - 1)]) (rest := [.int i1, .ref (ad 64)]) ⟨hx, hb, hml, hown, hts⟩ (k_tc_at l D ad cI g2 H.size 29 (by decide) (i1 - 1)) (cwV 1 hts gX3_insert_X5_at rfl rfl rfl (by decide +kernel) ⟨Nat.le_of_ble_eq_true rfl, Nat.le_of_ble_eq_true rfl⟩) (g_preV hK hP hD (ci := 5) (q0 := 64) rfl rfl) rfl rfl hl.1 rfl (lv_room (Nat.le_of_ble_eq_true rfl)) dX3_insert_70 ⟨Nat.le_of_ble_eq_true rfl, Nat.le_of_ble_eq_true rfl⟩) (fun H locs hP hD hS => ?_)
        refine g_kv hK hD hS hA (va_runV (As := [.int i1, .int (gA g2 29 (i1 - 1))]) (rest := []) ⟨hx, hb, hml, hown, hts⟩ (k_tc_put l D ad cI g2 H.size 29 (by decide) i1 (gA g2 29 (i1 - 1))) (cwV 2 hts gX3_insert_X5_put rfl rfl rfl (by decide +kernel) ⟨Nat.le_of_ble_eq_true rfl, Nat.le_of_ble_eq_true rfl⟩) (g_preV hK hP hD (ci := 5) (q0 := 64) rfl rfl) rfl rfl hl.1 rfl (lv_room (Nat.le_of_ble_eq_true rfl)) dX3_insert_73 ⟨Nat.le_of_ble_eq_true rfl, Nat.le_of_ble_eq_true rfl⟩) (fun H locs hP hD hS => ?_)
        obtain ⟨g3, hg3⟩ : ∃ z : tG, z = gP g2 29 i1 (gA g2 29 (i1 - 1)) := ⟨_, rfl⟩
        rw [← hg3] at hP hD
        refine lv_iinc (v := i1 + (-1)) (lv' := [(5, .int (i1 + (-1))), (4, .int v1), (0, .ref (ad 43)), (1, .int x0), (2, .int x1)]) hx hb dX3_insert_76 hl (k := 0) rfl rfl (by decide) rfl (fun ls hl => ?_)
        refine lv_goto (tgt := 15) hx hb dX3_insert_79 (by decide) ?_
        have hs := eX3_insert_15_3 v1 i1 g1 c1 c2 hg2 hg3
        obtain ⟨n9, hn9, hE9, hr9⟩ := lpE_next hE hs
        exact ih n9 (by omega) (i1 + (-1)) g3 hE9 H locs hP hD hS ls (lv_sub hl [0, 1, 2, 3, 4] rfl) (fun r hr => kk r (hr.trans hr9.symm))
  refine loop15 (nn v2) v2 g (tX3_insert_15 v1 v2 g) _ _ hP hD hS ls hl (fun r1 hr1 H locs hP hD hS ls hl => ?_)
  refine lv_aload_n hx hb dX3_insert_82 rfl (lv_at hl 2 rfl) ?_
  refine va_get (D := D) (ci := 3) (v := .ref (ad 66)) (C := RX3) (T := TX3) (N := 15) hx hb hts winX3 hown hK hP 43 rfl rfl 12 (by decide) (hts (.fieldLink RX3 54 "TapCap$Legs" "moments" "LTapCap$Row;") (List.mem_of_getElem? (i := 2) rfl)) (fun _ h9 => h9) rfl dX3_insert_83 ?_
  refine lv_iload hx hb dX3_insert_86 (lv_at hl 0 rfl) ?_
  refine lv_iload hx hb dX3_insert_88 (lv_at hl 1 rfl) ?_
  refine g_kv hK hD hS hA (va_runV (As := [.int r1.1, .int v1]) (rest := []) ⟨hx, hb, hml, hown, hts⟩ (k_tc_put l D ad cI r1.2 H.size 30 (by decide) r1.1 v1) (cwV 2 hts gX3_insert_X5_put rfl rfl rfl (by decide +kernel) ⟨Nat.le_of_ble_eq_true rfl, Nat.le_of_ble_eq_true rfl⟩) (g_preV hK hP hD (ci := 5) (q0 := 66) rfl rfl) rfl rfl hl.1 rfl (lv_room (Nat.le_of_ble_eq_true rfl)) dX3_insert_90 ⟨Nat.le_of_ble_eq_true rfl, Nat.le_of_ble_eq_true rfl⟩) (fun H locs hP hD hS => ?_)
  obtain ⟨g4, hg4⟩ : ∃ z : tG, z = gP r1.2 30 r1.1 v1 := ⟨_, rfl⟩
  rw [← hg4] at hP hD
  refine lv_aload_n hx hb dX3_insert_93 rfl (lv_at hl 2 rfl) ?_
  refine va_get (D := D) (ci := 3) (v := .ref (ad 64)) (C := RX3) (T := TX3) (N := 15) hx hb hts winX3 hown hK hP 43 rfl rfl 11 (by decide) (hts (.fieldLink RX3 51 "TapCap$Legs" "order" "LTapCap$Row;") (List.mem_of_getElem? (i := 3) rfl)) (fun _ h9 => h9) rfl dX3_insert_94 ?_
  refine lv_iload hx hb dX3_insert_97 (lv_at hl 0 rfl) ?_
  refine lv_iload_n hx hb dX3_insert_99 rfl (lv_at hl 3 rfl) ?_
  refine g_kv hK hD hS hA (va_runV (As := [.int r1.1, .int x0]) (rest := []) ⟨hx, hb, hml, hown, hts⟩ (k_tc_put l D ad cI g4 H.size 29 (by decide) r1.1 x0) (cwV 2 hts gX3_insert_X5_put rfl rfl rfl (by decide +kernel) ⟨Nat.le_of_ble_eq_true rfl, Nat.le_of_ble_eq_true rfl⟩) (g_preV hK hP hD (ci := 5) (q0 := 64) rfl rfl) rfl rfl hl.1 rfl (lv_room (Nat.le_of_ble_eq_true rfl)) dX3_insert_100 ⟨Nat.le_of_ble_eq_true rfl, Nat.le_of_ble_eq_true rfl⟩) (fun H locs hP hD hS => ?_)
  obtain ⟨g5, hg5⟩ : ∃ z : tG, z = gP g4 29 r1.1 x0 := ⟨_, rfl⟩
  rw [← hg5] at hP hD
  refine lv_aload_n hx hb dX3_insert_103 rfl (lv_at hl 2 rfl) ?_
  refine lv_dup hx hb dX3_insert_104 rfl ?_
  refine va_get (D := D) (ci := 3) (v := .int (g5 45 8)) (C := RX3) (T := TX3) (N := 15) hx hb hts winX3 hown hK hP 43 rfl rfl 14 (by decide) (hts (.fieldLink RX3 60 "TapCap$Legs" "ordered" "I") (List.mem_of_getElem? (i := 1) rfl)) (fun _ h9 => h9) rfl dX3_insert_105 ?_
  refine lv_iconst (v := 1) hx hb dX3_insert_108 (by decide) ?_
  refine lv_iadd hx hb dX3_insert_109 ?_
  refine lv_topi (fun v3 hv3 => ?_)
  refine va_put (D := D) (ci := 3) (v := .int v3) (ty := .int) (C := RX3) (T := TX3) (N := 15) hx hb hts winX3 tyX3 tyX3_ok nmX3 hown hK hP hD hS 43 rfl rfl 14 (by decide) (hts (.fieldLink RX3 60 "TapCap$Legs" "ordered" "I") (List.mem_of_getElem? (i := 1) rfl)) (fun _ h9 => h9) rfl (by decide +kernel) rfl rfl (Nat.le_of_ble_eq_true rfl) dX3_insert_110 (fun H locs hP hD hS => ?_)
  have hP := tc_sP_8 hP
  have hD := tc_sD_8 hD
  obtain ⟨g6, hg6⟩ : ∃ z : tG, z = tc_sc g5 8 v3 := ⟨_, rfl⟩
  rw [← hg6] at hP hD
  refine lv_aload_n hx hb dX3_insert_113 rfl (lv_at hl 2 rfl) ?_
  refine va_get (D := D) (ci := 3) (v := .ref (ad 62)) (C := RX3) (T := TX3) (N := 15) hx hb hts winX3 hown hK hP 43 rfl rfl 9 (by decide) (hts (.fieldLink RX3 44 "TapCap$Legs" "tapsOn" "LTapCap$Row;") (List.mem_of_getElem? (i := 4) rfl)) (fun _ h9 => h9) rfl dX3_insert_114 ?_
  refine lv_iload_n hx hb dX3_insert_117 rfl (lv_at hl 4 rfl) ?_
  refine lv_iconst (v := 1) hx hb dX3_insert_118 (by decide) ?_
  refine g_kv hK hD hS hA (va_runV (As := [.int x1, .int 1]) (rest := []) ⟨hx, hb, hml, hown, hts⟩ (k_tc_add l D ad cI g6 H.size 28 (by decide) x1 1) (cwV 2 hts gX3_insert_X5_add rfl rfl rfl (by decide +kernel) ⟨Nat.le_of_ble_eq_true rfl, Nat.le_of_ble_eq_true rfl⟩) (g_preV hK hP hD (ci := 5) (q0 := 62) rfl rfl) rfl rfl hl.1 rfl (lv_room (Nat.le_of_ble_eq_true rfl)) dX3_insert_119 ⟨Nat.le_of_ble_eq_true rfl, Nat.le_of_ble_eq_true rfl⟩) (fun H locs hP hD hS => ?_)
  obtain ⟨g7, hg7⟩ : ∃ z : tG, z = gD g6 28 x1 1 := ⟨_, rfl⟩
  rw [← hg7] at hP hD
  have hw := eX3_insert_w1 g x0 x1 x2 hv1 hv2 hr1 hg4 hg5 hv3 hg6 hg7
  have hP := w_P9 hw hP
  have hD := w_D9 hw hD
  exact g_vret hx hb hr hlocks hK hP hD hS dX3_insert_122
def fX3_isOpenOn_r (g : tG) (x0 : Int32) : Int32 :=
  if (gA g 27 x0) ≤ 0 then
    0
  else
    if (gA g 25 ((g 45 7) - 1)) = 2 then
      1
    else
      0
set_option maxRecDepth 20000 in
theorem eX3_isOpenOn_r1 (g : tG) (x0 : Int32) (c1 : (gA g 27 x0) ≤ 0) : fX3_isOpenOn_r g x0 = 0 := by
  exact (if_pos c1).trans rfl
set_option maxRecDepth 20000 in
theorem eX3_isOpenOn_r2 (g : tG) (x0 : Int32) (c1 : ¬ ((gA g 27 x0) ≤ 0)) (c2 : ¬ ((gA g 25 ((g 45 7) - 1)) = 2)) : fX3_isOpenOn_r g x0 = 0 := by
  exact (if_neg c1).trans ((if_neg c2).trans rfl)
set_option maxRecDepth 20000 in
theorem eX3_isOpenOn_r3 (g : tG) (x0 : Int32) (c1 : ¬ ((gA g 27 x0) ≤ 0)) (c2 : (gA g 25 ((g 45 7) - 1)) = 2) : fX3_isOpenOn_r g x0 = 1 := by
  exact (if_neg c1).trans ((if_pos c2).trans rfl)
set_option maxHeartbeats 4000000 in
set_option maxRecDepth 100000 in
theorem kX3_isOpenOn (l : Launch) (D : va_G) (ad : Nat → Nat) (cI : ClassId) (g : tG) (sz : Nat) (x0 : Int32) : Met l yX3_isOpenOn wsX3_isOpenOn ({ frames := 1, cells := 0, slots := 0, locals := 21 } : Room) (g_P D [(cI, .int)] (tcW ad cI g) [.ref (ad 43), .int x0] sz) (g_Qi D [(cI, .int)] (va_A (tcW ad cI g) sz) (tcW ad cI g) (fX3_isOpenOn_r g x0)) 0 0 (va_A (tcW ad cI g) sz) := by
  refine Met.ofW (cc := cX3_isOpenOn) (maxL := 2) (ret := (some .boolean)) (by decide) rfl ?_
  intro p e s m args below meth c9 s₁ B hml hv
  obtain ⟨rfl, hsz, hP, hK, hD0⟩ := hv
  have hx := B.exec
  have hb := B.bytes
  have hr := B.returns
  have hts := atoms_spec (ws := wsX3_isOpenOn) B.pre
  have hown : s.vm.findClass RX3 = some m.cls := findClass_of_methodNamed B.named
  have hlocks := B.notSynchronized
  subst hsz
  have hD := hD0.self (sz := s.heap.size)
  generalize hAe : va_A (tcW ad cI g) s.heap.size = A at hD ⊢
  have hA : ∀ q : Nat, s.heap.size ≤ q → A q := fun q h => by rw [← hAe]; exact Or.inr h
  have hS : va_S A s.heap s.heap [] := va_S.rf
  have hl := lv_entry ([.ref (ad 43), .int x0]) (n := 2) (Nat.le_of_ble_eq_true rfl)
  rw [lg_entry_eq]
  generalize (lg_sl ([.ref (ad 43), .int x0]) ++ List.replicate (2 - (lg_sl ([.ref (ad 43), .int x0])).length) Slot.unset).toArray = ls at hl ⊢
  have hl : lv_has ls 2 [(0, .ref (ad 43)), (1, .int x0)] := hl
  have winX3 : ∀ w ∈ u_ws RX3 TX3 15, w ∈ wsX3_isOpenOn := by decide +kernel
  have winX5 : ∀ w ∈ u_ws RX5 TX5 1, w ∈ wsX3_isOpenOn := by decide +kernel
  refine lv_aload_n hx hb dX3_isOpenOn_0 rfl (lv_at hl 0 rfl) ?_
  refine va_get (D := D) (ci := 3) (v := .ref (ad 60)) (C := RX3) (T := TX3) (N := 15) hx hb hts winX3 hown hK hP 43 rfl rfl 8 (by decide) (hts (.fieldLink RX3 41 "TapCap$Legs" "countOn" "LTapCap$Row;") (List.mem_of_getElem? (i := 1) rfl)) (fun _ h9 => h9) rfl dX3_isOpenOn_1 ?_
  refine lv_iload_n hx hb dX3_isOpenOn_4 rfl (lv_at hl 1 rfl) ?_
  refine g_ki hK hD hS hA (va_runV (As := [.int x0]) (rest := []) ⟨hx, hb, hml, hown, hts⟩ (k_tc_at l D ad cI g s.heap.size 27 (by decide) x0) (cwV 1 hts gX3_isOpenOn_X5_at rfl rfl rfl (by decide +kernel) ⟨Nat.le_of_ble_eq_true rfl, Nat.le_of_ble_eq_true rfl⟩) (g_preV hK hP hD (ci := 5) (q0 := 60) rfl rfl) rfl rfl hl.1 rfl (lv_room (Nat.le_of_ble_eq_true rfl)) dX3_isOpenOn_5 ⟨Nat.le_of_ble_eq_true rfl, Nat.le_of_ble_eq_true rfl⟩) (fun H locs hP hD hS => ?_)
  refine lv_if_le (tgt := 32) hx hb dX3_isOpenOn_8 (by decide) (fun c1 => ?_) (fun c1 => ?_)
  · refine lv_iconst (v := 0) hx hb dX3_isOpenOn_32 (by decide) ?_
    exact g_iret hx hb hr narrow_z0 hlocks hK hP hD hS (eX3_isOpenOn_r1 g x0 c1).symm dX3_isOpenOn_33
  · refine lv_aload_n hx hb dX3_isOpenOn_11 rfl (lv_at hl 0 rfl) ?_
    refine va_get (D := D) (ci := 3) (v := .ref (ad 56)) (C := RX3) (T := TX3) (N := 15) hx hb hts winX3 hown hK hP 43 rfl rfl 6 (by decide) (hts (.fieldLink RX3 35 "TapCap$Legs" "guessed" "LTapCap$Row;") (List.mem_of_getElem? (i := 2) rfl)) (fun _ h9 => h9) rfl dX3_isOpenOn_12 ?_
    refine lv_aload_n hx hb dX3_isOpenOn_15 rfl (lv_at hl 0 rfl) ?_
    refine va_get (D := D) (ci := 3) (v := .int (g 45 7)) (C := RX3) (T := TX3) (N := 15) hx hb hts winX3 hown hK hP 43 rfl rfl 10 (by decide) (hts (.fieldLink RX3 47 "TapCap$Legs" "count" "I") (List.mem_of_getElem? (i := 3) rfl)) (fun _ h9 => h9) rfl dX3_isOpenOn_16 ?_
    refine lv_iconst (v := 1) hx hb dX3_isOpenOn_19 (by decide) ?_
    refine lv_isub hx hb dX3_isOpenOn_20 ?_
    refine g_ki hK hD hS hA (va_runV (As := [.int ((g 45 7) - 1)]) (rest := []) ⟨hx, hb, hml, hown, hts⟩ (k_tc_at l D ad cI g H.size 25 (by decide) ((g 45 7) - 1)) (cwV 1 hts gX3_isOpenOn_X5_at rfl rfl rfl (by decide +kernel) ⟨Nat.le_of_ble_eq_true rfl, Nat.le_of_ble_eq_true rfl⟩) (g_preV hK hP hD (ci := 5) (q0 := 56) rfl rfl) rfl rfl hl.1 rfl (lv_room (Nat.le_of_ble_eq_true rfl)) dX3_isOpenOn_21 ⟨Nat.le_of_ble_eq_true rfl, Nat.le_of_ble_eq_true rfl⟩) (fun H locs hP hD hS => ?_)
    refine lv_iconst (v := 2) hx hb dX3_isOpenOn_24 (by decide) ?_
    refine lv_icmp_ne (tgt := 32) hx hb dX3_isOpenOn_25 (by decide) (fun c2 => ?_) (fun c2 => ?_)
    · refine lv_iconst (v := 0) hx hb dX3_isOpenOn_32 (by decide) ?_
      exact g_iret hx hb hr narrow_z0 hlocks hK hP hD hS (eX3_isOpenOn_r2 g x0 c1 c2).symm dX3_isOpenOn_33
    · refine lv_iconst (v := 1) hx hb dX3_isOpenOn_28 (by decide) ?_
      refine lv_goto (tgt := 33) hx hb dX3_isOpenOn_29 (by decide) ?_
      exact g_iret hx hb hr narrow_z1 hlocks hK hP hD hS (eX3_isOpenOn_r3 g x0 c1 c2).symm dX3_isOpenOn_33
def fX3_add_w (g : tG) (x0 : Int32) (x1 : Int32) (x2 : Int32) (x3 : Int32) (x4 : Int32) : tG :=
  let g1 : tG := gP g 19 (g 45 7) x0
  let g2 : tG := gP g1 20 (g1 45 7) x1
  let g3 : tG := gP g2 21 (g2 45 7) x1
  let g4 : tG := gP g3 22 (g3 45 7) x2
  let g5 : tG := gP g4 23 (g4 45 7) x2
  let g6 : tG := gP g5 24 (g5 45 7) x3
  let g7 : tG := gP g6 25 (g6 45 7) x4
  if (gA g7 27 x0) = 0 then
    let g10 : tG := gP g7 26 x0 (g7 45 7)
    let g11 : tG := gD g10 27 x0 1
    let v2 : Int32 := (g11 45 7) + 1
    let g12 : tG := tc_sc g11 7 v2
    g12
  else
    let g8 : tG := gD g7 27 x0 1
    let v1 : Int32 := (g8 45 7) + 1
    let g9 : tG := tc_sc g8 7 v1
    g9
set_option maxRecDepth 20000 in
theorem eX3_add_w1 (g : tG) (x0 : Int32) (x1 : Int32) (x2 : Int32) (x3 : Int32) (x4 : Int32) {g1 : tG} (hg1 : g1 = gP g 19 (g 45 7) x0) {g2 : tG} (hg2 : g2 = gP g1 20 (g1 45 7) x1) {g3 : tG} (hg3 : g3 = gP g2 21 (g2 45 7) x1) {g4 : tG} (hg4 : g4 = gP g3 22 (g3 45 7) x2) {g5 : tG} (hg5 : g5 = gP g4 23 (g4 45 7) x2) {g6 : tG} (hg6 : g6 = gP g5 24 (g5 45 7) x3) {g7 : tG} (hg7 : g7 = gP g6 25 (g6 45 7) x4) (c1 : ¬ ((gA g7 27 x0) = 0)) {g8 : tG} (hg8 : g8 = gD g7 27 x0 1) {v1 : Int32} (hv1 : v1 = (g8 45 7) + 1) {g9 : tG} (hg9 : g9 = tc_sc g8 7 v1) : fX3_add_w g x0 x1 x2 x3 x4 = g9 := by
  subst hg1
  subst hg2
  subst hg3
  subst hg4
  subst hg5
  subst hg6
  subst hg7
  subst hg8
  subst hv1
  subst hg9
  exact (if_neg c1).trans rfl
set_option maxRecDepth 20000 in
theorem eX3_add_w2 (g : tG) (x0 : Int32) (x1 : Int32) (x2 : Int32) (x3 : Int32) (x4 : Int32) {g1 : tG} (hg1 : g1 = gP g 19 (g 45 7) x0) {g2 : tG} (hg2 : g2 = gP g1 20 (g1 45 7) x1) {g3 : tG} (hg3 : g3 = gP g2 21 (g2 45 7) x1) {g4 : tG} (hg4 : g4 = gP g3 22 (g3 45 7) x2) {g5 : tG} (hg5 : g5 = gP g4 23 (g4 45 7) x2) {g6 : tG} (hg6 : g6 = gP g5 24 (g5 45 7) x3) {g7 : tG} (hg7 : g7 = gP g6 25 (g6 45 7) x4) (c1 : (gA g7 27 x0) = 0) {g10 : tG} (hg10 : g10 = gP g7 26 x0 (g7 45 7)) {g11 : tG} (hg11 : g11 = gD g10 27 x0 1) {v2 : Int32} (hv2 : v2 = (g11 45 7) + 1) {g12 : tG} (hg12 : g12 = tc_sc g11 7 v2) : fX3_add_w g x0 x1 x2 x3 x4 = g12 := by
  subst hg1
  subst hg2
  subst hg3
  subst hg4
  subst hg5
  subst hg6
  subst hg7
  subst hg10
  subst hg11
  subst hv2
  subst hg12
  exact (if_pos c1).trans rfl
theorem fjX3_add (g : tG) (x0 : Int32) (x1 : Int32) (x2 : Int32) (x3 : Int32) (x4 : Int32) (j : Nat) (h : j ∉ ([19, 20, 21, 22, 23, 24, 25, 26, 27, 45] : List Nat)) : fX3_add_w g x0 x1 x2 x3 x4 j = g j := by
  obtain ⟨g1, hg1⟩ : ∃ z : tG, z = gP g 19 (g 45 7) x0 := ⟨_, rfl⟩
  obtain ⟨g2, hg2⟩ : ∃ z : tG, z = gP g1 20 (g1 45 7) x1 := ⟨_, rfl⟩
  obtain ⟨g3, hg3⟩ : ∃ z : tG, z = gP g2 21 (g2 45 7) x1 := ⟨_, rfl⟩
  obtain ⟨g4, hg4⟩ : ∃ z : tG, z = gP g3 22 (g3 45 7) x2 := ⟨_, rfl⟩
  obtain ⟨g5, hg5⟩ : ∃ z : tG, z = gP g4 23 (g4 45 7) x2 := ⟨_, rfl⟩
  obtain ⟨g6, hg6⟩ : ∃ z : tG, z = gP g5 24 (g5 45 7) x3 := ⟨_, rfl⟩
  obtain ⟨g7, hg7⟩ : ∃ z : tG, z = gP g6 25 (g6 45 7) x4 := ⟨_, rfl⟩
  by_cases c1 : (gA g7 27 x0) = 0
  · obtain ⟨g10, hg10⟩ : ∃ z : tG, z = gP g7 26 x0 (g7 45 7) := ⟨_, rfl⟩
    obtain ⟨g11, hg11⟩ : ∃ z : tG, z = gD g10 27 x0 1 := ⟨_, rfl⟩
    obtain ⟨v2, hv2⟩ : ∃ z : Int32, z = (g11 45 7) + 1 := ⟨_, rfl⟩
    obtain ⟨g12, hg12⟩ : ∃ z : tG, z = tc_sc g11 7 v2 := ⟨_, rfl⟩
    have qg1 : g1 j = g j := by rw [hg1]; exact gP_ne (fun e9 => h (by rw [e9]; decide))
    have qg2 : g2 j = g1 j := by rw [hg2]; exact gP_ne (fun e9 => h (by rw [e9]; decide))
    have qg3 : g3 j = g2 j := by rw [hg3]; exact gP_ne (fun e9 => h (by rw [e9]; decide))
    have qg4 : g4 j = g3 j := by rw [hg4]; exact gP_ne (fun e9 => h (by rw [e9]; decide))
    have qg5 : g5 j = g4 j := by rw [hg5]; exact gP_ne (fun e9 => h (by rw [e9]; decide))
    have qg6 : g6 j = g5 j := by rw [hg6]; exact gP_ne (fun e9 => h (by rw [e9]; decide))
    have qg7 : g7 j = g6 j := by rw [hg7]; exact gP_ne (fun e9 => h (by rw [e9]; decide))
    have qg10 : g10 j = g7 j := by rw [hg10]; exact gP_ne (fun e9 => h (by rw [e9]; decide))
    have qg11 : g11 j = g10 j := by rw [hg11]; exact gD_ne (fun e9 => h (by rw [e9]; decide))
    have qg12 : g12 j = g11 j := by rw [hg12]; exact sc_nj (fun e9 => h (by rw [e9]; decide))
    have hs := eX3_add_w2 g x0 x1 x2 x3 x4 hg1 hg2 hg3 hg4 hg5 hg6 hg7 c1 hg10 hg11 hv2 hg12
    rw [hs]
    exact qg12.trans (qg11.trans (qg10.trans (qg7.trans (qg6.trans (qg5.trans (qg4.trans (qg3.trans (qg2.trans (qg1)))))))))
  · obtain ⟨g8, hg8⟩ : ∃ z : tG, z = gD g7 27 x0 1 := ⟨_, rfl⟩
    obtain ⟨v1, hv1⟩ : ∃ z : Int32, z = (g8 45 7) + 1 := ⟨_, rfl⟩
    obtain ⟨g9, hg9⟩ : ∃ z : tG, z = tc_sc g8 7 v1 := ⟨_, rfl⟩
    have qg1 : g1 j = g j := by rw [hg1]; exact gP_ne (fun e9 => h (by rw [e9]; decide))
    have qg2 : g2 j = g1 j := by rw [hg2]; exact gP_ne (fun e9 => h (by rw [e9]; decide))
    have qg3 : g3 j = g2 j := by rw [hg3]; exact gP_ne (fun e9 => h (by rw [e9]; decide))
    have qg4 : g4 j = g3 j := by rw [hg4]; exact gP_ne (fun e9 => h (by rw [e9]; decide))
    have qg5 : g5 j = g4 j := by rw [hg5]; exact gP_ne (fun e9 => h (by rw [e9]; decide))
    have qg6 : g6 j = g5 j := by rw [hg6]; exact gP_ne (fun e9 => h (by rw [e9]; decide))
    have qg7 : g7 j = g6 j := by rw [hg7]; exact gP_ne (fun e9 => h (by rw [e9]; decide))
    have qg8 : g8 j = g7 j := by rw [hg8]; exact gD_ne (fun e9 => h (by rw [e9]; decide))
    have qg9 : g9 j = g8 j := by rw [hg9]; exact sc_nj (fun e9 => h (by rw [e9]; decide))
    have hs := eX3_add_w1 g x0 x1 x2 x3 x4 hg1 hg2 hg3 hg4 hg5 hg6 hg7 c1 hg8 hv1 hg9
    rw [hs]
    exact qg9.trans (qg8.trans (qg7.trans (qg6.trans (qg5.trans (qg4.trans (qg3.trans (qg2.trans (qg1))))))))
theorem fiX3_add (g : tG) (x0 : Int32) (x1 : Int32) (x2 : Int32) (x3 : Int32) (x4 : Int32) (k : Nat) (h : k ∉ ([7] : List Nat)) : fX3_add_w g x0 x1 x2 x3 x4 45 k = g 45 k := by
  obtain ⟨g1, hg1⟩ : ∃ z : tG, z = gP g 19 (g 45 7) x0 := ⟨_, rfl⟩
  obtain ⟨g2, hg2⟩ : ∃ z : tG, z = gP g1 20 (g1 45 7) x1 := ⟨_, rfl⟩
  obtain ⟨g3, hg3⟩ : ∃ z : tG, z = gP g2 21 (g2 45 7) x1 := ⟨_, rfl⟩
  obtain ⟨g4, hg4⟩ : ∃ z : tG, z = gP g3 22 (g3 45 7) x2 := ⟨_, rfl⟩
  obtain ⟨g5, hg5⟩ : ∃ z : tG, z = gP g4 23 (g4 45 7) x2 := ⟨_, rfl⟩
  obtain ⟨g6, hg6⟩ : ∃ z : tG, z = gP g5 24 (g5 45 7) x3 := ⟨_, rfl⟩
  obtain ⟨g7, hg7⟩ : ∃ z : tG, z = gP g6 25 (g6 45 7) x4 := ⟨_, rfl⟩
  by_cases c1 : (gA g7 27 x0) = 0
  · obtain ⟨g10, hg10⟩ : ∃ z : tG, z = gP g7 26 x0 (g7 45 7) := ⟨_, rfl⟩
    obtain ⟨g11, hg11⟩ : ∃ z : tG, z = gD g10 27 x0 1 := ⟨_, rfl⟩
    obtain ⟨v2, hv2⟩ : ∃ z : Int32, z = (g11 45 7) + 1 := ⟨_, rfl⟩
    obtain ⟨g12, hg12⟩ : ∃ z : tG, z = tc_sc g11 7 v2 := ⟨_, rfl⟩
    have qg1 : g1 45 k = g 45 k := by rw [hg1]; exact congrFun (gP_ne (by decide)) k
    have qg2 : g2 45 k = g1 45 k := by rw [hg2]; exact congrFun (gP_ne (by decide)) k
    have qg3 : g3 45 k = g2 45 k := by rw [hg3]; exact congrFun (gP_ne (by decide)) k
    have qg4 : g4 45 k = g3 45 k := by rw [hg4]; exact congrFun (gP_ne (by decide)) k
    have qg5 : g5 45 k = g4 45 k := by rw [hg5]; exact congrFun (gP_ne (by decide)) k
    have qg6 : g6 45 k = g5 45 k := by rw [hg6]; exact congrFun (gP_ne (by decide)) k
    have qg7 : g7 45 k = g6 45 k := by rw [hg7]; exact congrFun (gP_ne (by decide)) k
    have qg10 : g10 45 k = g7 45 k := by rw [hg10]; exact congrFun (gP_ne (by decide)) k
    have qg11 : g11 45 k = g10 45 k := by rw [hg11]; exact congrFun (gD_ne (by decide)) k
    have qg12 : g12 45 k = g11 45 k := by rw [hg12]; exact sc_nk (fun e9 => h (by rw [e9]; decide))
    have hs := eX3_add_w2 g x0 x1 x2 x3 x4 hg1 hg2 hg3 hg4 hg5 hg6 hg7 c1 hg10 hg11 hv2 hg12
    rw [hs]
    exact qg12.trans (qg11.trans (qg10.trans (qg7.trans (qg6.trans (qg5.trans (qg4.trans (qg3.trans (qg2.trans (qg1)))))))))
  · obtain ⟨g8, hg8⟩ : ∃ z : tG, z = gD g7 27 x0 1 := ⟨_, rfl⟩
    obtain ⟨v1, hv1⟩ : ∃ z : Int32, z = (g8 45 7) + 1 := ⟨_, rfl⟩
    obtain ⟨g9, hg9⟩ : ∃ z : tG, z = tc_sc g8 7 v1 := ⟨_, rfl⟩
    have qg1 : g1 45 k = g 45 k := by rw [hg1]; exact congrFun (gP_ne (by decide)) k
    have qg2 : g2 45 k = g1 45 k := by rw [hg2]; exact congrFun (gP_ne (by decide)) k
    have qg3 : g3 45 k = g2 45 k := by rw [hg3]; exact congrFun (gP_ne (by decide)) k
    have qg4 : g4 45 k = g3 45 k := by rw [hg4]; exact congrFun (gP_ne (by decide)) k
    have qg5 : g5 45 k = g4 45 k := by rw [hg5]; exact congrFun (gP_ne (by decide)) k
    have qg6 : g6 45 k = g5 45 k := by rw [hg6]; exact congrFun (gP_ne (by decide)) k
    have qg7 : g7 45 k = g6 45 k := by rw [hg7]; exact congrFun (gP_ne (by decide)) k
    have qg8 : g8 45 k = g7 45 k := by rw [hg8]; exact congrFun (gD_ne (by decide)) k
    have qg9 : g9 45 k = g8 45 k := by rw [hg9]; exact sc_nk (fun e9 => h (by rw [e9]; decide))
    have hs := eX3_add_w1 g x0 x1 x2 x3 x4 hg1 hg2 hg3 hg4 hg5 hg6 hg7 c1 hg8 hv1 hg9
    rw [hs]
    exact qg9.trans (qg8.trans (qg7.trans (qg6.trans (qg5.trans (qg4.trans (qg3.trans (qg2.trans (qg1))))))))
set_option maxHeartbeats 4000000 in
set_option maxRecDepth 100000 in
theorem kX3_add (l : Launch) (D : va_G) (ad : Nat → Nat) (cI : ClassId) (g : tG) (sz : Nat) (x0 : Int32) (x1 : Int32) (x2 : Int32) (x3 : Int32) (x4 : Int32) : Met l yX3_add wsX3_add ({ frames := 1, cells := 0, slots := 0, locals := 22 } : Room) (g_P D [(cI, .int)] (tcW ad cI g) [.ref (ad 43), .int x0, .int x1, .int x2, .int x3, .int x4] sz) (g_Qv D [(cI, .int)] (va_A (tcW ad cI g) sz) (tcW ad cI (fX3_add_w g x0 x1 x2 x3 x4))) 0 0 (va_A (tcW ad cI g) sz) := by
  refine Met.ofW (cc := cX3_add) (maxL := 6) (ret := none) (by decide) rfl ?_
  intro p e s m args below meth c9 s₁ B hml hv
  obtain ⟨rfl, hsz, hP, hK, hD0⟩ := hv
  have hx := B.exec
  have hb := B.bytes
  have hr := B.returns
  have hts := atoms_spec (ws := wsX3_add) B.pre
  have hown : s.vm.findClass RX3 = some m.cls := findClass_of_methodNamed B.named
  have hlocks := B.notSynchronized
  subst hsz
  have hD := hD0.self (sz := s.heap.size)
  generalize hAe : va_A (tcW ad cI g) s.heap.size = A at hD ⊢
  have hA : ∀ q : Nat, s.heap.size ≤ q → A q := fun q h => by rw [← hAe]; exact Or.inr h
  have hS : va_S A s.heap s.heap [] := va_S.rf
  have hl := lv_entry ([.ref (ad 43), .int x0, .int x1, .int x2, .int x3, .int x4]) (n := 6) (Nat.le_of_ble_eq_true rfl)
  rw [lg_entry_eq]
  generalize (lg_sl ([.ref (ad 43), .int x0, .int x1, .int x2, .int x3, .int x4]) ++ List.replicate (6 - (lg_sl ([.ref (ad 43), .int x0, .int x1, .int x2, .int x3, .int x4])).length) Slot.unset).toArray = ls at hl ⊢
  have hl : lv_has ls 6 [(0, .ref (ad 43)), (1, .int x0), (2, .int x1), (3, .int x2), (4, .int x3), (5, .int x4)] := hl
  have winX3 : ∀ w ∈ u_ws RX3 TX3 15, w ∈ wsX3_add := by decide +kernel
  have winX5 : ∀ w ∈ u_ws RX5 TX5 1, w ∈ wsX3_add := by decide +kernel
  refine lv_aload_n hx hb dX3_add_0 rfl (lv_at hl 0 rfl) ?_
  refine va_get (D := D) (ci := 3) (v := .ref (ad 44)) (C := RX3) (T := TX3) (N := 15) hx hb hts winX3 hown hK hP 43 rfl rfl 0 (by decide) (hts (.fieldLink RX3 14 "TapCap$Legs" "dayOf" "LTapCap$Row;") (List.mem_of_getElem? (i := 1) rfl)) (fun _ h9 => h9) rfl dX3_add_1 ?_
  refine lv_aload_n hx hb dX3_add_4 rfl (lv_at hl 0 rfl) ?_
  refine va_get (D := D) (ci := 3) (v := .int (g 45 7)) (C := RX3) (T := TX3) (N := 15) hx hb hts winX3 hown hK hP 43 rfl rfl 10 (by decide) (hts (.fieldLink RX3 47 "TapCap$Legs" "count" "I") (List.mem_of_getElem? (i := 2) rfl)) (fun _ h9 => h9) rfl dX3_add_5 ?_
  refine lv_iload_n hx hb dX3_add_8 rfl (lv_at hl 1 rfl) ?_
  refine g_kv hK hD hS hA (va_runV (As := [.int (g 45 7), .int x0]) (rest := []) ⟨hx, hb, hml, hown, hts⟩ (k_tc_put l D ad cI g s.heap.size 19 (by decide) (g 45 7) x0) (cwV 2 hts gX3_add_X5_put rfl rfl rfl (by decide +kernel) ⟨Nat.le_of_ble_eq_true rfl, Nat.le_of_ble_eq_true rfl⟩) (g_preV hK hP hD (ci := 5) (q0 := 44) rfl rfl) rfl rfl hl.1 rfl (lv_room (Nat.le_of_ble_eq_true rfl)) dX3_add_9 ⟨Nat.le_of_ble_eq_true rfl, Nat.le_of_ble_eq_true rfl⟩) (fun H locs hP hD hS => ?_)
  obtain ⟨g1, hg1⟩ : ∃ z : tG, z = gP g 19 (g 45 7) x0 := ⟨_, rfl⟩
  rw [← hg1] at hP hD
  refine lv_aload_n hx hb dX3_add_12 rfl (lv_at hl 0 rfl) ?_
  refine va_get (D := D) (ci := 3) (v := .ref (ad 46)) (C := RX3) (T := TX3) (N := 15) hx hb hts winX3 hown hK hP 43 rfl rfl 1 (by decide) (hts (.fieldLink RX3 20 "TapCap$Legs" "from" "LTapCap$Row;") (List.mem_of_getElem? (i := 3) rfl)) (fun _ h9 => h9) rfl dX3_add_13 ?_
  refine lv_aload_n hx hb dX3_add_16 rfl (lv_at hl 0 rfl) ?_
  refine va_get (D := D) (ci := 3) (v := .int (g1 45 7)) (C := RX3) (T := TX3) (N := 15) hx hb hts winX3 hown hK hP 43 rfl rfl 10 (by decide) (hts (.fieldLink RX3 47 "TapCap$Legs" "count" "I") (List.mem_of_getElem? (i := 2) rfl)) (fun _ h9 => h9) rfl dX3_add_17 ?_
  refine lv_iload_n hx hb dX3_add_20 rfl (lv_at hl 2 rfl) ?_
  refine g_kv hK hD hS hA (va_runV (As := [.int (g1 45 7), .int x1]) (rest := []) ⟨hx, hb, hml, hown, hts⟩ (k_tc_put l D ad cI g1 H.size 20 (by decide) (g1 45 7) x1) (cwV 2 hts gX3_add_X5_put rfl rfl rfl (by decide +kernel) ⟨Nat.le_of_ble_eq_true rfl, Nat.le_of_ble_eq_true rfl⟩) (g_preV hK hP hD (ci := 5) (q0 := 46) rfl rfl) rfl rfl hl.1 rfl (lv_room (Nat.le_of_ble_eq_true rfl)) dX3_add_21 ⟨Nat.le_of_ble_eq_true rfl, Nat.le_of_ble_eq_true rfl⟩) (fun H locs hP hD hS => ?_)
  obtain ⟨g2, hg2⟩ : ∃ z : tG, z = gP g1 20 (g1 45 7) x1 := ⟨_, rfl⟩
  rw [← hg2] at hP hD
  refine lv_aload_n hx hb dX3_add_24 rfl (lv_at hl 0 rfl) ?_
  refine va_get (D := D) (ci := 3) (v := .ref (ad 48)) (C := RX3) (T := TX3) (N := 15) hx hb hts winX3 hown hK hP 43 rfl rfl 2 (by decide) (hts (.fieldLink RX3 23 "TapCap$Legs" "to" "LTapCap$Row;") (List.mem_of_getElem? (i := 4) rfl)) (fun _ h9 => h9) rfl dX3_add_25 ?_
  refine lv_aload_n hx hb dX3_add_28 rfl (lv_at hl 0 rfl) ?_
  refine va_get (D := D) (ci := 3) (v := .int (g2 45 7)) (C := RX3) (T := TX3) (N := 15) hx hb hts winX3 hown hK hP 43 rfl rfl 10 (by decide) (hts (.fieldLink RX3 47 "TapCap$Legs" "count" "I") (List.mem_of_getElem? (i := 2) rfl)) (fun _ h9 => h9) rfl dX3_add_29 ?_
  refine lv_iload_n hx hb dX3_add_32 rfl (lv_at hl 2 rfl) ?_
  refine g_kv hK hD hS hA (va_runV (As := [.int (g2 45 7), .int x1]) (rest := []) ⟨hx, hb, hml, hown, hts⟩ (k_tc_put l D ad cI g2 H.size 21 (by decide) (g2 45 7) x1) (cwV 2 hts gX3_add_X5_put rfl rfl rfl (by decide +kernel) ⟨Nat.le_of_ble_eq_true rfl, Nat.le_of_ble_eq_true rfl⟩) (g_preV hK hP hD (ci := 5) (q0 := 48) rfl rfl) rfl rfl hl.1 rfl (lv_room (Nat.le_of_ble_eq_true rfl)) dX3_add_33 ⟨Nat.le_of_ble_eq_true rfl, Nat.le_of_ble_eq_true rfl⟩) (fun H locs hP hD hS => ?_)
  obtain ⟨g3, hg3⟩ : ∃ z : tG, z = gP g2 21 (g2 45 7) x1 := ⟨_, rfl⟩
  rw [← hg3] at hP hD
  refine lv_aload_n hx hb dX3_add_36 rfl (lv_at hl 0 rfl) ?_
  refine va_get (D := D) (ci := 3) (v := .ref (ad 50)) (C := RX3) (T := TX3) (N := 15) hx hb hts winX3 hown hK hP 43 rfl rfl 3 (by decide) (hts (.fieldLink RX3 26 "TapCap$Legs" "begin" "LTapCap$Row;") (List.mem_of_getElem? (i := 5) rfl)) (fun _ h9 => h9) rfl dX3_add_37 ?_
  refine lv_aload_n hx hb dX3_add_40 rfl (lv_at hl 0 rfl) ?_
  refine va_get (D := D) (ci := 3) (v := .int (g3 45 7)) (C := RX3) (T := TX3) (N := 15) hx hb hts winX3 hown hK hP 43 rfl rfl 10 (by decide) (hts (.fieldLink RX3 47 "TapCap$Legs" "count" "I") (List.mem_of_getElem? (i := 2) rfl)) (fun _ h9 => h9) rfl dX3_add_41 ?_
  refine lv_iload_n hx hb dX3_add_44 rfl (lv_at hl 3 rfl) ?_
  refine g_kv hK hD hS hA (va_runV (As := [.int (g3 45 7), .int x2]) (rest := []) ⟨hx, hb, hml, hown, hts⟩ (k_tc_put l D ad cI g3 H.size 22 (by decide) (g3 45 7) x2) (cwV 2 hts gX3_add_X5_put rfl rfl rfl (by decide +kernel) ⟨Nat.le_of_ble_eq_true rfl, Nat.le_of_ble_eq_true rfl⟩) (g_preV hK hP hD (ci := 5) (q0 := 50) rfl rfl) rfl rfl hl.1 rfl (lv_room (Nat.le_of_ble_eq_true rfl)) dX3_add_45 ⟨Nat.le_of_ble_eq_true rfl, Nat.le_of_ble_eq_true rfl⟩) (fun H locs hP hD hS => ?_)
  obtain ⟨g4, hg4⟩ : ∃ z : tG, z = gP g3 22 (g3 45 7) x2 := ⟨_, rfl⟩
  rw [← hg4] at hP hD
  refine lv_aload_n hx hb dX3_add_48 rfl (lv_at hl 0 rfl) ?_
  refine va_get (D := D) (ci := 3) (v := .ref (ad 52)) (C := RX3) (T := TX3) (N := 15) hx hb hts winX3 hown hK hP 43 rfl rfl 4 (by decide) (hts (.fieldLink RX3 29 "TapCap$Legs" "end" "LTapCap$Row;") (List.mem_of_getElem? (i := 6) rfl)) (fun _ h9 => h9) rfl dX3_add_49 ?_
  refine lv_aload_n hx hb dX3_add_52 rfl (lv_at hl 0 rfl) ?_
  refine va_get (D := D) (ci := 3) (v := .int (g4 45 7)) (C := RX3) (T := TX3) (N := 15) hx hb hts winX3 hown hK hP 43 rfl rfl 10 (by decide) (hts (.fieldLink RX3 47 "TapCap$Legs" "count" "I") (List.mem_of_getElem? (i := 2) rfl)) (fun _ h9 => h9) rfl dX3_add_53 ?_
  refine lv_iload_n hx hb dX3_add_56 rfl (lv_at hl 3 rfl) ?_
  refine g_kv hK hD hS hA (va_runV (As := [.int (g4 45 7), .int x2]) (rest := []) ⟨hx, hb, hml, hown, hts⟩ (k_tc_put l D ad cI g4 H.size 23 (by decide) (g4 45 7) x2) (cwV 2 hts gX3_add_X5_put rfl rfl rfl (by decide +kernel) ⟨Nat.le_of_ble_eq_true rfl, Nat.le_of_ble_eq_true rfl⟩) (g_preV hK hP hD (ci := 5) (q0 := 52) rfl rfl) rfl rfl hl.1 rfl (lv_room (Nat.le_of_ble_eq_true rfl)) dX3_add_57 ⟨Nat.le_of_ble_eq_true rfl, Nat.le_of_ble_eq_true rfl⟩) (fun H locs hP hD hS => ?_)
  obtain ⟨g5, hg5⟩ : ∃ z : tG, z = gP g4 23 (g4 45 7) x2 := ⟨_, rfl⟩
  rw [← hg5] at hP hD
  refine lv_aload_n hx hb dX3_add_60 rfl (lv_at hl 0 rfl) ?_
  refine va_get (D := D) (ci := 3) (v := .ref (ad 54)) (C := RX3) (T := TX3) (N := 15) hx hb hts winX3 hown hK hP 43 rfl rfl 5 (by decide) (hts (.fieldLink RX3 32 "TapCap$Legs" "lineOf" "LTapCap$Row;") (List.mem_of_getElem? (i := 7) rfl)) (fun _ h9 => h9) rfl dX3_add_61 ?_
  refine lv_aload_n hx hb dX3_add_64 rfl (lv_at hl 0 rfl) ?_
  refine va_get (D := D) (ci := 3) (v := .int (g5 45 7)) (C := RX3) (T := TX3) (N := 15) hx hb hts winX3 hown hK hP 43 rfl rfl 10 (by decide) (hts (.fieldLink RX3 47 "TapCap$Legs" "count" "I") (List.mem_of_getElem? (i := 2) rfl)) (fun _ h9 => h9) rfl dX3_add_65 ?_
  refine lv_iload hx hb dX3_add_68 (lv_at hl 4 rfl) ?_
  refine g_kv hK hD hS hA (va_runV (As := [.int (g5 45 7), .int x3]) (rest := []) ⟨hx, hb, hml, hown, hts⟩ (k_tc_put l D ad cI g5 H.size 24 (by decide) (g5 45 7) x3) (cwV 2 hts gX3_add_X5_put rfl rfl rfl (by decide +kernel) ⟨Nat.le_of_ble_eq_true rfl, Nat.le_of_ble_eq_true rfl⟩) (g_preV hK hP hD (ci := 5) (q0 := 54) rfl rfl) rfl rfl hl.1 rfl (lv_room (Nat.le_of_ble_eq_true rfl)) dX3_add_70 ⟨Nat.le_of_ble_eq_true rfl, Nat.le_of_ble_eq_true rfl⟩) (fun H locs hP hD hS => ?_)
  obtain ⟨g6, hg6⟩ : ∃ z : tG, z = gP g5 24 (g5 45 7) x3 := ⟨_, rfl⟩
  rw [← hg6] at hP hD
  refine lv_aload_n hx hb dX3_add_73 rfl (lv_at hl 0 rfl) ?_
  refine va_get (D := D) (ci := 3) (v := .ref (ad 56)) (C := RX3) (T := TX3) (N := 15) hx hb hts winX3 hown hK hP 43 rfl rfl 6 (by decide) (hts (.fieldLink RX3 35 "TapCap$Legs" "guessed" "LTapCap$Row;") (List.mem_of_getElem? (i := 8) rfl)) (fun _ h9 => h9) rfl dX3_add_74 ?_
  refine lv_aload_n hx hb dX3_add_77 rfl (lv_at hl 0 rfl) ?_
  refine va_get (D := D) (ci := 3) (v := .int (g6 45 7)) (C := RX3) (T := TX3) (N := 15) hx hb hts winX3 hown hK hP 43 rfl rfl 10 (by decide) (hts (.fieldLink RX3 47 "TapCap$Legs" "count" "I") (List.mem_of_getElem? (i := 2) rfl)) (fun _ h9 => h9) rfl dX3_add_78 ?_
  refine lv_iload hx hb dX3_add_81 (lv_at hl 5 rfl) ?_
  refine g_kv hK hD hS hA (va_runV (As := [.int (g6 45 7), .int x4]) (rest := []) ⟨hx, hb, hml, hown, hts⟩ (k_tc_put l D ad cI g6 H.size 25 (by decide) (g6 45 7) x4) (cwV 2 hts gX3_add_X5_put rfl rfl rfl (by decide +kernel) ⟨Nat.le_of_ble_eq_true rfl, Nat.le_of_ble_eq_true rfl⟩) (g_preV hK hP hD (ci := 5) (q0 := 56) rfl rfl) rfl rfl hl.1 rfl (lv_room (Nat.le_of_ble_eq_true rfl)) dX3_add_83 ⟨Nat.le_of_ble_eq_true rfl, Nat.le_of_ble_eq_true rfl⟩) (fun H locs hP hD hS => ?_)
  obtain ⟨g7, hg7⟩ : ∃ z : tG, z = gP g6 25 (g6 45 7) x4 := ⟨_, rfl⟩
  rw [← hg7] at hP hD
  refine lv_aload_n hx hb dX3_add_86 rfl (lv_at hl 0 rfl) ?_
  refine va_get (D := D) (ci := 3) (v := .ref (ad 60)) (C := RX3) (T := TX3) (N := 15) hx hb hts winX3 hown hK hP 43 rfl rfl 8 (by decide) (hts (.fieldLink RX3 41 "TapCap$Legs" "countOn" "LTapCap$Row;") (List.mem_of_getElem? (i := 9) rfl)) (fun _ h9 => h9) rfl dX3_add_87 ?_
  refine lv_iload_n hx hb dX3_add_90 rfl (lv_at hl 1 rfl) ?_
  refine g_ki hK hD hS hA (va_runV (As := [.int x0]) (rest := []) ⟨hx, hb, hml, hown, hts⟩ (k_tc_at l D ad cI g7 H.size 27 (by decide) x0) (cwV 1 hts gX3_add_X5_at rfl rfl rfl (by decide +kernel) ⟨Nat.le_of_ble_eq_true rfl, Nat.le_of_ble_eq_true rfl⟩) (g_preV hK hP hD (ci := 5) (q0 := 60) rfl rfl) rfl rfl hl.1 rfl (lv_room (Nat.le_of_ble_eq_true rfl)) dX3_add_91 ⟨Nat.le_of_ble_eq_true rfl, Nat.le_of_ble_eq_true rfl⟩) (fun H locs hP hD hS => ?_)
  refine lv_if_ne (tgt := 109) hx hb dX3_add_94 (by decide) (fun c1 => ?_) (fun c1 => ?_)
  · refine lv_aload_n hx hb dX3_add_109 rfl (lv_at hl 0 rfl) ?_
    refine va_get (D := D) (ci := 3) (v := .ref (ad 60)) (C := RX3) (T := TX3) (N := 15) hx hb hts winX3 hown hK hP 43 rfl rfl 8 (by decide) (hts (.fieldLink RX3 41 "TapCap$Legs" "countOn" "LTapCap$Row;") (List.mem_of_getElem? (i := 9) rfl)) (fun _ h9 => h9) rfl dX3_add_110 ?_
    refine lv_iload_n hx hb dX3_add_113 rfl (lv_at hl 1 rfl) ?_
    refine lv_iconst (v := 1) hx hb dX3_add_114 (by decide) ?_
    refine g_kv hK hD hS hA (va_runV (As := [.int x0, .int 1]) (rest := []) ⟨hx, hb, hml, hown, hts⟩ (k_tc_add l D ad cI g7 H.size 27 (by decide) x0 1) (cwV 2 hts gX3_add_X5_add rfl rfl rfl (by decide +kernel) ⟨Nat.le_of_ble_eq_true rfl, Nat.le_of_ble_eq_true rfl⟩) (g_preV hK hP hD (ci := 5) (q0 := 60) rfl rfl) rfl rfl hl.1 rfl (lv_room (Nat.le_of_ble_eq_true rfl)) dX3_add_115 ⟨Nat.le_of_ble_eq_true rfl, Nat.le_of_ble_eq_true rfl⟩) (fun H locs hP hD hS => ?_)
    obtain ⟨g8, hg8⟩ : ∃ z : tG, z = gD g7 27 x0 1 := ⟨_, rfl⟩
    rw [← hg8] at hP hD
    refine lv_aload_n hx hb dX3_add_118 rfl (lv_at hl 0 rfl) ?_
    refine lv_dup hx hb dX3_add_119 rfl ?_
    refine va_get (D := D) (ci := 3) (v := .int (g8 45 7)) (C := RX3) (T := TX3) (N := 15) hx hb hts winX3 hown hK hP 43 rfl rfl 10 (by decide) (hts (.fieldLink RX3 47 "TapCap$Legs" "count" "I") (List.mem_of_getElem? (i := 2) rfl)) (fun _ h9 => h9) rfl dX3_add_120 ?_
    refine lv_iconst (v := 1) hx hb dX3_add_123 (by decide) ?_
    refine lv_iadd hx hb dX3_add_124 ?_
    refine lv_topi (fun v1 hv1 => ?_)
    refine va_put (D := D) (ci := 3) (v := .int v1) (ty := .int) (C := RX3) (T := TX3) (N := 15) hx hb hts winX3 tyX3 tyX3_ok nmX3 hown hK hP hD hS 43 rfl rfl 10 (by decide) (hts (.fieldLink RX3 47 "TapCap$Legs" "count" "I") (List.mem_of_getElem? (i := 2) rfl)) (fun _ h9 => h9) rfl (by decide +kernel) rfl rfl (Nat.le_of_ble_eq_true rfl) dX3_add_125 (fun H locs hP hD hS => ?_)
    have hP := tc_sP_7 hP
    have hD := tc_sD_7 hD
    obtain ⟨g9, hg9⟩ : ∃ z : tG, z = tc_sc g8 7 v1 := ⟨_, rfl⟩
    rw [← hg9] at hP hD
    have hw := eX3_add_w1 g x0 x1 x2 x3 x4 hg1 hg2 hg3 hg4 hg5 hg6 hg7 c1 hg8 hv1 hg9
    have hP := w_P9 hw hP
    have hD := w_D9 hw hD
    exact g_vret hx hb hr hlocks hK hP hD hS dX3_add_128
  · refine lv_aload_n hx hb dX3_add_97 rfl (lv_at hl 0 rfl) ?_
    refine va_get (D := D) (ci := 3) (v := .ref (ad 58)) (C := RX3) (T := TX3) (N := 15) hx hb hts winX3 hown hK hP 43 rfl rfl 7 (by decide) (hts (.fieldLink RX3 38 "TapCap$Legs" "firstOn" "LTapCap$Row;") (List.mem_of_getElem? (i := 10) rfl)) (fun _ h9 => h9) rfl dX3_add_98 ?_
    refine lv_iload_n hx hb dX3_add_101 rfl (lv_at hl 1 rfl) ?_
    refine lv_aload_n hx hb dX3_add_102 rfl (lv_at hl 0 rfl) ?_
    refine va_get (D := D) (ci := 3) (v := .int (g7 45 7)) (C := RX3) (T := TX3) (N := 15) hx hb hts winX3 hown hK hP 43 rfl rfl 10 (by decide) (hts (.fieldLink RX3 47 "TapCap$Legs" "count" "I") (List.mem_of_getElem? (i := 2) rfl)) (fun _ h9 => h9) rfl dX3_add_103 ?_
    refine g_kv hK hD hS hA (va_runV (As := [.int x0, .int (g7 45 7)]) (rest := []) ⟨hx, hb, hml, hown, hts⟩ (k_tc_put l D ad cI g7 H.size 26 (by decide) x0 (g7 45 7)) (cwV 2 hts gX3_add_X5_put rfl rfl rfl (by decide +kernel) ⟨Nat.le_of_ble_eq_true rfl, Nat.le_of_ble_eq_true rfl⟩) (g_preV hK hP hD (ci := 5) (q0 := 58) rfl rfl) rfl rfl hl.1 rfl (lv_room (Nat.le_of_ble_eq_true rfl)) dX3_add_106 ⟨Nat.le_of_ble_eq_true rfl, Nat.le_of_ble_eq_true rfl⟩) (fun H locs hP hD hS => ?_)
    obtain ⟨g10, hg10⟩ : ∃ z : tG, z = gP g7 26 x0 (g7 45 7) := ⟨_, rfl⟩
    rw [← hg10] at hP hD
    refine lv_aload_n hx hb dX3_add_109 rfl (lv_at hl 0 rfl) ?_
    refine va_get (D := D) (ci := 3) (v := .ref (ad 60)) (C := RX3) (T := TX3) (N := 15) hx hb hts winX3 hown hK hP 43 rfl rfl 8 (by decide) (hts (.fieldLink RX3 41 "TapCap$Legs" "countOn" "LTapCap$Row;") (List.mem_of_getElem? (i := 9) rfl)) (fun _ h9 => h9) rfl dX3_add_110 ?_
    refine lv_iload_n hx hb dX3_add_113 rfl (lv_at hl 1 rfl) ?_
    refine lv_iconst (v := 1) hx hb dX3_add_114 (by decide) ?_
    refine g_kv hK hD hS hA (va_runV (As := [.int x0, .int 1]) (rest := []) ⟨hx, hb, hml, hown, hts⟩ (k_tc_add l D ad cI g10 H.size 27 (by decide) x0 1) (cwV 2 hts gX3_add_X5_add rfl rfl rfl (by decide +kernel) ⟨Nat.le_of_ble_eq_true rfl, Nat.le_of_ble_eq_true rfl⟩) (g_preV hK hP hD (ci := 5) (q0 := 60) rfl rfl) rfl rfl hl.1 rfl (lv_room (Nat.le_of_ble_eq_true rfl)) dX3_add_115 ⟨Nat.le_of_ble_eq_true rfl, Nat.le_of_ble_eq_true rfl⟩) (fun H locs hP hD hS => ?_)
    obtain ⟨g11, hg11⟩ : ∃ z : tG, z = gD g10 27 x0 1 := ⟨_, rfl⟩
    rw [← hg11] at hP hD
    refine lv_aload_n hx hb dX3_add_118 rfl (lv_at hl 0 rfl) ?_
    refine lv_dup hx hb dX3_add_119 rfl ?_
    refine va_get (D := D) (ci := 3) (v := .int (g11 45 7)) (C := RX3) (T := TX3) (N := 15) hx hb hts winX3 hown hK hP 43 rfl rfl 10 (by decide) (hts (.fieldLink RX3 47 "TapCap$Legs" "count" "I") (List.mem_of_getElem? (i := 2) rfl)) (fun _ h9 => h9) rfl dX3_add_120 ?_
    refine lv_iconst (v := 1) hx hb dX3_add_123 (by decide) ?_
    refine lv_iadd hx hb dX3_add_124 ?_
    refine lv_topi (fun v2 hv2 => ?_)
    refine va_put (D := D) (ci := 3) (v := .int v2) (ty := .int) (C := RX3) (T := TX3) (N := 15) hx hb hts winX3 tyX3 tyX3_ok nmX3 hown hK hP hD hS 43 rfl rfl 10 (by decide) (hts (.fieldLink RX3 47 "TapCap$Legs" "count" "I") (List.mem_of_getElem? (i := 2) rfl)) (fun _ h9 => h9) rfl (by decide +kernel) rfl rfl (Nat.le_of_ble_eq_true rfl) dX3_add_125 (fun H locs hP hD hS => ?_)
    have hP := tc_sP_7 hP
    have hD := tc_sD_7 hD
    obtain ⟨g12, hg12⟩ : ∃ z : tG, z = tc_sc g11 7 v2 := ⟨_, rfl⟩
    rw [← hg12] at hP hD
    have hw := eX3_add_w2 g x0 x1 x2 x3 x4 hg1 hg2 hg3 hg4 hg5 hg6 hg7 c1 hg10 hg11 hv2 hg12
    have hP := w_P9 hw hP
    have hD := w_D9 hw hD
    exact g_vret hx hb hr hlocks hK hP hD hS dX3_add_128
def fX3_takeIn_w (g : tG) (x1 : Int32) : tG :=
  let v1 : Int32 := gA g 17 x1
  let v2 : Int32 := gA g 14 x1
  let v3 : Int32 := gA g 18 x1
  let v4 : Int32 := (g 45 7) - 1
  if (fX3_isOpenOn_r g v1) = 0 then
    let g1 : tG := fX3_add_w g v1 v2 v3 (gA g 15 x1) 2
    g1
  else
    if (gA g 20 v4) = v2 then
      if 3 < (v3 - (gA g 22 v4)) then
        let g3 : tG := fX3_add_w g v1 v2 v3 (gA g 15 x1) 2
        g3
      else
        g
    else
      let g2 : tG := fX3_add_w g v1 v2 v3 (gA g 15 x1) 2
      g2
set_option maxRecDepth 20000 in
theorem eX3_takeIn_w1 (g : tG) (x1 : Int32) {v1 : Int32} (hv1 : v1 = gA g 17 x1) {v2 : Int32} (hv2 : v2 = gA g 14 x1) {v3 : Int32} (hv3 : v3 = gA g 18 x1) {v4 : Int32} (hv4 : v4 = (g 45 7) - 1) (c1 : (fX3_isOpenOn_r g v1) = 0) {g1 : tG} (hg1 : g1 = fX3_add_w g v1 v2 v3 (gA g 15 x1) 2) : fX3_takeIn_w g x1 = g1 := by
  subst hv1
  subst hv2
  subst hv3
  subst hv4
  subst hg1
  exact (if_pos c1).trans rfl
set_option maxRecDepth 20000 in
theorem eX3_takeIn_w2 (g : tG) (x1 : Int32) {v1 : Int32} (hv1 : v1 = gA g 17 x1) {v2 : Int32} (hv2 : v2 = gA g 14 x1) {v3 : Int32} (hv3 : v3 = gA g 18 x1) {v4 : Int32} (hv4 : v4 = (g 45 7) - 1) (c1 : ¬ ((fX3_isOpenOn_r g v1) = 0)) (c3 : ¬ ((gA g 20 v4) = v2)) {g2 : tG} (hg2 : g2 = fX3_add_w g v1 v2 v3 (gA g 15 x1) 2) : fX3_takeIn_w g x1 = g2 := by
  subst hv1
  subst hv2
  subst hv3
  subst hv4
  subst hg2
  exact (if_neg c1).trans ((if_neg c3).trans rfl)
set_option maxRecDepth 20000 in
theorem eX3_takeIn_w3 (g : tG) (x1 : Int32) {v1 : Int32} (hv1 : v1 = gA g 17 x1) {v2 : Int32} (hv2 : v2 = gA g 14 x1) {v3 : Int32} (hv3 : v3 = gA g 18 x1) {v4 : Int32} (hv4 : v4 = (g 45 7) - 1) (c1 : ¬ ((fX3_isOpenOn_r g v1) = 0)) (c3 : (gA g 20 v4) = v2) (c5 : 3 < (v3 - (gA g 22 v4))) {g3 : tG} (hg3 : g3 = fX3_add_w g v1 v2 v3 (gA g 15 x1) 2) : fX3_takeIn_w g x1 = g3 := by
  subst hv1
  subst hv2
  subst hv3
  subst hv4
  subst hg3
  exact (if_neg c1).trans ((if_pos c3).trans ((if_pos c5).trans rfl))
set_option maxRecDepth 20000 in
theorem eX3_takeIn_w4 (g : tG) (x1 : Int32) {v1 : Int32} (hv1 : v1 = gA g 17 x1) {v2 : Int32} (hv2 : v2 = gA g 14 x1) {v3 : Int32} (hv3 : v3 = gA g 18 x1) {v4 : Int32} (hv4 : v4 = (g 45 7) - 1) (c1 : ¬ ((fX3_isOpenOn_r g v1) = 0)) (c3 : (gA g 20 v4) = v2) (c5 : ¬ (3 < (v3 - (gA g 22 v4)))) : fX3_takeIn_w g x1 = g := by
  subst hv1
  subst hv2
  subst hv3
  subst hv4
  exact (if_neg c1).trans ((if_pos c3).trans ((if_neg c5).trans rfl))
theorem fjX3_takeIn (g : tG) (x1 : Int32) (j : Nat) (h : j ∉ ([19, 20, 21, 22, 23, 24, 25, 26, 27, 45] : List Nat)) : fX3_takeIn_w g x1 j = g j := by
  obtain ⟨v1, hv1⟩ : ∃ z : Int32, z = gA g 17 x1 := ⟨_, rfl⟩
  obtain ⟨v2, hv2⟩ : ∃ z : Int32, z = gA g 14 x1 := ⟨_, rfl⟩
  obtain ⟨v3, hv3⟩ : ∃ z : Int32, z = gA g 18 x1 := ⟨_, rfl⟩
  obtain ⟨v4, hv4⟩ : ∃ z : Int32, z = (g 45 7) - 1 := ⟨_, rfl⟩
  by_cases c1 : (fX3_isOpenOn_r g v1) = 0
  · obtain ⟨g1, hg1⟩ : ∃ z : tG, z = fX3_add_w g v1 v2 v3 (gA g 15 x1) 2 := ⟨_, rfl⟩
    have qg1 : g1 j = g j := by rw [hg1]; exact fjX3_add g v1 v2 v3 (gA g 15 x1) 2 j (fun hm => h (sub9 (a := [19, 20, 21, 22, 23, 24, 25, 26, 27, 45]) (b := [19, 20, 21, 22, 23, 24, 25, 26, 27, 45]) (by decide) hm))
    have hs := eX3_takeIn_w1 g x1 hv1 hv2 hv3 hv4 c1 hg1
    rw [hs]
    exact qg1
  · by_cases c3 : (gA g 20 v4) = v2
    · by_cases c5 : 3 < (v3 - (gA g 22 v4))
      · obtain ⟨g3, hg3⟩ : ∃ z : tG, z = fX3_add_w g v1 v2 v3 (gA g 15 x1) 2 := ⟨_, rfl⟩
        have qg3 : g3 j = g j := by rw [hg3]; exact fjX3_add g v1 v2 v3 (gA g 15 x1) 2 j (fun hm => h (sub9 (a := [19, 20, 21, 22, 23, 24, 25, 26, 27, 45]) (b := [19, 20, 21, 22, 23, 24, 25, 26, 27, 45]) (by decide) hm))
        have hs := eX3_takeIn_w3 g x1 hv1 hv2 hv3 hv4 c1 c3 c5 hg3
        rw [hs]
        exact qg3
      · have hs := eX3_takeIn_w4 g x1 hv1 hv2 hv3 hv4 c1 c3 c5
        rw [hs]
    · obtain ⟨g2, hg2⟩ : ∃ z : tG, z = fX3_add_w g v1 v2 v3 (gA g 15 x1) 2 := ⟨_, rfl⟩
      have qg2 : g2 j = g j := by rw [hg2]; exact fjX3_add g v1 v2 v3 (gA g 15 x1) 2 j (fun hm => h (sub9 (a := [19, 20, 21, 22, 23, 24, 25, 26, 27, 45]) (b := [19, 20, 21, 22, 23, 24, 25, 26, 27, 45]) (by decide) hm))
      have hs := eX3_takeIn_w2 g x1 hv1 hv2 hv3 hv4 c1 c3 hg2
      rw [hs]
      exact qg2
theorem fiX3_takeIn (g : tG) (x1 : Int32) (k : Nat) (h : k ∉ ([7] : List Nat)) : fX3_takeIn_w g x1 45 k = g 45 k := by
  obtain ⟨v1, hv1⟩ : ∃ z : Int32, z = gA g 17 x1 := ⟨_, rfl⟩
  obtain ⟨v2, hv2⟩ : ∃ z : Int32, z = gA g 14 x1 := ⟨_, rfl⟩
  obtain ⟨v3, hv3⟩ : ∃ z : Int32, z = gA g 18 x1 := ⟨_, rfl⟩
  obtain ⟨v4, hv4⟩ : ∃ z : Int32, z = (g 45 7) - 1 := ⟨_, rfl⟩
  by_cases c1 : (fX3_isOpenOn_r g v1) = 0
  · obtain ⟨g1, hg1⟩ : ∃ z : tG, z = fX3_add_w g v1 v2 v3 (gA g 15 x1) 2 := ⟨_, rfl⟩
    have qg1 : g1 45 k = g 45 k := by rw [hg1]; exact fiX3_add g v1 v2 v3 (gA g 15 x1) 2 k (fun hm => h (sub9 (a := [7]) (b := [7]) (by decide) hm))
    have hs := eX3_takeIn_w1 g x1 hv1 hv2 hv3 hv4 c1 hg1
    rw [hs]
    exact qg1
  · by_cases c3 : (gA g 20 v4) = v2
    · by_cases c5 : 3 < (v3 - (gA g 22 v4))
      · obtain ⟨g3, hg3⟩ : ∃ z : tG, z = fX3_add_w g v1 v2 v3 (gA g 15 x1) 2 := ⟨_, rfl⟩
        have qg3 : g3 45 k = g 45 k := by rw [hg3]; exact fiX3_add g v1 v2 v3 (gA g 15 x1) 2 k (fun hm => h (sub9 (a := [7]) (b := [7]) (by decide) hm))
        have hs := eX3_takeIn_w3 g x1 hv1 hv2 hv3 hv4 c1 c3 c5 hg3
        rw [hs]
        exact qg3
      · have hs := eX3_takeIn_w4 g x1 hv1 hv2 hv3 hv4 c1 c3 c5
        rw [hs]
    · obtain ⟨g2, hg2⟩ : ∃ z : tG, z = fX3_add_w g v1 v2 v3 (gA g 15 x1) 2 := ⟨_, rfl⟩
      have qg2 : g2 45 k = g 45 k := by rw [hg2]; exact fiX3_add g v1 v2 v3 (gA g 15 x1) 2 k (fun hm => h (sub9 (a := [7]) (b := [7]) (by decide) hm))
      have hs := eX3_takeIn_w2 g x1 hv1 hv2 hv3 hv4 c1 c3 hg2
      rw [hs]
      exact qg2
set_option maxHeartbeats 4000000 in
set_option maxRecDepth 100000 in
theorem kX3_takeIn (l : Launch) (D : va_G) (ad : Nat → Nat) (cI : ClassId) (g : tG) (sz : Nat) (x1 : Int32) : Met l yX3_takeIn wsX3_takeIn ({ frames := 2, cells := 0, slots := 0, locals := 47 } : Room) (g_P D [(cI, .int)] (tcW ad cI g) [.ref (ad 43), .ref (ad 30), .int x1] sz) (g_Qv D [(cI, .int)] (va_A (tcW ad cI g) sz) (tcW ad cI (fX3_takeIn_w g x1))) 0 0 (va_A (tcW ad cI g) sz) := by
  refine Met.ofW (cc := cX3_takeIn) (maxL := 8) (ret := none) (by decide) rfl ?_
  intro p e s m args below meth c9 s₁ B hml hv
  obtain ⟨rfl, hsz, hP, hK, hD0⟩ := hv
  have hx := B.exec
  have hb := B.bytes
  have hr := B.returns
  have hts := atoms_spec (ws := wsX3_takeIn) B.pre
  have hown : s.vm.findClass RX3 = some m.cls := findClass_of_methodNamed B.named
  have hlocks := B.notSynchronized
  subst hsz
  have hD := hD0.self (sz := s.heap.size)
  generalize hAe : va_A (tcW ad cI g) s.heap.size = A at hD ⊢
  have hA : ∀ q : Nat, s.heap.size ≤ q → A q := fun q h => by rw [← hAe]; exact Or.inr h
  have hS : va_S A s.heap s.heap [] := va_S.rf
  have hl := lv_entry ([.ref (ad 43), .ref (ad 30), .int x1]) (n := 8) (Nat.le_of_ble_eq_true rfl)
  rw [lg_entry_eq]
  generalize (lg_sl ([.ref (ad 43), .ref (ad 30), .int x1]) ++ List.replicate (8 - (lg_sl ([.ref (ad 43), .ref (ad 30), .int x1])).length) Slot.unset).toArray = ls at hl ⊢
  have hl : lv_has ls 8 [(0, .ref (ad 43)), (1, .ref (ad 30)), (2, .int x1)] := hl
  have winX3 : ∀ w ∈ u_ws RX3 TX3 15, w ∈ wsX3_takeIn := by decide +kernel
  have winX5 : ∀ w ∈ u_ws RX5 TX5 1, w ∈ wsX3_takeIn := by decide +kernel
  have winX6 : ∀ w ∈ u_ws RX6 TX6 9, w ∈ wsX3_takeIn := by decide +kernel
  refine lv_aload_n hx hb dX3_takeIn_0 rfl (lv_at hl 1 rfl) ?_
  refine va_get (D := D) (ci := 6) (v := .ref (ad 39)) (C := RX6) (T := TX6) (N := 9) hx hb hts winX6 hown hK hP 30 rfl rfl 4 (by decide) (hts (.fieldLink RX3 66 "TapCap$Taps" "day" "LTapCap$Row;") (List.mem_of_getElem? (i := 1) rfl)) (fun _ h9 => h9) rfl dX3_takeIn_1 ?_
  refine lv_iload_n hx hb dX3_takeIn_4 rfl (lv_at hl 2 rfl) ?_
  refine g_ki hK hD hS hA (va_runV (As := [.int x1]) (rest := []) ⟨hx, hb, hml, hown, hts⟩ (k_tc_at l D ad cI g s.heap.size 17 (by decide) x1) (cwV 1 hts gX3_takeIn_X5_at rfl rfl rfl (by decide +kernel) ⟨Nat.le_of_ble_eq_true rfl, Nat.le_of_ble_eq_true rfl⟩) (g_preV hK hP hD (ci := 5) (q0 := 39) rfl rfl) rfl rfl hl.1 rfl (lv_room (Nat.le_of_ble_eq_true rfl)) dX3_takeIn_5 ⟨Nat.le_of_ble_eq_true rfl, Nat.le_of_ble_eq_true rfl⟩) (fun H locs hP hD hS => ?_)
  refine lv_topi (fun v1 hv1 => ?_)
  refine lv_istore_n (lv' := [(3, .int v1), (0, .ref (ad 43)), (1, .ref (ad 30)), (2, .int x1)]) hx hb dX3_takeIn_8 rfl hl (by decide) rfl (fun ls hl => ?_)
  refine lv_aload_n hx hb dX3_takeIn_9 rfl (lv_at hl 2 rfl) ?_
  refine va_get (D := D) (ci := 6) (v := .ref (ad 33)) (C := RX6) (T := TX6) (N := 9) hx hb hts winX6 hown hK hP 30 rfl rfl 1 (by decide) (hts (.fieldLink RX3 110 "TapCap$Taps" "stop" "LTapCap$Row;") (List.mem_of_getElem? (i := 2) rfl)) (fun _ h9 => h9) rfl dX3_takeIn_10 ?_
  refine lv_iload_n hx hb dX3_takeIn_13 rfl (lv_at hl 3 rfl) ?_
  refine g_ki hK hD hS hA (va_runV (As := [.int x1]) (rest := []) ⟨hx, hb, hml, hown, hts⟩ (k_tc_at l D ad cI g H.size 14 (by decide) x1) (cwV 1 hts gX3_takeIn_X5_at rfl rfl rfl (by decide +kernel) ⟨Nat.le_of_ble_eq_true rfl, Nat.le_of_ble_eq_true rfl⟩) (g_preV hK hP hD (ci := 5) (q0 := 33) rfl rfl) rfl rfl hl.1 rfl (lv_room (Nat.le_of_ble_eq_true rfl)) dX3_takeIn_14 ⟨Nat.le_of_ble_eq_true rfl, Nat.le_of_ble_eq_true rfl⟩) (fun H locs hP hD hS => ?_)
  refine lv_topi (fun v2 hv2 => ?_)
  refine lv_istore (lv' := [(4, .int v2), (3, .int v1), (0, .ref (ad 43)), (1, .ref (ad 30)), (2, .int x1)]) hx hb dX3_takeIn_17 hl (by decide) rfl (fun ls hl => ?_)
  refine lv_aload_n hx hb dX3_takeIn_19 rfl (lv_at hl 3 rfl) ?_
  refine va_get (D := D) (ci := 6) (v := .ref (ad 41)) (C := RX6) (T := TX6) (N := 9) hx hb hts winX6 hown hK hP 30 rfl rfl 5 (by decide) (hts (.fieldLink RX3 83 "TapCap$Taps" "minute" "LTapCap$Row;") (List.mem_of_getElem? (i := 3) rfl)) (fun _ h9 => h9) rfl dX3_takeIn_20 ?_
  refine lv_iload_n hx hb dX3_takeIn_23 rfl (lv_at hl 4 rfl) ?_
  refine g_ki hK hD hS hA (va_runV (As := [.int x1]) (rest := []) ⟨hx, hb, hml, hown, hts⟩ (k_tc_at l D ad cI g H.size 18 (by decide) x1) (cwV 1 hts gX3_takeIn_X5_at rfl rfl rfl (by decide +kernel) ⟨Nat.le_of_ble_eq_true rfl, Nat.le_of_ble_eq_true rfl⟩) (g_preV hK hP hD (ci := 5) (q0 := 41) rfl rfl) rfl rfl hl.1 rfl (lv_room (Nat.le_of_ble_eq_true rfl)) dX3_takeIn_24 ⟨Nat.le_of_ble_eq_true rfl, Nat.le_of_ble_eq_true rfl⟩) (fun H locs hP hD hS => ?_)
  refine lv_topi (fun v3 hv3 => ?_)
  refine lv_istore (lv' := [(5, .int v3), (4, .int v2), (3, .int v1), (0, .ref (ad 43)), (1, .ref (ad 30)), (2, .int x1)]) hx hb dX3_takeIn_27 hl (by decide) rfl (fun ls hl => ?_)
  refine lv_aload_n hx hb dX3_takeIn_29 rfl (lv_at hl 3 rfl) ?_
  refine va_get (D := D) (ci := 3) (v := .int (g 45 7)) (C := RX3) (T := TX3) (N := 15) hx hb hts winX3 hown hK hP 43 rfl rfl 10 (by decide) (hts (.fieldLink RX3 47 "TapCap$Legs" "count" "I") (List.mem_of_getElem? (i := 4) rfl)) (fun _ h9 => h9) rfl dX3_takeIn_30 ?_
  refine lv_iconst (v := 1) hx hb dX3_takeIn_33 (by decide) ?_
  refine lv_isub hx hb dX3_takeIn_34 ?_
  refine lv_topi (fun v4 hv4 => ?_)
  refine lv_istore (lv' := [(6, .int v4), (5, .int v3), (4, .int v2), (3, .int v1), (0, .ref (ad 43)), (1, .ref (ad 30)), (2, .int x1)]) hx hb dX3_takeIn_35 hl (by decide) rfl (fun ls hl => ?_)
  refine lv_aload_n hx hb dX3_takeIn_37 rfl (lv_at hl 4 rfl) ?_
  refine lv_iload_n hx hb dX3_takeIn_38 rfl (lv_at hl 3 rfl) ?_
  refine g_ki hK hD hS hA (va_runV (As := [.int v1]) (rest := []) ⟨hx, hb, hml, hown, hts⟩ (kX3_isOpenOn l D ad cI g H.size v1) (cwV 1 hts gX3_takeIn_X3_isOpenOn rfl rfl rfl (by decide +kernel) ⟨Nat.le_of_ble_eq_true rfl, Nat.le_of_ble_eq_true rfl⟩) (g_preV hK hP hD (ci := 3) (q0 := 43) rfl rfl) rfl rfl hl.1 rfl (lv_room (Nat.le_of_ble_eq_true rfl)) dX3_takeIn_39 ⟨Nat.le_of_ble_eq_true rfl, Nat.le_of_ble_eq_true rfl⟩) (fun H locs hP hD hS => ?_)
  refine lv_if_eq (tgt := 79) hx hb dX3_takeIn_42 (by decide) (fun c1 => ?_) (fun c1 => ?_)
  · refine lv_iconst (v := 0) hx hb dX3_takeIn_79 (by decide) ?_
    refine lv_istore (lv' := [(7, .int 0), (6, .int v4), (5, .int v3), (4, .int v2), (3, .int v1), (0, .ref (ad 43)), (1, .ref (ad 30)), (2, .int x1)]) hx hb dX3_takeIn_80 hl (by decide) rfl (fun ls hl => ?_)
    refine lv_iload hx hb dX3_takeIn_82 (lv_at hl 0 rfl) ?_
    refine lv_if_ne (tgt := 105) hx hb dX3_takeIn_84 (by decide) (fun c2 => ?_) (fun c2 => ?_)
    · exact absurd (by decide) c2
    · refine lv_aload_n hx hb dX3_takeIn_87 rfl (lv_at hl 5 rfl) ?_
      refine lv_iload_n hx hb dX3_takeIn_88 rfl (lv_at hl 4 rfl) ?_
      refine lv_iload hx hb dX3_takeIn_89 (lv_at hl 3 rfl) ?_
      refine lv_iload hx hb dX3_takeIn_91 (lv_at hl 2 rfl) ?_
      refine lv_aload_n hx hb dX3_takeIn_93 rfl (lv_at hl 6 rfl) ?_
      refine va_get (D := D) (ci := 6) (v := .ref (ad 35)) (C := RX6) (T := TX6) (N := 9) hx hb hts winX6 hown hK hP 30 rfl rfl 2 (by decide) (hts (.fieldLink RX3 117 "TapCap$Taps" "line" "LTapCap$Row;") (List.mem_of_getElem? (i := 5) rfl)) (fun _ h9 => h9) rfl dX3_takeIn_94 ?_
      refine lv_iload_n hx hb dX3_takeIn_97 rfl (lv_at hl 7 rfl) ?_
      refine g_ki hK hD hS hA (va_runV (As := [.int x1]) (rest := [.int v3, .int v2, .int v1, .ref (ad 43)]) ⟨hx, hb, hml, hown, hts⟩ (k_tc_at l D ad cI g H.size 15 (by decide) x1) (cwV 1 hts gX3_takeIn_X5_at rfl rfl rfl (by decide +kernel) ⟨Nat.le_of_ble_eq_true rfl, Nat.le_of_ble_eq_true rfl⟩) (g_preV hK hP hD (ci := 5) (q0 := 35) rfl rfl) rfl rfl hl.1 rfl (lv_room (Nat.le_of_ble_eq_true rfl)) dX3_takeIn_98 ⟨Nat.le_of_ble_eq_true rfl, Nat.le_of_ble_eq_true rfl⟩) (fun H locs hP hD hS => ?_)
      refine lv_iconst (v := 2) hx hb dX3_takeIn_101 (by decide) ?_
      refine g_kv hK hD hS hA (va_runV (As := [.int v1, .int v2, .int v3, .int (gA g 15 x1), .int 2]) (rest := []) ⟨hx, hb, hml, hown, hts⟩ (kX3_add l D ad cI g H.size v1 v2 v3 (gA g 15 x1) 2) (cwV 5 hts gX3_takeIn_X3_add rfl rfl rfl (by decide +kernel) ⟨Nat.le_of_ble_eq_true rfl, Nat.le_of_ble_eq_true rfl⟩) (g_preV hK hP hD (ci := 3) (q0 := 43) rfl rfl) rfl rfl hl.1 rfl (lv_room (Nat.le_of_ble_eq_true rfl)) dX3_takeIn_102 ⟨Nat.le_of_ble_eq_true rfl, Nat.le_of_ble_eq_true rfl⟩) (fun H locs hP hD hS => ?_)
      obtain ⟨g1, hg1⟩ : ∃ z : tG, z = fX3_add_w g v1 v2 v3 (gA g 15 x1) 2 := ⟨_, rfl⟩
      rw [← hg1] at hP hD
      have hw := eX3_takeIn_w1 g x1 hv1 hv2 hv3 hv4 c1 hg1
      have hP := w_P9 hw hP
      have hD := w_D9 hw hD
      exact g_vret hx hb hr hlocks hK hP hD hS dX3_takeIn_105
  · refine lv_aload_n hx hb dX3_takeIn_45 rfl (lv_at hl 4 rfl) ?_
    refine va_get (D := D) (ci := 3) (v := .ref (ad 46)) (C := RX3) (T := TX3) (N := 15) hx hb hts winX3 hown hK hP 43 rfl rfl 1 (by decide) (hts (.fieldLink RX3 20 "TapCap$Legs" "from" "LTapCap$Row;") (List.mem_of_getElem? (i := 6) rfl)) (fun _ h9 => h9) rfl dX3_takeIn_46 ?_
    refine lv_iload hx hb dX3_takeIn_49 (lv_at hl 0 rfl) ?_
    refine g_ki hK hD hS hA (va_runV (As := [.int v4]) (rest := []) ⟨hx, hb, hml, hown, hts⟩ (k_tc_at l D ad cI g H.size 20 (by decide) v4) (cwV 1 hts gX3_takeIn_X5_at rfl rfl rfl (by decide +kernel) ⟨Nat.le_of_ble_eq_true rfl, Nat.le_of_ble_eq_true rfl⟩) (g_preV hK hP hD (ci := 5) (q0 := 46) rfl rfl) rfl rfl hl.1 rfl (lv_room (Nat.le_of_ble_eq_true rfl)) dX3_takeIn_51 ⟨Nat.le_of_ble_eq_true rfl, Nat.le_of_ble_eq_true rfl⟩) (fun H locs hP hD hS => ?_)
    refine lv_iload hx hb dX3_takeIn_54 (lv_at hl 2 rfl) ?_
    refine lv_icmp_ne (tgt := 79) hx hb dX3_takeIn_56 (by decide) (fun c3 => ?_) (fun c3 => ?_)
    · refine lv_iconst (v := 0) hx hb dX3_takeIn_79 (by decide) ?_
      refine lv_istore (lv' := [(7, .int 0), (6, .int v4), (5, .int v3), (4, .int v2), (3, .int v1), (0, .ref (ad 43)), (1, .ref (ad 30)), (2, .int x1)]) hx hb dX3_takeIn_80 hl (by decide) rfl (fun ls hl => ?_)
      refine lv_iload hx hb dX3_takeIn_82 (lv_at hl 0 rfl) ?_
      refine lv_if_ne (tgt := 105) hx hb dX3_takeIn_84 (by decide) (fun c4 => ?_) (fun c4 => ?_)
      · exact absurd (by decide) c4
      · refine lv_aload_n hx hb dX3_takeIn_87 rfl (lv_at hl 5 rfl) ?_
        refine lv_iload_n hx hb dX3_takeIn_88 rfl (lv_at hl 4 rfl) ?_
        refine lv_iload hx hb dX3_takeIn_89 (lv_at hl 3 rfl) ?_
        refine lv_iload hx hb dX3_takeIn_91 (lv_at hl 2 rfl) ?_
        refine lv_aload_n hx hb dX3_takeIn_93 rfl (lv_at hl 6 rfl) ?_
        refine va_get (D := D) (ci := 6) (v := .ref (ad 35)) (C := RX6) (T := TX6) (N := 9) hx hb hts winX6 hown hK hP 30 rfl rfl 2 (by decide) (hts (.fieldLink RX3 117 "TapCap$Taps" "line" "LTapCap$Row;") (List.mem_of_getElem? (i := 5) rfl)) (fun _ h9 => h9) rfl dX3_takeIn_94 ?_
        refine lv_iload_n hx hb dX3_takeIn_97 rfl (lv_at hl 7 rfl) ?_
        refine g_ki hK hD hS hA (va_runV (As := [.int x1]) (rest := [.int v3, .int v2, .int v1, .ref (ad 43)]) ⟨hx, hb, hml, hown, hts⟩ (k_tc_at l D ad cI g H.size 15 (by decide) x1) (cwV 1 hts gX3_takeIn_X5_at rfl rfl rfl (by decide +kernel) ⟨Nat.le_of_ble_eq_true rfl, Nat.le_of_ble_eq_true rfl⟩) (g_preV hK hP hD (ci := 5) (q0 := 35) rfl rfl) rfl rfl hl.1 rfl (lv_room (Nat.le_of_ble_eq_true rfl)) dX3_takeIn_98 ⟨Nat.le_of_ble_eq_true rfl, Nat.le_of_ble_eq_true rfl⟩) (fun H locs hP hD hS => ?_)
        refine lv_iconst (v := 2) hx hb dX3_takeIn_101 (by decide) ?_
        refine g_kv hK hD hS hA (va_runV (As := [.int v1, .int v2, .int v3, .int (gA g 15 x1), .int 2]) (rest := []) ⟨hx, hb, hml, hown, hts⟩ (kX3_add l D ad cI g H.size v1 v2 v3 (gA g 15 x1) 2) (cwV 5 hts gX3_takeIn_X3_add rfl rfl rfl (by decide +kernel) ⟨Nat.le_of_ble_eq_true rfl, Nat.le_of_ble_eq_true rfl⟩) (g_preV hK hP hD (ci := 3) (q0 := 43) rfl rfl) rfl rfl hl.1 rfl (lv_room (Nat.le_of_ble_eq_true rfl)) dX3_takeIn_102 ⟨Nat.le_of_ble_eq_true rfl, Nat.le_of_ble_eq_true rfl⟩) (fun H locs hP hD hS => ?_)
        obtain ⟨g2, hg2⟩ : ∃ z : tG, z = fX3_add_w g v1 v2 v3 (gA g 15 x1) 2 := ⟨_, rfl⟩
        rw [← hg2] at hP hD
        have hw := eX3_takeIn_w2 g x1 hv1 hv2 hv3 hv4 c1 c3 hg2
        have hP := w_P9 hw hP
        have hD := w_D9 hw hD
        exact g_vret hx hb hr hlocks hK hP hD hS dX3_takeIn_105
    · refine lv_iload hx hb dX3_takeIn_59 (lv_at hl 1 rfl) ?_
      refine lv_aload_n hx hb dX3_takeIn_61 rfl (lv_at hl 4 rfl) ?_
      refine va_get (D := D) (ci := 3) (v := .ref (ad 50)) (C := RX3) (T := TX3) (N := 15) hx hb hts winX3 hown hK hP 43 rfl rfl 3 (by decide) (hts (.fieldLink RX3 26 "TapCap$Legs" "begin" "LTapCap$Row;") (List.mem_of_getElem? (i := 7) rfl)) (fun _ h9 => h9) rfl dX3_takeIn_62 ?_
      refine lv_iload hx hb dX3_takeIn_65 (lv_at hl 0 rfl) ?_
      refine g_ki hK hD hS hA (va_runV (As := [.int v4]) (rest := [.int v3]) ⟨hx, hb, hml, hown, hts⟩ (k_tc_at l D ad cI g H.size 22 (by decide) v4) (cwV 1 hts gX3_takeIn_X5_at rfl rfl rfl (by decide +kernel) ⟨Nat.le_of_ble_eq_true rfl, Nat.le_of_ble_eq_true rfl⟩) (g_preV hK hP hD (ci := 5) (q0 := 50) rfl rfl) rfl rfl hl.1 rfl (lv_room (Nat.le_of_ble_eq_true rfl)) dX3_takeIn_67 ⟨Nat.le_of_ble_eq_true rfl, Nat.le_of_ble_eq_true rfl⟩) (fun H locs hP hD hS => ?_)
      refine lv_isub hx hb dX3_takeIn_70 ?_
      refine lv_iconst (v := 3) hx hb dX3_takeIn_71 (by decide) ?_
      refine lv_icmp_gt (tgt := 79) hx hb dX3_takeIn_72 (by decide) (fun c5 => ?_) (fun c5 => ?_)
      · refine lv_iconst (v := 0) hx hb dX3_takeIn_79 (by decide) ?_
        refine lv_istore (lv' := [(7, .int 0), (6, .int v4), (5, .int v3), (4, .int v2), (3, .int v1), (0, .ref (ad 43)), (1, .ref (ad 30)), (2, .int x1)]) hx hb dX3_takeIn_80 hl (by decide) rfl (fun ls hl => ?_)
        refine lv_iload hx hb dX3_takeIn_82 (lv_at hl 0 rfl) ?_
        refine lv_if_ne (tgt := 105) hx hb dX3_takeIn_84 (by decide) (fun c6 => ?_) (fun c6 => ?_)
        · exact absurd (by decide) c6
        · refine lv_aload_n hx hb dX3_takeIn_87 rfl (lv_at hl 5 rfl) ?_
          refine lv_iload_n hx hb dX3_takeIn_88 rfl (lv_at hl 4 rfl) ?_
          refine lv_iload hx hb dX3_takeIn_89 (lv_at hl 3 rfl) ?_
          refine lv_iload hx hb dX3_takeIn_91 (lv_at hl 2 rfl) ?_
          refine lv_aload_n hx hb dX3_takeIn_93 rfl (lv_at hl 6 rfl) ?_
          refine va_get (D := D) (ci := 6) (v := .ref (ad 35)) (C := RX6) (T := TX6) (N := 9) hx hb hts winX6 hown hK hP 30 rfl rfl 2 (by decide) (hts (.fieldLink RX3 117 "TapCap$Taps" "line" "LTapCap$Row;") (List.mem_of_getElem? (i := 5) rfl)) (fun _ h9 => h9) rfl dX3_takeIn_94 ?_
          refine lv_iload_n hx hb dX3_takeIn_97 rfl (lv_at hl 7 rfl) ?_
          refine g_ki hK hD hS hA (va_runV (As := [.int x1]) (rest := [.int v3, .int v2, .int v1, .ref (ad 43)]) ⟨hx, hb, hml, hown, hts⟩ (k_tc_at l D ad cI g H.size 15 (by decide) x1) (cwV 1 hts gX3_takeIn_X5_at rfl rfl rfl (by decide +kernel) ⟨Nat.le_of_ble_eq_true rfl, Nat.le_of_ble_eq_true rfl⟩) (g_preV hK hP hD (ci := 5) (q0 := 35) rfl rfl) rfl rfl hl.1 rfl (lv_room (Nat.le_of_ble_eq_true rfl)) dX3_takeIn_98 ⟨Nat.le_of_ble_eq_true rfl, Nat.le_of_ble_eq_true rfl⟩) (fun H locs hP hD hS => ?_)
          refine lv_iconst (v := 2) hx hb dX3_takeIn_101 (by decide) ?_
          refine g_kv hK hD hS hA (va_runV (As := [.int v1, .int v2, .int v3, .int (gA g 15 x1), .int 2]) (rest := []) ⟨hx, hb, hml, hown, hts⟩ (kX3_add l D ad cI g H.size v1 v2 v3 (gA g 15 x1) 2) (cwV 5 hts gX3_takeIn_X3_add rfl rfl rfl (by decide +kernel) ⟨Nat.le_of_ble_eq_true rfl, Nat.le_of_ble_eq_true rfl⟩) (g_preV hK hP hD (ci := 3) (q0 := 43) rfl rfl) rfl rfl hl.1 rfl (lv_room (Nat.le_of_ble_eq_true rfl)) dX3_takeIn_102 ⟨Nat.le_of_ble_eq_true rfl, Nat.le_of_ble_eq_true rfl⟩) (fun H locs hP hD hS => ?_)
          obtain ⟨g3, hg3⟩ : ∃ z : tG, z = fX3_add_w g v1 v2 v3 (gA g 15 x1) 2 := ⟨_, rfl⟩
          rw [← hg3] at hP hD
          have hw := eX3_takeIn_w3 g x1 hv1 hv2 hv3 hv4 c1 c3 c5 hg3
          have hP := w_P9 hw hP
          have hD := w_D9 hw hD
          exact g_vret hx hb hr hlocks hK hP hD hS dX3_takeIn_105
      · refine lv_iconst (v := 1) hx hb dX3_takeIn_75 (by decide) ?_
        refine lv_goto (tgt := 80) hx hb dX3_takeIn_76 (by decide) ?_
        refine lv_istore (lv' := [(7, .int 1), (6, .int v4), (5, .int v3), (4, .int v2), (3, .int v1), (0, .ref (ad 43)), (1, .ref (ad 30)), (2, .int x1)]) hx hb dX3_takeIn_80 hl (by decide) rfl (fun ls hl => ?_)
        refine lv_iload hx hb dX3_takeIn_82 (lv_at hl 0 rfl) ?_
        refine lv_if_ne (tgt := 105) hx hb dX3_takeIn_84 (by decide) (fun c7 => ?_) (fun c7 => ?_)
        · have hw := eX3_takeIn_w4 g x1 hv1 hv2 hv3 hv4 c1 c3 c5
          have hP := w_P9 hw hP
          have hD := w_D9 hw hD
          exact g_vret hx hb hr hlocks hK hP hD hS dX3_takeIn_105
        · exact absurd c7 (by decide)
def fX3_takeOut_w (g : tG) (x1 : Int32) : tG :=
  let v1 : Int32 := gA g 17 x1
  let v2 : Int32 := gA g 14 x1
  let v3 : Int32 := gA g 18 x1
  let v4 : Int32 := (g 45 7) - 1
  if (fX3_isOpenOn_r g v1) = 0 then
    if (gA g 27 v1) ≤ 0 then
      let g1 : tG := fX3_add_w g v1 v2 v3 (gA g 15 x1) 1
      g1
    else
      if (gA g 21 v4) = v2 then
        if 3 < (v3 - (gA g 23 v4)) then
          let g3 : tG := fX3_add_w g v1 v2 v3 (gA g 15 x1) 1
          g3
        else
          g
      else
        let g2 : tG := fX3_add_w g v1 v2 v3 (gA g 15 x1) 1
        g2
  else
    let g4 : tG := gP g 21 v4 v2
    let g5 : tG := gP g4 23 v4 v3
    let g6 : tG := gP g5 25 v4 0
    g6
set_option maxRecDepth 20000 in
theorem eX3_takeOut_w1 (g : tG) (x1 : Int32) {v1 : Int32} (hv1 : v1 = gA g 17 x1) {v2 : Int32} (hv2 : v2 = gA g 14 x1) {v3 : Int32} (hv3 : v3 = gA g 18 x1) {v4 : Int32} (hv4 : v4 = (g 45 7) - 1) (c1 : (fX3_isOpenOn_r g v1) = 0) (c2 : (gA g 27 v1) ≤ 0) {g1 : tG} (hg1 : g1 = fX3_add_w g v1 v2 v3 (gA g 15 x1) 1) : fX3_takeOut_w g x1 = g1 := by
  subst hv1
  subst hv2
  subst hv3
  subst hv4
  subst hg1
  exact (if_pos c1).trans ((if_pos c2).trans rfl)
set_option maxRecDepth 20000 in
theorem eX3_takeOut_w2 (g : tG) (x1 : Int32) {v1 : Int32} (hv1 : v1 = gA g 17 x1) {v2 : Int32} (hv2 : v2 = gA g 14 x1) {v3 : Int32} (hv3 : v3 = gA g 18 x1) {v4 : Int32} (hv4 : v4 = (g 45 7) - 1) (c1 : (fX3_isOpenOn_r g v1) = 0) (c2 : ¬ ((gA g 27 v1) ≤ 0)) (c4 : ¬ ((gA g 21 v4) = v2)) {g2 : tG} (hg2 : g2 = fX3_add_w g v1 v2 v3 (gA g 15 x1) 1) : fX3_takeOut_w g x1 = g2 := by
  subst hv1
  subst hv2
  subst hv3
  subst hv4
  subst hg2
  exact (if_pos c1).trans ((if_neg c2).trans ((if_neg c4).trans rfl))
set_option maxRecDepth 20000 in
theorem eX3_takeOut_w3 (g : tG) (x1 : Int32) {v1 : Int32} (hv1 : v1 = gA g 17 x1) {v2 : Int32} (hv2 : v2 = gA g 14 x1) {v3 : Int32} (hv3 : v3 = gA g 18 x1) {v4 : Int32} (hv4 : v4 = (g 45 7) - 1) (c1 : (fX3_isOpenOn_r g v1) = 0) (c2 : ¬ ((gA g 27 v1) ≤ 0)) (c4 : (gA g 21 v4) = v2) (c6 : 3 < (v3 - (gA g 23 v4))) {g3 : tG} (hg3 : g3 = fX3_add_w g v1 v2 v3 (gA g 15 x1) 1) : fX3_takeOut_w g x1 = g3 := by
  subst hv1
  subst hv2
  subst hv3
  subst hv4
  subst hg3
  exact (if_pos c1).trans ((if_neg c2).trans ((if_pos c4).trans ((if_pos c6).trans rfl)))
set_option maxRecDepth 20000 in
theorem eX3_takeOut_w4 (g : tG) (x1 : Int32) {v1 : Int32} (hv1 : v1 = gA g 17 x1) {v2 : Int32} (hv2 : v2 = gA g 14 x1) {v3 : Int32} (hv3 : v3 = gA g 18 x1) {v4 : Int32} (hv4 : v4 = (g 45 7) - 1) (c1 : (fX3_isOpenOn_r g v1) = 0) (c2 : ¬ ((gA g 27 v1) ≤ 0)) (c4 : (gA g 21 v4) = v2) (c6 : ¬ (3 < (v3 - (gA g 23 v4)))) : fX3_takeOut_w g x1 = g := by
  subst hv1
  subst hv2
  subst hv3
  subst hv4
  exact (if_pos c1).trans ((if_neg c2).trans ((if_pos c4).trans ((if_neg c6).trans rfl)))
set_option maxRecDepth 20000 in
theorem eX3_takeOut_w5 (g : tG) (x1 : Int32) {v1 : Int32} (hv1 : v1 = gA g 17 x1) {v2 : Int32} (hv2 : v2 = gA g 14 x1) {v3 : Int32} (hv3 : v3 = gA g 18 x1) {v4 : Int32} (hv4 : v4 = (g 45 7) - 1) (c1 : ¬ ((fX3_isOpenOn_r g v1) = 0)) {g4 : tG} (hg4 : g4 = gP g 21 v4 v2) {g5 : tG} (hg5 : g5 = gP g4 23 v4 v3) {g6 : tG} (hg6 : g6 = gP g5 25 v4 0) : fX3_takeOut_w g x1 = g6 := by
  subst hv1
  subst hv2
  subst hv3
  subst hv4
  subst hg4
  subst hg5
  subst hg6
  exact (if_neg c1).trans rfl
theorem fjX3_takeOut (g : tG) (x1 : Int32) (j : Nat) (h : j ∉ ([19, 20, 21, 22, 23, 24, 25, 26, 27, 45] : List Nat)) : fX3_takeOut_w g x1 j = g j := by
  obtain ⟨v1, hv1⟩ : ∃ z : Int32, z = gA g 17 x1 := ⟨_, rfl⟩
  obtain ⟨v2, hv2⟩ : ∃ z : Int32, z = gA g 14 x1 := ⟨_, rfl⟩
  obtain ⟨v3, hv3⟩ : ∃ z : Int32, z = gA g 18 x1 := ⟨_, rfl⟩
  obtain ⟨v4, hv4⟩ : ∃ z : Int32, z = (g 45 7) - 1 := ⟨_, rfl⟩
  by_cases c1 : (fX3_isOpenOn_r g v1) = 0
  · by_cases c2 : (gA g 27 v1) ≤ 0
    · obtain ⟨g1, hg1⟩ : ∃ z : tG, z = fX3_add_w g v1 v2 v3 (gA g 15 x1) 1 := ⟨_, rfl⟩
      have qg1 : g1 j = g j := by rw [hg1]; exact fjX3_add g v1 v2 v3 (gA g 15 x1) 1 j (fun hm => h (sub9 (a := [19, 20, 21, 22, 23, 24, 25, 26, 27, 45]) (b := [19, 20, 21, 22, 23, 24, 25, 26, 27, 45]) (by decide) hm))
      have hs := eX3_takeOut_w1 g x1 hv1 hv2 hv3 hv4 c1 c2 hg1
      rw [hs]
      exact qg1
    · by_cases c4 : (gA g 21 v4) = v2
      · by_cases c6 : 3 < (v3 - (gA g 23 v4))
        · obtain ⟨g3, hg3⟩ : ∃ z : tG, z = fX3_add_w g v1 v2 v3 (gA g 15 x1) 1 := ⟨_, rfl⟩
          have qg3 : g3 j = g j := by rw [hg3]; exact fjX3_add g v1 v2 v3 (gA g 15 x1) 1 j (fun hm => h (sub9 (a := [19, 20, 21, 22, 23, 24, 25, 26, 27, 45]) (b := [19, 20, 21, 22, 23, 24, 25, 26, 27, 45]) (by decide) hm))
          have hs := eX3_takeOut_w3 g x1 hv1 hv2 hv3 hv4 c1 c2 c4 c6 hg3
          rw [hs]
          exact qg3
        · have hs := eX3_takeOut_w4 g x1 hv1 hv2 hv3 hv4 c1 c2 c4 c6
          rw [hs]
      · obtain ⟨g2, hg2⟩ : ∃ z : tG, z = fX3_add_w g v1 v2 v3 (gA g 15 x1) 1 := ⟨_, rfl⟩
        have qg2 : g2 j = g j := by rw [hg2]; exact fjX3_add g v1 v2 v3 (gA g 15 x1) 1 j (fun hm => h (sub9 (a := [19, 20, 21, 22, 23, 24, 25, 26, 27, 45]) (b := [19, 20, 21, 22, 23, 24, 25, 26, 27, 45]) (by decide) hm))
        have hs := eX3_takeOut_w2 g x1 hv1 hv2 hv3 hv4 c1 c2 c4 hg2
        rw [hs]
        exact qg2
  · obtain ⟨g4, hg4⟩ : ∃ z : tG, z = gP g 21 v4 v2 := ⟨_, rfl⟩
    obtain ⟨g5, hg5⟩ : ∃ z : tG, z = gP g4 23 v4 v3 := ⟨_, rfl⟩
    obtain ⟨g6, hg6⟩ : ∃ z : tG, z = gP g5 25 v4 0 := ⟨_, rfl⟩
    have qg4 : g4 j = g j := by rw [hg4]; exact gP_ne (fun e9 => h (by rw [e9]; decide))
    have qg5 : g5 j = g4 j := by rw [hg5]; exact gP_ne (fun e9 => h (by rw [e9]; decide))
    have qg6 : g6 j = g5 j := by rw [hg6]; exact gP_ne (fun e9 => h (by rw [e9]; decide))
    have hs := eX3_takeOut_w5 g x1 hv1 hv2 hv3 hv4 c1 hg4 hg5 hg6
    rw [hs]
    exact qg6.trans (qg5.trans (qg4))
theorem fiX3_takeOut (g : tG) (x1 : Int32) (k : Nat) (h : k ∉ ([7] : List Nat)) : fX3_takeOut_w g x1 45 k = g 45 k := by
  obtain ⟨v1, hv1⟩ : ∃ z : Int32, z = gA g 17 x1 := ⟨_, rfl⟩
  obtain ⟨v2, hv2⟩ : ∃ z : Int32, z = gA g 14 x1 := ⟨_, rfl⟩
  obtain ⟨v3, hv3⟩ : ∃ z : Int32, z = gA g 18 x1 := ⟨_, rfl⟩
  obtain ⟨v4, hv4⟩ : ∃ z : Int32, z = (g 45 7) - 1 := ⟨_, rfl⟩
  by_cases c1 : (fX3_isOpenOn_r g v1) = 0
  · by_cases c2 : (gA g 27 v1) ≤ 0
    · obtain ⟨g1, hg1⟩ : ∃ z : tG, z = fX3_add_w g v1 v2 v3 (gA g 15 x1) 1 := ⟨_, rfl⟩
      have qg1 : g1 45 k = g 45 k := by rw [hg1]; exact fiX3_add g v1 v2 v3 (gA g 15 x1) 1 k (fun hm => h (sub9 (a := [7]) (b := [7]) (by decide) hm))
      have hs := eX3_takeOut_w1 g x1 hv1 hv2 hv3 hv4 c1 c2 hg1
      rw [hs]
      exact qg1
    · by_cases c4 : (gA g 21 v4) = v2
      · by_cases c6 : 3 < (v3 - (gA g 23 v4))
        · obtain ⟨g3, hg3⟩ : ∃ z : tG, z = fX3_add_w g v1 v2 v3 (gA g 15 x1) 1 := ⟨_, rfl⟩
          have qg3 : g3 45 k = g 45 k := by rw [hg3]; exact fiX3_add g v1 v2 v3 (gA g 15 x1) 1 k (fun hm => h (sub9 (a := [7]) (b := [7]) (by decide) hm))
          have hs := eX3_takeOut_w3 g x1 hv1 hv2 hv3 hv4 c1 c2 c4 c6 hg3
          rw [hs]
          exact qg3
        · have hs := eX3_takeOut_w4 g x1 hv1 hv2 hv3 hv4 c1 c2 c4 c6
          rw [hs]
      · obtain ⟨g2, hg2⟩ : ∃ z : tG, z = fX3_add_w g v1 v2 v3 (gA g 15 x1) 1 := ⟨_, rfl⟩
        have qg2 : g2 45 k = g 45 k := by rw [hg2]; exact fiX3_add g v1 v2 v3 (gA g 15 x1) 1 k (fun hm => h (sub9 (a := [7]) (b := [7]) (by decide) hm))
        have hs := eX3_takeOut_w2 g x1 hv1 hv2 hv3 hv4 c1 c2 c4 hg2
        rw [hs]
        exact qg2
  · obtain ⟨g4, hg4⟩ : ∃ z : tG, z = gP g 21 v4 v2 := ⟨_, rfl⟩
    obtain ⟨g5, hg5⟩ : ∃ z : tG, z = gP g4 23 v4 v3 := ⟨_, rfl⟩
    obtain ⟨g6, hg6⟩ : ∃ z : tG, z = gP g5 25 v4 0 := ⟨_, rfl⟩
    have qg4 : g4 45 k = g 45 k := by rw [hg4]; exact congrFun (gP_ne (by decide)) k
    have qg5 : g5 45 k = g4 45 k := by rw [hg5]; exact congrFun (gP_ne (by decide)) k
    have qg6 : g6 45 k = g5 45 k := by rw [hg6]; exact congrFun (gP_ne (by decide)) k
    have hs := eX3_takeOut_w5 g x1 hv1 hv2 hv3 hv4 c1 hg4 hg5 hg6
    rw [hs]
    exact qg6.trans (qg5.trans (qg4))
set_option maxHeartbeats 4000000 in
set_option maxRecDepth 100000 in
theorem kX3_takeOut (l : Launch) (D : va_G) (ad : Nat → Nat) (cI : ClassId) (g : tG) (sz : Nat) (x1 : Int32) : Met l yX3_takeOut wsX3_takeOut ({ frames := 2, cells := 0, slots := 0, locals := 47 } : Room) (g_P D [(cI, .int)] (tcW ad cI g) [.ref (ad 43), .ref (ad 30), .int x1] sz) (g_Qv D [(cI, .int)] (va_A (tcW ad cI g) sz) (tcW ad cI (fX3_takeOut_w g x1))) 0 0 (va_A (tcW ad cI g) sz) := by
  refine Met.ofW (cc := cX3_takeOut) (maxL := 8) (ret := none) (by decide) rfl ?_
  intro p e s m args below meth c9 s₁ B hml hv
  obtain ⟨rfl, hsz, hP, hK, hD0⟩ := hv
  have hx := B.exec
  have hb := B.bytes
  have hr := B.returns
  have hts := atoms_spec (ws := wsX3_takeOut) B.pre
  have hown : s.vm.findClass RX3 = some m.cls := findClass_of_methodNamed B.named
  have hlocks := B.notSynchronized
  subst hsz
  have hD := hD0.self (sz := s.heap.size)
  generalize hAe : va_A (tcW ad cI g) s.heap.size = A at hD ⊢
  have hA : ∀ q : Nat, s.heap.size ≤ q → A q := fun q h => by rw [← hAe]; exact Or.inr h
  have hS : va_S A s.heap s.heap [] := va_S.rf
  have hl := lv_entry ([.ref (ad 43), .ref (ad 30), .int x1]) (n := 8) (Nat.le_of_ble_eq_true rfl)
  rw [lg_entry_eq]
  generalize (lg_sl ([.ref (ad 43), .ref (ad 30), .int x1]) ++ List.replicate (8 - (lg_sl ([.ref (ad 43), .ref (ad 30), .int x1])).length) Slot.unset).toArray = ls at hl ⊢
  have hl : lv_has ls 8 [(0, .ref (ad 43)), (1, .ref (ad 30)), (2, .int x1)] := hl
  have winX3 : ∀ w ∈ u_ws RX3 TX3 15, w ∈ wsX3_takeOut := by decide +kernel
  have winX5 : ∀ w ∈ u_ws RX5 TX5 1, w ∈ wsX3_takeOut := by decide +kernel
  have winX6 : ∀ w ∈ u_ws RX6 TX6 9, w ∈ wsX3_takeOut := by decide +kernel
  refine lv_aload_n hx hb dX3_takeOut_0 rfl (lv_at hl 1 rfl) ?_
  refine va_get (D := D) (ci := 6) (v := .ref (ad 39)) (C := RX6) (T := TX6) (N := 9) hx hb hts winX6 hown hK hP 30 rfl rfl 4 (by decide) (hts (.fieldLink RX3 66 "TapCap$Taps" "day" "LTapCap$Row;") (List.mem_of_getElem? (i := 1) rfl)) (fun _ h9 => h9) rfl dX3_takeOut_1 ?_
  refine lv_iload_n hx hb dX3_takeOut_4 rfl (lv_at hl 2 rfl) ?_
  refine g_ki hK hD hS hA (va_runV (As := [.int x1]) (rest := []) ⟨hx, hb, hml, hown, hts⟩ (k_tc_at l D ad cI g s.heap.size 17 (by decide) x1) (cwV 1 hts gX3_takeOut_X5_at rfl rfl rfl (by decide +kernel) ⟨Nat.le_of_ble_eq_true rfl, Nat.le_of_ble_eq_true rfl⟩) (g_preV hK hP hD (ci := 5) (q0 := 39) rfl rfl) rfl rfl hl.1 rfl (lv_room (Nat.le_of_ble_eq_true rfl)) dX3_takeOut_5 ⟨Nat.le_of_ble_eq_true rfl, Nat.le_of_ble_eq_true rfl⟩) (fun H locs hP hD hS => ?_)
  refine lv_topi (fun v1 hv1 => ?_)
  refine lv_istore_n (lv' := [(3, .int v1), (0, .ref (ad 43)), (1, .ref (ad 30)), (2, .int x1)]) hx hb dX3_takeOut_8 rfl hl (by decide) rfl (fun ls hl => ?_)
  refine lv_aload_n hx hb dX3_takeOut_9 rfl (lv_at hl 2 rfl) ?_
  refine va_get (D := D) (ci := 6) (v := .ref (ad 33)) (C := RX6) (T := TX6) (N := 9) hx hb hts winX6 hown hK hP 30 rfl rfl 1 (by decide) (hts (.fieldLink RX3 110 "TapCap$Taps" "stop" "LTapCap$Row;") (List.mem_of_getElem? (i := 2) rfl)) (fun _ h9 => h9) rfl dX3_takeOut_10 ?_
  refine lv_iload_n hx hb dX3_takeOut_13 rfl (lv_at hl 3 rfl) ?_
  refine g_ki hK hD hS hA (va_runV (As := [.int x1]) (rest := []) ⟨hx, hb, hml, hown, hts⟩ (k_tc_at l D ad cI g H.size 14 (by decide) x1) (cwV 1 hts gX3_takeOut_X5_at rfl rfl rfl (by decide +kernel) ⟨Nat.le_of_ble_eq_true rfl, Nat.le_of_ble_eq_true rfl⟩) (g_preV hK hP hD (ci := 5) (q0 := 33) rfl rfl) rfl rfl hl.1 rfl (lv_room (Nat.le_of_ble_eq_true rfl)) dX3_takeOut_14 ⟨Nat.le_of_ble_eq_true rfl, Nat.le_of_ble_eq_true rfl⟩) (fun H locs hP hD hS => ?_)
  refine lv_topi (fun v2 hv2 => ?_)
  refine lv_istore (lv' := [(4, .int v2), (3, .int v1), (0, .ref (ad 43)), (1, .ref (ad 30)), (2, .int x1)]) hx hb dX3_takeOut_17 hl (by decide) rfl (fun ls hl => ?_)
  refine lv_aload_n hx hb dX3_takeOut_19 rfl (lv_at hl 3 rfl) ?_
  refine va_get (D := D) (ci := 6) (v := .ref (ad 41)) (C := RX6) (T := TX6) (N := 9) hx hb hts winX6 hown hK hP 30 rfl rfl 5 (by decide) (hts (.fieldLink RX3 83 "TapCap$Taps" "minute" "LTapCap$Row;") (List.mem_of_getElem? (i := 3) rfl)) (fun _ h9 => h9) rfl dX3_takeOut_20 ?_
  refine lv_iload_n hx hb dX3_takeOut_23 rfl (lv_at hl 4 rfl) ?_
  refine g_ki hK hD hS hA (va_runV (As := [.int x1]) (rest := []) ⟨hx, hb, hml, hown, hts⟩ (k_tc_at l D ad cI g H.size 18 (by decide) x1) (cwV 1 hts gX3_takeOut_X5_at rfl rfl rfl (by decide +kernel) ⟨Nat.le_of_ble_eq_true rfl, Nat.le_of_ble_eq_true rfl⟩) (g_preV hK hP hD (ci := 5) (q0 := 41) rfl rfl) rfl rfl hl.1 rfl (lv_room (Nat.le_of_ble_eq_true rfl)) dX3_takeOut_24 ⟨Nat.le_of_ble_eq_true rfl, Nat.le_of_ble_eq_true rfl⟩) (fun H locs hP hD hS => ?_)
  refine lv_topi (fun v3 hv3 => ?_)
  refine lv_istore (lv' := [(5, .int v3), (4, .int v2), (3, .int v1), (0, .ref (ad 43)), (1, .ref (ad 30)), (2, .int x1)]) hx hb dX3_takeOut_27 hl (by decide) rfl (fun ls hl => ?_)
  refine lv_aload_n hx hb dX3_takeOut_29 rfl (lv_at hl 3 rfl) ?_
  refine va_get (D := D) (ci := 3) (v := .int (g 45 7)) (C := RX3) (T := TX3) (N := 15) hx hb hts winX3 hown hK hP 43 rfl rfl 10 (by decide) (hts (.fieldLink RX3 47 "TapCap$Legs" "count" "I") (List.mem_of_getElem? (i := 4) rfl)) (fun _ h9 => h9) rfl dX3_takeOut_30 ?_
  refine lv_iconst (v := 1) hx hb dX3_takeOut_33 (by decide) ?_
  refine lv_isub hx hb dX3_takeOut_34 ?_
  refine lv_topi (fun v4 hv4 => ?_)
  refine lv_istore (lv' := [(6, .int v4), (5, .int v3), (4, .int v2), (3, .int v1), (0, .ref (ad 43)), (1, .ref (ad 30)), (2, .int x1)]) hx hb dX3_takeOut_35 hl (by decide) rfl (fun ls hl => ?_)
  refine lv_aload_n hx hb dX3_takeOut_37 rfl (lv_at hl 4 rfl) ?_
  refine lv_iload_n hx hb dX3_takeOut_38 rfl (lv_at hl 3 rfl) ?_
  refine g_ki hK hD hS hA (va_runV (As := [.int v1]) (rest := []) ⟨hx, hb, hml, hown, hts⟩ (kX3_isOpenOn l D ad cI g H.size v1) (cwV 1 hts gX3_takeOut_X3_isOpenOn rfl rfl rfl (by decide +kernel) ⟨Nat.le_of_ble_eq_true rfl, Nat.le_of_ble_eq_true rfl⟩) (g_preV hK hP hD (ci := 3) (q0 := 43) rfl rfl) rfl rfl hl.1 rfl (lv_room (Nat.le_of_ble_eq_true rfl)) dX3_takeOut_39 ⟨Nat.le_of_ble_eq_true rfl, Nat.le_of_ble_eq_true rfl⟩) (fun H locs hP hD hS => ?_)
  refine lv_if_eq (tgt := 78) hx hb dX3_takeOut_42 (by decide) (fun c1 => ?_) (fun c1 => ?_)
  · refine lv_aload_n hx hb dX3_takeOut_78 rfl (lv_at hl 4 rfl) ?_
    refine va_get (D := D) (ci := 3) (v := .ref (ad 60)) (C := RX3) (T := TX3) (N := 15) hx hb hts winX3 hown hK hP 43 rfl rfl 8 (by decide) (hts (.fieldLink RX3 41 "TapCap$Legs" "countOn" "LTapCap$Row;") (List.mem_of_getElem? (i := 5) rfl)) (fun _ h9 => h9) rfl dX3_takeOut_79 ?_
    refine lv_iload_n hx hb dX3_takeOut_82 rfl (lv_at hl 3 rfl) ?_
    refine g_ki hK hD hS hA (va_runV (As := [.int v1]) (rest := []) ⟨hx, hb, hml, hown, hts⟩ (k_tc_at l D ad cI g H.size 27 (by decide) v1) (cwV 1 hts gX3_takeOut_X5_at rfl rfl rfl (by decide +kernel) ⟨Nat.le_of_ble_eq_true rfl, Nat.le_of_ble_eq_true rfl⟩) (g_preV hK hP hD (ci := 5) (q0 := 60) rfl rfl) rfl rfl hl.1 rfl (lv_room (Nat.le_of_ble_eq_true rfl)) dX3_takeOut_83 ⟨Nat.le_of_ble_eq_true rfl, Nat.le_of_ble_eq_true rfl⟩) (fun H locs hP hD hS => ?_)
    refine lv_if_le (tgt := 123) hx hb dX3_takeOut_86 (by decide) (fun c2 => ?_) (fun c2 => ?_)
    · refine lv_iconst (v := 0) hx hb dX3_takeOut_123 (by decide) ?_
      refine lv_istore (lv' := [(7, .int 0), (6, .int v4), (5, .int v3), (4, .int v2), (3, .int v1), (0, .ref (ad 43)), (1, .ref (ad 30)), (2, .int x1)]) hx hb dX3_takeOut_124 hl (by decide) rfl (fun ls hl => ?_)
      refine lv_iload hx hb dX3_takeOut_126 (lv_at hl 0 rfl) ?_
      refine lv_if_ne (tgt := 149) hx hb dX3_takeOut_128 (by decide) (fun c3 => ?_) (fun c3 => ?_)
      · exact absurd (by decide) c3
      · refine lv_aload_n hx hb dX3_takeOut_131 rfl (lv_at hl 5 rfl) ?_
        refine lv_iload_n hx hb dX3_takeOut_132 rfl (lv_at hl 4 rfl) ?_
        refine lv_iload hx hb dX3_takeOut_133 (lv_at hl 3 rfl) ?_
        refine lv_iload hx hb dX3_takeOut_135 (lv_at hl 2 rfl) ?_
        refine lv_aload_n hx hb dX3_takeOut_137 rfl (lv_at hl 6 rfl) ?_
        refine va_get (D := D) (ci := 6) (v := .ref (ad 35)) (C := RX6) (T := TX6) (N := 9) hx hb hts winX6 hown hK hP 30 rfl rfl 2 (by decide) (hts (.fieldLink RX3 117 "TapCap$Taps" "line" "LTapCap$Row;") (List.mem_of_getElem? (i := 6) rfl)) (fun _ h9 => h9) rfl dX3_takeOut_138 ?_
        refine lv_iload_n hx hb dX3_takeOut_141 rfl (lv_at hl 7 rfl) ?_
        refine g_ki hK hD hS hA (va_runV (As := [.int x1]) (rest := [.int v3, .int v2, .int v1, .ref (ad 43)]) ⟨hx, hb, hml, hown, hts⟩ (k_tc_at l D ad cI g H.size 15 (by decide) x1) (cwV 1 hts gX3_takeOut_X5_at rfl rfl rfl (by decide +kernel) ⟨Nat.le_of_ble_eq_true rfl, Nat.le_of_ble_eq_true rfl⟩) (g_preV hK hP hD (ci := 5) (q0 := 35) rfl rfl) rfl rfl hl.1 rfl (lv_room (Nat.le_of_ble_eq_true rfl)) dX3_takeOut_142 ⟨Nat.le_of_ble_eq_true rfl, Nat.le_of_ble_eq_true rfl⟩) (fun H locs hP hD hS => ?_)
        refine lv_iconst (v := 1) hx hb dX3_takeOut_145 (by decide) ?_
        refine g_kv hK hD hS hA (va_runV (As := [.int v1, .int v2, .int v3, .int (gA g 15 x1), .int 1]) (rest := []) ⟨hx, hb, hml, hown, hts⟩ (kX3_add l D ad cI g H.size v1 v2 v3 (gA g 15 x1) 1) (cwV 5 hts gX3_takeOut_X3_add rfl rfl rfl (by decide +kernel) ⟨Nat.le_of_ble_eq_true rfl, Nat.le_of_ble_eq_true rfl⟩) (g_preV hK hP hD (ci := 3) (q0 := 43) rfl rfl) rfl rfl hl.1 rfl (lv_room (Nat.le_of_ble_eq_true rfl)) dX3_takeOut_146 ⟨Nat.le_of_ble_eq_true rfl, Nat.le_of_ble_eq_true rfl⟩) (fun H locs hP hD hS => ?_)
        obtain ⟨g1, hg1⟩ : ∃ z : tG, z = fX3_add_w g v1 v2 v3 (gA g 15 x1) 1 := ⟨_, rfl⟩
        rw [← hg1] at hP hD
        have hw := eX3_takeOut_w1 g x1 hv1 hv2 hv3 hv4 c1 c2 hg1
        have hP := w_P9 hw hP
        have hD := w_D9 hw hD
        exact g_vret hx hb hr hlocks hK hP hD hS dX3_takeOut_149
    · refine lv_aload_n hx hb dX3_takeOut_89 rfl (lv_at hl 4 rfl) ?_
      refine va_get (D := D) (ci := 3) (v := .ref (ad 48)) (C := RX3) (T := TX3) (N := 15) hx hb hts winX3 hown hK hP 43 rfl rfl 2 (by decide) (hts (.fieldLink RX3 23 "TapCap$Legs" "to" "LTapCap$Row;") (List.mem_of_getElem? (i := 7) rfl)) (fun _ h9 => h9) rfl dX3_takeOut_90 ?_
      refine lv_iload hx hb dX3_takeOut_93 (lv_at hl 0 rfl) ?_
      refine g_ki hK hD hS hA (va_runV (As := [.int v4]) (rest := []) ⟨hx, hb, hml, hown, hts⟩ (k_tc_at l D ad cI g H.size 21 (by decide) v4) (cwV 1 hts gX3_takeOut_X5_at rfl rfl rfl (by decide +kernel) ⟨Nat.le_of_ble_eq_true rfl, Nat.le_of_ble_eq_true rfl⟩) (g_preV hK hP hD (ci := 5) (q0 := 48) rfl rfl) rfl rfl hl.1 rfl (lv_room (Nat.le_of_ble_eq_true rfl)) dX3_takeOut_95 ⟨Nat.le_of_ble_eq_true rfl, Nat.le_of_ble_eq_true rfl⟩) (fun H locs hP hD hS => ?_)
      refine lv_iload hx hb dX3_takeOut_98 (lv_at hl 2 rfl) ?_
      refine lv_icmp_ne (tgt := 123) hx hb dX3_takeOut_100 (by decide) (fun c4 => ?_) (fun c4 => ?_)
      · refine lv_iconst (v := 0) hx hb dX3_takeOut_123 (by decide) ?_
        refine lv_istore (lv' := [(7, .int 0), (6, .int v4), (5, .int v3), (4, .int v2), (3, .int v1), (0, .ref (ad 43)), (1, .ref (ad 30)), (2, .int x1)]) hx hb dX3_takeOut_124 hl (by decide) rfl (fun ls hl => ?_)
        refine lv_iload hx hb dX3_takeOut_126 (lv_at hl 0 rfl) ?_
        refine lv_if_ne (tgt := 149) hx hb dX3_takeOut_128 (by decide) (fun c5 => ?_) (fun c5 => ?_)
        · exact absurd (by decide) c5
        · refine lv_aload_n hx hb dX3_takeOut_131 rfl (lv_at hl 5 rfl) ?_
          refine lv_iload_n hx hb dX3_takeOut_132 rfl (lv_at hl 4 rfl) ?_
          refine lv_iload hx hb dX3_takeOut_133 (lv_at hl 3 rfl) ?_
          refine lv_iload hx hb dX3_takeOut_135 (lv_at hl 2 rfl) ?_
          refine lv_aload_n hx hb dX3_takeOut_137 rfl (lv_at hl 6 rfl) ?_
          refine va_get (D := D) (ci := 6) (v := .ref (ad 35)) (C := RX6) (T := TX6) (N := 9) hx hb hts winX6 hown hK hP 30 rfl rfl 2 (by decide) (hts (.fieldLink RX3 117 "TapCap$Taps" "line" "LTapCap$Row;") (List.mem_of_getElem? (i := 6) rfl)) (fun _ h9 => h9) rfl dX3_takeOut_138 ?_
          refine lv_iload_n hx hb dX3_takeOut_141 rfl (lv_at hl 7 rfl) ?_
          refine g_ki hK hD hS hA (va_runV (As := [.int x1]) (rest := [.int v3, .int v2, .int v1, .ref (ad 43)]) ⟨hx, hb, hml, hown, hts⟩ (k_tc_at l D ad cI g H.size 15 (by decide) x1) (cwV 1 hts gX3_takeOut_X5_at rfl rfl rfl (by decide +kernel) ⟨Nat.le_of_ble_eq_true rfl, Nat.le_of_ble_eq_true rfl⟩) (g_preV hK hP hD (ci := 5) (q0 := 35) rfl rfl) rfl rfl hl.1 rfl (lv_room (Nat.le_of_ble_eq_true rfl)) dX3_takeOut_142 ⟨Nat.le_of_ble_eq_true rfl, Nat.le_of_ble_eq_true rfl⟩) (fun H locs hP hD hS => ?_)
          refine lv_iconst (v := 1) hx hb dX3_takeOut_145 (by decide) ?_
          refine g_kv hK hD hS hA (va_runV (As := [.int v1, .int v2, .int v3, .int (gA g 15 x1), .int 1]) (rest := []) ⟨hx, hb, hml, hown, hts⟩ (kX3_add l D ad cI g H.size v1 v2 v3 (gA g 15 x1) 1) (cwV 5 hts gX3_takeOut_X3_add rfl rfl rfl (by decide +kernel) ⟨Nat.le_of_ble_eq_true rfl, Nat.le_of_ble_eq_true rfl⟩) (g_preV hK hP hD (ci := 3) (q0 := 43) rfl rfl) rfl rfl hl.1 rfl (lv_room (Nat.le_of_ble_eq_true rfl)) dX3_takeOut_146 ⟨Nat.le_of_ble_eq_true rfl, Nat.le_of_ble_eq_true rfl⟩) (fun H locs hP hD hS => ?_)
          obtain ⟨g2, hg2⟩ : ∃ z : tG, z = fX3_add_w g v1 v2 v3 (gA g 15 x1) 1 := ⟨_, rfl⟩
          rw [← hg2] at hP hD
          have hw := eX3_takeOut_w2 g x1 hv1 hv2 hv3 hv4 c1 c2 c4 hg2
          have hP := w_P9 hw hP
          have hD := w_D9 hw hD
          exact g_vret hx hb hr hlocks hK hP hD hS dX3_takeOut_149
      · refine lv_iload hx hb dX3_takeOut_103 (lv_at hl 1 rfl) ?_
        refine lv_aload_n hx hb dX3_takeOut_105 rfl (lv_at hl 4 rfl) ?_
        refine va_get (D := D) (ci := 3) (v := .ref (ad 52)) (C := RX3) (T := TX3) (N := 15) hx hb hts winX3 hown hK hP 43 rfl rfl 4 (by decide) (hts (.fieldLink RX3 29 "TapCap$Legs" "end" "LTapCap$Row;") (List.mem_of_getElem? (i := 8) rfl)) (fun _ h9 => h9) rfl dX3_takeOut_106 ?_
        refine lv_iload hx hb dX3_takeOut_109 (lv_at hl 0 rfl) ?_
        refine g_ki hK hD hS hA (va_runV (As := [.int v4]) (rest := [.int v3]) ⟨hx, hb, hml, hown, hts⟩ (k_tc_at l D ad cI g H.size 23 (by decide) v4) (cwV 1 hts gX3_takeOut_X5_at rfl rfl rfl (by decide +kernel) ⟨Nat.le_of_ble_eq_true rfl, Nat.le_of_ble_eq_true rfl⟩) (g_preV hK hP hD (ci := 5) (q0 := 52) rfl rfl) rfl rfl hl.1 rfl (lv_room (Nat.le_of_ble_eq_true rfl)) dX3_takeOut_111 ⟨Nat.le_of_ble_eq_true rfl, Nat.le_of_ble_eq_true rfl⟩) (fun H locs hP hD hS => ?_)
        refine lv_isub hx hb dX3_takeOut_114 ?_
        refine lv_iconst (v := 3) hx hb dX3_takeOut_115 (by decide) ?_
        refine lv_icmp_gt (tgt := 123) hx hb dX3_takeOut_116 (by decide) (fun c6 => ?_) (fun c6 => ?_)
        · refine lv_iconst (v := 0) hx hb dX3_takeOut_123 (by decide) ?_
          refine lv_istore (lv' := [(7, .int 0), (6, .int v4), (5, .int v3), (4, .int v2), (3, .int v1), (0, .ref (ad 43)), (1, .ref (ad 30)), (2, .int x1)]) hx hb dX3_takeOut_124 hl (by decide) rfl (fun ls hl => ?_)
          refine lv_iload hx hb dX3_takeOut_126 (lv_at hl 0 rfl) ?_
          refine lv_if_ne (tgt := 149) hx hb dX3_takeOut_128 (by decide) (fun c7 => ?_) (fun c7 => ?_)
          · exact absurd (by decide) c7
          · refine lv_aload_n hx hb dX3_takeOut_131 rfl (lv_at hl 5 rfl) ?_
            refine lv_iload_n hx hb dX3_takeOut_132 rfl (lv_at hl 4 rfl) ?_
            refine lv_iload hx hb dX3_takeOut_133 (lv_at hl 3 rfl) ?_
            refine lv_iload hx hb dX3_takeOut_135 (lv_at hl 2 rfl) ?_
            refine lv_aload_n hx hb dX3_takeOut_137 rfl (lv_at hl 6 rfl) ?_
            refine va_get (D := D) (ci := 6) (v := .ref (ad 35)) (C := RX6) (T := TX6) (N := 9) hx hb hts winX6 hown hK hP 30 rfl rfl 2 (by decide) (hts (.fieldLink RX3 117 "TapCap$Taps" "line" "LTapCap$Row;") (List.mem_of_getElem? (i := 6) rfl)) (fun _ h9 => h9) rfl dX3_takeOut_138 ?_
            refine lv_iload_n hx hb dX3_takeOut_141 rfl (lv_at hl 7 rfl) ?_
            refine g_ki hK hD hS hA (va_runV (As := [.int x1]) (rest := [.int v3, .int v2, .int v1, .ref (ad 43)]) ⟨hx, hb, hml, hown, hts⟩ (k_tc_at l D ad cI g H.size 15 (by decide) x1) (cwV 1 hts gX3_takeOut_X5_at rfl rfl rfl (by decide +kernel) ⟨Nat.le_of_ble_eq_true rfl, Nat.le_of_ble_eq_true rfl⟩) (g_preV hK hP hD (ci := 5) (q0 := 35) rfl rfl) rfl rfl hl.1 rfl (lv_room (Nat.le_of_ble_eq_true rfl)) dX3_takeOut_142 ⟨Nat.le_of_ble_eq_true rfl, Nat.le_of_ble_eq_true rfl⟩) (fun H locs hP hD hS => ?_)
            refine lv_iconst (v := 1) hx hb dX3_takeOut_145 (by decide) ?_
            refine g_kv hK hD hS hA (va_runV (As := [.int v1, .int v2, .int v3, .int (gA g 15 x1), .int 1]) (rest := []) ⟨hx, hb, hml, hown, hts⟩ (kX3_add l D ad cI g H.size v1 v2 v3 (gA g 15 x1) 1) (cwV 5 hts gX3_takeOut_X3_add rfl rfl rfl (by decide +kernel) ⟨Nat.le_of_ble_eq_true rfl, Nat.le_of_ble_eq_true rfl⟩) (g_preV hK hP hD (ci := 3) (q0 := 43) rfl rfl) rfl rfl hl.1 rfl (lv_room (Nat.le_of_ble_eq_true rfl)) dX3_takeOut_146 ⟨Nat.le_of_ble_eq_true rfl, Nat.le_of_ble_eq_true rfl⟩) (fun H locs hP hD hS => ?_)
            obtain ⟨g3, hg3⟩ : ∃ z : tG, z = fX3_add_w g v1 v2 v3 (gA g 15 x1) 1 := ⟨_, rfl⟩
            rw [← hg3] at hP hD
            have hw := eX3_takeOut_w3 g x1 hv1 hv2 hv3 hv4 c1 c2 c4 c6 hg3
            have hP := w_P9 hw hP
            have hD := w_D9 hw hD
            exact g_vret hx hb hr hlocks hK hP hD hS dX3_takeOut_149
        · refine lv_iconst (v := 1) hx hb dX3_takeOut_119 (by decide) ?_
          refine lv_goto (tgt := 124) hx hb dX3_takeOut_120 (by decide) ?_
          refine lv_istore (lv' := [(7, .int 1), (6, .int v4), (5, .int v3), (4, .int v2), (3, .int v1), (0, .ref (ad 43)), (1, .ref (ad 30)), (2, .int x1)]) hx hb dX3_takeOut_124 hl (by decide) rfl (fun ls hl => ?_)
          refine lv_iload hx hb dX3_takeOut_126 (lv_at hl 0 rfl) ?_
          refine lv_if_ne (tgt := 149) hx hb dX3_takeOut_128 (by decide) (fun c8 => ?_) (fun c8 => ?_)
          · have hw := eX3_takeOut_w4 g x1 hv1 hv2 hv3 hv4 c1 c2 c4 c6
            have hP := w_P9 hw hP
            have hD := w_D9 hw hD
            exact g_vret hx hb hr hlocks hK hP hD hS dX3_takeOut_149
          · exact absurd c8 (by decide)
  · refine lv_aload_n hx hb dX3_takeOut_45 rfl (lv_at hl 4 rfl) ?_
    refine va_get (D := D) (ci := 3) (v := .ref (ad 48)) (C := RX3) (T := TX3) (N := 15) hx hb hts winX3 hown hK hP 43 rfl rfl 2 (by decide) (hts (.fieldLink RX3 23 "TapCap$Legs" "to" "LTapCap$Row;") (List.mem_of_getElem? (i := 7) rfl)) (fun _ h9 => h9) rfl dX3_takeOut_46 ?_
    refine lv_iload hx hb dX3_takeOut_49 (lv_at hl 0 rfl) ?_
    refine lv_iload hx hb dX3_takeOut_51 (lv_at hl 2 rfl) ?_
    refine g_kv hK hD hS hA (va_runV (As := [.int v4, .int v2]) (rest := []) ⟨hx, hb, hml, hown, hts⟩ (k_tc_put l D ad cI g H.size 21 (by decide) v4 v2) (cwV 2 hts gX3_takeOut_X5_put rfl rfl rfl (by decide +kernel) ⟨Nat.le_of_ble_eq_true rfl, Nat.le_of_ble_eq_true rfl⟩) (g_preV hK hP hD (ci := 5) (q0 := 48) rfl rfl) rfl rfl hl.1 rfl (lv_room (Nat.le_of_ble_eq_true rfl)) dX3_takeOut_53 ⟨Nat.le_of_ble_eq_true rfl, Nat.le_of_ble_eq_true rfl⟩) (fun H locs hP hD hS => ?_)
    obtain ⟨g4, hg4⟩ : ∃ z : tG, z = gP g 21 v4 v2 := ⟨_, rfl⟩
    rw [← hg4] at hP hD
    refine lv_aload_n hx hb dX3_takeOut_56 rfl (lv_at hl 4 rfl) ?_
    refine va_get (D := D) (ci := 3) (v := .ref (ad 52)) (C := RX3) (T := TX3) (N := 15) hx hb hts winX3 hown hK hP 43 rfl rfl 4 (by decide) (hts (.fieldLink RX3 29 "TapCap$Legs" "end" "LTapCap$Row;") (List.mem_of_getElem? (i := 8) rfl)) (fun _ h9 => h9) rfl dX3_takeOut_57 ?_
    refine lv_iload hx hb dX3_takeOut_60 (lv_at hl 0 rfl) ?_
    refine lv_iload hx hb dX3_takeOut_62 (lv_at hl 1 rfl) ?_
    refine g_kv hK hD hS hA (va_runV (As := [.int v4, .int v3]) (rest := []) ⟨hx, hb, hml, hown, hts⟩ (k_tc_put l D ad cI g4 H.size 23 (by decide) v4 v3) (cwV 2 hts gX3_takeOut_X5_put rfl rfl rfl (by decide +kernel) ⟨Nat.le_of_ble_eq_true rfl, Nat.le_of_ble_eq_true rfl⟩) (g_preV hK hP hD (ci := 5) (q0 := 52) rfl rfl) rfl rfl hl.1 rfl (lv_room (Nat.le_of_ble_eq_true rfl)) dX3_takeOut_64 ⟨Nat.le_of_ble_eq_true rfl, Nat.le_of_ble_eq_true rfl⟩) (fun H locs hP hD hS => ?_)
    obtain ⟨g5, hg5⟩ : ∃ z : tG, z = gP g4 23 v4 v3 := ⟨_, rfl⟩
    rw [← hg5] at hP hD
    refine lv_aload_n hx hb dX3_takeOut_67 rfl (lv_at hl 4 rfl) ?_
    refine va_get (D := D) (ci := 3) (v := .ref (ad 56)) (C := RX3) (T := TX3) (N := 15) hx hb hts winX3 hown hK hP 43 rfl rfl 6 (by decide) (hts (.fieldLink RX3 35 "TapCap$Legs" "guessed" "LTapCap$Row;") (List.mem_of_getElem? (i := 9) rfl)) (fun _ h9 => h9) rfl dX3_takeOut_68 ?_
    refine lv_iload hx hb dX3_takeOut_71 (lv_at hl 0 rfl) ?_
    refine lv_iconst (v := 0) hx hb dX3_takeOut_73 (by decide) ?_
    refine g_kv hK hD hS hA (va_runV (As := [.int v4, .int 0]) (rest := []) ⟨hx, hb, hml, hown, hts⟩ (k_tc_put l D ad cI g5 H.size 25 (by decide) v4 0) (cwV 2 hts gX3_takeOut_X5_put rfl rfl rfl (by decide +kernel) ⟨Nat.le_of_ble_eq_true rfl, Nat.le_of_ble_eq_true rfl⟩) (g_preV hK hP hD (ci := 5) (q0 := 56) rfl rfl) rfl rfl hl.1 rfl (lv_room (Nat.le_of_ble_eq_true rfl)) dX3_takeOut_74 ⟨Nat.le_of_ble_eq_true rfl, Nat.le_of_ble_eq_true rfl⟩) (fun H locs hP hD hS => ?_)
    obtain ⟨g6, hg6⟩ : ∃ z : tG, z = gP g5 25 v4 0 := ⟨_, rfl⟩
    rw [← hg6] at hP hD
    have hw := eX3_takeOut_w5 g x1 hv1 hv2 hv3 hv4 c1 hg4 hg5 hg6
    have hP := w_P9 hw hP
    have hD := w_D9 hw hD
    exact g_vret hx hb hr hlocks hK hP hD hS dX3_takeOut_77
def sX3_likeliest_11 (x0 : Int32) (x1 : Int32) (x2 : Int32) : (Int32 × tG) → Option (Int32 × tG) := fun σ =>
  if (σ.2 45 7) ≤ σ.1 then
    none
  else
    if x2 = 0 then
      let v1 : Int32 := gA σ.2 21 σ.1
      if x0 ≤ (gA σ.2 19 σ.1) then
        some (σ.1 + 1, σ.2)
      else
        if (gA σ.2 25 σ.1) = 0 then
          if v1 = x1 then
            let g3 : tG := gD σ.2 31 (gA σ.2 20 σ.1) 1
            some (σ.1 + 1, g3)
          else
            some (σ.1 + 1, σ.2)
        else
          some (σ.1 + 1, σ.2)
    else
      let v2 : Int32 := gA σ.2 20 σ.1
      if x0 ≤ (gA σ.2 19 σ.1) then
        some (σ.1 + 1, σ.2)
      else
        if (gA σ.2 25 σ.1) = 0 then
          if v2 = x1 then
            let g4 : tG := gD σ.2 31 (gA σ.2 21 σ.1) 1
            some (σ.1 + 1, g4)
          else
            some (σ.1 + 1, σ.2)
        else
          some (σ.1 + 1, σ.2)
set_option maxRecDepth 20000 in
theorem eX3_likeliest_11_1 (x0 : Int32) (x1 : Int32) (x2 : Int32) (i1 : Int32) (g2 : tG) (c1 : (g2 45 7) ≤ i1) : sX3_likeliest_11 x0 x1 x2 (i1, g2) = none := by
  exact (if_pos c1).trans rfl
set_option maxRecDepth 20000 in
theorem eX3_likeliest_11_2 (x0 : Int32) (x1 : Int32) (x2 : Int32) (i1 : Int32) (g2 : tG) (c1 : ¬ ((g2 45 7) ≤ i1)) (c2 : x2 = 0) {v1 : Int32} (hv1 : v1 = gA g2 21 i1) (c3 : x0 ≤ (gA g2 19 i1)) : sX3_likeliest_11 x0 x1 x2 (i1, g2) = some (i1 + 1, g2) := by
  subst hv1
  exact (if_neg c1).trans ((if_pos c2).trans ((if_pos c3).trans rfl))
set_option maxRecDepth 20000 in
theorem eX3_likeliest_11_3 (x0 : Int32) (x1 : Int32) (x2 : Int32) (i1 : Int32) (g2 : tG) (c1 : ¬ ((g2 45 7) ≤ i1)) (c2 : x2 = 0) {v1 : Int32} (hv1 : v1 = gA g2 21 i1) (c3 : ¬ (x0 ≤ (gA g2 19 i1))) (c4 : ¬ ((gA g2 25 i1) = 0)) : sX3_likeliest_11 x0 x1 x2 (i1, g2) = some (i1 + 1, g2) := by
  subst hv1
  exact (if_neg c1).trans ((if_pos c2).trans ((if_neg c3).trans ((if_neg c4).trans rfl)))
set_option maxRecDepth 20000 in
theorem eX3_likeliest_11_4 (x0 : Int32) (x1 : Int32) (x2 : Int32) (i1 : Int32) (g2 : tG) (c1 : ¬ ((g2 45 7) ≤ i1)) (c2 : x2 = 0) {v1 : Int32} (hv1 : v1 = gA g2 21 i1) (c3 : ¬ (x0 ≤ (gA g2 19 i1))) (c4 : (gA g2 25 i1) = 0) (c5 : ¬ (v1 = x1)) : sX3_likeliest_11 x0 x1 x2 (i1, g2) = some (i1 + 1, g2) := by
  subst hv1
  exact (if_neg c1).trans ((if_pos c2).trans ((if_neg c3).trans ((if_pos c4).trans ((if_neg c5).trans rfl))))
set_option maxRecDepth 20000 in
theorem eX3_likeliest_11_5 (x0 : Int32) (x1 : Int32) (x2 : Int32) (i1 : Int32) (g2 : tG) (c1 : ¬ ((g2 45 7) ≤ i1)) (c2 : x2 = 0) {v1 : Int32} (hv1 : v1 = gA g2 21 i1) (c3 : ¬ (x0 ≤ (gA g2 19 i1))) (c4 : (gA g2 25 i1) = 0) (c5 : v1 = x1) {g3 : tG} (hg3 : g3 = gD g2 31 (gA g2 20 i1) 1) : sX3_likeliest_11 x0 x1 x2 (i1, g2) = some (i1 + 1, g3) := by
  subst hv1
  subst hg3
  exact (if_neg c1).trans ((if_pos c2).trans ((if_neg c3).trans ((if_pos c4).trans ((if_pos c5).trans rfl))))
set_option maxRecDepth 20000 in
theorem eX3_likeliest_11_6 (x0 : Int32) (x1 : Int32) (x2 : Int32) (i1 : Int32) (g2 : tG) (c1 : ¬ ((g2 45 7) ≤ i1)) (c2 : ¬ (x2 = 0)) {v2 : Int32} (hv2 : v2 = gA g2 20 i1) (c7 : x0 ≤ (gA g2 19 i1)) : sX3_likeliest_11 x0 x1 x2 (i1, g2) = some (i1 + 1, g2) := by
  subst hv2
  exact (if_neg c1).trans ((if_neg c2).trans ((if_pos c7).trans rfl))
set_option maxRecDepth 20000 in
theorem eX3_likeliest_11_7 (x0 : Int32) (x1 : Int32) (x2 : Int32) (i1 : Int32) (g2 : tG) (c1 : ¬ ((g2 45 7) ≤ i1)) (c2 : ¬ (x2 = 0)) {v2 : Int32} (hv2 : v2 = gA g2 20 i1) (c7 : ¬ (x0 ≤ (gA g2 19 i1))) (c8 : ¬ ((gA g2 25 i1) = 0)) : sX3_likeliest_11 x0 x1 x2 (i1, g2) = some (i1 + 1, g2) := by
  subst hv2
  exact (if_neg c1).trans ((if_neg c2).trans ((if_neg c7).trans ((if_neg c8).trans rfl)))
set_option maxRecDepth 20000 in
theorem eX3_likeliest_11_8 (x0 : Int32) (x1 : Int32) (x2 : Int32) (i1 : Int32) (g2 : tG) (c1 : ¬ ((g2 45 7) ≤ i1)) (c2 : ¬ (x2 = 0)) {v2 : Int32} (hv2 : v2 = gA g2 20 i1) (c7 : ¬ (x0 ≤ (gA g2 19 i1))) (c8 : (gA g2 25 i1) = 0) (c9 : ¬ (v2 = x1)) : sX3_likeliest_11 x0 x1 x2 (i1, g2) = some (i1 + 1, g2) := by
  subst hv2
  exact (if_neg c1).trans ((if_neg c2).trans ((if_neg c7).trans ((if_pos c8).trans ((if_neg c9).trans rfl))))
set_option maxRecDepth 20000 in
theorem eX3_likeliest_11_9 (x0 : Int32) (x1 : Int32) (x2 : Int32) (i1 : Int32) (g2 : tG) (c1 : ¬ ((g2 45 7) ≤ i1)) (c2 : ¬ (x2 = 0)) {v2 : Int32} (hv2 : v2 = gA g2 20 i1) (c7 : ¬ (x0 ≤ (gA g2 19 i1))) (c8 : (gA g2 25 i1) = 0) (c9 : v2 = x1) {g4 : tG} (hg4 : g4 = gD g2 31 (gA g2 21 i1) 1) : sX3_likeliest_11 x0 x1 x2 (i1, g2) = some (i1 + 1, g4) := by
  subst hv2
  subst hg4
  exact (if_neg c1).trans ((if_neg c2).trans ((if_neg c7).trans ((if_pos c8).trans ((if_pos c9).trans rfl))))
theorem fj_X3_likeliest_11 (x0 : Int32) (x1 : Int32) (x2 : Int32) (σ τ : Int32 × tG) (j : Nat) (h : j ∉ ([31] : List Nat)) (e : sX3_likeliest_11 x0 x1 x2 σ = some τ) : τ.2 j = σ.2 j := by
  obtain ⟨i1, g2⟩ := σ
  by_cases c1 : (g2 45 7) ≤ i1
  · have hs := eX3_likeliest_11_1 x0 x1 x2 i1 g2 c1
    rw [hs] at e
    cases e
  · by_cases c2 : x2 = 0
    · obtain ⟨v1, hv1⟩ : ∃ z : Int32, z = gA g2 21 i1 := ⟨_, rfl⟩
      by_cases c3 : x0 ≤ (gA g2 19 i1)
      · have hs := eX3_likeliest_11_2 x0 x1 x2 i1 g2 c1 c2 hv1 c3
        rw [hs] at e
        have e9 := Option.some.inj e
        subst e9
        exact rfl
      · by_cases c4 : (gA g2 25 i1) = 0
        · by_cases c5 : v1 = x1
          · obtain ⟨g3, hg3⟩ : ∃ z : tG, z = gD g2 31 (gA g2 20 i1) 1 := ⟨_, rfl⟩
            have qg3 : g3 j = g2 j := by rw [hg3]; exact gD_ne (fun e9 => h (by rw [e9]; decide))
            have hs := eX3_likeliest_11_5 x0 x1 x2 i1 g2 c1 c2 hv1 c3 c4 c5 hg3
            rw [hs] at e
            have e9 := Option.some.inj e
            subst e9
            exact qg3
          · have hs := eX3_likeliest_11_4 x0 x1 x2 i1 g2 c1 c2 hv1 c3 c4 c5
            rw [hs] at e
            have e9 := Option.some.inj e
            subst e9
            exact rfl
        · have hs := eX3_likeliest_11_3 x0 x1 x2 i1 g2 c1 c2 hv1 c3 c4
          rw [hs] at e
          have e9 := Option.some.inj e
          subst e9
          exact rfl
    · obtain ⟨v2, hv2⟩ : ∃ z : Int32, z = gA g2 20 i1 := ⟨_, rfl⟩
      by_cases c7 : x0 ≤ (gA g2 19 i1)
      · have hs := eX3_likeliest_11_6 x0 x1 x2 i1 g2 c1 c2 hv2 c7
        rw [hs] at e
        have e9 := Option.some.inj e
        subst e9
        exact rfl
      · by_cases c8 : (gA g2 25 i1) = 0
        · by_cases c9 : v2 = x1
          · obtain ⟨g4, hg4⟩ : ∃ z : tG, z = gD g2 31 (gA g2 21 i1) 1 := ⟨_, rfl⟩
            have qg4 : g4 j = g2 j := by rw [hg4]; exact gD_ne (fun e9 => h (by rw [e9]; decide))
            have hs := eX3_likeliest_11_9 x0 x1 x2 i1 g2 c1 c2 hv2 c7 c8 c9 hg4
            rw [hs] at e
            have e9 := Option.some.inj e
            subst e9
            exact qg4
          · have hs := eX3_likeliest_11_8 x0 x1 x2 i1 g2 c1 c2 hv2 c7 c8 c9
            rw [hs] at e
            have e9 := Option.some.inj e
            subst e9
            exact rfl
        · have hs := eX3_likeliest_11_7 x0 x1 x2 i1 g2 c1 c2 hv2 c7 c8
          rw [hs] at e
          have e9 := Option.some.inj e
          subst e9
          exact rfl
theorem fjX3_likeliest_11 (x0 : Int32) (x1 : Int32) (x2 : Int32) (n : Nat) (σ : Int32 × tG) (j : Nat) (h : j ∉ ([31] : List Nat)) : ((lp (sX3_likeliest_11 x0 x1 x2) n σ).2) j = σ.2 j :=
  lp_inv (fun τ => τ.2 j = σ.2 j) (fun a b e9 h9 => (fj_X3_likeliest_11 x0 x1 x2 a b j h e9).trans h9) n σ rfl
theorem tX3_likeliest_11 (x0 : Int32) (x1 : Int32) (x2 : Int32) (g2z : tG) : lpE (sX3_likeliest_11 x0 x1 x2) (nn ((g2z 45 7))) (0, g2z) := by
  refine lpE_upI (fun σ => σ.2 45 7 = (g2z 45 7)) (fun σ => σ.1) ((g2z 45 7)) ?_ _ _ rfl (nn_le _)
  intro σ τ hI h9
  have qk := congrFun (fj_X3_likeliest_11 x0 x1 x2 _ _ 45 (by decide) h9) 7
  obtain ⟨i1, g2⟩ := σ
  by_cases c1 : (g2 45 7) ≤ i1
  · have hs := eX3_likeliest_11_1 x0 x1 x2 i1 g2 c1
    rw [hs] at h9
    cases h9
  · by_cases c2 : x2 = 0
    · obtain ⟨v1, hv1⟩ : ∃ z : Int32, z = gA g2 21 i1 := ⟨_, rfl⟩
      by_cases c3 : x0 ≤ (gA g2 19 i1)
      · have hs := eX3_likeliest_11_2 x0 x1 x2 i1 g2 c1 c2 hv1 c3
        rw [hs] at h9
        have e9 := Option.some.inj h9
        subst e9
        exact ⟨qk.trans hI, lt_eq32 (not_le32 c1) hI, rfl⟩
      · by_cases c4 : (gA g2 25 i1) = 0
        · by_cases c5 : v1 = x1
          · obtain ⟨g3, hg3⟩ : ∃ z : tG, z = gD g2 31 (gA g2 20 i1) 1 := ⟨_, rfl⟩
            have hs := eX3_likeliest_11_5 x0 x1 x2 i1 g2 c1 c2 hv1 c3 c4 c5 hg3
            rw [hs] at h9
            have e9 := Option.some.inj h9
            subst e9
            exact ⟨qk.trans hI, lt_eq32 (not_le32 c1) hI, rfl⟩
          · have hs := eX3_likeliest_11_4 x0 x1 x2 i1 g2 c1 c2 hv1 c3 c4 c5
            rw [hs] at h9
            have e9 := Option.some.inj h9
            subst e9
            exact ⟨qk.trans hI, lt_eq32 (not_le32 c1) hI, rfl⟩
        · have hs := eX3_likeliest_11_3 x0 x1 x2 i1 g2 c1 c2 hv1 c3 c4
          rw [hs] at h9
          have e9 := Option.some.inj h9
          subst e9
          exact ⟨qk.trans hI, lt_eq32 (not_le32 c1) hI, rfl⟩
    · obtain ⟨v2, hv2⟩ : ∃ z : Int32, z = gA g2 20 i1 := ⟨_, rfl⟩
      by_cases c7 : x0 ≤ (gA g2 19 i1)
      · have hs := eX3_likeliest_11_6 x0 x1 x2 i1 g2 c1 c2 hv2 c7
        rw [hs] at h9
        have e9 := Option.some.inj h9
        subst e9
        exact ⟨qk.trans hI, lt_eq32 (not_le32 c1) hI, rfl⟩
      · by_cases c8 : (gA g2 25 i1) = 0
        · by_cases c9 : v2 = x1
          · obtain ⟨g4, hg4⟩ : ∃ z : tG, z = gD g2 31 (gA g2 21 i1) 1 := ⟨_, rfl⟩
            have hs := eX3_likeliest_11_9 x0 x1 x2 i1 g2 c1 c2 hv2 c7 c8 c9 hg4
            rw [hs] at h9
            have e9 := Option.some.inj h9
            subst e9
            exact ⟨qk.trans hI, lt_eq32 (not_le32 c1) hI, rfl⟩
          · have hs := eX3_likeliest_11_8 x0 x1 x2 i1 g2 c1 c2 hv2 c7 c8 c9
            rw [hs] at h9
            have e9 := Option.some.inj h9
            subst e9
            exact ⟨qk.trans hI, lt_eq32 (not_le32 c1) hI, rfl⟩
        · have hs := eX3_likeliest_11_7 x0 x1 x2 i1 g2 c1 c2 hv2 c7 c8
          rw [hs] at h9
          have e9 := Option.some.inj h9
          subst e9
          exact ⟨qk.trans hI, lt_eq32 (not_le32 c1) hI, rfl⟩
def sX3_likeliest_126 (r1 : Int32 × tG) : (Int32 × Int32 × Int32) → Option (Int32 × Int32 × Int32) := fun σ =>
  if 10 ≤ σ.1 then
    none
  else
    if (gA r1.2 31 σ.1) ≤ σ.2.1 then
      some (σ.1 + 1, σ.2.1, σ.2.2)
    else
      let v3 : Int32 := gA r1.2 31 σ.1
      some (σ.1 + 1, v3, σ.1)
set_option maxRecDepth 20000 in
theorem eX3_likeliest_126_1 (r1 : Int32 × tG) (i2 : Int32) (i3 : Int32) (i4 : Int32) (c11 : 10 ≤ i2) : sX3_likeliest_126 r1 (i2, i3, i4) = none := by
  exact (if_pos c11).trans rfl
set_option maxRecDepth 20000 in
theorem eX3_likeliest_126_2 (r1 : Int32 × tG) (i2 : Int32) (i3 : Int32) (i4 : Int32) (c11 : ¬ (10 ≤ i2)) (c12 : (gA r1.2 31 i2) ≤ i3) : sX3_likeliest_126 r1 (i2, i3, i4) = some (i2 + 1, i3, i4) := by
  exact (if_neg c11).trans ((if_pos c12).trans rfl)
set_option maxRecDepth 20000 in
theorem eX3_likeliest_126_3 (r1 : Int32 × tG) (i2 : Int32) (i3 : Int32) (i4 : Int32) (c11 : ¬ (10 ≤ i2)) (c12 : ¬ ((gA r1.2 31 i2) ≤ i3)) {v3 : Int32} (hv3 : v3 = gA r1.2 31 i2) : sX3_likeliest_126 r1 (i2, i3, i4) = some (i2 + 1, v3, i2) := by
  subst hv3
  exact (if_neg c11).trans ((if_neg c12).trans rfl)
theorem tX3_likeliest_126 (r1 : Int32 × tG) (i3z : Int32) (i4z : Int32) : lpE (sX3_likeliest_126 r1) 10 (0, i3z, i4z) := by
  refine lpE_up (fun σ => σ.1) 10 ?_ _ _ (by show (10 : Int32).toInt - (0 : Int32).toInt ≤ ((10 : Nat) : Int); decide)
  intro σ τ h9
  obtain ⟨i2, i3, i4⟩ := σ
  by_cases c11 : 10 ≤ i2
  · have hs := eX3_likeliest_126_1 r1 i2 i3 i4 c11
    rw [hs] at h9
    cases h9
  · by_cases c12 : (gA r1.2 31 i2) ≤ i3
    · have hs := eX3_likeliest_126_2 r1 i2 i3 i4 c11 c12
      rw [hs] at h9
      have e9 := Option.some.inj h9
      subst e9
      exact ⟨not_le32 c11, rfl⟩
    · obtain ⟨v3, hv3⟩ : ∃ z : Int32, z = gA r1.2 31 i2 := ⟨_, rfl⟩
      have hs := eX3_likeliest_126_3 r1 i2 i3 i4 c11 c12 hv3
      rw [hs] at h9
      have e9 := Option.some.inj h9
      subst e9
      exact ⟨not_le32 c11, rfl⟩
def fX3_likeliest_r (g : tG) (x0 : Int32) (x1 : Int32) (x2 : Int32) : Int32 :=
  let g1 : tG := gF g 31 0
  let r1 : Int32 × tG := lp (sX3_likeliest_11 x0 x1 x2) (nn ((g1 45 7))) (0, g1)
  let r2 : Int32 × Int32 × Int32 := lp (sX3_likeliest_126 r1) 10 (0, 0, x1)
  r2.2.2
def fX3_likeliest_w (g : tG) (x0 : Int32) (x1 : Int32) (x2 : Int32) : tG :=
  let g1 : tG := gF g 31 0
  let r1 : Int32 × tG := lp (sX3_likeliest_11 x0 x1 x2) (nn ((g1 45 7))) (0, g1)
  let r2 : Int32 × Int32 × Int32 := lp (sX3_likeliest_126 r1) 10 (0, 0, x1)
  r1.2
set_option maxRecDepth 20000 in
theorem eX3_likeliest_r1 (g : tG) (x0 : Int32) (x1 : Int32) (x2 : Int32) {g1 : tG} (hg1 : g1 = gF g 31 0) {r1 : Int32 × tG} (hr1 : r1 = lp (sX3_likeliest_11 x0 x1 x2) (nn ((g1 45 7))) (0, g1)) {r2 : Int32 × Int32 × Int32} (hr2 : r2 = lp (sX3_likeliest_126 r1) 10 (0, 0, x1)) : fX3_likeliest_r g x0 x1 x2 = r2.2.2 := by
  subst hg1
  subst hr1
  subst hr2
  exact rfl
set_option maxRecDepth 20000 in
theorem eX3_likeliest_w1 (g : tG) (x0 : Int32) (x1 : Int32) (x2 : Int32) {g1 : tG} (hg1 : g1 = gF g 31 0) {r1 : Int32 × tG} (hr1 : r1 = lp (sX3_likeliest_11 x0 x1 x2) (nn ((g1 45 7))) (0, g1)) {r2 : Int32 × Int32 × Int32} (hr2 : r2 = lp (sX3_likeliest_126 r1) 10 (0, 0, x1)) : fX3_likeliest_w g x0 x1 x2 = r1.2 := by
  subst hg1
  subst hr1
  subst hr2
  exact rfl
theorem fjX3_likeliest (g : tG) (x0 : Int32) (x1 : Int32) (x2 : Int32) (j : Nat) (h : j ∉ ([31] : List Nat)) : fX3_likeliest_w g x0 x1 x2 j = g j := by
  obtain ⟨g1, hg1⟩ : ∃ z : tG, z = gF g 31 0 := ⟨_, rfl⟩
  obtain ⟨r1, hr1⟩ : ∃ z : Int32 × tG, z = lp (sX3_likeliest_11 x0 x1 x2) (nn ((g1 45 7))) (0, g1) := ⟨_, rfl⟩
  obtain ⟨r2, hr2⟩ : ∃ z : Int32 × Int32 × Int32, z = lp (sX3_likeliest_126 r1) 10 (0, 0, x1) := ⟨_, rfl⟩
  have qg1 : g1 j = g j := by rw [hg1]; exact gF_ne (fun e9 => h (by rw [e9]; decide))
  have qr1 : r1.2 j = g1 j := by rw [hr1]; exact fjX3_likeliest_11 x0 x1 x2 _ _ j (fun hm => h (sub9 (a := [31]) (b := [31]) (by decide) hm))
  have hs := eX3_likeliest_w1 g x0 x1 x2 hg1 hr1 hr2
  rw [hs]
  exact qr1.trans (qg1)
set_option maxHeartbeats 4000000 in
set_option maxRecDepth 100000 in
theorem kX3_likeliest (l : Launch) (D : va_G) (ad : Nat → Nat) (cI : ClassId) (g : tG) (sz : Nat) (x0 : Int32) (x1 : Int32) (x2 : Int32) : Met l yX3_likeliest wsX3_likeliest ({ frames := 1, cells := 0, slots := 0, locals := 22 } : Room) (g_P D [(cI, .int)] (tcW ad cI g) [.ref (ad 43), .int x0, .int x1, .int x2] sz) (g_Qi D [(cI, .int)] (va_A (tcW ad cI g) sz) (tcW ad cI (fX3_likeliest_w g x0 x1 x2)) (fX3_likeliest_r g x0 x1 x2)) 0 0 (va_A (tcW ad cI g) sz) := by
  refine Met.ofW (cc := cX3_likeliest) (maxL := 7) (ret := (some .int)) (by decide) rfl ?_
  intro p e s m args below meth c9 s₁ B hml hv
  obtain ⟨rfl, hsz, hP, hK, hD0⟩ := hv
  have hx := B.exec
  have hb := B.bytes
  have hr := B.returns
  have hts := atoms_spec (ws := wsX3_likeliest) B.pre
  have hown : s.vm.findClass RX3 = some m.cls := findClass_of_methodNamed B.named
  have hlocks := B.notSynchronized
  subst hsz
  have hD := hD0.self (sz := s.heap.size)
  generalize hAe : va_A (tcW ad cI g) s.heap.size = A at hD ⊢
  have hA : ∀ q : Nat, s.heap.size ≤ q → A q := fun q h => by rw [← hAe]; exact Or.inr h
  have hS : va_S A s.heap s.heap [] := va_S.rf
  have hl := lv_entry ([.ref (ad 43), .int x0, .int x1, .int x2]) (n := 7) (Nat.le_of_ble_eq_true rfl)
  rw [lg_entry_eq]
  generalize (lg_sl ([.ref (ad 43), .int x0, .int x1, .int x2]) ++ List.replicate (7 - (lg_sl ([.ref (ad 43), .int x0, .int x1, .int x2])).length) Slot.unset).toArray = ls at hl ⊢
  have hl : lv_has ls 7 [(0, .ref (ad 43)), (1, .int x0), (2, .int x1), (3, .int x2)] := hl
  have winX3 : ∀ w ∈ u_ws RX3 TX3 15, w ∈ wsX3_likeliest := by decide +kernel
  have winX5 : ∀ w ∈ u_ws RX5 TX5 1, w ∈ wsX3_likeliest := by decide +kernel
  refine lv_aload_n hx hb dX3_likeliest_0 rfl (lv_at hl 0 rfl) ?_
  refine va_get (D := D) (ci := 3) (v := .ref (ad 68)) (C := RX3) (T := TX3) (N := 15) hx hb hts winX3 hown hK hP 43 rfl rfl 13 (by decide) (hts (.fieldLink RX3 57 "TapCap$Legs" "votes" "LTapCap$Row;") (List.mem_of_getElem? (i := 1) rfl)) (fun _ h9 => h9) rfl dX3_likeliest_1 ?_
  refine lv_iconst (v := 0) hx hb dX3_likeliest_4 (by decide) ?_
  refine g_kv hK hD hS hA (va_runV (As := [.int 0]) (rest := []) ⟨hx, hb, hml, hown, hts⟩ (k_tc_fill l D ad cI g s.heap.size 31 (by decide) 0) (cwV 1 hts gX3_likeliest_X5_fill rfl rfl rfl (by decide +kernel) ⟨Nat.le_of_ble_eq_true rfl, Nat.le_of_ble_eq_true rfl⟩) (g_preV hK hP hD (ci := 5) (q0 := 68) rfl rfl) rfl rfl hl.1 rfl (lv_room (Nat.le_of_ble_eq_true rfl)) dX3_likeliest_5 ⟨Nat.le_of_ble_eq_true rfl, Nat.le_of_ble_eq_true rfl⟩) (fun H locs hP hD hS => ?_)
  obtain ⟨g1, hg1⟩ : ∃ z : tG, z = gF g 31 0 := ⟨_, rfl⟩
  rw [← hg1] at hP hD
  refine lv_iconst (v := 0) hx hb dX3_likeliest_8 (by decide) ?_
  refine lv_istore (lv' := [(4, .int 0), (0, .ref (ad 43)), (1, .int x0), (2, .int x1), (3, .int x2)]) hx hb dX3_likeliest_9 hl (by decide) rfl (fun ls hl => ?_)
  have loop11 : ∀ (n : Nat)  (i1 : Int32) (g2 : tG), lpE (sX3_likeliest_11 x0 x1 x2) n (i1, g2) → ∀ (H : Heap) (locs : List Loc), va_P D vwCl (tcW ad cI g2) H → va_D A (tcW ad cI g2) → va_S A s.heap H locs → ∀ (ls : Array Slot), lv_has ls 7 [(4, .int i1), (0, .ref (ad 43)), (1, .int x0), (2, .int x1), (3, .int x2)] → (∀ r : Int32 × tG, r = lp (sX3_likeliest_11 x0 x1 x2) n (i1, g2) → ∀ (H : Heap) (locs : List Loc), va_P D vwCl (tcW ad cI r.2) H → va_D A (tcW ad cI r.2) → va_S A s.heap H locs → ∀ (ls : Array Slot), lv_has ls 7 [(4, .int r.1), (0, .ref (ad 43)), (1, .int x0), (2, .int x1), (3, .int x2)] → W p l e (headSpec wsX3_likeliest ({ frames := 1, cells := 0, slots := 0, locals := 22 } : Room)).room s m ([.ref (ad 43), .int x0, .int x1, .int x2] : List Value).toArray below meth c9 H locs 0 0 (MQ below (g_Qi D [(cI, .int)] A (tcW ad cI (fX3_likeliest_w g x0 x1 x2)) (fX3_likeliest_r g x0 x1 x2)) ([.ref (ad 43), .int x0, .int x1, .int x2] : List Value).toArray s 0 0 A) (F0 m 117 ls [])) → W p l e (headSpec wsX3_likeliest ({ frames := 1, cells := 0, slots := 0, locals := 22 } : Room)).room s m ([.ref (ad 43), .int x0, .int x1, .int x2] : List Value).toArray below meth c9 H locs 0 0 (MQ below (g_Qi D [(cI, .int)] A (tcW ad cI (fX3_likeliest_w g x0 x1 x2)) (fX3_likeliest_r g x0 x1 x2)) ([.ref (ad 43), .int x0, .int x1, .int x2] : List Value).toArray s 0 0 A) (F0 m 11 ls []) := by
    refine lp_ind ?_
    intro n ih i1 g2 hE H locs hP hD hS ls hl kk
    refine lv_iload hx hb dX3_likeliest_11 (lv_at hl 0 rfl) ?_
    refine lv_aload_n hx hb dX3_likeliest_13 rfl (lv_at hl 1 rfl) ?_
    refine va_get (D := D) (ci := 3) (v := .int (g2 45 7)) (C := RX3) (T := TX3) (N := 15) hx hb hts winX3 hown hK hP 43 rfl rfl 10 (by decide) (hts (.fieldLink RX3 47 "TapCap$Legs" "count" "I") (List.mem_of_getElem? (i := 2) rfl)) (fun _ h9 => h9) rfl dX3_likeliest_14 ?_
    refine lv_icmp_ge (tgt := 117) hx hb dX3_likeliest_17 (by decide) (fun c1 => ?_) (fun c1 => ?_)
    · have hs := eX3_likeliest_11_1 x0 x1 x2 i1 g2 c1
      exact kk _ (lp_none hs).symm H locs hP hD hS ls (lv_sub hl [0, 1, 2, 3, 4] rfl)
    · refine lv_iload_n hx hb dX3_likeliest_20 rfl (lv_at hl 4 rfl) ?_
      refine lv_if_eq (tgt := 36) hx hb dX3_likeliest_21 (by decide) (fun c2 => ?_) (fun c2 => ?_)
      · refine lv_aload_n hx hb dX3_likeliest_36 rfl (lv_at hl 1 rfl) ?_
        refine va_get (D := D) (ci := 3) (v := .ref (ad 48)) (C := RX3) (T := TX3) (N := 15) hx hb hts winX3 hown hK hP 43 rfl rfl 2 (by decide) (hts (.fieldLink RX3 23 "TapCap$Legs" "to" "LTapCap$Row;") (List.mem_of_getElem? (i := 4) rfl)) (fun _ h9 => h9) rfl dX3_likeliest_37 ?_
        refine lv_iload hx hb dX3_likeliest_40 (lv_at hl 0 rfl) ?_
        refine g_ki hK hD hS hA (va_runV (As := [.int i1]) (rest := []) ⟨hx, hb, hml, hown, hts⟩ (k_tc_at l D ad cI g2 H.size 21 (by decide) i1) (cwV 1 hts gX3_likeliest_X5_at rfl rfl rfl (by decide +kernel) ⟨Nat.le_of_ble_eq_true rfl, Nat.le_of_ble_eq_true rfl⟩) (g_preV hK hP hD (ci := 5) (q0 := 48) rfl rfl) rfl rfl hl.1 rfl (lv_room (Nat.le_of_ble_eq_true rfl)) dX3_likeliest_42 ⟨Nat.le_of_ble_eq_true rfl, Nat.le_of_ble_eq_true rfl⟩) (fun H locs hP hD hS => ?_)
        refine lv_topi (fun v1 hv1 => ?_)
        refine lv_istore (lv' := [(5, .int v1), (4, .int i1), (0, .ref (ad 43)), (1, .int x0), (2, .int x1), (3, .int x2)]) hx hb dX3_likeliest_45 hl (by decide) rfl (fun ls hl => ?_)
        refine lv_aload_n hx hb dX3_likeliest_47 rfl (lv_at hl 2 rfl) ?_
        refine va_get (D := D) (ci := 3) (v := .ref (ad 44)) (C := RX3) (T := TX3) (N := 15) hx hb hts winX3 hown hK hP 43 rfl rfl 0 (by decide) (hts (.fieldLink RX3 14 "TapCap$Legs" "dayOf" "LTapCap$Row;") (List.mem_of_getElem? (i := 5) rfl)) (fun _ h9 => h9) rfl dX3_likeliest_48 ?_
        refine lv_iload hx hb dX3_likeliest_51 (lv_at hl 1 rfl) ?_
        refine g_ki hK hD hS hA (va_runV (As := [.int i1]) (rest := []) ⟨hx, hb, hml, hown, hts⟩ (k_tc_at l D ad cI g2 H.size 19 (by decide) i1) (cwV 1 hts gX3_likeliest_X5_at rfl rfl rfl (by decide +kernel) ⟨Nat.le_of_ble_eq_true rfl, Nat.le_of_ble_eq_true rfl⟩) (g_preV hK hP hD (ci := 5) (q0 := 44) rfl rfl) rfl rfl hl.1 rfl (lv_room (Nat.le_of_ble_eq_true rfl)) dX3_likeliest_53 ⟨Nat.le_of_ble_eq_true rfl, Nat.le_of_ble_eq_true rfl⟩) (fun H locs hP hD hS => ?_)
        refine lv_iload_n hx hb dX3_likeliest_56 rfl (lv_at hl 3 rfl) ?_
        refine lv_icmp_ge (tgt := 111) hx hb dX3_likeliest_57 (by decide) (fun c3 => ?_) (fun c3 => ?_)
        · refine lv_iinc (v := i1 + 1) (lv' := [(4, .int (i1 + 1)), (5, .int v1), (0, .ref (ad 43)), (1, .int x0), (2, .int x1), (3, .int x2)]) hx hb dX3_likeliest_111 hl (k := 1) rfl rfl (by decide) rfl (fun ls hl => ?_)
          refine lv_goto (tgt := 11) hx hb dX3_likeliest_114 (by decide) ?_
          have hs := eX3_likeliest_11_2 x0 x1 x2 i1 g2 c1 c2 hv1 c3
          obtain ⟨n9, hn9, hE9, hr9⟩ := lpE_next hE hs
          exact ih n9 (by omega) (i1 + 1) g2 hE9 H locs hP hD hS ls (lv_sub hl [0, 2, 3, 4, 5] rfl) (fun r hr => kk r (hr.trans hr9.symm))
        · refine lv_aload_n hx hb dX3_likeliest_60 rfl (lv_at hl 2 rfl) ?_
          refine va_get (D := D) (ci := 3) (v := .ref (ad 56)) (C := RX3) (T := TX3) (N := 15) hx hb hts winX3 hown hK hP 43 rfl rfl 6 (by decide) (hts (.fieldLink RX3 35 "TapCap$Legs" "guessed" "LTapCap$Row;") (List.mem_of_getElem? (i := 6) rfl)) (fun _ h9 => h9) rfl dX3_likeliest_61 ?_
          refine lv_iload hx hb dX3_likeliest_64 (lv_at hl 1 rfl) ?_
          refine g_ki hK hD hS hA (va_runV (As := [.int i1]) (rest := []) ⟨hx, hb, hml, hown, hts⟩ (k_tc_at l D ad cI g2 H.size 25 (by decide) i1) (cwV 1 hts gX3_likeliest_X5_at rfl rfl rfl (by decide +kernel) ⟨Nat.le_of_ble_eq_true rfl, Nat.le_of_ble_eq_true rfl⟩) (g_preV hK hP hD (ci := 5) (q0 := 56) rfl rfl) rfl rfl hl.1 rfl (lv_room (Nat.le_of_ble_eq_true rfl)) dX3_likeliest_66 ⟨Nat.le_of_ble_eq_true rfl, Nat.le_of_ble_eq_true rfl⟩) (fun H locs hP hD hS => ?_)
          refine lv_if_ne (tgt := 111) hx hb dX3_likeliest_69 (by decide) (fun c4 => ?_) (fun c4 => ?_)
          · refine lv_iinc (v := i1 + 1) (lv' := [(4, .int (i1 + 1)), (5, .int v1), (0, .ref (ad 43)), (1, .int x0), (2, .int x1), (3, .int x2)]) hx hb dX3_likeliest_111 hl (k := 1) rfl rfl (by decide) rfl (fun ls hl => ?_)
            refine lv_goto (tgt := 11) hx hb dX3_likeliest_114 (by decide) ?_
            have hs := eX3_likeliest_11_3 x0 x1 x2 i1 g2 c1 c2 hv1 c3 c4
            obtain ⟨n9, hn9, hE9, hr9⟩ := lpE_next hE hs
            exact ih n9 (by omega) (i1 + 1) g2 hE9 H locs hP hD hS ls (lv_sub hl [0, 2, 3, 4, 5] rfl) (fun r hr => kk r (hr.trans hr9.symm))
          · refine lv_iload hx hb dX3_likeliest_72 (lv_at hl 0 rfl) ?_
            refine lv_iload_n hx hb dX3_likeliest_74 rfl (lv_at hl 4 rfl) ?_
            refine lv_icmp_ne (tgt := 111) hx hb dX3_likeliest_75 (by decide) (fun c5 => ?_) (fun c5 => ?_)
            · refine lv_iinc (v := i1 + 1) (lv' := [(4, .int (i1 + 1)), (5, .int v1), (0, .ref (ad 43)), (1, .int x0), (2, .int x1), (3, .int x2)]) hx hb dX3_likeliest_111 hl (k := 1) rfl rfl (by decide) rfl (fun ls hl => ?_)
              refine lv_goto (tgt := 11) hx hb dX3_likeliest_114 (by decide) ?_
              have hs := eX3_likeliest_11_4 x0 x1 x2 i1 g2 c1 c2 hv1 c3 c4 c5
              obtain ⟨n9, hn9, hE9, hr9⟩ := lpE_next hE hs
              exact ih n9 (by omega) (i1 + 1) g2 hE9 H locs hP hD hS ls (lv_sub hl [0, 2, 3, 4, 5] rfl) (fun r hr => kk r (hr.trans hr9.symm))
            · refine lv_aload_n hx hb dX3_likeliest_78 rfl (lv_at hl 2 rfl) ?_
              refine va_get (D := D) (ci := 3) (v := .ref (ad 68)) (C := RX3) (T := TX3) (N := 15) hx hb hts winX3 hown hK hP 43 rfl rfl 13 (by decide) (hts (.fieldLink RX3 57 "TapCap$Legs" "votes" "LTapCap$Row;") (List.mem_of_getElem? (i := 1) rfl)) (fun _ h9 => h9) rfl dX3_likeliest_79 ?_
              refine lv_iload_n hx hb dX3_likeliest_82 rfl (lv_at hl 5 rfl) ?_
              refine lv_if_eq (tgt := 98) hx hb dX3_likeliest_83 (by decide) (fun c6 => ?_) (fun c6 => ?_)
              · refine lv_aload_n hx hb dX3_likeliest_98 rfl (lv_at hl 2 rfl) ?_
                refine va_get (D := D) (ci := 3) (v := .ref (ad 46)) (C := RX3) (T := TX3) (N := 15) hx hb hts winX3 hown hK hP 43 rfl rfl 1 (by decide) (hts (.fieldLink RX3 20 "TapCap$Legs" "from" "LTapCap$Row;") (List.mem_of_getElem? (i := 3) rfl)) (fun _ h9 => h9) rfl dX3_likeliest_99 ?_
                refine lv_iload hx hb dX3_likeliest_102 (lv_at hl 1 rfl) ?_
                refine g_ki hK hD hS hA (va_runV (As := [.int i1]) (rest := [.ref (ad 68)]) ⟨hx, hb, hml, hown, hts⟩ (k_tc_at l D ad cI g2 H.size 20 (by decide) i1) (cwV 1 hts gX3_likeliest_X5_at rfl rfl rfl (by decide +kernel) ⟨Nat.le_of_ble_eq_true rfl, Nat.le_of_ble_eq_true rfl⟩) (g_preV hK hP hD (ci := 5) (q0 := 46) rfl rfl) rfl rfl hl.1 rfl (lv_room (Nat.le_of_ble_eq_true rfl)) dX3_likeliest_104 ⟨Nat.le_of_ble_eq_true rfl, Nat.le_of_ble_eq_true rfl⟩) (fun H locs hP hD hS => ?_)
                refine lv_iconst (v := 1) hx hb dX3_likeliest_107 (by decide) ?_
                refine g_kv hK hD hS hA (va_runV (As := [.int (gA g2 20 i1), .int 1]) (rest := []) ⟨hx, hb, hml, hown, hts⟩ (k_tc_add l D ad cI g2 H.size 31 (by decide) (gA g2 20 i1) 1) (cwV 2 hts gX3_likeliest_X5_add rfl rfl rfl (by decide +kernel) ⟨Nat.le_of_ble_eq_true rfl, Nat.le_of_ble_eq_true rfl⟩) (g_preV hK hP hD (ci := 5) (q0 := 68) rfl rfl) rfl rfl hl.1 rfl (lv_room (Nat.le_of_ble_eq_true rfl)) dX3_likeliest_108 ⟨Nat.le_of_ble_eq_true rfl, Nat.le_of_ble_eq_true rfl⟩) (fun H locs hP hD hS => ?_)
                obtain ⟨g3, hg3⟩ : ∃ z : tG, z = gD g2 31 (gA g2 20 i1) 1 := ⟨_, rfl⟩
                rw [← hg3] at hP hD
                refine lv_iinc (v := i1 + 1) (lv' := [(4, .int (i1 + 1)), (5, .int v1), (0, .ref (ad 43)), (1, .int x0), (2, .int x1), (3, .int x2)]) hx hb dX3_likeliest_111 hl (k := 1) rfl rfl (by decide) rfl (fun ls hl => ?_)
                refine lv_goto (tgt := 11) hx hb dX3_likeliest_114 (by decide) ?_
                have hs := eX3_likeliest_11_5 x0 x1 x2 i1 g2 c1 c2 hv1 c3 c4 c5 hg3
                obtain ⟨n9, hn9, hE9, hr9⟩ := lpE_next hE hs
                exact ih n9 (by omega) (i1 + 1) g3 hE9 H locs hP hD hS ls (lv_sub hl [0, 2, 3, 4, 5] rfl) (fun r hr => kk r (hr.trans hr9.symm))
              · exact absurd c2 c6
      · refine lv_aload_n hx hb dX3_likeliest_24 rfl (lv_at hl 1 rfl) ?_
        refine va_get (D := D) (ci := 3) (v := .ref (ad 46)) (C := RX3) (T := TX3) (N := 15) hx hb hts winX3 hown hK hP 43 rfl rfl 1 (by decide) (hts (.fieldLink RX3 20 "TapCap$Legs" "from" "LTapCap$Row;") (List.mem_of_getElem? (i := 3) rfl)) (fun _ h9 => h9) rfl dX3_likeliest_25 ?_
        refine lv_iload hx hb dX3_likeliest_28 (lv_at hl 0 rfl) ?_
        refine g_ki hK hD hS hA (va_runV (As := [.int i1]) (rest := []) ⟨hx, hb, hml, hown, hts⟩ (k_tc_at l D ad cI g2 H.size 20 (by decide) i1) (cwV 1 hts gX3_likeliest_X5_at rfl rfl rfl (by decide +kernel) ⟨Nat.le_of_ble_eq_true rfl, Nat.le_of_ble_eq_true rfl⟩) (g_preV hK hP hD (ci := 5) (q0 := 46) rfl rfl) rfl rfl hl.1 rfl (lv_room (Nat.le_of_ble_eq_true rfl)) dX3_likeliest_30 ⟨Nat.le_of_ble_eq_true rfl, Nat.le_of_ble_eq_true rfl⟩) (fun H locs hP hD hS => ?_)
        refine lv_goto (tgt := 45) hx hb dX3_likeliest_33 (by decide) ?_
        refine lv_topi (fun v2 hv2 => ?_)
        refine lv_istore (lv' := [(5, .int v2), (4, .int i1), (0, .ref (ad 43)), (1, .int x0), (2, .int x1), (3, .int x2)]) hx hb dX3_likeliest_45 hl (by decide) rfl (fun ls hl => ?_)
        refine lv_aload_n hx hb dX3_likeliest_47 rfl (lv_at hl 2 rfl) ?_
        refine va_get (D := D) (ci := 3) (v := .ref (ad 44)) (C := RX3) (T := TX3) (N := 15) hx hb hts winX3 hown hK hP 43 rfl rfl 0 (by decide) (hts (.fieldLink RX3 14 "TapCap$Legs" "dayOf" "LTapCap$Row;") (List.mem_of_getElem? (i := 5) rfl)) (fun _ h9 => h9) rfl dX3_likeliest_48 ?_
        refine lv_iload hx hb dX3_likeliest_51 (lv_at hl 1 rfl) ?_
        refine g_ki hK hD hS hA (va_runV (As := [.int i1]) (rest := []) ⟨hx, hb, hml, hown, hts⟩ (k_tc_at l D ad cI g2 H.size 19 (by decide) i1) (cwV 1 hts gX3_likeliest_X5_at rfl rfl rfl (by decide +kernel) ⟨Nat.le_of_ble_eq_true rfl, Nat.le_of_ble_eq_true rfl⟩) (g_preV hK hP hD (ci := 5) (q0 := 44) rfl rfl) rfl rfl hl.1 rfl (lv_room (Nat.le_of_ble_eq_true rfl)) dX3_likeliest_53 ⟨Nat.le_of_ble_eq_true rfl, Nat.le_of_ble_eq_true rfl⟩) (fun H locs hP hD hS => ?_)
        refine lv_iload_n hx hb dX3_likeliest_56 rfl (lv_at hl 3 rfl) ?_
        refine lv_icmp_ge (tgt := 111) hx hb dX3_likeliest_57 (by decide) (fun c7 => ?_) (fun c7 => ?_)
        · refine lv_iinc (v := i1 + 1) (lv' := [(4, .int (i1 + 1)), (5, .int v2), (0, .ref (ad 43)), (1, .int x0), (2, .int x1), (3, .int x2)]) hx hb dX3_likeliest_111 hl (k := 1) rfl rfl (by decide) rfl (fun ls hl => ?_)
          refine lv_goto (tgt := 11) hx hb dX3_likeliest_114 (by decide) ?_
          have hs := eX3_likeliest_11_6 x0 x1 x2 i1 g2 c1 c2 hv2 c7
          obtain ⟨n9, hn9, hE9, hr9⟩ := lpE_next hE hs
          exact ih n9 (by omega) (i1 + 1) g2 hE9 H locs hP hD hS ls (lv_sub hl [0, 2, 3, 4, 5] rfl) (fun r hr => kk r (hr.trans hr9.symm))
        · refine lv_aload_n hx hb dX3_likeliest_60 rfl (lv_at hl 2 rfl) ?_
          refine va_get (D := D) (ci := 3) (v := .ref (ad 56)) (C := RX3) (T := TX3) (N := 15) hx hb hts winX3 hown hK hP 43 rfl rfl 6 (by decide) (hts (.fieldLink RX3 35 "TapCap$Legs" "guessed" "LTapCap$Row;") (List.mem_of_getElem? (i := 6) rfl)) (fun _ h9 => h9) rfl dX3_likeliest_61 ?_
          refine lv_iload hx hb dX3_likeliest_64 (lv_at hl 1 rfl) ?_
          refine g_ki hK hD hS hA (va_runV (As := [.int i1]) (rest := []) ⟨hx, hb, hml, hown, hts⟩ (k_tc_at l D ad cI g2 H.size 25 (by decide) i1) (cwV 1 hts gX3_likeliest_X5_at rfl rfl rfl (by decide +kernel) ⟨Nat.le_of_ble_eq_true rfl, Nat.le_of_ble_eq_true rfl⟩) (g_preV hK hP hD (ci := 5) (q0 := 56) rfl rfl) rfl rfl hl.1 rfl (lv_room (Nat.le_of_ble_eq_true rfl)) dX3_likeliest_66 ⟨Nat.le_of_ble_eq_true rfl, Nat.le_of_ble_eq_true rfl⟩) (fun H locs hP hD hS => ?_)
          refine lv_if_ne (tgt := 111) hx hb dX3_likeliest_69 (by decide) (fun c8 => ?_) (fun c8 => ?_)
          · refine lv_iinc (v := i1 + 1) (lv' := [(4, .int (i1 + 1)), (5, .int v2), (0, .ref (ad 43)), (1, .int x0), (2, .int x1), (3, .int x2)]) hx hb dX3_likeliest_111 hl (k := 1) rfl rfl (by decide) rfl (fun ls hl => ?_)
            refine lv_goto (tgt := 11) hx hb dX3_likeliest_114 (by decide) ?_
            have hs := eX3_likeliest_11_7 x0 x1 x2 i1 g2 c1 c2 hv2 c7 c8
            obtain ⟨n9, hn9, hE9, hr9⟩ := lpE_next hE hs
            exact ih n9 (by omega) (i1 + 1) g2 hE9 H locs hP hD hS ls (lv_sub hl [0, 2, 3, 4, 5] rfl) (fun r hr => kk r (hr.trans hr9.symm))
          · refine lv_iload hx hb dX3_likeliest_72 (lv_at hl 0 rfl) ?_
            refine lv_iload_n hx hb dX3_likeliest_74 rfl (lv_at hl 4 rfl) ?_
            refine lv_icmp_ne (tgt := 111) hx hb dX3_likeliest_75 (by decide) (fun c9 => ?_) (fun c9 => ?_)
            · refine lv_iinc (v := i1 + 1) (lv' := [(4, .int (i1 + 1)), (5, .int v2), (0, .ref (ad 43)), (1, .int x0), (2, .int x1), (3, .int x2)]) hx hb dX3_likeliest_111 hl (k := 1) rfl rfl (by decide) rfl (fun ls hl => ?_)
              refine lv_goto (tgt := 11) hx hb dX3_likeliest_114 (by decide) ?_
              have hs := eX3_likeliest_11_8 x0 x1 x2 i1 g2 c1 c2 hv2 c7 c8 c9
              obtain ⟨n9, hn9, hE9, hr9⟩ := lpE_next hE hs
              exact ih n9 (by omega) (i1 + 1) g2 hE9 H locs hP hD hS ls (lv_sub hl [0, 2, 3, 4, 5] rfl) (fun r hr => kk r (hr.trans hr9.symm))
            · refine lv_aload_n hx hb dX3_likeliest_78 rfl (lv_at hl 2 rfl) ?_
              refine va_get (D := D) (ci := 3) (v := .ref (ad 68)) (C := RX3) (T := TX3) (N := 15) hx hb hts winX3 hown hK hP 43 rfl rfl 13 (by decide) (hts (.fieldLink RX3 57 "TapCap$Legs" "votes" "LTapCap$Row;") (List.mem_of_getElem? (i := 1) rfl)) (fun _ h9 => h9) rfl dX3_likeliest_79 ?_
              refine lv_iload_n hx hb dX3_likeliest_82 rfl (lv_at hl 5 rfl) ?_
              refine lv_if_eq (tgt := 98) hx hb dX3_likeliest_83 (by decide) (fun c10 => ?_) (fun c10 => ?_)
              · exact absurd c10 c2
              · refine lv_aload_n hx hb dX3_likeliest_86 rfl (lv_at hl 2 rfl) ?_
                refine va_get (D := D) (ci := 3) (v := .ref (ad 48)) (C := RX3) (T := TX3) (N := 15) hx hb hts winX3 hown hK hP 43 rfl rfl 2 (by decide) (hts (.fieldLink RX3 23 "TapCap$Legs" "to" "LTapCap$Row;") (List.mem_of_getElem? (i := 4) rfl)) (fun _ h9 => h9) rfl dX3_likeliest_87 ?_
                refine lv_iload hx hb dX3_likeliest_90 (lv_at hl 1 rfl) ?_
                refine g_ki hK hD hS hA (va_runV (As := [.int i1]) (rest := [.ref (ad 68)]) ⟨hx, hb, hml, hown, hts⟩ (k_tc_at l D ad cI g2 H.size 21 (by decide) i1) (cwV 1 hts gX3_likeliest_X5_at rfl rfl rfl (by decide +kernel) ⟨Nat.le_of_ble_eq_true rfl, Nat.le_of_ble_eq_true rfl⟩) (g_preV hK hP hD (ci := 5) (q0 := 48) rfl rfl) rfl rfl hl.1 rfl (lv_room (Nat.le_of_ble_eq_true rfl)) dX3_likeliest_92 ⟨Nat.le_of_ble_eq_true rfl, Nat.le_of_ble_eq_true rfl⟩) (fun H locs hP hD hS => ?_)
                refine lv_goto (tgt := 107) hx hb dX3_likeliest_95 (by decide) ?_
                refine lv_iconst (v := 1) hx hb dX3_likeliest_107 (by decide) ?_
                refine g_kv hK hD hS hA (va_runV (As := [.int (gA g2 21 i1), .int 1]) (rest := []) ⟨hx, hb, hml, hown, hts⟩ (k_tc_add l D ad cI g2 H.size 31 (by decide) (gA g2 21 i1) 1) (cwV 2 hts gX3_likeliest_X5_add rfl rfl rfl (by decide +kernel) ⟨Nat.le_of_ble_eq_true rfl, Nat.le_of_ble_eq_true rfl⟩) (g_preV hK hP hD (ci := 5) (q0 := 68) rfl rfl) rfl rfl hl.1 rfl (lv_room (Nat.le_of_ble_eq_true rfl)) dX3_likeliest_108 ⟨Nat.le_of_ble_eq_true rfl, Nat.le_of_ble_eq_true rfl⟩) (fun H locs hP hD hS => ?_)
                obtain ⟨g4, hg4⟩ : ∃ z : tG, z = gD g2 31 (gA g2 21 i1) 1 := ⟨_, rfl⟩
                rw [← hg4] at hP hD
                refine lv_iinc (v := i1 + 1) (lv' := [(4, .int (i1 + 1)), (5, .int v2), (0, .ref (ad 43)), (1, .int x0), (2, .int x1), (3, .int x2)]) hx hb dX3_likeliest_111 hl (k := 1) rfl rfl (by decide) rfl (fun ls hl => ?_)
                refine lv_goto (tgt := 11) hx hb dX3_likeliest_114 (by decide) ?_
                have hs := eX3_likeliest_11_9 x0 x1 x2 i1 g2 c1 c2 hv2 c7 c8 c9 hg4
                obtain ⟨n9, hn9, hE9, hr9⟩ := lpE_next hE hs
                exact ih n9 (by omega) (i1 + 1) g4 hE9 H locs hP hD hS ls (lv_sub hl [0, 2, 3, 4, 5] rfl) (fun r hr => kk r (hr.trans hr9.symm))
  refine loop11 (nn ((g1 45 7))) 0 g1 (tX3_likeliest_11 x0 x1 x2 g1) _ _ hP hD hS ls hl (fun r1 hr1 H locs hP hD hS ls hl => ?_)
  have hl : lv_has ls 7 [(0, .ref (ad 43)), (2, .int x1)] := lv_sub hl [1, 3] rfl
  refine lv_iload_n hx hb dX3_likeliest_117 rfl (lv_at hl 1 rfl) ?_
  refine lv_istore (lv' := [(4, .int x1), (0, .ref (ad 43)), (2, .int x1)]) hx hb dX3_likeliest_118 hl (by decide) rfl (fun ls hl => ?_)
  refine lv_iconst (v := 0) hx hb dX3_likeliest_120 (by decide) ?_
  refine lv_istore (lv' := [(5, .int 0), (4, .int x1), (0, .ref (ad 43)), (2, .int x1)]) hx hb dX3_likeliest_121 hl (by decide) rfl (fun ls hl => ?_)
  refine lv_iconst (v := 0) hx hb dX3_likeliest_123 (by decide) ?_
  refine lv_istore (lv' := [(6, .int 0), (5, .int 0), (4, .int x1), (0, .ref (ad 43)), (2, .int x1)]) hx hb dX3_likeliest_124 hl (by decide) rfl (fun ls hl => ?_)
  have hl : lv_has ls 7 [(6, .int 0), (5, .int 0), (4, .int x1), (0, .ref (ad 43))] := lv_sub hl [0, 1, 2, 3] rfl
  have loop126 : ∀ (n : Nat)  (i2 : Int32) (i3 : Int32) (i4 : Int32), lpE (sX3_likeliest_126 r1) n (i2, i3, i4) → ∀ (H : Heap) (locs : List Loc), va_P D vwCl (tcW ad cI r1.2) H → va_D A (tcW ad cI r1.2) → va_S A s.heap H locs → ∀ (ls : Array Slot), lv_has ls 7 [(6, .int i2), (5, .int i3), (4, .int i4), (0, .ref (ad 43))] → (∀ r : Int32 × Int32 × Int32, r = lp (sX3_likeliest_126 r1) n (i2, i3, i4) → ∀ (H : Heap) (locs : List Loc), va_P D vwCl (tcW ad cI r1.2) H → va_D A (tcW ad cI r1.2) → va_S A s.heap H locs → ∀ (ls : Array Slot), lv_has ls 7 [(6, .int r.1), (5, .int r.2.1), (4, .int r.2.2), (0, .ref (ad 43))] → W p l e (headSpec wsX3_likeliest ({ frames := 1, cells := 0, slots := 0, locals := 22 } : Room)).room s m ([.ref (ad 43), .int x0, .int x1, .int x2] : List Value).toArray below meth c9 H locs 0 0 (MQ below (g_Qi D [(cI, .int)] A (tcW ad cI (fX3_likeliest_w g x0 x1 x2)) (fX3_likeliest_r g x0 x1 x2)) ([.ref (ad 43), .int x0, .int x1, .int x2] : List Value).toArray s 0 0 A) (F0 m 168 ls [])) → W p l e (headSpec wsX3_likeliest ({ frames := 1, cells := 0, slots := 0, locals := 22 } : Room)).room s m ([.ref (ad 43), .int x0, .int x1, .int x2] : List Value).toArray below meth c9 H locs 0 0 (MQ below (g_Qi D [(cI, .int)] A (tcW ad cI (fX3_likeliest_w g x0 x1 x2)) (fX3_likeliest_r g x0 x1 x2)) ([.ref (ad 43), .int x0, .int x1, .int x2] : List Value).toArray s 0 0 A) (F0 m 126 ls []) := by
    refine lp_ind ?_
    intro n ih i2 i3 i4 hE H locs hP hD hS ls hl kk
    refine lv_iload hx hb dX3_likeliest_126 (lv_at hl 0 rfl) ?_
    refine lv_bipush (v := 10) hx hb dX3_likeliest_128 (by decide) ?_
    refine lv_icmp_ge (tgt := 168) hx hb dX3_likeliest_130 (by decide) (fun c11 => ?_) (fun c11 => ?_)
    · have hs := eX3_likeliest_126_1 r1 i2 i3 i4 c11
      exact kk _ (lp_none hs).symm H locs hP hD hS ls (lv_sub hl [0, 1, 2, 3] rfl)
    · refine lv_aload_n hx hb dX3_likeliest_133 rfl (lv_at hl 3 rfl) ?_
      refine va_get (D := D) (ci := 3) (v := .ref (ad 68)) (C := RX3) (T := TX3) (N := 15) hx hb hts winX3 hown hK hP 43 rfl rfl 13 (by decide) (hts (.fieldLink RX3 57 "TapCap$Legs" "votes" "LTapCap$Row;") (List.mem_of_getElem? (i := 1) rfl)) (fun _ h9 => h9) rfl dX3_likeliest_134 ?_
      refine lv_iload hx hb dX3_likeliest_137 (lv_at hl 0 rfl) ?_
      refine g_ki hK hD hS hA (va_runV (As := [.int i2]) (rest := []) ⟨hx, hb, hml, hown, hts⟩ (k_tc_at l D ad cI r1.2 H.size 31 (by decide) i2) (cwV 1 hts gX3_likeliest_X5_at rfl rfl rfl (by decide +kernel) ⟨Nat.le_of_ble_eq_true rfl, Nat.le_of_ble_eq_true rfl⟩) (g_preV hK hP hD (ci := 5) (q0 := 68) rfl rfl) rfl rfl hl.1 rfl (lv_room (Nat.le_of_ble_eq_true rfl)) dX3_likeliest_139 ⟨Nat.le_of_ble_eq_true rfl, Nat.le_of_ble_eq_true rfl⟩) (fun H locs hP hD hS => ?_)
      refine lv_iload hx hb dX3_likeliest_142 (lv_at hl 1 rfl) ?_
      refine lv_icmp_le (tgt := 162) hx hb dX3_likeliest_144 (by decide) (fun c12 => ?_) (fun c12 => ?_)
      · refine lv_iinc (v := i2 + 1) (lv' := [(6, .int (i2 + 1)), (5, .int i3), (4, .int i4), (0, .ref (ad 43))]) hx hb dX3_likeliest_162 hl (k := 0) rfl rfl (by decide) rfl (fun ls hl => ?_)
        refine lv_goto (tgt := 126) hx hb dX3_likeliest_165 (by decide) ?_
        have hs := eX3_likeliest_126_2 r1 i2 i3 i4 c11 c12
        obtain ⟨n9, hn9, hE9, hr9⟩ := lpE_next hE hs
        exact ih n9 (by omega) (i2 + 1) i3 i4 hE9 H locs hP hD hS ls (lv_sub hl [0, 1, 2, 3] rfl) (fun r hr => kk r (hr.trans hr9.symm))
      · refine lv_aload_n hx hb dX3_likeliest_147 rfl (lv_at hl 3 rfl) ?_
        refine va_get (D := D) (ci := 3) (v := .ref (ad 68)) (C := RX3) (T := TX3) (N := 15) hx hb hts winX3 hown hK hP 43 rfl rfl 13 (by decide) (hts (.fieldLink RX3 57 "TapCap$Legs" "votes" "LTapCap$Row;") (List.mem_of_getElem? (i := 1) rfl)) (fun _ h9 => h9) rfl dX3_likeliest_148 ?_
        refine lv_iload hx hb dX3_likeliest_151 (lv_at hl 0 rfl) ?_
        refine g_ki hK hD hS hA (va_runV (As := [.int i2]) (rest := []) ⟨hx, hb, hml, hown, hts⟩ (k_tc_at l D ad cI r1.2 H.size 31 (by decide) i2) (cwV 1 hts gX3_likeliest_X5_at rfl rfl rfl (by decide +kernel) ⟨Nat.le_of_ble_eq_true rfl, Nat.le_of_ble_eq_true rfl⟩) (g_preV hK hP hD (ci := 5) (q0 := 68) rfl rfl) rfl rfl hl.1 rfl (lv_room (Nat.le_of_ble_eq_true rfl)) dX3_likeliest_153 ⟨Nat.le_of_ble_eq_true rfl, Nat.le_of_ble_eq_true rfl⟩) (fun H locs hP hD hS => ?_)
        refine lv_topi (fun v3 hv3 => ?_)
        refine lv_istore (lv' := [(5, .int v3), (6, .int i2), (4, .int i4), (0, .ref (ad 43))]) hx hb dX3_likeliest_156 hl (by decide) rfl (fun ls hl => ?_)
        refine lv_iload hx hb dX3_likeliest_158 (lv_at hl 1 rfl) ?_
        refine lv_istore (lv' := [(4, .int i2), (5, .int v3), (6, .int i2), (0, .ref (ad 43))]) hx hb dX3_likeliest_160 hl (by decide) rfl (fun ls hl => ?_)
        refine lv_iinc (v := i2 + 1) (lv' := [(6, .int (i2 + 1)), (4, .int i2), (5, .int v3), (0, .ref (ad 43))]) hx hb dX3_likeliest_162 hl (k := 2) rfl rfl (by decide) rfl (fun ls hl => ?_)
        refine lv_goto (tgt := 126) hx hb dX3_likeliest_165 (by decide) ?_
        have hs := eX3_likeliest_126_3 r1 i2 i3 i4 c11 c12 hv3
        obtain ⟨n9, hn9, hE9, hr9⟩ := lpE_next hE hs
        exact ih n9 (by omega) (i2 + 1) v3 i2 hE9 H locs hP hD hS ls (lv_sub hl [0, 2, 1, 3] rfl) (fun r hr => kk r (hr.trans hr9.symm))
  refine loop126 10 0 0 x1 (tX3_likeliest_126 r1 0 x1) _ _ hP hD hS ls hl (fun r2 hr2 H locs hP hD hS ls hl => ?_)
  have hl : lv_has ls 7 [(4, .int r2.2.2)] := lv_sub hl [2] rfl
  refine lv_iload hx hb dX3_likeliest_168 (lv_at hl 0 rfl) ?_
  have hw := eX3_likeliest_w1 g x0 x1 x2 hg1 hr1 hr2
  have hP := w_P9 hw hP
  have hD := w_D9 hw hD
  exact g_iret hx hb hr rfl hlocks hK hP hD hS (eX3_likeliest_r1 g x0 x1 x2 hg1 hr1 hr2).symm dX3_likeliest_170
def sX3_fillGuesses_2 : (Int32 × tG) → Option (Int32 × tG) := fun σ =>
  if (σ.2 45 7) ≤ σ.1 then
    none
  else
    if (gA σ.2 25 σ.1) = 2 then
      let g4 : tG := fX3_likeliest_w σ.2 (gA σ.2 19 σ.1) (gA σ.2 20 σ.1) 1
      let g5 : tG := gP g4 21 σ.1 (fX3_likeliest_r σ.2 (gA σ.2 19 σ.1) (gA σ.2 20 σ.1) 1)
      some (σ.1 + 1, g5)
    else
      if (gA σ.2 25 σ.1) = 1 then
        let g2 : tG := fX3_likeliest_w σ.2 (gA σ.2 19 σ.1) (gA σ.2 21 σ.1) 0
        let g3 : tG := gP g2 20 σ.1 (fX3_likeliest_r σ.2 (gA σ.2 19 σ.1) (gA σ.2 21 σ.1) 0)
        some (σ.1 + 1, g3)
      else
        some (σ.1 + 1, σ.2)
set_option maxRecDepth 20000 in
theorem eX3_fillGuesses_2_1 (i1 : Int32) (g1 : tG) (c1 : (g1 45 7) ≤ i1) : sX3_fillGuesses_2 (i1, g1) = none := by
  exact (if_pos c1).trans rfl
set_option maxRecDepth 20000 in
theorem eX3_fillGuesses_2_2 (i1 : Int32) (g1 : tG) (c1 : ¬ ((g1 45 7) ≤ i1)) (c2 : ¬ ((gA g1 25 i1) = 2)) (c3 : ¬ ((gA g1 25 i1) = 1)) : sX3_fillGuesses_2 (i1, g1) = some (i1 + 1, g1) := by
  exact (if_neg c1).trans ((if_neg c2).trans ((if_neg c3).trans rfl))
set_option maxRecDepth 20000 in
theorem eX3_fillGuesses_2_3 (i1 : Int32) (g1 : tG) (c1 : ¬ ((g1 45 7) ≤ i1)) (c2 : ¬ ((gA g1 25 i1) = 2)) (c3 : (gA g1 25 i1) = 1) {g2 : tG} (hg2 : g2 = fX3_likeliest_w g1 (gA g1 19 i1) (gA g1 21 i1) 0) {g3 : tG} (hg3 : g3 = gP g2 20 i1 (fX3_likeliest_r g1 (gA g1 19 i1) (gA g1 21 i1) 0)) : sX3_fillGuesses_2 (i1, g1) = some (i1 + 1, g3) := by
  subst hg2
  subst hg3
  exact (if_neg c1).trans ((if_neg c2).trans ((if_pos c3).trans rfl))
set_option maxRecDepth 20000 in
theorem eX3_fillGuesses_2_4 (i1 : Int32) (g1 : tG) (c1 : ¬ ((g1 45 7) ≤ i1)) (c2 : (gA g1 25 i1) = 2) {g4 : tG} (hg4 : g4 = fX3_likeliest_w g1 (gA g1 19 i1) (gA g1 20 i1) 1) {g5 : tG} (hg5 : g5 = gP g4 21 i1 (fX3_likeliest_r g1 (gA g1 19 i1) (gA g1 20 i1) 1)) : sX3_fillGuesses_2 (i1, g1) = some (i1 + 1, g5) := by
  subst hg4
  subst hg5
  exact (if_neg c1).trans ((if_pos c2).trans rfl)
theorem fj_X3_fillGuesses_2 (σ τ : Int32 × tG) (j : Nat) (h : j ∉ ([20, 21, 31] : List Nat)) (e : sX3_fillGuesses_2 σ = some τ) : τ.2 j = σ.2 j := by
  obtain ⟨i1, g1⟩ := σ
  by_cases c1 : (g1 45 7) ≤ i1
  · have hs := eX3_fillGuesses_2_1 i1 g1 c1
    rw [hs] at e
    cases e
  · by_cases c2 : (gA g1 25 i1) = 2
    · obtain ⟨g4, hg4⟩ : ∃ z : tG, z = fX3_likeliest_w g1 (gA g1 19 i1) (gA g1 20 i1) 1 := ⟨_, rfl⟩
      obtain ⟨g5, hg5⟩ : ∃ z : tG, z = gP g4 21 i1 (fX3_likeliest_r g1 (gA g1 19 i1) (gA g1 20 i1) 1) := ⟨_, rfl⟩
      have qg4 : g4 j = g1 j := by rw [hg4]; exact fjX3_likeliest g1 (gA g1 19 i1) (gA g1 20 i1) 1 j (fun hm => h (sub9 (a := [31]) (b := [20, 21, 31]) (by decide) hm))
      have qg5 : g5 j = g4 j := by rw [hg5]; exact gP_ne (fun e9 => h (by rw [e9]; decide))
      have hs := eX3_fillGuesses_2_4 i1 g1 c1 c2 hg4 hg5
      rw [hs] at e
      have e9 := Option.some.inj e
      subst e9
      exact qg5.trans (qg4)
    · by_cases c3 : (gA g1 25 i1) = 1
      · obtain ⟨g2, hg2⟩ : ∃ z : tG, z = fX3_likeliest_w g1 (gA g1 19 i1) (gA g1 21 i1) 0 := ⟨_, rfl⟩
        obtain ⟨g3, hg3⟩ : ∃ z : tG, z = gP g2 20 i1 (fX3_likeliest_r g1 (gA g1 19 i1) (gA g1 21 i1) 0) := ⟨_, rfl⟩
        have qg2 : g2 j = g1 j := by rw [hg2]; exact fjX3_likeliest g1 (gA g1 19 i1) (gA g1 21 i1) 0 j (fun hm => h (sub9 (a := [31]) (b := [20, 21, 31]) (by decide) hm))
        have qg3 : g3 j = g2 j := by rw [hg3]; exact gP_ne (fun e9 => h (by rw [e9]; decide))
        have hs := eX3_fillGuesses_2_3 i1 g1 c1 c2 c3 hg2 hg3
        rw [hs] at e
        have e9 := Option.some.inj e
        subst e9
        exact qg3.trans (qg2)
      · have hs := eX3_fillGuesses_2_2 i1 g1 c1 c2 c3
        rw [hs] at e
        have e9 := Option.some.inj e
        subst e9
        exact rfl
theorem fjX3_fillGuesses_2 (n : Nat) (σ : Int32 × tG) (j : Nat) (h : j ∉ ([20, 21, 31] : List Nat)) : ((lp (sX3_fillGuesses_2) n σ).2) j = σ.2 j :=
  lp_inv (fun τ => τ.2 j = σ.2 j) (fun a b e9 h9 => (fj_X3_fillGuesses_2 a b j h e9).trans h9) n σ rfl
theorem tX3_fillGuesses_2 (g1z : tG) : lpE (sX3_fillGuesses_2) (nn ((g1z 45 7))) (0, g1z) := by
  refine lpE_upI (fun σ => σ.2 45 7 = (g1z 45 7)) (fun σ => σ.1) ((g1z 45 7)) ?_ _ _ rfl (nn_le _)
  intro σ τ hI h9
  have qk := congrFun (fj_X3_fillGuesses_2 _ _ 45 (by decide) h9) 7
  obtain ⟨i1, g1⟩ := σ
  by_cases c1 : (g1 45 7) ≤ i1
  · have hs := eX3_fillGuesses_2_1 i1 g1 c1
    rw [hs] at h9
    cases h9
  · by_cases c2 : (gA g1 25 i1) = 2
    · obtain ⟨g4, hg4⟩ : ∃ z : tG, z = fX3_likeliest_w g1 (gA g1 19 i1) (gA g1 20 i1) 1 := ⟨_, rfl⟩
      obtain ⟨g5, hg5⟩ : ∃ z : tG, z = gP g4 21 i1 (fX3_likeliest_r g1 (gA g1 19 i1) (gA g1 20 i1) 1) := ⟨_, rfl⟩
      have hs := eX3_fillGuesses_2_4 i1 g1 c1 c2 hg4 hg5
      rw [hs] at h9
      have e9 := Option.some.inj h9
      subst e9
      exact ⟨qk.trans hI, lt_eq32 (not_le32 c1) hI, rfl⟩
    · by_cases c3 : (gA g1 25 i1) = 1
      · obtain ⟨g2, hg2⟩ : ∃ z : tG, z = fX3_likeliest_w g1 (gA g1 19 i1) (gA g1 21 i1) 0 := ⟨_, rfl⟩
        obtain ⟨g3, hg3⟩ : ∃ z : tG, z = gP g2 20 i1 (fX3_likeliest_r g1 (gA g1 19 i1) (gA g1 21 i1) 0) := ⟨_, rfl⟩
        have hs := eX3_fillGuesses_2_3 i1 g1 c1 c2 c3 hg2 hg3
        rw [hs] at h9
        have e9 := Option.some.inj h9
        subst e9
        exact ⟨qk.trans hI, lt_eq32 (not_le32 c1) hI, rfl⟩
      · have hs := eX3_fillGuesses_2_2 i1 g1 c1 c2 c3
        rw [hs] at h9
        have e9 := Option.some.inj h9
        subst e9
        exact ⟨qk.trans hI, lt_eq32 (not_le32 c1) hI, rfl⟩
def fX3_fillGuesses_w (g : tG) : tG :=
  let r1 : Int32 × tG := lp (sX3_fillGuesses_2) (nn ((g 45 7))) (0, g)
  r1.2
set_option maxRecDepth 20000 in
theorem eX3_fillGuesses_w1 (g : tG) {r1 : Int32 × tG} (hr1 : r1 = lp (sX3_fillGuesses_2) (nn ((g 45 7))) (0, g)) : fX3_fillGuesses_w g = r1.2 := by
  subst hr1
  exact rfl
theorem fjX3_fillGuesses (g : tG) (j : Nat) (h : j ∉ ([20, 21, 31] : List Nat)) : fX3_fillGuesses_w g j = g j := by
  obtain ⟨r1, hr1⟩ : ∃ z : Int32 × tG, z = lp (sX3_fillGuesses_2) (nn ((g 45 7))) (0, g) := ⟨_, rfl⟩
  have qr1 : r1.2 j = g j := by rw [hr1]; exact fjX3_fillGuesses_2 _ _ j (fun hm => h (sub9 (a := [20, 21, 31]) (b := [20, 21, 31]) (by decide) hm))
  have hs := eX3_fillGuesses_w1 g hr1
  rw [hs]
  exact qr1
set_option maxHeartbeats 4000000 in
set_option maxRecDepth 100000 in
theorem kX3_fillGuesses (l : Launch) (D : va_G) (ad : Nat → Nat) (cI : ClassId) (g : tG) (sz : Nat) : Met l yX3_fillGuesses wsX3_fillGuesses ({ frames := 2, cells := 0, slots := 0, locals := 48 } : Room) (g_P D [(cI, .int)] (tcW ad cI g) [.ref (ad 43)] sz) (g_Qv D [(cI, .int)] (va_A (tcW ad cI g) sz) (tcW ad cI (fX3_fillGuesses_w g))) 0 0 (va_A (tcW ad cI g) sz) := by
  refine Met.ofW (cc := cX3_fillGuesses) (maxL := 2) (ret := none) (by decide) rfl ?_
  intro p e s m args below meth c9 s₁ B hml hv
  obtain ⟨rfl, hsz, hP, hK, hD0⟩ := hv
  have hx := B.exec
  have hb := B.bytes
  have hr := B.returns
  have hts := atoms_spec (ws := wsX3_fillGuesses) B.pre
  have hown : s.vm.findClass RX3 = some m.cls := findClass_of_methodNamed B.named
  have hlocks := B.notSynchronized
  subst hsz
  have hD := hD0.self (sz := s.heap.size)
  generalize hAe : va_A (tcW ad cI g) s.heap.size = A at hD ⊢
  have hA : ∀ q : Nat, s.heap.size ≤ q → A q := fun q h => by rw [← hAe]; exact Or.inr h
  have hS : va_S A s.heap s.heap [] := va_S.rf
  have hl := lv_entry ([.ref (ad 43)]) (n := 2) (Nat.le_of_ble_eq_true rfl)
  rw [lg_entry_eq]
  generalize (lg_sl ([.ref (ad 43)]) ++ List.replicate (2 - (lg_sl ([.ref (ad 43)])).length) Slot.unset).toArray = ls at hl ⊢
  have hl : lv_has ls 2 [(0, .ref (ad 43))] := hl
  have winX3 : ∀ w ∈ u_ws RX3 TX3 15, w ∈ wsX3_fillGuesses := by decide +kernel
  have winX5 : ∀ w ∈ u_ws RX5 TX5 1, w ∈ wsX3_fillGuesses := by decide +kernel
  refine lv_iconst (v := 0) hx hb dX3_fillGuesses_0 (by decide) ?_
  refine lv_istore_n (lv' := [(1, .int 0), (0, .ref (ad 43))]) hx hb dX3_fillGuesses_1 rfl hl (by decide) rfl (fun ls hl => ?_)
  have loop2 : ∀ (n : Nat)  (i1 : Int32) (g1 : tG), lpE (sX3_fillGuesses_2) n (i1, g1) → ∀ (H : Heap) (locs : List Loc), va_P D vwCl (tcW ad cI g1) H → va_D A (tcW ad cI g1) → va_S A s.heap H locs → ∀ (ls : Array Slot), lv_has ls 2 [(1, .int i1), (0, .ref (ad 43))] → (∀ r : Int32 × tG, r = lp (sX3_fillGuesses_2) n (i1, g1) → ∀ (H : Heap) (locs : List Loc), va_P D vwCl (tcW ad cI r.2) H → va_D A (tcW ad cI r.2) → va_S A s.heap H locs → ∀ (ls : Array Slot), lv_has ls 2 [(1, .int r.1), (0, .ref (ad 43))] → W p l e (headSpec wsX3_fillGuesses ({ frames := 2, cells := 0, slots := 0, locals := 48 } : Room)).room s m ([.ref (ad 43)] : List Value).toArray below meth c9 H locs 0 0 (MQ below (g_Qv D [(cI, .int)] A (tcW ad cI (fX3_fillGuesses_w g))) ([.ref (ad 43)] : List Value).toArray s 0 0 A) (F0 m 101 ls [])) → W p l e (headSpec wsX3_fillGuesses ({ frames := 2, cells := 0, slots := 0, locals := 48 } : Room)).room s m ([.ref (ad 43)] : List Value).toArray below meth c9 H locs 0 0 (MQ below (g_Qv D [(cI, .int)] A (tcW ad cI (fX3_fillGuesses_w g))) ([.ref (ad 43)] : List Value).toArray s 0 0 A) (F0 m 2 ls []) := by
    refine lp_ind ?_
    intro n ih i1 g1 hE H locs hP hD hS ls hl kk
    refine lv_iload_n hx hb dX3_fillGuesses_2 rfl (lv_at hl 0 rfl) ?_
    refine lv_aload_n hx hb dX3_fillGuesses_3 rfl (lv_at hl 1 rfl) ?_
    refine va_get (D := D) (ci := 3) (v := .int (g1 45 7)) (C := RX3) (T := TX3) (N := 15) hx hb hts winX3 hown hK hP 43 rfl rfl 10 (by decide) (hts (.fieldLink RX3 47 "TapCap$Legs" "count" "I") (List.mem_of_getElem? (i := 1) rfl)) (fun _ h9 => h9) rfl dX3_fillGuesses_4 ?_
    refine lv_icmp_ge (tgt := 101) hx hb dX3_fillGuesses_7 (by decide) (fun c1 => ?_) (fun c1 => ?_)
    · have hs := eX3_fillGuesses_2_1 i1 g1 c1
      exact kk _ (lp_none hs).symm H locs hP hD hS ls (lv_sub hl [0, 1] rfl)
    · refine lv_aload_n hx hb dX3_fillGuesses_10 rfl (lv_at hl 1 rfl) ?_
      refine va_get (D := D) (ci := 3) (v := .ref (ad 56)) (C := RX3) (T := TX3) (N := 15) hx hb hts winX3 hown hK hP 43 rfl rfl 6 (by decide) (hts (.fieldLink RX3 35 "TapCap$Legs" "guessed" "LTapCap$Row;") (List.mem_of_getElem? (i := 2) rfl)) (fun _ h9 => h9) rfl dX3_fillGuesses_11 ?_
      refine lv_iload_n hx hb dX3_fillGuesses_14 rfl (lv_at hl 0 rfl) ?_
      refine g_ki hK hD hS hA (va_runV (As := [.int i1]) (rest := []) ⟨hx, hb, hml, hown, hts⟩ (k_tc_at l D ad cI g1 H.size 25 (by decide) i1) (cwV 1 hts gX3_fillGuesses_X5_at rfl rfl rfl (by decide +kernel) ⟨Nat.le_of_ble_eq_true rfl, Nat.le_of_ble_eq_true rfl⟩) (g_preV hK hP hD (ci := 5) (q0 := 56) rfl rfl) rfl rfl hl.1 rfl (lv_room (Nat.le_of_ble_eq_true rfl)) dX3_fillGuesses_15 ⟨Nat.le_of_ble_eq_true rfl, Nat.le_of_ble_eq_true rfl⟩) (fun H locs hP hD hS => ?_)
      refine lv_iconst (v := 2) hx hb dX3_fillGuesses_18 (by decide) ?_
      refine lv_icmp_ne (tgt := 54) hx hb dX3_fillGuesses_19 (by decide) (fun c2 => ?_) (fun c2 => ?_)
      · refine lv_aload_n hx hb dX3_fillGuesses_54 rfl (lv_at hl 1 rfl) ?_
        refine va_get (D := D) (ci := 3) (v := .ref (ad 56)) (C := RX3) (T := TX3) (N := 15) hx hb hts winX3 hown hK hP 43 rfl rfl 6 (by decide) (hts (.fieldLink RX3 35 "TapCap$Legs" "guessed" "LTapCap$Row;") (List.mem_of_getElem? (i := 2) rfl)) (fun _ h9 => h9) rfl dX3_fillGuesses_55 ?_
        refine lv_iload_n hx hb dX3_fillGuesses_58 rfl (lv_at hl 0 rfl) ?_
        refine g_ki hK hD hS hA (va_runV (As := [.int i1]) (rest := []) ⟨hx, hb, hml, hown, hts⟩ (k_tc_at l D ad cI g1 H.size 25 (by decide) i1) (cwV 1 hts gX3_fillGuesses_X5_at rfl rfl rfl (by decide +kernel) ⟨Nat.le_of_ble_eq_true rfl, Nat.le_of_ble_eq_true rfl⟩) (g_preV hK hP hD (ci := 5) (q0 := 56) rfl rfl) rfl rfl hl.1 rfl (lv_room (Nat.le_of_ble_eq_true rfl)) dX3_fillGuesses_59 ⟨Nat.le_of_ble_eq_true rfl, Nat.le_of_ble_eq_true rfl⟩) (fun H locs hP hD hS => ?_)
        refine lv_iconst (v := 1) hx hb dX3_fillGuesses_62 (by decide) ?_
        refine lv_icmp_ne (tgt := 95) hx hb dX3_fillGuesses_63 (by decide) (fun c3 => ?_) (fun c3 => ?_)
        · refine lv_iinc (v := i1 + 1) (lv' := [(1, .int (i1 + 1)), (0, .ref (ad 43))]) hx hb dX3_fillGuesses_95 hl (k := 0) rfl rfl (by decide) rfl (fun ls hl => ?_)
          refine lv_goto (tgt := 2) hx hb dX3_fillGuesses_98 (by decide) ?_
          have hs := eX3_fillGuesses_2_2 i1 g1 c1 c2 c3
          obtain ⟨n9, hn9, hE9, hr9⟩ := lpE_next hE hs
          exact ih n9 (by omega) (i1 + 1) g1 hE9 H locs hP hD hS ls (lv_sub hl [0, 1] rfl) (fun r hr => kk r (hr.trans hr9.symm))
        · refine lv_aload_n hx hb dX3_fillGuesses_66 rfl (lv_at hl 1 rfl) ?_
          refine va_get (D := D) (ci := 3) (v := .ref (ad 46)) (C := RX3) (T := TX3) (N := 15) hx hb hts winX3 hown hK hP 43 rfl rfl 1 (by decide) (hts (.fieldLink RX3 20 "TapCap$Legs" "from" "LTapCap$Row;") (List.mem_of_getElem? (i := 3) rfl)) (fun _ h9 => h9) rfl dX3_fillGuesses_67 ?_
          refine lv_iload_n hx hb dX3_fillGuesses_70 rfl (lv_at hl 0 rfl) ?_
          refine lv_aload_n hx hb dX3_fillGuesses_71 rfl (lv_at hl 1 rfl) ?_
          refine lv_aload_n hx hb dX3_fillGuesses_72 rfl (lv_at hl 1 rfl) ?_
          refine va_get (D := D) (ci := 3) (v := .ref (ad 44)) (C := RX3) (T := TX3) (N := 15) hx hb hts winX3 hown hK hP 43 rfl rfl 0 (by decide) (hts (.fieldLink RX3 14 "TapCap$Legs" "dayOf" "LTapCap$Row;") (List.mem_of_getElem? (i := 4) rfl)) (fun _ h9 => h9) rfl dX3_fillGuesses_73 ?_
          refine lv_iload_n hx hb dX3_fillGuesses_76 rfl (lv_at hl 0 rfl) ?_
          refine g_ki hK hD hS hA (va_runV (As := [.int i1]) (rest := [.ref (ad 43), .int i1, .ref (ad 46)]) ⟨hx, hb, hml, hown, hts⟩ (k_tc_at l D ad cI g1 H.size 19 (by decide) i1) (cwV 1 hts gX3_fillGuesses_X5_at rfl rfl rfl (by decide +kernel) ⟨Nat.le_of_ble_eq_true rfl, Nat.le_of_ble_eq_true rfl⟩) (g_preV hK hP hD (ci := 5) (q0 := 44) rfl rfl) rfl rfl hl.1 rfl (lv_room (Nat.le_of_ble_eq_true rfl)) dX3_fillGuesses_77 ⟨Nat.le_of_ble_eq_true rfl, Nat.le_of_ble_eq_true rfl⟩) (fun H locs hP hD hS => ?_)
          refine lv_aload_n hx hb dX3_fillGuesses_80 rfl (lv_at hl 1 rfl) ?_
          refine va_get (D := D) (ci := 3) (v := .ref (ad 48)) (C := RX3) (T := TX3) (N := 15) hx hb hts winX3 hown hK hP 43 rfl rfl 2 (by decide) (hts (.fieldLink RX3 23 "TapCap$Legs" "to" "LTapCap$Row;") (List.mem_of_getElem? (i := 5) rfl)) (fun _ h9 => h9) rfl dX3_fillGuesses_81 ?_
          refine lv_iload_n hx hb dX3_fillGuesses_84 rfl (lv_at hl 0 rfl) ?_
          refine g_ki hK hD hS hA (va_runV (As := [.int i1]) (rest := [.int (gA g1 19 i1), .ref (ad 43), .int i1, .ref (ad 46)]) ⟨hx, hb, hml, hown, hts⟩ (k_tc_at l D ad cI g1 H.size 21 (by decide) i1) (cwV 1 hts gX3_fillGuesses_X5_at rfl rfl rfl (by decide +kernel) ⟨Nat.le_of_ble_eq_true rfl, Nat.le_of_ble_eq_true rfl⟩) (g_preV hK hP hD (ci := 5) (q0 := 48) rfl rfl) rfl rfl hl.1 rfl (lv_room (Nat.le_of_ble_eq_true rfl)) dX3_fillGuesses_85 ⟨Nat.le_of_ble_eq_true rfl, Nat.le_of_ble_eq_true rfl⟩) (fun H locs hP hD hS => ?_)
          refine lv_iconst (v := 0) hx hb dX3_fillGuesses_88 (by decide) ?_
          refine g_ki hK hD hS hA (va_runV (As := [.int (gA g1 19 i1), .int (gA g1 21 i1), .int 0]) (rest := [.int i1, .ref (ad 46)]) ⟨hx, hb, hml, hown, hts⟩ (kX3_likeliest l D ad cI g1 H.size (gA g1 19 i1) (gA g1 21 i1) 0) (cwV 3 hts gX3_fillGuesses_X3_likeliest rfl rfl rfl (by decide +kernel) ⟨Nat.le_of_ble_eq_true rfl, Nat.le_of_ble_eq_true rfl⟩) (g_preV hK hP hD (ci := 3) (q0 := 43) rfl rfl) rfl rfl hl.1 rfl (lv_room (Nat.le_of_ble_eq_true rfl)) dX3_fillGuesses_89 ⟨Nat.le_of_ble_eq_true rfl, Nat.le_of_ble_eq_true rfl⟩) (fun H locs hP hD hS => ?_)
          obtain ⟨g2, hg2⟩ : ∃ z : tG, z = fX3_likeliest_w g1 (gA g1 19 i1) (gA g1 21 i1) 0 := ⟨_, rfl⟩
          rw [← hg2] at hP hD
          refine g_kv hK hD hS hA (va_runV (As := [.int i1, .int (fX3_likeliest_r g1 (gA g1 19 i1) (gA g1 21 i1) 0)]) (rest := []) ⟨hx, hb, hml, hown, hts⟩ (k_tc_put l D ad cI g2 H.size 20 (by decide) i1 (fX3_likeliest_r g1 (gA g1 19 i1) (gA g1 21 i1) 0)) (cwV 2 hts gX3_fillGuesses_X5_put rfl rfl rfl (by decide +kernel) ⟨Nat.le_of_ble_eq_true rfl, Nat.le_of_ble_eq_true rfl⟩) (g_preV hK hP hD (ci := 5) (q0 := 46) rfl rfl) rfl rfl hl.1 rfl (lv_room (Nat.le_of_ble_eq_true rfl)) dX3_fillGuesses_92 ⟨Nat.le_of_ble_eq_true rfl, Nat.le_of_ble_eq_true rfl⟩) (fun H locs hP hD hS => ?_)
          obtain ⟨g3, hg3⟩ : ∃ z : tG, z = gP g2 20 i1 (fX3_likeliest_r g1 (gA g1 19 i1) (gA g1 21 i1) 0) := ⟨_, rfl⟩
          rw [← hg3] at hP hD
          refine lv_iinc (v := i1 + 1) (lv' := [(1, .int (i1 + 1)), (0, .ref (ad 43))]) hx hb dX3_fillGuesses_95 hl (k := 0) rfl rfl (by decide) rfl (fun ls hl => ?_)
          refine lv_goto (tgt := 2) hx hb dX3_fillGuesses_98 (by decide) ?_
          have hs := eX3_fillGuesses_2_3 i1 g1 c1 c2 c3 hg2 hg3
          obtain ⟨n9, hn9, hE9, hr9⟩ := lpE_next hE hs
          exact ih n9 (by omega) (i1 + 1) g3 hE9 H locs hP hD hS ls (lv_sub hl [0, 1] rfl) (fun r hr => kk r (hr.trans hr9.symm))
      · refine lv_aload_n hx hb dX3_fillGuesses_22 rfl (lv_at hl 1 rfl) ?_
        refine va_get (D := D) (ci := 3) (v := .ref (ad 48)) (C := RX3) (T := TX3) (N := 15) hx hb hts winX3 hown hK hP 43 rfl rfl 2 (by decide) (hts (.fieldLink RX3 23 "TapCap$Legs" "to" "LTapCap$Row;") (List.mem_of_getElem? (i := 5) rfl)) (fun _ h9 => h9) rfl dX3_fillGuesses_23 ?_
        refine lv_iload_n hx hb dX3_fillGuesses_26 rfl (lv_at hl 0 rfl) ?_
        refine lv_aload_n hx hb dX3_fillGuesses_27 rfl (lv_at hl 1 rfl) ?_
        refine lv_aload_n hx hb dX3_fillGuesses_28 rfl (lv_at hl 1 rfl) ?_
        refine va_get (D := D) (ci := 3) (v := .ref (ad 44)) (C := RX3) (T := TX3) (N := 15) hx hb hts winX3 hown hK hP 43 rfl rfl 0 (by decide) (hts (.fieldLink RX3 14 "TapCap$Legs" "dayOf" "LTapCap$Row;") (List.mem_of_getElem? (i := 4) rfl)) (fun _ h9 => h9) rfl dX3_fillGuesses_29 ?_
        refine lv_iload_n hx hb dX3_fillGuesses_32 rfl (lv_at hl 0 rfl) ?_
        refine g_ki hK hD hS hA (va_runV (As := [.int i1]) (rest := [.ref (ad 43), .int i1, .ref (ad 48)]) ⟨hx, hb, hml, hown, hts⟩ (k_tc_at l D ad cI g1 H.size 19 (by decide) i1) (cwV 1 hts gX3_fillGuesses_X5_at rfl rfl rfl (by decide +kernel) ⟨Nat.le_of_ble_eq_true rfl, Nat.le_of_ble_eq_true rfl⟩) (g_preV hK hP hD (ci := 5) (q0 := 44) rfl rfl) rfl rfl hl.1 rfl (lv_room (Nat.le_of_ble_eq_true rfl)) dX3_fillGuesses_33 ⟨Nat.le_of_ble_eq_true rfl, Nat.le_of_ble_eq_true rfl⟩) (fun H locs hP hD hS => ?_)
        refine lv_aload_n hx hb dX3_fillGuesses_36 rfl (lv_at hl 1 rfl) ?_
        refine va_get (D := D) (ci := 3) (v := .ref (ad 46)) (C := RX3) (T := TX3) (N := 15) hx hb hts winX3 hown hK hP 43 rfl rfl 1 (by decide) (hts (.fieldLink RX3 20 "TapCap$Legs" "from" "LTapCap$Row;") (List.mem_of_getElem? (i := 3) rfl)) (fun _ h9 => h9) rfl dX3_fillGuesses_37 ?_
        refine lv_iload_n hx hb dX3_fillGuesses_40 rfl (lv_at hl 0 rfl) ?_
        refine g_ki hK hD hS hA (va_runV (As := [.int i1]) (rest := [.int (gA g1 19 i1), .ref (ad 43), .int i1, .ref (ad 48)]) ⟨hx, hb, hml, hown, hts⟩ (k_tc_at l D ad cI g1 H.size 20 (by decide) i1) (cwV 1 hts gX3_fillGuesses_X5_at rfl rfl rfl (by decide +kernel) ⟨Nat.le_of_ble_eq_true rfl, Nat.le_of_ble_eq_true rfl⟩) (g_preV hK hP hD (ci := 5) (q0 := 46) rfl rfl) rfl rfl hl.1 rfl (lv_room (Nat.le_of_ble_eq_true rfl)) dX3_fillGuesses_41 ⟨Nat.le_of_ble_eq_true rfl, Nat.le_of_ble_eq_true rfl⟩) (fun H locs hP hD hS => ?_)
        refine lv_iconst (v := 1) hx hb dX3_fillGuesses_44 (by decide) ?_
        refine g_ki hK hD hS hA (va_runV (As := [.int (gA g1 19 i1), .int (gA g1 20 i1), .int 1]) (rest := [.int i1, .ref (ad 48)]) ⟨hx, hb, hml, hown, hts⟩ (kX3_likeliest l D ad cI g1 H.size (gA g1 19 i1) (gA g1 20 i1) 1) (cwV 3 hts gX3_fillGuesses_X3_likeliest rfl rfl rfl (by decide +kernel) ⟨Nat.le_of_ble_eq_true rfl, Nat.le_of_ble_eq_true rfl⟩) (g_preV hK hP hD (ci := 3) (q0 := 43) rfl rfl) rfl rfl hl.1 rfl (lv_room (Nat.le_of_ble_eq_true rfl)) dX3_fillGuesses_45 ⟨Nat.le_of_ble_eq_true rfl, Nat.le_of_ble_eq_true rfl⟩) (fun H locs hP hD hS => ?_)
        obtain ⟨g4, hg4⟩ : ∃ z : tG, z = fX3_likeliest_w g1 (gA g1 19 i1) (gA g1 20 i1) 1 := ⟨_, rfl⟩
        rw [← hg4] at hP hD
        refine g_kv hK hD hS hA (va_runV (As := [.int i1, .int (fX3_likeliest_r g1 (gA g1 19 i1) (gA g1 20 i1) 1)]) (rest := []) ⟨hx, hb, hml, hown, hts⟩ (k_tc_put l D ad cI g4 H.size 21 (by decide) i1 (fX3_likeliest_r g1 (gA g1 19 i1) (gA g1 20 i1) 1)) (cwV 2 hts gX3_fillGuesses_X5_put rfl rfl rfl (by decide +kernel) ⟨Nat.le_of_ble_eq_true rfl, Nat.le_of_ble_eq_true rfl⟩) (g_preV hK hP hD (ci := 5) (q0 := 48) rfl rfl) rfl rfl hl.1 rfl (lv_room (Nat.le_of_ble_eq_true rfl)) dX3_fillGuesses_48 ⟨Nat.le_of_ble_eq_true rfl, Nat.le_of_ble_eq_true rfl⟩) (fun H locs hP hD hS => ?_)
        obtain ⟨g5, hg5⟩ : ∃ z : tG, z = gP g4 21 i1 (fX3_likeliest_r g1 (gA g1 19 i1) (gA g1 20 i1) 1) := ⟨_, rfl⟩
        rw [← hg5] at hP hD
        refine lv_goto (tgt := 95) hx hb dX3_fillGuesses_51 (by decide) ?_
        refine lv_iinc (v := i1 + 1) (lv' := [(1, .int (i1 + 1)), (0, .ref (ad 43))]) hx hb dX3_fillGuesses_95 hl (k := 0) rfl rfl (by decide) rfl (fun ls hl => ?_)
        refine lv_goto (tgt := 2) hx hb dX3_fillGuesses_98 (by decide) ?_
        have hs := eX3_fillGuesses_2_4 i1 g1 c1 c2 hg4 hg5
        obtain ⟨n9, hn9, hE9, hr9⟩ := lpE_next hE hs
        exact ih n9 (by omega) (i1 + 1) g5 hE9 H locs hP hD hS ls (lv_sub hl [0, 1] rfl) (fun r hr => kk r (hr.trans hr9.symm))
  refine loop2 (nn ((g 45 7))) 0 g (tX3_fillGuesses_2 g) _ _ hP hD hS ls hl (fun r1 hr1 H locs hP hD hS ls hl => ?_)
  have hl : lv_has ls 2 [] := lv_sub hl [] rfl
  have hw := eX3_fillGuesses_w1 g hr1
  have hP := w_P9 hw hP
  have hD := w_D9 hw hD
  exact g_vret hx hb hr hlocks hK hP hD hS dX3_fillGuesses_101
def sX3_read_37 (x1 : Int32) (x3 : Int32) (x4 : Int32) : (Int32 × tG) → Option (Int32 × tG) := fun σ =>
  if x1 ≤ σ.1 then
    none
  else
    if (gA σ.2 17 σ.1) = x4 then
      some (σ.1 + 1, σ.2)
    else
      if (gA σ.2 9 (gA σ.2 13 σ.1)) = x3 then
        let g7 : tG := fX3_insert_w σ.2 σ.1 (gA σ.2 17 σ.1) (gA σ.2 18 σ.1)
        some (σ.1 + 1, g7)
      else
        some (σ.1 + 1, σ.2)
set_option maxRecDepth 20000 in
theorem eX3_read_37_1 (x1 : Int32) (x3 : Int32) (x4 : Int32) (i1 : Int32) (g6 : tG) (c1 : x1 ≤ i1) : sX3_read_37 x1 x3 x4 (i1, g6) = none := by
  exact (if_pos c1).trans rfl
set_option maxRecDepth 20000 in
theorem eX3_read_37_2 (x1 : Int32) (x3 : Int32) (x4 : Int32) (i1 : Int32) (g6 : tG) (c1 : ¬ (x1 ≤ i1)) (c2 : (gA g6 17 i1) = x4) : sX3_read_37 x1 x3 x4 (i1, g6) = some (i1 + 1, g6) := by
  exact (if_neg c1).trans ((if_pos c2).trans rfl)
set_option maxRecDepth 20000 in
theorem eX3_read_37_3 (x1 : Int32) (x3 : Int32) (x4 : Int32) (i1 : Int32) (g6 : tG) (c1 : ¬ (x1 ≤ i1)) (c2 : ¬ ((gA g6 17 i1) = x4)) (c5 : ¬ ((gA g6 9 (gA g6 13 i1)) = x3)) : sX3_read_37 x1 x3 x4 (i1, g6) = some (i1 + 1, g6) := by
  exact (if_neg c1).trans ((if_neg c2).trans ((if_neg c5).trans rfl))
set_option maxRecDepth 20000 in
theorem eX3_read_37_4 (x1 : Int32) (x3 : Int32) (x4 : Int32) (i1 : Int32) (g6 : tG) (c1 : ¬ (x1 ≤ i1)) (c2 : ¬ ((gA g6 17 i1) = x4)) (c5 : (gA g6 9 (gA g6 13 i1)) = x3) {g7 : tG} (hg7 : g7 = fX3_insert_w g6 i1 (gA g6 17 i1) (gA g6 18 i1)) : sX3_read_37 x1 x3 x4 (i1, g6) = some (i1 + 1, g7) := by
  subst hg7
  exact (if_neg c1).trans ((if_neg c2).trans ((if_pos c5).trans rfl))
theorem fj_X3_read_37 (x1 : Int32) (x3 : Int32) (x4 : Int32) (σ τ : Int32 × tG) (j : Nat) (h : j ∉ ([28, 29, 30, 45] : List Nat)) (e : sX3_read_37 x1 x3 x4 σ = some τ) : τ.2 j = σ.2 j := by
  obtain ⟨i1, g6⟩ := σ
  by_cases c1 : x1 ≤ i1
  · have hs := eX3_read_37_1 x1 x3 x4 i1 g6 c1
    rw [hs] at e
    cases e
  · by_cases c2 : (gA g6 17 i1) = x4
    · have hs := eX3_read_37_2 x1 x3 x4 i1 g6 c1 c2
      rw [hs] at e
      have e9 := Option.some.inj e
      subst e9
      exact rfl
    · by_cases c5 : (gA g6 9 (gA g6 13 i1)) = x3
      · obtain ⟨g7, hg7⟩ : ∃ z : tG, z = fX3_insert_w g6 i1 (gA g6 17 i1) (gA g6 18 i1) := ⟨_, rfl⟩
        have qg7 : g7 j = g6 j := by rw [hg7]; exact fjX3_insert g6 i1 (gA g6 17 i1) (gA g6 18 i1) j (fun hm => h (sub9 (a := [28, 29, 30, 45]) (b := [28, 29, 30, 45]) (by decide) hm))
        have hs := eX3_read_37_4 x1 x3 x4 i1 g6 c1 c2 c5 hg7
        rw [hs] at e
        have e9 := Option.some.inj e
        subst e9
        exact qg7
      · have hs := eX3_read_37_3 x1 x3 x4 i1 g6 c1 c2 c5
        rw [hs] at e
        have e9 := Option.some.inj e
        subst e9
        exact rfl
theorem fjX3_read_37 (x1 : Int32) (x3 : Int32) (x4 : Int32) (n : Nat) (σ : Int32 × tG) (j : Nat) (h : j ∉ ([28, 29, 30, 45] : List Nat)) : ((lp (sX3_read_37 x1 x3 x4) n σ).2) j = σ.2 j :=
  lp_inv (fun τ => τ.2 j = σ.2 j) (fun a b e9 h9 => (fj_X3_read_37 x1 x3 x4 a b j h e9).trans h9) n σ rfl
theorem fk_X3_read_37 (x1 : Int32) (x3 : Int32) (x4 : Int32) (σ τ : Int32 × tG) (k : Nat) (h : k ∉ ([8] : List Nat)) (e : sX3_read_37 x1 x3 x4 σ = some τ) : τ.2 45 k = σ.2 45 k := by
  obtain ⟨i1, g6⟩ := σ
  by_cases c1 : x1 ≤ i1
  · have hs := eX3_read_37_1 x1 x3 x4 i1 g6 c1
    rw [hs] at e
    cases e
  · by_cases c2 : (gA g6 17 i1) = x4
    · have hs := eX3_read_37_2 x1 x3 x4 i1 g6 c1 c2
      rw [hs] at e
      have e9 := Option.some.inj e
      subst e9
      exact rfl
    · by_cases c5 : (gA g6 9 (gA g6 13 i1)) = x3
      · obtain ⟨g7, hg7⟩ : ∃ z : tG, z = fX3_insert_w g6 i1 (gA g6 17 i1) (gA g6 18 i1) := ⟨_, rfl⟩
        have qg7 : g7 45 k = g6 45 k := by rw [hg7]; exact fiX3_insert g6 i1 (gA g6 17 i1) (gA g6 18 i1) k (fun hm => h (sub9 (a := [8]) (b := [8]) (by decide) hm))
        have hs := eX3_read_37_4 x1 x3 x4 i1 g6 c1 c2 c5 hg7
        rw [hs] at e
        have e9 := Option.some.inj e
        subst e9
        exact qg7
      · have hs := eX3_read_37_3 x1 x3 x4 i1 g6 c1 c2 c5
        rw [hs] at e
        have e9 := Option.some.inj e
        subst e9
        exact rfl
theorem fiX3_read_37 (x1 : Int32) (x3 : Int32) (x4 : Int32) (n : Nat) (σ : Int32 × tG) (k : Nat) (h : k ∉ ([8] : List Nat)) : ((lp (sX3_read_37 x1 x3 x4) n σ).2) 45 k = σ.2 45 k :=
  lp_inv (fun τ => τ.2 45 k = σ.2 45 k) (fun a b e9 h9 => (fk_X3_read_37 x1 x3 x4 a b k h e9).trans h9) n σ rfl
theorem tX3_read_37 (x1 : Int32) (x3 : Int32) (x4 : Int32) (g6z : tG) : lpE (sX3_read_37 x1 x3 x4) (nn x1) (0, g6z) := by
  refine lpE_up (fun σ => σ.1) x1 ?_ _ _ (nn_le _)
  intro σ τ h9
  obtain ⟨i1, g6⟩ := σ
  by_cases c1 : x1 ≤ i1
  · have hs := eX3_read_37_1 x1 x3 x4 i1 g6 c1
    rw [hs] at h9
    cases h9
  · by_cases c2 : (gA g6 17 i1) = x4
    · have hs := eX3_read_37_2 x1 x3 x4 i1 g6 c1 c2
      rw [hs] at h9
      have e9 := Option.some.inj h9
      subst e9
      exact ⟨not_le32 c1, rfl⟩
    · by_cases c5 : (gA g6 9 (gA g6 13 i1)) = x3
      · obtain ⟨g7, hg7⟩ : ∃ z : tG, z = fX3_insert_w g6 i1 (gA g6 17 i1) (gA g6 18 i1) := ⟨_, rfl⟩
        have hs := eX3_read_37_4 x1 x3 x4 i1 g6 c1 c2 c5 hg7
        rw [hs] at h9
        have e9 := Option.some.inj h9
        subst e9
        exact ⟨not_le32 c1, rfl⟩
      · have hs := eX3_read_37_3 x1 x3 x4 i1 g6 c1 c2 c5
        rw [hs] at h9
        have e9 := Option.some.inj h9
        subst e9
        exact ⟨not_le32 c1, rfl⟩
def sX3_read_123 : (Int32 × tG) → Option (Int32 × tG) := fun σ =>
  if (σ.2 45 8) ≤ σ.1 then
    none
  else
    let v1 : Int32 := gA σ.2 29 σ.1
    if (gA σ.2 16 v1) = 0 then
      let g9 : tG := fX3_takeOut_w σ.2 v1
      some (σ.1 + 1, g9)
    else
      let g10 : tG := fX3_takeIn_w σ.2 v1
      some (σ.1 + 1, g10)
set_option maxRecDepth 20000 in
theorem eX3_read_123_1 (i2 : Int32) (g8 : tG) (c6 : (g8 45 8) ≤ i2) : sX3_read_123 (i2, g8) = none := by
  exact (if_pos c6).trans rfl
set_option maxRecDepth 20000 in
theorem eX3_read_123_2 (i2 : Int32) (g8 : tG) (c6 : ¬ ((g8 45 8) ≤ i2)) {v1 : Int32} (hv1 : v1 = gA g8 29 i2) (c7 : (gA g8 16 v1) = 0) {g9 : tG} (hg9 : g9 = fX3_takeOut_w g8 v1) : sX3_read_123 (i2, g8) = some (i2 + 1, g9) := by
  subst hv1
  subst hg9
  exact (if_neg c6).trans ((if_pos c7).trans rfl)
set_option maxRecDepth 20000 in
theorem eX3_read_123_3 (i2 : Int32) (g8 : tG) (c6 : ¬ ((g8 45 8) ≤ i2)) {v1 : Int32} (hv1 : v1 = gA g8 29 i2) (c7 : ¬ ((gA g8 16 v1) = 0)) {g10 : tG} (hg10 : g10 = fX3_takeIn_w g8 v1) : sX3_read_123 (i2, g8) = some (i2 + 1, g10) := by
  subst hv1
  subst hg10
  exact (if_neg c6).trans ((if_neg c7).trans rfl)
theorem fj_X3_read_123 (σ τ : Int32 × tG) (j : Nat) (h : j ∉ ([19, 20, 21, 22, 23, 24, 25, 26, 27, 45] : List Nat)) (e : sX3_read_123 σ = some τ) : τ.2 j = σ.2 j := by
  obtain ⟨i2, g8⟩ := σ
  by_cases c6 : (g8 45 8) ≤ i2
  · have hs := eX3_read_123_1 i2 g8 c6
    rw [hs] at e
    cases e
  · obtain ⟨v1, hv1⟩ : ∃ z : Int32, z = gA g8 29 i2 := ⟨_, rfl⟩
    by_cases c7 : (gA g8 16 v1) = 0
    · obtain ⟨g9, hg9⟩ : ∃ z : tG, z = fX3_takeOut_w g8 v1 := ⟨_, rfl⟩
      have qg9 : g9 j = g8 j := by rw [hg9]; exact fjX3_takeOut g8 v1 j (fun hm => h (sub9 (a := [19, 20, 21, 22, 23, 24, 25, 26, 27, 45]) (b := [19, 20, 21, 22, 23, 24, 25, 26, 27, 45]) (by decide) hm))
      have hs := eX3_read_123_2 i2 g8 c6 hv1 c7 hg9
      rw [hs] at e
      have e9 := Option.some.inj e
      subst e9
      exact qg9
    · obtain ⟨g10, hg10⟩ : ∃ z : tG, z = fX3_takeIn_w g8 v1 := ⟨_, rfl⟩
      have qg10 : g10 j = g8 j := by rw [hg10]; exact fjX3_takeIn g8 v1 j (fun hm => h (sub9 (a := [19, 20, 21, 22, 23, 24, 25, 26, 27, 45]) (b := [19, 20, 21, 22, 23, 24, 25, 26, 27, 45]) (by decide) hm))
      have hs := eX3_read_123_3 i2 g8 c6 hv1 c7 hg10
      rw [hs] at e
      have e9 := Option.some.inj e
      subst e9
      exact qg10
theorem fjX3_read_123 (n : Nat) (σ : Int32 × tG) (j : Nat) (h : j ∉ ([19, 20, 21, 22, 23, 24, 25, 26, 27, 45] : List Nat)) : ((lp (sX3_read_123) n σ).2) j = σ.2 j :=
  lp_inv (fun τ => τ.2 j = σ.2 j) (fun a b e9 h9 => (fj_X3_read_123 a b j h e9).trans h9) n σ rfl
theorem fk_X3_read_123 (σ τ : Int32 × tG) (k : Nat) (h : k ∉ ([7] : List Nat)) (e : sX3_read_123 σ = some τ) : τ.2 45 k = σ.2 45 k := by
  obtain ⟨i2, g8⟩ := σ
  by_cases c6 : (g8 45 8) ≤ i2
  · have hs := eX3_read_123_1 i2 g8 c6
    rw [hs] at e
    cases e
  · obtain ⟨v1, hv1⟩ : ∃ z : Int32, z = gA g8 29 i2 := ⟨_, rfl⟩
    by_cases c7 : (gA g8 16 v1) = 0
    · obtain ⟨g9, hg9⟩ : ∃ z : tG, z = fX3_takeOut_w g8 v1 := ⟨_, rfl⟩
      have qg9 : g9 45 k = g8 45 k := by rw [hg9]; exact fiX3_takeOut g8 v1 k (fun hm => h (sub9 (a := [7]) (b := [7]) (by decide) hm))
      have hs := eX3_read_123_2 i2 g8 c6 hv1 c7 hg9
      rw [hs] at e
      have e9 := Option.some.inj e
      subst e9
      exact qg9
    · obtain ⟨g10, hg10⟩ : ∃ z : tG, z = fX3_takeIn_w g8 v1 := ⟨_, rfl⟩
      have qg10 : g10 45 k = g8 45 k := by rw [hg10]; exact fiX3_takeIn g8 v1 k (fun hm => h (sub9 (a := [7]) (b := [7]) (by decide) hm))
      have hs := eX3_read_123_3 i2 g8 c6 hv1 c7 hg10
      rw [hs] at e
      have e9 := Option.some.inj e
      subst e9
      exact qg10
theorem fiX3_read_123 (n : Nat) (σ : Int32 × tG) (k : Nat) (h : k ∉ ([7] : List Nat)) : ((lp (sX3_read_123) n σ).2) 45 k = σ.2 45 k :=
  lp_inv (fun τ => τ.2 45 k = σ.2 45 k) (fun a b e9 h9 => (fk_X3_read_123 a b k h e9).trans h9) n σ rfl
theorem tX3_read_123 (g8z : tG) : lpE (sX3_read_123) (nn ((g8z 45 8))) (0, g8z) := by
  refine lpE_upI (fun σ => σ.2 45 8 = (g8z 45 8)) (fun σ => σ.1) ((g8z 45 8)) ?_ _ _ rfl (nn_le _)
  intro σ τ hI h9
  have qk := fk_X3_read_123 _ _ 8 (by decide) h9
  obtain ⟨i2, g8⟩ := σ
  by_cases c6 : (g8 45 8) ≤ i2
  · have hs := eX3_read_123_1 i2 g8 c6
    rw [hs] at h9
    cases h9
  · obtain ⟨v1, hv1⟩ : ∃ z : Int32, z = gA g8 29 i2 := ⟨_, rfl⟩
    by_cases c7 : (gA g8 16 v1) = 0
    · obtain ⟨g9, hg9⟩ : ∃ z : tG, z = fX3_takeOut_w g8 v1 := ⟨_, rfl⟩
      have hs := eX3_read_123_2 i2 g8 c6 hv1 c7 hg9
      rw [hs] at h9
      have e9 := Option.some.inj h9
      subst e9
      exact ⟨qk.trans hI, lt_eq32 (not_le32 c6) hI, rfl⟩
    · obtain ⟨g10, hg10⟩ : ∃ z : tG, z = fX3_takeIn_w g8 v1 := ⟨_, rfl⟩
      have hs := eX3_read_123_3 i2 g8 c6 hv1 c7 hg10
      rw [hs] at h9
      have e9 := Option.some.inj h9
      subst e9
      exact ⟨qk.trans hI, lt_eq32 (not_le32 c6) hI, rfl⟩
def fX3_read_w (g : tG) (x1 : Int32) (x3 : Int32) (x4 : Int32) : tG :=
  let g1 : tG := tc_sc g 7 0
  let g2 : tG := tc_sc g1 8 0
  let g3 : tG := gF g2 26 0
  let g4 : tG := gF g3 27 0
  let g5 : tG := gF g4 28 0
  let r1 : Int32 × tG := lp (sX3_read_37 x1 x3 x4) (nn x1) (0, g5)
  let r2 : Int32 × tG := lp (sX3_read_123) (nn ((r1.2 45 8))) (0, r1.2)
  let g11 : tG := fX3_fillGuesses_w r2.2
  g11
set_option maxRecDepth 20000 in
theorem eX3_read_w1 (g : tG) (x1 : Int32) (x3 : Int32) (x4 : Int32) {g1 : tG} (hg1 : g1 = tc_sc g 7 0) {g2 : tG} (hg2 : g2 = tc_sc g1 8 0) {g3 : tG} (hg3 : g3 = gF g2 26 0) {g4 : tG} (hg4 : g4 = gF g3 27 0) {g5 : tG} (hg5 : g5 = gF g4 28 0) {r1 : Int32 × tG} (hr1 : r1 = lp (sX3_read_37 x1 x3 x4) (nn x1) (0, g5)) {r2 : Int32 × tG} (hr2 : r2 = lp (sX3_read_123) (nn ((r1.2 45 8))) (0, r1.2)) {g11 : tG} (hg11 : g11 = fX3_fillGuesses_w r2.2) : fX3_read_w g x1 x3 x4 = g11 := by
  subst hg1
  subst hg2
  subst hg3
  subst hg4
  subst hg5
  subst hr1
  subst hr2
  subst hg11
  exact rfl
theorem fjX3_read (g : tG) (x1 : Int32) (x3 : Int32) (x4 : Int32) (j : Nat) (h : j ∉ ([19, 20, 21, 22, 23, 24, 25, 26, 27, 28, 29, 30, 31, 45] : List Nat)) : fX3_read_w g x1 x3 x4 j = g j := by
  obtain ⟨g1, hg1⟩ : ∃ z : tG, z = tc_sc g 7 0 := ⟨_, rfl⟩
  obtain ⟨g2, hg2⟩ : ∃ z : tG, z = tc_sc g1 8 0 := ⟨_, rfl⟩
  obtain ⟨g3, hg3⟩ : ∃ z : tG, z = gF g2 26 0 := ⟨_, rfl⟩
  obtain ⟨g4, hg4⟩ : ∃ z : tG, z = gF g3 27 0 := ⟨_, rfl⟩
  obtain ⟨g5, hg5⟩ : ∃ z : tG, z = gF g4 28 0 := ⟨_, rfl⟩
  obtain ⟨r1, hr1⟩ : ∃ z : Int32 × tG, z = lp (sX3_read_37 x1 x3 x4) (nn x1) (0, g5) := ⟨_, rfl⟩
  obtain ⟨r2, hr2⟩ : ∃ z : Int32 × tG, z = lp (sX3_read_123) (nn ((r1.2 45 8))) (0, r1.2) := ⟨_, rfl⟩
  obtain ⟨g11, hg11⟩ : ∃ z : tG, z = fX3_fillGuesses_w r2.2 := ⟨_, rfl⟩
  have qg1 : g1 j = g j := by rw [hg1]; exact sc_nj (fun e9 => h (by rw [e9]; decide))
  have qg2 : g2 j = g1 j := by rw [hg2]; exact sc_nj (fun e9 => h (by rw [e9]; decide))
  have qg3 : g3 j = g2 j := by rw [hg3]; exact gF_ne (fun e9 => h (by rw [e9]; decide))
  have qg4 : g4 j = g3 j := by rw [hg4]; exact gF_ne (fun e9 => h (by rw [e9]; decide))
  have qg5 : g5 j = g4 j := by rw [hg5]; exact gF_ne (fun e9 => h (by rw [e9]; decide))
  have qr1 : r1.2 j = g5 j := by rw [hr1]; exact fjX3_read_37 x1 x3 x4 _ _ j (fun hm => h (sub9 (a := [28, 29, 30, 45]) (b := [19, 20, 21, 22, 23, 24, 25, 26, 27, 28, 29, 30, 31, 45]) (by decide) hm))
  have qr2 : r2.2 j = r1.2 j := by rw [hr2]; exact fjX3_read_123 _ _ j (fun hm => h (sub9 (a := [19, 20, 21, 22, 23, 24, 25, 26, 27, 45]) (b := [19, 20, 21, 22, 23, 24, 25, 26, 27, 28, 29, 30, 31, 45]) (by decide) hm))
  have qg11 : g11 j = r2.2 j := by rw [hg11]; exact fjX3_fillGuesses r2.2 j (fun hm => h (sub9 (a := [20, 21, 31]) (b := [19, 20, 21, 22, 23, 24, 25, 26, 27, 28, 29, 30, 31, 45]) (by decide) hm))
  have hs := eX3_read_w1 g x1 x3 x4 hg1 hg2 hg3 hg4 hg5 hr1 hr2 hg11
  rw [hs]
  exact qg11.trans (qr2.trans (qr1.trans (qg5.trans (qg4.trans (qg3.trans (qg2.trans (qg1)))))))
theorem fiX3_read (g : tG) (x1 : Int32) (x3 : Int32) (x4 : Int32) (k : Nat) (h : k ∉ ([7, 8] : List Nat)) : fX3_read_w g x1 x3 x4 45 k = g 45 k := by
  obtain ⟨g1, hg1⟩ : ∃ z : tG, z = tc_sc g 7 0 := ⟨_, rfl⟩
  obtain ⟨g2, hg2⟩ : ∃ z : tG, z = tc_sc g1 8 0 := ⟨_, rfl⟩
  obtain ⟨g3, hg3⟩ : ∃ z : tG, z = gF g2 26 0 := ⟨_, rfl⟩
  obtain ⟨g4, hg4⟩ : ∃ z : tG, z = gF g3 27 0 := ⟨_, rfl⟩
  obtain ⟨g5, hg5⟩ : ∃ z : tG, z = gF g4 28 0 := ⟨_, rfl⟩
  obtain ⟨r1, hr1⟩ : ∃ z : Int32 × tG, z = lp (sX3_read_37 x1 x3 x4) (nn x1) (0, g5) := ⟨_, rfl⟩
  obtain ⟨r2, hr2⟩ : ∃ z : Int32 × tG, z = lp (sX3_read_123) (nn ((r1.2 45 8))) (0, r1.2) := ⟨_, rfl⟩
  obtain ⟨g11, hg11⟩ : ∃ z : tG, z = fX3_fillGuesses_w r2.2 := ⟨_, rfl⟩
  have qg1 : g1 45 k = g 45 k := by rw [hg1]; exact sc_nk (fun e9 => h (by rw [e9]; decide))
  have qg2 : g2 45 k = g1 45 k := by rw [hg2]; exact sc_nk (fun e9 => h (by rw [e9]; decide))
  have qg3 : g3 45 k = g2 45 k := by rw [hg3]; exact congrFun (gF_ne (by decide)) k
  have qg4 : g4 45 k = g3 45 k := by rw [hg4]; exact congrFun (gF_ne (by decide)) k
  have qg5 : g5 45 k = g4 45 k := by rw [hg5]; exact congrFun (gF_ne (by decide)) k
  have qr1 : r1.2 45 k = g5 45 k := by rw [hr1]; exact fiX3_read_37 x1 x3 x4 _ _ k (fun hm => h (sub9 (a := [8]) (b := [7, 8]) (by decide) hm))
  have qr2 : r2.2 45 k = r1.2 45 k := by rw [hr2]; exact fiX3_read_123 _ _ k (fun hm => h (sub9 (a := [7]) (b := [7, 8]) (by decide) hm))
  have qg11 : g11 45 k = r2.2 45 k := by rw [hg11]; exact congrFun (fjX3_fillGuesses r2.2 45 (by decide)) k
  have hs := eX3_read_w1 g x1 x3 x4 hg1 hg2 hg3 hg4 hg5 hr1 hr2 hg11
  rw [hs]
  exact qg11.trans (qr2.trans (qr1.trans (qg5.trans (qg4.trans (qg3.trans (qg2.trans (qg1)))))))
set_option maxHeartbeats 4000000 in
set_option maxRecDepth 100000 in
theorem kX3_read (l : Launch) (D : va_G) (ad : Nat → Nat) (cI : ClassId) (g : tG) (sz : Nat) (x1 : Int32) (x3 : Int32) (x4 : Int32) : Met l yX3_read wsX3_read ({ frames := 3, cells := 0, slots := 0, locals := 74 } : Room) (g_P D [(cI, .int)] (tcW ad cI g) [.ref (ad 43), .ref (ad 30), .int x1, .ref (ad 19), .int x3, .int x4] sz) (g_Qv D [(cI, .int)] (va_A (tcW ad cI g) sz) (tcW ad cI (fX3_read_w g x1 x3 x4))) 0 0 (va_A (tcW ad cI g) sz) := by
  refine Met.ofW (cc := cX3_read) (maxL := 8) (ret := none) (by decide) rfl ?_
  intro p e s m args below meth c9 s₁ B hml hv
  obtain ⟨rfl, hsz, hP, hK, hD0⟩ := hv
  have hx := B.exec
  have hb := B.bytes
  have hr := B.returns
  have hts := atoms_spec (ws := wsX3_read) B.pre
  have hown : s.vm.findClass RX3 = some m.cls := findClass_of_methodNamed B.named
  have hlocks := B.notSynchronized
  subst hsz
  have hD := hD0.self (sz := s.heap.size)
  generalize hAe : va_A (tcW ad cI g) s.heap.size = A at hD ⊢
  have hA : ∀ q : Nat, s.heap.size ≤ q → A q := fun q h => by rw [← hAe]; exact Or.inr h
  have hS : va_S A s.heap s.heap [] := va_S.rf
  have hl := lv_entry ([.ref (ad 43), .ref (ad 30), .int x1, .ref (ad 19), .int x3, .int x4]) (n := 8) (Nat.le_of_ble_eq_true rfl)
  rw [lg_entry_eq]
  generalize (lg_sl ([.ref (ad 43), .ref (ad 30), .int x1, .ref (ad 19), .int x3, .int x4]) ++ List.replicate (8 - (lg_sl ([.ref (ad 43), .ref (ad 30), .int x1, .ref (ad 19), .int x3, .int x4])).length) Slot.unset).toArray = ls at hl ⊢
  have hl : lv_has ls 8 [(0, .ref (ad 43)), (1, .ref (ad 30)), (2, .int x1), (3, .ref (ad 19)), (4, .int x3), (5, .int x4)] := hl
  have winX0 : ∀ w ∈ u_ws RX0 TX0 6, w ∈ wsX3_read := by decide +kernel
  have winX3 : ∀ w ∈ u_ws RX3 TX3 15, w ∈ wsX3_read := by decide +kernel
  have winX5 : ∀ w ∈ u_ws RX5 TX5 1, w ∈ wsX3_read := by decide +kernel
  have winX6 : ∀ w ∈ u_ws RX6 TX6 9, w ∈ wsX3_read := by decide +kernel
  refine lv_aload_n hx hb dX3_read_0 rfl (lv_at hl 0 rfl) ?_
  refine lv_iconst (v := 0) hx hb dX3_read_1 (by decide) ?_
  refine va_put (D := D) (ci := 3) (v := .int 0) (ty := .int) (C := RX3) (T := TX3) (N := 15) hx hb hts winX3 tyX3 tyX3_ok nmX3 hown hK hP hD hS 43 rfl rfl 10 (by decide) (hts (.fieldLink RX3 47 "TapCap$Legs" "count" "I") (List.mem_of_getElem? (i := 1) rfl)) (fun _ h9 => h9) rfl (by decide +kernel) rfl rfl (Nat.le_of_ble_eq_true rfl) dX3_read_2 (fun H locs hP hD hS => ?_)
  have hP := tc_sP_7 hP
  have hD := tc_sD_7 hD
  obtain ⟨g1, hg1⟩ : ∃ z : tG, z = tc_sc g 7 0 := ⟨_, rfl⟩
  rw [← hg1] at hP hD
  refine lv_aload_n hx hb dX3_read_5 rfl (lv_at hl 0 rfl) ?_
  refine lv_iconst (v := 0) hx hb dX3_read_6 (by decide) ?_
  refine va_put (D := D) (ci := 3) (v := .int 0) (ty := .int) (C := RX3) (T := TX3) (N := 15) hx hb hts winX3 tyX3 tyX3_ok nmX3 hown hK hP hD hS 43 rfl rfl 14 (by decide) (hts (.fieldLink RX3 60 "TapCap$Legs" "ordered" "I") (List.mem_of_getElem? (i := 2) rfl)) (fun _ h9 => h9) rfl (by decide +kernel) rfl rfl (Nat.le_of_ble_eq_true rfl) dX3_read_7 (fun H locs hP hD hS => ?_)
  have hP := tc_sP_8 hP
  have hD := tc_sD_8 hD
  obtain ⟨g2, hg2⟩ : ∃ z : tG, z = tc_sc g1 8 0 := ⟨_, rfl⟩
  rw [← hg2] at hP hD
  refine lv_aload_n hx hb dX3_read_10 rfl (lv_at hl 0 rfl) ?_
  refine va_get (D := D) (ci := 3) (v := .ref (ad 58)) (C := RX3) (T := TX3) (N := 15) hx hb hts winX3 hown hK hP 43 rfl rfl 7 (by decide) (hts (.fieldLink RX3 38 "TapCap$Legs" "firstOn" "LTapCap$Row;") (List.mem_of_getElem? (i := 3) rfl)) (fun _ h9 => h9) rfl dX3_read_11 ?_
  refine lv_iconst (v := 0) hx hb dX3_read_14 (by decide) ?_
  refine g_kv hK hD hS hA (va_runV (As := [.int 0]) (rest := []) ⟨hx, hb, hml, hown, hts⟩ (k_tc_fill l D ad cI g2 H.size 26 (by decide) 0) (cwV 1 hts gX3_read_X5_fill rfl rfl rfl (by decide +kernel) ⟨Nat.le_of_ble_eq_true rfl, Nat.le_of_ble_eq_true rfl⟩) (g_preV hK hP hD (ci := 5) (q0 := 58) rfl rfl) rfl rfl hl.1 rfl (lv_room (Nat.le_of_ble_eq_true rfl)) dX3_read_15 ⟨Nat.le_of_ble_eq_true rfl, Nat.le_of_ble_eq_true rfl⟩) (fun H locs hP hD hS => ?_)
  obtain ⟨g3, hg3⟩ : ∃ z : tG, z = gF g2 26 0 := ⟨_, rfl⟩
  rw [← hg3] at hP hD
  refine lv_aload_n hx hb dX3_read_18 rfl (lv_at hl 0 rfl) ?_
  refine va_get (D := D) (ci := 3) (v := .ref (ad 60)) (C := RX3) (T := TX3) (N := 15) hx hb hts winX3 hown hK hP 43 rfl rfl 8 (by decide) (hts (.fieldLink RX3 41 "TapCap$Legs" "countOn" "LTapCap$Row;") (List.mem_of_getElem? (i := 4) rfl)) (fun _ h9 => h9) rfl dX3_read_19 ?_
  refine lv_iconst (v := 0) hx hb dX3_read_22 (by decide) ?_
  refine g_kv hK hD hS hA (va_runV (As := [.int 0]) (rest := []) ⟨hx, hb, hml, hown, hts⟩ (k_tc_fill l D ad cI g3 H.size 27 (by decide) 0) (cwV 1 hts gX3_read_X5_fill rfl rfl rfl (by decide +kernel) ⟨Nat.le_of_ble_eq_true rfl, Nat.le_of_ble_eq_true rfl⟩) (g_preV hK hP hD (ci := 5) (q0 := 60) rfl rfl) rfl rfl hl.1 rfl (lv_room (Nat.le_of_ble_eq_true rfl)) dX3_read_23 ⟨Nat.le_of_ble_eq_true rfl, Nat.le_of_ble_eq_true rfl⟩) (fun H locs hP hD hS => ?_)
  obtain ⟨g4, hg4⟩ : ∃ z : tG, z = gF g3 27 0 := ⟨_, rfl⟩
  rw [← hg4] at hP hD
  refine lv_aload_n hx hb dX3_read_26 rfl (lv_at hl 0 rfl) ?_
  refine va_get (D := D) (ci := 3) (v := .ref (ad 62)) (C := RX3) (T := TX3) (N := 15) hx hb hts winX3 hown hK hP 43 rfl rfl 9 (by decide) (hts (.fieldLink RX3 44 "TapCap$Legs" "tapsOn" "LTapCap$Row;") (List.mem_of_getElem? (i := 5) rfl)) (fun _ h9 => h9) rfl dX3_read_27 ?_
  refine lv_iconst (v := 0) hx hb dX3_read_30 (by decide) ?_
  refine g_kv hK hD hS hA (va_runV (As := [.int 0]) (rest := []) ⟨hx, hb, hml, hown, hts⟩ (k_tc_fill l D ad cI g4 H.size 28 (by decide) 0) (cwV 1 hts gX3_read_X5_fill rfl rfl rfl (by decide +kernel) ⟨Nat.le_of_ble_eq_true rfl, Nat.le_of_ble_eq_true rfl⟩) (g_preV hK hP hD (ci := 5) (q0 := 62) rfl rfl) rfl rfl hl.1 rfl (lv_room (Nat.le_of_ble_eq_true rfl)) dX3_read_31 ⟨Nat.le_of_ble_eq_true rfl, Nat.le_of_ble_eq_true rfl⟩) (fun H locs hP hD hS => ?_)
  obtain ⟨g5, hg5⟩ : ∃ z : tG, z = gF g4 28 0 := ⟨_, rfl⟩
  rw [← hg5] at hP hD
  refine lv_iconst (v := 0) hx hb dX3_read_34 (by decide) ?_
  refine lv_istore (lv' := [(6, .int 0), (0, .ref (ad 43)), (1, .ref (ad 30)), (2, .int x1), (3, .ref (ad 19)), (4, .int x3), (5, .int x4)]) hx hb dX3_read_35 hl (by decide) rfl (fun ls hl => ?_)
  have loop37 : ∀ (n : Nat)  (i1 : Int32) (g6 : tG), lpE (sX3_read_37 x1 x3 x4) n (i1, g6) → ∀ (H : Heap) (locs : List Loc), va_P D vwCl (tcW ad cI g6) H → va_D A (tcW ad cI g6) → va_S A s.heap H locs → ∀ (ls : Array Slot), lv_has ls 8 [(6, .int i1), (0, .ref (ad 43)), (1, .ref (ad 30)), (2, .int x1), (3, .ref (ad 19)), (4, .int x3), (5, .int x4)] → (∀ r : Int32 × tG, r = lp (sX3_read_37 x1 x3 x4) n (i1, g6) → ∀ (H : Heap) (locs : List Loc), va_P D vwCl (tcW ad cI r.2) H → va_D A (tcW ad cI r.2) → va_S A s.heap H locs → ∀ (ls : Array Slot), lv_has ls 8 [(6, .int r.1), (0, .ref (ad 43)), (1, .ref (ad 30)), (2, .int x1), (3, .ref (ad 19)), (4, .int x3), (5, .int x4)] → W p l e (headSpec wsX3_read ({ frames := 3, cells := 0, slots := 0, locals := 74 } : Room)).room s m ([.ref (ad 43), .ref (ad 30), .int x1, .ref (ad 19), .int x3, .int x4] : List Value).toArray below meth c9 H locs 0 0 (MQ below (g_Qv D [(cI, .int)] A (tcW ad cI (fX3_read_w g x1 x3 x4))) ([.ref (ad 43), .ref (ad 30), .int x1, .ref (ad 19), .int x3, .int x4] : List Value).toArray s 0 0 A) (F0 m 120 ls [])) → W p l e (headSpec wsX3_read ({ frames := 3, cells := 0, slots := 0, locals := 74 } : Room)).room s m ([.ref (ad 43), .ref (ad 30), .int x1, .ref (ad 19), .int x3, .int x4] : List Value).toArray below meth c9 H locs 0 0 (MQ below (g_Qv D [(cI, .int)] A (tcW ad cI (fX3_read_w g x1 x3 x4))) ([.ref (ad 43), .ref (ad 30), .int x1, .ref (ad 19), .int x3, .int x4] : List Value).toArray s 0 0 A) (F0 m 37 ls []) := by
    refine lp_ind ?_
    intro n ih i1 g6 hE H locs hP hD hS ls hl kk
    refine lv_iload hx hb dX3_read_37 (lv_at hl 0 rfl) ?_
    refine lv_iload_n hx hb dX3_read_39 rfl (lv_at hl 3 rfl) ?_
    refine lv_icmp_ge (tgt := 120) hx hb dX3_read_40 (by decide) (fun c1 => ?_) (fun c1 => ?_)
    · have hs := eX3_read_37_1 x1 x3 x4 i1 g6 c1
      exact kk _ (lp_none hs).symm H locs hP hD hS ls (lv_sub hl [0, 1, 2, 3, 4, 5, 6] rfl)
    · refine lv_aload_n hx hb dX3_read_43 rfl (lv_at hl 2 rfl) ?_
      refine va_get (D := D) (ci := 6) (v := .ref (ad 39)) (C := RX6) (T := TX6) (N := 9) hx hb hts winX6 hown hK hP 30 rfl rfl 4 (by decide) (hts (.fieldLink RX3 66 "TapCap$Taps" "day" "LTapCap$Row;") (List.mem_of_getElem? (i := 6) rfl)) (fun _ h9 => h9) rfl dX3_read_44 ?_
      refine lv_iload hx hb dX3_read_47 (lv_at hl 0 rfl) ?_
      refine g_ki hK hD hS hA (va_runV (As := [.int i1]) (rest := []) ⟨hx, hb, hml, hown, hts⟩ (k_tc_at l D ad cI g6 H.size 17 (by decide) i1) (cwV 1 hts gX3_read_X5_at rfl rfl rfl (by decide +kernel) ⟨Nat.le_of_ble_eq_true rfl, Nat.le_of_ble_eq_true rfl⟩) (g_preV hK hP hD (ci := 5) (q0 := 39) rfl rfl) rfl rfl hl.1 rfl (lv_room (Nat.le_of_ble_eq_true rfl)) dX3_read_49 ⟨Nat.le_of_ble_eq_true rfl, Nat.le_of_ble_eq_true rfl⟩) (fun H locs hP hD hS => ?_)
      refine lv_iload hx hb dX3_read_52 (lv_at hl 6 rfl) ?_
      refine lv_icmp_eq (tgt := 61) hx hb dX3_read_54 (by decide) (fun c2 => ?_) (fun c2 => ?_)
      · refine lv_iconst (v := 0) hx hb dX3_read_61 (by decide) ?_
        refine lv_istore (lv' := [(7, .int 0), (6, .int i1), (0, .ref (ad 43)), (1, .ref (ad 30)), (2, .int x1), (3, .ref (ad 19)), (4, .int x3), (5, .int x4)]) hx hb dX3_read_62 hl (by decide) rfl (fun ls hl => ?_)
        refine lv_iload hx hb dX3_read_64 (lv_at hl 0 rfl) ?_
        refine lv_if_eq (tgt := 114) hx hb dX3_read_66 (by decide) (fun c3 => ?_) (fun c3 => ?_)
        · refine lv_iinc (v := i1 + 1) (lv' := [(6, .int (i1 + 1)), (7, .int 0), (0, .ref (ad 43)), (1, .ref (ad 30)), (2, .int x1), (3, .ref (ad 19)), (4, .int x3), (5, .int x4)]) hx hb dX3_read_114 hl (k := 1) rfl rfl (by decide) rfl (fun ls hl => ?_)
          refine lv_goto (tgt := 37) hx hb dX3_read_117 (by decide) ?_
          have hs := eX3_read_37_2 x1 x3 x4 i1 g6 c1 c2
          obtain ⟨n9, hn9, hE9, hr9⟩ := lpE_next hE hs
          exact ih n9 (by omega) (i1 + 1) g6 hE9 H locs hP hD hS ls (lv_sub hl [0, 2, 3, 4, 5, 6, 7] rfl) (fun r hr => kk r (hr.trans hr9.symm))
        · exact absurd (by decide) c3
      · refine lv_iconst (v := 1) hx hb dX3_read_57 (by decide) ?_
        refine lv_goto (tgt := 62) hx hb dX3_read_58 (by decide) ?_
        refine lv_istore (lv' := [(7, .int 1), (6, .int i1), (0, .ref (ad 43)), (1, .ref (ad 30)), (2, .int x1), (3, .ref (ad 19)), (4, .int x3), (5, .int x4)]) hx hb dX3_read_62 hl (by decide) rfl (fun ls hl => ?_)
        refine lv_iload hx hb dX3_read_64 (lv_at hl 0 rfl) ?_
        refine lv_if_eq (tgt := 114) hx hb dX3_read_66 (by decide) (fun c4 => ?_) (fun c4 => ?_)
        · exact absurd c4 (by decide)
        · refine lv_aload_n hx hb dX3_read_69 rfl (lv_at hl 5 rfl) ?_
          refine va_get (D := D) (ci := 0) (v := .ref (ad 22)) (C := RX0) (T := TX0) (N := 6) hx hb hts winX0 hown hK hP 19 rfl rfl 1 (by decide) (hts (.fieldLink RX3 75 "TapCap$Cards" "personOf" "LTapCap$Row;") (List.mem_of_getElem? (i := 7) rfl)) (fun _ h9 => h9) rfl dX3_read_70 ?_
          refine lv_aload_n hx hb dX3_read_73 rfl (lv_at hl 3 rfl) ?_
          refine va_get (D := D) (ci := 6) (v := .ref (ad 31)) (C := RX6) (T := TX6) (N := 9) hx hb hts winX6 hown hK hP 30 rfl rfl 0 (by decide) (hts (.fieldLink RX3 80 "TapCap$Taps" "card" "LTapCap$Row;") (List.mem_of_getElem? (i := 8) rfl)) (fun _ h9 => h9) rfl dX3_read_74 ?_
          refine lv_iload hx hb dX3_read_77 (lv_at hl 1 rfl) ?_
          refine g_ki hK hD hS hA (va_runV (As := [.int i1]) (rest := [.ref (ad 22)]) ⟨hx, hb, hml, hown, hts⟩ (k_tc_at l D ad cI g6 H.size 13 (by decide) i1) (cwV 1 hts gX3_read_X5_at rfl rfl rfl (by decide +kernel) ⟨Nat.le_of_ble_eq_true rfl, Nat.le_of_ble_eq_true rfl⟩) (g_preV hK hP hD (ci := 5) (q0 := 31) rfl rfl) rfl rfl hl.1 rfl (lv_room (Nat.le_of_ble_eq_true rfl)) dX3_read_79 ⟨Nat.le_of_ble_eq_true rfl, Nat.le_of_ble_eq_true rfl⟩) (fun H locs hP hD hS => ?_)
          refine g_ki hK hD hS hA (va_runV (As := [.int (gA g6 13 i1)]) (rest := []) ⟨hx, hb, hml, hown, hts⟩ (k_tc_at l D ad cI g6 H.size 9 (by decide) (gA g6 13 i1)) (cwV 1 hts gX3_read_X5_at rfl rfl rfl (by decide +kernel) ⟨Nat.le_of_ble_eq_true rfl, Nat.le_of_ble_eq_true rfl⟩) (g_preV hK hP hD (ci := 5) (q0 := 22) rfl rfl) rfl rfl hl.1 rfl (lv_room (Nat.le_of_ble_eq_true rfl)) dX3_read_82 ⟨Nat.le_of_ble_eq_true rfl, Nat.le_of_ble_eq_true rfl⟩) (fun H locs hP hD hS => ?_)
          refine lv_iload hx hb dX3_read_85 (lv_at hl 6 rfl) ?_
          refine lv_icmp_ne (tgt := 114) hx hb dX3_read_87 (by decide) (fun c5 => ?_) (fun c5 => ?_)
          · refine lv_iinc (v := i1 + 1) (lv' := [(6, .int (i1 + 1)), (7, .int 1), (0, .ref (ad 43)), (1, .ref (ad 30)), (2, .int x1), (3, .ref (ad 19)), (4, .int x3), (5, .int x4)]) hx hb dX3_read_114 hl (k := 1) rfl rfl (by decide) rfl (fun ls hl => ?_)
            refine lv_goto (tgt := 37) hx hb dX3_read_117 (by decide) ?_
            have hs := eX3_read_37_3 x1 x3 x4 i1 g6 c1 c2 c5
            obtain ⟨n9, hn9, hE9, hr9⟩ := lpE_next hE hs
            exact ih n9 (by omega) (i1 + 1) g6 hE9 H locs hP hD hS ls (lv_sub hl [0, 2, 3, 4, 5, 6, 7] rfl) (fun r hr => kk r (hr.trans hr9.symm))
          · refine lv_aload_n hx hb dX3_read_90 rfl (lv_at hl 2 rfl) ?_
            refine lv_iload hx hb dX3_read_91 (lv_at hl 1 rfl) ?_
            refine lv_aload_n hx hb dX3_read_93 rfl (lv_at hl 3 rfl) ?_
            refine va_get (D := D) (ci := 6) (v := .ref (ad 39)) (C := RX6) (T := TX6) (N := 9) hx hb hts winX6 hown hK hP 30 rfl rfl 4 (by decide) (hts (.fieldLink RX3 66 "TapCap$Taps" "day" "LTapCap$Row;") (List.mem_of_getElem? (i := 6) rfl)) (fun _ h9 => h9) rfl dX3_read_94 ?_
            refine lv_iload hx hb dX3_read_97 (lv_at hl 1 rfl) ?_
            refine g_ki hK hD hS hA (va_runV (As := [.int i1]) (rest := [.int i1, .ref (ad 43)]) ⟨hx, hb, hml, hown, hts⟩ (k_tc_at l D ad cI g6 H.size 17 (by decide) i1) (cwV 1 hts gX3_read_X5_at rfl rfl rfl (by decide +kernel) ⟨Nat.le_of_ble_eq_true rfl, Nat.le_of_ble_eq_true rfl⟩) (g_preV hK hP hD (ci := 5) (q0 := 39) rfl rfl) rfl rfl hl.1 rfl (lv_room (Nat.le_of_ble_eq_true rfl)) dX3_read_99 ⟨Nat.le_of_ble_eq_true rfl, Nat.le_of_ble_eq_true rfl⟩) (fun H locs hP hD hS => ?_)
            refine lv_aload_n hx hb dX3_read_102 rfl (lv_at hl 3 rfl) ?_
            refine va_get (D := D) (ci := 6) (v := .ref (ad 41)) (C := RX6) (T := TX6) (N := 9) hx hb hts winX6 hown hK hP 30 rfl rfl 5 (by decide) (hts (.fieldLink RX3 83 "TapCap$Taps" "minute" "LTapCap$Row;") (List.mem_of_getElem? (i := 9) rfl)) (fun _ h9 => h9) rfl dX3_read_103 ?_
            refine lv_iload hx hb dX3_read_106 (lv_at hl 1 rfl) ?_
            refine g_ki hK hD hS hA (va_runV (As := [.int i1]) (rest := [.int (gA g6 17 i1), .int i1, .ref (ad 43)]) ⟨hx, hb, hml, hown, hts⟩ (k_tc_at l D ad cI g6 H.size 18 (by decide) i1) (cwV 1 hts gX3_read_X5_at rfl rfl rfl (by decide +kernel) ⟨Nat.le_of_ble_eq_true rfl, Nat.le_of_ble_eq_true rfl⟩) (g_preV hK hP hD (ci := 5) (q0 := 41) rfl rfl) rfl rfl hl.1 rfl (lv_room (Nat.le_of_ble_eq_true rfl)) dX3_read_108 ⟨Nat.le_of_ble_eq_true rfl, Nat.le_of_ble_eq_true rfl⟩) (fun H locs hP hD hS => ?_)
            refine g_kv hK hD hS hA (va_runV (As := [.int i1, .int (gA g6 17 i1), .int (gA g6 18 i1)]) (rest := []) ⟨hx, hb, hml, hown, hts⟩ (kX3_insert l D ad cI g6 H.size i1 (gA g6 17 i1) (gA g6 18 i1)) (cwV 3 hts gX3_read_X3_insert rfl rfl rfl (by decide +kernel) ⟨Nat.le_of_ble_eq_true rfl, Nat.le_of_ble_eq_true rfl⟩) (g_preV hK hP hD (ci := 3) (q0 := 43) rfl rfl) rfl rfl hl.1 rfl (lv_room (Nat.le_of_ble_eq_true rfl)) dX3_read_111 ⟨Nat.le_of_ble_eq_true rfl, Nat.le_of_ble_eq_true rfl⟩) (fun H locs hP hD hS => ?_)
            obtain ⟨g7, hg7⟩ : ∃ z : tG, z = fX3_insert_w g6 i1 (gA g6 17 i1) (gA g6 18 i1) := ⟨_, rfl⟩
            rw [← hg7] at hP hD
            refine lv_iinc (v := i1 + 1) (lv' := [(6, .int (i1 + 1)), (7, .int 1), (0, .ref (ad 43)), (1, .ref (ad 30)), (2, .int x1), (3, .ref (ad 19)), (4, .int x3), (5, .int x4)]) hx hb dX3_read_114 hl (k := 1) rfl rfl (by decide) rfl (fun ls hl => ?_)
            refine lv_goto (tgt := 37) hx hb dX3_read_117 (by decide) ?_
            have hs := eX3_read_37_4 x1 x3 x4 i1 g6 c1 c2 c5 hg7
            obtain ⟨n9, hn9, hE9, hr9⟩ := lpE_next hE hs
            exact ih n9 (by omega) (i1 + 1) g7 hE9 H locs hP hD hS ls (lv_sub hl [0, 2, 3, 4, 5, 6, 7] rfl) (fun r hr => kk r (hr.trans hr9.symm))
  refine loop37 (nn x1) 0 g5 (tX3_read_37 x1 x3 x4 g5) _ _ hP hD hS ls hl (fun r1 hr1 H locs hP hD hS ls hl => ?_)
  have hl : lv_has ls 8 [(0, .ref (ad 43)), (1, .ref (ad 30))] := lv_sub hl [1, 2] rfl
  refine lv_iconst (v := 0) hx hb dX3_read_120 (by decide) ?_
  refine lv_istore (lv' := [(6, .int 0), (0, .ref (ad 43)), (1, .ref (ad 30))]) hx hb dX3_read_121 hl (by decide) rfl (fun ls hl => ?_)
  have loop123 : ∀ (n : Nat)  (i2 : Int32) (g8 : tG), lpE (sX3_read_123) n (i2, g8) → ∀ (H : Heap) (locs : List Loc), va_P D vwCl (tcW ad cI g8) H → va_D A (tcW ad cI g8) → va_S A s.heap H locs → ∀ (ls : Array Slot), lv_has ls 8 [(6, .int i2), (0, .ref (ad 43)), (1, .ref (ad 30))] → (∀ r : Int32 × tG, r = lp (sX3_read_123) n (i2, g8) → ∀ (H : Heap) (locs : List Loc), va_P D vwCl (tcW ad cI r.2) H → va_D A (tcW ad cI r.2) → va_S A s.heap H locs → ∀ (ls : Array Slot), lv_has ls 8 [(6, .int r.1), (0, .ref (ad 43)), (1, .ref (ad 30))] → W p l e (headSpec wsX3_read ({ frames := 3, cells := 0, slots := 0, locals := 74 } : Room)).room s m ([.ref (ad 43), .ref (ad 30), .int x1, .ref (ad 19), .int x3, .int x4] : List Value).toArray below meth c9 H locs 0 0 (MQ below (g_Qv D [(cI, .int)] A (tcW ad cI (fX3_read_w g x1 x3 x4))) ([.ref (ad 43), .ref (ad 30), .int x1, .ref (ad 19), .int x3, .int x4] : List Value).toArray s 0 0 A) (F0 m 178 ls [])) → W p l e (headSpec wsX3_read ({ frames := 3, cells := 0, slots := 0, locals := 74 } : Room)).room s m ([.ref (ad 43), .ref (ad 30), .int x1, .ref (ad 19), .int x3, .int x4] : List Value).toArray below meth c9 H locs 0 0 (MQ below (g_Qv D [(cI, .int)] A (tcW ad cI (fX3_read_w g x1 x3 x4))) ([.ref (ad 43), .ref (ad 30), .int x1, .ref (ad 19), .int x3, .int x4] : List Value).toArray s 0 0 A) (F0 m 123 ls []) := by
    refine lp_ind ?_
    intro n ih i2 g8 hE H locs hP hD hS ls hl kk
    refine lv_iload hx hb dX3_read_123 (lv_at hl 0 rfl) ?_
    refine lv_aload_n hx hb dX3_read_125 rfl (lv_at hl 1 rfl) ?_
    refine va_get (D := D) (ci := 3) (v := .int (g8 45 8)) (C := RX3) (T := TX3) (N := 15) hx hb hts winX3 hown hK hP 43 rfl rfl 14 (by decide) (hts (.fieldLink RX3 60 "TapCap$Legs" "ordered" "I") (List.mem_of_getElem? (i := 2) rfl)) (fun _ h9 => h9) rfl dX3_read_126 ?_
    refine lv_icmp_ge (tgt := 178) hx hb dX3_read_129 (by decide) (fun c6 => ?_) (fun c6 => ?_)
    · have hs := eX3_read_123_1 i2 g8 c6
      exact kk _ (lp_none hs).symm H locs hP hD hS ls (lv_sub hl [0, 1, 2] rfl)
    · refine lv_aload_n hx hb dX3_read_132 rfl (lv_at hl 1 rfl) ?_
      refine va_get (D := D) (ci := 3) (v := .ref (ad 64)) (C := RX3) (T := TX3) (N := 15) hx hb hts winX3 hown hK hP 43 rfl rfl 11 (by decide) (hts (.fieldLink RX3 51 "TapCap$Legs" "order" "LTapCap$Row;") (List.mem_of_getElem? (i := 10) rfl)) (fun _ h9 => h9) rfl dX3_read_133 ?_
      refine lv_iload hx hb dX3_read_136 (lv_at hl 0 rfl) ?_
      refine g_ki hK hD hS hA (va_runV (As := [.int i2]) (rest := []) ⟨hx, hb, hml, hown, hts⟩ (k_tc_at l D ad cI g8 H.size 29 (by decide) i2) (cwV 1 hts gX3_read_X5_at rfl rfl rfl (by decide +kernel) ⟨Nat.le_of_ble_eq_true rfl, Nat.le_of_ble_eq_true rfl⟩) (g_preV hK hP hD (ci := 5) (q0 := 64) rfl rfl) rfl rfl hl.1 rfl (lv_room (Nat.le_of_ble_eq_true rfl)) dX3_read_138 ⟨Nat.le_of_ble_eq_true rfl, Nat.le_of_ble_eq_true rfl⟩) (fun H locs hP hD hS => ?_)
      refine lv_topi (fun v1 hv1 => ?_)
      refine lv_istore (lv' := [(7, .int v1), (6, .int i2), (0, .ref (ad 43)), (1, .ref (ad 30))]) hx hb dX3_read_141 hl (by decide) rfl (fun ls hl => ?_)
      refine lv_aload_n hx hb dX3_read_143 rfl (lv_at hl 3 rfl) ?_
      refine va_get (D := D) (ci := 6) (v := .ref (ad 37)) (C := RX6) (T := TX6) (N := 9) hx hb hts winX6 hown hK hP 30 rfl rfl 3 (by decide) (hts (.fieldLink RX3 90 "TapCap$Taps" "in" "LTapCap$Row;") (List.mem_of_getElem? (i := 11) rfl)) (fun _ h9 => h9) rfl dX3_read_144 ?_
      refine lv_iload hx hb dX3_read_147 (lv_at hl 0 rfl) ?_
      refine g_ki hK hD hS hA (va_runV (As := [.int v1]) (rest := []) ⟨hx, hb, hml, hown, hts⟩ (k_tc_at l D ad cI g8 H.size 16 (by decide) v1) (cwV 1 hts gX3_read_X5_at rfl rfl rfl (by decide +kernel) ⟨Nat.le_of_ble_eq_true rfl, Nat.le_of_ble_eq_true rfl⟩) (g_preV hK hP hD (ci := 5) (q0 := 37) rfl rfl) rfl rfl hl.1 rfl (lv_room (Nat.le_of_ble_eq_true rfl)) dX3_read_149 ⟨Nat.le_of_ble_eq_true rfl, Nat.le_of_ble_eq_true rfl⟩) (fun H locs hP hD hS => ?_)
      refine lv_if_eq (tgt := 165) hx hb dX3_read_152 (by decide) (fun c7 => ?_) (fun c7 => ?_)
      · refine lv_aload_n hx hb dX3_read_165 rfl (lv_at hl 2 rfl) ?_
        refine lv_aload_n hx hb dX3_read_166 rfl (lv_at hl 3 rfl) ?_
        refine lv_iload hx hb dX3_read_167 (lv_at hl 0 rfl) ?_
        refine g_kv hK hD hS hA (va_runV (As := [.ref (ad 30), .int v1]) (rest := []) ⟨hx, hb, hml, hown, hts⟩ (kX3_takeOut l D ad cI g8 H.size v1) (cwV 2 hts gX3_read_X3_takeOut rfl rfl rfl (by decide +kernel) ⟨Nat.le_of_ble_eq_true rfl, Nat.le_of_ble_eq_true rfl⟩) (g_preV hK hP hD (ci := 3) (q0 := 43) rfl rfl) rfl rfl hl.1 rfl (lv_room (Nat.le_of_ble_eq_true rfl)) dX3_read_169 ⟨Nat.le_of_ble_eq_true rfl, Nat.le_of_ble_eq_true rfl⟩) (fun H locs hP hD hS => ?_)
        obtain ⟨g9, hg9⟩ : ∃ z : tG, z = fX3_takeOut_w g8 v1 := ⟨_, rfl⟩
        rw [← hg9] at hP hD
        refine lv_iinc (v := i2 + 1) (lv' := [(6, .int (i2 + 1)), (7, .int v1), (0, .ref (ad 43)), (1, .ref (ad 30))]) hx hb dX3_read_172 hl (k := 1) rfl rfl (by decide) rfl (fun ls hl => ?_)
        refine lv_goto (tgt := 123) hx hb dX3_read_175 (by decide) ?_
        have hs := eX3_read_123_2 i2 g8 c6 hv1 c7 hg9
        obtain ⟨n9, hn9, hE9, hr9⟩ := lpE_next hE hs
        exact ih n9 (by omega) (i2 + 1) g9 hE9 H locs hP hD hS ls (lv_sub hl [0, 2, 3] rfl) (fun r hr => kk r (hr.trans hr9.symm))
      · refine lv_aload_n hx hb dX3_read_155 rfl (lv_at hl 2 rfl) ?_
        refine lv_aload_n hx hb dX3_read_156 rfl (lv_at hl 3 rfl) ?_
        refine lv_iload hx hb dX3_read_157 (lv_at hl 0 rfl) ?_
        refine g_kv hK hD hS hA (va_runV (As := [.ref (ad 30), .int v1]) (rest := []) ⟨hx, hb, hml, hown, hts⟩ (kX3_takeIn l D ad cI g8 H.size v1) (cwV 2 hts gX3_read_X3_takeIn rfl rfl rfl (by decide +kernel) ⟨Nat.le_of_ble_eq_true rfl, Nat.le_of_ble_eq_true rfl⟩) (g_preV hK hP hD (ci := 3) (q0 := 43) rfl rfl) rfl rfl hl.1 rfl (lv_room (Nat.le_of_ble_eq_true rfl)) dX3_read_159 ⟨Nat.le_of_ble_eq_true rfl, Nat.le_of_ble_eq_true rfl⟩) (fun H locs hP hD hS => ?_)
        obtain ⟨g10, hg10⟩ : ∃ z : tG, z = fX3_takeIn_w g8 v1 := ⟨_, rfl⟩
        rw [← hg10] at hP hD
        refine lv_goto (tgt := 172) hx hb dX3_read_162 (by decide) ?_
        refine lv_iinc (v := i2 + 1) (lv' := [(6, .int (i2 + 1)), (7, .int v1), (0, .ref (ad 43)), (1, .ref (ad 30))]) hx hb dX3_read_172 hl (k := 1) rfl rfl (by decide) rfl (fun ls hl => ?_)
        refine lv_goto (tgt := 123) hx hb dX3_read_175 (by decide) ?_
        have hs := eX3_read_123_3 i2 g8 c6 hv1 c7 hg10
        obtain ⟨n9, hn9, hE9, hr9⟩ := lpE_next hE hs
        exact ih n9 (by omega) (i2 + 1) g10 hE9 H locs hP hD hS ls (lv_sub hl [0, 2, 3] rfl) (fun r hr => kk r (hr.trans hr9.symm))
  refine loop123 (nn ((r1.2 45 8))) 0 r1.2 (tX3_read_123 r1.2) _ _ hP hD hS ls hl (fun r2 hr2 H locs hP hD hS ls hl => ?_)
  have hl : lv_has ls 8 [(0, .ref (ad 43))] := lv_sub hl [1] rfl
  refine lv_aload_n hx hb dX3_read_178 rfl (lv_at hl 0 rfl) ?_
  refine g_kv hK hD hS hA (va_runV (As := []) (rest := []) ⟨hx, hb, hml, hown, hts⟩ (kX3_fillGuesses l D ad cI r2.2 H.size ) (cwV 0 hts gX3_read_X3_fillGuesses rfl rfl rfl (by decide +kernel) ⟨Nat.le_of_ble_eq_true rfl, Nat.le_of_ble_eq_true rfl⟩) (g_preV hK hP hD (ci := 3) (q0 := 43) rfl rfl) rfl rfl hl.1 rfl (lv_room (Nat.le_of_ble_eq_true rfl)) dX3_read_179 ⟨Nat.le_of_ble_eq_true rfl, Nat.le_of_ble_eq_true rfl⟩) (fun H locs hP hD hS => ?_)
  obtain ⟨g11, hg11⟩ : ∃ z : tG, z = fX3_fillGuesses_w r2.2 := ⟨_, rfl⟩
  rw [← hg11] at hP hD
  have hw := eX3_read_w1 g x1 x3 x4 hg1 hg2 hg3 hg4 hg5 hr1 hr2 hg11
  have hP := w_P9 hw hP
  have hD := w_D9 hw hD
  exact g_vret hx hb hr hlocks hK hP hD hS dX3_read_182
def sX3_guessesOn_14 (g : tG) (x0 : Int32) (v1 : Int32) : (Int32 × Int32) → Option (Int32 × Int32) := fun σ =>
  if (gA g 27 x0) ≤ σ.1 then
    none
  else
    if (gA g 25 (v1 + σ.1)) = 0 then
      let v3 : Int32 := σ.2 + 0
      some (σ.1 + 1, v3)
    else
      let v2 : Int32 := σ.2 + 1
      some (σ.1 + 1, v2)
set_option maxRecDepth 20000 in
theorem eX3_guessesOn_14_1 (g : tG) (x0 : Int32) (v1 : Int32) (i1 : Int32) (i2 : Int32) (c1 : (gA g 27 x0) ≤ i1) : sX3_guessesOn_14 g x0 v1 (i1, i2) = none := by
  exact (if_pos c1).trans rfl
set_option maxRecDepth 20000 in
theorem eX3_guessesOn_14_2 (g : tG) (x0 : Int32) (v1 : Int32) (i1 : Int32) (i2 : Int32) (c1 : ¬ ((gA g 27 x0) ≤ i1)) (c2 : ¬ ((gA g 25 (v1 + i1)) = 0)) {v2 : Int32} (hv2 : v2 = i2 + 1) : sX3_guessesOn_14 g x0 v1 (i1, i2) = some (i1 + 1, v2) := by
  subst hv2
  exact (if_neg c1).trans ((if_neg c2).trans rfl)
set_option maxRecDepth 20000 in
theorem eX3_guessesOn_14_3 (g : tG) (x0 : Int32) (v1 : Int32) (i1 : Int32) (i2 : Int32) (c1 : ¬ ((gA g 27 x0) ≤ i1)) (c2 : (gA g 25 (v1 + i1)) = 0) {v3 : Int32} (hv3 : v3 = i2 + 0) : sX3_guessesOn_14 g x0 v1 (i1, i2) = some (i1 + 1, v3) := by
  subst hv3
  exact (if_neg c1).trans ((if_pos c2).trans rfl)
theorem tX3_guessesOn_14 (g : tG) (x0 : Int32) (v1 : Int32) (i2z : Int32) : lpE (sX3_guessesOn_14 g x0 v1) (nn ((gA g 27 x0))) (0, i2z) := by
  refine lpE_up (fun σ => σ.1) ((gA g 27 x0)) ?_ _ _ (nn_le _)
  intro σ τ h9
  obtain ⟨i1, i2⟩ := σ
  by_cases c1 : (gA g 27 x0) ≤ i1
  · have hs := eX3_guessesOn_14_1 g x0 v1 i1 i2 c1
    rw [hs] at h9
    cases h9
  · by_cases c2 : (gA g 25 (v1 + i1)) = 0
    · obtain ⟨v3, hv3⟩ : ∃ z : Int32, z = i2 + 0 := ⟨_, rfl⟩
      have hs := eX3_guessesOn_14_3 g x0 v1 i1 i2 c1 c2 hv3
      rw [hs] at h9
      have e9 := Option.some.inj h9
      subst e9
      exact ⟨not_le32 c1, rfl⟩
    · obtain ⟨v2, hv2⟩ : ∃ z : Int32, z = i2 + 1 := ⟨_, rfl⟩
      have hs := eX3_guessesOn_14_2 g x0 v1 i1 i2 c1 c2 hv2
      rw [hs] at h9
      have e9 := Option.some.inj h9
      subst e9
      exact ⟨not_le32 c1, rfl⟩
def fX3_guessesOn_r (g : tG) (x0 : Int32) : Int32 :=
  let v1 : Int32 := gA g 26 x0
  let r1 : Int32 × Int32 := lp (sX3_guessesOn_14 g x0 v1) (nn ((gA g 27 x0))) (0, 0)
  r1.2
set_option maxRecDepth 20000 in
theorem eX3_guessesOn_r1 (g : tG) (x0 : Int32) {v1 : Int32} (hv1 : v1 = gA g 26 x0) {r1 : Int32 × Int32} (hr1 : r1 = lp (sX3_guessesOn_14 g x0 v1) (nn ((gA g 27 x0))) (0, 0)) : fX3_guessesOn_r g x0 = r1.2 := by
  subst hv1
  subst hr1
  exact rfl
set_option maxHeartbeats 4000000 in
set_option maxRecDepth 100000 in
theorem kX3_guessesOn (l : Launch) (D : va_G) (ad : Nat → Nat) (cI : ClassId) (g : tG) (sz : Nat) (x0 : Int32) : Met l yX3_guessesOn wsX3_guessesOn ({ frames := 1, cells := 0, slots := 0, locals := 21 } : Room) (g_P D [(cI, .int)] (tcW ad cI g) [.ref (ad 43), .int x0] sz) (g_Qi D [(cI, .int)] (va_A (tcW ad cI g) sz) (tcW ad cI g) (fX3_guessesOn_r g x0)) 0 0 (va_A (tcW ad cI g) sz) := by
  refine Met.ofW (cc := cX3_guessesOn) (maxL := 5) (ret := (some .int)) (by decide) rfl ?_
  intro p e s m args below meth c9 s₁ B hml hv
  obtain ⟨rfl, hsz, hP, hK, hD0⟩ := hv
  have hx := B.exec
  have hb := B.bytes
  have hr := B.returns
  have hts := atoms_spec (ws := wsX3_guessesOn) B.pre
  have hown : s.vm.findClass RX3 = some m.cls := findClass_of_methodNamed B.named
  have hlocks := B.notSynchronized
  subst hsz
  have hD := hD0.self (sz := s.heap.size)
  generalize hAe : va_A (tcW ad cI g) s.heap.size = A at hD ⊢
  have hA : ∀ q : Nat, s.heap.size ≤ q → A q := fun q h => by rw [← hAe]; exact Or.inr h
  have hS : va_S A s.heap s.heap [] := va_S.rf
  have hl := lv_entry ([.ref (ad 43), .int x0]) (n := 5) (Nat.le_of_ble_eq_true rfl)
  rw [lg_entry_eq]
  generalize (lg_sl ([.ref (ad 43), .int x0]) ++ List.replicate (5 - (lg_sl ([.ref (ad 43), .int x0])).length) Slot.unset).toArray = ls at hl ⊢
  have hl : lv_has ls 5 [(0, .ref (ad 43)), (1, .int x0)] := hl
  have winX3 : ∀ w ∈ u_ws RX3 TX3 15, w ∈ wsX3_guessesOn := by decide +kernel
  have winX5 : ∀ w ∈ u_ws RX5 TX5 1, w ∈ wsX3_guessesOn := by decide +kernel
  refine lv_iconst (v := 0) hx hb dX3_guessesOn_0 (by decide) ?_
  refine lv_istore_n (lv' := [(2, .int 0), (0, .ref (ad 43)), (1, .int x0)]) hx hb dX3_guessesOn_1 rfl hl (by decide) rfl (fun ls hl => ?_)
  refine lv_aload_n hx hb dX3_guessesOn_2 rfl (lv_at hl 1 rfl) ?_
  refine va_get (D := D) (ci := 3) (v := .ref (ad 58)) (C := RX3) (T := TX3) (N := 15) hx hb hts winX3 hown hK hP 43 rfl rfl 7 (by decide) (hts (.fieldLink RX3 38 "TapCap$Legs" "firstOn" "LTapCap$Row;") (List.mem_of_getElem? (i := 1) rfl)) (fun _ h9 => h9) rfl dX3_guessesOn_3 ?_
  refine lv_iload_n hx hb dX3_guessesOn_6 rfl (lv_at hl 2 rfl) ?_
  refine g_ki hK hD hS hA (va_runV (As := [.int x0]) (rest := []) ⟨hx, hb, hml, hown, hts⟩ (k_tc_at l D ad cI g s.heap.size 26 (by decide) x0) (cwV 1 hts gX3_guessesOn_X5_at rfl rfl rfl (by decide +kernel) ⟨Nat.le_of_ble_eq_true rfl, Nat.le_of_ble_eq_true rfl⟩) (g_preV hK hP hD (ci := 5) (q0 := 58) rfl rfl) rfl rfl hl.1 rfl (lv_room (Nat.le_of_ble_eq_true rfl)) dX3_guessesOn_7 ⟨Nat.le_of_ble_eq_true rfl, Nat.le_of_ble_eq_true rfl⟩) (fun H locs hP hD hS => ?_)
  refine lv_topi (fun v1 hv1 => ?_)
  refine lv_istore_n (lv' := [(3, .int v1), (2, .int 0), (0, .ref (ad 43)), (1, .int x0)]) hx hb dX3_guessesOn_10 rfl hl (by decide) rfl (fun ls hl => ?_)
  refine lv_iconst (v := 0) hx hb dX3_guessesOn_11 (by decide) ?_
  refine lv_istore (lv' := [(4, .int 0), (3, .int v1), (2, .int 0), (0, .ref (ad 43)), (1, .int x0)]) hx hb dX3_guessesOn_12 hl (by decide) rfl (fun ls hl => ?_)
  have loop14 : ∀ (n : Nat)  (i1 : Int32) (i2 : Int32), lpE (sX3_guessesOn_14 g x0 v1) n (i1, i2) → ∀ (H : Heap) (locs : List Loc), va_P D vwCl (tcW ad cI g) H → va_D A (tcW ad cI g) → va_S A s.heap H locs → ∀ (ls : Array Slot), lv_has ls 5 [(4, .int i1), (3, .int v1), (2, .int i2), (0, .ref (ad 43)), (1, .int x0)] → (∀ r : Int32 × Int32, r = lp (sX3_guessesOn_14 g x0 v1) n (i1, i2) → ∀ (H : Heap) (locs : List Loc), va_P D vwCl (tcW ad cI g) H → va_D A (tcW ad cI g) → va_S A s.heap H locs → ∀ (ls : Array Slot), lv_has ls 5 [(4, .int r.1), (3, .int v1), (2, .int r.2), (0, .ref (ad 43)), (1, .int x0)] → W p l e (headSpec wsX3_guessesOn ({ frames := 1, cells := 0, slots := 0, locals := 21 } : Room)).room s m ([.ref (ad 43), .int x0] : List Value).toArray below meth c9 H locs 0 0 (MQ below (g_Qi D [(cI, .int)] A (tcW ad cI g) (fX3_guessesOn_r g x0)) ([.ref (ad 43), .int x0] : List Value).toArray s 0 0 A) (F0 m 55 ls [])) → W p l e (headSpec wsX3_guessesOn ({ frames := 1, cells := 0, slots := 0, locals := 21 } : Room)).room s m ([.ref (ad 43), .int x0] : List Value).toArray below meth c9 H locs 0 0 (MQ below (g_Qi D [(cI, .int)] A (tcW ad cI g) (fX3_guessesOn_r g x0)) ([.ref (ad 43), .int x0] : List Value).toArray s 0 0 A) (F0 m 14 ls []) := by
    refine lp_ind ?_
    intro n ih i1 i2 hE H locs hP hD hS ls hl kk
    refine lv_iload hx hb dX3_guessesOn_14 (lv_at hl 0 rfl) ?_
    refine lv_aload_n hx hb dX3_guessesOn_16 rfl (lv_at hl 3 rfl) ?_
    refine va_get (D := D) (ci := 3) (v := .ref (ad 60)) (C := RX3) (T := TX3) (N := 15) hx hb hts winX3 hown hK hP 43 rfl rfl 8 (by decide) (hts (.fieldLink RX3 41 "TapCap$Legs" "countOn" "LTapCap$Row;") (List.mem_of_getElem? (i := 2) rfl)) (fun _ h9 => h9) rfl dX3_guessesOn_17 ?_
    refine lv_iload_n hx hb dX3_guessesOn_20 rfl (lv_at hl 4 rfl) ?_
    refine g_ki hK hD hS hA (va_runV (As := [.int x0]) (rest := [.int i1]) ⟨hx, hb, hml, hown, hts⟩ (k_tc_at l D ad cI g H.size 27 (by decide) x0) (cwV 1 hts gX3_guessesOn_X5_at rfl rfl rfl (by decide +kernel) ⟨Nat.le_of_ble_eq_true rfl, Nat.le_of_ble_eq_true rfl⟩) (g_preV hK hP hD (ci := 5) (q0 := 60) rfl rfl) rfl rfl hl.1 rfl (lv_room (Nat.le_of_ble_eq_true rfl)) dX3_guessesOn_21 ⟨Nat.le_of_ble_eq_true rfl, Nat.le_of_ble_eq_true rfl⟩) (fun H locs hP hD hS => ?_)
    refine lv_icmp_ge (tgt := 55) hx hb dX3_guessesOn_24 (by decide) (fun c1 => ?_) (fun c1 => ?_)
    · have hs := eX3_guessesOn_14_1 g x0 v1 i1 i2 c1
      exact kk _ (lp_none hs).symm H locs hP hD hS ls (lv_sub hl [0, 1, 2, 3, 4] rfl)
    · refine lv_iload_n hx hb dX3_guessesOn_27 rfl (lv_at hl 2 rfl) ?_
      refine lv_aload_n hx hb dX3_guessesOn_28 rfl (lv_at hl 3 rfl) ?_
      refine va_get (D := D) (ci := 3) (v := .ref (ad 56)) (C := RX3) (T := TX3) (N := 15) hx hb hts winX3 hown hK hP 43 rfl rfl 6 (by decide) (hts (.fieldLink RX3 35 "TapCap$Legs" "guessed" "LTapCap$Row;") (List.mem_of_getElem? (i := 3) rfl)) (fun _ h9 => h9) rfl dX3_guessesOn_29 ?_
      refine lv_iload_n hx hb dX3_guessesOn_32 rfl (lv_at hl 1 rfl) ?_
      refine lv_iload hx hb dX3_guessesOn_33 (lv_at hl 0 rfl) ?_
      refine lv_iadd hx hb dX3_guessesOn_35 ?_
      refine g_ki hK hD hS hA (va_runV (As := [.int (v1 + i1)]) (rest := [.int i2]) ⟨hx, hb, hml, hown, hts⟩ (k_tc_at l D ad cI g H.size 25 (by decide) (v1 + i1)) (cwV 1 hts gX3_guessesOn_X5_at rfl rfl rfl (by decide +kernel) ⟨Nat.le_of_ble_eq_true rfl, Nat.le_of_ble_eq_true rfl⟩) (g_preV hK hP hD (ci := 5) (q0 := 56) rfl rfl) rfl rfl hl.1 rfl (lv_room (Nat.le_of_ble_eq_true rfl)) dX3_guessesOn_36 ⟨Nat.le_of_ble_eq_true rfl, Nat.le_of_ble_eq_true rfl⟩) (fun H locs hP hD hS => ?_)
      refine lv_if_ne (tgt := 46) hx hb dX3_guessesOn_39 (by decide) (fun c2 => ?_) (fun c2 => ?_)
      · refine lv_iconst (v := 1) hx hb dX3_guessesOn_46 (by decide) ?_
        refine lv_iadd hx hb dX3_guessesOn_47 ?_
        refine lv_topi (fun v2 hv2 => ?_)
        refine lv_istore_n (lv' := [(2, .int v2), (4, .int i1), (3, .int v1), (0, .ref (ad 43)), (1, .int x0)]) hx hb dX3_guessesOn_48 rfl hl (by decide) rfl (fun ls hl => ?_)
        refine lv_iinc (v := i1 + 1) (lv' := [(4, .int (i1 + 1)), (2, .int v2), (3, .int v1), (0, .ref (ad 43)), (1, .int x0)]) hx hb dX3_guessesOn_49 hl (k := 1) rfl rfl (by decide) rfl (fun ls hl => ?_)
        refine lv_goto (tgt := 14) hx hb dX3_guessesOn_52 (by decide) ?_
        have hs := eX3_guessesOn_14_2 g x0 v1 i1 i2 c1 c2 hv2
        obtain ⟨n9, hn9, hE9, hr9⟩ := lpE_next hE hs
        exact ih n9 (by omega) (i1 + 1) v2 hE9 H locs hP hD hS ls (lv_sub hl [0, 2, 1, 3, 4] rfl) (fun r hr => kk r (hr.trans hr9.symm))
      · refine lv_iconst (v := 0) hx hb dX3_guessesOn_42 (by decide) ?_
        refine lv_goto (tgt := 47) hx hb dX3_guessesOn_43 (by decide) ?_
        refine lv_iadd hx hb dX3_guessesOn_47 ?_
        refine lv_topi (fun v3 hv3 => ?_)
        refine lv_istore_n (lv' := [(2, .int v3), (4, .int i1), (3, .int v1), (0, .ref (ad 43)), (1, .int x0)]) hx hb dX3_guessesOn_48 rfl hl (by decide) rfl (fun ls hl => ?_)
        refine lv_iinc (v := i1 + 1) (lv' := [(4, .int (i1 + 1)), (2, .int v3), (3, .int v1), (0, .ref (ad 43)), (1, .int x0)]) hx hb dX3_guessesOn_49 hl (k := 1) rfl rfl (by decide) rfl (fun ls hl => ?_)
        refine lv_goto (tgt := 14) hx hb dX3_guessesOn_52 (by decide) ?_
        have hs := eX3_guessesOn_14_3 g x0 v1 i1 i2 c1 c2 hv3
        obtain ⟨n9, hn9, hE9, hr9⟩ := lpE_next hE hs
        exact ih n9 (by omega) (i1 + 1) v3 hE9 H locs hP hD hS ls (lv_sub hl [0, 2, 1, 3, 4] rfl) (fun r hr => kk r (hr.trans hr9.symm))
  refine loop14 (nn ((gA g 27 x0))) 0 0 (tX3_guessesOn_14 g x0 v1 0) _ _ hP hD hS ls hl (fun r1 hr1 H locs hP hD hS ls hl => ?_)
  have hl : lv_has ls 5 [(2, .int r1.2)] := lv_sub hl [2] rfl
  refine lv_iload_n hx hb dX3_guessesOn_55 rfl (lv_at hl 0 rfl) ?_
  exact g_iret hx hb hr rfl hlocks hK hP hD hS (eX3_guessesOn_r1 g x0 hv1 hr1).symm dX3_guessesOn_56
