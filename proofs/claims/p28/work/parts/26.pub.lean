def fX8_card_r (g : tG) : Int32 :=
  let g1 : tG := fX0_give_w g
  fX0_give_r g
def fX8_card_w (g : tG) : tG :=
  let g1 : tG := fX0_give_w g
  g1
set_option maxRecDepth 20000 in
theorem eX8_card_r1 (g : tG) {g1 : tG} (hg1 : g1 = fX0_give_w g) : fX8_card_r g = fX0_give_r g := by
  have z9 := hg1.symm
  subst z9
  exact rfl
set_option maxRecDepth 20000 in
theorem eX8_card_w1 (g : tG) {g1 : tG} (hg1 : g1 = fX0_give_w g) : fX8_card_w g = g1 := by
  have z9 := hg1.symm
  subst z9
  exact rfl
theorem fjX8_card (g : tG) (j : Nat) (h : j ∉ ([9, 45] : List Nat)) : fX8_card_w g j = g j := by
  obtain ⟨g1, hg1⟩ : ∃ z : tG, z = fX0_give_w g := ⟨_, rfl⟩
  have qg1 : g1 j = g j := by rw [hg1]; exact fjX0_give g j (fun hm => h (sub9 (a := [9, 45]) (b := [9, 45]) (by decide) hm))
  have hs := eX8_card_w1 g hg1
  rw [hs]
  exact qg1
theorem fiX8_card (g : tG) (k : Nat) (h : k ∉ ([3] : List Nat)) : fX8_card_w g 45 k = g 45 k := by
  obtain ⟨g1, hg1⟩ : ∃ z : tG, z = fX0_give_w g := ⟨_, rfl⟩
  have qg1 : g1 45 k = g 45 k := by rw [hg1]; exact fiX0_give g k (fun hm => h (sub9 (a := [3]) (b := [3]) (by decide) hm))
  have hs := eX8_card_w1 g hg1
  rw [hs]
  exact qg1
def fX8_zone_r (g : tG) (x0 : Int32) (x1 : Int32) : Int32 :=
  let v1 : Int32 := gA g 0 x0
  let g1 : tG := gP g 0 x0 x1
  v1
def fX8_zone_w (g : tG) (x0 : Int32) (x1 : Int32) : tG :=
  let v1 : Int32 := gA g 0 x0
  let g1 : tG := gP g 0 x0 x1
  g1
set_option maxRecDepth 20000 in
theorem eX8_zone_r1 (g : tG) (x0 : Int32) (x1 : Int32) {v1 : Int32} (hv1 : v1 = gA g 0 x0) {g1 : tG} (hg1 : g1 = gP g 0 x0 x1) : fX8_zone_r g x0 x1 = v1 := by
  have z9 := hv1.symm
  subst z9
  have z9 := hg1.symm
  subst z9
  exact rfl
set_option maxRecDepth 20000 in
theorem eX8_zone_w1 (g : tG) (x0 : Int32) (x1 : Int32) {v1 : Int32} (hv1 : v1 = gA g 0 x0) {g1 : tG} (hg1 : g1 = gP g 0 x0 x1) : fX8_zone_w g x0 x1 = g1 := by
  have z9 := hv1.symm
  subst z9
  have z9 := hg1.symm
  subst z9
  exact rfl
theorem fjX8_zone (g : tG) (x0 : Int32) (x1 : Int32) (j : Nat) (h : j ∉ ([0] : List Nat)) : fX8_zone_w g x0 x1 j = g j := by
  obtain ⟨v1, hv1⟩ : ∃ z : Int32, z = gA g 0 x0 := ⟨_, rfl⟩
  obtain ⟨g1, hg1⟩ : ∃ z : tG, z = gP g 0 x0 x1 := ⟨_, rfl⟩
  have qg1 : g1 j = g j := by rw [hg1]; exact gP_ne (fun e9 => h (by rw [e9]; decide))
  have hs := eX8_zone_w1 g x0 x1 hv1 hg1
  rw [hs]
  exact qg1
def fX8_tariff_r (g : tG) (x0 : Int32) (x1 : Int32) (x2 : Int32) (x3 : Int32) (x4 : Int32) : Int32 :=
  let g1 : tG := fX7_add_w g x0 x1 x2 x3 x4
  g1 45 2
def fX8_tariff_w (g : tG) (x0 : Int32) (x1 : Int32) (x2 : Int32) (x3 : Int32) (x4 : Int32) : tG :=
  let g1 : tG := fX7_add_w g x0 x1 x2 x3 x4
  g1
set_option maxRecDepth 20000 in
theorem eX8_tariff_r1 (g : tG) (x0 : Int32) (x1 : Int32) (x2 : Int32) (x3 : Int32) (x4 : Int32) {g1 : tG} (hg1 : g1 = fX7_add_w g x0 x1 x2 x3 x4) : fX8_tariff_r g x0 x1 x2 x3 x4 = g1 45 2 := by
  have z9 := hg1.symm
  subst z9
  exact rfl
set_option maxRecDepth 20000 in
theorem eX8_tariff_w1 (g : tG) (x0 : Int32) (x1 : Int32) (x2 : Int32) (x3 : Int32) (x4 : Int32) {g1 : tG} (hg1 : g1 = fX7_add_w g x0 x1 x2 x3 x4) : fX8_tariff_w g x0 x1 x2 x3 x4 = g1 := by
  have z9 := hg1.symm
  subst z9
  exact rfl
theorem fjX8_tariff (g : tG) (x0 : Int32) (x1 : Int32) (x2 : Int32) (x3 : Int32) (x4 : Int32) (j : Nat) (h : j ∉ ([3, 4, 5, 6, 7, 45] : List Nat)) : fX8_tariff_w g x0 x1 x2 x3 x4 j = g j := by
  obtain ⟨g1, hg1⟩ : ∃ z : tG, z = fX7_add_w g x0 x1 x2 x3 x4 := ⟨_, rfl⟩
  have qg1 : g1 j = g j := by rw [hg1]; exact fjX7_add g x0 x1 x2 x3 x4 j (fun hm => h (sub9 (a := [3, 4, 5, 6, 7, 45]) (b := [3, 4, 5, 6, 7, 45]) (by decide) hm))
  have hs := eX8_tariff_w1 g x0 x1 x2 x3 x4 hg1
  rw [hs]
  exact qg1
theorem fiX8_tariff (g : tG) (x0 : Int32) (x1 : Int32) (x2 : Int32) (x3 : Int32) (x4 : Int32) (k : Nat) (h : k ∉ ([2] : List Nat)) : fX8_tariff_w g x0 x1 x2 x3 x4 45 k = g 45 k := by
  obtain ⟨g1, hg1⟩ : ∃ z : tG, z = fX7_add_w g x0 x1 x2 x3 x4 := ⟨_, rfl⟩
  have qg1 : g1 45 k = g 45 k := by rw [hg1]; exact fiX7_add g x0 x1 x2 x3 x4 k (fun hm => h (sub9 (a := [2]) (b := [2]) (by decide) hm))
  have hs := eX8_tariff_w1 g x0 x1 x2 x3 x4 hg1
  rw [hs]
  exact qg1
def fX8_tap_r (g : tG) (x0 : Int32) (x1 : Int32) (x2 : Int32) (x3 : Int32) (x4 : Int32) (x5 : Int32) : Int32 :=
  if (fX0_isLost_r g x0) = 0 then
    let g1 : tG := fX6_write_w g (g 45 4) x0 x1 x2 x3 x4 x5
    if (fX6_isRepeated_r g1 (g1 45 4)) = 0 then
      let v1 : Int32 := (g1 45 4) + 1
      let g2 : tG := tc_sc g1 4 v1
      g2 45 4
    else
      let v2 : Int32 := (g1 45 6) + 1
      let g3 : tG := tc_sc g1 6 v2
      (-3)
  else
    let v3 : Int32 := (g 45 5) + 1
    let g4 : tG := tc_sc g 5 v3
    (-2)
def fX8_tap_w (g : tG) (x0 : Int32) (x1 : Int32) (x2 : Int32) (x3 : Int32) (x4 : Int32) (x5 : Int32) : tG :=
  if (fX0_isLost_r g x0) = 0 then
    let g1 : tG := fX6_write_w g (g 45 4) x0 x1 x2 x3 x4 x5
    if (fX6_isRepeated_r g1 (g1 45 4)) = 0 then
      let v1 : Int32 := (g1 45 4) + 1
      let g2 : tG := tc_sc g1 4 v1
      g2
    else
      let v2 : Int32 := (g1 45 6) + 1
      let g3 : tG := tc_sc g1 6 v2
      g3
  else
    let v3 : Int32 := (g 45 5) + 1
    let g4 : tG := tc_sc g 5 v3
    g4
set_option maxRecDepth 20000 in
theorem eX8_tap_r1 (g : tG) (x0 : Int32) (x1 : Int32) (x2 : Int32) (x3 : Int32) (x4 : Int32) (x5 : Int32) (c1 : (fX0_isLost_r g x0) = 0) {g1 : tG} (hg1 : g1 = fX6_write_w g (g 45 4) x0 x1 x2 x3 x4 x5) (c2 : (fX6_isRepeated_r g1 (g1 45 4)) = 0) {v1 : Int32} (hv1 : v1 = (g1 45 4) + 1) {g2 : tG} (hg2 : g2 = tc_sc g1 4 v1) : fX8_tap_r g x0 x1 x2 x3 x4 x5 = g2 45 4 := by
  have z9 := hg1.symm
  subst z9
  have z9 := hv1.symm
  subst z9
  have z9 := hg2.symm
  subst z9
  exact (if_pos c1).trans ((if_pos c2).trans rfl)
set_option maxRecDepth 20000 in
theorem eX8_tap_w1 (g : tG) (x0 : Int32) (x1 : Int32) (x2 : Int32) (x3 : Int32) (x4 : Int32) (x5 : Int32) (c1 : (fX0_isLost_r g x0) = 0) {g1 : tG} (hg1 : g1 = fX6_write_w g (g 45 4) x0 x1 x2 x3 x4 x5) (c2 : (fX6_isRepeated_r g1 (g1 45 4)) = 0) {v1 : Int32} (hv1 : v1 = (g1 45 4) + 1) {g2 : tG} (hg2 : g2 = tc_sc g1 4 v1) : fX8_tap_w g x0 x1 x2 x3 x4 x5 = g2 := by
  have z9 := hg1.symm
  subst z9
  have z9 := hv1.symm
  subst z9
  have z9 := hg2.symm
  subst z9
  exact (if_pos c1).trans ((if_pos c2).trans rfl)
set_option maxRecDepth 20000 in
theorem eX8_tap_r2 (g : tG) (x0 : Int32) (x1 : Int32) (x2 : Int32) (x3 : Int32) (x4 : Int32) (x5 : Int32) (c1 : (fX0_isLost_r g x0) = 0) {g1 : tG} (hg1 : g1 = fX6_write_w g (g 45 4) x0 x1 x2 x3 x4 x5) (c2 : ¬ ((fX6_isRepeated_r g1 (g1 45 4)) = 0)) {v2 : Int32} (hv2 : v2 = (g1 45 6) + 1) {g3 : tG} (hg3 : g3 = tc_sc g1 6 v2) : fX8_tap_r g x0 x1 x2 x3 x4 x5 = (-3) := by
  have z9 := hg1.symm
  subst z9
  have z9 := hv2.symm
  subst z9
  have z9 := hg3.symm
  subst z9
  exact (if_pos c1).trans ((if_neg c2).trans rfl)
set_option maxRecDepth 20000 in
theorem eX8_tap_w2 (g : tG) (x0 : Int32) (x1 : Int32) (x2 : Int32) (x3 : Int32) (x4 : Int32) (x5 : Int32) (c1 : (fX0_isLost_r g x0) = 0) {g1 : tG} (hg1 : g1 = fX6_write_w g (g 45 4) x0 x1 x2 x3 x4 x5) (c2 : ¬ ((fX6_isRepeated_r g1 (g1 45 4)) = 0)) {v2 : Int32} (hv2 : v2 = (g1 45 6) + 1) {g3 : tG} (hg3 : g3 = tc_sc g1 6 v2) : fX8_tap_w g x0 x1 x2 x3 x4 x5 = g3 := by
  have z9 := hg1.symm
  subst z9
  have z9 := hv2.symm
  subst z9
  have z9 := hg3.symm
  subst z9
  exact (if_pos c1).trans ((if_neg c2).trans rfl)
set_option maxRecDepth 20000 in
theorem eX8_tap_r3 (g : tG) (x0 : Int32) (x1 : Int32) (x2 : Int32) (x3 : Int32) (x4 : Int32) (x5 : Int32) (c1 : ¬ ((fX0_isLost_r g x0) = 0)) {v3 : Int32} (hv3 : v3 = (g 45 5) + 1) {g4 : tG} (hg4 : g4 = tc_sc g 5 v3) : fX8_tap_r g x0 x1 x2 x3 x4 x5 = (-2) := by
  have z9 := hv3.symm
  subst z9
  have z9 := hg4.symm
  subst z9
  exact (if_neg c1).trans rfl
set_option maxRecDepth 20000 in
theorem eX8_tap_w3 (g : tG) (x0 : Int32) (x1 : Int32) (x2 : Int32) (x3 : Int32) (x4 : Int32) (x5 : Int32) (c1 : ¬ ((fX0_isLost_r g x0) = 0)) {v3 : Int32} (hv3 : v3 = (g 45 5) + 1) {g4 : tG} (hg4 : g4 = tc_sc g 5 v3) : fX8_tap_w g x0 x1 x2 x3 x4 x5 = g4 := by
  have z9 := hv3.symm
  subst z9
  have z9 := hg4.symm
  subst z9
  exact (if_neg c1).trans rfl
theorem fjX8_tap (g : tG) (x0 : Int32) (x1 : Int32) (x2 : Int32) (x3 : Int32) (x4 : Int32) (x5 : Int32) (j : Nat) (h : j ∉ ([13, 14, 15, 16, 17, 18, 45] : List Nat)) : fX8_tap_w g x0 x1 x2 x3 x4 x5 j = g j := by
  by_cases c1 : (fX0_isLost_r g x0) = 0
  · obtain ⟨g1, hg1⟩ : ∃ z : tG, z = fX6_write_w g (g 45 4) x0 x1 x2 x3 x4 x5 := ⟨_, rfl⟩
    by_cases c2 : (fX6_isRepeated_r g1 (g1 45 4)) = 0
    · obtain ⟨v1, hv1⟩ : ∃ z : Int32, z = (g1 45 4) + 1 := ⟨_, rfl⟩
      obtain ⟨g2, hg2⟩ : ∃ z : tG, z = tc_sc g1 4 v1 := ⟨_, rfl⟩
      have qg1 : g1 j = g j := by rw [hg1]; exact fjX6_write g (g 45 4) x0 x1 x2 x3 x4 x5 j (fun hm => h (sub9 (a := [13, 14, 15, 16, 17, 18]) (b := [13, 14, 15, 16, 17, 18, 45]) (by decide) hm))
      have qg2 : g2 j = g1 j := by rw [hg2]; exact sc_nj (fun e9 => h (by rw [e9]; decide))
      have hs := eX8_tap_w1 g x0 x1 x2 x3 x4 x5 c1 hg1 c2 hv1 hg2
      rw [hs]
      exact qg2.trans (qg1)
    · obtain ⟨v2, hv2⟩ : ∃ z : Int32, z = (g1 45 6) + 1 := ⟨_, rfl⟩
      obtain ⟨g3, hg3⟩ : ∃ z : tG, z = tc_sc g1 6 v2 := ⟨_, rfl⟩
      have qg1 : g1 j = g j := by rw [hg1]; exact fjX6_write g (g 45 4) x0 x1 x2 x3 x4 x5 j (fun hm => h (sub9 (a := [13, 14, 15, 16, 17, 18]) (b := [13, 14, 15, 16, 17, 18, 45]) (by decide) hm))
      have qg3 : g3 j = g1 j := by rw [hg3]; exact sc_nj (fun e9 => h (by rw [e9]; decide))
      have hs := eX8_tap_w2 g x0 x1 x2 x3 x4 x5 c1 hg1 c2 hv2 hg3
      rw [hs]
      exact qg3.trans (qg1)
  · obtain ⟨v3, hv3⟩ : ∃ z : Int32, z = (g 45 5) + 1 := ⟨_, rfl⟩
    obtain ⟨g4, hg4⟩ : ∃ z : tG, z = tc_sc g 5 v3 := ⟨_, rfl⟩
    have qg4 : g4 j = g j := by rw [hg4]; exact sc_nj (fun e9 => h (by rw [e9]; decide))
    have hs := eX8_tap_w3 g x0 x1 x2 x3 x4 x5 c1 hv3 hg4
    rw [hs]
    exact qg4
theorem fiX8_tap (g : tG) (x0 : Int32) (x1 : Int32) (x2 : Int32) (x3 : Int32) (x4 : Int32) (x5 : Int32) (k : Nat) (h : k ∉ ([4, 5, 6] : List Nat)) : fX8_tap_w g x0 x1 x2 x3 x4 x5 45 k = g 45 k := by
  by_cases c1 : (fX0_isLost_r g x0) = 0
  · obtain ⟨g1, hg1⟩ : ∃ z : tG, z = fX6_write_w g (g 45 4) x0 x1 x2 x3 x4 x5 := ⟨_, rfl⟩
    by_cases c2 : (fX6_isRepeated_r g1 (g1 45 4)) = 0
    · obtain ⟨v1, hv1⟩ : ∃ z : Int32, z = (g1 45 4) + 1 := ⟨_, rfl⟩
      obtain ⟨g2, hg2⟩ : ∃ z : tG, z = tc_sc g1 4 v1 := ⟨_, rfl⟩
      have qg1 : g1 45 k = g 45 k := by rw [hg1]; exact congrFun (fjX6_write g (g 45 4) x0 x1 x2 x3 x4 x5 45 (by decide)) k
      have qg2 : g2 45 k = g1 45 k := by rw [hg2]; exact sc_nk (fun e9 => h (by rw [e9]; decide))
      have hs := eX8_tap_w1 g x0 x1 x2 x3 x4 x5 c1 hg1 c2 hv1 hg2
      rw [hs]
      exact qg2.trans (qg1)
    · obtain ⟨v2, hv2⟩ : ∃ z : Int32, z = (g1 45 6) + 1 := ⟨_, rfl⟩
      obtain ⟨g3, hg3⟩ : ∃ z : tG, z = tc_sc g1 6 v2 := ⟨_, rfl⟩
      have qg1 : g1 45 k = g 45 k := by rw [hg1]; exact congrFun (fjX6_write g (g 45 4) x0 x1 x2 x3 x4 x5 45 (by decide)) k
      have qg3 : g3 45 k = g1 45 k := by rw [hg3]; exact sc_nk (fun e9 => h (by rw [e9]; decide))
      have hs := eX8_tap_w2 g x0 x1 x2 x3 x4 x5 c1 hg1 c2 hv2 hg3
      rw [hs]
      exact qg3.trans (qg1)
  · obtain ⟨v3, hv3⟩ : ∃ z : Int32, z = (g 45 5) + 1 := ⟨_, rfl⟩
    obtain ⟨g4, hg4⟩ : ∃ z : tG, z = tc_sc g 5 v3 := ⟨_, rfl⟩
    have qg4 : g4 45 k = g 45 k := by rw [hg4]; exact sc_nk (fun e9 => h (by rw [e9]; decide))
    have hs := eX8_tap_w3 g x0 x1 x2 x3 x4 x5 c1 hv3 hg4
    rw [hs]
    exact qg4
def sX8_close_23 : (Int32 × Int32 × tG) → Option (Int32 × Int32 × tG) := fun σ =>
  if (σ.2.2 45 3) ≤ σ.1 then
    none
  else
    if (fX0_isPerson_r σ.2.2 σ.1) = 0 then
      some (σ.1 + 1, σ.2.1, σ.2.2)
    else
      let g2 : tG := fX8_dueUpTo_w σ.2.2 σ.1 (σ.2.2 45 0)
      let v1 : Int32 := fX8_dueUpTo_r σ.2.2 σ.1 (σ.2.2 45 0)
      if v1 ≤ 0 then
        some (σ.1 + 1, σ.2.1, g2)
      else
        let g3 : tG := fX0_charge_w g2 σ.1 ((g2 45 0) / 7) v1
        let v2 : Int32 := σ.2.1 + v1
        some (σ.1 + 1, v2, g3)
set_option maxRecDepth 20000 in
theorem eX8_close_23_1 (i1 : Int32) (i2 : Int32) (g1 : tG) (c2 : (g1 45 3) ≤ i1) : sX8_close_23 (i1, i2, g1) = none := by
  exact (if_pos c2).trans rfl
set_option maxRecDepth 20000 in
theorem eX8_close_23_2 (i1 : Int32) (i2 : Int32) (g1 : tG) (c2 : ¬ ((g1 45 3) ≤ i1)) (c3 : (fX0_isPerson_r g1 i1) = 0) : sX8_close_23 (i1, i2, g1) = some (i1 + 1, i2, g1) := by
  exact (if_neg c2).trans ((if_pos c3).trans rfl)
set_option maxRecDepth 20000 in
theorem eX8_close_23_3 (i1 : Int32) (i2 : Int32) (g1 : tG) (c2 : ¬ ((g1 45 3) ≤ i1)) (c3 : ¬ ((fX0_isPerson_r g1 i1) = 0)) {g2 : tG} (hg2 : g2 = fX8_dueUpTo_w g1 i1 (g1 45 0)) {v1 : Int32} (hv1 : v1 = fX8_dueUpTo_r g1 i1 (g1 45 0)) (c4 : v1 ≤ 0) : sX8_close_23 (i1, i2, g1) = some (i1 + 1, i2, g2) := by
  have z9 := hg2.symm
  subst z9
  have z9 := hv1.symm
  subst z9
  exact (if_neg c2).trans ((if_neg c3).trans ((if_pos c4).trans rfl))
set_option maxRecDepth 20000 in
theorem eX8_close_23_4 (i1 : Int32) (i2 : Int32) (g1 : tG) (c2 : ¬ ((g1 45 3) ≤ i1)) (c3 : ¬ ((fX0_isPerson_r g1 i1) = 0)) {g2 : tG} (hg2 : g2 = fX8_dueUpTo_w g1 i1 (g1 45 0)) {v1 : Int32} (hv1 : v1 = fX8_dueUpTo_r g1 i1 (g1 45 0)) (c4 : ¬ (v1 ≤ 0)) {g3 : tG} (hg3 : g3 = fX0_charge_w g2 i1 ((g2 45 0) / 7) v1) {v2 : Int32} (hv2 : v2 = i2 + v1) : sX8_close_23 (i1, i2, g1) = some (i1 + 1, v2, g3) := by
  have z9 := hg2.symm
  subst z9
  have z9 := hv1.symm
  subst z9
  have z9 := hg3.symm
  subst z9
  have z9 := hv2.symm
  subst z9
  exact (if_neg c2).trans ((if_neg c3).trans ((if_neg c4).trans rfl))
theorem fj_X8_close_23 (σ τ : Int32 × Int32 × tG) (j : Nat) (h : j ∉ ([8, 11, 19, 20, 21, 22, 23, 24, 25, 26, 27, 28, 29, 30, 31, 32, 33, 34, 35, 36, 37, 38, 39, 40, 41, 42, 43, 44, 45] : List Nat)) (e : sX8_close_23 σ = some τ) : τ.2.2 j = σ.2.2 j := by
  obtain ⟨i1, i2, g1⟩ := σ
  by_cases c2 : (g1 45 3) ≤ i1
  · have hs := eX8_close_23_1 i1 i2 g1 c2
    rw [hs] at e
    cases e
  · by_cases c3 : (fX0_isPerson_r g1 i1) = 0
    · have hs := eX8_close_23_2 i1 i2 g1 c2 c3
      rw [hs] at e
      have e9 := Option.some.inj e
      subst e9
      exact rfl
    · obtain ⟨g2, hg2⟩ : ∃ z : tG, z = fX8_dueUpTo_w g1 i1 (g1 45 0) := ⟨_, rfl⟩
      obtain ⟨v1, hv1⟩ : ∃ z : Int32, z = fX8_dueUpTo_r g1 i1 (g1 45 0) := ⟨_, rfl⟩
      by_cases c4 : v1 ≤ 0
      · have qg2 : g2 j = g1 j := by rw [hg2]; exact fjX8_dueUpTo g1 i1 (g1 45 0) j (fun hm => h (sub9 (a := [19, 20, 21, 22, 23, 24, 25, 26, 27, 28, 29, 30, 31, 32, 33, 34, 35, 36, 37, 38, 39, 40, 41, 42, 43, 44, 45]) (b := [8, 11, 19, 20, 21, 22, 23, 24, 25, 26, 27, 28, 29, 30, 31, 32, 33, 34, 35, 36, 37, 38, 39, 40, 41, 42, 43, 44, 45]) (by decide) hm))
        have hs := eX8_close_23_3 i1 i2 g1 c2 c3 hg2 hv1 c4
        rw [hs] at e
        have e9 := Option.some.inj e
        subst e9
        exact qg2
      · obtain ⟨g3, hg3⟩ : ∃ z : tG, z = fX0_charge_w g2 i1 ((g2 45 0) / 7) v1 := ⟨_, rfl⟩
        obtain ⟨v2, hv2⟩ : ∃ z : Int32, z = i2 + v1 := ⟨_, rfl⟩
        have qg2 : g2 j = g1 j := by rw [hg2]; exact fjX8_dueUpTo g1 i1 (g1 45 0) j (fun hm => h (sub9 (a := [19, 20, 21, 22, 23, 24, 25, 26, 27, 28, 29, 30, 31, 32, 33, 34, 35, 36, 37, 38, 39, 40, 41, 42, 43, 44, 45]) (b := [8, 11, 19, 20, 21, 22, 23, 24, 25, 26, 27, 28, 29, 30, 31, 32, 33, 34, 35, 36, 37, 38, 39, 40, 41, 42, 43, 44, 45]) (by decide) hm))
        have qg3 : g3 j = g2 j := by rw [hg3]; exact fjX0_charge g2 i1 ((g2 45 0) / 7) v1 j (fun hm => h (sub9 (a := [8, 11]) (b := [8, 11, 19, 20, 21, 22, 23, 24, 25, 26, 27, 28, 29, 30, 31, 32, 33, 34, 35, 36, 37, 38, 39, 40, 41, 42, 43, 44, 45]) (by decide) hm))
        have hs := eX8_close_23_4 i1 i2 g1 c2 c3 hg2 hv1 c4 hg3 hv2
        rw [hs] at e
        have e9 := Option.some.inj e
        subst e9
        exact qg3.trans (qg2)
theorem fjX8_close_23 (n : Nat) (σ : Int32 × Int32 × tG) (j : Nat) (h : j ∉ ([8, 11, 19, 20, 21, 22, 23, 24, 25, 26, 27, 28, 29, 30, 31, 32, 33, 34, 35, 36, 37, 38, 39, 40, 41, 42, 43, 44, 45] : List Nat)) : ((lp (sX8_close_23) n σ).2.2) j = σ.2.2 j :=
  lp_inv (fun τ => τ.2.2 j = σ.2.2 j) (fun a b e9 h9 => (fj_X8_close_23 a b j h e9).trans h9) n σ rfl
theorem fk_X8_close_23 (σ τ : Int32 × Int32 × tG) (k : Nat) (h : k ∉ ([7, 8, 9] : List Nat)) (e : sX8_close_23 σ = some τ) : τ.2.2 45 k = σ.2.2 45 k := by
  obtain ⟨i1, i2, g1⟩ := σ
  by_cases c2 : (g1 45 3) ≤ i1
  · have hs := eX8_close_23_1 i1 i2 g1 c2
    rw [hs] at e
    cases e
  · by_cases c3 : (fX0_isPerson_r g1 i1) = 0
    · have hs := eX8_close_23_2 i1 i2 g1 c2 c3
      rw [hs] at e
      have e9 := Option.some.inj e
      subst e9
      exact rfl
    · obtain ⟨g2, hg2⟩ : ∃ z : tG, z = fX8_dueUpTo_w g1 i1 (g1 45 0) := ⟨_, rfl⟩
      obtain ⟨v1, hv1⟩ : ∃ z : Int32, z = fX8_dueUpTo_r g1 i1 (g1 45 0) := ⟨_, rfl⟩
      by_cases c4 : v1 ≤ 0
      · have qg2 : g2 45 k = g1 45 k := by rw [hg2]; exact fiX8_dueUpTo g1 i1 (g1 45 0) k (fun hm => h (sub9 (a := [7, 8, 9]) (b := [7, 8, 9]) (by decide) hm))
        have hs := eX8_close_23_3 i1 i2 g1 c2 c3 hg2 hv1 c4
        rw [hs] at e
        have e9 := Option.some.inj e
        subst e9
        exact qg2
      · obtain ⟨g3, hg3⟩ : ∃ z : tG, z = fX0_charge_w g2 i1 ((g2 45 0) / 7) v1 := ⟨_, rfl⟩
        obtain ⟨v2, hv2⟩ : ∃ z : Int32, z = i2 + v1 := ⟨_, rfl⟩
        have qg2 : g2 45 k = g1 45 k := by rw [hg2]; exact fiX8_dueUpTo g1 i1 (g1 45 0) k (fun hm => h (sub9 (a := [7, 8, 9]) (b := [7, 8, 9]) (by decide) hm))
        have qg3 : g3 45 k = g2 45 k := by rw [hg3]; exact congrFun (fjX0_charge g2 i1 ((g2 45 0) / 7) v1 45 (by decide)) k
        have hs := eX8_close_23_4 i1 i2 g1 c2 c3 hg2 hv1 c4 hg3 hv2
        rw [hs] at e
        have e9 := Option.some.inj e
        subst e9
        exact qg3.trans (qg2)
theorem fiX8_close_23 (n : Nat) (σ : Int32 × Int32 × tG) (k : Nat) (h : k ∉ ([7, 8, 9] : List Nat)) : ((lp (sX8_close_23) n σ).2.2) 45 k = σ.2.2 45 k :=
  lp_inv (fun τ => τ.2.2 45 k = σ.2.2 45 k) (fun a b e9 h9 => (fk_X8_close_23 a b k h e9).trans h9) n σ rfl
theorem tX8_close_23 (i2z : Int32) (g1z : tG) : lpE (sX8_close_23) (nn ((g1z 45 3))) (0, i2z, g1z) := by
  refine lpE_upI (fun σ => σ.2.2 45 3 = (g1z 45 3)) (fun σ => σ.1) ((g1z 45 3)) ?_ _ _ rfl (nn_le _)
  intro σ τ hI h9
  have qk := fk_X8_close_23 _ _ 3 (by decide) h9
  obtain ⟨i1, i2, g1⟩ := σ
  by_cases c2 : (g1 45 3) ≤ i1
  · have hs := eX8_close_23_1 i1 i2 g1 c2
    rw [hs] at h9
    cases h9
  · by_cases c3 : (fX0_isPerson_r g1 i1) = 0
    · have hs := eX8_close_23_2 i1 i2 g1 c2 c3
      rw [hs] at h9
      have e9 := Option.some.inj h9
      subst e9
      exact ⟨qk.trans hI, lt_eq32 (not_le32 c2) hI, rfl⟩
    · obtain ⟨g2, hg2⟩ : ∃ z : tG, z = fX8_dueUpTo_w g1 i1 (g1 45 0) := ⟨_, rfl⟩
      obtain ⟨v1, hv1⟩ : ∃ z : Int32, z = fX8_dueUpTo_r g1 i1 (g1 45 0) := ⟨_, rfl⟩
      by_cases c4 : v1 ≤ 0
      · have hs := eX8_close_23_3 i1 i2 g1 c2 c3 hg2 hv1 c4
        rw [hs] at h9
        have e9 := Option.some.inj h9
        subst e9
        exact ⟨qk.trans hI, lt_eq32 (not_le32 c2) hI, rfl⟩
      · obtain ⟨g3, hg3⟩ : ∃ z : tG, z = fX0_charge_w g2 i1 ((g2 45 0) / 7) v1 := ⟨_, rfl⟩
        obtain ⟨v2, hv2⟩ : ∃ z : Int32, z = i2 + v1 := ⟨_, rfl⟩
        have hs := eX8_close_23_4 i1 i2 g1 c2 c3 hg2 hv1 c4 hg3 hv2
        rw [hs] at h9
        have e9 := Option.some.inj h9
        subst e9
        exact ⟨qk.trans hI, lt_eq32 (not_le32 c2) hI, rfl⟩
def fX8_close_r (g : tG) : Int32 :=
  let r1 : Int32 × Int32 × tG := lp (sX8_close_23) (nn ((g 45 3))) (0, 0, g)
  let v3 : Int32 := (r1.2.2 45 0) + 1
  let g4 : tG := tc_sc r1.2.2 0 v3
  r1.2.1
def fX8_close_w (g : tG) : tG :=
  let r1 : Int32 × Int32 × tG := lp (sX8_close_23) (nn ((g 45 3))) (0, 0, g)
  let v3 : Int32 := (r1.2.2 45 0) + 1
  let g4 : tG := tc_sc r1.2.2 0 v3
  g4
set_option maxRecDepth 20000 in
theorem eX8_close_r1 (g : tG) {r1 : Int32 × Int32 × tG} (hr1 : r1 = lp (sX8_close_23) (nn ((g 45 3))) (0, 0, g)) {v3 : Int32} (hv3 : v3 = (r1.2.2 45 0) + 1) {g4 : tG} (hg4 : g4 = tc_sc r1.2.2 0 v3) : fX8_close_r g = r1.2.1 := by
  have z9 := hr1.symm
  subst z9
  have z9 := hv3.symm
  subst z9
  have z9 := hg4.symm
  subst z9
  exact rfl
set_option maxRecDepth 20000 in
theorem eX8_close_w1 (g : tG) {r1 : Int32 × Int32 × tG} (hr1 : r1 = lp (sX8_close_23) (nn ((g 45 3))) (0, 0, g)) {v3 : Int32} (hv3 : v3 = (r1.2.2 45 0) + 1) {g4 : tG} (hg4 : g4 = tc_sc r1.2.2 0 v3) : fX8_close_w g = g4 := by
  have z9 := hr1.symm
  subst z9
  have z9 := hv3.symm
  subst z9
  have z9 := hg4.symm
  subst z9
  exact rfl
theorem fjX8_close (g : tG) (j : Nat) (h : j ∉ ([8, 11, 19, 20, 21, 22, 23, 24, 25, 26, 27, 28, 29, 30, 31, 32, 33, 34, 35, 36, 37, 38, 39, 40, 41, 42, 43, 44, 45] : List Nat)) : fX8_close_w g j = g j := by
  obtain ⟨r1, hr1⟩ : ∃ z : Int32 × Int32 × tG, z = lp (sX8_close_23) (nn ((g 45 3))) (0, 0, g) := ⟨_, rfl⟩
  obtain ⟨v3, hv3⟩ : ∃ z : Int32, z = (r1.2.2 45 0) + 1 := ⟨_, rfl⟩
  obtain ⟨g4, hg4⟩ : ∃ z : tG, z = tc_sc r1.2.2 0 v3 := ⟨_, rfl⟩
  have qr1 : r1.2.2 j = g j := by rw [hr1]; exact fjX8_close_23 _ _ j (fun hm => h (sub9 (a := [8, 11, 19, 20, 21, 22, 23, 24, 25, 26, 27, 28, 29, 30, 31, 32, 33, 34, 35, 36, 37, 38, 39, 40, 41, 42, 43, 44, 45]) (b := [8, 11, 19, 20, 21, 22, 23, 24, 25, 26, 27, 28, 29, 30, 31, 32, 33, 34, 35, 36, 37, 38, 39, 40, 41, 42, 43, 44, 45]) (by decide) hm))
  have qg4 : g4 j = r1.2.2 j := by rw [hg4]; exact sc_nj (fun e9 => h (by rw [e9]; decide))
  have hs := eX8_close_w1 g hr1 hv3 hg4
  rw [hs]
  exact qg4.trans (qr1)
theorem fiX8_close (g : tG) (k : Nat) (h : k ∉ ([0, 7, 8, 9] : List Nat)) : fX8_close_w g 45 k = g 45 k := by
  obtain ⟨r1, hr1⟩ : ∃ z : Int32 × Int32 × tG, z = lp (sX8_close_23) (nn ((g 45 3))) (0, 0, g) := ⟨_, rfl⟩
  obtain ⟨v3, hv3⟩ : ∃ z : Int32, z = (r1.2.2 45 0) + 1 := ⟨_, rfl⟩
  obtain ⟨g4, hg4⟩ : ∃ z : tG, z = tc_sc r1.2.2 0 v3 := ⟨_, rfl⟩
  have qr1 : r1.2.2 45 k = g 45 k := by rw [hr1]; exact fiX8_close_23 _ _ k (fun hm => h (sub9 (a := [7, 8, 9]) (b := [0, 7, 8, 9]) (by decide) hm))
  have qg4 : g4 45 k = r1.2.2 45 k := by rw [hg4]; exact sc_nk (fun e9 => h (by rw [e9]; decide))
  have hs := eX8_close_w1 g hr1 hv3 hg4
  rw [hs]
  exact qg4.trans (qr1)
def fX8_settle_r (g : tG) (x0 : Int32) (x1 : Int32) : Int32 :=
  let v1 : Int32 := x1 * 7
  let v2 : Int32 := if (v1 + 7) < (g 45 0) then (v1 + 7) else (g 45 0)
  let g1 : tG := fX8_dueUpTo_w g x0 (v2 - 1)
  let v3 : Int32 := fX8_dueUpTo_r g x0 (v2 - 1)
  let g2 : tG := fX0_charge_w g1 x0 x1 v3
  v3
def fX8_settle_w (g : tG) (x0 : Int32) (x1 : Int32) : tG :=
  let v1 : Int32 := x1 * 7
  let v2 : Int32 := if (v1 + 7) < (g 45 0) then (v1 + 7) else (g 45 0)
  let g1 : tG := fX8_dueUpTo_w g x0 (v2 - 1)
  let v3 : Int32 := fX8_dueUpTo_r g x0 (v2 - 1)
  let g2 : tG := fX0_charge_w g1 x0 x1 v3
  g2
set_option maxRecDepth 20000 in
theorem eX8_settle_r1 (g : tG) (x0 : Int32) (x1 : Int32) {v1 : Int32} (hv1 : v1 = x1 * 7) {v2 : Int32} (hv2 : v2 = if (v1 + 7) < (g 45 0) then (v1 + 7) else (g 45 0)) {g1 : tG} (hg1 : g1 = fX8_dueUpTo_w g x0 (v2 - 1)) {v3 : Int32} (hv3 : v3 = fX8_dueUpTo_r g x0 (v2 - 1)) {g2 : tG} (hg2 : g2 = fX0_charge_w g1 x0 x1 v3) : fX8_settle_r g x0 x1 = v3 := by
  have z9 := hv1.symm
  subst z9
  have z9 := hv2.symm
  subst z9
  have z9 := hg1.symm
  subst z9
  have z9 := hv3.symm
  subst z9
  have z9 := hg2.symm
  subst z9
  exact rfl
set_option maxRecDepth 20000 in
theorem eX8_settle_w1 (g : tG) (x0 : Int32) (x1 : Int32) {v1 : Int32} (hv1 : v1 = x1 * 7) {v2 : Int32} (hv2 : v2 = if (v1 + 7) < (g 45 0) then (v1 + 7) else (g 45 0)) {g1 : tG} (hg1 : g1 = fX8_dueUpTo_w g x0 (v2 - 1)) {v3 : Int32} (hv3 : v3 = fX8_dueUpTo_r g x0 (v2 - 1)) {g2 : tG} (hg2 : g2 = fX0_charge_w g1 x0 x1 v3) : fX8_settle_w g x0 x1 = g2 := by
  have z9 := hv1.symm
  subst z9
  have z9 := hv2.symm
  subst z9
  have z9 := hg1.symm
  subst z9
  have z9 := hv3.symm
  subst z9
  have z9 := hg2.symm
  subst z9
  exact rfl
theorem fjX8_settle (g : tG) (x0 : Int32) (x1 : Int32) (j : Nat) (h : j ∉ ([8, 11, 19, 20, 21, 22, 23, 24, 25, 26, 27, 28, 29, 30, 31, 32, 33, 34, 35, 36, 37, 38, 39, 40, 41, 42, 43, 44, 45] : List Nat)) : fX8_settle_w g x0 x1 j = g j := by
  obtain ⟨v1, hv1⟩ : ∃ z : Int32, z = x1 * 7 := ⟨_, rfl⟩
  obtain ⟨v2, hv2⟩ : ∃ z : Int32, z = if (v1 + 7) < (g 45 0) then (v1 + 7) else (g 45 0) := ⟨_, rfl⟩
  obtain ⟨g1, hg1⟩ : ∃ z : tG, z = fX8_dueUpTo_w g x0 (v2 - 1) := ⟨_, rfl⟩
  obtain ⟨v3, hv3⟩ : ∃ z : Int32, z = fX8_dueUpTo_r g x0 (v2 - 1) := ⟨_, rfl⟩
  obtain ⟨g2, hg2⟩ : ∃ z : tG, z = fX0_charge_w g1 x0 x1 v3 := ⟨_, rfl⟩
  have qg1 : g1 j = g j := by rw [hg1]; exact fjX8_dueUpTo g x0 (v2 - 1) j (fun hm => h (sub9 (a := [19, 20, 21, 22, 23, 24, 25, 26, 27, 28, 29, 30, 31, 32, 33, 34, 35, 36, 37, 38, 39, 40, 41, 42, 43, 44, 45]) (b := [8, 11, 19, 20, 21, 22, 23, 24, 25, 26, 27, 28, 29, 30, 31, 32, 33, 34, 35, 36, 37, 38, 39, 40, 41, 42, 43, 44, 45]) (by decide) hm))
  have qg2 : g2 j = g1 j := by rw [hg2]; exact fjX0_charge g1 x0 x1 v3 j (fun hm => h (sub9 (a := [8, 11]) (b := [8, 11, 19, 20, 21, 22, 23, 24, 25, 26, 27, 28, 29, 30, 31, 32, 33, 34, 35, 36, 37, 38, 39, 40, 41, 42, 43, 44, 45]) (by decide) hm))
  have hs := eX8_settle_w1 g x0 x1 hv1 hv2 hg1 hv3 hg2
  rw [hs]
  exact qg2.trans (qg1)
theorem fiX8_settle (g : tG) (x0 : Int32) (x1 : Int32) (k : Nat) (h : k ∉ ([7, 8, 9] : List Nat)) : fX8_settle_w g x0 x1 45 k = g 45 k := by
  obtain ⟨v1, hv1⟩ : ∃ z : Int32, z = x1 * 7 := ⟨_, rfl⟩
  obtain ⟨v2, hv2⟩ : ∃ z : Int32, z = if (v1 + 7) < (g 45 0) then (v1 + 7) else (g 45 0) := ⟨_, rfl⟩
  obtain ⟨g1, hg1⟩ : ∃ z : tG, z = fX8_dueUpTo_w g x0 (v2 - 1) := ⟨_, rfl⟩
  obtain ⟨v3, hv3⟩ : ∃ z : Int32, z = fX8_dueUpTo_r g x0 (v2 - 1) := ⟨_, rfl⟩
  obtain ⟨g2, hg2⟩ : ∃ z : tG, z = fX0_charge_w g1 x0 x1 v3 := ⟨_, rfl⟩
  have qg1 : g1 45 k = g 45 k := by rw [hg1]; exact fiX8_dueUpTo g x0 (v2 - 1) k (fun hm => h (sub9 (a := [7, 8, 9]) (b := [7, 8, 9]) (by decide) hm))
  have qg2 : g2 45 k = g1 45 k := by rw [hg2]; exact congrFun (fjX0_charge g1 x0 x1 v3 45 (by decide)) k
  have hs := eX8_settle_w1 g x0 x1 hv1 hv2 hg1 hv3 hg2
  rw [hs]
  exact qg2.trans (qg1)
def fX8_ofCard_r (g : tG) (x0 : Int32) (x1 : Int32) : Int32 :=
  fX8_cardAnswer_r g x0 x1
set_option maxRecDepth 20000 in
theorem eX8_ofCard_r1 (g : tG) (x0 : Int32) (x1 : Int32) : fX8_ofCard_r g x0 x1 = fX8_cardAnswer_r g x0 x1 := by
  exact rfl
def fX8_ofDay_r (g : tG) (x0 : Int32) (x1 : Int32) (x2 : Int32) : Int32 :=
  let g1 : tG := fX8_study_w g x0 (g 45 4) (-1)
  fX8_dayAnswer_r g1 x1 x2
def fX8_ofDay_w (g : tG) (x0 : Int32) (x1 : Int32) (x2 : Int32) : tG :=
  let g1 : tG := fX8_study_w g x0 (g 45 4) (-1)
  g1
set_option maxRecDepth 20000 in
theorem eX8_ofDay_r1 (g : tG) (x0 : Int32) (x1 : Int32) (x2 : Int32) {g1 : tG} (hg1 : g1 = fX8_study_w g x0 (g 45 4) (-1)) : fX8_ofDay_r g x0 x1 x2 = fX8_dayAnswer_r g1 x1 x2 := by
  have z9 := hg1.symm
  subst z9
  exact rfl
set_option maxRecDepth 20000 in
theorem eX8_ofDay_w1 (g : tG) (x0 : Int32) (x1 : Int32) (x2 : Int32) {g1 : tG} (hg1 : g1 = fX8_study_w g x0 (g 45 4) (-1)) : fX8_ofDay_w g x0 x1 x2 = g1 := by
  have z9 := hg1.symm
  subst z9
  exact rfl
theorem fjX8_ofDay (g : tG) (x0 : Int32) (x1 : Int32) (x2 : Int32) (j : Nat) (h : j ∉ ([19, 20, 21, 22, 23, 24, 25, 26, 27, 28, 29, 30, 31, 32, 33, 34, 35, 36, 37, 38, 39, 40, 41, 42, 43, 44, 45] : List Nat)) : fX8_ofDay_w g x0 x1 x2 j = g j := by
  obtain ⟨g1, hg1⟩ : ∃ z : tG, z = fX8_study_w g x0 (g 45 4) (-1) := ⟨_, rfl⟩
  have qg1 : g1 j = g j := by rw [hg1]; exact fjX8_study g x0 (g 45 4) (-1) j (fun hm => h (sub9 (a := [19, 20, 21, 22, 23, 24, 25, 26, 27, 28, 29, 30, 31, 32, 33, 34, 35, 36, 37, 38, 39, 40, 41, 42, 43, 44, 45]) (b := [19, 20, 21, 22, 23, 24, 25, 26, 27, 28, 29, 30, 31, 32, 33, 34, 35, 36, 37, 38, 39, 40, 41, 42, 43, 44, 45]) (by decide) hm))
  have hs := eX8_ofDay_w1 g x0 x1 x2 hg1
  rw [hs]
  exact qg1
theorem fiX8_ofDay (g : tG) (x0 : Int32) (x1 : Int32) (x2 : Int32) (k : Nat) (h : k ∉ ([7, 8, 9] : List Nat)) : fX8_ofDay_w g x0 x1 x2 45 k = g 45 k := by
  obtain ⟨g1, hg1⟩ : ∃ z : tG, z = fX8_study_w g x0 (g 45 4) (-1) := ⟨_, rfl⟩
  have qg1 : g1 45 k = g 45 k := by rw [hg1]; exact fiX8_study g x0 (g 45 4) (-1) k (fun hm => h (sub9 (a := [7, 8, 9]) (b := [7, 8, 9]) (by decide) hm))
  have hs := eX8_ofDay_w1 g x0 x1 x2 hg1
  rw [hs]
  exact qg1
def fX8_ofLeg_r (g : tG) (x0 : Int32) (x1 : Int32) (x2 : Int32) (x3 : Int32) : Int32 :=
  let g1 : tG := fX8_study_w g x0 (g 45 4) (-1)
  fX8_legAnswer_r g1 ((gA g1 26 x1) + x2) x3
def fX8_ofLeg_w (g : tG) (x0 : Int32) (x1 : Int32) (x2 : Int32) (x3 : Int32) : tG :=
  let g1 : tG := fX8_study_w g x0 (g 45 4) (-1)
  g1
set_option maxRecDepth 20000 in
theorem eX8_ofLeg_r1 (g : tG) (x0 : Int32) (x1 : Int32) (x2 : Int32) (x3 : Int32) {g1 : tG} (hg1 : g1 = fX8_study_w g x0 (g 45 4) (-1)) : fX8_ofLeg_r g x0 x1 x2 x3 = fX8_legAnswer_r g1 ((gA g1 26 x1) + x2) x3 := by
  have z9 := hg1.symm
  subst z9
  exact rfl
set_option maxRecDepth 20000 in
theorem eX8_ofLeg_w1 (g : tG) (x0 : Int32) (x1 : Int32) (x2 : Int32) (x3 : Int32) {g1 : tG} (hg1 : g1 = fX8_study_w g x0 (g 45 4) (-1)) : fX8_ofLeg_w g x0 x1 x2 x3 = g1 := by
  have z9 := hg1.symm
  subst z9
  exact rfl
theorem fjX8_ofLeg (g : tG) (x0 : Int32) (x1 : Int32) (x2 : Int32) (x3 : Int32) (j : Nat) (h : j ∉ ([19, 20, 21, 22, 23, 24, 25, 26, 27, 28, 29, 30, 31, 32, 33, 34, 35, 36, 37, 38, 39, 40, 41, 42, 43, 44, 45] : List Nat)) : fX8_ofLeg_w g x0 x1 x2 x3 j = g j := by
  obtain ⟨g1, hg1⟩ : ∃ z : tG, z = fX8_study_w g x0 (g 45 4) (-1) := ⟨_, rfl⟩
  have qg1 : g1 j = g j := by rw [hg1]; exact fjX8_study g x0 (g 45 4) (-1) j (fun hm => h (sub9 (a := [19, 20, 21, 22, 23, 24, 25, 26, 27, 28, 29, 30, 31, 32, 33, 34, 35, 36, 37, 38, 39, 40, 41, 42, 43, 44, 45]) (b := [19, 20, 21, 22, 23, 24, 25, 26, 27, 28, 29, 30, 31, 32, 33, 34, 35, 36, 37, 38, 39, 40, 41, 42, 43, 44, 45]) (by decide) hm))
  have hs := eX8_ofLeg_w1 g x0 x1 x2 x3 hg1
  rw [hs]
  exact qg1
theorem fiX8_ofLeg (g : tG) (x0 : Int32) (x1 : Int32) (x2 : Int32) (x3 : Int32) (k : Nat) (h : k ∉ ([7, 8, 9] : List Nat)) : fX8_ofLeg_w g x0 x1 x2 x3 45 k = g 45 k := by
  obtain ⟨g1, hg1⟩ : ∃ z : tG, z = fX8_study_w g x0 (g 45 4) (-1) := ⟨_, rfl⟩
  have qg1 : g1 45 k = g 45 k := by rw [hg1]; exact fiX8_study g x0 (g 45 4) (-1) k (fun hm => h (sub9 (a := [7, 8, 9]) (b := [7, 8, 9]) (by decide) hm))
  have hs := eX8_ofLeg_w1 g x0 x1 x2 x3 hg1
  rw [hs]
  exact qg1
def fX8_ofWeek_r (g : tG) (x0 : Int32) (x1 : Int32) (x2 : Int32) : Int32 :=
  let g1 : tG := fX8_study_w g x0 (g 45 4) (-1)
  fX8_weekAnswer_r g1 x1 x2
def fX8_ofWeek_w (g : tG) (x0 : Int32) (x1 : Int32) (x2 : Int32) : tG :=
  let g1 : tG := fX8_study_w g x0 (g 45 4) (-1)
  g1
set_option maxRecDepth 20000 in
theorem eX8_ofWeek_r1 (g : tG) (x0 : Int32) (x1 : Int32) (x2 : Int32) {g1 : tG} (hg1 : g1 = fX8_study_w g x0 (g 45 4) (-1)) : fX8_ofWeek_r g x0 x1 x2 = fX8_weekAnswer_r g1 x1 x2 := by
  have z9 := hg1.symm
  subst z9
  exact rfl
set_option maxRecDepth 20000 in
theorem eX8_ofWeek_w1 (g : tG) (x0 : Int32) (x1 : Int32) (x2 : Int32) {g1 : tG} (hg1 : g1 = fX8_study_w g x0 (g 45 4) (-1)) : fX8_ofWeek_w g x0 x1 x2 = g1 := by
  have z9 := hg1.symm
  subst z9
  exact rfl
theorem fjX8_ofWeek (g : tG) (x0 : Int32) (x1 : Int32) (x2 : Int32) (j : Nat) (h : j ∉ ([19, 20, 21, 22, 23, 24, 25, 26, 27, 28, 29, 30, 31, 32, 33, 34, 35, 36, 37, 38, 39, 40, 41, 42, 43, 44, 45] : List Nat)) : fX8_ofWeek_w g x0 x1 x2 j = g j := by
  obtain ⟨g1, hg1⟩ : ∃ z : tG, z = fX8_study_w g x0 (g 45 4) (-1) := ⟨_, rfl⟩
  have qg1 : g1 j = g j := by rw [hg1]; exact fjX8_study g x0 (g 45 4) (-1) j (fun hm => h (sub9 (a := [19, 20, 21, 22, 23, 24, 25, 26, 27, 28, 29, 30, 31, 32, 33, 34, 35, 36, 37, 38, 39, 40, 41, 42, 43, 44, 45]) (b := [19, 20, 21, 22, 23, 24, 25, 26, 27, 28, 29, 30, 31, 32, 33, 34, 35, 36, 37, 38, 39, 40, 41, 42, 43, 44, 45]) (by decide) hm))
  have hs := eX8_ofWeek_w1 g x0 x1 x2 hg1
  rw [hs]
  exact qg1
theorem fiX8_ofWeek (g : tG) (x0 : Int32) (x1 : Int32) (x2 : Int32) (k : Nat) (h : k ∉ ([7, 8, 9] : List Nat)) : fX8_ofWeek_w g x0 x1 x2 45 k = g 45 k := by
  obtain ⟨g1, hg1⟩ : ∃ z : tG, z = fX8_study_w g x0 (g 45 4) (-1) := ⟨_, rfl⟩
  have qg1 : g1 45 k = g 45 k := by rw [hg1]; exact fiX8_study g x0 (g 45 4) (-1) k (fun hm => h (sub9 (a := [7, 8, 9]) (b := [7, 8, 9]) (by decide) hm))
  have hs := eX8_ofWeek_w1 g x0 x1 x2 hg1
  rw [hs]
  exact qg1
def fX8_many_r (g : tG) (x0 : Int32) : Int32 :=
  fX8_manyAnswer_r g x0
set_option maxRecDepth 20000 in
theorem eX8_many_r1 (g : tG) (x0 : Int32) : fX8_many_r g x0 = fX8_manyAnswer_r g x0 := by
  exact rfl
def fX8_wouldCost_r (g : tG) (x0 : Int32) (x1 : Int32) (x2 : Int32) (x3 : Int32) (x4 : Int32) (x5 : Int32) : Int32 :=
  let v1 : Int32 := gA g 9 x0
  let v2 : Int32 := x4 / 7
  let g1 : tG := fX8_costOfWeek_w g v1 v2 (g 45 4) (-1)
  let v3 : Int32 := fX8_costOfWeek_r g v1 v2 (g 45 4) (-1)
  let g2 : tG := fX6_write_w g1 (g1 45 4) x0 x1 x2 x3 x4 x5
  let g3 : tG := fX8_costOfWeek_w g2 v1 v2 ((g2 45 4) + 1) (-1)
  (fX8_costOfWeek_r g2 v1 v2 ((g2 45 4) + 1) (-1)) - v3
def fX8_wouldCost_w (g : tG) (x0 : Int32) (x1 : Int32) (x2 : Int32) (x3 : Int32) (x4 : Int32) (x5 : Int32) : tG :=
  let v1 : Int32 := gA g 9 x0
  let v2 : Int32 := x4 / 7
  let g1 : tG := fX8_costOfWeek_w g v1 v2 (g 45 4) (-1)
  let v3 : Int32 := fX8_costOfWeek_r g v1 v2 (g 45 4) (-1)
  let g2 : tG := fX6_write_w g1 (g1 45 4) x0 x1 x2 x3 x4 x5
  let g3 : tG := fX8_costOfWeek_w g2 v1 v2 ((g2 45 4) + 1) (-1)
  g3
set_option maxRecDepth 20000 in
theorem eX8_wouldCost_r1 (g : tG) (x0 : Int32) (x1 : Int32) (x2 : Int32) (x3 : Int32) (x4 : Int32) (x5 : Int32) {v1 : Int32} (hv1 : v1 = gA g 9 x0) {v2 : Int32} (hv2 : v2 = x4 / 7) {g1 : tG} (hg1 : g1 = fX8_costOfWeek_w g v1 v2 (g 45 4) (-1)) {v3 : Int32} (hv3 : v3 = fX8_costOfWeek_r g v1 v2 (g 45 4) (-1)) {g2 : tG} (hg2 : g2 = fX6_write_w g1 (g1 45 4) x0 x1 x2 x3 x4 x5) {g3 : tG} (hg3 : g3 = fX8_costOfWeek_w g2 v1 v2 ((g2 45 4) + 1) (-1)) : fX8_wouldCost_r g x0 x1 x2 x3 x4 x5 = (fX8_costOfWeek_r g2 v1 v2 ((g2 45 4) + 1) (-1)) - v3 := by
  have z9 := hv1.symm
  subst z9
  have z9 := hv2.symm
  subst z9
  have z9 := hg1.symm
  subst z9
  have z9 := hv3.symm
  subst z9
  have z9 := hg2.symm
  subst z9
  have z9 := hg3.symm
  subst z9
  exact rfl
set_option maxRecDepth 20000 in
theorem eX8_wouldCost_w1 (g : tG) (x0 : Int32) (x1 : Int32) (x2 : Int32) (x3 : Int32) (x4 : Int32) (x5 : Int32) {v1 : Int32} (hv1 : v1 = gA g 9 x0) {v2 : Int32} (hv2 : v2 = x4 / 7) {g1 : tG} (hg1 : g1 = fX8_costOfWeek_w g v1 v2 (g 45 4) (-1)) {v3 : Int32} (hv3 : v3 = fX8_costOfWeek_r g v1 v2 (g 45 4) (-1)) {g2 : tG} (hg2 : g2 = fX6_write_w g1 (g1 45 4) x0 x1 x2 x3 x4 x5) {g3 : tG} (hg3 : g3 = fX8_costOfWeek_w g2 v1 v2 ((g2 45 4) + 1) (-1)) : fX8_wouldCost_w g x0 x1 x2 x3 x4 x5 = g3 := by
  have z9 := hv1.symm
  subst z9
  have z9 := hv2.symm
  subst z9
  have z9 := hg1.symm
  subst z9
  have z9 := hv3.symm
  subst z9
  have z9 := hg2.symm
  subst z9
  have z9 := hg3.symm
  subst z9
  exact rfl
theorem fjX8_wouldCost (g : tG) (x0 : Int32) (x1 : Int32) (x2 : Int32) (x3 : Int32) (x4 : Int32) (x5 : Int32) (j : Nat) (h : j ∉ ([13, 14, 15, 16, 17, 18, 19, 20, 21, 22, 23, 24, 25, 26, 27, 28, 29, 30, 31, 32, 33, 34, 35, 36, 37, 38, 39, 40, 41, 42, 43, 44, 45] : List Nat)) : fX8_wouldCost_w g x0 x1 x2 x3 x4 x5 j = g j := by
  obtain ⟨v1, hv1⟩ : ∃ z : Int32, z = gA g 9 x0 := ⟨_, rfl⟩
  obtain ⟨v2, hv2⟩ : ∃ z : Int32, z = x4 / 7 := ⟨_, rfl⟩
  obtain ⟨g1, hg1⟩ : ∃ z : tG, z = fX8_costOfWeek_w g v1 v2 (g 45 4) (-1) := ⟨_, rfl⟩
  obtain ⟨v3, hv3⟩ : ∃ z : Int32, z = fX8_costOfWeek_r g v1 v2 (g 45 4) (-1) := ⟨_, rfl⟩
  obtain ⟨g2, hg2⟩ : ∃ z : tG, z = fX6_write_w g1 (g1 45 4) x0 x1 x2 x3 x4 x5 := ⟨_, rfl⟩
  obtain ⟨g3, hg3⟩ : ∃ z : tG, z = fX8_costOfWeek_w g2 v1 v2 ((g2 45 4) + 1) (-1) := ⟨_, rfl⟩
  have qg1 : g1 j = g j := by rw [hg1]; exact fjX8_costOfWeek g v1 v2 (g 45 4) (-1) j (fun hm => h (sub9 (a := [19, 20, 21, 22, 23, 24, 25, 26, 27, 28, 29, 30, 31, 32, 33, 34, 35, 36, 37, 38, 39, 40, 41, 42, 43, 44, 45]) (b := [13, 14, 15, 16, 17, 18, 19, 20, 21, 22, 23, 24, 25, 26, 27, 28, 29, 30, 31, 32, 33, 34, 35, 36, 37, 38, 39, 40, 41, 42, 43, 44, 45]) (by decide) hm))
  have qg2 : g2 j = g1 j := by rw [hg2]; exact fjX6_write g1 (g1 45 4) x0 x1 x2 x3 x4 x5 j (fun hm => h (sub9 (a := [13, 14, 15, 16, 17, 18]) (b := [13, 14, 15, 16, 17, 18, 19, 20, 21, 22, 23, 24, 25, 26, 27, 28, 29, 30, 31, 32, 33, 34, 35, 36, 37, 38, 39, 40, 41, 42, 43, 44, 45]) (by decide) hm))
  have qg3 : g3 j = g2 j := by rw [hg3]; exact fjX8_costOfWeek g2 v1 v2 ((g2 45 4) + 1) (-1) j (fun hm => h (sub9 (a := [19, 20, 21, 22, 23, 24, 25, 26, 27, 28, 29, 30, 31, 32, 33, 34, 35, 36, 37, 38, 39, 40, 41, 42, 43, 44, 45]) (b := [13, 14, 15, 16, 17, 18, 19, 20, 21, 22, 23, 24, 25, 26, 27, 28, 29, 30, 31, 32, 33, 34, 35, 36, 37, 38, 39, 40, 41, 42, 43, 44, 45]) (by decide) hm))
  have hs := eX8_wouldCost_w1 g x0 x1 x2 x3 x4 x5 hv1 hv2 hg1 hv3 hg2 hg3
  rw [hs]
  exact qg3.trans (qg2.trans (qg1))
theorem fiX8_wouldCost (g : tG) (x0 : Int32) (x1 : Int32) (x2 : Int32) (x3 : Int32) (x4 : Int32) (x5 : Int32) (k : Nat) (h : k ∉ ([7, 8, 9] : List Nat)) : fX8_wouldCost_w g x0 x1 x2 x3 x4 x5 45 k = g 45 k := by
  obtain ⟨v1, hv1⟩ : ∃ z : Int32, z = gA g 9 x0 := ⟨_, rfl⟩
  obtain ⟨v2, hv2⟩ : ∃ z : Int32, z = x4 / 7 := ⟨_, rfl⟩
  obtain ⟨g1, hg1⟩ : ∃ z : tG, z = fX8_costOfWeek_w g v1 v2 (g 45 4) (-1) := ⟨_, rfl⟩
  obtain ⟨v3, hv3⟩ : ∃ z : Int32, z = fX8_costOfWeek_r g v1 v2 (g 45 4) (-1) := ⟨_, rfl⟩
  obtain ⟨g2, hg2⟩ : ∃ z : tG, z = fX6_write_w g1 (g1 45 4) x0 x1 x2 x3 x4 x5 := ⟨_, rfl⟩
  obtain ⟨g3, hg3⟩ : ∃ z : tG, z = fX8_costOfWeek_w g2 v1 v2 ((g2 45 4) + 1) (-1) := ⟨_, rfl⟩
  have qg1 : g1 45 k = g 45 k := by rw [hg1]; exact fiX8_costOfWeek g v1 v2 (g 45 4) (-1) k (fun hm => h (sub9 (a := [7, 8, 9]) (b := [7, 8, 9]) (by decide) hm))
  have qg2 : g2 45 k = g1 45 k := by rw [hg2]; exact congrFun (fjX6_write g1 (g1 45 4) x0 x1 x2 x3 x4 x5 45 (by decide)) k
  have qg3 : g3 45 k = g2 45 k := by rw [hg3]; exact fiX8_costOfWeek g2 v1 v2 ((g2 45 4) + 1) (-1) k (fun hm => h (sub9 (a := [7, 8, 9]) (b := [7, 8, 9]) (by decide) hm))
  have hs := eX8_wouldCost_w1 g x0 x1 x2 x3 x4 x5 hv1 hv2 hg1 hv3 hg2 hg3
  rw [hs]
  exact qg3.trans (qg2.trans (qg1))
def fX8_guess_r (g : tG) (x0 : Int32) (x1 : Int32) (x2 : Int32) (x3 : Int32) : Int32 :=
  let g1 : tG := fX8_study_w g x0 (g 45 4) (-1)
  let g2 : tG := fX3_likeliest_w g1 x1 x2 x3
  fX3_likeliest_r g1 x1 x2 x3
def fX8_guess_w (g : tG) (x0 : Int32) (x1 : Int32) (x2 : Int32) (x3 : Int32) : tG :=
  let g1 : tG := fX8_study_w g x0 (g 45 4) (-1)
  let g2 : tG := fX3_likeliest_w g1 x1 x2 x3
  g2
set_option maxRecDepth 20000 in
theorem eX8_guess_r1 (g : tG) (x0 : Int32) (x1 : Int32) (x2 : Int32) (x3 : Int32) {g1 : tG} (hg1 : g1 = fX8_study_w g x0 (g 45 4) (-1)) {g2 : tG} (hg2 : g2 = fX3_likeliest_w g1 x1 x2 x3) : fX8_guess_r g x0 x1 x2 x3 = fX3_likeliest_r g1 x1 x2 x3 := by
  have z9 := hg1.symm
  subst z9
  have z9 := hg2.symm
  subst z9
  exact rfl
set_option maxRecDepth 20000 in
theorem eX8_guess_w1 (g : tG) (x0 : Int32) (x1 : Int32) (x2 : Int32) (x3 : Int32) {g1 : tG} (hg1 : g1 = fX8_study_w g x0 (g 45 4) (-1)) {g2 : tG} (hg2 : g2 = fX3_likeliest_w g1 x1 x2 x3) : fX8_guess_w g x0 x1 x2 x3 = g2 := by
  have z9 := hg1.symm
  subst z9
  have z9 := hg2.symm
  subst z9
  exact rfl
theorem fjX8_guess (g : tG) (x0 : Int32) (x1 : Int32) (x2 : Int32) (x3 : Int32) (j : Nat) (h : j ∉ ([19, 20, 21, 22, 23, 24, 25, 26, 27, 28, 29, 30, 31, 32, 33, 34, 35, 36, 37, 38, 39, 40, 41, 42, 43, 44, 45] : List Nat)) : fX8_guess_w g x0 x1 x2 x3 j = g j := by
  obtain ⟨g1, hg1⟩ : ∃ z : tG, z = fX8_study_w g x0 (g 45 4) (-1) := ⟨_, rfl⟩
  obtain ⟨g2, hg2⟩ : ∃ z : tG, z = fX3_likeliest_w g1 x1 x2 x3 := ⟨_, rfl⟩
  have qg1 : g1 j = g j := by rw [hg1]; exact fjX8_study g x0 (g 45 4) (-1) j (fun hm => h (sub9 (a := [19, 20, 21, 22, 23, 24, 25, 26, 27, 28, 29, 30, 31, 32, 33, 34, 35, 36, 37, 38, 39, 40, 41, 42, 43, 44, 45]) (b := [19, 20, 21, 22, 23, 24, 25, 26, 27, 28, 29, 30, 31, 32, 33, 34, 35, 36, 37, 38, 39, 40, 41, 42, 43, 44, 45]) (by decide) hm))
  have qg2 : g2 j = g1 j := by rw [hg2]; exact fjX3_likeliest g1 x1 x2 x3 j (fun hm => h (sub9 (a := [31]) (b := [19, 20, 21, 22, 23, 24, 25, 26, 27, 28, 29, 30, 31, 32, 33, 34, 35, 36, 37, 38, 39, 40, 41, 42, 43, 44, 45]) (by decide) hm))
  have hs := eX8_guess_w1 g x0 x1 x2 x3 hg1 hg2
  rw [hs]
  exact qg2.trans (qg1)
theorem fiX8_guess (g : tG) (x0 : Int32) (x1 : Int32) (x2 : Int32) (x3 : Int32) (k : Nat) (h : k ∉ ([7, 8, 9] : List Nat)) : fX8_guess_w g x0 x1 x2 x3 45 k = g 45 k := by
  obtain ⟨g1, hg1⟩ : ∃ z : tG, z = fX8_study_w g x0 (g 45 4) (-1) := ⟨_, rfl⟩
  obtain ⟨g2, hg2⟩ : ∃ z : tG, z = fX3_likeliest_w g1 x1 x2 x3 := ⟨_, rfl⟩
  have qg1 : g1 45 k = g 45 k := by rw [hg1]; exact fiX8_study g x0 (g 45 4) (-1) k (fun hm => h (sub9 (a := [7, 8, 9]) (b := [7, 8, 9]) (by decide) hm))
  have qg2 : g2 45 k = g1 45 k := by rw [hg2]; exact congrFun (fjX3_likeliest g1 x1 x2 x3 45 (by decide)) k
  have hs := eX8_guess_w1 g x0 x1 x2 x3 hg1 hg2
  rw [hs]
  exact qg2.trans (qg1)
