def sX8_digestDay_6 (g : tG) (x1 : Int32) : (Int32 × Int64) → Option (Int32 × Int64) := fun σ =>
  if 7 < σ.1 then
    none
  else
    let v1 : Int64 := (σ.2 * 31) + ((fX8_dayAnswer_r g x1 σ.1).toInt64)
    some (σ.1 + 1, v1)
set_option maxRecDepth 20000 in
theorem eX8_digestDay_6_1 (g : tG) (x1 : Int32) (i1 : Int32) (i2 : Int64) (c1 : 7 < i1) : sX8_digestDay_6 g x1 (i1, i2) = none := by
  exact (if_pos c1).trans rfl
set_option maxRecDepth 20000 in
theorem eX8_digestDay_6_2 (g : tG) (x1 : Int32) (i1 : Int32) (i2 : Int64) (c1 : ¬ (7 < i1)) {v1 : Int64} (hv1 : v1 = (i2 * 31) + ((fX8_dayAnswer_r g x1 i1).toInt64)) : sX8_digestDay_6 g x1 (i1, i2) = some (i1 + 1, v1) := by
  have z9 := hv1.symm
  subst z9
  exact (if_neg c1).trans rfl
theorem tX8_digestDay_6 (g : tG) (x1 : Int32) (i2z : Int64) : lpE (sX8_digestDay_6 g x1) 8 (0, i2z) := by
  refine lpE_up (fun σ => σ.1) 8 ?_ _ _ (by show (8 : Int32).toInt - (0 : Int32).toInt ≤ ((8 : Nat) : Int); decide)
  intro σ τ h9
  obtain ⟨i1, i2⟩ := σ
  by_cases c1 : 7 < i1
  · have hs := eX8_digestDay_6_1 g x1 i1 i2 c1
    rw [hs] at h9
    cases h9
  · obtain ⟨v1, hv1⟩ : ∃ z : Int64, z = (i2 * 31) + ((fX8_dayAnswer_r g x1 i1).toInt64) := ⟨_, rfl⟩
    have hs := eX8_digestDay_6_2 g x1 i1 i2 c1 hv1
    rw [hs] at h9
    have e9 := Option.some.inj h9
    subst e9
    exact ⟨lt_next c1 (by decide), rfl⟩
def sX8_digestDay_56 (g : tG) (x1 : Int32) : (Int32 × Int64) → Option (Int32 × Int64) := fun σ =>
  if 3 ≤ σ.1 then
    none
  else
    let v2 : Int64 := (σ.2 * 31) + ((fX8_shareAnswer_r g σ.1 x1).toInt64)
    some (σ.1 + 1, v2)
set_option maxRecDepth 20000 in
theorem eX8_digestDay_56_1 (g : tG) (x1 : Int32) (i3 : Int32) (i4 : Int64) (c3 : 3 ≤ i3) : sX8_digestDay_56 g x1 (i3, i4) = none := by
  exact (if_pos c3).trans rfl
set_option maxRecDepth 20000 in
theorem eX8_digestDay_56_2 (g : tG) (x1 : Int32) (i3 : Int32) (i4 : Int64) (c3 : ¬ (3 ≤ i3)) {v2 : Int64} (hv2 : v2 = (i4 * 31) + ((fX8_shareAnswer_r g i3 x1).toInt64)) : sX8_digestDay_56 g x1 (i3, i4) = some (i3 + 1, v2) := by
  have z9 := hv2.symm
  subst z9
  exact (if_neg c3).trans rfl
theorem tX8_digestDay_56 (g : tG) (x1 : Int32) (i4z : Int64) : lpE (sX8_digestDay_56 g x1) 3 (0, i4z) := by
  refine lpE_up (fun σ => σ.1) 3 ?_ _ _ (by show (3 : Int32).toInt - (0 : Int32).toInt ≤ ((3 : Nat) : Int); decide)
  intro σ τ h9
  obtain ⟨i3, i4⟩ := σ
  by_cases c3 : 3 ≤ i3
  · have hs := eX8_digestDay_56_1 g x1 i3 i4 c3
    rw [hs] at h9
    cases h9
  · obtain ⟨v2, hv2⟩ : ∃ z : Int64, z = (i4 * 31) + ((fX8_shareAnswer_r g i3 x1).toInt64) := ⟨_, rfl⟩
    have hs := eX8_digestDay_56_2 g x1 i3 i4 c3 hv2
    rw [hs] at h9
    have e9 := Option.some.inj h9
    subst e9
    exact ⟨not_le32 c3, rfl⟩
def sX8_digestDay_120 (g : tG) (v3 : Int32) (i5 : Int32) : (Int32 × Int64) → Option (Int32 × Int64) := fun σ =>
  if 6 < σ.1 then
    none
  else
    let v4 : Int64 := (σ.2 * 31) + ((fX8_legAnswer_r g (v3 + i5) σ.1).toInt64)
    some (σ.1 + 1, v4)
set_option maxRecDepth 20000 in
theorem eX8_digestDay_120_1 (g : tG) (v3 : Int32) (i5 : Int32) (i7 : Int32) (i8 : Int64) (c5 : 6 < i7) : sX8_digestDay_120 g v3 i5 (i7, i8) = none := by
  exact (if_pos c5).trans rfl
set_option maxRecDepth 20000 in
theorem eX8_digestDay_120_2 (g : tG) (v3 : Int32) (i5 : Int32) (i7 : Int32) (i8 : Int64) (c5 : ¬ (6 < i7)) {v4 : Int64} (hv4 : v4 = (i8 * 31) + ((fX8_legAnswer_r g (v3 + i5) i7).toInt64)) : sX8_digestDay_120 g v3 i5 (i7, i8) = some (i7 + 1, v4) := by
  have z9 := hv4.symm
  subst z9
  exact (if_neg c5).trans rfl
theorem tX8_digestDay_120 (g : tG) (v3 : Int32) (i5 : Int32) (i8z : Int64) : lpE (sX8_digestDay_120 g v3 i5) 7 (0, i8z) := by
  refine lpE_up (fun σ => σ.1) 7 ?_ _ _ (by show (7 : Int32).toInt - (0 : Int32).toInt ≤ ((7 : Nat) : Int); decide)
  intro σ τ h9
  obtain ⟨i7, i8⟩ := σ
  by_cases c5 : 6 < i7
  · have hs := eX8_digestDay_120_1 g v3 i5 i7 i8 c5
    rw [hs] at h9
    cases h9
  · obtain ⟨v4, hv4⟩ : ∃ z : Int64, z = (i8 * 31) + ((fX8_legAnswer_r g (v3 + i5) i7).toInt64) := ⟨_, rfl⟩
    have hs := eX8_digestDay_120_2 g v3 i5 i7 i8 c5 hv4
    rw [hs] at h9
    have e9 := Option.some.inj h9
    subst e9
    exact ⟨lt_next c5 (by decide), rfl⟩
def sX8_digestDay_101 (g : tG) (x1 : Int32) (v3 : Int32) : (Int32 × Int64) → Option (Int32 × Int64) := fun σ =>
  if (gA g 27 x1) ≤ σ.1 then
    none
  else
    let r3 : Int32 × Int64 := lp (sX8_digestDay_120 g v3 σ.1) 7 (0, σ.2)
    some (σ.1 + 1, r3.2)
set_option maxRecDepth 20000 in
theorem eX8_digestDay_101_1 (g : tG) (x1 : Int32) (v3 : Int32) (i5 : Int32) (i6 : Int64) (c4 : (gA g 27 x1) ≤ i5) : sX8_digestDay_101 g x1 v3 (i5, i6) = none := by
  exact (if_pos c4).trans rfl
set_option maxRecDepth 20000 in
theorem eX8_digestDay_101_2 (g : tG) (x1 : Int32) (v3 : Int32) (i5 : Int32) (i6 : Int64) (c4 : ¬ ((gA g 27 x1) ≤ i5)) {r3 : Int32 × Int64} (hr3 : r3 = lp (sX8_digestDay_120 g v3 i5) 7 (0, i6)) : sX8_digestDay_101 g x1 v3 (i5, i6) = some (i5 + 1, r3.2) := by
  have z9 := hr3.symm
  subst z9
  exact (if_neg c4).trans rfl
theorem tX8_digestDay_101 (g : tG) (x1 : Int32) (v3 : Int32) (i6z : Int64) : lpE (sX8_digestDay_101 g x1 v3) (nn ((gA g 27 x1))) (0, i6z) := by
  refine lpE_up (fun σ => σ.1) ((gA g 27 x1)) ?_ _ _ (nn_le _)
  intro σ τ h9
  obtain ⟨i5, i6⟩ := σ
  by_cases c4 : (gA g 27 x1) ≤ i5
  · have hs := eX8_digestDay_101_1 g x1 v3 i5 i6 c4
    rw [hs] at h9
    cases h9
  · obtain ⟨r3, hr3⟩ : ∃ z : Int32 × Int64, z = lp (sX8_digestDay_120 g v3 i5) 7 (0, i6) := ⟨_, rfl⟩
    have hs := eX8_digestDay_101_2 g x1 v3 i5 i6 c4 hr3
    rw [hs] at h9
    have e9 := Option.some.inj h9
    subst e9
    exact ⟨not_le32 c4, rfl⟩
def fX8_digestDay_r (g : tG) (x0 : Int64) (x1 : Int32) : Int64 :=
  let r1 : Int32 × Int64 := lp (sX8_digestDay_6 g x1) 8 (0, x0)
  if (gA g 28 x1) = 0 then
    r1.2
  else
    let r2 : Int32 × Int64 := lp (sX8_digestDay_56 g x1) 3 (0, r1.2)
    let v3 : Int32 := gA g 26 x1
    let r4 : Int32 × Int64 := lp (sX8_digestDay_101 g x1 v3) (nn ((gA g 27 x1))) (0, r2.2)
    r4.2
set_option maxRecDepth 20000 in
theorem eX8_digestDay_r1 (g : tG) (x0 : Int64) (x1 : Int32) {r1 : Int32 × Int64} (hr1 : r1 = lp (sX8_digestDay_6 g x1) 8 (0, x0)) (c2 : ¬ ((gA g 28 x1) = 0)) {r2 : Int32 × Int64} (hr2 : r2 = lp (sX8_digestDay_56 g x1) 3 (0, r1.2)) {v3 : Int32} (hv3 : v3 = gA g 26 x1) {r4 : Int32 × Int64} (hr4 : r4 = lp (sX8_digestDay_101 g x1 v3) (nn ((gA g 27 x1))) (0, r2.2)) : fX8_digestDay_r g x0 x1 = r4.2 := by
  have z9 := hr1.symm
  subst z9
  have z9 := hr2.symm
  subst z9
  have z9 := hv3.symm
  subst z9
  have z9 := hr4.symm
  subst z9
  exact (if_neg c2).trans rfl
set_option maxRecDepth 20000 in
theorem eX8_digestDay_r2 (g : tG) (x0 : Int64) (x1 : Int32) {r1 : Int32 × Int64} (hr1 : r1 = lp (sX8_digestDay_6 g x1) 8 (0, x0)) (c2 : (gA g 28 x1) = 0) : fX8_digestDay_r g x0 x1 = r1.2 := by
  have z9 := hr1.symm
  subst z9
  exact (if_pos c2).trans rfl
def sX8_digestPerson_19 (g1 : tG) : (Int32 × Int64) → Option (Int32 × Int64) := fun σ =>
  if 28 ≤ σ.1 then
    none
  else
    let v1 : Int64 := fX8_digestDay_r g1 σ.2 σ.1
    some (σ.1 + 1, v1)
set_option maxRecDepth 20000 in
theorem eX8_digestPerson_19_1 (g1 : tG) (i1 : Int32) (i2 : Int64) (c1 : 28 ≤ i1) : sX8_digestPerson_19 g1 (i1, i2) = none := by
  exact (if_pos c1).trans rfl
set_option maxRecDepth 20000 in
theorem eX8_digestPerson_19_2 (g1 : tG) (i1 : Int32) (i2 : Int64) (c1 : ¬ (28 ≤ i1)) {v1 : Int64} (hv1 : v1 = fX8_digestDay_r g1 i2 i1) : sX8_digestPerson_19 g1 (i1, i2) = some (i1 + 1, v1) := by
  have z9 := hv1.symm
  subst z9
  exact (if_neg c1).trans rfl
theorem tX8_digestPerson_19 (g1 : tG) (i2z : Int64) : lpE (sX8_digestPerson_19 g1) 28 (0, i2z) := by
  refine lpE_up (fun σ => σ.1) 28 ?_ _ _ (by show (28 : Int32).toInt - (0 : Int32).toInt ≤ ((28 : Nat) : Int); decide)
  intro σ τ h9
  obtain ⟨i1, i2⟩ := σ
  by_cases c1 : 28 ≤ i1
  · have hs := eX8_digestPerson_19_1 g1 i1 i2 c1
    rw [hs] at h9
    cases h9
  · obtain ⟨v1, hv1⟩ : ∃ z : Int64, z = fX8_digestDay_r g1 i2 i1 := ⟨_, rfl⟩
    have hs := eX8_digestPerson_19_2 g1 i1 i2 c1 hv1
    rw [hs] at h9
    have e9 := Option.some.inj h9
    subst e9
    exact ⟨not_le32 c1, rfl⟩
def sX8_digestPerson_54 (g1 : tG) (i3 : Int32) : (Int32 × Int64) → Option (Int32 × Int64) := fun σ =>
  if 2 < σ.1 then
    none
  else
    let v2 : Int64 := (σ.2 * 31) + ((fX8_weekAnswer_r g1 i3 σ.1).toInt64)
    some (σ.1 + 1, v2)
set_option maxRecDepth 20000 in
theorem eX8_digestPerson_54_1 (g1 : tG) (i3 : Int32) (i5 : Int32) (i6 : Int64) (c3 : 2 < i5) : sX8_digestPerson_54 g1 i3 (i5, i6) = none := by
  exact (if_pos c3).trans rfl
set_option maxRecDepth 20000 in
theorem eX8_digestPerson_54_2 (g1 : tG) (i3 : Int32) (i5 : Int32) (i6 : Int64) (c3 : ¬ (2 < i5)) {v2 : Int64} (hv2 : v2 = (i6 * 31) + ((fX8_weekAnswer_r g1 i3 i5).toInt64)) : sX8_digestPerson_54 g1 i3 (i5, i6) = some (i5 + 1, v2) := by
  have z9 := hv2.symm
  subst z9
  exact (if_neg c3).trans rfl
theorem tX8_digestPerson_54 (g1 : tG) (i3 : Int32) (i6z : Int64) : lpE (sX8_digestPerson_54 g1 i3) 3 (0, i6z) := by
  refine lpE_up (fun σ => σ.1) 3 ?_ _ _ (by show (3 : Int32).toInt - (0 : Int32).toInt ≤ ((3 : Nat) : Int); decide)
  intro σ τ h9
  obtain ⟨i5, i6⟩ := σ
  by_cases c3 : 2 < i5
  · have hs := eX8_digestPerson_54_1 g1 i3 i5 i6 c3
    rw [hs] at h9
    cases h9
  · obtain ⟨v2, hv2⟩ : ∃ z : Int64, z = (i6 * 31) + ((fX8_weekAnswer_r g1 i3 i5).toInt64) := ⟨_, rfl⟩
    have hs := eX8_digestPerson_54_2 g1 i3 i5 i6 c3 hv2
    rw [hs] at h9
    have e9 := Option.some.inj h9
    subst e9
    exact ⟨lt_next c3 (by decide), rfl⟩
def sX8_digestPerson_45 (g1 : tG) : (Int32 × Int64) → Option (Int32 × Int64) := fun σ =>
  if 4 ≤ σ.1 then
    none
  else
    let r2 : Int32 × Int64 := lp (sX8_digestPerson_54 g1 σ.1) 3 (0, σ.2)
    some (σ.1 + 1, r2.2)
set_option maxRecDepth 20000 in
theorem eX8_digestPerson_45_1 (g1 : tG) (i3 : Int32) (i4 : Int64) (c2 : 4 ≤ i3) : sX8_digestPerson_45 g1 (i3, i4) = none := by
  exact (if_pos c2).trans rfl
set_option maxRecDepth 20000 in
theorem eX8_digestPerson_45_2 (g1 : tG) (i3 : Int32) (i4 : Int64) (c2 : ¬ (4 ≤ i3)) {r2 : Int32 × Int64} (hr2 : r2 = lp (sX8_digestPerson_54 g1 i3) 3 (0, i4)) : sX8_digestPerson_45 g1 (i3, i4) = some (i3 + 1, r2.2) := by
  have z9 := hr2.symm
  subst z9
  exact (if_neg c2).trans rfl
theorem tX8_digestPerson_45 (g1 : tG) (i4z : Int64) : lpE (sX8_digestPerson_45 g1) 4 (0, i4z) := by
  refine lpE_up (fun σ => σ.1) 4 ?_ _ _ (by show (4 : Int32).toInt - (0 : Int32).toInt ≤ ((4 : Nat) : Int); decide)
  intro σ τ h9
  obtain ⟨i3, i4⟩ := σ
  by_cases c2 : 4 ≤ i3
  · have hs := eX8_digestPerson_45_1 g1 i3 i4 c2
    rw [hs] at h9
    cases h9
  · obtain ⟨r2, hr2⟩ : ∃ z : Int32 × Int64, z = lp (sX8_digestPerson_54 g1 i3) 3 (0, i4) := ⟨_, rfl⟩
    have hs := eX8_digestPerson_45_2 g1 i3 i4 c2 hr2
    rw [hs] at h9
    have e9 := Option.some.inj h9
    subst e9
    exact ⟨not_le32 c2, rfl⟩
def sX8_digestPerson_93 : (Int32 × Int64 × tG) → Option (Int32 × Int64 × tG) := fun σ =>
  if 10 ≤ σ.1 then
    none
  else
    let g3 : tG := fX3_likeliest_w σ.2.2 27 σ.1 1
    let v3 : Int64 := (σ.2.1 * 31) + ((fX3_likeliest_r σ.2.2 27 σ.1 1).toInt64)
    some (σ.1 + 1, v3, g3)
set_option maxRecDepth 20000 in
theorem eX8_digestPerson_93_1 (i7 : Int32) (i8 : Int64) (g2 : tG) (c4 : 10 ≤ i7) : sX8_digestPerson_93 (i7, i8, g2) = none := by
  exact (if_pos c4).trans rfl
set_option maxRecDepth 20000 in
theorem eX8_digestPerson_93_2 (i7 : Int32) (i8 : Int64) (g2 : tG) (c4 : ¬ (10 ≤ i7)) {g3 : tG} (hg3 : g3 = fX3_likeliest_w g2 27 i7 1) {v3 : Int64} (hv3 : v3 = (i8 * 31) + ((fX3_likeliest_r g2 27 i7 1).toInt64)) : sX8_digestPerson_93 (i7, i8, g2) = some (i7 + 1, v3, g3) := by
  have z9 := hg3.symm
  subst z9
  have z9 := hv3.symm
  subst z9
  exact (if_neg c4).trans rfl
theorem fj_X8_digestPerson_93 (σ τ : Int32 × Int64 × tG) (j : Nat) (h : j ∉ ([31] : List Nat)) (e : sX8_digestPerson_93 σ = some τ) : τ.2.2 j = σ.2.2 j := by
  obtain ⟨i7, i8, g2⟩ := σ
  by_cases c4 : 10 ≤ i7
  · have hs := eX8_digestPerson_93_1 i7 i8 g2 c4
    rw [hs] at e
    cases e
  · obtain ⟨g3, hg3⟩ : ∃ z : tG, z = fX3_likeliest_w g2 27 i7 1 := ⟨_, rfl⟩
    obtain ⟨v3, hv3⟩ : ∃ z : Int64, z = (i8 * 31) + ((fX3_likeliest_r g2 27 i7 1).toInt64) := ⟨_, rfl⟩
    have qg3 : g3 j = g2 j := by rw [hg3]; exact fjX3_likeliest g2 27 i7 1 j (fun hm => h (sub9 (a := [31]) (b := [31]) (by decide) hm))
    have hs := eX8_digestPerson_93_2 i7 i8 g2 c4 hg3 hv3
    rw [hs] at e
    have e9 := Option.some.inj e
    subst e9
    exact qg3
theorem fjX8_digestPerson_93 (n : Nat) (σ : Int32 × Int64 × tG) (j : Nat) (h : j ∉ ([31] : List Nat)) : ((lp (sX8_digestPerson_93) n σ).2.2) j = σ.2.2 j :=
  lp_inv (fun τ => τ.2.2 j = σ.2.2 j) (fun a b e9 h9 => (fj_X8_digestPerson_93 a b j h e9).trans h9) n σ rfl
theorem tX8_digestPerson_93 (i8z : Int64) (g2z : tG) : lpE (sX8_digestPerson_93) 10 (0, i8z, g2z) := by
  refine lpE_up (fun σ => σ.1) 10 ?_ _ _ (by show (10 : Int32).toInt - (0 : Int32).toInt ≤ ((10 : Nat) : Int); decide)
  intro σ τ h9
  obtain ⟨i7, i8, g2⟩ := σ
  by_cases c4 : 10 ≤ i7
  · have hs := eX8_digestPerson_93_1 i7 i8 g2 c4
    rw [hs] at h9
    cases h9
  · obtain ⟨g3, hg3⟩ : ∃ z : tG, z = fX3_likeliest_w g2 27 i7 1 := ⟨_, rfl⟩
    obtain ⟨v3, hv3⟩ : ∃ z : Int64, z = (i8 * 31) + ((fX3_likeliest_r g2 27 i7 1).toInt64) := ⟨_, rfl⟩
    have hs := eX8_digestPerson_93_2 i7 i8 g2 c4 hg3 hv3
    rw [hs] at h9
    have e9 := Option.some.inj h9
    subst e9
    exact ⟨not_le32 c4, rfl⟩
def fX8_digestPerson_r (g : tG) (x0 : Int64) (x1 : Int32) : Int64 :=
  let g1 : tG := fX8_study_w g x1 (g 45 4) (-1)
  let r1 : Int32 × Int64 := lp (sX8_digestPerson_19 g1) 28 (0, x0)
  let r3 : Int32 × Int64 := lp (sX8_digestPerson_45 g1) 4 (0, r1.2)
  let r4 : Int32 × Int64 × tG := lp (sX8_digestPerson_93) 10 (0, r3.2, g1)
  r4.2.1
def fX8_digestPerson_w (g : tG) (x0 : Int64) (x1 : Int32) : tG :=
  let g1 : tG := fX8_study_w g x1 (g 45 4) (-1)
  let r1 : Int32 × Int64 := lp (sX8_digestPerson_19 g1) 28 (0, x0)
  let r3 : Int32 × Int64 := lp (sX8_digestPerson_45 g1) 4 (0, r1.2)
  let r4 : Int32 × Int64 × tG := lp (sX8_digestPerson_93) 10 (0, r3.2, g1)
  r4.2.2
set_option maxRecDepth 20000 in
theorem eX8_digestPerson_r1 (g : tG) (x0 : Int64) (x1 : Int32) {g1 : tG} (hg1 : g1 = fX8_study_w g x1 (g 45 4) (-1)) {r1 : Int32 × Int64} (hr1 : r1 = lp (sX8_digestPerson_19 g1) 28 (0, x0)) {r3 : Int32 × Int64} (hr3 : r3 = lp (sX8_digestPerson_45 g1) 4 (0, r1.2)) {r4 : Int32 × Int64 × tG} (hr4 : r4 = lp (sX8_digestPerson_93) 10 (0, r3.2, g1)) : fX8_digestPerson_r g x0 x1 = r4.2.1 := by
  have z9 := hg1.symm
  subst z9
  have z9 := hr1.symm
  subst z9
  have z9 := hr3.symm
  subst z9
  have z9 := hr4.symm
  subst z9
  exact rfl
set_option maxRecDepth 20000 in
theorem eX8_digestPerson_w1 (g : tG) (x0 : Int64) (x1 : Int32) {g1 : tG} (hg1 : g1 = fX8_study_w g x1 (g 45 4) (-1)) {r1 : Int32 × Int64} (hr1 : r1 = lp (sX8_digestPerson_19 g1) 28 (0, x0)) {r3 : Int32 × Int64} (hr3 : r3 = lp (sX8_digestPerson_45 g1) 4 (0, r1.2)) {r4 : Int32 × Int64 × tG} (hr4 : r4 = lp (sX8_digestPerson_93) 10 (0, r3.2, g1)) : fX8_digestPerson_w g x0 x1 = r4.2.2 := by
  have z9 := hg1.symm
  subst z9
  have z9 := hr1.symm
  subst z9
  have z9 := hr3.symm
  subst z9
  have z9 := hr4.symm
  subst z9
  exact rfl
theorem fjX8_digestPerson (g : tG) (x0 : Int64) (x1 : Int32) (j : Nat) (h : j ∉ ([19, 20, 21, 22, 23, 24, 25, 26, 27, 28, 29, 30, 31, 32, 33, 34, 35, 36, 37, 38, 39, 40, 41, 42, 43, 44, 45] : List Nat)) : fX8_digestPerson_w g x0 x1 j = g j := by
  obtain ⟨g1, hg1⟩ : ∃ z : tG, z = fX8_study_w g x1 (g 45 4) (-1) := ⟨_, rfl⟩
  obtain ⟨r1, hr1⟩ : ∃ z : Int32 × Int64, z = lp (sX8_digestPerson_19 g1) 28 (0, x0) := ⟨_, rfl⟩
  obtain ⟨r3, hr3⟩ : ∃ z : Int32 × Int64, z = lp (sX8_digestPerson_45 g1) 4 (0, r1.2) := ⟨_, rfl⟩
  obtain ⟨r4, hr4⟩ : ∃ z : Int32 × Int64 × tG, z = lp (sX8_digestPerson_93) 10 (0, r3.2, g1) := ⟨_, rfl⟩
  have qg1 : g1 j = g j := by rw [hg1]; exact fjX8_study g x1 (g 45 4) (-1) j (fun hm => h (sub9 (a := [19, 20, 21, 22, 23, 24, 25, 26, 27, 28, 29, 30, 31, 32, 33, 34, 35, 36, 37, 38, 39, 40, 41, 42, 43, 44, 45]) (b := [19, 20, 21, 22, 23, 24, 25, 26, 27, 28, 29, 30, 31, 32, 33, 34, 35, 36, 37, 38, 39, 40, 41, 42, 43, 44, 45]) (by decide) hm))
  have qr4 : r4.2.2 j = g1 j := by rw [hr4]; exact fjX8_digestPerson_93 _ _ j (fun hm => h (sub9 (a := [31]) (b := [19, 20, 21, 22, 23, 24, 25, 26, 27, 28, 29, 30, 31, 32, 33, 34, 35, 36, 37, 38, 39, 40, 41, 42, 43, 44, 45]) (by decide) hm))
  have hs := eX8_digestPerson_w1 g x0 x1 hg1 hr1 hr3 hr4
  rw [hs]
  exact qr4.trans (qg1)
theorem fiX8_digestPerson (g : tG) (x0 : Int64) (x1 : Int32) (k : Nat) (h : k ∉ ([7, 8, 9] : List Nat)) : fX8_digestPerson_w g x0 x1 45 k = g 45 k := by
  obtain ⟨g1, hg1⟩ : ∃ z : tG, z = fX8_study_w g x1 (g 45 4) (-1) := ⟨_, rfl⟩
  obtain ⟨r1, hr1⟩ : ∃ z : Int32 × Int64, z = lp (sX8_digestPerson_19 g1) 28 (0, x0) := ⟨_, rfl⟩
  obtain ⟨r3, hr3⟩ : ∃ z : Int32 × Int64, z = lp (sX8_digestPerson_45 g1) 4 (0, r1.2) := ⟨_, rfl⟩
  obtain ⟨r4, hr4⟩ : ∃ z : Int32 × Int64 × tG, z = lp (sX8_digestPerson_93) 10 (0, r3.2, g1) := ⟨_, rfl⟩
  have qg1 : g1 45 k = g 45 k := by rw [hg1]; exact fiX8_study g x1 (g 45 4) (-1) k (fun hm => h (sub9 (a := [7, 8, 9]) (b := [7, 8, 9]) (by decide) hm))
  have qr4 : r4.2.2 45 k = g1 45 k := by rw [hr4]; exact congrFun (fjX8_digestPerson_93 _ _ 45 (by decide)) k
  have hs := eX8_digestPerson_w1 g x0 x1 hg1 hr1 hr3 hr4
  rw [hs]
  exact qr4.trans (qg1)
def sX8_digest_6 (g : tG) : (Int32 × Int64) → Option (Int32 × Int64) := fun σ =>
  if 8 < σ.1 then
    none
  else
    let v1 : Int64 := (σ.2 * 31) + ((fX8_manyAnswer_r g σ.1).toInt64)
    some (σ.1 + 1, v1)
set_option maxRecDepth 20000 in
theorem eX8_digest_6_1 (g : tG) (i1 : Int32) (i2 : Int64) (c1 : 8 < i1) : sX8_digest_6 g (i1, i2) = none := by
  exact (if_pos c1).trans rfl
set_option maxRecDepth 20000 in
theorem eX8_digest_6_2 (g : tG) (i1 : Int32) (i2 : Int64) (c1 : ¬ (8 < i1)) {v1 : Int64} (hv1 : v1 = (i2 * 31) + ((fX8_manyAnswer_r g i1).toInt64)) : sX8_digest_6 g (i1, i2) = some (i1 + 1, v1) := by
  have z9 := hv1.symm
  subst z9
  exact (if_neg c1).trans rfl
theorem tX8_digest_6 (g : tG) (i2z : Int64) : lpE (sX8_digest_6 g) 9 (0, i2z) := by
  refine lpE_up (fun σ => σ.1) 9 ?_ _ _ (by show (9 : Int32).toInt - (0 : Int32).toInt ≤ ((9 : Nat) : Int); decide)
  intro σ τ h9
  obtain ⟨i1, i2⟩ := σ
  by_cases c1 : 8 < i1
  · have hs := eX8_digest_6_1 g i1 i2 c1
    rw [hs] at h9
    cases h9
  · obtain ⟨v1, hv1⟩ : ∃ z : Int64, z = (i2 * 31) + ((fX8_manyAnswer_r g i1).toInt64) := ⟨_, rfl⟩
    have hs := eX8_digest_6_2 g i1 i2 c1 hv1
    rw [hs] at h9
    have e9 := Option.some.inj h9
    subst e9
    exact ⟨lt_next c1 (by decide), rfl⟩
def sX8_digest_47 (g : tG) (i3 : Int32) : (Int32 × Int64) → Option (Int32 × Int64) := fun σ =>
  if 7 < σ.1 then
    none
  else
    let v2 : Int64 := (σ.2 * 31) + ((fX8_cardAnswer_r g i3 σ.1).toInt64)
    some (σ.1 + 1, v2)
set_option maxRecDepth 20000 in
theorem eX8_digest_47_1 (g : tG) (i3 : Int32) (i5 : Int32) (i6 : Int64) (c3 : 7 < i5) : sX8_digest_47 g i3 (i5, i6) = none := by
  exact (if_pos c3).trans rfl
set_option maxRecDepth 20000 in
theorem eX8_digest_47_2 (g : tG) (i3 : Int32) (i5 : Int32) (i6 : Int64) (c3 : ¬ (7 < i5)) {v2 : Int64} (hv2 : v2 = (i6 * 31) + ((fX8_cardAnswer_r g i3 i5).toInt64)) : sX8_digest_47 g i3 (i5, i6) = some (i5 + 1, v2) := by
  have z9 := hv2.symm
  subst z9
  exact (if_neg c3).trans rfl
theorem tX8_digest_47 (g : tG) (i3 : Int32) (i6z : Int64) : lpE (sX8_digest_47 g i3) 8 (0, i6z) := by
  refine lpE_up (fun σ => σ.1) 8 ?_ _ _ (by show (8 : Int32).toInt - (0 : Int32).toInt ≤ ((8 : Nat) : Int); decide)
  intro σ τ h9
  obtain ⟨i5, i6⟩ := σ
  by_cases c3 : 7 < i5
  · have hs := eX8_digest_47_1 g i3 i5 i6 c3
    rw [hs] at h9
    cases h9
  · obtain ⟨v2, hv2⟩ : ∃ z : Int64, z = (i6 * 31) + ((fX8_cardAnswer_r g i3 i5).toInt64) := ⟨_, rfl⟩
    have hs := eX8_digest_47_2 g i3 i5 i6 c3 hv2
    rw [hs] at h9
    have e9 := Option.some.inj h9
    subst e9
    exact ⟨lt_next c3 (by decide), rfl⟩
def sX8_digest_33 (g : tG) : (Int32 × Int64) → Option (Int32 × Int64) := fun σ =>
  if (g 45 3) ≤ σ.1 then
    none
  else
    let r2 : Int32 × Int64 := lp (sX8_digest_47 g σ.1) 8 (0, σ.2)
    some (σ.1 + 1, r2.2)
set_option maxRecDepth 20000 in
theorem eX8_digest_33_1 (g : tG) (i3 : Int32) (i4 : Int64) (c2 : (g 45 3) ≤ i3) : sX8_digest_33 g (i3, i4) = none := by
  exact (if_pos c2).trans rfl
set_option maxRecDepth 20000 in
theorem eX8_digest_33_2 (g : tG) (i3 : Int32) (i4 : Int64) (c2 : ¬ ((g 45 3) ≤ i3)) {r2 : Int32 × Int64} (hr2 : r2 = lp (sX8_digest_47 g i3) 8 (0, i4)) : sX8_digest_33 g (i3, i4) = some (i3 + 1, r2.2) := by
  have z9 := hr2.symm
  subst z9
  exact (if_neg c2).trans rfl
theorem tX8_digest_33 (g : tG) (i4z : Int64) : lpE (sX8_digest_33 g) (nn ((g 45 3))) (0, i4z) := by
  refine lpE_up (fun σ => σ.1) ((g 45 3)) ?_ _ _ (nn_le _)
  intro σ τ h9
  obtain ⟨i3, i4⟩ := σ
  by_cases c2 : (g 45 3) ≤ i3
  · have hs := eX8_digest_33_1 g i3 i4 c2
    rw [hs] at h9
    cases h9
  · obtain ⟨r2, hr2⟩ : ∃ z : Int32 × Int64, z = lp (sX8_digest_47 g i3) 8 (0, i4) := ⟨_, rfl⟩
    have hs := eX8_digest_33_2 g i3 i4 c2 hr2
    rw [hs] at h9
    have e9 := Option.some.inj h9
    subst e9
    exact ⟨not_le32 c2, rfl⟩
def sX8_digest_83 : (Int32 × Int64 × tG) → Option (Int32 × Int64 × tG) := fun σ =>
  if (σ.2.2 45 3) ≤ σ.1 then
    none
  else
    if (fX0_isPerson_r σ.2.2 σ.1) = 0 then
      some (σ.1 + 1, σ.2.1, σ.2.2)
    else
      let g2 : tG := fX8_digestPerson_w σ.2.2 σ.2.1 σ.1
      let v3 : Int64 := fX8_digestPerson_r σ.2.2 σ.2.1 σ.1
      some (σ.1 + 1, v3, g2)
set_option maxRecDepth 20000 in
theorem eX8_digest_83_1 (i7 : Int32) (i8 : Int64) (g1 : tG) (c4 : (g1 45 3) ≤ i7) : sX8_digest_83 (i7, i8, g1) = none := by
  exact (if_pos c4).trans rfl
set_option maxRecDepth 20000 in
theorem eX8_digest_83_2 (i7 : Int32) (i8 : Int64) (g1 : tG) (c4 : ¬ ((g1 45 3) ≤ i7)) (c5 : (fX0_isPerson_r g1 i7) = 0) : sX8_digest_83 (i7, i8, g1) = some (i7 + 1, i8, g1) := by
  exact (if_neg c4).trans ((if_pos c5).trans rfl)
set_option maxRecDepth 20000 in
theorem eX8_digest_83_3 (i7 : Int32) (i8 : Int64) (g1 : tG) (c4 : ¬ ((g1 45 3) ≤ i7)) (c5 : ¬ ((fX0_isPerson_r g1 i7) = 0)) {g2 : tG} (hg2 : g2 = fX8_digestPerson_w g1 i8 i7) {v3 : Int64} (hv3 : v3 = fX8_digestPerson_r g1 i8 i7) : sX8_digest_83 (i7, i8, g1) = some (i7 + 1, v3, g2) := by
  have z9 := hg2.symm
  subst z9
  have z9 := hv3.symm
  subst z9
  exact (if_neg c4).trans ((if_neg c5).trans rfl)
theorem fj_X8_digest_83 (σ τ : Int32 × Int64 × tG) (j : Nat) (h : j ∉ ([19, 20, 21, 22, 23, 24, 25, 26, 27, 28, 29, 30, 31, 32, 33, 34, 35, 36, 37, 38, 39, 40, 41, 42, 43, 44, 45] : List Nat)) (e : sX8_digest_83 σ = some τ) : τ.2.2 j = σ.2.2 j := by
  obtain ⟨i7, i8, g1⟩ := σ
  by_cases c4 : (g1 45 3) ≤ i7
  · have hs := eX8_digest_83_1 i7 i8 g1 c4
    rw [hs] at e
    cases e
  · by_cases c5 : (fX0_isPerson_r g1 i7) = 0
    · have hs := eX8_digest_83_2 i7 i8 g1 c4 c5
      rw [hs] at e
      have e9 := Option.some.inj e
      subst e9
      exact rfl
    · obtain ⟨g2, hg2⟩ : ∃ z : tG, z = fX8_digestPerson_w g1 i8 i7 := ⟨_, rfl⟩
      obtain ⟨v3, hv3⟩ : ∃ z : Int64, z = fX8_digestPerson_r g1 i8 i7 := ⟨_, rfl⟩
      have qg2 : g2 j = g1 j := by rw [hg2]; exact fjX8_digestPerson g1 i8 i7 j (fun hm => h (sub9 (a := [19, 20, 21, 22, 23, 24, 25, 26, 27, 28, 29, 30, 31, 32, 33, 34, 35, 36, 37, 38, 39, 40, 41, 42, 43, 44, 45]) (b := [19, 20, 21, 22, 23, 24, 25, 26, 27, 28, 29, 30, 31, 32, 33, 34, 35, 36, 37, 38, 39, 40, 41, 42, 43, 44, 45]) (by decide) hm))
      have hs := eX8_digest_83_3 i7 i8 g1 c4 c5 hg2 hv3
      rw [hs] at e
      have e9 := Option.some.inj e
      subst e9
      exact qg2
theorem fjX8_digest_83 (n : Nat) (σ : Int32 × Int64 × tG) (j : Nat) (h : j ∉ ([19, 20, 21, 22, 23, 24, 25, 26, 27, 28, 29, 30, 31, 32, 33, 34, 35, 36, 37, 38, 39, 40, 41, 42, 43, 44, 45] : List Nat)) : ((lp (sX8_digest_83) n σ).2.2) j = σ.2.2 j :=
  lp_inv (fun τ => τ.2.2 j = σ.2.2 j) (fun a b e9 h9 => (fj_X8_digest_83 a b j h e9).trans h9) n σ rfl
theorem fk_X8_digest_83 (σ τ : Int32 × Int64 × tG) (k : Nat) (h : k ∉ ([7, 8, 9] : List Nat)) (e : sX8_digest_83 σ = some τ) : τ.2.2 45 k = σ.2.2 45 k := by
  obtain ⟨i7, i8, g1⟩ := σ
  by_cases c4 : (g1 45 3) ≤ i7
  · have hs := eX8_digest_83_1 i7 i8 g1 c4
    rw [hs] at e
    cases e
  · by_cases c5 : (fX0_isPerson_r g1 i7) = 0
    · have hs := eX8_digest_83_2 i7 i8 g1 c4 c5
      rw [hs] at e
      have e9 := Option.some.inj e
      subst e9
      exact rfl
    · obtain ⟨g2, hg2⟩ : ∃ z : tG, z = fX8_digestPerson_w g1 i8 i7 := ⟨_, rfl⟩
      obtain ⟨v3, hv3⟩ : ∃ z : Int64, z = fX8_digestPerson_r g1 i8 i7 := ⟨_, rfl⟩
      have qg2 : g2 45 k = g1 45 k := by rw [hg2]; exact fiX8_digestPerson g1 i8 i7 k (fun hm => h (sub9 (a := [7, 8, 9]) (b := [7, 8, 9]) (by decide) hm))
      have hs := eX8_digest_83_3 i7 i8 g1 c4 c5 hg2 hv3
      rw [hs] at e
      have e9 := Option.some.inj e
      subst e9
      exact qg2
theorem fiX8_digest_83 (n : Nat) (σ : Int32 × Int64 × tG) (k : Nat) (h : k ∉ ([7, 8, 9] : List Nat)) : ((lp (sX8_digest_83) n σ).2.2) 45 k = σ.2.2 45 k :=
  lp_inv (fun τ => τ.2.2 45 k = σ.2.2 45 k) (fun a b e9 h9 => (fk_X8_digest_83 a b k h e9).trans h9) n σ rfl
theorem tX8_digest_83 (i8z : Int64) (g1z : tG) : lpE (sX8_digest_83) (nn ((g1z 45 3))) (0, i8z, g1z) := by
  refine lpE_upI (fun σ => σ.2.2 45 3 = (g1z 45 3)) (fun σ => σ.1) ((g1z 45 3)) ?_ _ _ rfl (nn_le _)
  intro σ τ hI h9
  have qk := fk_X8_digest_83 _ _ 3 (by decide) h9
  obtain ⟨i7, i8, g1⟩ := σ
  by_cases c4 : (g1 45 3) ≤ i7
  · have hs := eX8_digest_83_1 i7 i8 g1 c4
    rw [hs] at h9
    cases h9
  · by_cases c5 : (fX0_isPerson_r g1 i7) = 0
    · have hs := eX8_digest_83_2 i7 i8 g1 c4 c5
      rw [hs] at h9
      have e9 := Option.some.inj h9
      subst e9
      exact ⟨qk.trans hI, lt_eq32 (not_le32 c4) hI, rfl⟩
    · obtain ⟨g2, hg2⟩ : ∃ z : tG, z = fX8_digestPerson_w g1 i8 i7 := ⟨_, rfl⟩
      obtain ⟨v3, hv3⟩ : ∃ z : Int64, z = fX8_digestPerson_r g1 i8 i7 := ⟨_, rfl⟩
      have hs := eX8_digest_83_3 i7 i8 g1 c4 c5 hg2 hv3
      rw [hs] at h9
      have e9 := Option.some.inj h9
      subst e9
      exact ⟨qk.trans hI, lt_eq32 (not_le32 c4) hI, rfl⟩
def fX8_digest_r (g : tG) : Int64 :=
  let r1 : Int32 × Int64 := lp (sX8_digest_6 g) 9 (0, 4806)
  let r3 : Int32 × Int64 := lp (sX8_digest_33 g) (nn ((g 45 3))) (0, r1.2)
  let r4 : Int32 × Int64 × tG := lp (sX8_digest_83) (nn ((g 45 3))) (0, r3.2, g)
  r4.2.1
def fX8_digest_w (g : tG) : tG :=
  let r1 : Int32 × Int64 := lp (sX8_digest_6 g) 9 (0, 4806)
  let r3 : Int32 × Int64 := lp (sX8_digest_33 g) (nn ((g 45 3))) (0, r1.2)
  let r4 : Int32 × Int64 × tG := lp (sX8_digest_83) (nn ((g 45 3))) (0, r3.2, g)
  r4.2.2
set_option maxRecDepth 20000 in
theorem eX8_digest_r1 (g : tG) {r1 : Int32 × Int64} (hr1 : r1 = lp (sX8_digest_6 g) 9 (0, 4806)) {r3 : Int32 × Int64} (hr3 : r3 = lp (sX8_digest_33 g) (nn ((g 45 3))) (0, r1.2)) {r4 : Int32 × Int64 × tG} (hr4 : r4 = lp (sX8_digest_83) (nn ((g 45 3))) (0, r3.2, g)) : fX8_digest_r g = r4.2.1 := by
  have z9 := hr1.symm
  subst z9
  have z9 := hr3.symm
  subst z9
  have z9 := hr4.symm
  subst z9
  exact rfl
set_option maxRecDepth 20000 in
theorem eX8_digest_w1 (g : tG) {r1 : Int32 × Int64} (hr1 : r1 = lp (sX8_digest_6 g) 9 (0, 4806)) {r3 : Int32 × Int64} (hr3 : r3 = lp (sX8_digest_33 g) (nn ((g 45 3))) (0, r1.2)) {r4 : Int32 × Int64 × tG} (hr4 : r4 = lp (sX8_digest_83) (nn ((g 45 3))) (0, r3.2, g)) : fX8_digest_w g = r4.2.2 := by
  have z9 := hr1.symm
  subst z9
  have z9 := hr3.symm
  subst z9
  have z9 := hr4.symm
  subst z9
  exact rfl
theorem fjX8_digest (g : tG) (j : Nat) (h : j ∉ ([19, 20, 21, 22, 23, 24, 25, 26, 27, 28, 29, 30, 31, 32, 33, 34, 35, 36, 37, 38, 39, 40, 41, 42, 43, 44, 45] : List Nat)) : fX8_digest_w g j = g j := by
  obtain ⟨r1, hr1⟩ : ∃ z : Int32 × Int64, z = lp (sX8_digest_6 g) 9 (0, 4806) := ⟨_, rfl⟩
  obtain ⟨r3, hr3⟩ : ∃ z : Int32 × Int64, z = lp (sX8_digest_33 g) (nn ((g 45 3))) (0, r1.2) := ⟨_, rfl⟩
  obtain ⟨r4, hr4⟩ : ∃ z : Int32 × Int64 × tG, z = lp (sX8_digest_83) (nn ((g 45 3))) (0, r3.2, g) := ⟨_, rfl⟩
  have qr4 : r4.2.2 j = g j := by rw [hr4]; exact fjX8_digest_83 _ _ j (fun hm => h (sub9 (a := [19, 20, 21, 22, 23, 24, 25, 26, 27, 28, 29, 30, 31, 32, 33, 34, 35, 36, 37, 38, 39, 40, 41, 42, 43, 44, 45]) (b := [19, 20, 21, 22, 23, 24, 25, 26, 27, 28, 29, 30, 31, 32, 33, 34, 35, 36, 37, 38, 39, 40, 41, 42, 43, 44, 45]) (by decide) hm))
  have hs := eX8_digest_w1 g hr1 hr3 hr4
  rw [hs]
  exact qr4
theorem fiX8_digest (g : tG) (k : Nat) (h : k ∉ ([7, 8, 9] : List Nat)) : fX8_digest_w g 45 k = g 45 k := by
  obtain ⟨r1, hr1⟩ : ∃ z : Int32 × Int64, z = lp (sX8_digest_6 g) 9 (0, 4806) := ⟨_, rfl⟩
  obtain ⟨r3, hr3⟩ : ∃ z : Int32 × Int64, z = lp (sX8_digest_33 g) (nn ((g 45 3))) (0, r1.2) := ⟨_, rfl⟩
  obtain ⟨r4, hr4⟩ : ∃ z : Int32 × Int64 × tG, z = lp (sX8_digest_83) (nn ((g 45 3))) (0, r3.2, g) := ⟨_, rfl⟩
  have qr4 : r4.2.2 45 k = g 45 k := by rw [hr4]; exact fiX8_digest_83 _ _ k (fun hm => h (sub9 (a := [7, 8, 9]) (b := [7, 8, 9]) (by decide) hm))
  have hs := eX8_digest_w1 g hr1 hr3 hr4
  rw [hs]
  exact qr4
