/-! what found tells -/
def r9 (k : Nat) : Nat → Int32 := fun i => if i < k then nI i else tc_0 9 i
theorem r9_s (k : Nat) : upd (r9 k) k (nI k) = r9 (k + 1) := by
  funext i
  unfold r9
  by_cases c : i = k
  · subst c
    rw [upd_s, if_pos (Nat.lt_succ_self i)]
  · rw [upd_n c]
    by_cases c2 : i < k
    · rw [if_pos c2, if_pos (by omega)]
    · rw [if_neg c2, if_neg (by omega)]
def TOK (g : tG) (i : Nat) : Prop := in_R (g 3 i) 0 27 ∧ in_R (g 4 i) 1 9 ∧ in_R (g 5 i) 0 5 ∧ in_R (g 6 i) 1 50 ∧ in_R (g 7 i) 1 200
def ZON (g : tG) : Prop := (∀ k, k < 10 → ∃ z, 1 ≤ z ∧ z ≤ 4 ∧ g 0 k = nI z) ∧ ∀ k, 10 ≤ k → g 0 k = tc_0 0 k
def TARS (g : tG) (nf : Nat) : Prop := (∀ i, 1 ≤ i → i < nf → TOK g i) ∧ ∀ w, w < 5 → ∀ i, (i = 0 ∨ nf ≤ i) → g (3 + w) i = tc_0 (3 + w) i
/-- so many cards and tariffs are told -/
def STG (g : tG) (k nf : Nat) : Prop := g 45 3 = nI k ∧ g 45 2 = nI nf ∧ g 45 0 = 0 ∧ g 45 4 = 0 ∧ (∀ w, w < 4 → g 44 (5 * w) = 0) ∧ (∀ j, j < 4 → g 10 j = 0) ∧ ZON g ∧ TARS g nf ∧ g 9 = r9 k
theorem STG_0 : STG tc_0 0 1 := by
  refine ⟨rfl, rfl, rfl, rfl, fun w _ => rfl, fun j _ => rfl, ⟨fun k hk => ⟨1, by decide, by decide, ?_⟩, fun _ _ => rfl⟩, ⟨fun i h1 h2 => absurd h2 (by omega), fun _ _ _ _ => rfl⟩, ?_⟩
  · show rw_fill (fun _ => 0) 10 1 k = nI 1
    unfold rw_fill
    exact if_pos hk
  · funext i
    exact (if_neg (Nat.not_lt_zero i)).symm
theorem card_step {g : tG} {k nf : Nat} (h : STG g k nf) (hk : k < 4) : fX8_card_r g = nI k ∧ STG (fX8_card_w g) (k + 1) nf ∧ ∀ j, j ≠ 9 → j ≠ 45 → fX8_card_w g j = g j := by
  obtain ⟨h1, h2, h3, h4, h5, h6, h7, h8, h9⟩ := h
  have ej : ∀ j, j ≠ 9 → j ≠ 45 → fX8_card_w g j = g j := fun j c1 c2 => fjX8_card g j (fun hm => by
    rcases List.mem_cons.mp hm with q | q
    · exact c1 q
    · exact c2 (List.mem_singleton.mp q))
  have ei : ∀ q, q ≠ 3 → fX8_card_w g 45 q = g 45 q := fun q c => fiX8_card g q (fun hm => c (List.mem_singleton.mp hm))
  have ew : fX8_card_w g = tc_sc (gP g 9 (g 45 3) (g 45 3)) 3 ((gP g 9 (g 45 3) (g 45 3)) 45 3 + 1) := rfl
  refine ⟨h1, ⟨?_, ?_, ?_, ?_, fun w hw => ?_, fun j hj => ?_, ⟨fun i hi => ?_, fun i hi => ?_⟩, ⟨fun i i1 i2 => ?_, fun w hw i hi => ?_⟩, ?_⟩, ej⟩
  · rw [ew, sc_at, gP_ne (by decide), h1, nI_1]
  · rw [ei 2 (by decide)]; exact h2
  · rw [ei 0 (by decide)]; exact h3
  · rw [ei 4 (by decide)]; exact h4
  · rw [ej 44 (by decide) (by decide)]; exact h5 w hw
  · rw [ej 10 (by decide) (by decide)]; exact h6 j hj
  · rw [ej 0 (by decide) (by decide)]; exact h7.1 i hi
  · rw [ej 0 (by decide) (by decide)]; exact h7.2 i hi
  · unfold TOK
    rw [ej 3 (by decide) (by decide), ej 4 (by decide) (by decide), ej 5 (by decide) (by decide), ej 6 (by decide) (by decide), ej 7 (by decide) (by decide)]; exact h8.1 i i1 i2
  · rw [ej (3 + w) (by omega) (by omega)]; exact h8.2 w hw i hi
  · rw [ew, sc_nj (by decide), h1, gP_at (j := 9) hk (by decide), h9]; exact r9_s k
theorem zone_step {g : tG} {k nf s z : Nat} (h : STG g k nf) (hs : s < 10) (z1 : 1 ≤ z) (z4 : z ≤ 4) : STG (fX8_zone_w g (nI s) (nI z)) k nf ∧ fX8_zone_w g (nI s) (nI z) 0 = upd (g 0) s (nI z) ∧ ∀ j, j ≠ 0 → fX8_zone_w g (nI s) (nI z) j = g j := by
  obtain ⟨h1, h2, h3, h4, h5, h6, h7, h8, h9⟩ := h
  have e0 : fX8_zone_w g (nI s) (nI z) 0 = upd (g 0) s (nI z) := gP_at (j := 0) hs (by decide)
  have ej : ∀ j, j ≠ 0 → fX8_zone_w g (nI s) (nI z) j = g j := fun j hj => gP_ne hj
  refine ⟨⟨?_, ?_, ?_, ?_, fun w hw => ?_, fun j hj => ?_, ⟨fun i hi => ?_, fun i hi => ?_⟩, ⟨fun i i1 i2 => ?_, fun w hw i hi => ?_⟩, ?_⟩, e0, ej⟩
  · rw [ej 45 (by decide)]; exact h1
  · rw [ej 45 (by decide)]; exact h2
  · rw [ej 45 (by decide)]; exact h3
  · rw [ej 45 (by decide)]; exact h4
  · rw [ej 44 (by decide)]; exact h5 w hw
  · rw [ej 10 (by decide)]; exact h6 j hj
  · rw [e0]
    by_cases c : i = s
    · exact ⟨z, z1, z4, by rw [c, upd_s]⟩
    · rw [upd_n c]; exact h7.1 i hi
  · rw [e0, upd_n (by omega)]; exact h7.2 i hi
  · unfold TOK
    rw [ej 3 (by decide), ej 4 (by decide), ej 5 (by decide), ej 6 (by decide), ej 7 (by decide)]; exact h8.1 i i1 i2
  · rw [ej (3 + w) (by omega)]; exact h8.2 w hw i hi
  · rw [ej 9 (by decide)]; exact h9
theorem tar_stg {g : tG} {k nf : Nat} {x0 x1 x2 x3 x4 : Int32} (h : STG g k nf) (hn : nf < 6) (hn1 : 1 ≤ nf) (c0 : in_R x0 0 27) (c1 : in_R x1 1 9) (c2 : in_R x2 0 5) (c3 : in_R x3 1 50) (c4 : in_R x4 1 200) : STG (fX8_tariff_w g x0 x1 x2 x3 x4) k (nf + 1) := by
  obtain ⟨h1, h2, h3, h4, h5, h6, h7, h8, h9⟩ := h
  obtain ⟨-, t2, t3, t4, t5⟩ := tar_step h2 hn x0 x1 x2 x3 x4
  have ei : ∀ q, q ≠ 2 → fX8_tariff_w g x0 x1 x2 x3 x4 45 q = g 45 q := fun q c => fiX8_tariff g _ _ _ _ _ q (fun hm => c (List.mem_singleton.mp hm))
  have en : ∀ w, w < 5 → fX8_tariff_w g x0 x1 x2 x3 x4 (3 + w) nf = upd (upd (upd (upd (upd (fun _ => 0) 0 x0) 1 x1) 2 x2) 3 x3) 4 x4 w := fun w hw => by
    rw [← t4]; exact (if_pos hw).symm
  refine ⟨?_, t5, ?_, ?_, fun w hw => ?_, fun j hj => ?_, ⟨fun i hi => ?_, fun i hi => ?_⟩, ⟨fun i i1 i2 => ?_, fun w hw i hi => ?_⟩, ?_⟩
  · rw [ei 3 (by decide)]; exact h1
  · rw [ei 0 (by decide)]; exact h3
  · rw [ei 4 (by decide)]; exact h4
  · rw [t2 44 (by decide) (by decide)]; exact h5 w hw
  · rw [t2 10 (by decide) (by decide)]; exact h6 j hj
  · rw [t2 0 (by decide) (by decide)]; exact h7.1 i hi
  · rw [t2 0 (by decide) (by decide)]; exact h7.2 i hi
  · by_cases c : i = nf
    · subst c
      have n0 : fX8_tariff_w g x0 x1 x2 x3 x4 3 i = x0 := en 0 (by decide)
      have n1 : fX8_tariff_w g x0 x1 x2 x3 x4 4 i = x1 := en 1 (by decide)
      have n2 : fX8_tariff_w g x0 x1 x2 x3 x4 5 i = x2 := en 2 (by decide)
      have n3 : fX8_tariff_w g x0 x1 x2 x3 x4 6 i = x3 := en 3 (by decide)
      have n4 : fX8_tariff_w g x0 x1 x2 x3 x4 7 i = x4 := en 4 (by decide)
      unfold TOK
      rw [n0, n1, n2, n3, n4]
      exact ⟨c0, c1, c2, c3, c4⟩
    · have n0 : fX8_tariff_w g x0 x1 x2 x3 x4 3 i = g 3 i := t3 0 (by decide) i c
      have n1 : fX8_tariff_w g x0 x1 x2 x3 x4 4 i = g 4 i := t3 1 (by decide) i c
      have n2 : fX8_tariff_w g x0 x1 x2 x3 x4 5 i = g 5 i := t3 2 (by decide) i c
      have n3 : fX8_tariff_w g x0 x1 x2 x3 x4 6 i = g 6 i := t3 3 (by decide) i c
      have n4 : fX8_tariff_w g x0 x1 x2 x3 x4 7 i = g 7 i := t3 4 (by decide) i c
      unfold TOK
      rw [n0, n1, n2, n3, n4]
      exact h8.1 i i1 (by omega)
  · rw [t3 w hw i (by omega)]; exact h8.2 w hw i (by omega)
  · rw [t2 9 (by decide) (by decide)]; exact h9
theorem STG.rgn {g : tG} {nf : Nat} (h : STG g 3 nf) : RGN g 0 := by
  obtain ⟨h1, h2, h3, h4, h5, h6, h7, h8, h9⟩ := h
  refine ⟨⟨h4, by decide, fun a ha => absurd ha (Nat.not_lt_zero a), h1, by decide, h5⟩, fun k hk => ⟨?_, h6 k (by omega)⟩, fun a ha => absurd ha (Nat.not_lt_zero a), fun a b ha => absurd ha (Nat.not_lt_zero a)⟩
  rw [h9]
  exact if_pos hk
/-- what is told of stops and prices, and that no day is closed -/
def TLD (g : tG) (nf : Nat) : Prop := g 45 0 = 0 ∧ g 45 2 = nI nf ∧ ZON g ∧ TARS g nf ∧ g 9 = r9 3
theorem STG.tld {g : tG} {nf : Nat} (h : STG g 3 nf) : TLD g nf := ⟨h.2.2.1, h.2.1, h.2.2.2.2.2.2.1, h.2.2.2.2.2.2.2.1, h.2.2.2.2.2.2.2.2⟩
theorem TLD.stay {g h : tG} {nf n : Nat} (t : TLD g nf) (s : STAY g h n) : TLD h nf := by
  obtain ⟨t1, t2, t3, t4, t5⟩ := t
  have ej := s.1
  refine ⟨by rw [s.2.2 0 (by decide)]; exact t1, by rw [s.2.2 2 (by decide)]; exact t2, ⟨fun i hi => by rw [ej 0 (by decide)]; exact t3.1 i hi, fun i hi => by rw [ej 0 (by decide)]; exact t3.2 i hi⟩, ⟨fun i i1 i2 => ?_, fun w hw i hi => by rw [ej (3 + w) (by omega)]; exact t4.2 w hw i hi⟩, by rw [ej 9 (by decide)]; exact t5⟩
  unfold TOK
  rw [ej 3 (by decide), ej 4 (by decide), ej 5 (by decide), ej 6 (by decide), ej 7 (by decide)]
  exact t4.1 i i1 i2
theorem KEEP.stay {g h : tG} {n : Nat} (k : KEEP g h) : STAY g h n := ⟨fun j hj => k.1 j (by omega), fun j _ h2 a _ => by rw [k.1 j h2], fun q hq => k.2.1 q (by omega)⟩
def zoneF (xs : Nat → Int32) (L : Nat) (τ : tG × Nat) : tG × Nat := (fX8_zone_w τ.1 (nI (dN xs L τ.2 5)) (nI (1 + dN xs L (τ.2 + 1) 4)), τ.2 + 2)
def tarF (xs : Nat → Int32) (L m : Nat) (τ : tG × Nat) : tG × Nat := (fX8_tariff_w τ.1 (nI (dN xs L τ.2 m)) (nI (1 + dN xs L (τ.2 + 1) 4)) (nI (dN xs L (τ.2 + 2) 4)) (nI (3 + dN xs L (τ.2 + 3) 12)) (nI (10 + dN xs L (τ.2 + 4) 40)), τ.2 + 5)
def cd3 : tG := fX8_card_w (fX8_card_w (fX8_card_w tc_0))
theorem cd3_ok : STG cd3 3 1 := (card_step (card_step (card_step STG_0 (by decide)).2.1 (by decide)).2.1 (by decide)).2.1
def told0F (xs : Nat → Int32) (L d : Nat) : tG × Nat := tarF xs L 14 (tarF xs L 8 (zoneF xs L (zoneF xs L (zoneF xs L (zoneF xs L (cd3, d))))))
noncomputable def foundF (xs : Nat → Int32) (L d : Nat) : tS := tripsL xs L 6 (((told0F xs L d).1, 0), (told0F xs L d).2)
theorem zoneF_ok (xs : Nat → Int32) (L : Nat) {τ : tG × Nat} {k nf : Nat} (h : STG τ.1 k nf) : STG (zoneF xs L τ).1 k nf ∧ (zoneF xs L τ).2 = τ.2 + 2 := by
  have b0 := (dN_is xs L τ.2 (m := 5) (by decide) (by decide)).2
  have b1 := (dN_is xs L (τ.2 + 1) (m := 4) (by decide) (by decide)).2
  exact ⟨(zone_step h (by omega) (by omega) (by omega)).1, rfl⟩
theorem tar_bnd (xs : Nat → Int32) (L d : Nat) {m : Nat} (hm : 0 < m) (h28 : m ≤ 28) : in_R (nI (dN xs L d m)) 0 27 ∧ in_R (nI (1 + dN xs L (d + 1) 4)) 1 9 ∧ in_R (nI (dN xs L (d + 2) 4)) 0 5 ∧ in_R (nI (3 + dN xs L (d + 3) 12)) 1 50 ∧ in_R (nI (10 + dN xs L (d + 4) 40)) 1 200 := by
  have b0 := (dN_is xs L d (m := m) hm (by omega)).2
  have b1 := (dN_is xs L (d + 1) (m := 4) (by decide) (by decide)).2
  have b2 := (dN_is xs L (d + 2) (m := 4) (by decide) (by decide)).2
  have b3 := (dN_is xs L (d + 3) (m := 12) (by decide) (by decide)).2
  have b4 := (dN_is xs L (d + 4) (m := 40) (by decide) (by decide)).2
  exact ⟨in_RI (a := 0) (b := 27) (by omega) (by omega) (by decide), in_RI (a := 1) (b := 9) (by omega) (by omega) (by decide), in_RI (a := 0) (b := 5) (by omega) (by omega) (by decide), in_RI (a := 1) (b := 50) (by omega) (by omega) (by decide), in_RI (a := 1) (b := 200) (by omega) (by omega) (by decide)⟩
theorem tarF_ok (xs : Nat → Int32) (L : Nat) {m : Nat} (hm : 0 < m) (h28 : m ≤ 28) {τ : tG × Nat} {k nf : Nat} (h : STG τ.1 k nf) (hn : nf < 6) (hn1 : 1 ≤ nf) : STG (tarF xs L m τ).1 k (nf + 1) ∧ (tarF xs L m τ).2 = τ.2 + 5 := by
  obtain ⟨c0, c1, c2, c3, c4⟩ := tar_bnd xs L τ.2 hm h28
  exact ⟨tar_stg h hn hn1 c0 c1 c2 c3 c4, rfl⟩
theorem told0F_ok (xs : Nat → Int32) (L d : Nat) : STG (told0F xs L d).1 3 3 ∧ (told0F xs L d).2 = d + 18 := by
  unfold told0F
  have a1 := zoneF_ok xs L (τ := (cd3, d)) cd3_ok
  have a2 := zoneF_ok xs L a1.1
  have a3 := zoneF_ok xs L a2.1
  have a4 := zoneF_ok xs L a3.1
  have a5 := tarF_ok xs L (m := 8) (by decide) (by decide) a4.1 (by decide) (by decide)
  have a6 := tarF_ok xs L (m := 14) (by decide) (by decide) a5.1 (by decide) (by decide)
  exact ⟨a6.1, by rw [a6.2, a5.2, a4.2, a3.2, a2.2, a1.2]⟩
theorem foundF_ok (xs : Nat → Int32) (L d : Nat) : RGN (foundF xs L d).1.1 (foundF xs L d).1.2 ∧ TLD (foundF xs L d).1.1 3 ∧ (foundF xs L d).2 ≤ d + 234 := by
  obtain ⟨h1, h2⟩ := told0F_ok xs L d
  have q := tripsL_ok xs L 6 (((told0F xs L d).1, 0), (told0F xs L d).2) h1.rgn
  refine ⟨q.1, h1.tld.stay q.2.1, ?_⟩
  have := q.2.2.2
  simp only at this
  unfold foundF
  omega
