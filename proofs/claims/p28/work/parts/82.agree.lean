/-! what a study answers does not go by what stood there before -/
theorem lp_rng {τ : Type} {f f' : Int32 × τ → Option (Int32 × τ)} {N : Nat} (hN : N < 2 ^ 31)
    (h1 : ∀ k t, k < N → f (nI k, t) = f' (nI k, t) ∧ ∀ s, f (nI k, t) = some s → s.1 = nI (k + 1)) (h2 : ∀ t, f (nI N, t) = none) (h3 : ∀ t, f' (nI N, t) = none) (n : Nat) (t : τ) {a : Nat} (ha : a ≤ N) : lp f n (nI a, t) = lp f' n (nI a, t) := by
  refine lp_cong (fun s => ∃ k, k ≤ N ∧ s.1 = nI k) (fun s ⟨k, hk, hs⟩ => ?_) n (nI a, t) ⟨a, ha, rfl⟩
  obtain ⟨i, t⟩ := s
  have hs : i = nI k := hs
  subst hs
  rcases Nat.eq_or_lt_of_le hk with q | q
  · subst q
    exact ⟨by rw [h2, h3], fun s hs => by rw [h2] at hs; cases hs⟩
  · obtain ⟨e, hn⟩ := h1 k t q
    exact ⟨e, fun s hs => ⟨k + 1, by omega, hn s hs⟩⟩
theorem gA_eq {g h : tG} {j k : Nat} (hk : k < tc_len j) (hl : tc_len j < 2 ^ 31) (e : g j k = h j k) : gA g j (nI k) = gA h j (nI k) := by
  rw [gA_nI hk hl, gA_nI hk hl, e]
theorem fares_day {S T : tG} {n1 m1 d : Nat} (hR : ROWS S T n1 m1) (hd : d < 28) (hD : DAY S T n1 m1 d) (z : Int32) : fX2_fares_r S (nI d) z = fX2_fares_r T (nI d) z := by
  obtain ⟨-, h41, -, -, hJ, h34, -⟩ := hR
  obtain ⟨-, -, -, e36, e37, -, f, c, hf, hc, hb⟩ := hD
  have v36 : gA S 36 (nI d) = nI f := by rw [gA_nI (j := 36) hd (by decide)]; exact hf
  have v37 : gA S 37 (nI d) = nI c := by rw [gA_nI (j := 37) hd (by decide)]; exact hc
  have w36 : gA T 36 (nI d) = nI f := by rw [gA_nI (j := 36) hd (by decide), ← e36]; exact hf
  have w37 : gA T 37 (nI d) = nI c := by rw [gA_nI (j := 37) hd (by decide), ← e37]; exact hc
  have hl : lp (sX2_fares_15 S (nI d) z (nI f)) (nn (nI c)) (nI 0, 0) = lp (sX2_fares_15 T (nI d) z (nI f)) (nn (nI c)) (nI 0, 0) := by
    refine lp_rng (N := c) (by omega) (fun k t hk => ?_) (fun t => ?_) (fun t => ?_) _ _ (Nat.zero_le _)
    · have c1 : ¬ nI c ≤ nI k := nI_ge hk (by omega)
      have a33 : gA S 33 (nI (f + k)) = gA T 33 (nI (f + k)) := gA_eq (by show f + k < 41; omega) (by decide) (hJ 3 (by decide) (f + k) (by omega))
      have a34 : gA S 34 (nI (f + k)) = gA T 34 (nI (f + k)) := gA_eq (by show f + k < 41; omega) (by decide) (h34 (f + k) (by omega))
      constructor
      · unfold sX2_fares_15
        simp only [v37, w37, if_neg c1, nI_add, a33, a34]
      · intro s hs
        unfold sX2_fares_15 at hs
        simp only [v37, if_neg c1] at hs
        split at hs
        · have e := Option.some.inj hs; rw [← e]; exact nI_1 k
        · have e := Option.some.inj hs; rw [← e]; exact nI_1 k
    · unfold sX2_fares_15
      simp only [v37]
      rw [if_pos (Int32.le_refl _)]
    · unfold sX2_fares_15
      simp only [w37]
      rw [if_pos (Int32.le_refl _)]
  unfold fX2_fares_r
  simp only [v36, v37, w36, w37]
  exact congrArg (fun q => q.2) hl
theorem guesses_day {S T : tG} {n1 m1 d : Nat} (hR : ROWS S T n1 m1) (hd : d < 28) (hD : DAY S T n1 m1 d) : fX3_guessesOn_r S (nI d) = fX3_guessesOn_r T (nI d) := by
  obtain ⟨h41, -, hL, -⟩ := hR
  obtain ⟨e26, e27, -, -, -, ⟨f, c, hf, hc, hb⟩, -⟩ := hD
  have v26 : gA S 26 (nI d) = nI f := by rw [gA_nI (j := 26) hd (by decide)]; exact hf
  have v27 : gA S 27 (nI d) = nI c := by rw [gA_nI (j := 27) hd (by decide)]; exact hc
  have w26 : gA T 26 (nI d) = nI f := by rw [gA_nI (j := 26) hd (by decide), ← e26]; exact hf
  have w27 : gA T 27 (nI d) = nI c := by rw [gA_nI (j := 27) hd (by decide), ← e27]; exact hc
  have hl : lp (sX3_guessesOn_14 S (nI d) (nI f)) (nn (nI c)) (nI 0, 0) = lp (sX3_guessesOn_14 T (nI d) (nI f)) (nn (nI c)) (nI 0, 0) := by
    refine lp_rng (N := c) (by omega) (fun k t hk => ?_) (fun t => ?_) (fun t => ?_) _ _ (Nat.zero_le _)
    · have c1 : ¬ nI c ≤ nI k := nI_ge hk (by omega)
      have a25 : gA S 25 (nI (f + k)) = gA T 25 (nI (f + k)) := gA_eq (by show f + k < 41; omega) (by decide) (hL 6 (by decide) (f + k) (by omega))
      constructor
      · unfold sX3_guessesOn_14
        simp only [v27, w27, if_neg c1, nI_add, a25]
      · intro s hs
        unfold sX3_guessesOn_14 at hs
        simp only [v27, if_neg c1] at hs
        split at hs
        · have e := Option.some.inj hs; rw [← e]; exact nI_1 k
        · have e := Option.some.inj hs; rw [← e]; exact nI_1 k
    · unfold sX3_guessesOn_14
      simp only [v27]
      rw [if_pos (Int32.le_refl _)]
    · unfold sX3_guessesOn_14
      simp only [w27]
      rw [if_pos (Int32.le_refl _)]
  unfold fX3_guessesOn_r
  simp only [v26, v27, w26, w27]
  exact congrArg (fun q => q.2) hl
theorem legAns {S T : tG} {n1 m1 i : Nat} (hR : ROWS S T n1 m1) (hi : i < n1) (what : Int32) : fX8_legAnswer_r S (nI i) what = fX8_legAnswer_r T (nI i) what := by
  obtain ⟨h41, -, hL, h35, -⟩ := hR
  have a : ∀ r, r < 7 → gA S (19 + r) (nI i) = gA T (19 + r) (nI i) := fun r hr => gA_eq (by rw [len19 r hr]; omega) (by rw [len19 r hr]; decide) (hL r hr i hi)
  have a35 : gA S 35 (nI i) = gA T 35 (nI i) := gA_eq (by show i < 41; omega) (by decide) (h35 i hi)
  unfold fX8_legAnswer_r
  rw [show gA S 20 (nI i) = gA T 20 (nI i) from a 1 (by decide), show gA S 21 (nI i) = gA T 21 (nI i) from a 2 (by decide), show gA S 22 (nI i) = gA T 22 (nI i) from a 3 (by decide), show gA S 23 (nI i) = gA T 23 (nI i) from a 4 (by decide), show gA S 24 (nI i) = gA T 24 (nI i) from a 5 (by decide), show gA S 25 (nI i) = gA T 25 (nI i) from a 6 (by decide), a35]
/-- all that is read of a study is alike -/
def AG (S T : tG) : Prop := (∃ n1 m1, ROWS S T n1 m1 ∧ ∀ d, d < 28 → DAY S T n1 m1 d) ∧ (∀ i, i < 140 → S 43 i = T 43 i) ∧ (∀ i, i < 28 → S 41 i = T 41 i) ∧ (∀ i, i < 20 → S 44 i = T 44 i) ∧ (∀ w, w < 4 → S 42 w = T 42 w) ∧ (∀ j, j < 13 → j ≠ 8 → j ≠ 11 → S j = T j)
theorem AG.a43 {S T : tG} (h : AG S T) (i : Int32) : gA S 43 i = gA T 43 i := gA_congr (by decide) (fun k hk => h.2.1 k hk) i
theorem AG.a41 {S T : tG} (h : AG S T) (i : Int32) : gA S 41 i = gA T 41 i := gA_congr (by decide) (fun k hk => h.2.2.1 k hk) i
theorem AG.a44 {S T : tG} (h : AG S T) (i : Int32) : gA S 44 i = gA T 44 i := gA_congr (by decide) (fun k hk => h.2.2.2.1 k hk) i
theorem AG.a42 {S T : tG} (h : AG S T) (i : Int32) : gA S 42 i = gA T 42 i := gA_congr (by decide) (fun k hk => h.2.2.2.2.1 k hk) i
theorem AG.dayrow {S T : tG} (h : AG S T) (i : Int32) : gA S 26 i = gA T 26 i ∧ gA S 27 i = gA T 27 i ∧ gA S 28 i = gA T 28 i ∧ gA S 36 i = gA T 36 i ∧ gA S 37 i = gA T 37 i := by
  obtain ⟨⟨n1, m1, hR, hD⟩, -⟩ := h
  exact ⟨gA_congr (j := 26) (by decide) (fun k hk => (hD k hk).1) i, gA_congr (j := 27) (by decide) (fun k hk => (hD k hk).2.1) i, gA_congr (j := 28) (by decide) (fun k hk => (hD k hk).2.2.1) i, gA_congr (j := 36) (by decide) (fun k hk => (hD k hk).2.2.2.1) i, gA_congr (j := 37) (by decide) (fun k hk => (hD k hk).2.2.2.2.1) i⟩
theorem AG.upTo {S T : tG} (h : AG S T) (x y z : Int32) : fX1_upTo_r S x y z = fX1_upTo_r T x y z := upTo_congr (fun i => h.a43 i) (h.a44 _)
theorem AG.choice {S T : tG} (h : AG S T) (x y : Int32) : fX1_choiceUpTo_r S x y = fX1_choiceUpTo_r T x y := choice_congr (fun i => h.a43 i) (fun z _ => h.a44 _)
theorem AG.least {S T : tG} (h : AG S T) (x y : Int32) : fX1_leastUpTo_r S x y = fX1_leastUpTo_r T x y := by
  unfold fX1_leastUpTo_r
  rw [h.choice, h.upTo]
theorem lastDay {S T : tG} (x : Int32) : fX1_lastDayOf_r S x = fX1_lastDayOf_r T x := rfl
theorem AG.whole {S T : tG} (h : AG S T) (x : Int32) : fX1_ofWholeWeek_r S x = fX1_ofWholeWeek_r T x := by
  unfold fX1_ofWholeWeek_r
  rw [h.a42, h.upTo, lastDay (S := S) (T := T)]
theorem AG.week {S T : tG} (h : AG S T) (x what : Int32) : fX8_weekAnswer_r S x what = fX8_weekAnswer_r T x what := by
  unfold fX8_weekAnswer_r fX1_ofDaysByThemselves_r
  rw [h.whole, h.a42, h.upTo, lastDay (S := S) (T := T)]
theorem AG.day {S T : tG} (h : AG S T) {d : Nat} (hd : d < 28) (what : Int32) : fX8_dayAnswer_r S (nI d) what = fX8_dayAnswer_r T (nI d) what := by
  obtain ⟨a26, a27, a28, a36, a37⟩ := h.dayrow (nI d)
  obtain ⟨n1, m1, hR, hD⟩ := h.1
  unfold fX8_dayAnswer_r fX1_byItself_r fX1_withinWeek_r
  rw [a28, a27, a37, guesses_day hR hd (hD d hd), fares_day hR hd (hD d hd), h.a43, h.a41, h.a42, h.a43]
theorem partOf_congr {S T : tG} (a b c : Int32) : fX8_partOf_r S a b c = fX8_partOf_r T a b c := rfl
theorem AG.carrier {S T : tG} (h : AG S T) {n1 m1 j : Nat} (hR : ROWS S T n1 m1) (hj : j < m1) (c : Int32) : fX2_legsOfCarrier_r S (nI j) c = fX2_legsOfCarrier_r T (nI j) c := by
  obtain ⟨h41, h41', hL, -, hJ, -, hab⟩ := hR
  obtain ⟨a, b, ha, hb, hlen⟩ := hab j hj
  have v39 : gA S 39 (nI j) = nI a := by rw [gA_nI (j := 39) (by show j < 41; omega) (by decide)]; exact ha
  have v32 : gA S 32 (nI j) = nI b := by rw [gA_nI (j := 32) (by show j < 41; omega) (by decide)]; exact hb
  have w39 : gA T 39 (nI j) = nI a := by rw [gA_nI (j := 39) (by show j < 41; omega) (by decide), ← (show S 39 j = T 39 j from hJ 1 (by decide) j hj)]; exact ha
  have w32 : gA T 32 (nI j) = nI b := by rw [gA_nI (j := 32) (by show j < 41; omega) (by decide), ← (show S 32 j = T 32 j from hJ 2 (by decide) j hj)]; exact hb
  have e1 : ∀ i, gA S 1 i = gA T 1 i := fun i => gA_row (h.2.2.2.2.2 1 (by decide) (by decide) (by decide)) i
  have hl : lp (sX2_legsOfCarrier_16 S (nI j) c (nI a)) (nn (nI b)) (nI 0, 0) = lp (sX2_legsOfCarrier_16 T (nI j) c (nI a)) (nn (nI b)) (nI 0, 0) := by
    refine lp_rng (N := b) (by omega) (fun k t hk => ?_) (fun t => ?_) (fun t => ?_) _ _ (Nat.zero_le _)
    · have c1 : ¬ nI b ≤ nI k := nI_ge hk (by omega)
      have a24 : gA S 24 (nI (a + k)) = gA T 24 (nI (a + k)) := gA_eq (by show a + k < 41; omega) (by decide) (hL 5 (by decide) (a + k) (by omega))
      constructor
      · unfold sX2_legsOfCarrier_16
        simp only [v32, w32, if_neg c1, nI_add, a24, e1]
      · intro s hs
        unfold sX2_legsOfCarrier_16 at hs
        simp only [v32, if_neg c1] at hs
        split at hs
        · have e := Option.some.inj hs; rw [← e]; exact nI_1 k
        · have e := Option.some.inj hs; rw [← e]; exact nI_1 k
    · unfold sX2_legsOfCarrier_16
      simp only [v32]
      rw [if_pos (Int32.le_refl _)]
    · unfold sX2_legsOfCarrier_16
      simp only [w32]
      rw [if_pos (Int32.le_refl _)]
  unfold fX2_legsOfCarrier_r
  simp only [v39, v32, w39, w32]
  exact congrArg (fun q => q.2) hl
theorem AG.weight {S T : tG} (h : AG S T) {d : Nat} (hd : d < 28) (c : Int32) : fX8_weightOf_r S c (nI d) = fX8_weightOf_r T c (nI d) := by
  obtain ⟨n1, m1, hR, hD⟩ := h.1
  obtain ⟨-, -, -, e36, e37, -, f, c', hf, hc, hb⟩ := hD d hd
  have h41 := hR.2.1
  have v36 : gA S 36 (nI d) = nI f := by rw [gA_nI (j := 36) hd (by decide)]; exact hf
  have v37 : gA S 37 (nI d) = nI c' := by rw [gA_nI (j := 37) hd (by decide)]; exact hc
  have w36 : gA T 36 (nI d) = nI f := by rw [gA_nI (j := 36) hd (by decide), ← e36]; exact hf
  have w37 : gA T 37 (nI d) = nI c' := by rw [gA_nI (j := 37) hd (by decide), ← e37]; exact hc
  have hl : lp (sX8_weightOf_18 S c (nI d) (nI f)) (nn (nI c')) (nI 0, 0) = lp (sX8_weightOf_18 T c (nI d) (nI f)) (nn (nI c')) (nI 0, 0) := by
    refine lp_rng (N := c') (by omega) (fun k t hk => ?_) (fun t => ?_) (fun t => ?_) _ _ (Nat.zero_le _)
    · have c1 : ¬ nI c' ≤ nI k := nI_ge hk (by omega)
      have a34 : gA S 34 (nI (f + k)) = gA T 34 (nI (f + k)) := gA_eq (by show f + k < 41; omega) (by decide) (hR.2.2.2.2.2.1 (f + k) (by omega))
      have a32 : gA S 32 (nI (f + k)) = gA T 32 (nI (f + k)) := gA_eq (by show f + k < 41; omega) (by decide) (hR.2.2.2.2.1 2 (by decide) (f + k) (by omega))
      have ac : fX2_legsOfCarrier_r S (nI (f + k)) c = fX2_legsOfCarrier_r T (nI (f + k)) c := h.carrier hR (by omega) c
      constructor
      · unfold sX8_weightOf_18
        simp only [v37, w37, if_neg c1, nI_add, a34, a32, ac]
        rfl
      · intro s hs
        unfold sX8_weightOf_18 at hs
        simp only [v37, if_neg c1] at hs
        have e := Option.some.inj hs; rw [← e]; exact nI_1 k
    · unfold sX8_weightOf_18
      simp only [v37]
      rw [if_pos (Int32.le_refl _)]
    · unfold sX8_weightOf_18
      simp only [w37]
      rw [if_pos (Int32.le_refl _)]
  unfold fX8_weightOf_r
  simp only [v36, v37, w36, w37]
  exact congrArg (fun q => q.2) hl
theorem AG.share {S T : tG} (h : AG S T) {d : Nat} (hd : d < 28) (c : Int32) : fX8_shareAnswer_r S c (nI d) = fX8_shareAnswer_r T c (nI d) := by
  obtain ⟨a26, a27, -, -, -⟩ := h.dayrow (nI d)
  obtain ⟨n1, m1, hR, hD⟩ := h.1
  obtain ⟨-, -, -, -, -, ⟨f, c', hf, hc, hb⟩, -⟩ := hD d hd
  have h41 := hR.1
  have v26 : gA S 26 (nI d) = nI f := by rw [gA_nI (j := 26) hd (by decide)]; exact hf
  have v27 : gA S 27 (nI d) = nI c' := by rw [gA_nI (j := 27) hd (by decide)]; exact hc
  have eb : fX1_byItself_r S (nI d) = fX1_byItself_r T (nI d) := by unfold fX1_byItself_r; exact h.a43 _
  have e31 : sX8_shareAnswer_31 S (nI d) = sX8_shareAnswer_31 T (nI d) := by
    funext σ
    unfold sX8_shareAnswer_31
    simp only [h.weight hd]
  have e109 : ∀ v r, sX8_shareAnswer_109 S c (nI d) v r = sX8_shareAnswer_109 T c (nI d) v r := by
    intro v r
    funext σ
    unfold sX8_shareAnswer_109
    simp only [h.weight hd, partOf_congr (S := S) (T := T)]
  unfold fX8_shareAnswer_r
  rw [← a27]
  by_cases c0 : gA S 27 (nI d) = 0
  · rw [if_pos c0, if_pos c0]
  · rw [if_neg c0, if_neg c0]
    have hc0 : 0 < c' := by
      rcases Nat.eq_zero_or_pos c' with e | e
      · subst e
        exact absurd v27 c0
      · exact e
    have a24 : gA S 24 (nI f) = gA T 24 (nI f) := gA_eq (by show f < 41; omega) (by decide) (hR.2.2.1 5 (by decide) f (by omega))
    have e1 : ∀ i, gA S 1 i = gA T 1 i := fun i => gA_row (h.2.2.2.2.2 1 (by decide) (by decide) (by decide)) i
    simp only [eb, e31, e109, ← a26, v26, a24, e1, h.weight hd, partOf_congr (S := S) (T := T)]
theorem AG.ddig {S T : tG} (h : AG S T) {d : Nat} (hd : d < 28) (x : Int64) : fX8_digestDay_r S x (nI d) = fX8_digestDay_r T x (nI d) := by
  obtain ⟨a26, a27, a28, -, -⟩ := h.dayrow (nI d)
  obtain ⟨n1, m1, hR, hD⟩ := h.1
  obtain ⟨-, -, -, -, -, ⟨f, c', hf, hc, hb⟩, -⟩ := hD d hd
  have h41 := hR.1
  have v26 : gA S 26 (nI d) = nI f := by rw [gA_nI (j := 26) hd (by decide)]; exact hf
  have v27 : gA S 27 (nI d) = nI c' := by rw [gA_nI (j := 27) hd (by decide)]; exact hc
  have w27 : gA T 27 (nI d) = nI c' := by rw [← a27]; exact v27
  have e6 : sX8_digestDay_6 S (nI d) = sX8_digestDay_6 T (nI d) := by
    funext σ
    unfold sX8_digestDay_6
    simp only [h.day hd]
  have e56 : sX8_digestDay_56 S (nI d) = sX8_digestDay_56 T (nI d) := by
    funext σ
    unfold sX8_digestDay_56
    simp only [h.share hd]
  have e120 : ∀ k, k < c' → sX8_digestDay_120 S (nI f) (nI k) = sX8_digestDay_120 T (nI f) (nI k) := by
    intro k hk
    funext σ
    unfold sX8_digestDay_120
    simp only [nI_add, legAns hR (show f + k < n1 by omega)]
  have hl : ∀ y : Int64, lp (sX8_digestDay_101 S (nI d) (nI f)) (nn (nI c')) (nI 0, y) = lp (sX8_digestDay_101 T (nI d) (nI f)) (nn (nI c')) (nI 0, y) := by
    intro y
    refine lp_rng (N := c') (by omega) (fun k t hk => ?_) (fun t => ?_) (fun t => ?_) _ _ (Nat.zero_le _)
    · have c1 : ¬ nI c' ≤ nI k := nI_ge hk (by omega)
      constructor
      · unfold sX8_digestDay_101
        simp only [v27, w27, if_neg c1, e120 k hk]
      · intro s hs
        unfold sX8_digestDay_101 at hs
        simp only [v27, if_neg c1] at hs
        have e := Option.some.inj hs; rw [← e]; exact nI_1 k
    · unfold sX8_digestDay_101
      simp only [v27]
      rw [if_pos (Int32.le_refl _)]
    · unfold sX8_digestDay_101
      simp only [w27]
      rw [if_pos (Int32.le_refl _)]
  unfold fX8_digestDay_r
  simp only [e6, e56, ← a28, ← a26, v26, v27, w27]
  split
  · rfl
  · exact congrArg (fun q => q.2) (hl _)
