/-! a tap more: what it writes, what it would cost, whose guess it gets -/
theorem write_rows {g : tG} {n : Nat} (hn : n ≤ 40) (c s l i d m : Int32) :
    fX6_write_w g (nI n) c s l i d m 13 = upd (g 13) n c ∧ fX6_write_w g (nI n) c s l i d m 14 = upd (g 14) n s ∧ fX6_write_w g (nI n) c s l i d m 15 = upd (g 15) n l ∧ fX6_write_w g (nI n) c s l i d m 16 = upd (g 16) n (if i = 0 then 0 else 1) ∧ fX6_write_w g (nI n) c s l i d m 17 = upd (g 17) n d ∧ fX6_write_w g (nI n) c s l i d m 18 = upd (g 18) n m := by
  have h41 : n < 41 := by omega
  unfold fX6_write_w
  by_cases c0 : i = 0
  · simp only [if_pos c0]
    refine ⟨?_, ?_, ?_, ?_, ?_, ?_⟩
    · rw [gP_ne (by decide), gP_ne (by decide), gP_ne (by decide), gP_ne (by decide), gP_ne (by decide), gP_at (by exact h41) (by decide)]
    · rw [gP_ne (by decide), gP_ne (by decide), gP_ne (by decide), gP_ne (by decide), gP_at (by exact h41) (by decide), gP_ne (by decide)]
    · rw [gP_ne (by decide), gP_ne (by decide), gP_ne (by decide), gP_at (by exact h41) (by decide), gP_ne (by decide), gP_ne (by decide)]
    · rw [gP_ne (by decide), gP_ne (by decide), gP_at (by exact h41) (by decide), gP_ne (by decide), gP_ne (by decide), gP_ne (by decide)]
    · rw [gP_ne (by decide), gP_at (by exact h41) (by decide), gP_ne (by decide), gP_ne (by decide), gP_ne (by decide), gP_ne (by decide)]
    · rw [gP_at (by exact h41) (by decide), gP_ne (by decide), gP_ne (by decide), gP_ne (by decide), gP_ne (by decide), gP_ne (by decide)]
  · simp only [if_neg c0]
    refine ⟨?_, ?_, ?_, ?_, ?_, ?_⟩
    · rw [gP_ne (by decide), gP_ne (by decide), gP_ne (by decide), gP_ne (by decide), gP_ne (by decide), gP_at (by exact h41) (by decide)]
    · rw [gP_ne (by decide), gP_ne (by decide), gP_ne (by decide), gP_ne (by decide), gP_at (by exact h41) (by decide), gP_ne (by decide)]
    · rw [gP_ne (by decide), gP_ne (by decide), gP_ne (by decide), gP_at (by exact h41) (by decide), gP_ne (by decide), gP_ne (by decide)]
    · rw [gP_ne (by decide), gP_ne (by decide), gP_at (by exact h41) (by decide), gP_ne (by decide), gP_ne (by decide), gP_ne (by decide)]
    · rw [gP_ne (by decide), gP_at (by exact h41) (by decide), gP_ne (by decide), gP_ne (by decide), gP_ne (by decide), gP_ne (by decide)]
    · rw [gP_at (by exact h41) (by decide), gP_ne (by decide), gP_ne (by decide), gP_ne (by decide), gP_ne (by decide), gP_ne (by decide)]
/-- a tap's values, by the rows from 13 on -/
def tv6 (c s l i d m : Int32) : Nat → Int32 := fun j => match j with
  | 13 => c
  | 14 => s
  | 15 => l
  | 16 => if i = 0 then 0 else 1
  | 17 => d
  | _ => m
theorem write_row {g : tG} {n : Nat} (hn : n ≤ 40) (c s l i d m : Int32) : ∀ j, j < 19 → 13 ≤ j → fX6_write_w g (nI n) c s l i d m j = upd (g j) n (tv6 c s l i d m j) := by
  obtain ⟨h1, h2, h3, h4, h5, h6⟩ := write_rows (g := g) hn c s l i d m
  intro j j1 j2
  have : j = 13 ∨ j = 14 ∨ j = 15 ∨ j = 16 ∨ j = 17 ∨ j = 18 := by omega
  rcases this with e | e | e | e | e | e <;> subst e
  · exact h1
  · exact h2
  · exact h3
  · exact h4
  · exact h5
  · exact h6
theorem write_other {g : tG} (n c s l i d m : Int32) {j : Nat} (h : j < 13 ∨ 18 < j) : fX6_write_w g n c s l i d m j = g j := fjX6_write g n c s l i d m j (fun hm => by
  have : j = 13 ∨ j = 14 ∨ j = 15 ∨ j = 16 ∨ j = 17 ∨ j = 18 := by simpa using hm
  omega)
/-- a tap that is kept -/
def tapK (g : tG) (n : Nat) (c s l i d m : Int32) : tG := tc_sc (fX6_write_w g (nI n) c s l i d m) 4 (nI (n + 1))
theorem tapK_row {g : tG} {n : Nat} (hn : n ≤ 40) (c s l i d m : Int32) : ∀ j, j < 19 → 13 ≤ j → tapK g n c s l i d m j = upd (g j) n (tv6 c s l i d m j) := fun j j1 j2 => by
  unfold tapK
  rw [sc_nj (by omega)]
  exact write_row hn c s l i d m j j1 j2
theorem tapK_other {g : tG} (n : Nat) (c s l i d m : Int32) {j : Nat} (h : j < 13 ∨ 18 < j) (h45 : j ≠ 45) : tapK g n c s l i d m j = g j := by
  unfold tapK
  rw [sc_nj h45]
  exact write_other _ _ _ _ _ _ _ h
theorem tapK_int {g : tG} (n : Nat) (c s l i d m : Int32) {k : Nat} (h : k ≠ 4) : tapK g n c s l i d m 45 k = g 45 k := by
  unfold tapK
  rw [sc_nk h, write_other _ _ _ _ _ _ _ (Or.inr (by decide))]
theorem tapK_4 {g : tG} (n : Nat) (c s l i d m : Int32) : tapK g n c s l i d m 45 4 = nI (n + 1) := sc_at
theorem tapK_val {g : tG} {n c0 : Nat} (v : VAL g n c0) (hn : n < 40) {c s l i : Int32} {d m : Nat} (hd : d < 28) (hm : m < 1440) : VAL (tapK g n c s l i (nI d) (nI m)) (n + 1) c0 := by
  obtain ⟨v1, v2, v3, v4, v5, v6⟩ := v
  refine ⟨tapK_4 _ _ _ _ _ _ _, by omega, fun a ha => ?_, by rw [tapK_int _ _ _ _ _ _ _ (by decide)]; exact v4, v5, fun w hw => by rw [tapK_other _ _ _ _ _ _ _ (Or.inr (by decide)) (by decide)]; exact v6 w hw⟩
  rw [tapK_row (by omega) _ _ _ _ _ _ 17 (by decide) (by decide), tapK_row (by omega) _ _ _ _ _ _ 18 (by decide) (by decide)]
  rcases Nat.eq_or_lt_of_le (Nat.le_of_lt_succ ha) with e | e
  · subst e
    rw [upd_s, upd_s]
    exact ⟨⟨d, hd, rfl⟩, m, hm, rfl⟩
  · rw [upd_n (by omega), upd_n (by omega)]
    exact v3 a e
theorem tapK_same {g h : tG} {n : Nat} (s0 : SAME g h n) (hn : n ≤ 40) (c s l i d m : Int32) : SAME (tapK g n c s l i d m) (tapK h n c s l i d m) (n + 1) := by
  refine ⟨fun j hj => ?_, fun j j1 j2 a ha => ?_, fun k hk => ?_⟩
  · rw [tapK_other _ _ _ _ _ _ _ (Or.inl hj) (by omega), tapK_other _ _ _ _ _ _ _ (Or.inl hj) (by omega)]; exact s0.1 j hj
  · rw [tapK_row hn _ _ _ _ _ _ j j2 j1, tapK_row hn _ _ _ _ _ _ j j2 j1]
    rcases Nat.eq_or_lt_of_le (Nat.le_of_lt_succ ha) with e | e
    · subst e; rw [upd_s, upd_s]
    · rw [upd_n (by omega), upd_n (by omega)]; exact s0.2.1 j j1 j2 a e
  · by_cases c4 : k = 4
    · subst c4; rw [tapK_4, tapK_4]
    · rw [tapK_int _ _ _ _ _ _ _ c4, tapK_int _ _ _ _ _ _ _ c4]; exact s0.2.2 k hk
/-- the same in all -/
theorem isSame_iff {g : tG} {a b : Nat} (ha : a < 41) (hb : b < 41) : (fX6_isSame_r g (nI a) (nI b) = 1 ∧ ∀ j, 13 ≤ j → j < 19 → g j a = g j b) ∨ (fX6_isSame_r g (nI a) (nI b) = 0 ∧ ∃ j, 13 ≤ j ∧ j < 19 ∧ g j a ≠ g j b) := by
  have rd : ∀ j, 13 ≤ j → j < 19 → gA g j (nI a) = g j a ∧ gA g j (nI b) = g j b := fun j j1 j2 => ⟨gA_nI (by rw [lenT j j1 j2]; exact ha) (by rw [lenT j j1 j2]; decide), gA_nI (by rw [lenT j j1 j2]; exact hb) (by rw [lenT j j1 j2]; decide)⟩
  obtain ⟨p13, q13⟩ := rd 13 (by decide) (by decide)
  obtain ⟨p14, q14⟩ := rd 14 (by decide) (by decide)
  obtain ⟨p15, q15⟩ := rd 15 (by decide) (by decide)
  obtain ⟨p16, q16⟩ := rd 16 (by decide) (by decide)
  obtain ⟨p17, q17⟩ := rd 17 (by decide) (by decide)
  obtain ⟨p18, q18⟩ := rd 18 (by decide) (by decide)
  unfold fX6_isSame_r
  rw [p13, q13, p14, q14, p15, q15, p16, q16, p17, q17, p18, q18]
  by_cases c13 : g 13 a = g 13 b
  · rw [if_pos c13]
    by_cases c14 : g 14 a = g 14 b
    · rw [if_pos c14]
      by_cases c15 : g 15 a = g 15 b
      · rw [if_pos c15]
        by_cases c16 : g 16 a = g 16 b
        · rw [if_pos c16]
          by_cases c17 : g 17 a = g 17 b
          · rw [if_pos c17]
            by_cases c18 : g 18 a = g 18 b
            · rw [if_pos c18]
              refine Or.inl ⟨rfl, fun j j1 j2 => ?_⟩
              have : j = 13 ∨ j = 14 ∨ j = 15 ∨ j = 16 ∨ j = 17 ∨ j = 18 := by omega
              rcases this with e | e | e | e | e | e <;> subst e <;> assumption
            · rw [if_neg c18]; exact Or.inr ⟨rfl, 18, by decide, by decide, c18⟩
          · rw [if_neg c17]; exact Or.inr ⟨rfl, 17, by decide, by decide, c17⟩
        · rw [if_neg c16]; exact Or.inr ⟨rfl, 16, by decide, by decide, c16⟩
      · rw [if_neg c15]; exact Or.inr ⟨rfl, 15, by decide, by decide, c15⟩
    · rw [if_neg c14]; exact Or.inr ⟨rfl, 14, by decide, by decide, c14⟩
  · rw [if_neg c13]; exact Or.inr ⟨rfl, 13, by decide, by decide, c13⟩
theorem rep_all {g : tG} {n b : Nat} (hn : g 45 4 = nI n) (h40 : n ≤ 40) (hb : b < 41) :
    ∀ (q k : Nat), k + q = n → (fX6_isRepeated_r g (nI b) = lr (sX6_isRepeated_2 g (nI b)) 0 (q + 1) (nI k)) →
      (fX6_isRepeated_r g (nI b) = 1 ∧ ∃ a, k ≤ a ∧ a < n ∧ ∀ j, 13 ≤ j → j < 19 → g j a = g j b) ∨ (fX6_isRepeated_r g (nI b) = 0 ∧ ∀ a, k ≤ a → a < n → ∃ j, 13 ≤ j ∧ j < 19 ∧ g j a ≠ g j b) := by
  intro q
  induction q with
  | zero =>
    intro k hk e
    have e2 : sX6_isRepeated_2 g (nI b) (nI k) = .inr 0 := by
      unfold sX6_isRepeated_2
      rw [hn, show k = n by omega]
      exact if_pos (Int32.le_refl _)
    rw [lr, e2] at e
    exact Or.inr ⟨e, fun a h1 h2 => absurd h1 (by omega)⟩
  | succ q ih =>
    intro k hk e
    have c1 : ¬ nI n ≤ nI k := nI_ge (by omega) (by omega)
    rcases isSame_iff (g := g) (a := k) (b := b) (by omega) hb with ⟨h1, h2⟩ | ⟨h1, h2⟩
    · have e2 : sX6_isRepeated_2 g (nI b) (nI k) = .inr 1 := by
        unfold sX6_isRepeated_2
        rw [hn, if_neg c1, h1]
        exact if_neg (by decide)
      rw [lr, e2] at e
      exact Or.inl ⟨e, k, Nat.le_refl _, by omega, h2⟩
    · have e2 : sX6_isRepeated_2 g (nI b) (nI k) = .inl (nI (k + 1)) := by
        unfold sX6_isRepeated_2
        rw [hn, if_neg c1, h1, if_pos rfl, nI_1]
      rw [lr, e2] at e
      rcases ih (k + 1) (by omega) e with ⟨p1, a, p2, p3, p4⟩ | ⟨p1, p2⟩
      · exact Or.inl ⟨p1, a, by omega, p3, p4⟩
      · refine Or.inr ⟨p1, fun a q1 q2 => ?_⟩
        rcases Nat.eq_or_lt_of_le q1 with e9 | e9
        · subst e9; exact h2
        · exact p2 a e9 q2
theorem isRep {g : tG} {n b : Nat} (hn : g 45 4 = nI n) (h40 : n ≤ 40) (hb : b < 41) :
    (fX6_isRepeated_r g (nI b) = 1 ∧ ∃ a, a < n ∧ ∀ j, 13 ≤ j → j < 19 → g j a = g j b) ∨ (fX6_isRepeated_r g (nI b) = 0 ∧ ∀ a, a < n → ∃ j, 13 ≤ j ∧ j < 19 ∧ g j a ≠ g j b) := by
  have e : fX6_isRepeated_r g (nI b) = lr (sX6_isRepeated_2 g (nI b)) 0 (n + 1) (nI 0) := by
    unfold fX6_isRepeated_r
    rw [hn, nn_nI (by omega)]
    rfl
  rcases rep_all hn h40 hb n 0 (by omega) e with ⟨p1, a, _, p3, p4⟩ | ⟨p1, p2⟩
  · exact Or.inl ⟨p1, a, p3, p4⟩
  · exact Or.inr ⟨p1, fun a h => p2 a (Nat.zero_le _) h⟩
/-- tap: kept, or doubled -/
theorem tap_spec {g : tG} {n : Nat} (hn : g 45 4 = nI n) (h40 : n ≤ 40) {c : Nat} (hc : c < 4) (hl : g 10 c = 0) (s l i d m : Int32) :
    (fX8_tap_r g (nI c) s l i d m = nI (n + 1) ∧ fX8_tap_w g (nI c) s l i d m = tapK g n (nI c) s l i d m ∧ (∀ a, a < n → ∃ j, 13 ≤ j ∧ j < 19 ∧ g j a ≠ tv6 (nI c) s l i d m j) ∧ fX6_isRepeated_r (fX6_write_w g (g 45 4) (nI c) s l i d m) (fX6_write_w g (g 45 4) (nI c) s l i d m 45 4) = 0) ∨
    (fX8_tap_r g (nI c) s l i d m = -3 ∧ (∃ v, fX8_tap_w g (nI c) s l i d m = tc_sc (fX6_write_w g (nI n) (nI c) s l i d m) 6 v) ∧ (∃ a, a < n ∧ ∀ j, 13 ≤ j → j < 19 → g j a = tv6 (nI c) s l i d m j) ∧ ¬ fX6_isRepeated_r (fX6_write_w g (g 45 4) (nI c) s l i d m) (fX6_write_w g (g 45 4) (nI c) s l i d m 45 4) = 0) := by
  have hL : fX0_isLost_r g (nI c) = 0 := by
    unfold fX0_isLost_r
    rw [gA_nI (j := 10) (by exact hc) (by decide)]
    exact if_pos hl
  obtain ⟨w, hw⟩ : ∃ q, q = fX6_write_w g (nI n) (nI c) s l i d m := ⟨_, rfl⟩
  have w4 : w 45 4 = nI n := by rw [hw, write_other _ _ _ _ _ _ _ (Or.inr (by decide))]; exact hn
  have wr : ∀ j, 13 ≤ j → j < 19 → w j = upd (g j) n (tv6 (nI c) s l i d m j) := fun j j1 j2 => by rw [hw]; exact write_row h40 _ _ _ _ _ _ j j2 j1
  rw [hn, ← hw, w4]
  rcases isRep (g := w) (b := n) w4 h40 (by omega) with ⟨p1, a, p2, p3⟩ | ⟨p1, p2⟩
  · refine Or.inr ⟨?_, ⟨(w 45 6) + 1, ?_⟩, ⟨a, p2, fun j j1 j2 => ?_⟩, by rw [p1]; decide⟩
    · unfold fX8_tap_r
      simp only [hL, hn, ← hw, w4, p1]
      rw [if_pos trivial, if_neg (by decide)]
    · unfold fX8_tap_w
      simp only [hL, hn, ← hw, w4, p1]
      rw [if_pos trivial, if_neg (by decide)]
    · have e := p3 j j1 j2
      rw [wr j j1 j2, upd_n (by omega), upd_s] at e
      exact e
  · refine Or.inl ⟨?_, ?_, fun a ha => ?_, p1⟩
    · unfold fX8_tap_r
      simp only [hL, hn, ← hw, w4, p1]
      rw [if_pos trivial, if_pos trivial, sc_at]; exact nI_1 n
    · unfold fX8_tap_w tapK
      simp only [hL, hn, ← hw, w4, p1]
      rw [if_pos trivial, if_pos trivial, nI_1]
    · obtain ⟨j, j1, j2, e⟩ := p2 a ha
      refine ⟨j, j1, j2, ?_⟩
      rw [wr j j1 j2, upd_n (by omega), upd_s] at e
      exact e
/-- wouldCost leaves what is told -/
theorem would_keep {g : tG} {n c0 : Nat} (v : VAL g n c0) (c s l i d m : Int32) : VAL (fX8_wouldCost_w g c s l i d m) n c0 ∧ SAME g (fX8_wouldCost_w g c s l i d m) n := by
  obtain ⟨g1, hg1⟩ : ∃ q, q = fX8_study_w g (gA g 9 c) (g 45 4) (-1) := ⟨_, rfl⟩
  obtain ⟨g2, hg2⟩ : ∃ q, q = fX6_write_w g1 (g1 45 4) c s l i d m := ⟨_, rfl⟩
  have hw : fX8_wouldCost_w g c s l i d m = fX8_study_w g2 (gA g 9 c) ((g2 45 4) + 1) (-1) := by
    unfold fX8_wouldCost_w fX8_costOfWeek_w
    rw [hg2, hg1]
  have k1 : KEEP g g1 := by rw [hg1]; exact study_KEEP _ _ _ _
  have v1 := k1.val v
  have s1 : SAME g g1 n := k1.same
  have h4 : g1 45 4 = nI n := v1.1
  rw [h4] at hg2
  have s2 : SAME g1 g2 n := by
    refine ⟨fun j hj => ?_, fun j j1 j2 a ha => ?_, fun k hk => ?_⟩
    · rw [hg2, write_other _ _ _ _ _ _ _ (Or.inl hj)]
    · rw [hg2, write_row v.2.1 _ _ _ _ _ _ j j2 j1, upd_n (by omega)]
    · rw [hg2, write_other _ _ _ _ _ _ _ (Or.inr (by decide))]
  have v2 : VAL g2 n c0 := ⟨by rw [s2.2.2 4 (by decide)]; exact v1.1, v1.2.1, v1.2.2.1.congr s2.2.1, by rw [s2.2.2 3 (by decide)]; exact v1.2.2.2.1, v1.2.2.2.2.1, fun w hw => by rw [hg2, write_other _ _ _ _ _ _ _ (Or.inr (by decide))]; exact v1.2.2.2.2.2 w hw⟩
  have k3 := study_KEEP g2 (gA g 9 c) ((g2 45 4) + 1) (-1)
  rw [hw]
  exact ⟨k3.val v2, s1.tr (s2.tr k3.same)⟩
/-- what a tap more would cost it costs -/
theorem would_cost {g g2 g3 : tG} {n c0 : Nat} (v : VAL g n c0) (v2 : VAL g2 n c0) (v3 : VAL g3 n c0) (s2 : SAME g g2 n) (s3 : SAME g g3 n) (hn : n < 40) {c : Int32} (hc : gA g 9 c = c) {s l i : Int32} {d m : Nat} (hd : d < 28) (hm : m < 1440) :
    fX8_ofWeek_r (tapK g3 n c s l i (nI d) (nI m)) c (nI d / 7) 0 = fX8_ofWeek_r g c (nI d / 7) 0 + fX8_wouldCost_r g2 c s l i (nI d) (nI m) := by
  have vk := tapK_val (c := c) (s := s) (l := l) (i := i) v3 hn hd hm
  obtain ⟨g1, hg1⟩ : ∃ q, q = fX8_study_w g2 c (nI n) (-1) := ⟨_, rfl⟩
  obtain ⟨w, hw⟩ : ∃ q, q = fX6_write_w g1 (nI n) c s l i (nI d) (nI m) := ⟨_, rfl⟩
  have hc2 : gA g2 9 c = c := by rw [gA_row (s2.1 9 (by decide))]; exact hc
  have k1 : KEEP g2 g1 := by rw [hg1]; exact study_KEEP _ _ _ _
  have v1 := k1.val v2
  have w4 : w 45 4 = nI n := by rw [hw, write_other _ _ _ _ _ _ _ (Or.inr (by decide))]; exact v1.1
  have ew : fX8_wouldCost_r g2 c s l i (nI d) (nI m) = fX1_ofWholeWeek_r (fX8_study_w w c (nI (n + 1)) (-1)) (nI d / 7) - fX1_ofWholeWeek_r g1 (nI d / 7) := by
    unfold fX8_wouldCost_r fX8_costOfWeek_r fX8_costOfWeek_w
    simp only [hc2, v2.1, ← hg1, v1.1, ← hw, w4, nI_1]
  have e0 : fX8_ofWeek_r g c (nI d / 7) 0 = fX1_ofWholeWeek_r g1 (nI d / 7) := by
    obtain ⟨hA, -⟩ := study_AG (by omega) v.2.2.1 s2 v.2.2.2.2.2 v2.2.2.2.2.2 c (-1)
    unfold fX8_ofWeek_r fX8_weekAnswer_r
    simp only [v.1]
    rw [if_pos trivial, hA.whole, ← hg1]
  have e1 : fX8_ofWeek_r (tapK g3 n c s l i (nI d) (nI m)) c (nI d / 7) 0 = fX1_ofWholeWeek_r (fX8_study_w w c (nI (n + 1)) (-1)) (nI d / 7) := by
    have sg : SAME g3 g1 n := s3.sy.tr (s2.tr k1.same)
    obtain ⟨hA, -⟩ := study_AG' (g := tapK g3 n c s l i (nI d) (nI m)) (h := w) (n := n + 1) (by omega) vk.2.2.1 (fun j hj _ _ => by
        rw [hw, write_other _ _ _ _ _ _ _ (Or.inl hj), tapK_other _ _ _ _ _ _ _ (Or.inl hj) (by omega)]; exact sg.1 j hj) (fun j j1 j2 a ha => by
        rw [hw, write_row (by omega) _ _ _ _ _ _ j j2 j1, tapK_row (by omega) _ _ _ _ _ _ j j2 j1]
        rcases Nat.eq_or_lt_of_le (Nat.le_of_lt_succ ha) with e | e
        · subst e; rw [upd_s, upd_s]
        · rw [upd_n (by omega), upd_n (by omega)]; exact sg.2.1 j j1 j2 a e) (by
        rw [hw, write_other _ _ _ _ _ _ _ (Or.inr (by decide)), tapK_int _ _ _ _ _ _ _ (by decide)]; exact sg.2.2 2 (by decide)) vk.2.2.2.2.2 (fun q hq => by
        rw [hw, write_other _ _ _ _ _ _ _ (Or.inr (by decide))]; exact v1.2.2.2.2.2 q hq) c (-1)
    unfold fX8_ofWeek_r fX8_weekAnswer_r
    simp only [tapK_4]
    rw [if_pos trivial, hA.whole]
  rw [ew, e0, e1, Int32.add_comm, Int32.sub_add_cancel]
