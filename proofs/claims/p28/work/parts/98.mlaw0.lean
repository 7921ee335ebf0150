/-! the law: what it asks, in numbers -/
theorem many_1 (g : tG) : fX8_many_r g 1 = g 45 4 := by
  unfold fX8_many_r fX8_manyAnswer_r
  rw [if_neg (by decide), if_pos rfl]
theorem ofDay_0 (g : tG) (p d : Int32) : fX8_ofDay_r g p d 0 = gA (fX8_study_w g p (g 45 4) (-1)) 28 d := by
  unfold fX8_ofDay_r fX8_dayAnswer_r
  rw [if_pos rfl]
/-- what a Told lists is as it was -/
def ROW3 (g g' : tG) (n0 : Nat) : Prop := g' 0 = g 0 ∧ (∀ w, w < 5 → ∀ i, i < 3 → g' (3 + w) i = g (3 + w) i) ∧ ∀ w, w < 6 → ∀ i, i < n0 → g' (13 + w) i = g (13 + w) i
theorem tW_r3 {ad : Nat → Nat} {o9 : Nat} {y : tA} {b : Nat} {cI cO : ClassId} {g g' : tG} {dr : Nat} {cd : Int32} {n0 : Nat} (r : ROW3 g g' n0) : tcW ad cI g' ++ tX ad o9 y b cI cO g dr cd 3 n0 = tW ad o9 y b cI cO g' dr cd 3 n0 := tX_step r.1 r.2.1 r.2.2
theorem STAY.r3 {g h : tG} {n n0 : Nat} (s : STAY g h n) (hn : n0 ≤ n) : ROW3 g h n0 :=
  ⟨s.1 0 (by decide), fun w hw i _ => by rw [s.1 (3 + w) (by omega)], fun w hw i hi => s.2.1 (13 + w) (by omega) (by omega) i (by omega)⟩
theorem KEEP.r3 {g h : tG} {n0 : Nat} (k : KEEP g h) : ROW3 g h n0 := (k.stay (n := n0)).r3 (Nat.le_refl n0)
theorem SAME.stay {g h : tG} {n : Nat} (s : SAME g h n) : STAY g h n := ⟨s.1, s.2.1, fun k hk => s.2.2 k (by omega)⟩
theorem TOLD.r3 {gS g g' : tG} {n n0 : Nat} (t : TOLD gS g n) (t' : TOLD gS g' n) (hn : n0 ≤ n) : ROW3 g g' n0 :=
  ⟨by rw [t'.1 0 (by decide) (by decide) (by decide), t.1 0 (by decide) (by decide) (by decide)], fun w hw i _ => by rw [t'.1 (3 + w) (by omega) (by omega) (by omega), t.1 (3 + w) (by omega) (by omega) (by omega)], fun w hw i hi => by rw [t'.2.1 (13 + w) (by omega) (by omega) i (by omega), t.2.1 (13 + w) (by omega) (by omega) i (by omega)]⟩
theorem SAME.r3 {g h g' h' : tG} {n n0 : Nat} (s : SAME g h n) (s' : SAME g' h' n) (r : ROW3 g g' n0) (hn : n0 ≤ n) : ROW3 h h' n0 :=
  ⟨by rw [s'.1 0 (by decide), r.1, s.1 0 (by decide)], fun w hw i hi => by rw [s'.1 (3 + w) (by omega), r.2.1 w hw i hi, s.1 (3 + w) (by omega)], fun w hw i hi => by rw [s'.2.1 (13 + w) (by omega) (by omega) i (by omega), r.2.2 w hw i hi, s.2.1 (13 + w) (by omega) (by omega) i (by omega)]⟩
/-- the two regions while some taps more come -/
def XTR (g h : tG) (n0 n j : Nat) : Prop := VAL g n 3 ∧ VAL h n 3 ∧ SAME g h n ∧ PER g ∧ TLD g 3 ∧ n0 ≤ n ∧ TAPS g n0 ∧ ∀ a, n0 ≤ a → a < n → ∃ d m q, 10 ≤ d ∧ d < 28 ∧ m < 140 ∧ q < j ∧ g 17 a = nI d ∧ g 18 a = nI (10 * m + q)
theorem XTR.same {g h g' h' : tG} {n0 n j : Nat} (x : XTR g h n0 n j) (v : VAL g' n 3) (s : SAME g g' n) (w : VAL h' n 3) (z : SAME h h' n) : XTR g' h' n0 n j := by
  obtain ⟨x1, x2, x3, x4, x5, x6, x7, x8⟩ := x
  have st := s.stay
  refine ⟨v, w, s.sy.tr (x3.tr z), st.per x4, x5.stay st, x6, (show STAY g g' n0 from ⟨st.1, fun j q1 q2 a ha => st.2.1 j q1 q2 a (by omega), st.2.2⟩).taps x7, fun a h1 h2 => ?_⟩
  obtain ⟨d, m, q, e1, e2, e3, e4, e5, e6⟩ := x8 a h1 h2
  exact ⟨d, m, q, e1, e2, e3, e4, by rw [s.2.1 17 (by decide) (by decide) a h2]; exact e5, by rw [s.2.1 18 (by decide) (by decide) a h2]; exact e6⟩
theorem XTR.perH {g h : tG} {n0 n j : Nat} (x : XTR g h n0 n j) : PER h := x.2.2.1.stay.per x.2.2.2.1
theorem XTR.tap {g h : tG} {n0 n j : Nat} (x : XTR g h n0 n j) (hn : n < 40) (hj : j < 10) {c s l i d m : Nat} (hc : c < 3) (hd1 : 10 ≤ d) (hd : d < 28) (hm : m < 140) :
    fX8_tap_r g (nI c) (nI s) (nI l) (nI i) (nI d) (nI (10 * m + j)) = nI (n + 1) ∧ fX8_tap_w g (nI c) (nI s) (nI l) (nI i) (nI d) (nI (10 * m + j)) = tapK g n (nI c) (nI s) (nI l) (nI i) (nI d) (nI (10 * m + j)) ∧
    fX8_tap_r h (nI c) (nI s) (nI l) (nI i) (nI d) (nI (10 * m + j)) = nI (n + 1) ∧ fX8_tap_w h (nI c) (nI s) (nI l) (nI i) (nI d) (nI (10 * m + j)) = tapK h n (nI c) (nI s) (nI l) (nI i) (nI d) (nI (10 * m + j)) ∧
    XTR (tapK g n (nI c) (nI s) (nI l) (nI i) (nI d) (nI (10 * m + j))) (tapK h n (nI c) (nI s) (nI l) (nI i) (nI d) (nI (10 * m + j))) n0 (n + 1) (j + 1) := by
  have perh := x.perH
  obtain ⟨v, w, sm, per, tl, hn0, tp, ex⟩ := x
  have h40 : n ≤ 40 := by omega
  have no : ∀ (k : tG), (∀ q a, 13 ≤ q → q < 19 → a < n → k q a = g q a) → ∀ a, a < n → ¬ ∀ q, 13 ≤ q → q < 19 → k q a = tv6 (nI c) (nI s) (nI l) (nI i) (nI d) (nI (10 * m + j)) q := by
    intro k hk a ha q
    have q17 : g 17 a = nI d := (hk 17 a (by decide) (by decide) ha).symm.trans (q 17 (by decide) (by decide))
    have q18 : g 18 a = nI (10 * m + j) := (hk 18 a (by decide) (by decide) ha).symm.trans (q 18 (by decide) (by decide))
    rcases Nat.lt_or_ge a n0 with c0 | c0
    · obtain ⟨_, _, _, _, d', _, _, _, _, _, h5, _, _, _, _, _, e5, _⟩ := tp.1 a c0
      have := nI_inj (by omega) (by omega) (e5.symm.trans q17)
      omega
    · obtain ⟨d', m', q', e1, e2, e3, e4, e5, e6⟩ := ex a c0 ha
      have := nI_inj (by omega) (by omega) (e6.symm.trans q18)
      omega
  have st := tap_stay (g := g) h40 (nI c) (nI s) (nI l) (nI i) (nI d) (nI (10 * m + j))
  have st0 : STAY g (tapK g n (nI c) (nI s) (nI l) (nI i) (nI d) (nI (10 * m + j))) n0 := ⟨st.1, fun j q1 q2 a ha => st.2.1 j q1 q2 a (by omega), st.2.2⟩
  have row : ∀ q, 13 ≤ q → q < 19 → tapK g n (nI c) (nI s) (nI l) (nI i) (nI d) (nI (10 * m + j)) q n = tv6 (nI c) (nI s) (nI l) (nI i) (nI d) (nI (10 * m + j)) q := fun q q1 q2 => by rw [tapK_row h40 _ _ _ _ _ _ q q2 q1, upd_s]
  have key : XTR (tapK g n (nI c) (nI s) (nI l) (nI i) (nI d) (nI (10 * m + j))) (tapK h n (nI c) (nI s) (nI l) (nI i) (nI d) (nI (10 * m + j))) n0 (n + 1) (j + 1) := by
    refine ⟨tapK_val v hn hd (by omega), tapK_val w hn hd (by omega), tapK_same sm h40 _ _ _ _ _ _, st.per per, tl.stay st, by omega, st0.taps tp, fun a h1 h2 => ?_⟩
    rcases Nat.eq_or_lt_of_le (Nat.le_of_lt_succ h2) with e | e
    · exact ⟨d, m, j, hd1, hd, hm, Nat.lt_succ_self j, by rw [e]; exact row 17 (by decide) (by decide), by rw [e]; exact row 18 (by decide) (by decide)⟩
    · obtain ⟨d', m', q', e1, e2, e3, e4, e5, e6⟩ := ex a h1 e
      exact ⟨d', m', q', e1, e2, e3, by omega, by rw [st.2.1 17 (by decide) (by decide) a e]; exact e5, by rw [st.2.1 18 (by decide) (by decide) a e]; exact e6⟩
  rcases tap_spec v.1 h40 (c := c) (by omega) (per c hc).2 (nI s) (nI l) (nI i) (nI d) (nI (10 * m + j)) with ⟨r1, r2, -, -⟩ | ⟨-, -, ⟨a, ha, r3⟩, -⟩
  · rcases tap_spec w.1 h40 (c := c) (by omega) (perh c hc).2 (nI s) (nI l) (nI i) (nI d) (nI (10 * m + j)) with ⟨s1, s2, -, -⟩ | ⟨-, -, ⟨a, ha, r3⟩, -⟩
    · exact ⟨r1, r2, s1, s2, key⟩
    · exact absurd r3 (no h (fun q a q1 q2 ha => sm.2.1 q q1 q2 a ha) a ha)
  · exact absurd r3 (no g (fun _ _ _ _ _ => rfl) a ha)
theorem tap_cond {g : tG} {n : Nat} (v : VAL g n 3) (hn : n < 40) {P : Prop} : P → g 45 4 < 40 := fun _ => by
  rw [v.1, Int32.lt_iff_toInt_lt, nI_toInt (by omega)]
  show (n : Int) < 40
  omega
/-- the leg of a tap that is alone on its day: its guess -/
theorem leg_guess {g3 g9 : tG} {n c D s i : Nat} (hn : n ≤ 40) (v3 : VAL g3 n 3) (v9 : VAL g9 (n + 1) 3) (e13 : ∀ j, j < 13 → g9 j = g3 j) (et : ∀ j, 13 ≤ j → j < 19 → ∀ a, a < n → g9 j a = g3 j a) (hc : c < 3) (per : g9 9 c = nI c) (h13 : g9 13 n = nI c) (h14 : g9 14 n = nI s) (h16 : g9 16 n = nI i) (h17 : g9 17 n = nI D) (hi : i < 2) (hD : D < 28)
    (h1 : fX8_ofDay_r g9 (nI c) (nI D) 1 = 1) (h0 : fX8_ofDay_r g9 (nI c) (nI D) 0 = 1) : fX8_ofLeg_r g9 (nI c) (nI D) 0 (nI i) = fX8_guess_r g3 (nI c) (nI D) (nI s) (nI i) ∧ fX8_ofLeg_r g9 (nI c) (nI D) 0 5 = nI (i + 1) := by
  rw [ofDay_1, v9.1, gA_nI (j := 27) hD (by decide)] at h1
  rw [ofDay_0, v9.1, gA_nI (j := 28) hD (by decide)] at h0
  have hp : gA g9 9 (g9 13 n) = nI c := by rw [h13, gA_nI (j := 9) (show c < 4 by omega) (by decide)]; exact per
  obtain ⟨f, hf, e26, e25, eg⟩ := guess_leg (m := 0) (l := 0) hn v3.2.2.1 v9.2.2.1 e13 et hD hp h17 h14 h16 h1 h0
  have ea : (gA (fX8_study_w g9 (nI c) (nI (n + 1)) (-1)) 26 (nI D)) + 0 = nI f := by rw [gA_nI (j := 26) hD (by decide), e26, Int32.add_zero]
  have cases_i : i = 0 ∨ i = 1 := by omega
  have hb : ¬ nI 1 = 0 := by decide
  have z0 : nI 0 = 0 := rfl
  have z1 : nI 1 = 1 := rfl
  constructor
  · unfold fX8_ofLeg_r fX8_guess_r fX8_legAnswer_r
    simp only [v9.1, v3.1, ea]
    rcases cases_i with rfl | rfl
    · rw [if_pos z0] at eg
      rw [if_pos z0, gA_nI (j := 20) hf (by decide)]
      exact eg
    · rw [if_neg hb] at eg
      rw [if_neg hb, if_pos z1, gA_nI (j := 21) hf (by decide)]
      exact eg
  · unfold fX8_ofLeg_r fX8_legAnswer_r
    simp only [v9.1, ea]
    rw [if_neg (by decide), if_neg (by decide), if_neg (by decide), if_neg (by decide), if_neg (by decide), if_pos trivial, gA_nI (j := 25) hf (by decide), e25]
    rcases cases_i with rfl | rfl
    · rw [if_pos z0]; rfl
    · rw [if_neg hb]; rfl
theorem CLO.keep {gS g g' : tG} {n d : Nat} (h : CLO gS n d g) (k : KEEP g g') : CLO gS n d g' := by
  obtain ⟨h1, h2, h3, h4, h5⟩ := h
  refine ⟨k.val h1, h2.tr k.told, (k.stay (n := 0)).per h3, by rw [k.2.1 0 (by decide)]; exact h4, fun p w hp hw hd => ?_⟩
  have := h5 p w hp hw hd
  unfold OPN at this ⊢
  rw [k.1 11 (by decide)]
  exact this
theorem CLO_0 {g : tG} {n : Nat} (v : VAL g n 3) (per : PER g) (h0 : g 45 0 = 0) : CLO g n 0 g := ⟨v, TOLD.rf, per, h0, fun p w _ _ h => absurd h (by omega)⟩
