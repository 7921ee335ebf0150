/-! the weeks: two states alike -/
def WR (k : Nat) (s t : tG) : Prop := (∀ i, gA t 43 i = gA s 43 i) ∧ tar_eq s t ∧ (∀ i, i < 20 → (i % 5 = 0 ∨ i < 5 * k) → t 44 i = s 44 i) ∧ ∀ w, w < k → t 42 w = s 42 w
theorem weekTicket_congr {g h : tG} (te : tar_eq g h) (v z : Int32) : fX7_weekTicket_r h v z = fX7_weekTicket_r g v z := by
  unfold fX7_weekTicket_r
  rw [gA_row (te.1 7 (by decide) (by decide)), gA_row (te.1 5 (by decide) (by decide))]
theorem week_one {k : Nat} (hk : k < 4) (v : Int32) (g : tG) : ∃ g', lp (sX1_read_68 (nI k) v) 4 (nI 1, g) = (nI 5, g') ∧ ((∀ i, i < 20 → g' 44 i = if 5 * k < i ∧ i < 5 * k + 5 then fX7_weekTicket_r g v (nI (i - 5 * k)) else g 44 i) ∧ ∀ j, j ≠ 44 → g' j = g j) := by
  have l44 : tc_len 44 = 20 := rfl
  have key : ∀ (z : Nat) (u : tG), z < 5 → (1 ≤ z ∧ (∀ i, i < 20 → u 44 i = if 5 * k < i ∧ i < 5 * k + z then fX7_weekTicket_r g v (nI (i - 5 * k)) else g 44 i) ∧ ∀ j, j ≠ 44 → u j = g j) →
      ∃ u', sX1_read_68 (nI k) v (nI z, u) = some (nI (z + 1), u') ∧ (1 ≤ z + 1 ∧ (∀ i, i < 20 → u' 44 i = if 5 * k < i ∧ i < 5 * k + (z + 1) then fX7_weekTicket_r g v (nI (i - 5 * k)) else g 44 i) ∧ ∀ j, j ≠ 44 → u' j = g j) := by
    intro z u hz ⟨h1, hV, hF⟩
    have c : ¬ (4 : Int32) < nI z := by
      have : ∀ k, k < 5 → ¬ (4 : Int32) < nI k := by decide
      exact this z hz
    have te : tar_eq g u := ⟨fun j j1 j2 => hF j (by omega), by rw [hF 45 (by decide)]⟩
    refine ⟨gP u 44 (nI (k * 5 + z)) (fX7_weekTicket_r g v (nI z)), ?_, by omega, fun i hi => ?_, fun j hj => by rw [gP_ne hj]; exact hF j hj⟩
    · unfold sX1_read_68
      simp only [if_neg c, nI_5, weekTicket_congr te]
      rw [← nI_1]
    · rw [gP_get (by rw [l44]; omega) (by decide)]
      by_cases ci : i = k * 5 + z
      · rw [if_pos ⟨rfl, ci⟩, if_pos (by omega), show i - 5 * k = z by omega]
      · rw [if_neg (fun q => ci q.2), hV i hi]
        by_cases c2 : 5 * k < i ∧ i < 5 * k + z
        · rw [if_pos c2, if_pos (by omega)]
        · rw [if_neg c2, if_neg (by omega)]
  have fin : ∀ u : tG, (1 ≤ 5 ∧ (∀ i, i < 20 → u 44 i = if 5 * k < i ∧ i < 5 * k + 5 then fX7_weekTicket_r g v (nI (i - 5 * k)) else g 44 i) ∧ ∀ j, j ≠ 44 → u j = g j) → sX1_read_68 (nI k) v (nI 5, u) = none := by
    intro u _
    unfold sX1_read_68
    rw [if_pos (show (4 : Int32) < nI 5 by decide)]
  obtain ⟨g', e, -, hV, hF⟩ := lp_for (f := sX1_read_68 (nI k) v) (N := 5) (fun z u => 1 ≤ z ∧ (∀ i, i < 20 → u 44 i = if 5 * k < i ∧ i < 5 * k + z then fX7_weekTicket_r g v (nI (i - 5 * k)) else g 44 i) ∧ ∀ j, j ≠ 44 → u j = g j) key fin 4 1 g 4 (by omega) (by omega) ⟨Nat.le_refl _, fun i hi => by rw [if_neg (by omega)], fun _ _ => rfl⟩
  exact ⟨g', e, hV, hF⟩
theorem week68 {k : Nat} (hk : k < 4) {v : Int32} {s t : tG} (h : WR k s t) :
    ∃ s' t', lp (sX1_read_68 (nI k) v) 4 (1, s) = (nI 5, s') ∧ lp (sX1_read_68 (nI k) v) 4 (1, t) = (nI 5, t') ∧ (∀ i, gA t' 43 i = gA s' 43 i) ∧ tar_eq s' t' ∧ (∀ i, i < 20 → (i % 5 = 0 ∨ i < 5 * (k + 1)) → t' 44 i = s' 44 i) ∧ (∀ w, w < k → t' 42 w = s' 42 w) ∧ s' 42 = s 42 ∧ t' 42 = t 42 := by
  obtain ⟨s', es, sV, sF⟩ := week_one hk v s
  obtain ⟨t', et, tV, tF⟩ := week_one hk v t
  obtain ⟨h43, te, h44, h42⟩ := h
  refine ⟨s', t', es, et, fun i => ?_, ⟨fun j j1 j2 => ?_, ?_⟩, fun i hi hc => ?_, fun w hw => ?_, sF 42 (by decide), tF 42 (by decide)⟩
  · rw [gA_row (tF 43 (by decide)), gA_row (sF 43 (by decide))]; exact h43 i
  · rw [tF j (by omega), sF j (by omega)]; exact te.1 j j1 j2
  · rw [tF 45 (by decide), sF 45 (by decide)]; exact te.2
  · rw [tV i hi, sV i hi]
    by_cases c : 5 * k < i ∧ i < 5 * k + 5
    · rw [if_pos c, if_pos c]; exact weekTicket_congr te _ _
    · rw [if_neg c, if_neg c]; exact h44 i hi (by omega)
  · rw [tF 42 (by decide), sF 42 (by decide)]; exact h42 w hw
/-- the second loop of Costs.read, over two states -/
theorem cread2 {s t : tG} (h : WR 0 s t) : ∃ s' t', lp (sX1_read_50) 4 (0, s) = (nI 4, s') ∧ lp (sX1_read_50) 4 (0, t) = (nI 4, t') ∧ WR 4 s' t' := by
  have l42 : tc_len 42 = 4 := rfl
  have l44 : tc_len 44 = 20 := rfl
  have step : ∀ (k : Nat) (s t : tG), k < 4 → WR k s t → ∃ s' t', sX1_read_50 (nI k, s) = some (nI (k + 1), s') ∧ sX1_read_50 (nI k, t) = some (nI (k + 1), t') ∧ WR (k + 1) s' t' := by
    intro k s t hk h
    have c : ¬ (4 : Int32) ≤ nI k := nI_ge (b := 4) hk (by decide)
    have ev : fX7_indexFor_r t (nI k * 7) = fX7_indexFor_r s (nI k * 7) := indexFor_congr (h.2.1.1 3 (by decide) (by decide)) h.2.1.2 _
    obtain ⟨s1, t1, es, et, h43, te, h44, h42, s42, t42⟩ := week68 (v := fX7_indexFor_r s (nI k * 7)) hk h
    have el : ∀ z, z < 5 → gA t1 44 ((nI k * 5) + nI z) = gA s1 44 ((nI k * 5) + nI z) := by
      intro z hz
      rw [nI_5, gA_nI (by rw [l44]; omega) (by decide), gA_nI (by rw [l44]; omega) (by decide)]
      exact h44 _ (by omega) (by omega)
    have ec : fX1_choiceUpTo_r t1 (nI k) (fX1_lastDayOf_r t1 (nI k)) = fX1_choiceUpTo_r s1 (nI k) (fX1_lastDayOf_r s1 (nI k)) := choice_congr h43 el
    refine ⟨gP s1 42 (nI k) (fX1_choiceUpTo_r s1 (nI k) (fX1_lastDayOf_r s1 (nI k))), gP t1 42 (nI k) (fX1_choiceUpTo_r s1 (nI k) (fX1_lastDayOf_r s1 (nI k))), ?_, ?_, fun i => ?_, ⟨fun j j1 j2 => ?_, ?_⟩, fun i hi hc => ?_, fun w hw => ?_⟩
    · unfold sX1_read_50
      simp only [if_neg c, es]
      rw [← nI_1]
    · unfold sX1_read_50
      simp only [if_neg c, ev, et, ec]
      rw [← nI_1]
    · rw [gA_row (gP_ne (by decide)), gA_row (gP_ne (by decide))]; exact h43 i
    · rw [gP_ne (by omega), gP_ne (by omega)]; exact te.1 j j1 j2
    · rw [gP_ne (by decide), gP_ne (by decide)]; exact te.2
    · rw [gP_ne (by decide), gP_ne (by decide)]; exact h44 i hi (by omega)
    · rw [gP_get (by rw [l42]; omega) (by decide), gP_get (by rw [l42]; omega) (by decide)]
      by_cases cw : w = k
      · rw [if_pos ⟨rfl, cw⟩, if_pos ⟨rfl, cw⟩]
      · rw [if_neg (fun q => cw q.2), if_neg (fun q => cw q.2)]; exact h42 w (by omega)
  have fin : ∀ u : tG, sX1_read_50 (nI 4, u) = none := by
    intro u
    unfold sX1_read_50
    rw [if_pos (show (4 : Int32) ≤ nI 4 by decide)]
  have all : ∀ (d k : Nat) (s t : tG), k + d = 4 → WR k s t → ∃ s' t', lp (sX1_read_50) d (nI k, s) = (nI 4, s') ∧ lp (sX1_read_50) d (nI k, t) = (nI 4, t') ∧ WR 4 s' t' := by
    intro d
    induction d with
    | zero =>
      intro k s t hk h
      have e : k = 4 := by omega
      subst e
      exact ⟨s, t, by rw [lp], by rw [lp], h⟩
    | succ d ih =>
      intro k s t hk h
      obtain ⟨s1, t1, e1, e2, h1⟩ := step k s t (by omega) h
      rw [lp, lp, e1, e2]
      exact ih (k + 1) s1 t1 (by omega) h1
  exact all 4 0 s t (by omega) h
/-- Costs.read: what it leaves of the days -/
theorem cread_days (g : tG) : KD g 28 (lp (sX1_read_18) 28 (0, gF (gF g 41 0) 43 0)).2 ∧ (∀ d, d < 28 → (∀ c, c < 5 → fX1_read_w g 43 (d * 5 + c) = bwD g d (nI c)) ∧ fX1_read_w g 41 d = cwD g d) := by
  obtain ⟨h, e, hK⟩ := cread1 g
  have e : lp (sX1_read_18) 28 (0, gF (gF g 41 0) 43 0) = (nI 28, h) := e
  have fr : ∀ j, j ∉ ([42, 44] : List Nat) → fX1_read_w g j = h j := by
    intro j hj
    unfold fX1_read_w
    try simp only []
    rw [e]
    exact fjX1_read_50 4 (0, h) j hj
  refine ⟨by rw [e]; exact hK, fun d hd => ⟨fun c hc => ?_, ?_⟩⟩
  · rw [fr 43 (by decide), (hK.1 d hd).1 c hc, if_pos hd]
  · rw [fr 41 (by decide), (hK.1 d hd).2, if_pos hd]
/-- Costs.read over two states that are alike in fares, tariffs, and the places of the week's row that nobody writes -/
theorem cread_congr {g h : tG} (te : tar_eq g h) (hd : ∀ d, d < 28 → gA h 37 (nI d) = gA g 37 (nI d) ∧ ∀ z, fX2_fares_r h (nI d) z = fX2_fares_r g (nI d) z) (h44 : ∀ w, w < 4 → h 44 (5 * w) = g 44 (5 * w)) :
    (∀ i, i < 140 → fX1_read_w h 43 i = fX1_read_w g 43 i) ∧ (∀ d, d < 28 → fX1_read_w h 41 d = fX1_read_w g 41 d) ∧ (∀ i, i < 20 → fX1_read_w h 44 i = fX1_read_w g 44 i) ∧ ∀ w, w < 4 → fX1_read_w h 42 w = fX1_read_w g 42 w := by
  obtain ⟨g1, eg, gK⟩ := cread1 g
  obtain ⟨h1, eh, hK⟩ := cread1 h
  have ebw : ∀ d, d < 28 → ∀ c, bwD h d c = bwD g d c := by
    intro d hd9 c
    unfold bwD
    rw [(hd d hd9).1, bvD_congr te (hd d hd9).2]
  have ecw : ∀ d, d < 28 → cwD h d = cwD g d := by
    intro d hd9
    unfold cwD
    rw [(hd d hd9).1, bvD_congr te (hd d hd9).2]
  have e43 : ∀ i, i < 140 → h1 43 i = g1 43 i := by
    intro i hi
    have e := (hK.1 (i / 5) (by omega)).1 (i % 5) (by omega)
    have e' := (gK.1 (i / 5) (by omega)).1 (i % 5) (by omega)
    rw [show i / 5 * 5 + i % 5 = i by omega] at e e'
    rw [e, e', if_pos (by omega), if_pos (by omega), ebw _ (by omega)]
  have e41 : ∀ d, d < 28 → h1 41 d = g1 41 d := by
    intro d hd9
    rw [(hK.1 d hd9).2, (gK.1 d hd9).2, if_pos hd9, if_pos hd9, ecw d hd9]
  have w0 : WR 0 g1 h1 := by
    refine ⟨gA_congr (by decide) e43, ⟨fun j j1 j2 => ?_, ?_⟩, fun i hi hc => ?_, fun w hw => absurd hw (Nat.not_lt_zero w)⟩
    · have hj : j ∉ ([41, 43] : List Nat) := by
        intro hm
        have : j = 41 ∨ j = 43 := by simpa using hm
        omega
      rw [hK.2 j hj, gK.2 j hj]; exact te.1 j j1 j2
    · rw [hK.2 45 (by decide), gK.2 45 (by decide)]; exact te.2
    · rw [hK.2 44 (by decide), gK.2 44 (by decide)]
      have e5 : i = 5 * (i / 5) := by omega
      rw [e5]
      exact h44 (i / 5) (by omega)
  obtain ⟨g2, h2, e1, e2, hW⟩ := cread2 w0
  have eg : lp (sX1_read_18) 28 (0, gF (gF g 41 0) 43 0) = (nI 28, g1) := eg
  have eh : lp (sX1_read_18) 28 (0, gF (gF h 41 0) 43 0) = (nI 28, h1) := eh
  have rg : fX1_read_w g = g2 := by
    unfold fX1_read_w
    try simp only []
    rw [eg]
    show (lp sX1_read_50 4 (0, g1)).2 = g2
    rw [e1]
  have rh : fX1_read_w h = h2 := by
    unfold fX1_read_w
    try simp only []
    rw [eh]
    show (lp sX1_read_50 4 (0, h1)).2 = h2
    rw [e2]
  refine ⟨fun i hi => ?_, fun d hd9 => ?_, fun i hi => ?_, fun w hw => ?_⟩
  · have e := (cread_days h).2 (i / 5) (by omega)
    have e' := (cread_days g).2 (i / 5) (by omega)
    have q := e.1 (i % 5) (by omega)
    have q' := e'.1 (i % 5) (by omega)
    rw [show i / 5 * 5 + i % 5 = i by omega] at q q'
    rw [q, q', ebw _ (by omega)]
  · rw [((cread_days h).2 d hd9).2, ((cread_days g).2 d hd9).2, ecw d hd9]
  · rw [rg, rh]; exact hW.2.2.1 i hi (by omega)
  · rw [rg, rh]; exact hW.2.2.2 w hw
