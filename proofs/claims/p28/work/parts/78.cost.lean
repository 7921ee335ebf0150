/-! what days and weeks cost -/
theorem nI_mul (a b : Nat) : nI a * nI b = nI (a * b) := (Int32.ofNat_mul a b).symm
theorem nI_5 {d c : Nat} : nI d * 5 + nI c = nI (d * 5 + c) := by
  rw [show (5 : Int32) = nI 5 from rfl, nI_mul, nI_add]
theorem fares_row {g h : tG} (e : ∀ j, 33 ≤ j → j < 38 → j ≠ 35 → h j = g j) (x z : Int32) : fX2_fares_r h x z = fX2_fares_r g x z := by
  have e33 := e 33 (by decide) (by decide) (by decide)
  have e34 := e 34 (by decide) (by decide) (by decide)
  have e36 := e 36 (by decide) (by decide) (by decide)
  have e37 := e 37 (by decide) (by decide) (by decide)
  have es : ∀ v, sX2_fares_15 h x z v = sX2_fares_15 g x z v := by
    intro v
    funext σ
    unfold sX2_fares_15
    simp only [gA_row e37, gA_row e33, gA_row e34]
  unfold fX2_fares_r
  simp only [es, gA_row e36, gA_row e37]
/-- what a day costs at the least beside a week's ticket: the loop over the tickets -/
def bvD (g : tG) (x c : Int32) : Int32 × Int32 × Int32 := lp (sX1_readDay_31 x (fX7_indexFor_r g x) c g) 4 (1, 0, fX2_fares_r g x c)
theorem bvD_congr {g h : tG} {x : Int32} (te : tar_eq g h) (hf : ∀ z, fX2_fares_r h x z = fX2_fares_r g x z) (c : Int32) : bvD h x c = bvD g x c := by
  have es : ∀ v, sX1_readDay_31 x v c h = sX1_readDay_31 x v c g := by
    intro v
    funext σ
    unfold sX1_readDay_31 fX7_dayTicket_r
    simp only [gA_row (te.1 6 (by decide) (by decide)), gA_row (te.1 5 (by decide) (by decide)), hf]
  unfold bvD
  rw [indexFor_congr (te.1 3 (by decide) (by decide)) te.2, es, hf]
theorem readDay_spec {g : tG} {d : Nat} (hd : d < 28) : (∀ c, c < 5 → fX1_readDay_w g (nI d) 43 (d * 5 + c) = (bvD g (nI d) (nI c)).2.2) ∧ fX1_readDay_w g (nI d) 41 d = (bvD g (nI d) 0).2.1 ∧ (∀ k, (k < d * 5 ∨ d * 5 + 5 ≤ k) → fX1_readDay_w g (nI d) 43 k = g 43 k) ∧ (∀ k, k ≠ d → fX1_readDay_w g (nI d) 41 k = g 41 k) := by
  have l43 : tc_len 43 = 140 := rfl
  have l41 : tc_len 41 = 28 := rfl
  have cg : ∀ t : tG, (∀ j, j ∉ ([41, 43] : List Nat) → t j = g j) → (∀ x z, fX2_fares_r t x z = fX2_fares_r g x z) ∧ (∀ v c, sX1_readDay_31 (nI d) v c t = sX1_readDay_31 (nI d) v c g) := by
    intro t hF
    have hf : ∀ x z, fX2_fares_r t x z = fX2_fares_r g x z := fun x z => fares_row (fun j h1 h2 h3 => hF j (by
      intro hm
      have : j = 41 ∨ j = 43 := by simpa using hm
      omega)) x z
    refine ⟨hf, fun v c => ?_⟩
    funext σ
    unfold sX1_readDay_31 fX7_dayTicket_r
    simp only [gA_row (hF 6 (by decide)), gA_row (hF 5 (by decide)), hf]
  have key : ∀ (k : Nat) (t : tG), k < 5 → ((∀ c, c < k → t 43 (d * 5 + c) = (bvD g (nI d) (nI c)).2.2) ∧ (0 < k → t 41 d = (bvD g (nI d) 0).2.1) ∧ (∀ q, (q < d * 5 ∨ d * 5 + 5 ≤ q) → t 43 q = g 43 q) ∧ (∀ q, q ≠ d → t 41 q = g 41 q) ∧ ∀ j, j ∉ ([41, 43] : List Nat) → t j = g j) →
      ∃ t', sX1_readDay_10 (nI d) (fX7_indexFor_r g (nI d)) (nI k, t) = some (nI (k + 1), t') ∧ ((∀ c, c < k + 1 → t' 43 (d * 5 + c) = (bvD g (nI d) (nI c)).2.2) ∧ (0 < k + 1 → t' 41 d = (bvD g (nI d) 0).2.1) ∧ (∀ q, (q < d * 5 ∨ d * 5 + 5 ≤ q) → t' 43 q = g 43 q) ∧ (∀ q, q ≠ d → t' 41 q = g 41 q) ∧ ∀ j, j ∉ ([41, 43] : List Nat) → t' j = g j) := by
    intro k t hk ⟨h1, h2, h3, h4, h5⟩
    obtain ⟨hf, hs⟩ := cg t h5
    have c : ¬ (4 : Int32) < nI k := by
      have : ∀ k, k < 5 → ¬ (4 : Int32) < nI k := by decide
      exact this k hk
    have hv : fX2_fares_r t (nI d) (nI k) = fX2_fares_r g (nI d) (nI k) := hf _ _
    have hb : lp (sX1_readDay_31 (nI d) (fX7_indexFor_r g (nI d)) (nI k) t) 4 (1, 0, fX2_fares_r g (nI d) (nI k)) = bvD g (nI d) (nI k) := by rw [hs]; rfl
    obtain ⟨t1, ht1⟩ : ∃ q : tG, q = gP t 43 (nI (d * 5 + k)) (bvD g (nI d) (nI k)).2.2 := ⟨_, rfl⟩
    have g43 : ∀ q, t1 43 q = if q = d * 5 + k then (bvD g (nI d) (nI k)).2.2 else t 43 q := by
      intro q
      rw [ht1, gP_get (by rw [l43]; omega) (by decide)]
      by_cases cq : q = d * 5 + k
      · rw [if_pos ⟨rfl, cq⟩, if_pos cq]
      · rw [if_neg (fun w => cq w.2), if_neg cq]
    have v43 : ∀ q, q < k + 1 → t1 43 (d * 5 + q) = (bvD g (nI d) (nI q)).2.2 := by
      intro q hq
      rw [g43]
      by_cases cq : q = k
      · subst cq; rw [if_pos rfl]
      · rw [if_neg (by omega)]; exact h1 q (by omega)
    have o43 : ∀ q, (q < d * 5 ∨ d * 5 + 5 ≤ q) → t1 43 q = g 43 q := by
      intro q hq
      rw [g43, if_neg (by omega)]; exact h3 q hq
    by_cases c0 : nI k = 0
    · have hk0 : k = 0 := (nI_eq (by omega) (by decide)).mp (show nI k = nI 0 from c0)
      subst hk0
      refine ⟨gP t1 41 (nI d) (bvD g (nI d) 0).2.1, ?_, fun q hq => by rw [gP_ne (by decide)]; exact v43 q hq, fun _ => ?_, fun q hq => by rw [gP_ne (by decide)]; exact o43 q hq, fun q hq => ?_, fun j hj => ?_⟩
      · unfold sX1_readDay_10
        simp only [if_neg c, hv, hb, nI_5, ← ht1, if_pos c0]
        rw [← nI_1]
        rfl
      · rw [gP_at (by rw [l41]; exact hd) (by decide), upd_s]
      · rw [gP_at (by rw [l41]; exact hd) (by decide), upd_n hq, ht1, gP_ne (by decide)]; exact h4 q hq
      · rw [gP_ne (fun e => hj (by rw [e]; decide)), ht1, gP_ne (fun e => hj (by rw [e]; decide))]; exact h5 j hj
    · have hk0 : 0 < k := by
        rcases Nat.eq_zero_or_pos k with e | e
        · subst e; exact absurd rfl c0
        · exact e
      refine ⟨t1, ?_, v43, fun _ => by rw [ht1, gP_ne (by decide)]; exact h2 hk0, o43, fun q hq => by rw [ht1, gP_ne (by decide)]; exact h4 q hq, fun j hj => by rw [ht1, gP_ne (fun e => hj (by rw [e]; decide))]; exact h5 j hj⟩
      unfold sX1_readDay_10
      simp only [if_neg c, hv, hb, nI_5, ← ht1, if_neg c0]
      rw [← nI_1]
  have fin : ∀ t : tG, ((∀ c, c < 5 → t 43 (d * 5 + c) = (bvD g (nI d) (nI c)).2.2) ∧ (0 < 5 → t 41 d = (bvD g (nI d) 0).2.1) ∧ (∀ q, (q < d * 5 ∨ d * 5 + 5 ≤ q) → t 43 q = g 43 q) ∧ (∀ q, q ≠ d → t 41 q = g 41 q) ∧ ∀ j, j ∉ ([41, 43] : List Nat) → t j = g j) → sX1_readDay_10 (nI d) (fX7_indexFor_r g (nI d)) (nI 5, t) = none := by
    intro t _
    unfold sX1_readDay_10
    rw [if_pos (show (4 : Int32) < nI 5 by decide)]
  obtain ⟨h, e, h1, h2, h3, h4, -⟩ := lp_for (f := sX1_readDay_10 (nI d) (fX7_indexFor_r g (nI d))) (N := 5) _ key fin 5 0 g 5 (by omega) (by omega) ⟨fun c hc => absurd hc (Nat.not_lt_zero c), fun hc => absurd hc (Nat.lt_irrefl 0), fun _ _ => rfl, fun _ _ => rfl, fun _ _ => rfl⟩
  have hw : fX1_readDay_w g (nI d) = h := by
    unfold fX1_readDay_w
    simp only []
    exact congrArg (fun q => q.2) e
  rw [hw]
  exact ⟨h1, h2 (by decide), h3, h4⟩
def bwD (g : tG) (d : Nat) (c : Int32) : Int32 := if gA g 37 (nI d) ≤ 0 then 0 else (bvD g (nI d) c).2.2
def cwD (g : tG) (d : Nat) : Int32 := if gA g 37 (nI d) ≤ 0 then 0 else (bvD g (nI d) 0).2.1
def KD (g : tG) (k : Nat) (t : tG) : Prop := (∀ d, d < 28 → (∀ c, c < 5 → t 43 (d * 5 + c) = if d < k then bwD g d (nI c) else 0) ∧ t 41 d = if d < k then cwD g d else 0) ∧ ∀ j, j ∉ ([41, 43] : List Nat) → t j = g j
/-- the first loop of Costs.read: the days -/
theorem cread1 (g : tG) : ∃ h : tG, lp (sX1_read_18) 28 (0, gF (gF g 41 0) 43 0) = (nI 28, h) ∧ KD g 28 h := by
  have l43 : tc_len 43 = 140 := rfl
  have l41 : tc_len 41 = 28 := rfl
  have key : ∀ (k : Nat) (t : tG), k < 28 → KD g k t → ∃ t', sX1_read_18 (nI k, t) = some (nI (k + 1), t') ∧ KD g (k + 1) t' := by
    intro k t hk ⟨hV, hF⟩
    have c : ¬ (28 : Int32) ≤ nI k := nI_ge (b := 28) hk (by decide)
    have e37 : gA t 37 (nI k) = gA g 37 (nI k) := gA_row (hF 37 (by decide)) _
    have te : tar_eq g t := ⟨fun j h1 h2 => hF j (by
      intro hm
      have : j = 41 ∨ j = 43 := by simpa using hm
      omega), by rw [hF 45 (by decide)]⟩
    have hf : ∀ z, fX2_fares_r t (nI k) z = fX2_fares_r g (nI k) z := fun z => fares_row (fun j h1 h2 h3 => hF j (by
      intro hm
      have : j = 41 ∨ j = 43 := by simpa using hm
      omega)) _ z
    by_cases c1 : gA g 37 (nI k) ≤ 0
    · refine ⟨t, ?_, fun d hd => ⟨fun q hq => ?_, ?_⟩, hF⟩
      · unfold sX1_read_18
        simp only [if_neg c, e37, if_pos c1]
        rw [← nI_1]
      · rw [(hV d hd).1 q hq]
        by_cases cd : d = k
        · subst cd
          rw [if_neg (Nat.lt_irrefl d), if_pos (Nat.lt_succ_self d)]
          unfold bwD
          rw [if_pos c1]
        · by_cases cd2 : d < k
          · rw [if_pos cd2, if_pos (by omega)]
          · rw [if_neg cd2, if_neg (by omega)]
      · rw [(hV d hd).2]
        by_cases cd : d = k
        · subst cd
          rw [if_neg (Nat.lt_irrefl d), if_pos (Nat.lt_succ_self d)]
          unfold cwD
          rw [if_pos c1]
        · by_cases cd2 : d < k
          · rw [if_pos cd2, if_pos (by omega)]
          · rw [if_neg cd2, if_neg (by omega)]
    · obtain ⟨s1, s2, s3, s4⟩ := readDay_spec (g := t) hk
      refine ⟨fX1_readDay_w t (nI k), ?_, fun d hd => ⟨fun q hq => ?_, ?_⟩, fun j hj => by rw [fjX1_readDay t _ j hj]; exact hF j hj⟩
      · unfold sX1_read_18
        simp only [if_neg c, e37, if_neg c1]
        rw [← nI_1]
      · by_cases cd : d = k
        · subst cd
          rw [s1 q hq, if_pos (Nat.lt_succ_self d), bvD_congr te hf]
          unfold bwD
          rw [if_neg c1]
        · rw [s3 (d * 5 + q) (by omega), (hV d hd).1 q hq]
          by_cases cd2 : d < k
          · rw [if_pos cd2, if_pos (by omega)]
          · rw [if_neg cd2, if_neg (by omega)]
      · by_cases cd : d = k
        · subst cd
          rw [s2, if_pos (Nat.lt_succ_self d), bvD_congr te hf]
          unfold cwD
          rw [if_neg c1]
        · rw [s4 d cd, (hV d hd).2]
          by_cases cd2 : d < k
          · rw [if_pos cd2, if_pos (by omega)]
          · rw [if_neg cd2, if_neg (by omega)]
  have fin : ∀ t : tG, KD g 28 t → sX1_read_18 (nI 28, t) = none := by
    intro t _
    unfold sX1_read_18
    rw [if_pos (show (28 : Int32) ≤ nI 28 by decide)]
  refine lp_for (f := sX1_read_18) (N := 28) (fun k t => KD g k t) key fin 28 0 (gF (gF g 41 0) 43 0) 28 (by omega) (by omega) ⟨fun d hd => ⟨fun c hc => ?_, ?_⟩, fun j hj => ?_⟩
  · rw [if_neg (Nat.not_lt_zero d), gF_get, if_pos ⟨rfl, by rw [l43]; omega⟩]
  · rw [if_neg (Nat.not_lt_zero d), gF_ne (by decide), gF_get, if_pos ⟨rfl, by rw [l41]; exact hd⟩]
  · rw [gF_ne (fun e => hj (by rw [e]; decide)), gF_ne (fun e => hj (by rw [e]; decide))]
/-! sums over the days of a week -/
theorem upTo_congr {g h : tG} (e43 : ∀ i, gA h 43 i = gA g 43 i) {x y z : Int32} (e44 : gA h 44 ((x * 5) + z) = gA g 44 ((x * 5) + z)) : fX1_upTo_r h x y z = fX1_upTo_r g x y z := by
  have es : sX1_upTo_20 h y z = sX1_upTo_20 g y z := by
    funext σ
    unfold sX1_upTo_20
    simp only [e43]
  unfold fX1_upTo_r
  simp only [es, e44]
theorem choice_congr {g h : tG} (e43 : ∀ i, gA h 43 i = gA g 43 i) {x y : Int32} (e44 : ∀ z, z < 5 → gA h 44 ((x * 5) + nI z) = gA g 44 ((x * 5) + nI z)) : fX1_choiceUpTo_r h x y = fX1_choiceUpTo_r g x y := by
  have e0 : fX1_upTo_r h x y 0 = fX1_upTo_r g x y 0 := upTo_congr e43 (e44 0 (by decide))
  unfold fX1_choiceUpTo_r
  simp only [e0]
  rw [lp_cong (f := sX1_choiceUpTo_14 h x y) (f' := sX1_choiceUpTo_14 g x y) (fun s => ∃ k, k ≤ 5 ∧ s.1 = nI k) (fun s ⟨k, hk, hs⟩ => by
    rcases Nat.eq_or_lt_of_le hk with q | q
    · have c : (4 : Int32) < s.1 := by rw [hs, q]; decide
      have e1 : sX1_choiceUpTo_14 h x y s = none := by unfold sX1_choiceUpTo_14; rw [if_pos c]
      have e2 : sX1_choiceUpTo_14 g x y s = none := by unfold sX1_choiceUpTo_14; rw [if_pos c]
      exact ⟨by rw [e1, e2], fun t ht => by rw [e1] at ht; cases ht⟩
    · have c : ¬ (4 : Int32) < s.1 := by
        rw [hs]
        have : ∀ k, k < 5 → ¬ (4 : Int32) < nI k := by decide
        exact this k q
      have ez : fX1_upTo_r h x y s.1 = fX1_upTo_r g x y s.1 := upTo_congr e43 (by rw [hs]; exact e44 k q)
      have e1 : sX1_choiceUpTo_14 h x y s = sX1_choiceUpTo_14 g x y s := by
        unfold sX1_choiceUpTo_14
        simp only [ez]
      refine ⟨e1, fun t ht => ⟨k + 1, by omega, ?_⟩⟩
      unfold sX1_choiceUpTo_14 at ht
      simp only [if_neg c] at ht
      split at ht
      · cases ht; show s.1 + 1 = _; rw [hs]; exact nI_1 k
      · cases ht; show s.1 + 1 = _; rw [hs]; exact nI_1 k) 4 (1, 0, fX1_upTo_r g x y 0) ⟨1, by decide, rfl⟩]
