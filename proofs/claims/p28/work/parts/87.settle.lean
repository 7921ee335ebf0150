/-! the days are closed, and the weeks settled -/
/-- the ticket of a week is the one that its last day asks for -/
theorem cread_choice (g : tG) : ∀ w, w < 4 → fX1_read_w g 42 w = fX1_choiceUpTo_r (fX1_read_w g) (nI w) ((nI w * 7 + 7) - 1) := by
  have l42 : tc_len 42 = 4 := rfl
  have l44 : tc_len 44 = 20 := rfl
  obtain ⟨h, e, hK⟩ := cread1 g
  have e : lp (sX1_read_18) 28 (0, gF (gF g 41 0) 43 0) = (nI 28, h) := e
  have key : ∀ (k : Nat) (t : tG), k < 4 → (∀ w, w < k → t 42 w = fX1_choiceUpTo_r t (nI w) ((nI w * 7 + 7) - 1)) → ∃ t', sX1_read_50 (nI k, t) = some (nI (k + 1), t') ∧ ∀ w, w < k + 1 → t' 42 w = fX1_choiceUpTo_r t' (nI w) ((nI w * 7 + 7) - 1) := by
    intro k t hk hI
    have c : ¬ (4 : Int32) ≤ nI k := nI_ge (b := 4) hk (by decide)
    obtain ⟨t1, e1, hV, hF⟩ := week_one hk (fX7_indexFor_r t (nI k * 7)) t
    have e1 : lp (sX1_read_68 (nI k) (fX7_indexFor_r t (nI k * 7))) 4 (1, t) = (nI 5, t1) := e1
    have eC : fX1_choiceUpTo_r t1 (nI k) (fX1_lastDayOf_r t1 (nI k)) = fX1_choiceUpTo_r t1 (nI k) ((nI k * 7 + 7) - 1) := rfl
    refine ⟨gP t1 42 (nI k) (fX1_choiceUpTo_r t1 (nI k) ((nI k * 7 + 7) - 1)), ?_, fun w hw => ?_⟩
    · unfold sX1_read_50
      simp only [if_neg c, e1]
      rw [← nI_1, eC]
    · have ew : ∀ t2 : tG, (∀ i, gA t2 43 i = gA t1 43 i) → (∀ z, z < 5 → gA t2 44 ((nI w * 5) + nI z) = gA t1 44 ((nI w * 5) + nI z)) → fX1_choiceUpTo_r (gP t1 42 (nI k) (fX1_choiceUpTo_r t1 (nI k) ((nI k * 7 + 7) - 1))) (nI w) ((nI w * 7 + 7) - 1) = fX1_choiceUpTo_r t2 (nI w) ((nI w * 7 + 7) - 1) := fun t2 q1 q2 => choice_congr (fun i => by rw [gA_row (gP_ne (by decide)), q1]) (fun z hz => by rw [gA_row (gP_ne (by decide)), q2 z hz])
      rw [gP_get (by rw [l42]; omega) (by decide)]
      by_cases cw : w = k
      · subst cw
        rw [if_pos ⟨rfl, rfl⟩, ew t1 (fun _ => rfl) (fun _ _ => rfl)]
      · rw [if_neg (fun q => cw q.2), hF 42 (by decide), hI w (by omega)]
        exact (ew t (fun i => (gA_row (hF 43 (by decide)) i).symm) (fun z hz => by
          rw [nI_5, gA_nI (by rw [l44]; omega) (by decide), gA_nI (by rw [l44]; omega) (by decide), hV _ (by omega), if_neg (by omega)])).symm
  have fin : ∀ t : tG, (∀ w, w < 4 → t 42 w = fX1_choiceUpTo_r t (nI w) ((nI w * 7 + 7) - 1)) → sX1_read_50 (nI 4, t) = none := by
    intro t _
    unfold sX1_read_50
    rw [if_pos (show (4 : Int32) ≤ nI 4 by decide)]
  obtain ⟨h2, e2, hI⟩ := lp_for (f := sX1_read_50) (N := 4) (fun k t => ∀ w, w < k → t 42 w = fX1_choiceUpTo_r t (nI w) ((nI w * 7 + 7) - 1)) key fin 4 0 h 4 (by omega) (by omega) (fun w hw => absurd hw (Nat.not_lt_zero w))
  have e2 : lp (sX1_read_50) 4 (0, h) = (nI 4, h2) := e2
  have rg : fX1_read_w g = h2 := by
    unfold fX1_read_w
    try simp only []
    rw [e]
    show (lp sX1_read_50 4 (0, h)).2 = h2
    rw [e2]
  rw [rg]
  exact hI
/-- what a week costs up to a day -/
def LU (g : tG) (p n w d : Int32) : Int32 := fX1_leastUpTo_r (fX8_study_w g p n (-1)) w d
theorem last_nI : ∀ w, w < 4 → (nI w * 7 + 7) - 1 = nI (7 * w + 6) := by decide
theorem whole_LU {g : tG} (p n : Int32) {w : Nat} (hw : w < 4) : fX1_ofWholeWeek_r (fX8_study_w g p n (-1)) (nI w) = LU g p n (nI w) (nI (7 * w + 6)) := by
  unfold fX1_ofWholeWeek_r LU fX1_leastUpTo_r
  have e : gA (fX8_study_w g p n (-1)) 42 (nI w) = fX1_choiceUpTo_r (fX8_study_w g p n (-1)) (nI w) (nI (7 * w + 6)) := by
    rw [gA_nI (j := 42) (by exact hw) (by decide), ← last_nI w hw]
    exact cread_choice _ w hw
  rw [e, show fX1_lastDayOf_r (fX8_study_w g p n (-1)) (nI w) = nI (7 * w + 6) from last_nI w hw]
/-- what is told is alike, the money aside -/
def TOLD (g h : tG) (n : Nat) : Prop := (∀ j, j < 13 → j ≠ 8 → j ≠ 11 → h j = g j) ∧ (∀ j, 13 ≤ j → j < 19 → ∀ a, a < n → h j a = g j a) ∧ ∀ k, 2 ≤ k → k ≤ 4 → h 45 k = g 45 k
theorem TOLD.rf {g : tG} {n : Nat} : TOLD g g n := ⟨fun _ _ _ _ => rfl, fun _ _ _ _ _ => rfl, fun _ _ _ => rfl⟩
theorem TOLD.tr {a b c : tG} {n : Nat} (h1 : TOLD a b n) (h2 : TOLD b c n) : TOLD a c n := ⟨fun j hj h8 h11 => (h2.1 j hj h8 h11).trans (h1.1 j hj h8 h11), fun j q1 q2 i hi => (h2.2.1 j q1 q2 i hi).trans (h1.2.1 j q1 q2 i hi), fun k k1 k2 => (h2.2.2 k k1 k2).trans (h1.2.2 k k1 k2)⟩
theorem KEEP.told {g h : tG} {n : Nat} (k : KEEP g h) : TOLD g h n := ⟨fun j hj _ _ => k.1 j (by omega), fun j _ q2 i _ => by rw [k.1 j q2], fun q _ q2 => k.2.1 q (by omega)⟩
theorem LU_told {g h : tG} {n c : Nat} (vg : VAL g n c) (vh : VAL h n c) (s : TOLD g h n) (p w d : Int32) : LU h p (nI n) w d = LU g p (nI n) w d := by
  obtain ⟨v1, v2, v3, -, -, v6⟩ := vg
  obtain ⟨w1, -, w3, -, -, w6⟩ := vh
  obtain ⟨hA, -⟩ := study_AG' (by omega) v3 s.1 s.2.1 (s.2.2 2 (by decide) (by decide)) v6 w6 p (-1)
  unfold LU
  exact (hA.least w d).symm
/-- a charge -/
theorem charge_told {g : tG} {n : Nat} (p w v : Int32) : TOLD g (fX0_charge_w g p w v) n := by
  have e : ∀ j, j ≠ 8 → j ≠ 11 → fX0_charge_w g p w v j = g j := fun j h8 h11 => fjX0_charge g p w v j (fun hm => by
    have : j = 8 ∨ j = 11 := by simpa using hm
    omega)
  exact ⟨fun j _ h8 h11 => e j h8 h11, fun j q1 q2 i _ => by rw [e j (by omega) (by omega)], fun k _ _ => by rw [e 45 (by decide) (by decide)]⟩
theorem charge_oth {g : tG} (p w v : Int32) {j : Nat} (h8 : j ≠ 8) (h11 : j ≠ 11) : fX0_charge_w g p w v j = g j := fjX0_charge g p w v j (fun hm => by
  have : j = 8 ∨ j = 11 := by simpa using hm
  omega)
theorem charge_val {g : tG} {n c : Nat} (v : VAL g n c) (p w x : Int32) : VAL (fX0_charge_w g p w x) n c := by
  obtain ⟨v1, v2, v3, v4, v5, v6⟩ := v
  exact ⟨by rw [charge_oth _ _ _ (by decide) (by decide)]; exact v1, v2, v3.congr (fun j q1 q2 a _ => by rw [charge_oth _ _ _ (by omega) (by omega)]), by rw [charge_oth _ _ _ (by decide) (by decide)]; exact v4, v5, fun w hw => by rw [charge_oth _ _ _ (by decide) (by decide)]; exact v6 w hw⟩
theorem gD_row {g h : tG} {j : Nat} {i x : Int32} (e : h j = g j) : gD h j i x j = gD g j i x j := by
  unfold gD
  rw [up_at, up_at, e]
theorem charge_same {g h : tG} {n : Nat} (s : SAME g h n) (p w x : Int32) : SAME (fX0_charge_w g p w x) (fX0_charge_w h p w x) n := by
  refine ⟨fun j hj => ?_, fun j q1 q2 a ha => by rw [charge_oth _ _ _ (by omega) (by omega), charge_oth _ _ _ (by omega) (by omega)]; exact s.2.1 j q1 q2 a ha, fun k hk => by rw [charge_oth _ _ _ (by decide) (by decide), charge_oth _ _ _ (by decide) (by decide)]; exact s.2.2 k hk⟩
  by_cases h8 : j = 8
  · subst h8
    unfold fX0_charge_w
    rw [gD_ne (j := 11) (by decide), gD_ne (j := 11) (by decide), gD_row (s.1 8 (by decide))]
  · by_cases h11 : j = 11
    · subst h11
      unfold fX0_charge_w
      exact gD_row (by rw [gD_ne (by decide), gD_ne (by decide)]; exact s.1 11 (by decide))
    · rw [charge_oth _ _ _ h8 h11, charge_oth _ _ _ h8 h11]; exact s.1 j hj
theorem charge_11 {g : tG} {p w k : Nat} (hp : p < 4) (hw : w < 4) (v : Int32) : fX0_charge_w g (nI p) (nI w) v 11 k = if k = p * 4 + w then g 11 k + v else g 11 k := by
  have l11 : tc_len 11 = 16 := rfl
  unfold fX0_charge_w
  have e4 : nI p * 4 + nI w = nI (p * 4 + w) := by rw [show (4 : Int32) = nI 4 from rfl, nI_mul, nI_add]
  rw [e4, gD_get (by rw [l11]; omega) (by decide), gD_ne (by decide)]
  by_cases c : k = p * 4 + w
  · rw [if_pos ⟨rfl, c⟩, if_pos c, c]
  · rw [if_neg (fun q => c q.2), if_neg c]
/-! two machines -/
theorem close_both {g h : tG} {n c : Nat} (vg : VAL g n c) (vh : VAL h n c) (s : SAME g h n) : fX8_close_r g = fX8_close_r h ∧ SAME (fX8_close_w g) (fX8_close_w h) n ∧ VAL (fX8_close_w g) n c ∧ VAL (fX8_close_w h) n c := by
  have e3 : h 45 3 = g 45 3 := s.2.2 3 (by decide)
  obtain ⟨N, hN⟩ : ∃ q, q = nn (g 45 3) := ⟨_, rfl⟩
  have hh := lp_sim (f := sX8_close_23) (f' := sX8_close_23) (fun σ τ => σ.1 = τ.1 ∧ σ.2.1 = τ.2.1 ∧ SAME σ.2.2 τ.2.2 n ∧ VAL σ.2.2 n c ∧ VAL τ.2.2 n c) (fun σ τ ⟨h1, h2, h3, h4, h5⟩ => by
    obtain ⟨i, a, u⟩ := σ
    obtain ⟨j, b, v⟩ := τ
    have h1 : i = j := h1
    have h2 : a = b := h2
    subst h1; subst h2
    have h3 : SAME u v n := h3
    have h4 : VAL u n c := h4
    have h5 : VAL v n c := h5
    have q3 : v 45 3 = u 45 3 := h3.2.2 3 (by decide)
    have q0 : v 45 0 = u 45 0 := h3.2.2 0 (by decide)
    have qp : fX0_isPerson_r v i = fX0_isPerson_r u i := isPerson_congr (h3.1 9 (by decide)) q3 i
    have qd : fX8_dueUpTo_r v i (v 45 0) = fX8_dueUpTo_r u i (u 45 0) := by rw [q0]; exact (due_congr h4 h5 h3 _ _).symm
    have k1 : KEEP u (fX8_dueUpTo_w u i (u 45 0)) := due_KEEP _ _ _
    have k2 : KEEP v (fX8_dueUpTo_w v i (v 45 0)) := due_KEEP _ _ _
    have s2 := h3.of k1 k2
    by_cases c1 : u 45 3 ≤ i
    · left
      unfold sX8_close_23
      have c1' : v 45 3 ≤ i := by rw [q3]; exact c1
      exact ⟨if_pos c1, if_pos c1'⟩
    · have c1' : ¬ v 45 3 ≤ i := by rw [q3]; exact c1
      right
      by_cases c2 : fX0_isPerson_r u i = 0
      · refine ⟨(i + 1, a, u), (i + 1, a, v), ?_, ?_, rfl, rfl, h3, h4, h5⟩
        · unfold sX8_close_23
          exact (if_neg c1).trans (if_pos c2)
        · unfold sX8_close_23
          exact (if_neg c1').trans (if_pos (qp.trans c2))
      · have c2' : ¬ fX0_isPerson_r v i = 0 := fun q => c2 (qp.symm.trans q)
        by_cases c3 : fX8_dueUpTo_r u i (u 45 0) ≤ 0
        · refine ⟨(i + 1, a, fX8_dueUpTo_w u i (u 45 0)), (i + 1, a, fX8_dueUpTo_w v i (v 45 0)), ?_, ?_, rfl, rfl, s2, k1.val h4, k2.val h5⟩
          · unfold sX8_close_23
            exact (if_neg c1).trans ((if_neg c2).trans (if_pos c3))
          · unfold sX8_close_23
            exact (if_neg c1').trans ((if_neg c2').trans (if_pos (by rw [qd]; exact c3)))
        · have c3' : ¬ fX8_dueUpTo_r v i (v 45 0) ≤ 0 := by rw [qd]; exact c3
          refine ⟨(i + 1, a + fX8_dueUpTo_r u i (u 45 0), fX0_charge_w (fX8_dueUpTo_w u i (u 45 0)) i ((fX8_dueUpTo_w u i (u 45 0) 45 0) / 7) (fX8_dueUpTo_r u i (u 45 0))), (i + 1, a + fX8_dueUpTo_r v i (v 45 0), fX0_charge_w (fX8_dueUpTo_w v i (v 45 0)) i ((fX8_dueUpTo_w v i (v 45 0) 45 0) / 7) (fX8_dueUpTo_r v i (v 45 0))), ?_, ?_, rfl, ?_, ?_, charge_val (k1.val h4) _ _ _, charge_val (k2.val h5) _ _ _⟩
          · unfold sX8_close_23
            exact (if_neg c1).trans ((if_neg c2).trans (if_neg c3))
          · unfold sX8_close_23
            exact (if_neg c1').trans ((if_neg c2').trans (if_neg c3'))
          · show a + fX8_dueUpTo_r u i (u 45 0) = a + fX8_dueUpTo_r v i (v 45 0)
            rw [qd]
          · show SAME (fX0_charge_w (fX8_dueUpTo_w u i (u 45 0)) i ((fX8_dueUpTo_w u i (u 45 0) 45 0) / 7) (fX8_dueUpTo_r u i (u 45 0))) (fX0_charge_w (fX8_dueUpTo_w v i (v 45 0)) i ((fX8_dueUpTo_w v i (v 45 0) 45 0) / 7) (fX8_dueUpTo_r v i (v 45 0))) n
            rw [qd, s2.2.2 0 (by decide)]
            exact charge_same s2 _ _ _) N (0, 0, g) (0, 0, h) ⟨rfl, rfl, s, vg, vh⟩
  obtain ⟨-, e2, s2, v2, w2⟩ := hh
  have er : fX8_close_r g = (lp sX8_close_23 N (0, 0, g)).2.1 ∧ fX8_close_w g = tc_sc (lp sX8_close_23 N (0, 0, g)).2.2 0 ((lp sX8_close_23 N (0, 0, g)).2.2 45 0 + 1) := by
    rw [hN]; exact ⟨rfl, rfl⟩
  have er' : fX8_close_r h = (lp sX8_close_23 N (0, 0, h)).2.1 ∧ fX8_close_w h = tc_sc (lp sX8_close_23 N (0, 0, h)).2.2 0 ((lp sX8_close_23 N (0, 0, h)).2.2 45 0 + 1) := by
    rw [hN, ← e3]; exact ⟨rfl, rfl⟩
  obtain ⟨u, hu⟩ : ∃ q, q = lp sX8_close_23 N (0, 0, g) := ⟨_, rfl⟩
  obtain ⟨v, hv⟩ : ∃ q, q = lp sX8_close_23 N (0, 0, h) := ⟨_, rfl⟩
  rw [← hu] at er e2 s2 v2
  rw [← hv] at er' e2 s2 w2
  rw [er.1, er.2, er'.1, er'.2]
  have sv : ∀ (q : tG) (x : Int32), VAL q n c → VAL (tc_sc q 0 x) n c := fun q x ⟨p1, p2, p3, p4, p5, p6⟩ => ⟨by rw [sc_nk (by decide)]; exact p1, p2, p3.congr (fun j q1 q2 a _ => by rw [sc_nj (by omega)]), by rw [sc_nk (by decide)]; exact p4, p5, fun w hw => by rw [sc_nj (by decide)]; exact p6 w hw⟩
  refine ⟨e2, ⟨fun j hj => ?_, fun j q1 q2 a ha => ?_, fun k hk => ?_⟩, sv _ _ v2, sv _ _ w2⟩
  · rw [sc_nj (by omega), sc_nj (by omega)]; exact s2.1 j hj
  · rw [sc_nj (by omega), sc_nj (by omega)]; exact s2.2.1 j q1 q2 a ha
  · by_cases k0 : k = 0
    · subst k0
      rw [sc_at, sc_at, s2.2.2 0 (by decide)]
    · rw [sc_nk k0, sc_nk k0]; exact s2.2.2 k hk
theorem settle_both {g h : tG} {n c : Nat} (vg : VAL g n c) (vh : VAL h n c) (s : SAME g h n) (p w : Int32) : fX8_settle_r g p w = fX8_settle_r h p w ∧ SAME (fX8_settle_w g p w) (fX8_settle_w h p w) n ∧ VAL (fX8_settle_w g p w) n c ∧ VAL (fX8_settle_w h p w) n c := by
  have e0 : h 45 0 = g 45 0 := s.2.2 0 (by decide)
  have ed : ∀ d, fX8_dueUpTo_r h p d = fX8_dueUpTo_r g p d := fun d => (due_congr vg vh s p d).symm
  unfold fX8_settle_r fX8_settle_w
  simp only [e0, ed]
  refine ⟨trivial, charge_same (s.of (due_KEEP _ _ _) (due_KEEP _ _ _)) _ _ _, charge_val ((due_KEEP _ _ _).val vg) _ _ _, charge_val ((due_KEEP _ _ _).val vh) _ _ _⟩
/-! one machine: after each day is closed nothing is due for it -/
/-- three cards, each its own person's, none lost -/
def PER (g : tG) : Prop := ∀ k, k < 3 → g 9 k = nI k ∧ g 10 k = 0
theorem TOLD.per {g h : tG} {n : Nat} (s : TOLD g h n) (v : PER g) : PER h := fun k hk => by
  rw [s.1 9 (by decide) (by decide) (by decide), s.1 10 (by decide) (by decide) (by decide)]; exact v k hk
theorem per_is {g : tG} (h3 : g 45 3 = nI 3) (v : PER g) {p : Nat} (hp : p < 3) : fX0_isPerson_r g (nI p) = 1 := by
  unfold fX0_isPerson_r
  rw [if_neg (nI_pos (by omega)), h3, if_neg (nI_ge hp (by decide)), gA_nI (j := 9) (by show p < 4; omega) (by decide), (v p hp).1, if_pos rfl]
theorem due_is {g : tG} {n c : Nat} (v : VAL g n c) {p d : Nat} (hp : p < 4) (hd : d < 28) : fX8_dueUpTo_r g (nI p) (nI d) = LU g (nI p) (nI n) (nI (d / 7)) (nI d) - g 11 (p * 4 + d / 7) := by
  have l11 : tc_len 11 = 16 := rfl
  have e7 : ∀ d, d < 28 → nI d / 7 = nI (d / 7) := by decide
  have e4 : nI p * 4 + nI (d / 7) = nI (p * 4 + d / 7) := by rw [show (4 : Int32) = nI 4 from rfl, nI_mul, nI_add]
  unfold fX8_dueUpTo_r LU
  simp only [v.1, e7 d hd, e4]
  rw [gA_row (j := 11) ((study_KEEP g (nI p) (nI n) (-1)).1 11 (by decide)), gA_nI (by rw [l11]; omega) (by decide)]
/-- what of a week is not paid for, up to a day -/
def OPN (g0 : tG) (n : Nat) (g : tG) (p w d : Nat) : Prop := 0 < LU g0 (nI p) (nI n) (nI w) (nI d) - g 11 (p * 4 + w)
theorem close_one {g0 g : tG} {n : Nat} (v0 : VAL g0 n 3) (v : VAL g n 3) (t : TOLD g0 g n) (hP : PER g) {d : Nat} (hd : d < 28) (h0 : g 45 0 = nI d) :
    VAL (fX8_close_w g) n 3 ∧ TOLD g0 (fX8_close_w g) n ∧ fX8_close_w g 45 0 = nI (d + 1) ∧ (∀ p, p < 3 → ¬ OPN g0 n (fX8_close_w g) p (d / 7) d) ∧ ∀ p w, p < 3 → w < 4 → w ≠ d / 7 → fX8_close_w g 11 (p * 4 + w) = g 11 (p * 4 + w) := by
  have hw4 : d / 7 < 4 := by omega
  have e7 : ∀ d, d < 28 → nI d / 7 = nI (d / 7) := by decide
  have key : ∀ (k : Nat) (q : Int32 × tG), k < 3 → (VAL q.2 n 3 ∧ TOLD g0 q.2 n ∧ q.2 45 0 = nI d ∧ (∀ p, p < k → ¬ OPN g0 n q.2 p (d / 7) d) ∧ ∀ p w, p < 3 → w < 4 → w ≠ d / 7 → q.2 11 (p * 4 + w) = g 11 (p * 4 + w)) →
      ∃ q', sX8_close_23 (nI k, q) = some (nI (k + 1), q') ∧ (VAL q'.2 n 3 ∧ TOLD g0 q'.2 n ∧ q'.2 45 0 = nI d ∧ (∀ p, p < k + 1 → ¬ OPN g0 n q'.2 p (d / 7) d) ∧ ∀ p w, p < 3 → w < 4 → w ≠ d / 7 → q'.2 11 (p * 4 + w) = g 11 (p * 4 + w)) := by
    intro k q hk hI
    obtain ⟨a, u⟩ := q
    have hI : VAL u n 3 ∧ TOLD g0 u n ∧ u 45 0 = nI d ∧ (∀ p, p < k → ¬ OPN g0 n u p (d / 7) d) ∧ ∀ p w, p < 3 → w < 4 → w ≠ d / 7 → u 11 (p * 4 + w) = g 11 (p * 4 + w) := hI
    obtain ⟨i1, i2, i3, i4, i5⟩ := hI
    have hu3 : u 45 3 = nI 3 := i1.2.2.2.1
    have hPg0 : PER u := fun x hx => by
      rw [i2.1 9 (by decide) (by decide) (by decide), i2.1 10 (by decide) (by decide) (by decide), ← t.1 9 (by decide) (by decide) (by decide), ← t.1 10 (by decide) (by decide) (by decide)]; exact hP x hx
    have c1 : ¬ u 45 3 ≤ nI k := by rw [hu3]; exact nI_ge hk (by decide)
    have c2 : ¬ fX0_isPerson_r u (nI k) = 0 := by rw [per_is hu3 hPg0 hk]; decide
    have ed : fX8_dueUpTo_r u (nI k) (u 45 0) = LU g0 (nI k) (nI n) (nI (d / 7)) (nI d) - u 11 (k * 4 + d / 7) := by
      rw [i3, due_is i1 (by omega) hd, LU_told v0 i1 i2]
    obtain ⟨u2, hu2⟩ : ∃ z, z = fX8_dueUpTo_w u (nI k) (u 45 0) := ⟨_, rfl⟩
    have k2 : KEEP u u2 := by rw [hu2]; exact due_KEEP _ _ _
    have e11 : u2 11 = u 11 := k2.1 11 (by decide)
    have j1 := k2.val i1
    have j2 : TOLD g0 u2 n := i2.tr k2.told
    have j3 : u2 45 0 = nI d := by rw [k2.2.1 0 (by decide)]; exact i3
    by_cases c3 : fX8_dueUpTo_r u (nI k) (u 45 0) ≤ 0
    · refine ⟨(a, u2), ?_, j1, j2, j3, fun p hp => ?_, fun p w hp hw hne => by show u2 11 _ = _; rw [e11]; exact i5 p w hp hw hne⟩
      · unfold sX8_close_23
        rw [hu2, ← nI_1]
        exact (if_neg c1).trans ((if_neg c2).trans (if_pos c3))
      · unfold OPN
        show ¬ 0 < _ - u2 11 _
        rw [e11]
        rcases Nat.eq_or_lt_of_le (Nat.le_of_lt_succ hp) with e | e
        · subst e
          rw [← ed]
          exact Int32.not_lt.mpr c3
        · exact i4 p e
    · refine ⟨(a + fX8_dueUpTo_r u (nI k) (u 45 0), fX0_charge_w u2 (nI k) (nI (d / 7)) (fX8_dueUpTo_r u (nI k) (u 45 0))), ?_, charge_val j1 _ _ _, j2.tr (charge_told _ _ _), ?_, fun p hp => ?_, fun p w hp hw hne => ?_⟩
      · unfold sX8_close_23
        rw [← nI_1, ← e7 d hd, ← j3, hu2]
        exact (if_neg c1).trans ((if_neg c2).trans (if_neg c3))
      · show fX0_charge_w u2 (nI k) (nI (d / 7)) (fX8_dueUpTo_r u (nI k) (u 45 0)) 45 0 = _
        rw [charge_oth _ _ _ (by decide) (by decide)]; exact j3
      · unfold OPN
        show ¬ 0 < LU g0 (nI p) (nI n) (nI (d / 7)) (nI d) - fX0_charge_w u2 (nI k) (nI (d / 7)) (fX8_dueUpTo_r u (nI k) (u 45 0)) 11 (p * 4 + d / 7)
        rw [charge_11 (by omega) hw4, e11]
        rcases Nat.eq_or_lt_of_le (Nat.le_of_lt_succ hp) with e | e
        · subst e
          rw [if_pos rfl, ed, Int32.add_comm, Int32.sub_add_cancel, Int32.sub_self]
          exact Int32.lt_irrefl
        · rw [if_neg (by omega)]; exact i4 p e
      · show fX0_charge_w u2 (nI k) (nI (d / 7)) (fX8_dueUpTo_r u (nI k) (u 45 0)) 11 (p * 4 + w) = _
        rw [charge_11 (by omega) hw4, e11, if_neg (by omega)]
        exact i5 p w hp hw hne
  have fin : ∀ q : Int32 × tG, (VAL q.2 n 3 ∧ TOLD g0 q.2 n ∧ q.2 45 0 = nI d ∧ (∀ p, p < 3 → ¬ OPN g0 n q.2 p (d / 7) d) ∧ ∀ p w, p < 3 → w < 4 → w ≠ d / 7 → q.2 11 (p * 4 + w) = g 11 (p * 4 + w)) → sX8_close_23 (nI 3, q) = none := by
    intro q hq
    unfold sX8_close_23
    have c1 : q.2 45 3 ≤ nI 3 := by rw [hq.1.2.2.2.1]; exact Int32.le_refl _
    exact if_pos c1
  obtain ⟨q', e, r1, r2, r3, r4, r5⟩ := lp_for (f := sX8_close_23) (N := 3) (fun k (q : Int32 × tG) => VAL q.2 n 3 ∧ TOLD g0 q.2 n ∧ q.2 45 0 = nI d ∧ (∀ p, p < k → ¬ OPN g0 n q.2 p (d / 7) d) ∧ ∀ p w, p < 3 → w < 4 → w ≠ d / 7 → q.2 11 (p * 4 + w) = g 11 (p * 4 + w)) key fin 3 0 (0, g) 3 (by omega) (by omega) ⟨v, t, h0, fun p hp => absurd hp (Nat.not_lt_zero p), fun _ _ _ _ _ => rfl⟩
  have hN : nn (g 45 3) = 3 := by rw [v.2.2.2.1, nn_nI (by decide)]
  have ew : fX8_close_w g = tc_sc q'.2 0 (nI (d + 1)) := by
    have : fX8_close_w g = tc_sc (lp sX8_close_23 (nn (g 45 3)) (nI 0, (0, g))).2.2 0 ((lp sX8_close_23 (nn (g 45 3)) (nI 0, (0, g))).2.2 45 0 + 1) := rfl
    rw [this, hN, e]
    show tc_sc q'.2 0 (q'.2 45 0 + 1) = _
    rw [r3, nI_1]
  have e11 : fX8_close_w g 11 = q'.2 11 := by rw [ew, sc_nj (by decide)]
  refine ⟨?_, ?_, by rw [ew, sc_at], fun p hp => ?_, fun p w hp hw hne => by rw [e11]; exact r5 p w hp hw hne⟩
  · obtain ⟨p1, p2, p3, p4, p5, p6⟩ := r1
    rw [ew]
    exact ⟨by rw [sc_nk (by decide)]; exact p1, p2, p3.congr (fun j q1 q2 a _ => by rw [sc_nj (by omega)]), by rw [sc_nk (by decide)]; exact p4, p5, fun w hw => by rw [sc_nj (by decide)]; exact p6 w hw⟩
  · rw [ew]
    exact ⟨fun j hj h8 h11 => by rw [sc_nj (by omega)]; exact r2.1 j hj h8 h11, fun j q1 q2 a ha => by rw [sc_nj (by omega)]; exact r2.2.1 j q1 q2 a ha, fun k k1 k2 => by rw [sc_nk (by omega)]; exact r2.2.2 k k1 k2⟩
  · unfold OPN
    rw [e11]
    exact r4 p hp
/-- the state of one machine while days are closed -/
def CLO (g0 : tG) (n d : Nat) (g : tG) : Prop := VAL g n 3 ∧ TOLD g0 g n ∧ PER g ∧ g 45 0 = nI d ∧ ∀ p w, p < 3 → w < 4 → 7 * w + 7 ≤ d → ¬ OPN g0 n g p w (7 * w + 6)
theorem CLO.next {g0 g : tG} {n d : Nat} (v0 : VAL g0 n 3) (h : CLO g0 n d g) (hd : d < 28) : CLO g0 n (d + 1) (fX8_close_w g) := by
  obtain ⟨h1, h2, h3, h4, h5⟩ := h
  obtain ⟨r1, r2, r3, r4, r5⟩ := close_one v0 h1 h2 h3 hd h4
  have per0 : PER g0 := fun k hk => by
    rw [← h2.1 9 (by decide) (by decide) (by decide), ← h2.1 10 (by decide) (by decide) (by decide)]; exact h3 k hk
  refine ⟨r1, r2, r2.per per0, r3, fun p w hp hw hd9 => ?_⟩
  by_cases c : w = d / 7
  · have e : d = 7 * w + 6 := by omega
    rw [← e, c]
    exact r4 p hp
  · unfold OPN
    rw [r5 p w hp hw c]
    exact h5 p w hp hw (by omega)
theorem CLO.settle {g0 g : tG} {n : Nat} (v0 : VAL g0 n 3) (h : CLO g0 n 28 g) {p w : Nat} (hp : p < 3) (hw : w < 4) :
    CLO g0 n 28 (fX8_settle_w g (nI p) (nI w)) ∧ ¬ 0 < fX8_settle_r g (nI p) (nI w) ∧ fX8_cardAnswer_r (fX8_settle_w g (nI p) (nI w)) (nI p) (4 + nI w) = fX8_ofWeek_r (fX8_settle_w g (nI p) (nI w)) (nI p) (nI w) 0 := by
  obtain ⟨h1, h2, h3, h4, h5⟩ := h
  have l11 : tc_len 11 = 16 := rfl
  have ev : ∀ w, w < 4 → (if (nI w * 7 + 7) < nI 28 then (nI w * 7 + 7) else nI 28) - 1 = nI (7 * w + 6) := by decide
  have e7 : (7 * w + 6) / 7 = w := by omega
  have ed : fX8_dueUpTo_r g (nI p) (nI (7 * w + 6)) = LU g0 (nI p) (nI n) (nI w) (nI (7 * w + 6)) - g 11 (p * 4 + w) := by
    rw [due_is h1 (by omega) (by omega), e7, LU_told v0 h1 h2]
  obtain ⟨u, hu⟩ : ∃ z, z = fX8_dueUpTo_w g (nI p) (nI (7 * w + 6)) := ⟨_, rfl⟩
  have k2 : KEEP g u := by rw [hu]; exact due_KEEP _ _ _
  have er : fX8_settle_r g (nI p) (nI w) = fX8_dueUpTo_r g (nI p) (nI (7 * w + 6)) := by
    unfold fX8_settle_r
    simp only [h4, ev w hw]
  have ew : fX8_settle_w g (nI p) (nI w) = fX0_charge_w u (nI p) (nI w) (fX8_dueUpTo_r g (nI p) (nI (7 * w + 6))) := by
    unfold fX8_settle_w
    simp only [h4, ev w hw, ← hu]
  have n1 : ¬ 0 < fX8_dueUpTo_r g (nI p) (nI (7 * w + 6)) := by rw [ed]; exact h5 p w hp hw (by omega)
  have e11 : ∀ k, fX8_settle_w g (nI p) (nI w) 11 k = if k = p * 4 + w then LU g0 (nI p) (nI n) (nI w) (nI (7 * w + 6)) else g 11 k := by
    intro k
    rw [ew, charge_11 (by omega) hw, k2.1 11 (by decide), ed]
    by_cases c : k = p * 4 + w
    · rw [if_pos c, if_pos c, c, Int32.add_comm, Int32.sub_add_cancel]
    · rw [if_neg c, if_neg c]
  have v9 : VAL (fX8_settle_w g (nI p) (nI w)) n 3 := by rw [ew]; exact charge_val (k2.val h1) _ _ _
  have t9 : TOLD g0 (fX8_settle_w g (nI p) (nI w)) n := by rw [ew]; exact (h2.tr k2.told).tr (charge_told _ _ _)
  have per0 : PER g0 := fun k hk => by
    rw [← h2.1 9 (by decide) (by decide) (by decide), ← h2.1 10 (by decide) (by decide) (by decide)]; exact h3 k hk
  refine ⟨⟨v9, t9, t9.per per0, ?_, fun p' w' hp' hw' hd => ?_⟩, by rw [er]; exact n1, ?_⟩
  · rw [ew, charge_oth _ _ _ (by decide) (by decide), k2.2.1 0 (by decide)]; exact h4
  · unfold OPN
    rw [e11]
    by_cases c : p' * 4 + w' = p * 4 + w
    · have c1 : p' = p := by omega
      have c2 : w' = w := by omega
      rw [if_pos c, c1, c2, Int32.sub_self]
      exact Int32.lt_irrefl
    · rw [if_neg c]; exact h5 p' w' hp' hw' hd
  · have ea : fX8_cardAnswer_r (fX8_settle_w g (nI p) (nI w)) (nI p) (4 + nI w) = LU g0 (nI p) (nI n) (nI w) (nI (7 * w + 6)) := by
      have n0 : ∀ w, w < 4 → ¬ (4 : Int32) + nI w = 0 ∧ ¬ (4 : Int32) + nI w = 1 ∧ ¬ (4 : Int32) + nI w = 2 ∧ ¬ (4 : Int32) + nI w = 3 := by decide
      obtain ⟨a0, a1, a2, a3⟩ := n0 w hw
      have ei : ∀ p, p < 3 → ∀ w, w < 4 → (nI p * 4 + (4 + nI w)) - 4 = nI (p * 4 + w) := by decide
      unfold fX8_cardAnswer_r
      rw [if_neg a0, if_neg a1, if_neg a2, if_neg a3, ei p hp w hw, gA_nI (by rw [l11]; omega) (by decide), e11, if_pos rfl]
    rw [ea]
    unfold fX8_ofWeek_r fX8_weekAnswer_r
    simp only [v9.1]
    rw [if_pos trivial, whole_LU _ _ hw, LU_told v0 v9 t9]
