/-! the digest goes by what is told -/
theorem isPerson_congr {g h : tG} (e9 : h 9 = g 9) (e3 : h 45 3 = g 45 3) (x : Int32) : fX0_isPerson_r h x = fX0_isPerson_r g x := by
  unfold fX0_isPerson_r
  rw [e3, gA_row e9]
theorem many_congr {g h : tG} {n : Nat} (s : SAME g h n) (x : Int32) : fX8_manyAnswer_r h x = fX8_manyAnswer_r g x := by
  have e8 : gS h 8 = gS g 8 := by unfold gS; rw [s.1 8 (by decide)]
  have e11 : gS h 11 = gS g 11 := by unfold gS; rw [s.1 11 (by decide)]
  unfold fX8_manyAnswer_r
  rw [e8, e11, s.2.2 3 (by decide), s.2.2 4 (by decide), s.2.2 5 (by decide), s.2.2 6 (by decide), s.2.2 0 (by decide), s.2.2 2 (by decide), s.2.2 1 (by decide)]
theorem countOf_congr {g h : tG} {n : Nat} (hn : g 45 4 = nI n) (h41 : n ≤ 41) (s : SAME g h n) (x : Int32) : fX6_countOf_r h x = fX6_countOf_r g x := by
  have hn' : h 45 4 = nI n := by rw [s.2.2 4 (by decide)]; exact hn
  have hl : lp (sX6_countOf_4 h x) (nn (nI n)) (nI 0, 0) = lp (sX6_countOf_4 g x) (nn (nI n)) (nI 0, 0) := by
    refine lp_rng (N := n) (by omega) (fun k t hk => ?_) (fun t => ?_) (fun t => ?_) _ _ (Nat.zero_le _)
    · have c1 : ¬ nI n ≤ nI k := nI_ge hk (by omega)
      have a13 : gA h 13 (nI k) = gA g 13 (nI k) := gA_eq (by show k < 41; omega) (by decide) (s.2.1 13 (by decide) (by decide) k hk)
      constructor
      · unfold sX6_countOf_4
        simp only [hn, hn', if_neg c1, a13]
      · intro u hu
        unfold sX6_countOf_4 at hu
        simp only [hn', if_neg c1] at hu
        split at hu
        · have e := Option.some.inj hu; rw [← e]; exact nI_1 k
        · have e := Option.some.inj hu; rw [← e]; exact nI_1 k
    · unfold sX6_countOf_4
      simp only [hn']
      rw [if_pos (Int32.le_refl _)]
    · unfold sX6_countOf_4
      simp only [hn]
      rw [if_pos (Int32.le_refl _)]
  unfold fX6_countOf_r
  simp only [hn, hn']
  exact congrArg (fun q => q.2) hl
theorem card_congr {g h : tG} {n : Nat} (hn : g 45 4 = nI n) (h41 : n ≤ 41) (s : SAME g h n) (x y : Int32) : fX8_cardAnswer_r h x y = fX8_cardAnswer_r g x y := by
  unfold fX8_cardAnswer_r
  rw [gA_row (s.1 8 (by decide)), gA_row (s.1 9 (by decide)), gA_row (s.1 10 (by decide)), gA_row (s.1 11 (by decide)), countOf_congr hn h41 s]
theorem lik93 {S T : tG} {nS nT : Nat} {lS lT : Nat → tL} (hS : RF S nS lS) (hT : RF T nT lT) (e : ∀ s, likF lS nS 27 s 1 = likF lT nT 27 s 1) (x : Int64) :
    (lp (sX8_digestPerson_93) 10 (0, x, S)).2.1 = (lp (sX8_digestPerson_93) 10 (0, x, T)).2.1 := by
  have h := lp_sim (f := sX8_digestPerson_93) (f' := sX8_digestPerson_93) (fun σ τ => σ.1 = τ.1 ∧ σ.2.1 = τ.2.1 ∧ RF σ.2.2 nS lS ∧ RF τ.2.2 nT lT) (fun σ τ ⟨h1, h2, h3, h4⟩ => by
    obtain ⟨i, a, g⟩ := σ
    obtain ⟨j, b, h⟩ := τ
    have h1 : i = j := h1
    have h2 : a = b := h2
    subst h1; subst h2
    have h3 : RF g nS lS := h3
    have h4 : RF h nT lT := h4
    by_cases c : (10 : Int32) ≤ i
    · left
      unfold sX8_digestPerson_93
      exact ⟨if_pos c, if_pos c⟩
    · right
      have rr : ∀ (u : tG) {m : Nat} {lk : Nat → tL}, RF u m lk → RF (fX3_likeliest_w u 27 i 1) m lk := fun u m lk hu => hu.rows (by rw [fjX3_likeliest u _ _ _ 45 (by decide)]) (fun r hr => fjX3_likeliest u _ _ _ (19 + r) (by
        intro hm
        have : 19 + r = 31 := by simpa using hm
        omega))
      refine ⟨(i + 1, (a * 31) + ((fX3_likeliest_r g 27 i 1).toInt64), fX3_likeliest_w g 27 i 1), (i + 1, (a * 31) + ((fX3_likeliest_r h 27 i 1).toInt64), fX3_likeliest_w h 27 i 1), ?_, ?_, rfl, ?_, rr g h3, rr h h4⟩
      · unfold sX8_digestPerson_93
        exact if_neg c
      · unfold sX8_digestPerson_93
        exact if_neg c
      · show (a * 31) + ((fX3_likeliest_r g 27 i 1).toInt64) = (a * 31) + ((fX3_likeliest_r h 27 i 1).toInt64)
        rw [lik_r h3, lik_r h4, e]) 10 (0, x, S) (0, x, T) ⟨rfl, rfl, hS, hT⟩
  exact h.2.1
theorem dper_congr {g h : tG} {n c : Nat} (vg : VAL g n c) (vh : VAL h n c) (s : SAME g h n) (x : Int64) (p : Int32) : fX8_digestPerson_r g x p = fX8_digestPerson_r h x p := by
  obtain ⟨v1, v2, v3, -, -, v6⟩ := vg
  obtain ⟨w1, -, w3, -, -, w6⟩ := vh
  have hn : n ≤ 41 := by omega
  obtain ⟨hA, hlik⟩ := study_AG hn v3 s v6 w6 p (-1)
  obtain ⟨O, hS⟩ := read_SL hn v3 p (-1)
  obtain ⟨O', hS'⟩ := read_SL hn w3 p (-1)
  have rS := hS.2.2.2.1.rows (study_457 g p (nI n) (-1)) (study_rows19 g p (nI n) (-1))
  have rT := hS'.2.2.2.1.rows (study_457 h p (nI n) (-1)) (study_rows19 h p (nI n) (-1))
  have e27 : ∀ q side, fX3_likeliest_r (fX8_study_w g p (nI n) (-1)) 27 q side = fX3_likeliest_r (fX8_study_w h p (nI n) (-1)) 27 q side := fun q side => hlik 27 (by decide) q side
  have el : ∀ q, likF _ _ 27 q 1 = likF _ _ 27 q 1 := fun q => (lik_r rS 27 q 1).symm.trans ((e27 q 1).trans (lik_r rT 27 q 1))
  have e19 : ∀ y : Int64, lp (sX8_digestPerson_19 (fX8_study_w g p (nI n) (-1))) 28 (nI 0, y) = lp (sX8_digestPerson_19 (fX8_study_w h p (nI n) (-1))) 28 (nI 0, y) := by
    intro y
    refine lp_rng (N := 28) (by decide) (fun k t hk => ?_) (fun t => ?_) (fun t => ?_) _ _ (Nat.zero_le _)
    · have c1 : ¬ (28 : Int32) ≤ nI k := nI_ge (b := 28) hk (by decide)
      constructor
      · unfold sX8_digestPerson_19
        simp only [if_neg c1, hA.ddig hk]
      · intro u hu
        unfold sX8_digestPerson_19 at hu
        simp only [if_neg c1] at hu
        have e := Option.some.inj hu; rw [← e]; exact nI_1 k
    · unfold sX8_digestPerson_19
      exact if_pos (show (28 : Int32) ≤ nI 28 by decide)
    · unfold sX8_digestPerson_19
      exact if_pos (show (28 : Int32) ≤ nI 28 by decide)
  have e19' : ∀ y : Int64, lp (sX8_digestPerson_19 (fX8_study_w g p (nI n) (-1))) 28 (0, y) = lp (sX8_digestPerson_19 (fX8_study_w h p (nI n) (-1))) 28 (0, y) := e19
  have e54 : ∀ i, sX8_digestPerson_54 (fX8_study_w g p (nI n) (-1)) i = sX8_digestPerson_54 (fX8_study_w h p (nI n) (-1)) i := by
    intro i
    funext σ
    unfold sX8_digestPerson_54
    simp only [hA.week]
  have e45 : sX8_digestPerson_45 (fX8_study_w g p (nI n) (-1)) = sX8_digestPerson_45 (fX8_study_w h p (nI n) (-1)) := by
    funext σ
    unfold sX8_digestPerson_45
    simp only [e54]
  unfold fX8_digestPerson_r
  simp only [v1, w1, e19', e45]
  exact lik93 rS rT el _
theorem digest_congr {g h : tG} {n c : Nat} (vg : VAL g n c) (vh : VAL h n c) (s : SAME g h n) : fX8_digest_r g = fX8_digest_r h := by
  have hn : n ≤ 41 := by have := vg.2.1; omega
  have e3 : h 45 3 = g 45 3 := s.2.2 3 (by decide)
  have e6 : sX8_digest_6 g = sX8_digest_6 h := by
    funext σ
    unfold sX8_digest_6
    simp only [many_congr s]
  have e47 : ∀ i, sX8_digest_47 g i = sX8_digest_47 h i := by
    intro i
    funext σ
    unfold sX8_digest_47
    simp only [card_congr vg.1 hn s]
  have e33 : sX8_digest_33 g = sX8_digest_33 h := by
    funext σ
    unfold sX8_digest_33
    simp only [e47, e3]
  have e83 : ∀ (N : Nat) (y : Int64), (lp (sX8_digest_83) N (0, y, g)).2.1 = (lp (sX8_digest_83) N (0, y, h)).2.1 := by
    intro N y
    have hh := lp_sim (f := sX8_digest_83) (f' := sX8_digest_83) (fun σ τ => σ.1 = τ.1 ∧ σ.2.1 = τ.2.1 ∧ KEEP g σ.2.2 ∧ KEEP h τ.2.2) (fun σ τ ⟨h1, h2, h3, h4⟩ => by
      obtain ⟨i, a, u⟩ := σ
      obtain ⟨j, b, v⟩ := τ
      have h1 : i = j := h1
      have h2 : a = b := h2
      subst h1; subst h2
      have h3 : KEEP g u := h3
      have h4 : KEEP h v := h4
      have su : SAME u v n := s.of h3 h4
      have vu := h3.val vg
      have vv := h4.val vh
      have q3 : v 45 3 = u 45 3 := su.2.2 3 (by decide)
      have qp : fX0_isPerson_r v i = fX0_isPerson_r u i := isPerson_congr (su.1 9 (by decide)) q3 i
      by_cases c1 : u 45 3 ≤ i
      · left
        unfold sX8_digest_83
        have c1' : v 45 3 ≤ i := by rw [q3]; exact c1
        exact ⟨if_pos c1, if_pos c1'⟩
      · have c1' : ¬ v 45 3 ≤ i := by rw [q3]; exact c1
        right
        by_cases c2 : fX0_isPerson_r u i = 0
        · refine ⟨(i + 1, a, u), (i + 1, a, v), ?_, ?_, rfl, rfl, h3, h4⟩
          · unfold sX8_digest_83
            exact (if_neg c1).trans (if_pos c2)
          · unfold sX8_digest_83
            exact (if_neg c1').trans (if_pos (qp.trans c2))
        · refine ⟨(i + 1, fX8_digestPerson_r u a i, fX8_digestPerson_w u a i), (i + 1, fX8_digestPerson_r v a i, fX8_digestPerson_w v a i), ?_, ?_, rfl, dper_congr vu vv su a i, h3.tr (dper_KEEP _ _ _), h4.tr (dper_KEEP _ _ _)⟩
          · unfold sX8_digest_83
            exact (if_neg c1).trans (if_neg c2)
          · unfold sX8_digest_83
            exact (if_neg c1').trans (if_neg (fun q => c2 (qp.symm.trans q)))) N (0, y, g) (0, y, h) ⟨rfl, rfl, KEEP.rf, KEEP.rf⟩
    exact hh.2.1
  unfold fX8_digest_r
  simp only [e6, e33, e3]
  exact e83 _ _
/-! questions -/
theorem ofWeek_congr {g h : tG} {n c : Nat} (vg : VAL g n c) (vh : VAL h n c) (s : SAME g h n) (p w what : Int32) : fX8_ofWeek_r g p w what = fX8_ofWeek_r h p w what := by
  obtain ⟨v1, v2, v3, -, -, v6⟩ := vg
  obtain ⟨w1, -, w3, -, -, w6⟩ := vh
  obtain ⟨hA, -⟩ := study_AG (by omega) v3 s v6 w6 p (-1)
  unfold fX8_ofWeek_r
  simp only [v1, w1]
  exact hA.week _ _
theorem due_congr {g h : tG} {n c : Nat} (vg : VAL g n c) (vh : VAL h n c) (s : SAME g h n) (p d : Int32) : fX8_dueUpTo_r g p d = fX8_dueUpTo_r h p d := by
  obtain ⟨v1, v2, v3, -, -, v6⟩ := vg
  obtain ⟨w1, -, w3, -, -, w6⟩ := vh
  obtain ⟨hA, -⟩ := study_AG (by omega) v3 s v6 w6 p (-1)
  unfold fX8_dueUpTo_r
  simp only [v1, w1, hA.least]
  rw [gA_row (j := 11) (((study_KEEP g p (nI n) (-1)).1 11 (by decide)).trans ((s.1 11 (by decide)).symm.trans ((study_KEEP h p (nI n) (-1)).1 11 (by decide)).symm))]
