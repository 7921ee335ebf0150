/-! what questions leave as it was; two states that are told alike -/
theorem cread_keep (g : tG) : ∀ w, w < 4 → fX1_read_w g 44 (5 * w) = g 44 (5 * w) := by
  obtain ⟨h, e, hK⟩ := cread1 g
  have e : lp (sX1_read_18) 28 (0, gF (gF g 41 0) 43 0) = (nI 28, h) := e
  have key : ∀ (k : Nat) (t : tG), k < 4 → (∀ w, w < 4 → t 44 (5 * w) = g 44 (5 * w)) → ∃ t', sX1_read_50 (nI k, t) = some (nI (k + 1), t') ∧ ∀ w, w < 4 → t' 44 (5 * w) = g 44 (5 * w) := by
    intro k t hk hI
    have c : ¬ (4 : Int32) ≤ nI k := nI_ge (b := 4) hk (by decide)
    obtain ⟨t1, e1, hV, hF⟩ := week_one hk (fX7_indexFor_r t (nI k * 7)) t
    have e1 : lp (sX1_read_68 (nI k) (fX7_indexFor_r t (nI k * 7))) 4 (1, t) = (nI 5, t1) := e1
    refine ⟨gP t1 42 (nI k) (fX1_choiceUpTo_r t1 (nI k) (fX1_lastDayOf_r t1 (nI k))), ?_, fun w hw => ?_⟩
    · unfold sX1_read_50
      simp only [if_neg c, e1]
      rw [← nI_1]
    · rw [gP_ne (by decide), hV (5 * w) (by omega), if_neg (by omega)]; exact hI w hw
  have fin : ∀ t : tG, (∀ w, w < 4 → t 44 (5 * w) = g 44 (5 * w)) → sX1_read_50 (nI 4, t) = none := by
    intro t _
    unfold sX1_read_50
    rw [if_pos (show (4 : Int32) ≤ nI 4 by decide)]
  obtain ⟨h2, e2, hI⟩ := lp_for (f := sX1_read_50) (N := 4) (fun _ t => ∀ w, w < 4 → t 44 (5 * w) = g 44 (5 * w)) key fin 4 0 h 4 (by omega) (by omega) (fun w hw => by rw [hK.2 44 (by decide)])
  have e2 : lp (sX1_read_50) 4 (0, h) = (nI 4, h2) := e2
  have rg : fX1_read_w g = h2 := by
    unfold fX1_read_w
    try simp only []
    rw [e]
    show (lp sX1_read_50 4 (0, h)).2 = h2
    rw [e2]
  rw [rg]
  exact hI
def KEEP (g h : tG) : Prop := (∀ j, j < 19 → h j = g j) ∧ (∀ k, k ≤ 6 → h 45 k = g 45 k) ∧ ∀ w, w < 4 → h 44 (5 * w) = g 44 (5 * w)
theorem KEEP.rf {g : tG} : KEEP g g := ⟨fun _ _ => rfl, fun _ _ => rfl, fun _ _ => rfl⟩
theorem KEEP.tr {a b c : tG} (h1 : KEEP a b) (h2 : KEEP b c) : KEEP a c := ⟨fun j hj => (h2.1 j hj).trans (h1.1 j hj), fun k hk => (h2.2.1 k hk).trans (h1.2.1 k hk), fun w hw => (h2.2.2 w hw).trans (h1.2.2 w hw)⟩
theorem notin_of {a : List Nat} {n j : Nat} (h : ∀ x, x ∈ a → n ≤ x) (hj : j < n) : j ∉ a := fun hm => Nat.lt_irrefl j (Nat.lt_of_lt_of_le hj (h j hm))
theorem study_KEEP (g : tG) (p n w : Int32) : KEEP g (fX8_study_w g p n w) := by
  refine ⟨fun j hj => fjX8_study g p n w j (notin_of (n := 19) (by decide) hj), fun k hk => fiX8_study g p n w k (notin_of (n := 7) (by decide) (by omega)), fun q hq => ?_⟩
  show fX1_read_w (fX2_read_w (fX3_read_w g n p w)) 44 (5 * q) = _
  rw [cread_keep _ q hq, fjX2_read _ 44 (by decide), fjX3_read g _ _ _ 44 (by decide)]
theorem lik_KEEP (g : tG) (a b c : Int32) : KEEP g (fX3_likeliest_w g a b c) :=
  ⟨fun j hj => fjX3_likeliest g a b c j (notin_of (n := 31) (by decide) (by omega)), fun k _ => by rw [fjX3_likeliest g a b c 45 (by decide)], fun w _ => by rw [fjX3_likeliest g a b c 44 (by decide)]⟩
theorem dper_KEEP (g : tG) (x : Int64) (p : Int32) : KEEP g (fX8_digestPerson_w g x p) := by
  unfold fX8_digestPerson_w
  try simp only []
  refine (study_KEEP g p (g 45 4) (-1)).tr ?_
  refine ⟨fun j hj => fjX8_digestPerson_93 _ _ j (notin_of (n := 31) (by decide) (by omega)), fun k _ => congrFun (fjX8_digestPerson_93 _ _ 45 (by decide)) k, fun w _ => congrFun (fjX8_digestPerson_93 _ _ 44 (by decide)) _⟩
theorem dig_KEEP (g : tG) : KEEP g (fX8_digest_w g) := by
  unfold fX8_digest_w
  try simp only []
  refine lp_inv (f := sX8_digest_83) (fun σ => KEEP g σ.2.2) (fun σ τ e hI => ?_) _ _ KEEP.rf
  unfold sX8_digest_83 at e
  split at e
  · cases e
  · split at e
    · have e9 := Option.some.inj e; rw [← e9]; exact hI
    · have e9 := Option.some.inj e; rw [← e9]; exact hI.tr (dper_KEEP _ _ _)
theorem ofDay_KEEP (g : tG) (a b c : Int32) : KEEP g (fX8_ofDay_w g a b c) := study_KEEP g a (g 45 4) (-1)
theorem ofLeg_KEEP (g : tG) (a b c d : Int32) : KEEP g (fX8_ofLeg_w g a b c d) := study_KEEP g a (g 45 4) (-1)
theorem ofWeek_KEEP (g : tG) (a b c : Int32) : KEEP g (fX8_ofWeek_w g a b c) := study_KEEP g a (g 45 4) (-1)
theorem due_KEEP (g : tG) (a b : Int32) : KEEP g (fX8_dueUpTo_w g a b) := study_KEEP g a (g 45 4) (-1)
theorem guess_KEEP (g : tG) (a b c d : Int32) : KEEP g (fX8_guess_w g a b c d) := (study_KEEP g a (g 45 4) (-1)).tr (lik_KEEP _ _ _ _)
/-- taps are in their bounds, so many of them; so many cards -/
def VAL (g : tG) (n c : Nat) : Prop := g 45 4 = nI n ∧ n ≤ 40 ∧ okT g n ∧ g 45 3 = nI c ∧ c ≤ 4 ∧ ∀ w, w < 4 → g 44 (5 * w) = 0
def SAME (g h : tG) (n : Nat) : Prop := (∀ j, j < 13 → h j = g j) ∧ (∀ j, 13 ≤ j → j < 19 → ∀ a, a < n → h j a = g j a) ∧ ∀ k, k ≤ 6 → h 45 k = g 45 k
theorem okT.congr {g h : tG} {n : Nat} (hT : okT g n) (e : ∀ j, 13 ≤ j → j < 19 → ∀ a, a < n → h j a = g j a) : okT h n := fun a ha => by
  rw [e 17 (by decide) (by decide) a ha, e 18 (by decide) (by decide) a ha]
  exact hT a ha
theorem KEEP.val {g h : tG} {n c : Nat} (k : KEEP g h) (v : VAL g n c) : VAL h n c := by
  obtain ⟨v1, v2, v3, v4, v5, v6⟩ := v
  exact ⟨by rw [k.2.1 4 (by decide)]; exact v1, v2, v3.congr (fun j _ h2 a _ => by rw [k.1 j h2]), by rw [k.2.1 3 (by decide)]; exact v4, v5, fun w hw => by rw [k.2.2 w hw]; exact v6 w hw⟩
theorem KEEP.same {g h : tG} {n : Nat} (k : KEEP g h) : SAME g h n := ⟨fun j hj => k.1 j (by omega), fun j _ h2 a _ => by rw [k.1 j h2], k.2.1⟩
theorem SAME.tr {a b c : tG} {n : Nat} (h1 : SAME a b n) (h2 : SAME b c n) : SAME a c n := ⟨fun j hj => (h2.1 j hj).trans (h1.1 j hj), fun j q1 q2 i hi => (h2.2.1 j q1 q2 i hi).trans (h1.2.1 j q1 q2 i hi), fun k hk => (h2.2.2 k hk).trans (h1.2.2 k hk)⟩
theorem SAME.sy {a b : tG} {n : Nat} (h : SAME a b n) : SAME b a n := ⟨fun j hj => (h.1 j hj).symm, fun j q1 q2 i hi => (h.2.1 j q1 q2 i hi).symm, fun k hk => (h.2.2 k hk).symm⟩
theorem SAME.rf {a : tG} {n : Nat} : SAME a a n := ⟨fun _ _ => rfl, fun _ _ _ _ _ => rfl, fun _ _ => rfl⟩
theorem SAME.of {g g' h h' : tG} {n : Nat} (s : SAME g h n) (k1 : KEEP g g') (k2 : KEEP h h') : SAME g' h' n := (k1.same.sy).tr (s.tr k2.same)
/-- the rows that a study's costs leave -/
theorem ROWS.mono {S T S' T' : tG} {n1 m1 : Nat} (h : ROWS S T n1 m1) (eS : ∀ j, 19 ≤ j → j < 41 → S' j = S j) (eT : ∀ j, 19 ≤ j → j < 41 → T' j = T j) : ROWS S' T' n1 m1 := by
  obtain ⟨h1, h2, h3, h4, h5, h6, h7⟩ := h
  have jr : ∀ r, r < 5 → 19 ≤ jrow r ∧ jrow r < 41 := by decide
  refine ⟨h1, h2, fun r hr i hi => ?_, fun i hi => ?_, fun r hr i hi => ?_, fun i hi => ?_, fun j hj => ?_⟩
  · rw [eS _ (by omega) (by omega), eT _ (by omega) (by omega)]; exact h3 r hr i hi
  · rw [eS 35 (by decide) (by decide), eT 35 (by decide) (by decide)]; exact h4 i hi
  · rw [eS _ (jr r hr).1 (jr r hr).2, eT _ (jr r hr).1 (jr r hr).2]; exact h5 r hr i hi
  · rw [eS 34 (by decide) (by decide), eT 34 (by decide) (by decide)]; exact h6 i hi
  · rw [eS 39 (by decide) (by decide), eS 32 (by decide) (by decide)]; exact h7 j hj
theorem DAY.mono {S T S' T' : tG} {n1 m1 d : Nat} (h : DAY S T n1 m1 d) (eS : ∀ j, 19 ≤ j → j < 41 → S' j = S j) (eT : ∀ j, 19 ≤ j → j < 41 → T' j = T j) : DAY S' T' n1 m1 d := by
  obtain ⟨h1, h2, h3, h4, h5, h6, h7⟩ := h
  refine ⟨?_, ?_, ?_, ?_, ?_, ?_, ?_⟩
  · rw [eS 26 (by decide) (by decide), eT 26 (by decide) (by decide)]; exact h1
  · rw [eS 27 (by decide) (by decide), eT 27 (by decide) (by decide)]; exact h2
  · rw [eS 28 (by decide) (by decide), eT 28 (by decide) (by decide)]; exact h3
  · rw [eS 36 (by decide) (by decide), eT 36 (by decide) (by decide)]; exact h4
  · rw [eS 37 (by decide) (by decide), eT 37 (by decide) (by decide)]; exact h5
  · rw [eS 26 (by decide) (by decide), eS 27 (by decide) (by decide)]; exact h6
  · rw [eS 36 (by decide) (by decide), eS 37 (by decide) (by decide)]; exact h7
theorem cread_rows (S : tG) : ∀ j, 19 ≤ j → j < 41 → fX1_read_w S j = S j := fun j _ h2 => fjX1_read S j (fun hm => by
  have : j = 41 ∨ j = 42 ∨ j = 43 ∨ j = 44 := by simpa using hm
  omega)
theorem study_rows19 (g : tG) (p n w : Int32) : ∀ r, r < 7 → fX8_study_w g p n w (19 + r) = fX3_read_w g n p w (19 + r) := by
  intro r hr
  show fX1_read_w (fX2_read_w (fX3_read_w g n p w)) (19 + r) = _
  rw [cread_rows _ (19 + r) (by omega) (by omega), fjX2_read _ (19 + r) (by
    intro hm9
    have : 19 + r = 32 ∨ 19 + r = 33 ∨ 19 + r = 34 ∨ 19 + r = 35 ∨ 19 + r = 36 ∨ 19 + r = 37 ∨ 19 + r = 38 ∨ 19 + r = 39 ∨ 19 + r = 40 ∨ 19 + r = 45 := by simpa using hm9
    omega)]
theorem study_457 (g : tG) (p n w : Int32) : fX8_study_w g p n w 45 7 = fX3_read_w g n p w 45 7 := by
  show fX1_read_w (fX2_read_w (fX3_read_w g n p w)) 45 7 = _
  rw [fjX1_read _ 45 (by decide), fiX2_read _ 7 (by decide)]
/-- a study's likeliest is that of its legs -/
theorem study_lik {g : tG} {n : Nat} {p w : Int32} {O : List Nat} (hS : SL g (fX3_read_w g (nI n) p w) n p w O) (a b c : Int32) : fX3_likeliest_r (fX8_study_w g p (nI n) w) a b c = fX3_likeliest_r (fX3_read_w g (nI n) p w) a b c := by
  have hR := hS.2.2.2.1
  rw [lik_r hR, lik_r (hR.rows (study_457 g p (nI n) w) (study_rows19 g p (nI n) w))]
theorem O_same {g h : tG} {n : Nat} {p w : Int32} {O O' : List Nat} {S T : tG} (hT : okT g n) (e9 : h 9 = g 9) (et : ∀ j, 13 ≤ j → j < 19 → ∀ a, a < n → h j a = g j a) (hS : SL g S n p w O) (hT' : SL h T n p w O') : O' = O ∧ O'.map (tapV h) = O.map (tapV g) := by
  obtain ⟨s1, m1, -⟩ := hS
  obtain ⟨s2, m2, -⟩ := hT'
  have hmo : ∀ a, a < n → momT h a = momT g a := fun a ha => by
    unfold momT
    rw [et 17 (by decide) (by decide) a ha, et 18 (by decide) (by decide) a ha]
  have hsel : ∀ a, a < n → (selT h p w a ↔ selT g p w a) := fun a ha => by
    unfold selT
    rw [et 17 (by decide) (by decide) a ha, et 13 (by decide) (by decide) a ha, gA_row e9]
  have s3 : O'.Pairwise (bef (momT g)) := List.Pairwise.imp_of_mem (fun {a b} ha hb hab => by
    unfold bef at hab ⊢
    rw [hmo a ((m2 a).mp ha).1, hmo b ((m2 b).mp hb).1] at hab
    exact hab) s2
  have eO : O' = O := sorted_unique (R := bef (momT g)) (fun a q => by
      rcases q with q | q
      · exact absurd q Int32.lt_irrefl
      · exact absurd q.2 (Nat.lt_irrefl a)) (fun a b q r => by
      rcases q with q | q
      · rcases r with r | r
        · exact absurd (Int32.lt_trans q r) Int32.lt_irrefl
        · rw [r.1] at q; exact absurd q Int32.lt_irrefl
      · rcases r with r | r
        · rw [q.1] at r; exact absurd r Int32.lt_irrefl
        · have h1 := q.2
          have h2 := r.2
          omega) O' O s3 s1 (fun x => by
      rw [m1 x, m2 x]
      constructor
      · intro q; exact ⟨q.1, (hsel x q.1).mp q.2⟩
      · intro q; exact ⟨q.1, (hsel x q.1).mpr q.2⟩)
  refine ⟨eO, ?_⟩
  rw [eO]
  refine List.map_congr_left (fun a ha => ?_)
  have ha := ((m1 a).mp ha).1
  funext r
  unfold tapV
  rw [et 17 (by decide) (by decide) a ha, et 18 (by decide) (by decide) a ha, et 14 (by decide) (by decide) a ha, et 15 (by decide) (by decide) a ha, et 16 (by decide) (by decide) a ha]
/-- two studies of what is told alike -/
theorem study_AG' {g h : tG} {n : Nat} (hn : n ≤ 41) (hT : okT g n) (e13 : ∀ j, j < 13 → j ≠ 8 → j ≠ 11 → h j = g j) (et : ∀ j, 13 ≤ j → j < 19 → ∀ a, a < n → h j a = g j a) (e2 : h 45 2 = g 45 2) (hg44 : ∀ w, w < 4 → g 44 (5 * w) = 0) (hh44 : ∀ w, w < 4 → h 44 (5 * w) = 0) (p w : Int32) :
    AG (fX8_study_w g p (nI n) w) (fX8_study_w h p (nI n) w) ∧ ∀ d, d ≤ 28 → ∀ s side, fX3_likeliest_r (fX8_study_w g p (nI n) w) (nI d) s side = fX3_likeliest_r (fX8_study_w h p (nI n) w) (nI d) s side := by
  have hT' : okT h n := hT.congr et
  obtain ⟨O, hS⟩ := read_SL hn hT p w
  obtain ⟨O', hS'⟩ := read_SL hn hT' p w
  obtain ⟨eO, eV⟩ := O_same hT (e13 9 (by decide) (by decide) (by decide)) et hS hS'
  have k3 : ∀ (u : tG) j, j < 19 → fX3_read_w u (nI n) p w j = u j := fun u j hj => fjX3_read u _ _ _ j (notin_of (n := 19) (by decide) hj)
  have te : tar_eq (fX3_read_w g (nI n) p w) (fX3_read_w h (nI n) p w) := ⟨fun j h1 h2 => by rw [k3 h j (by omega), k3 g j (by omega)]; exact e13 j (by omega) (by omega) (by omega), by
    rw [fiX3_read h _ _ _ 2 (by decide), fiX3_read g _ _ _ 2 (by decide)]; exact e2⟩
  obtain ⟨⟨n1, m1, hR, hD⟩, hlik⟩ := pre_alike hT hT' hS hS' (Nat.le_refl 28) (by rw [eV]) (by rw [k3 h 0 (by decide), k3 g 0 (by decide)]; exact e13 0 (by decide) (by decide) (by decide)) te
  obtain ⟨S2, f1⟩ : ∃ q, q = fX2_read_w (fX3_read_w g (nI n) p w) := ⟨_, rfl⟩
  obtain ⟨T2, f2⟩ : ∃ q, q = fX2_read_w (fX3_read_w h (nI n) p w) := ⟨_, rfl⟩
  rw [← f1, ← f2] at hR hD
  have kS : ∀ j, j < 19 → S2 j = g j := fun j hj => by rw [f1, fjX2_read _ j (notin_of (n := 32) (by decide) (by omega)), k3 g j hj]
  have kT : ∀ j, j < 19 → T2 j = h j := fun j hj => by rw [f2, fjX2_read _ j (notin_of (n := 32) (by decide) (by omega)), k3 h j hj]
  have te2 : tar_eq S2 T2 := ⟨fun j h1 h2 => by rw [kT j (by omega), kS j (by omega)]; exact e13 j (by omega) (by omega) (by omega), by
    rw [f2, f1, fiX2_read _ 2 (by decide), fiX2_read _ 2 (by decide)]; exact te.2⟩
  have q44 : ∀ u, u < 4 → T2 44 (5 * u) = S2 44 (5 * u) := fun u hu => by
    rw [f2, f1, fjX2_read _ 44 (by decide), fjX2_read _ 44 (by decide), fjX3_read h _ _ _ 44 (by decide), fjX3_read g _ _ _ 44 (by decide), hg44 u hu, hh44 u hu]
  obtain ⟨c43, c41, c44, c42⟩ := cread_congr te2 (fun d hd => ⟨(gA_eq (j := 37) hd (by decide) (hD d hd).2.2.2.2.1).symm, fun z => (fares_day hR hd (hD d hd) z).symm⟩) q44
  have eS : fX8_study_w g p (nI n) w = fX1_read_w S2 := by rw [f1]; rfl
  have eT : fX8_study_w h p (nI n) w = fX1_read_w T2 := by rw [f2]; rfl
  refine ⟨?_, fun d hd s side => ?_⟩
  · rw [eS, eT]
    refine ⟨⟨n1, m1, hR.mono (cread_rows S2) (cread_rows T2), fun d hd => (hD d hd).mono (cread_rows S2) (cread_rows T2)⟩, fun i hi => (c43 i hi).symm, fun i hi => (c41 i hi).symm, fun i hi => (c44 i hi).symm, fun u hu => (c42 u hu).symm, fun j hj h8 h11 => ?_⟩
    rw [fjX1_read S2 j (notin_of (n := 41) (by decide) (by omega)), fjX1_read T2 j (notin_of (n := 41) (by decide) (by omega)), kS j (by omega), kT j (by omega)]
    exact (e13 j hj h8 h11).symm
  · rw [study_lik hS, study_lik hS']
    exact hlik d hd s side
theorem study_AG {g h : tG} {n : Nat} (hn : n ≤ 41) (hT : okT g n) (hs : SAME g h n) (hg44 : ∀ w, w < 4 → g 44 (5 * w) = 0) (hh44 : ∀ w, w < 4 → h 44 (5 * w) = 0) (p w : Int32) :
    AG (fX8_study_w g p (nI n) w) (fX8_study_w h p (nI n) w) ∧ ∀ d, d ≤ 28 → ∀ s side, fX3_likeliest_r (fX8_study_w g p (nI n) w) (nI d) s side = fX3_likeliest_r (fX8_study_w h p (nI n) w) (nI d) s side :=
  study_AG' hn hT (fun j hj _ _ => hs.1 j hj) hs.2.1 (hs.2.2 2 (by decide)) hg44 hh44 p w
