/-! the leg of a tap that is alone on its day -/
theorem filter_isLo {V : List tL} {D E : Nat} (h : ∀ t, isLo D t = true → isLo E t = true) : (V.filter (isLo E)).filter (isLo D) = V.filter (isLo D) := by
  rw [List.filter_filter]
  refine List.filter_congr (fun t _ => ?_)
  cases c : isLo D t with
  | true => rw [h t c]; rfl
  | false => rfl
theorem lo_mono {D E : Nat} (h : D ≤ E) (hE : E ≤ 28) (t : tL) (q : isLo D t = true) : isLo E t = true := by
  unfold isLo at q ⊢
  rw [decide_eq_true_iff, Int32.lt_iff_toInt_lt, nI_toInt (by omega)] at q ⊢
  omega
/-- the taps before a day, that day's only tap, the taps behind -/
theorem V_three {g : tG} {n : Nat} {O : List Nat} (hT : okT g n) (hs : O.Pairwise (bef (momT g))) (hm : ∀ a, a ∈ O → a < n) {D : Nat} (hD : D < 28) {a : Nat} (ha : a ∈ O) (haD : g 17 a = nI D) (h1 : (O.map (g 17)).count (nI D) = 1) :
    ∃ up : List tL, O.map (tapV g) = (O.map (tapV g)).filter (isLo D) ++ (tapV g a :: up) ∧ ∀ t, t ∈ up → ∃ d, D + 1 ≤ d ∧ d < 28 ∧ t 0 = nI d := by
  have s1 := V_split (p := 0) (w := 0) hT hs hm (D := D + 1) (by omega)
  obtain ⟨up, hup⟩ : ∃ q, q = (O.map (tapV g)).filter (fun t => !isLo (D + 1) t) := ⟨_, rfl⟩
  have dup : ∀ t, t ∈ up → ∃ d, D + 1 ≤ d ∧ d < 28 ∧ t 0 = nI d := fun t ht => hi_day hT hm (by omega) (by rw [← hup]; exact ht)
  obtain ⟨le, hle⟩ : ∃ q, q = (O.map (tapV g)).filter (isLo (D + 1)) := ⟨_, rfl⟩
  rw [← hup, ← hle] at s1
  have pw : le.Pairwise (fun x y => isLo D y = true → isLo D x = true) := by
    have q : (O.map (tapV g)).Pairwise (fun x y => isLo D y = true → isLo D x = true) := by
      rw [List.pairwise_map]
      refine List.Pairwise.imp_of_mem (fun {x y} hx hy hxy q => ?_) hs
      unfold isLo at q ⊢
      rw [decide_eq_true_iff] at q ⊢
      exact bef_day hT (hm x hx) (hm y hy) hxy (by omega) q
    rw [s1] at q
    exact (List.pairwise_append.mp q).1
  have s2 := filter_split (isLo D) le pw
  have e1 : le.filter (isLo D) = (O.map (tapV g)).filter (isLo D) := by
    rw [hle]
    exact filter_isLo (fun t q => lo_mono (Nat.le_succ D) (by omega) t q)
  obtain ⟨mid, hmid⟩ : ∃ q, q = le.filter (fun t => !isLo D t) := ⟨_, rfl⟩
  rw [e1, ← hmid] at s2
  have dmid : ∀ t, t ∈ mid → t 0 = nI D := by
    intro t ht
    rw [hmid] at ht
    obtain ⟨q1, q2⟩ := List.mem_filter.mp ht
    rw [hle] at q1
    obtain ⟨d, hd, e⟩ := lo_day hT hm (D := D + 1) (by omega) q1
    have q3 : ¬ t 0 < nI D := by
      intro q
      unfold isLo at q2
      rw [decide_eq_true q] at q2
      cases q2
    rw [e] at q3 ⊢
    have : ¬ d < D := fun q => q3 ((nI_ltI (by omega) (by omega)).mpr q)
    rw [show d = D by omega]
  have ea : O.map (g 17) = (O.map (tapV g)).map (fun t => t 0) := by rw [List.map_map]; rfl
  have hlo0 : List.count (nI D) (((O.map (tapV g)).filter (isLo D)).map (fun t => t 0)) = 0 := List.count_eq_zero.mpr (fun hm9 => by
    obtain ⟨t, ht, e⟩ := List.mem_map.mp hm9
    obtain ⟨d, hd, e2⟩ := lo_day hT hm (by omega) ht
    rw [e2] at e
    have := (nI_eq (by omega) (by omega)).mp e
    omega)
  have hup0 : List.count (nI D) (up.map (fun t => t 0)) = 0 := List.count_eq_zero.mpr (fun hm9 => by
    obtain ⟨t, ht, e⟩ := List.mem_map.mp hm9
    obtain ⟨d, hd, hd2, e2⟩ := dup t ht
    rw [e2] at e
    have := (nI_eq (by omega) (by omega)).mp e
    omega)
  have hmidc : List.count (nI D) (mid.map (fun t => t 0)) = mid.length := by
    have : ∀ l : List tL, (∀ t, t ∈ l → t 0 = nI D) → List.count (nI D) (l.map (fun t => t 0)) = l.length := by
      intro l
      induction l with
      | nil => intro _; rfl
      | cons x l ih =>
        intro h
        rw [List.map_cons, h x List.mem_cons_self, List.count_cons_self, ih (fun t ht => h t (List.mem_cons_of_mem _ ht)), List.length_cons]
    exact this mid dmid
  have hlen : mid.length = 1 := by
    rw [ea, s1, s2, List.map_append, List.map_append, List.count_append, List.count_append, hlo0, hup0, hmidc] at h1
    omega
  have hain : tapV g a ∈ mid := by
    have h2 : tapV g a ∈ O.map (tapV g) := List.mem_map.mpr ⟨a, ha, rfl⟩
    rw [s1, s2] at h2
    rcases List.mem_append.mp h2 with q | q
    · rcases List.mem_append.mp q with q | q
      · obtain ⟨d, hd, e⟩ := lo_day hT hm (by omega) q
        have e2 : nI D = nI d := haD.symm.trans e
        have := (nI_eq (by omega) (by omega)).mp e2
        omega
      · exact q
    · obtain ⟨d, hd, hd2, e⟩ := dup _ q
      have e2 : nI D = nI d := haD.symm.trans e
      have := (nI_eq (by omega) (by omega)).mp e2
      omega
  have emid : mid = [tapV g a] := by
    obtain ⟨x, e⟩ := List.length_eq_one_iff.mp hlen
    rw [e] at hain ⊢
    rw [List.mem_singleton.mp hain]
  refine ⟨up, ?_, dup⟩
  rw [emid] at s2
  rw [s2, List.append_assoc] at s1
  exact s1
/-- one tap makes one leg -/
theorem one_leg (t : tL) : legsL [t] = [mkL (t 0) (t 2) (t 1) (t 3) (if t 4 = 0 then 1 else 2)] := by
  unfold legsL
  show stepL [] t = _
  unfold stepL inL outL
  have c0 : ¬ 0 < cntL [] (t 0) := Nat.lt_irrefl 0
  split
  · rename_i c
    rw [if_neg (fun q => c0 q.1), if_neg (fun q => c0 q.1)]; rfl
  · rename_i c
    rw [if_neg (fun q => c0 q.1)]; rfl
/-- the guess that is told is the one that the leg gets -/
theorem guess_leg {g h : tG} {n : Nat} (hn : n ≤ 40) (hg : okT g n) (hh : okT h (n + 1)) (e13 : ∀ j, j < 13 → h j = g j) (et : ∀ j, 13 ≤ j → j < 19 → ∀ a, a < n → h j a = g j a)
    {p s m l i : Int32} {D : Nat} (hD : D < 28) (hp : gA h 9 (h 13 n) = p) (h17 : h 17 n = nI D) (h14 : h 14 n = s) (h16 : h 16 n = i)
    (h27 : fX8_study_w h p (nI (n + 1)) (-1) 27 D = 1) (h28 : fX8_study_w h p (nI (n + 1)) (-1) 28 D = 1) :
    ∃ f, f < 41 ∧ fX8_study_w h p (nI (n + 1)) (-1) 26 D = nI f ∧ fX8_study_w h p (nI (n + 1)) (-1) 25 f = (if i = 0 then 1 else 2) ∧
      (if i = 0 then fX8_study_w h p (nI (n + 1)) (-1) 20 f = fX3_likeliest_r (fX8_study_w g p (nI n) (-1)) (nI D) s 0 else fX8_study_w h p (nI (n + 1)) (-1) 21 f = fX3_likeliest_r (fX8_study_w g p (nI n) (-1)) (nI D) s 1) := by
  obtain ⟨O, hS⟩ := read_SL (by omega) hg p (-1)
  obtain ⟨O', hS'⟩ := read_SL (by omega) hh p (-1)
  have m' := hS'.2.1
  have hm1 : ∀ a, a ∈ O' → a < n + 1 := fun a ha => ((m' a).mp ha).1
  have nm1 : ∀ d, d < 28 → ¬ nI d = -1 := fun d hd => by
    intro q
    have : ∀ d, d < 28 → ¬ nI d = -1 := by decide
    exact this d hd q
  have hnO : n ∈ O' := (m' n).mpr ⟨Nat.lt_succ_self n, by unfold selT; rw [h17]; exact ⟨nm1 D hD, hp⟩⟩
  -- rows of the study are those of the legs
  have k25 : ∀ r, r < 7 → fX8_study_w h p (nI (n + 1)) (-1) (19 + r) = fX3_read_w h (nI (n + 1)) p (-1) (19 + r) := study_rows19 h p (nI (n + 1)) (-1)
  have kd : ∀ j, 26 ≤ j → j < 29 → fX8_study_w h p (nI (n + 1)) (-1) j = fX3_read_w h (nI (n + 1)) p (-1) j := fun j j1 j2 => by
    show fX1_read_w (fX2_read_w (fX3_read_w h (nI (n + 1)) p (-1))) j = _
    rw [cread_rows _ j (by omega) (by omega), fjX2_read _ j (notin_of (n := 32) (by decide) (by omega))]
  rw [kd 28 (by decide) (by decide), (hS'.2.2.2.2 D hD).2.2] at h28
  have hO41 : O'.length ≤ 41 := by have := hS'.2.2.1; omega
  have hc1 : (O'.map (h 17)).count (nI D) = 1 := by
    have hb : (O'.map (h 17)).count (nI D) ≤ O'.length := Nat.le_trans List.count_le_length (by rw [List.length_map]; exact Nat.le_refl _)
    exact (nI_eq (b := 1) (by omega) (by decide)).mp h28
  obtain ⟨up, hV, dup⟩ := V_three hh hS'.1 hm1 hD hnO h17 hc1
  -- the taps before are the same
  have hlo : (O'.map (tapV h)).filter (isLo D) = (O.map (tapV g)).filter (isLo D) := by
    have hmo : ∀ a, a < n → momT h a = momT g a := fun a ha => by
      unfold momT
      rw [et 17 (by decide) (by decide) a ha, et 18 (by decide) (by decide) a ha]
    have htv : ∀ a, a < n → tapV h a = tapV g a := fun a ha => by
      funext r
      unfold tapV
      rw [et 17 (by decide) (by decide) a ha, et 18 (by decide) (by decide) a ha, et 14 (by decide) (by decide) a ha, et 15 (by decide) (by decide) a ha, et 16 (by decide) (by decide) a ha]
    have hlt : ∀ a, a ∈ O'.filter (fun a => isLo D (tapV h a)) → a < n := fun a ha => by
      obtain ⟨q1, q2⟩ := List.mem_filter.mp ha
      rcases Nat.eq_or_lt_of_le (Nat.le_of_lt_succ (hm1 a q1)) with e | e
      · subst e
        have q3 : isLo D (tapV h a) = false := by
          unfold isLo
          refine decide_eq_false (fun q => ?_)
          have q : h 17 a < nI D := q
          rw [h17] at q
          exact absurd q Int32.lt_irrefl
        rw [q3] at q2
        cases q2
      · exact e
    have eO : O'.filter (fun a => isLo D (tapV h a)) = O.filter (fun a => isLo D (tapV g a)) := by
      refine sorted_unique (R := bef (momT g)) (fun a q => by
        rcases q with q | q
        · exact absurd q Int32.lt_irrefl
        · exact absurd q.2 (Nat.lt_irrefl a)) (fun a b q r => by
        rcases q with q | q
        · rcases r with r | r
          · exact absurd (Int32.lt_trans q r) Int32.lt_irrefl
          · rw [r.1] at q; exact absurd q Int32.lt_irrefl
        · rcases r with r | r
          · rw [q.1] at r; exact absurd r Int32.lt_irrefl
          · have h1 := q.2
            have h2 := r.2
            omega) _ _ ?_ (List.Pairwise.filter _ hS.1) (fun x => ?_)
      · refine List.Pairwise.imp_of_mem (fun {a b} ha hb hab => ?_) (List.Pairwise.filter _ hS'.1)
        unfold bef at hab ⊢
        rw [hmo a (hlt a ha), hmo b (hlt b hb)] at hab
        exact hab
      · rw [List.mem_filter, List.mem_filter, m' x, hS.2.1 x]
        have hsel : x < n → (selT h p (-1) x ↔ selT g p (-1) x) := fun hx => by
          unfold selT
          rw [et 17 (by decide) (by decide) x hx, et 13 (by decide) (by decide) x hx, gA_row (e13 9 (by decide))]
        constructor
        · intro q
          have hx := hlt x (List.mem_filter.mpr ⟨(m' x).mpr q.1, q.2⟩)
          exact ⟨⟨hx, (hsel hx).mp q.1.2⟩, by rw [← htv x hx]; exact q.2⟩
        · intro q
          exact ⟨⟨by omega, (hsel q.1.1).mpr q.1.2⟩, by rw [htv x q.1.1]; exact q.2⟩
    rw [List.filter_map, List.filter_map]
    show (O'.filter (fun a => isLo D (tapV h a))).map (tapV h) = (O.filter (fun a => isLo D (tapV g a))).map (tapV g)
    rw [← eO]
    exact List.map_congr_left (fun a ha => htv a (hlt a ha))
  have hm0 : ∀ a, a ∈ O → a < n := fun a ha => ((hS.2.1 a).mp ha).1
  rw [hlo] at hV
  -- the legs of both
  have hVg := V_split (p := p) (w := (-1)) hg hS.1 hm0 (D := D) (by omega)
  obtain ⟨lo, elo⟩ : ∃ q, q = (O.map (tapV g)).filter (isLo D) := ⟨_, rfl⟩
  obtain ⟨hi, ehi⟩ : ∃ q, q = (O.map (tapV g)).filter (fun t => !isLo D t) := ⟨_, rfl⟩
  have dlo : ∀ t, t ∈ lo → ∃ d, d < D ∧ t 0 = nI d := fun t ht => lo_day hg hm0 (by omega) (by rw [← elo]; exact ht)
  have dhi : ∀ t, t ∈ hi → ∃ d, D ≤ d ∧ d < 28 ∧ t 0 = nI d := fun t ht => hi_day hg hm0 (by omega) (by rw [← ehi]; exact ht)
  rw [← elo] at hV hVg
  rw [← ehi] at hVg
  have dt : ∀ t, t ∈ tapV h n :: up → ∃ d, D ≤ d ∧ d < 28 ∧ t 0 = nI d := fun t ht => by
    rcases List.mem_cons.mp ht with e | e
    · exact ⟨D, Nat.le_refl _, hD, by rw [e]; exact h17⟩
    · obtain ⟨d, h1, h2, h3⟩ := dup t e
      exact ⟨d, by omega, h2, h3⟩
  have dis : ∀ (b : List tL), (∀ t, t ∈ b → ∃ d, D ≤ d ∧ d < 28 ∧ t 0 = nI d) → ∀ a, a ∈ lo → ∀ t, t ∈ b → a 0 ≠ t 0 := fun b hb a ha t ht e => by
    obtain ⟨d, h1, e1⟩ := dlo a ha
    obtain ⟨d', h2, h3, e2⟩ := hb t ht
    rw [e1, e2] at e
    have := (nI_eq (by omega) (by omega)).mp e
    omega
  have hL' : legsL (O'.map (tapV h)) = legsL lo ++ (legsL [tapV h n] ++ legsL up) := by
    rw [hV, legsL_app (dis _ dt)]
    congr 1
    exact legsL_app (lo := [tapV h n]) (hi := up) (fun a ha t ht e => by
      rw [List.mem_singleton.mp ha] at e
      obtain ⟨d, h1, h2, h3⟩ := dup t ht
      have e2 : nI D = nI d := (show tapV h n 0 = nI D from h17).symm.trans (e.trans h3)
      have := (nI_eq (by omega) (by omega)).mp e2
      omega)
  have hL : legsL (O.map (tapV g)) = legsL lo ++ legsL hi := by rw [hVg, legsL_app (dis _ dhi)]
  obtain ⟨x, hx⟩ : ∃ q, q = mkL (tapV h n 0) (tapV h n 2) (tapV h n 1) (tapV h n 3) (if tapV h n 4 = 0 then 1 else 2) := ⟨_, rfl⟩
  have hx0 : x 0 = nI D := by rw [hx]; exact h17
  have hx1 : x 1 = s := by rw [hx]; exact h14
  have hx2 : x 2 = s := by rw [hx]; exact h14
  have hx6 : x 6 = if i = 0 then 1 else 2 := by rw [hx]; show (if h 16 n = 0 then (1 : Int32) else 2) = _; rw [h16]
  rw [one_leg, ← hx] at hL'
  have dB : ∀ l, l ∈ [x] ++ legsL up → ∃ d, D ≤ d ∧ d < 28 ∧ l 0 = nI d := fun l hl => by
    rcases List.mem_append.mp hl with e | e
    · exact ⟨D, Nat.le_refl _, hD, by rw [List.mem_singleton.mp e]; exact hx0⟩
    · obtain ⟨t, ht, e2⟩ := legsL_days e
      obtain ⟨d, h1, h2, h3⟩ := dup t ht
      exact ⟨d, by omega, h2, e2.trans h3⟩
  have dA : ∀ l, l ∈ legsL hi → ∃ d, D ≤ d ∧ d < 28 ∧ l 0 = nI d := fun l hl => by
    obtain ⟨t, ht, e2⟩ := legsL_days hl
    obtain ⟨d, h1, h2, h3⟩ := dhi t ht
    exact ⟨d, h1, h2, e2.trans h3⟩
  have d1 : ∀ l, l ∈ legsL lo → ∃ d, d < D ∧ l 0 = nI d := fun l hl => by
    obtain ⟨t, ht, e2⟩ := legsL_days hl
    obtain ⟨d, h1, h3⟩ := dlo t ht
    exact ⟨d, h1, e2.trans h3⟩
  have hlik : ∀ side, fX3_likeliest_r (fX8_study_w g p (nI n) (-1)) (nI D) s side = likF (nthL (legsL lo ++ ([x] ++ legsL up))) (legsL lo ++ ([x] ++ legsL up)).length (nI D) s side := fun side => by
    rw [study_lik hS, lik_r hS.2.2.2.1, likF_fill, hL]
    exact fills_alike d1 dA dB (by omega) (Nat.le_refl D) s side
  have hR' := hS'.2.2.2.1
  have hday := (hS'.2.2.2.2 D hD).1
  rw [hL'] at hR' hday
  have hf : fstL (legsL lo ++ ([x] ++ legsL up)) (nI D) = (legsL lo).length := by
    have hno : nI D ∉ daysL (legsL lo) := fun hm9 => by
      obtain ⟨l9, hl9, e⟩ := List.mem_map.mp hm9
      obtain ⟨d, h1, e1⟩ := d1 l9 hl9
      rw [e1] at e
      have := (nI_eq (by omega) (by omega)).mp e
      omega
    unfold fstL
    have hc : ¬ cntL (legsL lo ++ ([x] ++ legsL up)) (nI D) = 0 := by
      rw [cntL_app, cntL_app]
      have : cntL [x] (nI D) = 1 := by
        unfold cntL daysL
        rw [List.map_cons, List.map_nil, hx0]
        simp
      omega
    rw [if_neg hc]
    unfold daysL
    have hno' : ¬ nI D ∈ List.map (fun l => l 0) (legsL lo) := hno
    rw [List.map_append, List.idxOf_append, if_neg hno', List.map_append, List.map_cons, hx0, List.cons_append, List.idxOf_cons_self, List.length_map, Nat.zero_add]
  rw [hf] at hday
  have hlen : (legsL lo).length < (legsL lo ++ ([x] ++ legsL up)).length := by
    rw [List.length_append, List.length_append]
    have : ([x] : List tL).length = 1 := rfl
    omega
  have hnx : nthL (legsL lo ++ ([x] ++ legsL up)) (legsL lo).length = x := by
    have := nthL_app2 (A := legsL lo) (B := [x] ++ legsL up) (i := 0)
    rw [Nat.add_zero] at this
    rw [this]
    rfl
  have h41 : (legsL lo).length < 41 := by have := hR'.2.1; omega
  have rw7 : ∀ r, r < 7 → fX8_study_w h p (nI (n + 1)) (-1) (19 + r) (legsL lo).length = fillF (nthL (legsL lo ++ ([x] ++ legsL up))) (legsL lo ++ ([x] ++ legsL up)).length x r := fun r hr => by
    exact (congrFun (k25 r hr) _).trans ((hR'.2.2 _ hlen r hr).trans (congrArg (fun q => fillF (nthL (legsL lo ++ ([x] ++ legsL up))) (legsL lo ++ ([x] ++ legsL up)).length q r) hnx))
  refine ⟨(legsL lo).length, h41, by rw [kd 26 (by decide) (by decide)]; exact hday, ?_, ?_⟩
  · have q := rw7 6 (by decide)
    rw [fillF_6, hx6] at q
    exact q
  · by_cases c : i = 0
    · rw [if_pos c]
      have q := rw7 1 (by decide)
      rw [hlik 0]
      rw [if_pos c] at hx6
      have e : fillF (nthL (legsL lo ++ ([x] ++ legsL up))) (legsL lo ++ ([x] ++ legsL up)).length x = upd x 1 (likF (nthL (legsL lo ++ ([x] ++ legsL up))) (legsL lo ++ ([x] ++ legsL up)).length (x 0) (x 2) 0) := by
        unfold fillF
        rw [if_neg (by rw [hx6]; decide), if_pos hx6]
      rw [e, upd_s, hx0, hx2] at q
      exact q
    · rw [if_neg c]
      have q := rw7 2 (by decide)
      rw [hlik 1]
      rw [if_neg c] at hx6
      have e : fillF (nthL (legsL lo ++ ([x] ++ legsL up))) (legsL lo ++ ([x] ++ legsL up)).length x = upd x 2 (likF (nthL (legsL lo ++ ([x] ++ legsL up))) (legsL lo ++ ([x] ++ legsL up)).length (x 0) (x 1) 1) := by
        unfold fillF
        rw [if_pos hx6]
      rw [e, upd_s, hx0, hx1] at q
      exact q
