/-! two studies whose taps of the first days are alike -/
/-- the rows of legs and journeys are alike, up to so many -/
def ROWS (S T : tG) (n1 m1 : Nat) : Prop := n1 ≤ 41 ∧ m1 ≤ 41 ∧ (∀ r, r < 7 → ∀ i, i < n1 → S (19 + r) i = T (19 + r) i) ∧ (∀ i, i < n1 → S 35 i = T 35 i) ∧ (∀ r, r < 5 → ∀ i, i < m1 → S (jrow r) i = T (jrow r) i) ∧ (∀ i, i < m1 → S 34 i = T 34 i) ∧ ∀ j, j < m1 → ∃ a b, S 39 j = nI a ∧ S 32 j = nI b ∧ a + b ≤ n1
/-- a day is alike -/
def DAY (S T : tG) (n1 m1 d : Nat) : Prop := S 26 d = T 26 d ∧ S 27 d = T 27 d ∧ S 28 d = T 28 d ∧ S 36 d = T 36 d ∧ S 37 d = T 37 d ∧ (∃ f c, S 26 d = nI f ∧ S 27 d = nI c ∧ f + c ≤ n1) ∧ ∃ f c, S 36 d = nI f ∧ S 37 d = nI c ∧ f + c ≤ m1
theorem jF_congr {lk lk' : Nat → tL} {z : Int32 → Int32} : ∀ {k : Nat}, (∀ i, i < k → lk i = lk' i) → jF lk z k = jF lk' z k := by
  intro k
  induction k with
  | zero => intro _; rfl
  | succ k ih =>
    intro h
    rw [jF, jF, ih (fun i hi => h i (by omega)), h k (by omega), h (k - 1) (by omega)]
theorem ixF_congr {lk lk' : Nat → tL} {z : Int32 → Int32} {k : Nat} (h : ∀ i, i < k + 1 → lk i = lk' i) : ixF lk z k = ixF lk' z k := by
  unfold ixF
  rw [jF_congr (k := k) (fun i hi => h i (by omega)), h k (by omega), h (k - 1) (by omega)]
theorem stepJ_days {J : List tL} {i : Nat} {l : tL} {pe : Int32} {z : Int32 → Int32} : daysL (stepJ J i l pe z) = daysL (nextJ J i l pe) := by
  unfold stepJ
  obtain ⟨M, x, e⟩ := nextJ_ne (J := J) (i := i) (l := l) (pe := pe)
  rw [e, List.dropLast_concat, lastL_snoc]
  exact daysL_last legJ_0
theorem nextJ_days {J : List tL} {i : Nat} {l : tL} {pe : Int32} {d : Int32} (h : d ∈ daysL (nextJ J i l pe)) : d ∈ daysL J ∨ d = l 0 := by
  unfold nextJ at h
  split at h
  · exact Or.inl h
  · rw [daysL_snoc, List.mem_append, List.mem_singleton] at h
    exact h
theorem jF_days {lk : Nat → tL} {z : Int32 → Int32} : ∀ {k : Nat} {d : Int32}, d ∈ daysL (jF lk z k) → ∃ i, i < k ∧ d = lk i 0 := by
  intro k
  induction k with
  | zero => intro d h; exact absurd h (by unfold daysL jF; exact List.not_mem_nil)
  | succ k ih =>
    intro d h
    rw [jF, stepJ_days] at h
    rcases nextJ_days h with e | e
    · obtain ⟨i, hi, e2⟩ := ih e
      exact ⟨i, by omega, e2⟩
    · exact ⟨k, Nat.lt_succ_self k, e⟩
theorem stepJ_app {A M : List tL} {i : Nat} {l : tL} {pe : Int32} {z : Int32 → Int32} (h : l 0 ∉ daysL A) : stepJ (A ++ M) i l pe z = A ++ stepJ M i l pe z := by
  have hc : cntL (A ++ M) (l 0) = cntL M (l 0) := by rw [cntL_app, cntL_0 h, Nat.zero_add]
  have hn : nextJ (A ++ M) i l pe = A ++ nextJ M i l pe := by
    unfold nextJ
    rw [hc]
    split
    · rfl
    · rw [List.append_assoc]
  unfold stepJ
  rw [hn]
  obtain ⟨N, x, e⟩ := nextJ_ne (J := M) (i := i) (l := l) (pe := pe)
  rw [e, ← List.append_assoc, List.dropLast_concat, lastL_snoc, List.dropLast_concat, lastL_snoc, List.append_assoc]
theorem jF_app {lk : Nat → tL} {z : Int32 → Int32} {a : Nat} (h : ∀ i j, i < a → a ≤ j → lk j 0 ≠ lk i 0) : ∀ {k : Nat}, a ≤ k → ∃ R, jF lk z k = jF lk z a ++ R ∧ ∀ d, d ∈ daysL R → ∃ i, a ≤ i ∧ i < k ∧ d = lk i 0 := by
  intro k
  induction k with
  | zero =>
    intro hk
    have e : a = 0 := by omega
    subst e
    exact ⟨[], (List.append_nil _).symm, fun d hd => absurd hd (by unfold daysL; exact List.not_mem_nil)⟩
  | succ k ih =>
    intro hk
    rcases Nat.lt_or_ge k a with q | q
    · have e : a = k + 1 := by omega
      subst e
      exact ⟨[], (List.append_nil _).symm, fun d hd => absurd hd (by unfold daysL; exact List.not_mem_nil)⟩
    · obtain ⟨R, e, hR⟩ := ih q
      refine ⟨stepJ R k (lk k) (lk (k - 1) 4) z, ?_, fun d hd => ?_⟩
      · rw [jF, e]
        exact stepJ_app (fun hm => by
          obtain ⟨i, hi, e2⟩ := jF_days hm
          exact h i k hi q e2)
      · rw [stepJ_days] at hd
        rcases nextJ_days hd with e2 | e2
        · obtain ⟨i, h1, h2, h3⟩ := hR d e2
          exact ⟨i, h1, by omega, h3⟩
        · exact ⟨k, q, Nat.lt_succ_self k, e2⟩
/-- each journey's legs are among the legs -/
theorem jF_legs {lk : Nat → tL} {z : Int32 → Int32} : ∀ {k : Nat} (x : tL), x ∈ jF lk z k → ∃ a b, x 1 = nI a ∧ x 2 = nI b ∧ a + b ≤ k := by
  intro k
  induction k with
  | zero => intro x h; exact absurd h List.not_mem_nil
  | succ k ih =>
    intro x h
    rw [jF] at h
    unfold stepJ at h
    obtain ⟨N, y, e⟩ := nextJ_ne (J := jF lk z k) (i := k) (l := lk k) (pe := lk (k - 1) 4)
    have hy : ∀ u, u ∈ N ++ [y] → ∃ a b, u 1 = nI a ∧ u 2 = nI b ∧ a + b ≤ k := by
      rw [← e]
      unfold nextJ
      intro u hu
      split at hu
      · exact ih u hu
      · rcases List.mem_append.mp hu with q | q
        · exact ih u q
        · rw [List.mem_singleton.mp q]
          exact ⟨k, 0, rfl, rfl, Nat.le_refl _⟩
    rw [e, List.dropLast_concat, lastL_snoc] at h
    rcases List.mem_append.mp h with q | q
    · obtain ⟨a, b, h1, h2, h3⟩ := hy x (List.mem_append_left _ q)
      exact ⟨a, b, h1, h2, by omega⟩
    · obtain ⟨a, b, h1, h2, h3⟩ := hy y (List.mem_append_right _ (List.mem_singleton.mpr rfl))
      rw [List.mem_singleton.mp q]
      refine ⟨a, b + 1, ?_, ?_, by omega⟩
      · unfold legJ touchJ
        rw [upd_n (by decide), upd_n (by decide), upd_n (by decide), upd_n (by decide), upd_n (by decide)]
        exact h1
      · unfold legJ touchJ
        rw [upd_n (by decide), upd_n (by decide), upd_n (by decide), upd_n (by decide), upd_s, h2]
        exact nI_1 b
theorem fills_alike {L1 A B : List tL} {D : Nat} (hD : ∀ l, l ∈ L1 → ∃ d, d < D ∧ l 0 = nI d) (hA : ∀ l, l ∈ A → ∃ d, D ≤ d ∧ d < 28 ∧ l 0 = nI d) (hB : ∀ l, l ∈ B → ∃ d, D ≤ d ∧ d < 28 ∧ l 0 = nI d) (h28 : D ≤ 28) {d : Nat} (hd : d ≤ D) (s side : Int32) :
    likF (nthL (L1 ++ A)) (L1 ++ A).length (nI d) s side = likF (nthL (L1 ++ B)) (L1 ++ B).length (nI d) s side := by
  refine likF_congr (fun w => ?_)
  have cut : ∀ C : List tL, (∀ l, l ∈ C → ∃ d, D ≤ d ∧ d < 28 ∧ l 0 = nI d) → cntF (vp (nI d) s side w) (nthL (L1 ++ C)) (L1 ++ C).length = cntF (vp (nI d) s side w) (nthL L1) L1.length := by
    intro C hC
    rw [cntF_pre (a := L1.length) (by rw [List.length_append]; omega) (fun i h1 h2 => by
      have hm : nthL (L1 ++ C) i ∈ C := by
        have e := nthL_app2 (A := L1) (B := C) (i := i - L1.length)
        rw [show L1.length + (i - L1.length) = i by omega] at e
        rw [e]
        rw [List.length_append] at h2
        exact (nthL_mem (by omega)).1
      obtain ⟨d', q1, q2, q3⟩ := hC _ hm
      unfold vp
      refine decide_eq_false (fun q => ?_)
      have q4 := q.1
      rw [q3] at q4
      have := (nI_ltI (by omega) (by omega)).mp q4
      omega)]
    exact cntF_congr (fun i hi => by rw [nthL_app hi])
  rw [cut A hA, cut B hB]
theorem mom_nat {g : tG} {n a : Nat} (hT : okT g n) (ha : a < n) : ∃ d m, d < 28 ∧ m < 1440 ∧ g 17 a = nI d ∧ g 18 a = nI m ∧ momT g a = nI (d * 1440 + m) := by
  obtain ⟨⟨d, hd, e1⟩, m, hm, e2⟩ := hT a ha
  refine ⟨d, m, hd, hm, e1, e2, ?_⟩
  unfold momT
  rw [e1, e2, show (1440 : Int32) = nI 1440 from rfl, nI_mul, nI_add]
theorem bef_day {g : tG} {n a b : Nat} (hT : okT g n) (ha : a < n) (hb : b < n) (h : bef (momT g) a b) {D : Nat} (hD : D ≤ 28) (q : g 17 b < nI D) : g 17 a < nI D := by
  obtain ⟨d, m, h1, h2, e1, e2, e3⟩ := mom_nat hT ha
  obtain ⟨d', m', h1', h2', e1', e2', e3'⟩ := mom_nat hT hb
  rw [e1'] at q
  have q2 := (nI_ltI (by omega) (by omega)).mp q
  rw [e1]
  refine (nI_ltI (by omega) (by omega)).mpr ?_
  rcases h with h | h
  · rw [e3, e3'] at h
    have h3 := (nI_ltI (by omega) (by omega)).mp h
    omega
  · have h3 := h.1
    rw [e3, e3'] at h3
    have h4 := (nI_eq (by omega) (by omega)).mp h3
    omega
def isLo (D : Nat) (t : tL) : Bool := decide (t 0 < nI D)
theorem V_split {g : tG} {n : Nat} {p w : Int32} {O : List Nat} (hT : okT g n) (hs : O.Pairwise (bef (momT g))) (hm : ∀ a, a ∈ O → a < n) {D : Nat} (hD : D ≤ 28) :
    O.map (tapV g) = (O.map (tapV g)).filter (isLo D) ++ (O.map (tapV g)).filter (fun t => !isLo D t) := by
  refine filter_split (isLo D) _ ?_
  rw [List.pairwise_map]
  refine List.Pairwise.imp_of_mem (fun {a b} ha hb hab q => ?_) hs
  unfold isLo at q ⊢
  rw [decide_eq_true_iff] at q ⊢
  exact bef_day hT (hm a ha) (hm b hb) hab hD q
theorem lo_day {g : tG} {n : Nat} {O : List Nat} (hT : okT g n) (hm : ∀ a, a ∈ O → a < n) {D : Nat} (hD : D ≤ 28) {t : tL} (h : t ∈ (O.map (tapV g)).filter (isLo D)) : ∃ d, d < D ∧ t 0 = nI d := by
  obtain ⟨h1, h2⟩ := List.mem_filter.mp h
  obtain ⟨a, ha, e⟩ := List.mem_map.mp h1
  obtain ⟨⟨d, hd, e1⟩, -⟩ := hT a (hm a ha)
  have e2 : t 0 = nI d := by rw [← e]; exact e1
  unfold isLo at h2
  rw [decide_eq_true_iff, e2] at h2
  exact ⟨d, (nI_ltI (by omega) (by omega)).mp h2, e2⟩
theorem hi_day {g : tG} {n : Nat} {O : List Nat} (hT : okT g n) (hm : ∀ a, a ∈ O → a < n) {D : Nat} (hD : D ≤ 28) {t : tL} (h : t ∈ (O.map (tapV g)).filter (fun t => !isLo D t)) : ∃ d, D ≤ d ∧ d < 28 ∧ t 0 = nI d := by
  obtain ⟨h1, h2⟩ := List.mem_filter.mp h
  obtain ⟨a, ha, e⟩ := List.mem_map.mp h1
  obtain ⟨⟨d, hd, e1⟩, -⟩ := hT a (hm a ha)
  have e2 : t 0 = nI d := by rw [← e]; exact e1
  refine ⟨d, ?_, hd, e2⟩
  have h3 : ¬ t 0 < nI D := by
    intro q
    unfold isLo at h2
    rw [decide_eq_true q] at h2
    cases h2
  rw [e2] at h3
  rcases Nat.lt_or_ge d D with q | q
  · exact absurd ((nI_ltI (by omega) (by omega)).mpr q) h3
  · exact q
theorem nI_notin {L : List tL} {d D : Nat} (hd : d < D) (hD : D ≤ 28) (h : ∀ l, l ∈ L → ∃ e, D ≤ e ∧ e < 28 ∧ l 0 = nI e) : nI d ∉ daysL L := by
  intro hm
  obtain ⟨l, hl, e⟩ := List.mem_map.mp hm
  obtain ⟨q, h1, h2, h3⟩ := h l hl
  rw [h3] at e
  have := (nI_eq (by omega) (by omega)).mp e
  omega
/-- what a study leaves, of the days before D, by the taps of these days -/
def PRE (g S0 : tG) (n : Nat) (O : List Nat) (D : Nat) (lo : List tL) (fk : Nat → tL) (z : Int32 → Int32) (J1 : List tL) : Prop :=
  (legsL lo).length ≤ 41 ∧ J1.length ≤ (legsL lo).length ∧ J1 = jF fk z (legsL lo).length ∧
  (∀ r, r < 7 → ∀ i, i < (legsL lo).length → fX2_read_w S0 (19 + r) i = fk i r) ∧ (∀ i, i < (legsL lo).length → fX2_read_w S0 35 i = ixF fk z i) ∧
  (∀ i x, J1[i]? = some x → (∀ r, r < 5 → fX2_read_w S0 (jrow r) i = x r) ∧ fX2_read_w S0 34 i = fareJ S0 x) ∧
  (∀ d, d < D → fX2_read_w S0 26 d = nI (fstL (legsL lo) (nI d)) ∧ fX2_read_w S0 27 d = nI (cntL (legsL lo) (nI d)) ∧ fX2_read_w S0 28 d = nI ((lo.map (fun t => t 0)).count (nI d)) ∧ fX2_read_w S0 36 d = nI (fstL J1 (nI d)) ∧ fX2_read_w S0 37 d = nI (cntL J1 (nI d)))
theorem PRE_of {g S0 : tG} {n : Nat} {p w : Int32} {O : List Nat} (hT : okT g n) (hS : SL g S0 n p w O) {D : Nat} (hD : D ≤ 28) :
    ∃ A : List tL, (∀ l, l ∈ A → ∃ d, D ≤ d ∧ d < 28 ∧ l 0 = nI d) ∧ (∀ l, l ∈ legsL ((O.map (tapV g)).filter (isLo D)) → ∃ d, d < D ∧ l 0 = nI d) ∧
      RF S0 (legsL ((O.map (tapV g)).filter (isLo D)) ++ A).length (fun i => fillF (nthL (legsL ((O.map (tapV g)).filter (isLo D)) ++ A)) (legsL ((O.map (tapV g)).filter (isLo D)) ++ A).length (nthL (legsL ((O.map (tapV g)).filter (isLo D)) ++ A) i)) ∧
      PRE g S0 n O D ((O.map (tapV g)).filter (isLo D)) (fun i => fillF (nthL (legsL ((O.map (tapV g)).filter (isLo D)) ++ A)) (legsL ((O.map (tapV g)).filter (isLo D)) ++ A).length (nthL (legsL ((O.map (tapV g)).filter (isLo D)) ++ A) i)) (gA S0 0) (jF (fun i => fillF (nthL (legsL ((O.map (tapV g)).filter (isLo D)) ++ A)) (legsL ((O.map (tapV g)).filter (isLo D)) ++ A).length (nthL (legsL ((O.map (tapV g)).filter (isLo D)) ++ A) i)) (gA S0 0) (legsL ((O.map (tapV g)).filter (isLo D))).length) := by
  obtain ⟨hs, hm, hl, hR, hday⟩ := hS
  have hm1 : ∀ a, a ∈ O → a < n := fun a ha => ((hm a).mp ha).1
  have hV := V_split (p := p) (w := w) hT hs hm1 hD
  obtain ⟨lo, hlo⟩ : ∃ q, q = (O.map (tapV g)).filter (isLo D) := ⟨_, rfl⟩
  obtain ⟨hi, hhi⟩ : ∃ q, q = (O.map (tapV g)).filter (fun t => !isLo D t) := ⟨_, rfl⟩
  have dlo : ∀ t, t ∈ lo → ∃ d, d < D ∧ t 0 = nI d := fun t ht => lo_day hT hm1 hD (by rw [← hlo]; exact ht)
  have dhi : ∀ t, t ∈ hi → ∃ d, D ≤ d ∧ d < 28 ∧ t 0 = nI d := fun t ht => hi_day hT hm1 hD (by rw [← hhi]; exact ht)
  rw [← hlo, ← hhi] at hV
  have hL : legsL (O.map (tapV g)) = legsL lo ++ legsL hi := by
    rw [hV]
    exact legsL_app (fun a ha b hb e => by
      obtain ⟨d, h1, e1⟩ := dlo a ha
      obtain ⟨d', h2, h3, e2⟩ := dhi b hb
      rw [e1, e2] at e
      have := (nI_eq (by omega) (by omega)).mp e
      omega)
  have l1 : ∀ l, l ∈ legsL lo → ∃ d, d < D ∧ l 0 = nI d := fun l hl => by
    obtain ⟨t, ht, e⟩ := legsL_days hl
    obtain ⟨d, h1, e1⟩ := dlo t ht
    exact ⟨d, h1, e.trans e1⟩
  have l2 : ∀ l, l ∈ legsL hi → ∃ d, D ≤ d ∧ d < 28 ∧ l 0 = nI d := fun l hl => by
    obtain ⟨t, ht, e⟩ := legsL_days hl
    obtain ⟨d, h1, h2, e1⟩ := dhi t ht
    exact ⟨d, h1, h2, e.trans e1⟩
  rw [hL] at hR hday
  rw [← hlo]
  refine ⟨legsL hi, l2, l1, hR, ?_⟩
  obtain ⟨L, hLe⟩ : ∃ q, q = legsL lo ++ legsL hi := ⟨_, rfl⟩
  rw [← hLe] at hR hday ⊢
  obtain ⟨fk, hfk⟩ : ∃ q : Nat → tL, q = fun i => fillF (nthL L) L.length (nthL L i) := ⟨_, rfl⟩
  rw [← hfk] at hR ⊢
  have hlen : (legsL lo).length ≤ L.length := by rw [hLe, List.length_append]; omega
  have fk0 : ∀ i, fk i 0 = nthL L i 0 := fun i => by rw [hfk]; exact fillF_0
  have daylo : ∀ i, i < (legsL lo).length → ∃ d, d < D ∧ fk i 0 = nI d := fun i hi9 => by
    rw [fk0, hLe, nthL_app hi9]
    exact l1 _ (nthL_mem hi9).1
  have dayhi : ∀ i, (legsL lo).length ≤ i → i < L.length → ∃ d, D ≤ d ∧ d < 28 ∧ fk i 0 = nI d := fun i h1 h2 => by
    rw [fk0, hLe]
    have e := nthL_app2 (A := legsL lo) (B := legsL hi) (i := i - (legsL lo).length)
    rw [show (legsL lo).length + (i - (legsL lo).length) = i by omega] at e
    rw [e]
    refine l2 _ (nthL_mem ?_).1
    rw [hLe, List.length_append] at h2
    omega
  have dayall : ∀ i, i < L.length → ∃ d, d < 28 ∧ fk i 0 = nI d := fun i h2 => by
    rcases Nat.lt_or_ge i (legsL lo).length with q | q
    · obtain ⟨d, h3, e⟩ := daylo i q; exact ⟨d, by omega, e⟩
    · obtain ⟨d, _, h3, e⟩ := dayhi i q h2; exact ⟨d, h3, e⟩
  obtain ⟨hJ, hV34, hX⟩ := jread hR dayall
  have hdis : ∀ i j, i < (legsL lo).length → (legsL lo).length ≤ j → j < L.length → fk j 0 ≠ fk i 0 := by
    intro i j h1 h2 h3 e
    obtain ⟨d, h4, e4⟩ := daylo i h1
    obtain ⟨d', h5, h6, e5⟩ := dayhi j h2 h3
    rw [e4, e5] at e
    have := (nI_eq (by omega) (by omega)).mp e
    omega
  -- beyond the legs the function may be anything: cut it off there
  obtain ⟨fc, hfc⟩ : ∃ q : Nat → tL, q = fun i => if i < L.length then fk i else mkL (nI 28) 0 0 0 0 := ⟨_, rfl⟩
  have efc : ∀ i, i < L.length → fk i = fc i := fun i h => by rw [hfc]; exact (if_pos h).symm
  have hdis2 : ∀ i j, i < (legsL lo).length → (legsL lo).length ≤ j → fc j 0 ≠ fc i 0 := by
    intro i j h1 h2 e
    rw [← efc i (by omega)] at e
    rcases Nat.lt_or_ge j L.length with q | q
    · rw [← efc j q] at e
      exact hdis i j h1 h2 q e
    · have e2 : fc j 0 = nI 28 := by rw [hfc]; show (if j < L.length then fk j else mkL (nI 28) 0 0 0 0) 0 = _; rw [if_neg (by omega)]; rfl
      obtain ⟨d, h4, e4⟩ := daylo i h1
      rw [e2, e4] at e
      have := (nI_eq (by omega) (by omega)).mp e
      omega
  obtain ⟨R, hJR, hRd⟩ := jF_app (z := gA S0 0) hdis2 hlen
  rw [← jF_congr (k := L.length) (fun i hi9 => efc i hi9), ← jF_congr (k := (legsL lo).length) (fun i hi9 => efc i (by omega))] at hJR
  have hRd2 : ∀ l, l ∈ R → ∃ d, D ≤ d ∧ d < 28 ∧ l 0 = nI d := fun l hl => by
    obtain ⟨i, h1, h2, e⟩ := hRd (l 0) (List.mem_map.mpr ⟨l, hl, rfl⟩)
    rw [← efc i h2] at e
    obtain ⟨d, h3, h4, e2⟩ := dayhi i h1 h2
    exact ⟨d, h3, h4, e.trans e2⟩
  rw [hJR] at hJ hV34
  have fr : ∀ j, j ∉ ([32, 33, 34, 35, 36, 37, 38, 39, 40, 45] : List Nat) → fX2_read_w S0 j = S0 j := fun j hj => fjX2_read S0 j hj
  refine ⟨?_, jF_len, rfl, fun r hr i hi9 => ?_, fun i hi9 => hX i (by omega), fun i x hx => ⟨fun r hr => hJ.2.2.1 i x ?_ r hr, hV34 i x ?_⟩, fun d hd => ⟨?_, ?_, ?_, ?_, ?_⟩⟩
  · have := hR.2.1; omega
  · rw [fr (19 + r) (by
      intro hm9
      have : 19 + r = 32 ∨ 19 + r = 33 ∨ 19 + r = 34 ∨ 19 + r = 35 ∨ 19 + r = 36 ∨ 19 + r = 37 ∨ 19 + r = 38 ∨ 19 + r = 39 ∨ 19 + r = 40 ∨ 19 + r = 45 := by simpa using hm9
      omega)]
    exact hR.2.2 i (by omega) r hr
  · rw [List.getElem?_append_left (List.getElem?_eq_some_iff.mp hx).1]; exact hx
  · rw [List.getElem?_append_left (List.getElem?_eq_some_iff.mp hx).1]; exact hx
  · rw [fr 26 (by decide), (hday d (by omega)).1, hLe, (fst_app (nI_notin hd hD l2)).2]
  · rw [fr 27 (by decide), (hday d (by omega)).2.1, hLe, (fst_app (nI_notin hd hD l2)).1]
  · rw [fr 28 (by decide), (hday d (by omega)).2.2]
    have e : O.map (g 17) = (O.map (tapV g)).map (fun t => t 0) := by rw [List.map_map]; rfl
    have h0 : List.count (nI d) (List.map (fun t => t 0) hi) = 0 := List.count_eq_zero.mpr (nI_notin hd hD dhi)
    rw [e, hV, List.map_append, List.count_append, h0, Nat.add_zero]
  · rw [hJ.2.2.2.2 d (by omega), (fst_app (nI_notin hd hD hRd2)).2]
  · rw [hJ.2.2.2.1 d (by omega), (fst_app (nI_notin hd hD hRd2)).1]
/-- two studies alike -/
theorem pre_alike {g h S0 T0 : tG} {n n' : Nat} {p p' w w' : Int32} {O O' : List Nat} (hg : okT g n) (hh : okT h n') (hS : SL g S0 n p w O) (hT : SL h T0 n' p' w' O') {D : Nat} (hD : D ≤ 28)
    (hlo : (O.map (tapV g)).filter (isLo D) = (O'.map (tapV h)).filter (isLo D)) (hz : T0 0 = S0 0) (te : tar_eq S0 T0) :
    (∃ n1 m1, ROWS (fX2_read_w S0) (fX2_read_w T0) n1 m1 ∧ ∀ d, d < D → DAY (fX2_read_w S0) (fX2_read_w T0) n1 m1 d) ∧ ∀ d, d ≤ D → ∀ s side, fX3_likeliest_r S0 (nI d) s side = fX3_likeliest_r T0 (nI d) s side := by
  have hPS := PRE_of hg hS hD
  have hPT := PRE_of hh hT hD
  rw [← hlo] at hPT
  generalize (O.map (tapV g)).filter (isLo D) = lo at hPS hPT
  obtain ⟨A, hA, hL1, hRS, p1, p2, p3, p4, p5, p6, p7⟩ := hPS
  obtain ⟨B, hB, hL2, hRT, q1, q2, q3, q4, q5, q6, q7⟩ := hPT
  have ez : gA T0 0 = gA S0 0 := funext fun s => gA_row hz s
  rw [ez] at q2 q3 q5 q6 q7
  have alike := fun {d : Nat} (hd : d ≤ D) (s side : Int32) => fills_alike hL1 hA hB hD hd s side
  have efk : ∀ i, i < (legsL lo).length → fillF (nthL (legsL lo ++ A)) (legsL lo ++ A).length (nthL (legsL lo ++ A) i) = fillF (nthL (legsL lo ++ B)) (legsL lo ++ B).length (nthL (legsL lo ++ B) i) := by
    intro i hi
    rw [nthL_app hi, nthL_app hi]
    obtain ⟨d, hd, e⟩ := hL1 _ (nthL_mem hi).1
    unfold fillF
    rw [e, alike (by omega), alike (by omega)]
  have eJ := jF_congr (z := gA S0 0) (k := (legsL lo).length) efk
  refine ⟨⟨(legsL lo).length, (jF (fun i => fillF (nthL (legsL lo ++ A)) (legsL lo ++ A).length (nthL (legsL lo ++ A) i)) (gA S0 0) (legsL lo).length).length, ⟨p1, by omega, fun r hr i hi => ?_, fun i hi => ?_, fun r hr i hi => ?_, fun i hi => ?_, fun j hj => ?_⟩, fun d hd => ⟨?_, ?_, ?_, ?_, ?_, ?_, ?_⟩⟩, fun d hd s side => ?_⟩
  · rw [p4 r hr i hi, q4 r hr i hi]
    exact congrFun (efk i hi) r
  · rw [p5 i hi, q5 i hi]
    exact ixF_congr (fun k hk => efk k (by omega))
  · obtain ⟨x, hx⟩ : ∃ x, (jF (fun i => fillF (nthL (legsL lo ++ A)) (legsL lo ++ A).length (nthL (legsL lo ++ A) i)) (gA S0 0) (legsL lo).length)[i]? = some x := ⟨_, List.getElem?_eq_getElem hi⟩
    have hx2 := hx
    rw [eJ] at hx2
    rw [(p6 i x hx).1 r hr, (q6 i x hx2).1 r hr]
  · obtain ⟨x, hx⟩ : ∃ x, (jF (fun i => fillF (nthL (legsL lo ++ A)) (legsL lo ++ A).length (nthL (legsL lo ++ A) i)) (gA S0 0) (legsL lo).length)[i]? = some x := ⟨_, List.getElem?_eq_getElem hi⟩
    have hx2 := hx
    rw [eJ] at hx2
    rw [(p6 i x hx).2, (q6 i x hx2).2, fareJ_congr te]
  · obtain ⟨x, hx⟩ : ∃ x, (jF (fun i => fillF (nthL (legsL lo ++ A)) (legsL lo ++ A).length (nthL (legsL lo ++ A) i)) (gA S0 0) (legsL lo).length)[j]? = some x := ⟨_, List.getElem?_eq_getElem hj⟩
    obtain ⟨a, b, h1, h2, h3⟩ := jF_legs x (List.mem_of_getElem? hx)
    exact ⟨a, b, by rw [← h1]; exact (p6 j x hx).1 1 (by decide), by rw [← h2]; exact (p6 j x hx).1 2 (by decide), h3⟩
  · rw [(p7 d hd).1, (q7 d hd).1]
  · rw [(p7 d hd).2.1, (q7 d hd).2.1]
  · rw [(p7 d hd).2.2.1, (q7 d hd).2.2.1]
  · rw [(p7 d hd).2.2.2.1, (q7 d hd).2.2.2.1, eJ]
  · rw [(p7 d hd).2.2.2.2, (q7 d hd).2.2.2.2, eJ]
  · exact ⟨_, _, (p7 d hd).1, (p7 d hd).2.1, fst_cnt⟩
  · exact ⟨_, _, (p7 d hd).2.2.2.1, (p7 d hd).2.2.2.2, fst_cnt⟩
  · rw [lik_r hRS, lik_r hRT]
    rw [likF_fill, likF_fill]
    exact alike hd s side
