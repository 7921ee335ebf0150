/-! the order of taps: sorted by their moments, of the same moment as they came -/
theorem lp_dn {τ : Type} {f : Int32 × τ → Option (Int32 × τ)} (I : Nat → τ → Prop) (h1 : ∀ k t, I (k + 1) t → f (nI (k + 1), t) = none ∨ ∃ t', f (nI (k + 1), t) = some (nI k, t') ∧ I k t') (h0 : ∀ t, I 0 t → f (nI 0, t) = none) :
    ∀ (k : Nat) (t : τ) (n : Nat), k ≤ n → I k t → ∃ (p : Nat) (t' : τ), p ≤ k ∧ lp f n (nI k, t) = (nI p, t') ∧ I p t' ∧ f (nI p, t') = none := by
  intro k
  induction k with
  | zero => intro t n _ hI; exact ⟨0, t, Nat.le_refl _, lp_none (h0 t hI), hI, h0 t hI⟩
  | succ k ih =>
    intro t n hn hI
    rcases h1 k t hI with e | ⟨t', e, hI'⟩
    · exact ⟨k + 1, t, Nat.le_refl _, lp_none e, hI, e⟩
    · obtain ⟨n, rfl⟩ : ∃ q, n = q + 1 := ⟨n - 1, by omega⟩
      obtain ⟨p, t2, hp, e2, hI2, hn2⟩ := ih t' n (by omega) hI'
      refine ⟨p, t2, by omega, ?_, hI2, hn2⟩
      rw [lp, e]
      exact e2
theorem nI_m (k : Nat) : nI (k + 1) + (-1) = nI k := by rw [← nI_pred k, Int32.sub_eq_add_neg]
def insL (O : List Nat) (p a : Nat) : List Nat := O.take p ++ a :: O.drop p
theorem insL_len {O : List Nat} {p a : Nat} (h : p ≤ O.length) : (insL O p a).length = O.length + 1 := by
  unfold insL
  rw [List.length_append, List.length_cons, List.length_take, List.length_drop]
  omega
theorem insL_get {O : List Nat} {p a i b : Nat} (hp : p ≤ O.length) (h : (insL O p a)[i]? = some b) : (i < p ∧ O[i]? = some b) ∨ (i = p ∧ b = a) ∨ (p < i ∧ O[i - 1]? = some b) := by
  unfold insL at h
  have hl : (O.take p).length = p := by rw [List.length_take]; omega
  rcases Nat.lt_or_ge i p with q | q
  · rw [List.getElem?_append_left (by omega), List.getElem?_take_of_lt q] at h
    exact Or.inl ⟨q, h⟩
  · rw [List.getElem?_append_right (by omega), hl] at h
    rcases Nat.eq_or_lt_of_le q with q2 | q2
    · subst q2
      rw [Nat.sub_self] at h
      exact Or.inr (Or.inl ⟨rfl, (Option.some.inj h).symm⟩)
    · rw [show i - p = (i - p - 1) + 1 by omega, List.getElem?_cons_succ, List.getElem?_drop, show p + (i - p - 1) = i - 1 by omega] at h
      exact Or.inr (Or.inr ⟨q2, h⟩)
theorem insL_mem {O : List Nat} {p a x : Nat} : x ∈ insL O p a ↔ x ∈ O ∨ x = a := by
  unfold insL
  rw [List.mem_append, List.mem_cons]
  constructor
  · rintro (h | h | h)
    · exact Or.inl (List.mem_of_mem_take h)
    · exact Or.inr h
    · exact Or.inl (List.mem_of_mem_drop h)
  · rintro (h | h)
    · rw [← List.take_append_drop p O, List.mem_append] at h
      rcases h with h | h
      · exact Or.inl h
      · exact Or.inr (Or.inr h)
    · exact Or.inr (Or.inl h)
/-- before: by moments, of the same moment by the places -/
def bef (mo : Nat → Int32) (a b : Nat) : Prop := mo a < mo b ∨ (mo a = mo b ∧ a < b)
theorem insL_sorted {mo : Nat → Int32} {O : List Nat} {p a : Nat} (hs : O.Pairwise (bef mo)) (hp : p ≤ O.length) (hlt : ∀ x, x ∈ O → x < a) (h1 : ∀ i x, p ≤ i → O[i]? = some x → mo a < mo x) (h2 : p = 0 ∨ ∃ x, O[p - 1]? = some x ∧ mo x ≤ mo a) : (insL O p a).Pairwise (bef mo) := by
  have hd : ∀ y, y ∈ O.drop p → mo a < mo y := by
    intro y hy
    obtain ⟨i, hi⟩ := List.mem_iff_getElem?.mp hy
    rw [List.getElem?_drop] at hi
    exact h1 (p + i) y (Nat.le_add_right _ _) hi
  have hs2 := hs
  rw [← List.take_append_drop p O, List.pairwise_append] at hs2
  have ht : ∀ x, x ∈ O.take p → mo x ≤ mo a := by
    intro x hx
    rcases h2 with e | ⟨z, hz, hza⟩
    · subst e
      rw [List.take_zero] at hx
      exact absurd hx List.not_mem_nil
    · have hp0 : 0 < p := by
        rcases Nat.eq_zero_or_pos p with e | e
        · subst e
          rw [List.take_zero] at hx
          exact absurd hx List.not_mem_nil
        · exact e
      have e1 : O.take p = O.take (p - 1) ++ [z] := by
        have e2 : p = p - 1 + 1 := by omega
        rw [e2, List.take_succ, Nat.add_sub_cancel, hz]
        rfl
      have hs3 := hs2.1
      rw [e1, List.pairwise_append] at hs3
      rw [e1, List.mem_append] at hx
      rcases hx with hx | hx
      · rcases hs3.2.2 x hx z (List.mem_singleton.mpr rfl) with q | q
        · exact Int32.le_trans (Int32.le_of_lt q) hza
        · rw [q.1]; exact hza
      · rw [List.mem_singleton.mp hx]; exact hza
  unfold insL
  rw [List.pairwise_append, List.pairwise_cons]
  refine ⟨hs2.1, ⟨fun y hy => Or.inl (hd y hy), hs2.2.1⟩, fun x hx y hy => ?_⟩
  rcases List.mem_cons.mp hy with e | e
  · subst e
    by_cases c : mo x = mo y
    · exact Or.inr ⟨c, hlt x (List.mem_of_mem_take hx)⟩
    · exact Or.inl (Int32.lt_of_le_of_ne (ht x hx) c)
  · exact hs2.2.2 x hx y e
/-- the order, with the moments -/
def RM (mo : Nat → Int32) (g : tG) (O : List Nat) : Prop := g 45 8 = nI O.length ∧ O.length ≤ 41 ∧ ∀ (i a : Nat), O[i]? = some a → g 29 i = nI a ∧ g 30 i = mo a ∧ a < 41
theorem insert_RM {mo : Nat → Int32} {g : tG} {O : List Nat} (h : RM mo g O) (hs : O.Pairwise (bef mo)) (h40 : O.length ≤ 40) {a d : Nat} {m : Int32} (ha : a < 41) (hd : d < 28) (hm : nI d * 1440 + m = mo a) (hlt : ∀ x, x ∈ O → x < a) :
    ∃ p, p ≤ O.length ∧ RM mo (fX3_insert_w g (nI a) (nI d) m) (insL O p a) ∧ (insL O p a).Pairwise (bef mo) ∧ fX3_insert_w g (nI a) (nI d) m 28 = upd (g 28) d (g 28 d + 1) := by
  obtain ⟨h1, h2, h3⟩ := h
  have hn : nn (g 45 8) = O.length := by rw [h1]; exact nn_nI (by omega)
  have l29 : tc_len 29 = 41 := rfl
  have l30 : tc_len 30 = 41 := rfl
  -- the loop
  have key : ∀ (k : Nat) (t : tG), (k + 1 ≤ O.length ∧ (∀ i, i < k + 1 → t 29 i = g 29 i ∧ t 30 i = g 30 i) ∧ (∀ i, k + 1 ≤ i → i < O.length → t 29 (i + 1) = g 29 i ∧ t 30 (i + 1) = g 30 i ∧ mo a < g 30 i) ∧ ∀ j, j ∉ ([29, 30] : List Nat) → t j = g j) →
      sX3_insert_15 (mo a) (nI (k + 1), t) = none ∨ ∃ t', sX3_insert_15 (mo a) (nI (k + 1), t) = some (nI k, t') ∧ (k ≤ O.length ∧ (∀ i, i < k → t' 29 i = g 29 i ∧ t' 30 i = g 30 i) ∧ (∀ i, k ≤ i → i < O.length → t' 29 (i + 1) = g 29 i ∧ t' 30 (i + 1) = g 30 i ∧ mo a < g 30 i) ∧ ∀ j, j ∉ ([29, 30] : List Nat) → t' j = g j) := by
    intro k t ⟨hk, hlo, hhi, hF⟩
    have c : ¬ nI (k + 1) ≤ 0 := nI_nle (Nat.succ_pos k) (by omega)
    have e30 : gA t 30 (nI (k + 1) - 1) = g 30 k := by
      rw [nI_pred, gA_nI (by rw [l30]; omega) (by decide)]
      exact (hlo k (Nat.lt_succ_self k)).2
    by_cases c2 : g 30 k ≤ mo a
    · left
      unfold sX3_insert_15
      rw [if_neg c]
      show (if gA t 30 (nI (k + 1) - 1) ≤ mo a then none else _) = none
      rw [e30, if_pos c2]
    · right
      obtain ⟨t1, ht1⟩ : ∃ z : tG, z = gP t 30 (nI (k + 1)) (g 30 k) := ⟨_, rfl⟩
      obtain ⟨t2, ht2⟩ : ∃ z : tG, z = gP t1 29 (nI (k + 1)) (g 29 k) := ⟨_, rfl⟩
      have e29 : gA t1 29 (nI (k + 1) - 1) = g 29 k := by
        rw [nI_pred, gA_nI (by rw [l29]; omega) (by decide), ht1, gP_ne (by decide)]
        exact (hlo k (Nat.lt_succ_self k)).1
      refine ⟨t2, ?_, by omega, ?_, ?_, ?_⟩
      · have e := eX3_insert_15_3 (mo a) (nI (k + 1)) t c (by rw [e30]; exact c2) (g2 := t1) (by rw [ht1, e30]) (g3 := t2) (by rw [ht2, e29])
        rw [e, nI_m]
      · intro i hi
        rw [ht2, gP_get (by rw [l29]; omega) (by decide), gP_get (by rw [l29]; omega) (by decide), ht1, gP_get (by rw [l30]; omega) (by decide), gP_get (by rw [l30]; omega) (by decide)]
        rw [if_neg (by omega), if_neg (by omega), if_neg (by omega), if_neg (by omega)]
        exact hlo i (by omega)
      · intro i hi hi2
        rw [ht2, gP_get (by rw [l29]; omega) (by decide), gP_get (by rw [l29]; omega) (by decide), ht1, gP_get (by rw [l30]; omega) (by decide), gP_get (by rw [l30]; omega) (by decide)]
        rcases Nat.eq_or_lt_of_le hi with q | q
        · subst q
          rw [if_pos ⟨rfl, rfl⟩, if_neg (by omega), if_pos ⟨rfl, rfl⟩]
          exact ⟨rfl, rfl, Int32.not_le.mp c2⟩
        · rw [if_neg (by omega), if_neg (by omega), if_neg (by omega), if_neg (by omega)]
          exact hhi i q hi2
      · intro j hj
        have hj2 : j ≠ 29 ∧ j ≠ 30 := by
          constructor
          · intro e; exact hj (by rw [e]; decide)
          · intro e; exact hj (by rw [e]; decide)
        rw [ht2, gP_ne hj2.1, ht1, gP_ne hj2.2]
        exact hF j hj
  have stop : ∀ t : tG, sX3_insert_15 (mo a) (nI 0, t) = none := by
    intro t
    unfold sX3_insert_15
    rw [if_pos (show nI 0 ≤ 0 from Int32.le_refl _)]
  obtain ⟨p, t, hp, e, ⟨_, hlo, hhi, hF⟩, hnone⟩ := lp_dn (f := sX3_insert_15 (mo a)) (fun k t => k ≤ O.length ∧ (∀ i, i < k → t 29 i = g 29 i ∧ t 30 i = g 30 i) ∧ (∀ i, k ≤ i → i < O.length → t 29 (i + 1) = g 29 i ∧ t 30 (i + 1) = g 30 i ∧ mo a < g 30 i) ∧ ∀ j, j ∉ ([29, 30] : List Nat) → t j = g j) key (fun t _ => stop t) O.length g (nn (g 45 8)) (by omega) ⟨Nat.le_refl _, fun i _ => ⟨rfl, rfl⟩, fun i q1 q2 => absurd q1 (by omega), fun _ _ => rfl⟩
  obtain ⟨t1, ht1⟩ : ∃ z : tG, z = gP t 30 (nI p) (mo a) := ⟨_, rfl⟩
  obtain ⟨t2, ht2⟩ : ∃ z : tG, z = gP t1 29 (nI p) (nI a) := ⟨_, rfl⟩
  obtain ⟨t3, ht3⟩ : ∃ z : tG, z = tc_sc t2 8 (nI (O.length + 1)) := ⟨_, rfl⟩
  have hw : fX3_insert_w g (nI a) (nI d) m = gD t3 28 (nI d) 1 := by
    unfold fX3_insert_w
    simp only []
    rw [hn] at e
    rw [hm, hn, h1, e]
    show gD (tc_sc (gP (gP t 30 (nI p) (mo a)) 29 (nI p) (nI a)) 8 ((gP (gP t 30 (nI p) (mo a)) 29 (nI p) (nI a)) 45 8 + 1)) 28 (nI d) 1 = _
    rw [← ht1, ← ht2]
    have e8 : t2 45 8 = nI O.length := by rw [ht2, gP_ne (by decide), ht1, gP_ne (by decide), hF 45 (by decide)]; exact h1
    rw [e8, nI_1, ← ht3]
  have hp40 : p ≤ O.length := hp
  refine ⟨p, hp, ?_, ?_, ?_⟩
  · rw [hw]
    refine ⟨?_, ?_, ?_⟩
    · rw [gD_ne (by decide), ht3, sc_at, insL_len hp]
    · rw [insL_len hp]; omega
    · intro i b hb
      have g29 : gD t3 28 (nI d) 1 29 i = if i = p then nI a else t 29 i := by
        rw [gD_ne (by decide), ht3, sc_nj (by decide), ht2, gP_get (by rw [l29]; omega) (by decide), ht1, gP_ne (by decide)]
        by_cases c : i = p
        · rw [if_pos ⟨rfl, c⟩, if_pos c]
        · rw [if_neg (fun q => c q.2), if_neg c]
      have g30 : gD t3 28 (nI d) 1 30 i = if i = p then mo a else t 30 i := by
        rw [gD_ne (by decide), ht3, sc_nj (by decide), ht2, gP_ne (by decide), ht1, gP_get (by rw [l30]; omega) (by decide)]
        by_cases c : i = p
        · rw [if_pos ⟨rfl, c⟩, if_pos c]
        · rw [if_neg (fun q => c q.2), if_neg c]
      rw [g29, g30]
      rcases insL_get hp hb with ⟨q1, q2⟩ | ⟨q1, q2⟩ | ⟨q1, q2⟩
      · rw [if_neg (by omega), if_neg (by omega), (hlo i q1).1, (hlo i q1).2]
        exact h3 i b q2
      · rw [if_pos q1, if_pos q1, q2]
        exact ⟨rfl, rfl, ha⟩
      · rw [if_neg (by omega), if_neg (by omega)]
        have hi1 : i - 1 < O.length := (List.getElem?_eq_some_iff.mp q2).1
        have hh := hhi (i - 1) (by omega) hi1
        rw [show i - 1 + 1 = i by omega] at hh
        rw [hh.1, hh.2.1]
        exact h3 (i - 1) b q2
  · refine insL_sorted hs hp hlt (fun i x hi hx => ?_) ?_
    · have hil : i < O.length := (List.getElem?_eq_some_iff.mp hx).1
      rw [← (h3 i x hx).2.1]
      exact (hhi i hi hil).2.2
    · rcases Nat.eq_zero_or_pos p with q | q
      · exact Or.inl q
      · right
        obtain ⟨k, rfl⟩ : ∃ k, p = k + 1 := ⟨p - 1, by omega⟩
        have hk : k < O.length := by omega
        refine ⟨O[k], by rw [Nat.add_sub_cancel]; exact List.getElem?_eq_getElem hk, ?_⟩
        rw [← (h3 k _ (List.getElem?_eq_getElem hk)).2.1, ← (hlo k (Nat.lt_succ_self k)).2]
        have c : ¬ nI (k + 1) ≤ 0 := nI_nle (Nat.succ_pos k) (by omega)
        by_cases c2 : gA t 30 (nI (k + 1) - 1) ≤ mo a
        · rw [nI_pred, gA_nI (by rw [l30]; omega) (by decide)] at c2
          exact c2
        · exfalso
          unfold sX3_insert_15 at hnone
          rw [if_neg c] at hnone
          have hnone : (if gA t 30 (nI (k + 1) - 1) ≤ mo a then (none : Option (Int32 × tG)) else _) = none := hnone
          rw [if_neg c2] at hnone
          cases hnone
  · rw [hw, gD_at (by exact hd) (by decide), ht3, sc_nj (by decide), ht2, gP_ne (by decide), ht1, gP_ne (by decide), hF 28 (by decide)]
/-- the moment of a tap -/
def momT (g : tG) (a : Nat) : Int32 := g 17 a * 1440 + g 18 a
/-- a tap of the person, and not of the day that is left out -/
def selT (g : tG) (p w : Int32) (a : Nat) : Prop := ¬ g 17 a = w ∧ gA g 9 (g 13 a) = p
def OK1 (g : tG) (p w : Int32) (k : Nat) (t : tG) (O : List Nat) : Prop :=
  RM (momT g) t O ∧ O.Pairwise (bef (momT g)) ∧ (∀ a, a ∈ O ↔ a < k ∧ selT g p w a) ∧ O.length ≤ k ∧ (∀ d, d < 28 → t 28 d = nI ((O.map (g 17)).count (nI d))) ∧ (∀ j, j ∉ ([28, 29, 30, 45] : List Nat) → t j = g j) ∧ ∀ q, q ∉ ([8] : List Nat) → t 45 q = g 45 q
/-- the first loop of read -/
theorem read1 {g : tG} {n : Nat} (hn : n ≤ 41) (hd : ∀ a, a < n → ∃ d, d < 28 ∧ g 17 a = nI d) (p w : Int32) (h0 : g 45 8 = 0) (h28 : ∀ d, d < 28 → g 28 d = 0) :
    ∃ (h : tG) (O : List Nat), lp (sX3_read_37 (nI n) p w) (nn (nI n)) (0, g) = (nI n, h) ∧ OK1 g p w n h O := by
  have key : ∀ (k : Nat) (t : tG), k < n → (∃ O, OK1 g p w k t O) → ∃ t', sX3_read_37 (nI n) p w (nI k, t) = some (nI (k + 1), t') ∧ ∃ O, OK1 g p w (k + 1) t' O := by
    intro k t hk ⟨O, hM, hs, hm, hl, h28t, hF, hI⟩
    have c : ¬ nI n ≤ nI k := nI_ge hk (by omega)
    have rd : ∀ j, 13 ≤ j → j < 19 → gA t j (nI k) = g j k := by
      intro j j1 j2
      rw [gA_nI (by rw [lenT j j1 j2]; omega) (by rw [lenT j j1 j2]; decide), hF j (by
        intro hx
        have : j = 28 ∨ j = 29 ∨ j = 30 ∨ j = 45 := by simpa using hx
        omega)]
    have e17 := rd 17 (by decide) (by decide)
    have e18 := rd 18 (by decide) (by decide)
    have e13 := rd 13 (by decide) (by decide)
    have e9 : gA t 9 (g 13 k) = gA g 9 (g 13 k) := gA_row (hF 9 (by decide)) _
    obtain ⟨d, hd28, hdk⟩ := hd k hk
    have skip : ¬ selT g p w k → OK1 g p w (k + 1) t O := by
      intro hns
      refine ⟨hM, hs, fun a => ?_, by omega, h28t, hF, hI⟩
      rw [hm a]
      constructor
      · intro q; exact ⟨by omega, q.2⟩
      · intro q
        refine ⟨?_, q.2⟩
        rcases Nat.eq_or_lt_of_le (Nat.le_of_lt_succ q.1) with e | e
        · subst e; exact absurd q.2 hns
        · exact e
    by_cases c1 : g 17 k = w
    · refine ⟨t, ?_, O, skip (fun q => q.1 c1)⟩
      unfold sX3_read_37
      simp only [if_neg c, e17, if_pos c1]
      rw [← nI_1]
    · by_cases c2 : gA g 9 (g 13 k) = p
      · have hsel : selT g p w k := ⟨c1, c2⟩
        have hlt : ∀ x, x ∈ O → x < k := fun x hx => ((hm x).mp hx).1
        have hmo : nI d * 1440 + g 18 k = momT g k := by unfold momT; rw [hdk]
        obtain ⟨q, hq, hM2, hs2, h282⟩ := insert_RM hM hs (by omega) (a := k) (d := d) (m := g 18 k) (by omega) hd28 hmo hlt
        refine ⟨fX3_insert_w t (nI k) (nI d) (g 18 k), ?_, insL O q k, hM2, hs2, fun a => ?_, ?_, ?_, ?_, ?_⟩
        · unfold sX3_read_37
          have c1' : ¬ nI d = w := by rw [← hdk]; exact c1
          simp only [if_neg c, e17, hdk, if_neg c1', e13, e9, if_pos c2, e18]
          rw [← nI_1]
        · rw [insL_mem, hm a]
          constructor
          · rintro (x | x)
            · exact ⟨by omega, x.2⟩
            · subst x; exact ⟨Nat.lt_succ_self _, hsel⟩
          · intro x
            rcases Nat.eq_or_lt_of_le (Nat.le_of_lt_succ x.1) with e | e
            · exact Or.inr e
            · exact Or.inl ⟨e, x.2⟩
        · rw [insL_len hq]; omega
        · intro d' hd'
          rw [h282]
          have hcnt : ((insL O q k).map (g 17)).count (nI d') = (O.map (g 17)).count (nI d') + if nI d = nI d' then 1 else 0 := by
            have e1 : (O.map (g 17)).count (nI d') = ((O.take q).map (g 17)).count (nI d') + ((O.drop q).map (g 17)).count (nI d') := by
              rw [← List.count_append, ← List.map_append, List.take_append_drop]
            unfold insL
            rw [List.map_append, List.count_append, List.map_cons, List.count_cons, hdk, e1]
            by_cases c9 : nI d = nI d'
            · simp [c9]; omega
            · simp [c9]
          rw [hcnt]
          by_cases c9 : d' = d
          · subst c9
            rw [upd_s, if_pos rfl, h28t d' hd']; exact nI_1 _
          · rw [upd_n c9, if_neg (fun q9 => c9 ((nI_eq (by omega) (by omega)).mp q9).symm), h28t d' hd']; rfl
        · intro j hj
          rw [fjX3_insert t _ _ _ j hj]; exact hF j hj
        · intro q9 hq9
          rw [fiX3_insert t _ _ _ q9 hq9]; exact hI q9 hq9
      · refine ⟨t, ?_, O, skip (fun q => c2 q.2)⟩
        unfold sX3_read_37
        simp only [if_neg c, e17, if_neg c1, e13, e9, if_neg c2]
        rw [← nI_1]
  have fin : ∀ t : tG, (∃ O, OK1 g p w n t O) → sX3_read_37 (nI n) p w (nI n, t) = none := by
    intro t _
    unfold sX3_read_37
    rw [if_pos (show nI n ≤ nI n from Int32.le_refl _)]
  obtain ⟨h, e, O, hO⟩ := lp_for (f := sX3_read_37 (nI n) p w) (N := n) (fun k t => ∃ O, OK1 g p w k t O) key fin n 0 g (nn (nI n)) (by omega) (by rw [nn_nI (by omega)]; exact Nat.le_refl _)
    ⟨[], ⟨by rw [h0]; rfl, by decide, fun i a hi => by simp at hi⟩, List.Pairwise.nil, fun a => ⟨fun q => absurd q List.not_mem_nil, fun q => absurd q.1 (Nat.not_lt_zero a)⟩, Nat.le_refl _, fun d hd => by rw [h28 d hd]; rfl, fun _ _ => rfl, fun _ _ => rfl⟩
  exact ⟨h, O, e, hO⟩
