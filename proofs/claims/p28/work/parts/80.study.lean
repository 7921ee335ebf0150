/-! lists -/
theorem sorted_unique {α : Type} {R : α → α → Prop} (hr : ∀ a, ¬ R a a) (ha : ∀ a b, R a b → ¬ R b a) : ∀ (l1 l2 : List α), l1.Pairwise R → l2.Pairwise R → (∀ x, x ∈ l1 ↔ x ∈ l2) → l1 = l2 := by
  intro l1
  induction l1 with
  | nil =>
    intro l2 _ _ hm
    cases l2 with
    | nil => rfl
    | cons b t => exact absurd ((hm b).mpr List.mem_cons_self) List.not_mem_nil
  | cons a t1 ih =>
    intro l2 h1 h2 hm
    cases l2 with
    | nil => exact absurd ((hm a).mp List.mem_cons_self) List.not_mem_nil
    | cons b t2 =>
      obtain ⟨p1, q1⟩ := List.pairwise_cons.mp h1
      obtain ⟨p2, q2⟩ := List.pairwise_cons.mp h2
      have hab : a = b := by
        rcases List.mem_cons.mp ((hm a).mp List.mem_cons_self) with e | e
        · exact e
        · rcases List.mem_cons.mp ((hm b).mpr List.mem_cons_self) with e2 | e2
          · exact e2.symm
          · exact absurd (p2 a e) (ha a b (p1 b e2))
      subst hab
      rw [ih t2 q1 q2 (fun x => by
        constructor
        · intro hx
          rcases List.mem_cons.mp ((hm x).mp (List.mem_cons_of_mem _ hx)) with e | e
          · subst e; exact absurd (p1 x hx) (hr x)
          · exact e
        · intro hx
          rcases List.mem_cons.mp ((hm x).mpr (List.mem_cons_of_mem _ hx)) with e | e
          · subst e; exact absurd (p2 x hx) (hr x)
          · exact e)]
theorem filter_split {α : Type} (p : α → Bool) : ∀ (l : List α), l.Pairwise (fun a b => p b = true → p a = true) → l = l.filter p ++ l.filter (fun x => !p x) := by
  intro l
  induction l with
  | nil => intro _; rfl
  | cons a t ih =>
    intro h
    obtain ⟨h1, h2⟩ := List.pairwise_cons.mp h
    by_cases c : p a = true
    · rw [List.filter_cons_of_pos c, List.filter_cons_of_neg (by rw [c]; decide), List.cons_append, ← ih h2]
    · have c2 : ∀ x, x ∈ t → ¬ p x = true := fun x hx q => c (h1 x hx q)
      rw [List.filter_cons_of_neg c, List.filter_cons_of_pos (by
        cases e : p a with
        | true => exact absurd e c
        | false => rfl), List.filter_eq_nil_iff.mpr c2, List.nil_append]
      congr 1
      exact (List.filter_eq_self.mpr (fun x hx => by
        cases e : p x with
        | true => exact absurd e (c2 x hx)
        | false => rfl)).symm
/-! legs of taps of other days -/
theorem cntL_app {A M : List tL} {d : Int32} : cntL (A ++ M) d = cntL A d + cntL M d := by
  unfold cntL daysL
  rw [List.map_append, List.count_append]
theorem cntL_0 {A : List tL} {d : Int32} (h : d ∉ daysL A) : cntL A d = 0 := List.count_eq_zero.mpr h
theorem lastL_app {A M : List tL} (h : M ≠ []) : lastL (A ++ M) = lastL M := by
  rcases snoc_or M with e | ⟨N, x, e⟩
  · exact absurd e h
  · subst e
    rw [← List.append_assoc, lastL_snoc, lastL_snoc]
theorem stepL_app {A M : List tL} {t : tL} (h : t 0 ∉ daysL A) : stepL (A ++ M) t = A ++ stepL M t := by
  have hc : cntL (A ++ M) (t 0) = cntL M (t 0) := by rw [cntL_app, cntL_0 h, Nat.zero_add]
  have hl : 0 < cntL M (t 0) → lastL (A ++ M) = lastL M ∧ (A ++ M).dropLast = A ++ M.dropLast := by
    intro h0
    have hM : M ≠ [] := by
      intro e
      subst e
      exact absurd h0 (Nat.lt_irrefl 0)
    refine ⟨lastL_app hM, ?_⟩
    rcases snoc_or M with e | ⟨N, x, e⟩
    · exact absurd e hM
    · subst e
      rw [← List.append_assoc, List.dropLast_concat, List.dropLast_concat]
  unfold stepL inL outL
  rw [hc]
  by_cases c0 : 0 < cntL M (t 0)
  · rw [(hl c0).1, (hl c0).2]
    split
    · split
      · rw [List.append_assoc]
      · split
        · rfl
        · rw [List.append_assoc]
    · split
      · rfl
      · rw [List.append_assoc]
  · split
    · rw [if_neg (fun q => c0 q.1), if_neg (fun q => c0 q.1), if_neg (fun q => c0 q.1), if_neg (fun q => c0 q.1), List.append_assoc]
    · rw [if_neg (fun q => c0 q.1), if_neg (fun q => c0 q.1), List.append_assoc]
theorem foldl_app : ∀ (ts : List tL) (A M : List tL), (∀ t, t ∈ ts → t 0 ∉ daysL A) → ts.foldl stepL (A ++ M) = A ++ ts.foldl stepL M := by
  intro ts
  induction ts with
  | nil => intro A M _; rfl
  | cons t ts ih =>
    intro A M h
    rw [List.foldl_cons, List.foldl_cons, stepL_app (h t List.mem_cons_self)]
    exact ih A (stepL M t) (fun x hx => h x (List.mem_cons_of_mem _ hx))
theorem stepL_days {L : List tL} {t l : tL} (h : l ∈ stepL L t) : l 0 ∈ daysL L ∨ l 0 = t 0 := by
  have hm : ∀ x, x ∈ L → x 0 ∈ daysL L := fun x hx => List.mem_map.mpr ⟨x, hx, rfl⟩
  have last : ∀ (q : Int32) (s m : Int32), l ∈ L ++ [mkL (t 0) s m (t 3) q] → l 0 ∈ daysL L ∨ l 0 = t 0 := by
    intro q s m hl
    rcases List.mem_append.mp hl with e | e
    · exact Or.inl (hm l e)
    · rw [List.mem_singleton.mp e]; exact Or.inr rfl
  unfold stepL inL outL at h
  split at h
  · split at h
    · rename_i c
      rcases snoc_or L with e | ⟨M, x, e⟩
      · subst e
        exact absurd c.1 (Nat.lt_irrefl 0)
      · subst e
        rw [List.dropLast_concat, lastL_snoc] at h
        rcases List.mem_append.mp h with e | e
        · exact Or.inl (hm l (List.mem_append_left _ e))
        · rw [List.mem_singleton.mp e]
          refine Or.inl ?_
          rw [upd_n (by decide), upd_n (by decide), upd_n (by decide)]
          exact hm x (List.mem_append_right _ (List.mem_singleton.mpr rfl))
    · split at h
      · exact Or.inl (hm l h)
      · exact last _ _ _ h
  · split at h
    · exact Or.inl (hm l h)
    · exact last _ _ _ h
theorem foldl_days : ∀ (ts : List tL) (L : List tL) (l : tL), l ∈ ts.foldl stepL L → l 0 ∈ daysL L ∨ ∃ t, t ∈ ts ∧ l 0 = t 0 := by
  intro ts
  induction ts with
  | nil => intro L l h; exact Or.inl (List.mem_map.mpr ⟨l, h, rfl⟩)
  | cons t ts ih =>
    intro L l h
    rw [List.foldl_cons] at h
    rcases ih (stepL L t) l h with e | ⟨x, hx, e⟩
    · obtain ⟨y, hy, ey⟩ := List.mem_map.mp e
      rcases stepL_days hy with e2 | e2
      · rw [← ey]; exact Or.inl e2
      · rw [← ey]; exact Or.inr ⟨t, List.mem_cons_self, e2⟩
    · exact Or.inr ⟨x, List.mem_cons_of_mem _ hx, e⟩
theorem legsL_days {V : List tL} {l : tL} (h : l ∈ legsL V) : ∃ t, t ∈ V ∧ l 0 = t 0 := by
  rcases foldl_days V [] l h with e | e
  · exact absurd e (by unfold daysL; exact List.not_mem_nil)
  · exact e
theorem legsL_app {lo hi : List tL} (h : ∀ a, a ∈ lo → ∀ b, b ∈ hi → a 0 ≠ b 0) : legsL (lo ++ hi) = legsL lo ++ legsL hi := by
  unfold legsL
  rw [List.foldl_append]
  have := foldl_app hi (lo.foldl stepL []) [] (fun t ht hm => by
    obtain ⟨x, hx, e⟩ := List.mem_map.mp hm
    obtain ⟨a, ha, e2⟩ := legsL_days (V := lo) hx
    exact h a ha t ht (e2.symm.trans e))
  rw [List.append_nil] at this
  exact this
theorem legsL_len {V : List tL} : (legsL V).length ≤ V.length := by
  have := foldl_len V []
  rw [show ([] : List tL).length = 0 from rfl, Nat.zero_add] at this
  exact this
def nthL (L : List tL) (i : Nat) : tL := L[i]?.getD (fun _ => 0)
theorem nthL_get {L : List tL} {i : Nat} {l : tL} (h : L[i]? = some l) : nthL L i = l := by unfold nthL; rw [h]; rfl
theorem nthL_mem {L : List tL} {i : Nat} (h : i < L.length) : nthL L i ∈ L ∧ L[i]? = some (nthL L i) := by
  have e : L[i]? = some L[i] := List.getElem?_eq_getElem h
  rw [nthL_get e]
  exact ⟨List.getElem_mem h, e⟩
theorem nthL_app {A B : List tL} {i : Nat} (h : i < A.length) : nthL (A ++ B) i = nthL A i := by
  unfold nthL
  rw [List.getElem?_append_left h]
theorem nthL_app2 {A B : List tL} {i : Nat} : nthL (A ++ B) (A.length + i) = nthL B i := by
  unfold nthL
  rw [List.getElem?_append_right (Nat.le_add_right _ _), Nat.add_sub_cancel_left]
theorem fst_cnt {L : List tL} {d : Int32} : fstL L d + cntL L d ≤ L.length := by
  unfold fstL
  by_cases c : cntL L d = 0
  · rw [if_pos c, c]; omega
  · rw [if_neg c]
    have h : ∀ (l : List Int32), l.idxOf d + l.count d ≤ l.length := by
      intro l
      induction l with
      | nil => exact Nat.le_refl _
      | cons a t ih =>
        rw [List.idxOf_cons, List.count_cons, List.length_cons]
        have h1 : t.count d ≤ t.length := List.count_le_length
        cases h9 : (a == d) with
        | true => simp only [cond_true, if_true]; omega
        | false => simp only [cond_false, Bool.false_eq_true, if_false]; omega
    have h2 := h (daysL L)
    have h3 : (daysL L).length = L.length := by unfold daysL; rw [List.length_map]
    unfold cntL
    omega
theorem fst_app {A B : List tL} {d : Int32} (h : d ∉ daysL B) : cntL (A ++ B) d = cntL A d ∧ fstL (A ++ B) d = fstL A d := by
  have hc : cntL (A ++ B) d = cntL A d := by rw [cntL_app, cntL_0 h, Nat.add_zero]
  refine ⟨hc, ?_⟩
  unfold fstL
  rw [hc]
  by_cases c : cntL A d = 0
  · rw [if_pos c, if_pos c]
  · rw [if_neg c, if_neg c]
    have hm : d ∈ daysL A := by
      have c2 : (daysL A).count d ≠ 0 := c
      exact List.count_pos_iff.mp (by omega)
    unfold daysL
    rw [List.map_append]
    rw [List.idxOf_append, if_pos (show d ∈ List.map (fun l => l 0) A from hm)]
theorem RLg.toRF {g : tG} {L : List tL} (h : RLg g L) : RF g L.length (nthL L) := ⟨h.1, h.2.1, fun i hi r hr => h.2.2.1 i _ (nthL_mem hi).2 r hr⟩
/-! the legs of a person -/
def okT (g : tG) (n : Nat) : Prop := ∀ a, a < n → (∃ d, d < 28 ∧ g 17 a = nI d) ∧ ∃ m, m < 1440 ∧ g 18 a = nI m
/-- what a study leaves of taps and legs -/
def SL (g S : tG) (n : Nat) (p w : Int32) (O : List Nat) : Prop :=
  O.Pairwise (bef (momT g)) ∧ (∀ a, a ∈ O ↔ a < n ∧ selT g p w a) ∧ O.length ≤ n ∧
  RF S (legsL (O.map (tapV g))).length (fun i => fillF (nthL (legsL (O.map (tapV g)))) (legsL (O.map (tapV g))).length (nthL (legsL (O.map (tapV g))) i)) ∧
  (∀ d, d < 28 → S 26 d = nI (fstL (legsL (O.map (tapV g))) (nI d)) ∧ S 27 d = nI (cntL (legsL (O.map (tapV g))) (nI d)) ∧ S 28 d = nI ((O.map (g 17)).count (nI d)))
theorem read_SL {g : tG} {n : Nat} (hn : n ≤ 41) (hT : okT g n) (p w : Int32) : ∃ O, SL g (fX3_read_w g (nI n) p w) n p w O := by
  obtain ⟨g1, hg1⟩ : ∃ q : tG, q = tc_sc g 7 0 := ⟨_, rfl⟩
  obtain ⟨g2, hg2⟩ : ∃ q : tG, q = tc_sc g1 8 0 := ⟨_, rfl⟩
  obtain ⟨g3, hg3⟩ : ∃ q : tG, q = gF g2 26 0 := ⟨_, rfl⟩
  obtain ⟨g4, hg4⟩ : ∃ q : tG, q = gF g3 27 0 := ⟨_, rfl⟩
  obtain ⟨g5, hg5⟩ : ∃ q : tG, q = gF g4 28 0 := ⟨_, rfl⟩
  have fr : ∀ j, j ≠ 26 → j ≠ 27 → j ≠ 28 → j ≠ 45 → g5 j = g j := fun j h1 h2 h3 h4 => by rw [hg5, gF_ne h3, hg4, gF_ne h2, hg3, gF_ne h1, hg2, sc_nj h4, hg1, sc_nj h4]
  have e8 : g5 45 8 = 0 := by rw [hg5, gF_ne (by decide), hg4, gF_ne (by decide), hg3, gF_ne (by decide), hg2, sc_at]
  have e7 : g5 45 7 = 0 := by rw [hg5, gF_ne (by decide), hg4, gF_ne (by decide), hg3, gF_ne (by decide), hg2, sc_nk (by decide), hg1, sc_at]
  have e28 : ∀ d, d < 28 → g5 28 d = 0 := fun d hd => by rw [hg5, gF_get, if_pos ⟨rfl, hd⟩]
  have e27 : ∀ d, d < 28 → g5 27 d = 0 := fun d hd => by rw [hg5, gF_ne (by decide), hg4, gF_get, if_pos ⟨rfl, hd⟩]
  have e26 : ∀ d, d < 28 → g5 26 d = 0 := fun d hd => by rw [hg5, gF_ne (by decide), hg4, gF_ne (by decide), hg3, gF_get, if_pos ⟨rfl, hd⟩]
  have t17 : g5 17 = g 17 := fr 17 (by decide) (by decide) (by decide) (by decide)
  have t18 : g5 18 = g 18 := fr 18 (by decide) (by decide) (by decide) (by decide)
  have t13 : g5 13 = g 13 := fr 13 (by decide) (by decide) (by decide) (by decide)
  have t9 : g5 9 = g 9 := fr 9 (by decide) (by decide) (by decide) (by decide)
  have hmo : momT g5 = momT g := by funext a; unfold momT; rw [t17, t18]
  have hsel : ∀ a, selT g5 p w a ↔ selT g p w a := by
    intro a
    unfold selT
    rw [t17, t13, gA_row t9]
  have htv : tapV g5 = tapV g := tapV_eq (fun j h1 h2 => fr j (by omega) (by omega) (by omega) (by omega))
  obtain ⟨h1, O, l1, hM, hs, hm, hl, h28, hF, hI⟩ := read1 (g := g5) hn (fun a ha => by rw [t17]; exact (hT a ha).1) p w e8 e28
  have hO : RO h1 O := ⟨hM.1, hM.2.1, fun i a ha => ⟨(hM.2.2 i a ha).1, (hM.2.2 i a ha).2.2⟩⟩
  have hd : ∀ a, a ∈ O → ∃ d, d < 28 ∧ h1 17 a = nI d := by
    intro a ha
    rw [hF 17 (by decide), t17]
    exact (hT a ((hm a).mp ha).1).1
  have h0 : RLg h1 [] := by
    refine ⟨?_, by decide, fun i l hi => by simp at hi, fun d hd9 => ?_, fun d hd9 => ?_⟩
    · rw [hI 7 (by decide), e7]; rfl
    · rw [hF 27 (by decide), e27 d hd9]; rfl
    · rw [hF 26 (by decide), e26 d hd9]; rfl
  obtain ⟨h2, l2, hL, hF2, hI2⟩ := read2 hO hd h0
  have htv1 : tapV h1 = tapV g := by
    rw [← htv]
    exact tapV_eq (fun j j1 j2 => hF j (by
      intro hx
      have : j = 28 ∨ j = 29 ∨ j = 30 ∨ j = 45 := by simpa using hx
      omega))
  rw [htv1] at hL
  have hw : fX3_read_w g (nI n) p w = fX3_fillGuesses_w h2 := by
    unfold fX3_read_w
    simp only [← hg1, ← hg2, ← hg3, ← hg4, ← hg5]
    have q1 : lp (sX3_read_37 (nI n) p w) (nn (nI n)) (0, g5) = (nI n, h1) := l1
    rw [q1]
    have q2 : lp (sX3_read_123) (nn (h1 45 8)) (0, h1) = (nI O.length, h2) := l2
    show fX3_fillGuesses_w (lp (sX3_read_123) (nn (h1 45 8)) (0, h1)).2 = _
    rw [q2]
  rw [hw]
  refine ⟨O, by rw [← hmo]; exact hs, fun a => by rw [hm a, hsel a], hl, fill_RF hL.toRF, fun d hd9 => ⟨?_, ?_, ?_⟩⟩
  · rw [fjX3_fillGuesses h2 26 (by decide)]; exact hL.2.2.2.2 d hd9
  · rw [fjX3_fillGuesses h2 27 (by decide)]; exact hL.2.2.2.1 d hd9
  · rw [fjX3_fillGuesses h2 28 (by decide), hF2 28 (by decide), h28 d hd9, t17]
theorem legs_day_ok {g : tG} {n : Nat} (hT : okT g n) {O : List Nat} (hm : ∀ a, a ∈ O → a < n) {i : Nat} (hi : i < (legsL (O.map (tapV g))).length) : ∃ d, d < 28 ∧ nthL (legsL (O.map (tapV g))) i 0 = nI d := by
  obtain ⟨t, ht, e⟩ := legsL_days (nthL_mem hi).1
  obtain ⟨a, ha, ea⟩ := List.mem_map.mp ht
  obtain ⟨d, hd, e2⟩ := (hT a (hm a ha)).1
  exact ⟨d, hd, by rw [e, ← ea]; exact e2⟩
