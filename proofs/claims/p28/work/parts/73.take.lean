/-! the last leg is written -/
theorem daysL_last {M : List tL} {x y : tL} (h : y 0 = x 0) : daysL (M ++ [y]) = daysL (M ++ [x]) := by rw [daysL_snoc, daysL_snoc, h]
theorem cntL_last {M : List tL} {x y : tL} {d : Int32} (h : y 0 = x 0) : cntL (M ++ [y]) d = cntL (M ++ [x]) d := by unfold cntL; rw [daysL_last h]
theorem fstL_last {M : List tL} {x y : tL} {d : Int32} (h : y 0 = x 0) : fstL (M ++ [y]) d = fstL (M ++ [x]) d := by unfold fstL; rw [cntL_last h, daysL_last h]
theorem RLg.put {g : tG} {M : List tL} {x : tL} (h : RLg g (M ++ [x])) {r0 : Nat} {v : Int32} (h0 : 0 < r0) (h7 : r0 < 7) : RLg (gP g (19 + r0) (nI M.length) v) (M ++ [upd x r0 v]) := by
  obtain ⟨h1, h2, h3, h4, h5⟩ := h
  have hl : M.length < tc_len (19 + r0) := by
    rw [len19 r0 h7]
    rw [List.length_append] at h2
    have h9 : ([x] : List tL).length = 1 := rfl
    omega
  have hs : tc_len (19 + r0) < 2 ^ 31 := by rw [len19 r0 h7]; decide
  have e0 : upd x r0 v 0 = x 0 := upd_n (by omega)
  refine ⟨?_, ?_, ?_, ?_, ?_⟩
  · rw [gP_ne (by omega), h1, List.length_append, List.length_append]; rfl
  · rw [List.length_append] at h2 ⊢; exact h2
  · intro i l hi r hr
    rw [gP_get hl hs]
    rcases get_snoc hi with ⟨q1, q2⟩ | ⟨q1, q2⟩
    · rw [if_neg (by omega)]
      exact h3 i l (by rw [List.getElem?_append_left q2]; exact q1) r hr
    · subst q1
      rw [q2]
      by_cases c : r = r0
      · subst c
        rw [if_pos ⟨rfl, rfl⟩, upd_s]
      · rw [if_neg (by omega), upd_n c]
        exact h3 M.length x (by rw [List.getElem?_append_right (Nat.le_refl _), Nat.sub_self]; rfl) r hr
  · intro d hd
    rw [gP_ne (by omega), cntL_last e0]; exact h4 d hd
  · intro d hd
    rw [gP_ne (by omega), fstL_last e0]; exact h5 d hd
/-! taps, one by one -/
theorem takeIn_RL {g : tG} {L : List tL} (h : RLg g L) (h41 : L.length < 41) {x1 : Int32} {d : Nat} {m s l : Int32} (hd : d < 28) (e1 : gA g 17 x1 = nI d) (e2 : gA g 14 x1 = s) (e3 : gA g 18 x1 = m) (e4 : gA g 15 x1 = l) : RLg (fX3_takeIn_w g x1) (inL L (nI d) m s l) := by
  have hb : gA g 20 ((g 45 7) - 1) = lastL L 1 := h.last (r := 1) (by decide)
  have hc : gA g 22 ((g 45 7) - 1) = lastL L 3 := h.last (r := 3) (by decide)
  have ho := h.isOpen hd
  have ha := h.add (s := s) (m := m) (l := l) (q := 2) h41 hd
  unfold fX3_takeIn_w inL
  simp only [e1, e2, e3, e4, hb, hc, ho]
  by_cases c : 0 < cntL L (nI d) ∧ lastL L 6 = 2
  · rw [if_pos c, if_neg (by decide)]
    by_cases c2 : lastL L 1 = s
    · rw [if_pos c2]
      by_cases c3 : 3 < m - lastL L 3
      · rw [if_pos c3, if_neg (fun q => q.2.2.2 c3)]; exact ha
      · rw [if_neg c3, if_pos ⟨c.1, c.2, c2, c3⟩]; exact h
    · rw [if_neg c2, if_neg (fun q => c2 q.2.2.1)]; exact ha
  · rw [if_neg c, if_pos rfl, if_neg (fun q => c ⟨q.1, q.2.1⟩)]; exact ha
theorem takeOut_RL {g : tG} {L : List tL} (h : RLg g L) (h41 : L.length < 41) {x1 : Int32} {d : Nat} {m s l : Int32} (hd : d < 28) (e1 : gA g 17 x1 = nI d) (e2 : gA g 14 x1 = s) (e3 : gA g 18 x1 = m) (e4 : gA g 15 x1 = l) : RLg (fX3_takeOut_w g x1) (outL L (nI d) m s l) := by
  have hb : gA g 21 ((g 45 7) - 1) = lastL L 2 := h.last (r := 2) (by decide)
  have hc : gA g 23 ((g 45 7) - 1) = lastL L 4 := h.last (r := 4) (by decide)
  have ho := h.isOpen hd
  have ha := h.add (s := s) (m := m) (l := l) (q := 1) h41 hd
  have h27 : gA g 27 (nI d) = nI (cntL L (nI d)) := by
    rw [gA_nI (j := 27) hd (by decide)]
    exact h.2.2.2.1 d hd
  have hbn : cntL L (nI d) < 2 ^ 31 := Nat.lt_of_le_of_lt (Nat.le_trans cntL_le h.2.1) (by decide)
  by_cases c : 0 < cntL L (nI d) ∧ lastL L 6 = 2
  · have e5 : fX3_takeOut_w g x1 = gP (gP (gP g 21 ((g 45 7) - 1) s) 23 ((g 45 7) - 1) m) 25 ((g 45 7) - 1) 0 := by
      unfold fX3_takeOut_w
      simp only [e1, e2, e3, e4, hb, hc, ho, if_pos c]
      rw [if_neg (by decide)]
    have e6 : outL L (nI d) m s l = L.dropLast ++ [upd (upd (upd (lastL L) 2 s) 4 m) 6 0] := by unfold outL; rw [if_pos c]
    rw [e5, e6]
    rcases snoc_or L with e | ⟨M, x, e⟩
    · subst e
      exact absurd c.1 (Nat.lt_irrefl 0)
    · subst e
      have h1 : g 45 7 = nI (M.length + 1) := by rw [h.1, List.length_append]; rfl
      rw [h1, nI_pred, lastL_snoc, List.dropLast_concat]
      have k1 := h.put (r0 := 2) (v := s) (by decide) (by decide)
      have k2 := k1.put (r0 := 4) (v := m) (by decide) (by decide)
      exact k2.put (r0 := 6) (v := 0) (by decide) (by decide)
  · unfold fX3_takeOut_w outL
    simp only [e1, e2, e3, e4, hb, hc, ho, h27]
    rw [if_neg c, if_pos rfl, if_neg c]
    by_cases c1 : cntL L (nI d) = 0
    · rw [if_pos ((nI_le0 hbn).mpr c1), if_neg (fun q => by omega)]; exact ha
    · rw [if_neg (fun q => c1 ((nI_le0 hbn).mp q))]
      by_cases c2 : lastL L 2 = s
      · rw [if_pos c2]
        by_cases c3 : 3 < m - lastL L 4
        · rw [if_pos c3, if_neg (fun q => q.2.2 c3)]; exact ha
        · rw [if_neg c3, if_pos ⟨by omega, c2, c3⟩]; exact h
      · rw [if_neg c2, if_neg (fun q => c2 q.2.1)]; exact ha
/-- a tap, as a tuple of its values: day, minute, stop, line, in -/
def stepL (L : List tL) (t : tL) : List tL := if t 4 = 0 then outL L (t 0) (t 1) (t 2) (t 3) else inL L (t 0) (t 1) (t 2) (t 3)
def legsL (V : List tL) : List tL := V.foldl stepL []
theorem inL_len {L : List tL} {d m s l : Int32} : (inL L d m s l).length ≤ L.length + 1 := by
  unfold inL
  split
  · omega
  · rw [List.length_append]; exact Nat.le_refl _
theorem outL_len {L : List tL} {d m s l : Int32} : (outL L d m s l).length ≤ L.length + 1 := by
  unfold outL
  split
  · rw [List.length_append, List.length_dropLast]
    show L.length - 1 + 1 ≤ L.length + 1
    omega
  · split
    · omega
    · rw [List.length_append]; exact Nat.le_refl _
theorem stepL_len {L : List tL} {t : tL} : (stepL L t).length ≤ L.length + 1 := by
  unfold stepL
  split
  · exact outL_len
  · exact inL_len
theorem foldl_len : ∀ (V : List tL) (L : List tL), (V.foldl stepL L).length ≤ L.length + V.length := by
  intro V
  induction V with
  | nil => intro L; exact Nat.le_refl _
  | cons t V ih =>
    intro L
    rw [List.foldl_cons, List.length_cons]
    have h1 := ih (stepL L t)
    have h2 := stepL_len (L := L) (t := t)
    omega
/-- what a tap's rows hold -/
def tapV (g : tG) (a : Nat) : tL := fun r => match r with
  | 0 => g 17 a
  | 1 => g 18 a
  | 2 => g 14 a
  | 3 => g 15 a
  | 4 => g 16 a
  | _ => 0
/-- the order of taps as a list of their places -/
def RO (g : tG) (O : List Nat) : Prop := g 45 8 = nI O.length ∧ O.length ≤ 41 ∧ ∀ (i a : Nat), O[i]? = some a → g 29 i = nI a ∧ a < 41
def taps_eq (g h : tG) : Prop := ∀ j, 13 ≤ j → j < 19 → g j = h j
theorem tapV_eq {g h : tG} (e : taps_eq g h) : tapV g = tapV h := by
  funext a r
  unfold tapV
  rw [e 17 (by decide) (by decide), e 18 (by decide) (by decide), e 14 (by decide) (by decide), e 15 (by decide) (by decide), e 16 (by decide) (by decide)]
theorem lenT0 : ∀ j, j < 19 → 13 ≤ j → tc_len j = 41 := by decide
theorem lenT : ∀ j, 13 ≤ j → j < 19 → tc_len j = 41 := fun j a b => lenT0 j b a
/-- the second loop of read: from the order to the legs -/
theorem read2 {g : tG} {O : List Nat} (hO : RO g O) (hd : ∀ a, a ∈ O → ∃ d, d < 28 ∧ g 17 a = nI d) (h0 : RLg g []) :
    ∃ h : tG, lp (sX3_read_123) (nn ((g 45 8))) (0, g) = (nI O.length, h) ∧ RLg h (legsL (O.map (tapV g))) ∧ (∀ j, j ∉ ([19, 20, 21, 22, 23, 24, 25, 26, 27, 45] : List Nat) → h j = g j) ∧ (∀ k, k ∉ ([7] : List Nat) → h 45 k = g 45 k) := by
  have hn : nn (g 45 8) = O.length := by rw [hO.1]; exact nn_nI (by have := hO.2.1; omega)
  have key : ∀ (j : Nat) (t : tG), j < O.length → (RLg t (legsL ((O.map (tapV g)).take j)) ∧ (∀ q, q ∉ ([19, 20, 21, 22, 23, 24, 25, 26, 27, 45] : List Nat) → t q = g q) ∧ (∀ k, k ∉ ([7] : List Nat) → t 45 k = g 45 k)) →
      ∃ t', sX3_read_123 (nI j, t) = some (nI (j + 1), t') ∧ (RLg t' (legsL ((O.map (tapV g)).take (j + 1))) ∧ (∀ q, q ∉ ([19, 20, 21, 22, 23, 24, 25, 26, 27, 45] : List Nat) → t' q = g q) ∧ (∀ k, k ∉ ([7] : List Nat) → t' 45 k = g 45 k)) := by
    intro j t hj ⟨hR, hF, hI⟩
    have ho : t 45 8 = nI O.length := by rw [hI 8 (by decide)]; exact hO.1
    have hjO : O[j]? = some O[j] := List.getElem?_eq_getElem hj
    obtain ⟨h29, h41⟩ := hO.2.2 j _ hjO
    obtain ⟨d, hd28, hda⟩ := hd O[j] (List.getElem_mem hj)
    have c : ¬ (t 45 8) ≤ nI j := by rw [ho]; exact nI_ge hj (by have := hO.2.1; omega)
    have hlen := hO.2.1
    have hv : gA t 29 (nI j) = nI O[j] := by
      rw [gA_nI (j := 29) (by show j < 41; omega) (by decide), hF 29 (by decide)]; exact h29
    have gt : ∀ q, 13 ≤ q → q < 19 → gA t q (nI O[j]) = g q O[j] := by
      intro q q1 q2
      rw [gA_nI (by rw [lenT q q1 q2]; exact h41) (by rw [lenT q q1 q2]; decide), hF q (by
        intro hm
        have : q = 19 ∨ q = 20 ∨ q = 21 ∨ q = 22 ∨ q = 23 ∨ q = 24 ∨ q = 25 ∨ q = 26 ∨ q = 27 ∨ q = 45 := by simpa using hm
        omega)]
    have hlL : (legsL ((O.map (tapV g)).take j)).length < 41 := by
      have h1 := foldl_len ((O.map (tapV g)).take j) []
      rw [List.length_take, List.length_map] at h1
      have h2 : ([] : List tL).length = 0 := rfl
      unfold legsL
      omega
    have hnext : legsL ((O.map (tapV g)).take (j + 1)) = stepL (legsL ((O.map (tapV g)).take j)) (tapV g O[j]) := by
      unfold legsL
      rw [List.take_succ, List.getElem?_map, hjO]
      show (List.take j (O.map (tapV g)) ++ [tapV g O[j]]).foldl stepL [] = _
      rw [List.foldl_append]
      rfl
    have e17 := gt 17 (by decide) (by decide)
    rw [hda] at e17
    have e14 := gt 14 (by decide) (by decide)
    have e18 := gt 18 (by decide) (by decide)
    have e15 := gt 15 (by decide) (by decide)
    have e16 := gt 16 (by decide) (by decide)
    rw [hnext]
    by_cases c16 : g 16 O[j] = 0
    · refine ⟨fX3_takeOut_w t (nI O[j]), ?_, ?_, ?_, ?_⟩
      · unfold sX3_read_123
        simp only [if_neg c, hv, e16, if_pos c16]
        rw [← nI_1]
      · have hs : stepL (legsL ((O.map (tapV g)).take j)) (tapV g O[j]) = outL (legsL ((O.map (tapV g)).take j)) (nI d) (g 18 O[j]) (g 14 O[j]) (g 15 O[j]) := by
          unfold stepL
          rw [if_pos (show tapV g O[j] 4 = 0 from c16), show tapV g O[j] 0 = nI d from hda]
          rfl
        rw [hs]
        exact takeOut_RL hR hlL hd28 e17 e14 e18 e15
      · intro q hq
        rw [fjX3_takeOut t _ q hq]; exact hF q hq
      · intro k hk
        rw [fiX3_takeOut t _ k hk]; exact hI k hk
    · refine ⟨fX3_takeIn_w t (nI O[j]), ?_, ?_, ?_, ?_⟩
      · unfold sX3_read_123
        simp only [if_neg c, hv, e16, if_neg c16]
        rw [← nI_1]
      · have hs : stepL (legsL ((O.map (tapV g)).take j)) (tapV g O[j]) = inL (legsL ((O.map (tapV g)).take j)) (nI d) (g 18 O[j]) (g 14 O[j]) (g 15 O[j]) := by
          unfold stepL
          rw [if_neg (show ¬ tapV g O[j] 4 = 0 from c16), show tapV g O[j] 0 = nI d from hda]
          rfl
        rw [hs]
        exact takeIn_RL hR hlL hd28 e17 e14 e18 e15
      · intro q hq
        rw [fjX3_takeIn t _ q hq]; exact hF q hq
      · intro k hk
        rw [fiX3_takeIn t _ k hk]; exact hI k hk
  have fin : ∀ (t : tG), (RLg t (legsL ((O.map (tapV g)).take O.length)) ∧ (∀ q, q ∉ ([19, 20, 21, 22, 23, 24, 25, 26, 27, 45] : List Nat) → t q = g q) ∧ (∀ k, k ∉ ([7] : List Nat) → t 45 k = g 45 k)) → sX3_read_123 (nI O.length, t) = none := by
    intro t ⟨hR, hF, hI⟩
    have ho : t 45 8 = nI O.length := by rw [hI 8 (by decide)]; exact hO.1
    unfold sX3_read_123
    rw [if_pos (show (t 45 8) ≤ nI O.length from by rw [ho]; exact Int32.le_refl _)]
  obtain ⟨h, e, hI⟩ := lp_for (f := sX3_read_123) (N := O.length) (fun j t => RLg t (legsL ((O.map (tapV g)).take j)) ∧ (∀ q, q ∉ ([19, 20, 21, 22, 23, 24, 25, 26, 27, 45] : List Nat) → t q = g q) ∧ (∀ k, k ∉ ([7] : List Nat) → t 45 k = g 45 k)) key fin O.length 0 g (nn (g 45 8)) (by omega) (by omega) ⟨by rw [List.take_zero]; exact h0, fun _ _ => rfl, fun _ _ => rfl⟩
  refine ⟨h, e, ?_, hI.2.1, hI.2.2⟩
  have h9 := hI.1
  rw [List.take_of_length_le (by rw [List.length_map]; exact Nat.le_refl _)] at h9
  exact h9
