/-! legs as lists: a leg is what its seven rows hold (day, from, to, begin, end, line, guess) -/
abbrev tL : Type := Nat → Int32
def mkL (d f b l q : Int32) : tL := fun r => match r with
  | 0 => d
  | 1 => f
  | 2 => f
  | 3 => b
  | 4 => b
  | 5 => l
  | _ => q
def lastL (L : List tL) : tL := L.getLast?.getD (fun _ => 0)
def daysL (L : List tL) : List Int32 := L.map (fun l => l 0)
def cntL (L : List tL) (d : Int32) : Nat := (daysL L).count d
def fstL (L : List tL) (d : Int32) : Nat := if cntL L d = 0 then 0 else (daysL L).idxOf d
def inL (L : List tL) (d m s l : Int32) : List tL :=
  if 0 < cntL L d ∧ lastL L 6 = 2 ∧ lastL L 1 = s ∧ ¬ 3 < m - lastL L 3 then L else L ++ [mkL d s m l 2]
def outL (L : List tL) (d m s l : Int32) : List tL :=
  if 0 < cntL L d ∧ lastL L 6 = 2 then L.dropLast ++ [upd (upd (upd (lastL L) 2 s) 4 m) 6 0]
  else if 0 < cntL L d ∧ lastL L 2 = s ∧ ¬ 3 < m - lastL L 4 then L else L ++ [mkL d s m l 1]
/-- the rows of a state hold the legs -/
def RLg (g : tG) (L : List tL) : Prop := g 45 7 = nI L.length ∧ L.length ≤ 41 ∧ (∀ (i : Nat) (l : tL), L[i]? = some l → ∀ r, r < 7 → g (19 + r) i = l r) ∧ (∀ d, d < 28 → g 27 d = nI (cntL L (nI d))) ∧ (∀ d, d < 28 → g 26 d = nI (fstL L (nI d)))
theorem len19 : ∀ r, r < 7 → tc_len (19 + r) = 41 := by decide
theorem len31 : tc_len 31 = 10 := rfl
theorem lastL_snoc {M : List tL} {x : tL} : lastL (M ++ [x]) = x := by
  unfold lastL; rw [List.getLast?_concat]; rfl
theorem snoc_or (L : List tL) : L = [] ∨ ∃ M x, L = M ++ [x] := by
  rcases List.eq_nil_or_concat L with h | ⟨M, x, h⟩
  · exact Or.inl h
  · exact Or.inr ⟨M, x, by rw [h, List.concat_eq_append]⟩
theorem cntL_le {L : List tL} {d : Int32} : cntL L d ≤ L.length := by
  unfold cntL daysL
  exact Nat.le_trans List.count_le_length (by rw [List.length_map]; exact Nat.le_refl _)
theorem RLg.last {g : tG} {L : List tL} (h : RLg g L) {r : Nat} (hr : r < 7) : gA g (19 + r) ((g 45 7) - 1) = lastL L r := by
  obtain ⟨h1, h2, h3, -⟩ := h
  rcases snoc_or L with e | ⟨M, x, e⟩
  · subst e
    rw [h1]
    exact gA_m1
  · subst e
    rw [List.length_append] at h1 h2
    have h4 : ([x] : List tL).length = 1 := rfl
    rw [h4] at h1 h2
    rw [h1, nI_pred, gA_nI (by rw [len19 r hr]; omega) (by rw [len19 r hr]; decide), lastL_snoc]
    exact h3 M.length x (by rw [List.getElem?_append_right (Nat.le_refl _), Nat.sub_self]; rfl) r hr
theorem nI_le0 {n : Nat} (h : n < 2 ^ 31) : nI n ≤ 0 ↔ n = 0 := by
  constructor
  · intro q
    rcases Nat.eq_zero_or_pos n with e | e
    · exact e
    · exact absurd q (nI_nle e h)
  · intro e
    subst e
    exact Int32.le_refl _
theorem RLg.isOpen {g : tG} {L : List tL} (h : RLg g L) {d : Nat} (hd : d < 28) : fX3_isOpenOn_r g (nI d) = if 0 < cntL L (nI d) ∧ lastL L 6 = 2 then 1 else 0 := by
  have hl := h.last (r := 6) (by decide)
  have hc : gA g 27 (nI d) = nI (cntL L (nI d)) := by
    rw [gA_nI (j := 27) hd (by decide)]
    exact h.2.2.2.1 d hd
  have hb : cntL L (nI d) < 2 ^ 31 := Nat.lt_of_le_of_lt (Nat.le_trans cntL_le h.2.1) (by decide)
  unfold fX3_isOpenOn_r
  rw [hc]
  have hl : gA g 25 ((g 45 7) - 1) = lastL L 6 := hl
  rw [hl]
  by_cases c : cntL L (nI d) = 0
  · rw [if_pos ((nI_le0 hb).mpr c), if_neg (by omega)]
  · rw [if_neg (fun q => c ((nI_le0 hb).mp q))]
    by_cases c2 : lastL L 6 = 2
    · rw [if_pos c2, if_pos ⟨by omega, c2⟩]
    · rw [if_neg c2, if_neg (fun q => c2 q.2)]
/-! a leg more -/
theorem add_rows {g : tG} {n d : Nat} {s m l q : Int32} (hn : g 45 7 = nI n) (h41 : n < 41) (hd : d < 28) :
    fX3_add_w g (nI d) s m l q 45 7 = nI (n + 1) ∧ (∀ r, r < 7 → fX3_add_w g (nI d) s m l q (19 + r) = upd (g (19 + r)) n (mkL (nI d) s m l q r)) ∧ fX3_add_w g (nI d) s m l q 27 = upd (g 27) d (g 27 d + 1) ∧ fX3_add_w g (nI d) s m l q 26 = (if g 27 d = 0 then upd (g 26) d (nI n) else g 26) := by
  obtain ⟨g1, hg1⟩ : ∃ z : tG, z = gP g 19 (g 45 7) (nI d) := ⟨_, rfl⟩
  obtain ⟨g2, hg2⟩ : ∃ z : tG, z = gP g1 20 (g1 45 7) s := ⟨_, rfl⟩
  obtain ⟨g3, hg3⟩ : ∃ z : tG, z = gP g2 21 (g2 45 7) s := ⟨_, rfl⟩
  obtain ⟨g4, hg4⟩ : ∃ z : tG, z = gP g3 22 (g3 45 7) m := ⟨_, rfl⟩
  obtain ⟨g5, hg5⟩ : ∃ z : tG, z = gP g4 23 (g4 45 7) m := ⟨_, rfl⟩
  obtain ⟨g6, hg6⟩ : ∃ z : tG, z = gP g5 24 (g5 45 7) l := ⟨_, rfl⟩
  obtain ⟨g7, hg7⟩ : ∃ z : tG, z = gP g6 25 (g6 45 7) q := ⟨_, rfl⟩
  have i1 : g1 45 7 = nI n := by rw [hg1, gP_ne (by decide)]; exact hn
  have i2 : g2 45 7 = nI n := by rw [hg2, gP_ne (by decide)]; exact i1
  have i3 : g3 45 7 = nI n := by rw [hg3, gP_ne (by decide)]; exact i2
  have i4 : g4 45 7 = nI n := by rw [hg4, gP_ne (by decide)]; exact i3
  have i5 : g5 45 7 = nI n := by rw [hg5, gP_ne (by decide)]; exact i4
  have i6 : g6 45 7 = nI n := by rw [hg6, gP_ne (by decide)]; exact i5
  have i7 : g7 45 7 = nI n := by rw [hg7, gP_ne (by decide)]; exact i6
  rw [hn] at hg1
  rw [i1] at hg2
  rw [i2] at hg3
  rw [i3] at hg4
  rw [i4] at hg5
  rw [i5] at hg6
  rw [i6] at hg7
  have a27 : g7 27 = g 27 := by rw [hg7, gP_ne (by decide), hg6, gP_ne (by decide), hg5, gP_ne (by decide), hg4, gP_ne (by decide), hg3, gP_ne (by decide), hg2, gP_ne (by decide), hg1, gP_ne (by decide)]
  have a26 : g7 26 = g 26 := by rw [hg7, gP_ne (by decide), hg6, gP_ne (by decide), hg5, gP_ne (by decide), hg4, gP_ne (by decide), hg3, gP_ne (by decide), hg2, gP_ne (by decide), hg1, gP_ne (by decide)]
  have rr : ∀ r, r < 7 → g7 (19 + r) = upd (g (19 + r)) n (mkL (nI d) s m l q r) := by
    intro r hr
    match r, hr with
    | 0, _ => show g7 19 = upd (g 19) n (nI d); rw [hg7, gP_ne (by decide), hg6, gP_ne (by decide), hg5, gP_ne (by decide), hg4, gP_ne (by decide), hg3, gP_ne (by decide), hg2, gP_ne (by decide), hg1, gP_at (by exact h41) (by decide)]
    | 1, _ => show g7 20 = upd (g 20) n s; rw [hg7, gP_ne (by decide), hg6, gP_ne (by decide), hg5, gP_ne (by decide), hg4, gP_ne (by decide), hg3, gP_ne (by decide), hg2, gP_at (by exact h41) (by decide), hg1, gP_ne (by decide)]
    | 2, _ => show g7 21 = upd (g 21) n s; rw [hg7, gP_ne (by decide), hg6, gP_ne (by decide), hg5, gP_ne (by decide), hg4, gP_ne (by decide), hg3, gP_at (by exact h41) (by decide), hg2, gP_ne (by decide), hg1, gP_ne (by decide)]
    | 3, _ => show g7 22 = upd (g 22) n m; rw [hg7, gP_ne (by decide), hg6, gP_ne (by decide), hg5, gP_ne (by decide), hg4, gP_at (by exact h41) (by decide), hg3, gP_ne (by decide), hg2, gP_ne (by decide), hg1, gP_ne (by decide)]
    | 4, _ => show g7 23 = upd (g 23) n m; rw [hg7, gP_ne (by decide), hg6, gP_ne (by decide), hg5, gP_at (by exact h41) (by decide), hg4, gP_ne (by decide), hg3, gP_ne (by decide), hg2, gP_ne (by decide), hg1, gP_ne (by decide)]
    | 5, _ => show g7 24 = upd (g 24) n l; rw [hg7, gP_ne (by decide), hg6, gP_at (by exact h41) (by decide), hg5, gP_ne (by decide), hg4, gP_ne (by decide), hg3, gP_ne (by decide), hg2, gP_ne (by decide), hg1, gP_ne (by decide)]
    | 6, _ => show g7 25 = upd (g 25) n q; rw [hg7, gP_at (by exact h41) (by decide), hg6, gP_ne (by decide), hg5, gP_ne (by decide), hg4, gP_ne (by decide), hg3, gP_ne (by decide), hg2, gP_ne (by decide), hg1, gP_ne (by decide)]
    | r + 7, h => exact absurd h (by omega)
  have k27 : gA g7 27 (nI d) = g 27 d := by rw [gA_nI (j := 27) hd (by decide), a27]
  by_cases c : (gA g7 27 (nI d)) = 0
  · obtain ⟨g10, hg10⟩ : ∃ z : tG, z = gP g7 26 (nI d) (g7 45 7) := ⟨_, rfl⟩
    obtain ⟨g11, hg11⟩ : ∃ z : tG, z = gD g10 27 (nI d) 1 := ⟨_, rfl⟩
    obtain ⟨v2, hv2⟩ : ∃ z : Int32, z = (g11 45 7) + 1 := ⟨_, rfl⟩
    obtain ⟨g12, hg12⟩ : ∃ z : tG, z = tc_sc g11 7 v2 := ⟨_, rfl⟩
    have hw : fX3_add_w g (nI d) s m l q = g12 := by
      unfold fX3_add_w
      simp only [hn, ← hg1, i1, ← hg2, i2, ← hg3, i3, ← hg4, i4, ← hg5, i5, ← hg6, i6, ← hg7, if_pos c]
      rw [hg12, hv2, hg11, hg10]
    have e1 : g11 45 7 = nI n := by rw [hg11, gD_ne (by decide), hg10, gP_ne (by decide)]; exact i7
    rw [hw]
    rw [k27] at c
    rw [if_pos c]
    refine ⟨?_, ?_, ?_, ?_⟩
    · rw [hg12, sc_at, hv2, e1]; exact nI_1 n
    · intro r hr
      rw [hg12, sc_nj (by omega), hg11, gD_ne (by omega), hg10, gP_ne (by omega)]
      exact rr r hr
    · rw [hg12, sc_nj (by decide), hg11, gD_at (by exact hd) (by decide), hg10, gP_ne (by decide), a27]
    · rw [hg12, sc_nj (by decide), hg11, gD_ne (by decide), hg10, gP_at (by exact hd) (by decide), a26, i7]
  · obtain ⟨g8, hg8⟩ : ∃ z : tG, z = gD g7 27 (nI d) 1 := ⟨_, rfl⟩
    obtain ⟨v1, hv1⟩ : ∃ z : Int32, z = (g8 45 7) + 1 := ⟨_, rfl⟩
    obtain ⟨g9, hg9⟩ : ∃ z : tG, z = tc_sc g8 7 v1 := ⟨_, rfl⟩
    have hw : fX3_add_w g (nI d) s m l q = g9 := by
      unfold fX3_add_w
      simp only [hn, ← hg1, i1, ← hg2, i2, ← hg3, i3, ← hg4, i4, ← hg5, i5, ← hg6, i6, ← hg7, if_neg c]
      rw [hg9, hv1, hg8]
    have e1 : g8 45 7 = nI n := by rw [hg8, gD_ne (by decide)]; exact i7
    rw [hw]
    rw [k27] at c
    rw [if_neg c]
    refine ⟨?_, ?_, ?_, ?_⟩
    · rw [hg9, sc_at, hv1, e1]; exact nI_1 n
    · intro r hr
      rw [hg9, sc_nj (by omega), hg8, gD_ne (by omega)]
      exact rr r hr
    · rw [hg9, sc_nj (by decide), hg8, gD_at (by exact hd) (by decide), a27]
    · rw [hg9, sc_nj (by decide), hg8, gD_ne (by decide), a26]
theorem upd_s {f : Nat → Int32} {k : Nat} {x : Int32} : upd f k x k = x := pk_us
theorem upd_n {f : Nat → Int32} {k j : Nat} {x : Int32} (h : j ≠ k) : upd f k x j = f j := pk_un h
theorem daysL_snoc {L : List tL} {x : tL} : daysL (L ++ [x]) = daysL L ++ [x 0] := by unfold daysL; rw [List.map_append]; rfl
theorem cntL_snoc {L : List tL} {x : tL} {d : Int32} : cntL (L ++ [x]) d = cntL L d + if x 0 = d then 1 else 0 := by
  unfold cntL
  rw [daysL_snoc, List.count_append, List.count_singleton]
  by_cases c : x 0 = d
  · simp [c]
  · simp [c]
theorem fstL_snoc {L : List tL} {x : tL} {d : Int32} : fstL (L ++ [x]) d = if cntL L d = 0 then (if x 0 = d then L.length else 0) else fstL L d := by
  unfold fstL
  rw [cntL_snoc, daysL_snoc]
  have hlen : (daysL L).length = L.length := by unfold daysL; rw [List.length_map]
  by_cases c : cntL L d = 0
  · have hn : d ∉ daysL L := by
      have c2 : (daysL L).count d = 0 := c
      exact List.count_eq_zero.mp c2
    rw [if_pos c]
    by_cases c1 : x 0 = d
    · rw [if_pos c1, if_pos c1, if_neg (by omega), List.idxOf_append, if_neg hn, hlen]
      rw [c1]
      simp
    · rw [if_neg c1, if_neg c1, if_pos (by omega)]
  · have hn : d ∈ daysL L := by
      have c2 : (daysL L).count d ≠ 0 := c
      exact List.count_pos_iff.mp (by omega)
    rw [if_neg c, if_neg (by omega), List.idxOf_append, if_pos hn, if_neg c]
theorem get_snoc {α : Type} {L : List α} {x l : α} {i : Nat} (h : (L ++ [x])[i]? = some l) : L[i]? = some l ∧ i < L.length ∨ i = L.length ∧ l = x := by
  rcases Nat.lt_or_ge i L.length with q | q
  · rw [List.getElem?_append_left q] at h
    exact Or.inl ⟨h, q⟩
  · rw [List.getElem?_append_right q] at h
    have h1 : i - L.length < 1 := (List.getElem?_eq_some_iff.mp h).1
    have h2 : i = L.length := by omega
    subst h2
    rw [Nat.sub_self] at h
    cases h
    exact Or.inr ⟨rfl, rfl⟩
theorem RLg.add {g : tG} {L : List tL} (h : RLg g L) {d : Nat} {s m l q : Int32} (h41 : L.length < 41) (hd : d < 28) : RLg (fX3_add_w g (nI d) s m l q) (L ++ [mkL (nI d) s m l q]) := by
  obtain ⟨h1, h2, h3, h4, h5⟩ := h
  obtain ⟨a1, a2, a3, a4⟩ := add_rows (s := s) (m := m) (l := l) (q := q) h1 h41 hd
  have hb : cntL L (nI d) < 2 ^ 31 := Nat.lt_of_le_of_lt (Nat.le_trans cntL_le h2) (by decide)
  have hz : g 27 d = 0 ↔ cntL L (nI d) = 0 := by
    rw [h4 d hd, ← nI_0]
    exact nI_eq hb (by decide)
  refine ⟨?_, ?_, ?_, ?_, ?_⟩
  · rw [a1, List.length_append]; rfl
  · rw [List.length_append]; show L.length + 1 ≤ 41; omega
  · intro i x hx r hr
    rw [a2 r hr]
    rcases get_snoc hx with ⟨q1, q2⟩ | ⟨q1, q2⟩
    · rw [upd_n (by omega)]; exact h3 i x q1 r hr
    · subst q1; subst q2; exact upd_s
  · intro d' hd'
    rw [a3, cntL_snoc]
    show upd (g 27) d (g 27 d + 1) d' = nI (cntL L (nI d') + if nI d = nI d' then 1 else 0)
    by_cases c : d' = d
    · subst c
      rw [upd_s, if_pos rfl, h4 d' hd']; exact nI_1 _
    · rw [upd_n c, if_neg (fun q9 => c ((nI_eq (by omega) (by omega)).mp q9).symm), h4 d' hd']; rfl
  · intro d' hd'
    rw [a4, fstL_snoc]
    show (if g 27 d = 0 then upd (g 26) d (nI L.length) else g 26) d' = nI (if cntL L (nI d') = 0 then (if nI d = nI d' then L.length else 0) else fstL L (nI d'))
    by_cases c : d' = d
    · subst c
      by_cases c2 : cntL L (nI d') = 0
      · rw [if_pos (hz.mpr c2), if_pos c2, if_pos rfl, upd_s]
      · rw [if_neg (fun q9 => c2 (hz.mp q9)), if_neg c2]; exact h5 d' hd'
    · have e1 : (if g 27 d = 0 then upd (g 26) d (nI L.length) else g 26) d' = g 26 d' := by
        by_cases c2 : g 27 d = 0
        · rw [if_pos c2, upd_n c]
        · rw [if_neg c2]
      rw [e1, h5 d' hd', if_neg (fun q9 => c ((nI_eq (by omega) (by omega)).mp q9).symm)]
      by_cases c3 : cntL L (nI d') = 0
      · rw [if_pos c3]
        unfold fstL
        rw [if_pos c3]
      · rw [if_neg c3]
