/-! journeys as lists: a journey is what its rows hold (day, first leg, legs, top, bottom) -/
def mkJ (d i : Int32) : tL := fun r => match r with
  | 0 => d
  | 1 => i
  | 2 => 0
  | 3 => 1
  | _ => 4
def jrow (r : Nat) : Nat := match r with
  | 0 => 38
  | 1 => 39
  | 2 => 32
  | 3 => 33
  | _ => 40
theorem jrow_inj : ∀ a, a < 5 → ∀ b, b < 5 → jrow a = jrow b → a = b := by decide
theorem jrow_len : ∀ a, a < 5 → tc_len (jrow a) = 41 := by decide
theorem jrow_37 : ∀ a, a < 5 → jrow a ≠ 37 ∧ jrow a ≠ 36 ∧ jrow a ≠ 45 ∧ jrow a ≠ 35 ∧ jrow a ≠ 0 ∧ jrow a ≠ 20 ∧ jrow a ≠ 21 := by decide
def RJ (g : tG) (J : List tL) : Prop := g 45 9 = nI J.length ∧ J.length ≤ 41 ∧ (∀ (i : Nat) (x : tL), J[i]? = some x → ∀ r, r < 5 → g (jrow r) i = x r) ∧ (∀ d, d < 28 → g 37 d = nI (cntL J (nI d))) ∧ (∀ d, d < 28 → g 36 d = nI (fstL J (nI d)))
theorem RJ.put {g : tG} {M : List tL} {x : tL} (h : RJ g (M ++ [x])) {r0 : Nat} {v : Int32} (h0 : 0 < r0) (h5 : r0 < 5) : RJ (gP g (jrow r0) (nI M.length) v) (M ++ [upd x r0 v]) := by
  obtain ⟨h1, h2, h3, h4, h6⟩ := h
  obtain ⟨n1, n2, n3, -⟩ := jrow_37 r0 h5
  have hl : M.length < tc_len (jrow r0) := by
    rw [jrow_len r0 h5]
    rw [List.length_append] at h2
    have h9 : ([x] : List tL).length = 1 := rfl
    omega
  have hs : tc_len (jrow r0) < 2 ^ 31 := by rw [jrow_len r0 h5]; decide
  have e0 : upd x r0 v 0 = x 0 := upd_n (by omega)
  refine ⟨?_, ?_, ?_, ?_, ?_⟩
  · rw [gP_ne n3.symm, h1, List.length_append, List.length_append]; rfl
  · rw [List.length_append] at h2 ⊢; exact h2
  · intro i l hi r hr
    rw [gP_get hl hs]
    rcases get_snoc hi with ⟨q1, q2⟩ | ⟨q1, q2⟩
    · rw [if_neg (by omega)]
      exact h3 i l (by rw [List.getElem?_append_left q2]; exact q1) r hr
    · subst q1
      rw [q2]
      by_cases c : r = r0
      · subst c
        rw [if_pos ⟨rfl, rfl⟩, upd_s]
      · rw [if_neg (fun q => c (jrow_inj r hr r0 h5 q.1)), upd_n c]
        exact h3 M.length x (by rw [List.getElem?_append_right (Nat.le_refl _), Nat.sub_self]; rfl) r hr
  · intro d hd
    rw [gP_ne n1.symm, cntL_last e0]; exact h4 d hd
  · intro d hd
    rw [gP_ne n2.symm, fstL_last e0]; exact h6 d hd
theorem RJ.at_last {g : tG} {M : List tL} {x : tL} (h : RJ g (M ++ [x])) {r : Nat} (hr : r < 5) : gA g (jrow r) (nI M.length) = x r := by
  have h2 := h.2.1
  rw [List.length_append] at h2
  have h9 : ([x] : List tL).length = 1 := rfl
  rw [gA_nI (by rw [jrow_len r hr]; omega) (by rw [jrow_len r hr]; decide)]
  exact h.2.2.1 M.length x (by rw [List.getElem?_append_right (Nat.le_refl _), Nat.sub_self]; rfl) r hr
theorem RJ.rows {g h : tG} {J : List tL} (hR : RJ g J) (e45 : h 45 9 = g 45 9) (e : ∀ r, r < 5 → h (jrow r) = g (jrow r)) (e37 : h 37 = g 37) (e36 : h 36 = g 36) : RJ h J :=
  ⟨by rw [e45]; exact hR.1, hR.2.1, fun i x hx r hr => by rw [e r hr]; exact hR.2.2.1 i x hx r hr, fun d hd => by rw [e37]; exact hR.2.2.2.1 d hd, fun d hd => by rw [e36]; exact hR.2.2.2.2 d hd⟩
/-- a journey more -/
theorem open_RJ {g : tG} {J : List tL} (h : RJ g J) {d : Nat} {i : Int32} (h41 : J.length < 41) (hd : d < 28) : RJ (fX2_open_w g (nI d) i) (J ++ [mkJ (nI d) i]) := by
  obtain ⟨h1, h2, h3, h4, h5⟩ := h
  have hb : cntL J (nI d) < 2 ^ 31 := Nat.lt_of_le_of_lt (Nat.le_trans cntL_le h2) (by decide)
  have hz : g 37 d = 0 ↔ cntL J (nI d) = 0 := by
    rw [h4 d hd, ← nI_0]
    exact nI_eq hb (by decide)
  obtain ⟨g1, hg1⟩ : ∃ z : tG, z = gP g 38 (nI J.length) (nI d) := ⟨_, rfl⟩
  obtain ⟨g2, hg2⟩ : ∃ z : tG, z = gP g1 39 (nI J.length) i := ⟨_, rfl⟩
  obtain ⟨g3, hg3⟩ : ∃ z : tG, z = gP g2 32 (nI J.length) 0 := ⟨_, rfl⟩
  obtain ⟨g4, hg4⟩ : ∃ z : tG, z = gP g3 33 (nI J.length) 1 := ⟨_, rfl⟩
  obtain ⟨g5, hg5⟩ : ∃ z : tG, z = gP g4 40 (nI J.length) 4 := ⟨_, rfl⟩
  have i1 : g1 45 9 = nI J.length := by rw [hg1, gP_ne (by decide)]; exact h1
  have i2 : g2 45 9 = nI J.length := by rw [hg2, gP_ne (by decide)]; exact i1
  have i3 : g3 45 9 = nI J.length := by rw [hg3, gP_ne (by decide)]; exact i2
  have i4 : g4 45 9 = nI J.length := by rw [hg4, gP_ne (by decide)]; exact i3
  have i5 : g5 45 9 = nI J.length := by rw [hg5, gP_ne (by decide)]; exact i4
  have a37 : g5 37 = g 37 := by rw [hg5, gP_ne (by decide), hg4, gP_ne (by decide), hg3, gP_ne (by decide), hg2, gP_ne (by decide), hg1, gP_ne (by decide)]
  have a36 : g5 36 = g 36 := by rw [hg5, gP_ne (by decide), hg4, gP_ne (by decide), hg3, gP_ne (by decide), hg2, gP_ne (by decide), hg1, gP_ne (by decide)]
  have rr : ∀ r, r < 5 → g5 (jrow r) = upd (g (jrow r)) J.length (mkJ (nI d) i r) := by
    intro r hr
    match r, hr with
    | 0, _ => show g5 38 = upd (g 38) J.length (nI d); rw [hg5, gP_ne (by decide), hg4, gP_ne (by decide), hg3, gP_ne (by decide), hg2, gP_ne (by decide), hg1, gP_at (by exact h41) (by decide)]
    | 1, _ => show g5 39 = upd (g 39) J.length i; rw [hg5, gP_ne (by decide), hg4, gP_ne (by decide), hg3, gP_ne (by decide), hg2, gP_at (by exact h41) (by decide), hg1, gP_ne (by decide)]
    | 2, _ => show g5 32 = upd (g 32) J.length 0; rw [hg5, gP_ne (by decide), hg4, gP_ne (by decide), hg3, gP_at (by exact h41) (by decide), hg2, gP_ne (by decide), hg1, gP_ne (by decide)]
    | 3, _ => show g5 33 = upd (g 33) J.length 1; rw [hg5, gP_ne (by decide), hg4, gP_at (by exact h41) (by decide), hg3, gP_ne (by decide), hg2, gP_ne (by decide), hg1, gP_ne (by decide)]
    | 4, _ => show g5 40 = upd (g 40) J.length 4; rw [hg5, gP_at (by exact h41) (by decide), hg4, gP_ne (by decide), hg3, gP_ne (by decide), hg2, gP_ne (by decide), hg1, gP_ne (by decide)]
    | r + 5, h => exact absurd h (by omega)
  have k37 : gA g5 37 (nI d) = g 37 d := by rw [gA_nI (j := 37) hd (by decide), a37]
  -- what the rows are, in both cases
  have hw : fX2_open_w g (nI d) i 45 9 = nI (J.length + 1) ∧ (∀ r, r < 5 → fX2_open_w g (nI d) i (jrow r) = upd (g (jrow r)) J.length (mkJ (nI d) i r)) ∧ fX2_open_w g (nI d) i 37 = upd (g 37) d (g 37 d + 1) ∧ fX2_open_w g (nI d) i 36 = (if g 37 d = 0 then upd (g 36) d (nI J.length) else g 36) := by
    by_cases c : (gA g5 37 (nI d)) = 0
    · obtain ⟨g8, hg8⟩ : ∃ z : tG, z = gP g5 36 (nI d) (nI J.length) := ⟨_, rfl⟩
      obtain ⟨g9, hg9⟩ : ∃ z : tG, z = gD g8 37 (nI d) 1 := ⟨_, rfl⟩
      obtain ⟨g10, hg10⟩ : ∃ z : tG, z = tc_sc g9 9 (nI (J.length + 1)) := ⟨_, rfl⟩
      have e9 : g9 45 9 = nI J.length := by rw [hg9, gD_ne (by decide), hg8, gP_ne (by decide)]; exact i5
      have hw : fX2_open_w g (nI d) i = g10 := by
        unfold fX2_open_w
        simp only [h1, ← hg1, i1, ← hg2, i2, ← hg3, i3, ← hg4, i4, ← hg5, i5, if_pos c]
        rw [← hg8, ← hg9, e9, nI_1, ← hg10]
      rw [hw]
      rw [k37] at c
      rw [if_pos c]
      refine ⟨by rw [hg10, sc_at], fun r hr => ?_, ?_, ?_⟩
      · obtain ⟨n1, n2, n3, -⟩ := jrow_37 r hr
        rw [hg10, sc_nj n3, hg9, gD_ne n1, hg8, gP_ne n2]
        exact rr r hr
      · rw [hg10, sc_nj (by decide), hg9, gD_at (by exact hd) (by decide), hg8, gP_ne (by decide), a37]
      · rw [hg10, sc_nj (by decide), hg9, gD_ne (by decide), hg8, gP_at (by exact hd) (by decide), a36]
    · obtain ⟨g6, hg6⟩ : ∃ z : tG, z = gD g5 37 (nI d) 1 := ⟨_, rfl⟩
      obtain ⟨g7, hg7⟩ : ∃ z : tG, z = tc_sc g6 9 (nI (J.length + 1)) := ⟨_, rfl⟩
      have e9 : g6 45 9 = nI J.length := by rw [hg6, gD_ne (by decide)]; exact i5
      have hw : fX2_open_w g (nI d) i = g7 := by
        unfold fX2_open_w
        simp only [h1, ← hg1, i1, ← hg2, i2, ← hg3, i3, ← hg4, i4, ← hg5, i5, if_neg c]
        rw [← hg6, e9, nI_1, ← hg7]
      rw [hw]
      rw [k37] at c
      rw [if_neg c]
      refine ⟨by rw [hg7, sc_at], fun r hr => ?_, ?_, ?_⟩
      · obtain ⟨n1, n2, n3, -⟩ := jrow_37 r hr
        rw [hg7, sc_nj n3, hg6, gD_ne n1]
        exact rr r hr
      · rw [hg7, sc_nj (by decide), hg6, gD_at (by exact hd) (by decide), a37]
      · rw [hg7, sc_nj (by decide), hg6, gD_ne (by decide), a36]
  obtain ⟨b1, b2, b3, b4⟩ := hw
  refine ⟨?_, ?_, ?_, ?_, ?_⟩
  · rw [b1, List.length_append]; rfl
  · rw [List.length_append]; show J.length + 1 ≤ 41; omega
  · intro k x hx r hr
    rw [b2 r hr]
    rcases get_snoc hx with ⟨q1, q2⟩ | ⟨q1, q2⟩
    · rw [upd_n (by omega)]; exact h3 k x q1 r hr
    · subst q1; subst q2; exact upd_s
  · intro d' hd'
    rw [b3, cntL_snoc]
    show upd (g 37) d (g 37 d + 1) d' = nI (cntL J (nI d') + if nI d = nI d' then 1 else 0)
    by_cases c : d' = d
    · subst c
      rw [upd_s, if_pos rfl, h4 d' hd']; exact nI_1 _
    · rw [upd_n c, if_neg (fun q9 => c ((nI_eq (by omega) (by omega)).mp q9).symm), h4 d' hd']; rfl
  · intro d' hd'
    rw [b4, fstL_snoc]
    show (if g 37 d = 0 then upd (g 36) d (nI J.length) else g 36) d' = nI (if cntL J (nI d') = 0 then (if nI d = nI d' then J.length else 0) else fstL J (nI d'))
    by_cases c : d' = d
    · subst c
      by_cases c2 : cntL J (nI d') = 0
      · rw [if_pos (hz.mpr c2), if_pos c2, if_pos rfl, upd_s]
      · rw [if_neg (fun q9 => c2 (hz.mp q9)), if_neg c2]; exact h5 d' hd'
    · have e1 : (if g 37 d = 0 then upd (g 36) d (nI J.length) else g 36) d' = g 36 d' := by
        by_cases c2 : g 37 d = 0
        · rw [if_pos c2, upd_n c]
        · rw [if_neg c2]
      rw [e1, h5 d' hd', if_neg (fun q9 => c ((nI_eq (by omega) (by omega)).mp q9).symm)]
      by_cases c3 : cntL J (nI d') = 0
      · rw [if_pos c3]
        unfold fstL
        rw [if_pos c3]
      · rw [if_neg c3]
def touchJ (x : tL) (z : Int32) : tL := upd (upd x 3 (if x 3 < z then z else x 3)) 4 (if z < x 4 then z else x 4)
theorem touch_RJ {g : tG} {M : List tL} {x : tL} (h : RJ g (M ++ [x])) (z : Int32) : RJ (fX2_touch_w g z) (M ++ [touchJ x z]) := by
  have e : (g 45 9) - 1 = nI M.length := by rw [h.1, List.length_append]; exact nI_pred _
  have a3 : gA g 33 (nI M.length) = x 3 := h.at_last (r := 3) (by decide)
  have k1 := h.put (r0 := 3) (v := if x 3 < z then z else x 3) (by decide) (by decide)
  have a4 : gA (gP g 33 (nI M.length) (if x 3 < z then z else x 3)) 40 (nI M.length) = x 4 := by
    have q := k1.at_last (r := 4) (by decide)
    rw [upd_n (by decide)] at q
    exact q
  have k2 := k1.put (r0 := 4) (v := if z < x 4 then z else x 4) (by decide) (by decide)
  have hw : fX2_touch_w g z = gP (gP g 33 (nI M.length) (if x 3 < z then z else x 3)) 40 (nI M.length) (if z < x 4 then z else x 4) := by
    unfold fX2_touch_w
    simp only [e, a3, a4]
  rw [hw]
  exact k2
theorem touchJ_0 {x : tL} {z : Int32} : touchJ x z 0 = x 0 := by
  unfold touchJ
  rw [upd_n (by decide), upd_n (by decide)]
/-- a leg more in a journey -/
def legJ (x : tL) (z1 z2 : Int32) : tL := touchJ (touchJ (upd x 2 (x 2 + 1)) z1) z2
theorem legJ_0 {x : tL} {z1 z2 : Int32} : legJ x z1 z2 0 = x 0 := by
  unfold legJ
  rw [touchJ_0, touchJ_0, upd_n (by decide)]
def nextJ (J : List tL) (i : Nat) (l : tL) (pe : Int32) : List tL := if 0 < cntL J (l 0) ∧ ¬ 20 < l 3 - pe then J else J ++ [mkJ (l 0) (nI i)]
def stepJ (J : List tL) (i : Nat) (l : tL) (pe : Int32) (z : Int32 → Int32) : List tL := (nextJ J i l pe).dropLast ++ [legJ (lastL (nextJ J i l pe)) (z (l 1)) (z (l 2))]
def jF (lk : Nat → tL) (z : Int32 → Int32) : Nat → List tL
  | 0 => []
  | k + 1 => stepJ (jF lk z k) k (lk k) (lk (k - 1) 4) z
def ixF (lk : Nat → tL) (z : Int32 → Int32) (k : Nat) : Int32 := nI (cntL (nextJ (jF lk z k) k (lk k) (lk (k - 1) 4)) (lk k 0)) - 1
theorem nextJ_ne {J : List tL} {i : Nat} {l : tL} {pe : Int32} : ∃ M x, nextJ J i l pe = M ++ [x] := by
  unfold nextJ
  split
  · rename_i h
    rcases snoc_or J with e | h2
    · subst e
      exact absurd h.1 (Nat.lt_irrefl 0)
    · exact h2
  · exact ⟨J, _, rfl⟩
theorem nextJ_len {J : List tL} {i : Nat} {l : tL} {pe : Int32} : (nextJ J i l pe).length ≤ J.length + 1 := by
  unfold nextJ
  split
  · omega
  · rw [List.length_append]; exact Nat.le_refl _
theorem jF_len {lk : Nat → tL} {z : Int32 → Int32} : ∀ {k : Nat}, (jF lk z k).length ≤ k := by
  intro k
  induction k with
  | zero => exact Nat.le_refl _
  | succ k ih =>
    rw [jF]
    unfold stepJ
    obtain ⟨M, x, e⟩ := nextJ_ne (J := jF lk z k) (i := k) (l := lk k) (pe := lk (k - 1) 4)
    have h1 := nextJ_len (J := jF lk z k) (i := k) (l := lk k) (pe := lk (k - 1) 4)
    rw [e, List.dropLast_concat, List.length_append]
    rw [e, List.length_append] at h1
    have h9 : ([x] : List tL).length = 1 := rfl
    have h8 : ∀ y : tL, ([y] : List tL).length = 1 := fun _ => rfl
    rw [h8]
    omega
def JK (g : tG) (lk : Nat → tL) (z : Int32 → Int32) (k : Nat) (t : tG) : Prop :=
  RJ t (jF lk z k) ∧ (∀ i, i < k → t 35 i = ixF lk z i) ∧ (∀ j, j ∉ ([32, 33, 35, 36, 37, 38, 39, 40, 45] : List Nat) → t j = g j) ∧ ∀ q, q ∉ ([9] : List Nat) → t 45 q = g 45 q
/-- the steps behind the look whether a leg goes on in its journey -/
theorem leg_JK {g t : tG} {n k : Nat} {lk : Nat → tL} {z : Int32 → Int32} (hk : k < n) (hR : RF g n lk) (hz : ∀ s, z s = gA g 0 s) {d : Nat} (hd : d < 28) (hd0 : lk k 0 = nI d) {M : List tL} {x : tL}
    (hJ : RJ t (M ++ [x])) (hF : ∀ j, j ∉ ([32, 33, 35, 36, 37, 38, 39, 40, 45] : List Nat) → t j = g j) :
    RJ (fX2_touch_w (fX2_touch_w (gD (gP t 35 (nI k) ((gA t 37 (nI d)) - 1)) 32 (((gP t 35 (nI k) ((gA t 37 (nI d)) - 1)) 45 9) - 1) 1) (gA (gD (gP t 35 (nI k) ((gA t 37 (nI d)) - 1)) 32 (((gP t 35 (nI k) ((gA t 37 (nI d)) - 1)) 45 9) - 1) 1) 0 (gA (gD (gP t 35 (nI k) ((gA t 37 (nI d)) - 1)) 32 (((gP t 35 (nI k) ((gA t 37 (nI d)) - 1)) 45 9) - 1) 1) 20 (nI k))))
      (gA (fX2_touch_w (gD (gP t 35 (nI k) ((gA t 37 (nI d)) - 1)) 32 (((gP t 35 (nI k) ((gA t 37 (nI d)) - 1)) 45 9) - 1) 1) (gA (gD (gP t 35 (nI k) ((gA t 37 (nI d)) - 1)) 32 (((gP t 35 (nI k) ((gA t 37 (nI d)) - 1)) 45 9) - 1) 1) 0 (gA (gD (gP t 35 (nI k) ((gA t 37 (nI d)) - 1)) 32 (((gP t 35 (nI k) ((gA t 37 (nI d)) - 1)) 45 9) - 1) 1) 20 (nI k)))) 0 (gA (fX2_touch_w (gD (gP t 35 (nI k) ((gA t 37 (nI d)) - 1)) 32 (((gP t 35 (nI k) ((gA t 37 (nI d)) - 1)) 45 9) - 1) 1) (gA (gD (gP t 35 (nI k) ((gA t 37 (nI d)) - 1)) 32 (((gP t 35 (nI k) ((gA t 37 (nI d)) - 1)) 45 9) - 1) 1) 0 (gA (gD (gP t 35 (nI k) ((gA t 37 (nI d)) - 1)) 32 (((gP t 35 (nI k) ((gA t 37 (nI d)) - 1)) 45 9) - 1) 1) 20 (nI k)))) 21 (nI k)))) (M ++ [legJ x (z (lk k 1)) (z (lk k 2))]) := by
  have hn := hR.2.1
  obtain ⟨t1, ht1⟩ : ∃ q : tG, q = gP t 35 (nI k) ((gA t 37 (nI d)) - 1) := ⟨_, rfl⟩
  rw [← ht1]
  have e1 : (t1 45 9) - 1 = nI M.length := by
    rw [ht1, gP_ne (by decide), hJ.1, List.length_append]; exact nI_pred _
  rw [e1]
  have J1 : RJ t1 (M ++ [x]) := hJ.rows (by rw [ht1, gP_ne (by decide)]) (fun r hr => by rw [ht1, gP_ne (jrow_37 r hr).2.2.2.1]) (by rw [ht1, gP_ne (by decide)]) (by rw [ht1, gP_ne (by decide)])
  have a2 : gA t1 32 (nI M.length) = x 2 := J1.at_last (r := 2) (by decide)
  have hl : M.length < 41 := by
    have h2 := hJ.2.1
    rw [List.length_append] at h2
    have h9 : ([x] : List tL).length = 1 := rfl
    omega
  have e2 : gD t1 32 (nI M.length) 1 = gP t1 32 (nI M.length) (x 2 + 1) := by
    rw [gD_nI (j := 32) (by exact hl) (by decide), gP_nI (j := 32) (by exact hl) (by decide), ← a2, gA_nI (j := 32) (by exact hl) (by decide)]
  rw [e2]
  have J2 := J1.put (r0 := 2) (v := x 2 + 1) (by decide) (by decide)
  have J2 : RJ (gP t1 32 (nI M.length) (x 2 + 1)) (M ++ [upd x 2 (x 2 + 1)]) := J2
  obtain ⟨t2, ht2⟩ : ∃ q : tG, q = gP t1 32 (nI M.length) (x 2 + 1) := ⟨_, rfl⟩
  rw [← ht2] at J2 ⊢
  have f2 : ∀ j, j ∉ ([32, 33, 35, 36, 37, 38, 39, 40, 45] : List Nat) → t2 j = g j := by
    intro j hj
    rw [ht2, gP_ne (fun e => hj (by rw [e]; decide)), ht1, gP_ne (fun e => hj (by rw [e]; decide))]
    exact hF j hj
  have v1 : gA t2 0 (gA t2 20 (nI k)) = z (lk k 1) := by
    rw [gA_row (f2 0 (by decide)), gA_nI (j := 20) (by show k < 41; omega) (by decide), f2 20 (by decide), hR.2.2 k hk 1 (by decide), hz]
  rw [v1]
  have J3 := touch_RJ J2 (z (lk k 1))
  obtain ⟨t3, ht3⟩ : ∃ q : tG, q = fX2_touch_w t2 (z (lk k 1)) := ⟨_, rfl⟩
  rw [← ht3] at J3 ⊢
  have f3 : ∀ j, j ∉ ([32, 33, 35, 36, 37, 38, 39, 40, 45] : List Nat) → t3 j = g j := by
    intro j hj
    rw [ht3, fjX2_touch t2 _ j (fun hm => hj (sub9 (a := [33, 40]) (b := [32, 33, 35, 36, 37, 38, 39, 40, 45]) (by decide) hm))]
    exact f2 j hj
  have v2 : gA t3 0 (gA t3 21 (nI k)) = z (lk k 2) := by
    rw [gA_row (f3 0 (by decide)), gA_nI (j := 21) (by show k < 41; omega) (by decide), f3 21 (by decide), hR.2.2 k hk 2 (by decide), hz]
  rw [v2]
  exact touch_RJ J3 (z (lk k 2))
