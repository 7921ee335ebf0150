/-- the first loop over the legs -/
theorem jread1 {g : tG} {n : Nat} {lk : Nat → tL} {z : Int32 → Int32} (hR : RF g n lk) (hz : ∀ s, z s = gA g 0 s) (hd : ∀ i, i < n → ∃ d, d < 28 ∧ lk i 0 = nI d) (h0 : RJ g []) :
    ∃ h : tG, lp (sX2_read_24) (nn (g 45 7)) (0, g) = (nI n, h) ∧ JK g lk z n h := by
  have hn := hR.2.1
  have hnn : nn (g 45 7) = n := by rw [hR.1]; exact nn_nI (by omega)
  have key : ∀ (k : Nat) (t : tG), k < n → JK g lk z k t → ∃ t', sX2_read_24 (nI k, t) = some (nI (k + 1), t') ∧ JK g lk z (k + 1) t' := by
    intro k t hk ⟨hJ, hX, hF, hI⟩
    have c : ¬ (t 45 7) ≤ nI k := by rw [hI 7 (by decide), hR.1]; exact nI_ge hk (by omega)
    obtain ⟨d, hd28, hdk⟩ := hd k hk
    have rd : ∀ r, r < 7 → gA t (19 + r) (nI k) = lk k r := by
      intro r hr
      rw [gA_nI (by rw [len19 r hr]; omega) (by rw [len19 r hr]; decide), hF (19 + r) (by
        intro hm
        have : 19 + r = 32 ∨ 19 + r = 33 ∨ 19 + r = 35 ∨ 19 + r = 36 ∨ 19 + r = 37 ∨ 19 + r = 38 ∨ 19 + r = 39 ∨ 19 + r = 40 ∨ 19 + r = 45 := by simpa using hm
        omega)]
      exact hR.2.2 k hk r hr
    have r0 : gA t 19 (nI k) = nI d := by rw [← hdk]; exact rd 0 (by decide)
    have r3 : gA t 22 (nI k) = lk k 3 := rd 3 (by decide)
    have hcb : cntL (jF lk z k) (nI d) ≤ 41 := Nat.le_trans cntL_le hJ.2.1
    have e37 : gA t 37 (nI d) = nI (cntL (jF lk z k) (nI d)) := by rw [gA_nI (j := 37) hd28 (by decide)]; exact hJ.2.2.2.1 d hd28
    have hlen : (jF lk z k).length < 41 := by have := jF_len (lk := lk) (z := z) (k := k); omega
    have hop := open_RJ hJ (d := d) (i := nI k) hlen hd28
    -- what follows, over the state behind the look
    have go : ∀ (u : tG), RJ u (nextJ (jF lk z k) k (lk k) (lk (k - 1) 4)) → (∀ j, j ∉ ([32, 33, 35, 36, 37, 38, 39, 40, 45] : List Nat) → u j = g j) → (∀ q, q ∉ ([9] : List Nat) → u 45 q = g 45 q) → (∀ i, i < k → u 35 i = ixF lk z i) →
        JK g lk z (k + 1) (fX2_touch_w (fX2_touch_w (gD (gP u 35 (nI k) ((gA u 37 (nI d)) - 1)) 32 (((gP u 35 (nI k) ((gA u 37 (nI d)) - 1)) 45 9) - 1) 1) (gA (gD (gP u 35 (nI k) ((gA u 37 (nI d)) - 1)) 32 (((gP u 35 (nI k) ((gA u 37 (nI d)) - 1)) 45 9) - 1) 1) 0 (gA (gD (gP u 35 (nI k) ((gA u 37 (nI d)) - 1)) 32 (((gP u 35 (nI k) ((gA u 37 (nI d)) - 1)) 45 9) - 1) 1) 20 (nI k)))) (gA (fX2_touch_w (gD (gP u 35 (nI k) ((gA u 37 (nI d)) - 1)) 32 (((gP u 35 (nI k) ((gA u 37 (nI d)) - 1)) 45 9) - 1) 1) (gA (gD (gP u 35 (nI k) ((gA u 37 (nI d)) - 1)) 32 (((gP u 35 (nI k) ((gA u 37 (nI d)) - 1)) 45 9) - 1) 1) 0 (gA (gD (gP u 35 (nI k) ((gA u 37 (nI d)) - 1)) 32 (((gP u 35 (nI k) ((gA u 37 (nI d)) - 1)) 45 9) - 1) 1) 20 (nI k)))) 0 (gA (fX2_touch_w (gD (gP u 35 (nI k) ((gA u 37 (nI d)) - 1)) 32 (((gP u 35 (nI k) ((gA u 37 (nI d)) - 1)) 45 9) - 1) 1) (gA (gD (gP u 35 (nI k) ((gA u 37 (nI d)) - 1)) 32 (((gP u 35 (nI k) ((gA u 37 (nI d)) - 1)) 45 9) - 1) 1) 0 (gA (gD (gP u 35 (nI k) ((gA u 37 (nI d)) - 1)) 32 (((gP u 35 (nI k) ((gA u 37 (nI d)) - 1)) 45 9) - 1) 1) 20 (nI k)))) 21 (nI k)))) := by
      intro u hU hFu hIu hXu
      obtain ⟨M, x, e⟩ := nextJ_ne (J := jF lk z k) (i := k) (l := lk k) (pe := lk (k - 1) 4)
      rw [e] at hU
      have hj := leg_JK hk hR hz hd28 hdk hU hFu
      have es : jF lk z (k + 1) = M ++ [legJ x (z (lk k 1)) (z (lk k 2))] := by
        rw [jF]
        unfold stepJ
        rw [e, List.dropLast_concat, lastL_snoc]
      have e37u : gA u 37 (nI d) = nI (cntL (M ++ [x]) (nI d)) := by rw [gA_nI (j := 37) hd28 (by decide)]; exact hU.2.2.2.1 d hd28
      obtain ⟨u1, hu1⟩ : ∃ q : tG, q = gP u 35 (nI k) ((gA u 37 (nI d)) - 1) := ⟨_, rfl⟩
      rw [← hu1] at hj ⊢
      obtain ⟨u2, hu2⟩ : ∃ q : tG, q = gD u1 32 ((u1 45 9) - 1) 1 := ⟨_, rfl⟩
      rw [← hu2] at hj ⊢
      obtain ⟨u3, hu3⟩ : ∃ q : tG, q = fX2_touch_w u2 (gA u2 0 (gA u2 20 (nI k))) := ⟨_, rfl⟩
      rw [← hu3] at hj ⊢
      have fr : ∀ j, j ∉ ([32, 33, 35, 40] : List Nat) → fX2_touch_w u3 (gA u3 0 (gA u3 21 (nI k))) j = u j := by
        intro j hj9
        rw [fjX2_touch u3 _ j (fun hm => hj9 (sub9 (a := [33, 40]) (b := [32, 33, 35, 40]) (by decide) hm)), hu3, fjX2_touch u2 _ j (fun hm => hj9 (sub9 (a := [33, 40]) (b := [32, 33, 35, 40]) (by decide) hm)), hu2, gD_ne (fun q => hj9 (by rw [q]; decide)), hu1, gP_ne (fun q => hj9 (by rw [q]; decide))]
      refine ⟨by rw [es]; exact hj, fun i hi => ?_, fun j hj9 => ?_, fun q hq => ?_⟩
      · rw [fjX2_touch u3 _ 35 (by decide), hu3, fjX2_touch u2 _ 35 (by decide), hu2, gD_ne (by decide), hu1, gP_get (by show k < 41; omega) (by decide)]
        by_cases ci : i = k
        · subst ci
          rw [if_pos ⟨rfl, rfl⟩, e37u]
          unfold ixF
          rw [e, hdk]
        · rw [if_neg (fun q => ci q.2)]
          exact hXu i (by omega)
      · rw [fr j (fun hm => hj9 (sub9 (a := [32, 33, 35, 40]) (b := [32, 33, 35, 36, 37, 38, 39, 40, 45]) (by decide) hm))]
        exact hFu j hj9
      · rw [fr 45 (by decide)]; exact hIu q hq
    have fo : ∀ j, j ∉ ([32, 33, 35, 36, 37, 38, 39, 40, 45] : List Nat) → fX2_open_w t (nI d) (nI k) j = g j := by
      intro j hj
      rw [fjX2_open t _ _ j (fun hm => hj (sub9 (a := [32, 33, 36, 37, 38, 39, 40, 45]) (b := [32, 33, 35, 36, 37, 38, 39, 40, 45]) (by decide) hm))]
      exact hF j hj
    have fi : ∀ q, q ∉ ([9] : List Nat) → fX2_open_w t (nI d) (nI k) 45 q = g 45 q := fun q hq => by rw [fiX2_open t _ _ q hq]; exact hI q hq
    have fx : ∀ i, i < k → fX2_open_w t (nI d) (nI k) 35 i = ixF lk z i := fun i hi => by rw [fjX2_open t _ _ 35 (by decide)]; exact hX i hi
    by_cases c1 : cntL (jF lk z k) (nI d) = 0
    · have en : nextJ (jF lk z k) k (lk k) (lk (k - 1) 4) = jF lk z k ++ [mkJ (nI d) (nI k)] := by
        unfold nextJ
        rw [hdk, if_neg (fun q => by omega)]
      refine ⟨_, ?_, go (fX2_open_w t (nI d) (nI k)) (by rw [en]; exact hop) fo fi fx⟩
      unfold sX2_read_24
      simp only [if_neg c, r0, e37, if_pos ((nI_le0 (by omega)).mpr c1)]
      rw [← nI_1]
    · have c2 : ¬ nI (cntL (jF lk z k) (nI d)) ≤ 0 := fun q => c1 ((nI_le0 (by omega)).mp q)
      have hk0 : 0 < k := by
        rcases Nat.eq_zero_or_pos k with e | e
        · subst e
          exact absurd (show cntL (jF lk z 0) (nI d) = 0 from rfl) c1
        · exact e
      have e23 : gA t 23 (nI k - 1) = lk (k - 1) 4 := by
        obtain ⟨q, rfl⟩ : ∃ q, k = q + 1 := ⟨k - 1, by omega⟩
        rw [nI_pred, gA_nI (j := 23) (by show q < 41; omega) (by decide), hF 23 (by decide), Nat.add_sub_cancel]
        exact hR.2.2 q (by omega) 4 (by decide)
      by_cases c3 : 20 < lk k 3 - lk (k - 1) 4
      · have en : nextJ (jF lk z k) k (lk k) (lk (k - 1) 4) = jF lk z k ++ [mkJ (nI d) (nI k)] := by
          unfold nextJ
          rw [if_neg (fun q => q.2 c3), hdk]
        refine ⟨_, ?_, go (fX2_open_w t (nI d) (nI k)) (by rw [en]; exact hop) fo fi fx⟩
        unfold sX2_read_24
        simp only [if_neg c, r0, e37, if_neg c2, r3, e23, if_pos c3]
        rw [← nI_1]
      · have en : nextJ (jF lk z k) k (lk k) (lk (k - 1) 4) = jF lk z k := by
          unfold nextJ
          rw [hdk, if_pos ⟨by omega, c3⟩]
        refine ⟨_, ?_, go t (by rw [en]; exact hJ) hF hI hX⟩
        unfold sX2_read_24
        simp only [if_neg c, r0, if_neg c2, r3, e23, if_neg c3, e37]
        rw [← nI_1]
  have fin : ∀ t : tG, JK g lk z n t → sX2_read_24 (nI n, t) = none := by
    intro t ⟨_, _, _, hI⟩
    unfold sX2_read_24
    rw [if_pos (show (t 45 7) ≤ nI n from by rw [hI 7 (by decide), hR.1]; exact Int32.le_refl _)]
  exact lp_for (f := sX2_read_24) (N := n) (fun k t => JK g lk z k t) key fin n 0 g (nn (g 45 7)) (by omega) (by omega) ⟨h0, fun i hi => absurd hi (Nat.not_lt_zero i), fun _ _ => rfl, fun _ _ => rfl⟩
theorem indexFor_congr {g h : tG} (e3 : h 3 = g 3) (e2 : h 45 2 = g 45 2) (d : Int32) : fX7_indexFor_r h d = fX7_indexFor_r g d := by
  have es : sX7_indexFor_7 h d = sX7_indexFor_7 g d := by
    funext i
    unfold sX7_indexFor_7
    rw [gA_row e3]
  unfold fX7_indexFor_r
  simp only [es, e2]
/-- the fare of a journey -/
def fareJ (g : tG) (x : tL) : Int32 := fX7_fare_r g (fX7_indexFor_r g (x 0)) (x 3 - x 4 + 1)
def tar_eq (g h : tG) : Prop := (∀ j, 3 ≤ j → j < 8 → h j = g j) ∧ h 45 2 = g 45 2
theorem fareJ_congr {g h : tG} (e : tar_eq g h) (x : tL) : fareJ h x = fareJ g x := by
  unfold fareJ fX7_fare_r
  rw [indexFor_congr (e.1 3 (by decide) (by decide)) e.2, gA_row (e.1 4 (by decide) (by decide)), gA_row (e.1 5 (by decide) (by decide))]
/-- the second loop: the fares -/
theorem jread2 {g : tG} {J : List tL} (hJ : RJ g J) :
    ∃ h : tG, lp (sX2_read_185) (nn (g 45 9)) (0, g) = (nI J.length, h) ∧ (∀ (i : Nat) (x : tL), J[i]? = some x → h 34 i = fareJ g x) ∧ ∀ j, j ≠ 34 → h j = g j := by
  have hb := hJ.2.1
  have hnn : nn (g 45 9) = J.length := by rw [hJ.1]; exact nn_nI (by omega)
  have key : ∀ (k : Nat) (t : tG), k < J.length → ((∀ (i : Nat) (x : tL), i < k → J[i]? = some x → t 34 i = fareJ g x) ∧ ∀ j, j ≠ 34 → t j = g j) →
      ∃ t', sX2_read_185 (nI k, t) = some (nI (k + 1), t') ∧ ((∀ (i : Nat) (x : tL), i < k + 1 → J[i]? = some x → t' 34 i = fareJ g x) ∧ ∀ j, j ≠ 34 → t' j = g j) := by
    intro k t hk ⟨hV, hF⟩
    have c : ¬ (t 45 9) ≤ nI k := by rw [hF 45 (by decide), hJ.1]; exact nI_ge hk (by omega)
    have hx : J[k]? = some J[k] := List.getElem?_eq_getElem hk
    have rd : ∀ r, r < 5 → gA t (jrow r) (nI k) = J[k] r := by
      intro r hr
      rw [gA_nI (by rw [jrow_len r hr]; omega) (by rw [jrow_len r hr]; decide), hF _ (by
        have : ∀ a, a < 5 → jrow a ≠ 34 := by decide
        exact this r hr)]
      exact hJ.2.2.1 k _ hx r hr
    have r0 : gA t 38 (nI k) = J[k] 0 := rd 0 (by decide)
    have r3 : gA t 33 (nI k) = J[k] 3 := rd 3 (by decide)
    have r4 : gA t 40 (nI k) = J[k] 4 := rd 4 (by decide)
    have te : tar_eq g t := ⟨fun j _ h2 => hF j (by omega), by rw [hF 45 (by decide)]⟩
    refine ⟨gP t 34 (nI k) (fareJ g J[k]), ?_, fun i x hi hx2 => ?_, fun j hj => by rw [gP_ne hj]; exact hF j hj⟩
    · unfold sX2_read_185 fX2_zonesTouched_r
      simp only [if_neg c, r0, r3, r4]
      rw [← fareJ_congr te, ← nI_1]
      rfl
    · rw [gP_get (by show k < 41; omega) (by decide)]
      by_cases ci : i = k
      · subst ci
        rw [if_pos ⟨rfl, rfl⟩]
        rw [hx] at hx2
        cases hx2
        rfl
      · rw [if_neg (fun q => ci q.2)]
        exact hV i x (by omega) hx2
  have fin : ∀ t : tG, ((∀ (i : Nat) (x : tL), i < J.length → J[i]? = some x → t 34 i = fareJ g x) ∧ ∀ j, j ≠ 34 → t j = g j) → sX2_read_185 (nI J.length, t) = none := by
    intro t ⟨_, hF⟩
    unfold sX2_read_185
    rw [if_pos (show (t 45 9) ≤ nI J.length from by rw [hF 45 (by decide), hJ.1]; exact Int32.le_refl _)]
  obtain ⟨h, e, hV, hF⟩ := lp_for (f := sX2_read_185) (N := J.length) _ key fin J.length 0 g (nn (g 45 9)) (by omega) (by omega) ⟨fun i x hi => absurd hi (Nat.not_lt_zero i), fun _ _ => rfl⟩
  exact ⟨h, e, fun i x hx => hV i x (List.getElem?_eq_some_iff.mp hx).1 hx, hF⟩
/-- Journeys.read -/
theorem jread {g : tG} {n : Nat} {lk : Nat → tL} (hR : RF g n lk) (hd : ∀ i, i < n → ∃ d, d < 28 ∧ lk i 0 = nI d) :
    RJ (fX2_read_w g) (jF lk (gA g 0) n) ∧ (∀ (i : Nat) (x : tL), (jF lk (gA g 0) n)[i]? = some x → fX2_read_w g 34 i = fareJ g x) ∧ ∀ i, i < n → fX2_read_w g 35 i = ixF lk (gA g 0) i := by
  obtain ⟨g1, hg1⟩ : ∃ q : tG, q = tc_sc g 9 0 := ⟨_, rfl⟩
  obtain ⟨g2, hg2⟩ : ∃ q : tG, q = gF g1 36 0 := ⟨_, rfl⟩
  obtain ⟨g3, hg3⟩ : ∃ q : tG, q = gF g2 37 0 := ⟨_, rfl⟩
  have fr : ∀ j, j ≠ 36 → j ≠ 37 → j ≠ 45 → g3 j = g j := fun j h1 h2 h3 => by rw [hg3, gF_ne h2, hg2, gF_ne h1, hg1, sc_nj h3]
  have f7 : g3 45 7 = g 45 7 := by rw [hg3, gF_ne (by decide), hg2, gF_ne (by decide), hg1, sc_nk (by decide)]
  have hR3 : RF g3 n lk := hR.rows f7 (fun r hr => fr _ (by omega) (by omega) (by omega))
  have h0 : RJ g3 [] := by
    refine ⟨?_, by decide, fun i x hx => by simp at hx, fun d hd9 => ?_, fun d hd9 => ?_⟩
    · rw [hg3, gF_ne (by decide), hg2, gF_ne (by decide), hg1, sc_at]; rfl
    · rw [hg3, gF_get, if_pos ⟨rfl, hd9⟩]; rfl
    · rw [hg3, gF_ne (by decide), hg2, gF_get, if_pos ⟨rfl, hd9⟩]; rfl
  obtain ⟨h1, e1, hJ, hX, hF, hI⟩ := jread1 (z := gA g 0) hR3 (fun s => (gA_row (fr 0 (by decide) (by decide) (by decide)) s).symm) hd h0
  obtain ⟨h2, e2, hV, hF2⟩ := jread2 hJ
  have hw : fX2_read_w g = h2 := by
    unfold fX2_read_w
    simp only [← hg1, ← hg2, ← hg3]
    have q1 : lp sX2_read_24 (nn (g3 45 7)) (0, g3) = (nI n, h1) := e1
    rw [q1]
    have q2 : lp sX2_read_185 (nn (h1 45 9)) (0, h1) = (nI (jF lk (gA g 0) n).length, h2) := e2
    show (lp sX2_read_185 (nn (h1 45 9)) (0, h1)).2 = h2
    rw [q2]
  rw [hw]
  have te : tar_eq g h1 := ⟨fun j j1 j2 => by
    rw [hF j (by
      intro hm
      have : j = 32 ∨ j = 33 ∨ j = 35 ∨ j = 36 ∨ j = 37 ∨ j = 38 ∨ j = 39 ∨ j = 40 ∨ j = 45 := by simpa using hm
      omega)]
    exact fr j (by omega) (by omega) (by omega), by
    rw [hI 2 (by decide), hg3, gF_ne (by decide), hg2, gF_ne (by decide), hg1, sc_nk (by decide)]⟩
  refine ⟨hJ.rows (by rw [hF2 45 (by decide)]) (fun r hr => hF2 _ (by
    have : ∀ a, a < 5 → jrow a ≠ 34 := by decide
    exact this r hr)) (hF2 37 (by decide)) (hF2 36 (by decide)), fun i x hx => ?_, fun i hi => ?_⟩
  · rw [hV i x hx, fareJ_congr te]
  · rw [hF2 35 (by decide)]; exact hX i hi
