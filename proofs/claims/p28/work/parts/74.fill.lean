/-! guesses: votes of the legs, the likeliest, the filling -/
def vp (d s side : Int32) (w : Nat) (l : tL) : Bool := decide (l 0 < d ∧ l 6 = 0 ∧ (if side = 0 then l 2 else l 1) = s ∧ (if side = 0 then l 1 else l 2) = nI w)
def cntF (p : tL → Bool) (lk : Nat → tL) : Nat → Nat
  | 0 => 0
  | k + 1 => cntF p lk k + if p (lk k) = true then 1 else 0
theorem cntF_congr {p q : tL → Bool} {lk lk' : Nat → tL} : ∀ {n : Nat}, (∀ i, i < n → p (lk i) = q (lk' i)) → cntF p lk n = cntF q lk' n := by
  intro n
  induction n with
  | zero => intro _; rfl
  | succ n ih =>
    intro h
    rw [cntF, cntF, ih (fun i hi => h i (by omega)), h n (by omega)]
theorem cntF_pre {p : tL → Bool} {lk : Nat → tL} {a : Nat} : ∀ {n : Nat}, a ≤ n → (∀ i, a ≤ i → i < n → p (lk i) = false) → cntF p lk n = cntF p lk a := by
  intro n
  induction n with
  | zero => intro h _; rw [show a = 0 by omega]
  | succ n ih =>
    intro h h2
    rcases Nat.lt_or_ge a (n + 1) with q | q
    · rw [cntF, ih (by omega) (fun i h3 h4 => h2 i h3 (by omega)), h2 n (by omega) (by omega)]
      rfl
    · rw [show a = n + 1 by omega]
theorem cntF_le {p : tL → Bool} {lk : Nat → tL} : ∀ {n : Nat}, cntF p lk n ≤ n := by
  intro n
  induction n with
  | zero => exact Nat.le_refl _
  | succ n ih =>
    rw [cntF]
    split
    · omega
    · omega
/-- the rows hold n legs -/
def RF (g : tG) (n : Nat) (lk : Nat → tL) : Prop := g 45 7 = nI n ∧ n ≤ 41 ∧ ∀ i, i < n → ∀ r, r < 7 → g (19 + r) i = lk i r
theorem gA_congr {g h : tG} {j : Nat} (hl : tc_len j < 2 ^ 31) (e : ∀ k, k < tc_len j → g j k = h j k) (i : Int32) : gA g j i = gA h j i := by
  unfold gA rw_at
  by_cases c1 : i < 0
  · rw [if_pos c1, if_pos c1]
  · rw [if_neg c1, if_neg c1]
    by_cases c2 : nI (tc_len j) ≤ i
    · rw [if_pos c2, if_pos c2]
    · rw [if_neg c2, if_neg c2]
      have h3 := vp_in_lt c1 c2 hl
      unfold vp_in at h3
      exact e _ (by omega)
theorem gA_row {g h : tG} {j : Nat} (e : g j = h j) (i : Int32) : gA g j i = gA h j i := by unfold gA; rw [e]
theorem gD_any {g : tG} {j w : Nat} {x v : Int32} (hw : w < tc_len j) (hl : tc_len j < 2 ^ 31) : gD g j x v j w = if x = nI w then g j w + v else g j w := by
  by_cases c : x = nI w
  · rw [if_pos c, c, gD_at hw hl, upd_s]
  · rw [if_neg c]
    show tc_up g j (rw_add (tc_len j) (g j) x v) j w = g j w
    rw [up_at]
    unfold rw_add
    by_cases c1 : x < 0
    · rw [if_pos c1]
    · rw [if_neg c1]
      by_cases c2 : nI (tc_len j) ≤ x
      · rw [if_pos c2]
      · rw [if_neg c2]
        obtain ⟨q, hq, e⟩ := nI_of c1
        have h2 : q ≠ w := fun e9 => c (by rw [e, e9])
        rw [e, nI_clamp hq]
        exact upd_n (fun e9 => h2 e9.symm)
theorem lik1 {g : tG} {n : Nat} {lk : Nat → tL} (h : RF g n lk) (d s side : Int32) :
    ∃ t : tG, lp (sX3_likeliest_11 d s side) (nn (gF g 31 0 45 7)) (0, gF g 31 0) = (nI n, t) ∧ ∀ w, w < 10 → t 31 w = nI (cntF (vp d s side w) lk n) := by
  obtain ⟨h1, h2, h3⟩ := h
  have e7 : gF g 31 0 45 7 = nI n := by rw [gF_ne (by decide)]; exact h1
  have hn : nn (gF g 31 0 45 7) = n := by rw [e7]; exact nn_nI (by omega)
  have key : ∀ (k : Nat) (t : tG), k < n → ((∀ j, j ≠ 31 → t j = g j) ∧ ∀ w, w < 10 → t 31 w = nI (cntF (vp d s side w) lk k)) →
      ∃ t', sX3_likeliest_11 d s side (nI k, t) = some (nI (k + 1), t') ∧ ((∀ j, j ≠ 31 → t' j = g j) ∧ ∀ w, w < 10 → t' 31 w = nI (cntF (vp d s side w) lk (k + 1))) := by
    intro k t hk ⟨hF, hV⟩
    have c : ¬ (t 45 7) ≤ nI k := by rw [hF 45 (by decide), h1]; exact nI_ge hk (by omega)
    have rd : ∀ r, r < 7 → gA t (19 + r) (nI k) = lk k r := by
      intro r hr
      rw [gA_nI (by rw [len19 r hr]; omega) (by rw [len19 r hr]; decide), hF (19 + r) (by omega)]
      exact h3 k hk r hr
    have r0 : gA t 19 (nI k) = lk k 0 := rd 0 (by decide)
    have r1 : gA t 20 (nI k) = lk k 1 := rd 1 (by decide)
    have r2 : gA t 21 (nI k) = lk k 2 := rd 2 (by decide)
    have r6 : gA t 25 (nI k) = lk k 6 := rd 6 (by decide)
    have same : (∀ w, w < 10 → vp d s side w (lk k) = false) → ∀ w, w < 10 → t 31 w = nI (cntF (vp d s side w) lk (k + 1)) := by
      intro hf w hw
      rw [hV w hw, cntF, hf w hw]
      rfl
    have more : ∀ x : Int32, (∀ w, w < 10 → (vp d s side w (lk k) = true ↔ x = nI w)) → ∀ w, w < 10 → gD t 31 x 1 31 w = nI (cntF (vp d s side w) lk (k + 1)) := by
      intro x hx w hw
      rw [gD_any (by rw [len31]; exact hw) (by decide), cntF, hV w hw]
      by_cases c9 : x = nI w
      · rw [if_pos c9, if_pos ((hx w hw).mpr c9)]; exact nI_1 _
      · rw [if_neg c9, if_neg (fun q => c9 ((hx w hw).mp q))]; rfl
    unfold sX3_likeliest_11
    simp only [if_neg c, r0, r1, r2, r6]
    by_cases c1 : side = 0
    · rw [if_pos c1]
      by_cases c2 : d ≤ lk k 0
      · rw [if_pos c2]
        refine ⟨t, by rw [← nI_1], hF, same (fun w hw => ?_)⟩
        unfold vp
        exact decide_eq_false (fun q => absurd c2 (Int32.not_le.mpr q.1))
      · rw [if_neg c2]
        by_cases c3 : lk k 6 = 0
        · rw [if_pos c3]
          by_cases c4 : lk k 2 = s
          · rw [if_pos c4]
            refine ⟨gD t 31 (lk k 1) 1, by rw [← nI_1], fun j hj => by rw [gD_ne hj]; exact hF j hj, more _ (fun w hw => ?_)⟩
            unfold vp
            rw [decide_eq_true_iff, if_pos c1, if_pos c1]
            exact ⟨fun q => q.2.2.2, fun q => ⟨Int32.not_le.mp c2, c3, c4, q⟩⟩
          · rw [if_neg c4]
            refine ⟨t, by rw [← nI_1], hF, same (fun w hw => ?_)⟩
            unfold vp
            exact decide_eq_false (fun q => c4 (by have := q.2.2.1; rw [if_pos c1] at this; exact this))
        · rw [if_neg c3]
          refine ⟨t, by rw [← nI_1], hF, same (fun w hw => ?_)⟩
          unfold vp
          exact decide_eq_false (fun q => c3 q.2.1)
    · rw [if_neg c1]
      by_cases c2 : d ≤ lk k 0
      · rw [if_pos c2]
        refine ⟨t, by rw [← nI_1], hF, same (fun w hw => ?_)⟩
        unfold vp
        exact decide_eq_false (fun q => absurd c2 (Int32.not_le.mpr q.1))
      · rw [if_neg c2]
        by_cases c3 : lk k 6 = 0
        · rw [if_pos c3]
          by_cases c4 : lk k 1 = s
          · rw [if_pos c4]
            refine ⟨gD t 31 (lk k 2) 1, by rw [← nI_1], fun j hj => by rw [gD_ne hj]; exact hF j hj, more _ (fun w hw => ?_)⟩
            unfold vp
            rw [decide_eq_true_iff, if_neg c1, if_neg c1]
            exact ⟨fun q => q.2.2.2, fun q => ⟨Int32.not_le.mp c2, c3, c4, q⟩⟩
          · rw [if_neg c4]
            refine ⟨t, by rw [← nI_1], hF, same (fun w hw => ?_)⟩
            unfold vp
            exact decide_eq_false (fun q => c4 (by have := q.2.2.1; rw [if_neg c1] at this; exact this))
        · rw [if_neg c3]
          refine ⟨t, by rw [← nI_1], hF, same (fun w hw => ?_)⟩
          unfold vp
          exact decide_eq_false (fun q => c3 q.2.1)
  have fin : ∀ t : tG, ((∀ j, j ≠ 31 → t j = g j) ∧ ∀ w, w < 10 → t 31 w = nI (cntF (vp d s side w) lk n)) → sX3_likeliest_11 d s side (nI n, t) = none := by
    intro t ⟨hF, hV⟩
    unfold sX3_likeliest_11
    rw [if_pos (show (t 45 7) ≤ nI n from by rw [hF 45 (by decide), h1]; exact Int32.le_refl _)]
  obtain ⟨t, e, hI⟩ := lp_for (f := sX3_likeliest_11 d s side) (N := n) _ key fin n 0 (gF g 31 0) (nn (gF g 31 0 45 7)) (by omega) (by omega) ⟨fun j hj => gF_ne hj, fun w hw => by rw [gF_get, if_pos ⟨rfl, by rw [len31]; exact hw⟩]; rfl⟩
  exact ⟨t, e, hI.2⟩
def likV (v : Nat → Int32) (s : Int32) : Int32 := (lp (sX3_likeliest_126 (0, fun j => if j = 31 then v else fun _ => 0)) 10 (0, 0, s)).2.2
def likF (lk : Nat → tL) (n : Nat) (d s side : Int32) : Int32 := likV (fun w => nI (cntF (vp d s side w) lk n)) s
theorem lik126 {r r' : Int32 × tG} (h : ∀ w, w < 10 → r.2 31 w = r'.2 31 w) : sX3_likeliest_126 r = sX3_likeliest_126 r' := by
  have e : ∀ i, gA r.2 31 i = gA r'.2 31 i := gA_congr (by decide) (fun k hk => h k (by rw [len31] at hk; exact hk))
  funext σ
  unfold sX3_likeliest_126
  simp only [e]
theorem lik_r {g : tG} {n : Nat} {lk : Nat → tL} (h : RF g n lk) (d s side : Int32) : fX3_likeliest_r g d s side = likF lk n d s side := by
  obtain ⟨t, e, hV⟩ := lik1 h d s side
  unfold fX3_likeliest_r
  simp only []
  rw [e]
  unfold likF likV
  rw [lik126 (r := (nI n, t)) (r' := (0, fun j => if j = 31 then (fun w => nI (cntF (vp d s side w) lk n)) else fun _ => 0)) (fun w hw => by
    show t 31 w = (if (31 : Nat) = 31 then (fun w => nI (cntF (vp d s side w) lk n)) else fun _ => 0) w
    rw [if_pos rfl]; exact hV w hw)]
theorem likF_congr {lk lk' : Nat → tL} {n n' : Nat} {d s side : Int32} (h : ∀ w, cntF (vp d s side w) lk n = cntF (vp d s side w) lk' n') : likF lk n d s side = likF lk' n' d s side := by
  unfold likF
  rw [show (fun w => nI (cntF (vp d s side w) lk n)) = (fun w => nI (cntF (vp d s side w) lk' n')) from funext fun w => by rw [h w]]
/-- a leg with its guess -/
def fillF (lk : Nat → tL) (n : Nat) (l : tL) : tL :=
  if l 6 = 2 then upd l 2 (likF lk n (l 0) (l 1) 1) else if l 6 = 1 then upd l 1 (likF lk n (l 0) (l 2) 0) else l
theorem fillF_0 {lk : Nat → tL} {n : Nat} {l : tL} : fillF lk n l 0 = l 0 := by
  unfold fillF
  split
  · exact upd_n (by decide)
  · split
    · exact upd_n (by decide)
    · rfl
theorem fillF_6 {lk : Nat → tL} {n : Nat} {l : tL} : fillF lk n l 6 = l 6 := by
  unfold fillF
  split
  · exact upd_n (by decide)
  · split
    · exact upd_n (by decide)
    · rfl
theorem vp_fill {lk : Nat → tL} {n : Nat} {l : tL} {d s side : Int32} {w : Nat} : vp d s side w (fillF lk n l) = vp d s side w l := by
  by_cases c : l 6 = 0
  · have e : fillF lk n l = l := by
      unfold fillF
      rw [if_neg (by rw [c]; decide), if_neg (by rw [c]; decide)]
    rw [e]
  · have h1 : vp d s side w (fillF lk n l) = false := by
      unfold vp
      exact decide_eq_false (fun q => c (fillF_6.symm.trans q.2.1))
    have h2 : vp d s side w l = false := by
      unfold vp
      exact decide_eq_false (fun q => c q.2.1)
    rw [h1, h2]
theorem RF.put {g : tG} {n i r0 : Nat} {lk : Nat → tL} {v : Int32} (h : RF g n lk) (hi : i < n) (h7 : r0 < 7) : RF (gP g (19 + r0) (nI i) v) n (fun k => if k = i then upd (lk i) r0 v else lk k) := by
  obtain ⟨h1, h2, h3⟩ := h
  refine ⟨by rw [gP_ne (by omega)]; exact h1, h2, fun k hk r hr => ?_⟩
  rw [gP_get (by rw [len19 r0 h7]; omega) (by rw [len19 r0 h7]; decide)]
  show _ = (if k = i then upd (lk i) r0 v else lk k) r
  by_cases c : k = i
  · subst c
    rw [if_pos rfl]
    by_cases c2 : r = r0
    · subst c2
      rw [if_pos ⟨rfl, rfl⟩, upd_s]
    · rw [if_neg (by omega), upd_n c2]; exact h3 k hk r hr
  · rw [if_neg (by omega), if_neg c]; exact h3 k hk r hr
theorem RF.congr {g : tG} {n : Nat} {lk lk' : Nat → tL} (h : RF g n lk) (e : ∀ i, i < n → lk i = lk' i) : RF g n lk' := ⟨h.1, h.2.1, fun i hi r hr => by rw [← e i hi]; exact h.2.2 i hi r hr⟩
theorem RF.rows {g h : tG} {n : Nat} {lk : Nat → tL} (hR : RF g n lk) (e45 : h 45 7 = g 45 7) (e : ∀ r, r < 7 → h (19 + r) = g (19 + r)) : RF h n lk := ⟨by rw [e45]; exact hR.1, hR.2.1, fun i hi r hr => by rw [e r hr]; exact hR.2.2 i hi r hr⟩
/-- all guesses are filled in -/
theorem fill_RF {g : tG} {n : Nat} {lk : Nat → tL} (h : RF g n lk) : RF (fX3_fillGuesses_w g) n (fun i => fillF lk n (lk i)) := by
  have hn : nn (g 45 7) = n := by rw [h.1]; exact nn_nI (by have := h.2.1; omega)
  have hb := h.2.1
  have lkk : ∀ k d s side, likF (fun i => if i < k then fillF lk n (lk i) else lk i) n d s side = likF lk n d s side := fun k d s side =>
    likF_congr (fun w => cntF_congr (fun i _ => by
      by_cases c : i < k
      · rw [if_pos c]; exact vp_fill
      · rw [if_neg c]))
  have key : ∀ (k : Nat) (t : tG), k < n → (RF t n (fun i => if i < k then fillF lk n (lk i) else lk i)) →
      ∃ t', sX3_fillGuesses_2 (nI k, t) = some (nI (k + 1), t') ∧ (RF t' n (fun i => if i < k + 1 then fillF lk n (lk i) else lk i)) := by
    intro k t hk hR
    have c : ¬ (t 45 7) ≤ nI k := by rw [hR.1]; exact nI_ge hk (by omega)
    have rd : ∀ r, r < 7 → gA t (19 + r) (nI k) = lk k r := by
      intro r hr
      rw [gA_nI (by rw [len19 r hr]; omega) (by rw [len19 r hr]; decide), hR.2.2 k hk r hr]
      show (if k < k then fillF lk n (lk k) else lk k) r = lk k r
      rw [if_neg (Nat.lt_irrefl k)]
    have r0 : gA t 19 (nI k) = lk k 0 := rd 0 (by decide)
    have r1 : gA t 20 (nI k) = lk k 1 := rd 1 (by decide)
    have r2 : gA t 21 (nI k) = lk k 2 := rd 2 (by decide)
    have r6 : gA t 25 (nI k) = lk k 6 := rd 6 (by decide)
    have fr : ∀ (a b e : Int32), RF (fX3_likeliest_w t a b e) n (fun i => if i < k then fillF lk n (lk i) else lk i) := fun a b e =>
      hR.rows (by rw [fjX3_likeliest t a b e 45 (by decide)]) (fun r hr => fjX3_likeliest t a b e (19 + r) (by
        intro hm
        have : 19 + r = 31 := by simpa using hm
        omega))
    unfold sX3_fillGuesses_2
    simp only [if_neg c, r0, r1, r2, r6]
    by_cases c1 : lk k 6 = 2
    · rw [if_pos c1]
      refine ⟨_, by rw [← nI_1], ?_⟩
      rw [lik_r hR, lkk]
      refine ((fr (lk k 0) (lk k 1) 1).put (i := k) (r0 := 2) (v := likF lk n (lk k 0) (lk k 1) 1) hk (by decide)).congr (fun i hi => ?_)
      by_cases e : i = k
      · subst e
        rw [if_pos rfl, if_neg (Nat.lt_irrefl i), if_pos (Nat.lt_succ_self i)]
        unfold fillF
        rw [if_pos c1]
      · rw [if_neg e]
        by_cases e2 : i < k
        · rw [if_pos e2, if_pos (by omega)]
        · rw [if_neg e2, if_neg (by omega)]
    · rw [if_neg c1]
      by_cases c2 : lk k 6 = 1
      · rw [if_pos c2]
        refine ⟨_, by rw [← nI_1], ?_⟩
        rw [lik_r hR, lkk]
        refine ((fr (lk k 0) (lk k 2) 0).put (i := k) (r0 := 1) (v := likF lk n (lk k 0) (lk k 2) 0) hk (by decide)).congr (fun i hi => ?_)
        by_cases e : i = k
        · subst e
          rw [if_pos rfl, if_neg (Nat.lt_irrefl i), if_pos (Nat.lt_succ_self i)]
          unfold fillF
          rw [if_neg c1, if_pos c2]
        · rw [if_neg e]
          by_cases e2 : i < k
          · rw [if_pos e2, if_pos (by omega)]
          · rw [if_neg e2, if_neg (by omega)]
      · rw [if_neg c2]
        refine ⟨t, by rw [← nI_1], hR.congr (fun i hi => ?_)⟩
        by_cases e : i = k
        · subst e
          rw [if_neg (Nat.lt_irrefl i), if_pos (Nat.lt_succ_self i)]
          unfold fillF
          rw [if_neg c1, if_neg c2]
        · by_cases e2 : i < k
          · rw [if_pos e2, if_pos (by omega)]
          · rw [if_neg e2, if_neg (by omega)]
  have fin : ∀ t : tG, RF t n (fun i => if i < n then fillF lk n (lk i) else lk i) → sX3_fillGuesses_2 (nI n, t) = none := by
    intro t hR
    unfold sX3_fillGuesses_2
    rw [if_pos (show (t 45 7) ≤ nI n from by rw [hR.1]; exact Int32.le_refl _)]
  obtain ⟨t, e, hI⟩ := lp_for (f := sX3_fillGuesses_2) (N := n) (fun k t => RF t n (fun i => if i < k then fillF lk n (lk i) else lk i)) key fin n 0 g (nn (g 45 7)) (by omega) (by omega) (h.congr (fun i hi => by rw [if_neg (Nat.not_lt_zero i)]))
  have e2 : fX3_fillGuesses_w g = t := by
    unfold fX3_fillGuesses_w
    simp only []
    exact congrArg (fun z => z.2) e
  rw [e2]
  exact hI.congr (fun i hi => by rw [if_pos hi])
/-- filled legs vote as they did -/
theorem likF_fill {lk : Nat → tL} {n : Nat} {d s side : Int32} : likF (fun i => fillF lk n (lk i)) n d s side = likF lk n d s side :=
  likF_congr (fun w => cntF_congr (fun i _ => vp_fill))
