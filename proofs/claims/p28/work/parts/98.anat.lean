/-! the law's draws, cards, zones, tariffs and taps as functions -/
def dN (xs : Nat → Int32) (L d m : Nat) : Nat := nn (drV xs L d (nI m))
theorem dN_is (xs : Nat → Int32) (L d : Nat) {m : Nat} (h0 : 0 < m) (hm : m < 2 ^ 31) : drV xs L d (nI m) = nI (dN xs L d m) ∧ dN xs L d m < m := by
  obtain ⟨j, hj, e⟩ := drV_lt xs L d h0 hm
  have e2 : dN xs L d m = j := by unfold dN; rw [e, nn_nI (by omega)]
  rw [e2]
  exact ⟨e, hj⟩
theorem in_NI {k n : Nat} (h : k < n) (hn : n < 2 ^ 31) : in_N (nI k) (nI n) := ⟨nI_pos (by omega), by rw [Int32.lt_iff_toInt_lt, nI_toInt (by omega), nI_toInt hn]; omega⟩
theorem in_RI {k a b : Nat} (h1 : a ≤ k) (h2 : k ≤ b) (hb : b < 2 ^ 31) : in_R (nI k) (nI a) (nI b) := ⟨by
    rw [Int32.lt_iff_toInt_lt, nI_toInt (by omega), nI_toInt (by omega)]; omega, by
    rw [Int32.le_iff_toInt_le, nI_toInt (by omega), nI_toInt hb]; omega⟩
theorem nIb {i : Nat} (hi : i < 2) : (if nI i = 0 then (0 : Int32) else 1) = nI i := by
  have : ∀ i, i < 2 → (if nI i = 0 then (0 : Int32) else 1) = nI i := by decide
  exact this i hi
/-- which of so many rows is the same as one, the last of them -/
noncomputable def hasV (f : Nat → Nat → Int32) (v : Nat → Int32) : Nat → Int32
  | 0 => -1
  | k + 1 => @ite Int32 (∀ w, w < 6 → f k w = v w) (Classical.propDecidable _) (nI k) (hasV f v k)
termination_by k => k
theorem hasV_0 {f : Nat → Nat → Int32} {v : Nat → Int32} : hasV f v 0 = -1 := by rw [hasV]
theorem hasV_s {f : Nat → Nat → Int32} {v : Nat → Int32} {k : Nat} : hasV f v (k + 1) = @ite Int32 (∀ w, w < 6 → f k w = v w) (Classical.propDecidable _) (nI k) (hasV f v k) := by rw [hasV]
theorem hasV_spec {f : Nat → Nat → Int32} {v : Nat → Int32} : ∀ n, n < 2 ^ 31 → (¬ hasV f v n < 0 ∧ ∃ a, a < n ∧ ∀ w, w < 6 → f a w = v w) ∨ (hasV f v n < 0 ∧ ∀ a, a < n → ¬ ∀ w, w < 6 → f a w = v w) := by
  intro n
  induction n with
  | zero => intro _; exact Or.inr ⟨by rw [hasV_0]; decide, fun a h => absurd h (Nat.not_lt_zero a)⟩
  | succ k ih =>
    intro hn
    by_cases c : ∀ w, w < 6 → f k w = v w
    · exact Or.inl ⟨by rw [hasV_s, if_pos c]; exact nI_pos (by omega), k, Nat.lt_succ_self k, c⟩
    · rw [hasV_s, if_neg c]
      rcases ih (by omega) with ⟨h1, a, h2, h3⟩ | ⟨h1, h2⟩
      · exact Or.inl ⟨h1, a, by omega, h3⟩
      · refine Or.inr ⟨h1, fun a ha => ?_⟩
        rcases Nat.eq_or_lt_of_le (Nat.le_of_lt_succ ha) with e | e
        · rw [e]; exact c
        · exact h2 a e
def v6 (c s l i d m : Int32) : Nat → Int32 := upd (upd (upd (upd (upd (upd (fun _ => 0) 0 c) 1 s) 2 l) 3 i) 4 d) 5 m
theorem v6_tv {c s l i d m : Int32} (hi : (if i = 0 then (0 : Int32) else 1) = i) : ∀ w, w < 6 → v6 c s l i d m w = tv6 c s l i d m (13 + w) := by
  intro w hw
  match w, hw with
  | 0, _ => rfl
  | 1, _ => rfl
  | 2, _ => rfl
  | 3, _ => exact hi.symm
  | 4, _ => rfl
  | 5, _ => rfl
theorem tPv_v6 {g : tG} {n : Nat} {c s l i d m : Int32} (h : ∀ w, w < 6 → g (13 + w) n = v6 c s l i d m w) : tPv g n = v6 c s l i d m := by
  funext w
  unfold tPv
  by_cases hw : w < 6
  · rw [if_pos hw]; exact h w hw
  · rw [if_neg hw]
    unfold v6
    rw [upd_n (by omega), upd_n (by omega), upd_n (by omega), upd_n (by omega), upd_n (by omega), upd_n (by omega)]
theorem tPv_at {g : tG} {a w : Nat} (h : w < 6) : tPv g a w = g (13 + w) a := if_pos h
/-! taps that the law tells -/
def tpOK (g : tG) (a : Nat) : Prop := ∃ c s l i d m, c < 3 ∧ s < 10 ∧ l < 6 ∧ i < 2 ∧ d < 10 ∧ m < 1440 ∧ g 13 a = nI c ∧ g 14 a = nI s ∧ g 15 a = nI l ∧ g 16 a = nI i ∧ g 17 a = nI d ∧ g 18 a = nI m
def TAPS (g : tG) (n : Nat) : Prop := (∀ a, a < n → tpOK g a) ∧ ∀ a b, a < n → b < a → ∃ j, 13 ≤ j ∧ j < 19 ∧ g j b ≠ g j a
/-- what taps leave as it was -/
def STAY (g h : tG) (n : Nat) : Prop := (∀ j, j < 13 → h j = g j) ∧ (∀ j, 13 ≤ j → j < 19 → ∀ a, a < n → h j a = g j a) ∧ ∀ k, k ≤ 3 → h 45 k = g 45 k
theorem STAY.rf {g : tG} {n : Nat} : STAY g g n := ⟨fun _ _ => rfl, fun _ _ _ _ _ => rfl, fun _ _ => rfl⟩
theorem STAY.tr {a b c : tG} {n n' : Nat} (h1 : STAY a b n) (h2 : STAY b c n') (hn : n ≤ n') : STAY a c n := ⟨fun j hj => (h2.1 j hj).trans (h1.1 j hj), fun j q1 q2 i hi => (h2.2.1 j q1 q2 i (by omega)).trans (h1.2.1 j q1 q2 i hi), fun k hk => (h2.2.2 k hk).trans (h1.2.2 k hk)⟩
theorem STAY.per {g h : tG} {n : Nat} (s : STAY g h n) (v : PER g) : PER h := fun k hk => by
  rw [s.1 9 (by decide), s.1 10 (by decide)]; exact v k hk
theorem tpOK.congr {g h : tG} {a : Nat} (e : ∀ j, 13 ≤ j → j < 19 → h j a = g j a) (t : tpOK g a) : tpOK h a := by
  obtain ⟨c, s, l, i, d, m, h1, h2, h3, h4, h5, h6, e1, e2, e3, e4, e5, e6⟩ := t
  exact ⟨c, s, l, i, d, m, h1, h2, h3, h4, h5, h6, by rw [e 13 (by decide) (by decide)]; exact e1, by rw [e 14 (by decide) (by decide)]; exact e2, by rw [e 15 (by decide) (by decide)]; exact e3, by rw [e 16 (by decide) (by decide)]; exact e4, by rw [e 17 (by decide) (by decide)]; exact e5, by rw [e 18 (by decide) (by decide)]; exact e6⟩
theorem STAY.taps {g h : tG} {n : Nat} (s : STAY g h n) (t : TAPS g n) : TAPS h n :=
  ⟨fun a ha => (t.1 a ha).congr (fun j j1 j2 => s.2.1 j j1 j2 a ha), fun a b ha hb => by
    obtain ⟨j, j1, j2, e⟩ := t.2 a b ha hb
    exact ⟨j, j1, j2, by rw [s.2.1 j j1 j2 a ha, s.2.1 j j1 j2 b (by omega)]; exact e⟩⟩
theorem row6 {j : Nat} (h1 : 13 ≤ j) (h2 : j < 19) : ∃ w, w < 6 ∧ j = 13 + w := ⟨j - 13, by omega, by omega⟩
theorem tap_stay {g : tG} {n : Nat} (hn : n ≤ 40) (c s l i d m : Int32) : STAY g (tapK g n c s l i d m) n :=
  ⟨fun j hj => tapK_other _ _ _ _ _ _ _ (Or.inl hj) (by omega), fun j j1 j2 a ha => by rw [tapK_row hn _ _ _ _ _ _ j j2 j1, upd_n (by omega)], fun k hk => tapK_int _ _ _ _ _ _ _ (by omega)⟩
theorem tap_step {g : tG} {n c s l i d m : Nat} (v : VAL g n 3) (per : PER g) (tp : TAPS g n) (hc : c < 3) (hs : s < 10) (hl : l < 6) (hi : i < 2) (hd : d < 10) (hm : m < 1440) :
    (hasV (tPv g) (v6 (nI c) (nI s) (nI l) (nI i) (nI d) (nI m)) n < 0 → n < 40 → fX8_tap_r g (nI c) (nI s) (nI l) (nI i) (nI d) (nI m) = nI (n + 1) ∧ VAL (fX8_tap_w g (nI c) (nI s) (nI l) (nI i) (nI d) (nI m)) (n + 1) 3 ∧ TAPS (fX8_tap_w g (nI c) (nI s) (nI l) (nI i) (nI d) (nI m)) (n + 1) ∧ STAY g (fX8_tap_w g (nI c) (nI s) (nI l) (nI i) (nI d) (nI m)) n ∧ tPv (fX8_tap_w g (nI c) (nI s) (nI l) (nI i) (nI d) (nI m)) n = v6 (nI c) (nI s) (nI l) (nI i) (nI d) (nI m)) ∧
    (¬ hasV (tPv g) (v6 (nI c) (nI s) (nI l) (nI i) (nI d) (nI m)) n < 0 → fX8_tap_r g (nI c) (nI s) (nI l) (nI i) (nI d) (nI m) = -3 ∧ VAL (fX8_tap_w g (nI c) (nI s) (nI l) (nI i) (nI d) (nI m)) n 3 ∧ STAY g (fX8_tap_w g (nI c) (nI s) (nI l) (nI i) (nI d) (nI m)) n) ∧
    ((hasV (tPv g) (v6 (nI c) (nI s) (nI l) (nI i) (nI d) (nI m)) n < 0 → n < 40) → fX6_isRepeated_r (fX6_write_w g (g 45 4) (nI c) (nI s) (nI l) (nI i) (nI d) (nI m)) (fX6_write_w g (g 45 4) (nI c) (nI s) (nI l) (nI i) (nI d) (nI m) 45 4) = 0 → g 45 4 < 40) := by
  have h40 := v.2.1
  have e6 : ∀ a, a < n → (∀ w, w < 6 → tPv g a w = v6 (nI c) (nI s) (nI l) (nI i) (nI d) (nI m) w) → ∀ j, 13 ≤ j → j < 19 → g j a = tv6 (nI c) (nI s) (nI l) (nI i) (nI d) (nI m) j := fun a _ h j j1 j2 => by
    obtain ⟨w, hw, rfl⟩ := row6 j1 j2
    rw [← v6_tv (nIb hi) w hw, ← h w hw, tPv_at hw]
  have e6' : ∀ a, (∀ j, 13 ≤ j → j < 19 → g j a = tv6 (nI c) (nI s) (nI l) (nI i) (nI d) (nI m) j) → ∀ w, w < 6 → tPv g a w = v6 (nI c) (nI s) (nI l) (nI i) (nI d) (nI m) w := fun a h w hw => by
    rw [tPv_at hw, v6_tv (nIb hi) w hw]
    exact h (13 + w) (by omega) (by omega)
  rcases tap_spec v.1 h40 (c := c) (by omega) (per c hc).2 (nI s) (nI l) (nI i) (nI d) (nI m) with ⟨r1, r2, r3, r4⟩ | ⟨r1, ⟨x, r2⟩, ⟨a, ha, r3⟩, r4⟩
  · have no : ∀ a, a < n → ¬ ∀ w, w < 6 → tPv g a w = v6 (nI c) (nI s) (nI l) (nI i) (nI d) (nI m) w := fun a ha h => by
      obtain ⟨j, j1, j2, e⟩ := r3 a ha
      exact e (e6 a ha h j j1 j2)
    have hneg : hasV (tPv g) (v6 (nI c) (nI s) (nI l) (nI i) (nI d) (nI m)) n < 0 := by
      rcases hasV_spec (f := tPv g) (v := v6 (nI c) (nI s) (nI l) (nI i) (nI d) (nI m)) n (by omega) with ⟨-, a, ha, h⟩ | ⟨h, -⟩
      · exact absurd h (no a ha)
      · exact h
    refine ⟨fun _ hn => ?_, fun h => absurd hneg h, fun h _ => ?_⟩
    · rw [r2]
      have row : ∀ j, 13 ≤ j → j < 19 → tapK g n (nI c) (nI s) (nI l) (nI i) (nI d) (nI m) j n = tv6 (nI c) (nI s) (nI l) (nI i) (nI d) (nI m) j := fun j j1 j2 => by rw [tapK_row h40 _ _ _ _ _ _ j j2 j1, upd_s]
      have st := tap_stay (g := g) h40 (nI c) (nI s) (nI l) (nI i) (nI d) (nI m)
      refine ⟨r1, tapK_val v hn (by omega) hm, ⟨fun a ha => ?_, fun a b ha hb => ?_⟩, st, tPv_v6 (fun w hw => ?_)⟩
      · rcases Nat.eq_or_lt_of_le (Nat.le_of_lt_succ ha) with e | e
        · rw [e]
          exact ⟨c, s, l, i, d, m, hc, hs, hl, hi, hd, hm, row 13 (by decide) (by decide), row 14 (by decide) (by decide), row 15 (by decide) (by decide), (row 16 (by decide) (by decide)).trans (nIb hi), row 17 (by decide) (by decide), row 18 (by decide) (by decide)⟩
        · exact (tp.1 a e).congr (fun j j1 j2 => st.2.1 j j1 j2 a e)
      · rcases Nat.eq_or_lt_of_le (Nat.le_of_lt_succ ha) with e | e
        · obtain ⟨j, j1, j2, q⟩ := r3 b (by omega)
          exact ⟨j, j1, j2, by rw [e, row j j1 j2, st.2.1 j j1 j2 b (by omega)]; exact q⟩
        · obtain ⟨j, j1, j2, q⟩ := tp.2 a b e hb
          exact ⟨j, j1, j2, by rw [st.2.1 j j1 j2 a e, st.2.1 j j1 j2 b (by omega)]; exact q⟩
      · rw [row (13 + w) (by omega) (by omega), v6_tv (nIb hi) w hw]
    · rw [v.1, Int32.lt_iff_toInt_lt, nI_toInt (by omega)]
      have := h hneg
      show (n : Int) < 40
      omega
  · have hpos : ¬ hasV (tPv g) (v6 (nI c) (nI s) (nI l) (nI i) (nI d) (nI m)) n < 0 := by
      rcases hasV_spec (f := tPv g) (v := v6 (nI c) (nI s) (nI l) (nI i) (nI d) (nI m)) n (by omega) with ⟨h, -⟩ | ⟨-, h⟩
      · exact h
      · exact absurd (e6' a r3) (h a ha)
    refine ⟨fun h => absurd h hpos, fun _ => ?_, fun _ h => absurd h r4⟩
    rw [r2]
    have st : STAY g (tc_sc (fX6_write_w g (nI n) (nI c) (nI s) (nI l) (nI i) (nI d) (nI m)) 6 x) n :=
      ⟨fun j hj => by rw [sc_nj (by omega), write_other _ _ _ _ _ _ _ (Or.inl hj)], fun j j1 j2 a ha => by rw [sc_nj (by omega), write_row h40 _ _ _ _ _ _ j j2 j1, upd_n (by omega)], fun k hk => by rw [sc_nk (by omega), write_other _ _ _ _ _ _ _ (Or.inr (by decide))]⟩
    refine ⟨r1, ⟨?_, h40, v.2.2.1.congr st.2.1, ?_, v.2.2.2.2.1, fun w hw => ?_⟩, st⟩
    · rw [sc_nk (by decide), write_other _ _ _ _ _ _ _ (Or.inr (by decide))]; exact v.1
    · rw [st.2.2 3 (by decide)]; exact v.2.2.2.1
    · rw [sc_nj (by decide), write_other _ _ _ _ _ _ _ (Or.inr (by decide))]; exact v.2.2.2.2.2 w hw
/-- a tap of a Told -/
noncomputable def tapF (c s l i d m : Nat) (t : tG × Nat) : tG × Nat :=
  if hasV (tPv t.1) (v6 (nI c) (nI s) (nI l) (nI i) (nI d) (nI m)) t.2 < 0 then
    (if t.2 = 40 then t else (fX8_tap_w t.1 (nI c) (nI s) (nI l) (nI i) (nI d) (nI m), t.2 + 1))
  else (fX8_tap_w t.1 (nI c) (nI s) (nI l) (nI i) (nI d) (nI m), t.2)
/-- the region of a Told: so many taps, no day closed -/
def RGN (g : tG) (n : Nat) : Prop := VAL g n 3 ∧ PER g ∧ TAPS g n
theorem tapF_ok {c s l i d m : Nat} {t : tG × Nat} (h : RGN t.1 t.2) (hc : c < 3) (hs : s < 10) (hl : l < 6) (hi : i < 2) (hd : d < 10) (hm : m < 1440) : RGN (tapF c s l i d m t).1 (tapF c s l i d m t).2 ∧ STAY t.1 (tapF c s l i d m t).1 t.2 ∧ t.2 ≤ (tapF c s l i d m t).2 := by
  obtain ⟨k1, k2, -⟩ := tap_step h.1 h.2.1 h.2.2 hc hs hl hi hd hm
  have h40 := h.1.2.1
  unfold tapF
  by_cases c1 : hasV (tPv t.1) (v6 (nI c) (nI s) (nI l) (nI i) (nI d) (nI m)) t.2 < 0
  · rw [if_pos c1]
    by_cases c2 : t.2 = 40
    · rw [if_pos c2]; exact ⟨h, STAY.rf, Nat.le_refl _⟩
    · rw [if_neg c2]
      obtain ⟨-, q1, q2, q3, -⟩ := k1 c1 (by omega)
      exact ⟨⟨q1, q3.per h.2.1, q2⟩, q3, Nat.le_succ _⟩
  · rw [if_neg c1]
    obtain ⟨-, q1, q3⟩ := k2 c1
    exact ⟨⟨q1, q3.per h.2.1, q3.taps h.2.2⟩, q3, Nat.le_refl _⟩
/-! a trip, in steps: a tap that may be lacking, a tap that may be doubled -/
abbrev tS : Type := (tG × Nat) × Nat
noncomputable def stA (xs : Nat → Int32) (L c s l i d m : Nat) (σ : tS) : tS := (if dN xs L σ.2 8 = 0 then σ.1 else tapF c s l i d m σ.1, σ.2 + 1)
noncomputable def stB (xs : Nat → Int32) (L c s l i d m : Nat) (σ : tS) : tS := if dN xs L σ.2 9 = 0 then (tapF c s l i d (m + dN xs L (σ.2 + 1) 5) σ.1, σ.2 + 2) else (σ.1, σ.2 + 1)
noncomputable def ride (xs : Nat → Int32) (L c d mi st li to rd : Nat) (σ : tS) : tS := stB xs L c to li 0 d (mi + rd) (stA xs L c to li 0 d (mi + rd) (stB xs L c st li 1 d mi (stA xs L c st li 1 d mi σ)))
noncomputable def tripL (xs : Nat → Int32) (L c d : Nat) : Nat → tS → Nat → Nat → Nat → tS
  | 0, σ, _, _, _ => σ
  | k + 1, σ, mi, st, li =>
    tripL xs L c d k ((ride xs L c d mi st li (dN xs L σ.2 5) (5 + dN xs L (σ.2 + 1) 30) (σ.1, σ.2 + 2)).1, (ride xs L c d mi st li (dN xs L σ.2 5) (5 + dN xs L (σ.2 + 1) 30) (σ.1, σ.2 + 2)).2 + 2)
      (mi + (5 + dN xs L (σ.2 + 1) 30 + dN xs L (ride xs L c d mi st li (dN xs L σ.2 5) (5 + dN xs L (σ.2 + 1) 30) (σ.1, σ.2 + 2)).2 30)) (dN xs L σ.2 5) (dN xs L ((ride xs L c d mi st li (dN xs L σ.2 5) (5 + dN xs L (σ.2 + 1) 30) (σ.1, σ.2 + 2)).2 + 1) 4)
termination_by k => k
noncomputable def tripF (xs : Nat → Int32) (L c d : Nat) (σ : tS) : tS := tripL xs L c d (1 + dN xs L (σ.2 + 3) 3) (σ.1, σ.2 + 4) (300 + dN xs L σ.2 600) (dN xs L (σ.2 + 1) 5) (dN xs L (σ.2 + 2) 4)
noncomputable def tripsL (xs : Nat → Int32) (L : Nat) : Nat → tS → tS
  | 0, σ => σ
  | k + 1, σ => tripsL xs L k (tripF xs L (dN xs L σ.2 3) (dN xs L (σ.2 + 1) 10) (σ.1, σ.2 + 2))
termination_by k => k
theorem tripL_0 {xs : Nat → Int32} {L c d : Nat} {σ : tS} {mi st li : Nat} : tripL xs L c d 0 σ mi st li = σ := by rw [tripL]
theorem tripL_s {xs : Nat → Int32} {L c d k : Nat} {σ : tS} {mi st li : Nat} : tripL xs L c d (k + 1) σ mi st li = tripL xs L c d k ((ride xs L c d mi st li (dN xs L σ.2 5) (5 + dN xs L (σ.2 + 1) 30) (σ.1, σ.2 + 2)).1, (ride xs L c d mi st li (dN xs L σ.2 5) (5 + dN xs L (σ.2 + 1) 30) (σ.1, σ.2 + 2)).2 + 2)
      (mi + (5 + dN xs L (σ.2 + 1) 30 + dN xs L (ride xs L c d mi st li (dN xs L σ.2 5) (5 + dN xs L (σ.2 + 1) 30) (σ.1, σ.2 + 2)).2 30)) (dN xs L σ.2 5) (dN xs L ((ride xs L c d mi st li (dN xs L σ.2 5) (5 + dN xs L (σ.2 + 1) 30) (σ.1, σ.2 + 2)).2 + 1) 4) := by rw [tripL]
theorem tripsL_0 {xs : Nat → Int32} {L : Nat} {σ : tS} : tripsL xs L 0 σ = σ := by rw [tripsL]
theorem tripsL_s {xs : Nat → Int32} {L k : Nat} {σ : tS} : tripsL xs L (k + 1) σ = tripsL xs L k (tripF xs L (dN xs L σ.2 3) (dN xs L (σ.2 + 1) 10) (σ.1, σ.2 + 2)) := by rw [tripsL]
/-- taps came, and draws: what is so behind it -/
def ON (q : Nat) (σ τ : tS) : Prop := RGN τ.1.1 τ.1.2 ∧ STAY σ.1.1 τ.1.1 σ.1.2 ∧ σ.1.2 ≤ τ.1.2 ∧ τ.2 ≤ σ.2 + q
theorem ON.tr {q1 q2 : Nat} {a b c : tS} (h1 : ON q1 a b) (h2 : ON q2 b c) : ON (q1 + q2) a c := ⟨h2.1, h1.2.1.tr h2.2.1 h1.2.2.1, Nat.le_trans h1.2.2.1 h2.2.2.1, by have := h1.2.2.2; have := h2.2.2.2; omega⟩
theorem ON.more {q1 q2 : Nat} {a b : tS} (h1 : ON q1 a b) (h : q1 ≤ q2) : ON q2 a b := ⟨h1.1, h1.2.1, h1.2.2.1, by have := h1.2.2.2; omega⟩
theorem ON.rf {σ : tS} (h : RGN σ.1.1 σ.1.2) {d q : Nat} (hd : d ≤ σ.2 + q) : ON q σ (σ.1, d) := ⟨h, STAY.rf, Nat.le_refl _, hd⟩
theorem stA_ok (xs : Nat → Int32) (L : Nat) {c s l i d m : Nat} {σ : tS} (h : RGN σ.1.1 σ.1.2) (hc : c < 3) (hs : s < 10) (hl : l < 6) (hi : i < 2) (hd : d < 10) (hm : m < 1440) : ON 1 σ (stA xs L c s l i d m σ) := by
  unfold stA
  by_cases e : dN xs L σ.2 8 = 0
  · rw [if_pos e]; exact ON.rf h (Nat.le_refl _)
  · rw [if_neg e]
    obtain ⟨q1, q2, q3⟩ := tapF_ok h hc hs hl hi hd hm
    exact ⟨q1, q2, q3, Nat.le_refl _⟩
theorem stB_ok (xs : Nat → Int32) (L : Nat) {c s l i d m : Nat} {σ : tS} (h : RGN σ.1.1 σ.1.2) (hc : c < 3) (hs : s < 10) (hl : l < 6) (hi : i < 2) (hd : d < 10) (hm : m < 1435) : ON 2 σ (stB xs L c s l i d m σ) := by
  unfold stB
  by_cases e : dN xs L σ.2 9 = 0
  · rw [if_pos e]
    have := (dN_is xs L (σ.2 + 1) (m := 5) (by decide) (by decide)).2
    obtain ⟨q1, q2, q3⟩ := tapF_ok h hc hs hl hi hd (m := m + dN xs L (σ.2 + 1) 5) (by omega)
    exact ⟨q1, q2, q3, Nat.le_refl _⟩
  · rw [if_neg e]; exact ON.rf h (by omega)
theorem ride_ok (xs : Nat → Int32) (L : Nat) {c d mi st li to rd : Nat} {σ : tS} (h : RGN σ.1.1 σ.1.2) (hc : c < 3) (hst : st < 10) (hto : to < 10) (hl : li < 6) (hd : d < 10) (hm : mi + rd < 1435) : ON 6 σ (ride xs L c d mi st li to rd σ) := by
  unfold ride
  have a1 := stA_ok xs L h hc hst hl (i := 1) (by decide) hd (m := mi) (by omega)
  have a2 := stB_ok xs L a1.1 hc hst hl (i := 1) (by decide) hd (m := mi) (by omega)
  have a3 := stA_ok xs L a2.1 hc hto hl (i := 0) (by decide) hd (m := mi + rd) (by omega)
  have a4 := stB_ok xs L a3.1 hc hto hl (i := 0) (by decide) hd (m := mi + rd) hm
  exact ((a1.tr a2).tr a3).tr a4
theorem tripL_ok (xs : Nat → Int32) (L : Nat) {c d : Nat} (hc : c < 3) (hd : d < 10) : ∀ (k : Nat) (σ : tS) (mi st li : Nat), RGN σ.1.1 σ.1.2 → st < 10 → li < 6 → mi + 63 * k < 1400 → ON (10 * k) σ (tripL xs L c d k σ mi st li) := by
  intro k
  induction k with
  | zero => intro σ mi st li h _ _ _; rw [tripL_0]; exact ON.rf h (Nat.le_refl _)
  | succ k ih =>
    intro σ mi st li h hst hli hm
    rw [tripL_s]
    have b1 := (dN_is xs L σ.2 (m := 5) (by decide) (by decide)).2
    have b2 := (dN_is xs L (σ.2 + 1) (m := 30) (by decide) (by decide)).2
    have r := ride_ok xs L (c := c) (d := d) (mi := mi) (st := st) (li := li) (to := dN xs L σ.2 5) (rd := 5 + dN xs L (σ.2 + 1) 30) (σ := (σ.1, σ.2 + 2)) h hc hst (by omega) hli hd (by omega)
    generalize ride xs L c d mi st li (dN xs L σ.2 5) (5 + dN xs L (σ.2 + 1) 30) (σ.1, σ.2 + 2) = τ at r ⊢
    have b3 := (dN_is xs L τ.2 (m := 30) (by decide) (by decide)).2
    have b4 := (dN_is xs L (τ.2 + 1) (m := 4) (by decide) (by decide)).2
    have q := ih (τ.1, τ.2 + 2) (mi + (5 + dN xs L (σ.2 + 1) 30 + dN xs L τ.2 30)) (dN xs L σ.2 5) (dN xs L (τ.2 + 1) 4) r.1 (by omega) (by omega) (by omega)
    exact ⟨q.1, r.2.1.tr q.2.1 r.2.2.1, Nat.le_trans r.2.2.1 q.2.2.1, by have h1 := r.2.2.2; have h2 := q.2.2.2; simp only at h1 h2; omega⟩
theorem tripF_ok (xs : Nat → Int32) (L : Nat) {c d : Nat} {σ : tS} (h : RGN σ.1.1 σ.1.2) (hc : c < 3) (hd : d < 10) : ON 34 σ (tripF xs L c d σ) := by
  unfold tripF
  have b0 := (dN_is xs L σ.2 (m := 600) (by decide) (by decide)).2
  have b1 := (dN_is xs L (σ.2 + 1) (m := 5) (by decide) (by decide)).2
  have b2 := (dN_is xs L (σ.2 + 2) (m := 4) (by decide) (by decide)).2
  have b3 := (dN_is xs L (σ.2 + 3) (m := 3) (by decide) (by decide)).2
  have q := tripL_ok xs L hc hd (1 + dN xs L (σ.2 + 3) 3) (σ.1, σ.2 + 4) (300 + dN xs L σ.2 600) (dN xs L (σ.2 + 1) 5) (dN xs L (σ.2 + 2) 4) h (by omega) (by omega) (by omega)
  exact ⟨q.1, q.2.1, q.2.2.1, by have h1 := q.2.2.2; simp only at h1; omega⟩
theorem tripsL_ok (xs : Nat → Int32) (L : Nat) : ∀ (k : Nat) (σ : tS), RGN σ.1.1 σ.1.2 → ON (36 * k) σ (tripsL xs L k σ) := by
  intro k
  induction k with
  | zero => intro σ h; rw [tripsL_0]; exact ON.rf h (Nat.le_refl _)
  | succ k ih =>
    intro σ h
    rw [tripsL_s]
    have b0 := (dN_is xs L σ.2 (m := 3) (by decide) (by decide)).2
    have b1 := (dN_is xs L (σ.2 + 1) (m := 10) (by decide) (by decide)).2
    have r := tripF_ok xs L (c := dN xs L σ.2 3) (d := dN xs L (σ.2 + 1) 10) (σ := (σ.1, σ.2 + 2)) h b0 b1
    have q := ih _ r.1
    exact ⟨q.1, r.2.1.tr q.2.1 r.2.2.1, Nat.le_trans r.2.2.1 q.2.2.1, by have h1 := r.2.2.2; have h2 := q.2.2.2; simp only at h1; omega⟩
