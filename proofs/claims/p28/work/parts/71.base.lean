/-! rows by places that are numbers -/
theorem nn_nI {n : Nat} (h : n < 2 ^ 31) : nn (nI n) = n := by
  unfold nn; rw [nI_toInt h]; rfl
theorem gA_nI {g : tG} {j k : Nat} (h : k < tc_len j) (hl : tc_len j < 2 ^ 31) : gA g j (nI k) = g j k := by
  have h1 : ¬ nI k < 0 := nI_pos (by omega)
  have h2 : ¬ nI (tc_len j) ≤ nI k := nI_ge h hl
  unfold gA rw_at
  rw [if_neg h1, if_neg h2, nI_clamp (by omega)]
theorem gA_neg {g : tG} {j : Nat} {x : Int32} (h : x < 0) : gA g j x = 0 := by
  unfold gA rw_at; rw [if_pos h]
theorem gA_m1 {g : tG} {j : Nat} : gA g j (nI 0 - 1) = 0 := gA_neg (by decide)
theorem gP_nI {g : tG} {j k : Nat} {x : Int32} (h : k < tc_len j) (hl : tc_len j < 2 ^ 31) : gP g j (nI k) x = tc_up g j (upd (g j) k x) := by
  have h1 : ¬ nI k < 0 := nI_pos (by omega)
  have h2 : ¬ nI (tc_len j) ≤ nI k := nI_ge h hl
  unfold gP rw_put
  rw [if_neg h1, if_neg h2, nI_clamp (by omega)]
theorem gP_at {g : tG} {j k : Nat} {x : Int32} (h : k < tc_len j) (hl : tc_len j < 2 ^ 31) : gP g j (nI k) x j = upd (g j) k x := by
  rw [gP_nI h hl]; exact if_pos rfl
theorem gD_nI {g : tG} {j k : Nat} {x : Int32} (h : k < tc_len j) (hl : tc_len j < 2 ^ 31) : gD g j (nI k) x = tc_up g j (upd (g j) k (g j k + x)) := by
  have h1 : ¬ nI k < 0 := nI_pos (by omega)
  have h2 : ¬ nI (tc_len j) ≤ nI k := nI_ge h hl
  unfold gD rw_add
  rw [if_neg h1, if_neg h2, nI_clamp (by omega)]
theorem gD_at {g : tG} {j k : Nat} {x : Int32} (h : k < tc_len j) (hl : tc_len j < 2 ^ 31) : gD g j (nI k) x j = upd (g j) k (g j k + x) := by
  rw [gD_nI h hl]; exact if_pos rfl
theorem gF_at {g : tG} {j : Nat} {x : Int32} : gF g j x j = fun k => if k < tc_len j then x else g j k := if_pos rfl
theorem up_at {g : tG} {j : Nat} {f : Nat → Int32} : tc_up g j f j = f := if_pos rfl
theorem sc_at {g : tG} {q : Nat} {x : Int32} : tc_sc g q x 45 q = x := by rw [sc_45]; exact pk_us
/-- one cell behind a write -/
theorem gP_get {g : tG} {j k a b : Nat} {x : Int32} (h : k < tc_len j) (hl : tc_len j < 2 ^ 31) : gP g j (nI k) x a b = if a = j ∧ b = k then x else g a b := by
  rw [gP_nI h hl]
  unfold tc_up upd
  by_cases h1 : a = j
  · subst h1
    by_cases h2 : b = k
    · simp [h2]
    · simp [h2]
  · simp [h1]
theorem gD_get {g : tG} {j k a b : Nat} {x : Int32} (h : k < tc_len j) (hl : tc_len j < 2 ^ 31) : gD g j (nI k) x a b = if a = j ∧ b = k then g j k + x else g a b := by
  rw [gD_nI h hl]
  unfold tc_up upd
  by_cases h1 : a = j
  · subst h1
    by_cases h2 : b = k
    · simp [h2]
    · simp [h2]
  · simp [h1]
theorem gF_get {g : tG} {j a b : Nat} {x : Int32} : gF g j x a b = if a = j ∧ b < tc_len j then x else g a b := by
  unfold gF tc_up rw_fill
  by_cases h1 : a = j
  · subst h1
    by_cases h2 : b < tc_len a
    · simp [h2]
    · simp [h2]
  · simp [h1]
theorem sc_get {g : tG} {q a b : Nat} {x : Int32} : tc_sc g q x a b = if a = 45 ∧ b = q then x else g a b := by
  unfold tc_sc tc_up upd
  by_cases h1 : a = 45
  · subst h1
    by_cases h2 : b = q
    · simp [h2]
    · simp [h2]
  · simp [h1]
/-! loops with a counter -/
theorem lp_for {τ : Type} {f : Int32 × τ → Option (Int32 × τ)} {N : Nat} (I : Nat → τ → Prop)
    (h1 : ∀ k t, k < N → I k t → ∃ t', f (nI k, t) = some (nI (k + 1), t') ∧ I (k + 1) t') (h2 : ∀ t, I N t → f (nI N, t) = none) :
    ∀ (d k : Nat) (t : τ) (n : Nat), k + d = N → d ≤ n → I k t → ∃ t', lp f n (nI k, t) = (nI N, t') ∧ I N t' := by
  intro d
  induction d with
  | zero =>
    intro k t n hk hn hI
    have e : k = N := by omega
    subst e
    exact ⟨t, lp_none (h2 t hI), hI⟩
  | succ d ih =>
    intro k t n hk hn hI
    obtain ⟨t', e, hI'⟩ := h1 k t (by omega) hI
    obtain ⟨n, rfl⟩ : ∃ q, n = q + 1 := ⟨n - 1, by omega⟩
    rw [lp, e]
    exact ih (k + 1) t' n (by omega) (by omega) hI'
/-- two loops go alike -/
theorem lp_cong {σ : Type} {f f' : σ → Option σ} (I : σ → Prop) (h : ∀ s, I s → f s = f' s ∧ ∀ t, f s = some t → I t) : ∀ (n : Nat) (s : σ), I s → lp f n s = lp f' n s := by
  intro n
  induction n with
  | zero => intro s _; rw [lp, lp]
  | succ n ih =>
    intro s hI
    obtain ⟨e, k⟩ := h s hI
    rw [lp, lp, ← e]
    cases q : f s with
    | none => rfl
    | some t => exact ih t (k t q)
/-- two loops over two states, related -/
theorem lp_sim {σ τ : Type} {f : σ → Option σ} {f' : τ → Option τ} (R : σ → τ → Prop)
    (h : ∀ s t, R s t → (f s = none ∧ f' t = none) ∨ ∃ s' t', f s = some s' ∧ f' t = some t' ∧ R s' t') : ∀ (n : Nat) (s : σ) (t : τ), R s t → R (lp f n s) (lp f' n t) := by
  intro n
  induction n with
  | zero => intro s t hR; rw [lp, lp]; exact hR
  | succ n ih =>
    intro s t hR
    rcases h s t hR with ⟨e1, e2⟩ | ⟨s', t', e1, e2, hR'⟩
    · rw [lp, lp, e1, e2]; exact hR
    · rw [lp, lp, e1, e2]; exact ih s' t' hR'
