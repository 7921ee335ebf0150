/-! methods over any state of a TapCap: what they compute -/
abbrev tG : Type := Nat → Nat → Int32
def gA (g : tG) (j : Nat) (i : Int32) : Int32 := rw_at (tc_len j) (g j) i
def gP (g : tG) (j : Nat) (i x : Int32) : tG := tc_up g j (rw_put (tc_len j) (g j) i x)
def gD (g : tG) (j : Nat) (i x : Int32) : tG := tc_up g j (rw_add (tc_len j) (g j) i x)
def gF (g : tG) (j : Nat) (x : Int32) : tG := tc_up g j (rw_fill (g j) (tc_len j) x)
def gS (g : tG) (j : Nat) : Int32 := rw_sum (g j) (tc_len j)
def nn (x : Int32) : Nat := x.toInt.toNat
/-- a loop: its step so often, or until it answers none -/
def lp {σ : Type} (f : σ → Option σ) : Nat → σ → σ
  | 0, s => s
  | n + 1, s => match f s with
    | none => s
    | some t => lp f n t
termination_by n => n
/-- so often is enough -/
def lpE {σ : Type} (f : σ → Option σ) : Nat → σ → Prop
  | 0, s => f s = none
  | n + 1, s => match f s with
    | none => True
    | some t => lpE f n t
termination_by n => n
theorem lpE_next {σ : Type} {f : σ → Option σ} {n : Nat} {s t : σ} (h : lpE f n s) (e : f s = some t) : ∃ k, n = k + 1 ∧ lpE f k t ∧ lp f n s = lp f k t := by
  cases n with
  | zero => rw [lpE] at h; rw [h] at e; cases e
  | succ n =>
    refine ⟨n, rfl, ?_, ?_⟩
    · rw [lpE, e] at h; exact h
    · rw [lp, e]
theorem lp_none {σ : Type} {f : σ → Option σ} {n : Nat} {s : σ} (e : f s = none) : lp f n s = s := by
  cases n with
  | zero => rw [lp]
  | succ n => rw [lp, e]
/-- a loop that may answer inside -/
def lr {σ ρ : Type} (f : σ → σ ⊕ ρ) (d : ρ) : Nat → σ → ρ
  | 0, _ => d
  | n + 1, s => match f s with
    | .inl t => lr f d n t
    | .inr r => r
termination_by n => n
def lrE {σ ρ : Type} (f : σ → σ ⊕ ρ) : Nat → σ → Prop
  | 0, _ => False
  | n + 1, s => match f s with
    | .inl t => lrE f n t
    | .inr _ => True
termination_by n => n
theorem lrE_next {σ ρ : Type} {f : σ → σ ⊕ ρ} {d : ρ} {n : Nat} {s t : σ} (h : lrE f n s) (e : f s = .inl t) : ∃ k, n = k + 1 ∧ lrE f k t ∧ lr f d n s = lr f d k t := by
  cases n with
  | zero => rw [lrE] at h; exact h.elim
  | succ n =>
    refine ⟨n, rfl, ?_, ?_⟩
    · rw [lrE, e] at h; exact h
    · rw [lr, e]
theorem lr_end {σ ρ : Type} {f : σ → σ ⊕ ρ} {d r : ρ} {n : Nat} {s : σ} (h : lrE f n s) (e : f s = .inr r) : lr f d n s = r := by
  cases n with
  | zero => rw [lrE] at h; exact h.elim
  | succ n => rw [lr, e]
theorem lp_ind {P : Nat → Prop} (h : ∀ n, (∀ k, k < n → P k) → P n) (n : Nat) : P n := Nat.strongRecOn n h
theorem ik_up {i b : Int32} (h : i < b) : (i + 1).toInt = i.toInt + 1 := by
  rw [Int32.lt_iff_toInt_lt] at h
  have h1 := b.toInt_lt
  have h2 := i.le_toInt
  rw [Int32.toInt_add]
  have e : (1 : Int32).toInt = 1 := by decide
  rw [e]
  exact Int.bmod_eq_of_le (by omega) (by omega)
theorem ik_dn {i : Int32} (h : 0 < i) : (i + -1).toInt = i.toInt - 1 := by
  rw [Int32.lt_iff_toInt_lt] at h
  have z : (0 : Int32).toInt = 0 := by decide
  rw [z] at h
  have h1 := i.toInt_lt
  rw [Int32.toInt_add]
  have e : (-1 : Int32).toInt = -1 := by decide
  rw [e]
  exact Int.bmod_eq_of_le (by omega) (by omega)
theorem lpE_upI {σ : Type} {f : σ → Option σ} (I : σ → Prop) (i : σ → Int32) (b : Int32) (h : ∀ s t, I s → f s = some t → I t ∧ i s < b ∧ i t = i s + 1) : ∀ (n : Nat) (s : σ), I s → b.toInt - (i s).toInt ≤ n → lpE f n s := by
  intro n
  induction n with
  | zero =>
    intro s hI hn
    rw [lpE]
    cases e : f s with
    | none => rfl
    | some t =>
      have h1 := (h s t hI e).2.1
      rw [Int32.lt_iff_toInt_lt] at h1
      exact absurd hn (by omega)
  | succ n ih =>
    intro s hI hn
    rw [lpE]
    cases e : f s with
    | none => trivial
    | some t =>
      obtain ⟨h0, h1, h2⟩ := h s t hI e
      exact ih t h0 (by rw [h2, ik_up h1]; omega)
theorem lpE_up {σ : Type} {f : σ → Option σ} (i : σ → Int32) (b : Int32) (h : ∀ s t, f s = some t → i s < b ∧ i t = i s + 1) (n : Nat) (s : σ) (hn : b.toInt - (i s).toInt ≤ n) : lpE f n s :=
  lpE_upI (fun _ => True) i b (fun s t _ e => ⟨trivial, h s t e⟩) n s trivial hn
theorem lpE_dn {σ : Type} {f : σ → Option σ} (i : σ → Int32) (h : ∀ s t, f s = some t → 0 < i s ∧ i t = i s + -1) : ∀ (n : Nat) (s : σ), (i s).toInt ≤ n → lpE f n s := by
  intro n
  induction n with
  | zero =>
    intro s hn
    rw [lpE]
    cases e : f s with
    | none => rfl
    | some t =>
      have h1 := (h s t e).1
      rw [Int32.lt_iff_toInt_lt] at h1
      have z : (0 : Int32).toInt = 0 := by decide
      exact absurd hn (by omega)
  | succ n ih =>
    intro s hn
    rw [lpE]
    cases e : f s with
    | none => trivial
    | some t =>
      obtain ⟨h1, h2⟩ := h s t e
      exact ih t (by rw [h2, ik_dn h1]; omega)
theorem lrE_up {σ ρ : Type} {f : σ → σ ⊕ ρ} (i : σ → Int32) (b : Int32) (h : ∀ s t, f s = .inl t → i s < b ∧ i t = i s + 1) : ∀ (n : Nat) (s : σ), b.toInt - (i s).toInt ≤ n → lrE f (n + 1) s := by
  intro n
  induction n with
  | zero =>
    intro s hn
    rw [lrE]
    cases e : f s with
    | inr r => trivial
    | inl t =>
      show lrE f 0 t
      rw [lrE]
      have h1 := (h s t e).1
      rw [Int32.lt_iff_toInt_lt] at h1
      exact absurd hn (by omega)
  | succ n ih =>
    intro s hn
    rw [lrE]
    cases e : f s with
    | inr r => trivial
    | inl t =>
      obtain ⟨h1, h2⟩ := h s t e
      exact ih t (by rw [h2, ik_up h1]; omega)
theorem lrE_dn {σ ρ : Type} {f : σ → σ ⊕ ρ} (i : σ → Int32) (h : ∀ s t, f s = .inl t → 0 < i s ∧ i t = i s + -1) : ∀ (n : Nat) (s : σ), (i s).toInt ≤ n → lrE f (n + 1) s := by
  intro n
  induction n with
  | zero =>
    intro s hn
    rw [lrE]
    cases e : f s with
    | inr r => trivial
    | inl t =>
      show lrE f 0 t
      rw [lrE]
      have h1 := (h s t e).1
      rw [Int32.lt_iff_toInt_lt] at h1
      have z : (0 : Int32).toInt = 0 := by decide
      exact absurd hn (by omega)
  | succ n ih =>
    intro s hn
    rw [lrE]
    cases e : f s with
    | inr r => trivial
    | inl t =>
      obtain ⟨h1, h2⟩ := h s t e
      exact ih t (by rw [h2, ik_dn h1]; omega)
theorem not_le32 {a b : Int32} (h : ¬ b ≤ a) : a < b := by
  rw [Int32.le_iff_toInt_le] at h
  rw [Int32.lt_iff_toInt_lt]
  omega
theorem nn_sub (b i : Int32) : b.toInt - i.toInt ≤ ((b.toInt - i.toInt).toNat : Int) := by omega
theorem nn_le (b : Int32) : b.toInt - (0 : Int32).toInt ≤ (nn b : Int) := by
  have z : (0 : Int32).toInt = 0 := by decide
  unfold nn; omega
theorem nn_dn (b : Int32) : b.toInt ≤ (nn b : Int) := by unfold nn; omega
theorem lt_next {a b i : Int32} (h : ¬ a < i) (e : b.toInt = a.toInt + 1) : i < b := by
  rw [Int32.lt_iff_toInt_lt] at h ⊢
  omega
theorem lt_eq32 {a b c : Int32} (h : a < b) (e : b = c) : a < c := e ▸ h
theorem lp_inv {σ : Type} {f : σ → Option σ} (I : σ → Prop) (h : ∀ a b, f a = some b → I a → I b) : ∀ (n : Nat) (s : σ), I s → I (lp f n s) := by
  intro n
  induction n with
  | zero => intro s hs; rw [lp]; exact hs
  | succ n ih =>
    intro s hs
    rw [lp]
    cases e : f s with
    | none => exact hs
    | some t => exact ih t (h s t e hs)
theorem tc_up_ne {g : tG} {j k : Nat} {f : Nat → Int32} (h : k ≠ j) : tc_up g j f k = g k := if_neg h
theorem gP_ne {g : tG} {j k : Nat} {i x : Int32} (h : k ≠ j) : gP g j i x k = g k := tc_up_ne h
theorem gD_ne {g : tG} {j k : Nat} {i x : Int32} (h : k ≠ j) : gD g j i x k = g k := tc_up_ne h
theorem gF_ne {g : tG} {j k : Nat} {x : Int32} (h : k ≠ j) : gF g j x k = g k := tc_up_ne h
theorem sc_nj {g : tG} {q j : Nat} {x : Int32} (h : j ≠ 45) : tc_sc g q x j = g j := tc_up_ne h
theorem sc_45 {g : tG} {q : Nat} {x : Int32} : tc_sc g q x 45 = upd (g 45) q x := by
  unfold tc_sc tc_up
  exact if_pos rfl
theorem sc_nk {g : tG} {q k : Nat} {x : Int32} (h : k ≠ q) : tc_sc g q x 45 k = g 45 k := by
  rw [sc_45]; exact pk_un h
theorem sub9 {a b : List Nat} (h : ∀ x ∈ a, x ∈ b) {j : Nat} : j ∈ a → j ∈ b := h j
theorem narrow_z0 : Jvm.narrow .boolean (.int 0) = .int 0 := rfl
theorem narrow_z1 : Jvm.narrow .boolean (.int 1) = .int 1 := rfl
/-- a number of so many -/
def in_N (n c : Int32) : Prop := ¬ n < 0 ∧ n < c
/-- within bounds -/
def in_R (v a b : Int32) : Prop := ¬ v < a ∧ v ≤ b
theorem w_P9 {D : va_G} {ad : Nat → Nat} {cI : ClassId} {g h : tG} {H : Heap} (e : h = g) (p : va_P D vwCl (tcW ad cI g) H) : va_P D vwCl (tcW ad cI h) H := by rw [e]; exact p
theorem w_D9 {A : Nat → Prop} {ad : Nat → Nat} {cI : ClassId} {g h : tG} (e : h = g) (p : va_D A (tcW ad cI g)) : va_D A (tcW ad cI h) := by rw [e]; exact p
section KT
variable (l : Launch) (D : va_G) (ad : Nat → Nat) (cI : ClassId) (g : tG) (sz j : Nat)
theorem k_tc_at (hj : j < 45) (i : Int32) : Met l yX5_at wsX5_at ({ frames := 0, cells := 0, slots := 0, locals := 0 } : Room) (g_P D [(cI, .int)] (tcW ad cI g) [.ref (ad (tc_pos j)), .int i] sz) (g_Qi D [(cI, .int)] (va_A (tcW ad cI g) sz) (tcW ad cI g) (gA g j i)) 0 0 (va_A (tcW ad cI g) sz) := c_tc_at l D ad cI g sz j hj i
theorem k_tc_put (hj : j < 45) (i x : Int32) : Met l yX5_put wsX5_put ({ frames := 0, cells := 0, slots := 0, locals := 0 } : Room) (g_P D [(cI, .int)] (tcW ad cI g) [.ref (ad (tc_pos j)), .int i, .int x] sz) (g_Qv D [(cI, .int)] (va_A (tcW ad cI g) sz) (tcW ad cI (gP g j i x))) 0 0 (va_A (tcW ad cI g) sz) := c_tc_put l D ad cI g sz j hj i x
theorem k_tc_add (hj : j < 45) (i x : Int32) : Met l yX5_add wsX5_add ({ frames := 0, cells := 0, slots := 0, locals := 0 } : Room) (g_P D [(cI, .int)] (tcW ad cI g) [.ref (ad (tc_pos j)), .int i, .int x] sz) (g_Qv D [(cI, .int)] (va_A (tcW ad cI g) sz) (tcW ad cI (gD g j i x))) 0 0 (va_A (tcW ad cI g) sz) := c_tc_add l D ad cI g sz j hj i x
theorem k_tc_fill (hj : j < 45) (x : Int32) : Met l yX5_fill wsX5_fill ({ frames := 0, cells := 0, slots := 0, locals := 0 } : Room) (g_P D [(cI, .int)] (tcW ad cI g) [.ref (ad (tc_pos j)), .int x] sz) (g_Qv D [(cI, .int)] (va_A (tcW ad cI g) sz) (tcW ad cI (gF g j x))) 0 0 (va_A (tcW ad cI g) sz) := c_tc_fill l D ad cI g sz j hj x
theorem k_tc_sum (hj : j < 45) : Met l yX5_sum wsX5_sum ({ frames := 0, cells := 0, slots := 0, locals := 0 } : Room) (g_P D [(cI, .int)] (tcW ad cI g) [.ref (ad (tc_pos j))] sz) (g_Qi D [(cI, .int)] (va_A (tcW ad cI g) sz) (tcW ad cI g) (gS g j)) 0 0 (va_A (tcW ad cI g) sz) := c_tc_sum l D ad cI g sz j hj
end KT
