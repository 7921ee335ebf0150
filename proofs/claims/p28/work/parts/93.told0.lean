/-! the law's own region: where it lies, and a call on a part of a world -/
theorem pre_P {D : va_G} {a b : va_W} {H : Heap} (h : va_P D vwCl (a ++ b) H) : va_P D vwCl a H := fun k q hk => h k q (by rw [List.getElem?_append_left (List.getElem?_eq_some_iff.mp hk).1]; exact hk)
theorem pre_D {A : Nat → Prop} {a b : va_W} (h : va_D A (a ++ b)) : va_D A a := ⟨fun i j p q hi hj e => h.1 i j p q (by rw [List.getElem?_append_left (List.getElem?_eq_some_iff.mp hi).1]; exact hi) (by rw [List.getElem?_append_left (List.getElem?_eq_some_iff.mp hj).1]; exact hj) e, fun k q hk => h.2 k q (by rw [List.getElem?_append_left (List.getElem?_eq_some_iff.mp hk).1]; exact hk)⟩
theorem app_r {a b : va_W} {k : Nat} {q : Nat × va_E} (h : b[k]? = some q) : (a ++ b)[a.length + k]? = some q := by
  rw [List.getElem?_append_right (Nat.le_add_right _ _), Nat.add_sub_cancel_left]; exact h
theorem fr_keep {D : va_G} {A : Nat → Prop} {a b : va_W} {H H1 : Heap} (hP : va_P D vwCl (a ++ b) H) (hD : va_D A (a ++ b)) (hk : ∀ q, q < H.size → ¬ va_A a H.size q → H1[q]? = H[q]?) : va_P D vwCl b H1 ∧ va_D A b := by
  refine ⟨fun k q hq => (hP _ _ (app_r hq)).kept (hk q.1 ((hP _ _ (app_r hq)).lt) ?_), ⟨fun i j p q hi hj e => Nat.add_left_cancel (hD.1 _ _ p q (app_r hi) (app_r hj) e), fun k q hq => hD.2 _ q (app_r hq)⟩⟩
  rintro (⟨i, e, hi⟩ | h)
  · have h1 : i < a.length := (List.getElem?_eq_some_iff.mp hi).1
    have h2 := hD.1 i (a.length + k) (q.1, e) q (by rw [List.getElem?_append_left h1]; exact hi) (app_r hq) rfl
    omega
  · exact absurd ((hP _ _ (app_r hq)).lt) (Nat.not_lt.mpr h)
theorem fr_join {D : va_G} {A : Nat → Prop} {a b a' : va_W} {H H1 : Heap} (hP : va_P D vwCl (a ++ b) H) (hD : va_D A (a ++ b)) (hF : ∀ q, va_A a H.size q → A q) (hk : ∀ q, q < H.size → ¬ va_A a H.size q → H1[q]? = H[q]?) (hP1 : va_P D vwCl a' H1) (hD1 : va_D (va_A a H.size) a') : va_P D vwCl (a' ++ b) H1 ∧ va_D A (a' ++ b) := by
  obtain ⟨hPb, hDb⟩ := fr_keep hP hD hk
  have cross : ∀ (i j : Nat) (p q : Nat × va_E), a'[i]? = some p → b[j]? = some q → p.1 ≠ q.1 := by
    intro i j p q hi hj e
    rcases hD1.2 i p hi with ⟨k, x, hx⟩ | h
    · have h1 : k < a.length := (List.getElem?_eq_some_iff.mp hx).1
      have h2 := hD.1 k (a.length + j) (p.1, x) q (by rw [List.getElem?_append_left h1]; exact hx) (app_r hj) e
      omega
    · rw [e] at h
      exact absurd ((hP _ _ (app_r hj)).lt) (Nat.not_lt.mpr h)
  have part : ∀ (k : Nat) (q : Nat × va_E), (a' ++ b)[k]? = some q → (k < a'.length ∧ a'[k]? = some q) ∨ (a'.length ≤ k ∧ b[k - a'.length]? = some q) := by
    intro k q hq
    rcases Nat.lt_or_ge k a'.length with c | c
    · rw [List.getElem?_append_left c] at hq; exact Or.inl ⟨c, hq⟩
    · rw [List.getElem?_append_right c] at hq; exact Or.inr ⟨c, hq⟩
  refine ⟨hP1.app hPb, ⟨fun i j p q hi hj e => ?_, fun k q hq => ?_⟩⟩
  · rcases part i p hi with ⟨c1, hi⟩ | ⟨c1, hi⟩
    · rcases part j q hj with ⟨c2, hj⟩ | ⟨c2, hj⟩
      · exact hD1.1 i j p q hi hj e
      · exact absurd e (cross _ _ _ _ hi hj)
    · rcases part j q hj with ⟨c2, hj⟩ | ⟨c2, hj⟩
      · exact absurd e.symm (cross _ _ _ _ hj hi)
      · have := hDb.1 _ _ p q hi hj e
        omega
  · rcases part k q hq with ⟨c1, hq⟩ | ⟨c1, hq⟩
    · exact hF _ (hD1.2 k q hq)
    · exact hDb.2 _ q hq
section TC
variable {p : Program} {l : Launch} {e : Env} {R : Room} {s : State} {m : MethodId} {args : Array Value} {below : List Frame} {meth : Method} {c : Code} {H : Heap} {locs : List Loc} {cells slots : Nat} {Q : State → Prop}
variable {pc : Nat} {ls : Array Slot} {rest st0 : List Value} {D : va_G} {tys : List (ClassId × FieldType)} {a a1 b : va_W} {A : Nat → Prop} {H0 : Heap} {mc ms : Nat}
/-- a call that speaks of the first part of a world -/
theorem t_ki {x : Int32} {av : Array Value} (hP : va_P D vwCl (a ++ b) H) (hD : va_D A (a ++ b)) (hS : va_S A H0 H locs) (hA : ∀ q, H0.size ≤ q → A q)
    (hr : va_Run p l e R s m args below meth c H locs cells slots mc ms (F0 m pc ls st0) rest (g_Qi D tys (va_A a H.size) a1 x av) (va_A a H.size))
    (kk : ∀ (H1 : Heap) (locs1 : List Loc), va_P D vwCl (a1 ++ b) H1 → va_D A (a1 ++ b) → va_S A H0 H1 locs1 → W p l e R s m args below meth c H1 locs1 (cells + mc) (slots + ms) Q (F0 m (pc + 3) ls (.int x :: rest))) : W p l e R s m args below meth c H locs cells slots Q (F0 m pc ls st0) := by
  have hF := g_free (pre_D hD) hS hA
  refine va_calli hr hS (fun q _ h => hF q h) hF (fun r u t H1 locs1 ht hvm hw hB hz1 hk1 hS1 => ?_)
  obtain ⟨hP1, hK1, hD1⟩ := hB
  rw [ht] at hP1
  obtain ⟨hP2, hD2⟩ := fr_join hP hD hF hk1 hP1 hD1
  rw [hw]
  exact kk H1 locs1 hP2 hD2 hS1
theorem t_kl {x : Int64} {av : Array Value} (hP : va_P D vwCl (a ++ b) H) (hD : va_D A (a ++ b)) (hS : va_S A H0 H locs) (hA : ∀ q, H0.size ≤ q → A q)
    (hr : va_Run p l e R s m args below meth c H locs cells slots mc ms (F0 m pc ls st0) rest (g_Ql D tys (va_A a H.size) a1 x av) (va_A a H.size))
    (kk : ∀ (H1 : Heap) (locs1 : List Loc), va_P D vwCl (a1 ++ b) H1 → va_D A (a1 ++ b) → va_S A H0 H1 locs1 → W p l e R s m args below meth c H1 locs1 (cells + mc) (slots + ms) Q (F0 m (pc + 3) ls (.long x :: rest))) : W p l e R s m args below meth c H locs cells slots Q (F0 m pc ls st0) := by
  have hF := g_free (pre_D hD) hS hA
  refine va_calll hr hS (fun q _ h => hF q h) hF (fun r u t H1 locs1 ht hvm hw hB hz1 hk1 hS1 => ?_)
  obtain ⟨hP1, hK1, hD1⟩ := hB
  rw [ht] at hP1
  obtain ⟨hP2, hD2⟩ := fr_join hP hD hF hk1 hP1 hD1
  rw [hw]
  exact kk H1 locs1 hP2 hD2 hS1
end TC
/-- addresses: of the TapCap's cells; of the Told, its zones, carriers, persons, tariffs, taps; of the rows of tariffs; of the rows of taps -/
abbrev tA : Type := (Nat → Nat) × (Nat → Nat) × (Nat → Nat) × (Nat → Nat)
def tA.ad (y : tA) : Nat → Nat := y.1
def tA.h (y : tA) : Nat := y.2.1 0
def tA.aZ (y : tA) : Nat := y.2.1 1
def tA.aC (y : tA) : Nat := y.2.1 2
def tA.aN (y : tA) : Nat := y.2.1 3
def tA.aF (y : tA) : Nat := y.2.1 4
def tA.aP (y : tA) : Nat := y.2.1 5
def tA.rF (y : tA) : Nat → Nat := y.2.2.1
def tA.rP (y : tA) : Nat → Nat := y.2.2.2
def tRow (r : Nat → Nat) (n k : Nat) (cI : ClassId) (f : Nat → Nat → Int32) : va_W := (List.range n).map (fun i => (r i, .inl (cI, k, .inl (f i))))
def tAA (r : Nat → Nat) (n : Nat) : Nat → Option Nat := fun i => if i < n then some (r i) else none
def tFv (g : tG) : Nat → Nat → Int32 := fun i w => if w < 5 then g (3 + w) i else 0
def tPv (g : tG) : Nat → Nat → Int32 := fun i w => if w < 6 then g (13 + w) i else 0
def tFs (y : tA) (b dr : Nat) (cd : Int32) : List Value := [.ref (y.ad 0), .ref b, .int (nI dr), .ref y.aZ, .ref y.aC, .ref y.aF, .ref y.aN, .int cd, .ref y.aP]
def tR (y : tA) (cI : ClassId) (g : tG) (nf n : Nat) : va_W := tRow y.rF nf 5 cI (tFv g) ++ tRow y.rP n 6 cI (tPv g)
/-- a Told beside its TapCap -/
def tX (y : tA) (b : Nat) (cI cO : ClassId) (g : tG) (dr : Nat) (cd : Int32) (nf n : Nat) : va_W :=
  (y.h, .inr (9, tFs y b dr cd)) :: (y.aZ, .inl (cI, 10, .inl (g 0))) :: (y.aF, .inl (cO, nf, .inr (.inr (.inr (.inr (tAA y.rF nf)))))) :: (y.aP, .inl (cO, n, .inr (.inr (.inr (.inr (tAA y.rP n)))))) :: tR y cI g nf n
def tW (y : tA) (b : Nat) (cI cO : ClassId) (g : tG) (dr : Nat) (cd : Int32) (nf n : Nat) : va_W := tcW y.ad cI g ++ tX y b cI cO g dr cd nf n
theorem tRow_get {r : Nat → Nat} {n k i : Nat} {cI : ClassId} {f : Nat → Nat → Int32} (h : i < n) : (tRow r n k cI f)[i]? = some (r i, .inl (cI, k, .inl (f i))) := by
  unfold tRow
  rw [List.getElem?_map, List.getElem?_range h]
  rfl
theorem tRow_len {r : Nat → Nat} {n k : Nat} {cI : ClassId} {f : Nat → Nat → Int32} : (tRow r n k cI f).length = n := by
  unfold tRow; rw [List.length_map, List.length_range]
theorem tRow_congr {r r' : Nat → Nat} {n k : Nat} {cI : ClassId} {f f' : Nat → Nat → Int32} (h : ∀ i, i < n → r' i = r i ∧ f' i = f i) : tRow r' n k cI f' = tRow r n k cI f := by
  unfold tRow
  exact List.map_congr_left (fun i hi => by
    obtain ⟨h1, h2⟩ := h i (List.mem_range.mp hi)
    rw [h1, h2])
theorem tRow_succ {r : Nat → Nat} {n k : Nat} {cI : ClassId} {f : Nat → Nat → Int32} : tRow r (n + 1) k cI f = tRow r n k cI f ++ [(r n, .inl (cI, k, .inl (f n)))] := by
  unfold tRow
  rw [List.range_succ, List.map_append]
  rfl
/-- the part beside the TapCap goes by few of its rows -/
theorem tX_congr {y : tA} {b : Nat} {cI cO : ClassId} {g g' : tG} {dr : Nat} {cd : Int32} {nf n : Nat} (h0 : g' 0 = g 0) (hf : ∀ w, w < 5 → ∀ i, i < nf → g' (3 + w) i = g (3 + w) i) (hp : ∀ w, w < 6 → ∀ i, i < n → g' (13 + w) i = g (13 + w) i) : tX y b cI cO g' dr cd nf n = tX y b cI cO g dr cd nf n := by
  have e1 : tRow y.rF nf 5 cI (tFv g') = tRow y.rF nf 5 cI (tFv g) := tRow_congr (fun i hi => ⟨rfl, by
    funext w
    unfold tFv
    by_cases c : w < 5
    · rw [if_pos c, if_pos c, hf w c i hi]
    · rw [if_neg c, if_neg c]⟩)
  have e2 : tRow y.rP n 6 cI (tPv g') = tRow y.rP n 6 cI (tPv g) := tRow_congr (fun i hi => ⟨rfl, by
    funext w
    unfold tPv
    by_cases c : w < 6
    · rw [if_pos c, if_pos c, hp w c i hi]
    · rw [if_neg c, if_neg c]⟩)
  unfold tX tR
  rw [e1, e2, h0]
theorem tX_keep {y : tA} {b : Nat} {cI cO : ClassId} {g g' : tG} {dr : Nat} {cd : Int32} {nf n : Nat} (k : KEEP g g') : tX y b cI cO g' dr cd nf n = tX y b cI cO g dr cd nf n :=
  tX_congr (k.1 0 (by decide)) (fun w hw i _ => by rw [k.1 _ (by omega)]) (fun w hw i _ => by rw [k.1 _ (by omega)])
theorem tcW_len {ad : Nat → Nat} {cI : ClassId} {g : tG} : (tcW ad cI g).length = 98 := rfl
section TG
variable {y : tA} {b : Nat} {cI cO : ClassId} {g : tG} {dr : Nat} {cd : Int32} {nf n i : Nat}
theorem tW_o : (tW y b cI cO g dr cd nf n)[98]? = some (y.h, .inr (9, tFs y b dr cd)) := rfl
theorem tW_z : (tW y b cI cO g dr cd nf n)[99]? = some (y.aZ, .inl (cI, 10, .inl (g 0))) := rfl
theorem tW_f : (tW y b cI cO g dr cd nf n)[100]? = some (y.aF, .inl (cO, nf, .inr (.inr (.inr (.inr (tAA y.rF nf)))))) := rfl
theorem tW_p : (tW y b cI cO g dr cd nf n)[101]? = some (y.aP, .inl (cO, n, .inr (.inr (.inr (.inr (tAA y.rP n)))))) := rfl
theorem tW_rf (h : i < nf) : (tW y b cI cO g dr cd nf n)[102 + i]? = some (y.rF i, .inl (cI, 5, .inl (tFv g i))) := by
  have e : (tW y b cI cO g dr cd nf n)[98 + (4 + i)]? = (tX y b cI cO g dr cd nf n)[4 + i]? := by
    unfold tW
    rw [List.getElem?_append_right (by rw [tcW_len]; omega), tcW_len, show 98 + (4 + i) - 98 = 4 + i by omega]
  rw [show 102 + i = 98 + (4 + i) by omega, e, show 4 + i = i + 1 + 1 + 1 + 1 by omega]
  show (tR y cI g nf n)[i]? = _
  unfold tR
  rw [List.getElem?_append_left (by rw [tRow_len]; exact h)]
  exact tRow_get h
theorem tW_rp (h : i < n) : (tW y b cI cO g dr cd nf n)[102 + nf + i]? = some (y.rP i, .inl (cI, 6, .inl (tPv g i))) := by
  have e : (tW y b cI cO g dr cd nf n)[98 + (4 + (nf + i))]? = (tX y b cI cO g dr cd nf n)[4 + (nf + i)]? := by
    unfold tW
    rw [List.getElem?_append_right (by rw [tcW_len]; omega), tcW_len, show 98 + (4 + (nf + i)) - 98 = 4 + (nf + i) by omega]
  rw [show 102 + nf + i = 98 + (4 + (nf + i)) by omega, e, show 4 + (nf + i) = nf + i + 1 + 1 + 1 + 1 by omega]
  show (tR y cI g nf n)[nf + i]? = _
  unfold tR
  rw [List.getElem?_append_right (by rw [tRow_len]; omega), tRow_len, show nf + i - nf = i by omega]
  exact tRow_get h
end TG
