/-! the law's own region: where it lies, and a call on a part of a world -/
theorem pre_P {D : va_G} {a b : va_W} {H : Heap} (h : va_P D vwCl (a ++ b) H) : va_P D vwCl a H := fun k q hk => h k q (by rw [List.getElem?_append_left (List.getElem?_eq_some_iff.mp hk).1]; exact hk)
theorem pre_D {A : Nat → Prop} {a b : va_W} (h : va_D A (a ++ b)) : va_D A a := ⟨fun i j p q hi hj e => h.1 i j p q (by rw [List.getElem?_append_left (List.getElem?_eq_some_iff.mp hi).1]; exact hi) (by rw [List.getElem?_append_left (List.getElem?_eq_some_iff.mp hj).1]; exact hj) e, fun k q hk => h.2 k q (by rw [List.getElem?_append_left (List.getElem?_eq_some_iff.mp hk).1]; exact hk)⟩
theorem app_r {a b : va_W} {k : Nat} {q : Nat × va_E} (h : b[k]? = some q) : (a ++ b)[a.length + k]? = some q := by
  rw [List.getElem?_append_right (Nat.le_add_right _ _), Nat.add_sub_cancel_left]; exact h
theorem fr_keep {D : va_G} {A : Nat → Prop} {a b : va_W} {H H1 : Heap} (hP : va_P D vwCl (a ++ b) H) (hD : va_D A (a ++ b)) (hk : ∀ q, q < H.size → ¬ va_A a H.size q → H1[q]? = H[q]?) : va_P D vwCl b H1 ∧ va_D A b := by
  refine ⟨fun k q hq => (hP _ _ (app_r hq)).kept (hk q.1 ((hP _ _ (app_r hq)).lt) ?_), ⟨fun i j p q hi hj e => Nat.add_left_cancel (hD.1 _ _ p q (app_r hi) (app_r hj) e), fun k q hq => hD.2 _ q (app_r hq)⟩⟩
  rintro (⟨i, e, hi⟩ | h)
  · have h1 : i < a.length := (List.getElem?_eq_some_iff.mp hi).1
    have h2 := hD.1 i (a.length + k) (q.1, e) q (by rw [List.getElem?_append_left h1]; exact hi) (app_r hq) rfl
    omega
  · exact absurd ((hP _ _ (app_r hq)).lt) (Nat.not_lt.mpr h)
theorem fr_join {D : va_G} {A : Nat → Prop} {a b a' : va_W} {H H1 : Heap} (hP : va_P D vwCl (a ++ b) H) (hD : va_D A (a ++ b)) (hF : ∀ q, va_A a H.size q → A q) (hk : ∀ q, q < H.size → ¬ va_A a H.size q → H1[q]? = H[q]?) (hP1 : va_P D vwCl a' H1) (hD1 : va_D (va_A a H.size) a') : va_P D vwCl (a' ++ b) H1 ∧ va_D A (a' ++ b) := by
  obtain ⟨hPb, hDb⟩ := fr_keep hP hD hk
  have cross : ∀ (i j : Nat) (p q : Nat × va_E), a'[i]? = some p → b[j]? = some q → p.1 ≠ q.1 := by
    intro i j p q hi hj e
    rcases hD1.2 i p hi with ⟨k, x, hx⟩ | h
    · have h1 : k < a.length := (List.getElem?_eq_some_iff.mp hx).1
      have h2 := hD.1 k (a.length + j) (p.1, x) q (by rw [List.getElem?_append_left h1]; exact hx) (app_r hj) e
      omega
    · rw [e] at h
      exact absurd ((hP _ _ (app_r hj)).lt) (Nat.not_lt.mpr h)
  have part : ∀ (k : Nat) (q : Nat × va_E), (a' ++ b)[k]? = some q → (k < a'.length ∧ a'[k]? = some q) ∨ (a'.length ≤ k ∧ b[k - a'.length]? = some q) := by
    intro k q hq
    rcases Nat.lt_or_ge k a'.length with c | c
    · rw [List.getElem?_append_left c] at hq; exact Or.inl ⟨c, hq⟩
    · rw [List.getElem?_append_right c] at hq; exact Or.inr ⟨c, hq⟩
  refine ⟨hP1.app hPb, ⟨fun i j p q hi hj e => ?_, fun k q hq => ?_⟩⟩
  · rcases part i p hi with ⟨c1, hi⟩ | ⟨c1, hi⟩
    · rcases part j q hj with ⟨c2, hj⟩ | ⟨c2, hj⟩
      · exact hD1.1 i j p q hi hj e
      · exact absurd e (cross _ _ _ _ hi hj)
    · rcases part j q hj with ⟨c2, hj⟩ | ⟨c2, hj⟩
      · exact absurd e.symm (cross _ _ _ _ hj hi)
      · have := hDb.1 _ _ p q hi hj e
        omega
  · rcases part k q hq with ⟨c1, hq⟩ | ⟨c1, hq⟩
    · exact hF _ (hD1.2 k q hq)
    · exact hDb.2 _ q hq
section TC
variable {p : Program} {l : Launch} {e : Env} {R : Room} {s : State} {m : MethodId} {args : Array Value} {below : List Frame} {meth : Method} {c : Code} {H : Heap} {locs : List Loc} {cells slots : Nat} {Q : State → Prop}
variable {pc : Nat} {ls : Array Slot} {rest st0 : List Value} {D : va_G} {tys : List (ClassId × FieldType)} {a a1 b : va_W} {A : Nat → Prop} {H0 : Heap} {mc ms : Nat}
/-- a call that speaks of the first part of a world -/
theorem t_ki {x : Int32} {av : Array Value} (hP : va_P D vwCl (a ++ b) H) (hD : va_D A (a ++ b)) (hS : va_S A H0 H locs) (hA : ∀ q, H0.size ≤ q → A q)
    (hr : va_Run p l e R s m args below meth c H locs cells slots mc ms (F0 m pc ls st0) rest (g_Qi D tys (va_A a H.size) a1 x av) (va_A a H.size))
    (kk : ∀ (H1 : Heap) (locs1 : List Loc), va_P D vwCl (a1 ++ b) H1 → va_D A (a1 ++ b) → va_S A H0 H1 locs1 → W p l e R s m args below meth c H1 locs1 (cells + mc) (slots + ms) Q (F0 m (pc + 3) ls (.int x :: rest))) : W p l e R s m args below meth c H locs cells slots Q (F0 m pc ls st0) := by
  have hF := g_free (pre_D hD) hS hA
  refine va_calli hr hS (fun q _ h => hF q h) hF (fun r u t H1 locs1 ht hvm hw hB hz1 hk1 hS1 => ?_)
  obtain ⟨hP1, hK1, hD1⟩ := hB
  rw [ht] at hP1
  obtain ⟨hP2, hD2⟩ := fr_join hP hD hF hk1 hP1 hD1
  rw [hw]
  exact kk H1 locs1 hP2 hD2 hS1
theorem t_kl {x : Int64} {av : Array Value} (hP : va_P D vwCl (a ++ b) H) (hD : va_D A (a ++ b)) (hS : va_S A H0 H locs) (hA : ∀ q, H0.size ≤ q → A q)
    (hr : va_Run p l e R s m args below meth c H locs cells slots mc ms (F0 m pc ls st0) rest (g_Ql D tys (va_A a H.size) a1 x av) (va_A a H.size))
    (kk : ∀ (H1 : Heap) (locs1 : List Loc), va_P D vwCl (a1 ++ b) H1 → va_D A (a1 ++ b) → va_S A H0 H1 locs1 → W p l e R s m args below meth c H1 locs1 (cells + mc) (slots + ms) Q (F0 m (pc + 3) ls (.long x :: rest))) : W p l e R s m args below meth c H locs cells slots Q (F0 m pc ls st0) := by
  have hF := g_free (pre_D hD) hS hA
  refine va_calll hr hS (fun q _ h => hF q h) hF (fun r u t H1 locs1 ht hvm hw hB hz1 hk1 hS1 => ?_)
  obtain ⟨hP1, hK1, hD1⟩ := hB
  rw [ht] at hP1
  obtain ⟨hP2, hD2⟩ := fr_join hP hD hF hk1 hP1 hD1
  rw [hw]
  exact kk H1 locs1 hP2 hD2 hS1
end TC
/-- addresses that come and go: zones, carriers, persons, tariffs, taps; the rows of tariffs; the rows of taps -/
abbrev tA : Type := (Nat → Nat) × (Nat → Nat) × (Nat → Nat)
def tA.aZ (y : tA) : Nat := y.1 0
def tA.aC (y : tA) : Nat := y.1 1
def tA.aN (y : tA) : Nat := y.1 2
def tA.aF (y : tA) : Nat := y.1 3
def tA.aP (y : tA) : Nat := y.1 4
def tA.rF (y : tA) : Nat → Nat := y.2.1
def tA.rP (y : tA) : Nat → Nat := y.2.2
def tRow (r : Nat → Nat) (n k : Nat) (cI : ClassId) (f : Nat → Nat → Int32) : va_W := (List.range n).map (fun i => (r i, .inl (cI, k, .inl (f i))))
def tAA (r : Nat → Nat) (n : Nat) : Nat → Option Nat := fun i => if i < n then some (r i) else none
def tFv (g : tG) : Nat → Nat → Int32 := fun i w => if w < 5 then g (3 + w) i else 0
def tPv (g : tG) : Nat → Nat → Int32 := fun i w => if w < 6 then g (13 + w) i else 0
def tFs (ad : Nat → Nat) (y : tA) (b dr : Nat) (cd : Int32) : List Value := [.ref (ad 0), .ref b, .int (nI dr), .ref y.aZ, .ref y.aC, .ref y.aF, .ref y.aN, .int cd, .ref y.aP]
def tR (y : tA) (cI : ClassId) (g : tG) (nf n : Nat) : va_W := tRow y.rF nf 5 cI (tFv g) ++ tRow y.rP n 6 cI (tPv g)
/-- a Told beside its TapCap -/
def tX (ad : Nat → Nat) (o9 : Nat) (y : tA) (b : Nat) (cI cO : ClassId) (g : tG) (dr : Nat) (cd : Int32) (nf n : Nat) : va_W :=
  (o9, .inr (9, tFs ad y b dr cd)) :: (y.aZ, .inl (cI, 10, .inl (g 0))) :: (y.aF, .inl (cO, nf, .inr (.inr (.inr (.inr (tAA y.rF nf)))))) :: (y.aP, .inl (cO, n, .inr (.inr (.inr (.inr (tAA y.rP n)))))) :: tR y cI g nf n
def tW (ad : Nat → Nat) (o9 : Nat) (y : tA) (b : Nat) (cI cO : ClassId) (g : tG) (dr : Nat) (cd : Int32) (nf n : Nat) : va_W := tcW ad cI g ++ tX ad o9 y b cI cO g dr cd nf n
theorem tRow_get {r : Nat → Nat} {n k i : Nat} {cI : ClassId} {f : Nat → Nat → Int32} (h : i < n) : (tRow r n k cI f)[i]? = some (r i, .inl (cI, k, .inl (f i))) := by
  unfold tRow
  rw [List.getElem?_map, List.getElem?_range h]
  rfl
theorem tRow_len {r : Nat → Nat} {n k : Nat} {cI : ClassId} {f : Nat → Nat → Int32} : (tRow r n k cI f).length = n := by
  unfold tRow; rw [List.length_map, List.length_range]
theorem tRow_congr {r r' : Nat → Nat} {n k : Nat} {cI : ClassId} {f f' : Nat → Nat → Int32} (h : ∀ i, i < n → r' i = r i ∧ f' i = f i) : tRow r' n k cI f' = tRow r n k cI f := by
  unfold tRow
  exact List.map_congr_left (fun i hi => by
    obtain ⟨h1, h2⟩ := h i (List.mem_range.mp hi)
    rw [h1, h2])
theorem tRow_succ {r : Nat → Nat} {n k : Nat} {cI : ClassId} {f : Nat → Nat → Int32} : tRow r (n + 1) k cI f = tRow r n k cI f ++ [(r n, .inl (cI, k, .inl (f n)))] := by
  unfold tRow
  rw [List.range_succ, List.map_append]
  rfl
/-- the part beside the TapCap goes by few of its rows -/
theorem tX_congr {ad : Nat → Nat} {o9 : Nat} {y : tA} {b : Nat} {cI cO : ClassId} {g g' : tG} {dr : Nat} {cd : Int32} {nf n : Nat} (h0 : g' 0 = g 0) (hf : ∀ w, w < 5 → ∀ i, i < nf → g' (3 + w) i = g (3 + w) i) (hp : ∀ w, w < 6 → ∀ i, i < n → g' (13 + w) i = g (13 + w) i) : tX ad o9 y b cI cO g' dr cd nf n = tX ad o9 y b cI cO g dr cd nf n := by
  have e1 : tRow y.rF nf 5 cI (tFv g') = tRow y.rF nf 5 cI (tFv g) := tRow_congr (fun i hi => ⟨rfl, by
    funext w
    unfold tFv
    by_cases c : w < 5
    · rw [if_pos c, if_pos c, hf w c i hi]
    · rw [if_neg c, if_neg c]⟩)
  have e2 : tRow y.rP n 6 cI (tPv g') = tRow y.rP n 6 cI (tPv g) := tRow_congr (fun i hi => ⟨rfl, by
    funext w
    unfold tPv
    by_cases c : w < 6
    · rw [if_pos c, if_pos c, hp w c i hi]
    · rw [if_neg c, if_neg c]⟩)
  unfold tX tR
  rw [e1, e2, h0]
theorem tX_keep {ad : Nat → Nat} {o9 : Nat} {y : tA} {b : Nat} {cI cO : ClassId} {g g' : tG} {dr : Nat} {cd : Int32} {nf n : Nat} (k : KEEP g g') : tX ad o9 y b cI cO g' dr cd nf n = tX ad o9 y b cI cO g dr cd nf n :=
  tX_congr (k.1 0 (by decide)) (fun w hw i _ => by rw [k.1 _ (by omega)]) (fun w hw i _ => by rw [k.1 _ (by omega)])
theorem tcW_len {ad : Nat → Nat} {cI : ClassId} {g : tG} : (tcW ad cI g).length = 98 := rfl
section TG
variable {ad : Nat → Nat} {o9 : Nat} {y : tA} {b : Nat} {cI cO : ClassId} {g : tG} {dr : Nat} {cd : Int32} {nf n i : Nat}
theorem tW_o : (tW ad o9 y b cI cO g dr cd nf n)[98]? = some (o9, .inr (9, tFs ad y b dr cd)) := rfl
theorem tW_z : (tW ad o9 y b cI cO g dr cd nf n)[99]? = some (y.aZ, .inl (cI, 10, .inl (g 0))) := rfl
theorem tW_f : (tW ad o9 y b cI cO g dr cd nf n)[100]? = some (y.aF, .inl (cO, nf, .inr (.inr (.inr (.inr (tAA y.rF nf)))))) := rfl
theorem tW_p : (tW ad o9 y b cI cO g dr cd nf n)[101]? = some (y.aP, .inl (cO, n, .inr (.inr (.inr (.inr (tAA y.rP n)))))) := rfl
theorem tW_rf (h : i < nf) : (tW ad o9 y b cI cO g dr cd nf n)[102 + i]? = some (y.rF i, .inl (cI, 5, .inl (tFv g i))) := by
  have e : (tW ad o9 y b cI cO g dr cd nf n)[98 + (4 + i)]? = (tX ad o9 y b cI cO g dr cd nf n)[4 + i]? := by
    unfold tW
    rw [List.getElem?_append_right (by rw [tcW_len]; omega), tcW_len, show 98 + (4 + i) - 98 = 4 + i by omega]
  rw [show 102 + i = 98 + (4 + i) by omega, e, show 4 + i = i + 1 + 1 + 1 + 1 by omega]
  show (tR y cI g nf n)[i]? = _
  unfold tR
  rw [List.getElem?_append_left (by rw [tRow_len]; exact h)]
  exact tRow_get h
theorem tW_rp (h : i < n) : (tW ad o9 y b cI cO g dr cd nf n)[102 + nf + i]? = some (y.rP i, .inl (cI, 6, .inl (tPv g i))) := by
  have e : (tW ad o9 y b cI cO g dr cd nf n)[98 + (4 + (nf + i))]? = (tX ad o9 y b cI cO g dr cd nf n)[4 + (nf + i)]? := by
    unfold tW
    rw [List.getElem?_append_right (by rw [tcW_len]; omega), tcW_len, show 98 + (4 + (nf + i)) - 98 = 4 + (nf + i) by omega]
  rw [show 102 + nf + i = 98 + (4 + (nf + i)) by omega, e, show 4 + (nf + i) = nf + i + 1 + 1 + 1 + 1 by omega]
  show (tR y cI g nf n)[nf + i]? = _
  unfold tR
  rw [List.getElem?_append_right (by rw [tRow_len]; omega), tRow_len, show nf + i - nf = i by omega]
  exact tRow_get h
end TG
/-! a world's cells in another order, or fewer of them -/
theorem va_P_mem {D : va_G} {ws ws' : va_W} {H : Heap} (h : va_P D vwCl ws H) (hm : ∀ x, x ∈ ws' → x ∈ ws) : va_P D vwCl ws' H := fun k q hk => by
  obtain ⟨j, hj⟩ := List.mem_iff_getElem?.mp (hm q (List.mem_iff_getElem?.mpr ⟨k, hk⟩))
  exact h j q hj
theorem va_D_iff {A : Nat → Prop} {ws : va_W} : va_D A ws ↔ ws.Pairwise (fun a b => a.1 ≠ b.1) ∧ ∀ x, x ∈ ws → A x.1 := by
  constructor
  · intro h
    refine ⟨List.pairwise_iff_getElem.mpr (fun i j hi hj hij e => ?_), fun x hx => ?_⟩
    · have := h.1 i j _ _ (List.getElem?_eq_getElem hi) (List.getElem?_eq_getElem hj) e
      omega
    · obtain ⟨j, hj⟩ := List.mem_iff_getElem?.mp hx
      exact h.2 j x hj
  · intro ⟨h1, h2⟩
    refine ⟨fun i j p q hi hj e => ?_, fun k q hk => h2 q (List.mem_iff_getElem?.mpr ⟨k, hk⟩)⟩
    obtain ⟨li, ei⟩ := List.getElem?_eq_some_iff.mp hi
    obtain ⟨lj, ej⟩ := List.getElem?_eq_some_iff.mp hj
    rcases Nat.lt_trichotomy i j with c | c | c
    · exact absurd (by rw [ei, ej]; exact e) (List.pairwise_iff_getElem.mp h1 i j li lj c)
    · exact c
    · exact absurd (by rw [ei, ej]; exact e.symm) (List.pairwise_iff_getElem.mp h1 j i lj li c)
theorem va_D_perm {A : Nat → Prop} {ws ws' : va_W} (h : va_D A ws) (hp : ws'.Perm ws) : va_D A ws' := by
  obtain ⟨h1, h2⟩ := va_D_iff.mp h
  exact va_D_iff.mpr ⟨List.Pairwise.perm h1 hp.symm (fun h => Ne.symm h), fun x hx => h2 x (hp.mem_iff.mp hx)⟩
theorem va_D_subl {A : Nat → Prop} {ws ws' : va_W} (h : va_D A ws) (hs : ws'.Sublist ws) : va_D A ws' := by
  obtain ⟨h1, h2⟩ := va_D_iff.mp h
  exact va_D_iff.mpr ⟨h1.sublist hs, fun x hx => h2 x (hs.subset hx)⟩
theorem va_P_perm {D : va_G} {ws ws' : va_W} {H : Heap} (h : va_P D vwCl ws H) (hp : ws'.Perm ws) : va_P D vwCl ws' H := va_P_mem h (fun _ hx => hp.mem_iff.mp hx)
/-- the part beside the TapCap, all its cells by themselves -/
def tXg (ad : Nat → Nat) (o9 : Nat) (y : tA) (b : Nat) (cI cO : ClassId) (zf : Nat → Int32) (dr : Nat) (cd : Int32) (nf n : Nat) (fF fP : Nat → Option Nat) (rs : va_W) : va_W :=
  (o9, .inr (9, tFs ad y b dr cd)) :: (y.aZ, .inl (cI, 10, .inl zf)) :: (y.aF, .inl (cO, nf, .inr (.inr (.inr (.inr fF))))) :: (y.aP, .inl (cO, n, .inr (.inr (.inr (.inr fP))))) :: rs
theorem tX_is {ad : Nat → Nat} {o9 : Nat} {y : tA} {b : Nat} {cI cO : ClassId} {g : tG} {dr : Nat} {cd : Int32} {nf n : Nat} : tX ad o9 y b cI cO g dr cd nf n = tXg ad o9 y b cI cO (g 0) dr cd nf n (tAA y.rF nf) (tAA y.rP n) (tR y cI g nf n) := rfl
theorem tR_congr {y : tA} {cI : ClassId} {g g' : tG} {nf n : Nat} (hf : ∀ w, w < 5 → ∀ i, i < nf → g' (3 + w) i = g (3 + w) i) (hp : ∀ w, w < 6 → ∀ i, i < n → g' (13 + w) i = g (13 + w) i) : tR y cI g' nf n = tR y cI g nf n := by
  have e1 : tRow y.rF nf 5 cI (tFv g') = tRow y.rF nf 5 cI (tFv g) := tRow_congr (fun i hi => ⟨rfl, by
    funext w
    unfold tFv
    by_cases c : w < 5
    · rw [if_pos c, if_pos c, hf w c i hi]
    · rw [if_neg c, if_neg c]⟩)
  have e2 : tRow y.rP n 6 cI (tPv g') = tRow y.rP n 6 cI (tPv g) := tRow_congr (fun i hi => ⟨rfl, by
    funext w
    unfold tPv
    by_cases c : w < 6
    · rw [if_pos c, if_pos c, hp w c i hi]
    · rw [if_neg c, if_neg c]⟩)
  unfold tR
  rw [e1, e2]
theorem tW_zone {ad : Nat → Nat} {o9 : Nat} {y : tA} {b : Nat} {cI cO : ClassId} {g : tG} {dr : Nat} {cd : Int32} {nf n s0 : Nat} {z0 : Int32} (hs : s0 < 10) : tcW ad cI (fX8_zone_w g (nI s0) z0) ++ tXg ad o9 y b cI cO (upd (g 0) s0 z0) dr cd nf n (tAA y.rF nf) (tAA y.rP n) (tR y cI g nf n) = tW ad o9 y b cI cO (fX8_zone_w g (nI s0) z0) dr cd nf n := by
  have e0 : fX8_zone_w g (nI s0) z0 0 = upd (g 0) s0 z0 := gP_at (j := 0) hs (by decide)
  have eo : ∀ j, j ≠ 0 → fX8_zone_w g (nI s0) z0 j = g j := fun j hj => gP_ne hj
  have er : tR y cI (fX8_zone_w g (nI s0) z0) nf n = tR y cI g nf n := tR_congr (fun w _ i _ => by rw [eo _ (by omega)]) (fun w _ i _ => by rw [eo _ (by omega)])
  unfold tW
  rw [tX_is, e0, er]
/-! a row more: the new row and the new array of rows lie at the end, the old array is forgotten -/
theorem perm_f {α : Type} {C R1 R2 : List α} {o z f p r q : α} : (f :: (C ++ (o :: z :: q :: p :: ((R1 ++ [r]) ++ R2)))).Perm (((C ++ (o :: z :: f :: p :: (R1 ++ R2))) ++ [r]) ++ [q]) := by
  classical
  rw [List.perm_iff_count]
  intro a
  simp only [List.count_append, List.count_cons, List.count_nil]
  omega
theorem perm_p {α : Type} {C R1 R2 : List α} {o z f p r q : α} : (p :: (C ++ (o :: z :: f :: q :: (R1 ++ (R2 ++ [r]))))).Perm (((C ++ (o :: z :: f :: p :: (R1 ++ R2))) ++ [r]) ++ [q]) := by
  classical
  rw [List.perm_iff_count]
  intro a
  simp only [List.count_append, List.count_cons, List.count_nil]
  omega
theorem drop_1 {D : va_G} {A : Nat → Prop} {x : Nat × va_E} {ws ws' : va_W} {H : Heap} (hP : va_P D vwCl ws H) (hD : va_D A ws) (hp : (x :: ws').Perm ws) : va_P D vwCl ws' H ∧ va_D A ws' :=
  ⟨va_P_mem hP (fun _ hx => hp.mem_iff.mp (List.mem_cons_of_mem _ hx)), va_D_subl (va_D_perm hD hp) (List.sublist_cons_self _ _)⟩
section TR
variable {p : Program} {l : Launch} {e : Env} {R : Room} {s : State} {m : MethodId} {args : Array Value} {below : List Frame} {meth : Method} {c : Code} {H : Heap} {locs : List Loc} {cells slots : Nat} {Q : State → Prop}
variable {pc : Nat} {ls : Array Slot} {rest st0 : List Value} {D : va_G} {tys : List (ClassId × FieldType)} {ws : va_W} {A : Nat → Prop} {H0 : Heap} {mc ms : Nat}
theorem t_kr {wf : Nat → va_W} {av : Array Value} (hD : va_D A ws) (hS : va_S A H0 H locs) (hA : ∀ q, H0.size ≤ q → A q)
    (hr : va_Run p l e R s m args below meth c H locs cells slots mc ms (F0 m pc ls st0) rest (va_Qr (fun (_ : Unit) => True) (fun _ q t => g_B D tys (va_A ws H.size) (wf q) t) (va_A ws H.size) av) (va_A ws H.size))
    (kk : ∀ (q : Nat) (H1 : Heap) (locs1 : List Loc), va_P D vwCl (wf q) H1 → va_D A (wf q) → va_S A H0 H1 locs1 → W p l e R s m args below meth c H1 locs1 (cells + mc) (slots + ms) Q (F0 m (pc + 3) ls (.ref q :: rest))) : W p l e R s m args below meth c H locs cells slots Q (F0 m pc ls st0) := by
  have hF := g_free hD hS hA
  refine va_callr hr hS (fun q _ h => hF q h) hF (fun u q t H1 locs1 ht hvm hw hB hz1 hk1 hS1 => ?_)
  obtain ⟨hP1, hK1, hD1⟩ := hB
  rw [ht] at hP1
  exact kk q H1 locs1 hP1 (hD1.weaken (fun _ _ _ h => hF _ h)) hS1
end TR
