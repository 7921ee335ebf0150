/-! a tariff more -/
def yF (y : tA) (a q k : Nat) : tA := (fun i => if i = 3 then a else y.1 i, fun i => if i = k then q else y.2.1 i, y.2.2)
def yP (y : tA) (a q k : Nat) : tA := (fun i => if i = 4 then a else y.1 i, y.2.1, fun i => if i = k then q else y.2.2 i)
theorem plF_tAA {r : Nat → Nat} {n a : Nat} : plF (tAA r n) n a = tAA (fun i => if i = n then a else r i) (n + 1) := by
  funext i
  unfold plF tAA
  by_cases c1 : i < n
  · rw [if_pos c1, if_pos c1, if_pos (show i < n + 1 by omega)]
    show some (r i) = some (if i = n then a else r i)
    rw [if_neg (by omega)]
  · rw [if_neg c1]
    by_cases c2 : i = n
    · rw [if_pos c2, if_pos (show i < n + 1 by omega)]
      show some a = some (if i = n then a else r i)
      rw [if_pos c2]
    · rw [if_neg c2, if_neg (by omega)]
theorem tRow_plus {r : Nat → Nat} {n k a : Nat} {cI : ClassId} {f : Nat → Nat → Int32} {v : Nat → Int32} (h : f n = v) : tRow r n k cI f ++ [(a, .inl (cI, k, .inl v))] = tRow (fun i => if i = n then a else r i) (n + 1) k cI f := by
  rw [tRow_succ, h, if_pos rfl]
  congr 1
  exact tRow_congr (fun i hi => ⟨(if_neg (by omega)).symm, rfl⟩)
theorem tRow_addr {r r' : Nat → Nat} {n k : Nat} {cI : ClassId} {f f' : Nat → Nat → Int32} (h : ∀ i, i < n → r' i = r i) (hf : ∀ i, i < n → f' i = f i) : tRow r' n k cI f' = tRow r n k cI f := tRow_congr (fun i hi => ⟨h i hi, hf i hi⟩)
section TF
variable {D : va_G} {H : Heap} {A : Nat → Prop} {ad : Nat → Nat} {o9 : Nat} {y : tA} {b : Nat} {cI cO : ClassId} {g h : tG} {dr : Nat} {cd : Int32} {nf n q a : Nat} {v : Nat → Int32}
theorem tW_addF (hP : va_P D vwCl ((tW ad o9 y b cI cO g dr cd nf n ++ [(q, .inl (cI, 5, .inl v))] ++ [(a, .inl (cO, nf + 1, .inr (.inr (.inr (.inr (plF (tAA y.rF nf) nf q))))))] : va_W).set 98 (o9, .inr (9, (tFs ad y b dr cd).set 5 (.ref a)))) H) (hD : va_D A ((tW ad o9 y b cI cO g dr cd nf n ++ [(q, .inl (cI, 5, .inl v))] ++ [(a, .inl (cO, nf + 1, .inr (.inr (.inr (.inr (plF (tAA y.rF nf) nf q))))))] : va_W).set 98 (o9, .inr (9, (tFs ad y b dr cd).set 5 (.ref a))))) :
    va_P D vwCl (tcW ad cI g ++ tXg ad o9 (yF y a q nf) b cI cO (g 0) dr cd (nf + 1) n (plF (tAA y.rF nf) nf q) (tAA y.rP n) ((tRow y.rF nf 5 cI (tFv g) ++ [(q, .inl (cI, 5, .inl v))]) ++ tRow y.rP n 6 cI (tPv g))) H ∧ va_D A (tcW ad cI g ++ tXg ad o9 (yF y a q nf) b cI cO (g 0) dr cd (nf + 1) n (plF (tAA y.rF nf) nf q) (tAA y.rP n) ((tRow y.rF nf 5 cI (tFv g) ++ [(q, .inl (cI, 5, .inl v))]) ++ tRow y.rP n 6 cI (tPv g))) := by
  have hP : va_P D vwCl (((tcW ad cI g ++ ((o9, .inr (9, tFs ad (yF y a q nf) b dr cd)) :: (y.aZ, .inl (cI, 10, .inl (g 0))) :: (y.aF, .inl (cO, nf, .inr (.inr (.inr (.inr (tAA y.rF nf)))))) :: (y.aP, .inl (cO, n, .inr (.inr (.inr (.inr (tAA y.rP n)))))) :: (tRow y.rF nf 5 cI (tFv g) ++ tRow y.rP n 6 cI (tPv g)))) ++ [(q, .inl (cI, 5, .inl v))]) ++ [(a, .inl (cO, nf + 1, .inr (.inr (.inr (.inr (plF (tAA y.rF nf) nf q))))))]) H := hP
  have hD : va_D A (((tcW ad cI g ++ ((o9, .inr (9, tFs ad (yF y a q nf) b dr cd)) :: (y.aZ, .inl (cI, 10, .inl (g 0))) :: (y.aF, .inl (cO, nf, .inr (.inr (.inr (.inr (tAA y.rF nf)))))) :: (y.aP, .inl (cO, n, .inr (.inr (.inr (.inr (tAA y.rP n)))))) :: (tRow y.rF nf 5 cI (tFv g) ++ tRow y.rP n 6 cI (tPv g)))) ++ [(q, .inl (cI, 5, .inl v))]) ++ [(a, .inl (cO, nf + 1, .inr (.inr (.inr (.inr (plF (tAA y.rF nf) nf q))))))]) := hD
  exact drop_1 hP hD perm_f
theorem tW_tariff (h0 : h 0 = g 0) (hf : ∀ w, w < 5 → ∀ i, i < nf → h (3 + w) i = g (3 + w) i) (hp : ∀ w, w < 6 → ∀ i, i < n → h (13 + w) i = g (13 + w) i) (hv : tFv h nf = v) :
    tcW ad cI h ++ tXg ad o9 (yF y a q nf) b cI cO (g 0) dr cd (nf + 1) n (plF (tAA y.rF nf) nf q) (tAA y.rP n) ((tRow y.rF nf 5 cI (tFv g) ++ [(q, .inl (cI, 5, .inl v))]) ++ tRow y.rP n 6 cI (tPv g)) = tW ad o9 (yF y a q nf) b cI cO h dr cd (nf + 1) n := by
  have e1 : tRow y.rF nf 5 cI (tFv g) = tRow y.rF nf 5 cI (tFv h) := tRow_congr (fun i hi => ⟨rfl, by
    funext w
    unfold tFv
    by_cases c : w < 5
    · rw [if_pos c, if_pos c, hf w c i hi]
    · rw [if_neg c, if_neg c]⟩)
  have e2 : tRow y.rP n 6 cI (tPv g) = tRow y.rP n 6 cI (tPv h) := tRow_congr (fun i hi => ⟨rfl, by
    funext w
    unfold tPv
    by_cases c : w < 6
    · rw [if_pos c, if_pos c, hp w c i hi]
    · rw [if_neg c, if_neg c]⟩)
  rw [e1, e2, tRow_plus hv, plF_tAA, ← h0]
  rfl
theorem tW_addP (hP : va_P D vwCl ((tW ad o9 y b cI cO g dr cd nf n ++ [(q, .inl (cI, 6, .inl v))] ++ [(a, .inl (cO, n + 1, .inr (.inr (.inr (.inr (plF (tAA y.rP n) n q))))))] : va_W).set 98 (o9, .inr (9, (tFs ad y b dr cd).set 8 (.ref a)))) H) (hD : va_D A ((tW ad o9 y b cI cO g dr cd nf n ++ [(q, .inl (cI, 6, .inl v))] ++ [(a, .inl (cO, n + 1, .inr (.inr (.inr (.inr (plF (tAA y.rP n) n q))))))] : va_W).set 98 (o9, .inr (9, (tFs ad y b dr cd).set 8 (.ref a))))) :
    va_P D vwCl (tcW ad cI g ++ tXg ad o9 (yP y a q n) b cI cO (g 0) dr cd nf (n + 1) (tAA y.rF nf) (plF (tAA y.rP n) n q) (tRow y.rF nf 5 cI (tFv g) ++ (tRow y.rP n 6 cI (tPv g) ++ [(q, .inl (cI, 6, .inl v))]))) H ∧ va_D A (tcW ad cI g ++ tXg ad o9 (yP y a q n) b cI cO (g 0) dr cd nf (n + 1) (tAA y.rF nf) (plF (tAA y.rP n) n q) (tRow y.rF nf 5 cI (tFv g) ++ (tRow y.rP n 6 cI (tPv g) ++ [(q, .inl (cI, 6, .inl v))]))) := by
  have hP : va_P D vwCl (((tcW ad cI g ++ ((o9, .inr (9, tFs ad (yP y a q n) b dr cd)) :: (y.aZ, .inl (cI, 10, .inl (g 0))) :: (y.aF, .inl (cO, nf, .inr (.inr (.inr (.inr (tAA y.rF nf)))))) :: (y.aP, .inl (cO, n, .inr (.inr (.inr (.inr (tAA y.rP n)))))) :: (tRow y.rF nf 5 cI (tFv g) ++ tRow y.rP n 6 cI (tPv g)))) ++ [(q, .inl (cI, 6, .inl v))]) ++ [(a, .inl (cO, n + 1, .inr (.inr (.inr (.inr (plF (tAA y.rP n) n q))))))]) H := hP
  have hD : va_D A (((tcW ad cI g ++ ((o9, .inr (9, tFs ad (yP y a q n) b dr cd)) :: (y.aZ, .inl (cI, 10, .inl (g 0))) :: (y.aF, .inl (cO, nf, .inr (.inr (.inr (.inr (tAA y.rF nf)))))) :: (y.aP, .inl (cO, n, .inr (.inr (.inr (.inr (tAA y.rP n)))))) :: (tRow y.rF nf 5 cI (tFv g) ++ tRow y.rP n 6 cI (tPv g)))) ++ [(q, .inl (cI, 6, .inl v))]) ++ [(a, .inl (cO, n + 1, .inr (.inr (.inr (.inr (plF (tAA y.rP n) n q))))))]) := hD
  exact drop_1 hP hD perm_p
theorem tW_tap (h0 : h 0 = g 0) (hf : ∀ w, w < 5 → ∀ i, i < nf → h (3 + w) i = g (3 + w) i) (hp : ∀ w, w < 6 → ∀ i, i < n → h (13 + w) i = g (13 + w) i) (hv : tPv h n = v) :
    tcW ad cI h ++ tXg ad o9 (yP y a q n) b cI cO (g 0) dr cd nf (n + 1) (tAA y.rF nf) (plF (tAA y.rP n) n q) (tRow y.rF nf 5 cI (tFv g) ++ (tRow y.rP n 6 cI (tPv g) ++ [(q, .inl (cI, 6, .inl v))])) = tW ad o9 (yP y a q n) b cI cO h dr cd nf (n + 1) := by
  have e1 : tRow y.rF nf 5 cI (tFv g) = tRow y.rF nf 5 cI (tFv h) := tRow_congr (fun i hi => ⟨rfl, by
    funext w
    unfold tFv
    by_cases c : w < 5
    · rw [if_pos c, if_pos c, hf w c i hi]
    · rw [if_neg c, if_neg c]⟩)
  have e2 : tRow y.rP n 6 cI (tPv g) = tRow y.rP n 6 cI (tPv h) := tRow_congr (fun i hi => ⟨rfl, by
    funext w
    unfold tPv
    by_cases c : w < 6
    · rw [if_pos c, if_pos c, hp w c i hi]
    · rw [if_neg c, if_neg c]⟩)
  rw [e1, e2, tRow_plus hv, plF_tAA, ← h0]
  rfl
end TF
/-- a call on the TapCap of a Told -/
theorem tX_step {ad : Nat → Nat} {o9 : Nat} {y : tA} {b : Nat} {cI cO : ClassId} {g h : tG} {dr : Nat} {cd : Int32} {nf n : Nat} (h0 : h 0 = g 0) (hf : ∀ w, w < 5 → ∀ i, i < nf → h (3 + w) i = g (3 + w) i) (hp : ∀ w, w < 6 → ∀ i, i < n → h (13 + w) i = g (13 + w) i) : tcW ad cI h ++ tX ad o9 y b cI cO g dr cd nf n = tW ad o9 y b cI cO h dr cd nf n := by
  unfold tW
  rw [tX_congr h0 hf hp]
theorem add_F {g : tG} {k : Nat} (h2 : g 45 2 = nI k) (hk : k < 6) (x0 x1 x2 x3 x4 : Int32) : fX7_add_w g x0 x1 x2 x3 x4 3 = upd (g 3) k x0 ∧ fX7_add_w g x0 x1 x2 x3 x4 4 = upd (g 4) k x1 ∧ fX7_add_w g x0 x1 x2 x3 x4 5 = upd (g 5) k x2 ∧ fX7_add_w g x0 x1 x2 x3 x4 6 = upd (g 6) k x3 ∧ fX7_add_w g x0 x1 x2 x3 x4 7 = upd (g 7) k x4 ∧ fX7_add_w g x0 x1 x2 x3 x4 45 2 = nI (k + 1) := by
  obtain ⟨g1, e1⟩ : ∃ z, z = gP g 3 (g 45 2) x0 := ⟨_, rfl⟩
  obtain ⟨g2, e2⟩ : ∃ z, z = gP g1 4 (g1 45 2) x1 := ⟨_, rfl⟩
  obtain ⟨g3, e3⟩ : ∃ z, z = gP g2 5 (g2 45 2) x2 := ⟨_, rfl⟩
  obtain ⟨g4, e4⟩ : ∃ z, z = gP g3 6 (g3 45 2) x3 := ⟨_, rfl⟩
  obtain ⟨g5, e5⟩ : ∃ z, z = gP g4 7 (g4 45 2) x4 := ⟨_, rfl⟩
  have ew : fX7_add_w g x0 x1 x2 x3 x4 = tc_sc g5 2 ((g5 45 2) + 1) := by rw [e5, e4, e3, e2, e1]; rfl
  have k1 : g1 45 2 = nI k := by rw [e1, gP_ne (by decide)]; exact h2
  have k2 : g2 45 2 = nI k := by rw [e2, gP_ne (by decide)]; exact k1
  have k3 : g3 45 2 = nI k := by rw [e3, gP_ne (by decide)]; exact k2
  have k4 : g4 45 2 = nI k := by rw [e4, gP_ne (by decide)]; exact k3
  have k5 : g5 45 2 = nI k := by rw [e5, gP_ne (by decide)]; exact k4
  rw [h2] at e1
  rw [k1] at e2
  rw [k2] at e3
  rw [k3] at e4
  rw [k4] at e5
  rw [ew]
  refine ⟨?_, ?_, ?_, ?_, ?_, ?_⟩
  · rw [sc_nj (by decide), e5, gP_ne (by decide), e4, gP_ne (by decide), e3, gP_ne (by decide), e2, gP_ne (by decide), e1, gP_at (j := 3) hk (by decide)]
  · rw [sc_nj (by decide), e5, gP_ne (by decide), e4, gP_ne (by decide), e3, gP_ne (by decide), e2, gP_at (j := 4) hk (by decide), e1, gP_ne (by decide)]
  · rw [sc_nj (by decide), e5, gP_ne (by decide), e4, gP_ne (by decide), e3, gP_at (j := 5) hk (by decide), e2, gP_ne (by decide), e1, gP_ne (by decide)]
  · rw [sc_nj (by decide), e5, gP_ne (by decide), e4, gP_at (j := 6) hk (by decide), e3, gP_ne (by decide), e2, gP_ne (by decide), e1, gP_ne (by decide)]
  · rw [sc_nj (by decide), e5, gP_at (j := 7) hk (by decide), e4, gP_ne (by decide), e3, gP_ne (by decide), e2, gP_ne (by decide), e1, gP_ne (by decide)]
  · rw [sc_at, k5, nI_1]
/-- a tariff more: what it does to the rows -/
theorem tar_step {g : tG} {k : Nat} (h2 : g 45 2 = nI k) (hk : k < 6) (x0 x1 x2 x3 x4 : Int32) : fX8_tariff_r g x0 x1 x2 x3 x4 = nI (k + 1) ∧ (∀ j, (j < 3 ∨ 7 < j) → j ≠ 45 → fX8_tariff_w g x0 x1 x2 x3 x4 j = g j) ∧ (∀ w, w < 5 → ∀ i, i ≠ k → fX8_tariff_w g x0 x1 x2 x3 x4 (3 + w) i = g (3 + w) i) ∧ tFv (fX8_tariff_w g x0 x1 x2 x3 x4) k = upd (upd (upd (upd (upd (fun _ => 0) 0 x0) 1 x1) 2 x2) 3 x3) 4 x4 ∧ fX8_tariff_w g x0 x1 x2 x3 x4 45 2 = nI (k + 1) := by
  obtain ⟨a0, a1, a2, a3, a4, a5⟩ := add_F h2 hk x0 x1 x2 x3 x4
  have ew : fX8_tariff_w g x0 x1 x2 x3 x4 = fX7_add_w g x0 x1 x2 x3 x4 := rfl
  rw [ew]
  refine ⟨a5, fun j hj h45 => fjX7_add g _ _ _ _ _ j (fun hm => by
    rcases hj with c | c
    · exact absurd c (by have : ∀ x, x ∈ ([3, 4, 5, 6, 7, 45] : List Nat) → 3 ≤ x := by decide
                         have := this j hm; omega)
    · have : ∀ x, x ∈ ([3, 4, 5, 6, 7, 45] : List Nat) → x ≤ 7 ∨ x = 45 := by decide
      rcases this j hm with q | q
      · omega
      · exact h45 q), fun w hw i hi => ?_, ?_, a5⟩
  · match w, hw with
    | 0, _ => show fX7_add_w g x0 x1 x2 x3 x4 3 i = g 3 i; rw [a0, upd_n hi]
    | 1, _ => show fX7_add_w g x0 x1 x2 x3 x4 4 i = g 4 i; rw [a1, upd_n hi]
    | 2, _ => show fX7_add_w g x0 x1 x2 x3 x4 5 i = g 5 i; rw [a2, upd_n hi]
    | 3, _ => show fX7_add_w g x0 x1 x2 x3 x4 6 i = g 6 i; rw [a3, upd_n hi]
    | 4, _ => show fX7_add_w g x0 x1 x2 x3 x4 7 i = g 7 i; rw [a4, upd_n hi]
  · funext w
    unfold tFv
    by_cases hw : w < 5
    · rw [if_pos hw]
      match w, hw with
      | 0, _ => show fX7_add_w g x0 x1 x2 x3 x4 3 k = _; rw [a0, upd_s]; rfl
      | 1, _ => show fX7_add_w g x0 x1 x2 x3 x4 4 k = _; rw [a1, upd_s]; rfl
      | 2, _ => show fX7_add_w g x0 x1 x2 x3 x4 5 k = _; rw [a2, upd_s]; rfl
      | 3, _ => show fX7_add_w g x0 x1 x2 x3 x4 6 k = _; rw [a3, upd_s]; rfl
      | 4, _ => show fX7_add_w g x0 x1 x2 x3 x4 7 k = _; rw [a4, upd_s]; rfl
    · rw [if_neg hw, upd_n (by omega), upd_n (by omega), upd_n (by omega), upd_n (by omega), upd_n (by omega)]

set_option maxHeartbeats 4000000 in
set_option maxRecDepth 100000 in
theorem kX9_tariff (l : Launch) (D : va_G) (sz b : Nat) (ad : Nat → Nat) (o9 : Nat) (y : tA) (cI cO : ClassId) (g : tG) (dr : Nat) (cd : Int32) (nf n : Nat) (x0 x1 x2 x3 x4 : Int32) (h1 : in_R x0 0 27) (h2 : in_R x1 1 9) (h3 : in_R x2 0 5) (h4 : in_R x3 1 50) (h5 : in_R x4 1 200) (hf : g 45 2 = nI nf) (hnf : nf < 6) (h0 : g 45 0 = 0) (hn : n ≤ 40) : Met l yX9_tariff wsX9_tariff ({ frames := 3, cells := 2, slots := 46, locals := 120 } : Room) (p_P D (tY_T cI cO) (tW ad o9 y b cI cO g dr cd nf n) [.ref o9, .int x0, .int x1, .int x2, .int x3, .int x4] sz) (t_Qy D (tY_T cI cO) (va_A (tW ad o9 y b cI cO g dr cd nf n) sz) (fun u => tW ad o9 u b cI cO (fX8_tariff_w g x0 x1 x2 x3 x4) dr cd (nf + 1) n) 1) 2 46 (va_A (tW ad o9 y b cI cO g dr cd nf n) sz) := by
  refine Met.ofW (cc := cX9_tariff) (maxL := 6) (ret := (some .boolean)) (by decide) rfl ?_
  intro p e s m args below meth c9 s₁ B hml hv
  obtain ⟨rfl, hAO, hsz, hP, hK, hD0⟩ := hv
  have hx := B.exec
  have hb := B.bytes
  have hr := B.returns
  have hts := atoms_spec (ws := wsX9_tariff) B.pre
  have hown : s.vm.findClass RX9 = some m.cls := findClass_of_methodNamed B.named
  have hlocks := B.notSynchronized
  subst hsz
  have hD := hD0.self (sz := s.heap.size)
  generalize hAe : va_A (tW ad o9 y b cI cO g dr cd nf n) s.heap.size = A at hD ⊢
  have hA : ∀ q : Nat, s.heap.size ≤ q → A q := fun q h => by rw [← hAe]; exact Or.inr h
  have hS : va_S A s.heap s.heap [] := va_S.rf
  have hl := lv_entry ([.ref o9, .int x0, .int x1, .int x2, .int x3, .int x4]) (n := 6) (Nat.le_of_ble_eq_true rfl)
  rw [lg_entry_eq]
  generalize (lg_sl ([.ref o9, .int x0, .int x1, .int x2, .int x3, .int x4]) ++ List.replicate (6 - (lg_sl ([.ref o9, .int x0, .int x1, .int x2, .int x3, .int x4])).length) Slot.unset).toArray = ls at hl ⊢
  have hl : lv_has ls 6 [(0, .ref o9), (1, .int x0), (2, .int x1), (3, .int x2), (4, .int x3), (5, .int x4)] := hl
  have winX9 : ∀ w ∈ u_ws RX9 TX9 9, w ∈ wsX9_tariff := by decide +kernel
  obtain ⟨t1, t2, t3, t4, t5⟩ := tar_step hf hnf x0 x1 x2 x3 x4
  refine lv_aload_n hx hb dX9_tariff_0 rfl (lv_at hl 0 rfl) ?_
  refine lv_aload_n hx hb dX9_tariff_1 rfl (lv_at hl 0 rfl) ?_
  refine va_get (D := D) (ci := 9) (v := .ref y.aF) (C := RX9) (T := TX9) (N := 9) hx hb hts winX9 hown hK hP 98 rfl rfl 5 (by decide) (hts (.fieldLink RX9 24 "TapCapLaw$Told" "tariffs" "[[I") (List.mem_of_getElem? (i := 1) rfl)) (fun _ h9 => h9) rfl dX9_tariff_2 ?_
  refine lv_iconst (v := 5) hx hb dX9_tariff_5 (by decide) ?_
  refine t_new (cI := cI) (cO := cO) (N := 5) hx hb (hts (.arrayClass .int) (List.mem_of_getElem? (i := 2) rfl)) hK hP hD hS hA (by decide) (Nat.le_of_ble_eq_true rfl) (Nat.le_of_ble_eq_true rfl) dX9_tariff_6 (fun q1 H hP hD hS => ?_)
  refine lv_dup hx hb dX9_tariff_8 rfl ?_
  refine lv_iconst (v := 0) hx hb dX9_tariff_9 (by decide) ?_
  refine lv_iload_n hx hb dX9_tariff_10 rfl (lv_at hl 1 rfl) ?_
  refine t_isl (ws := tW ad o9 y b cI cO g dr cd nf n) hx hb hK hP hD hS 0 0 rfl (by decide) (by decide) dX9_tariff_11 (fun H locs hP hD hS => ?_)
  refine lv_dup hx hb dX9_tariff_12 rfl ?_
  refine lv_iconst (v := 1) hx hb dX9_tariff_13 (by decide) ?_
  refine lv_iload_n hx hb dX9_tariff_14 rfl (lv_at hl 2 rfl) ?_
  refine t_isl (ws := tW ad o9 y b cI cO g dr cd nf n) hx hb hK hP hD hS 0 1 rfl (by decide) (by decide) dX9_tariff_15 (fun H locs hP hD hS => ?_)
  refine lv_dup hx hb dX9_tariff_16 rfl ?_
  refine lv_iconst (v := 2) hx hb dX9_tariff_17 (by decide) ?_
  refine lv_iload_n hx hb dX9_tariff_18 rfl (lv_at hl 3 rfl) ?_
  refine t_isl (ws := tW ad o9 y b cI cO g dr cd nf n) hx hb hK hP hD hS 0 2 rfl (by decide) (by decide) dX9_tariff_19 (fun H locs hP hD hS => ?_)
  refine lv_dup hx hb dX9_tariff_20 rfl ?_
  refine lv_iconst (v := 3) hx hb dX9_tariff_21 (by decide) ?_
  refine lv_iload hx hb dX9_tariff_22 (lv_at hl 4 rfl) ?_
  refine t_isl (ws := tW ad o9 y b cI cO g dr cd nf n) hx hb hK hP hD hS 0 3 rfl (by decide) (by decide) dX9_tariff_24 (fun H locs hP hD hS => ?_)
  refine lv_dup hx hb dX9_tariff_25 rfl ?_
  refine lv_iconst (v := 4) hx hb dX9_tariff_26 (by decide) ?_
  refine lv_iload hx hb dX9_tariff_27 (lv_at hl 5 rfl) ?_
  refine t_isl (ws := tW ad o9 y b cI cO g dr cd nf n) hx hb hK hP hD hS 0 4 rfl (by decide) (by decide) dX9_tariff_29 (fun H locs hP hD hS => ?_)
  refine t_kr (wf := fun a => tW ad o9 y b cI cO g dr cd nf n ++ [(q1, .inl (cI, 5, .inl (upd (upd (upd (upd (upd (fun _ => 0) 0 x0) 1 x1) 2 x2) 3 x3) 4 x4)))] ++ [(a, .inl (cO, nf + 1, .inr (.inr (.inr (.inr (plF (tAA y.rF nf) nf q1))))))]) hD hS hA (va_runS (As := [.ref y.aF, .ref q1]) (rest := [.ref o9]) ⟨hx, hb, hml, hown, hts⟩ (kX9_plus l D H.size y.aF q1 nf 5 100 (tW ad o9 y b cI cO g dr cd nf n).length cI cO (tW ad o9 y b cI cO g dr cd nf n ++ [(q1, .inl (cI, 5, .inl (upd (upd (upd (upd (upd (fun _ => 0) 0 x0) 1 x1) 2 x2) 3 x3) 4 x4)))]) (tAA y.rF nf) (upd (upd (upd (upd (upd (fun _ => 0) 0 x0) 1 x1) 2 x2) 3 x3) 4 x4) (get_first tW_f) get_last (fun i hi a ha => ⟨102 + i, 5, tFv g i, by rw [← Option.some.inj ((tAA_at hi).symm.trans ha)]; exact get_first (tW_rf hi)⟩) (by omega)) (cwS 2 hts gX9_tariff_X9_plus rfl rfl rfl (by decide +kernel) ⟨Nat.le_of_ble_eq_true rfl, Nat.le_of_ble_eq_true rfl⟩) (p_preS hAO hK hP hD) rfl rfl hl.1 rfl (lv_room (Nat.le_of_ble_eq_true rfl)) dX9_tariff_30 ⟨Nat.le_of_ble_eq_true rfl, Nat.le_of_ble_eq_true rfl⟩) (fun a1 H locs hP hD hS => ?_)
  refine va_put (D := D) (ci := 9) (v := .ref a1) (ty := (.array (.array .int))) (C := RX9) (T := TX9) (N := 9) hx hb hts winX9 tyX9 tyX9_ok nmX9 hown hK hP hD hS 98 rfl rfl 5 (by decide) (hts (.fieldLink RX9 24 "TapCapLaw$Told" "tariffs" "[[I") (List.mem_of_getElem? (i := 1) rfl)) (fun _ h9 => h9) rfl (by decide +kernel) rfl rfl (Nat.le_of_ble_eq_true rfl) dX9_tariff_33 (fun H locs hP hD hS => ?_)
  obtain ⟨hP, hD⟩ := tW_addF hP hD
  refine lv_aload_n hx hb dX9_tariff_36 rfl (lv_at hl 0 rfl) ?_
  refine va_get (D := D) (ci := 9) (v := .ref (ad 0)) (C := RX9) (T := TX9) (N := 9) hx hb hts winX9 hown hK hP 98 rfl rfl 0 (by decide) (hts (.fieldLink RX9 10 "TapCapLaw$Told" "m" "LTapCap;") (List.mem_of_getElem? (i := 3) rfl)) (fun _ h9 => h9) rfl dX9_tariff_37 ?_
  refine lv_iload_n hx hb dX9_tariff_40 rfl (lv_at hl 1 rfl) ?_
  refine lv_iload_n hx hb dX9_tariff_41 rfl (lv_at hl 2 rfl) ?_
  refine lv_iload_n hx hb dX9_tariff_42 rfl (lv_at hl 3 rfl) ?_
  refine lv_iload hx hb dX9_tariff_43 (lv_at hl 4 rfl) ?_
  refine lv_iload hx hb dX9_tariff_45 (lv_at hl 5 rfl) ?_
  have hK8 := hK.sub (tys' := [(cI, .int)]) [0] rfl
  refine t_ki hP hD hS hA (va_runV (As := [.int x0, .int x1, .int x2, .int x3, .int x4]) (rest := []) ⟨hx, hb, hml, hown, hts⟩ (kX8_tariff l D ad cI g H.size x0 x1 x2 x3 x4 h1 h2 h3 h4 h5 (by rw [hf, Int32.le_iff_toInt_le, nI_toInt (by omega)]; show ¬ (6 : Int) ≤ (nf : Int); omega) (by rw [h0]; exact Int32.not_lt.mp h1.1)) (cwV 5 hts gX9_tariff_X8_tariff rfl rfl rfl (by decide +kernel) ⟨Nat.le_of_ble_eq_true rfl, Nat.le_of_ble_eq_true rfl⟩) (g_preV hK8 (pre_P hP) (pre_D hD) (ci := 8) (q0 := 0) rfl rfl) rfl rfl hl.1 rfl (lv_room (Nat.le_of_ble_eq_true rfl)) dX9_tariff_47 ⟨Nat.le_of_ble_eq_true rfl, Nat.le_of_ble_eq_true rfl⟩) (fun H locs hP hD hS => ?_)
  rw [tW_tariff (t2 0 (by decide) (by decide)) (fun w hw i hi => t3 w hw i (by omega)) (fun w hw i _ => by rw [t2 (13 + w) (by omega) (by omega)]) t4] at hP hD
  rw [t1]
  refine lv_aload_n hx hb dX9_tariff_50 rfl (lv_at hl 0 rfl) ?_
  refine va_get (D := D) (ci := 9) (v := .ref ((yF y a1 q1 nf).aF)) (C := RX9) (T := TX9) (N := 9) hx hb hts winX9 hown hK hP 98 rfl rfl 5 (by decide) (hts (.fieldLink RX9 24 "TapCapLaw$Told" "tariffs" "[[I") (List.mem_of_getElem? (i := 1) rfl)) (fun _ h9 => h9) rfl dX9_tariff_51 ?_
  refine va_alen hx hb hK hP 100 1 tW_f rfl (v := nI (nf + 1)) rfl dX9_tariff_54 ?_
  refine lv_icmp_ne (tgt := 62) hx hb dX9_tariff_55 (by decide) (fun c1 => absurd rfl c1) (fun c1 => ?_)
  refine lv_iconst (v := 1) hx hb dX9_tariff_58 (by decide) ?_
  refine lv_goto (tgt := 63) hx hb dX9_tariff_59 (by decide) ?_
  refine W.widen (k := 2) (n := 46) (by decide) (by decide) ?_
  exact g_yret (yF y a1 q1 nf) rfl hx hb hr narrow_z1 hlocks hK hP hD hS rfl dX9_tariff_63
