/-! an array of arrays with one more -/
abbrev p_P (D : va_G) (tys : List (ClassId × FieldType)) (ws : va_W) (av : List Value) (sz : Nat) : Array Value → State → Prop := va_Pc av (fun U => va_AOA .int U ∧ U.heap.size = sz ∧ va_P D vwCl ws U.heap ∧ va_K D vwCl tys U ∧ va_D (fun _ => True) ws)
theorem p_preS {s : State} {H : Heap} {D : va_G} {tys : List (ClassId × FieldType)} {ws : va_W} {As : List Value} {A : Nat → Prop} (hAO : va_AOA .int s) (hK : va_K D vwCl tys s) (hP : va_P D vwCl ws H) (hD : va_D A ws) : PreS s H (p_P D tys ws As H.size) As := by
  refine ⟨?_, fun U hU hW => ⟨rfl, va_AOA.of (over_moved (a := #[]) (a' := #[]) hW.alike hAO), by rw [hU], by rw [hU]; exact hP, va_K.moved hW.alike hK, hD.weaken (fun _ _ _ _ => trivial)⟩⟩
  intro a U g mk q
  obtain ⟨q0, qN, q1, qP, qK, qD⟩ := q
  exact ⟨q0, va_AOA.of (over_moved (a := #[]) (a' := #[]) (Vm.Alike.refl U.vm) qN), q1, qP, va_K.moved (u := U) (U := U.calling g mk a) (Vm.Alike.refl U.vm) qK, qD⟩
def plF (f : Nat → Option Nat) (n a : Nat) : Nat → Option Nat := fun i => if i < n then f i else if i = n then some a else none
theorem plF_eq {f : Nat → Option Nat} {n a : Nat} : va_up (va_cpy f (fun _ => none) 0 0 n) n (some a) = plF f n a := by
  funext i
  unfold plF va_up
  by_cases c : i < n
  · rw [if_pos c, if_neg (by omega), pk_cpy_in (Nat.zero_le _) (by omega)]
    congr 1
    omega
  · rw [if_neg c]
    by_cases c2 : i = n
    · rw [if_pos c2, if_pos c2]
    · rw [if_neg c2, if_neg c2, pk_cpy_out (Or.inr (by omega))]
theorem set_last {ws : va_W} {x z : Nat × va_E} : (ws ++ [x]).set ws.length z = ws ++ [z] := by
  rw [List.set_append_right _ _ (Nat.le_refl _), Nat.sub_self]
  rfl
theorem get_last {ws : va_W} {x : Nat × va_E} : (ws ++ [x])[ws.length]? = some x := by
  rw [List.getElem?_append_right (Nat.le_refl _), Nat.sub_self]
  rfl
theorem get_first {ws : va_W} {x z : Nat × va_E} {k : Nat} (h : ws[k]? = some z) : (ws ++ [x])[k]? = some z := by
  rw [List.getElem?_append_left (List.getElem?_eq_some_iff.mp h).1]
  exact h

set_option maxHeartbeats 4000000 in
set_option maxRecDepth 100000 in
theorem kX9_plus (l : Launch) (D : va_G) (sz aA aM n kM q1 q2 : Nat) (cI cO : ClassId) (ws : va_W) (f : Nat → Option Nat) (fv : Nat → Int32) (h1 : ws[q1]? = some (aA, .inl (cO, n, .inr (.inr (.inr (.inr f)))))) (h2 : ws[q2]? = some (aM, .inl (cI, kM, .inl fv))) (hf : ∀ i, i < n → ∀ a, f i = some a → ∃ (j k : Nat) (ff : Nat → Int32), ws[j]? = some (a, .inl (cI, k, .inl ff))) (hn : n ≤ 40) : Met l yX9_plus wsX9_plus ({ frames := 1, cells := 1, slots := 41, locals := 60 } : Room) (p_P D (tY_T cI cO) ws [.ref aA, .ref aM] sz) (va_Qr (fun (_ : Unit) => True) (fun _ q t => g_B D (tY_T cI cO) (va_A ws sz) (ws ++ [(q, .inl (cO, n + 1, .inr (.inr (.inr (.inr (plF f n aM))))))]) t) (va_A ws sz)) 1 41 (va_A ws sz) := by
  refine Met.ofW (cc := cX9_plus) (maxL := 3) (ret := (some (.array (.array .int)))) (by decide) rfl ?_
  intro p e s m args below meth c9 s₁ B hml hv
  obtain ⟨rfl, hAO, hsz, hP, hK, hD0⟩ := hv
  have hx := B.exec
  have hb := B.bytes
  have hr := B.returns
  have hts := atoms_spec (ws := wsX9_plus) B.pre
  have hown : s.vm.findClass RX9 = some m.cls := findClass_of_methodNamed B.named
  have hlocks := B.notSynchronized
  subst hsz
  have hD := hD0.self (sz := s.heap.size)
  generalize hAe : va_A ws s.heap.size = A at hD ⊢
  have hA : ∀ q : Nat, s.heap.size ≤ q → A q := fun q h => by rw [← hAe]; exact Or.inr h
  have hS : va_S A s.heap s.heap [] := va_S.rf
  have hl := lv_entry ([.ref aA, .ref aM]) (n := 3) (Nat.le_of_ble_eq_true rfl)
  rw [lg_entry_eq]
  generalize (lg_sl ([.ref aA, .ref aM]) ++ List.replicate (3 - (lg_sl ([.ref aA, .ref aM])).length) Slot.unset).toArray = ls at hl ⊢
  have hl : lv_has ls 3 [(0, .ref aA), (1, .ref aM)] := hl
  have el : ∀ n : Nat, n < 2 ^ 20 → (nI n).toNatClampNeg = n := fun n h => nI_clamp (by omega)
  obtain ⟨-, kI, hkI, -⟩ := (hK.2 0 _ rfl).1 0 (fun _ => .null)
  have hkI : s.vm.classes[cI]? = some kI := hkI
  refine lv_aload_n hx hb dX9_plus_0 rfl (lv_at hl 0 rfl) ?_
  refine va_alen hx hb hK hP q1 1 h1 rfl (v := nI n) rfl dX9_plus_1 ?_
  refine lv_iconst (v := 1) hx hb dX9_plus_2 (by decide) ?_
  refine lv_iadd hx hb dX9_plus_3 ?_
  rw [nI_1]
  refine m_anew (ty := .int) hx hb hown (hts (.classLink RX9 23 "[I") (List.mem_of_getElem? (i := 1) rfl)) hAO hK hP hD hS hA (n := nI (n + 1)) (N' := n + 1) (nI_pos (by omega)) (el _ (by omega)) (by omega) (by show 0 + 1 ≤ 1; omega) (by show 0 + (n + 1) ≤ 41; omega) dX9_plus_4 (fun q cA kA comp H k1 k2 k3 hK1 hP hD hS => ?_)
  have hcomp : comp = cI := Option.some.inj (k3.symm.trans (hK.2 0 _ rfl).2)
  rw [hcomp] at k2
  have hcA : cA = cO := Option.some.inj ((hK1.2 2 _ rfl).2.symm.trans (hK1.2 1 _ rfl).2)
  rw [hcA] at k1 hP hD
  refine lv_astore_n (lv' := [(2, .ref q), (0, .ref aA), (1, .ref aM)]) hx hb dX9_plus_7 rfl hl (by decide) rfl (fun ls hl => ?_)
  refine lv_aload_n hx hb dX9_plus_8 rfl (lv_at hl 1 rfl) ?_
  refine lv_iconst (v := 0) hx hb dX9_plus_9 (by decide) ?_
  refine lv_aload_n hx hb dX9_plus_10 rfl (lv_at hl 0 rfl) ?_
  refine lv_iconst (v := 0) hx hb dX9_plus_11 (by decide) ?_
  refine lv_aload_n hx hb dX9_plus_12 rfl (lv_at hl 1 rfl) ?_
  refine va_alen hx hb hK hP q1 1 (get_first h1) rfl (v := nI n) rfl dX9_plus_13 ?_
  refine m_acopy hx hb (hml.trans hl.1.symm) hown (hts (.methodLink RX9 51 arraycopyName) (List.mem_of_getElem? (i := 2) rfl)) (hts (.native arraycopyName) (List.mem_of_getElem? (i := 3) rfl)) (hts (.static arraycopyName) (List.mem_of_getElem? (i := 4) rfl)) (hts (.initialized "java/lang/System") (List.mem_of_getElem? (i := 5) rfl)) hK hP hD hS q1 ws.length 1 1 (get_first h1) get_last rfl rfl k1 k2 hkI (n := nI n) (nI_pos (by omega)) (by rw [el _ (by omega)]; exact Nat.le_refl _) (by rw [el _ (by omega)]; omega) (fun i hi a ha => ?_) (Nat.le_of_ble_eq_true rfl) (Nat.le_of_ble_eq_true rfl) dX9_plus_14 (fun H locs hP hD hS => ?_)
  · rw [el _ (by omega)] at hi
    obtain ⟨j, k, ff, hj⟩ := hf i hi a ha
    exact ⟨_, hP j _ (get_first hj), rfl, rfl⟩
  rw [set_last, el _ (by omega)] at hP hD
  refine lv_aload_n hx hb dX9_plus_17 rfl (lv_at hl 0 rfl) ?_
  refine lv_aload_n hx hb dX9_plus_18 rfl (lv_at hl 1 rfl) ?_
  refine va_alen hx hb hK hP q1 1 (get_first h1) rfl (v := nI n) rfl dX9_plus_19 ?_
  refine lv_aload_n hx hb dX9_plus_20 rfl (lv_at hl 2 rfl) ?_
  refine m_aast hx hb hK hP hD hS ws.length q2 0 get_last k1 k2 (get_first h2) rfl (i := nI n) (fun z => by rcases z with z | z; exact nI_pos (by omega) z; rw [el _ (by omega)] at z; omega) dX9_plus_21 (fun H locs hP hD hS => ?_)
  rw [set_last, el _ (by omega), plF_eq] at hP hD
  refine lv_aload_n hx hb dX9_plus_22 rfl (lv_at hl 0 rfl) ?_
  refine W.widen (k := 1) (n := 41) (by decide) (by omega) ?_
  exact W.aret hx hb hr (Or.inr ⟨_, rfl⟩) (Or.inr ⟨_, rfl⟩) (fun t ht hW => ⟨⟨(), q, rfl, trivial, by rw [ht]; exact hP, va_K.moved hW.alike hK, hD⟩, hS.F ht⟩) hS.2.2 dX9_plus_23 hlocks
