/-! the law's small numbers, and its draws -/
def s_N (U : State) : Prop := va_Nw (.methodLinkNest RX9 41 yL_cell RL) U ∧ va_Nw (.methodLinkNest RX9 47 yL_below RL) U ∧ va_AOA .int U
theorem s_N.moved {s U : State} (h : s.WarmedH U.vm) (k : s_N s) : s_N U := ⟨k.1.warmM h, k.2.1.warmM h, va_AOA.of (over_moved (a := #[]) (a' := #[]) h.alike k.2.2)⟩
/-- a method that reads the script: it lies outside the world -/
abbrev s_P (D : va_G) (tys : List (ClassId × FieldType)) (ws : va_W) (av : List Value) (sz b L : Nat) (xs : Nat → Int32) : Array Value → State → Prop := va_Pc av (fun U => s_N U ∧ va_X b L xs U U.heap ∧ b < sz ∧ ¬ va_A ws sz b ∧ U.heap.size = sz ∧ va_P D vwCl ws U.heap ∧ va_K D vwCl tys U ∧ va_D (fun _ => True) ws)
def blV (x n : Int32) : Int32 := (x &&& 2147483647) - (x &&& 2147483647) / n * n
def ceV (xs : Nat → Int32) (L : Nat) (k : Nat) : Int32 := if nI L ≤ nI k then 790386105 * (nI k + 3) else xs k
def drV (xs : Nat → Int32) (L : Nat) (d : Nat) (n : Int32) : Int32 := blV ((ceV xs L (d % 24) >>> ((nI (d / 24 % 8)) &&& 31)) + 313 * nI d) n
theorem blV_lt (x : Int32) {n : Nat} (h0 : 0 < n) (hn : n < 2 ^ 31) : ∃ j, j < n ∧ blV x (nI n) = nI j := by
  obtain ⟨j, hj, e⟩ := pk_andE x (m := 2147483647) 31 (by decide)
  unfold blV
  rw [e]
  exact ⟨j % n, Nat.mod_lt _ h0, pk_rem hj h0 hn⟩
theorem drV_lt (xs : Nat → Int32) (L d : Nat) {n : Nat} (h0 : 0 < n) (hn : n < 2 ^ 31) : ∃ j, j < n ∧ drV xs L d (nI n) = nI j := blV_lt _ h0 hn

set_option maxHeartbeats 4000000 in
set_option maxRecDepth 100000 in
theorem kL_below (l : Launch) (D : va_G) (tys : List (ClassId × FieldType)) (ws : va_W) (sz : Nat) (x0 x1 : Int32) (h0 : ¬ x1 = 0) : Met l yL_below wsL_below ({ frames := 0, cells := 0, slots := 0, locals := 0 } : Room) (g_P D tys ws [.int x0, .int x1] sz) (g_Qi D tys (va_A ws sz) ws (blV x0 x1)) 0 0 (va_A ws sz) := by
  refine Met.ofW (cc := cL_below) (maxL := 2) (ret := (some .int)) (by decide) rfl ?_
  intro p e s m args below meth c9 s₁ B hml hv
  obtain ⟨rfl, hsz, hP, hK, hD0⟩ := hv
  have hx := B.exec
  have hb := B.bytes
  have hr := B.returns
  have hts := atoms_spec (ws := wsL_below) B.pre
  have hown : s.vm.findClass RL = some m.cls := findClass_of_methodNamed B.named
  have hlocks := B.notSynchronized
  subst hsz
  have hD := hD0.self (sz := s.heap.size)
  generalize hAe : va_A ws s.heap.size = A at hD ⊢
  have hA : ∀ q : Nat, s.heap.size ≤ q → A q := fun q h => by rw [← hAe]; exact Or.inr h
  have hS : va_S A s.heap s.heap [] := va_S.rf
  have hl := lv_entry ([.int x0, .int x1]) (n := 2) (Nat.le_of_ble_eq_true rfl)
  rw [lg_entry_eq]
  generalize (lg_sl ([.int x0, .int x1]) ++ List.replicate (2 - (lg_sl ([.int x0, .int x1])).length) Slot.unset).toArray = ls at hl ⊢
  have hl : lv_has ls 2 [(0, .int x0), (1, .int x1)] := hl
  refine lv_iload_n hx hb dL_below_0 rfl (lv_at hl 0 rfl) ?_
  refine lv_ldc hx hb hown (hts (.constant RL 7 (2147483647)) (List.mem_of_getElem? (i := 1) rfl)) dL_below_1 ?_
  refine lv_iand hx hb dL_below_3 ?_
  refine lv_iload_n hx hb dL_below_4 rfl (lv_at hl 1 rfl) ?_
  refine lv_irem hx hb dL_below_5 h0 ?_
  exact g_iret hx hb hr rfl hlocks hK hP hD hS rfl dL_below_6
set_option maxHeartbeats 4000000 in
set_option maxRecDepth 100000 in
theorem kL_cell (l : Launch) (D : va_G) (tys : List (ClassId × FieldType)) (ws : va_W) (sz b L : Nat) (xs : Nat → Int32) (k : Nat) (hk : k < 2 ^ 20) (hL : L < 2 ^ 20) : Met l yL_cell wsL_cell ({ frames := 0, cells := 0, slots := 0, locals := 0 } : Room) (s_P D tys ws [.ref b, .int ((nI k))] sz b L xs) (g_Qi D tys (va_A ws sz) ws (ceV xs L k)) 0 0 (va_A ws sz) := by
  refine Met.ofW (cc := cL_cell) (maxL := 2) (ret := (some .int)) (by decide) rfl ?_
  intro p e s m args below meth c9 s₁ B hml hv
  obtain ⟨rfl, hN, hX, hbl, hbA, hsz, hP, hK, hD0⟩ := hv
  have hx := B.exec
  have hb := B.bytes
  have hr := B.returns
  have hts := atoms_spec (ws := wsL_cell) B.pre
  have hown : s.vm.findClass RL = some m.cls := findClass_of_methodNamed B.named
  have hlocks := B.notSynchronized
  subst hsz
  have hD := hD0.self (sz := s.heap.size)
  generalize hAe : va_A ws s.heap.size = A at hD hbA ⊢
  have hA : ∀ q : Nat, s.heap.size ≤ q → A q := fun q h => by rw [← hAe]; exact Or.inr h
  have hS : va_S A s.heap s.heap [] := va_S.rf
  have hl := lv_entry ([.ref b, .int ((nI k))]) (n := 2) (Nat.le_of_ble_eq_true rfl)
  rw [lg_entry_eq]
  generalize (lg_sl ([.ref b, .int ((nI k))]) ++ List.replicate (2 - (lg_sl ([.ref b, .int ((nI k))])).length) Slot.unset).toArray = ls at hl ⊢
  have hl : lv_has ls 2 [(0, .ref b), (1, .int ((nI k)))] := hl
  refine lv_iload_n hx hb dL_cell_0 rfl (lv_at hl 1 rfl) ?_
  refine lv_aload_n hx hb dL_cell_1 rfl (lv_at hl 0 rfl) ?_
  refine va_slen hx hb hX hbl hbA hS dL_cell_2 ?_
  refine lv_icmp_ge (tgt := 12) hx hb dL_cell_3 (by decide) (fun c1 => ?_) (fun c1 => ?_)
  · refine lv_ldc hx hb hown (hts (.constant RL 8 (790386105)) (List.mem_of_getElem? (i := 1) rfl)) dL_cell_12 ?_
    refine lv_iload_n hx hb dL_cell_14 rfl (lv_at hl 1 rfl) ?_
    refine lv_iconst (v := 3) hx hb dL_cell_15 (by decide) ?_
    refine lv_iadd hx hb dL_cell_16 ?_
    refine lv_imul hx hb dL_cell_17 ?_
    exact g_iret hx hb hr rfl hlocks hK hP hD hS (show _ = ceV xs L k by unfold ceV; exact (if_pos c1).symm) dL_cell_18
  · refine lv_aload_n hx hb dL_cell_6 rfl (lv_at hl 0 rfl) ?_
    refine lv_iload_n hx hb dL_cell_7 rfl (lv_at hl 1 rfl) ?_
    have hkL : k < L := by
      have c2 : ¬ nI L ≤ nI k := c1
      rw [Int32.le_iff_toInt_le, nI_toInt (by omega), nI_toInt (by omega)] at c2
      omega
    have e9 : (nI k).toNatClampNeg = k := nI_clamp (by omega)
    refine va_sld hx hb hX hbl hbA hS (show vp_in (nI k) L from fun q => by rcases q with q | q; exact nI_pos (by omega) q; rw [e9] at q; omega) dL_cell_8 ?_
    rw [e9]
    refine lv_goto (tgt := 18) hx hb dL_cell_9 (by decide) ?_
    exact g_iret hx hb hr rfl hlocks hK hP hD hS (show _ = ceV xs L k by unfold ceV; exact (if_neg c1).symm) dL_cell_18
