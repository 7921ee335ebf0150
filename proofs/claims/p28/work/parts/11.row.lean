/-! Row: what its methods answer and leave -/
def rw_at (n : Nat) (f : Nat → Int32) (i : Int32) : Int32 := if i < 0 then 0 else if nI n ≤ i then 0 else f i.toNatClampNeg
def rw_put (n : Nat) (f : Nat → Int32) (i x : Int32) : Nat → Int32 := if i < 0 then f else if nI n ≤ i then f else upd f i.toNatClampNeg x
def rw_add (n : Nat) (f : Nat → Int32) (i x : Int32) : Nat → Int32 := if i < 0 then f else if nI n ≤ i then f else upd f i.toNatClampNeg (f i.toNatClampNeg + x)
/-- the first i places filled -/
def rw_fill (f : Nat → Int32) (i : Nat) (x : Int32) : Nat → Int32 := fun k => if k < i then x else f k
def rw_sum (f : Nat → Int32) : Nat → Int32
  | 0 => 0
  | k + 1 => rw_sum f k + f k
theorem vp_in_lt {x : Int32} {n : Nat} (h0 : ¬ x < 0) (h : ¬ nI n ≤ x) (hn : n < 2147483648) : vp_in x n := by
  rw [vp_in_iff]
  rw [Int32.lt_iff_toInt_lt] at h0
  rw [Int32.le_iff_toInt_le, nI_toInt (by omega)] at h
  have z : (0 : Int32).toInt = 0 := by decide
  rw [z] at h0
  omega
theorem set_same {ws : va_W} {k : Nat} {x : Nat × va_E} (h : ws[k]? = some x) : ws.set k x = ws := by
  obtain ⟨hk, rfl⟩ := List.getElem?_eq_some_iff.mp h
  exact List.set_getElem_self hk
theorem set_set {ws : va_W} {k : Nat} {x y : Nat × va_E} : (ws.set k x).set k y = ws.set k y := by rw [List.set_set]
theorem set_at {ws : va_W} {k : Nat} {x y : Nat × va_E} (h : ws[k]? = some x) : (ws.set k y)[k]? = some y := by
  obtain ⟨hk, rfl⟩ := List.getElem?_eq_some_iff.mp h
  rw [List.getElem?_set_self hk]
theorem set_ne {ws : va_W} {k j : Nat} {x y : Nat × va_E} (h : ws[j]? = some x) (n : k ≠ j) : (ws.set k y)[j]? = some x := by
  rw [List.getElem?_set_ne n]; exact h
theorem fl_s {f : Nat → Int32} {i : Nat} {x : Int32} : upd (rw_fill f i x) i x = rw_fill f (i + 1) x := by
  funext k
  unfold rw_fill upd
  by_cases h : k = i
  · subst h; simp
  · by_cases h2 : k < i
    · simp [h, h2, Nat.lt_succ_of_lt h2]
    · simp [h, h2, show ¬ k < i + 1 by omega]
theorem fa_lt_le {x : Int32} (h : x < 0) : x ≤ 0 := by
  rw [Int32.lt_iff_toInt_lt] at h
  rw [Int32.le_iff_toInt_le]
  omega
theorem fl_0 {f : Nat → Int32} {x : Int32} : rw_fill f 0 x = f := by funext k; simp [rw_fill]
set_option maxHeartbeats 4000000 in
set_option maxRecDepth 100000 in
theorem c_Row_at (l : Launch) (D : va_G) (tys : List (ClassId × FieldType)) (ws : va_W) (sz k kk t0 r ca n : Nat) (cI : ClassId) (f : Nat → Int32) (i : Int32) (hk : ws[k]? = some (r, .inr (5, [.ref ca]))) (hkk : ws[kk]? = some (ca, .inl (cI, n, .inl f))) (ht : tys[t0]? = some (cI, .int)) (hn : n < 2147483648) : Met l yX5_at wsX5_at ({ frames := 0, cells := 0, slots := 0, locals := 0 } : Room) (g_P D tys ws [.ref r, .int i] sz) (g_Qi D tys (va_A ws sz) ws (rw_at n f i)) 0 0 (va_A ws sz) := by
  refine Met.ofW (cc := cX5_at) (maxL := 2) (ret := (some .int)) (by decide) rfl ?_
  intro p e s m args below meth c9 s₁ B hml hv
  obtain ⟨rfl, hsz, hP, hK, hD0⟩ := hv
  have hx := B.exec
  have hb := B.bytes
  have hr := B.returns
  have hts := atoms_spec (ws := wsX5_at) B.pre
  have hown : s.vm.findClass RX5 = some m.cls := findClass_of_methodNamed B.named
  have hlocks := B.notSynchronized
  subst hsz
  have hD := hD0.self (sz := s.heap.size)
  generalize hAe : va_A ws s.heap.size = A at hD ⊢
  have hA : ∀ q : Nat, s.heap.size ≤ q → A q := fun q h => by rw [← hAe]; exact Or.inr h
  have hS : va_S A s.heap s.heap [] := va_S.rf
  have hl := lv_entry ([.ref r, .int i]) (n := 2) (Nat.le_of_ble_eq_true rfl)
  rw [lg_entry_eq]
  generalize (lg_sl ([.ref r, .int i]) ++ List.replicate (2 - (lg_sl ([.ref r, .int i])).length) Slot.unset).toArray = ls at hl ⊢
  have hl : lv_has ls 2 [(0, .ref r), (1, .int i)] := hl
  have win : ∀ w ∈ u_ws RX5 TX5 1, w ∈ wsX5_at := by decide +kernel
  refine lv_iload_n hx hb dX5_at_0 rfl (lv_at hl 1 rfl) ?_
  refine lv_if_lt (tgt := 22) hx hb dX5_at_1 (by decide) (fun c_1 => ?_) (fun c_1 => ?_)
  · refine lv_iconst (v := 0) hx hb dX5_at_22 (by decide) ?_
    exact g_iret hx hb hr rfl hlocks hK hP hD hS (by unfold rw_at; rw [if_pos c_1]) dX5_at_23
  · refine lv_iload_n hx hb dX5_at_4 rfl (lv_at hl 1 rfl) ?_
    refine lv_aload_n hx hb dX5_at_5 rfl (lv_at hl 0 rfl) ?_
    refine va_get (D := D) (ci := 5) (v := .ref ca) (C := RX5) (T := TX5) (N := 1) hx hb hts win hown hK hP k hk rfl 0 (by decide) (hts (.fieldLink RX5 7 "TapCap$Row" "cells" "[I") (List.mem_of_getElem? (i := 1) rfl)) (fun _ h9 => h9) rfl dX5_at_6 ?_
    refine va_alen (v := nI n) hx hb hK hP kk t0 hkk ht rfl dX5_at_9 ?_
    refine lv_icmp_ge (tgt := 22) hx hb dX5_at_10 (by decide) (fun c_2 => ?_) (fun c_2 => ?_)
    · refine lv_iconst (v := 0) hx hb dX5_at_22 (by decide) ?_
      exact g_iret hx hb hr rfl hlocks hK hP hD hS (by unfold rw_at; rw [if_neg c_1, if_pos c_2]) dX5_at_23
    · refine lv_aload_n hx hb dX5_at_13 rfl (lv_at hl 0 rfl) ?_
      refine va_get (D := D) (ci := 5) (v := .ref ca) (C := RX5) (T := TX5) (N := 1) hx hb hts win hown hK hP k hk rfl 0 (by decide) (hts (.fieldLink RX5 7 "TapCap$Row" "cells" "[I") (List.mem_of_getElem? (i := 1) rfl)) (fun _ h9 => h9) rfl dX5_at_14 ?_
      refine lv_iload_n hx hb dX5_at_17 rfl (lv_at hl 1 rfl) ?_
      refine va_iald hx hb hK hP kk t0 hkk ht (vp_in_lt c_1 c_2 hn) dX5_at_18 ?_
      refine lv_goto (tgt := 23) hx hb dX5_at_19 (by decide) ?_
      exact g_iret hx hb hr rfl hlocks hK hP hD hS (by unfold rw_at; rw [if_neg c_1, if_neg c_2]) dX5_at_23
set_option maxHeartbeats 4000000 in
set_option maxRecDepth 100000 in
theorem c_Row_put (l : Launch) (D : va_G) (tys : List (ClassId × FieldType)) (ws : va_W) (sz k kk t0 r ca n : Nat) (cI : ClassId) (f : Nat → Int32) (i : Int32) (x : Int32) (hk : ws[k]? = some (r, .inr (5, [.ref ca]))) (hkk : ws[kk]? = some (ca, .inl (cI, n, .inl f))) (ht : tys[t0]? = some (cI, .int)) (hn : n < 2147483648) : Met l yX5_put wsX5_put ({ frames := 0, cells := 0, slots := 0, locals := 0 } : Room) (g_P D tys ws [.ref r, .int i, .int x] sz) (g_Qv D tys (va_A ws sz) (ws.set kk (ca, .inl (cI, n, .inl (rw_put n f i x))))) 0 0 (va_A ws sz) := by
  refine Met.ofW (cc := cX5_put) (maxL := 3) (ret := none) (by decide) rfl ?_
  intro p e s m args below meth c9 s₁ B hml hv
  obtain ⟨rfl, hsz, hP, hK, hD0⟩ := hv
  have hx := B.exec
  have hb := B.bytes
  have hr := B.returns
  have hts := atoms_spec (ws := wsX5_put) B.pre
  have hown : s.vm.findClass RX5 = some m.cls := findClass_of_methodNamed B.named
  have hlocks := B.notSynchronized
  subst hsz
  have hD := hD0.self (sz := s.heap.size)
  generalize hAe : va_A ws s.heap.size = A at hD ⊢
  have hA : ∀ q : Nat, s.heap.size ≤ q → A q := fun q h => by rw [← hAe]; exact Or.inr h
  have hS : va_S A s.heap s.heap [] := va_S.rf
  have hl := lv_entry ([.ref r, .int i, .int x]) (n := 3) (Nat.le_of_ble_eq_true rfl)
  rw [lg_entry_eq]
  generalize (lg_sl ([.ref r, .int i, .int x]) ++ List.replicate (3 - (lg_sl ([.ref r, .int i, .int x])).length) Slot.unset).toArray = ls at hl ⊢
  have hl : lv_has ls 3 [(0, .ref r), (1, .int i), (2, .int x)] := hl
  have win : ∀ w ∈ u_ws RX5 TX5 1, w ∈ wsX5_put := by decide +kernel
  refine lv_iload_n hx hb dX5_put_0 rfl (lv_at hl 1 rfl) ?_
  refine lv_if_lt (tgt := 20) hx hb dX5_put_1 (by decide) (fun c_3 => ?_) (fun c_3 => ?_)
  · have hw : ws.set kk (ca, .inl (cI, n, .inl (rw_put n f i x))) = ws := by rw [show rw_put n f i x = f by unfold rw_put; rw [if_pos c_3]]; exact set_same hkk
    rw [hw]
    exact g_vret hx hb hr hlocks hK hP hD hS dX5_put_20
  · refine lv_iload_n hx hb dX5_put_4 rfl (lv_at hl 1 rfl) ?_
    refine lv_aload_n hx hb dX5_put_5 rfl (lv_at hl 0 rfl) ?_
    refine va_get (D := D) (ci := 5) (v := .ref ca) (C := RX5) (T := TX5) (N := 1) hx hb hts win hown hK hP k hk rfl 0 (by decide) (hts (.fieldLink RX5 7 "TapCap$Row" "cells" "[I") (List.mem_of_getElem? (i := 1) rfl)) (fun _ h9 => h9) rfl dX5_put_6 ?_
    refine va_alen (v := nI n) hx hb hK hP kk t0 hkk ht rfl dX5_put_9 ?_
    refine lv_icmp_ge (tgt := 20) hx hb dX5_put_10 (by decide) (fun c_4 => ?_) (fun c_4 => ?_)
    · have hw : ws.set kk (ca, .inl (cI, n, .inl (rw_put n f i x))) = ws := by rw [show rw_put n f i x = f by unfold rw_put; rw [if_neg c_3, if_pos c_4]]; exact set_same hkk
      rw [hw]
      exact g_vret hx hb hr hlocks hK hP hD hS dX5_put_20
    · refine lv_aload_n hx hb dX5_put_13 rfl (lv_at hl 0 rfl) ?_
      refine va_get (D := D) (ci := 5) (v := .ref ca) (C := RX5) (T := TX5) (N := 1) hx hb hts win hown hK hP k hk rfl 0 (by decide) (hts (.fieldLink RX5 7 "TapCap$Row" "cells" "[I") (List.mem_of_getElem? (i := 1) rfl)) (fun _ h9 => h9) rfl dX5_put_14 ?_
      refine lv_iload_n hx hb dX5_put_17 rfl (lv_at hl 1 rfl) ?_
      refine lv_iload_n hx hb dX5_put_18 rfl (lv_at hl 2 rfl) ?_
      refine va_iast hx hb hK hP hD hS kk t0 hkk ht (vp_in_lt c_3 c_4 hn) dX5_put_19 (fun H locs hP hD hS => ?_)
      have hw : rw_put n f i x = upd f i.toNatClampNeg (x) := by unfold rw_put; rw [if_neg c_3, if_neg c_4]
      rw [hw]
      exact g_vret hx hb hr hlocks hK hP hD hS dX5_put_20
set_option maxHeartbeats 4000000 in
set_option maxRecDepth 100000 in
theorem c_Row_add (l : Launch) (D : va_G) (tys : List (ClassId × FieldType)) (ws : va_W) (sz k kk t0 r ca n : Nat) (cI : ClassId) (f : Nat → Int32) (i : Int32) (x : Int32) (hk : ws[k]? = some (r, .inr (5, [.ref ca]))) (hkk : ws[kk]? = some (ca, .inl (cI, n, .inl f))) (ht : tys[t0]? = some (cI, .int)) (hn : n < 2147483648) : Met l yX5_add wsX5_add ({ frames := 0, cells := 0, slots := 0, locals := 0 } : Room) (g_P D tys ws [.ref r, .int i, .int x] sz) (g_Qv D tys (va_A ws sz) (ws.set kk (ca, .inl (cI, n, .inl (rw_add n f i x))))) 0 0 (va_A ws sz) := by
  refine Met.ofW (cc := cX5_add) (maxL := 3) (ret := none) (by decide) rfl ?_
  intro p e s m args below meth c9 s₁ B hml hv
  obtain ⟨rfl, hsz, hP, hK, hD0⟩ := hv
  have hx := B.exec
  have hb := B.bytes
  have hr := B.returns
  have hts := atoms_spec (ws := wsX5_add) B.pre
  have hown : s.vm.findClass RX5 = some m.cls := findClass_of_methodNamed B.named
  have hlocks := B.notSynchronized
  subst hsz
  have hD := hD0.self (sz := s.heap.size)
  generalize hAe : va_A ws s.heap.size = A at hD ⊢
  have hA : ∀ q : Nat, s.heap.size ≤ q → A q := fun q h => by rw [← hAe]; exact Or.inr h
  have hS : va_S A s.heap s.heap [] := va_S.rf
  have hl := lv_entry ([.ref r, .int i, .int x]) (n := 3) (Nat.le_of_ble_eq_true rfl)
  rw [lg_entry_eq]
  generalize (lg_sl ([.ref r, .int i, .int x]) ++ List.replicate (3 - (lg_sl ([.ref r, .int i, .int x])).length) Slot.unset).toArray = ls at hl ⊢
  have hl : lv_has ls 3 [(0, .ref r), (1, .int i), (2, .int x)] := hl
  have win : ∀ w ∈ u_ws RX5 TX5 1, w ∈ wsX5_add := by decide +kernel
  refine lv_iload_n hx hb dX5_add_0 rfl (lv_at hl 1 rfl) ?_
  refine lv_if_lt (tgt := 23) hx hb dX5_add_1 (by decide) (fun c_5 => ?_) (fun c_5 => ?_)
  · have hw : ws.set kk (ca, .inl (cI, n, .inl (rw_add n f i x))) = ws := by rw [show rw_add n f i x = f by unfold rw_add; rw [if_pos c_5]]; exact set_same hkk
    rw [hw]
    exact g_vret hx hb hr hlocks hK hP hD hS dX5_add_23
  · refine lv_iload_n hx hb dX5_add_4 rfl (lv_at hl 1 rfl) ?_
    refine lv_aload_n hx hb dX5_add_5 rfl (lv_at hl 0 rfl) ?_
    refine va_get (D := D) (ci := 5) (v := .ref ca) (C := RX5) (T := TX5) (N := 1) hx hb hts win hown hK hP k hk rfl 0 (by decide) (hts (.fieldLink RX5 7 "TapCap$Row" "cells" "[I") (List.mem_of_getElem? (i := 1) rfl)) (fun _ h9 => h9) rfl dX5_add_6 ?_
    refine va_alen (v := nI n) hx hb hK hP kk t0 hkk ht rfl dX5_add_9 ?_
    refine lv_icmp_ge (tgt := 23) hx hb dX5_add_10 (by decide) (fun c_6 => ?_) (fun c_6 => ?_)
    · have hw : ws.set kk (ca, .inl (cI, n, .inl (rw_add n f i x))) = ws := by rw [show rw_add n f i x = f by unfold rw_add; rw [if_neg c_5, if_pos c_6]]; exact set_same hkk
      rw [hw]
      exact g_vret hx hb hr hlocks hK hP hD hS dX5_add_23
    · refine lv_aload_n hx hb dX5_add_13 rfl (lv_at hl 0 rfl) ?_
      refine va_get (D := D) (ci := 5) (v := .ref ca) (C := RX5) (T := TX5) (N := 1) hx hb hts win hown hK hP k hk rfl 0 (by decide) (hts (.fieldLink RX5 7 "TapCap$Row" "cells" "[I") (List.mem_of_getElem? (i := 1) rfl)) (fun _ h9 => h9) rfl dX5_add_14 ?_
      refine lv_iload_n hx hb dX5_add_17 rfl (lv_at hl 1 rfl) ?_
      refine lv_dup2_11 hx hb dX5_add_18 rfl rfl ?_
      refine va_iald hx hb hK hP kk t0 hkk ht (vp_in_lt c_5 c_6 hn) dX5_add_19 ?_
      refine lv_iload_n hx hb dX5_add_20 rfl (lv_at hl 2 rfl) ?_
      refine lv_iadd hx hb dX5_add_21 ?_
      refine va_iast hx hb hK hP hD hS kk t0 hkk ht (vp_in_lt c_5 c_6 hn) dX5_add_22 (fun H locs hP hD hS => ?_)
      have hw : rw_add n f i x = upd f i.toNatClampNeg (f i.toNatClampNeg + x) := by unfold rw_add; rw [if_neg c_5, if_neg c_6]
      rw [hw]
      exact g_vret hx hb hr hlocks hK hP hD hS dX5_add_23
set_option maxHeartbeats 4000000 in
set_option maxRecDepth 100000 in
theorem c_Row_fill (l : Launch) (D : va_G) (tys : List (ClassId × FieldType)) (ws : va_W) (sz k kk t0 r ca n : Nat) (cI : ClassId) (f : Nat → Int32) (x : Int32) (hk : ws[k]? = some (r, .inr (5, [.ref ca]))) (hkk : ws[kk]? = some (ca, .inl (cI, n, .inl f))) (ht : tys[t0]? = some (cI, .int)) (hn : n < 2147483648) : Met l yX5_fill wsX5_fill ({ frames := 0, cells := 0, slots := 0, locals := 0 } : Room) (g_P D tys ws [.ref r, .int x] sz) (g_Qv D tys (va_A ws sz) (ws.set kk (ca, .inl (cI, n, .inl (rw_fill f n x))))) 0 0 (va_A ws sz) := by
  refine Met.ofW (cc := cX5_fill) (maxL := 3) (ret := none) (by decide) rfl ?_
  intro p e s m args below meth c9 s₁ B hml hv
  obtain ⟨rfl, hsz, hP, hK, hD0⟩ := hv
  have hx := B.exec
  have hb := B.bytes
  have hr := B.returns
  have hts := atoms_spec (ws := wsX5_fill) B.pre
  have hown : s.vm.findClass RX5 = some m.cls := findClass_of_methodNamed B.named
  have hlocks := B.notSynchronized
  subst hsz
  have hD := hD0.self (sz := s.heap.size)
  generalize hAe : va_A ws s.heap.size = A at hD ⊢
  have hA : ∀ q : Nat, s.heap.size ≤ q → A q := fun q h => by rw [← hAe]; exact Or.inr h
  have hS : va_S A s.heap s.heap [] := va_S.rf
  have hl := lv_entry ([.ref r, .int x]) (n := 3) (Nat.le_of_ble_eq_true rfl)
  rw [lg_entry_eq]
  generalize (lg_sl ([.ref r, .int x]) ++ List.replicate (3 - (lg_sl ([.ref r, .int x])).length) Slot.unset).toArray = ls at hl ⊢
  have hl : lv_has ls 3 [(0, .ref r), (1, .int x)] := hl
  have win : ∀ w ∈ u_ws RX5 TX5 1, w ∈ wsX5_fill := by decide +kernel
  refine lv_iconst (v := 0) hx hb dX5_fill_0 (by decide) ?_
  refine lv_istore_n (lv' := [(2, .int 0), (0, .ref r), (1, .int x)]) hx hb dX5_fill_1 rfl hl (by decide) rfl (fun ls hl => ?_)
  have loop : ∀ (q j : Nat), q + j = n → ∀ (H : Heap) (locs : List Loc), va_P D vwCl (ws.set kk (ca, .inl (cI, n, .inl (rw_fill f j x)))) H → va_D A (ws.set kk (ca, .inl (cI, n, .inl (rw_fill f j x)))) → va_S A s.heap H locs → ∀ (ls : Array Slot), lv_has ls 3 [(2, .int (nI j)), (0, .ref r), (1, .int x)] → W p l e (headSpec wsX5_fill ({ frames := 0, cells := 0, slots := 0, locals := 0 } : Room)).room s m ([.ref r, .int x] : List Value).toArray below meth c9 H locs 0 0 (MQ below (g_Qv D tys A (ws.set kk (ca, .inl (cI, n, .inl (rw_fill f n x))))) ([.ref r, .int x] : List Value).toArray s 0 0 A) (F0 m 2 ls []) := by
    intro q
    induction q with
    | zero =>
      intro j hj H locs hP hD hS ls hl
      have hk : (ws.set kk (ca, .inl (cI, n, .inl (rw_fill f j x))))[k]? = some (r, .inr (5, [.ref ca])) := set_ne hk (by rintro rfl; rw [hk] at hkk; cases hkk)
      have hkk : (ws.set kk (ca, .inl (cI, n, .inl (rw_fill f j x))))[kk]? = some (ca, .inl (cI, n, .inl (rw_fill f j x))) := set_at hkk
      refine lv_iload_n hx hb dX5_fill_2 rfl (lv_at hl 0 rfl) ?_
      refine lv_aload_n hx hb dX5_fill_3 rfl (lv_at hl 1 rfl) ?_
      refine va_get (D := D) (ci := 5) (v := .ref ca) (C := RX5) (T := TX5) (N := 1) hx hb hts win hown hK hP k hk rfl 0 (by decide) (hts (.fieldLink RX5 7 "TapCap$Row" "cells" "[I") (List.mem_of_getElem? (i := 1) rfl)) (fun _ h9 => h9) rfl dX5_fill_4 ?_
      refine va_alen (v := nI n) hx hb hK hP kk t0 hkk ht rfl dX5_fill_7 ?_
      refine lv_icmp_ge (tgt := 24) hx hb dX5_fill_8 (by decide) (fun c_7 => ?_) (fun c_7 => ?_)
      · have hj : j = n := by omega
        subst hj
        exact g_vret hx hb hr hlocks hK hP hD hS dX5_fill_24
      · exact absurd ((nI_leI hn (by omega)).mpr (by omega)) c_7
    | succ q ih =>
      intro j hj H locs hP hD hS ls hl
      have hk : (ws.set kk (ca, .inl (cI, n, .inl (rw_fill f j x))))[k]? = some (r, .inr (5, [.ref ca])) := set_ne hk (by rintro rfl; rw [hk] at hkk; cases hkk)
      have hkk : (ws.set kk (ca, .inl (cI, n, .inl (rw_fill f j x))))[kk]? = some (ca, .inl (cI, n, .inl (rw_fill f j x))) := set_at hkk
      refine lv_iload_n hx hb dX5_fill_2 rfl (lv_at hl 0 rfl) ?_
      refine lv_aload_n hx hb dX5_fill_3 rfl (lv_at hl 1 rfl) ?_
      refine va_get (D := D) (ci := 5) (v := .ref ca) (C := RX5) (T := TX5) (N := 1) hx hb hts win hown hK hP k hk rfl 0 (by decide) (hts (.fieldLink RX5 7 "TapCap$Row" "cells" "[I") (List.mem_of_getElem? (i := 1) rfl)) (fun _ h9 => h9) rfl dX5_fill_4 ?_
      refine va_alen (v := nI n) hx hb hK hP kk t0 hkk ht rfl dX5_fill_7 ?_
      refine lv_icmp_ge (tgt := 24) hx hb dX5_fill_8 (by decide) (fun c_8 => ?_) (fun c_8 => ?_)
      · exact absurd ((nI_leI hn (by omega)).mp c_8) (by omega)
      · refine lv_aload_n hx hb dX5_fill_11 rfl (lv_at hl 1 rfl) ?_
        refine va_get (D := D) (ci := 5) (v := .ref ca) (C := RX5) (T := TX5) (N := 1) hx hb hts win hown hK hP k hk rfl 0 (by decide) (hts (.fieldLink RX5 7 "TapCap$Row" "cells" "[I") (List.mem_of_getElem? (i := 1) rfl)) (fun _ h9 => h9) rfl dX5_fill_12 ?_
        refine lv_iload_n hx hb dX5_fill_15 rfl (lv_at hl 0 rfl) ?_
        refine lv_iload_n hx hb dX5_fill_16 rfl (lv_at hl 2 rfl) ?_
        refine va_iast hx hb hK hP hD hS kk t0 hkk ht (vp_in_nI (by omega) (by omega)) dX5_fill_17 (fun H locs hP hD hS => ?_)
        refine lv_iinc (v := (nI j) + 1) (lv' := [(2, .int ((nI j) + 1)), (0, .ref r), (1, .int x)]) hx hb dX5_fill_18 hl (k := 0) rfl rfl (by decide) rfl (fun ls hl => ?_)
        refine lv_goto (tgt := 2) hx hb dX5_fill_21 (by decide) ?_
        rw [set_set, nI_clamp (show j < 2 ^ 31 by omega), fl_s] at hP hD
        refine ih (j + 1) (by omega) H locs hP hD hS ls ?_
        rw [← nI_1]
        exact hl
  exact loop n 0 (by omega) _ _ (by rw [fl_0, set_same hkk]; exact hP) (by rw [fl_0, set_same hkk]; exact hD) hS ls hl
set_option maxHeartbeats 4000000 in
set_option maxRecDepth 100000 in
theorem c_Row_sum (l : Launch) (D : va_G) (tys : List (ClassId × FieldType)) (ws : va_W) (sz k kk t0 r ca n : Nat) (cI : ClassId) (f : Nat → Int32) (hk : ws[k]? = some (r, .inr (5, [.ref ca]))) (hkk : ws[kk]? = some (ca, .inl (cI, n, .inl f))) (ht : tys[t0]? = some (cI, .int)) (hn : n < 2147483648) : Met l yX5_sum wsX5_sum ({ frames := 0, cells := 0, slots := 0, locals := 0 } : Room) (g_P D tys ws [.ref r] sz) (g_Qi D tys (va_A ws sz) ws (rw_sum f n)) 0 0 (va_A ws sz) := by
  refine Met.ofW (cc := cX5_sum) (maxL := 3) (ret := (some .int)) (by decide) rfl ?_
  intro p e s m args below meth c9 s₁ B hml hv
  obtain ⟨rfl, hsz, hP, hK, hD0⟩ := hv
  have hx := B.exec
  have hb := B.bytes
  have hr := B.returns
  have hts := atoms_spec (ws := wsX5_sum) B.pre
  have hown : s.vm.findClass RX5 = some m.cls := findClass_of_methodNamed B.named
  have hlocks := B.notSynchronized
  subst hsz
  have hD := hD0.self (sz := s.heap.size)
  generalize hAe : va_A ws s.heap.size = A at hD ⊢
  have hA : ∀ q : Nat, s.heap.size ≤ q → A q := fun q h => by rw [← hAe]; exact Or.inr h
  have hS : va_S A s.heap s.heap [] := va_S.rf
  have hl := lv_entry ([.ref r]) (n := 3) (Nat.le_of_ble_eq_true rfl)
  rw [lg_entry_eq]
  generalize (lg_sl ([.ref r]) ++ List.replicate (3 - (lg_sl ([.ref r])).length) Slot.unset).toArray = ls at hl ⊢
  have hl : lv_has ls 3 [(0, .ref r)] := hl
  have win : ∀ w ∈ u_ws RX5 TX5 1, w ∈ wsX5_sum := by decide +kernel
  refine lv_iconst (v := 0) hx hb dX5_sum_0 (by decide) ?_
  refine lv_istore_n (lv' := [(1, .int 0), (0, .ref r)]) hx hb dX5_sum_1 rfl hl (by decide) rfl (fun ls hl => ?_)
  refine lv_iconst (v := 0) hx hb dX5_sum_2 (by decide) ?_
  refine lv_istore_n (lv' := [(2, .int 0), (1, .int 0), (0, .ref r)]) hx hb dX5_sum_3 rfl hl (by decide) rfl (fun ls hl => ?_)
  have loop : ∀ (q j : Nat), q + j = n → ∀ (ls : Array Slot), lv_has ls 3 [(2, .int (nI j)), (1, .int (rw_sum f j)), (0, .ref r)] → W p l e (headSpec wsX5_sum ({ frames := 0, cells := 0, slots := 0, locals := 0 } : Room)).room s m ([.ref r] : List Value).toArray below meth c9 s.heap [] 0 0 (MQ below (g_Qi D tys A ws (rw_sum f n)) ([.ref r] : List Value).toArray s 0 0 A) (F0 m 4 ls []) := by
    intro q
    induction q with
    | zero =>
      intro j hj ls hl
      refine lv_iload_n hx hb dX5_sum_4 rfl (lv_at hl 0 rfl) ?_
      refine lv_aload_n hx hb dX5_sum_5 rfl (lv_at hl 2 rfl) ?_
      refine va_get (D := D) (ci := 5) (v := .ref ca) (C := RX5) (T := TX5) (N := 1) hx hb hts win hown hK hP k hk rfl 0 (by decide) (hts (.fieldLink RX5 7 "TapCap$Row" "cells" "[I") (List.mem_of_getElem? (i := 1) rfl)) (fun _ h9 => h9) rfl dX5_sum_6 ?_
      refine va_alen (v := nI n) hx hb hK hP kk t0 hkk ht rfl dX5_sum_9 ?_
      refine lv_icmp_ge (tgt := 28) hx hb dX5_sum_10 (by decide) (fun c_9 => ?_) (fun c_9 => ?_)
      · refine lv_iload_n hx hb dX5_sum_28 rfl (lv_at hl 1 rfl) ?_
        have hj : j = n := by omega
        subst hj
        exact g_iret hx hb hr rfl hlocks hK hP hD hS rfl dX5_sum_29
      · exact absurd ((nI_leI hn (by omega)).mpr (by omega)) c_9
    | succ q ih =>
      intro j hj ls hl
      refine lv_iload_n hx hb dX5_sum_4 rfl (lv_at hl 0 rfl) ?_
      refine lv_aload_n hx hb dX5_sum_5 rfl (lv_at hl 2 rfl) ?_
      refine va_get (D := D) (ci := 5) (v := .ref ca) (C := RX5) (T := TX5) (N := 1) hx hb hts win hown hK hP k hk rfl 0 (by decide) (hts (.fieldLink RX5 7 "TapCap$Row" "cells" "[I") (List.mem_of_getElem? (i := 1) rfl)) (fun _ h9 => h9) rfl dX5_sum_6 ?_
      refine va_alen (v := nI n) hx hb hK hP kk t0 hkk ht rfl dX5_sum_9 ?_
      refine lv_icmp_ge (tgt := 28) hx hb dX5_sum_10 (by decide) (fun c_10 => ?_) (fun c_10 => ?_)
      · exact absurd ((nI_leI hn (by omega)).mp c_10) (by omega)
      · refine lv_iload_n hx hb dX5_sum_13 rfl (lv_at hl 1 rfl) ?_
        refine lv_aload_n hx hb dX5_sum_14 rfl (lv_at hl 2 rfl) ?_
        refine va_get (D := D) (ci := 5) (v := .ref ca) (C := RX5) (T := TX5) (N := 1) hx hb hts win hown hK hP k hk rfl 0 (by decide) (hts (.fieldLink RX5 7 "TapCap$Row" "cells" "[I") (List.mem_of_getElem? (i := 1) rfl)) (fun _ h9 => h9) rfl dX5_sum_15 ?_
        refine lv_iload_n hx hb dX5_sum_18 rfl (lv_at hl 0 rfl) ?_
        refine va_iald hx hb hK hP kk t0 hkk ht (vp_in_nI (by omega) (by omega)) dX5_sum_19 ?_
        rw [nI_clamp (show j < 2 ^ 31 by omega)]
        refine lv_iadd hx hb dX5_sum_20 ?_
        refine lv_istore_n (lv' := [(1, .int ((rw_sum f j) + (f j))), (2, .int (nI j)), (0, .ref r)]) hx hb dX5_sum_21 rfl hl (by decide) rfl (fun ls hl => ?_)
        refine lv_iinc (v := (nI j) + 1) (lv' := [(2, .int ((nI j) + 1)), (1, .int ((rw_sum f j) + (f j))), (0, .ref r)]) hx hb dX5_sum_22 hl (k := 1) rfl rfl (by decide) rfl (fun ls hl => ?_)
        refine lv_goto (tgt := 4) hx hb dX5_sum_25 (by decide) ?_
        refine ih (j + 1) (by omega) ls ?_
        rw [← nI_1]
        exact hl
  exact loop n 0 (by omega) ls hl
set_option maxHeartbeats 4000000 in
set_option maxRecDepth 100000 in
theorem c_Row_init (l : Launch) (D : va_G) (sz r n : Nat) (cI : ClassId) (i : Int32) (hi : ¬ i ≤ 0) (hin : i.toNatClampNeg = n) (hn : n ≤ 1000) : Met l yX5_init wsX5_init ({ frames := 1, cells := 1, slots := n, locals := 12 } : Room) (g_P D [(cI, .int)] ([(r, .inr (5, [.null]))]) [.ref r, .int i] sz) (g_Qn D [(cI, .int)] (va_A ([(r, .inr (5, [.null]))]) sz) (fun u => [(r, .inr (5, [.ref (u 0)])), (u 0, .inl (cI, n, .inl (fun _ => 0)))])) 1 n (va_A ([(r, .inr (5, [.null]))]) sz) := by
  refine Met.ofW (cc := cX5_init) (maxL := 2) (ret := none) (by decide) rfl ?_
  intro p e s m args below meth c9 s₁ B hml hv
  obtain ⟨rfl, hsz, hP, hK, hD0⟩ := hv
  have hx := B.exec
  have hb := B.bytes
  have hr := B.returns
  have hts := atoms_spec (ws := wsX5_init) B.pre
  have hown : s.vm.findClass RX5 = some m.cls := findClass_of_methodNamed B.named
  have hlocks := B.notSynchronized
  subst hsz
  have hD := hD0.self (sz := s.heap.size)
  generalize hAe : va_A ([(r, .inr (5, [.null]))]) s.heap.size = A at hD ⊢
  have hA : ∀ q : Nat, s.heap.size ≤ q → A q := fun q h => by rw [← hAe]; exact Or.inr h
  have hS : va_S A s.heap s.heap [] := va_S.rf
  have hl := lv_entry ([.ref r, .int i]) (n := 2) (Nat.le_of_ble_eq_true rfl)
  rw [lg_entry_eq]
  generalize (lg_sl ([.ref r, .int i]) ++ List.replicate (2 - (lg_sl ([.ref r, .int i])).length) Slot.unset).toArray = ls at hl ⊢
  have hl : lv_has ls 2 [(0, .ref r), (1, .int i)] := hl
  have win : ∀ w ∈ u_ws RX5 TX5 1, w ∈ wsX5_init := by decide +kernel
  have hin9 : meth.name = "<init>" := (name_of_methodNamed B.named B.method).1
  refine lv_aload_n hx hb dX5_init_0 rfl (lv_at hl 0 rfl) ?_
  refine W.objInit hx hb hown (hts (.methodLink RX5 1 objectInit) (List.mem_of_getElem? (i := 1) rfl)) (hts (.instanceMethod objectInit) (List.mem_of_getElem? (i := 2) rfl)) (hts (.code objectInit ⟨#[0xb1]⟩ 1 none) (List.mem_of_getElem? (i := 3) rfl)) rfl (by rw [hml]; exact hl.1) rfl dX5_init_1 (Nat.le_of_ble_eq_true rfl) (Nat.le_of_ble_eq_true rfl) ?_
  refine W.eq (g2 := F0 m 4 ls []) rfl ?_
  refine lv_aload_n hx hb dX5_init_4 rfl (lv_at hl 0 rfl) ?_
  refine lv_iload_n hx hb dX5_init_5 rfl (lv_at hl 1 rfl) ?_
  refine lv_if_le (tgt := 13) hx hb dX5_init_6 (by decide) (fun c_11 => ?_) (fun c_11 => ?_)
  · exact absurd c_11 hi
  · refine lv_iload_n hx hb dX5_init_9 rfl (lv_at hl 1 rfl) ?_
    refine lv_goto (tgt := 14) hx hb dX5_init_10 (by decide) ?_
    refine va_newa (atype := .int) (a0 := (n, .inl (fun _ => 0))) hx hb (hts (.arrayClass .int) (List.mem_of_getElem? (i := 4) rfl)) rfl hK hP hD hS hA (fun cA => rfl) (fun h => hi (fa_lt_le h)) hin (by show n * 4 ≤ 536870912; omega) (by show 0 + 1 ≤ 1; omega) (by show 0 + n ≤ n; omega) dX5_init_14 (fun q cA H hK1 hP hD hS => ?_)
    have hcA : cA = cI := by
      have h0 := (hK1.2 0 _ rfl).2
      have h1 := (hK1.2 1 _ rfl).2
      exact Option.some.inj (h1.symm.trans h0)
    subst hcA
    refine va_putF (D := D) (ci := 5) (v := .ref q) (ty := .array .int) (C := RX5) (T := TX5) (N := 1) hx hb hts win tyX5 tyX5_ok nmX5 hown hK hP hD hS 0 rfl rfl 0 (by decide) (hts (.fieldLink RX5 7 "TapCap$Row" "cells" "[I") (List.mem_of_getElem? (i := 5) rfl)) (fun _ h9 => h9) rfl hin9 rfl (by decide +kernel) rfl rfl (Nat.le_of_ble_eq_true rfl) dX5_init_16 (fun H locs hP hD hS => ?_)
    refine W.widen (k := 1) (n := n) (by omega) (by omega) ?_
    exact g_nret (fun _ => q) rfl hx hb hr hlocks hK hP hD hS dX5_init_19
