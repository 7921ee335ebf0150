/-! the reference: helpers over any world that holds it at its place 0 -/
def fin (k a b : Int32) : Int32 := if k < a then 0 else if b < k then 0 else 1
theorem fin_no (x : Int32) : fin x 0 (0 - 1) = 0 := by
  unfold fin
  by_cases h : x < 0
  · rw [if_pos h]
  · rw [if_neg h, if_pos]
    rw [Int32.lt_iff_toInt_lt] at h ⊢
    have e : (0 : Int32).toInt = 0 := by decide
    have e2 : ((0 : Int32) - 1).toInt = -1 := by decide
    omega
abbrev m_Qi (D : va_G) (A : Nat → Prop) (h0 : Nat) (post : Int32 → Int32 → Prop) : Array Value → State → Outcome → State → Prop := va_Qi (fun r (u : List Value × Int32) => u.1[0]? = some (.int u.2) ∧ post r u.2) (fun u t => va_P D vwCl [(h0, .inr (9, u.1))] t.heap ∧ va_D A [(h0, .inr (9, u.1))]) A
abbrev m_Ql (D : va_G) (A : Nat → Prop) (h0 : Nat) (post : Int64 → Int32 → Prop) : Array Value → State → Outcome → State → Prop := va_Ql (fun r (u : List Value × Int32) => u.1[0]? = some (.int u.2) ∧ post r u.2) (fun u t => va_P D vwCl [(h0, .inr (9, u.1))] t.heap ∧ va_D A [(h0, .inr (9, u.1))]) A
abbrev m_Qd (D : va_G) (A : Nat → Prop) (h0 : Nat) (post : UInt64 → Int32 → Prop) : Array Value → State → Outcome → State → Prop := va_Qd (fun r (u : List Value × Int32) => u.1[0]? = some (.int u.2) ∧ post r u.2) (fun u t => va_P D vwCl [(h0, .inr (9, u.1))] t.heap ∧ va_D A [(h0, .inr (9, u.1))]) A
theorem m_keepP {D : va_G} {ws : va_W} {H : Heap} {x : Nat × va_E} (hP : va_P D vwCl ws H) (h : ws[0]? = some x) : va_P D vwCl [x] H := by
  intro k q hq
  have h0 : k < 1 := (List.getElem?_eq_some_iff.mp hq).1
  rw [show k = 0 by omega] at hq
  cases hq
  exact hP 0 _ h
theorem m_keepD {A : Nat → Prop} {ws : va_W} {x : Nat × va_E} (hD : va_D A ws) (h : ws[0]? = some x) : va_D A [x] := by
  refine ⟨fun i j p q hp hq _ => ?_, fun k q hq => ?_⟩
  · have h1 : i < 1 := (List.getElem?_eq_some_iff.mp hp).1
    have h2 : j < 1 := (List.getElem?_eq_some_iff.mp hq).1
    omega
  · have h0 : k < 1 := (List.getElem?_eq_some_iff.mp hq).1
    rw [show k = 0 by omega] at hq
    cases hq
    exact hD.2 0 _ h
section MR
variable {p : Program} {l : Launch} {e : Env} {R : Room} {s : State} {m : MethodId} {args : Array Value} {below : List Frame} {meth : Method} {c : Code} {H : Heap} {locs : List Loc} {cells slots : Nat} {Q : State → Prop}
variable {pc : Nat} {ls : Array Slot} {D : va_G} {ws : va_W} {A : Nat → Prop} {mc ms h0 : Nat} {cc : ByteArray}
theorem m_iret {ty : FieldType} {post : Int32 → Int32 → Prop} {v w : Int32} {fs : List Value} (h : ws[0]? = some (h0, .inr (9, fs))) (hw : fs[0]? = some (.int w)) (hpost : post v w) (hx : p.tables.exec = Jvm.exec) (hb : c.code = cc) (hr : meth.sig.returnType = some ty) (hn : narrow ty (.int v) = .int v) (hlocks : meth.locks = false) (hP : va_P D vwCl ws H) (hD : va_D A ws) (hS : va_S A s.heap H locs) (hdg : decode cc pc = .ok (.ireturn, 1)) (hc : cells ≤ mc) (hs : slots ≤ ms) :
    W p l e R s m args below meth c H locs cells slots (MQ below (m_Qi D A h0 post) args s mc ms A) (F0 m pc ls [.int v]) :=
  W.widen hc hs (W.zret hx hb hr hn (fun t ht hW => ⟨⟨v, (fs, w), rfl, ⟨hw, hpost⟩, by rw [ht]; exact m_keepP hP h, m_keepD hD h⟩, hS.F ht⟩) hS.2.2 hdg hlocks)
theorem m_lret {post : Int64 → Int32 → Prop} {v : Int64} {w : Int32} {fs : List Value} (h : ws[0]? = some (h0, .inr (9, fs))) (hw : fs[0]? = some (.int w)) (hpost : post v w) (hx : p.tables.exec = Jvm.exec) (hb : c.code = cc) (hr : meth.sig.returnType = some .long) (hlocks : meth.locks = false) (hP : va_P D vwCl ws H) (hD : va_D A ws) (hS : va_S A s.heap H locs) (hdg : decode cc pc = .ok (.lreturn, 1)) (hc : cells ≤ mc) (hs : slots ≤ ms) :
    W p l e R s m args below meth c H locs cells slots (MQ below (m_Ql D A h0 post) args s mc ms A) (F0 m pc ls [.long v]) :=
  W.widen hc hs (W.lret hx hb hr (fun t ht hW => ⟨⟨v, (fs, w), rfl, ⟨hw, hpost⟩, by rw [ht]; exact m_keepP hP h, m_keepD hD h⟩, hS.F ht⟩) hS.2.2 hdg hlocks)
theorem m_dret {post : UInt64 → Int32 → Prop} {v : UInt64} {w : Int32} {fs : List Value} (h : ws[0]? = some (h0, .inr (9, fs))) (hw : fs[0]? = some (.int w)) (hpost : post v w) (hx : p.tables.exec = Jvm.exec) (hb : c.code = cc) (hr : meth.sig.returnType = some .double) (hlocks : meth.locks = false) (hP : va_P D vwCl ws H) (hD : va_D A ws) (hS : va_S A s.heap H locs) (hdg : decode cc pc = .ok (.dreturn, 1)) (hc : cells ≤ mc) (hs : slots ≤ ms) :
    W p l e R s m args below meth c H locs cells slots (MQ below (m_Qd D A h0 post) args s mc ms A) (F0 m pc ls [.double v]) :=
  W.widen hc hs (W.dret hx hb hr (fun t ht hW => ⟨⟨v, (fs, w), rfl, ⟨hw, hpost⟩, by rw [ht]; exact m_keepP hP h, m_keepD hD h⟩, hS.F ht⟩) hS.2.2 hdg hlocks)
/-- as g_iret, with room to spare -/
theorem g_iretW {tys : List (ClassId × FieldType)} {ty : FieldType} {v x : Int32} (hx : p.tables.exec = Jvm.exec) (hb : c.code = cc) (hr : meth.sig.returnType = some ty) (hn : narrow ty (.int v) = .int v) (hlocks : meth.locks = false) (hK : va_K D vwCl tys s) (hP : va_P D vwCl ws H) (hD : va_D A ws) (hS : va_S A s.heap H locs) (hv : v = x) (hdg : decode cc pc = .ok (.ireturn, 1)) (hc : cells ≤ mc) (hs : slots ≤ ms) :
    W p l e R s m args below meth c H locs cells slots (MQ below (g_Qi D tys A ws x) args s mc ms A) (F0 m pc ls [.int v]) := W.widen hc hs (g_iret hx hb hr hn hlocks hK hP hD hS hv hdg)
end MR
set_option maxHeartbeats 4000000 in
set_option maxRecDepth 100000 in
theorem m_in (l : Launch) (D : va_G) (tys : List (ClassId × FieldType)) (ws : va_W) (sz : Nat) (k a b : Int32) : Met l yX9_in wsX9_in ({ frames := 0, cells := 0, slots := 0, locals := 0 } : Room) (g_P D tys ws [.int k, .int a, .int b] sz) (g_Qi D tys (va_A ws sz) ws (fin k a b)) 0 0 (va_A ws sz) := by
  refine Met.ofW (cc := cX9_in) (maxL := 3) (ret := (some .boolean)) (by decide) rfl ?_
  intro p e s m args below meth c9 s₁ B hml hv
  obtain ⟨rfl, hsz, hP, hK, hD0⟩ := hv
  have hx := B.exec
  have hb := B.bytes
  have hr := B.returns
  have hts := atoms_spec (ws := wsX9_in) B.pre
  have hown : s.vm.findClass RX9 = some m.cls := findClass_of_methodNamed B.named
  have hlocks := B.notSynchronized
  subst hsz
  have hD := hD0.self (sz := s.heap.size)
  generalize hAe : va_A ws s.heap.size = A at hD ⊢
  have hA : ∀ q : Nat, s.heap.size ≤ q → A q := fun q h => by rw [← hAe]; exact Or.inr h
  have hS : va_S A s.heap s.heap [] := va_S.rf
  have hl := lv_entry ([.int k, .int a, .int b]) (n := 3) (Nat.le_of_ble_eq_true rfl)
  rw [lg_entry_eq]
  generalize (lg_sl ([.int k, .int a, .int b]) ++ List.replicate (3 - (lg_sl ([.int k, .int a, .int b])).length) Slot.unset).toArray = ls at hl ⊢
  have hl : lv_has ls 3 [(0, .int k), (1, .int a), (2, .int b)] := hl
  refine lv_iload_n hx hb dX9_in_0 rfl (lv_at hl 0 rfl) ?_
  refine lv_iload_n hx hb dX9_in_1 rfl (lv_at hl 1 rfl) ?_
  refine lv_icmp_lt (tgt := 14) hx hb dX9_in_2 (by decide) (fun c_1 => ?_) (fun c_1 => ?_)
  · refine lv_iconst (v := 0) hx hb dX9_in_14 (by decide) ?_
    exact g_iret hx hb hr narrow_z0 hlocks hK hP hD hS (by unfold fin; rw [if_pos c_1]) dX9_in_15
  · refine lv_iload_n hx hb dX9_in_5 rfl (lv_at hl 0 rfl) ?_
    refine lv_iload_n hx hb dX9_in_6 rfl (lv_at hl 2 rfl) ?_
    refine lv_icmp_gt (tgt := 14) hx hb dX9_in_7 (by decide) (fun c_2 => ?_) (fun c_2 => ?_)
    · refine lv_iconst (v := 0) hx hb dX9_in_14 (by decide) ?_
      exact g_iret hx hb hr narrow_z0 hlocks hK hP hD hS (by unfold fin; rw [if_neg c_1, if_pos c_2]) dX9_in_15
    · refine lv_iconst (v := 1) hx hb dX9_in_10 (by decide) ?_
      refine lv_goto (tgt := 15) hx hb dX9_in_11 (by decide) ?_
      exact g_iret hx hb hr narrow_z1 hlocks hK hP hD hS (by unfold fin; rw [if_neg c_1, if_neg c_2]) dX9_in_15
theorem fin_z (k a b : Int32) : narrow .boolean (.int (fin k a b)) = .int (fin k a b) := by unfold fin; split; rfl; split <;> rfl
set_option maxHeartbeats 4000000 in
set_option maxRecDepth 100000 in
theorem m_isDay (l : Launch) (D : va_G) (tys : List (ClassId × FieldType)) (ws : va_W) (sz : Nat) (k : Int32) : Met l yX9_isDay wsX9_isDay ({ frames := 2, cells := 0, slots := 0, locals := 50 } : Room) (g_P D tys ws [.int k] sz) (g_Qi D tys (va_A ws sz) ws (fin k 0 27)) 0 0 (va_A ws sz) := by
  refine Met.ofW (cc := cX9_isDay) (maxL := 1) (ret := (some .boolean)) (by decide) rfl ?_
  intro p e s m args below meth c9 s₁ B hml hv
  obtain ⟨rfl, hsz, hP, hK, hD0⟩ := hv
  have hx := B.exec
  have hb := B.bytes
  have hr := B.returns
  have hts := atoms_spec (ws := wsX9_isDay) B.pre
  have hown : s.vm.findClass RX9 = some m.cls := findClass_of_methodNamed B.named
  have hlocks := B.notSynchronized
  subst hsz
  have hD := hD0.self (sz := s.heap.size)
  generalize hAe : va_A ws s.heap.size = A at hD ⊢
  have hA : ∀ q : Nat, s.heap.size ≤ q → A q := fun q h => by rw [← hAe]; exact Or.inr h
  have hS : va_S A s.heap s.heap [] := va_S.rf
  have hl := lv_entry ([.int k]) (n := 1) (Nat.le_of_ble_eq_true rfl)
  rw [lg_entry_eq]
  generalize (lg_sl ([.int k]) ++ List.replicate (1 - (lg_sl ([.int k])).length) Slot.unset).toArray = ls at hl ⊢
  have hl : lv_has ls 1 [(0, .int k)] := hl
  refine lv_iload_n hx hb dX9_isDay_0 rfl (lv_at hl 0 rfl) ?_
  refine lv_iconst (v := 0) hx hb dX9_isDay_1 (by decide) ?_
  refine lv_bipush (v := 27) hx hb dX9_isDay_2 (by decide) ?_
  refine g_ki hK hD hS hA (va_runS (As := [.int k, .int 0, .int 27]) (rest := []) ⟨hx, hb, hml, hown, hts⟩ (m_in l D tys ws s.heap.size k 0 27) (cwS 3 hts gX9_isDay_X9_in rfl rfl rfl (by decide +kernel) ⟨Nat.le_of_ble_eq_true rfl, Nat.le_of_ble_eq_true rfl⟩) (g_preS hK hP hD) rfl rfl hl.1 rfl (lv_room (Nat.le_of_ble_eq_true rfl)) dX9_isDay_4 ⟨Nat.le_of_ble_eq_true rfl, Nat.le_of_ble_eq_true rfl⟩) (fun H locs hP hD hS => ?_)
  exact g_iret hx hb hr (fin_z _ _ _) hlocks hK hP hD hS rfl dX9_isDay_7
set_option maxHeartbeats 4000000 in
set_option maxRecDepth 100000 in
theorem m_no (l : Launch) (D : va_G) (tys : List (ClassId × FieldType)) (ws : va_W) (sz : Nat) (h0 : Nat) (fs : List Value) (w : Int32) (hk : ws[0]? = some (h0, .inr (9, fs))) (hlen : 0 < fs.length) : Met l yX9_no wsX9_no ({ frames := 0, cells := 0, slots := 0, locals := 0 } : Room) (g_P D tys ws [.ref h0, .int w] sz) (g_Qi D tys (va_A ws sz) (ws.set 0 (h0, .inr (9, fs.set 0 (.int w)))) 0) 0 0 (va_A ws sz) := by
  refine Met.ofW (cc := cX9_no) (maxL := 2) (ret := (some .int)) (by decide) rfl ?_
  intro p e s m args below meth c9 s₁ B hml hv
  obtain ⟨rfl, hsz, hP, hK, hD0⟩ := hv
  have hx := B.exec
  have hb := B.bytes
  have hr := B.returns
  have hts := atoms_spec (ws := wsX9_no) B.pre
  have hown : s.vm.findClass RX9 = some m.cls := findClass_of_methodNamed B.named
  have hlocks := B.notSynchronized
  subst hsz
  have hD := hD0.self (sz := s.heap.size)
  generalize hAe : va_A ws s.heap.size = A at hD ⊢
  have hA : ∀ q : Nat, s.heap.size ≤ q → A q := fun q h => by rw [← hAe]; exact Or.inr h
  have hS : va_S A s.heap s.heap [] := va_S.rf
  have hl := lv_entry ([.ref h0, .int w]) (n := 2) (Nat.le_of_ble_eq_true rfl)
  rw [lg_entry_eq]
  generalize (lg_sl ([.ref h0, .int w]) ++ List.replicate (2 - (lg_sl ([.ref h0, .int w])).length) Slot.unset).toArray = ls at hl ⊢
  have hl : lv_has ls 2 [(0, .ref h0), (1, .int w)] := hl
  have winX9 : ∀ w ∈ u_ws RX9 TX9 16, w ∈ wsX9_no := by decide +kernel
  refine lv_aload_n hx hb dX9_no_0 rfl (lv_at hl 0 rfl) ?_
  refine lv_iload_n hx hb dX9_no_1 rfl (lv_at hl 1 rfl) ?_
  refine va_put (D := D) (ci := 9) (v := .int w) (ty := .int) (C := RX9) (T := TX9) (N := 16) hx hb hts winX9 tyX9 tyX9_ok nmX9 hown hK hP hD hS 0 hk rfl 0 (by decide) (hts (.fieldLink RX9 39 "TapCapModel" "thrown" "I") (List.mem_of_getElem? (i := 1) rfl)) (fun _ h9 => h9) rfl (by decide +kernel) rfl rfl hlen dX9_no_2 (fun H locs hP hD hS => ?_)
  refine lv_iconst (v := 0) hx hb dX9_no_5 (by decide) ?_
  exact g_iret hx hb hr rfl hlocks hK hP hD hS rfl dX9_no_6
set_option maxHeartbeats 4000000 in
set_option maxRecDepth 100000 in
theorem m_isCard (l : Launch) (D : va_G) (tys : List (ClassId × FieldType)) (ws : va_W) (sz : Nat) (h0 : Nat) (fs : List Value) (x0 : Int32) (hk : ws[0]? = some (h0, .inr (9, fs))) (hc : fs[6]? = some (.int 0)) : Met l yX9_isCard wsX9_isCard ({ frames := 2, cells := 0, slots := 0, locals := 60 } : Room) (g_P D tys ws [.ref h0, .int x0] sz) (g_Qi D tys (va_A ws sz) ws 0) 0 0 (va_A ws sz) := by
  refine Met.ofW (cc := cX9_isCard) (maxL := 2) (ret := (some .boolean)) (by decide) rfl ?_
  intro p e s m args below meth c9 s₁ B hml hv
  obtain ⟨rfl, hsz, hP, hK, hD0⟩ := hv
  have hx := B.exec
  have hb := B.bytes
  have hr := B.returns
  have hts := atoms_spec (ws := wsX9_isCard) B.pre
  have hown : s.vm.findClass RX9 = some m.cls := findClass_of_methodNamed B.named
  have hlocks := B.notSynchronized
  subst hsz
  have hD := hD0.self (sz := s.heap.size)
  generalize hAe : va_A ws s.heap.size = A at hD ⊢
  have hA : ∀ q : Nat, s.heap.size ≤ q → A q := fun q h => by rw [← hAe]; exact Or.inr h
  have hS : va_S A s.heap s.heap [] := va_S.rf
  have hl := lv_entry ([.ref h0, .int x0]) (n := 2) (Nat.le_of_ble_eq_true rfl)
  rw [lg_entry_eq]
  generalize (lg_sl ([.ref h0, .int x0]) ++ List.replicate (2 - (lg_sl ([.ref h0, .int x0])).length) Slot.unset).toArray = ls at hl ⊢
  have hl : lv_has ls 2 [(0, .ref h0), (1, .int x0)] := hl
  have winX9 : ∀ w ∈ u_ws RX9 TX9 16, w ∈ wsX9_isCard := by decide +kernel
  refine lv_iload_n hx hb dX9_isCard_0 rfl (lv_at hl 1 rfl) ?_
  refine lv_iconst (v := 0) hx hb dX9_isCard_1 (by decide) ?_
  refine lv_aload_n hx hb dX9_isCard_2 rfl (lv_at hl 0 rfl) ?_
  refine va_get (D := D) (ci := 9) (v := .int 0) (C := RX9) (T := TX9) (N := 16) hx hb hts winX9 hown hK hP 0 hk rfl 6 (by decide) (hts (.fieldLink RX9 42 "TapCapModel" "cardCount" "I") (List.mem_of_getElem? (i := 1) rfl)) (fun _ h9 => h9) hc dX9_isCard_3 ?_
  refine lv_iconst (v := 1) hx hb dX9_isCard_6 (by decide) ?_
  refine lv_isub hx hb dX9_isCard_7 ?_
  refine g_ki hK hD hS hA (va_runS (As := [.int x0, .int 0, .int (0 - 1)]) (rest := []) ⟨hx, hb, hml, hown, hts⟩ (m_in l D tys ws s.heap.size x0 0 (0 - 1)) (cwS 3 hts gX9_isCard_X9_in rfl rfl rfl (by decide +kernel) ⟨Nat.le_of_ble_eq_true rfl, Nat.le_of_ble_eq_true rfl⟩) (g_preS hK hP hD) rfl rfl hl.1 rfl (lv_room (Nat.le_of_ble_eq_true rfl)) dX9_isCard_8 ⟨Nat.le_of_ble_eq_true rfl, Nat.le_of_ble_eq_true rfl⟩) (fun H locs hP hD hS => ?_)
  exact g_iret hx hb hr (fin_z _ _ _) hlocks hK hP hD hS (fin_no _) dX9_isCard_11
set_option maxHeartbeats 4000000 in
set_option maxRecDepth 100000 in
theorem m_isPerson (l : Launch) (D : va_G) (tys : List (ClassId × FieldType)) (ws : va_W) (sz : Nat) (h0 : Nat) (fs : List Value) (x0 : Int32) (hk : ws[0]? = some (h0, .inr (9, fs))) (hc : fs[6]? = some (.int 0)) : Met l yX9_isPerson wsX9_isPerson ({ frames := 4, cells := 0, slots := 0, locals := 120 } : Room) (g_P D tys ws [.ref h0, .int x0] sz) (g_Qi D tys (va_A ws sz) ws 0) 0 0 (va_A ws sz) := by
  refine Met.ofW (cc := cX9_isPerson) (maxL := 2) (ret := (some .boolean)) (by decide) rfl ?_
  intro p e s m args below meth c9 s₁ B hml hv
  obtain ⟨rfl, hsz, hP, hK, hD0⟩ := hv
  have hx := B.exec
  have hb := B.bytes
  have hr := B.returns
  have hts := atoms_spec (ws := wsX9_isPerson) B.pre
  have hown : s.vm.findClass RX9 = some m.cls := findClass_of_methodNamed B.named
  have hlocks := B.notSynchronized
  subst hsz
  have hD := hD0.self (sz := s.heap.size)
  generalize hAe : va_A ws s.heap.size = A at hD ⊢
  have hA : ∀ q : Nat, s.heap.size ≤ q → A q := fun q h => by rw [← hAe]; exact Or.inr h
  have hS : va_S A s.heap s.heap [] := va_S.rf
  have hl := lv_entry ([.ref h0, .int x0]) (n := 2) (Nat.le_of_ble_eq_true rfl)
  rw [lg_entry_eq]
  generalize (lg_sl ([.ref h0, .int x0]) ++ List.replicate (2 - (lg_sl ([.ref h0, .int x0])).length) Slot.unset).toArray = ls at hl ⊢
  have hl : lv_has ls 2 [(0, .ref h0), (1, .int x0)] := hl
  have winX9 : ∀ w ∈ u_ws RX9 TX9 16, w ∈ wsX9_isPerson := by decide +kernel
  refine lv_aload_n hx hb dX9_isPerson_0 rfl (lv_at hl 0 rfl) ?_
  refine lv_iload_n hx hb dX9_isPerson_1 rfl (lv_at hl 1 rfl) ?_
  refine g_ki hK hD hS hA (va_runV (As := [.int x0]) (rest := []) ⟨hx, hb, hml, hown, hts⟩ (m_isCard l D tys ws s.heap.size h0 fs x0 hk hc) (cwV 1 hts gX9_isPerson_X9_isCard rfl rfl rfl (by decide +kernel) ⟨Nat.le_of_ble_eq_true rfl, Nat.le_of_ble_eq_true rfl⟩) (g_preV hK hP hD (ci := 9) (q0 := 0) rfl hk) rfl rfl hl.1 rfl (lv_room (Nat.le_of_ble_eq_true rfl)) dX9_isPerson_2 ⟨Nat.le_of_ble_eq_true rfl, Nat.le_of_ble_eq_true rfl⟩) (fun H locs hP hD hS => ?_)
  refine lv_if_eq (tgt := 24) hx hb dX9_isPerson_5 (by decide) (fun c_3 => ?_) (fun c_3 => ?_)
  · refine lv_iconst (v := 0) hx hb dX9_isPerson_24 (by decide) ?_
    exact g_iret hx hb hr narrow_z0 hlocks hK hP hD hS rfl dX9_isPerson_25
  · exact absurd rfl c_3
set_option maxHeartbeats 4000000 in
set_option maxRecDepth 100000 in
theorem m_isPlace (l : Launch) (D : va_G) (tys : List (ClassId × FieldType)) (ws : va_W) (sz : Nat) (h0 : Nat) (fs : List Value) (x0 x1 x2 x3 : Int32) (hk : ws[0]? = some (h0, .inr (9, fs))) (hc : fs[6]? = some (.int 0)) : Met l yX9_isPlace wsX9_isPlace ({ frames := 4, cells := 0, slots := 0, locals := 120 } : Room) (g_P D tys ws [.ref h0, .int x0, .int x1, .int x2, .int x3] sz) (g_Qi D tys (va_A ws sz) ws 0) 0 0 (va_A ws sz) := by
  refine Met.ofW (cc := cX9_isPlace) (maxL := 5) (ret := (some .boolean)) (by decide) rfl ?_
  intro p e s m args below meth c9 s₁ B hml hv
  obtain ⟨rfl, hsz, hP, hK, hD0⟩ := hv
  have hx := B.exec
  have hb := B.bytes
  have hr := B.returns
  have hts := atoms_spec (ws := wsX9_isPlace) B.pre
  have hown : s.vm.findClass RX9 = some m.cls := findClass_of_methodNamed B.named
  have hlocks := B.notSynchronized
  subst hsz
  have hD := hD0.self (sz := s.heap.size)
  generalize hAe : va_A ws s.heap.size = A at hD ⊢
  have hA : ∀ q : Nat, s.heap.size ≤ q → A q := fun q h => by rw [← hAe]; exact Or.inr h
  have hS : va_S A s.heap s.heap [] := va_S.rf
  have hl := lv_entry ([.ref h0, .int x0, .int x1, .int x2, .int x3]) (n := 5) (Nat.le_of_ble_eq_true rfl)
  rw [lg_entry_eq]
  generalize (lg_sl ([.ref h0, .int x0, .int x1, .int x2, .int x3]) ++ List.replicate (5 - (lg_sl ([.ref h0, .int x0, .int x1, .int x2, .int x3])).length) Slot.unset).toArray = ls at hl ⊢
  have hl : lv_has ls 5 [(0, .ref h0), (1, .int x0), (2, .int x1), (3, .int x2), (4, .int x3)] := hl
  have winX9 : ∀ w ∈ u_ws RX9 TX9 16, w ∈ wsX9_isPlace := by decide +kernel
  refine lv_aload_n hx hb dX9_isPlace_0 rfl (lv_at hl 0 rfl) ?_
  refine lv_iload_n hx hb dX9_isPlace_1 rfl (lv_at hl 1 rfl) ?_
  refine g_ki hK hD hS hA (va_runV (As := [.int x0]) (rest := []) ⟨hx, hb, hml, hown, hts⟩ (m_isCard l D tys ws s.heap.size h0 fs x0 hk hc) (cwV 1 hts gX9_isPlace_X9_isCard rfl rfl rfl (by decide +kernel) ⟨Nat.le_of_ble_eq_true rfl, Nat.le_of_ble_eq_true rfl⟩) (g_preV hK hP hD (ci := 9) (q0 := 0) rfl hk) rfl rfl hl.1 rfl (lv_room (Nat.le_of_ble_eq_true rfl)) dX9_isPlace_2 ⟨Nat.le_of_ble_eq_true rfl, Nat.le_of_ble_eq_true rfl⟩) (fun H locs hP hD hS => ?_)
  refine lv_if_eq (tgt := 39) hx hb dX9_isPlace_5 (by decide) (fun c_4 => ?_) (fun c_4 => ?_)
  · refine lv_iconst (v := 0) hx hb dX9_isPlace_39 (by decide) ?_
    exact g_iret hx hb hr narrow_z0 hlocks hK hP hD hS rfl dX9_isPlace_40
  · exact absurd rfl c_4
