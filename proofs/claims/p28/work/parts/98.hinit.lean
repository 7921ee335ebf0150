/-! a new Told -/
abbrev i_P (D : va_G) (tys : List (ClassId × FieldType)) (ws : va_W) (av : List Value) (sz : Nat) : Array Value → State → Prop := va_Pc av (fun U => (tc_N U ∧ va_AOA .int U) ∧ U.heap.size = sz ∧ va_P D vwCl ws U.heap ∧ va_K D vwCl tys U ∧ va_D (fun _ => True) ws)
theorem i_preS {s : State} {H : Heap} {D : va_G} {tys : List (ClassId × FieldType)} {ws : va_W} {As : List Value} {A : Nat → Prop} (hT : tc_N s) (hAO : va_AOA .int s) (hK : va_K D vwCl tys s) (hP : va_P D vwCl ws H) (hD : va_D A ws) : PreS s H (i_P D tys ws As H.size) As := by
  refine ⟨?_, fun U hU hW => ⟨rfl, ⟨hT.moved hW, va_AOA.of (over_moved (a := #[]) (a' := #[]) hW.alike hAO)⟩, by rw [hU], by rw [hU]; exact hP, va_K.moved hW.alike hK, hD.weaken (fun _ _ _ _ => trivial)⟩⟩
  intro a U g mk q
  obtain ⟨q0, ⟨qT, qN⟩, q1, qP, qK, qD⟩ := q
  exact ⟨q0, ⟨⟨qT.1.same rfl rfl, qT.2.1.same rfl rfl, qT.2.2.1.same rfl rfl, qT.2.2.2.1.same rfl rfl, qT.2.2.2.2.same rfl rfl⟩, va_AOA.of (over_moved (a := #[]) (a' := #[]) (Vm.Alike.refl U.vm) qN)⟩, q1, qP, va_K.moved (u := U) (U := U.calling g mk a) (Vm.Alike.refl U.vm) qK, qD⟩
theorem tc_preS {s : State} {H : Heap} {D : va_G} {tys : List (ClassId × FieldType)} {ws : va_W} {As : List Value} {A : Nat → Prop} (hT : tc_N s) (hK : va_K D vwCl tys s) (hP : va_P D vwCl ws H) (hD : va_D A ws) : PreS s H (va_Pc As (fun U => tc_N U ∧ U.heap.size = H.size ∧ va_P D vwCl ws U.heap ∧ va_K D vwCl tys U ∧ va_D (fun _ => True) ws)) As := by
  refine ⟨?_, fun U hU hW => ⟨rfl, hT.moved hW, by rw [hU], by rw [hU]; exact hP, va_K.moved hW.alike hK, hD.weaken (fun _ _ _ _ => trivial)⟩⟩
  intro a U g mk q
  obtain ⟨q0, qT, q1, qP, qK, qD⟩ := q
  exact ⟨q0, ⟨qT.1.same rfl rfl, qT.2.1.same rfl rfl, qT.2.2.1.same rfl rfl, qT.2.2.2.1.same rfl rfl, qT.2.2.2.2.same rfl rfl⟩, q1, qP, va_K.moved (u := U) (U := U.calling g mk a) (Vm.Alike.refl U.vm) qK, qD⟩
section TN
variable {p : Program} {l : Launch} {e : Env} {R : Room} {s : State} {m : MethodId} {args : Array Value} {below : List Frame} {meth : Method} {c : Code} {H : Heap} {locs : List Loc} {cells slots : Nat} {Q : State → Prop}
variable {pc : Nat} {ls : Array Slot} {rest st0 : List Value} {D : va_G} {tys : List (ClassId × FieldType)} {a b : va_W} {A : Nat → Prop} {H0 : Heap} {mc ms : Nat}
/-- a constructor's call on the first part of a world -/
theorem t_kn {τ : Type} {wf : τ → va_W} {av : Array Value} (hP : va_P D vwCl (a ++ b) H) (hD : va_D A (a ++ b)) (hS : va_S A H0 H locs) (hA : ∀ q, H0.size ≤ q → A q)
    (hr : va_Run p l e R s m args below meth c H locs cells slots mc ms (F0 m pc ls st0) rest (va_Qv (fun (_ : τ) => True) (fun u t => g_B D tys (va_A a H.size) (wf u) t) (va_A a H.size) av) (va_A a H.size))
    (kk : ∀ (u : τ) (H1 : Heap) (locs1 : List Loc), va_P D vwCl (wf u ++ b) H1 → va_D A (wf u ++ b) → va_S A H0 H1 locs1 → W p l e R s m args below meth c H1 locs1 (cells + mc) (slots + ms) Q (F0 m (pc + 3) ls rest)) : W p l e R s m args below meth c H locs cells slots Q (F0 m pc ls st0) := by
  have hF := g_free (pre_D hD) hS hA
  refine va_callv hr hS (fun q _ h => hF q h) hF (fun u t H1 locs1 ht hvm hw hB hz1 hk1 hS1 => ?_)
  obtain ⟨hP1, hK1, hD1⟩ := hB
  rw [ht] at hP1
  obtain ⟨hP2, hD2⟩ := fr_join hP hD hF hk1 hP1 hD1
  exact kk u H1 locs1 hP2 hD2 hS1
end TN
theorem swap_P {D : va_G} {a b : va_W} {H : Heap} (h : va_P D vwCl (a ++ b) H) : va_P D vwCl (b ++ a) H := va_P_perm h List.perm_append_comm
theorem swap_D {A : Nat → Prop} {a b : va_W} (h : va_D A (a ++ b)) : va_D A (b ++ a) := va_D_perm h List.perm_append_comm
theorem ini_z : upd (upd (upd (upd (upd (upd (upd (upd (upd (upd (fun _ => 0) 0 1) 1 1) 2 1) 3 1) 4 1) 5 1) 6 1) 7 1) 8 1) 9 1 = tc_0 0 := by
  funext k
  show _ = rw_fill (fun _ => 0) 10 1 k
  unfold rw_fill
  by_cases h : k < 10
  · rw [if_pos h]
    have : ∀ k, k < 10 → upd (upd (upd (upd (upd (upd (upd (upd (upd (upd (fun _ => (0 : Int32)) 0 1) 1 1) 2 1) 3 1) 4 1) 5 1) 6 1) 7 1) 8 1) 9 1 k = 1 := by decide
    exact this k h
  · rw [if_neg h, upd_n (by omega), upd_n (by omega), upd_n (by omega), upd_n (by omega), upd_n (by omega), upd_n (by omega), upd_n (by omega), upd_n (by omega), upd_n (by omega), upd_n (by omega)]
theorem ini_f : upd (upd (upd (upd (upd (fun _ => 0) 0 0) 1 2) 2 1) 3 5) 4 20 = tFv tc_0 0 := by
  funext k
  unfold tFv
  by_cases h : k < 5
  · rw [if_pos h]
    have : ∀ k, k < 5 → upd (upd (upd (upd (upd (fun _ => (0 : Int32)) 0 0) 1 2) 2 1) 3 5) 4 20 k = tc_0 (3 + k) 0 := by decide
    exact this k h
  · rw [if_neg h, upd_n (by omega), upd_n (by omega), upd_n (by omega), upd_n (by omega), upd_n (by omega)]
section CL
variable {D : va_G} {H : Heap} {A : Nat → Prop} {ad : Nat → Nat} {cI : ClassId} {g : tG} {L : va_W} {k : Nat} {q v : Nat × va_E}
theorem c_at (h : L[k]? = some q) : (tcW ad cI g ++ L)[98 + k]? = some q := by
  rw [List.getElem?_append_right (by rw [tcW_len]; omega), tcW_len, show 98 + k - 98 = k by omega]; exact h
theorem c_set : (tcW ad cI g ++ L).set (98 + k) v = tcW ad cI g ++ L.set k v := by
  rw [List.set_append_right _ _ (by rw [tcW_len]; omega), tcW_len, show 98 + k - 98 = k by omega]
theorem c_setP (h : va_P D vwCl ((tcW ad cI g ++ L).set (98 + k) v) H) : va_P D vwCl (tcW ad cI g ++ L.set k v) H := by rw [← c_set]; exact h
theorem c_setD (h : va_D A ((tcW ad cI g ++ L).set (98 + k) v)) : va_D A (tcW ad cI g ++ L.set k v) := by rw [← c_set]; exact h
theorem c_addP (h : va_P D vwCl ((tcW ad cI g ++ L) ++ [v]) H) : va_P D vwCl (tcW ad cI g ++ (L ++ [v])) H := by rw [← List.append_assoc]; exact h
theorem c_addD (h : va_D A ((tcW ad cI g ++ L) ++ [v])) : va_D A (tcW ad cI g ++ (L ++ [v])) := by rw [← List.append_assoc]; exact h
end CL
theorem perm_i {α : Type} {C : List α} {o z c f r n p : α} : (c :: n :: (C ++ [o, z, f, p, r])).Perm (C ++ [o, z, c, f, r, n, p]) := by
  classical
  rw [List.perm_iff_count]
  intro a
  simp only [List.count_append, List.count_cons, List.count_nil]
  omega

set_option maxHeartbeats 4000000 in
set_option maxRecDepth 100000 in
theorem kX9_init (l : Launch) (D : va_G) (sz b o9 dr : Nat) (cI cO : ClassId) : Met l yX9_init wsX9_init ({ frames := 8, cells := 104, slots := 2291, locals := 190 } : Room) (i_P D (tY_T cI cO) ([(o9, .inr (9, [.null, .null, .int 0, .null, .null, .null, .null, .int 0, .null]))]) [.ref o9, .ref b, .int (nI dr)] sz) (va_Qv (fun (_ : (Nat → Nat) × tA) => True) (fun u t => g_B D (tY_T cI cO) (va_A ([(o9, .inr (9, [.null, .null, .int 0, .null, .null, .null, .null, .int 0, .null]))]) sz) (tW u.1 o9 u.2 b cI cO tc_0 dr 0 1 0) t) (va_A ([(o9, .inr (9, [.null, .null, .int 0, .null, .null, .null, .null, .int 0, .null]))]) sz)) 104 2291 (va_A ([(o9, .inr (9, [.null, .null, .int 0, .null, .null, .null, .null, .int 0, .null]))]) sz) := by
  refine Met.ofW (cc := cX9_init) (maxL := 3) (ret := none) (by decide) rfl ?_
  intro p e s m args below meth c9 s₁ B hml hv
  obtain ⟨rfl, ⟨hT, hAO⟩, hsz, hP, hK, hD0⟩ := hv
  have hx := B.exec
  have hb := B.bytes
  have hr := B.returns
  have hts := atoms_spec (ws := wsX9_init) B.pre
  have hown : s.vm.findClass RX9 = some m.cls := findClass_of_methodNamed B.named
  have hlocks := B.notSynchronized
  subst hsz
  have hD := hD0.self (sz := s.heap.size)
  generalize hAe : va_A ([(o9, .inr (9, [.null, .null, .int 0, .null, .null, .null, .null, .int 0, .null]))]) s.heap.size = A at hD ⊢
  have hA : ∀ q : Nat, s.heap.size ≤ q → A q := fun q h => by rw [← hAe]; exact Or.inr h
  have hS : va_S A s.heap s.heap [] := va_S.rf
  have hl := lv_entry ([.ref o9, .ref b, .int (nI dr)]) (n := 3) (Nat.le_of_ble_eq_true rfl)
  rw [lg_entry_eq]
  generalize (lg_sl ([.ref o9, .ref b, .int (nI dr)]) ++ List.replicate (3 - (lg_sl ([.ref o9, .ref b, .int (nI dr)])).length) Slot.unset).toArray = ls at hl ⊢
  have hl : lv_has ls 3 [(0, .ref o9), (1, .ref b), (2, .int (nI dr))] := hl
  have winX8 : ∀ w ∈ u_ws RX8 TX8 9, w ∈ wsX9_init := by decide +kernel
  have winX9 : ∀ w ∈ u_ws RX9 TX9 9, w ∈ wsX9_init := by decide +kernel
  have hin9 : meth.name = "<init>" := (name_of_methodNamed B.named B.method).1
  obtain ⟨-, kI, hkI, -⟩ := (hK.2 0 _ rfl).1 0 (fun _ => .null)
  refine lv_aload_n hx hb dX9_init_0 rfl (lv_at hl 0 rfl) ?_
  refine W.objInit hx hb hown (hts (.methodLink RX9 1 objectInit) (List.mem_of_getElem? (i := 1) rfl)) (hts (.instanceMethod objectInit) (List.mem_of_getElem? (i := 2) rfl)) (hts (.code objectInit ⟨#[0xb1]⟩ 1 none) (List.mem_of_getElem? (i := 3) rfl)) rfl (by rw [hml]; exact hl.1) rfl dX9_init_1 (Nat.le_of_ble_eq_true rfl) (Nat.le_of_ble_eq_true rfl) ?_
  refine W.eq (g2 := F0 m 4 ls []) rfl ?_
  refine lv_aload_n hx hb dX9_init_4 rfl (lv_at hl 0 rfl) ?_
  refine va_new (ci := 8) (fs := [.null, .null, .null, .null, .null, .null, .null, .int 0, .int 0]) (C := RX8) (T := TX8) (N := 9) hx hb hts winX8 tyX8 tyX8_ok hown (hts (.classLink RX9 7 RX8) (List.mem_of_getElem? (i := 4) rfl)) (hts (.instantiable RX8 9) (List.mem_of_getElem? (i := 5) rfl)) (hts (.initialized RX8) (List.mem_of_getElem? (i := 6) rfl)) hK hP hD hS hA rfl (fun j hj => by rcases (show j = 0 ∨ j = 1 ∨ j = 2 ∨ j = 3 ∨ j = 4 ∨ j = 5 ∨ j = 6 ∨ j = 7 ∨ j = 8 by omega) with rfl | rfl | rfl | rfl | rfl | rfl | rfl | rfl | rfl <;> rfl) (Nat.le_of_ble_eq_true rfl) (Nat.le_of_ble_eq_true rfl) dX9_init_5 (fun q8 H hP hD hS => ?_)
  have hP := swap_P hP
  have hD := swap_D hD
  have hK8 := hK.sub (tys' := [(cI, .int)]) [0] rfl
  refine lv_dup hx hb dX9_init_8 rfl ?_
  refine t_kn (a := [(q8, .inr (8, [.null, .null, .null, .null, .null, .null, .null, .int 0, .int 0]))]) hP hD hS hA (va_runI (As := []) (rest := [.ref q8, .ref o9]) ⟨hx, hb, hml, hown, hts⟩ (c_TapCap_init l D H.size q8 cI) (cwI 0 hts gX9_init_X8_init rfl rfl rfl (hts (.initialized RX8) (List.mem_of_getElem? (i := 6) rfl)) (hts (.methodLink RX9 9 yX8_init) (List.mem_of_getElem? (i := 7) rfl)) (hts (.instanceMethod yX8_init) (List.mem_of_getElem? (i := 8) rfl)) rfl (by decide +kernel) ⟨Nat.le_of_ble_eq_true rfl, Nat.le_of_ble_eq_true rfl⟩) (tc_preS hT hK8 (pre_P hP) (pre_D hD)) rfl rfl hl.1 rfl (lv_room (Nat.le_of_ble_eq_true rfl)) dX9_init_9 ⟨Nat.le_of_ble_eq_true rfl, Nat.le_of_ble_eq_true rfl⟩) (fun u H locs hP hD hS => ?_)
  obtain ⟨ad, had⟩ : ∃ z : Nat → Nat, z = (fun k => if k = 0 then q8 else u (k - 1)) := ⟨_, rfl⟩
  rw [← had] at hP hD
  have h0 : q8 = ad 0 := by rw [had]; rfl
  rw [h0]
  have hP : va_P D vwCl (tcW ad cI tc_0 ++ [(o9, .inr (9, [.null, .null, .int 0, .null, .null, .null, .null, .int 0, .null]))]) H := hP
  have hD : va_D A (tcW ad cI tc_0 ++ [(o9, .inr (9, [.null, .null, .int 0, .null, .null, .null, .null, .int 0, .null]))]) := hD
  refine va_putF (D := D) (ci := 9) (v := .ref (ad 0)) (ty := (.object "TapCap")) (C := RX9) (T := TX9) (N := 9) hx hb hts winX9 tyX9 tyX9_ok nmX9 hown hK hP hD hS (98 + 0) (c_at rfl) rfl 0 (by decide) (hts (.fieldLink RX9 10 "TapCapLaw$Told" "m" "LTapCap;") (List.mem_of_getElem? (i := 9) rfl)) (fun _ h9 => h9) rfl hin9 rfl (by decide +kernel) rfl rfl (Nat.le_of_ble_eq_true rfl) dX9_init_12 (fun H locs hP hD hS => ?_)
  have hP : va_P D vwCl (tcW ad cI tc_0 ++ [(o9, .inr (9, [.ref (ad 0), .null, .int 0, .null, .null, .null, .null, .int 0, .null]))]) H := c_setP hP
  have hD : va_D A (tcW ad cI tc_0 ++ [(o9, .inr (9, [.ref (ad 0), .null, .int 0, .null, .null, .null, .null, .int 0, .null]))]) := c_setD hD
  refine lv_aload_n hx hb dX9_init_15 rfl (lv_at hl 0 rfl) ?_
  refine lv_bipush (v := 10) hx hb dX9_init_16 (by decide) ?_
  refine t_new (cI := cI) (cO := cO) (N := 10) hx hb (hts (.arrayClass .int) (List.mem_of_getElem? (i := 10) rfl)) hK hP hD hS hA (by decide) (Nat.le_of_ble_eq_true rfl) (Nat.le_of_ble_eq_true rfl) dX9_init_18 (fun z9 H hP hD hS => ?_)
  have hP : va_P D vwCl (tcW ad cI tc_0 ++ [(o9, .inr (9, [.ref (ad 0), .null, .int 0, .null, .null, .null, .null, .int 0, .null])), (z9, .inl (cI, 10, .inl (fun _ => 0)))]) H := c_addP hP
  have hD : va_D A (tcW ad cI tc_0 ++ [(o9, .inr (9, [.ref (ad 0), .null, .int 0, .null, .null, .null, .null, .int 0, .null])), (z9, .inl (cI, 10, .inl (fun _ => 0)))]) := c_addD hD
  refine lv_dup hx hb dX9_init_20 rfl ?_
  refine lv_iconst (v := 0) hx hb dX9_init_21 (by decide) ?_
  refine lv_iconst (v := 1) hx hb dX9_init_22 (by decide) ?_
  refine t_ist hx hb hK hP hD hS (98 + 1) 0 0 (c_at rfl) rfl (by decide) (by decide) dX9_init_23 (fun H locs hP hD hS => ?_)
  have hP : va_P D vwCl (tcW ad cI tc_0 ++ [(o9, .inr (9, [.ref (ad 0), .null, .int 0, .null, .null, .null, .null, .int 0, .null])), (z9, .inl (cI, 10, .inl (upd (fun _ => 0) 0 1)))]) H := c_setP hP
  have hD : va_D A (tcW ad cI tc_0 ++ [(o9, .inr (9, [.ref (ad 0), .null, .int 0, .null, .null, .null, .null, .int 0, .null])), (z9, .inl (cI, 10, .inl (upd (fun _ => 0) 0 1)))]) := c_setD hD
  refine lv_dup hx hb dX9_init_24 rfl ?_
  refine lv_iconst (v := 1) hx hb dX9_init_25 (by decide) ?_
  refine lv_iconst (v := 1) hx hb dX9_init_26 (by decide) ?_
  refine t_ist hx hb hK hP hD hS (98 + 1) 0 1 (c_at rfl) rfl (by decide) (by decide) dX9_init_27 (fun H locs hP hD hS => ?_)
  have hP : va_P D vwCl (tcW ad cI tc_0 ++ [(o9, .inr (9, [.ref (ad 0), .null, .int 0, .null, .null, .null, .null, .int 0, .null])), (z9, .inl (cI, 10, .inl (upd (upd (fun _ => 0) 0 1) 1 1)))]) H := c_setP hP
  have hD : va_D A (tcW ad cI tc_0 ++ [(o9, .inr (9, [.ref (ad 0), .null, .int 0, .null, .null, .null, .null, .int 0, .null])), (z9, .inl (cI, 10, .inl (upd (upd (fun _ => 0) 0 1) 1 1)))]) := c_setD hD
  refine lv_dup hx hb dX9_init_28 rfl ?_
  refine lv_iconst (v := 2) hx hb dX9_init_29 (by decide) ?_
  refine lv_iconst (v := 1) hx hb dX9_init_30 (by decide) ?_
  refine t_ist hx hb hK hP hD hS (98 + 1) 0 2 (c_at rfl) rfl (by decide) (by decide) dX9_init_31 (fun H locs hP hD hS => ?_)
  have hP : va_P D vwCl (tcW ad cI tc_0 ++ [(o9, .inr (9, [.ref (ad 0), .null, .int 0, .null, .null, .null, .null, .int 0, .null])), (z9, .inl (cI, 10, .inl (upd (upd (upd (fun _ => 0) 0 1) 1 1) 2 1)))]) H := c_setP hP
  have hD : va_D A (tcW ad cI tc_0 ++ [(o9, .inr (9, [.ref (ad 0), .null, .int 0, .null, .null, .null, .null, .int 0, .null])), (z9, .inl (cI, 10, .inl (upd (upd (upd (fun _ => 0) 0 1) 1 1) 2 1)))]) := c_setD hD
  refine lv_dup hx hb dX9_init_32 rfl ?_
  refine lv_iconst (v := 3) hx hb dX9_init_33 (by decide) ?_
  refine lv_iconst (v := 1) hx hb dX9_init_34 (by decide) ?_
  refine t_ist hx hb hK hP hD hS (98 + 1) 0 3 (c_at rfl) rfl (by decide) (by decide) dX9_init_35 (fun H locs hP hD hS => ?_)
  have hP : va_P D vwCl (tcW ad cI tc_0 ++ [(o9, .inr (9, [.ref (ad 0), .null, .int 0, .null, .null, .null, .null, .int 0, .null])), (z9, .inl (cI, 10, .inl (upd (upd (upd (upd (fun _ => 0) 0 1) 1 1) 2 1) 3 1)))]) H := c_setP hP
  have hD : va_D A (tcW ad cI tc_0 ++ [(o9, .inr (9, [.ref (ad 0), .null, .int 0, .null, .null, .null, .null, .int 0, .null])), (z9, .inl (cI, 10, .inl (upd (upd (upd (upd (fun _ => 0) 0 1) 1 1) 2 1) 3 1)))]) := c_setD hD
  refine lv_dup hx hb dX9_init_36 rfl ?_
  refine lv_iconst (v := 4) hx hb dX9_init_37 (by decide) ?_
  refine lv_iconst (v := 1) hx hb dX9_init_38 (by decide) ?_
  refine t_ist hx hb hK hP hD hS (98 + 1) 0 4 (c_at rfl) rfl (by decide) (by decide) dX9_init_39 (fun H locs hP hD hS => ?_)
  have hP : va_P D vwCl (tcW ad cI tc_0 ++ [(o9, .inr (9, [.ref (ad 0), .null, .int 0, .null, .null, .null, .null, .int 0, .null])), (z9, .inl (cI, 10, .inl (upd (upd (upd (upd (upd (fun _ => 0) 0 1) 1 1) 2 1) 3 1) 4 1)))]) H := c_setP hP
  have hD : va_D A (tcW ad cI tc_0 ++ [(o9, .inr (9, [.ref (ad 0), .null, .int 0, .null, .null, .null, .null, .int 0, .null])), (z9, .inl (cI, 10, .inl (upd (upd (upd (upd (upd (fun _ => 0) 0 1) 1 1) 2 1) 3 1) 4 1)))]) := c_setD hD
  refine lv_dup hx hb dX9_init_40 rfl ?_
  refine lv_iconst (v := 5) hx hb dX9_init_41 (by decide) ?_
  refine lv_iconst (v := 1) hx hb dX9_init_42 (by decide) ?_
  refine t_ist hx hb hK hP hD hS (98 + 1) 0 5 (c_at rfl) rfl (by decide) (by decide) dX9_init_43 (fun H locs hP hD hS => ?_)
  have hP : va_P D vwCl (tcW ad cI tc_0 ++ [(o9, .inr (9, [.ref (ad 0), .null, .int 0, .null, .null, .null, .null, .int 0, .null])), (z9, .inl (cI, 10, .inl (upd (upd (upd (upd (upd (upd (fun _ => 0) 0 1) 1 1) 2 1) 3 1) 4 1) 5 1)))]) H := c_setP hP
  have hD : va_D A (tcW ad cI tc_0 ++ [(o9, .inr (9, [.ref (ad 0), .null, .int 0, .null, .null, .null, .null, .int 0, .null])), (z9, .inl (cI, 10, .inl (upd (upd (upd (upd (upd (upd (fun _ => 0) 0 1) 1 1) 2 1) 3 1) 4 1) 5 1)))]) := c_setD hD
  refine lv_dup hx hb dX9_init_44 rfl ?_
  refine lv_bipush (v := 6) hx hb dX9_init_45 (by decide) ?_
  refine lv_iconst (v := 1) hx hb dX9_init_47 (by decide) ?_
  refine t_ist hx hb hK hP hD hS (98 + 1) 0 6 (c_at rfl) rfl (by decide) (by decide) dX9_init_48 (fun H locs hP hD hS => ?_)
  have hP : va_P D vwCl (tcW ad cI tc_0 ++ [(o9, .inr (9, [.ref (ad 0), .null, .int 0, .null, .null, .null, .null, .int 0, .null])), (z9, .inl (cI, 10, .inl (upd (upd (upd (upd (upd (upd (upd (fun _ => 0) 0 1) 1 1) 2 1) 3 1) 4 1) 5 1) 6 1)))]) H := c_setP hP
  have hD : va_D A (tcW ad cI tc_0 ++ [(o9, .inr (9, [.ref (ad 0), .null, .int 0, .null, .null, .null, .null, .int 0, .null])), (z9, .inl (cI, 10, .inl (upd (upd (upd (upd (upd (upd (upd (fun _ => 0) 0 1) 1 1) 2 1) 3 1) 4 1) 5 1) 6 1)))]) := c_setD hD
  refine lv_dup hx hb dX9_init_49 rfl ?_
  refine lv_bipush (v := 7) hx hb dX9_init_50 (by decide) ?_
  refine lv_iconst (v := 1) hx hb dX9_init_52 (by decide) ?_
  refine t_ist hx hb hK hP hD hS (98 + 1) 0 7 (c_at rfl) rfl (by decide) (by decide) dX9_init_53 (fun H locs hP hD hS => ?_)
  have hP : va_P D vwCl (tcW ad cI tc_0 ++ [(o9, .inr (9, [.ref (ad 0), .null, .int 0, .null, .null, .null, .null, .int 0, .null])), (z9, .inl (cI, 10, .inl (upd (upd (upd (upd (upd (upd (upd (upd (fun _ => 0) 0 1) 1 1) 2 1) 3 1) 4 1) 5 1) 6 1) 7 1)))]) H := c_setP hP
  have hD : va_D A (tcW ad cI tc_0 ++ [(o9, .inr (9, [.ref (ad 0), .null, .int 0, .null, .null, .null, .null, .int 0, .null])), (z9, .inl (cI, 10, .inl (upd (upd (upd (upd (upd (upd (upd (upd (fun _ => 0) 0 1) 1 1) 2 1) 3 1) 4 1) 5 1) 6 1) 7 1)))]) := c_setD hD
  refine lv_dup hx hb dX9_init_54 rfl ?_
  refine lv_bipush (v := 8) hx hb dX9_init_55 (by decide) ?_
  refine lv_iconst (v := 1) hx hb dX9_init_57 (by decide) ?_
  refine t_ist hx hb hK hP hD hS (98 + 1) 0 8 (c_at rfl) rfl (by decide) (by decide) dX9_init_58 (fun H locs hP hD hS => ?_)
  have hP : va_P D vwCl (tcW ad cI tc_0 ++ [(o9, .inr (9, [.ref (ad 0), .null, .int 0, .null, .null, .null, .null, .int 0, .null])), (z9, .inl (cI, 10, .inl (upd (upd (upd (upd (upd (upd (upd (upd (upd (fun _ => 0) 0 1) 1 1) 2 1) 3 1) 4 1) 5 1) 6 1) 7 1) 8 1)))]) H := c_setP hP
  have hD : va_D A (tcW ad cI tc_0 ++ [(o9, .inr (9, [.ref (ad 0), .null, .int 0, .null, .null, .null, .null, .int 0, .null])), (z9, .inl (cI, 10, .inl (upd (upd (upd (upd (upd (upd (upd (upd (upd (fun _ => 0) 0 1) 1 1) 2 1) 3 1) 4 1) 5 1) 6 1) 7 1) 8 1)))]) := c_setD hD
  refine lv_dup hx hb dX9_init_59 rfl ?_
  refine lv_bipush (v := 9) hx hb dX9_init_60 (by decide) ?_
  refine lv_iconst (v := 1) hx hb dX9_init_62 (by decide) ?_
  refine t_ist hx hb hK hP hD hS (98 + 1) 0 9 (c_at rfl) rfl (by decide) (by decide) dX9_init_63 (fun H locs hP hD hS => ?_)
  have hP : va_P D vwCl (tcW ad cI tc_0 ++ [(o9, .inr (9, [.ref (ad 0), .null, .int 0, .null, .null, .null, .null, .int 0, .null])), (z9, .inl (cI, 10, .inl (upd (upd (upd (upd (upd (upd (upd (upd (upd (upd (fun _ => 0) 0 1) 1 1) 2 1) 3 1) 4 1) 5 1) 6 1) 7 1) 8 1) 9 1)))]) H := c_setP hP
  have hD : va_D A (tcW ad cI tc_0 ++ [(o9, .inr (9, [.ref (ad 0), .null, .int 0, .null, .null, .null, .null, .int 0, .null])), (z9, .inl (cI, 10, .inl (upd (upd (upd (upd (upd (upd (upd (upd (upd (upd (fun _ => 0) 0 1) 1 1) 2 1) 3 1) 4 1) 5 1) 6 1) 7 1) 8 1) 9 1)))]) := c_setD hD
  refine va_putF (D := D) (ci := 9) (v := .ref z9) (ty := (.array .int)) (C := RX9) (T := TX9) (N := 9) hx hb hts winX9 tyX9 tyX9_ok nmX9 hown hK hP hD hS (98 + 0) (c_at rfl) rfl 3 (by decide) (hts (.fieldLink RX9 16 "TapCapLaw$Told" "zones" "[I") (List.mem_of_getElem? (i := 11) rfl)) (fun _ h9 => h9) rfl hin9 rfl (by decide +kernel) rfl rfl (Nat.le_of_ble_eq_true rfl) dX9_init_64 (fun H locs hP hD hS => ?_)
  have hP : va_P D vwCl (tcW ad cI tc_0 ++ [(o9, .inr (9, [.ref (ad 0), .null, .int 0, .ref z9, .null, .null, .null, .int 0, .null])), (z9, .inl (cI, 10, .inl (upd (upd (upd (upd (upd (upd (upd (upd (upd (upd (fun _ => 0) 0 1) 1 1) 2 1) 3 1) 4 1) 5 1) 6 1) 7 1) 8 1) 9 1)))]) H := c_setP hP
  have hD : va_D A (tcW ad cI tc_0 ++ [(o9, .inr (9, [.ref (ad 0), .null, .int 0, .ref z9, .null, .null, .null, .int 0, .null])), (z9, .inl (cI, 10, .inl (upd (upd (upd (upd (upd (upd (upd (upd (upd (upd (fun _ => 0) 0 1) 1 1) 2 1) 3 1) 4 1) 5 1) 6 1) 7 1) 8 1) 9 1)))]) := c_setD hD
  refine lv_aload_n hx hb dX9_init_67 rfl (lv_at hl 0 rfl) ?_
  refine lv_bipush (v := 6) hx hb dX9_init_68 (by decide) ?_
  refine t_new (cI := cI) (cO := cO) (N := 6) hx hb (hts (.arrayClass .int) (List.mem_of_getElem? (i := 10) rfl)) hK hP hD hS hA (by decide) (Nat.le_of_ble_eq_true rfl) (Nat.le_of_ble_eq_true rfl) dX9_init_70 (fun c9_ H hP hD hS => ?_)
  have hP : va_P D vwCl (tcW ad cI tc_0 ++ [(o9, .inr (9, [.ref (ad 0), .null, .int 0, .ref z9, .null, .null, .null, .int 0, .null])), (z9, .inl (cI, 10, .inl (upd (upd (upd (upd (upd (upd (upd (upd (upd (upd (fun _ => 0) 0 1) 1 1) 2 1) 3 1) 4 1) 5 1) 6 1) 7 1) 8 1) 9 1))), (c9_, .inl (cI, 6, .inl (fun _ => 0)))]) H := c_addP hP
  have hD : va_D A (tcW ad cI tc_0 ++ [(o9, .inr (9, [.ref (ad 0), .null, .int 0, .ref z9, .null, .null, .null, .int 0, .null])), (z9, .inl (cI, 10, .inl (upd (upd (upd (upd (upd (upd (upd (upd (upd (upd (fun _ => 0) 0 1) 1 1) 2 1) 3 1) 4 1) 5 1) 6 1) 7 1) 8 1) 9 1))), (c9_, .inl (cI, 6, .inl (fun _ => 0)))]) := c_addD hD
  refine va_putF (D := D) (ci := 9) (v := .ref c9_) (ty := (.array .int)) (C := RX9) (T := TX9) (N := 9) hx hb hts winX9 tyX9 tyX9_ok nmX9 hown hK hP hD hS (98 + 0) (c_at rfl) rfl 4 (by decide) (hts (.fieldLink RX9 20 "TapCapLaw$Told" "carriers" "[I") (List.mem_of_getElem? (i := 12) rfl)) (fun _ h9 => h9) rfl hin9 rfl (by decide +kernel) rfl rfl (Nat.le_of_ble_eq_true rfl) dX9_init_72 (fun H locs hP hD hS => ?_)
  have hP : va_P D vwCl (tcW ad cI tc_0 ++ [(o9, .inr (9, [.ref (ad 0), .null, .int 0, .ref z9, .ref c9_, .null, .null, .int 0, .null])), (z9, .inl (cI, 10, .inl (upd (upd (upd (upd (upd (upd (upd (upd (upd (upd (fun _ => 0) 0 1) 1 1) 2 1) 3 1) 4 1) 5 1) 6 1) 7 1) 8 1) 9 1))), (c9_, .inl (cI, 6, .inl (fun _ => 0)))]) H := c_setP hP
  have hD : va_D A (tcW ad cI tc_0 ++ [(o9, .inr (9, [.ref (ad 0), .null, .int 0, .ref z9, .ref c9_, .null, .null, .int 0, .null])), (z9, .inl (cI, 10, .inl (upd (upd (upd (upd (upd (upd (upd (upd (upd (upd (fun _ => 0) 0 1) 1 1) 2 1) 3 1) 4 1) 5 1) 6 1) 7 1) 8 1) 9 1))), (c9_, .inl (cI, 6, .inl (fun _ => 0)))]) := c_setD hD
  refine lv_aload_n hx hb dX9_init_75 rfl (lv_at hl 0 rfl) ?_
  refine lv_iconst (v := 1) hx hb dX9_init_76 (by decide) ?_
  refine m_anew (ty := .int) hx hb hown (hts (.classLink RX9 23 "[I") (List.mem_of_getElem? (i := 13) rfl)) hAO hK hP hD hS hA (n := 1) (N' := 1) (by decide) (by decide) (by decide) (Nat.le_of_ble_eq_true rfl) (Nat.le_of_ble_eq_true rfl) dX9_init_77 (fun f9 cA kA comp H k1 k2 k3 hK1 hP hD hS => ?_)
  have hcomp : comp = cI := Option.some.inj (k3.symm.trans (hK.2 0 _ rfl).2)
  rw [hcomp] at k2
  have hcA : cA = cO := Option.some.inj ((hK1.2 2 _ rfl).2.symm.trans (hK1.2 1 _ rfl).2)
  rw [hcA] at k1 hP hD
  have hP : va_P D vwCl (tcW ad cI tc_0 ++ [(o9, .inr (9, [.ref (ad 0), .null, .int 0, .ref z9, .ref c9_, .null, .null, .int 0, .null])), (z9, .inl (cI, 10, .inl (upd (upd (upd (upd (upd (upd (upd (upd (upd (upd (fun _ => 0) 0 1) 1 1) 2 1) 3 1) 4 1) 5 1) 6 1) 7 1) 8 1) 9 1))), (c9_, .inl (cI, 6, .inl (fun _ => 0))), (f9, .inl (cO, 1, .inr (.inr (.inr (.inr (fun _ => none))))))]) H := c_addP hP
  have hD : va_D A (tcW ad cI tc_0 ++ [(o9, .inr (9, [.ref (ad 0), .null, .int 0, .ref z9, .ref c9_, .null, .null, .int 0, .null])), (z9, .inl (cI, 10, .inl (upd (upd (upd (upd (upd (upd (upd (upd (upd (upd (fun _ => 0) 0 1) 1 1) 2 1) 3 1) 4 1) 5 1) 6 1) 7 1) 8 1) 9 1))), (c9_, .inl (cI, 6, .inl (fun _ => 0))), (f9, .inl (cO, 1, .inr (.inr (.inr (.inr (fun _ => none))))))]) := c_addD hD
  refine lv_dup hx hb dX9_init_80 rfl ?_
  refine lv_iconst (v := 0) hx hb dX9_init_81 (by decide) ?_
  refine lv_iconst (v := 5) hx hb dX9_init_82 (by decide) ?_
  refine t_new (cI := cI) (cO := cO) (N := 5) hx hb (hts (.arrayClass .int) (List.mem_of_getElem? (i := 10) rfl)) hK hP hD hS hA (by decide) (Nat.le_of_ble_eq_true rfl) (Nat.le_of_ble_eq_true rfl) dX9_init_83 (fun r9_ H hP hD hS => ?_)
  have hP : va_P D vwCl (tcW ad cI tc_0 ++ [(o9, .inr (9, [.ref (ad 0), .null, .int 0, .ref z9, .ref c9_, .null, .null, .int 0, .null])), (z9, .inl (cI, 10, .inl (upd (upd (upd (upd (upd (upd (upd (upd (upd (upd (fun _ => 0) 0 1) 1 1) 2 1) 3 1) 4 1) 5 1) 6 1) 7 1) 8 1) 9 1))), (c9_, .inl (cI, 6, .inl (fun _ => 0))), (f9, .inl (cO, 1, .inr (.inr (.inr (.inr (fun _ => none)))))), (r9_, .inl (cI, 5, .inl (fun _ => 0)))]) H := c_addP hP
  have hD : va_D A (tcW ad cI tc_0 ++ [(o9, .inr (9, [.ref (ad 0), .null, .int 0, .ref z9, .ref c9_, .null, .null, .int 0, .null])), (z9, .inl (cI, 10, .inl (upd (upd (upd (upd (upd (upd (upd (upd (upd (upd (fun _ => 0) 0 1) 1 1) 2 1) 3 1) 4 1) 5 1) 6 1) 7 1) 8 1) 9 1))), (c9_, .inl (cI, 6, .inl (fun _ => 0))), (f9, .inl (cO, 1, .inr (.inr (.inr (.inr (fun _ => none)))))), (r9_, .inl (cI, 5, .inl (fun _ => 0)))]) := c_addD hD
  refine lv_dup hx hb dX9_init_85 rfl ?_
  refine lv_iconst (v := 0) hx hb dX9_init_86 (by decide) ?_
  refine lv_iconst (v := 0) hx hb dX9_init_87 (by decide) ?_
  refine t_ist hx hb hK hP hD hS (98 + 4) 0 0 (c_at rfl) rfl (by decide) (by decide) dX9_init_88 (fun H locs hP hD hS => ?_)
  have hP : va_P D vwCl (tcW ad cI tc_0 ++ [(o9, .inr (9, [.ref (ad 0), .null, .int 0, .ref z9, .ref c9_, .null, .null, .int 0, .null])), (z9, .inl (cI, 10, .inl (upd (upd (upd (upd (upd (upd (upd (upd (upd (upd (fun _ => 0) 0 1) 1 1) 2 1) 3 1) 4 1) 5 1) 6 1) 7 1) 8 1) 9 1))), (c9_, .inl (cI, 6, .inl (fun _ => 0))), (f9, .inl (cO, 1, .inr (.inr (.inr (.inr (fun _ => none)))))), (r9_, .inl (cI, 5, .inl (upd (fun _ => 0) 0 0)))]) H := c_setP hP
  have hD : va_D A (tcW ad cI tc_0 ++ [(o9, .inr (9, [.ref (ad 0), .null, .int 0, .ref z9, .ref c9_, .null, .null, .int 0, .null])), (z9, .inl (cI, 10, .inl (upd (upd (upd (upd (upd (upd (upd (upd (upd (upd (fun _ => 0) 0 1) 1 1) 2 1) 3 1) 4 1) 5 1) 6 1) 7 1) 8 1) 9 1))), (c9_, .inl (cI, 6, .inl (fun _ => 0))), (f9, .inl (cO, 1, .inr (.inr (.inr (.inr (fun _ => none)))))), (r9_, .inl (cI, 5, .inl (upd (fun _ => 0) 0 0)))]) := c_setD hD
  refine lv_dup hx hb dX9_init_89 rfl ?_
  refine lv_iconst (v := 1) hx hb dX9_init_90 (by decide) ?_
  refine lv_iconst (v := 2) hx hb dX9_init_91 (by decide) ?_
  refine t_ist hx hb hK hP hD hS (98 + 4) 0 1 (c_at rfl) rfl (by decide) (by decide) dX9_init_92 (fun H locs hP hD hS => ?_)
  have hP : va_P D vwCl (tcW ad cI tc_0 ++ [(o9, .inr (9, [.ref (ad 0), .null, .int 0, .ref z9, .ref c9_, .null, .null, .int 0, .null])), (z9, .inl (cI, 10, .inl (upd (upd (upd (upd (upd (upd (upd (upd (upd (upd (fun _ => 0) 0 1) 1 1) 2 1) 3 1) 4 1) 5 1) 6 1) 7 1) 8 1) 9 1))), (c9_, .inl (cI, 6, .inl (fun _ => 0))), (f9, .inl (cO, 1, .inr (.inr (.inr (.inr (fun _ => none)))))), (r9_, .inl (cI, 5, .inl (upd (upd (fun _ => 0) 0 0) 1 2)))]) H := c_setP hP
  have hD : va_D A (tcW ad cI tc_0 ++ [(o9, .inr (9, [.ref (ad 0), .null, .int 0, .ref z9, .ref c9_, .null, .null, .int 0, .null])), (z9, .inl (cI, 10, .inl (upd (upd (upd (upd (upd (upd (upd (upd (upd (upd (fun _ => 0) 0 1) 1 1) 2 1) 3 1) 4 1) 5 1) 6 1) 7 1) 8 1) 9 1))), (c9_, .inl (cI, 6, .inl (fun _ => 0))), (f9, .inl (cO, 1, .inr (.inr (.inr (.inr (fun _ => none)))))), (r9_, .inl (cI, 5, .inl (upd (upd (fun _ => 0) 0 0) 1 2)))]) := c_setD hD
  refine lv_dup hx hb dX9_init_93 rfl ?_
  refine lv_iconst (v := 2) hx hb dX9_init_94 (by decide) ?_
  refine lv_iconst (v := 1) hx hb dX9_init_95 (by decide) ?_
  refine t_ist hx hb hK hP hD hS (98 + 4) 0 2 (c_at rfl) rfl (by decide) (by decide) dX9_init_96 (fun H locs hP hD hS => ?_)
  have hP : va_P D vwCl (tcW ad cI tc_0 ++ [(o9, .inr (9, [.ref (ad 0), .null, .int 0, .ref z9, .ref c9_, .null, .null, .int 0, .null])), (z9, .inl (cI, 10, .inl (upd (upd (upd (upd (upd (upd (upd (upd (upd (upd (fun _ => 0) 0 1) 1 1) 2 1) 3 1) 4 1) 5 1) 6 1) 7 1) 8 1) 9 1))), (c9_, .inl (cI, 6, .inl (fun _ => 0))), (f9, .inl (cO, 1, .inr (.inr (.inr (.inr (fun _ => none)))))), (r9_, .inl (cI, 5, .inl (upd (upd (upd (fun _ => 0) 0 0) 1 2) 2 1)))]) H := c_setP hP
  have hD : va_D A (tcW ad cI tc_0 ++ [(o9, .inr (9, [.ref (ad 0), .null, .int 0, .ref z9, .ref c9_, .null, .null, .int 0, .null])), (z9, .inl (cI, 10, .inl (upd (upd (upd (upd (upd (upd (upd (upd (upd (upd (fun _ => 0) 0 1) 1 1) 2 1) 3 1) 4 1) 5 1) 6 1) 7 1) 8 1) 9 1))), (c9_, .inl (cI, 6, .inl (fun _ => 0))), (f9, .inl (cO, 1, .inr (.inr (.inr (.inr (fun _ => none)))))), (r9_, .inl (cI, 5, .inl (upd (upd (upd (fun _ => 0) 0 0) 1 2) 2 1)))]) := c_setD hD
  refine lv_dup hx hb dX9_init_97 rfl ?_
  refine lv_iconst (v := 3) hx hb dX9_init_98 (by decide) ?_
  refine lv_iconst (v := 5) hx hb dX9_init_99 (by decide) ?_
  refine t_ist hx hb hK hP hD hS (98 + 4) 0 3 (c_at rfl) rfl (by decide) (by decide) dX9_init_100 (fun H locs hP hD hS => ?_)
  have hP : va_P D vwCl (tcW ad cI tc_0 ++ [(o9, .inr (9, [.ref (ad 0), .null, .int 0, .ref z9, .ref c9_, .null, .null, .int 0, .null])), (z9, .inl (cI, 10, .inl (upd (upd (upd (upd (upd (upd (upd (upd (upd (upd (fun _ => 0) 0 1) 1 1) 2 1) 3 1) 4 1) 5 1) 6 1) 7 1) 8 1) 9 1))), (c9_, .inl (cI, 6, .inl (fun _ => 0))), (f9, .inl (cO, 1, .inr (.inr (.inr (.inr (fun _ => none)))))), (r9_, .inl (cI, 5, .inl (upd (upd (upd (upd (fun _ => 0) 0 0) 1 2) 2 1) 3 5)))]) H := c_setP hP
  have hD : va_D A (tcW ad cI tc_0 ++ [(o9, .inr (9, [.ref (ad 0), .null, .int 0, .ref z9, .ref c9_, .null, .null, .int 0, .null])), (z9, .inl (cI, 10, .inl (upd (upd (upd (upd (upd (upd (upd (upd (upd (upd (fun _ => 0) 0 1) 1 1) 2 1) 3 1) 4 1) 5 1) 6 1) 7 1) 8 1) 9 1))), (c9_, .inl (cI, 6, .inl (fun _ => 0))), (f9, .inl (cO, 1, .inr (.inr (.inr (.inr (fun _ => none)))))), (r9_, .inl (cI, 5, .inl (upd (upd (upd (upd (fun _ => 0) 0 0) 1 2) 2 1) 3 5)))]) := c_setD hD
  refine lv_dup hx hb dX9_init_101 rfl ?_
  refine lv_iconst (v := 4) hx hb dX9_init_102 (by decide) ?_
  refine lv_bipush (v := 20) hx hb dX9_init_103 (by decide) ?_
  refine t_ist hx hb hK hP hD hS (98 + 4) 0 4 (c_at rfl) rfl (by decide) (by decide) dX9_init_105 (fun H locs hP hD hS => ?_)
  have hP : va_P D vwCl (tcW ad cI tc_0 ++ [(o9, .inr (9, [.ref (ad 0), .null, .int 0, .ref z9, .ref c9_, .null, .null, .int 0, .null])), (z9, .inl (cI, 10, .inl (upd (upd (upd (upd (upd (upd (upd (upd (upd (upd (fun _ => 0) 0 1) 1 1) 2 1) 3 1) 4 1) 5 1) 6 1) 7 1) 8 1) 9 1))), (c9_, .inl (cI, 6, .inl (fun _ => 0))), (f9, .inl (cO, 1, .inr (.inr (.inr (.inr (fun _ => none)))))), (r9_, .inl (cI, 5, .inl (upd (upd (upd (upd (upd (fun _ => 0) 0 0) 1 2) 2 1) 3 5) 4 20)))]) H := c_setP hP
  have hD : va_D A (tcW ad cI tc_0 ++ [(o9, .inr (9, [.ref (ad 0), .null, .int 0, .ref z9, .ref c9_, .null, .null, .int 0, .null])), (z9, .inl (cI, 10, .inl (upd (upd (upd (upd (upd (upd (upd (upd (upd (upd (fun _ => 0) 0 1) 1 1) 2 1) 3 1) 4 1) 5 1) 6 1) 7 1) 8 1) 9 1))), (c9_, .inl (cI, 6, .inl (fun _ => 0))), (f9, .inl (cO, 1, .inr (.inr (.inr (.inr (fun _ => none)))))), (r9_, .inl (cI, 5, .inl (upd (upd (upd (upd (upd (fun _ => 0) 0 0) 1 2) 2 1) 3 5) 4 20)))]) := c_setD hD
  refine m_aast hx hb hK hP hD hS (98 + 3) (98 + 4) 0 (c_at rfl) k1 k2 (c_at rfl) rfl (i := 0) (fun q => by rcases q with q | q; exact absurd q (by decide); exact absurd q (by decide)) dX9_init_106 (fun H locs hP hD hS => ?_)
  have hP : va_P D vwCl (tcW ad cI tc_0 ++ [(o9, .inr (9, [.ref (ad 0), .null, .int 0, .ref z9, .ref c9_, .null, .null, .int 0, .null])), (z9, .inl (cI, 10, .inl (upd (upd (upd (upd (upd (upd (upd (upd (upd (upd (fun _ => 0) 0 1) 1 1) 2 1) 3 1) 4 1) 5 1) 6 1) 7 1) 8 1) 9 1))), (c9_, .inl (cI, 6, .inl (fun _ => 0))), (f9, .inl (cO, 1, .inr (.inr (.inr (.inr (va_up (fun _ => none) 0 (some r9_))))))), (r9_, .inl (cI, 5, .inl (upd (upd (upd (upd (upd (fun _ => 0) 0 0) 1 2) 2 1) 3 5) 4 20)))]) H := c_setP hP
  have hD : va_D A (tcW ad cI tc_0 ++ [(o9, .inr (9, [.ref (ad 0), .null, .int 0, .ref z9, .ref c9_, .null, .null, .int 0, .null])), (z9, .inl (cI, 10, .inl (upd (upd (upd (upd (upd (upd (upd (upd (upd (upd (fun _ => 0) 0 1) 1 1) 2 1) 3 1) 4 1) 5 1) 6 1) 7 1) 8 1) 9 1))), (c9_, .inl (cI, 6, .inl (fun _ => 0))), (f9, .inl (cO, 1, .inr (.inr (.inr (.inr (va_up (fun _ => none) 0 (some r9_))))))), (r9_, .inl (cI, 5, .inl (upd (upd (upd (upd (upd (fun _ => 0) 0 0) 1 2) 2 1) 3 5) 4 20)))]) := c_setD hD
  refine va_put (D := D) (ci := 9) (v := .ref f9) (ty := (.array (.array .int))) (C := RX9) (T := TX9) (N := 9) hx hb hts winX9 tyX9 tyX9_ok nmX9 hown hK hP hD hS (98 + 0) (c_at rfl) rfl 5 (by decide) (hts (.fieldLink RX9 24 "TapCapLaw$Told" "tariffs" "[[I") (List.mem_of_getElem? (i := 14) rfl)) (fun _ h9 => h9) rfl (by decide +kernel) rfl rfl (Nat.le_of_ble_eq_true rfl) dX9_init_107 (fun H locs hP hD hS => ?_)
  have hP : va_P D vwCl (tcW ad cI tc_0 ++ [(o9, .inr (9, [.ref (ad 0), .null, .int 0, .ref z9, .ref c9_, .ref f9, .null, .int 0, .null])), (z9, .inl (cI, 10, .inl (upd (upd (upd (upd (upd (upd (upd (upd (upd (upd (fun _ => 0) 0 1) 1 1) 2 1) 3 1) 4 1) 5 1) 6 1) 7 1) 8 1) 9 1))), (c9_, .inl (cI, 6, .inl (fun _ => 0))), (f9, .inl (cO, 1, .inr (.inr (.inr (.inr (va_up (fun _ => none) 0 (some r9_))))))), (r9_, .inl (cI, 5, .inl (upd (upd (upd (upd (upd (fun _ => 0) 0 0) 1 2) 2 1) 3 5) 4 20)))]) H := c_setP hP
  have hD : va_D A (tcW ad cI tc_0 ++ [(o9, .inr (9, [.ref (ad 0), .null, .int 0, .ref z9, .ref c9_, .ref f9, .null, .int 0, .null])), (z9, .inl (cI, 10, .inl (upd (upd (upd (upd (upd (upd (upd (upd (upd (upd (fun _ => 0) 0 1) 1 1) 2 1) 3 1) 4 1) 5 1) 6 1) 7 1) 8 1) 9 1))), (c9_, .inl (cI, 6, .inl (fun _ => 0))), (f9, .inl (cO, 1, .inr (.inr (.inr (.inr (va_up (fun _ => none) 0 (some r9_))))))), (r9_, .inl (cI, 5, .inl (upd (upd (upd (upd (upd (fun _ => 0) 0 0) 1 2) 2 1) 3 5) 4 20)))]) := c_setD hD
  refine lv_aload_n hx hb dX9_init_110 rfl (lv_at hl 0 rfl) ?_
  refine lv_iconst (v := 4) hx hb dX9_init_111 (by decide) ?_
  refine t_new (cI := cI) (cO := cO) (N := 4) hx hb (hts (.arrayClass .int) (List.mem_of_getElem? (i := 10) rfl)) hK hP hD hS hA (by decide) (Nat.le_of_ble_eq_true rfl) (Nat.le_of_ble_eq_true rfl) dX9_init_112 (fun n9 H hP hD hS => ?_)
  have hP : va_P D vwCl (tcW ad cI tc_0 ++ [(o9, .inr (9, [.ref (ad 0), .null, .int 0, .ref z9, .ref c9_, .ref f9, .null, .int 0, .null])), (z9, .inl (cI, 10, .inl (upd (upd (upd (upd (upd (upd (upd (upd (upd (upd (fun _ => 0) 0 1) 1 1) 2 1) 3 1) 4 1) 5 1) 6 1) 7 1) 8 1) 9 1))), (c9_, .inl (cI, 6, .inl (fun _ => 0))), (f9, .inl (cO, 1, .inr (.inr (.inr (.inr (va_up (fun _ => none) 0 (some r9_))))))), (r9_, .inl (cI, 5, .inl (upd (upd (upd (upd (upd (fun _ => 0) 0 0) 1 2) 2 1) 3 5) 4 20))), (n9, .inl (cI, 4, .inl (fun _ => 0)))]) H := c_addP hP
  have hD : va_D A (tcW ad cI tc_0 ++ [(o9, .inr (9, [.ref (ad 0), .null, .int 0, .ref z9, .ref c9_, .ref f9, .null, .int 0, .null])), (z9, .inl (cI, 10, .inl (upd (upd (upd (upd (upd (upd (upd (upd (upd (upd (fun _ => 0) 0 1) 1 1) 2 1) 3 1) 4 1) 5 1) 6 1) 7 1) 8 1) 9 1))), (c9_, .inl (cI, 6, .inl (fun _ => 0))), (f9, .inl (cO, 1, .inr (.inr (.inr (.inr (va_up (fun _ => none) 0 (some r9_))))))), (r9_, .inl (cI, 5, .inl (upd (upd (upd (upd (upd (fun _ => 0) 0 0) 1 2) 2 1) 3 5) 4 20))), (n9, .inl (cI, 4, .inl (fun _ => 0)))]) := c_addD hD
  refine lv_dup hx hb dX9_init_114 rfl ?_
  refine lv_iconst (v := 0) hx hb dX9_init_115 (by decide) ?_
  refine lv_iconst (v := 0) hx hb dX9_init_116 (by decide) ?_
  refine t_ist hx hb hK hP hD hS (98 + 5) 0 0 (c_at rfl) rfl (by decide) (by decide) dX9_init_117 (fun H locs hP hD hS => ?_)
  have hP : va_P D vwCl (tcW ad cI tc_0 ++ [(o9, .inr (9, [.ref (ad 0), .null, .int 0, .ref z9, .ref c9_, .ref f9, .null, .int 0, .null])), (z9, .inl (cI, 10, .inl (upd (upd (upd (upd (upd (upd (upd (upd (upd (upd (fun _ => 0) 0 1) 1 1) 2 1) 3 1) 4 1) 5 1) 6 1) 7 1) 8 1) 9 1))), (c9_, .inl (cI, 6, .inl (fun _ => 0))), (f9, .inl (cO, 1, .inr (.inr (.inr (.inr (va_up (fun _ => none) 0 (some r9_))))))), (r9_, .inl (cI, 5, .inl (upd (upd (upd (upd (upd (fun _ => 0) 0 0) 1 2) 2 1) 3 5) 4 20))), (n9, .inl (cI, 4, .inl (upd (fun _ => 0) 0 0)))]) H := c_setP hP
  have hD : va_D A (tcW ad cI tc_0 ++ [(o9, .inr (9, [.ref (ad 0), .null, .int 0, .ref z9, .ref c9_, .ref f9, .null, .int 0, .null])), (z9, .inl (cI, 10, .inl (upd (upd (upd (upd (upd (upd (upd (upd (upd (upd (fun _ => 0) 0 1) 1 1) 2 1) 3 1) 4 1) 5 1) 6 1) 7 1) 8 1) 9 1))), (c9_, .inl (cI, 6, .inl (fun _ => 0))), (f9, .inl (cO, 1, .inr (.inr (.inr (.inr (va_up (fun _ => none) 0 (some r9_))))))), (r9_, .inl (cI, 5, .inl (upd (upd (upd (upd (upd (fun _ => 0) 0 0) 1 2) 2 1) 3 5) 4 20))), (n9, .inl (cI, 4, .inl (upd (fun _ => 0) 0 0)))]) := c_setD hD
  refine lv_dup hx hb dX9_init_118 rfl ?_
  refine lv_iconst (v := 1) hx hb dX9_init_119 (by decide) ?_
  refine lv_iconst (v := 1) hx hb dX9_init_120 (by decide) ?_
  refine t_ist hx hb hK hP hD hS (98 + 5) 0 1 (c_at rfl) rfl (by decide) (by decide) dX9_init_121 (fun H locs hP hD hS => ?_)
  have hP : va_P D vwCl (tcW ad cI tc_0 ++ [(o9, .inr (9, [.ref (ad 0), .null, .int 0, .ref z9, .ref c9_, .ref f9, .null, .int 0, .null])), (z9, .inl (cI, 10, .inl (upd (upd (upd (upd (upd (upd (upd (upd (upd (upd (fun _ => 0) 0 1) 1 1) 2 1) 3 1) 4 1) 5 1) 6 1) 7 1) 8 1) 9 1))), (c9_, .inl (cI, 6, .inl (fun _ => 0))), (f9, .inl (cO, 1, .inr (.inr (.inr (.inr (va_up (fun _ => none) 0 (some r9_))))))), (r9_, .inl (cI, 5, .inl (upd (upd (upd (upd (upd (fun _ => 0) 0 0) 1 2) 2 1) 3 5) 4 20))), (n9, .inl (cI, 4, .inl (upd (upd (fun _ => 0) 0 0) 1 1)))]) H := c_setP hP
  have hD : va_D A (tcW ad cI tc_0 ++ [(o9, .inr (9, [.ref (ad 0), .null, .int 0, .ref z9, .ref c9_, .ref f9, .null, .int 0, .null])), (z9, .inl (cI, 10, .inl (upd (upd (upd (upd (upd (upd (upd (upd (upd (upd (fun _ => 0) 0 1) 1 1) 2 1) 3 1) 4 1) 5 1) 6 1) 7 1) 8 1) 9 1))), (c9_, .inl (cI, 6, .inl (fun _ => 0))), (f9, .inl (cO, 1, .inr (.inr (.inr (.inr (va_up (fun _ => none) 0 (some r9_))))))), (r9_, .inl (cI, 5, .inl (upd (upd (upd (upd (upd (fun _ => 0) 0 0) 1 2) 2 1) 3 5) 4 20))), (n9, .inl (cI, 4, .inl (upd (upd (fun _ => 0) 0 0) 1 1)))]) := c_setD hD
  refine lv_dup hx hb dX9_init_122 rfl ?_
  refine lv_iconst (v := 2) hx hb dX9_init_123 (by decide) ?_
  refine lv_iconst (v := 2) hx hb dX9_init_124 (by decide) ?_
  refine t_ist hx hb hK hP hD hS (98 + 5) 0 2 (c_at rfl) rfl (by decide) (by decide) dX9_init_125 (fun H locs hP hD hS => ?_)
  have hP : va_P D vwCl (tcW ad cI tc_0 ++ [(o9, .inr (9, [.ref (ad 0), .null, .int 0, .ref z9, .ref c9_, .ref f9, .null, .int 0, .null])), (z9, .inl (cI, 10, .inl (upd (upd (upd (upd (upd (upd (upd (upd (upd (upd (fun _ => 0) 0 1) 1 1) 2 1) 3 1) 4 1) 5 1) 6 1) 7 1) 8 1) 9 1))), (c9_, .inl (cI, 6, .inl (fun _ => 0))), (f9, .inl (cO, 1, .inr (.inr (.inr (.inr (va_up (fun _ => none) 0 (some r9_))))))), (r9_, .inl (cI, 5, .inl (upd (upd (upd (upd (upd (fun _ => 0) 0 0) 1 2) 2 1) 3 5) 4 20))), (n9, .inl (cI, 4, .inl (upd (upd (upd (fun _ => 0) 0 0) 1 1) 2 2)))]) H := c_setP hP
  have hD : va_D A (tcW ad cI tc_0 ++ [(o9, .inr (9, [.ref (ad 0), .null, .int 0, .ref z9, .ref c9_, .ref f9, .null, .int 0, .null])), (z9, .inl (cI, 10, .inl (upd (upd (upd (upd (upd (upd (upd (upd (upd (upd (fun _ => 0) 0 1) 1 1) 2 1) 3 1) 4 1) 5 1) 6 1) 7 1) 8 1) 9 1))), (c9_, .inl (cI, 6, .inl (fun _ => 0))), (f9, .inl (cO, 1, .inr (.inr (.inr (.inr (va_up (fun _ => none) 0 (some r9_))))))), (r9_, .inl (cI, 5, .inl (upd (upd (upd (upd (upd (fun _ => 0) 0 0) 1 2) 2 1) 3 5) 4 20))), (n9, .inl (cI, 4, .inl (upd (upd (upd (fun _ => 0) 0 0) 1 1) 2 2)))]) := c_setD hD
  refine lv_dup hx hb dX9_init_126 rfl ?_
  refine lv_iconst (v := 3) hx hb dX9_init_127 (by decide) ?_
  refine lv_iconst (v := 3) hx hb dX9_init_128 (by decide) ?_
  refine t_ist hx hb hK hP hD hS (98 + 5) 0 3 (c_at rfl) rfl (by decide) (by decide) dX9_init_129 (fun H locs hP hD hS => ?_)
  have hP : va_P D vwCl (tcW ad cI tc_0 ++ [(o9, .inr (9, [.ref (ad 0), .null, .int 0, .ref z9, .ref c9_, .ref f9, .null, .int 0, .null])), (z9, .inl (cI, 10, .inl (upd (upd (upd (upd (upd (upd (upd (upd (upd (upd (fun _ => 0) 0 1) 1 1) 2 1) 3 1) 4 1) 5 1) 6 1) 7 1) 8 1) 9 1))), (c9_, .inl (cI, 6, .inl (fun _ => 0))), (f9, .inl (cO, 1, .inr (.inr (.inr (.inr (va_up (fun _ => none) 0 (some r9_))))))), (r9_, .inl (cI, 5, .inl (upd (upd (upd (upd (upd (fun _ => 0) 0 0) 1 2) 2 1) 3 5) 4 20))), (n9, .inl (cI, 4, .inl (upd (upd (upd (upd (fun _ => 0) 0 0) 1 1) 2 2) 3 3)))]) H := c_setP hP
  have hD : va_D A (tcW ad cI tc_0 ++ [(o9, .inr (9, [.ref (ad 0), .null, .int 0, .ref z9, .ref c9_, .ref f9, .null, .int 0, .null])), (z9, .inl (cI, 10, .inl (upd (upd (upd (upd (upd (upd (upd (upd (upd (upd (fun _ => 0) 0 1) 1 1) 2 1) 3 1) 4 1) 5 1) 6 1) 7 1) 8 1) 9 1))), (c9_, .inl (cI, 6, .inl (fun _ => 0))), (f9, .inl (cO, 1, .inr (.inr (.inr (.inr (va_up (fun _ => none) 0 (some r9_))))))), (r9_, .inl (cI, 5, .inl (upd (upd (upd (upd (upd (fun _ => 0) 0 0) 1 2) 2 1) 3 5) 4 20))), (n9, .inl (cI, 4, .inl (upd (upd (upd (upd (fun _ => 0) 0 0) 1 1) 2 2) 3 3)))]) := c_setD hD
  refine va_putF (D := D) (ci := 9) (v := .ref n9) (ty := (.array .int)) (C := RX9) (T := TX9) (N := 9) hx hb hts winX9 tyX9 tyX9_ok nmX9 hown hK hP hD hS (98 + 0) (c_at rfl) rfl 6 (by decide) (hts (.fieldLink RX9 28 "TapCapLaw$Told" "person" "[I") (List.mem_of_getElem? (i := 15) rfl)) (fun _ h9 => h9) rfl hin9 rfl (by decide +kernel) rfl rfl (Nat.le_of_ble_eq_true rfl) dX9_init_130 (fun H locs hP hD hS => ?_)
  have hP : va_P D vwCl (tcW ad cI tc_0 ++ [(o9, .inr (9, [.ref (ad 0), .null, .int 0, .ref z9, .ref c9_, .ref f9, .ref n9, .int 0, .null])), (z9, .inl (cI, 10, .inl (upd (upd (upd (upd (upd (upd (upd (upd (upd (upd (fun _ => 0) 0 1) 1 1) 2 1) 3 1) 4 1) 5 1) 6 1) 7 1) 8 1) 9 1))), (c9_, .inl (cI, 6, .inl (fun _ => 0))), (f9, .inl (cO, 1, .inr (.inr (.inr (.inr (va_up (fun _ => none) 0 (some r9_))))))), (r9_, .inl (cI, 5, .inl (upd (upd (upd (upd (upd (fun _ => 0) 0 0) 1 2) 2 1) 3 5) 4 20))), (n9, .inl (cI, 4, .inl (upd (upd (upd (upd (fun _ => 0) 0 0) 1 1) 2 2) 3 3)))]) H := c_setP hP
  have hD : va_D A (tcW ad cI tc_0 ++ [(o9, .inr (9, [.ref (ad 0), .null, .int 0, .ref z9, .ref c9_, .ref f9, .ref n9, .int 0, .null])), (z9, .inl (cI, 10, .inl (upd (upd (upd (upd (upd (upd (upd (upd (upd (upd (fun _ => 0) 0 1) 1 1) 2 1) 3 1) 4 1) 5 1) 6 1) 7 1) 8 1) 9 1))), (c9_, .inl (cI, 6, .inl (fun _ => 0))), (f9, .inl (cO, 1, .inr (.inr (.inr (.inr (va_up (fun _ => none) 0 (some r9_))))))), (r9_, .inl (cI, 5, .inl (upd (upd (upd (upd (upd (fun _ => 0) 0 0) 1 2) 2 1) 3 5) 4 20))), (n9, .inl (cI, 4, .inl (upd (upd (upd (upd (fun _ => 0) 0 0) 1 1) 2 2) 3 3)))]) := c_setD hD
  refine lv_aload_n hx hb dX9_init_133 rfl (lv_at hl 0 rfl) ?_
  refine lv_iconst (v := 0) hx hb dX9_init_134 (by decide) ?_
  refine m_anew (ty := .int) hx hb hown (hts (.classLink RX9 23 "[I") (List.mem_of_getElem? (i := 13) rfl)) hAO hK hP hD hS hA (n := 0) (N' := 0) (by decide) (by decide) (by decide) (Nat.le_of_ble_eq_true rfl) (Nat.le_of_ble_eq_true rfl) dX9_init_135 (fun p9 cA kA comp H k1 k2 k3 hK1 hP hD hS => ?_)
  have hcomp : comp = cI := Option.some.inj (k3.symm.trans (hK.2 0 _ rfl).2)
  rw [hcomp] at k2
  have hcA : cA = cO := Option.some.inj ((hK1.2 2 _ rfl).2.symm.trans (hK1.2 1 _ rfl).2)
  rw [hcA] at k1 hP hD
  have hP : va_P D vwCl (tcW ad cI tc_0 ++ [(o9, .inr (9, [.ref (ad 0), .null, .int 0, .ref z9, .ref c9_, .ref f9, .ref n9, .int 0, .null])), (z9, .inl (cI, 10, .inl (upd (upd (upd (upd (upd (upd (upd (upd (upd (upd (fun _ => 0) 0 1) 1 1) 2 1) 3 1) 4 1) 5 1) 6 1) 7 1) 8 1) 9 1))), (c9_, .inl (cI, 6, .inl (fun _ => 0))), (f9, .inl (cO, 1, .inr (.inr (.inr (.inr (va_up (fun _ => none) 0 (some r9_))))))), (r9_, .inl (cI, 5, .inl (upd (upd (upd (upd (upd (fun _ => 0) 0 0) 1 2) 2 1) 3 5) 4 20))), (n9, .inl (cI, 4, .inl (upd (upd (upd (upd (fun _ => 0) 0 0) 1 1) 2 2) 3 3))), (p9, .inl (cO, 0, .inr (.inr (.inr (.inr (fun _ => none))))))]) H := c_addP hP
  have hD : va_D A (tcW ad cI tc_0 ++ [(o9, .inr (9, [.ref (ad 0), .null, .int 0, .ref z9, .ref c9_, .ref f9, .ref n9, .int 0, .null])), (z9, .inl (cI, 10, .inl (upd (upd (upd (upd (upd (upd (upd (upd (upd (upd (fun _ => 0) 0 1) 1 1) 2 1) 3 1) 4 1) 5 1) 6 1) 7 1) 8 1) 9 1))), (c9_, .inl (cI, 6, .inl (fun _ => 0))), (f9, .inl (cO, 1, .inr (.inr (.inr (.inr (va_up (fun _ => none) 0 (some r9_))))))), (r9_, .inl (cI, 5, .inl (upd (upd (upd (upd (upd (fun _ => 0) 0 0) 1 2) 2 1) 3 5) 4 20))), (n9, .inl (cI, 4, .inl (upd (upd (upd (upd (fun _ => 0) 0 0) 1 1) 2 2) 3 3))), (p9, .inl (cO, 0, .inr (.inr (.inr (.inr (fun _ => none))))))]) := c_addD hD
  refine va_put (D := D) (ci := 9) (v := .ref p9) (ty := (.array (.array .int))) (C := RX9) (T := TX9) (N := 9) hx hb hts winX9 tyX9 tyX9_ok nmX9 hown hK hP hD hS (98 + 0) (c_at rfl) rfl 8 (by decide) (hts (.fieldLink RX9 31 "TapCapLaw$Told" "taps" "[[I") (List.mem_of_getElem? (i := 16) rfl)) (fun _ h9 => h9) rfl (by decide +kernel) rfl rfl (Nat.le_of_ble_eq_true rfl) dX9_init_138 (fun H locs hP hD hS => ?_)
  have hP : va_P D vwCl (tcW ad cI tc_0 ++ [(o9, .inr (9, [.ref (ad 0), .null, .int 0, .ref z9, .ref c9_, .ref f9, .ref n9, .int 0, .ref p9])), (z9, .inl (cI, 10, .inl (upd (upd (upd (upd (upd (upd (upd (upd (upd (upd (fun _ => 0) 0 1) 1 1) 2 1) 3 1) 4 1) 5 1) 6 1) 7 1) 8 1) 9 1))), (c9_, .inl (cI, 6, .inl (fun _ => 0))), (f9, .inl (cO, 1, .inr (.inr (.inr (.inr (va_up (fun _ => none) 0 (some r9_))))))), (r9_, .inl (cI, 5, .inl (upd (upd (upd (upd (upd (fun _ => 0) 0 0) 1 2) 2 1) 3 5) 4 20))), (n9, .inl (cI, 4, .inl (upd (upd (upd (upd (fun _ => 0) 0 0) 1 1) 2 2) 3 3))), (p9, .inl (cO, 0, .inr (.inr (.inr (.inr (fun _ => none))))))]) H := c_setP hP
  have hD : va_D A (tcW ad cI tc_0 ++ [(o9, .inr (9, [.ref (ad 0), .null, .int 0, .ref z9, .ref c9_, .ref f9, .ref n9, .int 0, .ref p9])), (z9, .inl (cI, 10, .inl (upd (upd (upd (upd (upd (upd (upd (upd (upd (upd (fun _ => 0) 0 1) 1 1) 2 1) 3 1) 4 1) 5 1) 6 1) 7 1) 8 1) 9 1))), (c9_, .inl (cI, 6, .inl (fun _ => 0))), (f9, .inl (cO, 1, .inr (.inr (.inr (.inr (va_up (fun _ => none) 0 (some r9_))))))), (r9_, .inl (cI, 5, .inl (upd (upd (upd (upd (upd (fun _ => 0) 0 0) 1 2) 2 1) 3 5) 4 20))), (n9, .inl (cI, 4, .inl (upd (upd (upd (upd (fun _ => 0) 0 0) 1 1) 2 2) 3 3))), (p9, .inl (cO, 0, .inr (.inr (.inr (.inr (fun _ => none))))))]) := c_setD hD
  refine lv_aload_n hx hb dX9_init_141 rfl (lv_at hl 0 rfl) ?_
  refine lv_aload_n hx hb dX9_init_142 rfl (lv_at hl 1 rfl) ?_
  refine va_putF (D := D) (ci := 9) (v := .ref b) (ty := (.array .int)) (C := RX9) (T := TX9) (N := 9) hx hb hts winX9 tyX9 tyX9_ok nmX9 hown hK hP hD hS (98 + 0) (c_at rfl) rfl 1 (by decide) (hts (.fieldLink RX9 34 "TapCapLaw$Told" "s" "[I") (List.mem_of_getElem? (i := 17) rfl)) (fun _ h9 => h9) rfl hin9 rfl (by decide +kernel) rfl rfl (Nat.le_of_ble_eq_true rfl) dX9_init_143 (fun H locs hP hD hS => ?_)
  have hP : va_P D vwCl (tcW ad cI tc_0 ++ [(o9, .inr (9, [.ref (ad 0), .ref b, .int 0, .ref z9, .ref c9_, .ref f9, .ref n9, .int 0, .ref p9])), (z9, .inl (cI, 10, .inl (upd (upd (upd (upd (upd (upd (upd (upd (upd (upd (fun _ => 0) 0 1) 1 1) 2 1) 3 1) 4 1) 5 1) 6 1) 7 1) 8 1) 9 1))), (c9_, .inl (cI, 6, .inl (fun _ => 0))), (f9, .inl (cO, 1, .inr (.inr (.inr (.inr (va_up (fun _ => none) 0 (some r9_))))))), (r9_, .inl (cI, 5, .inl (upd (upd (upd (upd (upd (fun _ => 0) 0 0) 1 2) 2 1) 3 5) 4 20))), (n9, .inl (cI, 4, .inl (upd (upd (upd (upd (fun _ => 0) 0 0) 1 1) 2 2) 3 3))), (p9, .inl (cO, 0, .inr (.inr (.inr (.inr (fun _ => none))))))]) H := c_setP hP
  have hD : va_D A (tcW ad cI tc_0 ++ [(o9, .inr (9, [.ref (ad 0), .ref b, .int 0, .ref z9, .ref c9_, .ref f9, .ref n9, .int 0, .ref p9])), (z9, .inl (cI, 10, .inl (upd (upd (upd (upd (upd (upd (upd (upd (upd (upd (fun _ => 0) 0 1) 1 1) 2 1) 3 1) 4 1) 5 1) 6 1) 7 1) 8 1) 9 1))), (c9_, .inl (cI, 6, .inl (fun _ => 0))), (f9, .inl (cO, 1, .inr (.inr (.inr (.inr (va_up (fun _ => none) 0 (some r9_))))))), (r9_, .inl (cI, 5, .inl (upd (upd (upd (upd (upd (fun _ => 0) 0 0) 1 2) 2 1) 3 5) 4 20))), (n9, .inl (cI, 4, .inl (upd (upd (upd (upd (fun _ => 0) 0 0) 1 1) 2 2) 3 3))), (p9, .inl (cO, 0, .inr (.inr (.inr (.inr (fun _ => none))))))]) := c_setD hD
  refine lv_aload_n hx hb dX9_init_146 rfl (lv_at hl 0 rfl) ?_
  refine lv_iload_n hx hb dX9_init_147 rfl (lv_at hl 2 rfl) ?_
  refine va_put (D := D) (ci := 9) (v := .int (nI dr)) (ty := .int) (C := RX9) (T := TX9) (N := 9) hx hb hts winX9 tyX9 tyX9_ok nmX9 hown hK hP hD hS (98 + 0) (c_at rfl) rfl 2 (by decide) (hts (.fieldLink RX9 37 "TapCapLaw$Told" "draws" "I") (List.mem_of_getElem? (i := 18) rfl)) (fun _ h9 => h9) rfl (by decide +kernel) rfl rfl (Nat.le_of_ble_eq_true rfl) dX9_init_148 (fun H locs hP hD hS => ?_)
  have hP : va_P D vwCl (tcW ad cI tc_0 ++ [(o9, .inr (9, [.ref (ad 0), .ref b, .int (nI dr), .ref z9, .ref c9_, .ref f9, .ref n9, .int 0, .ref p9])), (z9, .inl (cI, 10, .inl (upd (upd (upd (upd (upd (upd (upd (upd (upd (upd (fun _ => 0) 0 1) 1 1) 2 1) 3 1) 4 1) 5 1) 6 1) 7 1) 8 1) 9 1))), (c9_, .inl (cI, 6, .inl (fun _ => 0))), (f9, .inl (cO, 1, .inr (.inr (.inr (.inr (va_up (fun _ => none) 0 (some r9_))))))), (r9_, .inl (cI, 5, .inl (upd (upd (upd (upd (upd (fun _ => 0) 0 0) 1 2) 2 1) 3 5) 4 20))), (n9, .inl (cI, 4, .inl (upd (upd (upd (upd (fun _ => 0) 0 0) 1 1) 2 2) 3 3))), (p9, .inl (cO, 0, .inr (.inr (.inr (.inr (fun _ => none))))))]) H := c_setP hP
  have hD : va_D A (tcW ad cI tc_0 ++ [(o9, .inr (9, [.ref (ad 0), .ref b, .int (nI dr), .ref z9, .ref c9_, .ref f9, .ref n9, .int 0, .ref p9])), (z9, .inl (cI, 10, .inl (upd (upd (upd (upd (upd (upd (upd (upd (upd (upd (fun _ => 0) 0 1) 1 1) 2 1) 3 1) 4 1) 5 1) 6 1) 7 1) 8 1) 9 1))), (c9_, .inl (cI, 6, .inl (fun _ => 0))), (f9, .inl (cO, 1, .inr (.inr (.inr (.inr (va_up (fun _ => none) 0 (some r9_))))))), (r9_, .inl (cI, 5, .inl (upd (upd (upd (upd (upd (fun _ => 0) 0 0) 1 2) 2 1) 3 5) 4 20))), (n9, .inl (cI, 4, .inl (upd (upd (upd (upd (fun _ => 0) 0 0) 1 1) 2 2) 3 3))), (p9, .inl (cO, 0, .inr (.inr (.inr (.inr (fun _ => none))))))]) := c_setD hD
  obtain ⟨hP, hD⟩ := drop_1 hP hD perm_i
  obtain ⟨hP, hD⟩ := drop_1 hP hD (List.Perm.refl _)
  obtain ⟨y, hy⟩ : ∃ z : tA, z = ((fun k => ([z9, c9_, n9, f9, p9] : List Nat).getD k 0), (fun _ => r9_), (fun _ => 0)) := ⟨_, rfl⟩
  have ew : tcW ad cI tc_0 ++ [(o9, .inr (9, [.ref (ad 0), .ref b, .int (nI dr), .ref z9, .ref c9_, .ref f9, .ref n9, .int 0, .ref p9])), (z9, .inl (cI, 10, .inl (upd (upd (upd (upd (upd (upd (upd (upd (upd (upd (fun _ => 0) 0 1) 1 1) 2 1) 3 1) 4 1) 5 1) 6 1) 7 1) 8 1) 9 1))), (f9, .inl (cO, 1, .inr (.inr (.inr (.inr (va_up (fun _ => none) 0 (some r9_))))))), (p9, .inl (cO, 0, .inr (.inr (.inr (.inr (fun _ => none)))))), (r9_, .inl (cI, 5, .inl (upd (upd (upd (upd (upd (fun _ => 0) 0 0) 1 2) 2 1) 3 5) 4 20)))] = tW ad o9 y b cI cO tc_0 dr 0 1 0 := by
    have a1 : va_up (fun _ => none) 0 (some r9_) = tAA (fun _ => r9_) 1 := by
      funext i
      unfold va_up tAA
      by_cases h : i = 0
      · rw [if_pos h, if_pos (by omega)]
      · rw [if_neg h, if_neg (by omega)]
    have a2 : (fun _ => none : Nat → Option Nat) = tAA (fun _ => 0) 0 := by
      funext i
      exact (if_neg (Nat.not_lt_zero i)).symm
    rw [ini_z, ini_f, a1, a2, hy]
    rfl
  rw [ew] at hP hD
  refine W.widen (k := 104) (n := 2291) (by decide) (by decide) ?_
  exact W.vret hx hb hr (fun t ht hW => ⟨⟨(ad, y), rfl, trivial, by rw [ht]; exact hP, va_K.moved hW.alike hK, hD⟩, hS.F ht⟩) hS.2.2 dX9_init_151 hlocks
