theorem arr_of {s : State} {av : Array Value} {ty : FieldType} (h : (Cond.arrayClass ty).before av s = true) (hty : ∀ C, ty ≠ .object C) : ∃ cA : ClassId, ArrOfT s cA ty ∧ s.vm.findClass ("[" ++ ty.toString) = some cA := by
  obtain ⟨cA, k, comp, h1, h2, h3⟩ := Cond.arrayClass_spec h
  exact ⟨cA, fun n z => ⟨(fun k h => by cases h), k, h2, comp, h3⟩, h1⟩
theorem str_of {s : State} {av : Array Value} {own tx : String} {k : Nat} (h1 : (Cond.stringRef own k tx).before av s = true) (h2 : (Cond.exactly (.string own k) "java/lang/String").before av s = true) : ∃ a : Nat, vk_R own k tx a s := by
  obtain ⟨a, c0, cell, kA, ha, -⟩ := Cond.exactly_spec h2
  exact ⟨a, vk_R.of h1 ha⟩
theorem tc_blind {cI : ClassId} {D : va_G} {h0 sz : Nat} {ws : va_W} : FrameBlind (va_Pc [.ref h0] (fun U => tc_N U ∧ U.heap.size = sz ∧ va_P D vwCl ws U.heap ∧ va_K D vwCl [(cI, .int)] U ∧ va_D (fun _ => True) ws)) := by
  intro a U g mk q
  obtain ⟨q0, qN, q1, qP, qK, qD⟩ := q
  exact ⟨q0, ⟨qN.1.same rfl rfl, qN.2.1.same rfl rfl, qN.2.2.1.same rfl rfl, qN.2.2.2.1.same rfl rfl, qN.2.2.2.2.same rfl rfl⟩, q1, qP, va_K.moved (u := U) (U := U.calling g mk a) (Vm.Alike.refl U.vm) qK, qD⟩
theorem ao_warm {s U : State} (hW : s.WarmedH U.vm) (h : va_AOA .int s) : va_AOA .int U := va_AOA.of (over_moved (a := #[]) (a' := #[]) hW.alike h)
theorem ao_blind {cI : ClassId} {D : va_G} {h0 sz : Nat} {ws : va_W} : FrameBlind (va_Pc [.ref h0] (fun U => va_AOA .int U ∧ U.heap.size = sz ∧ va_P D vwCl ws U.heap ∧ va_K D vwCl [(cI, .int)] U ∧ va_D (fun _ => True) ws)) := by
  intro a U g mk q
  obtain ⟨q0, qN, q1, qP, qK, qD⟩ := q
  exact ⟨q0, va_AOA.of (over_moved (a := #[]) (a' := #[]) (Vm.Alike.refl U.vm) qN), q1, qP, va_K.moved (u := U) (U := U.calling g mk a) (Vm.Alike.refl U.vm) qK, qD⟩
theorem lx_69 : Cond.instantiable RX8 9 ∈ lw_tbl := List.mem_of_getElem? (i := 69) (by decide +kernel)
theorem lx_959 : Cond.instantiable RX9 16 ∈ lw_tbl := List.mem_of_getElem? (i := 959) (by decide +kernel)
theorem lx_68 : Cond.classLink RL 8 RX8 ∈ lw_tbl := List.mem_of_getElem? (i := 68) (by decide +kernel)
theorem lx_70 : Cond.methodLink RL 97 yX8_init ∈ lw_tbl := List.mem_of_getElem? (i := 70) (by decide +kernel)
theorem lx_71 : Cond.instanceMethod yX8_init ∈ lw_tbl := List.mem_of_getElem? (i := 71) (by decide +kernel)
theorem lx_958 : Cond.classLink RL 98 RX9 ∈ lw_tbl := List.mem_of_getElem? (i := 958) (by decide +kernel)
theorem lx_960 : Cond.methodLink RL 100 yX9_init ∈ lw_tbl := List.mem_of_getElem? (i := 960) (by decide +kernel)
theorem lx_961 : Cond.instanceMethod yX9_init ∈ lw_tbl := List.mem_of_getElem? (i := 961) (by decide +kernel)
theorem lx_1222 : Cond.arrayClass .long ∈ lw_tbl := List.mem_of_getElem? (i := 1222) (by decide +kernel)
theorem lx_1223 : Cond.arrayClass .double ∈ lw_tbl := List.mem_of_getElem? (i := 1223) (by decide +kernel)
set_option maxHeartbeats 4000000 in
set_option maxRecDepth 100000 in
/-- the law, from its entry -/
theorem whole_start {p : Program} {e : Env} {s : State} {m : MethodId} {below : List Frame} {meth : Method} {c : Code} (l : Launch) (hflags : l.flags = flags0) {b L : Nat} {xs : Nat → Int32} (hL : L ≤ 7) (C0 : lw_At p s m meth c b L xs) : W p l e room_1 s m #[Value.ref b] below meth c s.heap [] 0 0 (lw_Z below #[Value.ref b] s) (entryFrame m ([Value.ref b] : List Value).toArray 9) := by
  obtain ⟨hx, hb, hr, hml, hown, hts, hX, hbl, hlocks, hgv⟩ := id C0
  have hfl : l.stackTraces = false := by unfold Launch.stackTraces; rw [hflags]; decide
  have hA : ∀ q : Nat, s.heap.size ≤ q → (fun q : Nat => s.heap.size ≤ q) q := fun _ h => h
  have hbA : ¬ (fun q : Nat => s.heap.size ≤ q) b := Nat.not_le.mpr hbl
  have hfv := flat_of_before _ hgv
  obtain ⟨c0, iS0, hKn0⟩ := u_known (C := RX0) (T := TX0) (N := 6) (n := 6) hts inX0 (hts _ (lx_149))
  obtain ⟨c1, iS1, hKn1⟩ := u_known (C := RX1) (T := TX1) (N := 4) (n := 4) hts inX1 (hts _ (lx_344))
  obtain ⟨c2, iS2, hKn2⟩ := u_known (C := RX2) (T := TX2) (N := 10) (n := 10) hts inX2 (hts _ (lx_298))
  obtain ⟨c3, iS3, hKn3⟩ := u_known (C := RX3) (T := TX3) (N := 15) (n := 15) hts inX3 (hts _ (lx_228))
  obtain ⟨c4, iS4, hKn4⟩ := u_known (C := RX4) (T := TX4) (N := 3) (n := 3) hts inX4 (hts _ (lx_77))
  obtain ⟨c5, iS5, hKn5⟩ := u_known (C := RX5) (T := TX5) (N := 1) (n := 1) hts inX5 (hts _ (lx_83))
  obtain ⟨c6, iS6, hKn6⟩ := u_known (C := RX6) (T := TX6) (N := 9) (n := 9) hts inX6 (hts _ (lx_183))
  obtain ⟨c7, iS7, hKn7⟩ := u_known (C := RX7) (T := TX7) (N := 6) (n := 6) hts inX7 (hts _ (lx_113))
  obtain ⟨c8, iS8, hKn8⟩ := u_known (C := RX8) (T := TX8) (N := 9) (n := 9) hts inX8 (hts _ (lx_69))
  obtain ⟨c9, iS9, hKn9⟩ := u_known (C := RX9) (T := TX9) (N := 16) (n := 16) hts inX9 (hts _ (lx_959))
  obtain ⟨dC, dI, hKc⟩ : ∃ (dC : Nat → ClassId) (dI : Nat → Nat → Nat), ∀ (k : Nat) (q : vw_C), vwCl[k]? = some q → u_Kn s q.1 q.2.1 q.2.2 (dC k) (dI k) := by
    refine ⟨fun k => ([c0, c1, c2, c3, c4, c5, c6, c7, c8, c9] : List ClassId).getD k c0, fun k => ([iS0, iS1, iS2, iS3, iS4, iS5, iS6, iS7, iS8, iS9] : List (Nat → Nat)).getD k iS0, ?_⟩
    intro k q hq
    match k, hq with
    | 0, hq => cases hq; exact hKn0
    | 1, hq => cases hq; exact hKn1
    | 2, hq => cases hq; exact hKn2
    | 3, hq => cases hq; exact hKn3
    | 4, hq => cases hq; exact hKn4
    | 5, hq => cases hq; exact hKn5
    | 6, hq => cases hq; exact hKn6
    | 7, hq => cases hq; exact hKn7
    | 8, hq => cases hq; exact hKn8
    | 9, hq => cases hq; exact hKn9
    | k + 10, hq => simp [vwCl] at hq
  obtain ⟨cI, hcI, hcI2⟩ := arr_of (hts (.arrayClass .int) (lx_92)) (fun C h => by cases h)
  have hK : va_K (dC, dI) vwCl [(cI, .int)] s := ⟨hKc, fun k q h => by
    have h0 : k < 1 := (List.getElem?_eq_some_iff.mp h).1
    rw [show k = 0 by omega] at h
    cases h
    exact ⟨hcI, hcI2⟩⟩
  obtain ⟨sa0, hs0⟩ := str_of (own := RX8) (k := 248) (tx := "no such number") (hts _ (by decide +kernel)) (hfv _ (by decide +kernel))
  obtain ⟨sa1, hs1⟩ := str_of (own := RX8) (k := 251) (tx := "not within its bounds") (hts _ (by decide +kernel)) (hfv _ (by decide +kernel))
  obtain ⟨sa2, hs2⟩ := str_of (own := RX8) (k := 253) (tx := "no such person") (hts _ (by decide +kernel)) (hfv _ (by decide +kernel))
  have hE : ex_w (fun k => ([sa0, sa1, sa2] : List Nat).getD k 0) s := ⟨va_Nw.of rfl (hts (.declares (Bundle.initS "java/lang/RuntimeException")) (by decide +kernel)), va_Nw.of rfl (hts (.declares (Bundle.initS "java/lang/Exception")) (by decide +kernel)), va_Nw.of rfl (hts (.declares (Bundle.initS Bundle.tN)) (by decide +kernel)), va_Nw.of rfl (hts (.castable ex_IX ex_IX) (by decide +kernel)), va_Nw.of rfl (hts (.castable ex_IA ex_IA) (by decide +kernel)), hs0, hs1, hs2⟩
  have hN : ex_n s := va_Nc.of (hfv (.not (.castable ex_IA ex_IX)) (by decide +kernel))
  have hU : vx_Zq Bundle.tN "UNASSIGNED_STACK" Bundle.steD (fun q : Nat => s.heap.size ≤ q) s s.heap := vx_Zqof (hts (.laysStatic Bundle.tN "UNASSIGNED_STACK" Bundle.steD) (by decide +kernel)) (hts (.initialized Bundle.tN) (by decide +kernel)) (hfv (.isRef (.static Bundle.tN "UNASSIGNED_STACK" Bundle.steD)) (by decide +kernel)) (fun a h => Nat.not_le.mpr h)
  have hV : vx_Zq Bundle.tN "SUPPRESSED_SENTINEL" Bundle.listD (fun q : Nat => s.heap.size ≤ q) s s.heap := vx_Zqof (hts (.laysStatic Bundle.tN "SUPPRESSED_SENTINEL" Bundle.listD) (by decide +kernel)) (hts (.initialized Bundle.tN) (by decide +kernel)) (hfv (.isRef (.static Bundle.tN "SUPPRESSED_SENTINEL" Bundle.listD)) (by decide +kernel)) (fun a h => Nat.not_le.mpr h)
  have hZ : ex_z (fun q : Nat => s.heap.size ≤ q) s s.heap := ⟨hU, hV⟩
  have hTN : tc_N s := ⟨va_Nw.of rfl (hts (.methodLinkNest RX8 25 yX0_init RX8) (by decide +kernel)), va_Nw.of rfl (hts (.methodLinkNest RX8 32 yX6_init RX8) (by decide +kernel)), va_Nw.of rfl (hts (.methodLinkNest RX8 39 yX3_init RX8) (by decide +kernel)), va_Nw.of rfl (hts (.methodLinkNest RX8 46 yX2_init RX8) (by decide +kernel)), va_Nw.of rfl (hts (.methodLinkNest RX8 53 yX1_init RX8) (by decide +kernel))⟩
  have hAO : va_AOA .int s := va_AOA.of (hts (.arrayOver (.array .int)) (by decide +kernel))
  have hS : va_S (fun q : Nat => s.heap.size ≤ q) s.heap s.heap [] := va_S.rf
  have hP : va_P (dC, dI) vwCl [] s.heap := fun k q h => by simp at h
  have hD : va_D (fun q : Nat => s.heap.size ≤ q) [] := ⟨fun i j p q h => by simp at h, fun k q h => by simp at h⟩
  have hl := lv_entry ([.ref b]) (n := 9) (Nat.le_of_ble_eq_true rfl)
  rw [lg_entry_eq]
  generalize (lg_sl ([.ref b]) ++ List.replicate (9 - (lg_sl ([.ref b])).length) Slot.unset).toArray = ls at hl ⊢
  have hl : lv_has ls 9 [(0, .ref b)] := hl
  refine va_new (ci := 8) (fs := [.null, .null, .null, .null, .null, .null, .null, .int 0, .int 0]) (C := RX8) (T := TX8) (N := 9) hx hb hts inX8 tyX8 tyX8_ok hown (hts _ (lx_68)) (hts _ (lx_69)) (hts _ (lx_50)) hK hP hD hS hA rfl (fun j hj => by rcases (show j = 0 ∨ j = 1 ∨ j = 2 ∨ j = 3 ∨ j = 4 ∨ j = 5 ∨ j = 6 ∨ j = 7 ∨ j = 8 by omega) with rfl | rfl | rfl | rfl | rfl | rfl | rfl | rfl | rfl <;> rfl) (Nat.le_of_ble_eq_true rfl) (Nat.le_of_ble_eq_true rfl) dL_law_0 (fun q8 H hP hD hS => ?_)
  have hP : va_P (dC, dI) vwCl [(q8, .inr (8, [.null, .null, .null, .null, .null, .null, .null, .int 0, .int 0]))] H := hP
  have hD : va_D (fun q : Nat => s.heap.size ≤ q) [(q8, .inr (8, [.null, .null, .null, .null, .null, .null, .null, .int 0, .int 0]))] := hD
  refine lv_dup hx hb dL_law_3 rfl ?_
  have hFc := g_free hD hS hA
  refine va_callv (va_runI (As := []) (rest := [.ref q8]) ⟨hx, hb, hml, hown, hts⟩ (c_TapCap_init l (dC, dI) H.size q8 cI) (cwI 0 hts gl_X8_init rfl rfl rfl (hts _ (lx_50)) (hts _ (lx_70)) (hts _ (lx_71)) rfl (by decide +kernel) ⟨Nat.le_of_ble_eq_true rfl, Nat.le_of_ble_eq_true rfl⟩) ⟨tc_blind, fun U hU hW => ⟨rfl, hTN.moved hW, by rw [hU], by rw [hU]; exact hP, va_K.moved hW.alike hK, hD.weaken (fun _ _ _ _ => trivial)⟩⟩ rfl rfl hl.1 rfl (lv_room (Nat.le_of_ble_eq_true rfl)) dL_law_4 ⟨Nat.le_of_ble_eq_true rfl, Nat.le_of_ble_eq_true rfl⟩) hS (fun q _ h => hFc q h) hFc (fun w t H1 locs ht hvm hw hB hz1 hk1 hS => ?_)
  obtain ⟨hP, hK1, hD1⟩ := hB
  rw [ht] at hP
  have hD := hD1.weaken (fun _ _ _ h => hFc _ h)
  generalize H1 = H at hP hS ⊢
  obtain ⟨ad, had⟩ : ∃ z : Nat → Nat, z = (fun k => if k = 0 then q8 else w (k - 1)) := ⟨_, rfl⟩
  have hP : va_P (dC, dI) vwCl (tcW ad cI tc_0) H := by rw [had]; exact hP
  have hD : va_D (fun q : Nat => s.heap.size ≤ q) (tcW ad cI tc_0) := by rw [had]; exact hD
  have had0 : q8 = ad 0 := by rw [had]; rfl
  rw [had0]
  refine lv_astore_n (lv' := [(1, .ref (ad 0)), (0, .ref b)]) hx hb dL_law_7 rfl hl (by decide) rfl (fun ls hl => ?_)
  refine va_new (ci := 9) (fs := [.int 0, .null, .null, .null, .int 0, .null, .int 0, .null, .int 0, .null, .null, .int 0, .int 0, .int 0, .int 0, .int 0]) (C := RX9) (T := TX9) (N := 16) hx hb hts inX9 tyX9 tyX9_ok hown (hts _ (lx_958)) (hts _ (lx_959)) (hts _ (lx_59)) hK hP hD hS hA rfl (fun j hj => by rcases (show j = 0 ∨ j = 1 ∨ j = 2 ∨ j = 3 ∨ j = 4 ∨ j = 5 ∨ j = 6 ∨ j = 7 ∨ j = 8 ∨ j = 9 ∨ j = 10 ∨ j = 11 ∨ j = 12 ∨ j = 13 ∨ j = 14 ∨ j = 15 by omega) with rfl | rfl | rfl | rfl | rfl | rfl | rfl | rfl | rfl | rfl | rfl | rfl | rfl | rfl | rfl | rfl <;> rfl) (Nat.le_of_ble_eq_true rfl) (Nat.le_of_ble_eq_true rfl) dL_law_8 (fun h0 H hP hD hS => ?_)
  refine lv_dup hx hb dL_law_11 rfl ?_
  have hPc := hP.sub (ws' := [(h0, .inr (9, [.int 0, .null, .null, .null, .int 0, .null, .int 0, .null, .int 0, .null, .null, .int 0, .int 0, .int 0, .int 0, .int 0]))]) [98] rfl
  have hDc := hD.sub (ws' := [(h0, .inr (9, [.int 0, .null, .null, .null, .int 0, .null, .int 0, .null, .int 0, .null, .null, .int 0, .int 0, .int 0, .int 0, .int 0]))]) [98] (by decide) rfl
  have hFc := va_free (wc := [(h0, .inr (9, [.int 0, .null, .null, .null, .int 0, .null, .int 0, .null, .int 0, .null, .null, .int 0, .int 0, .int 0, .int 0, .int 0]))]) hD hS hA [98] rfl
  refine va_callv (va_runI (As := []) (rest := [.ref h0]) ⟨hx, hb, hml, hown, hts⟩ (c_Model_init l (dC, dI) H.size h0 cI) (cwI 0 hts gl_X9_init rfl rfl rfl (hts _ (lx_59)) (hts _ (lx_960)) (hts _ (lx_961)) rfl (by decide +kernel) ⟨Nat.le_of_ble_eq_true rfl, Nat.le_of_ble_eq_true rfl⟩) ⟨ao_blind, fun U hU hW => ⟨rfl, ao_warm hW hAO, by rw [hU], by rw [hU]; exact hPc, va_K.moved hW.alike hK, hDc.weaken (fun _ _ _ _ => trivial)⟩⟩ rfl rfl hl.1 rfl (lv_room (Nat.le_of_ble_eq_true rfl)) dL_law_12 ⟨Nat.le_of_ble_eq_true rfl, Nat.le_of_ble_eq_true rfl⟩) hS (fun q _ h => hFc q h) hFc (fun w t H1 locs ht hvm hw hB hz1 hk1 hS => ?_)
  obtain ⟨u, r0, r1, r2, cO, cZ⟩ := w
  obtain ⟨hP1, hK1, hD1⟩ := hB
  rw [ht] at hP1
  have hKM : va_K (dC, dI) vwCl [(cI, .int), (cO, .array .int), (cZ, .boolean)] s := va_K.moved hvm.symm hK1
  obtain ⟨hP, hD⟩ := va_join (wr := tcW ad cI tc_0) (w1 := tmW h0 u r0 r1 r2 cI cO cZ) hP hD [98] [0, 1, 2, 3, 4, 5, 6, 7, 8, 9, 10, 11, 12, 13, 14, 15, 16, 17, 18, 19, 20, 21, 22, 23, 24, 25, 26, 27, 28, 29, 30, 31, 32, 33, 34, 35, 36, 37, 38, 39, 40, 41, 42, 43, 44, 45, 46, 47, 48, 49, 50, 51, 52, 53, 54, 55, 56, 57, 58, 59, 60, 61, 62, 63, 64, 65, 66, 67, 68, 69, 70, 71, 72, 73, 74, 75, 76, 77, 78, 79, 80, 81, 82, 83, 84, 85, 86, 87, 88, 89, 90, 91, 92, 93, 94, 95, 96, 97] rfl rfl (by decide) (by decide) hk1 hFc hP1 hD1
  generalize H1 = H at hP hS ⊢
  refine lv_astore_n (lv' := [(2, .ref h0), (1, .ref (ad 0)), (0, .ref b)]) hx hb dL_law_15 rfl hl (by decide) rfl (fun ls hl => ?_)
  refine lv_iconst (v := 1) hx hb dL_law_16 (by decide) ?_
  refine va_newa (atype := .long) (a0 := (1, .inr (.inl (fun _ => 0)))) hx hb (hts (.arrayClass .long) (lx_1222)) rfl hK hP hD hS hA (fun cA => rfl) (by decide) (by decide) (by decide) (Nat.le_of_ble_eq_true rfl) (Nat.le_of_ble_eq_true rfl) dL_law_17 (fun o cJ H hKcJ hP hD hS => ?_)
  refine lv_astore_n (lv' := [(3, .ref o), (2, .ref h0), (1, .ref (ad 0)), (0, .ref b)]) hx hb dL_law_19 rfl hl (by decide) rfl (fun ls hl => ?_)
  refine lv_iconst (v := 1) hx hb dL_law_20 (by decide) ?_
  refine va_newa (atype := .double) (a0 := (1, .inr (.inr (.inr (.inl (fun _ => 0)))))) hx hb (hts (.arrayClass .double) (lx_1223)) rfl hK hP hD hS hA (fun cA => rfl) (by decide) (by decide) (by decide) (Nat.le_of_ble_eq_true rfl) (Nat.le_of_ble_eq_true rfl) dL_law_21 (fun od cB H hKcB hP hD hS => ?_)
  refine lv_astore (lv' := [(4, .ref od), (3, .ref o), (2, .ref h0), (1, .ref (ad 0)), (0, .ref b)]) hx hb dL_law_23 hl (by decide) rfl (fun ls hl => ?_)
  refine lv_iconst (v := 0) hx hb dL_law_25 (by decide) ?_
  refine lv_istore (lv' := [(5, .int 0), (4, .ref od), (3, .ref o), (2, .ref h0), (1, .ref (ad 0)), (0, .ref b)]) hx hb dL_law_26 hl (by decide) rfl (fun ls hl => ?_)
  have hKW : va_K (dC, dI) vwCl [(cI, .int), (cJ, .long)] s := hKcJ
  have hKB : va_K (dC, dI) vwCl [(cI, .int), (cB, .double)] s := hKcB
  have hPW := (pre_P hP).swap
  have hDW := (pre_D hD).swap
  have hPB := (pre_P hP.swap).swap
  have hDB := (pre_D hD.swap).swap
  refine lv_iload hx hb dL_law_28 (lv_at hl 0 rfl) ?_
  refine lv_aload_n hx hb dL_law_30 rfl (lv_at hl 5 rfl) ?_
  refine va_slen hx hb hX hbl hbA hS dL_law_31 ?_
  refine lv_bipush (v := 7) hx hb dL_law_32 (by decide) ?_
  refine lv_isub hx hb dL_law_34 ?_
  refine W.widen (k := 400) (n := 10000) (Nat.le_of_ble_eq_true rfl) (Nat.le_of_ble_eq_true rfl) ?_
  rcases (show L = 7 ∨ L = 0 ∨ L = 1 ∨ L = 2 ∨ L = 3 ∨ L = 4 ∨ L = 5 ∨ L = 6 by omega) with rfl | rfl | rfl | rfl | rfl | rfl | rfl | rfl
  · refine lv_icmp_gt (tgt := 2124) hx hb dL_law_35 (by decide) (fun c_0 => ?_) (fun c_0 => ?_)
    · exact absurd c_0 (by decide)
    · refine lv_aload_n hx hb dL_law_38 rfl (lv_at hl 5 rfl) ?_
      refine lv_iload hx hb dL_law_39 (lv_at hl 0 rfl) ?_
      refine va_sld hx hb hX hbl hbA hS (by unfold vp_in; decide) dL_law_41 ?_
      refine lv_bipush (v := 31) hx hb dL_law_42 (by decide) ?_
      refine lv_iand hx hb dL_law_44 ?_
      refine lv_topi (fun y ey => ?_)
      obtain ⟨j, hj, ej⟩ := pk_andE (xs (Int32.toNatClampNeg 0)) (m := 31) 5 (by decide)
      rw [ej] at ey
      rcases (show j = 0 ∨ j = 1 ∨ j = 2 ∨ j = 3 ∨ j = 4 ∨ j = 5 ∨ j = 6 ∨ j = 7 ∨ j = 8 ∨ j = 9 ∨ j = 10 ∨ j = 11 ∨ j = 12 ∨ j = 13 ∨ j = 14 ∨ j = 15 ∨ j = 16 ∨ j = 17 ∨ j = 18 ∨ j = 19 ∨ j = 20 ∨ j = 21 ∨ j = 22 ∨ j = 23 ∨ j = 24 ∨ j = 25 ∨ j = 26 ∨ j = 27 ∨ j = 28 ∨ j = 29 ∨ j = 30 ∨ j = 31 by omega) with rfl | rfl | rfl | rfl | rfl | rfl | rfl | rfl | rfl | rfl | rfl | rfl | rfl | rfl | rfl | rfl | rfl | rfl | rfl | rfl | rfl | rfl | rfl | rfl | rfl | rfl | rfl | rfl | rfl | rfl | rfl | rfl
      · rw [ey]
        refine lv_tableIn (off := 115) (tgt := 160) hx hb dL_law_45 (by decide) (by decide) (by decide) (by decide) ?_
        exact law_zone hfl C0 hN hE hZ hKW hKM hPW hDW hS hl
      · rw [ey]
        refine lv_tableIn (off := 183) (tgt := 228) hx hb dL_law_45 (by decide) (by decide) (by decide) (by decide) ?_
        exact law_carrier hfl C0 hN hE hZ hKW hKM hPW hDW hS hl
      · rw [ey]
        refine lv_tableIn (off := 251) (tgt := 296) hx hb dL_law_45 (by decide) (by decide) (by decide) (by decide) ?_
        exact law_tariff hfl C0 hN hE hZ hKW hKM hPW hDW hS hl
      · rw [ey]
        refine lv_tableIn (off := 355) (tgt := 400) hx hb dL_law_45 (by decide) (by decide) (by decide) (by decide) ?_
        exact law_card hfl C0 hN hE hZ hKW hKM hPW hDW hS hl
      · rw [ey]
        refine lv_tableIn (off := 399) (tgt := 444) hx hb dL_law_45 (by decide) (by decide) (by decide) (by decide) ?_
        exact law_tie hfl C0 hN hE hZ hKW hKM hPW hDW hS hl
      · rw [ey]
        refine lv_tableIn (off := 467) (tgt := 512) hx hb dL_law_45 (by decide) (by decide) (by decide) (by decide) ?_
        exact law_lose hfl C0 hN hE hZ hKW hKM hPW hDW hS hl
      · rw [ey]
        refine lv_tableIn (off := 558) (tgt := 603) hx hb dL_law_45 (by decide) (by decide) (by decide) (by decide) ?_
        exact law_pay hfl C0 hN hE hZ hKW hKM hPW hDW hS hl
      · rw [ey]
        refine lv_tableIn (off := 626) (tgt := 671) hx hb dL_law_45 (by decide) (by decide) (by decide) (by decide) ?_
        exact law_late hfl C0 hN hE hZ hKW hKM hPW hDW hS hl
      · rw [ey]
        refine lv_tableIn (off := 706) (tgt := 751) hx hb dL_law_45 (by decide) (by decide) (by decide) (by decide) ?_
        exact law_tap hfl C0 hN hE hZ hKW hKM hPW hDW hS hl
      · rw [ey]
        refine lv_tableIn (off := 840) (tgt := 885) hx hb dL_law_45 (by decide) (by decide) (by decide) (by decide) ?_
        exact law_close hfl C0 hN hE hZ hKW hKM hPW hDW hS hl
      · rw [ey]
        refine lv_tableIn (off := 884) (tgt := 929) hx hb dL_law_45 (by decide) (by decide) (by decide) (by decide) ?_
        exact law_settle hfl C0 hN hE hZ hKW hKM hPW hDW hS hl
      · rw [ey]
        refine lv_tableIn (off := 952) (tgt := 997) hx hb dL_law_45 (by decide) (by decide) (by decide) (by decide) ?_
        exact law_refund hfl C0 hN hE hZ hKW hKM hPW hDW hS hl
      · rw [ey]
        refine lv_tableIn (off := 1032) (tgt := 1077) hx hb dL_law_45 (by decide) (by decide) (by decide) (by decide) ?_
        exact law_ofCard hfl C0 hN hE hZ hKW hKM hPW hDW hS hl
      · rw [ey]
        refine lv_tableIn (off := 1100) (tgt := 1145) hx hb dL_law_45 (by decide) (by decide) (by decide) (by decide) ?_
        exact law_ofDay hfl C0 hN hE hZ hKW hKM hPW hDW hS hl
      · rw [ey]
        refine lv_tableIn (off := 1180) (tgt := 1225) hx hb dL_law_45 (by decide) (by decide) (by decide) (by decide) ?_
        exact law_ofLeg hfl C0 hN hE hZ hKW hKM hPW hDW hS hl
      · rw [ey]
        refine lv_tableIn (off := 1272) (tgt := 1317) hx hb dL_law_45 (by decide) (by decide) (by decide) (by decide) ?_
        exact law_ofJourney hfl C0 hN hE hZ hKW hKM hPW hDW hS hl
      · rw [ey]
        refine lv_tableIn (off := 1364) (tgt := 1409) hx hb dL_law_45 (by decide) (by decide) (by decide) (by decide) ?_
        exact law_ofWeek hfl C0 hN hE hZ hKW hKM hPW hDW hS hl
      · rw [ey]
        refine lv_tableIn (off := 1444) (tgt := 1489) hx hb dL_law_45 (by decide) (by decide) (by decide) (by decide) ?_
        exact law_share hfl C0 hN hE hZ hKW hKM hPW hDW hS hl
      · rw [ey]
        refine lv_tableIn (off := 1524) (tgt := 1569) hx hb dL_law_45 (by decide) (by decide) (by decide) (by decide) ?_
        exact law_check hfl C0 hN hE hZ hKW hKM hPW hDW hS hl
      · rw [ey]
        refine lv_tableIn (off := 1604) (tgt := 1649) hx hb dL_law_45 (by decide) (by decide) (by decide) (by decide) ?_
        exact law_many hfl C0 hN hE hZ hKW hKM hPW hDW hS hl
      · rw [ey]
        refine lv_tableIn (off := 1660) (tgt := 1705) hx hb dL_law_45 (by decide) (by decide) (by decide) (by decide) ?_
        exact law_meanFare hfl C0 hN hE hZ hKB hKM hPB hDB hS hl
      · rw [ey]
        refine lv_tableIn (off := 1737) (tgt := 1782) hx hb dL_law_45 (by decide) (by decide) (by decide) (by decide) ?_
        exact law_wouldCost hfl C0 hN hE hZ hKW hKM hPW hDW hS hl
      · rw [ey]
        refine lv_tableIn (off := 1871) (tgt := 1916) hx hb dL_law_45 (by decide) (by decide) (by decide) (by decide) ?_
        exact law_guess hfl C0 hN hE hZ hKW hKM hPW hDW hS hl
      · rw [ey]
        refine lv_tableIn (off := 1979) (tgt := 2024) hx hb dL_law_45 (by decide) (by decide) (by decide) (by decide) ?_
        exact law_worth hfl C0 hN hE hZ hKW hKM hPW hDW hS hl
      · rw [ey]
        refine lv_tableIn (off := 2059) (tgt := 2104) hx hb dL_law_45 (by decide) (by decide) (by decide) (by decide) ?_
        exact law_digest hfl C0 hN hE hZ hKW hKM hPW hDW hS hl
      · rw [ey]
        refine lv_tableOut (tgt := 2118) hx hb dL_law_45 (by decide) (by decide) ?_
        exact law_tail C0 hS (lv_sub hl [0, 5] rfl)
      · rw [ey]
        refine lv_tableOut (tgt := 2118) hx hb dL_law_45 (by decide) (by decide) ?_
        exact law_tail C0 hS (lv_sub hl [0, 5] rfl)
      · rw [ey]
        refine lv_tableOut (tgt := 2118) hx hb dL_law_45 (by decide) (by decide) ?_
        exact law_tail C0 hS (lv_sub hl [0, 5] rfl)
      · rw [ey]
        refine lv_tableOut (tgt := 2118) hx hb dL_law_45 (by decide) (by decide) ?_
        exact law_tail C0 hS (lv_sub hl [0, 5] rfl)
      · rw [ey]
        refine lv_tableOut (tgt := 2118) hx hb dL_law_45 (by decide) (by decide) ?_
        exact law_tail C0 hS (lv_sub hl [0, 5] rfl)
      · rw [ey]
        refine lv_tableOut (tgt := 2118) hx hb dL_law_45 (by decide) (by decide) ?_
        exact law_tail C0 hS (lv_sub hl [0, 5] rfl)
      · rw [ey]
        refine lv_tableOut (tgt := 2118) hx hb dL_law_45 (by decide) (by decide) ?_
        exact law_tail C0 hS (lv_sub hl [0, 5] rfl)
  · refine lv_icmp_gt (tgt := 2124) hx hb dL_law_35 (by decide) (fun c_0 => ?_) (fun c_0 => ?_)
    · refine lv_iconst (v := 1) hx hb dL_law_2124 (by decide) ?_
      refine va_forget (fun q hq => hS.2.2 q hq) ?_
      refine W.widen (k := 600002) (n := 7302232) (Nat.le_of_ble_eq_true rfl) (Nat.le_of_ble_eq_true rfl) ?_
      refine W.base ?_
      exact lw_ret (Drawn.sameBut.refl s.drawn lw_cs) hx hb hr hlocks dL_law_2125
    · exact absurd (by decide) c_0
  · refine lv_icmp_gt (tgt := 2124) hx hb dL_law_35 (by decide) (fun c_0 => ?_) (fun c_0 => ?_)
    · refine lv_iconst (v := 1) hx hb dL_law_2124 (by decide) ?_
      refine va_forget (fun q hq => hS.2.2 q hq) ?_
      refine W.widen (k := 600002) (n := 7302232) (Nat.le_of_ble_eq_true rfl) (Nat.le_of_ble_eq_true rfl) ?_
      refine W.base ?_
      exact lw_ret (Drawn.sameBut.refl s.drawn lw_cs) hx hb hr hlocks dL_law_2125
    · exact absurd (by decide) c_0
  · refine lv_icmp_gt (tgt := 2124) hx hb dL_law_35 (by decide) (fun c_0 => ?_) (fun c_0 => ?_)
    · refine lv_iconst (v := 1) hx hb dL_law_2124 (by decide) ?_
      refine va_forget (fun q hq => hS.2.2 q hq) ?_
      refine W.widen (k := 600002) (n := 7302232) (Nat.le_of_ble_eq_true rfl) (Nat.le_of_ble_eq_true rfl) ?_
      refine W.base ?_
      exact lw_ret (Drawn.sameBut.refl s.drawn lw_cs) hx hb hr hlocks dL_law_2125
    · exact absurd (by decide) c_0
  · refine lv_icmp_gt (tgt := 2124) hx hb dL_law_35 (by decide) (fun c_0 => ?_) (fun c_0 => ?_)
    · refine lv_iconst (v := 1) hx hb dL_law_2124 (by decide) ?_
      refine va_forget (fun q hq => hS.2.2 q hq) ?_
      refine W.widen (k := 600002) (n := 7302232) (Nat.le_of_ble_eq_true rfl) (Nat.le_of_ble_eq_true rfl) ?_
      refine W.base ?_
      exact lw_ret (Drawn.sameBut.refl s.drawn lw_cs) hx hb hr hlocks dL_law_2125
    · exact absurd (by decide) c_0
  · refine lv_icmp_gt (tgt := 2124) hx hb dL_law_35 (by decide) (fun c_0 => ?_) (fun c_0 => ?_)
    · refine lv_iconst (v := 1) hx hb dL_law_2124 (by decide) ?_
      refine va_forget (fun q hq => hS.2.2 q hq) ?_
      refine W.widen (k := 600002) (n := 7302232) (Nat.le_of_ble_eq_true rfl) (Nat.le_of_ble_eq_true rfl) ?_
      refine W.base ?_
      exact lw_ret (Drawn.sameBut.refl s.drawn lw_cs) hx hb hr hlocks dL_law_2125
    · exact absurd (by decide) c_0
  · refine lv_icmp_gt (tgt := 2124) hx hb dL_law_35 (by decide) (fun c_0 => ?_) (fun c_0 => ?_)
    · refine lv_iconst (v := 1) hx hb dL_law_2124 (by decide) ?_
      refine va_forget (fun q hq => hS.2.2 q hq) ?_
      refine W.widen (k := 600002) (n := 7302232) (Nat.le_of_ble_eq_true rfl) (Nat.le_of_ble_eq_true rfl) ?_
      refine W.base ?_
      exact lw_ret (Drawn.sameBut.refl s.drawn lw_cs) hx hb hr hlocks dL_law_2125
    · exact absurd (by decide) c_0
  · refine lv_icmp_gt (tgt := 2124) hx hb dL_law_35 (by decide) (fun c_0 => ?_) (fun c_0 => ?_)
    · refine lv_iconst (v := 1) hx hb dL_law_2124 (by decide) ?_
      refine va_forget (fun q hq => hS.2.2 q hq) ?_
      refine W.widen (k := 600002) (n := 7302232) (Nat.le_of_ble_eq_true rfl) (Nat.le_of_ble_eq_true rfl) ?_
      refine W.base ?_
      exact lw_ret (Drawn.sameBut.refl s.drawn lw_cs) hx hb hr hlocks dL_law_2125
    · exact absurd (by decide) c_0
