set_option maxHeartbeats 4000000 in
set_option maxRecDepth 100000 in
theorem kL_isTurned (l : Launch) (D : va_G) (sz b : Nat) (ad : Nat → Nat) (o9 : Nat) (y : tA) (cI cO : ClassId) (g : tG) (dr : Nat) (cd : Int32) (nf n n' : Nat) (hg : TLD g nf) (hnf1 : 1 ≤ nf) (hnf : nf ≤ 5) (hv : VAL g n' 3) (per : PER g) (tp : TAPS g n) (hn : n ≤ 40) (hnn : n ≤ n') (hd9 : ∀ a, n ≤ a → a < n' → ∃ d, 10 ≤ d ∧ d < 28 ∧ g 17 a = nI d) : Met l yL_isTurned wsL_isTurned ({ frames := 8, cells := 99, slots := 2268, locals := 230 } : Room) (i_P D (tY_T cI cO) (tW ad o9 y b cI cO g dr cd nf n) [.ref o9] sz) (va_Qi (fun r (u : tG) => r = 1 ∧ KEEP g u) (fun u t => g_B D (tY_T cI cO) (va_A (tW ad o9 y b cI cO g dr cd nf n) sz) (tW ad o9 y b cI cO u dr cd nf n) t) (va_A (tW ad o9 y b cI cO g dr cd nf n) sz)) 99 2268 (va_A (tW ad o9 y b cI cO g dr cd nf n) sz) := by
  refine Met.ofW (cc := cL_isTurned) (maxL := 7) (ret := (some .boolean)) (by decide) rfl ?_
  intro p e s m args below meth c9 s₁ B hml hv9
  obtain ⟨rfl, ⟨hT, hAO⟩, hsz, hP, hK, hD0⟩ := hv9
  have hx := B.exec
  have hb := B.bytes
  have hr := B.returns
  have hts := atoms_spec (ws := wsL_isTurned) B.pre
  have hown : s.vm.findClass RL = some m.cls := findClass_of_methodNamed B.named
  have hlocks := B.notSynchronized
  subst hsz
  have hD := hD0.self (sz := s.heap.size)
  generalize hAe : va_A (tW ad o9 y b cI cO g dr cd nf n) s.heap.size = A at hD ⊢
  have hA : ∀ q : Nat, s.heap.size ≤ q → A q := fun q h => by rw [← hAe]; exact Or.inr h
  have hS : va_S A s.heap s.heap [] := va_S.rf
  have hl := lv_entry ([.ref o9]) (n := 7) (Nat.le_of_ble_eq_true rfl)
  rw [lg_entry_eq]
  generalize (lg_sl ([.ref o9]) ++ List.replicate (7 - (lg_sl ([.ref o9])).length) Slot.unset).toArray = ls at hl ⊢
  have hl : lv_has ls 7 [(0, .ref o9)] := hl
  have winX8 : ∀ w ∈ u_ws RX8 TX8 9, w ∈ wsL_isTurned := by decide +kernel
  have winX9 : ∀ w ∈ u_ws RX9 TX9 9, w ∈ wsL_isTurned := by decide +kernel
  refine va_new (ci := 8) (fs := [.null, .null, .null, .null, .null, .null, .null, .int 0, .int 0]) (C := RX8) (T := TX8) (N := 9) hx hb hts winX8 tyX8 tyX8_ok hown (hts (.classLink RL 23 RX8) (List.mem_of_getElem? (i := 5) rfl)) (hts (.instantiable RX8 9) (List.mem_of_getElem? (i := 6) rfl)) (hts (.initialized RX8) (List.mem_of_getElem? (i := 7) rfl)) hK hP hD hS hA rfl (fun j hj => by rcases (show j = 0 ∨ j = 1 ∨ j = 2 ∨ j = 3 ∨ j = 4 ∨ j = 5 ∨ j = 6 ∨ j = 7 ∨ j = 8 by omega) with rfl | rfl | rfl | rfl | rfl | rfl | rfl | rfl | rfl <;> rfl) (Nat.le_of_ble_eq_true rfl) (Nat.le_of_ble_eq_true rfl) dL_isTurned_0 (fun q8 H hP hD hS => ?_)
  have hP := swap_P hP
  have hD := swap_D hD
  have hK8 := hK.sub (tys' := [(cI, .int)]) [0] rfl
  refine lv_dup hx hb dL_isTurned_3 rfl ?_
  refine t_kn (a := [(q8, .inr (8, [.null, .null, .null, .null, .null, .null, .null, .int 0, .int 0]))]) hP hD hS hA (va_runI (As := []) (rest := [.ref q8]) ⟨hx, hb, hml, hown, hts⟩ (c_TapCap_init l D H.size q8 cI) (cwI 0 hts gL_isTurned_X8_init rfl rfl rfl (hts (.initialized RX8) (List.mem_of_getElem? (i := 7) rfl)) (hts (.methodLink RL 74 yX8_init) (List.mem_of_getElem? (i := 8) rfl)) (hts (.instanceMethod yX8_init) (List.mem_of_getElem? (i := 9) rfl)) rfl (by decide +kernel) ⟨Nat.le_of_ble_eq_true rfl, Nat.le_of_ble_eq_true rfl⟩) (tc_preS hT hK8 (pre_P hP) (pre_D hD)) rfl rfl hl.1 rfl (lv_room (Nat.le_of_ble_eq_true rfl)) dL_isTurned_4 ⟨Nat.le_of_ble_eq_true rfl, Nat.le_of_ble_eq_true rfl⟩) (fun u H locs hP hD hS => ?_)
  obtain ⟨ad3, had⟩ : ∃ z : Nat → Nat, z = (fun k => if k = 0 then q8 else u (k - 1)) := ⟨_, rfl⟩
  rw [← had] at hP hD
  have h0 : q8 = ad3 0 := by rw [had]; rfl
  rw [h0]
  have hP : va_P D vwCl (tcW ad3 cI tc_0 ++ (tW ad o9 y b cI cO g dr cd nf n ++ ([] : va_W))) H := by rw [List.append_nil]; exact hP
  have hD : va_D A (tcW ad3 cI tc_0 ++ (tW ad o9 y b cI cO g dr cd nf n ++ ([] : va_W))) := by rw [List.append_nil]; exact hD
  have st0 := STG_0
  refine lv_astore_n (lv' := [(1, .ref (ad3 0)), (0, .ref o9)]) hx hb dL_isTurned_7 rfl hl (by decide) rfl (fun ls hl => ?_)
  refine lv_iconst (v := 0) hx hb dL_isTurned_8 (by decide) ?_
  refine lv_istore_n (lv' := [(2, .int 0), (1, .ref (ad3 0)), (0, .ref o9)]) hx hb dL_isTurned_9 rfl hl (by decide) rfl (fun ls hl => ?_)
  refine lv_iload_n hx hb dL_isTurned_10 rfl (lv_at hl 0 rfl) ?_
  refine lv_iconst (v := 3) hx hb dL_isTurned_11 (by decide) ?_
  refine lv_icmp_ge (tgt := 26) hx hb dL_isTurned_12 (by decide) (fun c9 => absurd c9 (by decide)) (fun c9 => ?_)
  refine lv_aload_n hx hb dL_isTurned_15 rfl (lv_at hl 1 rfl) ?_
  obtain ⟨-, st1, -⟩ := card_step st0 (by decide)
  have hK8 := hK.sub (tys' := [(cI, .int)]) [0] rfl
  refine t_ki hP hD hS hA (va_runV (As := []) (rest := []) ⟨hx, hb, hml, hown, hts⟩ (kX8_card l D ad3 cI tc_0 H.size (by rw [st0.1]; decide)) (cwV 0 hts gL_isTurned_X8_card rfl rfl rfl (by decide +kernel) ⟨Nat.le_of_ble_eq_true rfl, Nat.le_of_ble_eq_true rfl⟩) (g_preV hK8 (pre_P hP) (pre_D hD) (ci := 8) (q0 := 0) rfl rfl) rfl rfl hl.1 rfl (lv_room (Nat.le_of_ble_eq_true rfl)) dL_isTurned_16 ⟨Nat.le_of_ble_eq_true rfl, Nat.le_of_ble_eq_true rfl⟩) (fun H locs hP hD hS => ?_)
  obtain ⟨h1, f1⟩ : ∃ z, z = fX8_card_w tc_0 := ⟨_, rfl⟩
  rw [← f1] at hP hD st1
  refine lv_pop hx hb dL_isTurned_19 rfl ?_
  refine lv_iinc (v := 1) (lv' := [(2, .int 1), (1, .ref (ad3 0)), (0, .ref o9)]) hx hb dL_isTurned_20 hl (k := 0) rfl (by decide) (by decide) rfl (fun ls hl => ?_)
  refine lv_goto (tgt := 10) hx hb dL_isTurned_23 (by decide) ?_
  refine lv_iload_n hx hb dL_isTurned_10 rfl (lv_at hl 0 rfl) ?_
  refine lv_iconst (v := 3) hx hb dL_isTurned_11 (by decide) ?_
  refine lv_icmp_ge (tgt := 26) hx hb dL_isTurned_12 (by decide) (fun c9 => absurd c9 (by decide)) (fun c9 => ?_)
  refine lv_aload_n hx hb dL_isTurned_15 rfl (lv_at hl 1 rfl) ?_
  obtain ⟨-, st2, -⟩ := card_step st1 (by decide)
  have hK8 := hK.sub (tys' := [(cI, .int)]) [0] rfl
  refine t_ki hP hD hS hA (va_runV (As := []) (rest := []) ⟨hx, hb, hml, hown, hts⟩ (kX8_card l D ad3 cI h1 H.size (by rw [st1.1]; decide)) (cwV 0 hts gL_isTurned_X8_card rfl rfl rfl (by decide +kernel) ⟨Nat.le_of_ble_eq_true rfl, Nat.le_of_ble_eq_true rfl⟩) (g_preV hK8 (pre_P hP) (pre_D hD) (ci := 8) (q0 := 0) rfl rfl) rfl rfl hl.1 rfl (lv_room (Nat.le_of_ble_eq_true rfl)) dL_isTurned_16 ⟨Nat.le_of_ble_eq_true rfl, Nat.le_of_ble_eq_true rfl⟩) (fun H locs hP hD hS => ?_)
  obtain ⟨h2, f2⟩ : ∃ z, z = fX8_card_w h1 := ⟨_, rfl⟩
  rw [← f2] at hP hD st2
  refine lv_pop hx hb dL_isTurned_19 rfl ?_
  refine lv_iinc (v := 2) (lv' := [(2, .int 2), (1, .ref (ad3 0)), (0, .ref o9)]) hx hb dL_isTurned_20 hl (k := 0) rfl (by decide) (by decide) rfl (fun ls hl => ?_)
  refine lv_goto (tgt := 10) hx hb dL_isTurned_23 (by decide) ?_
  refine lv_iload_n hx hb dL_isTurned_10 rfl (lv_at hl 0 rfl) ?_
  refine lv_iconst (v := 3) hx hb dL_isTurned_11 (by decide) ?_
  refine lv_icmp_ge (tgt := 26) hx hb dL_isTurned_12 (by decide) (fun c9 => absurd c9 (by decide)) (fun c9 => ?_)
  refine lv_aload_n hx hb dL_isTurned_15 rfl (lv_at hl 1 rfl) ?_
  obtain ⟨-, st3, -⟩ := card_step st2 (by decide)
  have hK8 := hK.sub (tys' := [(cI, .int)]) [0] rfl
  refine t_ki hP hD hS hA (va_runV (As := []) (rest := []) ⟨hx, hb, hml, hown, hts⟩ (kX8_card l D ad3 cI h2 H.size (by rw [st2.1]; decide)) (cwV 0 hts gL_isTurned_X8_card rfl rfl rfl (by decide +kernel) ⟨Nat.le_of_ble_eq_true rfl, Nat.le_of_ble_eq_true rfl⟩) (g_preV hK8 (pre_P hP) (pre_D hD) (ci := 8) (q0 := 0) rfl rfl) rfl rfl hl.1 rfl (lv_room (Nat.le_of_ble_eq_true rfl)) dL_isTurned_16 ⟨Nat.le_of_ble_eq_true rfl, Nat.le_of_ble_eq_true rfl⟩) (fun H locs hP hD hS => ?_)
  obtain ⟨h3, f3⟩ : ∃ z, z = fX8_card_w h2 := ⟨_, rfl⟩
  rw [← f3] at hP hD st3
  refine lv_pop hx hb dL_isTurned_19 rfl ?_
  refine lv_iinc (v := 3) (lv' := [(2, .int 3), (1, .ref (ad3 0)), (0, .ref o9)]) hx hb dL_isTurned_20 hl (k := 0) rfl (by decide) (by decide) rfl (fun ls hl => ?_)
  refine lv_goto (tgt := 10) hx hb dL_isTurned_23 (by decide) ?_
  refine lv_iload_n hx hb dL_isTurned_10 rfl (lv_at hl 0 rfl) ?_
  refine lv_iconst (v := 3) hx hb dL_isTurned_11 (by decide) ?_
  refine lv_icmp_ge (tgt := 26) hx hb dL_isTurned_12 (by decide) (fun c9 => ?_) (fun c9 => absurd (by decide) c9)
  refine lv_iconst (v := 0) hx hb dL_isTurned_26 (by decide) ?_
  refine lv_istore_n (lv' := [(2, .int 0), (1, .ref (ad3 0)), (0, .ref o9)]) hx hb dL_isTurned_27 rfl hl (by decide) rfl (fun ls hl => ?_)
  refine s_tur_zone hx hb hml hts hown hA hK (by decide) (by decide) hg.2.2.1 10 0 h3 H locs ls rfl st3 (fun i hi => absurd hi (Nat.not_lt_zero i)) (lv_sub hl [0, 2, 1] rfl) hP hD hS (fun h H locs ls st h0_ hl hP hD hS => ?_)
  refine lv_iconst (v := 1) hx hb dL_isTurned_52 (by decide) ?_
  refine lv_istore_n (lv' := [(2, .int 1), (0, .ref o9), (1, .ref (ad3 0))]) hx hb dL_isTurned_53 rfl hl (by decide) rfl (fun ls hl => ?_)
  refine s_tur_tar hx hb hml hts hown hA hK (by decide) (by decide) hg hnf (nf - 1) 1 h H locs ls (by omega) (by decide) st h0_ (fun w hw i hi => ?_) (lv_sub hl [0, 1, 2] rfl) hP hD hS (fun h H locs ls st h0_ ht hl hP hD hS => ?_)
  · have e9 : i = 0 := by omega
    rw [e9, st.2.2.2.2.2.2.2.1.2 w hw 0 (Or.inl rfl), hg.2.2.2.1.2 w hw 0 (Or.inl rfl)]
  refine lv_iconst (v := 3) hx hb dL_isTurned_114 (by decide) ?_
  refine va_newa (atype := .boolean) (a0 := (3, .inl (fun _ => 0))) hx hb (hts (.arrayClass .boolean) (List.mem_of_getElem? (i := 10) rfl)) rfl hK hP hD hS hA (fun cA => rfl) (by decide) (by decide) (by decide) (Nat.le_of_ble_eq_true rfl) (Nat.le_of_ble_eq_true rfl) dL_isTurned_115 (fun qz cZ H hK3 hP hD hS => ?_)
  have hP : va_P D vwCl (tcW ad3 cI h ++ (tW ad o9 y b cI cO g dr cd nf n ++ [(qz, .inl (cZ, 3, .inl (fun _ => 0)))])) H := by rw [← List.append_assoc]; rw [List.append_nil] at hP; exact hP
  have hD : va_D A (tcW ad3 cI h ++ (tW ad o9 y b cI cO g dr cd nf n ++ [(qz, .inl (cZ, 3, .inl (fun _ => 0)))])) := by rw [← List.append_assoc]; rw [List.append_nil] at hD; exact hD
  have hK : va_K D vwCl (tZ_T cI cO cZ) s := hK3
  refine lv_astore_n (lv' := [(2, .ref qz), (0, .ref o9), (1, .ref (ad3 0))]) hx hb dL_isTurned_117 rfl hl (by decide) rfl (fun ls hl => ?_)
  refine lv_aload_n hx hb dL_isTurned_118 rfl (lv_at hl 1 rfl) ?_
  refine va_get (D := D) (ci := 9) (v := .ref y.aP) (C := RX9) (T := TX9) (N := 9) hx hb hts winX9 hown hK hP (98 + 98) (w3_at tW_o) rfl 8 (by decide) (hts (.fieldLink RL 93 "TapCapLaw$Told" "taps" "[[I") (List.mem_of_getElem? (i := 3) rfl)) (fun _ h9 => h9) rfl dL_isTurned_119 ?_
  refine va_alen hx hb hK hP (98 + 101) 1 (w3_at tW_p) rfl (v := nI n) rfl dL_isTurned_122 ?_
  refine lv_iconst (v := 1) hx hb dL_isTurned_123 (by decide) ?_
  refine lv_isub hx hb dL_isTurned_124 ?_
  refine lv_istore_n (lv' := [(3, .int (nI n - 1)), (2, .ref qz), (0, .ref o9), (1, .ref (ad3 0))]) hx hb dL_isTurned_125 rfl hl (by decide) rfl (fun ls hl => ?_)
  refine s_tur_taps hx hb hml hts hown hA hK (by decide) (by decide) hn tp n h (fun _ => 0) H locs ls (Nat.le_refl n) (by rw [Nat.sub_self]; exact re_0 st hg h0_ ht) (fun a ha han => absurd ha (by omega)) (lv_sub hl [0, 1, 2, 3] rfl) hP hD hS (fun h f H locs ls r mx hl hP hD hS => ?_)
  refine lv_iconst (v := 0) hx hb dL_isTurned_252 (by decide) ?_
  refine lv_istore_n (lv' := [(3, .int 0), (2, .ref qz), (0, .ref o9), (1, .ref (ad3 0))]) hx hb dL_isTurned_253 rfl hl (by decide) rfl (fun ls hl => ?_)
  refine s_chk_all hx hb hml hts hown hA hK (g0 := g) (by decide) (by decide) 3 0 g h H locs ls rfl ⟨KEEP.rf, re_turn r hv hnn hd9, fun p hp h9 => unmix_of tp per mx hp h9, per, r.2.1⟩ (lv_sub hl [0, 1, 2, 3] rfl) hP hD hS (fun g' h H locs ls ck hP hD hS => ?_)
  refine lv_iconst (v := 1) hx hb dL_isTurned_397 (by decide) ?_
  have hP1 : va_P D vwCl (tW ad o9 y b cI cO g' dr cd nf n ++ [(qz, .inl (cZ, 3, .inl f))]) H := pre_P (swap_P hP)
  have hD1 : va_D A (tW ad o9 y b cI cO g' dr cd nf n ++ [(qz, .inl (cZ, 3, .inl f))]) := pre_D (swap_D hD)
  have hK2 := hK.sub (tys' := tY_T cI cO) [0, 1] rfl
  refine W.widen (k := 99) (n := 2268) (by decide) (by decide) ?_
  exact W.zret hx hb hr narrow_z1 (fun t ht hW => ⟨⟨1, g', rfl, ⟨rfl, ck.1⟩, by rw [ht]; exact pre_P hP1, va_K.moved hW.alike hK2, pre_D hD1⟩, hS.F ht⟩) hS.2.2 dL_isTurned_398 hlocks
