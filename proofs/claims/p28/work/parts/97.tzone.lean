set_option maxHeartbeats 4000000 in
set_option maxRecDepth 100000 in
theorem kX9_zone (l : Launch) (D : va_G) (sz b : Nat) (ad : Nat → Nat) (o9 : Nat) (y : tA) (cI cO : ClassId) (g : tG) (dr : Nat) (cd : Int32) (nf n : Nat) (s0 : Nat) (z0 : Int32) (hs : s0 < 10) (hz : in_R z0 1 4) : Met l yX9_zone wsX9_zone ({ frames := 2, cells := 0, slots := 0, locals := 60 } : Room) (g_P D (tY_T cI cO) (tW ad o9 y b cI cO g dr cd nf n) [.ref o9, .int ((nI s0)), .int z0] sz) (g_Qi D (tY_T cI cO) (va_A (tW ad o9 y b cI cO g dr cd nf n) sz) (tW ad o9 y b cI cO (fX8_zone_w g (nI s0) z0) dr cd nf n) 1) 0 0 (va_A (tW ad o9 y b cI cO g dr cd nf n) sz) := by
  refine Met.ofW (cc := cX9_zone) (maxL := 4) (ret := (some .boolean)) (by decide) rfl ?_
  intro p e s m args below meth c9 s₁ B hml hv
  obtain ⟨rfl, hsz, hP, hK, hD0⟩ := hv
  have hx := B.exec
  have hb := B.bytes
  have hr := B.returns
  have hts := atoms_spec (ws := wsX9_zone) B.pre
  have hown : s.vm.findClass RX9 = some m.cls := findClass_of_methodNamed B.named
  have hlocks := B.notSynchronized
  subst hsz
  have hD := hD0.self (sz := s.heap.size)
  generalize hAe : va_A (tW ad o9 y b cI cO g dr cd nf n) s.heap.size = A at hD ⊢
  have hA : ∀ q : Nat, s.heap.size ≤ q → A q := fun q h => by rw [← hAe]; exact Or.inr h
  have hS : va_S A s.heap s.heap [] := va_S.rf
  have hl := lv_entry ([.ref o9, .int ((nI s0)), .int z0]) (n := 4) (Nat.le_of_ble_eq_true rfl)
  rw [lg_entry_eq]
  generalize (lg_sl ([.ref o9, .int ((nI s0)), .int z0]) ++ List.replicate (4 - (lg_sl ([.ref o9, .int ((nI s0)), .int z0])).length) Slot.unset).toArray = ls at hl ⊢
  have hl : lv_has ls 4 [(0, .ref o9), (1, .int ((nI s0))), (2, .int z0)] := hl
  have winX9 : ∀ w ∈ u_ws RX9 TX9 9, w ∈ wsX9_zone := by decide +kernel
  have el : (nI s0).toNatClampNeg = s0 := nI_clamp (by omega)
  have hin : vp_in (nI s0) 10 := fun q => by rcases q with q | q; exact nI_pos (by omega) q; rw [el] at q; omega
  have hN1 : in_N (nI s0) 10 := ⟨nI_pos (by omega), by rw [Int32.lt_iff_toInt_lt, nI_toInt (by omega)]; show (s0 : Int) < 10; omega⟩
  refine lv_aload_n hx hb dX9_zone_0 rfl (lv_at hl 0 rfl) ?_
  refine va_get (D := D) (ci := 9) (v := .ref y.aZ) (C := RX9) (T := TX9) (N := 9) hx hb hts winX9 hown hK hP 98 rfl rfl 3 (by decide) (hts (.fieldLink RX9 16 "TapCapLaw$Told" "zones" "[I") (List.mem_of_getElem? (i := 1) rfl)) (fun _ h9 => h9) rfl dX9_zone_1 ?_
  refine lv_iload_n hx hb dX9_zone_4 rfl (lv_at hl 1 rfl) ?_
  refine va_iald hx hb hK hP 99 0 tW_z rfl hin dX9_zone_5 ?_
  rw [el]
  refine lv_istore_n (lv' := [(3, .int (g 0 s0)), (0, .ref o9), (1, .int ((nI s0))), (2, .int z0)]) hx hb dX9_zone_6 rfl hl (by decide) rfl (fun ls hl => ?_)
  refine lv_aload_n hx hb dX9_zone_7 rfl (lv_at hl 1 rfl) ?_
  refine va_get (D := D) (ci := 9) (v := .ref y.aZ) (C := RX9) (T := TX9) (N := 9) hx hb hts winX9 hown hK hP 98 rfl rfl 3 (by decide) (hts (.fieldLink RX9 16 "TapCapLaw$Told" "zones" "[I") (List.mem_of_getElem? (i := 1) rfl)) (fun _ h9 => h9) rfl dX9_zone_8 ?_
  refine lv_iload_n hx hb dX9_zone_11 rfl (lv_at hl 2 rfl) ?_
  refine lv_iload_n hx hb dX9_zone_12 rfl (lv_at hl 3 rfl) ?_
  refine va_iast hx hb hK hP hD hS 99 0 tW_z rfl hin dX9_zone_13 (fun H locs hP hD hS => ?_)
  rw [el] at hP hD
  have hP : va_P D vwCl (tcW ad cI g ++ tXg ad o9 y b cI cO (upd (g 0) s0 z0) dr cd nf n (tAA y.rF nf) (tAA y.rP n) (tR y cI g nf n)) H := hP
  have hD : va_D A (tcW ad cI g ++ tXg ad o9 y b cI cO (upd (g 0) s0 z0) dr cd nf n (tAA y.rF nf) (tAA y.rP n) (tR y cI g nf n)) := hD
  refine lv_aload_n hx hb dX9_zone_14 rfl (lv_at hl 1 rfl) ?_
  refine va_get (D := D) (ci := 9) (v := .ref (ad 0)) (C := RX9) (T := TX9) (N := 9) hx hb hts winX9 hown hK hP 98 rfl rfl 0 (by decide) (hts (.fieldLink RX9 10 "TapCapLaw$Told" "m" "LTapCap;") (List.mem_of_getElem? (i := 2) rfl)) (fun _ h9 => h9) rfl dX9_zone_15 ?_
  refine lv_iload_n hx hb dX9_zone_18 rfl (lv_at hl 2 rfl) ?_
  refine lv_iload_n hx hb dX9_zone_19 rfl (lv_at hl 3 rfl) ?_
  have hK8 := hK.sub (tys' := [(cI, .int)]) [0] rfl
  refine t_ki hP hD hS hA (va_runV (As := [.int (nI s0), .int z0]) (rest := []) ⟨hx, hb, hml, hown, hts⟩ (kX8_zone l D ad cI g H.size (nI s0) z0 hN1 hz) (cwV 2 hts gX9_zone_X8_zone rfl rfl rfl (by decide +kernel) ⟨Nat.le_of_ble_eq_true rfl, Nat.le_of_ble_eq_true rfl⟩) (g_preV hK8 (pre_P hP) (pre_D hD) (ci := 8) (q0 := 0) rfl rfl) rfl rfl hl.1 rfl (lv_room (Nat.le_of_ble_eq_true rfl)) dX9_zone_20 ⟨Nat.le_of_ble_eq_true rfl, Nat.le_of_ble_eq_true rfl⟩) (fun H locs hP hD hS => ?_)
  rw [tW_zone hs] at hP hD
  rw [show fX8_zone_r g (nI s0) z0 = g 0 s0 from gA_nI (j := 0) hs (by decide)]
  refine lv_iload_n hx hb dX9_zone_23 rfl (lv_at hl 0 rfl) ?_
  refine lv_icmp_ne (tgt := 31) hx hb dX9_zone_24 (by decide) (fun c1 => absurd rfl c1) (fun c1 => ?_)
  refine lv_iconst (v := 1) hx hb dX9_zone_27 (by decide) ?_
  refine lv_goto (tgt := 32) hx hb dX9_zone_28 (by decide) ?_
  exact g_iret hx hb hr narrow_z1 hlocks hK hP hD hS rfl dX9_zone_32
