/-! a tap of a Told -/
theorem p_blind {D : va_G} {tys : List (ClassId × FieldType)} {ws : va_W} {av : List Value} {sz : Nat} : FrameBlind (p_P D tys ws av sz) := by
  intro a U g mk q
  obtain ⟨q0, qN, q1, qP, qK, qD⟩ := q
  exact ⟨q0, va_AOA.of (over_moved (a := #[]) (a' := #[]) (Vm.Alike.refl U.vm) qN), q1, qP, va_K.moved (u := U) (U := U.calling g mk a) (Vm.Alike.refl U.vm) qK, qD⟩
theorem p_preV {s : State} {H : Heap} {D : va_G} {tys : List (ClassId × FieldType)} {ws : va_W} {As : List Value} {A : Nat → Prop} (hAO : va_AOA .int s) (hK : va_K D vwCl tys s) (hP : va_P D vwCl ws H) (hD : va_D A ws) {ci q0 h : Nat} {q : vw_C} {fs : List Value} (hc : vwCl[ci]? = some q) (he : ws[q0]? = some (h, .inr (ci, fs))) : PreV s H q.1 h (p_P D tys ws (.ref h :: As) H.size) As :=
  ⟨p_blind, va_recv hK hP hc he, fun U hU hW => ⟨rfl, va_AOA.of (over_moved (a := #[]) (a' := #[]) hW.alike hAO), by rw [hU], by rw [hU]; exact hP, va_K.moved hW.alike hK, hD.weaken (fun _ _ _ _ => trivial)⟩⟩
theorem g_rows {g h : tG} {n nf : Nat} (s : STAY g h n) : h 0 = g 0 ∧ (∀ w, w < 5 → ∀ i, i < nf → h (3 + w) i = g (3 + w) i) ∧ ∀ w, w < 6 → ∀ i, i < n → h (13 + w) i = g (13 + w) i :=
  ⟨s.1 0 (by decide), fun w hw i _ => by rw [s.1 (3 + w) (by omega)], fun w hw i hi => s.2.1 (13 + w) (by omega) (by omega) i hi⟩

section TT
variable {p : Program} {l : Launch} {e : Env} {s : State} {m : MethodId} {args : Array Value} {below : List Frame} {meth : Method} {c : Code} {H : Heap} {locs : List Loc} {cells slots : Nat} {Q : State → Prop}
variable {D : va_G} {A : Nat → Prop} {H0 : Heap} {ad : Nat → Nat} {o9 b : Nat} {y : tA} {cI cO : ClassId} {g : tG} {dr : Nat} {cd : Int32} {nf n : Nat}
variable {R : Room} {rest : List Value} {c0 s0 l0 i0 d0 m0 : Nat} {ls : Array Slot}
theorem s_tap_in1 (hx : p.tables.exec = Jvm.exec) (hb : c.code = cX9_tap) (hl : lv_has ls 7 [(0, .ref o9), (1, .int (nI c0)), (2, .int (nI s0)), (3, .int (nI l0)), (4, .int (nI i0)), (5, .int (nI d0)), (6, .int (nI m0))]) (hi : i0 < 2) (kk : W p l e R s m args below meth c H locs cells slots Q (F0 m 56 ls (.int (nI i0) :: rest))) : W p l e R s m args below meth c H locs cells slots Q (F0 m 45 ls rest) := by
  refine lv_iload hx hb dX9_tap_45 (lv_at hl 4 rfl) ?_
  refine lv_iconst (v := 1) hx hb dX9_tap_47 (by decide) ?_
  have : i0 = 0 ∨ i0 = 1 := by omega
  rcases this with rfl | rfl
  · refine lv_icmp_ne (tgt := 55) hx hb dX9_tap_48 (by decide) (fun c1 => ?_) (fun c1 => absurd c1 (by decide))
    refine lv_iconst (v := 0) hx hb dX9_tap_55 (by decide) ?_
    exact kk
  · refine lv_icmp_ne (tgt := 55) hx hb dX9_tap_48 (by decide) (fun c1 => absurd rfl c1) (fun c1 => ?_)
    refine lv_iconst (v := 1) hx hb dX9_tap_51 (by decide) ?_
    refine lv_goto (tgt := 56) hx hb dX9_tap_52 (by decide) ?_
    exact kk
theorem s_tap_in2 (hx : p.tables.exec = Jvm.exec) (hb : c.code = cX9_tap) (hl : lv_has ls 7 [(0, .ref o9), (1, .int (nI c0)), (2, .int (nI s0)), (3, .int (nI l0)), (4, .int (nI i0)), (5, .int (nI d0)), (6, .int (nI m0))]) (hi : i0 < 2) (kk : W p l e R s m args below meth c H locs cells slots Q (F0 m 146 ls (.int (nI i0) :: rest))) : W p l e R s m args below meth c H locs cells slots Q (F0 m 135 ls rest) := by
  refine lv_iload hx hb dX9_tap_135 (lv_at hl 4 rfl) ?_
  refine lv_iconst (v := 1) hx hb dX9_tap_137 (by decide) ?_
  have : i0 = 0 ∨ i0 = 1 := by omega
  rcases this with rfl | rfl
  · refine lv_icmp_ne (tgt := 145) hx hb dX9_tap_138 (by decide) (fun c1 => ?_) (fun c1 => absurd c1 (by decide))
    refine lv_iconst (v := 0) hx hb dX9_tap_145 (by decide) ?_
    exact kk
  · refine lv_icmp_ne (tgt := 145) hx hb dX9_tap_138 (by decide) (fun c1 => absurd rfl c1) (fun c1 => ?_)
    refine lv_iconst (v := 1) hx hb dX9_tap_141 (by decide) ?_
    refine lv_goto (tgt := 146) hx hb dX9_tap_142 (by decide) ?_
    exact kk
end TT
set_option maxHeartbeats 4000000 in
set_option maxRecDepth 100000 in
theorem kX9_tap (l : Launch) (D : va_G) (sz b : Nat) (ad : Nat → Nat) (o9 : Nat) (y : tA) (cI cO : ClassId) (g : tG) (dr : Nat) (cd : Int32) (nf n : Nat) (c0 s0 l0 i0 d0 m0 : Nat) (hc : c0 < 3) (hs : s0 < 10) (hl0 : l0 < 6) (hi : i0 < 2) (hd : d0 < 10) (hm : m0 < 1440) (hR : RGN g n) : Met l yX9_tap wsX9_tap ({ frames := 4, cells := 3, slots := 53, locals := 140 } : Room) (p_P D (tY_T cI cO) (tW ad o9 y b cI cO g dr cd nf n) [.ref o9, .int (nI c0), .int (nI s0), .int (nI l0), .int (nI i0), .int (nI d0), .int (nI m0)] sz) (t_Qy D (tY_T cI cO) (va_A (tW ad o9 y b cI cO g dr cd nf n) sz) (fun u => tW ad o9 u b cI cO (tapF c0 s0 l0 i0 d0 m0 (g, n)).1 dr cd nf (tapF c0 s0 l0 i0 d0 m0 (g, n)).2) 1) 3 53 (va_A (tW ad o9 y b cI cO g dr cd nf n) sz) := by
  refine Met.ofW (cc := cX9_tap) (maxL := 7) (ret := (some .boolean)) (by decide) rfl ?_
  intro p e s m args below meth c9 s₁ B hml hv
  obtain ⟨rfl, hAO, hsz, hP, hK, hD0⟩ := hv
  have hx := B.exec
  have hb := B.bytes
  have hr := B.returns
  have hts := atoms_spec (ws := wsX9_tap) B.pre
  have hown : s.vm.findClass RX9 = some m.cls := findClass_of_methodNamed B.named
  have hlocks := B.notSynchronized
  subst hsz
  have hD := hD0.self (sz := s.heap.size)
  generalize hAe : va_A (tW ad o9 y b cI cO g dr cd nf n) s.heap.size = A at hD ⊢
  have hA : ∀ q : Nat, s.heap.size ≤ q → A q := fun q h => by rw [← hAe]; exact Or.inr h
  have hS : va_S A s.heap s.heap [] := va_S.rf
  have hl := lv_entry ([.ref o9, .int (nI c0), .int (nI s0), .int (nI l0), .int (nI i0), .int (nI d0), .int (nI m0)]) (n := 7) (Nat.le_of_ble_eq_true rfl)
  rw [lg_entry_eq]
  generalize (lg_sl ([.ref o9, .int (nI c0), .int (nI s0), .int (nI l0), .int (nI i0), .int (nI d0), .int (nI m0)]) ++ List.replicate (7 - (lg_sl ([.ref o9, .int (nI c0), .int (nI s0), .int (nI l0), .int (nI i0), .int (nI d0), .int (nI m0)])).length) Slot.unset).toArray = ls at hl ⊢
  have hl : lv_has ls 7 [(0, .ref o9), (1, .int (nI c0)), (2, .int (nI s0)), (3, .int (nI l0)), (4, .int (nI i0)), (5, .int (nI d0)), (6, .int (nI m0))] := hl
  have winX9 : ∀ w ∈ u_ws RX9 TX9 9, w ∈ wsX9_tap := by decide +kernel
  have h40 := hR.1.2.1
  obtain ⟨k1, k2, k3⟩ := tap_step hR.1 hR.2.1 hR.2.2 hc hs hl0 hi hd hm
  obtain ⟨v, ev⟩ : ∃ z, z = v6 (nI c0) (nI s0) (nI l0) (nI i0) (nI d0) (nI m0) := ⟨_, rfl⟩
  rw [← ev] at k1 k2 k3
  refine lv_aload_n hx hb dX9_tap_0 rfl (lv_at hl 0 rfl) ?_
  refine lv_bipush (v := 6) hx hb dX9_tap_1 (by decide) ?_
  refine t_new (cI := cI) (cO := cO) (N := 6) hx hb (hts (.arrayClass .int) (List.mem_of_getElem? (i := 1) rfl)) hK hP hD hS hA (by decide) (Nat.le_of_ble_eq_true rfl) (Nat.le_of_ble_eq_true rfl) dX9_tap_3 (fun q1 H hP hD hS => ?_)
  refine lv_dup hx hb dX9_tap_5 rfl ?_
  refine lv_iconst (v := 0) hx hb dX9_tap_6 (by decide) ?_
  refine lv_iload_n hx hb dX9_tap_7 rfl (lv_at hl 1 rfl) ?_
  refine t_isl (ws := tW ad o9 y b cI cO g dr cd nf n) hx hb hK hP hD hS 0 0 rfl (by decide) (by decide) dX9_tap_8 (fun H locs hP hD hS => ?_)
  refine lv_dup hx hb dX9_tap_9 rfl ?_
  refine lv_iconst (v := 1) hx hb dX9_tap_10 (by decide) ?_
  refine lv_iload_n hx hb dX9_tap_11 rfl (lv_at hl 2 rfl) ?_
  refine t_isl (ws := tW ad o9 y b cI cO g dr cd nf n) hx hb hK hP hD hS 0 1 rfl (by decide) (by decide) dX9_tap_12 (fun H locs hP hD hS => ?_)
  refine lv_dup hx hb dX9_tap_13 rfl ?_
  refine lv_iconst (v := 2) hx hb dX9_tap_14 (by decide) ?_
  refine lv_iload_n hx hb dX9_tap_15 rfl (lv_at hl 3 rfl) ?_
  refine t_isl (ws := tW ad o9 y b cI cO g dr cd nf n) hx hb hK hP hD hS 0 2 rfl (by decide) (by decide) dX9_tap_16 (fun H locs hP hD hS => ?_)
  refine lv_dup hx hb dX9_tap_17 rfl ?_
  refine lv_iconst (v := 3) hx hb dX9_tap_18 (by decide) ?_
  refine lv_iload hx hb dX9_tap_19 (lv_at hl 4 rfl) ?_
  refine t_isl (ws := tW ad o9 y b cI cO g dr cd nf n) hx hb hK hP hD hS 0 3 rfl (by decide) (by decide) dX9_tap_21 (fun H locs hP hD hS => ?_)
  refine lv_dup hx hb dX9_tap_22 rfl ?_
  refine lv_iconst (v := 4) hx hb dX9_tap_23 (by decide) ?_
  refine lv_iload hx hb dX9_tap_24 (lv_at hl 5 rfl) ?_
  refine t_isl (ws := tW ad o9 y b cI cO g dr cd nf n) hx hb hK hP hD hS 0 4 rfl (by decide) (by decide) dX9_tap_26 (fun H locs hP hD hS => ?_)
  refine lv_dup hx hb dX9_tap_27 rfl ?_
  refine lv_iconst (v := 5) hx hb dX9_tap_28 (by decide) ?_
  refine lv_iload hx hb dX9_tap_29 (lv_at hl 6 rfl) ?_
  refine t_isl (ws := tW ad o9 y b cI cO g dr cd nf n) hx hb hK hP hD hS 0 5 rfl (by decide) (by decide) dX9_tap_31 (fun H locs hP hD hS => ?_)
  rw [show upd (upd (upd (upd (upd (upd (fun _ => 0) 0 (nI c0)) 1 (nI s0)) 2 (nI l0)) 3 (nI i0)) 4 (nI d0)) 5 (nI m0) = v from ev.symm] at hP hD
  refine g_ki hK hD hS hA (va_runV (As := [.ref q1]) (rest := []) ⟨hx, hb, hml, hown, hts⟩ (kX9_has l D H.size b ad o9 y cI cO g dr cd nf n q1 v h40) (cwV 1 hts gX9_tap_X9_has rfl rfl rfl (by decide +kernel) ⟨Nat.le_of_ble_eq_true rfl, Nat.le_of_ble_eq_true rfl⟩) (g_preV hK hP hD (ci := 9) (q0 := 98) rfl rfl) rfl rfl hl.1 rfl (lv_room (Nat.le_of_ble_eq_true rfl)) dX9_tap_32 ⟨Nat.le_of_ble_eq_true rfl, Nat.le_of_ble_eq_true rfl⟩) (fun H locs hP hD hS => ?_)
  have hP := pre_P hP
  have hD := pre_D hD
  refine lv_if_lt (tgt := 74) hx hb dX9_tap_35 (by decide) (fun c1 => ?_) (fun c1 => ?_)
  · refine lv_aload_n hx hb dX9_tap_74 rfl (lv_at hl 0 rfl) ?_
    refine va_get (D := D) (ci := 9) (v := .ref y.aP) (C := RX9) (T := TX9) (N := 9) hx hb hts winX9 hown hK hP 98 rfl rfl 8 (by decide) (hts (.fieldLink RX9 31 "TapCapLaw$Told" "taps" "[[I") (List.mem_of_getElem? (i := 3) rfl)) (fun _ h9 => h9) rfl dX9_tap_75 ?_
    refine va_alen hx hb hK hP 101 1 tW_p rfl (v := nI n) rfl dX9_tap_78 ?_
    refine lv_bipush (v := 40) hx hb dX9_tap_79 (by decide) ?_
    refine lv_icmp_ne (tgt := 86) hx hb dX9_tap_81 (by decide) (fun c2 => ?_) (fun c2 => ?_)
    · have hn40 : n < 40 := by
        have : n ≠ 40 := fun q => c2 (by rw [q]; rfl)
        omega
      obtain ⟨r1, r2, r3, r4, r5⟩ := k1 c1 hn40
      obtain ⟨z1, z2, z3⟩ := g_rows (nf := nf) r4
      have et : tapF c0 s0 l0 i0 d0 m0 (g, n) = (fX8_tap_w g (nI c0) (nI s0) (nI l0) (nI i0) (nI d0) (nI m0), n + 1) := by unfold tapF; rw [← ev]; exact (if_pos c1).trans (if_neg (by show ¬ n = 40; omega))
      refine lv_aload_n hx hb dX9_tap_86 rfl (lv_at hl 0 rfl) ?_
      refine lv_aload_n hx hb dX9_tap_87 rfl (lv_at hl 0 rfl) ?_
      refine va_get (D := D) (ci := 9) (v := .ref y.aP) (C := RX9) (T := TX9) (N := 9) hx hb hts winX9 hown hK hP 98 rfl rfl 8 (by decide) (hts (.fieldLink RX9 31 "TapCapLaw$Told" "taps" "[[I") (List.mem_of_getElem? (i := 3) rfl)) (fun _ h9 => h9) rfl dX9_tap_88 ?_
      refine lv_bipush (v := 6) hx hb dX9_tap_91 (by decide) ?_
      refine t_new (cI := cI) (cO := cO) (N := 6) hx hb (hts (.arrayClass .int) (List.mem_of_getElem? (i := 1) rfl)) hK hP hD hS hA (by decide) (Nat.le_of_ble_eq_true rfl) (Nat.le_of_ble_eq_true rfl) dX9_tap_93 (fun q2 H hP hD hS => ?_)
      refine lv_dup hx hb dX9_tap_95 rfl ?_
      refine lv_iconst (v := 0) hx hb dX9_tap_96 (by decide) ?_
      refine lv_iload_n hx hb dX9_tap_97 rfl (lv_at hl 1 rfl) ?_
      refine t_isl (ws := tW ad o9 y b cI cO g dr cd nf n) hx hb hK hP hD hS 0 0 rfl (by decide) (by decide) dX9_tap_98 (fun H locs hP hD hS => ?_)
      refine lv_dup hx hb dX9_tap_99 rfl ?_
      refine lv_iconst (v := 1) hx hb dX9_tap_100 (by decide) ?_
      refine lv_iload_n hx hb dX9_tap_101 rfl (lv_at hl 2 rfl) ?_
      refine t_isl (ws := tW ad o9 y b cI cO g dr cd nf n) hx hb hK hP hD hS 0 1 rfl (by decide) (by decide) dX9_tap_102 (fun H locs hP hD hS => ?_)
      refine lv_dup hx hb dX9_tap_103 rfl ?_
      refine lv_iconst (v := 2) hx hb dX9_tap_104 (by decide) ?_
      refine lv_iload_n hx hb dX9_tap_105 rfl (lv_at hl 3 rfl) ?_
      refine t_isl (ws := tW ad o9 y b cI cO g dr cd nf n) hx hb hK hP hD hS 0 2 rfl (by decide) (by decide) dX9_tap_106 (fun H locs hP hD hS => ?_)
      refine lv_dup hx hb dX9_tap_107 rfl ?_
      refine lv_iconst (v := 3) hx hb dX9_tap_108 (by decide) ?_
      refine lv_iload hx hb dX9_tap_109 (lv_at hl 4 rfl) ?_
      refine t_isl (ws := tW ad o9 y b cI cO g dr cd nf n) hx hb hK hP hD hS 0 3 rfl (by decide) (by decide) dX9_tap_111 (fun H locs hP hD hS => ?_)
      refine lv_dup hx hb dX9_tap_112 rfl ?_
      refine lv_iconst (v := 4) hx hb dX9_tap_113 (by decide) ?_
      refine lv_iload hx hb dX9_tap_114 (lv_at hl 5 rfl) ?_
      refine t_isl (ws := tW ad o9 y b cI cO g dr cd nf n) hx hb hK hP hD hS 0 4 rfl (by decide) (by decide) dX9_tap_116 (fun H locs hP hD hS => ?_)
      refine lv_dup hx hb dX9_tap_117 rfl ?_
      refine lv_iconst (v := 5) hx hb dX9_tap_118 (by decide) ?_
      refine lv_iload hx hb dX9_tap_119 (lv_at hl 6 rfl) ?_
      refine t_isl (ws := tW ad o9 y b cI cO g dr cd nf n) hx hb hK hP hD hS 0 5 rfl (by decide) (by decide) dX9_tap_121 (fun H locs hP hD hS => ?_)
      rw [show upd (upd (upd (upd (upd (upd (fun _ => 0) 0 (nI c0)) 1 (nI s0)) 2 (nI l0)) 3 (nI i0)) 4 (nI d0)) 5 (nI m0) = v from ev.symm] at hP hD
      refine t_kr (wf := fun a => tW ad o9 y b cI cO g dr cd nf n ++ [(q2, .inl (cI, 6, .inl (v)))] ++ [(a, .inl (cO, n + 1, .inr (.inr (.inr (.inr (plF (tAA y.rP n) n q2))))))]) hD hS hA (va_runS (As := [.ref y.aP, .ref q2]) (rest := [.ref o9]) ⟨hx, hb, hml, hown, hts⟩ (kX9_plus l D H.size y.aP q2 n 6 101 (tW ad o9 y b cI cO g dr cd nf n).length cI cO (tW ad o9 y b cI cO g dr cd nf n ++ [(q2, .inl (cI, 6, .inl (v)))]) (tAA y.rP n) v (get_first tW_p) get_last (fun i hi a ha => ⟨102 + nf + i, 6, tPv g i, by rw [← Option.some.inj ((tAA_at hi).symm.trans ha)]; exact get_first (tW_rp hi)⟩) (by omega)) (cwS 2 hts gX9_tap_X9_plus rfl rfl rfl (by decide +kernel) ⟨Nat.le_of_ble_eq_true rfl, Nat.le_of_ble_eq_true rfl⟩) (p_preS hAO hK hP hD) rfl rfl hl.1 rfl (lv_room (Nat.le_of_ble_eq_true rfl)) dX9_tap_122 ⟨Nat.le_of_ble_eq_true rfl, Nat.le_of_ble_eq_true rfl⟩) (fun a1 H locs hP hD hS => ?_)
      refine va_put (D := D) (ci := 9) (v := .ref a1) (ty := (.array (.array .int))) (C := RX9) (T := TX9) (N := 9) hx hb hts winX9 tyX9 tyX9_ok nmX9 hown hK hP hD hS 98 rfl rfl 8 (by decide) (hts (.fieldLink RX9 31 "TapCapLaw$Told" "taps" "[[I") (List.mem_of_getElem? (i := 3) rfl)) (fun _ h9 => h9) rfl (by decide +kernel) rfl rfl (Nat.le_of_ble_eq_true rfl) dX9_tap_125 (fun H locs hP hD hS => ?_)
      obtain ⟨hP, hD⟩ := tW_addP hP hD
      refine lv_aload_n hx hb dX9_tap_128 rfl (lv_at hl 0 rfl) ?_
      refine va_get (D := D) (ci := 9) (v := .ref (ad 0)) (C := RX9) (T := TX9) (N := 9) hx hb hts winX9 hown hK hP 98 rfl rfl 0 (by decide) (hts (.fieldLink RX9 10 "TapCapLaw$Told" "m" "LTapCap;") (List.mem_of_getElem? (i := 2) rfl)) (fun _ h9 => h9) rfl dX9_tap_129 ?_
      refine lv_iload_n hx hb dX9_tap_132 rfl (lv_at hl 1 rfl) ?_
      refine lv_iload_n hx hb dX9_tap_133 rfl (lv_at hl 2 rfl) ?_
      refine lv_iload_n hx hb dX9_tap_134 rfl (lv_at hl 3 rfl) ?_
      refine s_tap_in2 hx hb hl hi ?_
      refine lv_iload hx hb dX9_tap_146 (lv_at hl 5 rfl) ?_
      refine lv_iload hx hb dX9_tap_148 (lv_at hl 6 rfl) ?_
      have hK8 := hK.sub (tys' := [(cI, .int)]) [0] rfl
      refine t_ki hP hD hS hA (va_runV (As := [.int (nI c0), .int (nI s0), .int (nI l0), .int (nI i0), .int (nI d0), .int (nI m0)]) (rest := []) ⟨hx, hb, hml, hown, hts⟩ (kX8_tap l D ad cI g H.size (nI c0) (nI s0) (nI l0) (nI i0) (nI d0) (nI m0) (by rw [hR.1.2.2.2.1]; exact in_NI hc (by decide)) (in_NI hs (by decide)) (in_NI hl0 (by decide)) (in_NI (n := 28) (by omega) (by decide)) (in_RI (a := 0) (b := 1439) (Nat.zero_le _) (by omega) (by decide)) (k3 (fun _ => hn40))) (cwV 6 hts gX9_tap_X8_tap rfl rfl rfl (by decide +kernel) ⟨Nat.le_of_ble_eq_true rfl, Nat.le_of_ble_eq_true rfl⟩) (g_preV hK8 (pre_P hP) (pre_D hD) (ci := 8) (q0 := 0) rfl rfl) rfl rfl hl.1 rfl (lv_room (Nat.le_of_ble_eq_true rfl)) dX9_tap_150 ⟨Nat.le_of_ble_eq_true rfl, Nat.le_of_ble_eq_true rfl⟩) (fun H locs hP hD hS => ?_)
      rw [r1]
      rw [tW_tap z1 z2 z3 r5] at hP hD
      refine lv_aload_n hx hb dX9_tap_153 rfl (lv_at hl 0 rfl) ?_
      refine va_get (D := D) (ci := 9) (v := .ref ((yP y a1 q2 n).aP)) (C := RX9) (T := TX9) (N := 9) hx hb hts winX9 hown hK hP 98 rfl rfl 8 (by decide) (hts (.fieldLink RX9 31 "TapCapLaw$Told" "taps" "[[I") (List.mem_of_getElem? (i := 3) rfl)) (fun _ h9 => h9) rfl dX9_tap_154 ?_
      refine va_alen hx hb hK hP 101 1 tW_p rfl (v := nI (n + 1)) rfl dX9_tap_157 ?_
      refine lv_icmp_ne (tgt := 165) hx hb dX9_tap_158 (by decide) (fun c9 => absurd rfl c9) (fun c9 => ?_)
      refine lv_iconst (v := 1) hx hb dX9_tap_161 (by decide) ?_
      refine lv_goto (tgt := 166) hx hb dX9_tap_162 (by decide) ?_
      refine W.widen (k := 3) (n := 53) (by decide) (by decide) ?_
      exact g_yret (yP y a1 q2 n) (by rw [et]) hx hb hr narrow_z1 hlocks hK hP hD hS rfl dX9_tap_166
    · have e40 : n = 40 := (nI_eq (b := 40) (by omega) (by decide)).mp c2
      have et : tapF c0 s0 l0 i0 d0 m0 (g, n) = (g, n) := by unfold tapF; rw [← ev]; exact (if_pos c1).trans (if_pos e40)
      refine lv_iconst (v := 1) hx hb dX9_tap_84 (by decide) ?_
      refine W.widen (k := 3) (n := 53) (by decide) (by decide) ?_
      exact g_yret y (by rw [et]) hx hb hr narrow_z1 hlocks hK hP hD hS rfl dX9_tap_85
  · obtain ⟨r1, r2, r3⟩ := k2 c1
    obtain ⟨z1, z2, z3⟩ := g_rows (nf := nf) r3
    have et : tapF c0 s0 l0 i0 d0 m0 (g, n) = (fX8_tap_w g (nI c0) (nI s0) (nI l0) (nI i0) (nI d0) (nI m0), n) := by unfold tapF; rw [← ev]; exact if_neg c1
    refine lv_aload_n hx hb dX9_tap_38 rfl (lv_at hl 0 rfl) ?_
    refine va_get (D := D) (ci := 9) (v := .ref (ad 0)) (C := RX9) (T := TX9) (N := 9) hx hb hts winX9 hown hK hP 98 rfl rfl 0 (by decide) (hts (.fieldLink RX9 10 "TapCapLaw$Told" "m" "LTapCap;") (List.mem_of_getElem? (i := 2) rfl)) (fun _ h9 => h9) rfl dX9_tap_39 ?_
    refine lv_iload_n hx hb dX9_tap_42 rfl (lv_at hl 1 rfl) ?_
    refine lv_iload_n hx hb dX9_tap_43 rfl (lv_at hl 2 rfl) ?_
    refine lv_iload_n hx hb dX9_tap_44 rfl (lv_at hl 3 rfl) ?_
    have hP : va_P D vwCl (tcW ad cI g ++ tX ad o9 y b cI cO g dr cd nf n) H := hP
    have hD : va_D A (tcW ad cI g ++ tX ad o9 y b cI cO g dr cd nf n) := hD
    refine s_tap_in1 hx hb hl hi ?_
    refine lv_iload hx hb dX9_tap_56 (lv_at hl 5 rfl) ?_
    refine lv_iload hx hb dX9_tap_58 (lv_at hl 6 rfl) ?_
    have hK8 := hK.sub (tys' := [(cI, .int)]) [0] rfl
    refine t_ki hP hD hS hA (va_runV (As := [.int (nI c0), .int (nI s0), .int (nI l0), .int (nI i0), .int (nI d0), .int (nI m0)]) (rest := []) ⟨hx, hb, hml, hown, hts⟩ (kX8_tap l D ad cI g H.size (nI c0) (nI s0) (nI l0) (nI i0) (nI d0) (nI m0) (by rw [hR.1.2.2.2.1]; exact in_NI hc (by decide)) (in_NI hs (by decide)) (in_NI hl0 (by decide)) (in_NI (n := 28) (by omega) (by decide)) (in_RI (a := 0) (b := 1439) (Nat.zero_le _) (by omega) (by decide)) (k3 (fun h => absurd h c1))) (cwV 6 hts gX9_tap_X8_tap rfl rfl rfl (by decide +kernel) ⟨Nat.le_of_ble_eq_true rfl, Nat.le_of_ble_eq_true rfl⟩) (g_preV hK8 (pre_P hP) (pre_D hD) (ci := 8) (q0 := 0) rfl rfl) rfl rfl hl.1 rfl (lv_room (Nat.le_of_ble_eq_true rfl)) dX9_tap_60 ⟨Nat.le_of_ble_eq_true rfl, Nat.le_of_ble_eq_true rfl⟩) (fun H locs hP hD hS => ?_)
    rw [r1]
    rw [tX_step z1 z2 z3] at hP hD
    refine lv_bipush (v := (-3)) hx hb dX9_tap_63 (by decide) ?_
    refine lv_icmp_ne (tgt := 72) hx hb dX9_tap_65 (by decide) (fun c9 => absurd rfl c9) (fun c9 => ?_)
    refine lv_iconst (v := 1) hx hb dX9_tap_68 (by decide) ?_
    refine lv_goto (tgt := 73) hx hb dX9_tap_69 (by decide) ?_
    refine W.widen (k := 3) (n := 53) (by decide) (by decide) ?_
    exact g_yret y (by rw [et]) hx hb hr narrow_z1 hlocks hK hP hD hS rfl dX9_tap_73
