/-! the law's walk -/
theorem lg_self (x : Int64) : lg_cmp x x = 0 := by simp [lg_cmp]
theorem div7 {d : Nat} (hd : d < 2 ^ 31) : nI d / 7 = nI (d / 7) := pk_div (d := 7) hd (by decide) (by decide)
section TLW
variable {p : Program} {l : Launch} {e : Env} {R : Room} {s : State} {m : MethodId} {args : Array Value} {below : List Frame} {meth : Method} {c : Code} {H : Heap} {locs : List Loc} {cells slots : Nat} {Q : State → Prop}
variable {pc : Nat} {ls : Array Slot} {rest st0 : List Value} {D : va_G} {tys : List (ClassId × FieldType)} {a b : va_W} {A : Nat → Prop} {H0 : Heap} {mc ms : Nat}
/-- a call on the first part of a world, which may move -/
theorem t_kf {τ : Type} {post : Int32 → τ → Prop} {wf : τ → va_W} {av : Array Value} (hP : va_P D vwCl (a ++ b) H) (hD : va_D A (a ++ b)) (hS : va_S A H0 H locs) (hA : ∀ q, H0.size ≤ q → A q)
    (hr : va_Run p l e R s m args below meth c H locs cells slots mc ms (F0 m pc ls st0) rest (va_Qi post (fun u t => g_B D tys (va_A a H.size) (wf u) t) (va_A a H.size) av) (va_A a H.size))
    (kk : ∀ (r : Int32) (u : τ) (H1 : Heap) (locs1 : List Loc), post r u → va_P D vwCl (wf u ++ b) H1 → va_D A (wf u ++ b) → va_S A H0 H1 locs1 → W p l e R s m args below meth c H1 locs1 (cells + mc) (slots + ms) Q (F0 m (pc + 3) ls (.int r :: rest))) : W p l e R s m args below meth c H locs cells slots Q (F0 m pc ls st0) := by
  have hF := g_free (pre_D hD) hS hA
  refine va_calli hr hS (fun q _ h => hF q h) hF (fun r u t H1 locs1 ht hvm hw hB hz1 hk1 hS1 => ?_)
  obtain ⟨hP1, hK1, hD1⟩ := hB
  rw [ht] at hP1
  obtain ⟨hP2, hD2⟩ := fr_join hP hD hF hk1 hP1 hD1
  exact kk r u H1 locs1 hw hP2 hD2 hS1
end TLW
theorem get_left {a E : va_W} {k : Nat} {q : Nat × va_E} (h : a[k]? = some q) : (a ++ E)[k]? = some q := by rw [List.getElem?_append_left (List.getElem?_eq_some_iff.mp h).1]; exact h
theorem w2_at {a b : va_W} {E : va_W} {k : Nat} {q : Nat × va_E} (h : b[k]? = some q) : (a ++ (b ++ E))[a.length + k]? = some q := app_r (get_left h)

section LWB
variable {p : Program} {l : Launch} {e : Env} {s : State} {m : MethodId} {args : Array Value} {below : List Frame} {meth : Method} {c : Code} {H : Heap} {locs : List Loc} {cells slots : Nat} {Q : State → Prop}
variable {D : va_G} {A : Nat → Prop} {ad1 ad2 : Nat → Nat} {o1 o2 b L : Nat} {xs : Nat → Int32} {y1 y2 : tA} {cI cO : ClassId} {g h : tG} {dr dr2 n0 n j t0 : Nat}
variable {rest : List Value} {ls : Array Slot} {i0 : Nat} {R : Room}
theorem s_law_b1 (hx : p.tables.exec = Jvm.exec) (hb : c.code = code) (hi : i0 < 2) (kk : W p l e R s m args below meth c H locs cells slots Q (F0 m 342 ls (.int (nI i0) :: rest))) : W p l e R s m args below meth c H locs cells slots Q (F0 m 334 ls (.int (nI i0) :: rest)) := by
  have : i0 = 0 ∨ i0 = 1 := by omega
  rcases this with rfl | rfl
  · refine lv_if_eq (tgt := 341) hx hb dL_law_334 (by decide) (fun c1 => ?_) (fun c1 => absurd rfl c1)
    refine lv_iconst (v := 0) hx hb dL_law_341 (by decide) ?_
    exact kk
  · refine lv_if_eq (tgt := 341) hx hb dL_law_334 (by decide) (fun c1 => absurd c1 (by decide)) (fun c1 => ?_)
    refine lv_iconst (v := 1) hx hb dL_law_337 (by decide) ?_
    refine lv_goto (tgt := 342) hx hb dL_law_338 (by decide) ?_
    exact kk
theorem s_law_b2 (hx : p.tables.exec = Jvm.exec) (hb : c.code = code) (hi : i0 < 2) (kk : W p l e R s m args below meth c H locs cells slots Q (F0 m 371 ls (.int (nI (i0 + 1)) :: rest))) : W p l e R s m args below meth c H locs cells slots Q (F0 m 363 ls (.int (nI i0) :: rest)) := by
  have : i0 = 0 ∨ i0 = 1 := by omega
  rcases this with rfl | rfl
  · refine lv_if_eq (tgt := 370) hx hb dL_law_363 (by decide) (fun c1 => ?_) (fun c1 => absurd rfl c1)
    refine lv_iconst (v := 1) hx hb dL_law_370 (by decide) ?_
    exact kk
  · refine lv_if_eq (tgt := 370) hx hb dL_law_363 (by decide) (fun c1 => absurd c1 (by decide)) (fun c1 => ?_)
    refine lv_iconst (v := 2) hx hb dL_law_366 (by decide) ?_
    refine lv_goto (tgt := 371) hx hb dL_law_367 (by decide) ?_
    exact kk
end LWB
section LW1
variable {p : Program} {l : Launch} {e : Env} {s : State} {m : MethodId} {args : Array Value} {below : List Frame} {meth : Method} {c : Code} {H : Heap} {locs : List Loc} {cells slots : Nat} {Q : State → Prop}
variable {D : va_G} {A : Nat → Prop} {ad1 ad2 : Nat → Nat} {o1 o2 b L : Nat} {xs : Nat → Int32} {y1 y2 : tA} {cI cO : ClassId} {g h : tG} {dr dr2 n0 n j t0 : Nat}
variable {c0 s0 l0 i0 : Nat}
set_option maxHeartbeats 4000000 in
set_option maxRecDepth 100000 in
theorem s_law_tap (hx : p.tables.exec = Jvm.exec) (hb : c.code = code) (hml : c.maxLocals = 18) (hts : ∀ w ∈ lw_tbl, w.before args s = true) (hown : s.vm.findClass RL = some m.cls) (hN : s_N s) (hX : va_X b L xs s s.heap) (hbl : b < s.heap.size) (hbA : ¬ A b) (hA : ∀ q : Nat, s.heap.size ≤ q → A q) (hK : va_K D vwCl (tY_T cI cO) s) (hL : L < 2 ^ 20) (hcl : cells ≤ 600074) (hsl : slots ≤ 7301550) {g h : tG} (x : XTR g h n0 n j) (hn : n < 40) (hj : j < 6) (hc : c0 < 3) (hs : s0 < 10) (hl0 : l0 < 6) (hi : i0 < 2) (hdr : dr + 2 < 2 ^ 19) {H : Heap} {locs : List Loc} {ls : Array Slot} (hl : lv_has ls 18 [(8, .int (nI l0)), (7, .int (nI s0)), (6, .int (nI c0)), (5, .int (nI j)), (4, .ref (ad1 0)), (3, .ref o2), (2, .ref o1), (1, .int (nI t0)), (0, .ref b)]) (hP : va_P D vwCl (tW ad1 o1 y1 b cI cO g dr 3 3 n0 ++ (tW ad2 o2 y2 b cI cO h dr2 3 3 n0 ++ ([] : va_W))) H) (hD : va_D A (tW ad1 o1 y1 b cI cO g dr 3 3 n0 ++ (tW ad2 o2 y2 b cI cO h dr2 3 3 n0 ++ ([] : va_W)))) (hS : va_S A s.heap H locs) (kk : ∀ (g h : tG) (H : Heap) (locs : List Loc) (ls : Array Slot), XTR g h n0 (n + 1) (j + 1) → lv_has ls 18 [(5, .int (nI j)), (4, .ref (ad1 0)), (3, .ref o2), (2, .ref o1), (1, .int (nI t0)), (0, .ref b)] → va_P D vwCl (tW ad1 o1 y1 b cI cO g (dr + 2) 3 3 n0 ++ (tW ad2 o2 y2 b cI cO h dr2 3 3 n0 ++ ([] : va_W))) H → va_D A (tW ad1 o1 y1 b cI cO g (dr + 2) 3 3 n0 ++ (tW ad2 o2 y2 b cI cO h dr2 3 3 n0 ++ ([] : va_W))) → va_S A s.heap H locs → W p l e room_1 s m args below meth c H locs cells slots Q (F0 m 376 ls [])) : W p l e room_1 s m args below meth c H locs cells slots Q (F0 m 121 ls [.int (nI i0)]) := by
  have v := x.1
  have per := x.2.2.2.1
  have h3 : g 45 3 = nI 3 := v.2.2.2.1
  have isg : ¬ (fX0_isPerson_r g (nI c0)) = 0 := by rw [per_is h3 per hc]; decide
  refine lv_istore (lv' := [(9, .int (nI i0)), (8, .int (nI l0)), (7, .int (nI s0)), (6, .int (nI c0)), (5, .int (nI j)), (4, .ref (ad1 0)), (3, .ref o2), (2, .ref o1), (1, .int (nI t0)), (0, .ref b)]) hx hb dL_law_121 hl (by decide) rfl (fun ls hl => ?_)
  refine lv_bipush (v := 10) hx hb dL_law_123 (by decide) ?_
  refine lv_aload_n hx hb dL_law_125 rfl (lv_at hl 7 rfl) ?_
  refine lv_bipush (v := 18) hx hb dL_law_126 (by decide) ?_
  refine t_ki hP hD hS hA (va_runV (As := [.int (nI 18)]) (rest := [.int 10]) ⟨hx, hb, hml, hown, hts⟩ (kX9_draw l D H.size b L xs ad1 o1 y1 cI cO g dr 3 3 n0 18 (by decide) (by decide) (by omega) hL) (cwV 1 hts gl_X9_draw rfl rfl rfl (by decide +kernel) ⟨Nat.le_of_ble_eq_true rfl, Nat.le_of_ble_eq_true rfl⟩) (s_preV hN hX hbl hbA hS hA hK (pre_P hP) (pre_D hD) (ci := 9) (q0 := 98) rfl rfl) rfl rfl hl.1 rfl (lv_room (Nat.le_of_ble_eq_true rfl)) dL_law_128 ⟨(show cells + 0 ≤ 600074 by omega), (show slots + 0 ≤ 7301550 by omega)⟩) (fun H locs hP hD hS => ?_)
  obtain ⟨e_dd, l_dd⟩ := dN_is xs L (dr) (m := 18) (by decide) (by decide)
  rw [e_dd]
  obtain ⟨dd, f_dd⟩ : ∃ z, z = dN xs L (dr) 18 := ⟨_, rfl⟩
  rw [← f_dd] at l_dd ⊢
  refine lv_iadd hx hb dL_law_131 ?_
  rw [show (10 : Int32) + (nI dd) = nI (10 + dd) from nI_add _ _]
  obtain ⟨d0, hd0⟩ : ∃ z, z = 10 + dd := ⟨_, rfl⟩
  rw [← hd0]
  refine lv_istore (lv' := [(10, .int (nI d0)), (9, .int (nI i0)), (8, .int (nI l0)), (7, .int (nI s0)), (6, .int (nI c0)), (5, .int (nI j)), (4, .ref (ad1 0)), (3, .ref o2), (2, .ref o1), (1, .int (nI t0)), (0, .ref b)]) hx hb dL_law_132 hl (by decide) rfl (fun ls hl => ?_)
  refine lv_bipush (v := 10) hx hb dL_law_134 (by decide) ?_
  refine lv_aload_n hx hb dL_law_136 rfl (lv_at hl 8 rfl) ?_
  refine lv_sipush (v := 140) hx hb dL_law_137 (by decide) ?_
  refine t_ki hP hD hS hA (va_runV (As := [.int (nI 140)]) (rest := [.int 10]) ⟨hx, hb, hml, hown, hts⟩ (kX9_draw l D H.size b L xs ad1 o1 y1 cI cO g (dr + 1) 3 3 n0 140 (by decide) (by decide) (by omega) hL) (cwV 1 hts gl_X9_draw rfl rfl rfl (by decide +kernel) ⟨Nat.le_of_ble_eq_true rfl, Nat.le_of_ble_eq_true rfl⟩) (s_preV hN hX hbl hbA hS hA hK (pre_P hP) (pre_D hD) (ci := 9) (q0 := 98) rfl rfl) rfl rfl hl.1 rfl (lv_room (Nat.le_of_ble_eq_true rfl)) dL_law_140 ⟨(show cells + 0 + 0 ≤ 600074 by omega), (show slots + 0 + 0 ≤ 7301550 by omega)⟩) (fun H locs hP hD hS => ?_)
  obtain ⟨e_mm, l_mm⟩ := dN_is xs L (dr + 1) (m := 140) (by decide) (by decide)
  rw [e_mm]
  obtain ⟨mm, f_mm⟩ : ∃ z, z = dN xs L (dr + 1) 140 := ⟨_, rfl⟩
  rw [← f_mm] at l_mm ⊢
  refine lv_imul hx hb dL_law_143 ?_
  rw [show (10 : Int32) * nI mm = nI (10 * mm) from nI_mul 10 mm]
  refine lv_iload hx hb dL_law_144 (lv_at hl 5 rfl) ?_
  refine lv_iadd hx hb dL_law_146 ?_
  rw [show ((nI (10 * mm)) : Int32) + (nI j) = nI ((10 * mm) + j) from nI_add _ _]
  obtain ⟨mi, hmi⟩ : ∃ z, z = 10 * mm + j := ⟨_, rfl⟩
  rw [← hmi]
  refine lv_istore (lv' := [(11, .int (nI mi)), (10, .int (nI d0)), (9, .int (nI i0)), (8, .int (nI l0)), (7, .int (nI s0)), (6, .int (nI c0)), (5, .int (nI j)), (4, .ref (ad1 0)), (3, .ref o2), (2, .ref o1), (1, .int (nI t0)), (0, .ref b)]) hx hb dL_law_147 hl (by decide) rfl (fun ls hl => ?_)
  have hd28 : d0 < 28 := by omega
  have hd10 : 10 ≤ d0 := by omega
  have hmi2 : mi < 1440 := by omega
  have hw4 : in_N (nI d0 / 7) 4 := by rw [div7 (by omega)]; exact in_NI (n := 4) (by omega) (by decide)
  have hn28 : in_N (nI d0) 28 := in_NI (n := 28) hd28 (by decide)
  have hc9 : in_N (nI c0) (g 45 3) := by rw [h3]; exact in_NI hc (by decide)
  have hs9 : in_N (nI s0) 10 := in_NI (n := 10) hs (by decide)
  have hl9 : in_N (nI l0) 6 := in_NI (n := 6) hl0 (by decide)
  have hm9 : in_R (nI mi) 0 1439 := in_RI (a := 0) (b := 1439) (Nat.zero_le _) (by omega) (by decide)
  refine lv_aload hx hb dL_law_149 (lv_at hl 7 rfl) ?_
  refine lv_iload hx hb dL_law_151 (lv_at hl 5 rfl) ?_
  refine lv_iload hx hb dL_law_153 (lv_at hl 1 rfl) ?_
  refine lv_bipush (v := 7) hx hb dL_law_155 (by decide) ?_
  refine lv_idiv hx hb dL_law_157 (by decide) ?_
  refine lv_iconst (v := 0) hx hb dL_law_158 (by decide) ?_
  have hK8 := hK.sub (tys' := [(cI, .int)]) [0] rfl
  have hP : va_P D vwCl (([] : va_W) ++ ((tcW ad1 cI g ++ tX ad1 o1 y1 b cI cO g (dr + 2) 3 3 n0) ++ (tW ad2 o2 y2 b cI cO h dr2 3 3 n0 ++ ([] : va_W)))) H := hP
  have hD : va_D A (([] : va_W) ++ ((tcW ad1 cI g ++ tX ad1 o1 y1 b cI cO g (dr + 2) 3 3 n0) ++ (tW ad2 o2 y2 b cI cO h dr2 3 3 n0 ++ ([] : va_W)))) := hD
  refine t_kmi hP hD hS hA (va_runV (As := [.int (nI c0), .int (nI d0 / 7), .int 0]) (rest := []) ⟨hx, hb, hml, hown, hts⟩ (kX8_ofWeek l D ad1 cI g H.size (nI c0) (nI d0 / 7) 0 isg hw4 (in_RI (k := 0) (a := 0) (b := 2) (by decide) (by decide) (by decide))) (cwV 3 hts gl_X8_ofWeek rfl rfl rfl (by decide +kernel) ⟨Nat.le_of_ble_eq_true rfl, Nat.le_of_ble_eq_true rfl⟩) (g_preV hK8 (mid_P hP) (mid_D hD) (ci := 8) (q0 := 0) rfl rfl) rfl rfl hl.1 rfl (lv_room (Nat.le_of_ble_eq_true rfl)) dL_law_159 ⟨(show cells + 0 + 0 + 0 ≤ 600074 by omega), (show slots + 0 + 0 + 0 ≤ 7301550 by omega)⟩) (fun H locs hP hD hS => ?_)
  rw [tW_r3 (ofWeek_KEEP g (nI c0) (nI d0 / 7) 0).r3] at hP hD
  obtain ⟨g1, f_g1⟩ : ∃ z : tG, z = fX8_ofWeek_w g (nI c0) (nI d0 / 7) 0 := ⟨_, rfl⟩
  rw [← f_g1] at hP hD
  have hP : va_P D vwCl (tW ad1 o1 y1 b cI cO g1 (dr + 2) 3 3 n0 ++ (tW ad2 o2 y2 b cI cO h dr2 3 3 n0 ++ ([] : va_W))) H := hP
  have hD : va_D A (tW ad1 o1 y1 b cI cO g1 (dr + 2) 3 3 n0 ++ (tW ad2 o2 y2 b cI cO h dr2 3 3 n0 ++ ([] : va_W))) := hD
  have k1 : KEEP g g1 := by rw [f_g1]; exact ofWeek_KEEP _ _ _ _
  have v1 := k1.val v
  have s1 : SAME g g1 n := k1.same
  obtain ⟨cost, fc⟩ : ∃ z, z = fX8_ofWeek_r g (nI c0) (nI d0 / 7) 0 := ⟨_, rfl⟩
  rw [← fc]
  refine lv_istore (lv' := [(12, .int cost), (11, .int (nI mi)), (10, .int (nI d0)), (9, .int (nI i0)), (8, .int (nI l0)), (7, .int (nI s0)), (6, .int (nI c0)), (5, .int (nI j)), (4, .ref (ad1 0)), (3, .ref o2), (2, .ref o1), (1, .int (nI t0)), (0, .ref b)]) hx hb dL_law_162 hl (by decide) rfl (fun ls hl => ?_)
  refine lv_aload hx hb dL_law_164 (lv_at hl 8 rfl) ?_
  have hK8 := hK.sub (tys' := [(cI, .int)]) [0] rfl
  have hP : va_P D vwCl (([] : va_W) ++ ((tcW ad1 cI g1 ++ tX ad1 o1 y1 b cI cO g1 (dr + 2) 3 3 n0) ++ (tW ad2 o2 y2 b cI cO h dr2 3 3 n0 ++ ([] : va_W)))) H := hP
  have hD : va_D A (([] : va_W) ++ ((tcW ad1 cI g1 ++ tX ad1 o1 y1 b cI cO g1 (dr + 2) 3 3 n0) ++ (tW ad2 o2 y2 b cI cO h dr2 3 3 n0 ++ ([] : va_W)))) := hD
  refine t_kml hP hD hS hA (va_runV (As := []) (rest := []) ⟨hx, hb, hml, hown, hts⟩ (kX8_digest l D ad1 cI g1 H.size ) (cwV 0 hts gl_X8_digest rfl rfl rfl (by decide +kernel) ⟨Nat.le_of_ble_eq_true rfl, Nat.le_of_ble_eq_true rfl⟩) (g_preV hK8 (mid_P hP) (mid_D hD) (ci := 8) (q0 := 0) rfl rfl) rfl rfl hl.1 rfl (lv_room (Nat.le_of_ble_eq_true rfl)) dL_law_166 ⟨(show cells + 0 + 0 + 0 + 0 ≤ 600074 by omega), (show slots + 0 + 0 + 0 + 0 ≤ 7301550 by omega)⟩) (fun H locs hP hD hS => ?_)
  rw [tW_r3 (dig_KEEP g1).r3] at hP hD
  obtain ⟨g2, f_g2⟩ : ∃ z : tG, z = fX8_digest_w g1 := ⟨_, rfl⟩
  rw [← f_g2] at hP hD
  have hP : va_P D vwCl (tW ad1 o1 y1 b cI cO g2 (dr + 2) 3 3 n0 ++ (tW ad2 o2 y2 b cI cO h dr2 3 3 n0 ++ ([] : va_W))) H := hP
  have hD : va_D A (tW ad1 o1 y1 b cI cO g2 (dr + 2) 3 3 n0 ++ (tW ad2 o2 y2 b cI cO h dr2 3 3 n0 ++ ([] : va_W))) := hD
  have k2 : KEEP g1 g2 := by rw [f_g2]; exact dig_KEEP _
  have v2 := k2.val v1
  have s2 : SAME g g2 n := s1.tr k2.same
  obtain ⟨bef, fb⟩ : ∃ z, z = fX8_digest_r g1 := ⟨_, rfl⟩
  rw [← fb]
  refine lv_lstore (lv' := [(13, .long bef), (12, .int cost), (11, .int (nI mi)), (10, .int (nI d0)), (9, .int (nI i0)), (8, .int (nI l0)), (7, .int (nI s0)), (6, .int (nI c0)), (5, .int (nI j)), (4, .ref (ad1 0)), (3, .ref o2), (2, .ref o1), (1, .int (nI t0)), (0, .ref b)]) hx hb dL_law_169 hl (by decide) rfl (fun ls hl => ?_)
  refine lv_aload hx hb dL_law_171 (lv_at hl 9 rfl) ?_
  refine lv_iload hx hb dL_law_173 (lv_at hl 7 rfl) ?_
  refine lv_iload hx hb dL_law_175 (lv_at hl 6 rfl) ?_
  refine lv_iload hx hb dL_law_177 (lv_at hl 5 rfl) ?_
  refine lv_iload hx hb dL_law_179 (lv_at hl 4 rfl) ?_
  refine lv_iload hx hb dL_law_181 (lv_at hl 3 rfl) ?_
  refine lv_iload hx hb dL_law_183 (lv_at hl 2 rfl) ?_
  have hc92 : in_N (nI c0) (g2 45 3) := by rw [v2.2.2.2.1]; exact in_NI hc (by decide)
  have hK8 := hK.sub (tys' := [(cI, .int)]) [0] rfl
  have hP : va_P D vwCl (([] : va_W) ++ ((tcW ad1 cI g2 ++ tX ad1 o1 y1 b cI cO g2 (dr + 2) 3 3 n0) ++ (tW ad2 o2 y2 b cI cO h dr2 3 3 n0 ++ ([] : va_W)))) H := hP
  have hD : va_D A (([] : va_W) ++ ((tcW ad1 cI g2 ++ tX ad1 o1 y1 b cI cO g2 (dr + 2) 3 3 n0) ++ (tW ad2 o2 y2 b cI cO h dr2 3 3 n0 ++ ([] : va_W)))) := hD
  refine t_kmi hP hD hS hA (va_runV (As := [.int (nI c0), .int (nI s0), .int (nI l0), .int (nI i0), .int (nI d0), .int (nI mi)]) (rest := []) ⟨hx, hb, hml, hown, hts⟩ (kX8_wouldCost l D ad1 cI g2 H.size (nI c0) (nI s0) (nI l0) (nI i0) (nI d0) (nI mi) hc92 hs9 hl9 hn28 hm9) (cwV 6 hts gl_X8_wouldCost rfl rfl rfl (by decide +kernel) ⟨Nat.le_of_ble_eq_true rfl, Nat.le_of_ble_eq_true rfl⟩) (g_preV hK8 (mid_P hP) (mid_D hD) (ci := 8) (q0 := 0) rfl rfl) rfl rfl hl.1 rfl (lv_room (Nat.le_of_ble_eq_true rfl)) dL_law_185 ⟨(show cells + 0 + 0 + 0 + 0 + 0 ≤ 600074 by omega), (show slots + 0 + 0 + 0 + 0 + 0 ≤ 7301550 by omega)⟩) (fun H locs hP hD hS => ?_)
  rw [tW_r3 ((would_keep v2 (nI c0) (nI s0) (nI l0) (nI i0) (nI d0) (nI mi)).2.stay.r3 x.2.2.2.2.2.1)] at hP hD
  obtain ⟨g3, f_g3⟩ : ∃ z : tG, z = fX8_wouldCost_w g2 (nI c0) (nI s0) (nI l0) (nI i0) (nI d0) (nI mi) := ⟨_, rfl⟩
  rw [← f_g3] at hP hD
  have hP : va_P D vwCl (tW ad1 o1 y1 b cI cO g3 (dr + 2) 3 3 n0 ++ (tW ad2 o2 y2 b cI cO h dr2 3 3 n0 ++ ([] : va_W))) H := hP
  have hD : va_D A (tW ad1 o1 y1 b cI cO g3 (dr + 2) 3 3 n0 ++ (tW ad2 o2 y2 b cI cO h dr2 3 3 n0 ++ ([] : va_W))) := hD
  have v3 : VAL g3 n 3 := by rw [f_g3]; exact (would_keep v2 _ _ _ _ _ _).1
  have s3 : SAME g g3 n := by rw [f_g3]; exact s2.tr (would_keep v2 _ _ _ _ _ _).2
  obtain ⟨more, fm⟩ : ∃ z, z = fX8_wouldCost_r g2 (nI c0) (nI s0) (nI l0) (nI i0) (nI d0) (nI mi) := ⟨_, rfl⟩
  rw [← fm]
  refine lv_istore (lv' := [(15, .int more), (13, .long bef), (12, .int cost), (11, .int (nI mi)), (10, .int (nI d0)), (9, .int (nI i0)), (8, .int (nI l0)), (7, .int (nI s0)), (6, .int (nI c0)), (5, .int (nI j)), (4, .ref (ad1 0)), (3, .ref o2), (2, .ref o1), (1, .int (nI t0)), (0, .ref b)]) hx hb dL_law_188 hl (by decide) rfl (fun ls hl => ?_)
  refine lv_aload hx hb dL_law_190 (lv_at hl 10 rfl) ?_
  refine lv_iload hx hb dL_law_192 (lv_at hl 8 rfl) ?_
  refine lv_iload hx hb dL_law_194 (lv_at hl 4 rfl) ?_
  refine lv_iload hx hb dL_law_196 (lv_at hl 7 rfl) ?_
  refine lv_iload hx hb dL_law_198 (lv_at hl 5 rfl) ?_
  have is3 : ¬ (fX0_isPerson_r g3 (nI c0)) = 0 := by rw [per_is v3.2.2.2.1 (s3.stay.per per) hc]; decide
  have hK8 := hK.sub (tys' := [(cI, .int)]) [0] rfl
  have hP : va_P D vwCl (([] : va_W) ++ ((tcW ad1 cI g3 ++ tX ad1 o1 y1 b cI cO g3 (dr + 2) 3 3 n0) ++ (tW ad2 o2 y2 b cI cO h dr2 3 3 n0 ++ ([] : va_W)))) H := hP
  have hD : va_D A (([] : va_W) ++ ((tcW ad1 cI g3 ++ tX ad1 o1 y1 b cI cO g3 (dr + 2) 3 3 n0) ++ (tW ad2 o2 y2 b cI cO h dr2 3 3 n0 ++ ([] : va_W)))) := hD
  refine t_kmi hP hD hS hA (va_runV (As := [.int (nI c0), .int (nI d0), .int (nI s0), .int (nI i0)]) (rest := []) ⟨hx, hb, hml, hown, hts⟩ (kX8_guess l D ad1 cI g3 H.size (nI c0) (nI d0) (nI s0) (nI i0) is3 hn28 hs9) (cwV 4 hts gl_X8_guess rfl rfl rfl (by decide +kernel) ⟨Nat.le_of_ble_eq_true rfl, Nat.le_of_ble_eq_true rfl⟩) (g_preV hK8 (mid_P hP) (mid_D hD) (ci := 8) (q0 := 0) rfl rfl) rfl rfl hl.1 rfl (lv_room (Nat.le_of_ble_eq_true rfl)) dL_law_200 ⟨(show cells + 0 + 0 + 0 + 0 + 0 + 0 ≤ 600074 by omega), (show slots + 0 + 0 + 0 + 0 + 0 + 0 ≤ 7301550 by omega)⟩) (fun H locs hP hD hS => ?_)
  rw [tW_r3 (guess_KEEP g3 (nI c0) (nI d0) (nI s0) (nI i0)).r3] at hP hD
  obtain ⟨g4, f_g4⟩ : ∃ z : tG, z = fX8_guess_w g3 (nI c0) (nI d0) (nI s0) (nI i0) := ⟨_, rfl⟩
  rw [← f_g4] at hP hD
  have hP : va_P D vwCl (tW ad1 o1 y1 b cI cO g4 (dr + 2) 3 3 n0 ++ (tW ad2 o2 y2 b cI cO h dr2 3 3 n0 ++ ([] : va_W))) H := hP
  have hD : va_D A (tW ad1 o1 y1 b cI cO g4 (dr + 2) 3 3 n0 ++ (tW ad2 o2 y2 b cI cO h dr2 3 3 n0 ++ ([] : va_W))) := hD
  have k4 : KEEP g3 g4 := by rw [f_g4]; exact guess_KEEP _ _ _ _ _
  have v4 := k4.val v3
  have s4 : SAME g g4 n := s3.tr k4.same
  obtain ⟨gu, fg⟩ : ∃ z, z = fX8_guess_r g3 (nI c0) (nI d0) (nI s0) (nI i0) := ⟨_, rfl⟩
  rw [← fg]
  refine lv_istore (lv' := [(16, .int gu), (15, .int more), (13, .long bef), (12, .int cost), (11, .int (nI mi)), (10, .int (nI d0)), (9, .int (nI i0)), (8, .int (nI l0)), (7, .int (nI s0)), (6, .int (nI c0)), (5, .int (nI j)), (4, .ref (ad1 0)), (3, .ref o2), (2, .ref o1), (1, .int (nI t0)), (0, .ref b)]) hx hb dL_law_203 hl (by decide) rfl (fun ls hl => ?_)
  refine lv_aload hx hb dL_law_205 (lv_at hl 11 rfl) ?_
  have hK8 := hK.sub (tys' := [(cI, .int)]) [0] rfl
  have hP : va_P D vwCl (([] : va_W) ++ ((tcW ad1 cI g4 ++ tX ad1 o1 y1 b cI cO g4 (dr + 2) 3 3 n0) ++ (tW ad2 o2 y2 b cI cO h dr2 3 3 n0 ++ ([] : va_W)))) H := hP
  have hD : va_D A (([] : va_W) ++ ((tcW ad1 cI g4 ++ tX ad1 o1 y1 b cI cO g4 (dr + 2) 3 3 n0) ++ (tW ad2 o2 y2 b cI cO h dr2 3 3 n0 ++ ([] : va_W)))) := hD
  refine t_kml hP hD hS hA (va_runV (As := []) (rest := []) ⟨hx, hb, hml, hown, hts⟩ (kX8_digest l D ad1 cI g4 H.size ) (cwV 0 hts gl_X8_digest rfl rfl rfl (by decide +kernel) ⟨Nat.le_of_ble_eq_true rfl, Nat.le_of_ble_eq_true rfl⟩) (g_preV hK8 (mid_P hP) (mid_D hD) (ci := 8) (q0 := 0) rfl rfl) rfl rfl hl.1 rfl (lv_room (Nat.le_of_ble_eq_true rfl)) dL_law_207 ⟨(show cells + 0 + 0 + 0 + 0 + 0 + 0 + 0 ≤ 600074 by omega), (show slots + 0 + 0 + 0 + 0 + 0 + 0 + 0 ≤ 7301550 by omega)⟩) (fun H locs hP hD hS => ?_)
  rw [tW_r3 (dig_KEEP g4).r3] at hP hD
  obtain ⟨g5, f_g5⟩ : ∃ z : tG, z = fX8_digest_w g4 := ⟨_, rfl⟩
  rw [← f_g5] at hP hD
  have hP : va_P D vwCl (tW ad1 o1 y1 b cI cO g5 (dr + 2) 3 3 n0 ++ (tW ad2 o2 y2 b cI cO h dr2 3 3 n0 ++ ([] : va_W))) H := hP
  have hD : va_D A (tW ad1 o1 y1 b cI cO g5 (dr + 2) 3 3 n0 ++ (tW ad2 o2 y2 b cI cO h dr2 3 3 n0 ++ ([] : va_W))) := hD
  have k5 : KEEP g4 g5 := by rw [f_g5]; exact dig_KEEP _
  have v5 := k5.val v4
  have s5 : SAME g g5 n := s4.tr k5.same
  rw [show fX8_digest_r g4 = bef by rw [fb]; exact (digest_congr v1 v4 (s1.sy.tr s4)).symm]
  refine lv_lload hx hb dL_law_210 (lv_at hl 2 rfl) ?_
  refine W.lcmp hx hb dL_law_212 ?_
  rw [lg_self]
  refine lv_if_ne (tgt := 229) hx hb dL_law_213 (by decide) (fun c9 => absurd rfl c9) (fun c9 => ?_)
  refine lv_aload_n hx hb dL_law_216 rfl (lv_at hl 12 rfl) ?_
  refine va_get (D := D) (ci := 9) (v := .ref (ad2 0)) (C := RX9) (T := TX9) (N := 9) hx hb hts inX9 hown hK hP ((tW ad1 o1 y1 b cI cO g5 (dr + 2) 3 3 n0).length + 98) (w2_at tW_o) rfl 0 (by decide) (hts _ (lx_778)) (fun _ h9 => h9) rfl dL_law_217 ?_
  have hK8 := hK.sub (tys' := [(cI, .int)]) [0] rfl
  have hP : va_P D vwCl (tW ad1 o1 y1 b cI cO g5 (dr + 2) 3 3 n0 ++ ((tcW ad2 cI h ++ tX ad2 o2 y2 b cI cO h dr2 3 3 n0) ++ ([] : va_W))) H := hP
  have hD : va_D A (tW ad1 o1 y1 b cI cO g5 (dr + 2) 3 3 n0 ++ ((tcW ad2 cI h ++ tX ad2 o2 y2 b cI cO h dr2 3 3 n0) ++ ([] : va_W))) := hD
  refine t_kml hP hD hS hA (va_runV (As := []) (rest := []) ⟨hx, hb, hml, hown, hts⟩ (kX8_digest l D ad2 cI h H.size ) (cwV 0 hts gl_X8_digest rfl rfl rfl (by decide +kernel) ⟨Nat.le_of_ble_eq_true rfl, Nat.le_of_ble_eq_true rfl⟩) (g_preV hK8 (mid_P hP) (mid_D hD) (ci := 8) (q0 := 0) rfl rfl) rfl rfl hl.1 rfl (lv_room (Nat.le_of_ble_eq_true rfl)) dL_law_220 ⟨(show cells + 0 + 0 + 0 + 0 + 0 + 0 + 0 + 0 ≤ 600074 by omega), (show slots + 0 + 0 + 0 + 0 + 0 + 0 + 0 + 0 ≤ 7301550 by omega)⟩) (fun H locs hP hD hS => ?_)
  rw [tW_r3 (dig_KEEP h).r3] at hP hD
  obtain ⟨h1, f_h1⟩ : ∃ z : tG, z = fX8_digest_w h := ⟨_, rfl⟩
  rw [← f_h1] at hP hD
  have hP : va_P D vwCl (tW ad1 o1 y1 b cI cO g5 (dr + 2) 3 3 n0 ++ (tW ad2 o2 y2 b cI cO h1 dr2 3 3 n0 ++ ([] : va_W))) H := hP
  have hD : va_D A (tW ad1 o1 y1 b cI cO g5 (dr + 2) 3 3 n0 ++ (tW ad2 o2 y2 b cI cO h1 dr2 3 3 n0 ++ ([] : va_W))) := hD
  have kh : KEEP h h1 := by rw [f_h1]; exact dig_KEEP _
  have w1 := kh.val x.2.1
  rw [show fX8_digest_r h = bef by rw [fb]; exact (digest_congr v1 x.2.1 (s1.sy.tr x.2.2.1)).symm]
  refine lv_lload hx hb dL_law_223 (lv_at hl 2 rfl) ?_
  refine W.lcmp hx hb dL_law_225 ?_
  rw [lg_self]
  refine lv_if_eq (tgt := 231) hx hb dL_law_226 (by decide) (fun c9 => ?_) (fun c9 => absurd rfl c9)
  have x5 : XTR g5 h1 n0 n j := x.same v5 s5 w1 kh.same
  obtain ⟨t1, t2, t3, t4, x6⟩ := x5.tap hn (by omega) (c := c0) (s := s0) (l := l0) (i := i0) hc hd10 hd28 l_mm
  rw [← hmi] at t1 t2 t3 t4 x6
  refine lv_aload hx hb dL_law_231 (lv_at hl 11 rfl) ?_
  refine lv_iload hx hb dL_law_233 (lv_at hl 9 rfl) ?_
  refine lv_iload hx hb dL_law_235 (lv_at hl 8 rfl) ?_
  refine lv_iload hx hb dL_law_237 (lv_at hl 7 rfl) ?_
  refine lv_iload hx hb dL_law_239 (lv_at hl 6 rfl) ?_
  refine lv_iload hx hb dL_law_241 (lv_at hl 5 rfl) ?_
  refine lv_iload hx hb dL_law_243 (lv_at hl 4 rfl) ?_
  have hc95 : in_N (nI c0) (g5 45 3) := by rw [v5.2.2.2.1]; exact in_NI hc (by decide)
  have r6 : ROW3 g5 (fX8_tap_w g5 (nI c0) (nI s0) (nI l0) (nI i0) (nI d0) (nI mi)) n0 := by rw [t2]; exact (tap_stay (by omega) _ _ _ _ _ _).r3 x.2.2.2.2.2.1
  have hK8 := hK.sub (tys' := [(cI, .int)]) [0] rfl
  have hP : va_P D vwCl (([] : va_W) ++ ((tcW ad1 cI g5 ++ tX ad1 o1 y1 b cI cO g5 (dr + 2) 3 3 n0) ++ (tW ad2 o2 y2 b cI cO h1 dr2 3 3 n0 ++ ([] : va_W)))) H := hP
  have hD : va_D A (([] : va_W) ++ ((tcW ad1 cI g5 ++ tX ad1 o1 y1 b cI cO g5 (dr + 2) 3 3 n0) ++ (tW ad2 o2 y2 b cI cO h1 dr2 3 3 n0 ++ ([] : va_W)))) := hD
  refine t_kmi hP hD hS hA (va_runV (As := [.int (nI c0), .int (nI s0), .int (nI l0), .int (nI i0), .int (nI d0), .int (nI mi)]) (rest := []) ⟨hx, hb, hml, hown, hts⟩ (kX8_tap l D ad1 cI g5 H.size (nI c0) (nI s0) (nI l0) (nI i0) (nI d0) (nI mi) hc95 hs9 hl9 hn28 hm9 (tap_cond v5 hn)) (cwV 6 hts gl_X8_tap rfl rfl rfl (by decide +kernel) ⟨Nat.le_of_ble_eq_true rfl, Nat.le_of_ble_eq_true rfl⟩) (g_preV hK8 (mid_P hP) (mid_D hD) (ci := 8) (q0 := 0) rfl rfl) rfl rfl hl.1 rfl (lv_room (Nat.le_of_ble_eq_true rfl)) dL_law_245 ⟨(show cells + 0 + 0 + 0 + 0 + 0 + 0 + 0 + 0 + 0 ≤ 600074 by omega), (show slots + 0 + 0 + 0 + 0 + 0 + 0 + 0 + 0 + 0 ≤ 7301550 by omega)⟩) (fun H locs hP hD hS => ?_)
  rw [tW_r3 r6] at hP hD
  obtain ⟨g6, f_g6⟩ : ∃ z : tG, z = fX8_tap_w g5 (nI c0) (nI s0) (nI l0) (nI i0) (nI d0) (nI mi) := ⟨_, rfl⟩
  rw [← f_g6] at hP hD
  have hP : va_P D vwCl (tW ad1 o1 y1 b cI cO g6 (dr + 2) 3 3 n0 ++ (tW ad2 o2 y2 b cI cO h1 dr2 3 3 n0 ++ ([] : va_W))) H := hP
  have hD : va_D A (tW ad1 o1 y1 b cI cO g6 (dr + 2) 3 3 n0 ++ (tW ad2 o2 y2 b cI cO h1 dr2 3 3 n0 ++ ([] : va_W))) := hD
  have e6 : g6 = tapK g5 n (nI c0) (nI s0) (nI l0) (nI i0) (nI d0) (nI mi) := f_g6.trans t2
  rw [t1]
  refine lv_aload_n hx hb dL_law_248 rfl (lv_at hl 12 rfl) ?_
  refine va_get (D := D) (ci := 9) (v := .ref (ad2 0)) (C := RX9) (T := TX9) (N := 9) hx hb hts inX9 hown hK hP ((tW ad1 o1 y1 b cI cO g6 (dr + 2) 3 3 n0).length + 98) (w2_at tW_o) rfl 0 (by decide) (hts _ (lx_778)) (fun _ h9 => h9) rfl dL_law_249 ?_
  refine lv_iload hx hb dL_law_252 (lv_at hl 9 rfl) ?_
  refine lv_iload hx hb dL_law_254 (lv_at hl 8 rfl) ?_
  refine lv_iload hx hb dL_law_256 (lv_at hl 7 rfl) ?_
  refine lv_iload hx hb dL_law_258 (lv_at hl 6 rfl) ?_
  refine lv_iload hx hb dL_law_260 (lv_at hl 5 rfl) ?_
  refine lv_iload hx hb dL_law_262 (lv_at hl 4 rfl) ?_
  have hc9h : in_N (nI c0) (h1 45 3) := by rw [w1.2.2.2.1]; exact in_NI hc (by decide)
  have r7 : ROW3 h1 (fX8_tap_w h1 (nI c0) (nI s0) (nI l0) (nI i0) (nI d0) (nI mi)) n0 := by rw [t4]; exact (tap_stay (by omega) _ _ _ _ _ _).r3 x.2.2.2.2.2.1
  have hK8 := hK.sub (tys' := [(cI, .int)]) [0] rfl
  have hP : va_P D vwCl (tW ad1 o1 y1 b cI cO g6 (dr + 2) 3 3 n0 ++ ((tcW ad2 cI h1 ++ tX ad2 o2 y2 b cI cO h1 dr2 3 3 n0) ++ ([] : va_W))) H := hP
  have hD : va_D A (tW ad1 o1 y1 b cI cO g6 (dr + 2) 3 3 n0 ++ ((tcW ad2 cI h1 ++ tX ad2 o2 y2 b cI cO h1 dr2 3 3 n0) ++ ([] : va_W))) := hD
  refine t_kmi hP hD hS hA (va_runV (As := [.int (nI c0), .int (nI s0), .int (nI l0), .int (nI i0), .int (nI d0), .int (nI mi)]) (rest := [.int (nI (n + 1))]) ⟨hx, hb, hml, hown, hts⟩ (kX8_tap l D ad2 cI h1 H.size (nI c0) (nI s0) (nI l0) (nI i0) (nI d0) (nI mi) hc9h hs9 hl9 hn28 hm9 (tap_cond w1 hn)) (cwV 6 hts gl_X8_tap rfl rfl rfl (by decide +kernel) ⟨Nat.le_of_ble_eq_true rfl, Nat.le_of_ble_eq_true rfl⟩) (g_preV hK8 (mid_P hP) (mid_D hD) (ci := 8) (q0 := 0) rfl rfl) rfl rfl hl.1 rfl (lv_room (Nat.le_of_ble_eq_true rfl)) dL_law_264 ⟨(show cells + 0 + 0 + 0 + 0 + 0 + 0 + 0 + 0 + 0 + 0 ≤ 600074 by omega), (show slots + 0 + 0 + 0 + 0 + 0 + 0 + 0 + 0 + 0 + 0 ≤ 7301550 by omega)⟩) (fun H locs hP hD hS => ?_)
  rw [tW_r3 r7] at hP hD
  obtain ⟨h2, f_h2⟩ : ∃ z : tG, z = fX8_tap_w h1 (nI c0) (nI s0) (nI l0) (nI i0) (nI d0) (nI mi) := ⟨_, rfl⟩
  rw [← f_h2] at hP hD
  have hP : va_P D vwCl (tW ad1 o1 y1 b cI cO g6 (dr + 2) 3 3 n0 ++ (tW ad2 o2 y2 b cI cO h2 dr2 3 3 n0 ++ ([] : va_W))) H := hP
  have hD : va_D A (tW ad1 o1 y1 b cI cO g6 (dr + 2) 3 3 n0 ++ (tW ad2 o2 y2 b cI cO h2 dr2 3 3 n0 ++ ([] : va_W))) := hD
  have eh : h2 = tapK h1 n (nI c0) (nI s0) (nI l0) (nI i0) (nI d0) (nI mi) := f_h2.trans t4
  rw [t3]
  rw [← e6, ← eh] at x6
  refine lv_icmp_ne (tgt := 291) hx hb dL_law_267 (by decide) (fun c9 => absurd rfl c9) (fun c9 => ?_)
  have v6 := x6.1
  have per6 := x6.2.2.2.1
  have is6 : ¬ (fX0_isPerson_r g6 (nI c0)) = 0 := by rw [per_is v6.2.2.2.1 per6 hc]; decide
  have hcost : fX8_ofWeek_r g6 (nI c0) (nI d0 / 7) 0 = cost + more := by
    rw [e6, fc, fm]
    exact would_cost v v2 v5 s2 s5 hn (by rw [gA_nI (j := 9) (show c0 < 4 by omega) (by decide)]; exact (per c0 hc).1) hd28 hmi2
  refine lv_aload hx hb dL_law_270 (lv_at hl 11 rfl) ?_
  refine lv_iload hx hb dL_law_272 (lv_at hl 9 rfl) ?_
  refine lv_iload hx hb dL_law_274 (lv_at hl 5 rfl) ?_
  refine lv_bipush (v := 7) hx hb dL_law_276 (by decide) ?_
  refine lv_idiv hx hb dL_law_278 (by decide) ?_
  refine lv_iconst (v := 0) hx hb dL_law_279 (by decide) ?_
  have hK8 := hK.sub (tys' := [(cI, .int)]) [0] rfl
  have hP : va_P D vwCl (([] : va_W) ++ ((tcW ad1 cI g6 ++ tX ad1 o1 y1 b cI cO g6 (dr + 2) 3 3 n0) ++ (tW ad2 o2 y2 b cI cO h2 dr2 3 3 n0 ++ ([] : va_W)))) H := hP
  have hD : va_D A (([] : va_W) ++ ((tcW ad1 cI g6 ++ tX ad1 o1 y1 b cI cO g6 (dr + 2) 3 3 n0) ++ (tW ad2 o2 y2 b cI cO h2 dr2 3 3 n0 ++ ([] : va_W)))) := hD
  refine t_kmi hP hD hS hA (va_runV (As := [.int (nI c0), .int (nI d0 / 7), .int 0]) (rest := []) ⟨hx, hb, hml, hown, hts⟩ (kX8_ofWeek l D ad1 cI g6 H.size (nI c0) (nI d0 / 7) 0 is6 hw4 (in_RI (k := 0) (a := 0) (b := 2) (by decide) (by decide) (by decide))) (cwV 3 hts gl_X8_ofWeek rfl rfl rfl (by decide +kernel) ⟨Nat.le_of_ble_eq_true rfl, Nat.le_of_ble_eq_true rfl⟩) (g_preV hK8 (mid_P hP) (mid_D hD) (ci := 8) (q0 := 0) rfl rfl) rfl rfl hl.1 rfl (lv_room (Nat.le_of_ble_eq_true rfl)) dL_law_280 ⟨(show cells + 0 + 0 + 0 + 0 + 0 + 0 + 0 + 0 + 0 + 0 + 0 ≤ 600074 by omega), (show slots + 0 + 0 + 0 + 0 + 0 + 0 + 0 + 0 + 0 + 0 + 0 ≤ 7301550 by omega)⟩) (fun H locs hP hD hS => ?_)
  rw [tW_r3 (ofWeek_KEEP g6 (nI c0) (nI d0 / 7) 0).r3] at hP hD
  obtain ⟨g7, f_g7⟩ : ∃ z : tG, z = fX8_ofWeek_w g6 (nI c0) (nI d0 / 7) 0 := ⟨_, rfl⟩
  rw [← f_g7] at hP hD
  have hP : va_P D vwCl (tW ad1 o1 y1 b cI cO g7 (dr + 2) 3 3 n0 ++ (tW ad2 o2 y2 b cI cO h2 dr2 3 3 n0 ++ ([] : va_W))) H := hP
  have hD : va_D A (tW ad1 o1 y1 b cI cO g7 (dr + 2) 3 3 n0 ++ (tW ad2 o2 y2 b cI cO h2 dr2 3 3 n0 ++ ([] : va_W))) := hD
  have k7 : KEEP g6 g7 := by rw [f_g7]; exact ofWeek_KEEP _ _ _ _
  rw [hcost]
  refine lv_iload hx hb dL_law_283 (lv_at hl 3 rfl) ?_
  refine lv_iload hx hb dL_law_285 (lv_at hl 1 rfl) ?_
  refine lv_iadd hx hb dL_law_287 ?_
  refine lv_icmp_eq (tgt := 293) hx hb dL_law_288 (by decide) (fun c9 => ?_) (fun c9 => absurd rfl c9)
  have v7 := k7.val v6
  have per7 : PER g7 := (k7.stay (n := 0)).per per6
  have is7 : ¬ (fX0_isPerson_r g7 (nI c0)) = 0 := by rw [per_is v7.2.2.2.1 per7 hc]; decide
  refine lv_aload hx hb dL_law_293 (lv_at hl 11 rfl) ?_
  refine lv_iload hx hb dL_law_295 (lv_at hl 9 rfl) ?_
  refine lv_iload hx hb dL_law_297 (lv_at hl 5 rfl) ?_
  refine lv_iconst (v := 1) hx hb dL_law_299 (by decide) ?_
  have hK8 := hK.sub (tys' := [(cI, .int)]) [0] rfl
  have hP : va_P D vwCl (([] : va_W) ++ ((tcW ad1 cI g7 ++ tX ad1 o1 y1 b cI cO g7 (dr + 2) 3 3 n0) ++ (tW ad2 o2 y2 b cI cO h2 dr2 3 3 n0 ++ ([] : va_W)))) H := hP
  have hD : va_D A (([] : va_W) ++ ((tcW ad1 cI g7 ++ tX ad1 o1 y1 b cI cO g7 (dr + 2) 3 3 n0) ++ (tW ad2 o2 y2 b cI cO h2 dr2 3 3 n0 ++ ([] : va_W)))) := hD
  refine t_kmi hP hD hS hA (va_runV (As := [.int (nI c0), .int (nI d0), .int 1]) (rest := []) ⟨hx, hb, hml, hown, hts⟩ (kX8_ofDay l D ad1 cI g7 H.size (nI c0) (nI d0) 1 is7 hn28 (in_RI (k := 1) (a := 0) (b := 7) (by decide) (by decide) (by decide))) (cwV 3 hts gl_X8_ofDay rfl rfl rfl (by decide +kernel) ⟨Nat.le_of_ble_eq_true rfl, Nat.le_of_ble_eq_true rfl⟩) (g_preV hK8 (mid_P hP) (mid_D hD) (ci := 8) (q0 := 0) rfl rfl) rfl rfl hl.1 rfl (lv_room (Nat.le_of_ble_eq_true rfl)) dL_law_300 ⟨(show cells + 0 + 0 + 0 + 0 + 0 + 0 + 0 + 0 + 0 + 0 + 0 + 0 ≤ 600074 by omega), (show slots + 0 + 0 + 0 + 0 + 0 + 0 + 0 + 0 + 0 + 0 + 0 + 0 ≤ 7301550 by omega)⟩) (fun H locs hP hD hS => ?_)
  rw [tW_r3 (ofDay_KEEP g7 (nI c0) (nI d0) 1).r3] at hP hD
  obtain ⟨g8, f_g8⟩ : ∃ z : tG, z = fX8_ofDay_w g7 (nI c0) (nI d0) 1 := ⟨_, rfl⟩
  rw [← f_g8] at hP hD
  have hP : va_P D vwCl (tW ad1 o1 y1 b cI cO g8 (dr + 2) 3 3 n0 ++ (tW ad2 o2 y2 b cI cO h2 dr2 3 3 n0 ++ ([] : va_W))) H := hP
  have hD : va_D A (tW ad1 o1 y1 b cI cO g8 (dr + 2) 3 3 n0 ++ (tW ad2 o2 y2 b cI cO h2 dr2 3 3 n0 ++ ([] : va_W))) := hD
  have k8 : KEEP g7 g8 := by rw [f_g8]; exact ofDay_KEEP _ _ _ _
  have v8 := k8.val v7
  have per8 : PER g8 := (k8.stay (n := 0)).per per7
  have is8 : ¬ (fX0_isPerson_r g8 (nI c0)) = 0 := by rw [per_is v8.2.2.2.1 per8 hc]; decide
  have x8 : XTR g8 h2 n0 (n + 1) (j + 1) := x6.same v8 ((k7.tr k8).same) x6.2.1 SAME.rf
  obtain ⟨le, fl⟩ : ∃ z, z = fX8_ofDay_r g7 (nI c0) (nI d0) 1 := ⟨_, rfl⟩
  rw [← fl]
  refine lv_istore (lv' := [(17, .int le), (16, .int gu), (15, .int more), (13, .long bef), (12, .int cost), (11, .int (nI mi)), (10, .int (nI d0)), (9, .int (nI i0)), (8, .int (nI l0)), (7, .int (nI s0)), (6, .int (nI c0)), (5, .int (nI j)), (4, .ref (ad1 0)), (3, .ref o2), (2, .ref o1), (1, .int (nI t0)), (0, .ref b)]) hx hb dL_law_303 hl (by decide) rfl (fun ls hl => ?_)
  refine lv_iload hx hb dL_law_305 (lv_at hl 0 rfl) ?_
  refine lv_iconst (v := 1) hx hb dL_law_307 (by decide) ?_
  refine lv_icmp_ne (tgt := 376) hx hb dL_law_308 (by decide) (fun c1 => ?_) (fun c1 => ?_)
  · exact kk _ _ H locs ls x8 (lv_sub hl [11, 12, 13, 14, 15, 16] rfl) hP hD hS
  · refine lv_aload hx hb dL_law_311 (lv_at hl 12 rfl) ?_
    refine lv_iload hx hb dL_law_313 (lv_at hl 10 rfl) ?_
    refine lv_iload hx hb dL_law_315 (lv_at hl 6 rfl) ?_
    refine lv_iconst (v := 0) hx hb dL_law_317 (by decide) ?_
    have hK8 := hK.sub (tys' := [(cI, .int)]) [0] rfl
    have hP : va_P D vwCl (([] : va_W) ++ ((tcW ad1 cI g8 ++ tX ad1 o1 y1 b cI cO g8 (dr + 2) 3 3 n0) ++ (tW ad2 o2 y2 b cI cO h2 dr2 3 3 n0 ++ ([] : va_W)))) H := hP
    have hD : va_D A (([] : va_W) ++ ((tcW ad1 cI g8 ++ tX ad1 o1 y1 b cI cO g8 (dr + 2) 3 3 n0) ++ (tW ad2 o2 y2 b cI cO h2 dr2 3 3 n0 ++ ([] : va_W)))) := hD
    refine t_kmi hP hD hS hA (va_runV (As := [.int (nI c0), .int (nI d0), .int 0]) (rest := []) ⟨hx, hb, hml, hown, hts⟩ (kX8_ofDay l D ad1 cI g8 H.size (nI c0) (nI d0) 0 is8 hn28 (in_RI (k := 0) (a := 0) (b := 7) (by decide) (by decide) (by decide))) (cwV 3 hts gl_X8_ofDay rfl rfl rfl (by decide +kernel) ⟨Nat.le_of_ble_eq_true rfl, Nat.le_of_ble_eq_true rfl⟩) (g_preV hK8 (mid_P hP) (mid_D hD) (ci := 8) (q0 := 0) rfl rfl) rfl rfl hl.1 rfl (lv_room (Nat.le_of_ble_eq_true rfl)) dL_law_318 ⟨(show cells + 0 + 0 + 0 + 0 + 0 + 0 + 0 + 0 + 0 + 0 + 0 + 0 + 0 ≤ 600074 by omega), (show slots + 0 + 0 + 0 + 0 + 0 + 0 + 0 + 0 + 0 + 0 + 0 + 0 + 0 ≤ 7301550 by omega)⟩) (fun H locs hP hD hS => ?_)
    rw [tW_r3 (ofDay_KEEP g8 (nI c0) (nI d0) 0).r3] at hP hD
    obtain ⟨g9, f_g9⟩ : ∃ z : tG, z = fX8_ofDay_w g8 (nI c0) (nI d0) 0 := ⟨_, rfl⟩
    rw [← f_g9] at hP hD
    have hP : va_P D vwCl (tW ad1 o1 y1 b cI cO g9 (dr + 2) 3 3 n0 ++ (tW ad2 o2 y2 b cI cO h2 dr2 3 3 n0 ++ ([] : va_W))) H := hP
    have hD : va_D A (tW ad1 o1 y1 b cI cO g9 (dr + 2) 3 3 n0 ++ (tW ad2 o2 y2 b cI cO h2 dr2 3 3 n0 ++ ([] : va_W))) := hD
    have k9 : KEEP g8 g9 := by rw [f_g9]; exact ofDay_KEEP _ _ _ _
    have v9 := k9.val v8
    have per9 : PER g9 := (k9.stay (n := 0)).per per8
    have is9 : ¬ (fX0_isPerson_r g9 (nI c0)) = 0 := by rw [per_is v9.2.2.2.1 per9 hc]; decide
    have x9 : XTR g9 h2 n0 (n + 1) (j + 1) := x8.same v9 k9.same x8.2.1 SAME.rf
    obtain ⟨ta, fta⟩ : ∃ z, z = fX8_ofDay_r g8 (nI c0) (nI d0) 0 := ⟨_, rfl⟩
    rw [← fta]
    refine lv_iconst (v := 1) hx hb dL_law_321 (by decide) ?_
    refine lv_icmp_ne (tgt := 376) hx hb dL_law_322 (by decide) (fun c2 => ?_) (fun c2 => ?_)
    · exact kk _ _ H locs ls x9 (lv_sub hl [11, 12, 13, 14, 15, 16] rfl) hP hD hS
    · have a1 : fX8_ofDay_r g9 (nI c0) (nI d0) 1 = 1 := by rw [← ofDay_congr v7 v9 ((k8.tr k9).same) (nI c0) hd28 1, ← fl]; exact c1
      have a0 : fX8_ofDay_r g9 (nI c0) (nI d0) 0 = 1 := by rw [← ofDay_congr v8 v9 k9.same (nI c0) hd28 0, ← fta]; exact c2
      have kk9 : KEEP g6 g9 := (k7.tr k8).tr k9
      have row9 : ∀ q, 13 ≤ q → q < 19 → g9 q n = tv6 (nI c0) (nI s0) (nI l0) (nI i0) (nI d0) (nI mi) q := fun q q1 q2 => by rw [kk9.1 q q2, e6, tapK_row (by omega) _ _ _ _ _ _ q q2 q1, upd_s]
      obtain ⟨lg1, lg2⟩ := leg_guess (g3 := g3) (g9 := g9) (n := n) (c := c0) (D := d0) (s := s0) (i := i0) (by omega) v3 v9 (fun q hq => by rw [kk9.1 q (by omega), e6, (tap_stay (by omega) _ _ _ _ _ _).1 q hq, s5.1 q hq, s3.1 q hq]) (fun q q1 q2 a ha => by rw [kk9.1 q q2, e6, (tap_stay (by omega) _ _ _ _ _ _).2.1 q q1 q2 a ha, s5.2.1 q q1 q2 a ha, s3.2.1 q q1 q2 a ha]) hc (per9 c0 hc).1 (row9 13 (by decide) (by decide)) (row9 14 (by decide) (by decide)) ((row9 16 (by decide) (by decide)).trans (nIb hi)) (row9 17 (by decide) (by decide)) hi hd28 a1 a0
      refine lv_aload hx hb dL_law_325 (lv_at hl 12 rfl) ?_
      refine lv_iload hx hb dL_law_327 (lv_at hl 10 rfl) ?_
      refine lv_iload hx hb dL_law_329 (lv_at hl 6 rfl) ?_
      refine lv_iconst (v := 0) hx hb dL_law_331 (by decide) ?_
      refine lv_iload hx hb dL_law_332 (lv_at hl 7 rfl) ?_
      refine s_law_b1 hx hb hi ?_
      have hK8 := hK.sub (tys' := [(cI, .int)]) [0] rfl
      have hP : va_P D vwCl (([] : va_W) ++ ((tcW ad1 cI g9 ++ tX ad1 o1 y1 b cI cO g9 (dr + 2) 3 3 n0) ++ (tW ad2 o2 y2 b cI cO h2 dr2 3 3 n0 ++ ([] : va_W)))) H := hP
      have hD : va_D A (([] : va_W) ++ ((tcW ad1 cI g9 ++ tX ad1 o1 y1 b cI cO g9 (dr + 2) 3 3 n0) ++ (tW ad2 o2 y2 b cI cO h2 dr2 3 3 n0 ++ ([] : va_W)))) := hD
      refine t_kmi hP hD hS hA (va_runV (As := [.int (nI c0), .int (nI d0), .int 0, .int (nI i0)]) (rest := []) ⟨hx, hb, hml, hown, hts⟩ (kX8_ofLeg l D ad1 cI g9 H.size (nI c0) (nI d0) 0 (nI i0) is9 hn28 (by rw [← ofDay_1, a1]; exact in_NI (k := 0) (n := 1) (by decide) (by decide)) (in_RI (a := 0) (b := 6) (Nat.zero_le _) (by omega) (by decide))) (cwV 4 hts gl_X8_ofLeg rfl rfl rfl (by decide +kernel) ⟨Nat.le_of_ble_eq_true rfl, Nat.le_of_ble_eq_true rfl⟩) (g_preV hK8 (mid_P hP) (mid_D hD) (ci := 8) (q0 := 0) rfl rfl) rfl rfl hl.1 rfl (lv_room (Nat.le_of_ble_eq_true rfl)) dL_law_342 ⟨(show cells + 0 + 0 + 0 + 0 + 0 + 0 + 0 + 0 + 0 + 0 + 0 + 0 + 0 + 0 ≤ 600074 by omega), (show slots + 0 + 0 + 0 + 0 + 0 + 0 + 0 + 0 + 0 + 0 + 0 + 0 + 0 + 0 ≤ 7301550 by omega)⟩) (fun H locs hP hD hS => ?_)
      rw [tW_r3 (ofLeg_KEEP g9 (nI c0) (nI d0) 0 (nI i0)).r3] at hP hD
      obtain ⟨ga, f_ga⟩ : ∃ z : tG, z = fX8_ofLeg_w g9 (nI c0) (nI d0) 0 (nI i0) := ⟨_, rfl⟩
      rw [← f_ga] at hP hD
      have hP : va_P D vwCl (tW ad1 o1 y1 b cI cO ga (dr + 2) 3 3 n0 ++ (tW ad2 o2 y2 b cI cO h2 dr2 3 3 n0 ++ ([] : va_W))) H := hP
      have hD : va_D A (tW ad1 o1 y1 b cI cO ga (dr + 2) 3 3 n0 ++ (tW ad2 o2 y2 b cI cO h2 dr2 3 3 n0 ++ ([] : va_W))) := hD
      have ka : KEEP g9 ga := by rw [f_ga]; exact ofLeg_KEEP _ _ _ _ _
      have va := ka.val v9
      have pera : PER ga := (ka.stay (n := 0)).per per9
      have isa : ¬ (fX0_isPerson_r ga (nI c0)) = 0 := by rw [per_is va.2.2.2.1 pera hc]; decide
      rw [lg1, ← fg]
      refine lv_iload hx hb dL_law_345 (lv_at hl 1 rfl) ?_
      refine lv_icmp_ne (tgt := 374) hx hb dL_law_347 (by decide) (fun c9 => absurd rfl c9) (fun c9 => ?_)
      have aa1 : fX8_ofDay_r ga (nI c0) (nI d0) 1 = 1 := by rw [← ofDay_congr v9 va ka.same (nI c0) hd28 1]; exact a1
      refine lv_aload hx hb dL_law_350 (lv_at hl 12 rfl) ?_
      refine lv_iload hx hb dL_law_352 (lv_at hl 10 rfl) ?_
      refine lv_iload hx hb dL_law_354 (lv_at hl 6 rfl) ?_
      refine lv_iconst (v := 0) hx hb dL_law_356 (by decide) ?_
      refine lv_iconst (v := 5) hx hb dL_law_357 (by decide) ?_
      have lga : fX8_ofLeg_r ga (nI c0) (nI d0) 0 5 = nI (i0 + 1) := by
        have a0a : fX8_ofDay_r ga (nI c0) (nI d0) 0 = 1 := by rw [← ofDay_congr v9 va ka.same (nI c0) hd28 0]; exact a0
        have kka := kk9.tr ka
        have rowa : ∀ q, 13 ≤ q → q < 19 → ga q n = tv6 (nI c0) (nI s0) (nI l0) (nI i0) (nI d0) (nI mi) q := fun q q1 q2 => by rw [ka.1 q q2]; exact row9 q q1 q2
        exact (leg_guess (g3 := g3) (g9 := ga) (n := n) (c := c0) (D := d0) (s := s0) (i := i0) (by omega) v3 va (fun q hq => by rw [kka.1 q (by omega), e6, (tap_stay (by omega) _ _ _ _ _ _).1 q hq, s5.1 q hq, s3.1 q hq]) (fun q q1 q2 a ha => by rw [kka.1 q q2, e6, (tap_stay (by omega) _ _ _ _ _ _).2.1 q q1 q2 a ha, s5.2.1 q q1 q2 a ha, s3.2.1 q q1 q2 a ha]) hc (pera c0 hc).1 (rowa 13 (by decide) (by decide)) (rowa 14 (by decide) (by decide)) ((rowa 16 (by decide) (by decide)).trans (nIb hi)) (rowa 17 (by decide) (by decide)) hi hd28 aa1 a0a).2
      have hK8 := hK.sub (tys' := [(cI, .int)]) [0] rfl
      have hP : va_P D vwCl (([] : va_W) ++ ((tcW ad1 cI ga ++ tX ad1 o1 y1 b cI cO ga (dr + 2) 3 3 n0) ++ (tW ad2 o2 y2 b cI cO h2 dr2 3 3 n0 ++ ([] : va_W)))) H := hP
      have hD : va_D A (([] : va_W) ++ ((tcW ad1 cI ga ++ tX ad1 o1 y1 b cI cO ga (dr + 2) 3 3 n0) ++ (tW ad2 o2 y2 b cI cO h2 dr2 3 3 n0 ++ ([] : va_W)))) := hD
      refine t_kmi hP hD hS hA (va_runV (As := [.int (nI c0), .int (nI d0), .int 0, .int 5]) (rest := []) ⟨hx, hb, hml, hown, hts⟩ (kX8_ofLeg l D ad1 cI ga H.size (nI c0) (nI d0) 0 5 isa hn28 (by rw [← ofDay_1, aa1]; exact in_NI (k := 0) (n := 1) (by decide) (by decide)) (in_RI (k := 5) (a := 0) (b := 6) (by decide) (by decide) (by decide))) (cwV 4 hts gl_X8_ofLeg rfl rfl rfl (by decide +kernel) ⟨Nat.le_of_ble_eq_true rfl, Nat.le_of_ble_eq_true rfl⟩) (g_preV hK8 (mid_P hP) (mid_D hD) (ci := 8) (q0 := 0) rfl rfl) rfl rfl hl.1 rfl (lv_room (Nat.le_of_ble_eq_true rfl)) dL_law_358 ⟨(show cells + 0 + 0 + 0 + 0 + 0 + 0 + 0 + 0 + 0 + 0 + 0 + 0 + 0 + 0 + 0 ≤ 600074 by omega), (show slots + 0 + 0 + 0 + 0 + 0 + 0 + 0 + 0 + 0 + 0 + 0 + 0 + 0 + 0 + 0 ≤ 7301550 by omega)⟩) (fun H locs hP hD hS => ?_)
      rw [tW_r3 (ofLeg_KEEP ga (nI c0) (nI d0) 0 5).r3] at hP hD
      obtain ⟨gb, f_gb⟩ : ∃ z : tG, z = fX8_ofLeg_w ga (nI c0) (nI d0) 0 5 := ⟨_, rfl⟩
      rw [← f_gb] at hP hD
      have hP : va_P D vwCl (tW ad1 o1 y1 b cI cO gb (dr + 2) 3 3 n0 ++ (tW ad2 o2 y2 b cI cO h2 dr2 3 3 n0 ++ ([] : va_W))) H := hP
      have hD : va_D A (tW ad1 o1 y1 b cI cO gb (dr + 2) 3 3 n0 ++ (tW ad2 o2 y2 b cI cO h2 dr2 3 3 n0 ++ ([] : va_W))) := hD
      have kb : KEEP ga gb := by rw [f_gb]; exact ofLeg_KEEP _ _ _ _ _
      rw [lga]
      refine lv_iload hx hb dL_law_361 (lv_at hl 7 rfl) ?_
      refine s_law_b2 hx hb hi ?_
      refine lv_icmp_eq (tgt := 376) hx hb dL_law_371 (by decide) (fun c9 => ?_) (fun c9 => absurd rfl c9)
      have xb : XTR gb h2 n0 (n + 1) (j + 1) := x9.same (kb.val va) (ka.tr kb).same x9.2.1 SAME.rf
      exact kk _ _ H locs ls xb (lv_sub hl [11, 12, 13, 14, 15, 16] rfl) hP hD hS
set_option maxHeartbeats 4000000 in
set_option maxRecDepth 100000 in
theorem s_law_taps (hx : p.tables.exec = Jvm.exec) (hb : c.code = code) (hml : c.maxLocals = 18) (hts : ∀ w ∈ lw_tbl, w.before args s = true) (hown : s.vm.findClass RL = some m.cls) (hN : s_N s) (hX : va_X b L xs s s.heap) (hbl : b < s.heap.size) (hbA : ¬ A b) (hA : ∀ q : Nat, s.heap.size ≤ q → A q) (hK : va_K D vwCl (tY_T cI cO) s) (hL : L < 2 ^ 20) (hcl : cells ≤ 600074) (hsl : slots ≤ 7301550) : ∀ (r j n dr : Nat) (g h : tG) (H : Heap) (locs : List Loc) (ls : Array Slot), j + r = 6 → XTR g h n0 n j → dr + 6 * r < 2 ^ 18 → lv_has ls 18 [(5, .int (nI j)), (4, .ref (ad1 0)), (3, .ref o2), (2, .ref o1), (1, .int (nI t0)), (0, .ref b)] → va_P D vwCl (tW ad1 o1 y1 b cI cO g dr 3 3 n0 ++ (tW ad2 o2 y2 b cI cO h dr2 3 3 n0 ++ ([] : va_W))) H → va_D A (tW ad1 o1 y1 b cI cO g dr 3 3 n0 ++ (tW ad2 o2 y2 b cI cO h dr2 3 3 n0 ++ ([] : va_W))) → va_S A s.heap H locs → (∀ (n dr j : Nat) (g h : tG) (H : Heap) (locs : List Loc) (ls : Array Slot), XTR g h n0 n j → lv_has ls 18 [(4, .ref (ad1 0)), (3, .ref o2), (2, .ref o1), (1, .int (nI t0)), (0, .ref b)] → va_P D vwCl (tW ad1 o1 y1 b cI cO g dr 3 3 n0 ++ (tW ad2 o2 y2 b cI cO h dr2 3 3 n0 ++ ([] : va_W))) H → va_D A (tW ad1 o1 y1 b cI cO g dr 3 3 n0 ++ (tW ad2 o2 y2 b cI cO h dr2 3 3 n0 ++ ([] : va_W))) → va_S A s.heap H locs → W p l e room_1 s m args below meth c H locs cells slots Q (F0 m 382 ls [])) → W p l e room_1 s m args below meth c H locs cells slots Q (F0 m 68 ls []) := by
  intro r
  induction r with
  | zero =>
    intro j n dr g h H locs ls hj x hdr hl hP hD hS kk
    have e9 : j = 6 := by omega
    subst e9
    refine lv_iload hx hb dL_law_68 (lv_at hl 0 rfl) ?_
    refine lv_bipush (v := 6) hx hb dL_law_70 (by decide) ?_
    refine lv_icmp_ge (tgt := 382) hx hb dL_law_72 (by decide) (fun c1 => ?_) (fun c1 => absurd (by decide) c1)
    exact kk n dr 6 g h H locs ls x (lv_sub hl [1, 2, 3, 4, 5] rfl) hP hD hS
  | succ r ih =>
    intro j n dr g h H locs ls hj x hdr hl hP hD hS kk
    refine lv_iload hx hb dL_law_68 (lv_at hl 0 rfl) ?_
    refine lv_bipush (v := 6) hx hb dL_law_70 (by decide) ?_
    refine lv_icmp_ge (tgt := 382) hx hb dL_law_72 (by decide) (fun c1 => absurd ((nI_geq (b := 6) (by omega) (by decide)).mp c1) (by omega)) (fun c1 => ?_)
    have hn40 := x.1.2.1
    refine lv_aload hx hb dL_law_75 (lv_at hl 1 rfl) ?_
    refine lv_iconst (v := 1) hx hb dL_law_77 (by decide) ?_
    have hK8 := hK.sub (tys' := [(cI, .int)]) [0] rfl
    have hP : va_P D vwCl (([] : va_W) ++ ((tcW ad1 cI g ++ tX ad1 o1 y1 b cI cO g dr 3 3 n0) ++ (tW ad2 o2 y2 b cI cO h dr2 3 3 n0 ++ ([] : va_W)))) H := hP
    have hD : va_D A (([] : va_W) ++ ((tcW ad1 cI g ++ tX ad1 o1 y1 b cI cO g dr 3 3 n0) ++ (tW ad2 o2 y2 b cI cO h dr2 3 3 n0 ++ ([] : va_W)))) := hD
    refine t_kmi hP hD hS hA (va_runV (As := [.int 1]) (rest := []) ⟨hx, hb, hml, hown, hts⟩ (kX8_many l D ad1 cI g H.size 1 (in_RI (k := 1) (a := 0) (b := 8) (by decide) (by decide) (by decide))) (cwV 1 hts gl_X8_many rfl rfl rfl (by decide +kernel) ⟨Nat.le_of_ble_eq_true rfl, Nat.le_of_ble_eq_true rfl⟩) (g_preV hK8 (mid_P hP) (mid_D hD) (ci := 8) (q0 := 0) rfl rfl) rfl rfl hl.1 rfl (lv_room (Nat.le_of_ble_eq_true rfl)) dL_law_78 ⟨(show cells + 0 ≤ 600074 by omega), (show slots + 0 ≤ 7301550 by omega)⟩) (fun H locs hP hD hS => ?_)
    have hP : va_P D vwCl (tW ad1 o1 y1 b cI cO g dr 3 3 n0 ++ (tW ad2 o2 y2 b cI cO h dr2 3 3 n0 ++ ([] : va_W))) H := hP
    have hD : va_D A (tW ad1 o1 y1 b cI cO g dr 3 3 n0 ++ (tW ad2 o2 y2 b cI cO h dr2 3 3 n0 ++ ([] : va_W))) := hD
    rw [many_1, x.1.1]
    refine lv_bipush (v := 40) hx hb dL_law_81 (by decide) ?_
    refine lv_icmp_ge (tgt := 382) hx hb dL_law_83 (by decide) (fun c2 => ?_) (fun c2 => ?_)
    · exact kk n dr j g h H locs ls x (lv_sub hl [1, 2, 3, 4, 5] rfl) hP hD hS
    have hn : n < 40 := by
      have : ¬ 40 ≤ n := fun q => c2 ((nI_geq (b := 40) (by omega) (by decide)).mpr q)
      omega
    refine lv_aload_n hx hb dL_law_86 rfl (lv_at hl 3 rfl) ?_
    refine lv_iconst (v := 3) hx hb dL_law_87 (by decide) ?_
    refine t_ki hP hD hS hA (va_runV (As := [.int (nI 3)]) (rest := []) ⟨hx, hb, hml, hown, hts⟩ (kX9_draw l D H.size b L xs ad1 o1 y1 cI cO g dr 3 3 n0 3 (by decide) (by decide) (by omega) hL) (cwV 1 hts gl_X9_draw rfl rfl rfl (by decide +kernel) ⟨Nat.le_of_ble_eq_true rfl, Nat.le_of_ble_eq_true rfl⟩) (s_preV hN hX hbl hbA hS hA hK (pre_P hP) (pre_D hD) (ci := 9) (q0 := 98) rfl rfl) rfl rfl hl.1 rfl (lv_room (Nat.le_of_ble_eq_true rfl)) dL_law_88 ⟨(show cells + 0 + 0 ≤ 600074 by omega), (show slots + 0 + 0 ≤ 7301550 by omega)⟩) (fun H locs hP hD hS => ?_)
    obtain ⟨e_c0, l_c0⟩ := dN_is xs L (dr) (m := 3) (by decide) (by decide)
    rw [e_c0]
    obtain ⟨c0, f_c0⟩ : ∃ z, z = dN xs L (dr) 3 := ⟨_, rfl⟩
    rw [← f_c0] at l_c0 ⊢
    refine lv_istore (lv' := [(6, .int (nI c0)), (5, .int (nI j)), (4, .ref (ad1 0)), (3, .ref o2), (2, .ref o1), (1, .int (nI t0)), (0, .ref b)]) hx hb dL_law_91 hl (by decide) rfl (fun ls hl => ?_)
    refine lv_aload_n hx hb dL_law_93 rfl (lv_at hl 4 rfl) ?_
    refine lv_bipush (v := 6) hx hb dL_law_94 (by decide) ?_
    refine t_ki hP hD hS hA (va_runV (As := [.int (nI 6)]) (rest := []) ⟨hx, hb, hml, hown, hts⟩ (kX9_draw l D H.size b L xs ad1 o1 y1 cI cO g (dr + 1) 3 3 n0 6 (by decide) (by decide) (by omega) hL) (cwV 1 hts gl_X9_draw rfl rfl rfl (by decide +kernel) ⟨Nat.le_of_ble_eq_true rfl, Nat.le_of_ble_eq_true rfl⟩) (s_preV hN hX hbl hbA hS hA hK (pre_P hP) (pre_D hD) (ci := 9) (q0 := 98) rfl rfl) rfl rfl hl.1 rfl (lv_room (Nat.le_of_ble_eq_true rfl)) dL_law_96 ⟨(show cells + 0 + 0 + 0 ≤ 600074 by omega), (show slots + 0 + 0 + 0 ≤ 7301550 by omega)⟩) (fun H locs hP hD hS => ?_)
    obtain ⟨e_s0, l_s0⟩ := dN_is xs L (dr + 1) (m := 6) (by decide) (by decide)
    rw [e_s0]
    obtain ⟨s0, f_s0⟩ : ∃ z, z = dN xs L (dr + 1) 6 := ⟨_, rfl⟩
    rw [← f_s0] at l_s0 ⊢
    refine lv_istore (lv' := [(7, .int (nI s0)), (6, .int (nI c0)), (5, .int (nI j)), (4, .ref (ad1 0)), (3, .ref o2), (2, .ref o1), (1, .int (nI t0)), (0, .ref b)]) hx hb dL_law_99 hl (by decide) rfl (fun ls hl => ?_)
    refine lv_aload_n hx hb dL_law_101 rfl (lv_at hl 5 rfl) ?_
    refine lv_iconst (v := 4) hx hb dL_law_102 (by decide) ?_
    refine t_ki hP hD hS hA (va_runV (As := [.int (nI 4)]) (rest := []) ⟨hx, hb, hml, hown, hts⟩ (kX9_draw l D H.size b L xs ad1 o1 y1 cI cO g (dr + 2) 3 3 n0 4 (by decide) (by decide) (by omega) hL) (cwV 1 hts gl_X9_draw rfl rfl rfl (by decide +kernel) ⟨Nat.le_of_ble_eq_true rfl, Nat.le_of_ble_eq_true rfl⟩) (s_preV hN hX hbl hbA hS hA hK (pre_P hP) (pre_D hD) (ci := 9) (q0 := 98) rfl rfl) rfl rfl hl.1 rfl (lv_room (Nat.le_of_ble_eq_true rfl)) dL_law_103 ⟨(show cells + 0 + 0 + 0 + 0 ≤ 600074 by omega), (show slots + 0 + 0 + 0 + 0 ≤ 7301550 by omega)⟩) (fun H locs hP hD hS => ?_)
    obtain ⟨e_l0, l_l0⟩ := dN_is xs L (dr + 2) (m := 4) (by decide) (by decide)
    rw [e_l0]
    obtain ⟨l0, f_l0⟩ : ∃ z, z = dN xs L (dr + 2) 4 := ⟨_, rfl⟩
    rw [← f_l0] at l_l0 ⊢
    refine lv_istore (lv' := [(8, .int (nI l0)), (7, .int (nI s0)), (6, .int (nI c0)), (5, .int (nI j)), (4, .ref (ad1 0)), (3, .ref o2), (2, .ref o1), (1, .int (nI t0)), (0, .ref b)]) hx hb dL_law_106 hl (by decide) rfl (fun ls hl => ?_)
    refine lv_aload_n hx hb dL_law_108 rfl (lv_at hl 6 rfl) ?_
    refine lv_iconst (v := 2) hx hb dL_law_109 (by decide) ?_
    refine t_ki hP hD hS hA (va_runV (As := [.int (nI 2)]) (rest := []) ⟨hx, hb, hml, hown, hts⟩ (kX9_draw l D H.size b L xs ad1 o1 y1 cI cO g (dr + 3) 3 3 n0 2 (by decide) (by decide) (by omega) hL) (cwV 1 hts gl_X9_draw rfl rfl rfl (by decide +kernel) ⟨Nat.le_of_ble_eq_true rfl, Nat.le_of_ble_eq_true rfl⟩) (s_preV hN hX hbl hbA hS hA hK (pre_P hP) (pre_D hD) (ci := 9) (q0 := 98) rfl rfl) rfl rfl hl.1 rfl (lv_room (Nat.le_of_ble_eq_true rfl)) dL_law_110 ⟨(show cells + 0 + 0 + 0 + 0 + 0 ≤ 600074 by omega), (show slots + 0 + 0 + 0 + 0 + 0 ≤ 7301550 by omega)⟩) (fun H locs hP hD hS => ?_)
    obtain ⟨e_i0, l_i0⟩ := dN_is xs L (dr + 3) (m := 2) (by decide) (by decide)
    rw [e_i0]
    obtain ⟨i0, f_i0⟩ : ∃ z, z = dN xs L (dr + 3) 2 := ⟨_, rfl⟩
    rw [← f_i0] at l_i0 ⊢
    refine lv_if_ne (tgt := 120) hx hb dL_law_113 (by decide) (fun c1 => ?_) (fun c1 => ?_)
    · refine lv_iconst (v := 0) hx hb dL_law_120 (by decide) ?_
      refine s_law_tap hx hb hml hts hown hN hX hbl hbA hA hK hL (cells := cells + 0 + 0 + 0 + 0 + 0) (slots := slots + 0 + 0 + 0 + 0 + 0) (by omega) (by omega) (i0 := 0) x hn (by omega) l_c0 (by omega) (by omega) (by decide) (by omega) (lv_sub hl [0, 1, 2, 3, 4, 5, 6, 7, 8] rfl) hP hD hS (fun g h H locs ls x hl hP hD hS => ?_)
      refine lv_iinc (v := nI (j + 1)) (lv' := [(5, .int (nI (j + 1))), (4, .ref (ad1 0)), (3, .ref o2), (2, .ref o1), (1, .int (nI t0)), (0, .ref b)]) hx hb dL_law_376 hl (k := 0) rfl (nI_1 j) (by decide) rfl (fun ls hl => ?_)
      refine lv_goto (tgt := 68) hx hb dL_law_379 (by decide) ?_
      exact ih (j + 1) (n + 1) (dr + 4 + 2) g h H locs ls (by omega) x (by omega) (lv_sub hl [0, 1, 2, 3, 4, 5] rfl) hP hD hS kk
    · refine lv_iconst (v := 1) hx hb dL_law_116 (by decide) ?_
      refine lv_goto (tgt := 121) hx hb dL_law_117 (by decide) ?_
      refine s_law_tap hx hb hml hts hown hN hX hbl hbA hA hK hL (cells := cells + 0 + 0 + 0 + 0 + 0) (slots := slots + 0 + 0 + 0 + 0 + 0) (by omega) (by omega) (i0 := 1) x hn (by omega) l_c0 (by omega) (by omega) (by decide) (by omega) (lv_sub hl [0, 1, 2, 3, 4, 5, 6, 7, 8] rfl) hP hD hS (fun g h H locs ls x hl hP hD hS => ?_)
      refine lv_iinc (v := nI (j + 1)) (lv' := [(5, .int (nI (j + 1))), (4, .ref (ad1 0)), (3, .ref o2), (2, .ref o1), (1, .int (nI t0)), (0, .ref b)]) hx hb dL_law_376 hl (k := 0) rfl (nI_1 j) (by decide) rfl (fun ls hl => ?_)
      refine lv_goto (tgt := 68) hx hb dL_law_379 (by decide) ?_
      exact ih (j + 1) (n + 1) (dr + 4 + 2) g h H locs ls (by omega) x (by omega) (lv_sub hl [0, 1, 2, 3, 4, 5] rfl) hP hD hS kk
end LW1
