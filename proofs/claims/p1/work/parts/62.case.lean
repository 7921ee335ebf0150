theorem ne1 {x : Nat × va_E} {o : Nat} (h : x.1 ≠ o) : ∀ (k : Nat) (q : Nat × va_E), [x][k]? = some q → q.1 ≠ o := by
  intro k q hk
  have h0 : k < 1 := (List.getElem?_eq_some_iff.mp hk).1
  rw [show k = 0 by omega] at hk
  cases hk
  exact h
set_option maxHeartbeats 4000000 in
set_option maxRecDepth 100000 in
theorem law_zone {p : Program} {l : Launch} {e : Env} {s : State} {m : MethodId} {below : List Frame} {meth : Method} {c : Code} (hfl : l.stackTraces = false) {D : va_G} {ad : Nat → Nat} {cI cJ cO cZ : ClassId} {b h0 o : Nat} {xs : Nat → Int32} {u r0 r1 r2 : Nat → Nat} {sa : Nat → Nat} (C0 : lw_At p s m meth c b 7 xs) (hN : ex_n s) (hE : ex_w sa s) (hZ : ex_z (fun q : Nat => s.heap.size ≤ q) s s.heap) (hKW : va_K D vwCl [(cI, .int), (cJ, .long)] s) (hKM : va_K D vwCl [(cI, .int), (cO, .array .int), (cZ, .boolean)] s) {H : Heap} {locs : List Loc} (hP : va_P D vwCl (wrW ad cI cJ o ++ tmW h0 u r0 r1 r2 cI cO cZ) H) (hD : va_D (fun q : Nat => s.heap.size ≤ q) (wrW ad cI cJ o ++ tmW h0 u r0 r1 r2 cI cO cZ)) (hS : va_S (fun q : Nat => s.heap.size ≤ q) s.heap H locs) {od : Nat} {ls : Array Slot} (hl : lv_has ls 9 [(5, .int 0), (4, .ref od), (3, .ref o), (2, .ref h0), (1, .ref (ad 0)), (0, .ref b)]) : W p l e room_1 s m #[Value.ref b] below meth c H locs 400 10000 (lw_Z below #[Value.ref b] s) (F0 m 160 ls []) := by
  obtain ⟨hx, hb, hr, hml, hown, hts, hX, hbl, hlocks, hgv⟩ := id C0
  have hA : ∀ q : Nat, s.heap.size ≤ q → (fun q : Nat => s.heap.size ≤ q) q := fun _ h => h
  have hbA : ¬ (fun q : Nat => s.heap.size ≤ q) b := Nat.not_le.mpr hbl
  have ho : ∀ (k : Nat) (q : Nat × va_E), (tmW h0 u r0 r1 r2 cI cO cZ)[k]? = some q → q.1 ≠ o := ne_of hD 98 rfl
  have hne : h0 ≠ o := ho 0 (h0, _) rfl
  refine lv_aload_n hx hb dL_law_160 rfl (lv_at hl 4 rfl) ?_
  refine lv_aload_n hx hb dL_law_161 rfl (lv_at hl 5 rfl) ?_
  refine lv_iload hx hb dL_law_162 (lv_at hl 0 rfl) ?_
  refine lv_iconst (v := 1) hx hb dL_law_164 (by decide) ?_
  refine lv_iadd hx hb dL_law_165 ?_
  refine W.eq (g2 := F0 m 166 ls [.int 1, .ref b, .ref (ad 0)]) rfl ?_
  refine va_sld hx hb hX hbl hbA hS (by unfold vp_in; decide) dL_law_166 ?_
  refine W.eq (g2 := F0 m 167 ls [.int (xs 1), .ref (ad 0)]) rfl ?_
  refine lv_aload_n hx hb dL_law_167 rfl (lv_at hl 5 rfl) ?_
  refine lv_iload hx hb dL_law_168 (lv_at hl 0 rfl) ?_
  refine lv_iconst (v := 2) hx hb dL_law_170 (by decide) ?_
  refine lv_iadd hx hb dL_law_171 ?_
  refine W.eq (g2 := F0 m 172 ls [.int 2, .ref b, .int (xs 1), .ref (ad 0)]) rfl ?_
  refine va_sld hx hb hX hbl hbA hS (by unfold vp_in; decide) dL_law_172 ?_
  refine W.eq (g2 := F0 m 173 ls [.int (xs 2), .int (xs 1), .ref (ad 0)]) rfl ?_
  refine lv_aload_n hx hb dL_law_173 rfl (lv_at hl 2 rfl) ?_
  refine l_kw hP hD hS hA (vx_runSX (hh := [(0, 10, 13, 13), (0, 10, 17, 15)]) (As := [.ref (ad 0), .int (xs 1), .int (xs 2), .ref o]) (rest := []) ⟨hx, hb, hml, hown, hts⟩ (w_zone l hfl D ad cI cJ H.size o (xs 1) (xs 2) sa) (vx_cwSW 4 hts gl_L_zone rfl rfl rfl (by decide +kernel) ⟨Nat.le_of_ble_eq_true rfl, Nat.le_of_ble_eq_true rfl⟩) (w_preS hN hE hZ hKW (pre_P hP) (pre_D hD) hS hA) rfl rfl hl.1 rfl (lv_room (Nat.le_of_ble_eq_true rfl)) dL_law_174 ⟨Nat.le_of_ble_eq_true rfl, Nat.le_of_ble_eq_true rfl⟩) (fun k f H locs hw hPo hPb hDb hS => ?_)
  refine lv_istore (lv' := [(6, .int k), (5, .int 0), (4, .ref od), (3, .ref o), (2, .ref h0), (1, .ref (ad 0)), (0, .ref b)]) hx hb dL_law_177 hl (by decide) rfl (fun ls hl => ?_)
  refine lv_aload_n hx hb dL_law_179 rfl (lv_at hl 4 rfl) ?_
  refine lv_aload_n hx hb dL_law_180 rfl (lv_at hl 6 rfl) ?_
  refine lv_iload hx hb dL_law_181 (lv_at hl 1 rfl) ?_
  refine lv_iconst (v := 1) hx hb dL_law_183 (by decide) ?_
  refine lv_iadd hx hb dL_law_184 ?_
  refine W.eq (g2 := F0 m 185 ls [.int 1, .ref b, .ref h0]) rfl ?_
  refine va_sld hx hb hX hbl hbA hS (by unfold vp_in; decide) dL_law_185 ?_
  refine W.eq (g2 := F0 m 186 ls [.int (xs 1), .ref h0]) rfl ?_
  refine lv_aload_n hx hb dL_law_186 rfl (lv_at hl 6 rfl) ?_
  refine lv_iload hx hb dL_law_187 (lv_at hl 1 rfl) ?_
  refine lv_iconst (v := 2) hx hb dL_law_189 (by decide) ?_
  refine lv_iadd hx hb dL_law_190 ?_
  refine W.eq (g2 := F0 m 191 ls [.int 2, .ref b, .int (xs 1), .ref h0]) rfl ?_
  refine va_sld hx hb hX hbl hbA hS (by unfold vp_in; decide) dL_law_191 ?_
  refine W.eq (g2 := F0 m 192 ls [.int (xs 2), .int (xs 1), .ref h0]) rfl ?_
  refine l_km hPb hDb hS hA hPo ho (va_runV (As := [.int (xs 1), .int (xs 2)]) (rest := []) ⟨hx, hb, hml, hown, hts⟩ (qm_zone l D H.size h0 u r0 r1 r2 cI cO cZ (tmP r0 r1 r2 cI) (xs 1) (xs 2)) (cwV 2 hts gl_X9_zone rfl rfl rfl (by decide +kernel) ⟨Nat.le_of_ble_eq_true rfl, Nat.le_of_ble_eq_true rfl⟩) (g_preV hKM hPb hDb (ci := 9) (q0 := 0) rfl rfl) rfl rfl hl.1 rfl (lv_room (Nat.le_of_ble_eq_true rfl)) dL_law_192 ⟨Nat.le_of_ble_eq_true rfl, Nat.le_of_ble_eq_true rfl⟩) (fun r v t H locs hv hm hPm hDm hPo hS => ?_)
  refine lv_istore (lv' := [(7, .int r), (6, .int k), (5, .int 0), (4, .ref od), (3, .ref o), (2, .ref h0), (1, .ref (ad 0)), (0, .ref b)]) hx hb dL_law_195 hl (by decide) rfl (fun ls hl => ?_)
  refine lv_aload_n hx hb dL_law_197 rfl (lv_at hl 5 rfl) ?_
  refine l_kt hDm hS hA hPo (ne1 hne) (va_runV (As := []) (rest := []) ⟨hx, hb, hml, hown, hts⟩ (q_thrown l D [(cI, .int), (cO, .array .int), (cZ, .boolean)] H.size h0 v t hv) (cwV 0 hts gl_X9_thrown rfl rfl rfl (by decide +kernel) ⟨Nat.le_of_ble_eq_true rfl, Nat.le_of_ble_eq_true rfl⟩) (g_preV hKM hPm hDm (ci := 9) (q0 := 0) rfl rfl) rfl rfl hl.1 rfl (lv_room (Nat.le_of_ble_eq_true rfl)) dL_law_198 ⟨Nat.le_of_ble_eq_true rfl, Nat.le_of_ble_eq_true rfl⟩) (fun H locs hPo hS => ?_)
  have ag := ag_zone (x0 := xs 1) (x1 := xs 2) (y := f 0) hw hm
  refine lv_iload hx hb dL_law_201 (lv_at hl 1 rfl) ?_
  refine lv_icmp_eq (tgt := 208) hx hb dL_law_203 (by decide) (fun c_356 => ?_) (fun c_356 => ?_)
  · refine lv_iload hx hb dL_law_208 (lv_at hl 1 rfl) ?_
    refine lv_if_ne (tgt := 225) hx hb dL_law_210 (by decide) (fun c_357 => ?_) (fun c_357 => ?_)
    · refine lv_goto (tgt := 2118) hx hb dL_law_225 (by decide) ?_
      exact law_tail C0 hS (lv_sub hl [2, 7] rfl)
    · have agv := ag.2 c_357
      refine lv_aload_n hx hb dL_law_213 rfl (lv_at hl 4 rfl) ?_
      refine lv_iconst (v := 0) hx hb dL_law_214 (by decide) ?_
      refine va_lald (tys := [(cI, .int), (cJ, .long)]) hx hb hKW hPo 0 1 rfl rfl (by unfold vp_in; decide) dL_law_215 ?_
      refine W.eq (g2 := F0 m 216 ls [.long (f 0)]) rfl ?_
      refine lv_iload hx hb dL_law_216 (lv_at hl 0 rfl) ?_
      refine lv_i2l (v := r.toInt64) hx hb dL_law_218 rfl ?_
      refine W.lcmp hx hb dL_law_219 ?_
      refine lv_if_eq (tgt := 225) hx hb dL_law_220 (by decide) (fun c_358 => ?_) (fun c_358 => ?_)
      · refine lv_goto (tgt := 2118) hx hb dL_law_225 (by decide) ?_
        exact law_tail C0 hS (lv_sub hl [2, 7] rfl)
      · exact absurd (by rw [agv]; exact lg_cmp_self _) c_358
  · exact absurd ag.1 c_356
