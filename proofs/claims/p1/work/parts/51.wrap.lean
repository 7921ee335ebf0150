/-! the law's wrappers -/
def ex_n (U : State) : Prop := va_Nc ex_IA ex_IX U
abbrev wrW (ad : Nat → Nat) (cI cJ : ClassId) (o : Nat) : va_W := tcW ad cI tc_0 ++ [(o, .inl (cJ, 1, .inr (.inl (fun _ => 0))))]
abbrev wrD (ad : Nat → Nat) (cI cJ : ClassId) (o : Nat) : va_W := tcW ad cI tc_0 ++ [(o, .inl (cJ, 1, .inr (.inr (.inr (.inl (fun _ => 0))))))]
abbrev w_P (D : va_G) (tys : List (ClassId × FieldType)) (ws : va_W) (av : List Value) (sz : Nat) (sa : Nat → Nat) : Array Value → State → Prop := va_Pc av (fun U => ex_n U ∧ ex_w sa U ∧ ex_z (va_A ws sz) U U.heap ∧ U.heap.size = sz ∧ va_P D vwCl ws U.heap ∧ va_K D vwCl tys U ∧ va_D (fun _ => True) ws)
theorem w_blind {D : va_G} {tys : List (ClassId × FieldType)} {ws : va_W} {av : List Value} {sz : Nat} {sa : Nat → Nat} : FrameBlind (w_P D tys ws av sz sa) := by
  intro a U g mk q
  obtain ⟨q0, qN, qE, qZ, q1, qP, qK, qD⟩ := q
  exact ⟨q0, va_Nc.moved (u := U) (U := U.calling g mk a) (Vm.Alike.refl U.vm) qN, qE.same rfl, ⟨qZ.1.moved (Vm.Alike.refl U.vm), qZ.2.moved (Vm.Alike.refl U.vm)⟩, q1, qP, va_K.moved (u := U) (U := U.calling g mk a) (Vm.Alike.refl U.vm) qK, qD⟩
theorem fr_keep {D : va_G} {A : Nat → Prop} {a b : va_W} {H H1 : Heap} (hP : va_P D vwCl (a ++ b) H) (hD : va_D A (a ++ b)) (hk : ∀ q, q < H.size → ¬ va_A a H.size q → H1[q]? = H[q]?) : va_P D vwCl b H1 ∧ va_D A b := by
  have hb : ∀ (k : Nat) (q : Nat × va_E), b[k]? = some q → (a ++ b)[a.length + k]? = some q := fun k q h => by rw [List.getElem?_append_right (Nat.le_add_right _ _), Nat.add_sub_cancel_left]; exact h
  refine ⟨fun k q hq => (hP _ _ (hb k q hq)).kept (hk q.1 ((hP _ _ (hb k q hq)).lt) ?_), ⟨fun i j p q hi hj e => Nat.add_left_cancel (hD.1 _ _ p q (hb i p hi) (hb j q hj) e), fun k q hq => hD.2 _ q (hb k q hq)⟩⟩
  rintro (⟨i, e, hi⟩ | h)
  · have h1 : i < a.length := (List.getElem?_eq_some_iff.mp hi).1
    have h2 := hD.1 i (a.length + k) (q.1, e) q (by rw [List.getElem?_append_left h1]; exact hi) (hb k q hq) rfl
    omega
  · exact absurd ((hP _ _ (hb k q hq)).lt) (Nat.not_lt.mpr h)
section WC
variable {p : Program} {l : Launch} {e : Env} {R : Room} {s : State} {m : MethodId} {args : Array Value} {below : List Frame} {meth : Method} {c : Code} {H : Heap} {locs : List Loc} {cells slots : Nat} {Q : State → Prop}
variable {pc : Nat} {ls : Array Slot} {rest st0 : List Value} {D : va_G} {a b : va_W} {A : Nat → Prop} {mc ms : Nat} {cc : ByteArray}
theorem w_ki {post : Int32 → Prop} {ex : String → Prop} {av : Array Value} (hP : va_P D vwCl (a ++ b) H) (hD : va_D A (a ++ b)) (hS : va_S A s.heap H locs) (hA : ∀ q, s.heap.size ≤ q → A q)
    (hr : vx_Run p l e R s m args below meth c H locs cells slots mc ms (F0 m pc ls st0) rest (o_Qi (va_A a H.size) post av) (o_X (va_A a H.size) ex) (va_A a H.size))
    (kx : ∀ (E : String) (ce : Cell) (q9 : Addr) (H1 : Heap) (locs1 : List Loc), ex E → va_P D vwCl b H1 → va_D A b → va_S A s.heap H1 locs1 → H1[q9]? = some ce → ce.vm = .none → s.vm.findClass E = some ce.cls → vx_W p l e R s m args below meth c H1 locs1 (cells + mc) (slots + ms) Q (F0 m pc ls rest) q9)
    (kk : ∀ (r : Int32) (H1 : Heap) (locs1 : List Loc), post r → va_P D vwCl b H1 → va_D A b → va_S A s.heap H1 locs1 → W p l e R s m args below meth c H1 locs1 (cells + mc) (slots + ms) Q (F0 m (pc + 3) ls (.int r :: rest))) : W p l e R s m args below meth c H locs cells slots Q (F0 m pc ls st0) := by
  have hF := g_free (pre_D hD) hS hA
  refine vx_calli hr hS (fun q _ h => hF q h) hF (fun q _ h => hF q h) (fun E ce q9 u t H1 locs1 ht hvm hpx hB hz1 hk1 hS1 hce hcv hcl => ?_) (fun r u t H1 locs1 ht hvm hw hB hz1 hk1 hS1 => ?_)
  · obtain ⟨hP1, hD1⟩ := fr_keep hP hD hk1
    exact kx E ce q9 H1 locs1 hB hP1 hD1 hS1 hce hcv hcl
  · obtain ⟨hP1, hD1⟩ := fr_keep hP hD hk1
    exact kk r H1 locs1 hw hP1 hD1 hS1
theorem w_kd {post : UInt64 → Prop} {ex : String → Prop} {av : Array Value} (hP : va_P D vwCl (a ++ b) H) (hD : va_D A (a ++ b)) (hS : va_S A s.heap H locs) (hA : ∀ q, s.heap.size ≤ q → A q)
    (hr : vx_Run p l e R s m args below meth c H locs cells slots mc ms (F0 m pc ls st0) rest (o_Qd (va_A a H.size) post av) (o_X (va_A a H.size) ex) (va_A a H.size))
    (kx : ∀ (E : String) (ce : Cell) (q9 : Addr) (H1 : Heap) (locs1 : List Loc), ex E → va_P D vwCl b H1 → va_D A b → va_S A s.heap H1 locs1 → H1[q9]? = some ce → ce.vm = .none → s.vm.findClass E = some ce.cls → vx_W p l e R s m args below meth c H1 locs1 (cells + mc) (slots + ms) Q (F0 m pc ls rest) q9)
    (kk : ∀ (r : UInt64) (H1 : Heap) (locs1 : List Loc), post r → va_P D vwCl b H1 → va_D A b → va_S A s.heap H1 locs1 → W p l e R s m args below meth c H1 locs1 (cells + mc) (slots + ms) Q (F0 m (pc + 3) ls (.double r :: rest))) : W p l e R s m args below meth c H locs cells slots Q (F0 m pc ls st0) := by
  have hF := g_free (pre_D hD) hS hA
  refine vx_calld hr hS (fun q _ h => hF q h) hF (fun q _ h => hF q h) (fun E ce q9 u t H1 locs1 ht hvm hpx hB hz1 hk1 hS1 hce hcv hcl => ?_) (fun r u t H1 locs1 ht hvm hw hB hz1 hk1 hS1 => ?_)
  · obtain ⟨hP1, hD1⟩ := fr_keep hP hD hk1
    exact kx E ce q9 H1 locs1 hB hP1 hD1 hS1 hce hcv hcl
  · obtain ⟨hP1, hD1⟩ := fr_keep hP hD hk1
    exact kk r H1 locs1 hw hP1 hD1 hS1
abbrev w_Q (D : va_G) (cJ : ClassId) (o : Nat) (A : Nat → Prop) (post : Int32 → Int64 → Prop) : Array Value → State → Outcome → State → Prop := va_Qi (fun k (f : Nat → Int64) => post k (f 0)) (fun f t => va_P D vwCl [(o, .inl (cJ, 1, .inr (.inl f)))] t.heap) A
abbrev w_R (D : va_G) (cJ : ClassId) (o : Nat) (A : Nat → Prop) (post : Int32 → UInt64 → Prop) : Array Value → State → Outcome → State → Prop := va_Qi (fun k (f : Nat → UInt64) => post k (f 0)) (fun f t => va_P D vwCl [(o, .inl (cJ, 1, .inr (.inr (.inr (.inl f)))))] t.heap) A
theorem w_ret {XC : String → State → State → Prop} {post : Int32 → Int64 → Prop} {v : Int32} {f : Nat → Int64} {cJ : ClassId} {o : Nat} (hpost : post v (f 0)) (hx : p.tables.exec = Jvm.exec) (hb : c.code = cc) (hr : meth.sig.returnType = some .int) (hlocks : meth.locks = false) (hP : va_P D vwCl [(o, .inl (cJ, 1, .inr (.inl f)))] H) (hS : va_S A s.heap H locs) (hdg : decode cc pc = .ok (.ireturn, 1)) (hc : cells ≤ mc) (hs : slots ≤ ms) :
    W p l e R s m args below meth c H locs cells slots (vx_MQ below (w_Q D cJ o A post) XC args s mc ms A) (F0 m pc ls [.int v]) :=
  W.widen hc hs (vx_ret (W.zret hx hb hr rfl (fun t ht hW => ⟨⟨v, f, rfl, hpost, by show va_P D vwCl _ t.heap; rw [ht]; exact hP⟩, hS.F ht⟩) hS.2.2 hdg hlocks))
theorem w_retd {XC : String → State → State → Prop} {post : Int32 → UInt64 → Prop} {v : Int32} {f : Nat → UInt64} {cJ : ClassId} {o : Nat} (hpost : post v (f 0)) (hx : p.tables.exec = Jvm.exec) (hb : c.code = cc) (hr : meth.sig.returnType = some .int) (hlocks : meth.locks = false) (hP : va_P D vwCl [(o, .inl (cJ, 1, .inr (.inr (.inr (.inl f)))))] H) (hS : va_S A s.heap H locs) (hdg : decode cc pc = .ok (.ireturn, 1)) (hc : cells ≤ mc) (hs : slots ≤ ms) :
    W p l e R s m args below meth c H locs cells slots (vx_MQ below (w_R D cJ o A post) XC args s mc ms A) (F0 m pc ls [.int v]) :=
  W.widen hc hs (vx_ret (W.zret hx hb hr rfl (fun t ht hW => ⟨⟨v, f, rfl, hpost, by show va_P D vwCl _ t.heap; rw [ht]; exact hP⟩, hS.F ht⟩) hS.2.2 hdg hlocks))
end WC
set_option maxHeartbeats 4000000 in
set_option maxRecDepth 100000 in
theorem w_zone (l : Launch) (hfl : l.stackTraces = false) (D : va_G) (ad : Nat → Nat) (cI cJ : ClassId) (sz o : Nat) (x0 x1 : Int32) (sa : Nat → Nat) : vx_Met l yL_zone wsL_zone ({ frames := 11, cells := 2, slots := 12, locals := 400 } : Room) (w_P D [(cI, .int), (cJ, .long)] (wrW ad cI cJ o) [.ref (ad 0), .int x0, .int x1, .ref o] sz sa) (w_Q D cJ o (va_A (wrW ad cI cJ o) sz) (fun k y => ((in_N x0 10) ∧ (in_R x1 1 4) ∧ k = 0 ∧ y = (1 : Int32).toInt64) ∨ ((¬ in_N x0 10) ∧ k = 1) ∨ ((in_N x0 10) ∧ (¬ in_R x1 1 4) ∧ k = 2))) (o_X (va_A (wrW ad cI cJ o) sz) (fun _ => False)) 2 12 (va_A (wrW ad cI cJ o) sz) := by
  refine vx_ofWH (cc := cL_zone) (maxL := 5) (ret := (some .int)) (hh := [(0, 10, 13, 13), (0, 10, 17, 15)]) (by decide) rfl ?_
  intro p e s m args below meth c9 s₁ B hml hv
  obtain ⟨rfl, hN, hE, hZ, hsz, hP, hK, hD0⟩ := hv
  have hx := B.exec
  have hb := B.bytes
  have hr := B.returns
  have hts := atoms_spec (ws := wsL_zone) B.pre
  have hown : s.vm.findClass RL = some m.cls := findClass_of_methodNamed B.named
  have hlocks := B.notSynchronized
  subst hsz
  have hD := hD0.self (sz := s.heap.size)
  generalize hAe : va_A (wrW ad cI cJ o) s.heap.size = A at hD hZ ⊢
  have hA : ∀ q : Nat, s.heap.size ≤ q → A q := fun q h => by rw [← hAe]; exact Or.inr h
  have hS : va_S A s.heap s.heap [] := va_S.rf
  have hl := lv_entry ([.ref (ad 0), .int x0, .int x1, .ref o]) (n := 5) (Nat.le_of_ble_eq_true rfl)
  rw [lg_entry_eq]
  generalize (lg_sl ([.ref (ad 0), .int x0, .int x1, .ref o]) ++ List.replicate (5 - (lg_sl ([.ref (ad 0), .int x0, .int x1, .ref o])).length) Slot.unset).toArray = ls at hl ⊢
  have hl : lv_has ls 5 [(0, .ref (ad 0)), (1, .int x0), (2, .int x1), (3, .ref o)] := hl
  have htab := vx_table (x := yL_zone) B (hts _ (List.mem_of_getElem? (i := 0) rfl))
  have hKI := hK.sub (tys' := [(cI, .int)]) [0] rfl
  refine lv_aload_n hx hb dL_zone_0 rfl (lv_at hl 3 rfl) ?_
  refine lv_iconst (v := 0) hx hb dL_zone_1 (by decide) ?_
  refine lv_aload_n hx hb dL_zone_2 rfl (lv_at hl 0 rfl) ?_
  refine lv_iload_n hx hb dL_zone_3 rfl (lv_at hl 1 rfl) ?_
  refine lv_iload_n hx hb dL_zone_4 rfl (lv_at hl 2 rfl) ?_
  refine w_ki hP hD hS hA (vx_runV (As := [.int x0, .int x1]) (rest := [.int 0, .ref o]) ⟨hx, hb, hml, hown, hts⟩ (o_zone l hfl D ad cI s.heap.size x0 x1 sa) (cwV 2 hts gL_zone_X8_zone rfl rfl rfl (by decide +kernel) ⟨Nat.le_of_ble_eq_true rfl, Nat.le_of_ble_eq_true rfl⟩) (h_preV hE hZ hKI (pre_P hP) (pre_D hD) hS hA (ci := 8) (q0 := 0) rfl rfl) rfl rfl hl.1 rfl (lv_room (Nat.le_of_ble_eq_true rfl)) dL_zone_5 ⟨Nat.le_of_ble_eq_true rfl, Nat.le_of_ble_eq_true rfl⟩) (fun E ce q9 H locs hex hP hD hS hce hcv hcl => ?_) (fun r H locs hw hP hD hS => ?_)
  · rcases hex with hex | hex
    · obtain ⟨rfl, hx1⟩ := hex
      have hex : True ∧ _ := ⟨trivial, hx1⟩
      refine vx_catch (own := RL) (name := "java/lang/IndexOutOfBoundsException") (pc := 5) hown [] { startPc := 0, endPc := 10, handlerPc := 13, catchType := 13 } [{ startPc := 0, endPc := 10, handlerPc := 17, catchType := 15 }] (htab.trans rfl) (fun z hz => absurd hz List.not_mem_nil) (by decide) (by decide) (hts (.classLink RL 13 "java/lang/IndexOutOfBoundsException") (List.mem_of_getElem? (i := 1) rfl)) (hE.2.2.2.1.use rfl) hce hcv hcl ?_
      refine lv_astore (lv' := [(4, .ref q9), (0, .ref (ad 0)), (1, .int x0), (2, .int x1), (3, .ref o)]) hx hb dL_zone_13 hl (by decide) rfl (fun ls hl => ?_)
      refine lv_iconst (v := 1) hx hb dL_zone_15 (by decide) ?_
      exact w_ret (Or.inr (Or.inl (⟨hex.2, rfl⟩))) hx hb hr hlocks hP hS dL_zone_16 (Nat.le_of_ble_eq_true rfl) (Nat.le_of_ble_eq_true rfl)
    · obtain ⟨rfl, hx1⟩ := hex
      have hex : True ∧ _ := ⟨trivial, hx1⟩
      refine vx_catch (own := RL) (name := "java/lang/IllegalArgumentException") (pc := 5) hown [{ startPc := 0, endPc := 10, handlerPc := 13, catchType := 13 }] { startPc := 0, endPc := 10, handlerPc := 17, catchType := 15 } [] (htab.trans rfl) (fun z hz => by rw [List.mem_singleton.mp hz]; exact Or.inr ⟨by decide, "java/lang/IndexOutOfBoundsException", (hts (.classLink RL 13 "java/lang/IndexOutOfBoundsException") (List.mem_of_getElem? (i := 1) rfl)), hN⟩) (by decide) (by decide) (hts (.classLink RL 15 "java/lang/IllegalArgumentException") (List.mem_of_getElem? (i := 2) rfl)) (hE.2.2.2.2.1.use rfl) hce hcv hcl ?_
      refine lv_astore (lv' := [(4, .ref q9), (0, .ref (ad 0)), (1, .int x0), (2, .int x1), (3, .ref o)]) hx hb dL_zone_17 hl (by decide) rfl (fun ls hl => ?_)
      refine lv_iconst (v := 2) hx hb dL_zone_19 (by decide) ?_
      exact w_ret (Or.inr (Or.inr (⟨hex.2.1, hex.2.2, rfl⟩))) hx hb hr hlocks hP hS dL_zone_20 (Nat.le_of_ble_eq_true rfl) (Nat.le_of_ble_eq_true rfl)
  · refine lv_i2l (v := r.toInt64) hx hb dL_zone_8 rfl ?_
    refine va_last (tys := [(cI, .int), (cJ, .long)]) hx hb hK hP hD hS 0 1 rfl rfl (by unfold vp_in; decide) dL_zone_9 (fun H locs hP hD hS => ?_)
    refine lv_goto (tgt := 21) hx hb dL_zone_10 (by decide) ?_
    refine lv_iconst (v := 0) hx hb dL_zone_21 (by decide) ?_
    exact w_ret (Or.inl (⟨hw.2.1, hw.2.2, rfl, show r.toInt64 = _ by rw [hw.1]⟩)) hx hb hr hlocks hP hS dL_zone_22 (Nat.le_of_ble_eq_true rfl) (Nat.le_of_ble_eq_true rfl)
