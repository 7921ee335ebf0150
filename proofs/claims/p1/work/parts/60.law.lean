/-! the law's cases -/
theorem w_preS {s : State} {H : Heap} {locs : List Loc} {D : va_G} {tys : List (ClassId × FieldType)} {ws : va_W} {A : Nat → Prop} {As : List Value} {sa : Nat → Nat} (hN : ex_n s) (hE : ex_w sa s) (hZ : ex_z A s s.heap) (hK : va_K D vwCl tys s) (hP : va_P D vwCl ws H) (hD : va_D A ws) (hS : va_S A s.heap H locs) (hA : ∀ q, s.heap.size ≤ q → A q) : PreS s H (w_P D tys ws As H.size sa) As :=
  ⟨w_blind, fun U hU hW => ⟨rfl, va_Nc.moved hW.alike hN, hE.warm hW, hZ.to hS hW hU (g_free hD hS hA), by rw [hU], by rw [hU]; exact hP, va_K.moved hW.alike hK, hD.weaken (fun _ _ _ _ => trivial)⟩⟩
theorem ne_of {A : Nat → Prop} {a b : va_W} (hD : va_D A (a ++ b)) (i : Nat) {o : Nat} {e : va_E} (h : a[i]? = some (o, e)) : ∀ (k : Nat) (q : Nat × va_E), b[k]? = some q → q.1 ≠ o := by
  intro k q hq he
  have h1 : i < a.length := (List.getElem?_eq_some_iff.mp h).1
  have h2 := hD.1 i (a.length + k) (o, e) q (by rw [List.getElem?_append_left h1]; exact h) (by rw [List.getElem?_append_right (Nat.le_add_right _ _), Nat.add_sub_cancel_left]; exact hq) he.symm
  omega
theorem one_keep {D : va_G} {a : va_W} {H H1 : Heap} {x : Nat × va_E} (hP : va_P D vwCl [x] H) (hne : ∀ (k : Nat) (q : Nat × va_E), a[k]? = some q → q.1 ≠ x.1) (hk : ∀ q, q < H.size → ¬ va_A a H.size q → H1[q]? = H[q]?) : va_P D vwCl [x] H1 := by
  have hlt := (hP 0 x rfl).lt
  intro k q hq
  have h0 : k < 1 := (List.getElem?_eq_some_iff.mp hq).1
  rw [show k = 0 by omega] at hq
  cases hq
  refine (hP 0 x rfl).kept (hk x.1 hlt ?_)
  rintro (⟨i, e, hi⟩ | h)
  · exact hne i (x.1, e) hi rfl
  · exact absurd hlt (Nat.not_lt.mpr h)
section LC
variable {p : Program} {l : Launch} {e : Env} {R : Room} {s : State} {m : MethodId} {args : Array Value} {below : List Frame} {meth : Method} {c : Code} {H : Heap} {locs : List Loc} {cells slots : Nat} {Q : State → Prop}
variable {pc : Nat} {ls : Array Slot} {rest st0 : List Value} {D : va_G} {a b : va_W} {A : Nat → Prop} {mc ms h0 o : Nat} {cJ : ClassId}
theorem l_kw {post : Int32 → Int64 → Prop} {av : Array Value} (hP : va_P D vwCl (a ++ b) H) (hD : va_D A (a ++ b)) (hS : va_S A s.heap H locs) (hA : ∀ q, s.heap.size ≤ q → A q)
    (hr : vx_Run p l e R s m args below meth c H locs cells slots mc ms (F0 m pc ls st0) rest (w_Q D cJ o (va_A a H.size) post av) (o_X (va_A a H.size) (fun _ => False)) (va_A a H.size))
    (kk : ∀ (k : Int32) (f : Nat → Int64) (H1 : Heap) (locs1 : List Loc), post k (f 0) → va_P D vwCl [(o, .inl (cJ, 1, .inr (.inl f)))] H1 → va_P D vwCl b H1 → va_D A b → va_S A s.heap H1 locs1 → W p l e R s m args below meth c H1 locs1 (cells + mc) (slots + ms) Q (F0 m (pc + 3) ls (.int k :: rest))) : W p l e R s m args below meth c H locs cells slots Q (F0 m pc ls st0) := by
  have hF := g_free (pre_D hD) hS hA
  refine vx_calli hr hS (fun q _ h => hF q h) hF (fun q _ h => hF q h) (fun E ce q9 u t H1 locs1 ht hvm hpx hB hz1 hk1 hS1 hce hcv hcl => hB.elim) (fun r u t H1 locs1 ht hvm hw hB hz1 hk1 hS1 => ?_)
  obtain ⟨hP1, hD1⟩ := fr_keep hP hD hk1
  have hB : va_P D vwCl [(o, .inl (cJ, 1, .inr (.inl u)))] t.heap := hB
  rw [ht] at hB
  exact kk r u H1 locs1 hw hB hP1 hD1 hS1
theorem l_kwd {post : Int32 → UInt64 → Prop} {av : Array Value} (hP : va_P D vwCl (a ++ b) H) (hD : va_D A (a ++ b)) (hS : va_S A s.heap H locs) (hA : ∀ q, s.heap.size ≤ q → A q)
    (hr : vx_Run p l e R s m args below meth c H locs cells slots mc ms (F0 m pc ls st0) rest (w_R D cJ o (va_A a H.size) post av) (o_X (va_A a H.size) (fun _ => False)) (va_A a H.size))
    (kk : ∀ (k : Int32) (f : Nat → UInt64) (H1 : Heap) (locs1 : List Loc), post k (f 0) → va_P D vwCl [(o, .inl (cJ, 1, .inr (.inr (.inr (.inl f)))))] H1 → va_P D vwCl b H1 → va_D A b → va_S A s.heap H1 locs1 → W p l e R s m args below meth c H1 locs1 (cells + mc) (slots + ms) Q (F0 m (pc + 3) ls (.int k :: rest))) : W p l e R s m args below meth c H locs cells slots Q (F0 m pc ls st0) := by
  have hF := g_free (pre_D hD) hS hA
  refine vx_calli hr hS (fun q _ h => hF q h) hF (fun q _ h => hF q h) (fun E ce q9 u t H1 locs1 ht hvm hpx hB hz1 hk1 hS1 hce hcv hcl => hB.elim) (fun r u t H1 locs1 ht hvm hw hB hz1 hk1 hS1 => ?_)
  obtain ⟨hP1, hD1⟩ := fr_keep hP hD hk1
  have hB : va_P D vwCl [(o, .inl (cJ, 1, .inr (.inr (.inr (.inl u)))))] t.heap := hB
  rw [ht] at hB
  exact kk r u H1 locs1 hw hB hP1 hD1 hS1
theorem l_kl {post : Int64 → Prop} {av : Array Value} (hP : va_P D vwCl (a ++ b) H) (hD : va_D A (a ++ b)) (hS : va_S A s.heap H locs) (hA : ∀ q, s.heap.size ≤ q → A q)
    (hr : vx_Run p l e R s m args below meth c H locs cells slots mc ms (F0 m pc ls st0) rest (o_Ql (va_A a H.size) post av) (o_X (va_A a H.size) (fun _ => False)) (va_A a H.size))
    (kk : ∀ (k : Int64) (H1 : Heap) (locs1 : List Loc), post k → va_P D vwCl b H1 → va_D A b → va_S A s.heap H1 locs1 → W p l e R s m args below meth c H1 locs1 (cells + mc) (slots + ms) Q (F0 m (pc + 3) ls (.long k :: rest))) : W p l e R s m args below meth c H locs cells slots Q (F0 m pc ls st0) := by
  have hF := g_free (pre_D hD) hS hA
  refine vx_calll hr hS (fun q _ h => hF q h) hF (fun q _ h => hF q h) (fun E ce q9 u t H1 locs1 ht hvm hpx hB hz1 hk1 hS1 hce hcv hcl => hB.elim) (fun r u t H1 locs1 ht hvm hw hB hz1 hk1 hS1 => ?_)
  obtain ⟨hP1, hD1⟩ := fr_keep hP hD hk1
  exact kk r H1 locs1 hw hP1 hD1 hS1
theorem l_km {post : Int32 → Int32 → Prop} {av : Array Value} {x : Nat × va_E} (hP : va_P D vwCl a H) (hD : va_D A a) (hS : va_S A s.heap H locs) (hA : ∀ q, s.heap.size ≤ q → A q) (hPo : va_P D vwCl [x] H) (hne : ∀ (k : Nat) (q : Nat × va_E), a[k]? = some q → q.1 ≠ x.1)
    (hr : va_Run p l e R s m args below meth c H locs cells slots mc ms (F0 m pc ls st0) rest (m_Qi D (va_A a H.size) h0 post av) (va_A a H.size))
    (kk : ∀ (r : Int32) (u : List Value) (t : Int32) (H1 : Heap) (locs1 : List Loc), u[0]? = some (.int t) → post r t → va_P D vwCl [(h0, .inr (9, u))] H1 → va_D A [(h0, .inr (9, u))] → va_P D vwCl [x] H1 → va_S A s.heap H1 locs1 → W p l e R s m args below meth c H1 locs1 (cells + mc) (slots + ms) Q (F0 m (pc + 3) ls (.int r :: rest))) : W p l e R s m args below meth c H locs cells slots Q (F0 m pc ls st0) := by
  have hF := g_free hD hS hA
  refine va_calli hr hS (fun q _ h => hF q h) hF (fun r u t H1 locs1 ht hvm hw hB hz1 hk1 hS1 => ?_)
  obtain ⟨hP1, hD1⟩ := hB
  rw [ht] at hP1
  exact kk r u.1 u.2 H1 locs1 hw.1 hw.2 hP1 (hD1.weaken (fun _ _ _ h => hF _ h)) (one_keep hPo hne hk1) hS1
theorem l_kmd {post : UInt64 → Int32 → Prop} {av : Array Value} {x : Nat × va_E} (hP : va_P D vwCl a H) (hD : va_D A a) (hS : va_S A s.heap H locs) (hA : ∀ q, s.heap.size ≤ q → A q) (hPo : va_P D vwCl [x] H) (hne : ∀ (k : Nat) (q : Nat × va_E), a[k]? = some q → q.1 ≠ x.1)
    (hr : va_Run p l e R s m args below meth c H locs cells slots mc ms (F0 m pc ls st0) rest (m_Qd D (va_A a H.size) h0 post av) (va_A a H.size))
    (kk : ∀ (r : UInt64) (u : List Value) (t : Int32) (H1 : Heap) (locs1 : List Loc), u[0]? = some (.int t) → post r t → va_P D vwCl [(h0, .inr (9, u))] H1 → va_D A [(h0, .inr (9, u))] → va_P D vwCl [x] H1 → va_S A s.heap H1 locs1 → W p l e R s m args below meth c H1 locs1 (cells + mc) (slots + ms) Q (F0 m (pc + 3) ls (.double r :: rest))) : W p l e R s m args below meth c H locs cells slots Q (F0 m pc ls st0) := by
  have hF := g_free hD hS hA
  refine va_calld hr hS (fun q _ h => hF q h) hF (fun r u t H1 locs1 ht hvm hw hB hz1 hk1 hS1 => ?_)
  obtain ⟨hP1, hD1⟩ := hB
  rw [ht] at hP1
  exact kk r u.1 u.2 H1 locs1 hw.1 hw.2 hP1 (hD1.weaken (fun _ _ _ h => hF _ h)) (one_keep hPo hne hk1) hS1
theorem l_kml {post : Int64 → Int32 → Prop} {av : Array Value} (hD : va_D A a) (hS : va_S A s.heap H locs) (hA : ∀ q, s.heap.size ≤ q → A q)
    (hr : va_Run p l e R s m args below meth c H locs cells slots mc ms (F0 m pc ls st0) rest (m_Ql D (va_A a H.size) h0 post av) (va_A a H.size))
    (kk : ∀ (r : Int64) (t : Int32) (H1 : Heap) (locs1 : List Loc), post r t → va_S A s.heap H1 locs1 → W p l e R s m args below meth c H1 locs1 (cells + mc) (slots + ms) Q (F0 m (pc + 3) ls (.long r :: rest))) : W p l e R s m args below meth c H locs cells slots Q (F0 m pc ls st0) := by
  have hF := g_free hD hS hA
  refine va_calll hr hS (fun q _ h => hF q h) hF (fun r u t H1 locs1 ht hvm hw hB hz1 hk1 hS1 => ?_)
  exact kk r u.2 H1 locs1 hw.2 hS1
theorem l_kt {tys : List (ClassId × FieldType)} {w : Int32} {av : Array Value} {x : Nat × va_E} (hD : va_D A a) (hS : va_S A s.heap H locs) (hA : ∀ q, s.heap.size ≤ q → A q) (hPo : va_P D vwCl [x] H) (hne : ∀ (k : Nat) (q : Nat × va_E), a[k]? = some q → q.1 ≠ x.1)
    (hr : va_Run p l e R s m args below meth c H locs cells slots mc ms (F0 m pc ls st0) rest (g_Qi D tys (va_A a H.size) a w av) (va_A a H.size))
    (kk : ∀ (H1 : Heap) (locs1 : List Loc), va_P D vwCl [x] H1 → va_S A s.heap H1 locs1 → W p l e R s m args below meth c H1 locs1 (cells + mc) (slots + ms) Q (F0 m (pc + 3) ls (.int w :: rest))) : W p l e R s m args below meth c H locs cells slots Q (F0 m pc ls st0) := by
  have hF := g_free hD hS hA
  refine va_calli hr hS (fun q _ h => hF q h) hF (fun r u t H1 locs1 ht hvm hw hB hz1 hk1 hS1 => ?_)
  rw [hw]
  exact kk H1 locs1 (one_keep hPo hne hk1) hS1
end LC
theorem finN {x n b : Int32} (h : n.toInt = b.toInt + 1) : in_N x n ↔ ¬ fin x 0 b = 0 := by
  unfold in_N fin
  have e : (0 : Int32).toInt = 0 := by decide
  by_cases h1 : x < 0
  · simp [h1]
  · by_cases h2 : b < x
    · rw [if_neg h1, if_pos h2]
      rw [Int32.lt_iff_toInt_lt] at h2
      constructor
      · rintro ⟨-, h3⟩
        rw [Int32.lt_iff_toInt_lt] at h3
        omega
      · intro h3; exact absurd rfl h3
    · rw [if_neg h1, if_neg h2]
      rw [Int32.lt_iff_toInt_lt] at h2
      constructor
      · intro _ h3; exact absurd h3 (by decide)
      · intro _
        refine ⟨h1, ?_⟩
        rw [Int32.lt_iff_toInt_lt]
        omega
theorem finR {x a b : Int32} : in_R x a b ↔ ¬ fin x a b = 0 := by
  refine ⟨fun h => ?_, fin_in⟩
  obtain ⟨h1, h2⟩ := h
  unfold fin
  rw [if_neg h1]
  by_cases h3 : b < x
  · rw [Int32.le_iff_toInt_le] at h2
    rw [Int32.lt_iff_toInt_lt] at h3
    omega
  · rw [if_neg h3]; decide
theorem N10 {x : Int32} : in_N x 10 ↔ ¬ fin x 0 9 = 0 := finN (by decide)
theorem N6 {x : Int32} : in_N x 6 ↔ ¬ fin x 0 5 = 0 := finN (by decide)
theorem N3 {x : Int32} : in_N x 3 ↔ ¬ fin x 0 2 = 0 := finN (by decide)
theorem N28 {x : Int32} : in_N x 28 ↔ ¬ fin x 0 27 = 0 := finN (by decide)
theorem lg_cmp_self (x : Int64) : lg_cmp x x = 0 := by
  simp [lg_cmp]
set_option maxHeartbeats 4000000 in
set_option maxRecDepth 100000 in
theorem law_tail {p : Program} {l : Launch} {e : Env} {s : State} {m : MethodId} {below : List Frame} {meth : Method} {c : Code} {b : Nat} {xs : Nat → Int32} (C0 : lw_At p s m meth c b 7 xs) {cells slots : Nat} {H : Heap} {locs : List Loc} (hS : va_S (fun q : Nat => s.heap.size ≤ q) s.heap H locs) {ls : Array Slot} (hl : lv_has ls 9 [(5, .int 0), (0, .ref b)]) (hcc : cells ≤ 600002 := by exact Nat.le_of_ble_eq_true rfl) (hcs : slots ≤ 7302232 := by exact Nat.le_of_ble_eq_true rfl) : W p l e room_1 s m #[Value.ref b] below meth c H locs cells slots (lw_Z below #[Value.ref b] s) (F0 m 2118 ls []) := by
  obtain ⟨hx, hb, hr, hml, hown, hts, hX, hbl, hlocks, hgv⟩ := id C0
  have hA : ∀ q : Nat, s.heap.size ≤ q → (fun q : Nat => s.heap.size ≤ q) q := fun _ h => h
  have hbA : ¬ (fun q : Nat => s.heap.size ≤ q) b := Nat.not_le.mpr hbl
  refine lv_iinc (v := 7) (lv' := [(5, .int 7), (0, .ref b)]) hx hb dL_law_2118 hl (k := 0) rfl (by decide) (by decide) rfl (fun ls hl => ?_)
  refine lv_goto (tgt := 28) hx hb dL_law_2121 (by decide) ?_
  refine lv_iload hx hb dL_law_28 (lv_at hl 0 rfl) ?_
  refine lv_aload_n hx hb dL_law_30 rfl (lv_at hl 1 rfl) ?_
  refine va_slen hx hb hX hbl hbA hS dL_law_31 ?_
  refine lv_bipush (v := 7) hx hb dL_law_32 (by decide) ?_
  refine lv_isub hx hb dL_law_34 ?_
  refine W.eq (g2 := F0 m 35 ls [.int 0, .int 7]) rfl ?_
  refine lv_icmp_gt (tgt := 2124) hx hb dL_law_35 (by decide) (fun c_355 => ?_) (fun c_355 => ?_)
  · refine lv_iconst (v := 1) hx hb dL_law_2124 (by decide) ?_
    refine va_forget (fun q hq => hS.2.2 q hq) ?_
    refine W.widen (k := 600002) (n := 7302232) hcc hcs ?_
    refine W.base ?_
    exact lw_ret (Drawn.sameBut.refl s.drawn lw_cs) hx hb hr hlocks dL_law_2125
  · exact absurd (by decide) c_355
set_option maxHeartbeats 4000000 in
set_option maxRecDepth 100000 in
theorem q_thrown (l : Launch) (D : va_G) (tys : List (ClassId × FieldType)) (sz h0 : Nat) (v : List Value) (t : Int32) (hv : v[0]? = some (.int t)) : Met l yX9_thrown wsX9_thrown ({ frames := 0, cells := 0, slots := 0, locals := 0 } : Room) (g_P D tys ([(h0, .inr (9, v))]) [.ref h0] sz) (g_Qi D tys (va_A ([(h0, .inr (9, v))]) sz) [(h0, .inr (9, v))] t) 0 0 (va_A ([(h0, .inr (9, v))]) sz) := by
  refine Met.ofW (cc := cX9_thrown) (maxL := 1) (ret := (some .int)) (by decide) rfl ?_
  intro p e s m args below meth c9 s₁ B hml hv
  obtain ⟨rfl, hsz, hP, hK, hD0⟩ := hv
  have hx := B.exec
  have hb := B.bytes
  have hr := B.returns
  have hts := atoms_spec (ws := wsX9_thrown) B.pre
  have hown : s.vm.findClass RX9 = some m.cls := findClass_of_methodNamed B.named
  have hlocks := B.notSynchronized
  subst hsz
  have hD := hD0.self (sz := s.heap.size)
  generalize hAe : va_A ([(h0, .inr (9, v))]) s.heap.size = A at hD ⊢
  have hA : ∀ q : Nat, s.heap.size ≤ q → A q := fun q h => by rw [← hAe]; exact Or.inr h
  have hS : va_S A s.heap s.heap [] := va_S.rf
  have hl := lv_entry ([.ref h0]) (n := 1) (Nat.le_of_ble_eq_true rfl)
  rw [lg_entry_eq]
  generalize (lg_sl ([.ref h0]) ++ List.replicate (1 - (lg_sl ([.ref h0])).length) Slot.unset).toArray = ls at hl ⊢
  have hl : lv_has ls 1 [(0, .ref h0)] := hl
  have winX9 : ∀ w ∈ u_ws RX9 TX9 16, w ∈ wsX9_thrown := by decide +kernel
  refine lv_aload_n hx hb dX9_thrown_0 rfl (lv_at hl 0 rfl) ?_
  refine va_get (D := D) (ci := 9) (v := .int t) (C := RX9) (T := TX9) (N := 16) hx hb hts winX9 hown hK hP 0 rfl rfl 0 (by decide) (hts (.fieldLink RX9 39 "TapCapModel" "thrown" "I") (List.mem_of_getElem? (i := 1) rfl)) (fun _ h9 => h9) hv dX9_thrown_1 ?_
  exact g_iret hx hb hr rfl hlocks hK hP hD hS rfl dX9_thrown_4
