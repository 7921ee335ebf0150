/-! throws out of TapCap: what they need beside a method's words -/
abbrev ex_IX : String := "java/lang/IndexOutOfBoundsException"
abbrev ex_IA : String := "java/lang/IllegalArgumentException"
abbrev ex_nm : List String := ["java/lang/RuntimeException", "java/lang/Exception"]
def ex_w (sa : Nat → Nat) (U : State) : Prop :=
  va_Nw (.declares (Bundle.initS "java/lang/RuntimeException")) U ∧ va_Nw (.declares (Bundle.initS "java/lang/Exception")) U ∧ va_Nw (.declares (Bundle.initS Bundle.tN)) U ∧
  va_Nw (.castable ex_IX ex_IX) U ∧ va_Nw (.castable ex_IA ex_IA) U ∧ vk_R RX8 248 "no such number" (sa 0) U ∧ vk_R RX8 251 "not within its bounds" (sa 1) U ∧ vk_R RX8 253 "no such person" (sa 2) U
theorem ex_w.warm {sa : Nat → Nat} {s U : State} (hW : s.WarmedH U.vm) (h : ex_w sa s) : ex_w sa U :=
  ⟨h.1.warmD hW, h.2.1.warmD hW, h.2.2.1.warmD hW, h.2.2.2.1.warmC hW, h.2.2.2.2.1.warmC hW, h.2.2.2.2.2.1.warm hW, h.2.2.2.2.2.2.1.warm hW, h.2.2.2.2.2.2.2.warm hW⟩
theorem ex_w.same {sa : Nat → Nat} {s U : State} (hW : U.vm = s.vm) (h : ex_w sa s) : ex_w sa U :=
  ⟨h.1.same rfl hW.symm, h.2.1.same rfl hW.symm, h.2.2.1.same rfl hW.symm, h.2.2.2.1.same rfl hW.symm, h.2.2.2.2.1.same rfl hW.symm, h.2.2.2.2.2.1.same hW, h.2.2.2.2.2.2.1.same hW, h.2.2.2.2.2.2.2.same hW⟩
def ex_z (A : Nat → Prop) (U : State) (H : Heap) : Prop := vx_Zq Bundle.tN "UNASSIGNED_STACK" Bundle.steD A U H ∧ vx_Zq Bundle.tN "SUPPRESSED_SENTINEL" Bundle.listD A U H
theorem ex_z.to {A B : Nat → Prop} {s U : State} {H : Heap} {locs : List Loc} (h : ex_z A s s.heap) (hS : va_S A s.heap H locs) (hW : s.WarmedH U.vm) (hU : U.heap = H) (hB : ∀ q, B q → A q) : ex_z B U U.heap := by
  subst hU
  exact ⟨((h.1.moved hW.alike).kept hS.2.1).narrow hB, ((h.2.moved hW.alike).kept hS.2.1).narrow hB⟩
abbrev h_P (D : va_G) (tys : List (ClassId × FieldType)) (ws : va_W) (av : List Value) (sz : Nat) (sa : Nat → Nat) : Array Value → State → Prop := va_Pc av (fun U => ex_w sa U ∧ ex_z (va_A ws sz) U U.heap ∧ U.heap.size = sz ∧ va_P D vwCl ws U.heap ∧ va_K D vwCl tys U ∧ va_D (fun _ => True) ws)
abbrev h_X (D : va_G) (tys : List (ClassId × FieldType)) (A : Nat → Prop) (ws : va_W) (ex : String → Prop) : String → State → State → Prop := vx_X (fun (_ : Unit) => True) (fun E _ t => ex E ∧ g_B D tys A ws t) A
abbrev h_Qv (D : va_G) (tys : List (ClassId × FieldType)) (A : Nat → Prop) (ws : va_W) (ok : Prop) : Array Value → State → Outcome → State → Prop := va_Qv (fun (_ : Unit) => ok) (fun _ t => g_B D tys A ws t) A
theorem h_blind {D : va_G} {tys : List (ClassId × FieldType)} {ws : va_W} {av : List Value} {sz : Nat} {sa : Nat → Nat} : FrameBlind (h_P D tys ws av sz sa) := by
  intro a U g mk q
  obtain ⟨q0, qE, qZ, q1, qP, qK, qD⟩ := q
  exact ⟨q0, qE.same rfl, ⟨qZ.1.moved (Vm.Alike.refl U.vm), qZ.2.moved (Vm.Alike.refl U.vm)⟩, q1, qP, va_K.moved (u := U) (U := U.calling g mk a) (Vm.Alike.refl U.vm) qK, qD⟩
section HC
variable {p : Program} {l : Launch} {e : Env} {R : Room} {s : State} {m : MethodId} {args : Array Value} {below : List Frame} {meth : Method} {c : Code} {H : Heap} {locs : List Loc} {cells slots : Nat} {Q : State → Prop}
variable {pc : Nat} {ls : Array Slot} {rest st0 : List Value} {D : va_G} {tys : List (ClassId × FieldType)} {ws ws1 : va_W} {A : Nat → Prop} {mc ms n maxL index nL : Nat} {y : MethodName} {bytes cc : ByteArray} {ret : Option FieldType} {wsY : List Cond} {rm : Room} {Ts : List Cond} {own C : String} {b : Addr} {As : List Value} {sa : Nat → Nat}
theorem h_preV (hE : ex_w sa s) (hZ : ex_z A s s.heap) (hK : va_K D vwCl tys s) (hP : va_P D vwCl ws H) (hD : va_D A ws) (hS : va_S A s.heap H locs) (hA : ∀ q, s.heap.size ≤ q → A q) {ci q0 : Nat} {q : vw_C} {fs : List Value} (hc : vwCl[ci]? = some q) (he : ws[q0]? = some (b, .inr (ci, fs))) : PreV s H q.1 b (h_P D tys ws (.ref b :: As) H.size sa) As :=
  ⟨h_blind, va_recv hK hP hc he, fun U hU hW => ⟨rfl, hE.warm hW, hZ.to hS hW hU (g_free hD hS hA), by rw [hU], by rw [hU]; exact hP, va_K.moved hW.alike hK, hD.weaken (fun _ _ _ _ => trivial)⟩⟩
theorem h_preS (hE : ex_w sa s) (hZ : ex_z A s s.heap) (hK : va_K D vwCl tys s) (hP : va_P D vwCl ws H) (hD : va_D A ws) (hS : va_S A s.heap H locs) (hA : ∀ q, s.heap.size ≤ q → A q) : PreS s H (h_P D tys ws As H.size sa) As :=
  ⟨h_blind, fun U hU hW => ⟨rfl, hE.warm hW, hZ.to hS hW hU (g_free hD hS hA), by rw [hU], by rw [hU]; exact hP, va_K.moved hW.alike hK, hD.weaken (fun _ _ _ _ => trivial)⟩⟩
/-- a call that may throw and answers nothing -/
theorem h_kv {ok : Prop} {ex : String → Prop} {a : Array Value} (hK : va_K D vwCl tys s) (hD : va_D A ws) (hS : va_S A s.heap H locs) (hA : ∀ q, s.heap.size ≤ q → A q)
    (hr : vx_Run p l e R s m args below meth c H locs cells slots mc ms (F0 m pc ls st0) rest (h_Qv D tys (va_A ws H.size) ws1 ok a) (h_X D tys (va_A ws H.size) ws1 ex) (va_A ws H.size))
    (kx : ∀ (E : String) (ce : Cell) (q9 : Addr) (H1 : Heap) (locs1 : List Loc), ex E → va_P D vwCl ws1 H1 → va_D A ws1 → va_S A s.heap H1 locs1 → H1[q9]? = some ce → ce.vm = .none → s.vm.findClass E = some ce.cls → vx_W p l e R s m args below meth c H1 locs1 (cells + mc) (slots + ms) Q (F0 m pc ls rest) q9)
    (kk : ∀ (H1 : Heap) (locs1 : List Loc), ok → va_P D vwCl ws1 H1 → va_D A ws1 → va_S A s.heap H1 locs1 → W p l e R s m args below meth c H1 locs1 (cells + mc) (slots + ms) Q (F0 m (pc + 3) ls rest)) : W p l e R s m args below meth c H locs cells slots Q (F0 m pc ls st0) := by
  have hF := g_free hD hS hA
  refine vx_callv hr hS (fun q _ h => hF q h) hF (fun q _ h => hF q h) (fun E ce q9 u t H1 locs1 ht hvm hpx hB hz1 hk1 hS1 hce hcv hcl => ?_) (fun u t H1 locs1 ht hvm hw hB hz1 hk1 hS1 => ?_)
  · obtain ⟨hex, hP1, hK1, hD1⟩ := hB
    rw [ht] at hP1
    exact kx E ce q9 H1 locs1 hex hP1 (hD1.weaken (fun _ _ _ h => hF _ h)) hS1 hce hcv hcl
  · obtain ⟨hP1, hK1, hD1⟩ := hB
    rw [ht] at hP1
    exact kk H1 locs1 hw hP1 (hD1.weaken (fun _ _ _ h => hF _ h)) hS1
/-- what was thrown goes on to the caller -/
theorem h_out {Qc : Array Value → State → Outcome → State → Prop} {ex : String → Prop} {E : String} {ce : Cell} {q9 : Addr} (htab : ∀ x ∈ c.exceptionTable.toList, False) (hlocks : meth.locks = false) (hK : va_K D vwCl tys s) (hP : va_P D vwCl ws H) (hD : va_D A ws) (hS : va_S A s.heap H locs) (hce : H[q9]? = some ce) (hcv : ce.vm = .none) (hcl : s.vm.findClass E = some ce.cls) (hex : ex E) (hc : cells ≤ mc) (hs : slots ≤ ms) :
    vx_W p l e R s m args below meth c H locs cells slots (vx_MQ below Qc (h_X D tys A ws ex) args s mc ms A) (F0 m pc ls rest) q9 :=
  vx_out (fun x hx => absurd hx (htab x)) hlocks hce hcv hcl (fun t ht hvm => ⟨(), trivial, ⟨hex, by rw [ht]; exact hP, va_K.moved hvm hK, hD⟩, hS.F ht⟩) hS.2.2 hc hs
theorem h_vret {XC : String → State → State → Prop} {ok : Prop} (hok : ok) (hx : p.tables.exec = Jvm.exec) (hb : c.code = cc) (hr : meth.sig.returnType = none) (hlocks : meth.locks = false) (hK : va_K D vwCl tys s) (hP : va_P D vwCl ws H) (hD : va_D A ws) (hS : va_S A s.heap H locs) (hdg : decode cc pc = .ok (.return_, 1)) (hc : cells ≤ mc) (hs : slots ≤ ms) :
    W p l e R s m args below meth c H locs cells slots (vx_MQ below (h_Qv D tys A ws ok) XC args s mc ms A) (F0 m pc ls []) :=
  W.widen hc hs (vx_ret (W.vret hx hb hr (fun t ht hW => ⟨⟨(), rfl, hok, by rw [ht]; exact hP, va_K.moved hW.alike hK, hD⟩, hS.F ht⟩) hS.2.2 hdg hlocks))
/-- what a throw owes of the world -/
theorem h_thrown {ex : String → Prop} {E : String} (hK : va_K D vwCl tys s) (hP : va_P D vwCl ws H) (hD : va_D A ws) (hS : va_S A s.heap H locs) (hex : ex E) : ∀ t : State, s.vm.Alike t.vm → H.size ≤ t.heap.size → (∀ q : Nat, q < H.size → t.heap[q]? = H[q]?) → h_X D tys A ws ex E s t :=
  fun t hvm hz hq => ⟨(), trivial, ⟨hex, hP.kept (fun k x hx => hq x.1 ((hP k x hx).lt)), va_K.moved hvm hK, hD⟩, Nat.le_trans hS.1 hz, fun q h1 h2 => (hq q (Nat.lt_of_lt_of_le h1 hS.1)).trans (hS.2.1 q h1 h2)⟩
end HC
