/-! p1: first calls on a fresh TapCap; nothing is said of the world behind them -/
abbrev o_Qi (A : Nat → Prop) (post : Int32 → Prop) : Array Value → State → Outcome → State → Prop := va_Qi (fun r (_ : Unit) => post r) (fun _ _ => True) A
abbrev o_Ql (A : Nat → Prop) (post : Int64 → Prop) : Array Value → State → Outcome → State → Prop := va_Ql (fun r (_ : Unit) => post r) (fun _ _ => True) A
abbrev o_Qd (A : Nat → Prop) (post : UInt64 → Prop) : Array Value → State → Outcome → State → Prop := va_Qd (fun r (_ : Unit) => post r) (fun _ _ => True) A
abbrev o_X (A : Nat → Prop) (ex : String → Prop) : String → State → State → Prop := vx_X (fun (_ : Unit) => True) (fun E _ _ => ex E) A
section OC
variable {p : Program} {l : Launch} {e : Env} {R : Room} {s : State} {m : MethodId} {args : Array Value} {below : List Frame} {meth : Method} {c : Code} {H : Heap} {locs : List Loc} {cells slots : Nat} {Q : State → Prop}
variable {pc : Nat} {ls : Array Slot} {rest st0 : List Value} {A : Nat → Prop} {mc ms : Nat} {cc : ByteArray}
theorem o_iret {ty : FieldType} {XC : String → State → State → Prop} {post : Int32 → Prop} {v : Int32} (hpost : post v) (hx : p.tables.exec = Jvm.exec) (hb : c.code = cc) (hr : meth.sig.returnType = some ty) (hn : narrow ty (.int v) = .int v) (hlocks : meth.locks = false) (hS : va_S A s.heap H locs) (hdg : decode cc pc = .ok (.ireturn, 1)) (hc : cells ≤ mc) (hs : slots ≤ ms) :
    W p l e R s m args below meth c H locs cells slots (vx_MQ below (o_Qi A post) XC args s mc ms A) (F0 m pc ls [.int v]) :=
  W.widen hc hs (vx_ret (W.zret hx hb hr hn (fun t ht hW => ⟨⟨v, (), rfl, hpost, trivial⟩, hS.F ht⟩) hS.2.2 hdg hlocks))
theorem o_lret {XC : String → State → State → Prop} {post : Int64 → Prop} {v : Int64} (hpost : post v) (hx : p.tables.exec = Jvm.exec) (hb : c.code = cc) (hr : meth.sig.returnType = some .long) (hlocks : meth.locks = false) (hS : va_S A s.heap H locs) (hdg : decode cc pc = .ok (.lreturn, 1)) (hc : cells ≤ mc) (hs : slots ≤ ms) :
    W p l e R s m args below meth c H locs cells slots (vx_MQ below (o_Ql A post) XC args s mc ms A) (F0 m pc ls [.long v]) :=
  W.widen hc hs (vx_ret (W.lret hx hb hr (fun t ht hW => ⟨⟨v, (), rfl, hpost, trivial⟩, hS.F ht⟩) hS.2.2 hdg hlocks))
theorem o_dret {XC : String → State → State → Prop} {post : UInt64 → Prop} {v : UInt64} (hpost : post v) (hx : p.tables.exec = Jvm.exec) (hb : c.code = cc) (hr : meth.sig.returnType = some .double) (hlocks : meth.locks = false) (hS : va_S A s.heap H locs) (hdg : decode cc pc = .ok (.dreturn, 1)) (hc : cells ≤ mc) (hs : slots ≤ ms) :
    W p l e R s m args below meth c H locs cells slots (vx_MQ below (o_Qd A post) XC args s mc ms A) (F0 m pc ls [.double v]) :=
  W.widen hc hs (vx_ret (W.dret hx hb hr (fun t ht hW => ⟨⟨v, (), rfl, hpost, trivial⟩, hS.F ht⟩) hS.2.2 hdg hlocks))
theorem o_out {Qc : Array Value → State → Outcome → State → Prop} {ex : String → Prop} {E : String} {ce : Cell} {q9 : Addr} (htab : ∀ x ∈ c.exceptionTable.toList, False) (hlocks : meth.locks = false) (hS : va_S A s.heap H locs) (hce : H[q9]? = some ce) (hcv : ce.vm = .none) (hcl : s.vm.findClass E = some ce.cls) (hex : ex E) (hc : cells ≤ mc) (hs : slots ≤ ms) :
    vx_W p l e R s m args below meth c H locs cells slots (vx_MQ below Qc (o_X A ex) args s mc ms A) (F0 m pc ls rest) q9 :=
  vx_out (fun x hx => absurd hx (htab x)) hlocks hce hcv hcl (fun t ht hvm => ⟨(), trivial, hex, hS.F ht⟩) hS.2.2 hc hs
end OC
theorem z_int : (0 : Int32).toInt = 0 := by decide
theorem day_open {x : Int32} (h : ¬ x < 0) : tc_0 45 0 ≤ x := by
  rw [Int32.lt_iff_toInt_lt, z_int] at h
  show (0 : Int32) ≤ x
  rw [Int32.le_iff_toInt_le, z_int]
  omega
theorem rw_at_0 {n : Nat} {i : Int32} : rw_at n (fun _ => 0) i = 0 := by unfold rw_at; split <;> simp
theorem zone_0 {x : Int32} (h : in_N x 10) : rw_at (tc_len 0) (tc_0 0) x = 1 := by
  have h1 : ¬ nI 10 ≤ x := by
    have h2 := h.2
    rw [Int32.lt_iff_toInt_lt] at h2
    rw [Int32.le_iff_toInt_le]
    have e : (10 : Int32).toInt = 10 := by decide
    have e2 : (nI 10).toInt = 10 := by decide
    omega
  have h3 := vp_in_lt h.1 h1 (by decide)
  have h4 : x.toNatClampNeg < 10 := by
    unfold vp_in at h3
    omega
  show (if x < 0 then 0 else if nI 10 ≤ x then 0 else rw_fill (fun _ => 0) 10 1 x.toNatClampNeg) = 1
  rw [if_neg h.1, if_neg h1]
  unfold rw_fill
  rw [if_pos h4]
/-- nobody is there -/
theorem no_card (x : Int32) : ¬ in_N x (tc_0 45 3) := fun h => h.1 h.2
theorem no_person (x : Int32) : fX0_isPerson_r tc_0 x = 0 := by
  unfold fX0_isPerson_r
  by_cases h : x < 0
  · rw [if_pos h]
  · rw [if_neg h]
    by_cases h2 : tc_0 45 3 ≤ x
    · rw [if_pos h2]
    · exfalso
      have h3 : ¬ (0 : Int32) ≤ x := h2
      rw [Int32.lt_iff_toInt_lt, z_int] at h
      rw [Int32.le_iff_toInt_le, z_int] at h3
      omega
def fX7_add_w (g : Nat → Nat → Int32) (x0 : Int32) (x1 : Int32) (x2 : Int32) (x3 : Int32) (x4 : Int32) : Nat → Nat → Int32 := (tc_sc (tc_up (tc_up (tc_up (tc_up (tc_up g 3 (rw_put (tc_len 3) (g 3) (g 45 2) x0)) 4 (rw_put (tc_len 4) ((tc_up g 3 (rw_put (tc_len 3) (g 3) (g 45 2) x0)) 4) ((tc_up g 3 (rw_put (tc_len 3) (g 3) (g 45 2) x0)) 45 2) x1)) 5 (rw_put (tc_len 5) ((tc_up (tc_up g 3 (rw_put (tc_len 3) (g 3) (g 45 2) x0)) 4 (rw_put (tc_len 4) ((tc_up g 3 (rw_put (tc_len 3) (g 3) (g 45 2) x0)) 4) ((tc_up g 3 (rw_put (tc_len 3) (g 3) (g 45 2) x0)) 45 2) x1)) 5) ((tc_up (tc_up g 3 (rw_put (tc_len 3) (g 3) (g 45 2) x0)) 4 (rw_put (tc_len 4) ((tc_up g 3 (rw_put (tc_len 3) (g 3) (g 45 2) x0)) 4) ((tc_up g 3 (rw_put (tc_len 3) (g 3) (g 45 2) x0)) 45 2) x1)) 45 2) x2)) 6 (rw_put (tc_len 6) ((tc_up (tc_up (tc_up g 3 (rw_put (tc_len 3) (g 3) (g 45 2) x0)) 4 (rw_put (tc_len 4) ((tc_up g 3 (rw_put (tc_len 3) (g 3) (g 45 2) x0)) 4) ((tc_up g 3 (rw_put (tc_len 3) (g 3) (g 45 2) x0)) 45 2) x1)) 5 (rw_put (tc_len 5) ((tc_up (tc_up g 3 (rw_put (tc_len 3) (g 3) (g 45 2) x0)) 4 (rw_put (tc_len 4) ((tc_up g 3 (rw_put (tc_len 3) (g 3) (g 45 2) x0)) 4) ((tc_up g 3 (rw_put (tc_len 3) (g 3) (g 45 2) x0)) 45 2) x1)) 5) ((tc_up (tc_up g 3 (rw_put (tc_len 3) (g 3) (g 45 2) x0)) 4 (rw_put (tc_len 4) ((tc_up g 3 (rw_put (tc_len 3) (g 3) (g 45 2) x0)) 4) ((tc_up g 3 (rw_put (tc_len 3) (g 3) (g 45 2) x0)) 45 2) x1)) 45 2) x2)) 6) ((tc_up (tc_up (tc_up g 3 (rw_put (tc_len 3) (g 3) (g 45 2) x0)) 4 (rw_put (tc_len 4) ((tc_up g 3 (rw_put (tc_len 3) (g 3) (g 45 2) x0)) 4) ((tc_up g 3 (rw_put (tc_len 3) (g 3) (g 45 2) x0)) 45 2) x1)) 5 (rw_put (tc_len 5) ((tc_up (tc_up g 3 (rw_put (tc_len 3) (g 3) (g 45 2) x0)) 4 (rw_put (tc_len 4) ((tc_up g 3 (rw_put (tc_len 3) (g 3) (g 45 2) x0)) 4) ((tc_up g 3 (rw_put (tc_len 3) (g 3) (g 45 2) x0)) 45 2) x1)) 5) ((tc_up (tc_up g 3 (rw_put (tc_len 3) (g 3) (g 45 2) x0)) 4 (rw_put (tc_len 4) ((tc_up g 3 (rw_put (tc_len 3) (g 3) (g 45 2) x0)) 4) ((tc_up g 3 (rw_put (tc_len 3) (g 3) (g 45 2) x0)) 45 2) x1)) 45 2) x2)) 45 2) x3)) 7 (rw_put (tc_len 7) ((tc_up (tc_up (tc_up (tc_up g 3 (rw_put (tc_len 3) (g 3) (g 45 2) x0)) 4 (rw_put (tc_len 4) ((tc_up g 3 (rw_put (tc_len 3) (g 3) (g 45 2) x0)) 4) ((tc_up g 3 (rw_put (tc_len 3) (g 3) (g 45 2) x0)) 45 2) x1)) 5 (rw_put (tc_len 5) ((tc_up (tc_up g 3 (rw_put (tc_len 3) (g 3) (g 45 2) x0)) 4 (rw_put (tc_len 4) ((tc_up g 3 (rw_put (tc_len 3) (g 3) (g 45 2) x0)) 4) ((tc_up g 3 (rw_put (tc_len 3) (g 3) (g 45 2) x0)) 45 2) x1)) 5) ((tc_up (tc_up g 3 (rw_put (tc_len 3) (g 3) (g 45 2) x0)) 4 (rw_put (tc_len 4) ((tc_up g 3 (rw_put (tc_len 3) (g 3) (g 45 2) x0)) 4) ((tc_up g 3 (rw_put (tc_len 3) (g 3) (g 45 2) x0)) 45 2) x1)) 45 2) x2)) 6 (rw_put (tc_len 6) ((tc_up (tc_up (tc_up g 3 (rw_put (tc_len 3) (g 3) (g 45 2) x0)) 4 (rw_put (tc_len 4) ((tc_up g 3 (rw_put (tc_len 3) (g 3) (g 45 2) x0)) 4) ((tc_up g 3 (rw_put (tc_len 3) (g 3) (g 45 2) x0)) 45 2) x1)) 5 (rw_put (tc_len 5) ((tc_up (tc_up g 3 (rw_put (tc_len 3) (g 3) (g 45 2) x0)) 4 (rw_put (tc_len 4) ((tc_up g 3 (rw_put (tc_len 3) (g 3) (g 45 2) x0)) 4) ((tc_up g 3 (rw_put (tc_len 3) (g 3) (g 45 2) x0)) 45 2) x1)) 5) ((tc_up (tc_up g 3 (rw_put (tc_len 3) (g 3) (g 45 2) x0)) 4 (rw_put (tc_len 4) ((tc_up g 3 (rw_put (tc_len 3) (g 3) (g 45 2) x0)) 4) ((tc_up g 3 (rw_put (tc_len 3) (g 3) (g 45 2) x0)) 45 2) x1)) 45 2) x2)) 6) ((tc_up (tc_up (tc_up g 3 (rw_put (tc_len 3) (g 3) (g 45 2) x0)) 4 (rw_put (tc_len 4) ((tc_up g 3 (rw_put (tc_len 3) (g 3) (g 45 2) x0)) 4) ((tc_up g 3 (rw_put (tc_len 3) (g 3) (g 45 2) x0)) 45 2) x1)) 5 (rw_put (tc_len 5) ((tc_up (tc_up g 3 (rw_put (tc_len 3) (g 3) (g 45 2) x0)) 4 (rw_put (tc_len 4) ((tc_up g 3 (rw_put (tc_len 3) (g 3) (g 45 2) x0)) 4) ((tc_up g 3 (rw_put (tc_len 3) (g 3) (g 45 2) x0)) 45 2) x1)) 5) ((tc_up (tc_up g 3 (rw_put (tc_len 3) (g 3) (g 45 2) x0)) 4 (rw_put (tc_len 4) ((tc_up g 3 (rw_put (tc_len 3) (g 3) (g 45 2) x0)) 4) ((tc_up g 3 (rw_put (tc_len 3) (g 3) (g 45 2) x0)) 45 2) x1)) 45 2) x2)) 45 2) x3)) 7) ((tc_up (tc_up (tc_up (tc_up g 3 (rw_put (tc_len 3) (g 3) (g 45 2) x0)) 4 (rw_put (tc_len 4) ((tc_up g 3 (rw_put (tc_len 3) (g 3) (g 45 2) x0)) 4) ((tc_up g 3 (rw_put (tc_len 3) (g 3) (g 45 2) x0)) 45 2) x1)) 5 (rw_put (tc_len 5) ((tc_up (tc_up g 3 (rw_put (tc_len 3) (g 3) (g 45 2) x0)) 4 (rw_put (tc_len 4) ((tc_up g 3 (rw_put (tc_len 3) (g 3) (g 45 2) x0)) 4) ((tc_up g 3 (rw_put (tc_len 3) (g 3) (g 45 2) x0)) 45 2) x1)) 5) ((tc_up (tc_up g 3 (rw_put (tc_len 3) (g 3) (g 45 2) x0)) 4 (rw_put (tc_len 4) ((tc_up g 3 (rw_put (tc_len 3) (g 3) (g 45 2) x0)) 4) ((tc_up g 3 (rw_put (tc_len 3) (g 3) (g 45 2) x0)) 45 2) x1)) 45 2) x2)) 6 (rw_put (tc_len 6) ((tc_up (tc_up (tc_up g 3 (rw_put (tc_len 3) (g 3) (g 45 2) x0)) 4 (rw_put (tc_len 4) ((tc_up g 3 (rw_put (tc_len 3) (g 3) (g 45 2) x0)) 4) ((tc_up g 3 (rw_put (tc_len 3) (g 3) (g 45 2) x0)) 45 2) x1)) 5 (rw_put (tc_len 5) ((tc_up (tc_up g 3 (rw_put (tc_len 3) (g 3) (g 45 2) x0)) 4 (rw_put (tc_len 4) ((tc_up g 3 (rw_put (tc_len 3) (g 3) (g 45 2) x0)) 4) ((tc_up g 3 (rw_put (tc_len 3) (g 3) (g 45 2) x0)) 45 2) x1)) 5) ((tc_up (tc_up g 3 (rw_put (tc_len 3) (g 3) (g 45 2) x0)) 4 (rw_put (tc_len 4) ((tc_up g 3 (rw_put (tc_len 3) (g 3) (g 45 2) x0)) 4) ((tc_up g 3 (rw_put (tc_len 3) (g 3) (g 45 2) x0)) 45 2) x1)) 45 2) x2)) 6) ((tc_up (tc_up (tc_up g 3 (rw_put (tc_len 3) (g 3) (g 45 2) x0)) 4 (rw_put (tc_len 4) ((tc_up g 3 (rw_put (tc_len 3) (g 3) (g 45 2) x0)) 4) ((tc_up g 3 (rw_put (tc_len 3) (g 3) (g 45 2) x0)) 45 2) x1)) 5 (rw_put (tc_len 5) ((tc_up (tc_up g 3 (rw_put (tc_len 3) (g 3) (g 45 2) x0)) 4 (rw_put (tc_len 4) ((tc_up g 3 (rw_put (tc_len 3) (g 3) (g 45 2) x0)) 4) ((tc_up g 3 (rw_put (tc_len 3) (g 3) (g 45 2) x0)) 45 2) x1)) 5) ((tc_up (tc_up g 3 (rw_put (tc_len 3) (g 3) (g 45 2) x0)) 4 (rw_put (tc_len 4) ((tc_up g 3 (rw_put (tc_len 3) (g 3) (g 45 2) x0)) 4) ((tc_up g 3 (rw_put (tc_len 3) (g 3) (g 45 2) x0)) 45 2) x1)) 45 2) x2)) 45 2) x3)) 45 2) x4)) 2 (((tc_up (tc_up (tc_up (tc_up (tc_up g 3 (rw_put (tc_len 3) (g 3) (g 45 2) x0)) 4 (rw_put (tc_len 4) ((tc_up g 3 (rw_put (tc_len 3) (g 3) (g 45 2) x0)) 4) ((tc_up g 3 (rw_put (tc_len 3) (g 3) (g 45 2) x0)) 45 2) x1)) 5 (rw_put (tc_len 5) ((tc_up (tc_up g 3 (rw_put (tc_len 3) (g 3) (g 45 2) x0)) 4 (rw_put (tc_len 4) ((tc_up g 3 (rw_put (tc_len 3) (g 3) (g 45 2) x0)) 4) ((tc_up g 3 (rw_put (tc_len 3) (g 3) (g 45 2) x0)) 45 2) x1)) 5) ((tc_up (tc_up g 3 (rw_put (tc_len 3) (g 3) (g 45 2) x0)) 4 (rw_put (tc_len 4) ((tc_up g 3 (rw_put (tc_len 3) (g 3) (g 45 2) x0)) 4) ((tc_up g 3 (rw_put (tc_len 3) (g 3) (g 45 2) x0)) 45 2) x1)) 45 2) x2)) 6 (rw_put (tc_len 6) ((tc_up (tc_up (tc_up g 3 (rw_put (tc_len 3) (g 3) (g 45 2) x0)) 4 (rw_put (tc_len 4) ((tc_up g 3 (rw_put (tc_len 3) (g 3) (g 45 2) x0)) 4) ((tc_up g 3 (rw_put (tc_len 3) (g 3) (g 45 2) x0)) 45 2) x1)) 5 (rw_put (tc_len 5) ((tc_up (tc_up g 3 (rw_put (tc_len 3) (g 3) (g 45 2) x0)) 4 (rw_put (tc_len 4) ((tc_up g 3 (rw_put (tc_len 3) (g 3) (g 45 2) x0)) 4) ((tc_up g 3 (rw_put (tc_len 3) (g 3) (g 45 2) x0)) 45 2) x1)) 5) ((tc_up (tc_up g 3 (rw_put (tc_len 3) (g 3) (g 45 2) x0)) 4 (rw_put (tc_len 4) ((tc_up g 3 (rw_put (tc_len 3) (g 3) (g 45 2) x0)) 4) ((tc_up g 3 (rw_put (tc_len 3) (g 3) (g 45 2) x0)) 45 2) x1)) 45 2) x2)) 6) ((tc_up (tc_up (tc_up g 3 (rw_put (tc_len 3) (g 3) (g 45 2) x0)) 4 (rw_put (tc_len 4) ((tc_up g 3 (rw_put (tc_len 3) (g 3) (g 45 2) x0)) 4) ((tc_up g 3 (rw_put (tc_len 3) (g 3) (g 45 2) x0)) 45 2) x1)) 5 (rw_put (tc_len 5) ((tc_up (tc_up g 3 (rw_put (tc_len 3) (g 3) (g 45 2) x0)) 4 (rw_put (tc_len 4) ((tc_up g 3 (rw_put (tc_len 3) (g 3) (g 45 2) x0)) 4) ((tc_up g 3 (rw_put (tc_len 3) (g 3) (g 45 2) x0)) 45 2) x1)) 5) ((tc_up (tc_up g 3 (rw_put (tc_len 3) (g 3) (g 45 2) x0)) 4 (rw_put (tc_len 4) ((tc_up g 3 (rw_put (tc_len 3) (g 3) (g 45 2) x0)) 4) ((tc_up g 3 (rw_put (tc_len 3) (g 3) (g 45 2) x0)) 45 2) x1)) 45 2) x2)) 45 2) x3)) 7 (rw_put (tc_len 7) ((tc_up (tc_up (tc_up (tc_up g 3 (rw_put (tc_len 3) (g 3) (g 45 2) x0)) 4 (rw_put (tc_len 4) ((tc_up g 3 (rw_put (tc_len 3) (g 3) (g 45 2) x0)) 4) ((tc_up g 3 (rw_put (tc_len 3) (g 3) (g 45 2) x0)) 45 2) x1)) 5 (rw_put (tc_len 5) ((tc_up (tc_up g 3 (rw_put (tc_len 3) (g 3) (g 45 2) x0)) 4 (rw_put (tc_len 4) ((tc_up g 3 (rw_put (tc_len 3) (g 3) (g 45 2) x0)) 4) ((tc_up g 3 (rw_put (tc_len 3) (g 3) (g 45 2) x0)) 45 2) x1)) 5) ((tc_up (tc_up g 3 (rw_put (tc_len 3) (g 3) (g 45 2) x0)) 4 (rw_put (tc_len 4) ((tc_up g 3 (rw_put (tc_len 3) (g 3) (g 45 2) x0)) 4) ((tc_up g 3 (rw_put (tc_len 3) (g 3) (g 45 2) x0)) 45 2) x1)) 45 2) x2)) 6 (rw_put (tc_len 6) ((tc_up (tc_up (tc_up g 3 (rw_put (tc_len 3) (g 3) (g 45 2) x0)) 4 (rw_put (tc_len 4) ((tc_up g 3 (rw_put (tc_len 3) (g 3) (g 45 2) x0)) 4) ((tc_up g 3 (rw_put (tc_len 3) (g 3) (g 45 2) x0)) 45 2) x1)) 5 (rw_put (tc_len 5) ((tc_up (tc_up g 3 (rw_put (tc_len 3) (g 3) (g 45 2) x0)) 4 (rw_put (tc_len 4) ((tc_up g 3 (rw_put (tc_len 3) (g 3) (g 45 2) x0)) 4) ((tc_up g 3 (rw_put (tc_len 3) (g 3) (g 45 2) x0)) 45 2) x1)) 5) ((tc_up (tc_up g 3 (rw_put (tc_len 3) (g 3) (g 45 2) x0)) 4 (rw_put (tc_len 4) ((tc_up g 3 (rw_put (tc_len 3) (g 3) (g 45 2) x0)) 4) ((tc_up g 3 (rw_put (tc_len 3) (g 3) (g 45 2) x0)) 45 2) x1)) 45 2) x2)) 6) ((tc_up (tc_up (tc_up g 3 (rw_put (tc_len 3) (g 3) (g 45 2) x0)) 4 (rw_put (tc_len 4) ((tc_up g 3 (rw_put (tc_len 3) (g 3) (g 45 2) x0)) 4) ((tc_up g 3 (rw_put (tc_len 3) (g 3) (g 45 2) x0)) 45 2) x1)) 5 (rw_put (tc_len 5) ((tc_up (tc_up g 3 (rw_put (tc_len 3) (g 3) (g 45 2) x0)) 4 (rw_put (tc_len 4) ((tc_up g 3 (rw_put (tc_len 3) (g 3) (g 45 2) x0)) 4) ((tc_up g 3 (rw_put (tc_len 3) (g 3) (g 45 2) x0)) 45 2) x1)) 5) ((tc_up (tc_up g 3 (rw_put (tc_len 3) (g 3) (g 45 2) x0)) 4 (rw_put (tc_len 4) ((tc_up g 3 (rw_put (tc_len 3) (g 3) (g 45 2) x0)) 4) ((tc_up g 3 (rw_put (tc_len 3) (g 3) (g 45 2) x0)) 45 2) x1)) 45 2) x2)) 45 2) x3)) 7) ((tc_up (tc_up (tc_up (tc_up g 3 (rw_put (tc_len 3) (g 3) (g 45 2) x0)) 4 (rw_put (tc_len 4) ((tc_up g 3 (rw_put (tc_len 3) (g 3) (g 45 2) x0)) 4) ((tc_up g 3 (rw_put (tc_len 3) (g 3) (g 45 2) x0)) 45 2) x1)) 5 (rw_put (tc_len 5) ((tc_up (tc_up g 3 (rw_put (tc_len 3) (g 3) (g 45 2) x0)) 4 (rw_put (tc_len 4) ((tc_up g 3 (rw_put (tc_len 3) (g 3) (g 45 2) x0)) 4) ((tc_up g 3 (rw_put (tc_len 3) (g 3) (g 45 2) x0)) 45 2) x1)) 5) ((tc_up (tc_up g 3 (rw_put (tc_len 3) (g 3) (g 45 2) x0)) 4 (rw_put (tc_len 4) ((tc_up g 3 (rw_put (tc_len 3) (g 3) (g 45 2) x0)) 4) ((tc_up g 3 (rw_put (tc_len 3) (g 3) (g 45 2) x0)) 45 2) x1)) 45 2) x2)) 6 (rw_put (tc_len 6) ((tc_up (tc_up (tc_up g 3 (rw_put (tc_len 3) (g 3) (g 45 2) x0)) 4 (rw_put (tc_len 4) ((tc_up g 3 (rw_put (tc_len 3) (g 3) (g 45 2) x0)) 4) ((tc_up g 3 (rw_put (tc_len 3) (g 3) (g 45 2) x0)) 45 2) x1)) 5 (rw_put (tc_len 5) ((tc_up (tc_up g 3 (rw_put (tc_len 3) (g 3) (g 45 2) x0)) 4 (rw_put (tc_len 4) ((tc_up g 3 (rw_put (tc_len 3) (g 3) (g 45 2) x0)) 4) ((tc_up g 3 (rw_put (tc_len 3) (g 3) (g 45 2) x0)) 45 2) x1)) 5) ((tc_up (tc_up g 3 (rw_put (tc_len 3) (g 3) (g 45 2) x0)) 4 (rw_put (tc_len 4) ((tc_up g 3 (rw_put (tc_len 3) (g 3) (g 45 2) x0)) 4) ((tc_up g 3 (rw_put (tc_len 3) (g 3) (g 45 2) x0)) 45 2) x1)) 45 2) x2)) 6) ((tc_up (tc_up (tc_up g 3 (rw_put (tc_len 3) (g 3) (g 45 2) x0)) 4 (rw_put (tc_len 4) ((tc_up g 3 (rw_put (tc_len 3) (g 3) (g 45 2) x0)) 4) ((tc_up g 3 (rw_put (tc_len 3) (g 3) (g 45 2) x0)) 45 2) x1)) 5 (rw_put (tc_len 5) ((tc_up (tc_up g 3 (rw_put (tc_len 3) (g 3) (g 45 2) x0)) 4 (rw_put (tc_len 4) ((tc_up g 3 (rw_put (tc_len 3) (g 3) (g 45 2) x0)) 4) ((tc_up g 3 (rw_put (tc_len 3) (g 3) (g 45 2) x0)) 45 2) x1)) 5) ((tc_up (tc_up g 3 (rw_put (tc_len 3) (g 3) (g 45 2) x0)) 4 (rw_put (tc_len 4) ((tc_up g 3 (rw_put (tc_len 3) (g 3) (g 45 2) x0)) 4) ((tc_up g 3 (rw_put (tc_len 3) (g 3) (g 45 2) x0)) 45 2) x1)) 45 2) x2)) 45 2) x3)) 45 2) x4)) 45 2) + 1))
set_option maxHeartbeats 4000000 in
set_option maxRecDepth 100000 in
theorem kX7_add (l : Launch) (D : va_G) (ad : Nat → Nat) (cI : ClassId) (g : Nat → Nat → Int32) (sz : Nat) (x0 : Int32) (x1 : Int32) (x2 : Int32) (x3 : Int32) (x4 : Int32) : Met l yX7_add wsX7_add ({ frames := 2, cells := 0, slots := 0, locals := 60 } : Room) (g_P D [(cI, .int)] (tcW ad cI g) [.ref (ad 8), .int x0, .int x1, .int x2, .int x3, .int x4] sz) (g_Qv D [(cI, .int)] (va_A (tcW ad cI g) sz) (tcW ad cI (fX7_add_w g x0 x1 x2 x3 x4))) 0 0 (va_A (tcW ad cI g) sz) := by
  refine Met.ofW (cc := cX7_add) (maxL := 6) (ret := none) (by decide) rfl ?_
  intro p e s m args below meth c9 s₁ B hml hv
  obtain ⟨rfl, hsz, hP, hK, hD0⟩ := hv
  have hx := B.exec
  have hb := B.bytes
  have hr := B.returns
  have hts := atoms_spec (ws := wsX7_add) B.pre
  have hown : s.vm.findClass RX7 = some m.cls := findClass_of_methodNamed B.named
  have hlocks := B.notSynchronized
  subst hsz
  have hD := hD0.self (sz := s.heap.size)
  generalize hAe : va_A (tcW ad cI g) s.heap.size = A at hD ⊢
  have hA : ∀ q : Nat, s.heap.size ≤ q → A q := fun q h => by rw [← hAe]; exact Or.inr h
  have hS : va_S A s.heap s.heap [] := va_S.rf
  have hl := lv_entry ([.ref (ad 8), .int x0, .int x1, .int x2, .int x3, .int x4]) (n := 6) (Nat.le_of_ble_eq_true rfl)
  rw [lg_entry_eq]
  generalize (lg_sl ([.ref (ad 8), .int x0, .int x1, .int x2, .int x3, .int x4]) ++ List.replicate (6 - (lg_sl ([.ref (ad 8), .int x0, .int x1, .int x2, .int x3, .int x4])).length) Slot.unset).toArray = ls at hl ⊢
  have hl : lv_has ls 6 [(0, .ref (ad 8)), (1, .int x0), (2, .int x1), (3, .int x2), (4, .int x3), (5, .int x4)] := hl
  have winX7 : ∀ w ∈ u_ws RX7 TX7 6, w ∈ wsX7_add := by decide +kernel
  have winX5 : ∀ w ∈ u_ws RX5 TX5 1, w ∈ wsX7_add := by decide +kernel
  refine lv_aload_n hx hb dX7_add_0 rfl (lv_at hl 0 rfl) ?_
  refine va_get (D := D) (ci := 7) (v := .ref (ad 9)) (C := RX7) (T := TX7) (N := 6) hx hb hts winX7 hown hK hP 8 rfl rfl 0 (by decide) (hts (.fieldLink RX7 14 "TapCap$Tariffs" "since" "LTapCap$Row;") (List.mem_of_getElem? (i := 1) rfl)) (fun _ h9 => h9) rfl dX7_add_1 ?_
  refine lv_aload_n hx hb dX7_add_4 rfl (lv_at hl 0 rfl) ?_
  refine va_get (D := D) (ci := 7) (v := .int (g 45 2)) (C := RX7) (T := TX7) (N := 6) hx hb hts winX7 hown hK hP 8 rfl rfl 5 (by decide) (hts (.fieldLink RX7 32 "TapCap$Tariffs" "count" "I") (List.mem_of_getElem? (i := 2) rfl)) (fun _ h9 => h9) rfl dX7_add_5 ?_
  refine lv_iload_n hx hb dX7_add_8 rfl (lv_at hl 1 rfl) ?_
  refine g_kv hK hD hS hA (va_runV (As := [.int (g 45 2), .int x0]) (rest := []) ⟨hx, hb, hml, hown, hts⟩ (c_tc_put l D ad cI g s.heap.size 3 (by decide) (g 45 2) x0) (cwV 2 hts gX7_add_X5_put rfl rfl rfl (by decide +kernel) ⟨Nat.le_of_ble_eq_true rfl, Nat.le_of_ble_eq_true rfl⟩) (g_preV hK hP hD (ci := 5) (q0 := 9) rfl rfl) rfl rfl hl.1 rfl (lv_room (Nat.le_of_ble_eq_true rfl)) dX7_add_9 ⟨Nat.le_of_ble_eq_true rfl, Nat.le_of_ble_eq_true rfl⟩) (fun H locs hP hD hS => ?_)
  refine lv_aload_n hx hb dX7_add_12 rfl (lv_at hl 0 rfl) ?_
  refine va_get (D := D) (ci := 7) (v := .ref (ad 11)) (C := RX7) (T := TX7) (N := 6) hx hb hts winX7 hown hK hP 8 rfl rfl 1 (by decide) (hts (.fieldLink RX7 20 "TapCap$Tariffs" "base" "LTapCap$Row;") (List.mem_of_getElem? (i := 3) rfl)) (fun _ h9 => h9) rfl dX7_add_13 ?_
  refine lv_aload_n hx hb dX7_add_16 rfl (lv_at hl 0 rfl) ?_
  refine va_get (D := D) (ci := 7) (v := .int ((tc_up g 3 (rw_put (tc_len 3) (g 3) (g 45 2) x0)) 45 2)) (C := RX7) (T := TX7) (N := 6) hx hb hts winX7 hown hK hP 8 rfl rfl 5 (by decide) (hts (.fieldLink RX7 32 "TapCap$Tariffs" "count" "I") (List.mem_of_getElem? (i := 2) rfl)) (fun _ h9 => h9) rfl dX7_add_17 ?_
  refine lv_iload_n hx hb dX7_add_20 rfl (lv_at hl 2 rfl) ?_
  refine g_kv hK hD hS hA (va_runV (As := [.int ((tc_up g 3 (rw_put (tc_len 3) (g 3) (g 45 2) x0)) 45 2), .int x1]) (rest := []) ⟨hx, hb, hml, hown, hts⟩ (c_tc_put l D ad cI (tc_up g 3 (rw_put (tc_len 3) (g 3) (g 45 2) x0)) H.size 4 (by decide) ((tc_up g 3 (rw_put (tc_len 3) (g 3) (g 45 2) x0)) 45 2) x1) (cwV 2 hts gX7_add_X5_put rfl rfl rfl (by decide +kernel) ⟨Nat.le_of_ble_eq_true rfl, Nat.le_of_ble_eq_true rfl⟩) (g_preV hK hP hD (ci := 5) (q0 := 11) rfl rfl) rfl rfl hl.1 rfl (lv_room (Nat.le_of_ble_eq_true rfl)) dX7_add_21 ⟨Nat.le_of_ble_eq_true rfl, Nat.le_of_ble_eq_true rfl⟩) (fun H locs hP hD hS => ?_)
  refine lv_aload_n hx hb dX7_add_24 rfl (lv_at hl 0 rfl) ?_
  refine va_get (D := D) (ci := 7) (v := .ref (ad 13)) (C := RX7) (T := TX7) (N := 6) hx hb hts winX7 hown hK hP 8 rfl rfl 2 (by decide) (hts (.fieldLink RX7 23 "TapCap$Tariffs" "step" "LTapCap$Row;") (List.mem_of_getElem? (i := 4) rfl)) (fun _ h9 => h9) rfl dX7_add_25 ?_
  refine lv_aload_n hx hb dX7_add_28 rfl (lv_at hl 0 rfl) ?_
  refine va_get (D := D) (ci := 7) (v := .int ((tc_up (tc_up g 3 (rw_put (tc_len 3) (g 3) (g 45 2) x0)) 4 (rw_put (tc_len 4) ((tc_up g 3 (rw_put (tc_len 3) (g 3) (g 45 2) x0)) 4) ((tc_up g 3 (rw_put (tc_len 3) (g 3) (g 45 2) x0)) 45 2) x1)) 45 2)) (C := RX7) (T := TX7) (N := 6) hx hb hts winX7 hown hK hP 8 rfl rfl 5 (by decide) (hts (.fieldLink RX7 32 "TapCap$Tariffs" "count" "I") (List.mem_of_getElem? (i := 2) rfl)) (fun _ h9 => h9) rfl dX7_add_29 ?_
  refine lv_iload_n hx hb dX7_add_32 rfl (lv_at hl 3 rfl) ?_
  refine g_kv hK hD hS hA (va_runV (As := [.int ((tc_up (tc_up g 3 (rw_put (tc_len 3) (g 3) (g 45 2) x0)) 4 (rw_put (tc_len 4) ((tc_up g 3 (rw_put (tc_len 3) (g 3) (g 45 2) x0)) 4) ((tc_up g 3 (rw_put (tc_len 3) (g 3) (g 45 2) x0)) 45 2) x1)) 45 2), .int x2]) (rest := []) ⟨hx, hb, hml, hown, hts⟩ (c_tc_put l D ad cI (tc_up (tc_up g 3 (rw_put (tc_len 3) (g 3) (g 45 2) x0)) 4 (rw_put (tc_len 4) ((tc_up g 3 (rw_put (tc_len 3) (g 3) (g 45 2) x0)) 4) ((tc_up g 3 (rw_put (tc_len 3) (g 3) (g 45 2) x0)) 45 2) x1)) H.size 5 (by decide) ((tc_up (tc_up g 3 (rw_put (tc_len 3) (g 3) (g 45 2) x0)) 4 (rw_put (tc_len 4) ((tc_up g 3 (rw_put (tc_len 3) (g 3) (g 45 2) x0)) 4) ((tc_up g 3 (rw_put (tc_len 3) (g 3) (g 45 2) x0)) 45 2) x1)) 45 2) x2) (cwV 2 hts gX7_add_X5_put rfl rfl rfl (by decide +kernel) ⟨Nat.le_of_ble_eq_true rfl, Nat.le_of_ble_eq_true rfl⟩) (g_preV hK hP hD (ci := 5) (q0 := 13) rfl rfl) rfl rfl hl.1 rfl (lv_room (Nat.le_of_ble_eq_true rfl)) dX7_add_33 ⟨Nat.le_of_ble_eq_true rfl, Nat.le_of_ble_eq_true rfl⟩) (fun H locs hP hD hS => ?_)
  refine lv_aload_n hx hb dX7_add_36 rfl (lv_at hl 0 rfl) ?_
  refine va_get (D := D) (ci := 7) (v := .ref (ad 15)) (C := RX7) (T := TX7) (N := 6) hx hb hts winX7 hown hK hP 8 rfl rfl 3 (by decide) (hts (.fieldLink RX7 26 "TapCap$Tariffs" "ticket" "LTapCap$Row;") (List.mem_of_getElem? (i := 5) rfl)) (fun _ h9 => h9) rfl dX7_add_37 ?_
  refine lv_aload_n hx hb dX7_add_40 rfl (lv_at hl 0 rfl) ?_
  refine va_get (D := D) (ci := 7) (v := .int ((tc_up (tc_up (tc_up g 3 (rw_put (tc_len 3) (g 3) (g 45 2) x0)) 4 (rw_put (tc_len 4) ((tc_up g 3 (rw_put (tc_len 3) (g 3) (g 45 2) x0)) 4) ((tc_up g 3 (rw_put (tc_len 3) (g 3) (g 45 2) x0)) 45 2) x1)) 5 (rw_put (tc_len 5) ((tc_up (tc_up g 3 (rw_put (tc_len 3) (g 3) (g 45 2) x0)) 4 (rw_put (tc_len 4) ((tc_up g 3 (rw_put (tc_len 3) (g 3) (g 45 2) x0)) 4) ((tc_up g 3 (rw_put (tc_len 3) (g 3) (g 45 2) x0)) 45 2) x1)) 5) ((tc_up (tc_up g 3 (rw_put (tc_len 3) (g 3) (g 45 2) x0)) 4 (rw_put (tc_len 4) ((tc_up g 3 (rw_put (tc_len 3) (g 3) (g 45 2) x0)) 4) ((tc_up g 3 (rw_put (tc_len 3) (g 3) (g 45 2) x0)) 45 2) x1)) 45 2) x2)) 45 2)) (C := RX7) (T := TX7) (N := 6) hx hb hts winX7 hown hK hP 8 rfl rfl 5 (by decide) (hts (.fieldLink RX7 32 "TapCap$Tariffs" "count" "I") (List.mem_of_getElem? (i := 2) rfl)) (fun _ h9 => h9) rfl dX7_add_41 ?_
  refine lv_iload hx hb dX7_add_44 (lv_at hl 4 rfl) ?_
  refine g_kv hK hD hS hA (va_runV (As := [.int ((tc_up (tc_up (tc_up g 3 (rw_put (tc_len 3) (g 3) (g 45 2) x0)) 4 (rw_put (tc_len 4) ((tc_up g 3 (rw_put (tc_len 3) (g 3) (g 45 2) x0)) 4) ((tc_up g 3 (rw_put (tc_len 3) (g 3) (g 45 2) x0)) 45 2) x1)) 5 (rw_put (tc_len 5) ((tc_up (tc_up g 3 (rw_put (tc_len 3) (g 3) (g 45 2) x0)) 4 (rw_put (tc_len 4) ((tc_up g 3 (rw_put (tc_len 3) (g 3) (g 45 2) x0)) 4) ((tc_up g 3 (rw_put (tc_len 3) (g 3) (g 45 2) x0)) 45 2) x1)) 5) ((tc_up (tc_up g 3 (rw_put (tc_len 3) (g 3) (g 45 2) x0)) 4 (rw_put (tc_len 4) ((tc_up g 3 (rw_put (tc_len 3) (g 3) (g 45 2) x0)) 4) ((tc_up g 3 (rw_put (tc_len 3) (g 3) (g 45 2) x0)) 45 2) x1)) 45 2) x2)) 45 2), .int x3]) (rest := []) ⟨hx, hb, hml, hown, hts⟩ (c_tc_put l D ad cI (tc_up (tc_up (tc_up g 3 (rw_put (tc_len 3) (g 3) (g 45 2) x0)) 4 (rw_put (tc_len 4) ((tc_up g 3 (rw_put (tc_len 3) (g 3) (g 45 2) x0)) 4) ((tc_up g 3 (rw_put (tc_len 3) (g 3) (g 45 2) x0)) 45 2) x1)) 5 (rw_put (tc_len 5) ((tc_up (tc_up g 3 (rw_put (tc_len 3) (g 3) (g 45 2) x0)) 4 (rw_put (tc_len 4) ((tc_up g 3 (rw_put (tc_len 3) (g 3) (g 45 2) x0)) 4) ((tc_up g 3 (rw_put (tc_len 3) (g 3) (g 45 2) x0)) 45 2) x1)) 5) ((tc_up (tc_up g 3 (rw_put (tc_len 3) (g 3) (g 45 2) x0)) 4 (rw_put (tc_len 4) ((tc_up g 3 (rw_put (tc_len 3) (g 3) (g 45 2) x0)) 4) ((tc_up g 3 (rw_put (tc_len 3) (g 3) (g 45 2) x0)) 45 2) x1)) 45 2) x2)) H.size 6 (by decide) ((tc_up (tc_up (tc_up g 3 (rw_put (tc_len 3) (g 3) (g 45 2) x0)) 4 (rw_put (tc_len 4) ((tc_up g 3 (rw_put (tc_len 3) (g 3) (g 45 2) x0)) 4) ((tc_up g 3 (rw_put (tc_len 3) (g 3) (g 45 2) x0)) 45 2) x1)) 5 (rw_put (tc_len 5) ((tc_up (tc_up g 3 (rw_put (tc_len 3) (g 3) (g 45 2) x0)) 4 (rw_put (tc_len 4) ((tc_up g 3 (rw_put (tc_len 3) (g 3) (g 45 2) x0)) 4) ((tc_up g 3 (rw_put (tc_len 3) (g 3) (g 45 2) x0)) 45 2) x1)) 5) ((tc_up (tc_up g 3 (rw_put (tc_len 3) (g 3) (g 45 2) x0)) 4 (rw_put (tc_len 4) ((tc_up g 3 (rw_put (tc_len 3) (g 3) (g 45 2) x0)) 4) ((tc_up g 3 (rw_put (tc_len 3) (g 3) (g 45 2) x0)) 45 2) x1)) 45 2) x2)) 45 2) x3) (cwV 2 hts gX7_add_X5_put rfl rfl rfl (by decide +kernel) ⟨Nat.le_of_ble_eq_true rfl, Nat.le_of_ble_eq_true rfl⟩) (g_preV hK hP hD (ci := 5) (q0 := 15) rfl rfl) rfl rfl hl.1 rfl (lv_room (Nat.le_of_ble_eq_true rfl)) dX7_add_46 ⟨Nat.le_of_ble_eq_true rfl, Nat.le_of_ble_eq_true rfl⟩) (fun H locs hP hD hS => ?_)
  refine lv_aload_n hx hb dX7_add_49 rfl (lv_at hl 0 rfl) ?_
  refine va_get (D := D) (ci := 7) (v := .ref (ad 17)) (C := RX7) (T := TX7) (N := 6) hx hb hts winX7 hown hK hP 8 rfl rfl 4 (by decide) (hts (.fieldLink RX7 29 "TapCap$Tariffs" "weekly" "LTapCap$Row;") (List.mem_of_getElem? (i := 6) rfl)) (fun _ h9 => h9) rfl dX7_add_50 ?_
  refine lv_aload_n hx hb dX7_add_53 rfl (lv_at hl 0 rfl) ?_
  refine va_get (D := D) (ci := 7) (v := .int ((tc_up (tc_up (tc_up (tc_up g 3 (rw_put (tc_len 3) (g 3) (g 45 2) x0)) 4 (rw_put (tc_len 4) ((tc_up g 3 (rw_put (tc_len 3) (g 3) (g 45 2) x0)) 4) ((tc_up g 3 (rw_put (tc_len 3) (g 3) (g 45 2) x0)) 45 2) x1)) 5 (rw_put (tc_len 5) ((tc_up (tc_up g 3 (rw_put (tc_len 3) (g 3) (g 45 2) x0)) 4 (rw_put (tc_len 4) ((tc_up g 3 (rw_put (tc_len 3) (g 3) (g 45 2) x0)) 4) ((tc_up g 3 (rw_put (tc_len 3) (g 3) (g 45 2) x0)) 45 2) x1)) 5) ((tc_up (tc_up g 3 (rw_put (tc_len 3) (g 3) (g 45 2) x0)) 4 (rw_put (tc_len 4) ((tc_up g 3 (rw_put (tc_len 3) (g 3) (g 45 2) x0)) 4) ((tc_up g 3 (rw_put (tc_len 3) (g 3) (g 45 2) x0)) 45 2) x1)) 45 2) x2)) 6 (rw_put (tc_len 6) ((tc_up (tc_up (tc_up g 3 (rw_put (tc_len 3) (g 3) (g 45 2) x0)) 4 (rw_put (tc_len 4) ((tc_up g 3 (rw_put (tc_len 3) (g 3) (g 45 2) x0)) 4) ((tc_up g 3 (rw_put (tc_len 3) (g 3) (g 45 2) x0)) 45 2) x1)) 5 (rw_put (tc_len 5) ((tc_up (tc_up g 3 (rw_put (tc_len 3) (g 3) (g 45 2) x0)) 4 (rw_put (tc_len 4) ((tc_up g 3 (rw_put (tc_len 3) (g 3) (g 45 2) x0)) 4) ((tc_up g 3 (rw_put (tc_len 3) (g 3) (g 45 2) x0)) 45 2) x1)) 5) ((tc_up (tc_up g 3 (rw_put (tc_len 3) (g 3) (g 45 2) x0)) 4 (rw_put (tc_len 4) ((tc_up g 3 (rw_put (tc_len 3) (g 3) (g 45 2) x0)) 4) ((tc_up g 3 (rw_put (tc_len 3) (g 3) (g 45 2) x0)) 45 2) x1)) 45 2) x2)) 6) ((tc_up (tc_up (tc_up g 3 (rw_put (tc_len 3) (g 3) (g 45 2) x0)) 4 (rw_put (tc_len 4) ((tc_up g 3 (rw_put (tc_len 3) (g 3) (g 45 2) x0)) 4) ((tc_up g 3 (rw_put (tc_len 3) (g 3) (g 45 2) x0)) 45 2) x1)) 5 (rw_put (tc_len 5) ((tc_up (tc_up g 3 (rw_put (tc_len 3) (g 3) (g 45 2) x0)) 4 (rw_put (tc_len 4) ((tc_up g 3 (rw_put (tc_len 3) (g 3) (g 45 2) x0)) 4) ((tc_up g 3 (rw_put (tc_len 3) (g 3) (g 45 2) x0)) 45 2) x1)) 5) ((tc_up (tc_up g 3 (rw_put (tc_len 3) (g 3) (g 45 2) x0)) 4 (rw_put (tc_len 4) ((tc_up g 3 (rw_put (tc_len 3) (g 3) (g 45 2) x0)) 4) ((tc_up g 3 (rw_put (tc_len 3) (g 3) (g 45 2) x0)) 45 2) x1)) 45 2) x2)) 45 2) x3)) 45 2)) (C := RX7) (T := TX7) (N := 6) hx hb hts winX7 hown hK hP 8 rfl rfl 5 (by decide) (hts (.fieldLink RX7 32 "TapCap$Tariffs" "count" "I") (List.mem_of_getElem? (i := 2) rfl)) (fun _ h9 => h9) rfl dX7_add_54 ?_
  refine lv_iload hx hb dX7_add_57 (lv_at hl 5 rfl) ?_
  refine g_kv hK hD hS hA (va_runV (As := [.int ((tc_up (tc_up (tc_up (tc_up g 3 (rw_put (tc_len 3) (g 3) (g 45 2) x0)) 4 (rw_put (tc_len 4) ((tc_up g 3 (rw_put (tc_len 3) (g 3) (g 45 2) x0)) 4) ((tc_up g 3 (rw_put (tc_len 3) (g 3) (g 45 2) x0)) 45 2) x1)) 5 (rw_put (tc_len 5) ((tc_up (tc_up g 3 (rw_put (tc_len 3) (g 3) (g 45 2) x0)) 4 (rw_put (tc_len 4) ((tc_up g 3 (rw_put (tc_len 3) (g 3) (g 45 2) x0)) 4) ((tc_up g 3 (rw_put (tc_len 3) (g 3) (g 45 2) x0)) 45 2) x1)) 5) ((tc_up (tc_up g 3 (rw_put (tc_len 3) (g 3) (g 45 2) x0)) 4 (rw_put (tc_len 4) ((tc_up g 3 (rw_put (tc_len 3) (g 3) (g 45 2) x0)) 4) ((tc_up g 3 (rw_put (tc_len 3) (g 3) (g 45 2) x0)) 45 2) x1)) 45 2) x2)) 6 (rw_put (tc_len 6) ((tc_up (tc_up (tc_up g 3 (rw_put (tc_len 3) (g 3) (g 45 2) x0)) 4 (rw_put (tc_len 4) ((tc_up g 3 (rw_put (tc_len 3) (g 3) (g 45 2) x0)) 4) ((tc_up g 3 (rw_put (tc_len 3) (g 3) (g 45 2) x0)) 45 2) x1)) 5 (rw_put (tc_len 5) ((tc_up (tc_up g 3 (rw_put (tc_len 3) (g 3) (g 45 2) x0)) 4 (rw_put (tc_len 4) ((tc_up g 3 (rw_put (tc_len 3) (g 3) (g 45 2) x0)) 4) ((tc_up g 3 (rw_put (tc_len 3) (g 3) (g 45 2) x0)) 45 2) x1)) 5) ((tc_up (tc_up g 3 (rw_put (tc_len 3) (g 3) (g 45 2) x0)) 4 (rw_put (tc_len 4) ((tc_up g 3 (rw_put (tc_len 3) (g 3) (g 45 2) x0)) 4) ((tc_up g 3 (rw_put (tc_len 3) (g 3) (g 45 2) x0)) 45 2) x1)) 45 2) x2)) 6) ((tc_up (tc_up (tc_up g 3 (rw_put (tc_len 3) (g 3) (g 45 2) x0)) 4 (rw_put (tc_len 4) ((tc_up g 3 (rw_put (tc_len 3) (g 3) (g 45 2) x0)) 4) ((tc_up g 3 (rw_put (tc_len 3) (g 3) (g 45 2) x0)) 45 2) x1)) 5 (rw_put (tc_len 5) ((tc_up (tc_up g 3 (rw_put (tc_len 3) (g 3) (g 45 2) x0)) 4 (rw_put (tc_len 4) ((tc_up g 3 (rw_put (tc_len 3) (g 3) (g 45 2) x0)) 4) ((tc_up g 3 (rw_put (tc_len 3) (g 3) (g 45 2) x0)) 45 2) x1)) 5) ((tc_up (tc_up g 3 (rw_put (tc_len 3) (g 3) (g 45 2) x0)) 4 (rw_put (tc_len 4) ((tc_up g 3 (rw_put (tc_len 3) (g 3) (g 45 2) x0)) 4) ((tc_up g 3 (rw_put (tc_len 3) (g 3) (g 45 2) x0)) 45 2) x1)) 45 2) x2)) 45 2) x3)) 45 2), .int x4]) (rest := []) ⟨hx, hb, hml, hown, hts⟩ (c_tc_put l D ad cI (tc_up (tc_up (tc_up (tc_up g 3 (rw_put (tc_len 3) (g 3) (g 45 2) x0)) 4 (rw_put (tc_len 4) ((tc_up g 3 (rw_put (tc_len 3) (g 3) (g 45 2) x0)) 4) ((tc_up g 3 (rw_put (tc_len 3) (g 3) (g 45 2) x0)) 45 2) x1)) 5 (rw_put (tc_len 5) ((tc_up (tc_up g 3 (rw_put (tc_len 3) (g 3) (g 45 2) x0)) 4 (rw_put (tc_len 4) ((tc_up g 3 (rw_put (tc_len 3) (g 3) (g 45 2) x0)) 4) ((tc_up g 3 (rw_put (tc_len 3) (g 3) (g 45 2) x0)) 45 2) x1)) 5) ((tc_up (tc_up g 3 (rw_put (tc_len 3) (g 3) (g 45 2) x0)) 4 (rw_put (tc_len 4) ((tc_up g 3 (rw_put (tc_len 3) (g 3) (g 45 2) x0)) 4) ((tc_up g 3 (rw_put (tc_len 3) (g 3) (g 45 2) x0)) 45 2) x1)) 45 2) x2)) 6 (rw_put (tc_len 6) ((tc_up (tc_up (tc_up g 3 (rw_put (tc_len 3) (g 3) (g 45 2) x0)) 4 (rw_put (tc_len 4) ((tc_up g 3 (rw_put (tc_len 3) (g 3) (g 45 2) x0)) 4) ((tc_up g 3 (rw_put (tc_len 3) (g 3) (g 45 2) x0)) 45 2) x1)) 5 (rw_put (tc_len 5) ((tc_up (tc_up g 3 (rw_put (tc_len 3) (g 3) (g 45 2) x0)) 4 (rw_put (tc_len 4) ((tc_up g 3 (rw_put (tc_len 3) (g 3) (g 45 2) x0)) 4) ((tc_up g 3 (rw_put (tc_len 3) (g 3) (g 45 2) x0)) 45 2) x1)) 5) ((tc_up (tc_up g 3 (rw_put (tc_len 3) (g 3) (g 45 2) x0)) 4 (rw_put (tc_len 4) ((tc_up g 3 (rw_put (tc_len 3) (g 3) (g 45 2) x0)) 4) ((tc_up g 3 (rw_put (tc_len 3) (g 3) (g 45 2) x0)) 45 2) x1)) 45 2) x2)) 6) ((tc_up (tc_up (tc_up g 3 (rw_put (tc_len 3) (g 3) (g 45 2) x0)) 4 (rw_put (tc_len 4) ((tc_up g 3 (rw_put (tc_len 3) (g 3) (g 45 2) x0)) 4) ((tc_up g 3 (rw_put (tc_len 3) (g 3) (g 45 2) x0)) 45 2) x1)) 5 (rw_put (tc_len 5) ((tc_up (tc_up g 3 (rw_put (tc_len 3) (g 3) (g 45 2) x0)) 4 (rw_put (tc_len 4) ((tc_up g 3 (rw_put (tc_len 3) (g 3) (g 45 2) x0)) 4) ((tc_up g 3 (rw_put (tc_len 3) (g 3) (g 45 2) x0)) 45 2) x1)) 5) ((tc_up (tc_up g 3 (rw_put (tc_len 3) (g 3) (g 45 2) x0)) 4 (rw_put (tc_len 4) ((tc_up g 3 (rw_put (tc_len 3) (g 3) (g 45 2) x0)) 4) ((tc_up g 3 (rw_put (tc_len 3) (g 3) (g 45 2) x0)) 45 2) x1)) 45 2) x2)) 45 2) x3)) H.size 7 (by decide) ((tc_up (tc_up (tc_up (tc_up g 3 (rw_put (tc_len 3) (g 3) (g 45 2) x0)) 4 (rw_put (tc_len 4) ((tc_up g 3 (rw_put (tc_len 3) (g 3) (g 45 2) x0)) 4) ((tc_up g 3 (rw_put (tc_len 3) (g 3) (g 45 2) x0)) 45 2) x1)) 5 (rw_put (tc_len 5) ((tc_up (tc_up g 3 (rw_put (tc_len 3) (g 3) (g 45 2) x0)) 4 (rw_put (tc_len 4) ((tc_up g 3 (rw_put (tc_len 3) (g 3) (g 45 2) x0)) 4) ((tc_up g 3 (rw_put (tc_len 3) (g 3) (g 45 2) x0)) 45 2) x1)) 5) ((tc_up (tc_up g 3 (rw_put (tc_len 3) (g 3) (g 45 2) x0)) 4 (rw_put (tc_len 4) ((tc_up g 3 (rw_put (tc_len 3) (g 3) (g 45 2) x0)) 4) ((tc_up g 3 (rw_put (tc_len 3) (g 3) (g 45 2) x0)) 45 2) x1)) 45 2) x2)) 6 (rw_put (tc_len 6) ((tc_up (tc_up (tc_up g 3 (rw_put (tc_len 3) (g 3) (g 45 2) x0)) 4 (rw_put (tc_len 4) ((tc_up g 3 (rw_put (tc_len 3) (g 3) (g 45 2) x0)) 4) ((tc_up g 3 (rw_put (tc_len 3) (g 3) (g 45 2) x0)) 45 2) x1)) 5 (rw_put (tc_len 5) ((tc_up (tc_up g 3 (rw_put (tc_len 3) (g 3) (g 45 2) x0)) 4 (rw_put (tc_len 4) ((tc_up g 3 (rw_put (tc_len 3) (g 3) (g 45 2) x0)) 4) ((tc_up g 3 (rw_put (tc_len 3) (g 3) (g 45 2) x0)) 45 2) x1)) 5) ((tc_up (tc_up g 3 (rw_put (tc_len 3) (g 3) (g 45 2) x0)) 4 (rw_put (tc_len 4) ((tc_up g 3 (rw_put (tc_len 3) (g 3) (g 45 2) x0)) 4) ((tc_up g 3 (rw_put (tc_len 3) (g 3) (g 45 2) x0)) 45 2) x1)) 45 2) x2)) 6) ((tc_up (tc_up (tc_up g 3 (rw_put (tc_len 3) (g 3) (g 45 2) x0)) 4 (rw_put (tc_len 4) ((tc_up g 3 (rw_put (tc_len 3) (g 3) (g 45 2) x0)) 4) ((tc_up g 3 (rw_put (tc_len 3) (g 3) (g 45 2) x0)) 45 2) x1)) 5 (rw_put (tc_len 5) ((tc_up (tc_up g 3 (rw_put (tc_len 3) (g 3) (g 45 2) x0)) 4 (rw_put (tc_len 4) ((tc_up g 3 (rw_put (tc_len 3) (g 3) (g 45 2) x0)) 4) ((tc_up g 3 (rw_put (tc_len 3) (g 3) (g 45 2) x0)) 45 2) x1)) 5) ((tc_up (tc_up g 3 (rw_put (tc_len 3) (g 3) (g 45 2) x0)) 4 (rw_put (tc_len 4) ((tc_up g 3 (rw_put (tc_len 3) (g 3) (g 45 2) x0)) 4) ((tc_up g 3 (rw_put (tc_len 3) (g 3) (g 45 2) x0)) 45 2) x1)) 45 2) x2)) 45 2) x3)) 45 2) x4) (cwV 2 hts gX7_add_X5_put rfl rfl rfl (by decide +kernel) ⟨Nat.le_of_ble_eq_true rfl, Nat.le_of_ble_eq_true rfl⟩) (g_preV hK hP hD (ci := 5) (q0 := 17) rfl rfl) rfl rfl hl.1 rfl (lv_room (Nat.le_of_ble_eq_true rfl)) dX7_add_59 ⟨Nat.le_of_ble_eq_true rfl, Nat.le_of_ble_eq_true rfl⟩) (fun H locs hP hD hS => ?_)
  refine lv_aload_n hx hb dX7_add_62 rfl (lv_at hl 0 rfl) ?_
  refine lv_dup hx hb dX7_add_63 rfl ?_
  refine va_get (D := D) (ci := 7) (v := .int ((tc_up (tc_up (tc_up (tc_up (tc_up g 3 (rw_put (tc_len 3) (g 3) (g 45 2) x0)) 4 (rw_put (tc_len 4) ((tc_up g 3 (rw_put (tc_len 3) (g 3) (g 45 2) x0)) 4) ((tc_up g 3 (rw_put (tc_len 3) (g 3) (g 45 2) x0)) 45 2) x1)) 5 (rw_put (tc_len 5) ((tc_up (tc_up g 3 (rw_put (tc_len 3) (g 3) (g 45 2) x0)) 4 (rw_put (tc_len 4) ((tc_up g 3 (rw_put (tc_len 3) (g 3) (g 45 2) x0)) 4) ((tc_up g 3 (rw_put (tc_len 3) (g 3) (g 45 2) x0)) 45 2) x1)) 5) ((tc_up (tc_up g 3 (rw_put (tc_len 3) (g 3) (g 45 2) x0)) 4 (rw_put (tc_len 4) ((tc_up g 3 (rw_put (tc_len 3) (g 3) (g 45 2) x0)) 4) ((tc_up g 3 (rw_put (tc_len 3) (g 3) (g 45 2) x0)) 45 2) x1)) 45 2) x2)) 6 (rw_put (tc_len 6) ((tc_up (tc_up (tc_up g 3 (rw_put (tc_len 3) (g 3) (g 45 2) x0)) 4 (rw_put (tc_len 4) ((tc_up g 3 (rw_put (tc_len 3) (g 3) (g 45 2) x0)) 4) ((tc_up g 3 (rw_put (tc_len 3) (g 3) (g 45 2) x0)) 45 2) x1)) 5 (rw_put (tc_len 5) ((tc_up (tc_up g 3 (rw_put (tc_len 3) (g 3) (g 45 2) x0)) 4 (rw_put (tc_len 4) ((tc_up g 3 (rw_put (tc_len 3) (g 3) (g 45 2) x0)) 4) ((tc_up g 3 (rw_put (tc_len 3) (g 3) (g 45 2) x0)) 45 2) x1)) 5) ((tc_up (tc_up g 3 (rw_put (tc_len 3) (g 3) (g 45 2) x0)) 4 (rw_put (tc_len 4) ((tc_up g 3 (rw_put (tc_len 3) (g 3) (g 45 2) x0)) 4) ((tc_up g 3 (rw_put (tc_len 3) (g 3) (g 45 2) x0)) 45 2) x1)) 45 2) x2)) 6) ((tc_up (tc_up (tc_up g 3 (rw_put (tc_len 3) (g 3) (g 45 2) x0)) 4 (rw_put (tc_len 4) ((tc_up g 3 (rw_put (tc_len 3) (g 3) (g 45 2) x0)) 4) ((tc_up g 3 (rw_put (tc_len 3) (g 3) (g 45 2) x0)) 45 2) x1)) 5 (rw_put (tc_len 5) ((tc_up (tc_up g 3 (rw_put (tc_len 3) (g 3) (g 45 2) x0)) 4 (rw_put (tc_len 4) ((tc_up g 3 (rw_put (tc_len 3) (g 3) (g 45 2) x0)) 4) ((tc_up g 3 (rw_put (tc_len 3) (g 3) (g 45 2) x0)) 45 2) x1)) 5) ((tc_up (tc_up g 3 (rw_put (tc_len 3) (g 3) (g 45 2) x0)) 4 (rw_put (tc_len 4) ((tc_up g 3 (rw_put (tc_len 3) (g 3) (g 45 2) x0)) 4) ((tc_up g 3 (rw_put (tc_len 3) (g 3) (g 45 2) x0)) 45 2) x1)) 45 2) x2)) 45 2) x3)) 7 (rw_put (tc_len 7) ((tc_up (tc_up (tc_up (tc_up g 3 (rw_put (tc_len 3) (g 3) (g 45 2) x0)) 4 (rw_put (tc_len 4) ((tc_up g 3 (rw_put (tc_len 3) (g 3) (g 45 2) x0)) 4) ((tc_up g 3 (rw_put (tc_len 3) (g 3) (g 45 2) x0)) 45 2) x1)) 5 (rw_put (tc_len 5) ((tc_up (tc_up g 3 (rw_put (tc_len 3) (g 3) (g 45 2) x0)) 4 (rw_put (tc_len 4) ((tc_up g 3 (rw_put (tc_len 3) (g 3) (g 45 2) x0)) 4) ((tc_up g 3 (rw_put (tc_len 3) (g 3) (g 45 2) x0)) 45 2) x1)) 5) ((tc_up (tc_up g 3 (rw_put (tc_len 3) (g 3) (g 45 2) x0)) 4 (rw_put (tc_len 4) ((tc_up g 3 (rw_put (tc_len 3) (g 3) (g 45 2) x0)) 4) ((tc_up g 3 (rw_put (tc_len 3) (g 3) (g 45 2) x0)) 45 2) x1)) 45 2) x2)) 6 (rw_put (tc_len 6) ((tc_up (tc_up (tc_up g 3 (rw_put (tc_len 3) (g 3) (g 45 2) x0)) 4 (rw_put (tc_len 4) ((tc_up g 3 (rw_put (tc_len 3) (g 3) (g 45 2) x0)) 4) ((tc_up g 3 (rw_put (tc_len 3) (g 3) (g 45 2) x0)) 45 2) x1)) 5 (rw_put (tc_len 5) ((tc_up (tc_up g 3 (rw_put (tc_len 3) (g 3) (g 45 2) x0)) 4 (rw_put (tc_len 4) ((tc_up g 3 (rw_put (tc_len 3) (g 3) (g 45 2) x0)) 4) ((tc_up g 3 (rw_put (tc_len 3) (g 3) (g 45 2) x0)) 45 2) x1)) 5) ((tc_up (tc_up g 3 (rw_put (tc_len 3) (g 3) (g 45 2) x0)) 4 (rw_put (tc_len 4) ((tc_up g 3 (rw_put (tc_len 3) (g 3) (g 45 2) x0)) 4) ((tc_up g 3 (rw_put (tc_len 3) (g 3) (g 45 2) x0)) 45 2) x1)) 45 2) x2)) 6) ((tc_up (tc_up (tc_up g 3 (rw_put (tc_len 3) (g 3) (g 45 2) x0)) 4 (rw_put (tc_len 4) ((tc_up g 3 (rw_put (tc_len 3) (g 3) (g 45 2) x0)) 4) ((tc_up g 3 (rw_put (tc_len 3) (g 3) (g 45 2) x0)) 45 2) x1)) 5 (rw_put (tc_len 5) ((tc_up (tc_up g 3 (rw_put (tc_len 3) (g 3) (g 45 2) x0)) 4 (rw_put (tc_len 4) ((tc_up g 3 (rw_put (tc_len 3) (g 3) (g 45 2) x0)) 4) ((tc_up g 3 (rw_put (tc_len 3) (g 3) (g 45 2) x0)) 45 2) x1)) 5) ((tc_up (tc_up g 3 (rw_put (tc_len 3) (g 3) (g 45 2) x0)) 4 (rw_put (tc_len 4) ((tc_up g 3 (rw_put (tc_len 3) (g 3) (g 45 2) x0)) 4) ((tc_up g 3 (rw_put (tc_len 3) (g 3) (g 45 2) x0)) 45 2) x1)) 45 2) x2)) 45 2) x3)) 7) ((tc_up (tc_up (tc_up (tc_up g 3 (rw_put (tc_len 3) (g 3) (g 45 2) x0)) 4 (rw_put (tc_len 4) ((tc_up g 3 (rw_put (tc_len 3) (g 3) (g 45 2) x0)) 4) ((tc_up g 3 (rw_put (tc_len 3) (g 3) (g 45 2) x0)) 45 2) x1)) 5 (rw_put (tc_len 5) ((tc_up (tc_up g 3 (rw_put (tc_len 3) (g 3) (g 45 2) x0)) 4 (rw_put (tc_len 4) ((tc_up g 3 (rw_put (tc_len 3) (g 3) (g 45 2) x0)) 4) ((tc_up g 3 (rw_put (tc_len 3) (g 3) (g 45 2) x0)) 45 2) x1)) 5) ((tc_up (tc_up g 3 (rw_put (tc_len 3) (g 3) (g 45 2) x0)) 4 (rw_put (tc_len 4) ((tc_up g 3 (rw_put (tc_len 3) (g 3) (g 45 2) x0)) 4) ((tc_up g 3 (rw_put (tc_len 3) (g 3) (g 45 2) x0)) 45 2) x1)) 45 2) x2)) 6 (rw_put (tc_len 6) ((tc_up (tc_up (tc_up g 3 (rw_put (tc_len 3) (g 3) (g 45 2) x0)) 4 (rw_put (tc_len 4) ((tc_up g 3 (rw_put (tc_len 3) (g 3) (g 45 2) x0)) 4) ((tc_up g 3 (rw_put (tc_len 3) (g 3) (g 45 2) x0)) 45 2) x1)) 5 (rw_put (tc_len 5) ((tc_up (tc_up g 3 (rw_put (tc_len 3) (g 3) (g 45 2) x0)) 4 (rw_put (tc_len 4) ((tc_up g 3 (rw_put (tc_len 3) (g 3) (g 45 2) x0)) 4) ((tc_up g 3 (rw_put (tc_len 3) (g 3) (g 45 2) x0)) 45 2) x1)) 5) ((tc_up (tc_up g 3 (rw_put (tc_len 3) (g 3) (g 45 2) x0)) 4 (rw_put (tc_len 4) ((tc_up g 3 (rw_put (tc_len 3) (g 3) (g 45 2) x0)) 4) ((tc_up g 3 (rw_put (tc_len 3) (g 3) (g 45 2) x0)) 45 2) x1)) 45 2) x2)) 6) ((tc_up (tc_up (tc_up g 3 (rw_put (tc_len 3) (g 3) (g 45 2) x0)) 4 (rw_put (tc_len 4) ((tc_up g 3 (rw_put (tc_len 3) (g 3) (g 45 2) x0)) 4) ((tc_up g 3 (rw_put (tc_len 3) (g 3) (g 45 2) x0)) 45 2) x1)) 5 (rw_put (tc_len 5) ((tc_up (tc_up g 3 (rw_put (tc_len 3) (g 3) (g 45 2) x0)) 4 (rw_put (tc_len 4) ((tc_up g 3 (rw_put (tc_len 3) (g 3) (g 45 2) x0)) 4) ((tc_up g 3 (rw_put (tc_len 3) (g 3) (g 45 2) x0)) 45 2) x1)) 5) ((tc_up (tc_up g 3 (rw_put (tc_len 3) (g 3) (g 45 2) x0)) 4 (rw_put (tc_len 4) ((tc_up g 3 (rw_put (tc_len 3) (g 3) (g 45 2) x0)) 4) ((tc_up g 3 (rw_put (tc_len 3) (g 3) (g 45 2) x0)) 45 2) x1)) 45 2) x2)) 45 2) x3)) 45 2) x4)) 45 2)) (C := RX7) (T := TX7) (N := 6) hx hb hts winX7 hown hK hP 8 rfl rfl 5 (by decide) (hts (.fieldLink RX7 32 "TapCap$Tariffs" "count" "I") (List.mem_of_getElem? (i := 2) rfl)) (fun _ h9 => h9) rfl dX7_add_64 ?_
  refine lv_iconst (v := 1) hx hb dX7_add_67 (by decide) ?_
  refine lv_iadd hx hb dX7_add_68 ?_
  refine va_put (D := D) (ci := 7) (v := .int (((tc_up (tc_up (tc_up (tc_up (tc_up g 3 (rw_put (tc_len 3) (g 3) (g 45 2) x0)) 4 (rw_put (tc_len 4) ((tc_up g 3 (rw_put (tc_len 3) (g 3) (g 45 2) x0)) 4) ((tc_up g 3 (rw_put (tc_len 3) (g 3) (g 45 2) x0)) 45 2) x1)) 5 (rw_put (tc_len 5) ((tc_up (tc_up g 3 (rw_put (tc_len 3) (g 3) (g 45 2) x0)) 4 (rw_put (tc_len 4) ((tc_up g 3 (rw_put (tc_len 3) (g 3) (g 45 2) x0)) 4) ((tc_up g 3 (rw_put (tc_len 3) (g 3) (g 45 2) x0)) 45 2) x1)) 5) ((tc_up (tc_up g 3 (rw_put (tc_len 3) (g 3) (g 45 2) x0)) 4 (rw_put (tc_len 4) ((tc_up g 3 (rw_put (tc_len 3) (g 3) (g 45 2) x0)) 4) ((tc_up g 3 (rw_put (tc_len 3) (g 3) (g 45 2) x0)) 45 2) x1)) 45 2) x2)) 6 (rw_put (tc_len 6) ((tc_up (tc_up (tc_up g 3 (rw_put (tc_len 3) (g 3) (g 45 2) x0)) 4 (rw_put (tc_len 4) ((tc_up g 3 (rw_put (tc_len 3) (g 3) (g 45 2) x0)) 4) ((tc_up g 3 (rw_put (tc_len 3) (g 3) (g 45 2) x0)) 45 2) x1)) 5 (rw_put (tc_len 5) ((tc_up (tc_up g 3 (rw_put (tc_len 3) (g 3) (g 45 2) x0)) 4 (rw_put (tc_len 4) ((tc_up g 3 (rw_put (tc_len 3) (g 3) (g 45 2) x0)) 4) ((tc_up g 3 (rw_put (tc_len 3) (g 3) (g 45 2) x0)) 45 2) x1)) 5) ((tc_up (tc_up g 3 (rw_put (tc_len 3) (g 3) (g 45 2) x0)) 4 (rw_put (tc_len 4) ((tc_up g 3 (rw_put (tc_len 3) (g 3) (g 45 2) x0)) 4) ((tc_up g 3 (rw_put (tc_len 3) (g 3) (g 45 2) x0)) 45 2) x1)) 45 2) x2)) 6) ((tc_up (tc_up (tc_up g 3 (rw_put (tc_len 3) (g 3) (g 45 2) x0)) 4 (rw_put (tc_len 4) ((tc_up g 3 (rw_put (tc_len 3) (g 3) (g 45 2) x0)) 4) ((tc_up g 3 (rw_put (tc_len 3) (g 3) (g 45 2) x0)) 45 2) x1)) 5 (rw_put (tc_len 5) ((tc_up (tc_up g 3 (rw_put (tc_len 3) (g 3) (g 45 2) x0)) 4 (rw_put (tc_len 4) ((tc_up g 3 (rw_put (tc_len 3) (g 3) (g 45 2) x0)) 4) ((tc_up g 3 (rw_put (tc_len 3) (g 3) (g 45 2) x0)) 45 2) x1)) 5) ((tc_up (tc_up g 3 (rw_put (tc_len 3) (g 3) (g 45 2) x0)) 4 (rw_put (tc_len 4) ((tc_up g 3 (rw_put (tc_len 3) (g 3) (g 45 2) x0)) 4) ((tc_up g 3 (rw_put (tc_len 3) (g 3) (g 45 2) x0)) 45 2) x1)) 45 2) x2)) 45 2) x3)) 7 (rw_put (tc_len 7) ((tc_up (tc_up (tc_up (tc_up g 3 (rw_put (tc_len 3) (g 3) (g 45 2) x0)) 4 (rw_put (tc_len 4) ((tc_up g 3 (rw_put (tc_len 3) (g 3) (g 45 2) x0)) 4) ((tc_up g 3 (rw_put (tc_len 3) (g 3) (g 45 2) x0)) 45 2) x1)) 5 (rw_put (tc_len 5) ((tc_up (tc_up g 3 (rw_put (tc_len 3) (g 3) (g 45 2) x0)) 4 (rw_put (tc_len 4) ((tc_up g 3 (rw_put (tc_len 3) (g 3) (g 45 2) x0)) 4) ((tc_up g 3 (rw_put (tc_len 3) (g 3) (g 45 2) x0)) 45 2) x1)) 5) ((tc_up (tc_up g 3 (rw_put (tc_len 3) (g 3) (g 45 2) x0)) 4 (rw_put (tc_len 4) ((tc_up g 3 (rw_put (tc_len 3) (g 3) (g 45 2) x0)) 4) ((tc_up g 3 (rw_put (tc_len 3) (g 3) (g 45 2) x0)) 45 2) x1)) 45 2) x2)) 6 (rw_put (tc_len 6) ((tc_up (tc_up (tc_up g 3 (rw_put (tc_len 3) (g 3) (g 45 2) x0)) 4 (rw_put (tc_len 4) ((tc_up g 3 (rw_put (tc_len 3) (g 3) (g 45 2) x0)) 4) ((tc_up g 3 (rw_put (tc_len 3) (g 3) (g 45 2) x0)) 45 2) x1)) 5 (rw_put (tc_len 5) ((tc_up (tc_up g 3 (rw_put (tc_len 3) (g 3) (g 45 2) x0)) 4 (rw_put (tc_len 4) ((tc_up g 3 (rw_put (tc_len 3) (g 3) (g 45 2) x0)) 4) ((tc_up g 3 (rw_put (tc_len 3) (g 3) (g 45 2) x0)) 45 2) x1)) 5) ((tc_up (tc_up g 3 (rw_put (tc_len 3) (g 3) (g 45 2) x0)) 4 (rw_put (tc_len 4) ((tc_up g 3 (rw_put (tc_len 3) (g 3) (g 45 2) x0)) 4) ((tc_up g 3 (rw_put (tc_len 3) (g 3) (g 45 2) x0)) 45 2) x1)) 45 2) x2)) 6) ((tc_up (tc_up (tc_up g 3 (rw_put (tc_len 3) (g 3) (g 45 2) x0)) 4 (rw_put (tc_len 4) ((tc_up g 3 (rw_put (tc_len 3) (g 3) (g 45 2) x0)) 4) ((tc_up g 3 (rw_put (tc_len 3) (g 3) (g 45 2) x0)) 45 2) x1)) 5 (rw_put (tc_len 5) ((tc_up (tc_up g 3 (rw_put (tc_len 3) (g 3) (g 45 2) x0)) 4 (rw_put (tc_len 4) ((tc_up g 3 (rw_put (tc_len 3) (g 3) (g 45 2) x0)) 4) ((tc_up g 3 (rw_put (tc_len 3) (g 3) (g 45 2) x0)) 45 2) x1)) 5) ((tc_up (tc_up g 3 (rw_put (tc_len 3) (g 3) (g 45 2) x0)) 4 (rw_put (tc_len 4) ((tc_up g 3 (rw_put (tc_len 3) (g 3) (g 45 2) x0)) 4) ((tc_up g 3 (rw_put (tc_len 3) (g 3) (g 45 2) x0)) 45 2) x1)) 45 2) x2)) 45 2) x3)) 7) ((tc_up (tc_up (tc_up (tc_up g 3 (rw_put (tc_len 3) (g 3) (g 45 2) x0)) 4 (rw_put (tc_len 4) ((tc_up g 3 (rw_put (tc_len 3) (g 3) (g 45 2) x0)) 4) ((tc_up g 3 (rw_put (tc_len 3) (g 3) (g 45 2) x0)) 45 2) x1)) 5 (rw_put (tc_len 5) ((tc_up (tc_up g 3 (rw_put (tc_len 3) (g 3) (g 45 2) x0)) 4 (rw_put (tc_len 4) ((tc_up g 3 (rw_put (tc_len 3) (g 3) (g 45 2) x0)) 4) ((tc_up g 3 (rw_put (tc_len 3) (g 3) (g 45 2) x0)) 45 2) x1)) 5) ((tc_up (tc_up g 3 (rw_put (tc_len 3) (g 3) (g 45 2) x0)) 4 (rw_put (tc_len 4) ((tc_up g 3 (rw_put (tc_len 3) (g 3) (g 45 2) x0)) 4) ((tc_up g 3 (rw_put (tc_len 3) (g 3) (g 45 2) x0)) 45 2) x1)) 45 2) x2)) 6 (rw_put (tc_len 6) ((tc_up (tc_up (tc_up g 3 (rw_put (tc_len 3) (g 3) (g 45 2) x0)) 4 (rw_put (tc_len 4) ((tc_up g 3 (rw_put (tc_len 3) (g 3) (g 45 2) x0)) 4) ((tc_up g 3 (rw_put (tc_len 3) (g 3) (g 45 2) x0)) 45 2) x1)) 5 (rw_put (tc_len 5) ((tc_up (tc_up g 3 (rw_put (tc_len 3) (g 3) (g 45 2) x0)) 4 (rw_put (tc_len 4) ((tc_up g 3 (rw_put (tc_len 3) (g 3) (g 45 2) x0)) 4) ((tc_up g 3 (rw_put (tc_len 3) (g 3) (g 45 2) x0)) 45 2) x1)) 5) ((tc_up (tc_up g 3 (rw_put (tc_len 3) (g 3) (g 45 2) x0)) 4 (rw_put (tc_len 4) ((tc_up g 3 (rw_put (tc_len 3) (g 3) (g 45 2) x0)) 4) ((tc_up g 3 (rw_put (tc_len 3) (g 3) (g 45 2) x0)) 45 2) x1)) 45 2) x2)) 6) ((tc_up (tc_up (tc_up g 3 (rw_put (tc_len 3) (g 3) (g 45 2) x0)) 4 (rw_put (tc_len 4) ((tc_up g 3 (rw_put (tc_len 3) (g 3) (g 45 2) x0)) 4) ((tc_up g 3 (rw_put (tc_len 3) (g 3) (g 45 2) x0)) 45 2) x1)) 5 (rw_put (tc_len 5) ((tc_up (tc_up g 3 (rw_put (tc_len 3) (g 3) (g 45 2) x0)) 4 (rw_put (tc_len 4) ((tc_up g 3 (rw_put (tc_len 3) (g 3) (g 45 2) x0)) 4) ((tc_up g 3 (rw_put (tc_len 3) (g 3) (g 45 2) x0)) 45 2) x1)) 5) ((tc_up (tc_up g 3 (rw_put (tc_len 3) (g 3) (g 45 2) x0)) 4 (rw_put (tc_len 4) ((tc_up g 3 (rw_put (tc_len 3) (g 3) (g 45 2) x0)) 4) ((tc_up g 3 (rw_put (tc_len 3) (g 3) (g 45 2) x0)) 45 2) x1)) 45 2) x2)) 45 2) x3)) 45 2) x4)) 45 2) + 1)) (ty := .int) (C := RX7) (T := TX7) (N := 6) hx hb hts winX7 tyX7 tyX7_ok nmX7 hown hK hP hD hS 8 rfl rfl 5 (by decide) (hts (.fieldLink RX7 32 "TapCap$Tariffs" "count" "I") (List.mem_of_getElem? (i := 2) rfl)) (fun _ h9 => h9) rfl (by decide +kernel) rfl rfl (Nat.le_of_ble_eq_true rfl) dX7_add_69 (fun H locs hP hD hS => ?_)
  have hP := tc_sP_2 hP
  have hD := tc_sD_2 hD
  have hw : fX7_add_w g x0 x1 x2 x3 x4 = tc_sc (tc_up (tc_up (tc_up (tc_up (tc_up g 3 (rw_put (tc_len 3) (g 3) (g 45 2) x0)) 4 (rw_put (tc_len 4) ((tc_up g 3 (rw_put (tc_len 3) (g 3) (g 45 2) x0)) 4) ((tc_up g 3 (rw_put (tc_len 3) (g 3) (g 45 2) x0)) 45 2) x1)) 5 (rw_put (tc_len 5) ((tc_up (tc_up g 3 (rw_put (tc_len 3) (g 3) (g 45 2) x0)) 4 (rw_put (tc_len 4) ((tc_up g 3 (rw_put (tc_len 3) (g 3) (g 45 2) x0)) 4) ((tc_up g 3 (rw_put (tc_len 3) (g 3) (g 45 2) x0)) 45 2) x1)) 5) ((tc_up (tc_up g 3 (rw_put (tc_len 3) (g 3) (g 45 2) x0)) 4 (rw_put (tc_len 4) ((tc_up g 3 (rw_put (tc_len 3) (g 3) (g 45 2) x0)) 4) ((tc_up g 3 (rw_put (tc_len 3) (g 3) (g 45 2) x0)) 45 2) x1)) 45 2) x2)) 6 (rw_put (tc_len 6) ((tc_up (tc_up (tc_up g 3 (rw_put (tc_len 3) (g 3) (g 45 2) x0)) 4 (rw_put (tc_len 4) ((tc_up g 3 (rw_put (tc_len 3) (g 3) (g 45 2) x0)) 4) ((tc_up g 3 (rw_put (tc_len 3) (g 3) (g 45 2) x0)) 45 2) x1)) 5 (rw_put (tc_len 5) ((tc_up (tc_up g 3 (rw_put (tc_len 3) (g 3) (g 45 2) x0)) 4 (rw_put (tc_len 4) ((tc_up g 3 (rw_put (tc_len 3) (g 3) (g 45 2) x0)) 4) ((tc_up g 3 (rw_put (tc_len 3) (g 3) (g 45 2) x0)) 45 2) x1)) 5) ((tc_up (tc_up g 3 (rw_put (tc_len 3) (g 3) (g 45 2) x0)) 4 (rw_put (tc_len 4) ((tc_up g 3 (rw_put (tc_len 3) (g 3) (g 45 2) x0)) 4) ((tc_up g 3 (rw_put (tc_len 3) (g 3) (g 45 2) x0)) 45 2) x1)) 45 2) x2)) 6) ((tc_up (tc_up (tc_up g 3 (rw_put (tc_len 3) (g 3) (g 45 2) x0)) 4 (rw_put (tc_len 4) ((tc_up g 3 (rw_put (tc_len 3) (g 3) (g 45 2) x0)) 4) ((tc_up g 3 (rw_put (tc_len 3) (g 3) (g 45 2) x0)) 45 2) x1)) 5 (rw_put (tc_len 5) ((tc_up (tc_up g 3 (rw_put (tc_len 3) (g 3) (g 45 2) x0)) 4 (rw_put (tc_len 4) ((tc_up g 3 (rw_put (tc_len 3) (g 3) (g 45 2) x0)) 4) ((tc_up g 3 (rw_put (tc_len 3) (g 3) (g 45 2) x0)) 45 2) x1)) 5) ((tc_up (tc_up g 3 (rw_put (tc_len 3) (g 3) (g 45 2) x0)) 4 (rw_put (tc_len 4) ((tc_up g 3 (rw_put (tc_len 3) (g 3) (g 45 2) x0)) 4) ((tc_up g 3 (rw_put (tc_len 3) (g 3) (g 45 2) x0)) 45 2) x1)) 45 2) x2)) 45 2) x3)) 7 (rw_put (tc_len 7) ((tc_up (tc_up (tc_up (tc_up g 3 (rw_put (tc_len 3) (g 3) (g 45 2) x0)) 4 (rw_put (tc_len 4) ((tc_up g 3 (rw_put (tc_len 3) (g 3) (g 45 2) x0)) 4) ((tc_up g 3 (rw_put (tc_len 3) (g 3) (g 45 2) x0)) 45 2) x1)) 5 (rw_put (tc_len 5) ((tc_up (tc_up g 3 (rw_put (tc_len 3) (g 3) (g 45 2) x0)) 4 (rw_put (tc_len 4) ((tc_up g 3 (rw_put (tc_len 3) (g 3) (g 45 2) x0)) 4) ((tc_up g 3 (rw_put (tc_len 3) (g 3) (g 45 2) x0)) 45 2) x1)) 5) ((tc_up (tc_up g 3 (rw_put (tc_len 3) (g 3) (g 45 2) x0)) 4 (rw_put (tc_len 4) ((tc_up g 3 (rw_put (tc_len 3) (g 3) (g 45 2) x0)) 4) ((tc_up g 3 (rw_put (tc_len 3) (g 3) (g 45 2) x0)) 45 2) x1)) 45 2) x2)) 6 (rw_put (tc_len 6) ((tc_up (tc_up (tc_up g 3 (rw_put (tc_len 3) (g 3) (g 45 2) x0)) 4 (rw_put (tc_len 4) ((tc_up g 3 (rw_put (tc_len 3) (g 3) (g 45 2) x0)) 4) ((tc_up g 3 (rw_put (tc_len 3) (g 3) (g 45 2) x0)) 45 2) x1)) 5 (rw_put (tc_len 5) ((tc_up (tc_up g 3 (rw_put (tc_len 3) (g 3) (g 45 2) x0)) 4 (rw_put (tc_len 4) ((tc_up g 3 (rw_put (tc_len 3) (g 3) (g 45 2) x0)) 4) ((tc_up g 3 (rw_put (tc_len 3) (g 3) (g 45 2) x0)) 45 2) x1)) 5) ((tc_up (tc_up g 3 (rw_put (tc_len 3) (g 3) (g 45 2) x0)) 4 (rw_put (tc_len 4) ((tc_up g 3 (rw_put (tc_len 3) (g 3) (g 45 2) x0)) 4) ((tc_up g 3 (rw_put (tc_len 3) (g 3) (g 45 2) x0)) 45 2) x1)) 45 2) x2)) 6) ((tc_up (tc_up (tc_up g 3 (rw_put (tc_len 3) (g 3) (g 45 2) x0)) 4 (rw_put (tc_len 4) ((tc_up g 3 (rw_put (tc_len 3) (g 3) (g 45 2) x0)) 4) ((tc_up g 3 (rw_put (tc_len 3) (g 3) (g 45 2) x0)) 45 2) x1)) 5 (rw_put (tc_len 5) ((tc_up (tc_up g 3 (rw_put (tc_len 3) (g 3) (g 45 2) x0)) 4 (rw_put (tc_len 4) ((tc_up g 3 (rw_put (tc_len 3) (g 3) (g 45 2) x0)) 4) ((tc_up g 3 (rw_put (tc_len 3) (g 3) (g 45 2) x0)) 45 2) x1)) 5) ((tc_up (tc_up g 3 (rw_put (tc_len 3) (g 3) (g 45 2) x0)) 4 (rw_put (tc_len 4) ((tc_up g 3 (rw_put (tc_len 3) (g 3) (g 45 2) x0)) 4) ((tc_up g 3 (rw_put (tc_len 3) (g 3) (g 45 2) x0)) 45 2) x1)) 45 2) x2)) 45 2) x3)) 7) ((tc_up (tc_up (tc_up (tc_up g 3 (rw_put (tc_len 3) (g 3) (g 45 2) x0)) 4 (rw_put (tc_len 4) ((tc_up g 3 (rw_put (tc_len 3) (g 3) (g 45 2) x0)) 4) ((tc_up g 3 (rw_put (tc_len 3) (g 3) (g 45 2) x0)) 45 2) x1)) 5 (rw_put (tc_len 5) ((tc_up (tc_up g 3 (rw_put (tc_len 3) (g 3) (g 45 2) x0)) 4 (rw_put (tc_len 4) ((tc_up g 3 (rw_put (tc_len 3) (g 3) (g 45 2) x0)) 4) ((tc_up g 3 (rw_put (tc_len 3) (g 3) (g 45 2) x0)) 45 2) x1)) 5) ((tc_up (tc_up g 3 (rw_put (tc_len 3) (g 3) (g 45 2) x0)) 4 (rw_put (tc_len 4) ((tc_up g 3 (rw_put (tc_len 3) (g 3) (g 45 2) x0)) 4) ((tc_up g 3 (rw_put (tc_len 3) (g 3) (g 45 2) x0)) 45 2) x1)) 45 2) x2)) 6 (rw_put (tc_len 6) ((tc_up (tc_up (tc_up g 3 (rw_put (tc_len 3) (g 3) (g 45 2) x0)) 4 (rw_put (tc_len 4) ((tc_up g 3 (rw_put (tc_len 3) (g 3) (g 45 2) x0)) 4) ((tc_up g 3 (rw_put (tc_len 3) (g 3) (g 45 2) x0)) 45 2) x1)) 5 (rw_put (tc_len 5) ((tc_up (tc_up g 3 (rw_put (tc_len 3) (g 3) (g 45 2) x0)) 4 (rw_put (tc_len 4) ((tc_up g 3 (rw_put (tc_len 3) (g 3) (g 45 2) x0)) 4) ((tc_up g 3 (rw_put (tc_len 3) (g 3) (g 45 2) x0)) 45 2) x1)) 5) ((tc_up (tc_up g 3 (rw_put (tc_len 3) (g 3) (g 45 2) x0)) 4 (rw_put (tc_len 4) ((tc_up g 3 (rw_put (tc_len 3) (g 3) (g 45 2) x0)) 4) ((tc_up g 3 (rw_put (tc_len 3) (g 3) (g 45 2) x0)) 45 2) x1)) 45 2) x2)) 6) ((tc_up (tc_up (tc_up g 3 (rw_put (tc_len 3) (g 3) (g 45 2) x0)) 4 (rw_put (tc_len 4) ((tc_up g 3 (rw_put (tc_len 3) (g 3) (g 45 2) x0)) 4) ((tc_up g 3 (rw_put (tc_len 3) (g 3) (g 45 2) x0)) 45 2) x1)) 5 (rw_put (tc_len 5) ((tc_up (tc_up g 3 (rw_put (tc_len 3) (g 3) (g 45 2) x0)) 4 (rw_put (tc_len 4) ((tc_up g 3 (rw_put (tc_len 3) (g 3) (g 45 2) x0)) 4) ((tc_up g 3 (rw_put (tc_len 3) (g 3) (g 45 2) x0)) 45 2) x1)) 5) ((tc_up (tc_up g 3 (rw_put (tc_len 3) (g 3) (g 45 2) x0)) 4 (rw_put (tc_len 4) ((tc_up g 3 (rw_put (tc_len 3) (g 3) (g 45 2) x0)) 4) ((tc_up g 3 (rw_put (tc_len 3) (g 3) (g 45 2) x0)) 45 2) x1)) 45 2) x2)) 45 2) x3)) 45 2) x4)) 2 (((tc_up (tc_up (tc_up (tc_up (tc_up g 3 (rw_put (tc_len 3) (g 3) (g 45 2) x0)) 4 (rw_put (tc_len 4) ((tc_up g 3 (rw_put (tc_len 3) (g 3) (g 45 2) x0)) 4) ((tc_up g 3 (rw_put (tc_len 3) (g 3) (g 45 2) x0)) 45 2) x1)) 5 (rw_put (tc_len 5) ((tc_up (tc_up g 3 (rw_put (tc_len 3) (g 3) (g 45 2) x0)) 4 (rw_put (tc_len 4) ((tc_up g 3 (rw_put (tc_len 3) (g 3) (g 45 2) x0)) 4) ((tc_up g 3 (rw_put (tc_len 3) (g 3) (g 45 2) x0)) 45 2) x1)) 5) ((tc_up (tc_up g 3 (rw_put (tc_len 3) (g 3) (g 45 2) x0)) 4 (rw_put (tc_len 4) ((tc_up g 3 (rw_put (tc_len 3) (g 3) (g 45 2) x0)) 4) ((tc_up g 3 (rw_put (tc_len 3) (g 3) (g 45 2) x0)) 45 2) x1)) 45 2) x2)) 6 (rw_put (tc_len 6) ((tc_up (tc_up (tc_up g 3 (rw_put (tc_len 3) (g 3) (g 45 2) x0)) 4 (rw_put (tc_len 4) ((tc_up g 3 (rw_put (tc_len 3) (g 3) (g 45 2) x0)) 4) ((tc_up g 3 (rw_put (tc_len 3) (g 3) (g 45 2) x0)) 45 2) x1)) 5 (rw_put (tc_len 5) ((tc_up (tc_up g 3 (rw_put (tc_len 3) (g 3) (g 45 2) x0)) 4 (rw_put (tc_len 4) ((tc_up g 3 (rw_put (tc_len 3) (g 3) (g 45 2) x0)) 4) ((tc_up g 3 (rw_put (tc_len 3) (g 3) (g 45 2) x0)) 45 2) x1)) 5) ((tc_up (tc_up g 3 (rw_put (tc_len 3) (g 3) (g 45 2) x0)) 4 (rw_put (tc_len 4) ((tc_up g 3 (rw_put (tc_len 3) (g 3) (g 45 2) x0)) 4) ((tc_up g 3 (rw_put (tc_len 3) (g 3) (g 45 2) x0)) 45 2) x1)) 45 2) x2)) 6) ((tc_up (tc_up (tc_up g 3 (rw_put (tc_len 3) (g 3) (g 45 2) x0)) 4 (rw_put (tc_len 4) ((tc_up g 3 (rw_put (tc_len 3) (g 3) (g 45 2) x0)) 4) ((tc_up g 3 (rw_put (tc_len 3) (g 3) (g 45 2) x0)) 45 2) x1)) 5 (rw_put (tc_len 5) ((tc_up (tc_up g 3 (rw_put (tc_len 3) (g 3) (g 45 2) x0)) 4 (rw_put (tc_len 4) ((tc_up g 3 (rw_put (tc_len 3) (g 3) (g 45 2) x0)) 4) ((tc_up g 3 (rw_put (tc_len 3) (g 3) (g 45 2) x0)) 45 2) x1)) 5) ((tc_up (tc_up g 3 (rw_put (tc_len 3) (g 3) (g 45 2) x0)) 4 (rw_put (tc_len 4) ((tc_up g 3 (rw_put (tc_len 3) (g 3) (g 45 2) x0)) 4) ((tc_up g 3 (rw_put (tc_len 3) (g 3) (g 45 2) x0)) 45 2) x1)) 45 2) x2)) 45 2) x3)) 7 (rw_put (tc_len 7) ((tc_up (tc_up (tc_up (tc_up g 3 (rw_put (tc_len 3) (g 3) (g 45 2) x0)) 4 (rw_put (tc_len 4) ((tc_up g 3 (rw_put (tc_len 3) (g 3) (g 45 2) x0)) 4) ((tc_up g 3 (rw_put (tc_len 3) (g 3) (g 45 2) x0)) 45 2) x1)) 5 (rw_put (tc_len 5) ((tc_up (tc_up g 3 (rw_put (tc_len 3) (g 3) (g 45 2) x0)) 4 (rw_put (tc_len 4) ((tc_up g 3 (rw_put (tc_len 3) (g 3) (g 45 2) x0)) 4) ((tc_up g 3 (rw_put (tc_len 3) (g 3) (g 45 2) x0)) 45 2) x1)) 5) ((tc_up (tc_up g 3 (rw_put (tc_len 3) (g 3) (g 45 2) x0)) 4 (rw_put (tc_len 4) ((tc_up g 3 (rw_put (tc_len 3) (g 3) (g 45 2) x0)) 4) ((tc_up g 3 (rw_put (tc_len 3) (g 3) (g 45 2) x0)) 45 2) x1)) 45 2) x2)) 6 (rw_put (tc_len 6) ((tc_up (tc_up (tc_up g 3 (rw_put (tc_len 3) (g 3) (g 45 2) x0)) 4 (rw_put (tc_len 4) ((tc_up g 3 (rw_put (tc_len 3) (g 3) (g 45 2) x0)) 4) ((tc_up g 3 (rw_put (tc_len 3) (g 3) (g 45 2) x0)) 45 2) x1)) 5 (rw_put (tc_len 5) ((tc_up (tc_up g 3 (rw_put (tc_len 3) (g 3) (g 45 2) x0)) 4 (rw_put (tc_len 4) ((tc_up g 3 (rw_put (tc_len 3) (g 3) (g 45 2) x0)) 4) ((tc_up g 3 (rw_put (tc_len 3) (g 3) (g 45 2) x0)) 45 2) x1)) 5) ((tc_up (tc_up g 3 (rw_put (tc_len 3) (g 3) (g 45 2) x0)) 4 (rw_put (tc_len 4) ((tc_up g 3 (rw_put (tc_len 3) (g 3) (g 45 2) x0)) 4) ((tc_up g 3 (rw_put (tc_len 3) (g 3) (g 45 2) x0)) 45 2) x1)) 45 2) x2)) 6) ((tc_up (tc_up (tc_up g 3 (rw_put (tc_len 3) (g 3) (g 45 2) x0)) 4 (rw_put (tc_len 4) ((tc_up g 3 (rw_put (tc_len 3) (g 3) (g 45 2) x0)) 4) ((tc_up g 3 (rw_put (tc_len 3) (g 3) (g 45 2) x0)) 45 2) x1)) 5 (rw_put (tc_len 5) ((tc_up (tc_up g 3 (rw_put (tc_len 3) (g 3) (g 45 2) x0)) 4 (rw_put (tc_len 4) ((tc_up g 3 (rw_put (tc_len 3) (g 3) (g 45 2) x0)) 4) ((tc_up g 3 (rw_put (tc_len 3) (g 3) (g 45 2) x0)) 45 2) x1)) 5) ((tc_up (tc_up g 3 (rw_put (tc_len 3) (g 3) (g 45 2) x0)) 4 (rw_put (tc_len 4) ((tc_up g 3 (rw_put (tc_len 3) (g 3) (g 45 2) x0)) 4) ((tc_up g 3 (rw_put (tc_len 3) (g 3) (g 45 2) x0)) 45 2) x1)) 45 2) x2)) 45 2) x3)) 7) ((tc_up (tc_up (tc_up (tc_up g 3 (rw_put (tc_len 3) (g 3) (g 45 2) x0)) 4 (rw_put (tc_len 4) ((tc_up g 3 (rw_put (tc_len 3) (g 3) (g 45 2) x0)) 4) ((tc_up g 3 (rw_put (tc_len 3) (g 3) (g 45 2) x0)) 45 2) x1)) 5 (rw_put (tc_len 5) ((tc_up (tc_up g 3 (rw_put (tc_len 3) (g 3) (g 45 2) x0)) 4 (rw_put (tc_len 4) ((tc_up g 3 (rw_put (tc_len 3) (g 3) (g 45 2) x0)) 4) ((tc_up g 3 (rw_put (tc_len 3) (g 3) (g 45 2) x0)) 45 2) x1)) 5) ((tc_up (tc_up g 3 (rw_put (tc_len 3) (g 3) (g 45 2) x0)) 4 (rw_put (tc_len 4) ((tc_up g 3 (rw_put (tc_len 3) (g 3) (g 45 2) x0)) 4) ((tc_up g 3 (rw_put (tc_len 3) (g 3) (g 45 2) x0)) 45 2) x1)) 45 2) x2)) 6 (rw_put (tc_len 6) ((tc_up (tc_up (tc_up g 3 (rw_put (tc_len 3) (g 3) (g 45 2) x0)) 4 (rw_put (tc_len 4) ((tc_up g 3 (rw_put (tc_len 3) (g 3) (g 45 2) x0)) 4) ((tc_up g 3 (rw_put (tc_len 3) (g 3) (g 45 2) x0)) 45 2) x1)) 5 (rw_put (tc_len 5) ((tc_up (tc_up g 3 (rw_put (tc_len 3) (g 3) (g 45 2) x0)) 4 (rw_put (tc_len 4) ((tc_up g 3 (rw_put (tc_len 3) (g 3) (g 45 2) x0)) 4) ((tc_up g 3 (rw_put (tc_len 3) (g 3) (g 45 2) x0)) 45 2) x1)) 5) ((tc_up (tc_up g 3 (rw_put (tc_len 3) (g 3) (g 45 2) x0)) 4 (rw_put (tc_len 4) ((tc_up g 3 (rw_put (tc_len 3) (g 3) (g 45 2) x0)) 4) ((tc_up g 3 (rw_put (tc_len 3) (g 3) (g 45 2) x0)) 45 2) x1)) 45 2) x2)) 6) ((tc_up (tc_up (tc_up g 3 (rw_put (tc_len 3) (g 3) (g 45 2) x0)) 4 (rw_put (tc_len 4) ((tc_up g 3 (rw_put (tc_len 3) (g 3) (g 45 2) x0)) 4) ((tc_up g 3 (rw_put (tc_len 3) (g 3) (g 45 2) x0)) 45 2) x1)) 5 (rw_put (tc_len 5) ((tc_up (tc_up g 3 (rw_put (tc_len 3) (g 3) (g 45 2) x0)) 4 (rw_put (tc_len 4) ((tc_up g 3 (rw_put (tc_len 3) (g 3) (g 45 2) x0)) 4) ((tc_up g 3 (rw_put (tc_len 3) (g 3) (g 45 2) x0)) 45 2) x1)) 5) ((tc_up (tc_up g 3 (rw_put (tc_len 3) (g 3) (g 45 2) x0)) 4 (rw_put (tc_len 4) ((tc_up g 3 (rw_put (tc_len 3) (g 3) (g 45 2) x0)) 4) ((tc_up g 3 (rw_put (tc_len 3) (g 3) (g 45 2) x0)) 45 2) x1)) 45 2) x2)) 45 2) x3)) 45 2) x4)) 45 2) + 1) := by rfl
  rw [hw]
  exact g_vret hx hb hr hlocks hK hP hD hS dX7_add_72
def fX0_give_r (g : Nat → Nat → Int32) : Int32 := (g 45 3)
def fX0_give_w (g : Nat → Nat → Int32) : Nat → Nat → Int32 := (tc_sc (tc_up g 9 (rw_put (tc_len 9) (g 9) (g 45 3) (g 45 3))) 3 (((tc_up g 9 (rw_put (tc_len 9) (g 9) (g 45 3) (g 45 3))) 45 3) + 1))
set_option maxHeartbeats 4000000 in
set_option maxRecDepth 100000 in
theorem kX0_give (l : Launch) (D : va_G) (ad : Nat → Nat) (cI : ClassId) (g : Nat → Nat → Int32) (sz : Nat) : Met l yX0_give wsX0_give ({ frames := 2, cells := 0, slots := 0, locals := 60 } : Room) (g_P D [(cI, .int)] (tcW ad cI g) [.ref (ad 19)] sz) (g_Qi D [(cI, .int)] (va_A (tcW ad cI g) sz) (tcW ad cI (fX0_give_w g)) (fX0_give_r g)) 0 0 (va_A (tcW ad cI g) sz) := by
  refine Met.ofW (cc := cX0_give) (maxL := 2) (ret := (some .int)) (by decide) rfl ?_
  intro p e s m args below meth c9 s₁ B hml hv
  obtain ⟨rfl, hsz, hP, hK, hD0⟩ := hv
  have hx := B.exec
  have hb := B.bytes
  have hr := B.returns
  have hts := atoms_spec (ws := wsX0_give) B.pre
  have hown : s.vm.findClass RX0 = some m.cls := findClass_of_methodNamed B.named
  have hlocks := B.notSynchronized
  subst hsz
  have hD := hD0.self (sz := s.heap.size)
  generalize hAe : va_A (tcW ad cI g) s.heap.size = A at hD ⊢
  have hA : ∀ q : Nat, s.heap.size ≤ q → A q := fun q h => by rw [← hAe]; exact Or.inr h
  have hS : va_S A s.heap s.heap [] := va_S.rf
  have hl := lv_entry ([.ref (ad 19)]) (n := 2) (Nat.le_of_ble_eq_true rfl)
  rw [lg_entry_eq]
  generalize (lg_sl ([.ref (ad 19)]) ++ List.replicate (2 - (lg_sl ([.ref (ad 19)])).length) Slot.unset).toArray = ls at hl ⊢
  have hl : lv_has ls 2 [(0, .ref (ad 19))] := hl
  have winX0 : ∀ w ∈ u_ws RX0 TX0 6, w ∈ wsX0_give := by decide +kernel
  have winX5 : ∀ w ∈ u_ws RX5 TX5 1, w ∈ wsX0_give := by decide +kernel
  refine lv_aload_n hx hb dX0_give_0 rfl (lv_at hl 0 rfl) ?_
  refine va_get (D := D) (ci := 0) (v := .int (g 45 3)) (C := RX0) (T := TX0) (N := 6) hx hb hts winX0 hown hK hP 19 rfl rfl 5 (by decide) (hts (.fieldLink RX0 32 "TapCap$Cards" "count" "I") (List.mem_of_getElem? (i := 1) rfl)) (fun _ h9 => h9) rfl dX0_give_1 ?_
  refine lv_istore_n (lv' := [(1, .int (g 45 3)), (0, .ref (ad 19))]) hx hb dX0_give_4 rfl hl (by decide) rfl (fun ls hl => ?_)
  refine lv_aload_n hx hb dX0_give_5 rfl (lv_at hl 1 rfl) ?_
  refine va_get (D := D) (ci := 0) (v := .ref (ad 22)) (C := RX0) (T := TX0) (N := 6) hx hb hts winX0 hown hK hP 19 rfl rfl 1 (by decide) (hts (.fieldLink RX0 20 "TapCap$Cards" "personOf" "LTapCap$Row;") (List.mem_of_getElem? (i := 2) rfl)) (fun _ h9 => h9) rfl dX0_give_6 ?_
  refine lv_iload_n hx hb dX0_give_9 rfl (lv_at hl 0 rfl) ?_
  refine lv_iload_n hx hb dX0_give_10 rfl (lv_at hl 0 rfl) ?_
  refine g_kv hK hD hS hA (va_runV (As := [.int (g 45 3), .int (g 45 3)]) (rest := []) ⟨hx, hb, hml, hown, hts⟩ (c_tc_put l D ad cI g s.heap.size 9 (by decide) (g 45 3) (g 45 3)) (cwV 2 hts gX0_give_X5_put rfl rfl rfl (by decide +kernel) ⟨Nat.le_of_ble_eq_true rfl, Nat.le_of_ble_eq_true rfl⟩) (g_preV hK hP hD (ci := 5) (q0 := 22) rfl rfl) rfl rfl hl.1 rfl (lv_room (Nat.le_of_ble_eq_true rfl)) dX0_give_11 ⟨Nat.le_of_ble_eq_true rfl, Nat.le_of_ble_eq_true rfl⟩) (fun H locs hP hD hS => ?_)
  refine lv_aload_n hx hb dX0_give_14 rfl (lv_at hl 1 rfl) ?_
  refine lv_dup hx hb dX0_give_15 rfl ?_
  refine va_get (D := D) (ci := 0) (v := .int ((tc_up g 9 (rw_put (tc_len 9) (g 9) (g 45 3) (g 45 3))) 45 3)) (C := RX0) (T := TX0) (N := 6) hx hb hts winX0 hown hK hP 19 rfl rfl 5 (by decide) (hts (.fieldLink RX0 32 "TapCap$Cards" "count" "I") (List.mem_of_getElem? (i := 1) rfl)) (fun _ h9 => h9) rfl dX0_give_16 ?_
  refine lv_iconst (v := 1) hx hb dX0_give_19 (by decide) ?_
  refine lv_iadd hx hb dX0_give_20 ?_
  refine va_put (D := D) (ci := 0) (v := .int (((tc_up g 9 (rw_put (tc_len 9) (g 9) (g 45 3) (g 45 3))) 45 3) + 1)) (ty := .int) (C := RX0) (T := TX0) (N := 6) hx hb hts winX0 tyX0 tyX0_ok nmX0 hown hK hP hD hS 19 rfl rfl 5 (by decide) (hts (.fieldLink RX0 32 "TapCap$Cards" "count" "I") (List.mem_of_getElem? (i := 1) rfl)) (fun _ h9 => h9) rfl (by decide +kernel) rfl rfl (Nat.le_of_ble_eq_true rfl) dX0_give_21 (fun H locs hP hD hS => ?_)
  have hP := tc_sP_3 hP
  have hD := tc_sD_3 hD
  refine lv_iload_n hx hb dX0_give_24 rfl (lv_at hl 0 rfl) ?_
  have hw : fX0_give_w g = tc_sc (tc_up g 9 (rw_put (tc_len 9) (g 9) (g 45 3) (g 45 3))) 3 (((tc_up g 9 (rw_put (tc_len 9) (g 9) (g 45 3) (g 45 3))) 45 3) + 1) := by rfl
  rw [hw]
  exact g_iret hx hb hr rfl hlocks hK hP hD hS (by rfl) dX0_give_25
set_option maxHeartbeats 4000000 in
set_option maxRecDepth 100000 in
theorem o_zone (l : Launch) (hfl : l.stackTraces = false) (D : va_G) (ad : Nat → Nat) (cI : ClassId) (sz : Nat) (x0 x1 : Int32) (sa : Nat → Nat) : vx_Met l yX8_zone wsX8_zone ({ frames := 10, cells := 2, slots := 12, locals := 300 } : Room) (h_P D [(cI, .int)] (tcW ad cI tc_0) [.ref (ad 0), .int x0, .int x1] sz sa) (o_Qi (va_A (tcW ad cI tc_0) sz) (fun r => r = 1 ∧ (in_N x0 10) ∧ (in_R x1 1 4))) (o_X (va_A (tcW ad cI tc_0) sz) (fun E => (E = ex_IX ∧ (¬ in_N x0 10)) ∨ (E = ex_IA ∧ (in_N x0 10) ∧ (¬ in_R x1 1 4)))) 2 12 (va_A (tcW ad cI tc_0) sz) := by
  refine vx_ofW (cc := cX8_zone) (maxL := 4) (ret := (some .int)) (by decide) rfl ?_
  intro p e s m args below meth c9 s₁ B hml htab hv
  obtain ⟨rfl, hE, hZ, hsz, hP, hK, hD0⟩ := hv
  have hx := B.exec
  have hb := B.bytes
  have hr := B.returns
  have hts := atoms_spec (ws := wsX8_zone) B.pre
  have hown : s.vm.findClass RX8 = some m.cls := findClass_of_methodNamed B.named
  have hlocks := B.notSynchronized
  subst hsz
  have hD := hD0.self (sz := s.heap.size)
  generalize hAe : va_A (tcW ad cI tc_0) s.heap.size = A at hD hZ ⊢
  have hA : ∀ q : Nat, s.heap.size ≤ q → A q := fun q h => by rw [← hAe]; exact Or.inr h
  have hS : va_S A s.heap s.heap [] := va_S.rf
  have hl := lv_entry ([.ref (ad 0), .int x0, .int x1]) (n := 4) (Nat.le_of_ble_eq_true rfl)
  rw [lg_entry_eq]
  generalize (lg_sl ([.ref (ad 0), .int x0, .int x1]) ++ List.replicate (4 - (lg_sl ([.ref (ad 0), .int x0, .int x1])).length) Slot.unset).toArray = ls at hl ⊢
  have hl : lv_has ls 4 [(0, .ref (ad 0)), (1, .int x0), (2, .int x1)] := hl
  have winX4 : ∀ w ∈ u_ws RX4 TX4 3, w ∈ wsX8_zone := by decide +kernel
  have winX5 : ∀ w ∈ u_ws RX5 TX5 1, w ∈ wsX8_zone := by decide +kernel
  have winX8 : ∀ w ∈ u_ws RX8 TX8 9, w ∈ wsX8_zone := by decide +kernel
  refine lv_iload_n hx hb dX8_zone_0 rfl (lv_at hl 1 rfl) ?_
  refine lv_bipush (v := 10) hx hb dX8_zone_1 (by decide) ?_
  refine h_kv hK hD hS hA (vx_runS (As := [.int x0, .int 10]) (rest := []) ⟨hx, hb, hml, hown, hts⟩ (h_needNumber l hfl D [(cI, .int)] (tcW ad cI tc_0) s.heap.size x0 10 sa) (cwS 2 hts gX8_zone_X8_needNumber rfl rfl rfl (by decide +kernel) ⟨Nat.le_of_ble_eq_true rfl, Nat.le_of_ble_eq_true rfl⟩) (h_preS hE hZ hK hP hD hS hA) rfl rfl hl.1 rfl (lv_room (Nat.le_of_ble_eq_true rfl)) dX8_zone_3 ⟨Nat.le_of_ble_eq_true rfl, Nat.le_of_ble_eq_true rfl⟩) (fun E ce q9 H locs hex hP hD hS hce hcv hcl => ?_) (fun H locs ok_15 hP hD hS => ?_)
  · exact o_out htab hlocks hS hce hcv hcl (Or.inl (⟨hex.1, hex.2⟩)) (Nat.le_of_ble_eq_true rfl) (Nat.le_of_ble_eq_true rfl)
  refine lv_iload_n hx hb dX8_zone_6 rfl (lv_at hl 2 rfl) ?_
  refine lv_iconst (v := 1) hx hb dX8_zone_7 (by decide) ?_
  refine lv_iconst (v := 4) hx hb dX8_zone_8 (by decide) ?_
  refine h_kv hK hD hS hA (vx_runS (As := [.int x1, .int 1, .int 4]) (rest := []) ⟨hx, hb, hml, hown, hts⟩ (h_needRange l hfl D [(cI, .int)] (tcW ad cI tc_0) H.size x1 1 4 sa) (cwS 3 hts gX8_zone_X8_needRange rfl rfl rfl (by decide +kernel) ⟨Nat.le_of_ble_eq_true rfl, Nat.le_of_ble_eq_true rfl⟩) (h_preS hE hZ hK hP hD hS hA) rfl rfl hl.1 rfl (lv_room (Nat.le_of_ble_eq_true rfl)) dX8_zone_9 ⟨Nat.le_of_ble_eq_true rfl, Nat.le_of_ble_eq_true rfl⟩) (fun E ce q9 H locs hex hP hD hS hce hcv hcl => ?_) (fun H locs ok_16 hP hD hS => ?_)
  · exact o_out htab hlocks hS hce hcv hcl (Or.inr (⟨hex.1, ok_15, hex.2⟩)) (Nat.le_of_ble_eq_true rfl) (Nat.le_of_ble_eq_true rfl)
  refine lv_aload_n hx hb dX8_zone_12 rfl (lv_at hl 0 rfl) ?_
  refine va_get (D := D) (ci := 8) (v := .ref (ad 1)) (C := RX8) (T := TX8) (N := 9) hx hb hts winX8 hown hK hP 0 rfl rfl 0 (by decide) (hts (.fieldLink RX8 12 "TapCap" "region" "LTapCap$Region;") (List.mem_of_getElem? (i := 1) rfl)) (fun _ h9 => h9) rfl dX8_zone_13 ?_
  refine va_get (D := D) (ci := 4) (v := .ref (ad 2)) (C := RX4) (T := TX4) (N := 3) hx hb hts winX4 hown hK hP 1 rfl rfl 0 (by decide) (hts (.fieldLink RX8 73 "TapCap$Region" "zoneOf" "LTapCap$Row;") (List.mem_of_getElem? (i := 2) rfl)) (fun _ h9 => h9) rfl dX8_zone_16 ?_
  refine lv_iload_n hx hb dX8_zone_19 rfl (lv_at hl 1 rfl) ?_
  refine g_ki hK hD hS hA (va_runV (As := [.int x0]) (rest := []) ⟨hx, hb, hml, hown, hts⟩ (c_tc_at l D ad cI tc_0 H.size 0 (by decide) x0) (cwV 1 hts gX8_zone_X5_at rfl rfl rfl (by decide +kernel) ⟨Nat.le_of_ble_eq_true rfl, Nat.le_of_ble_eq_true rfl⟩) (g_preV hK hP hD (ci := 5) (q0 := 2) rfl rfl) rfl rfl hl.1 rfl (lv_room (Nat.le_of_ble_eq_true rfl)) dX8_zone_20 ⟨Nat.le_of_ble_eq_true rfl, Nat.le_of_ble_eq_true rfl⟩) (fun H locs hP hD hS => ?_)
  refine lv_istore_n (lv' := [(3, .int (rw_at (tc_len 0) (tc_0 0) x0)), (0, .ref (ad 0)), (1, .int x0), (2, .int x1)]) hx hb dX8_zone_23 rfl hl (by decide) rfl (fun ls hl => ?_)
  refine lv_aload_n hx hb dX8_zone_24 rfl (lv_at hl 1 rfl) ?_
  refine va_get (D := D) (ci := 8) (v := .ref (ad 1)) (C := RX8) (T := TX8) (N := 9) hx hb hts winX8 hown hK hP 0 rfl rfl 0 (by decide) (hts (.fieldLink RX8 12 "TapCap" "region" "LTapCap$Region;") (List.mem_of_getElem? (i := 1) rfl)) (fun _ h9 => h9) rfl dX8_zone_25 ?_
  refine va_get (D := D) (ci := 4) (v := .ref (ad 2)) (C := RX4) (T := TX4) (N := 3) hx hb hts winX4 hown hK hP 1 rfl rfl 0 (by decide) (hts (.fieldLink RX8 73 "TapCap$Region" "zoneOf" "LTapCap$Row;") (List.mem_of_getElem? (i := 2) rfl)) (fun _ h9 => h9) rfl dX8_zone_28 ?_
  refine lv_iload_n hx hb dX8_zone_31 rfl (lv_at hl 2 rfl) ?_
  refine lv_iload_n hx hb dX8_zone_32 rfl (lv_at hl 3 rfl) ?_
  refine g_kv hK hD hS hA (va_runV (As := [.int x0, .int x1]) (rest := []) ⟨hx, hb, hml, hown, hts⟩ (c_tc_put l D ad cI tc_0 H.size 0 (by decide) x0 x1) (cwV 2 hts gX8_zone_X5_put rfl rfl rfl (by decide +kernel) ⟨Nat.le_of_ble_eq_true rfl, Nat.le_of_ble_eq_true rfl⟩) (g_preV hK hP hD (ci := 5) (q0 := 2) rfl rfl) rfl rfl hl.1 rfl (lv_room (Nat.le_of_ble_eq_true rfl)) dX8_zone_33 ⟨Nat.le_of_ble_eq_true rfl, Nat.le_of_ble_eq_true rfl⟩) (fun H locs hP hD hS => ?_)
  refine lv_iload_n hx hb dX8_zone_36 rfl (lv_at hl 0 rfl) ?_
  refine o_iret ?_ hx hb hr (by first | rfl | exact narrow_z0 | exact narrow_z1) hlocks hS dX8_zone_37 (Nat.le_of_ble_eq_true rfl) (Nat.le_of_ble_eq_true rfl)
  exact ⟨zone_0 ok_15, ok_15, ok_16⟩
set_option maxHeartbeats 4000000 in
set_option maxRecDepth 100000 in
theorem o_carrier (l : Launch) (hfl : l.stackTraces = false) (D : va_G) (ad : Nat → Nat) (cI : ClassId) (sz : Nat) (x0 x1 : Int32) (sa : Nat → Nat) : vx_Met l yX8_carrier wsX8_carrier ({ frames := 10, cells := 2, slots := 12, locals := 300 } : Room) (h_P D [(cI, .int)] (tcW ad cI tc_0) [.ref (ad 0), .int x0, .int x1] sz sa) (o_Qi (va_A (tcW ad cI tc_0) sz) (fun r => r = 0 ∧ (in_N x0 6) ∧ (in_N x1 3))) (o_X (va_A (tcW ad cI tc_0) sz) (fun E => (E = ex_IX ∧ (¬ in_N x0 6)) ∨ (E = ex_IX ∧ (in_N x0 6) ∧ (¬ in_N x1 3)))) 2 12 (va_A (tcW ad cI tc_0) sz) := by
  refine vx_ofW (cc := cX8_carrier) (maxL := 4) (ret := (some .int)) (by decide) rfl ?_
  intro p e s m args below meth c9 s₁ B hml htab hv
  obtain ⟨rfl, hE, hZ, hsz, hP, hK, hD0⟩ := hv
  have hx := B.exec
  have hb := B.bytes
  have hr := B.returns
  have hts := atoms_spec (ws := wsX8_carrier) B.pre
  have hown : s.vm.findClass RX8 = some m.cls := findClass_of_methodNamed B.named
  have hlocks := B.notSynchronized
  subst hsz
  have hD := hD0.self (sz := s.heap.size)
  generalize hAe : va_A (tcW ad cI tc_0) s.heap.size = A at hD hZ ⊢
  have hA : ∀ q : Nat, s.heap.size ≤ q → A q := fun q h => by rw [← hAe]; exact Or.inr h
  have hS : va_S A s.heap s.heap [] := va_S.rf
  have hl := lv_entry ([.ref (ad 0), .int x0, .int x1]) (n := 4) (Nat.le_of_ble_eq_true rfl)
  rw [lg_entry_eq]
  generalize (lg_sl ([.ref (ad 0), .int x0, .int x1]) ++ List.replicate (4 - (lg_sl ([.ref (ad 0), .int x0, .int x1])).length) Slot.unset).toArray = ls at hl ⊢
  have hl : lv_has ls 4 [(0, .ref (ad 0)), (1, .int x0), (2, .int x1)] := hl
  have winX4 : ∀ w ∈ u_ws RX4 TX4 3, w ∈ wsX8_carrier := by decide +kernel
  have winX5 : ∀ w ∈ u_ws RX5 TX5 1, w ∈ wsX8_carrier := by decide +kernel
  have winX8 : ∀ w ∈ u_ws RX8 TX8 9, w ∈ wsX8_carrier := by decide +kernel
  refine lv_iload_n hx hb dX8_carrier_0 rfl (lv_at hl 1 rfl) ?_
  refine lv_bipush (v := 6) hx hb dX8_carrier_1 (by decide) ?_
  refine h_kv hK hD hS hA (vx_runS (As := [.int x0, .int 6]) (rest := []) ⟨hx, hb, hml, hown, hts⟩ (h_needNumber l hfl D [(cI, .int)] (tcW ad cI tc_0) s.heap.size x0 6 sa) (cwS 2 hts gX8_carrier_X8_needNumber rfl rfl rfl (by decide +kernel) ⟨Nat.le_of_ble_eq_true rfl, Nat.le_of_ble_eq_true rfl⟩) (h_preS hE hZ hK hP hD hS hA) rfl rfl hl.1 rfl (lv_room (Nat.le_of_ble_eq_true rfl)) dX8_carrier_3 ⟨Nat.le_of_ble_eq_true rfl, Nat.le_of_ble_eq_true rfl⟩) (fun E ce q9 H locs hex hP hD hS hce hcv hcl => ?_) (fun H locs ok_17 hP hD hS => ?_)
  · exact o_out htab hlocks hS hce hcv hcl (Or.inl (⟨hex.1, hex.2⟩)) (Nat.le_of_ble_eq_true rfl) (Nat.le_of_ble_eq_true rfl)
  refine lv_iload_n hx hb dX8_carrier_6 rfl (lv_at hl 2 rfl) ?_
  refine lv_iconst (v := 3) hx hb dX8_carrier_7 (by decide) ?_
  refine h_kv hK hD hS hA (vx_runS (As := [.int x1, .int 3]) (rest := []) ⟨hx, hb, hml, hown, hts⟩ (h_needNumber l hfl D [(cI, .int)] (tcW ad cI tc_0) H.size x1 3 sa) (cwS 2 hts gX8_carrier_X8_needNumber rfl rfl rfl (by decide +kernel) ⟨Nat.le_of_ble_eq_true rfl, Nat.le_of_ble_eq_true rfl⟩) (h_preS hE hZ hK hP hD hS hA) rfl rfl hl.1 rfl (lv_room (Nat.le_of_ble_eq_true rfl)) dX8_carrier_8 ⟨Nat.le_of_ble_eq_true rfl, Nat.le_of_ble_eq_true rfl⟩) (fun E ce q9 H locs hex hP hD hS hce hcv hcl => ?_) (fun H locs ok_18 hP hD hS => ?_)
  · exact o_out htab hlocks hS hce hcv hcl (Or.inr (⟨hex.1, ok_17, hex.2⟩)) (Nat.le_of_ble_eq_true rfl) (Nat.le_of_ble_eq_true rfl)
  refine lv_aload_n hx hb dX8_carrier_11 rfl (lv_at hl 0 rfl) ?_
  refine va_get (D := D) (ci := 8) (v := .ref (ad 1)) (C := RX8) (T := TX8) (N := 9) hx hb hts winX8 hown hK hP 0 rfl rfl 0 (by decide) (hts (.fieldLink RX8 12 "TapCap" "region" "LTapCap$Region;") (List.mem_of_getElem? (i := 1) rfl)) (fun _ h9 => h9) rfl dX8_carrier_12 ?_
  refine va_get (D := D) (ci := 4) (v := .ref (ad 4)) (C := RX4) (T := TX4) (N := 3) hx hb hts winX4 hown hK hP 1 rfl rfl 1 (by decide) (hts (.fieldLink RX8 86 "TapCap$Region" "carrierOf" "LTapCap$Row;") (List.mem_of_getElem? (i := 2) rfl)) (fun _ h9 => h9) rfl dX8_carrier_15 ?_
  refine lv_iload_n hx hb dX8_carrier_18 rfl (lv_at hl 1 rfl) ?_
  refine g_ki hK hD hS hA (va_runV (As := [.int x0]) (rest := []) ⟨hx, hb, hml, hown, hts⟩ (c_tc_at l D ad cI tc_0 H.size 1 (by decide) x0) (cwV 1 hts gX8_carrier_X5_at rfl rfl rfl (by decide +kernel) ⟨Nat.le_of_ble_eq_true rfl, Nat.le_of_ble_eq_true rfl⟩) (g_preV hK hP hD (ci := 5) (q0 := 4) rfl rfl) rfl rfl hl.1 rfl (lv_room (Nat.le_of_ble_eq_true rfl)) dX8_carrier_19 ⟨Nat.le_of_ble_eq_true rfl, Nat.le_of_ble_eq_true rfl⟩) (fun H locs hP hD hS => ?_)
  refine lv_istore_n (lv' := [(3, .int (rw_at (tc_len 1) (tc_0 1) x0)), (0, .ref (ad 0)), (1, .int x0), (2, .int x1)]) hx hb dX8_carrier_22 rfl hl (by decide) rfl (fun ls hl => ?_)
  refine lv_aload_n hx hb dX8_carrier_23 rfl (lv_at hl 1 rfl) ?_
  refine va_get (D := D) (ci := 8) (v := .ref (ad 1)) (C := RX8) (T := TX8) (N := 9) hx hb hts winX8 hown hK hP 0 rfl rfl 0 (by decide) (hts (.fieldLink RX8 12 "TapCap" "region" "LTapCap$Region;") (List.mem_of_getElem? (i := 1) rfl)) (fun _ h9 => h9) rfl dX8_carrier_24 ?_
  refine va_get (D := D) (ci := 4) (v := .ref (ad 4)) (C := RX4) (T := TX4) (N := 3) hx hb hts winX4 hown hK hP 1 rfl rfl 1 (by decide) (hts (.fieldLink RX8 86 "TapCap$Region" "carrierOf" "LTapCap$Row;") (List.mem_of_getElem? (i := 2) rfl)) (fun _ h9 => h9) rfl dX8_carrier_27 ?_
  refine lv_iload_n hx hb dX8_carrier_30 rfl (lv_at hl 2 rfl) ?_
  refine lv_iload_n hx hb dX8_carrier_31 rfl (lv_at hl 3 rfl) ?_
  refine g_kv hK hD hS hA (va_runV (As := [.int x0, .int x1]) (rest := []) ⟨hx, hb, hml, hown, hts⟩ (c_tc_put l D ad cI tc_0 H.size 1 (by decide) x0 x1) (cwV 2 hts gX8_carrier_X5_put rfl rfl rfl (by decide +kernel) ⟨Nat.le_of_ble_eq_true rfl, Nat.le_of_ble_eq_true rfl⟩) (g_preV hK hP hD (ci := 5) (q0 := 4) rfl rfl) rfl rfl hl.1 rfl (lv_room (Nat.le_of_ble_eq_true rfl)) dX8_carrier_32 ⟨Nat.le_of_ble_eq_true rfl, Nat.le_of_ble_eq_true rfl⟩) (fun H locs hP hD hS => ?_)
  refine lv_iload_n hx hb dX8_carrier_35 rfl (lv_at hl 0 rfl) ?_
  refine o_iret ?_ hx hb hr (by first | rfl | exact narrow_z0 | exact narrow_z1) hlocks hS dX8_carrier_36 (Nat.le_of_ble_eq_true rfl) (Nat.le_of_ble_eq_true rfl)
  exact ⟨rw_at_0, ok_17, ok_18⟩
set_option maxHeartbeats 4000000 in
set_option maxRecDepth 100000 in
theorem o_tariff (l : Launch) (hfl : l.stackTraces = false) (D : va_G) (ad : Nat → Nat) (cI : ClassId) (sz : Nat) (x0 x1 x2 x3 x4 : Int32) (sa : Nat → Nat) : vx_Met l yX8_tariff wsX8_tariff ({ frames := 10, cells := 5, slots := 30, locals := 300 } : Room) (h_P D [(cI, .int)] (tcW ad cI tc_0) [.ref (ad 0), .int x0, .int x1, .int x2, .int x3, .int x4] sz sa) (o_Qi (va_A (tcW ad cI tc_0) sz) (fun r => r = 2 ∧ (in_R x0 0 27) ∧ (in_R x1 1 9) ∧ (in_R x2 0 5) ∧ (in_R x3 1 50) ∧ (in_R x4 1 200))) (o_X (va_A (tcW ad cI tc_0) sz) (fun E => (E = ex_IA ∧ (¬ in_R x0 0 27)) ∨ (E = ex_IA ∧ (in_R x0 0 27) ∧ (¬ in_R x1 1 9)) ∨ (E = ex_IA ∧ (in_R x0 0 27) ∧ (in_R x1 1 9) ∧ (¬ in_R x2 0 5)) ∨ (E = ex_IA ∧ (in_R x0 0 27) ∧ (in_R x1 1 9) ∧ (in_R x2 0 5) ∧ (¬ in_R x3 1 50)) ∨ (E = ex_IA ∧ (in_R x0 0 27) ∧ (in_R x1 1 9) ∧ (in_R x2 0 5) ∧ (in_R x3 1 50) ∧ (¬ in_R x4 1 200)))) 5 30 (va_A (tcW ad cI tc_0) sz) := by
  refine vx_ofW (cc := cX8_tariff) (maxL := 6) (ret := (some .int)) (by decide) rfl ?_
  intro p e s m args below meth c9 s₁ B hml htab hv
  obtain ⟨rfl, hE, hZ, hsz, hP, hK, hD0⟩ := hv
  have hx := B.exec
  have hb := B.bytes
  have hr := B.returns
  have hts := atoms_spec (ws := wsX8_tariff) B.pre
  have hown : s.vm.findClass RX8 = some m.cls := findClass_of_methodNamed B.named
  have hlocks := B.notSynchronized
  subst hsz
  have hD := hD0.self (sz := s.heap.size)
  generalize hAe : va_A (tcW ad cI tc_0) s.heap.size = A at hD hZ ⊢
  have hA : ∀ q : Nat, s.heap.size ≤ q → A q := fun q h => by rw [← hAe]; exact Or.inr h
  have hS : va_S A s.heap s.heap [] := va_S.rf
  have hl := lv_entry ([.ref (ad 0), .int x0, .int x1, .int x2, .int x3, .int x4]) (n := 6) (Nat.le_of_ble_eq_true rfl)
  rw [lg_entry_eq]
  generalize (lg_sl ([.ref (ad 0), .int x0, .int x1, .int x2, .int x3, .int x4]) ++ List.replicate (6 - (lg_sl ([.ref (ad 0), .int x0, .int x1, .int x2, .int x3, .int x4])).length) Slot.unset).toArray = ls at hl ⊢
  have hl : lv_has ls 6 [(0, .ref (ad 0)), (1, .int x0), (2, .int x1), (3, .int x2), (4, .int x3), (5, .int x4)] := hl
  have winX5 : ∀ w ∈ u_ws RX5 TX5 1, w ∈ wsX8_tariff := by decide +kernel
  have winX7 : ∀ w ∈ u_ws RX7 TX7 6, w ∈ wsX8_tariff := by decide +kernel
  have winX8 : ∀ w ∈ u_ws RX8 TX8 9, w ∈ wsX8_tariff := by decide +kernel
  refine lv_iload_n hx hb dX8_tariff_0 rfl (lv_at hl 1 rfl) ?_
  refine lv_iconst (v := 0) hx hb dX8_tariff_1 (by decide) ?_
  refine lv_bipush (v := 27) hx hb dX8_tariff_2 (by decide) ?_
  refine h_kv hK hD hS hA (vx_runS (As := [.int x0, .int 0, .int 27]) (rest := []) ⟨hx, hb, hml, hown, hts⟩ (h_needRange l hfl D [(cI, .int)] (tcW ad cI tc_0) s.heap.size x0 0 27 sa) (cwS 3 hts gX8_tariff_X8_needRange rfl rfl rfl (by decide +kernel) ⟨Nat.le_of_ble_eq_true rfl, Nat.le_of_ble_eq_true rfl⟩) (h_preS hE hZ hK hP hD hS hA) rfl rfl hl.1 rfl (lv_room (Nat.le_of_ble_eq_true rfl)) dX8_tariff_4 ⟨Nat.le_of_ble_eq_true rfl, Nat.le_of_ble_eq_true rfl⟩) (fun E ce q9 H locs hex hP hD hS hce hcv hcl => ?_) (fun H locs ok_19 hP hD hS => ?_)
  · exact o_out htab hlocks hS hce hcv hcl (Or.inl (⟨hex.1, hex.2⟩)) (Nat.le_of_ble_eq_true rfl) (Nat.le_of_ble_eq_true rfl)
  refine lv_iload_n hx hb dX8_tariff_7 rfl (lv_at hl 2 rfl) ?_
  refine lv_iconst (v := 1) hx hb dX8_tariff_8 (by decide) ?_
  refine lv_bipush (v := 9) hx hb dX8_tariff_9 (by decide) ?_
  refine h_kv hK hD hS hA (vx_runS (As := [.int x1, .int 1, .int 9]) (rest := []) ⟨hx, hb, hml, hown, hts⟩ (h_needRange l hfl D [(cI, .int)] (tcW ad cI tc_0) H.size x1 1 9 sa) (cwS 3 hts gX8_tariff_X8_needRange rfl rfl rfl (by decide +kernel) ⟨Nat.le_of_ble_eq_true rfl, Nat.le_of_ble_eq_true rfl⟩) (h_preS hE hZ hK hP hD hS hA) rfl rfl hl.1 rfl (lv_room (Nat.le_of_ble_eq_true rfl)) dX8_tariff_11 ⟨Nat.le_of_ble_eq_true rfl, Nat.le_of_ble_eq_true rfl⟩) (fun E ce q9 H locs hex hP hD hS hce hcv hcl => ?_) (fun H locs ok_20 hP hD hS => ?_)
  · exact o_out htab hlocks hS hce hcv hcl (Or.inr (Or.inl (⟨hex.1, ok_19, hex.2⟩))) (Nat.le_of_ble_eq_true rfl) (Nat.le_of_ble_eq_true rfl)
  refine lv_iload_n hx hb dX8_tariff_14 rfl (lv_at hl 3 rfl) ?_
  refine lv_iconst (v := 0) hx hb dX8_tariff_15 (by decide) ?_
  refine lv_iconst (v := 5) hx hb dX8_tariff_16 (by decide) ?_
  refine h_kv hK hD hS hA (vx_runS (As := [.int x2, .int 0, .int 5]) (rest := []) ⟨hx, hb, hml, hown, hts⟩ (h_needRange l hfl D [(cI, .int)] (tcW ad cI tc_0) H.size x2 0 5 sa) (cwS 3 hts gX8_tariff_X8_needRange rfl rfl rfl (by decide +kernel) ⟨Nat.le_of_ble_eq_true rfl, Nat.le_of_ble_eq_true rfl⟩) (h_preS hE hZ hK hP hD hS hA) rfl rfl hl.1 rfl (lv_room (Nat.le_of_ble_eq_true rfl)) dX8_tariff_17 ⟨Nat.le_of_ble_eq_true rfl, Nat.le_of_ble_eq_true rfl⟩) (fun E ce q9 H locs hex hP hD hS hce hcv hcl => ?_) (fun H locs ok_21 hP hD hS => ?_)
  · exact o_out htab hlocks hS hce hcv hcl (Or.inr (Or.inr (Or.inl (⟨hex.1, ok_19, ok_20, hex.2⟩)))) (Nat.le_of_ble_eq_true rfl) (Nat.le_of_ble_eq_true rfl)
  refine lv_iload hx hb dX8_tariff_20 (lv_at hl 4 rfl) ?_
  refine lv_iconst (v := 1) hx hb dX8_tariff_22 (by decide) ?_
  refine lv_bipush (v := 50) hx hb dX8_tariff_23 (by decide) ?_
  refine h_kv hK hD hS hA (vx_runS (As := [.int x3, .int 1, .int 50]) (rest := []) ⟨hx, hb, hml, hown, hts⟩ (h_needRange l hfl D [(cI, .int)] (tcW ad cI tc_0) H.size x3 1 50 sa) (cwS 3 hts gX8_tariff_X8_needRange rfl rfl rfl (by decide +kernel) ⟨Nat.le_of_ble_eq_true rfl, Nat.le_of_ble_eq_true rfl⟩) (h_preS hE hZ hK hP hD hS hA) rfl rfl hl.1 rfl (lv_room (Nat.le_of_ble_eq_true rfl)) dX8_tariff_25 ⟨Nat.le_of_ble_eq_true rfl, Nat.le_of_ble_eq_true rfl⟩) (fun E ce q9 H locs hex hP hD hS hce hcv hcl => ?_) (fun H locs ok_22 hP hD hS => ?_)
  · exact o_out htab hlocks hS hce hcv hcl (Or.inr (Or.inr (Or.inr (Or.inl (⟨hex.1, ok_19, ok_20, ok_21, hex.2⟩))))) (Nat.le_of_ble_eq_true rfl) (Nat.le_of_ble_eq_true rfl)
  refine lv_iload hx hb dX8_tariff_28 (lv_at hl 5 rfl) ?_
  refine lv_iconst (v := 1) hx hb dX8_tariff_30 (by decide) ?_
  refine lv_sipush (v := 200) hx hb dX8_tariff_31 (by decide) ?_
  refine h_kv hK hD hS hA (vx_runS (As := [.int x4, .int 1, .int 200]) (rest := []) ⟨hx, hb, hml, hown, hts⟩ (h_needRange l hfl D [(cI, .int)] (tcW ad cI tc_0) H.size x4 1 200 sa) (cwS 3 hts gX8_tariff_X8_needRange rfl rfl rfl (by decide +kernel) ⟨Nat.le_of_ble_eq_true rfl, Nat.le_of_ble_eq_true rfl⟩) (h_preS hE hZ hK hP hD hS hA) rfl rfl hl.1 rfl (lv_room (Nat.le_of_ble_eq_true rfl)) dX8_tariff_34 ⟨Nat.le_of_ble_eq_true rfl, Nat.le_of_ble_eq_true rfl⟩) (fun E ce q9 H locs hex hP hD hS hce hcv hcl => ?_) (fun H locs ok_23 hP hD hS => ?_)
  · exact o_out htab hlocks hS hce hcv hcl (Or.inr (Or.inr (Or.inr (Or.inr (⟨hex.1, ok_19, ok_20, ok_21, ok_22, hex.2⟩))))) (Nat.le_of_ble_eq_true rfl) (Nat.le_of_ble_eq_true rfl)
  refine lv_aload_n hx hb dX8_tariff_37 rfl (lv_at hl 0 rfl) ?_
  refine va_get (D := D) (ci := 8) (v := .ref (ad 8)) (C := RX8) (T := TX8) (N := 9) hx hb hts winX8 hown hK hP 0 rfl rfl 1 (by decide) (hts (.fieldLink RX8 19 "TapCap" "tariffs" "LTapCap$Tariffs;") (List.mem_of_getElem? (i := 1) rfl)) (fun _ h9 => h9) rfl dX8_tariff_38 ?_
  refine va_get (D := D) (ci := 7) (v := .int (tc_0 45 2)) (C := RX7) (T := TX7) (N := 6) hx hb hts winX7 hown hK hP 8 rfl rfl 5 (by decide) (hts (.fieldLink RX8 89 "TapCap$Tariffs" "count" "I") (List.mem_of_getElem? (i := 2) rfl)) (fun _ h9 => h9) rfl dX8_tariff_41 ?_
  refine lv_bipush (v := 6) hx hb dX8_tariff_44 (by decide) ?_
  refine lv_icmp_ge (tgt := 57) hx hb dX8_tariff_46 (by decide) (fun c_24 => ?_) (fun c_24 => ?_)
  · exact absurd c_24 (by decide)
  · refine lv_iload_n hx hb dX8_tariff_49 rfl (lv_at hl 1 rfl) ?_
    refine lv_aload_n hx hb dX8_tariff_50 rfl (lv_at hl 0 rfl) ?_
    refine va_get (D := D) (ci := 8) (v := .int (tc_0 45 0)) (C := RX8) (T := TX8) (N := 9) hx hb hts winX8 hown hK hP 0 rfl rfl 7 (by decide) (hts (.fieldLink RX8 58 "TapCap" "closedDays" "I") (List.mem_of_getElem? (i := 3) rfl)) (fun _ h9 => h9) rfl dX8_tariff_51 ?_
    refine lv_icmp_ge (tgt := 67) hx hb dX8_tariff_54 (by decide) (fun c_25 => ?_) (fun c_25 => ?_)
    · refine lv_aload_n hx hb dX8_tariff_67 rfl (lv_at hl 0 rfl) ?_
      refine va_get (D := D) (ci := 8) (v := .ref (ad 8)) (C := RX8) (T := TX8) (N := 9) hx hb hts winX8 hown hK hP 0 rfl rfl 1 (by decide) (hts (.fieldLink RX8 19 "TapCap" "tariffs" "LTapCap$Tariffs;") (List.mem_of_getElem? (i := 1) rfl)) (fun _ h9 => h9) rfl dX8_tariff_68 ?_
      refine lv_iload_n hx hb dX8_tariff_71 rfl (lv_at hl 1 rfl) ?_
      refine lv_iload_n hx hb dX8_tariff_72 rfl (lv_at hl 2 rfl) ?_
      refine lv_iload_n hx hb dX8_tariff_73 rfl (lv_at hl 3 rfl) ?_
      refine lv_iload hx hb dX8_tariff_74 (lv_at hl 4 rfl) ?_
      refine lv_iload hx hb dX8_tariff_76 (lv_at hl 5 rfl) ?_
      refine g_kv hK hD hS hA (va_runV (As := [.int x0, .int x1, .int x2, .int x3, .int x4]) (rest := []) ⟨hx, hb, hml, hown, hts⟩ (kX7_add l D ad cI tc_0 H.size x0 x1 x2 x3 x4) (cwV 5 hts gX8_tariff_X7_add rfl rfl rfl (by decide +kernel) ⟨Nat.le_of_ble_eq_true rfl, Nat.le_of_ble_eq_true rfl⟩) (g_preV hK hP hD (ci := 7) (q0 := 8) rfl rfl) rfl rfl hl.1 rfl (lv_room (Nat.le_of_ble_eq_true rfl)) dX8_tariff_78 ⟨Nat.le_of_ble_eq_true rfl, Nat.le_of_ble_eq_true rfl⟩) (fun H locs hP hD hS => ?_)
      refine lv_aload_n hx hb dX8_tariff_81 rfl (lv_at hl 0 rfl) ?_
      refine va_get (D := D) (ci := 8) (v := .ref (ad 8)) (C := RX8) (T := TX8) (N := 9) hx hb hts winX8 hown hK hP 0 rfl rfl 1 (by decide) (hts (.fieldLink RX8 19 "TapCap" "tariffs" "LTapCap$Tariffs;") (List.mem_of_getElem? (i := 1) rfl)) (fun _ h9 => h9) rfl dX8_tariff_82 ?_
      refine va_get (D := D) (ci := 7) (v := .int ((fX7_add_w tc_0 x0 x1 x2 x3 x4) 45 2)) (C := RX7) (T := TX7) (N := 6) hx hb hts winX7 hown hK hP 8 rfl rfl 5 (by decide) (hts (.fieldLink RX8 89 "TapCap$Tariffs" "count" "I") (List.mem_of_getElem? (i := 2) rfl)) (fun _ h9 => h9) rfl dX8_tariff_85 ?_
      refine o_iret ?_ hx hb hr (by first | rfl | exact narrow_z0 | exact narrow_z1) hlocks hS dX8_tariff_88 (Nat.le_of_ble_eq_true rfl) (Nat.le_of_ble_eq_true rfl)
      exact ⟨by rfl, ok_19, ok_20, ok_21, ok_22, ok_23⟩
    · exact absurd (day_open ok_19.1) c_25
set_option maxHeartbeats 4000000 in
set_option maxRecDepth 100000 in
theorem o_card (l : Launch) (hfl : l.stackTraces = false) (D : va_G) (ad : Nat → Nat) (cI : ClassId) (sz : Nat) (sa : Nat → Nat) : vx_Met l yX8_card wsX8_card ({ frames := 10, cells := 0, slots := 0, locals := 300 } : Room) (h_P D [(cI, .int)] (tcW ad cI tc_0) [.ref (ad 0)] sz sa) (o_Qi (va_A (tcW ad cI tc_0) sz) (fun r => r = 0 ∧ True)) (o_X (va_A (tcW ad cI tc_0) sz) (fun _ => False)) 0 0 (va_A (tcW ad cI tc_0) sz) := by
  refine vx_ofW (cc := cX8_card) (maxL := 1) (ret := (some .int)) (by decide) rfl ?_
  intro p e s m args below meth c9 s₁ B hml htab hv
  obtain ⟨rfl, hE, hZ, hsz, hP, hK, hD0⟩ := hv
  have hx := B.exec
  have hb := B.bytes
  have hr := B.returns
  have hts := atoms_spec (ws := wsX8_card) B.pre
  have hown : s.vm.findClass RX8 = some m.cls := findClass_of_methodNamed B.named
  have hlocks := B.notSynchronized
  subst hsz
  have hD := hD0.self (sz := s.heap.size)
  generalize hAe : va_A (tcW ad cI tc_0) s.heap.size = A at hD hZ ⊢
  have hA : ∀ q : Nat, s.heap.size ≤ q → A q := fun q h => by rw [← hAe]; exact Or.inr h
  have hS : va_S A s.heap s.heap [] := va_S.rf
  have hl := lv_entry ([.ref (ad 0)]) (n := 1) (Nat.le_of_ble_eq_true rfl)
  rw [lg_entry_eq]
  generalize (lg_sl ([.ref (ad 0)]) ++ List.replicate (1 - (lg_sl ([.ref (ad 0)])).length) Slot.unset).toArray = ls at hl ⊢
  have hl : lv_has ls 1 [(0, .ref (ad 0))] := hl
  have winX0 : ∀ w ∈ u_ws RX0 TX0 6, w ∈ wsX8_card := by decide +kernel
  have winX5 : ∀ w ∈ u_ws RX5 TX5 1, w ∈ wsX8_card := by decide +kernel
  have winX8 : ∀ w ∈ u_ws RX8 TX8 9, w ∈ wsX8_card := by decide +kernel
  refine lv_aload_n hx hb dX8_card_0 rfl (lv_at hl 0 rfl) ?_
  refine va_get (D := D) (ci := 8) (v := .ref (ad 19)) (C := RX8) (T := TX8) (N := 9) hx hb hts winX8 hown hK hP 0 rfl rfl 2 (by decide) (hts (.fieldLink RX8 26 "TapCap" "cards" "LTapCap$Cards;") (List.mem_of_getElem? (i := 1) rfl)) (fun _ h9 => h9) rfl dX8_card_1 ?_
  refine va_get (D := D) (ci := 0) (v := .int (tc_0 45 3)) (C := RX0) (T := TX0) (N := 6) hx hb hts winX0 hown hK hP 19 rfl rfl 5 (by decide) (hts (.fieldLink RX8 103 "TapCap$Cards" "count" "I") (List.mem_of_getElem? (i := 2) rfl)) (fun _ h9 => h9) rfl dX8_card_4 ?_
  refine lv_iconst (v := 4) hx hb dX8_card_7 (by decide) ?_
  refine lv_icmp_lt (tgt := 21) hx hb dX8_card_8 (by decide) (fun c_26 => ?_) (fun c_26 => ?_)
  · refine lv_aload_n hx hb dX8_card_21 rfl (lv_at hl 0 rfl) ?_
    refine va_get (D := D) (ci := 8) (v := .ref (ad 19)) (C := RX8) (T := TX8) (N := 9) hx hb hts winX8 hown hK hP 0 rfl rfl 2 (by decide) (hts (.fieldLink RX8 26 "TapCap" "cards" "LTapCap$Cards;") (List.mem_of_getElem? (i := 1) rfl)) (fun _ h9 => h9) rfl dX8_card_22 ?_
    refine g_ki hK hD hS hA (va_runV (As := []) (rest := []) ⟨hx, hb, hml, hown, hts⟩ (kX0_give l D ad cI tc_0 s.heap.size ) (cwV 0 hts gX8_card_X0_give rfl rfl rfl (by decide +kernel) ⟨Nat.le_of_ble_eq_true rfl, Nat.le_of_ble_eq_true rfl⟩) (g_preV hK hP hD (ci := 0) (q0 := 19) rfl rfl) rfl rfl hl.1 rfl (lv_room (Nat.le_of_ble_eq_true rfl)) dX8_card_25 ⟨Nat.le_of_ble_eq_true rfl, Nat.le_of_ble_eq_true rfl⟩) (fun H locs hP hD hS => ?_)
    refine o_iret ?_ hx hb hr (by first | rfl | exact narrow_z0 | exact narrow_z1) hlocks hS dX8_card_28 (Nat.le_of_ble_eq_true rfl) (Nat.le_of_ble_eq_true rfl)
    exact ⟨by rfl, trivial⟩
  · exact absurd (by decide) c_26
set_option maxHeartbeats 4000000 in
set_option maxRecDepth 100000 in
theorem o_late (l : Launch) (hfl : l.stackTraces = false) (D : va_G) (ad : Nat → Nat) (cI : ClassId) (sz : Nat) (x0 x1 x2 : Int32) (sa : Nat → Nat) : vx_Met l yX8_late wsX8_late ({ frames := 10, cells := 3, slots := 18, locals := 300 } : Room) (h_P D [(cI, .int)] (tcW ad cI tc_0) [.ref (ad 0), .int x0, .int x1, .int x2] sz sa) (o_Qi (va_A (tcW ad cI tc_0) sz) (fun r => r = 0 ∧ (in_N x0 6) ∧ (in_N x1 28) ∧ (in_R x2 0 200))) (o_X (va_A (tcW ad cI tc_0) sz) (fun E => (E = ex_IX ∧ (¬ in_N x0 6)) ∨ (E = ex_IX ∧ (in_N x0 6) ∧ (¬ in_N x1 28)) ∨ (E = ex_IA ∧ (in_N x0 6) ∧ (in_N x1 28) ∧ (¬ in_R x2 0 200)))) 3 18 (va_A (tcW ad cI tc_0) sz) := by
  refine vx_ofW (cc := cX8_late) (maxL := 6) (ret := (some .int)) (by decide) rfl ?_
  intro p e s m args below meth c9 s₁ B hml htab hv
  obtain ⟨rfl, hE, hZ, hsz, hP, hK, hD0⟩ := hv
  have hx := B.exec
  have hb := B.bytes
  have hr := B.returns
  have hts := atoms_spec (ws := wsX8_late) B.pre
  have hown : s.vm.findClass RX8 = some m.cls := findClass_of_methodNamed B.named
  have hlocks := B.notSynchronized
  subst hsz
  have hD := hD0.self (sz := s.heap.size)
  generalize hAe : va_A (tcW ad cI tc_0) s.heap.size = A at hD hZ ⊢
  have hA : ∀ q : Nat, s.heap.size ≤ q → A q := fun q h => by rw [← hAe]; exact Or.inr h
  have hS : va_S A s.heap s.heap [] := va_S.rf
  have hl := lv_entry ([.ref (ad 0), .int x0, .int x1, .int x2]) (n := 6) (Nat.le_of_ble_eq_true rfl)
  rw [lg_entry_eq]
  generalize (lg_sl ([.ref (ad 0), .int x0, .int x1, .int x2]) ++ List.replicate (6 - (lg_sl ([.ref (ad 0), .int x0, .int x1, .int x2])).length) Slot.unset).toArray = ls at hl ⊢
  have hl : lv_has ls 6 [(0, .ref (ad 0)), (1, .int x0), (2, .int x1), (3, .int x2)] := hl
  have winX4 : ∀ w ∈ u_ws RX4 TX4 3, w ∈ wsX8_late := by decide +kernel
  have winX5 : ∀ w ∈ u_ws RX5 TX5 1, w ∈ wsX8_late := by decide +kernel
  have winX8 : ∀ w ∈ u_ws RX8 TX8 9, w ∈ wsX8_late := by decide +kernel
  refine lv_iload_n hx hb dX8_late_0 rfl (lv_at hl 1 rfl) ?_
  refine lv_bipush (v := 6) hx hb dX8_late_1 (by decide) ?_
  refine h_kv hK hD hS hA (vx_runS (As := [.int x0, .int 6]) (rest := []) ⟨hx, hb, hml, hown, hts⟩ (h_needNumber l hfl D [(cI, .int)] (tcW ad cI tc_0) s.heap.size x0 6 sa) (cwS 2 hts gX8_late_X8_needNumber rfl rfl rfl (by decide +kernel) ⟨Nat.le_of_ble_eq_true rfl, Nat.le_of_ble_eq_true rfl⟩) (h_preS hE hZ hK hP hD hS hA) rfl rfl hl.1 rfl (lv_room (Nat.le_of_ble_eq_true rfl)) dX8_late_3 ⟨Nat.le_of_ble_eq_true rfl, Nat.le_of_ble_eq_true rfl⟩) (fun E ce q9 H locs hex hP hD hS hce hcv hcl => ?_) (fun H locs ok_27 hP hD hS => ?_)
  · exact o_out htab hlocks hS hce hcv hcl (Or.inl (⟨hex.1, hex.2⟩)) (Nat.le_of_ble_eq_true rfl) (Nat.le_of_ble_eq_true rfl)
  refine lv_iload_n hx hb dX8_late_6 rfl (lv_at hl 2 rfl) ?_
  refine lv_bipush (v := 28) hx hb dX8_late_7 (by decide) ?_
  refine h_kv hK hD hS hA (vx_runS (As := [.int x1, .int 28]) (rest := []) ⟨hx, hb, hml, hown, hts⟩ (h_needNumber l hfl D [(cI, .int)] (tcW ad cI tc_0) H.size x1 28 sa) (cwS 2 hts gX8_late_X8_needNumber rfl rfl rfl (by decide +kernel) ⟨Nat.le_of_ble_eq_true rfl, Nat.le_of_ble_eq_true rfl⟩) (h_preS hE hZ hK hP hD hS hA) rfl rfl hl.1 rfl (lv_room (Nat.le_of_ble_eq_true rfl)) dX8_late_9 ⟨Nat.le_of_ble_eq_true rfl, Nat.le_of_ble_eq_true rfl⟩) (fun E ce q9 H locs hex hP hD hS hce hcv hcl => ?_) (fun H locs ok_28 hP hD hS => ?_)
  · exact o_out htab hlocks hS hce hcv hcl (Or.inr (Or.inl (⟨hex.1, ok_27, hex.2⟩))) (Nat.le_of_ble_eq_true rfl) (Nat.le_of_ble_eq_true rfl)
  refine lv_iload_n hx hb dX8_late_12 rfl (lv_at hl 3 rfl) ?_
  refine lv_iconst (v := 0) hx hb dX8_late_13 (by decide) ?_
  refine lv_sipush (v := 200) hx hb dX8_late_14 (by decide) ?_
  refine h_kv hK hD hS hA (vx_runS (As := [.int x2, .int 0, .int 200]) (rest := []) ⟨hx, hb, hml, hown, hts⟩ (h_needRange l hfl D [(cI, .int)] (tcW ad cI tc_0) H.size x2 0 200 sa) (cwS 3 hts gX8_late_X8_needRange rfl rfl rfl (by decide +kernel) ⟨Nat.le_of_ble_eq_true rfl, Nat.le_of_ble_eq_true rfl⟩) (h_preS hE hZ hK hP hD hS hA) rfl rfl hl.1 rfl (lv_room (Nat.le_of_ble_eq_true rfl)) dX8_late_17 ⟨Nat.le_of_ble_eq_true rfl, Nat.le_of_ble_eq_true rfl⟩) (fun E ce q9 H locs hex hP hD hS hce hcv hcl => ?_) (fun H locs ok_29 hP hD hS => ?_)
  · exact o_out htab hlocks hS hce hcv hcl (Or.inr (Or.inr (⟨hex.1, ok_27, ok_28, hex.2⟩))) (Nat.le_of_ble_eq_true rfl) (Nat.le_of_ble_eq_true rfl)
  refine lv_iload_n hx hb dX8_late_20 rfl (lv_at hl 1 rfl) ?_
  refine lv_bipush (v := 28) hx hb dX8_late_21 (by decide) ?_
  refine lv_imul hx hb dX8_late_23 ?_
  refine lv_iload_n hx hb dX8_late_24 rfl (lv_at hl 2 rfl) ?_
  refine lv_iadd hx hb dX8_late_25 ?_
  refine lv_istore (lv' := [(4, .int ((x0 * 28) + x1)), (0, .ref (ad 0)), (1, .int x0), (2, .int x1), (3, .int x2)]) hx hb dX8_late_26 hl (by decide) rfl (fun ls hl => ?_)
  refine lv_aload_n hx hb dX8_late_28 rfl (lv_at hl 1 rfl) ?_
  refine va_get (D := D) (ci := 8) (v := .ref (ad 1)) (C := RX8) (T := TX8) (N := 9) hx hb hts winX8 hown hK hP 0 rfl rfl 0 (by decide) (hts (.fieldLink RX8 12 "TapCap" "region" "LTapCap$Region;") (List.mem_of_getElem? (i := 1) rfl)) (fun _ h9 => h9) rfl dX8_late_29 ?_
  refine va_get (D := D) (ci := 4) (v := .ref (ad 6)) (C := RX4) (T := TX4) (N := 3) hx hb hts winX4 hown hK hP 1 rfl rfl 2 (by decide) (hts (.fieldLink RX8 142 "TapCap$Region" "lateBy" "LTapCap$Row;") (List.mem_of_getElem? (i := 2) rfl)) (fun _ h9 => h9) rfl dX8_late_32 ?_
  refine lv_iload hx hb dX8_late_35 (lv_at hl 0 rfl) ?_
  refine g_ki hK hD hS hA (va_runV (As := [.int ((x0 * 28) + x1)]) (rest := []) ⟨hx, hb, hml, hown, hts⟩ (c_tc_at l D ad cI tc_0 H.size 2 (by decide) ((x0 * 28) + x1)) (cwV 1 hts gX8_late_X5_at rfl rfl rfl (by decide +kernel) ⟨Nat.le_of_ble_eq_true rfl, Nat.le_of_ble_eq_true rfl⟩) (g_preV hK hP hD (ci := 5) (q0 := 6) rfl rfl) rfl rfl hl.1 rfl (lv_room (Nat.le_of_ble_eq_true rfl)) dX8_late_37 ⟨Nat.le_of_ble_eq_true rfl, Nat.le_of_ble_eq_true rfl⟩) (fun H locs hP hD hS => ?_)
  refine lv_istore (lv' := [(5, .int (rw_at (tc_len 2) (tc_0 2) ((x0 * 28) + x1))), (4, .int ((x0 * 28) + x1)), (0, .ref (ad 0)), (1, .int x0), (2, .int x1), (3, .int x2)]) hx hb dX8_late_40 hl (by decide) rfl (fun ls hl => ?_)
  refine lv_aload_n hx hb dX8_late_42 rfl (lv_at hl 2 rfl) ?_
  refine va_get (D := D) (ci := 8) (v := .ref (ad 1)) (C := RX8) (T := TX8) (N := 9) hx hb hts winX8 hown hK hP 0 rfl rfl 0 (by decide) (hts (.fieldLink RX8 12 "TapCap" "region" "LTapCap$Region;") (List.mem_of_getElem? (i := 1) rfl)) (fun _ h9 => h9) rfl dX8_late_43 ?_
  refine va_get (D := D) (ci := 4) (v := .ref (ad 6)) (C := RX4) (T := TX4) (N := 3) hx hb hts winX4 hown hK hP 1 rfl rfl 2 (by decide) (hts (.fieldLink RX8 142 "TapCap$Region" "lateBy" "LTapCap$Row;") (List.mem_of_getElem? (i := 2) rfl)) (fun _ h9 => h9) rfl dX8_late_46 ?_
  refine lv_iload hx hb dX8_late_49 (lv_at hl 1 rfl) ?_
  refine lv_iload_n hx hb dX8_late_51 rfl (lv_at hl 5 rfl) ?_
  refine g_kv hK hD hS hA (va_runV (As := [.int ((x0 * 28) + x1), .int x2]) (rest := []) ⟨hx, hb, hml, hown, hts⟩ (c_tc_put l D ad cI tc_0 H.size 2 (by decide) ((x0 * 28) + x1) x2) (cwV 2 hts gX8_late_X5_put rfl rfl rfl (by decide +kernel) ⟨Nat.le_of_ble_eq_true rfl, Nat.le_of_ble_eq_true rfl⟩) (g_preV hK hP hD (ci := 5) (q0 := 6) rfl rfl) rfl rfl hl.1 rfl (lv_room (Nat.le_of_ble_eq_true rfl)) dX8_late_52 ⟨Nat.le_of_ble_eq_true rfl, Nat.le_of_ble_eq_true rfl⟩) (fun H locs hP hD hS => ?_)
  refine lv_iload hx hb dX8_late_55 (lv_at hl 0 rfl) ?_
  refine o_iret ?_ hx hb hr (by first | rfl | exact narrow_z0 | exact narrow_z1) hlocks hS dX8_late_57 (Nat.le_of_ble_eq_true rfl) (Nat.le_of_ble_eq_true rfl)
  exact ⟨rw_at_0, ok_27, ok_28, ok_29⟩
set_option maxHeartbeats 4000000 in
set_option maxRecDepth 100000 in
theorem o_close (l : Launch) (hfl : l.stackTraces = false) (D : va_G) (ad : Nat → Nat) (cI : ClassId) (sz : Nat) (sa : Nat → Nat) : vx_Met l yX8_close wsX8_close ({ frames := 10, cells := 0, slots := 0, locals := 300 } : Room) (h_P D [(cI, .int)] (tcW ad cI tc_0) [.ref (ad 0)] sz sa) (o_Qi (va_A (tcW ad cI tc_0) sz) (fun r => r = 0 ∧ True)) (o_X (va_A (tcW ad cI tc_0) sz) (fun _ => False)) 0 0 (va_A (tcW ad cI tc_0) sz) := by
  refine vx_ofW (cc := cX8_close) (maxL := 4) (ret := (some .int)) (by decide) rfl ?_
  intro p e s m args below meth c9 s₁ B hml htab hv
  obtain ⟨rfl, hE, hZ, hsz, hP, hK, hD0⟩ := hv
  have hx := B.exec
  have hb := B.bytes
  have hr := B.returns
  have hts := atoms_spec (ws := wsX8_close) B.pre
  have hown : s.vm.findClass RX8 = some m.cls := findClass_of_methodNamed B.named
  have hlocks := B.notSynchronized
  subst hsz
  have hD := hD0.self (sz := s.heap.size)
  generalize hAe : va_A (tcW ad cI tc_0) s.heap.size = A at hD hZ ⊢
  have hA : ∀ q : Nat, s.heap.size ≤ q → A q := fun q h => by rw [← hAe]; exact Or.inr h
  have hS : va_S A s.heap s.heap [] := va_S.rf
  have hl := lv_entry ([.ref (ad 0)]) (n := 4) (Nat.le_of_ble_eq_true rfl)
  rw [lg_entry_eq]
  generalize (lg_sl ([.ref (ad 0)]) ++ List.replicate (4 - (lg_sl ([.ref (ad 0)])).length) Slot.unset).toArray = ls at hl ⊢
  have hl : lv_has ls 4 [(0, .ref (ad 0))] := hl
  have winX0 : ∀ w ∈ u_ws RX0 TX0 6, w ∈ wsX8_close := by decide +kernel
  have winX1 : ∀ w ∈ u_ws RX1 TX1 4, w ∈ wsX8_close := by decide +kernel
  have winX2 : ∀ w ∈ u_ws RX2 TX2 10, w ∈ wsX8_close := by decide +kernel
  have winX3 : ∀ w ∈ u_ws RX3 TX3 15, w ∈ wsX8_close := by decide +kernel
  have winX4 : ∀ w ∈ u_ws RX4 TX4 3, w ∈ wsX8_close := by decide +kernel
  have winX5 : ∀ w ∈ u_ws RX5 TX5 1, w ∈ wsX8_close := by decide +kernel
  have winX6 : ∀ w ∈ u_ws RX6 TX6 9, w ∈ wsX8_close := by decide +kernel
  have winX7 : ∀ w ∈ u_ws RX7 TX7 6, w ∈ wsX8_close := by decide +kernel
  have winX8 : ∀ w ∈ u_ws RX8 TX8 9, w ∈ wsX8_close := by decide +kernel
  refine lv_aload_n hx hb dX8_close_0 rfl (lv_at hl 0 rfl) ?_
  refine va_get (D := D) (ci := 8) (v := .int (tc_0 45 0)) (C := RX8) (T := TX8) (N := 9) hx hb hts winX8 hown hK hP 0 rfl rfl 7 (by decide) (hts (.fieldLink RX8 58 "TapCap" "closedDays" "I") (List.mem_of_getElem? (i := 1) rfl)) (fun _ h9 => h9) rfl dX8_close_1 ?_
  refine lv_bipush (v := 28) hx hb dX8_close_4 (by decide) ?_
  refine lv_icmp_lt (tgt := 19) hx hb dX8_close_6 (by decide) (fun c_30 => ?_) (fun c_30 => ?_)
  · refine lv_iconst (v := 0) hx hb dX8_close_19 (by decide) ?_
    refine lv_istore_n (lv' := [(1, .int 0), (0, .ref (ad 0))]) hx hb dX8_close_20 rfl hl (by decide) rfl (fun ls hl => ?_)
    refine lv_iconst (v := 0) hx hb dX8_close_21 (by decide) ?_
    refine lv_istore_n (lv' := [(2, .int 0), (1, .int 0), (0, .ref (ad 0))]) hx hb dX8_close_22 rfl hl (by decide) rfl (fun ls hl => ?_)
    refine lv_iload_n hx hb dX8_close_23 rfl (lv_at hl 0 rfl) ?_
    refine lv_aload_n hx hb dX8_close_24 rfl (lv_at hl 2 rfl) ?_
    refine va_get (D := D) (ci := 8) (v := .ref (ad 19)) (C := RX8) (T := TX8) (N := 9) hx hb hts winX8 hown hK hP 0 rfl rfl 2 (by decide) (hts (.fieldLink RX8 26 "TapCap" "cards" "LTapCap$Cards;") (List.mem_of_getElem? (i := 2) rfl)) (fun _ h9 => h9) rfl dX8_close_25 ?_
    refine va_get (D := D) (ci := 0) (v := .int (tc_0 45 3)) (C := RX0) (T := TX0) (N := 6) hx hb hts winX0 hown hK hP 19 rfl rfl 5 (by decide) (hts (.fieldLink RX8 103 "TapCap$Cards" "count" "I") (List.mem_of_getElem? (i := 3) rfl)) (fun _ h9 => h9) rfl dX8_close_28 ?_
    refine lv_icmp_ge (tgt := 85) hx hb dX8_close_31 (by decide) (fun c_31 => ?_) (fun c_31 => ?_)
    · refine lv_aload_n hx hb dX8_close_85 rfl (lv_at hl 2 rfl) ?_
      refine lv_dup hx hb dX8_close_86 rfl ?_
      refine va_get (D := D) (ci := 8) (v := .int (tc_0 45 0)) (C := RX8) (T := TX8) (N := 9) hx hb hts winX8 hown hK hP 0 rfl rfl 7 (by decide) (hts (.fieldLink RX8 58 "TapCap" "closedDays" "I") (List.mem_of_getElem? (i := 1) rfl)) (fun _ h9 => h9) rfl dX8_close_87 ?_
      refine lv_iconst (v := 1) hx hb dX8_close_90 (by decide) ?_
      refine lv_iadd hx hb dX8_close_91 ?_
      refine va_put (D := D) (ci := 8) (v := .int ((tc_0 45 0) + 1)) (ty := .int) (C := RX8) (T := TX8) (N := 9) hx hb hts winX8 tyX8 tyX8_ok nmX8 hown hK hP hD hS 0 rfl rfl 7 (by decide) (hts (.fieldLink RX8 58 "TapCap" "closedDays" "I") (List.mem_of_getElem? (i := 1) rfl)) (fun _ h9 => h9) rfl (by decide +kernel) rfl rfl (Nat.le_of_ble_eq_true rfl) dX8_close_92 (fun H locs hP hD hS => ?_)
      have hP := tc_sP_0 hP
      have hD := tc_sD_0 hD
      refine lv_iload_n hx hb dX8_close_95 rfl (lv_at hl 1 rfl) ?_
      refine o_iret ?_ hx hb hr (by first | rfl | exact narrow_z0 | exact narrow_z1) hlocks hS dX8_close_96 (Nat.le_of_ble_eq_true rfl) (Nat.le_of_ble_eq_true rfl)
      exact ⟨by rfl, trivial⟩
    · exact absurd (by decide) c_31
  · exact absurd (by decide) c_30
set_option maxHeartbeats 4000000 in
set_option maxRecDepth 100000 in
theorem o_tie (l : Launch) (hfl : l.stackTraces = false) (D : va_G) (ad : Nat → Nat) (cI : ClassId) (sz : Nat) (x0 x1 : Int32) (sa : Nat → Nat) : vx_Met l yX8_tie wsX8_tie ({ frames := 10, cells := 1, slots := 6, locals := 300 } : Room) (h_P D [(cI, .int)] (tcW ad cI tc_0) [.ref (ad 0), .int x0, .int x1] sz sa) (o_Qi (va_A (tcW ad cI tc_0) sz) (fun _ => False)) (o_X (va_A (tcW ad cI tc_0) sz) (fun E => E = ex_IX)) 1 6 (va_A (tcW ad cI tc_0) sz) := by
  refine vx_ofW (cc := cX8_tie) (maxL := 4) (ret := (some .int)) (by decide) rfl ?_
  intro p e s m args below meth c9 s₁ B hml htab hv
  obtain ⟨rfl, hE, hZ, hsz, hP, hK, hD0⟩ := hv
  have hx := B.exec
  have hb := B.bytes
  have hr := B.returns
  have hts := atoms_spec (ws := wsX8_tie) B.pre
  have hown : s.vm.findClass RX8 = some m.cls := findClass_of_methodNamed B.named
  have hlocks := B.notSynchronized
  subst hsz
  have hD := hD0.self (sz := s.heap.size)
  generalize hAe : va_A (tcW ad cI tc_0) s.heap.size = A at hD hZ ⊢
  have hA : ∀ q : Nat, s.heap.size ≤ q → A q := fun q h => by rw [← hAe]; exact Or.inr h
  have hS : va_S A s.heap s.heap [] := va_S.rf
  have hl := lv_entry ([.ref (ad 0), .int x0, .int x1]) (n := 4) (Nat.le_of_ble_eq_true rfl)
  rw [lg_entry_eq]
  generalize (lg_sl ([.ref (ad 0), .int x0, .int x1]) ++ List.replicate (4 - (lg_sl ([.ref (ad 0), .int x0, .int x1])).length) Slot.unset).toArray = ls at hl ⊢
  have hl : lv_has ls 4 [(0, .ref (ad 0)), (1, .int x0), (2, .int x1)] := hl
  have winX0 : ∀ w ∈ u_ws RX0 TX0 6, w ∈ wsX8_tie := by decide +kernel
  have winX5 : ∀ w ∈ u_ws RX5 TX5 1, w ∈ wsX8_tie := by decide +kernel
  have winX8 : ∀ w ∈ u_ws RX8 TX8 9, w ∈ wsX8_tie := by decide +kernel
  refine lv_aload_n hx hb dX8_tie_0 rfl (lv_at hl 0 rfl) ?_
  refine lv_iload_n hx hb dX8_tie_1 rfl (lv_at hl 1 rfl) ?_
  refine h_kv hK hD hS hA (vx_runV (As := [.int x0]) (rest := []) ⟨hx, hb, hml, hown, hts⟩ (h_needCard l hfl D ad cI tc_0 s.heap.size x0 sa) (cwV 1 hts gX8_tie_X8_needCard rfl rfl rfl (by decide +kernel) ⟨Nat.le_of_ble_eq_true rfl, Nat.le_of_ble_eq_true rfl⟩) (h_preV hE hZ hK hP hD hS hA (ci := 8) (q0 := 0) rfl rfl) rfl rfl hl.1 rfl (lv_room (Nat.le_of_ble_eq_true rfl)) dX8_tie_2 ⟨Nat.le_of_ble_eq_true rfl, Nat.le_of_ble_eq_true rfl⟩) (fun E ce q9 H locs hex hP hD hS hce hcv hcl => ?_) (fun H locs ok_32 hP hD hS => ?_)
  · exact o_out htab hlocks hS hce hcv hcl (hex.1) (Nat.le_of_ble_eq_true rfl) (Nat.le_of_ble_eq_true rfl)
  exact absurd ok_32 (no_card _)
set_option maxHeartbeats 4000000 in
set_option maxRecDepth 100000 in
theorem o_lose (l : Launch) (hfl : l.stackTraces = false) (D : va_G) (ad : Nat → Nat) (cI : ClassId) (sz : Nat) (x0 x1 : Int32) (sa : Nat → Nat) : vx_Met l yX8_lose wsX8_lose ({ frames := 10, cells := 1, slots := 6, locals := 300 } : Room) (h_P D [(cI, .int)] (tcW ad cI tc_0) [.ref (ad 0), .int x0, .int x1] sz sa) (o_Qi (va_A (tcW ad cI tc_0) sz) (fun _ => False)) (o_X (va_A (tcW ad cI tc_0) sz) (fun E => E = ex_IX)) 1 6 (va_A (tcW ad cI tc_0) sz) := by
  refine vx_ofW (cc := cX8_lose) (maxL := 4) (ret := (some .boolean)) (by decide) rfl ?_
  intro p e s m args below meth c9 s₁ B hml htab hv
  obtain ⟨rfl, hE, hZ, hsz, hP, hK, hD0⟩ := hv
  have hx := B.exec
  have hb := B.bytes
  have hr := B.returns
  have hts := atoms_spec (ws := wsX8_lose) B.pre
  have hown : s.vm.findClass RX8 = some m.cls := findClass_of_methodNamed B.named
  have hlocks := B.notSynchronized
  subst hsz
  have hD := hD0.self (sz := s.heap.size)
  generalize hAe : va_A (tcW ad cI tc_0) s.heap.size = A at hD hZ ⊢
  have hA : ∀ q : Nat, s.heap.size ≤ q → A q := fun q h => by rw [← hAe]; exact Or.inr h
  have hS : va_S A s.heap s.heap [] := va_S.rf
  have hl := lv_entry ([.ref (ad 0), .int x0, .int x1]) (n := 4) (Nat.le_of_ble_eq_true rfl)
  rw [lg_entry_eq]
  generalize (lg_sl ([.ref (ad 0), .int x0, .int x1]) ++ List.replicate (4 - (lg_sl ([.ref (ad 0), .int x0, .int x1])).length) Slot.unset).toArray = ls at hl ⊢
  have hl : lv_has ls 4 [(0, .ref (ad 0)), (1, .int x0), (2, .int x1)] := hl
  have winX0 : ∀ w ∈ u_ws RX0 TX0 6, w ∈ wsX8_lose := by decide +kernel
  have winX5 : ∀ w ∈ u_ws RX5 TX5 1, w ∈ wsX8_lose := by decide +kernel
  have winX8 : ∀ w ∈ u_ws RX8 TX8 9, w ∈ wsX8_lose := by decide +kernel
  refine lv_aload_n hx hb dX8_lose_0 rfl (lv_at hl 0 rfl) ?_
  refine lv_iload_n hx hb dX8_lose_1 rfl (lv_at hl 1 rfl) ?_
  refine h_kv hK hD hS hA (vx_runV (As := [.int x0]) (rest := []) ⟨hx, hb, hml, hown, hts⟩ (h_needCard l hfl D ad cI tc_0 s.heap.size x0 sa) (cwV 1 hts gX8_lose_X8_needCard rfl rfl rfl (by decide +kernel) ⟨Nat.le_of_ble_eq_true rfl, Nat.le_of_ble_eq_true rfl⟩) (h_preV hE hZ hK hP hD hS hA (ci := 8) (q0 := 0) rfl rfl) rfl rfl hl.1 rfl (lv_room (Nat.le_of_ble_eq_true rfl)) dX8_lose_2 ⟨Nat.le_of_ble_eq_true rfl, Nat.le_of_ble_eq_true rfl⟩) (fun E ce q9 H locs hex hP hD hS hce hcv hcl => ?_) (fun H locs ok_33 hP hD hS => ?_)
  · exact o_out htab hlocks hS hce hcv hcl (hex.1) (Nat.le_of_ble_eq_true rfl) (Nat.le_of_ble_eq_true rfl)
  exact absurd ok_33 (no_card _)
set_option maxHeartbeats 4000000 in
set_option maxRecDepth 100000 in
theorem o_pay (l : Launch) (hfl : l.stackTraces = false) (D : va_G) (ad : Nat → Nat) (cI : ClassId) (sz : Nat) (x0 x1 : Int32) (sa : Nat → Nat) : vx_Met l yX8_pay wsX8_pay ({ frames := 10, cells := 1, slots := 6, locals := 300 } : Room) (h_P D [(cI, .int)] (tcW ad cI tc_0) [.ref (ad 0), .int x0, .int x1] sz sa) (o_Qi (va_A (tcW ad cI tc_0) sz) (fun _ => False)) (o_X (va_A (tcW ad cI tc_0) sz) (fun E => E = ex_IX)) 1 6 (va_A (tcW ad cI tc_0) sz) := by
  refine vx_ofW (cc := cX8_pay) (maxL := 3) (ret := (some .int)) (by decide) rfl ?_
  intro p e s m args below meth c9 s₁ B hml htab hv
  obtain ⟨rfl, hE, hZ, hsz, hP, hK, hD0⟩ := hv
  have hx := B.exec
  have hb := B.bytes
  have hr := B.returns
  have hts := atoms_spec (ws := wsX8_pay) B.pre
  have hown : s.vm.findClass RX8 = some m.cls := findClass_of_methodNamed B.named
  have hlocks := B.notSynchronized
  subst hsz
  have hD := hD0.self (sz := s.heap.size)
  generalize hAe : va_A (tcW ad cI tc_0) s.heap.size = A at hD hZ ⊢
  have hA : ∀ q : Nat, s.heap.size ≤ q → A q := fun q h => by rw [← hAe]; exact Or.inr h
  have hS : va_S A s.heap s.heap [] := va_S.rf
  have hl := lv_entry ([.ref (ad 0), .int x0, .int x1]) (n := 3) (Nat.le_of_ble_eq_true rfl)
  rw [lg_entry_eq]
  generalize (lg_sl ([.ref (ad 0), .int x0, .int x1]) ++ List.replicate (3 - (lg_sl ([.ref (ad 0), .int x0, .int x1])).length) Slot.unset).toArray = ls at hl ⊢
  have hl : lv_has ls 3 [(0, .ref (ad 0)), (1, .int x0), (2, .int x1)] := hl
  have winX0 : ∀ w ∈ u_ws RX0 TX0 6, w ∈ wsX8_pay := by decide +kernel
  have winX5 : ∀ w ∈ u_ws RX5 TX5 1, w ∈ wsX8_pay := by decide +kernel
  have winX8 : ∀ w ∈ u_ws RX8 TX8 9, w ∈ wsX8_pay := by decide +kernel
  refine lv_aload_n hx hb dX8_pay_0 rfl (lv_at hl 0 rfl) ?_
  refine lv_iload_n hx hb dX8_pay_1 rfl (lv_at hl 1 rfl) ?_
  refine h_kv hK hD hS hA (vx_runV (As := [.int x0]) (rest := []) ⟨hx, hb, hml, hown, hts⟩ (h_needCard l hfl D ad cI tc_0 s.heap.size x0 sa) (cwV 1 hts gX8_pay_X8_needCard rfl rfl rfl (by decide +kernel) ⟨Nat.le_of_ble_eq_true rfl, Nat.le_of_ble_eq_true rfl⟩) (h_preV hE hZ hK hP hD hS hA (ci := 8) (q0 := 0) rfl rfl) rfl rfl hl.1 rfl (lv_room (Nat.le_of_ble_eq_true rfl)) dX8_pay_2 ⟨Nat.le_of_ble_eq_true rfl, Nat.le_of_ble_eq_true rfl⟩) (fun E ce q9 H locs hex hP hD hS hce hcv hcl => ?_) (fun H locs ok_34 hP hD hS => ?_)
  · exact o_out htab hlocks hS hce hcv hcl (hex.1) (Nat.le_of_ble_eq_true rfl) (Nat.le_of_ble_eq_true rfl)
  exact absurd ok_34 (no_card _)
set_option maxHeartbeats 4000000 in
set_option maxRecDepth 100000 in
theorem o_ofCard (l : Launch) (hfl : l.stackTraces = false) (D : va_G) (ad : Nat → Nat) (cI : ClassId) (sz : Nat) (x0 x1 : Int32) (sa : Nat → Nat) : vx_Met l yX8_ofCard wsX8_ofCard ({ frames := 10, cells := 1, slots := 6, locals := 300 } : Room) (h_P D [(cI, .int)] (tcW ad cI tc_0) [.ref (ad 0), .int x0, .int x1] sz sa) (o_Qi (va_A (tcW ad cI tc_0) sz) (fun _ => False)) (o_X (va_A (tcW ad cI tc_0) sz) (fun E => E = ex_IX)) 1 6 (va_A (tcW ad cI tc_0) sz) := by
  refine vx_ofW (cc := cX8_ofCard) (maxL := 3) (ret := (some .int)) (by decide) rfl ?_
  intro p e s m args below meth c9 s₁ B hml htab hv
  obtain ⟨rfl, hE, hZ, hsz, hP, hK, hD0⟩ := hv
  have hx := B.exec
  have hb := B.bytes
  have hr := B.returns
  have hts := atoms_spec (ws := wsX8_ofCard) B.pre
  have hown : s.vm.findClass RX8 = some m.cls := findClass_of_methodNamed B.named
  have hlocks := B.notSynchronized
  subst hsz
  have hD := hD0.self (sz := s.heap.size)
  generalize hAe : va_A (tcW ad cI tc_0) s.heap.size = A at hD hZ ⊢
  have hA : ∀ q : Nat, s.heap.size ≤ q → A q := fun q h => by rw [← hAe]; exact Or.inr h
  have hS : va_S A s.heap s.heap [] := va_S.rf
  have hl := lv_entry ([.ref (ad 0), .int x0, .int x1]) (n := 3) (Nat.le_of_ble_eq_true rfl)
  rw [lg_entry_eq]
  generalize (lg_sl ([.ref (ad 0), .int x0, .int x1]) ++ List.replicate (3 - (lg_sl ([.ref (ad 0), .int x0, .int x1])).length) Slot.unset).toArray = ls at hl ⊢
  have hl : lv_has ls 3 [(0, .ref (ad 0)), (1, .int x0), (2, .int x1)] := hl
  have winX0 : ∀ w ∈ u_ws RX0 TX0 6, w ∈ wsX8_ofCard := by decide +kernel
  have winX5 : ∀ w ∈ u_ws RX5 TX5 1, w ∈ wsX8_ofCard := by decide +kernel
  have winX6 : ∀ w ∈ u_ws RX6 TX6 9, w ∈ wsX8_ofCard := by decide +kernel
  have winX8 : ∀ w ∈ u_ws RX8 TX8 9, w ∈ wsX8_ofCard := by decide +kernel
  refine lv_aload_n hx hb dX8_ofCard_0 rfl (lv_at hl 0 rfl) ?_
  refine lv_iload_n hx hb dX8_ofCard_1 rfl (lv_at hl 1 rfl) ?_
  refine h_kv hK hD hS hA (vx_runV (As := [.int x0]) (rest := []) ⟨hx, hb, hml, hown, hts⟩ (h_needCard l hfl D ad cI tc_0 s.heap.size x0 sa) (cwV 1 hts gX8_ofCard_X8_needCard rfl rfl rfl (by decide +kernel) ⟨Nat.le_of_ble_eq_true rfl, Nat.le_of_ble_eq_true rfl⟩) (h_preV hE hZ hK hP hD hS hA (ci := 8) (q0 := 0) rfl rfl) rfl rfl hl.1 rfl (lv_room (Nat.le_of_ble_eq_true rfl)) dX8_ofCard_2 ⟨Nat.le_of_ble_eq_true rfl, Nat.le_of_ble_eq_true rfl⟩) (fun E ce q9 H locs hex hP hD hS hce hcv hcl => ?_) (fun H locs ok_35 hP hD hS => ?_)
  · exact o_out htab hlocks hS hce hcv hcl (hex.1) (Nat.le_of_ble_eq_true rfl) (Nat.le_of_ble_eq_true rfl)
  exact absurd ok_35 (no_card _)
set_option maxHeartbeats 4000000 in
set_option maxRecDepth 100000 in
theorem o_check (l : Launch) (hfl : l.stackTraces = false) (D : va_G) (ad : Nat → Nat) (cI : ClassId) (sz : Nat) (x0 x1 x2 : Int32) (sa : Nat → Nat) : vx_Met l yX8_check wsX8_check ({ frames := 10, cells := 1, slots := 6, locals := 300 } : Room) (h_P D [(cI, .int)] (tcW ad cI tc_0) [.ref (ad 0), .int x0, .int x1, .int x2] sz sa) (o_Qi (va_A (tcW ad cI tc_0) sz) (fun _ => False)) (o_X (va_A (tcW ad cI tc_0) sz) (fun E => E = ex_IX)) 1 6 (va_A (tcW ad cI tc_0) sz) := by
  refine vx_ofW (cc := cX8_check) (maxL := 4) (ret := (some .int)) (by decide) rfl ?_
  intro p e s m args below meth c9 s₁ B hml htab hv
  obtain ⟨rfl, hE, hZ, hsz, hP, hK, hD0⟩ := hv
  have hx := B.exec
  have hb := B.bytes
  have hr := B.returns
  have hts := atoms_spec (ws := wsX8_check) B.pre
  have hown : s.vm.findClass RX8 = some m.cls := findClass_of_methodNamed B.named
  have hlocks := B.notSynchronized
  subst hsz
  have hD := hD0.self (sz := s.heap.size)
  generalize hAe : va_A (tcW ad cI tc_0) s.heap.size = A at hD hZ ⊢
  have hA : ∀ q : Nat, s.heap.size ≤ q → A q := fun q h => by rw [← hAe]; exact Or.inr h
  have hS : va_S A s.heap s.heap [] := va_S.rf
  have hl := lv_entry ([.ref (ad 0), .int x0, .int x1, .int x2]) (n := 4) (Nat.le_of_ble_eq_true rfl)
  rw [lg_entry_eq]
  generalize (lg_sl ([.ref (ad 0), .int x0, .int x1, .int x2]) ++ List.replicate (4 - (lg_sl ([.ref (ad 0), .int x0, .int x1, .int x2])).length) Slot.unset).toArray = ls at hl ⊢
  have hl : lv_has ls 4 [(0, .ref (ad 0)), (1, .int x0), (2, .int x1), (3, .int x2)] := hl
  have winX0 : ∀ w ∈ u_ws RX0 TX0 6, w ∈ wsX8_check := by decide +kernel
  have winX1 : ∀ w ∈ u_ws RX1 TX1 4, w ∈ wsX8_check := by decide +kernel
  have winX2 : ∀ w ∈ u_ws RX2 TX2 10, w ∈ wsX8_check := by decide +kernel
  have winX3 : ∀ w ∈ u_ws RX3 TX3 15, w ∈ wsX8_check := by decide +kernel
  have winX4 : ∀ w ∈ u_ws RX4 TX4 3, w ∈ wsX8_check := by decide +kernel
  have winX5 : ∀ w ∈ u_ws RX5 TX5 1, w ∈ wsX8_check := by decide +kernel
  have winX6 : ∀ w ∈ u_ws RX6 TX6 9, w ∈ wsX8_check := by decide +kernel
  have winX7 : ∀ w ∈ u_ws RX7 TX7 6, w ∈ wsX8_check := by decide +kernel
  have winX8 : ∀ w ∈ u_ws RX8 TX8 9, w ∈ wsX8_check := by decide +kernel
  refine lv_aload_n hx hb dX8_check_0 rfl (lv_at hl 0 rfl) ?_
  refine lv_iload_n hx hb dX8_check_1 rfl (lv_at hl 1 rfl) ?_
  refine h_kv hK hD hS hA (vx_runV (As := [.int x0]) (rest := []) ⟨hx, hb, hml, hown, hts⟩ (h_needCard l hfl D ad cI tc_0 s.heap.size x0 sa) (cwV 1 hts gX8_check_X8_needCard rfl rfl rfl (by decide +kernel) ⟨Nat.le_of_ble_eq_true rfl, Nat.le_of_ble_eq_true rfl⟩) (h_preV hE hZ hK hP hD hS hA (ci := 8) (q0 := 0) rfl rfl) rfl rfl hl.1 rfl (lv_room (Nat.le_of_ble_eq_true rfl)) dX8_check_2 ⟨Nat.le_of_ble_eq_true rfl, Nat.le_of_ble_eq_true rfl⟩) (fun E ce q9 H locs hex hP hD hS hce hcv hcl => ?_) (fun H locs ok_36 hP hD hS => ?_)
  · exact o_out htab hlocks hS hce hcv hcl (hex.1) (Nat.le_of_ble_eq_true rfl) (Nat.le_of_ble_eq_true rfl)
  exact absurd ok_36 (no_card _)
set_option maxHeartbeats 4000000 in
set_option maxRecDepth 100000 in
theorem o_settle (l : Launch) (hfl : l.stackTraces = false) (D : va_G) (ad : Nat → Nat) (cI : ClassId) (sz : Nat) (x0 x1 : Int32) (sa : Nat → Nat) : vx_Met l yX8_settle wsX8_settle ({ frames := 10, cells := 1, slots := 6, locals := 300 } : Room) (h_P D [(cI, .int)] (tcW ad cI tc_0) [.ref (ad 0), .int x0, .int x1] sz sa) (o_Qi (va_A (tcW ad cI tc_0) sz) (fun _ => False)) (o_X (va_A (tcW ad cI tc_0) sz) (fun E => E = ex_IX)) 1 6 (va_A (tcW ad cI tc_0) sz) := by
  refine vx_ofW (cc := cX8_settle) (maxL := 5) (ret := (some .int)) (by decide) rfl ?_
  intro p e s m args below meth c9 s₁ B hml htab hv
  obtain ⟨rfl, hE, hZ, hsz, hP, hK, hD0⟩ := hv
  have hx := B.exec
  have hb := B.bytes
  have hr := B.returns
  have hts := atoms_spec (ws := wsX8_settle) B.pre
  have hown : s.vm.findClass RX8 = some m.cls := findClass_of_methodNamed B.named
  have hlocks := B.notSynchronized
  subst hsz
  have hD := hD0.self (sz := s.heap.size)
  generalize hAe : va_A (tcW ad cI tc_0) s.heap.size = A at hD hZ ⊢
  have hA : ∀ q : Nat, s.heap.size ≤ q → A q := fun q h => by rw [← hAe]; exact Or.inr h
  have hS : va_S A s.heap s.heap [] := va_S.rf
  have hl := lv_entry ([.ref (ad 0), .int x0, .int x1]) (n := 5) (Nat.le_of_ble_eq_true rfl)
  rw [lg_entry_eq]
  generalize (lg_sl ([.ref (ad 0), .int x0, .int x1]) ++ List.replicate (5 - (lg_sl ([.ref (ad 0), .int x0, .int x1])).length) Slot.unset).toArray = ls at hl ⊢
  have hl : lv_has ls 5 [(0, .ref (ad 0)), (1, .int x0), (2, .int x1)] := hl
  have winX0 : ∀ w ∈ u_ws RX0 TX0 6, w ∈ wsX8_settle := by decide +kernel
  have winX1 : ∀ w ∈ u_ws RX1 TX1 4, w ∈ wsX8_settle := by decide +kernel
  have winX2 : ∀ w ∈ u_ws RX2 TX2 10, w ∈ wsX8_settle := by decide +kernel
  have winX3 : ∀ w ∈ u_ws RX3 TX3 15, w ∈ wsX8_settle := by decide +kernel
  have winX4 : ∀ w ∈ u_ws RX4 TX4 3, w ∈ wsX8_settle := by decide +kernel
  have winX5 : ∀ w ∈ u_ws RX5 TX5 1, w ∈ wsX8_settle := by decide +kernel
  have winX6 : ∀ w ∈ u_ws RX6 TX6 9, w ∈ wsX8_settle := by decide +kernel
  have winX7 : ∀ w ∈ u_ws RX7 TX7 6, w ∈ wsX8_settle := by decide +kernel
  have winX8 : ∀ w ∈ u_ws RX8 TX8 9, w ∈ wsX8_settle := by decide +kernel
  refine lv_aload_n hx hb dX8_settle_0 rfl (lv_at hl 0 rfl) ?_
  refine lv_iload_n hx hb dX8_settle_1 rfl (lv_at hl 1 rfl) ?_
  refine h_kv hK hD hS hA (vx_runV (As := [.int x0]) (rest := []) ⟨hx, hb, hml, hown, hts⟩ (h_needPerson l hfl D ad cI tc_0 s.heap.size x0 sa) (cwV 1 hts gX8_settle_X8_needPerson rfl rfl rfl (by decide +kernel) ⟨Nat.le_of_ble_eq_true rfl, Nat.le_of_ble_eq_true rfl⟩) (h_preV hE hZ hK hP hD hS hA (ci := 8) (q0 := 0) rfl rfl) rfl rfl hl.1 rfl (lv_room (Nat.le_of_ble_eq_true rfl)) dX8_settle_2 ⟨Nat.le_of_ble_eq_true rfl, Nat.le_of_ble_eq_true rfl⟩) (fun E ce q9 H locs hex hP hD hS hce hcv hcl => ?_) (fun H locs ok_37 hP hD hS => ?_)
  · exact o_out htab hlocks hS hce hcv hcl (hex.1) (Nat.le_of_ble_eq_true rfl) (Nat.le_of_ble_eq_true rfl)
  exact absurd (no_person _) ok_37
set_option maxHeartbeats 4000000 in
set_option maxRecDepth 100000 in
theorem o_refund (l : Launch) (hfl : l.stackTraces = false) (D : va_G) (ad : Nat → Nat) (cI : ClassId) (sz : Nat) (x0 x1 x2 : Int32) (sa : Nat → Nat) : vx_Met l yX8_refund wsX8_refund ({ frames := 10, cells := 1, slots := 6, locals := 300 } : Room) (h_P D [(cI, .int)] (tcW ad cI tc_0) [.ref (ad 0), .int x0, .int x1, .int x2] sz sa) (o_Qi (va_A (tcW ad cI tc_0) sz) (fun _ => False)) (o_X (va_A (tcW ad cI tc_0) sz) (fun E => E = ex_IX)) 1 6 (va_A (tcW ad cI tc_0) sz) := by
  refine vx_ofW (cc := cX8_refund) (maxL := 7) (ret := (some .int)) (by decide) rfl ?_
  intro p e s m args below meth c9 s₁ B hml htab hv
  obtain ⟨rfl, hE, hZ, hsz, hP, hK, hD0⟩ := hv
  have hx := B.exec
  have hb := B.bytes
  have hr := B.returns
  have hts := atoms_spec (ws := wsX8_refund) B.pre
  have hown : s.vm.findClass RX8 = some m.cls := findClass_of_methodNamed B.named
  have hlocks := B.notSynchronized
  subst hsz
  have hD := hD0.self (sz := s.heap.size)
  generalize hAe : va_A (tcW ad cI tc_0) s.heap.size = A at hD hZ ⊢
  have hA : ∀ q : Nat, s.heap.size ≤ q → A q := fun q h => by rw [← hAe]; exact Or.inr h
  have hS : va_S A s.heap s.heap [] := va_S.rf
  have hl := lv_entry ([.ref (ad 0), .int x0, .int x1, .int x2]) (n := 7) (Nat.le_of_ble_eq_true rfl)
  rw [lg_entry_eq]
  generalize (lg_sl ([.ref (ad 0), .int x0, .int x1, .int x2]) ++ List.replicate (7 - (lg_sl ([.ref (ad 0), .int x0, .int x1, .int x2])).length) Slot.unset).toArray = ls at hl ⊢
  have hl : lv_has ls 7 [(0, .ref (ad 0)), (1, .int x0), (2, .int x1), (3, .int x2)] := hl
  have winX0 : ∀ w ∈ u_ws RX0 TX0 6, w ∈ wsX8_refund := by decide +kernel
  have winX1 : ∀ w ∈ u_ws RX1 TX1 4, w ∈ wsX8_refund := by decide +kernel
  have winX2 : ∀ w ∈ u_ws RX2 TX2 10, w ∈ wsX8_refund := by decide +kernel
  have winX3 : ∀ w ∈ u_ws RX3 TX3 15, w ∈ wsX8_refund := by decide +kernel
  have winX4 : ∀ w ∈ u_ws RX4 TX4 3, w ∈ wsX8_refund := by decide +kernel
  have winX5 : ∀ w ∈ u_ws RX5 TX5 1, w ∈ wsX8_refund := by decide +kernel
  have winX6 : ∀ w ∈ u_ws RX6 TX6 9, w ∈ wsX8_refund := by decide +kernel
  have winX7 : ∀ w ∈ u_ws RX7 TX7 6, w ∈ wsX8_refund := by decide +kernel
  have winX8 : ∀ w ∈ u_ws RX8 TX8 9, w ∈ wsX8_refund := by decide +kernel
  refine lv_aload_n hx hb dX8_refund_0 rfl (lv_at hl 0 rfl) ?_
  refine lv_iload_n hx hb dX8_refund_1 rfl (lv_at hl 1 rfl) ?_
  refine h_kv hK hD hS hA (vx_runV (As := [.int x0]) (rest := []) ⟨hx, hb, hml, hown, hts⟩ (h_needPerson l hfl D ad cI tc_0 s.heap.size x0 sa) (cwV 1 hts gX8_refund_X8_needPerson rfl rfl rfl (by decide +kernel) ⟨Nat.le_of_ble_eq_true rfl, Nat.le_of_ble_eq_true rfl⟩) (h_preV hE hZ hK hP hD hS hA (ci := 8) (q0 := 0) rfl rfl) rfl rfl hl.1 rfl (lv_room (Nat.le_of_ble_eq_true rfl)) dX8_refund_2 ⟨Nat.le_of_ble_eq_true rfl, Nat.le_of_ble_eq_true rfl⟩) (fun E ce q9 H locs hex hP hD hS hce hcv hcl => ?_) (fun H locs ok_38 hP hD hS => ?_)
  · exact o_out htab hlocks hS hce hcv hcl (hex.1) (Nat.le_of_ble_eq_true rfl) (Nat.le_of_ble_eq_true rfl)
  exact absurd (no_person _) ok_38
set_option maxHeartbeats 4000000 in
set_option maxRecDepth 100000 in
theorem o_ofDay (l : Launch) (hfl : l.stackTraces = false) (D : va_G) (ad : Nat → Nat) (cI : ClassId) (sz : Nat) (x0 x1 x2 : Int32) (sa : Nat → Nat) : vx_Met l yX8_ofDay wsX8_ofDay ({ frames := 10, cells := 1, slots := 6, locals := 300 } : Room) (h_P D [(cI, .int)] (tcW ad cI tc_0) [.ref (ad 0), .int x0, .int x1, .int x2] sz sa) (o_Qi (va_A (tcW ad cI tc_0) sz) (fun _ => False)) (o_X (va_A (tcW ad cI tc_0) sz) (fun E => E = ex_IX)) 1 6 (va_A (tcW ad cI tc_0) sz) := by
  refine vx_ofW (cc := cX8_ofDay) (maxL := 4) (ret := (some .int)) (by decide) rfl ?_
  intro p e s m args below meth c9 s₁ B hml htab hv
  obtain ⟨rfl, hE, hZ, hsz, hP, hK, hD0⟩ := hv
  have hx := B.exec
  have hb := B.bytes
  have hr := B.returns
  have hts := atoms_spec (ws := wsX8_ofDay) B.pre
  have hown : s.vm.findClass RX8 = some m.cls := findClass_of_methodNamed B.named
  have hlocks := B.notSynchronized
  subst hsz
  have hD := hD0.self (sz := s.heap.size)
  generalize hAe : va_A (tcW ad cI tc_0) s.heap.size = A at hD hZ ⊢
  have hA : ∀ q : Nat, s.heap.size ≤ q → A q := fun q h => by rw [← hAe]; exact Or.inr h
  have hS : va_S A s.heap s.heap [] := va_S.rf
  have hl := lv_entry ([.ref (ad 0), .int x0, .int x1, .int x2]) (n := 4) (Nat.le_of_ble_eq_true rfl)
  rw [lg_entry_eq]
  generalize (lg_sl ([.ref (ad 0), .int x0, .int x1, .int x2]) ++ List.replicate (4 - (lg_sl ([.ref (ad 0), .int x0, .int x1, .int x2])).length) Slot.unset).toArray = ls at hl ⊢
  have hl : lv_has ls 4 [(0, .ref (ad 0)), (1, .int x0), (2, .int x1), (3, .int x2)] := hl
  have winX0 : ∀ w ∈ u_ws RX0 TX0 6, w ∈ wsX8_ofDay := by decide +kernel
  have winX1 : ∀ w ∈ u_ws RX1 TX1 4, w ∈ wsX8_ofDay := by decide +kernel
  have winX2 : ∀ w ∈ u_ws RX2 TX2 10, w ∈ wsX8_ofDay := by decide +kernel
  have winX3 : ∀ w ∈ u_ws RX3 TX3 15, w ∈ wsX8_ofDay := by decide +kernel
  have winX4 : ∀ w ∈ u_ws RX4 TX4 3, w ∈ wsX8_ofDay := by decide +kernel
  have winX5 : ∀ w ∈ u_ws RX5 TX5 1, w ∈ wsX8_ofDay := by decide +kernel
  have winX6 : ∀ w ∈ u_ws RX6 TX6 9, w ∈ wsX8_ofDay := by decide +kernel
  have winX7 : ∀ w ∈ u_ws RX7 TX7 6, w ∈ wsX8_ofDay := by decide +kernel
  have winX8 : ∀ w ∈ u_ws RX8 TX8 9, w ∈ wsX8_ofDay := by decide +kernel
  refine lv_aload_n hx hb dX8_ofDay_0 rfl (lv_at hl 0 rfl) ?_
  refine lv_iload_n hx hb dX8_ofDay_1 rfl (lv_at hl 1 rfl) ?_
  refine h_kv hK hD hS hA (vx_runV (As := [.int x0]) (rest := []) ⟨hx, hb, hml, hown, hts⟩ (h_needPerson l hfl D ad cI tc_0 s.heap.size x0 sa) (cwV 1 hts gX8_ofDay_X8_needPerson rfl rfl rfl (by decide +kernel) ⟨Nat.le_of_ble_eq_true rfl, Nat.le_of_ble_eq_true rfl⟩) (h_preV hE hZ hK hP hD hS hA (ci := 8) (q0 := 0) rfl rfl) rfl rfl hl.1 rfl (lv_room (Nat.le_of_ble_eq_true rfl)) dX8_ofDay_2 ⟨Nat.le_of_ble_eq_true rfl, Nat.le_of_ble_eq_true rfl⟩) (fun E ce q9 H locs hex hP hD hS hce hcv hcl => ?_) (fun H locs ok_39 hP hD hS => ?_)
  · exact o_out htab hlocks hS hce hcv hcl (hex.1) (Nat.le_of_ble_eq_true rfl) (Nat.le_of_ble_eq_true rfl)
  exact absurd (no_person _) ok_39
set_option maxHeartbeats 4000000 in
set_option maxRecDepth 100000 in
theorem o_ofLeg (l : Launch) (hfl : l.stackTraces = false) (D : va_G) (ad : Nat → Nat) (cI : ClassId) (sz : Nat) (x0 x1 x2 x3 : Int32) (sa : Nat → Nat) : vx_Met l yX8_ofLeg wsX8_ofLeg ({ frames := 10, cells := 1, slots := 6, locals := 300 } : Room) (h_P D [(cI, .int)] (tcW ad cI tc_0) [.ref (ad 0), .int x0, .int x1, .int x2, .int x3] sz sa) (o_Qi (va_A (tcW ad cI tc_0) sz) (fun _ => False)) (o_X (va_A (tcW ad cI tc_0) sz) (fun E => E = ex_IX)) 1 6 (va_A (tcW ad cI tc_0) sz) := by
  refine vx_ofW (cc := cX8_ofLeg) (maxL := 5) (ret := (some .int)) (by decide) rfl ?_
  intro p e s m args below meth c9 s₁ B hml htab hv
  obtain ⟨rfl, hE, hZ, hsz, hP, hK, hD0⟩ := hv
  have hx := B.exec
  have hb := B.bytes
  have hr := B.returns
  have hts := atoms_spec (ws := wsX8_ofLeg) B.pre
  have hown : s.vm.findClass RX8 = some m.cls := findClass_of_methodNamed B.named
  have hlocks := B.notSynchronized
  subst hsz
  have hD := hD0.self (sz := s.heap.size)
  generalize hAe : va_A (tcW ad cI tc_0) s.heap.size = A at hD hZ ⊢
  have hA : ∀ q : Nat, s.heap.size ≤ q → A q := fun q h => by rw [← hAe]; exact Or.inr h
  have hS : va_S A s.heap s.heap [] := va_S.rf
  have hl := lv_entry ([.ref (ad 0), .int x0, .int x1, .int x2, .int x3]) (n := 5) (Nat.le_of_ble_eq_true rfl)
  rw [lg_entry_eq]
  generalize (lg_sl ([.ref (ad 0), .int x0, .int x1, .int x2, .int x3]) ++ List.replicate (5 - (lg_sl ([.ref (ad 0), .int x0, .int x1, .int x2, .int x3])).length) Slot.unset).toArray = ls at hl ⊢
  have hl : lv_has ls 5 [(0, .ref (ad 0)), (1, .int x0), (2, .int x1), (3, .int x2), (4, .int x3)] := hl
  have winX0 : ∀ w ∈ u_ws RX0 TX0 6, w ∈ wsX8_ofLeg := by decide +kernel
  have winX1 : ∀ w ∈ u_ws RX1 TX1 4, w ∈ wsX8_ofLeg := by decide +kernel
  have winX2 : ∀ w ∈ u_ws RX2 TX2 10, w ∈ wsX8_ofLeg := by decide +kernel
  have winX3 : ∀ w ∈ u_ws RX3 TX3 15, w ∈ wsX8_ofLeg := by decide +kernel
  have winX4 : ∀ w ∈ u_ws RX4 TX4 3, w ∈ wsX8_ofLeg := by decide +kernel
  have winX5 : ∀ w ∈ u_ws RX5 TX5 1, w ∈ wsX8_ofLeg := by decide +kernel
  have winX6 : ∀ w ∈ u_ws RX6 TX6 9, w ∈ wsX8_ofLeg := by decide +kernel
  have winX7 : ∀ w ∈ u_ws RX7 TX7 6, w ∈ wsX8_ofLeg := by decide +kernel
  have winX8 : ∀ w ∈ u_ws RX8 TX8 9, w ∈ wsX8_ofLeg := by decide +kernel
  refine lv_aload_n hx hb dX8_ofLeg_0 rfl (lv_at hl 0 rfl) ?_
  refine lv_iload_n hx hb dX8_ofLeg_1 rfl (lv_at hl 1 rfl) ?_
  refine h_kv hK hD hS hA (vx_runV (As := [.int x0]) (rest := []) ⟨hx, hb, hml, hown, hts⟩ (h_needPerson l hfl D ad cI tc_0 s.heap.size x0 sa) (cwV 1 hts gX8_ofLeg_X8_needPerson rfl rfl rfl (by decide +kernel) ⟨Nat.le_of_ble_eq_true rfl, Nat.le_of_ble_eq_true rfl⟩) (h_preV hE hZ hK hP hD hS hA (ci := 8) (q0 := 0) rfl rfl) rfl rfl hl.1 rfl (lv_room (Nat.le_of_ble_eq_true rfl)) dX8_ofLeg_2 ⟨Nat.le_of_ble_eq_true rfl, Nat.le_of_ble_eq_true rfl⟩) (fun E ce q9 H locs hex hP hD hS hce hcv hcl => ?_) (fun H locs ok_40 hP hD hS => ?_)
  · exact o_out htab hlocks hS hce hcv hcl (hex.1) (Nat.le_of_ble_eq_true rfl) (Nat.le_of_ble_eq_true rfl)
  exact absurd (no_person _) ok_40
set_option maxHeartbeats 4000000 in
set_option maxRecDepth 100000 in
theorem o_ofJourney (l : Launch) (hfl : l.stackTraces = false) (D : va_G) (ad : Nat → Nat) (cI : ClassId) (sz : Nat) (x0 x1 x2 x3 : Int32) (sa : Nat → Nat) : vx_Met l yX8_ofJourney wsX8_ofJourney ({ frames := 10, cells := 1, slots := 6, locals := 300 } : Room) (h_P D [(cI, .int)] (tcW ad cI tc_0) [.ref (ad 0), .int x0, .int x1, .int x2, .int x3] sz sa) (o_Qi (va_A (tcW ad cI tc_0) sz) (fun _ => False)) (o_X (va_A (tcW ad cI tc_0) sz) (fun E => E = ex_IX)) 1 6 (va_A (tcW ad cI tc_0) sz) := by
  refine vx_ofW (cc := cX8_ofJourney) (maxL := 5) (ret := (some .int)) (by decide) rfl ?_
  intro p e s m args below meth c9 s₁ B hml htab hv
  obtain ⟨rfl, hE, hZ, hsz, hP, hK, hD0⟩ := hv
  have hx := B.exec
  have hb := B.bytes
  have hr := B.returns
  have hts := atoms_spec (ws := wsX8_ofJourney) B.pre
  have hown : s.vm.findClass RX8 = some m.cls := findClass_of_methodNamed B.named
  have hlocks := B.notSynchronized
  subst hsz
  have hD := hD0.self (sz := s.heap.size)
  generalize hAe : va_A (tcW ad cI tc_0) s.heap.size = A at hD hZ ⊢
  have hA : ∀ q : Nat, s.heap.size ≤ q → A q := fun q h => by rw [← hAe]; exact Or.inr h
  have hS : va_S A s.heap s.heap [] := va_S.rf
  have hl := lv_entry ([.ref (ad 0), .int x0, .int x1, .int x2, .int x3]) (n := 5) (Nat.le_of_ble_eq_true rfl)
  rw [lg_entry_eq]
  generalize (lg_sl ([.ref (ad 0), .int x0, .int x1, .int x2, .int x3]) ++ List.replicate (5 - (lg_sl ([.ref (ad 0), .int x0, .int x1, .int x2, .int x3])).length) Slot.unset).toArray = ls at hl ⊢
  have hl : lv_has ls 5 [(0, .ref (ad 0)), (1, .int x0), (2, .int x1), (3, .int x2), (4, .int x3)] := hl
  have winX0 : ∀ w ∈ u_ws RX0 TX0 6, w ∈ wsX8_ofJourney := by decide +kernel
  have winX1 : ∀ w ∈ u_ws RX1 TX1 4, w ∈ wsX8_ofJourney := by decide +kernel
  have winX2 : ∀ w ∈ u_ws RX2 TX2 10, w ∈ wsX8_ofJourney := by decide +kernel
  have winX3 : ∀ w ∈ u_ws RX3 TX3 15, w ∈ wsX8_ofJourney := by decide +kernel
  have winX4 : ∀ w ∈ u_ws RX4 TX4 3, w ∈ wsX8_ofJourney := by decide +kernel
  have winX5 : ∀ w ∈ u_ws RX5 TX5 1, w ∈ wsX8_ofJourney := by decide +kernel
  have winX6 : ∀ w ∈ u_ws RX6 TX6 9, w ∈ wsX8_ofJourney := by decide +kernel
  have winX7 : ∀ w ∈ u_ws RX7 TX7 6, w ∈ wsX8_ofJourney := by decide +kernel
  have winX8 : ∀ w ∈ u_ws RX8 TX8 9, w ∈ wsX8_ofJourney := by decide +kernel
  refine lv_aload_n hx hb dX8_ofJourney_0 rfl (lv_at hl 0 rfl) ?_
  refine lv_iload_n hx hb dX8_ofJourney_1 rfl (lv_at hl 1 rfl) ?_
  refine h_kv hK hD hS hA (vx_runV (As := [.int x0]) (rest := []) ⟨hx, hb, hml, hown, hts⟩ (h_needPerson l hfl D ad cI tc_0 s.heap.size x0 sa) (cwV 1 hts gX8_ofJourney_X8_needPerson rfl rfl rfl (by decide +kernel) ⟨Nat.le_of_ble_eq_true rfl, Nat.le_of_ble_eq_true rfl⟩) (h_preV hE hZ hK hP hD hS hA (ci := 8) (q0 := 0) rfl rfl) rfl rfl hl.1 rfl (lv_room (Nat.le_of_ble_eq_true rfl)) dX8_ofJourney_2 ⟨Nat.le_of_ble_eq_true rfl, Nat.le_of_ble_eq_true rfl⟩) (fun E ce q9 H locs hex hP hD hS hce hcv hcl => ?_) (fun H locs ok_41 hP hD hS => ?_)
  · exact o_out htab hlocks hS hce hcv hcl (hex.1) (Nat.le_of_ble_eq_true rfl) (Nat.le_of_ble_eq_true rfl)
  exact absurd (no_person _) ok_41
set_option maxHeartbeats 4000000 in
set_option maxRecDepth 100000 in
theorem o_ofWeek (l : Launch) (hfl : l.stackTraces = false) (D : va_G) (ad : Nat → Nat) (cI : ClassId) (sz : Nat) (x0 x1 x2 : Int32) (sa : Nat → Nat) : vx_Met l yX8_ofWeek wsX8_ofWeek ({ frames := 10, cells := 1, slots := 6, locals := 300 } : Room) (h_P D [(cI, .int)] (tcW ad cI tc_0) [.ref (ad 0), .int x0, .int x1, .int x2] sz sa) (o_Qi (va_A (tcW ad cI tc_0) sz) (fun _ => False)) (o_X (va_A (tcW ad cI tc_0) sz) (fun E => E = ex_IX)) 1 6 (va_A (tcW ad cI tc_0) sz) := by
  refine vx_ofW (cc := cX8_ofWeek) (maxL := 4) (ret := (some .int)) (by decide) rfl ?_
  intro p e s m args below meth c9 s₁ B hml htab hv
  obtain ⟨rfl, hE, hZ, hsz, hP, hK, hD0⟩ := hv
  have hx := B.exec
  have hb := B.bytes
  have hr := B.returns
  have hts := atoms_spec (ws := wsX8_ofWeek) B.pre
  have hown : s.vm.findClass RX8 = some m.cls := findClass_of_methodNamed B.named
  have hlocks := B.notSynchronized
  subst hsz
  have hD := hD0.self (sz := s.heap.size)
  generalize hAe : va_A (tcW ad cI tc_0) s.heap.size = A at hD hZ ⊢
  have hA : ∀ q : Nat, s.heap.size ≤ q → A q := fun q h => by rw [← hAe]; exact Or.inr h
  have hS : va_S A s.heap s.heap [] := va_S.rf
  have hl := lv_entry ([.ref (ad 0), .int x0, .int x1, .int x2]) (n := 4) (Nat.le_of_ble_eq_true rfl)
  rw [lg_entry_eq]
  generalize (lg_sl ([.ref (ad 0), .int x0, .int x1, .int x2]) ++ List.replicate (4 - (lg_sl ([.ref (ad 0), .int x0, .int x1, .int x2])).length) Slot.unset).toArray = ls at hl ⊢
  have hl : lv_has ls 4 [(0, .ref (ad 0)), (1, .int x0), (2, .int x1), (3, .int x2)] := hl
  have winX0 : ∀ w ∈ u_ws RX0 TX0 6, w ∈ wsX8_ofWeek := by decide +kernel
  have winX1 : ∀ w ∈ u_ws RX1 TX1 4, w ∈ wsX8_ofWeek := by decide +kernel
  have winX2 : ∀ w ∈ u_ws RX2 TX2 10, w ∈ wsX8_ofWeek := by decide +kernel
  have winX3 : ∀ w ∈ u_ws RX3 TX3 15, w ∈ wsX8_ofWeek := by decide +kernel
  have winX4 : ∀ w ∈ u_ws RX4 TX4 3, w ∈ wsX8_ofWeek := by decide +kernel
  have winX5 : ∀ w ∈ u_ws RX5 TX5 1, w ∈ wsX8_ofWeek := by decide +kernel
  have winX6 : ∀ w ∈ u_ws RX6 TX6 9, w ∈ wsX8_ofWeek := by decide +kernel
  have winX7 : ∀ w ∈ u_ws RX7 TX7 6, w ∈ wsX8_ofWeek := by decide +kernel
  have winX8 : ∀ w ∈ u_ws RX8 TX8 9, w ∈ wsX8_ofWeek := by decide +kernel
  refine lv_aload_n hx hb dX8_ofWeek_0 rfl (lv_at hl 0 rfl) ?_
  refine lv_iload_n hx hb dX8_ofWeek_1 rfl (lv_at hl 1 rfl) ?_
  refine h_kv hK hD hS hA (vx_runV (As := [.int x0]) (rest := []) ⟨hx, hb, hml, hown, hts⟩ (h_needPerson l hfl D ad cI tc_0 s.heap.size x0 sa) (cwV 1 hts gX8_ofWeek_X8_needPerson rfl rfl rfl (by decide +kernel) ⟨Nat.le_of_ble_eq_true rfl, Nat.le_of_ble_eq_true rfl⟩) (h_preV hE hZ hK hP hD hS hA (ci := 8) (q0 := 0) rfl rfl) rfl rfl hl.1 rfl (lv_room (Nat.le_of_ble_eq_true rfl)) dX8_ofWeek_2 ⟨Nat.le_of_ble_eq_true rfl, Nat.le_of_ble_eq_true rfl⟩) (fun E ce q9 H locs hex hP hD hS hce hcv hcl => ?_) (fun H locs ok_42 hP hD hS => ?_)
  · exact o_out htab hlocks hS hce hcv hcl (hex.1) (Nat.le_of_ble_eq_true rfl) (Nat.le_of_ble_eq_true rfl)
  exact absurd (no_person _) ok_42
set_option maxHeartbeats 4000000 in
set_option maxRecDepth 100000 in
theorem o_guess (l : Launch) (hfl : l.stackTraces = false) (D : va_G) (ad : Nat → Nat) (cI : ClassId) (sz : Nat) (x0 x1 x2 x3 : Int32) (sa : Nat → Nat) : vx_Met l yX8_guess wsX8_guess ({ frames := 10, cells := 1, slots := 6, locals := 300 } : Room) (h_P D [(cI, .int)] (tcW ad cI tc_0) [.ref (ad 0), .int x0, .int x1, .int x2, .int x3] sz sa) (o_Qi (va_A (tcW ad cI tc_0) sz) (fun _ => False)) (o_X (va_A (tcW ad cI tc_0) sz) (fun E => E = ex_IX)) 1 6 (va_A (tcW ad cI tc_0) sz) := by
  refine vx_ofW (cc := cX8_guess) (maxL := 5) (ret := (some .int)) (by decide) rfl ?_
  intro p e s m args below meth c9 s₁ B hml htab hv
  obtain ⟨rfl, hE, hZ, hsz, hP, hK, hD0⟩ := hv
  have hx := B.exec
  have hb := B.bytes
  have hr := B.returns
  have hts := atoms_spec (ws := wsX8_guess) B.pre
  have hown : s.vm.findClass RX8 = some m.cls := findClass_of_methodNamed B.named
  have hlocks := B.notSynchronized
  subst hsz
  have hD := hD0.self (sz := s.heap.size)
  generalize hAe : va_A (tcW ad cI tc_0) s.heap.size = A at hD hZ ⊢
  have hA : ∀ q : Nat, s.heap.size ≤ q → A q := fun q h => by rw [← hAe]; exact Or.inr h
  have hS : va_S A s.heap s.heap [] := va_S.rf
  have hl := lv_entry ([.ref (ad 0), .int x0, .int x1, .int x2, .int x3]) (n := 5) (Nat.le_of_ble_eq_true rfl)
  rw [lg_entry_eq]
  generalize (lg_sl ([.ref (ad 0), .int x0, .int x1, .int x2, .int x3]) ++ List.replicate (5 - (lg_sl ([.ref (ad 0), .int x0, .int x1, .int x2, .int x3])).length) Slot.unset).toArray = ls at hl ⊢
  have hl : lv_has ls 5 [(0, .ref (ad 0)), (1, .int x0), (2, .int x1), (3, .int x2), (4, .int x3)] := hl
  have winX0 : ∀ w ∈ u_ws RX0 TX0 6, w ∈ wsX8_guess := by decide +kernel
  have winX1 : ∀ w ∈ u_ws RX1 TX1 4, w ∈ wsX8_guess := by decide +kernel
  have winX2 : ∀ w ∈ u_ws RX2 TX2 10, w ∈ wsX8_guess := by decide +kernel
  have winX3 : ∀ w ∈ u_ws RX3 TX3 15, w ∈ wsX8_guess := by decide +kernel
  have winX4 : ∀ w ∈ u_ws RX4 TX4 3, w ∈ wsX8_guess := by decide +kernel
  have winX5 : ∀ w ∈ u_ws RX5 TX5 1, w ∈ wsX8_guess := by decide +kernel
  have winX6 : ∀ w ∈ u_ws RX6 TX6 9, w ∈ wsX8_guess := by decide +kernel
  have winX7 : ∀ w ∈ u_ws RX7 TX7 6, w ∈ wsX8_guess := by decide +kernel
  have winX8 : ∀ w ∈ u_ws RX8 TX8 9, w ∈ wsX8_guess := by decide +kernel
  refine lv_aload_n hx hb dX8_guess_0 rfl (lv_at hl 0 rfl) ?_
  refine lv_iload_n hx hb dX8_guess_1 rfl (lv_at hl 1 rfl) ?_
  refine h_kv hK hD hS hA (vx_runV (As := [.int x0]) (rest := []) ⟨hx, hb, hml, hown, hts⟩ (h_needPerson l hfl D ad cI tc_0 s.heap.size x0 sa) (cwV 1 hts gX8_guess_X8_needPerson rfl rfl rfl (by decide +kernel) ⟨Nat.le_of_ble_eq_true rfl, Nat.le_of_ble_eq_true rfl⟩) (h_preV hE hZ hK hP hD hS hA (ci := 8) (q0 := 0) rfl rfl) rfl rfl hl.1 rfl (lv_room (Nat.le_of_ble_eq_true rfl)) dX8_guess_2 ⟨Nat.le_of_ble_eq_true rfl, Nat.le_of_ble_eq_true rfl⟩) (fun E ce q9 H locs hex hP hD hS hce hcv hcl => ?_) (fun H locs ok_43 hP hD hS => ?_)
  · exact o_out htab hlocks hS hce hcv hcl (hex.1) (Nat.le_of_ble_eq_true rfl) (Nat.le_of_ble_eq_true rfl)
  exact absurd (no_person _) ok_43
set_option maxHeartbeats 4000000 in
set_option maxRecDepth 100000 in
theorem o_worth (l : Launch) (hfl : l.stackTraces = false) (D : va_G) (ad : Nat → Nat) (cI : ClassId) (sz : Nat) (x0 x1 x2 : Int32) (sa : Nat → Nat) : vx_Met l yX8_worth wsX8_worth ({ frames := 10, cells := 1, slots := 6, locals := 300 } : Room) (h_P D [(cI, .int)] (tcW ad cI tc_0) [.ref (ad 0), .int x0, .int x1, .int x2] sz sa) (o_Qi (va_A (tcW ad cI tc_0) sz) (fun _ => False)) (o_X (va_A (tcW ad cI tc_0) sz) (fun E => E = ex_IX)) 1 6 (va_A (tcW ad cI tc_0) sz) := by
  refine vx_ofW (cc := cX8_worth) (maxL := 4) (ret := (some .int)) (by decide) rfl ?_
  intro p e s m args below meth c9 s₁ B hml htab hv
  obtain ⟨rfl, hE, hZ, hsz, hP, hK, hD0⟩ := hv
  have hx := B.exec
  have hb := B.bytes
  have hr := B.returns
  have hts := atoms_spec (ws := wsX8_worth) B.pre
  have hown : s.vm.findClass RX8 = some m.cls := findClass_of_methodNamed B.named
  have hlocks := B.notSynchronized
  subst hsz
  have hD := hD0.self (sz := s.heap.size)
  generalize hAe : va_A (tcW ad cI tc_0) s.heap.size = A at hD hZ ⊢
  have hA : ∀ q : Nat, s.heap.size ≤ q → A q := fun q h => by rw [← hAe]; exact Or.inr h
  have hS : va_S A s.heap s.heap [] := va_S.rf
  have hl := lv_entry ([.ref (ad 0), .int x0, .int x1, .int x2]) (n := 4) (Nat.le_of_ble_eq_true rfl)
  rw [lg_entry_eq]
  generalize (lg_sl ([.ref (ad 0), .int x0, .int x1, .int x2]) ++ List.replicate (4 - (lg_sl ([.ref (ad 0), .int x0, .int x1, .int x2])).length) Slot.unset).toArray = ls at hl ⊢
  have hl : lv_has ls 4 [(0, .ref (ad 0)), (1, .int x0), (2, .int x1), (3, .int x2)] := hl
  have winX0 : ∀ w ∈ u_ws RX0 TX0 6, w ∈ wsX8_worth := by decide +kernel
  have winX1 : ∀ w ∈ u_ws RX1 TX1 4, w ∈ wsX8_worth := by decide +kernel
  have winX2 : ∀ w ∈ u_ws RX2 TX2 10, w ∈ wsX8_worth := by decide +kernel
  have winX3 : ∀ w ∈ u_ws RX3 TX3 15, w ∈ wsX8_worth := by decide +kernel
  have winX4 : ∀ w ∈ u_ws RX4 TX4 3, w ∈ wsX8_worth := by decide +kernel
  have winX5 : ∀ w ∈ u_ws RX5 TX5 1, w ∈ wsX8_worth := by decide +kernel
  have winX6 : ∀ w ∈ u_ws RX6 TX6 9, w ∈ wsX8_worth := by decide +kernel
  have winX7 : ∀ w ∈ u_ws RX7 TX7 6, w ∈ wsX8_worth := by decide +kernel
  have winX8 : ∀ w ∈ u_ws RX8 TX8 9, w ∈ wsX8_worth := by decide +kernel
  refine lv_aload_n hx hb dX8_worth_0 rfl (lv_at hl 0 rfl) ?_
  refine lv_iload_n hx hb dX8_worth_1 rfl (lv_at hl 1 rfl) ?_
  refine h_kv hK hD hS hA (vx_runV (As := [.int x0]) (rest := []) ⟨hx, hb, hml, hown, hts⟩ (h_needPerson l hfl D ad cI tc_0 s.heap.size x0 sa) (cwV 1 hts gX8_worth_X8_needPerson rfl rfl rfl (by decide +kernel) ⟨Nat.le_of_ble_eq_true rfl, Nat.le_of_ble_eq_true rfl⟩) (h_preV hE hZ hK hP hD hS hA (ci := 8) (q0 := 0) rfl rfl) rfl rfl hl.1 rfl (lv_room (Nat.le_of_ble_eq_true rfl)) dX8_worth_2 ⟨Nat.le_of_ble_eq_true rfl, Nat.le_of_ble_eq_true rfl⟩) (fun E ce q9 H locs hex hP hD hS hce hcv hcl => ?_) (fun H locs ok_44 hP hD hS => ?_)
  · exact o_out htab hlocks hS hce hcv hcl (hex.1) (Nat.le_of_ble_eq_true rfl) (Nat.le_of_ble_eq_true rfl)
  exact absurd (no_person _) ok_44
set_option maxHeartbeats 4000000 in
set_option maxRecDepth 100000 in
theorem o_tap (l : Launch) (hfl : l.stackTraces = false) (D : va_G) (ad : Nat → Nat) (cI : ClassId) (sz : Nat) (x0 x1 x2 x3 x4 x5 : Int32) (sa : Nat → Nat) : vx_Met l yX8_tap wsX8_tap ({ frames := 10, cells := 5, slots := 30, locals := 300 } : Room) (h_P D [(cI, .int)] (tcW ad cI tc_0) [.ref (ad 0), .int x0, .int x1, .int x2, .int x3, .int x4, .int x5] sz sa) (o_Qi (va_A (tcW ad cI tc_0) sz) (fun _ => False)) (o_X (va_A (tcW ad cI tc_0) sz) (fun E => E = ex_IX)) 5 30 (va_A (tcW ad cI tc_0) sz) := by
  refine vx_ofW (cc := cX8_tap) (maxL := 7) (ret := (some .int)) (by decide) rfl ?_
  intro p e s m args below meth c9 s₁ B hml htab hv
  obtain ⟨rfl, hE, hZ, hsz, hP, hK, hD0⟩ := hv
  have hx := B.exec
  have hb := B.bytes
  have hr := B.returns
  have hts := atoms_spec (ws := wsX8_tap) B.pre
  have hown : s.vm.findClass RX8 = some m.cls := findClass_of_methodNamed B.named
  have hlocks := B.notSynchronized
  subst hsz
  have hD := hD0.self (sz := s.heap.size)
  generalize hAe : va_A (tcW ad cI tc_0) s.heap.size = A at hD hZ ⊢
  have hA : ∀ q : Nat, s.heap.size ≤ q → A q := fun q h => by rw [← hAe]; exact Or.inr h
  have hS : va_S A s.heap s.heap [] := va_S.rf
  have hl := lv_entry ([.ref (ad 0), .int x0, .int x1, .int x2, .int x3, .int x4, .int x5]) (n := 7) (Nat.le_of_ble_eq_true rfl)
  rw [lg_entry_eq]
  generalize (lg_sl ([.ref (ad 0), .int x0, .int x1, .int x2, .int x3, .int x4, .int x5]) ++ List.replicate (7 - (lg_sl ([.ref (ad 0), .int x0, .int x1, .int x2, .int x3, .int x4, .int x5])).length) Slot.unset).toArray = ls at hl ⊢
  have hl : lv_has ls 7 [(0, .ref (ad 0)), (1, .int x0), (2, .int x1), (3, .int x2), (4, .int x3), (5, .int x4), (6, .int x5)] := hl
  have winX0 : ∀ w ∈ u_ws RX0 TX0 6, w ∈ wsX8_tap := by decide +kernel
  have winX5 : ∀ w ∈ u_ws RX5 TX5 1, w ∈ wsX8_tap := by decide +kernel
  have winX6 : ∀ w ∈ u_ws RX6 TX6 9, w ∈ wsX8_tap := by decide +kernel
  have winX8 : ∀ w ∈ u_ws RX8 TX8 9, w ∈ wsX8_tap := by decide +kernel
  refine lv_aload_n hx hb dX8_tap_0 rfl (lv_at hl 0 rfl) ?_
  refine lv_iload_n hx hb dX8_tap_1 rfl (lv_at hl 1 rfl) ?_
  refine lv_iload_n hx hb dX8_tap_2 rfl (lv_at hl 2 rfl) ?_
  refine lv_iload_n hx hb dX8_tap_3 rfl (lv_at hl 3 rfl) ?_
  refine lv_iload hx hb dX8_tap_4 (lv_at hl 5 rfl) ?_
  refine lv_iload hx hb dX8_tap_6 (lv_at hl 6 rfl) ?_
  refine h_kv hK hD hS hA (vx_runV (As := [.int x0, .int x1, .int x2, .int x4, .int x5]) (rest := []) ⟨hx, hb, hml, hown, hts⟩ (h_needTap l hfl D ad cI tc_0 s.heap.size x0 x1 x2 x4 x5 sa) (cwV 5 hts gX8_tap_X8_needTap rfl rfl rfl (by decide +kernel) ⟨Nat.le_of_ble_eq_true rfl, Nat.le_of_ble_eq_true rfl⟩) (h_preV hE hZ hK hP hD hS hA (ci := 8) (q0 := 0) rfl rfl) rfl rfl hl.1 rfl (lv_room (Nat.le_of_ble_eq_true rfl)) dX8_tap_8 ⟨Nat.le_of_ble_eq_true rfl, Nat.le_of_ble_eq_true rfl⟩) (fun E ce q9 H locs hex hP hD hS hce hcv hcl => ?_) (fun H locs ok_45 hP hD hS => ?_)
  · exact o_out htab hlocks hS hce hcv hcl (hex.elim (fun h => h.1) (fun h => h.elim (fun h => h.1) (fun h => h.elim (fun h => h.1) (fun h => h.elim (fun h => h.1) (fun h => absurd h.2.1 (no_card _)))))) (Nat.le_of_ble_eq_true rfl) (Nat.le_of_ble_eq_true rfl)
  exact absurd ok_45.1 (no_card _)
set_option maxHeartbeats 4000000 in
set_option maxRecDepth 100000 in
theorem o_wouldCost (l : Launch) (hfl : l.stackTraces = false) (D : va_G) (ad : Nat → Nat) (cI : ClassId) (sz : Nat) (x0 x1 x2 x3 x4 x5 : Int32) (sa : Nat → Nat) : vx_Met l yX8_wouldCost wsX8_wouldCost ({ frames := 10, cells := 5, slots := 30, locals := 300 } : Room) (h_P D [(cI, .int)] (tcW ad cI tc_0) [.ref (ad 0), .int x0, .int x1, .int x2, .int x3, .int x4, .int x5] sz sa) (o_Qi (va_A (tcW ad cI tc_0) sz) (fun _ => False)) (o_X (va_A (tcW ad cI tc_0) sz) (fun E => E = ex_IX)) 5 30 (va_A (tcW ad cI tc_0) sz) := by
  refine vx_ofW (cc := cX8_wouldCost) (maxL := 10) (ret := (some .int)) (by decide) rfl ?_
  intro p e s m args below meth c9 s₁ B hml htab hv
  obtain ⟨rfl, hE, hZ, hsz, hP, hK, hD0⟩ := hv
  have hx := B.exec
  have hb := B.bytes
  have hr := B.returns
  have hts := atoms_spec (ws := wsX8_wouldCost) B.pre
  have hown : s.vm.findClass RX8 = some m.cls := findClass_of_methodNamed B.named
  have hlocks := B.notSynchronized
  subst hsz
  have hD := hD0.self (sz := s.heap.size)
  generalize hAe : va_A (tcW ad cI tc_0) s.heap.size = A at hD hZ ⊢
  have hA : ∀ q : Nat, s.heap.size ≤ q → A q := fun q h => by rw [← hAe]; exact Or.inr h
  have hS : va_S A s.heap s.heap [] := va_S.rf
  have hl := lv_entry ([.ref (ad 0), .int x0, .int x1, .int x2, .int x3, .int x4, .int x5]) (n := 10) (Nat.le_of_ble_eq_true rfl)
  rw [lg_entry_eq]
  generalize (lg_sl ([.ref (ad 0), .int x0, .int x1, .int x2, .int x3, .int x4, .int x5]) ++ List.replicate (10 - (lg_sl ([.ref (ad 0), .int x0, .int x1, .int x2, .int x3, .int x4, .int x5])).length) Slot.unset).toArray = ls at hl ⊢
  have hl : lv_has ls 10 [(0, .ref (ad 0)), (1, .int x0), (2, .int x1), (3, .int x2), (4, .int x3), (5, .int x4), (6, .int x5)] := hl
  have winX0 : ∀ w ∈ u_ws RX0 TX0 6, w ∈ wsX8_wouldCost := by decide +kernel
  have winX1 : ∀ w ∈ u_ws RX1 TX1 4, w ∈ wsX8_wouldCost := by decide +kernel
  have winX2 : ∀ w ∈ u_ws RX2 TX2 10, w ∈ wsX8_wouldCost := by decide +kernel
  have winX3 : ∀ w ∈ u_ws RX3 TX3 15, w ∈ wsX8_wouldCost := by decide +kernel
  have winX4 : ∀ w ∈ u_ws RX4 TX4 3, w ∈ wsX8_wouldCost := by decide +kernel
  have winX5 : ∀ w ∈ u_ws RX5 TX5 1, w ∈ wsX8_wouldCost := by decide +kernel
  have winX6 : ∀ w ∈ u_ws RX6 TX6 9, w ∈ wsX8_wouldCost := by decide +kernel
  have winX7 : ∀ w ∈ u_ws RX7 TX7 6, w ∈ wsX8_wouldCost := by decide +kernel
  have winX8 : ∀ w ∈ u_ws RX8 TX8 9, w ∈ wsX8_wouldCost := by decide +kernel
  refine lv_aload_n hx hb dX8_wouldCost_0 rfl (lv_at hl 0 rfl) ?_
  refine lv_iload_n hx hb dX8_wouldCost_1 rfl (lv_at hl 1 rfl) ?_
  refine lv_iload_n hx hb dX8_wouldCost_2 rfl (lv_at hl 2 rfl) ?_
  refine lv_iload_n hx hb dX8_wouldCost_3 rfl (lv_at hl 3 rfl) ?_
  refine lv_iload hx hb dX8_wouldCost_4 (lv_at hl 5 rfl) ?_
  refine lv_iload hx hb dX8_wouldCost_6 (lv_at hl 6 rfl) ?_
  refine h_kv hK hD hS hA (vx_runV (As := [.int x0, .int x1, .int x2, .int x4, .int x5]) (rest := []) ⟨hx, hb, hml, hown, hts⟩ (h_needTap l hfl D ad cI tc_0 s.heap.size x0 x1 x2 x4 x5 sa) (cwV 5 hts gX8_wouldCost_X8_needTap rfl rfl rfl (by decide +kernel) ⟨Nat.le_of_ble_eq_true rfl, Nat.le_of_ble_eq_true rfl⟩) (h_preV hE hZ hK hP hD hS hA (ci := 8) (q0 := 0) rfl rfl) rfl rfl hl.1 rfl (lv_room (Nat.le_of_ble_eq_true rfl)) dX8_wouldCost_8 ⟨Nat.le_of_ble_eq_true rfl, Nat.le_of_ble_eq_true rfl⟩) (fun E ce q9 H locs hex hP hD hS hce hcv hcl => ?_) (fun H locs ok_46 hP hD hS => ?_)
  · exact o_out htab hlocks hS hce hcv hcl (hex.elim (fun h => h.1) (fun h => h.elim (fun h => h.1) (fun h => h.elim (fun h => h.1) (fun h => h.elim (fun h => h.1) (fun h => absurd h.2.1 (no_card _)))))) (Nat.le_of_ble_eq_true rfl) (Nat.le_of_ble_eq_true rfl)
  exact absurd ok_46.1 (no_card _)
set_option maxHeartbeats 4000000 in
set_option maxRecDepth 100000 in
theorem o_share (l : Launch) (hfl : l.stackTraces = false) (D : va_G) (ad : Nat → Nat) (cI : ClassId) (sz : Nat) (x0 x1 x2 : Int32) (sa : Nat → Nat) : vx_Met l yX8_share wsX8_share ({ frames := 10, cells := 2, slots := 12, locals := 300 } : Room) (h_P D [(cI, .int)] (tcW ad cI tc_0) [.ref (ad 0), .int x0, .int x1, .int x2] sz sa) (o_Qi (va_A (tcW ad cI tc_0) sz) (fun _ => False)) (o_X (va_A (tcW ad cI tc_0) sz) (fun E => E = ex_IX)) 2 12 (va_A (tcW ad cI tc_0) sz) := by
  refine vx_ofW (cc := cX8_share) (maxL := 4) (ret := (some .int)) (by decide) rfl ?_
  intro p e s m args below meth c9 s₁ B hml htab hv
  obtain ⟨rfl, hE, hZ, hsz, hP, hK, hD0⟩ := hv
  have hx := B.exec
  have hb := B.bytes
  have hr := B.returns
  have hts := atoms_spec (ws := wsX8_share) B.pre
  have hown : s.vm.findClass RX8 = some m.cls := findClass_of_methodNamed B.named
  have hlocks := B.notSynchronized
  subst hsz
  have hD := hD0.self (sz := s.heap.size)
  generalize hAe : va_A (tcW ad cI tc_0) s.heap.size = A at hD hZ ⊢
  have hA : ∀ q : Nat, s.heap.size ≤ q → A q := fun q h => by rw [← hAe]; exact Or.inr h
  have hS : va_S A s.heap s.heap [] := va_S.rf
  have hl := lv_entry ([.ref (ad 0), .int x0, .int x1, .int x2]) (n := 4) (Nat.le_of_ble_eq_true rfl)
  rw [lg_entry_eq]
  generalize (lg_sl ([.ref (ad 0), .int x0, .int x1, .int x2]) ++ List.replicate (4 - (lg_sl ([.ref (ad 0), .int x0, .int x1, .int x2])).length) Slot.unset).toArray = ls at hl ⊢
  have hl : lv_has ls 4 [(0, .ref (ad 0)), (1, .int x0), (2, .int x1), (3, .int x2)] := hl
  have winX0 : ∀ w ∈ u_ws RX0 TX0 6, w ∈ wsX8_share := by decide +kernel
  have winX1 : ∀ w ∈ u_ws RX1 TX1 4, w ∈ wsX8_share := by decide +kernel
  have winX2 : ∀ w ∈ u_ws RX2 TX2 10, w ∈ wsX8_share := by decide +kernel
  have winX3 : ∀ w ∈ u_ws RX3 TX3 15, w ∈ wsX8_share := by decide +kernel
  have winX4 : ∀ w ∈ u_ws RX4 TX4 3, w ∈ wsX8_share := by decide +kernel
  have winX5 : ∀ w ∈ u_ws RX5 TX5 1, w ∈ wsX8_share := by decide +kernel
  have winX6 : ∀ w ∈ u_ws RX6 TX6 9, w ∈ wsX8_share := by decide +kernel
  have winX7 : ∀ w ∈ u_ws RX7 TX7 6, w ∈ wsX8_share := by decide +kernel
  have winX8 : ∀ w ∈ u_ws RX8 TX8 9, w ∈ wsX8_share := by decide +kernel
  refine lv_iload_n hx hb dX8_share_0 rfl (lv_at hl 1 rfl) ?_
  refine lv_iconst (v := 3) hx hb dX8_share_1 (by decide) ?_
  refine h_kv hK hD hS hA (vx_runS (As := [.int x0, .int 3]) (rest := []) ⟨hx, hb, hml, hown, hts⟩ (h_needNumber l hfl D [(cI, .int)] (tcW ad cI tc_0) s.heap.size x0 3 sa) (cwS 2 hts gX8_share_X8_needNumber rfl rfl rfl (by decide +kernel) ⟨Nat.le_of_ble_eq_true rfl, Nat.le_of_ble_eq_true rfl⟩) (h_preS hE hZ hK hP hD hS hA) rfl rfl hl.1 rfl (lv_room (Nat.le_of_ble_eq_true rfl)) dX8_share_2 ⟨Nat.le_of_ble_eq_true rfl, Nat.le_of_ble_eq_true rfl⟩) (fun E ce q9 H locs hex hP hD hS hce hcv hcl => ?_) (fun H locs ok_47 hP hD hS => ?_)
  · exact o_out htab hlocks hS hce hcv hcl (hex.1) (Nat.le_of_ble_eq_true rfl) (Nat.le_of_ble_eq_true rfl)
  refine lv_aload_n hx hb dX8_share_5 rfl (lv_at hl 0 rfl) ?_
  refine lv_iload_n hx hb dX8_share_6 rfl (lv_at hl 2 rfl) ?_
  refine h_kv hK hD hS hA (vx_runV (As := [.int x1]) (rest := []) ⟨hx, hb, hml, hown, hts⟩ (h_needPerson l hfl D ad cI tc_0 H.size x1 sa) (cwV 1 hts gX8_share_X8_needPerson rfl rfl rfl (by decide +kernel) ⟨Nat.le_of_ble_eq_true rfl, Nat.le_of_ble_eq_true rfl⟩) (h_preV hE hZ hK hP hD hS hA (ci := 8) (q0 := 0) rfl rfl) rfl rfl hl.1 rfl (lv_room (Nat.le_of_ble_eq_true rfl)) dX8_share_7 ⟨Nat.le_of_ble_eq_true rfl, Nat.le_of_ble_eq_true rfl⟩) (fun E ce q9 H locs hex hP hD hS hce hcv hcl => ?_) (fun H locs ok_48 hP hD hS => ?_)
  · exact o_out htab hlocks hS hce hcv hcl (hex.1) (Nat.le_of_ble_eq_true rfl) (Nat.le_of_ble_eq_true rfl)
  exact absurd (no_person _) ok_48
