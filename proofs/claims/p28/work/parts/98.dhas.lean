/-! is there one of the same -/
noncomputable def allE (f v : Nat → Int32) (w : Nat) : Int32 := @ite Int32 (∀ j, j < w → f j = v j) (Classical.propDecidable _) 1 0
theorem allE_0 {f v : Nat → Int32} : allE f v 0 = 1 := if_pos (fun j h => absurd h (Nat.not_lt_zero j))
theorem allE_t {f v : Nat → Int32} {w : Nat} (h : f w = v w) : allE f v w = allE f v (w + 1) := by
  unfold allE
  by_cases c : ∀ j, j < w → f j = v j
  · rw [if_pos c, if_pos]
    intro j hj
    rcases Nat.eq_or_lt_of_le (Nat.le_of_lt_succ hj) with e | e
    · rw [e]; exact h
    · exact c j e
  · rw [if_neg c, if_neg]
    exact fun q => c (fun j hj => q j (by omega))
theorem allE_f {f v : Nat → Int32} {w : Nat} (h : ¬ f w = v w) : allE f v (w + 1) = 0 := if_neg (fun q => h (q w (Nat.lt_succ_self w)))
theorem hasV_t {f : Nat → Nat → Int32} {v : Nat → Int32} {k : Nat} (h : ¬ allE (f k) v 6 = 0) : hasV f v (k + 1) = nI k := by
  unfold allE at h
  rw [hasV_s]
  by_cases c : ∀ j, j < 6 → f k j = v j
  · rw [if_pos c]
  · exact absurd (if_neg c) h
theorem hasV_f {f : Nat → Nat → Int32} {v : Nat → Int32} {k : Nat} (h : allE (f k) v 6 = 0) : hasV f v (k + 1) = hasV f v k := by
  unfold allE at h
  rw [hasV_s]
  by_cases c : ∀ j, j < 6 → f k j = v j
  · rw [if_pos c] at h; exact absurd h (by decide)
  · rw [if_neg c]
theorem nI_geq {a b : Nat} (ha : a < 2 ^ 31) (hb : b < 2 ^ 31) : nI b ≤ nI a ↔ b ≤ a := by
  rw [Int32.le_iff_toInt_le, nI_toInt ha, nI_toInt hb]; omega
theorem nI_ltq {a b : Nat} (ha : a < 2 ^ 31) (hb : b < 2 ^ 31) : nI a < nI b ↔ a < b := by
  rw [Int32.lt_iff_toInt_lt, nI_toInt ha, nI_toInt hb]; omega

section TH
variable {p : Program} {l : Launch} {e : Env} {s : State} {m : MethodId} {args : Array Value} {below : List Frame} {meth : Method} {c : Code} {H : Heap} {locs : List Loc} {cells slots : Nat} {Q : State → Prop}
variable {D : va_G} {A : Nat → Prop} {H0 : Heap} {ad : Nat → Nat} {o9 b : Nat} {y : tA} {cI cO : ClassId} {g : tG} {dr : Nat} {cd : Int32} {nf n : Nat}
variable {q : Nat} {v : Nat → Int32} {R : Room}
set_option maxHeartbeats 4000000 in
set_option maxRecDepth 100000 in
theorem s_has_in (hx : p.tables.exec = Jvm.exec) (hb : c.code = cX9_has) (hts : ∀ w ∈ wsX9_has, w.before args s = true) (hown : s.vm.findClass RX9 = some m.cls) (hK : va_K D vwCl (tY_T cI cO) s) (hP : va_P D vwCl (tW ad o9 y b cI cO g dr cd nf n ++ [(q, .inl (cI, 6, .inl v))]) H) (hn : n ≤ 40) {k : Nat} (hk : k < n) (at0 : Int32) (kk : ∀ ls : Array Slot, lv_has ls 6 [(5, .int (nI 6)), (4, .int (allE (tPv g k) v 6)), (3, .int (nI k)), (2, .int at0), (0, .ref o9), (1, .ref q)] → W p l e R s m args below meth c H locs cells slots Q (F0 m 51 ls [])) : ∀ (d w : Nat), w + d = 6 → ∀ ls : Array Slot, lv_has ls 6 [(5, .int (nI w)), (4, .int (allE (tPv g k) v w)), (3, .int (nI k)), (2, .int at0), (0, .ref o9), (1, .ref q)] → W p l e R s m args below meth c H locs cells slots Q (F0 m 19 ls []) := by
  have winX9 : ∀ w ∈ u_ws RX9 TX9 9, w ∈ wsX9_has := by decide +kernel
  intro d
  induction d with
  | zero =>
    intro w hw ls hl
    have e : w = 6 := by omega
    subst e
    refine lv_iload hx hb dX9_has_19 (lv_at hl 0 rfl) ?_
    refine lv_bipush (v := 6) hx hb dX9_has_21 (by decide) ?_
    refine lv_icmp_ge (tgt := 51) hx hb dX9_has_23 (by decide) (fun c1 => ?_) (fun c1 => absurd ((nI_geq (a := 6) (b := 6) (by decide) (by decide)).mpr (by decide)) c1)
    exact kk ls hl
  | succ d ih =>
    intro w hw ls hl
    refine lv_iload hx hb dX9_has_19 (lv_at hl 0 rfl) ?_
    refine lv_bipush (v := 6) hx hb dX9_has_21 (by decide) ?_
    refine lv_icmp_ge (tgt := 51) hx hb dX9_has_23 (by decide) (fun c1 => absurd ((nI_geq (b := 6) (by omega) (by decide)).mp c1) (by omega)) (fun c1 => ?_)
    refine lv_aload_n hx hb dX9_has_26 rfl (lv_at hl 4 rfl) ?_
    refine va_get (D := D) (ci := 9) (v := .ref y.aP) (C := RX9) (T := TX9) (N := 9) hx hb hts winX9 hown hK hP 98 rfl rfl 8 (by decide) (hts (.fieldLink RX9 31 "TapCapLaw$Told" "taps" "[[I") (List.mem_of_getElem? (i := 1) rfl)) (fun _ h9 => h9) rfl dX9_has_27 ?_
    refine lv_iload_n hx hb dX9_has_30 rfl (lv_at hl 2 rfl) ?_
    refine t_ald hx hb hK hP 101 1 k (get_first tW_p) rfl hk (by omega) (tAA_at hk) dX9_has_31 ?_
    refine lv_iload hx hb dX9_has_32 (lv_at hl 0 rfl) ?_
    refine t_ild hx hb hK hP (102 + nf + k) 0 w (get_first (tW_rp hk)) rfl (by omega) (by decide) dX9_has_34 ?_
    refine lv_aload_n hx hb dX9_has_35 rfl (lv_at hl 5 rfl) ?_
    refine lv_iload hx hb dX9_has_36 (lv_at hl 0 rfl) ?_
    refine t_ild hx hb hK hP (tW ad o9 y b cI cO g dr cd nf n).length 0 w get_last rfl (by omega) (by decide) dX9_has_38 ?_
    refine lv_icmp_eq (tgt := 45) hx hb dX9_has_39 (by decide) (fun c1 => ?_) (fun c1 => ?_)
    · have ew := allE_t (f := tPv g k) (v := v) (w := w) c1
      rw [ew] at hl
      refine lv_iinc (v := nI (w + 1)) (lv' := [(5, .int (nI (w + 1))), (4, .int (allE (tPv g k) v (w + 1))), (3, .int (nI k)), (2, .int at0), (0, .ref o9), (1, .ref q)]) hx hb dX9_has_45 hl (k := 0) rfl (nI_1 w) (by decide) rfl (fun ls hl => ?_)
      refine lv_goto (tgt := 19) hx hb dX9_has_48 (by decide) ?_
      exact ih (w + 1) (by omega) ls (lv_sub hl [0, 1, 2, 3, 4, 5] rfl)
    · have ew := allE_f (f := tPv g k) (v := v) (w := w) c1
      refine lv_iconst (v := 0) hx hb dX9_has_42 (by decide) ?_
      refine lv_istore (lv' := [(4, .int 0), (5, .int (nI w)), (3, .int (nI k)), (2, .int at0), (0, .ref o9), (1, .ref q)]) hx hb dX9_has_43 hl (by decide) rfl (fun ls hl => ?_)
      rw [← ew] at hl
      refine lv_iinc (v := nI (w + 1)) (lv' := [(5, .int (nI (w + 1))), (4, .int (allE (tPv g k) v (w + 1))), (3, .int (nI k)), (2, .int at0), (0, .ref o9), (1, .ref q)]) hx hb dX9_has_45 hl (k := 1) rfl (nI_1 w) (by decide) rfl (fun ls hl => ?_)
      refine lv_goto (tgt := 19) hx hb dX9_has_48 (by decide) ?_
      exact ih (w + 1) (by omega) ls (lv_sub hl [0, 1, 2, 3, 4, 5] rfl)
set_option maxHeartbeats 4000000 in
set_option maxRecDepth 100000 in
theorem s_has_out (hx : p.tables.exec = Jvm.exec) (hb : c.code = cX9_has) (hts : ∀ w ∈ wsX9_has, w.before args s = true) (hown : s.vm.findClass RX9 = some m.cls) (hK : va_K D vwCl (tY_T cI cO) s) (hP : va_P D vwCl (tW ad o9 y b cI cO g dr cd nf n ++ [(q, .inl (cI, 6, .inl v))]) H) (hn : n ≤ 40) (kk : ∀ ls : Array Slot, lv_has ls 6 [(3, .int (nI n)), (2, .int (hasV (tPv g) v n)), (0, .ref o9), (1, .ref q)] → W p l e R s m args below meth c H locs cells slots Q (F0 m 64 ls [])) : ∀ (d k : Nat), k + d = n → ∀ ls : Array Slot, lv_has ls 6 [(3, .int (nI k)), (2, .int (hasV (tPv g) v k)), (0, .ref o9), (1, .ref q)] → W p l e R s m args below meth c H locs cells slots Q (F0 m 4 ls []) := by
  have winX9 : ∀ w ∈ u_ws RX9 TX9 9, w ∈ wsX9_has := by decide +kernel
  intro d
  induction d with
  | zero =>
    intro k hk ls hl
    have e : k = n := by omega
    subst e
    refine lv_iload_n hx hb dX9_has_4 rfl (lv_at hl 0 rfl) ?_
    refine lv_aload_n hx hb dX9_has_5 rfl (lv_at hl 2 rfl) ?_
    refine va_get (D := D) (ci := 9) (v := .ref y.aP) (C := RX9) (T := TX9) (N := 9) hx hb hts winX9 hown hK hP 98 rfl rfl 8 (by decide) (hts (.fieldLink RX9 31 "TapCapLaw$Told" "taps" "[[I") (List.mem_of_getElem? (i := 1) rfl)) (fun _ h9 => h9) rfl dX9_has_6 ?_
    refine va_alen hx hb hK hP 101 1 (get_first tW_p) rfl (v := nI k) rfl dX9_has_9 ?_
    refine lv_icmp_ge (tgt := 64) hx hb dX9_has_10 (by decide) (fun c1 => ?_) (fun c1 => absurd ((nI_geq (by omega) (by omega)).mpr (Nat.le_refl k)) c1)
    exact kk ls hl
  | succ d ih =>
    intro k hk ls hl
    refine lv_iload_n hx hb dX9_has_4 rfl (lv_at hl 0 rfl) ?_
    refine lv_aload_n hx hb dX9_has_5 rfl (lv_at hl 2 rfl) ?_
    refine va_get (D := D) (ci := 9) (v := .ref y.aP) (C := RX9) (T := TX9) (N := 9) hx hb hts winX9 hown hK hP 98 rfl rfl 8 (by decide) (hts (.fieldLink RX9 31 "TapCapLaw$Told" "taps" "[[I") (List.mem_of_getElem? (i := 1) rfl)) (fun _ h9 => h9) rfl dX9_has_6 ?_
    refine va_alen hx hb hK hP 101 1 (get_first tW_p) rfl (v := nI n) rfl dX9_has_9 ?_
    refine lv_icmp_ge (tgt := 64) hx hb dX9_has_10 (by decide) (fun c1 => absurd ((nI_geq (by omega) (by omega)).mp c1) (by omega)) (fun c1 => ?_)
    refine lv_iconst (v := 1) hx hb dX9_has_13 (by decide) ?_
    refine lv_istore (lv' := [(4, .int 1), (3, .int (nI k)), (2, .int (hasV (tPv g) v k)), (0, .ref o9), (1, .ref q)]) hx hb dX9_has_14 hl (by decide) rfl (fun ls hl => ?_)
    refine lv_iconst (v := 0) hx hb dX9_has_16 (by decide) ?_
    refine lv_istore (lv' := [(5, .int 0), (4, .int 1), (3, .int (nI k)), (2, .int (hasV (tPv g) v k)), (0, .ref o9), (1, .ref q)]) hx hb dX9_has_17 hl (by decide) rfl (fun ls hl => ?_)
    rw [show (.int 1 : Value) = .int (allE (tPv g k) v 0) by rw [allE_0]] at hl
    refine s_has_in hx hb hts hown hK hP hn (by omega) (hasV (tPv g) v k) (fun ls hl => ?_) 6 0 rfl ls (lv_sub hl [0, 1, 2, 3, 4, 5] rfl)
    refine lv_iload hx hb dX9_has_51 (lv_at hl 1 rfl) ?_
    refine lv_if_eq (tgt := 58) hx hb dX9_has_53 (by decide) (fun c1 => ?_) (fun c1 => ?_)
    · rw [← hasV_f c1] at hl
      refine lv_iinc (v := nI (k + 1)) (lv' := [(3, .int (nI (k + 1))), (5, .int (nI 6)), (4, .int (allE (tPv g k) v 6)), (2, .int (hasV (tPv g) v (k + 1))), (0, .ref o9), (1, .ref q)]) hx hb dX9_has_58 hl (k := 2) rfl (nI_1 k) (by decide) rfl (fun ls hl => ?_)
      refine lv_goto (tgt := 4) hx hb dX9_has_61 (by decide) ?_
      exact ih (k + 1) (by omega) ls (lv_sub hl [0, 3, 4, 5] rfl)
    · refine lv_iload_n hx hb dX9_has_56 rfl (lv_at hl 2 rfl) ?_
      refine lv_istore_n (lv' := [(2, .int (nI k)), (5, .int (nI 6)), (4, .int (allE (tPv g k) v 6)), (3, .int (nI k)), (0, .ref o9), (1, .ref q)]) hx hb dX9_has_57 rfl hl (by decide) rfl (fun ls hl => ?_)
      have hv9 := hasV_t c1
      refine lv_iinc (v := nI (k + 1)) (lv' := [(3, .int (nI (k + 1))), (2, .int (nI k)), (5, .int (nI 6)), (4, .int (allE (tPv g k) v 6)), (0, .ref o9), (1, .ref q)]) hx hb dX9_has_58 hl (k := 3) rfl (nI_1 k) (by decide) rfl (fun ls hl => ?_)
      refine lv_goto (tgt := 4) hx hb dX9_has_61 (by decide) ?_
      exact ih (k + 1) (by omega) ls (by rw [hv9]; exact lv_sub hl [0, 1, 4, 5] rfl)
end TH
set_option maxHeartbeats 4000000 in
set_option maxRecDepth 100000 in
theorem kX9_has (l : Launch) (D : va_G) (sz b : Nat) (ad : Nat → Nat) (o9 : Nat) (y : tA) (cI cO : ClassId) (g : tG) (dr : Nat) (cd : Int32) (nf n : Nat) (q : Nat) (v : Nat → Int32) (hn : n ≤ 40) : Met l yX9_has wsX9_has ({ frames := 0, cells := 0, slots := 0, locals := 0 } : Room) (g_P D (tY_T cI cO) (tW ad o9 y b cI cO g dr cd nf n ++ [(q, .inl (cI, 6, .inl (v)))]) [.ref o9, .ref q] sz) (g_Qi D (tY_T cI cO) (va_A (tW ad o9 y b cI cO g dr cd nf n ++ [(q, .inl (cI, 6, .inl (v)))]) sz) (tW ad o9 y b cI cO g dr cd nf n ++ [(q, .inl (cI, 6, .inl (v)))]) (hasV (tPv g) v n)) 0 0 (va_A (tW ad o9 y b cI cO g dr cd nf n ++ [(q, .inl (cI, 6, .inl (v)))]) sz) := by
  refine Met.ofW (cc := cX9_has) (maxL := 6) (ret := (some .int)) (by decide) rfl ?_
  intro p e s m args below meth c9 s₁ B hml hv
  obtain ⟨rfl, hsz, hP, hK, hD0⟩ := hv
  have hx := B.exec
  have hb := B.bytes
  have hr := B.returns
  have hts := atoms_spec (ws := wsX9_has) B.pre
  have hown : s.vm.findClass RX9 = some m.cls := findClass_of_methodNamed B.named
  have hlocks := B.notSynchronized
  subst hsz
  have hD := hD0.self (sz := s.heap.size)
  generalize hAe : va_A (tW ad o9 y b cI cO g dr cd nf n ++ [(q, .inl (cI, 6, .inl (v)))]) s.heap.size = A at hD ⊢
  have hA : ∀ q : Nat, s.heap.size ≤ q → A q := fun q h => by rw [← hAe]; exact Or.inr h
  have hS : va_S A s.heap s.heap [] := va_S.rf
  have hl := lv_entry ([.ref o9, .ref q]) (n := 6) (Nat.le_of_ble_eq_true rfl)
  rw [lg_entry_eq]
  generalize (lg_sl ([.ref o9, .ref q]) ++ List.replicate (6 - (lg_sl ([.ref o9, .ref q])).length) Slot.unset).toArray = ls at hl ⊢
  have hl : lv_has ls 6 [(0, .ref o9), (1, .ref q)] := hl
  refine lv_iconst (v := (-1)) hx hb dX9_has_0 (by decide) ?_
  refine lv_istore_n (lv' := [(2, .int ((-1))), (0, .ref o9), (1, .ref q)]) hx hb dX9_has_1 rfl hl (by decide) rfl (fun ls hl => ?_)
  refine lv_iconst (v := 0) hx hb dX9_has_2 (by decide) ?_
  refine lv_istore_n (lv' := [(3, .int 0), (2, .int ((-1))), (0, .ref o9), (1, .ref q)]) hx hb dX9_has_3 rfl hl (by decide) rfl (fun ls hl => ?_)
  refine s_has_out hx hb hts hown hK hP hn (fun ls hl => ?_) n 0 (by omega) ls (by rw [hasV_0]; exact lv_sub hl [0, 1, 2, 3] rfl)
  refine lv_iload_n hx hb dX9_has_64 rfl (lv_at hl 1 rfl) ?_
  exact g_iret hx hb hr rfl hlocks hK hP hD hS rfl dX9_has_65
