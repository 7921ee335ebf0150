/-! isTurned -/
abbrev tZ_T (cI cO cZ : ClassId) : List (ClassId × FieldType) := [(cI, .int), (cO, .array .int), (cZ, .boolean)]
theorem tW_keep {ad : Nat → Nat} {o9 : Nat} {y : tA} {b : Nat} {cI cO : ClassId} {g g' : tG} {dr : Nat} {cd : Int32} {nf n : Nat} (k : KEEP g g') : tcW ad cI g' ++ tX ad o9 y b cI cO g dr cd nf n = tW ad o9 y b cI cO g' dr cd nf n := by
  unfold tW
  rw [tX_keep k]
theorem ofDay_congr {g h : tG} {n c : Nat} (vg : VAL g n c) (vh : VAL h n c) (s : SAME g h n) (p : Int32) {d : Nat} (hd : d < 28) (what : Int32) : fX8_ofDay_r g p (nI d) what = fX8_ofDay_r h p (nI d) what := by
  obtain ⟨v1, v2, v3, -, -, v6⟩ := vg
  obtain ⟨w1, -, w3, -, -, w6⟩ := vh
  obtain ⟨hA, -⟩ := study_AG (by omega) v3 s v6 w6 p (-1)
  unfold fX8_ofDay_r
  simp only [v1, w1]
  exact hA.day hd _
theorem ofDay_1 (g : tG) (p d : Int32) : fX8_ofDay_r g p d 1 = gA (fX8_study_w g p (g 45 4) (-1)) 27 d := by
  unfold fX8_ofDay_r fX8_dayAnswer_r
  rw [if_neg (by decide), if_pos rfl]
/-- while both are asked -/
def CHK (g0 g h : tG) (n n' : Nat) (f : Nat → Int32) : Prop := KEEP g0 g ∧ TURN g h n n' ∧ (∀ p, p < 3 → f p = 0 → UNMIX g n (nI p)) ∧ PER g ∧ PER h
theorem CHK.keep {g0 g h g' h' : tG} {n n' : Nat} {f : Nat → Int32} (k : CHK g0 g h n n' f) (k1 : KEEP g g') (k2 : KEEP h h') : CHK g0 g' h' n n' f :=
  ⟨k.1.tr k1, k.2.1.keep k1 k2, fun p hp h0 => (k.2.2.1 p hp h0).keep k1, (k1.stay (n := 0)).per k.2.2.2.1, (k2.stay (n := 0)).per k.2.2.2.2⟩
theorem CHK.day {g0 g h : tG} {n n' : Nat} {f : Nat → Int32} (k : CHK g0 g h n n' f) {p d q : Nat} (hp : p < 3) (hf : f p = 0) (hd : d < 10) (hq : q < 7) : fX8_ofDay_r h (nI p) (nI d) (nI q) = fX8_ofDay_r g (nI p) (nI d) (nI q) := (turn_day k.2.1 (k.2.2.1 p hp hf) hd).1 q hq
theorem CHK.leg {g0 g h : tG} {n n' : Nat} {f : Nat → Int32} (k : CHK g0 g h n n' f) {p d i c : Nat} (hp : p < 3) (hf : f p = 0) (hd : d < 10) (hc : fX8_ofDay_r h (nI p) (nI d) 1 = nI c) (hc41 : c ≤ 41) (hi : i < c) (what : Int32) : fX8_ofLeg_r h (nI p) (nI d) (nI i) what = fX8_ofLeg_r g (nI p) (nI d) (nI i) what := by
  obtain ⟨c', h41, e, a⟩ := (turn_day k.2.1 (k.2.2.1 p hp hf) hd).2
  have : c' = c := nI_inj (by omega) (by omega) (e.symm.trans hc)
  exact a i (by omega) what
theorem CHK.isP {g0 g h : tG} {n n' : Nat} {f : Nat → Int32} (k : CHK g0 g h n n' f) {p : Nat} (hp : p < 3) : ¬ (fX0_isPerson_r g (nI p)) = 0 ∧ ¬ (fX0_isPerson_r h (nI p)) = 0 :=
  ⟨by rw [per_is k.2.1.1.2.2.2.1 k.2.2.2.1 hp]; decide, by rw [per_is k.2.1.2.1.2.2.2.1 k.2.2.2.2 hp]; decide⟩
theorem CHK.cnt {g0 g h h' : tG} {n n' : Nat} {f : Nat → Int32} (k : CHK g0 g h n n' f) (k2 : KEEP h h') {p d : Nat} (hd : d < 10) {x : Int32} (hc : fX8_ofDay_r h (nI p) (nI d) 1 = x) : fX8_ofDay_r h' (nI p) (nI d) 1 = x := by
  rw [← ofDay_congr k.2.1.2.1 (k2.val k.2.1.2.1) k2.same (nI p) (by omega) 1]; exact hc
theorem nI_pd (k : Nat) : nI (k + 1) - 1 = nI k := nI_pred k
theorem iinc_m1 (k : Nat) : nI k + (-1) = nI k - 1 := by rw [Int32.sub_eq_add_neg]
/-- the card of two taps of one minute is marked -/
def MIXJ (g : tG) (f : Nat → Int32) (i j : Nat) : Prop := ∀ b, b < j → g 13 b = g 13 i → g 17 b = g 17 i → g 18 b = g 18 i → ∀ c, c < 3 → g 13 i = nI c → ¬ f c = 0
def MON (f f' : Nat → Int32) : Prop := ∀ c, ¬ f c = 0 → ¬ f' c = 0
theorem MIXJ.no {g : tG} {f : Nat → Int32} {i j : Nat} (h : MIXJ g f i j) (e : ¬ (g 13 j = g 13 i ∧ g 17 j = g 17 i ∧ g 18 j = g 18 i)) : MIXJ g f i (j + 1) := by
  intro b hb a1 a2 a3
  rcases Nat.eq_or_lt_of_le (Nat.le_of_lt_succ hb) with q | q
  · rw [q] at a1 a2 a3; exact absurd ⟨a1, a2, a3⟩ e
  · exact h b q a1 a2 a3
theorem MIXJ.yes {g : tG} {f : Nat → Int32} {i j c : Nat} {x : Int32} (h : MIXJ g f i j) (hc : c < 3) (hi : g 13 i = nI c) (hx : ¬ x = 0) : MIXJ g (upd f c x) i (j + 1) ∧ MON f (upd f c x) := by
  have key : ∀ c', c' < 3 → g 13 i = nI c' → ¬ upd f c x c' = 0 := by
    intro c' hc' e
    have : c' = c := nI_inj (by omega) (by omega) (e.symm.trans hi)
    rw [this, upd_s]; exact hx
  refine ⟨fun b _ _ _ _ c' hc' e => key c' hc' e, fun c' hc' => ?_⟩
  by_cases q : c' = c
  · rw [q, upd_s]; exact hx
  · rw [upd_n q]; exact hc'
theorem MIX.next {g : tG} {n i : Nat} {f f' : Nat → Int32} (h : MIX g n f (i + 1)) (hm : MON f f') (hj : MIXJ g f' i i) : MIX g n f' i := by
  intro a ha han b hb e1 e2 e3 c hc e
  rcases Nat.eq_or_lt_of_le ha with q | q
  · subst q; exact hj b hb e1 e2 e3 c hc e
  · exact hm c (h a q han b hb e1 e2 e3 c hc e)

section TU
variable {p : Program} {l : Launch} {e : Env} {s : State} {m : MethodId} {args : Array Value} {below : List Frame} {meth : Method} {c : Code} {H : Heap} {locs : List Loc} {cells slots : Nat} {Q : State → Prop}
variable {D : va_G} {A : Nat → Prop} {H0 : Heap} {ad : Nat → Nat} {o9 b : Nat} {y : tA} {cI cO : ClassId} {g : tG} {dr : Nat} {cd : Int32} {nf n : Nat}
variable {ad3 : Nat → Nat} {h g0 : tG} {E : va_W} {f : Nat → Int32} {qz : Nat} {cZ : ClassId}
set_option maxHeartbeats 4000000 in
set_option maxRecDepth 100000 in
theorem s_tur_zone (hx : p.tables.exec = Jvm.exec) (hb : c.code = cL_isTurned) (hml : c.maxLocals = 7) (hts : ∀ w ∈ wsL_isTurned, w.before args s = true) (hown : s.vm.findClass RL = some m.cls) (hA : ∀ q : Nat, s.heap.size ≤ q → A q) (hK : va_K D vwCl (tY_T cI cO) s) (hcl : cells ≤ 99) (hsl : slots ≤ 2268) (hg : ZON g) : ∀ (d k : Nat) (h : tG) (H : Heap) (locs : List Loc) (ls : Array Slot), k + d = 10 → STG h 3 1 → (∀ i, i < k → h 0 i = g 0 i) → lv_has ls 7 [(2, .int (nI k)), (0, .ref o9), (1, .ref (ad3 0))] → va_P D vwCl (tcW ad3 cI h ++ (tW ad o9 y b cI cO g dr cd nf n ++ E)) H → va_D A (tcW ad3 cI h ++ (tW ad o9 y b cI cO g dr cd nf n ++ E)) → va_S A s.heap H locs → (∀ (h : tG) (H : Heap) (locs : List Loc) (ls : Array Slot), STG h 3 1 → (∀ i, i < 10 → h 0 i = g 0 i) → lv_has ls 7 [(2, .int (nI 10)), (0, .ref o9), (1, .ref (ad3 0))] → va_P D vwCl (tcW ad3 cI h ++ (tW ad o9 y b cI cO g dr cd nf n ++ E)) H → va_D A (tcW ad3 cI h ++ (tW ad o9 y b cI cO g dr cd nf n ++ E)) → va_S A s.heap H locs → W p l e ({ frames := 8, cells := 99, slots := 2268, locals := 230 } : Room) s m args below meth c H locs cells slots Q (F0 m 52 ls [])) → W p l e ({ frames := 8, cells := 99, slots := 2268, locals := 230 } : Room) s m args below meth c H locs cells slots Q (F0 m 28 ls []) := by
  have winX9 : ∀ w ∈ u_ws RX9 TX9 9, w ∈ wsL_isTurned := by decide +kernel
  intro d
  induction d with
  | zero =>
    intro k h H locs ls hk st h0 hl hP hD hS kk
    have e9 : k = 10 := by omega
    subst e9
    refine lv_iload_n hx hb dL_isTurned_28 rfl (lv_at hl 0 rfl) ?_
    refine lv_bipush (v := 10) hx hb dL_isTurned_29 (by decide) ?_
    refine lv_icmp_ge (tgt := 52) hx hb dL_isTurned_31 (by decide) (fun c1 => ?_) (fun c1 => absurd (by decide) c1)
    exact kk h H locs ls st h0 hl hP hD hS
  | succ d ih =>
    intro k h H locs ls hk st h0 hl hP hD hS kk
    refine lv_iload_n hx hb dL_isTurned_28 rfl (lv_at hl 0 rfl) ?_
    refine lv_bipush (v := 10) hx hb dL_isTurned_29 (by decide) ?_
    refine lv_icmp_ge (tgt := 52) hx hb dL_isTurned_31 (by decide) (fun c1 => absurd ((nI_geq (b := 10) (by omega) (by decide)).mp c1) (by omega)) (fun c1 => ?_)
    refine lv_aload_n hx hb dL_isTurned_34 rfl (lv_at hl 2 rfl) ?_
    refine lv_iload_n hx hb dL_isTurned_35 rfl (lv_at hl 0 rfl) ?_
    refine lv_aload_n hx hb dL_isTurned_36 rfl (lv_at hl 1 rfl) ?_
    refine va_get (D := D) (ci := 9) (v := .ref y.aZ) (C := RX9) (T := TX9) (N := 9) hx hb hts winX9 hown hK hP (98 + 98) (w3_at tW_o) rfl 3 (by decide) (hts (.fieldLink RL 78 "TapCapLaw$Told" "zones" "[I") (List.mem_of_getElem? (i := 1) rfl)) (fun _ h9 => h9) rfl dL_isTurned_37 ?_
    refine lv_iload_n hx hb dL_isTurned_40 rfl (lv_at hl 0 rfl) ?_
    refine t_ild hx hb hK hP (98 + 99) 0 k (w3_at tW_z) rfl (by omega) (by decide) dL_isTurned_41 ?_
    obtain ⟨z, z1, z4, ez⟩ := hg.1 k (by omega)
    rw [ez]
    have hK8 := hK.sub (tys' := [(cI, .int)]) [0] rfl
    refine t_ki hP hD hS hA (va_runV (As := [.int (nI k), .int (nI z)]) (rest := []) ⟨hx, hb, hml, hown, hts⟩ (kX8_zone l D ad3 cI h H.size (nI k) (nI z) (in_NI (n := 10) (by omega) (by decide)) (in_RI (a := 1) (b := 4) z1 z4 (by decide))) (cwV 2 hts gL_isTurned_X8_zone rfl rfl rfl (by decide +kernel) ⟨Nat.le_of_ble_eq_true rfl, Nat.le_of_ble_eq_true rfl⟩) (g_preV hK8 (pre_P hP) (pre_D hD) (ci := 8) (q0 := 0) rfl rfl) rfl rfl hl.1 rfl (lv_room (Nat.le_of_ble_eq_true rfl)) dL_isTurned_42 ⟨(show cells + 0 ≤ 99 by omega), (show slots + 0 ≤ 2268 by omega)⟩) (fun H locs hP hD hS => ?_)
    obtain ⟨st1, e0, -⟩ := zone_step st (s := k) (by omega) z1 z4
    refine lv_pop hx hb dL_isTurned_45 rfl ?_
    refine lv_iinc (v := nI (k + 1)) (lv' := [(2, .int (nI (k + 1))), (0, .ref o9), (1, .ref (ad3 0))]) hx hb dL_isTurned_46 hl (k := 0) rfl (nI_1 k) (by decide) rfl (fun ls hl => ?_)
    refine lv_goto (tgt := 28) hx hb dL_isTurned_49 (by decide) ?_
    refine ih (k + 1) _ H locs ls (by omega) st1 (fun i hi => ?_) (lv_sub hl [0, 1, 2] rfl) hP hD hS kk
    rw [e0]
    by_cases q : i = k
    · rw [q, upd_s, ez]
    · rw [upd_n q]; exact h0 i (by omega)
set_option maxHeartbeats 4000000 in
set_option maxRecDepth 100000 in
theorem s_tur_tar (hx : p.tables.exec = Jvm.exec) (hb : c.code = cL_isTurned) (hml : c.maxLocals = 7) (hts : ∀ w ∈ wsL_isTurned, w.before args s = true) (hown : s.vm.findClass RL = some m.cls) (hA : ∀ q : Nat, s.heap.size ≤ q → A q) (hK : va_K D vwCl (tY_T cI cO) s) (hcl : cells ≤ 99) (hsl : slots ≤ 2268) (hg : TLD g nf) (hnf : nf ≤ 5) : ∀ (d k : Nat) (h : tG) (H : Heap) (locs : List Loc) (ls : Array Slot), k + d = nf → 1 ≤ k → STG h 3 k → (∀ i, i < 10 → h 0 i = g 0 i) → (∀ w, w < 5 → ∀ i, i < k → h (3 + w) i = g (3 + w) i) → lv_has ls 7 [(2, .int (nI k)), (0, .ref o9), (1, .ref (ad3 0))] → va_P D vwCl (tcW ad3 cI h ++ (tW ad o9 y b cI cO g dr cd nf n ++ E)) H → va_D A (tcW ad3 cI h ++ (tW ad o9 y b cI cO g dr cd nf n ++ E)) → va_S A s.heap H locs → (∀ (h : tG) (H : Heap) (locs : List Loc) (ls : Array Slot), STG h 3 nf → (∀ i, i < 10 → h 0 i = g 0 i) → (∀ w, w < 5 → ∀ i, i < nf → h (3 + w) i = g (3 + w) i) → lv_has ls 7 [(2, .int (nI nf)), (0, .ref o9), (1, .ref (ad3 0))] → va_P D vwCl (tcW ad3 cI h ++ (tW ad o9 y b cI cO g dr cd nf n ++ E)) H → va_D A (tcW ad3 cI h ++ (tW ad o9 y b cI cO g dr cd nf n ++ E)) → va_S A s.heap H locs → W p l e ({ frames := 8, cells := 99, slots := 2268, locals := 230 } : Room) s m args below meth c H locs cells slots Q (F0 m 114 ls [])) → W p l e ({ frames := 8, cells := 99, slots := 2268, locals := 230 } : Room) s m args below meth c H locs cells slots Q (F0 m 54 ls []) := by
  have winX9 : ∀ w ∈ u_ws RX9 TX9 9, w ∈ wsL_isTurned := by decide +kernel
  intro d
  induction d with
  | zero =>
    intro k h H locs ls hk hk1 st h0 ht hl hP hD hS kk
    have e9 : k = nf := by omega
    subst e9
    refine lv_iload_n hx hb dL_isTurned_54 rfl (lv_at hl 0 rfl) ?_
    refine lv_aload_n hx hb dL_isTurned_55 rfl (lv_at hl 1 rfl) ?_
    refine va_get (D := D) (ci := 9) (v := .ref y.aF) (C := RX9) (T := TX9) (N := 9) hx hb hts winX9 hown hK hP (98 + 98) (w3_at tW_o) rfl 5 (by decide) (hts (.fieldLink RL 85 "TapCapLaw$Told" "tariffs" "[[I") (List.mem_of_getElem? (i := 2) rfl)) (fun _ h9 => h9) rfl dL_isTurned_56 ?_
    refine va_alen hx hb hK hP (98 + 100) 1 (w3_at tW_f) rfl (v := nI k) rfl dL_isTurned_59 ?_
    refine lv_icmp_ge (tgt := 114) hx hb dL_isTurned_60 (by decide) (fun c1 => ?_) (fun c1 => absurd ((nI_geq (by omega) (by omega)).mpr (Nat.le_refl k)) c1)
    exact kk h H locs ls st h0 ht hl hP hD hS
  | succ d ih =>
    intro k h H locs ls hk hk1 st h0 ht hl hP hD hS kk
    refine lv_iload_n hx hb dL_isTurned_54 rfl (lv_at hl 0 rfl) ?_
    refine lv_aload_n hx hb dL_isTurned_55 rfl (lv_at hl 1 rfl) ?_
    refine va_get (D := D) (ci := 9) (v := .ref y.aF) (C := RX9) (T := TX9) (N := 9) hx hb hts winX9 hown hK hP (98 + 98) (w3_at tW_o) rfl 5 (by decide) (hts (.fieldLink RL 85 "TapCapLaw$Told" "tariffs" "[[I") (List.mem_of_getElem? (i := 2) rfl)) (fun _ h9 => h9) rfl dL_isTurned_56 ?_
    refine va_alen hx hb hK hP (98 + 100) 1 (w3_at tW_f) rfl (v := nI nf) rfl dL_isTurned_59 ?_
    refine lv_icmp_ge (tgt := 114) hx hb dL_isTurned_60 (by decide) (fun c1 => absurd ((nI_geq (by omega) (by omega)).mp c1) (by omega)) (fun c1 => ?_)
    refine lv_aload_n hx hb dL_isTurned_63 rfl (lv_at hl 2 rfl) ?_
    refine lv_aload_n hx hb dL_isTurned_64 rfl (lv_at hl 1 rfl) ?_
    refine va_get (D := D) (ci := 9) (v := .ref y.aF) (C := RX9) (T := TX9) (N := 9) hx hb hts winX9 hown hK hP (98 + 98) (w3_at tW_o) rfl 5 (by decide) (hts (.fieldLink RL 85 "TapCapLaw$Told" "tariffs" "[[I") (List.mem_of_getElem? (i := 2) rfl)) (fun _ h9 => h9) rfl dL_isTurned_65 ?_
    refine lv_iload_n hx hb dL_isTurned_68 rfl (lv_at hl 0 rfl) ?_
    refine t_ald hx hb hK hP (98 + 100) 1 k (w3_at tW_f) rfl (by omega) (by omega) (tAA_at (by omega)) dL_isTurned_69 ?_
    refine lv_iconst (v := 0) hx hb dL_isTurned_70 (by decide) ?_
    refine t_ild hx hb hK hP (98 + (102 + k)) 0 0 (w3_at (tW_rf (by omega))) rfl (by decide) (by decide) dL_isTurned_71 ?_
    rw [show tFv g k 0 = g 3 k from rfl]
    refine lv_aload_n hx hb dL_isTurned_72 rfl (lv_at hl 1 rfl) ?_
    refine va_get (D := D) (ci := 9) (v := .ref y.aF) (C := RX9) (T := TX9) (N := 9) hx hb hts winX9 hown hK hP (98 + 98) (w3_at tW_o) rfl 5 (by decide) (hts (.fieldLink RL 85 "TapCapLaw$Told" "tariffs" "[[I") (List.mem_of_getElem? (i := 2) rfl)) (fun _ h9 => h9) rfl dL_isTurned_73 ?_
    refine lv_iload_n hx hb dL_isTurned_76 rfl (lv_at hl 0 rfl) ?_
    refine t_ald hx hb hK hP (98 + 100) 1 k (w3_at tW_f) rfl (by omega) (by omega) (tAA_at (by omega)) dL_isTurned_77 ?_
    refine lv_iconst (v := 1) hx hb dL_isTurned_78 (by decide) ?_
    refine t_ild hx hb hK hP (98 + (102 + k)) 0 1 (w3_at (tW_rf (by omega))) rfl (by decide) (by decide) dL_isTurned_79 ?_
    rw [show tFv g k 1 = g 4 k from rfl]
    refine lv_aload_n hx hb dL_isTurned_80 rfl (lv_at hl 1 rfl) ?_
    refine va_get (D := D) (ci := 9) (v := .ref y.aF) (C := RX9) (T := TX9) (N := 9) hx hb hts winX9 hown hK hP (98 + 98) (w3_at tW_o) rfl 5 (by decide) (hts (.fieldLink RL 85 "TapCapLaw$Told" "tariffs" "[[I") (List.mem_of_getElem? (i := 2) rfl)) (fun _ h9 => h9) rfl dL_isTurned_81 ?_
    refine lv_iload_n hx hb dL_isTurned_84 rfl (lv_at hl 0 rfl) ?_
    refine t_ald hx hb hK hP (98 + 100) 1 k (w3_at tW_f) rfl (by omega) (by omega) (tAA_at (by omega)) dL_isTurned_85 ?_
    refine lv_iconst (v := 2) hx hb dL_isTurned_86 (by decide) ?_
    refine t_ild hx hb hK hP (98 + (102 + k)) 0 2 (w3_at (tW_rf (by omega))) rfl (by decide) (by decide) dL_isTurned_87 ?_
    rw [show tFv g k 2 = g 5 k from rfl]
    refine lv_aload_n hx hb dL_isTurned_88 rfl (lv_at hl 1 rfl) ?_
    refine va_get (D := D) (ci := 9) (v := .ref y.aF) (C := RX9) (T := TX9) (N := 9) hx hb hts winX9 hown hK hP (98 + 98) (w3_at tW_o) rfl 5 (by decide) (hts (.fieldLink RL 85 "TapCapLaw$Told" "tariffs" "[[I") (List.mem_of_getElem? (i := 2) rfl)) (fun _ h9 => h9) rfl dL_isTurned_89 ?_
    refine lv_iload_n hx hb dL_isTurned_92 rfl (lv_at hl 0 rfl) ?_
    refine t_ald hx hb hK hP (98 + 100) 1 k (w3_at tW_f) rfl (by omega) (by omega) (tAA_at (by omega)) dL_isTurned_93 ?_
    refine lv_iconst (v := 3) hx hb dL_isTurned_94 (by decide) ?_
    refine t_ild hx hb hK hP (98 + (102 + k)) 0 3 (w3_at (tW_rf (by omega))) rfl (by decide) (by decide) dL_isTurned_95 ?_
    rw [show tFv g k 3 = g 6 k from rfl]
    refine lv_aload_n hx hb dL_isTurned_96 rfl (lv_at hl 1 rfl) ?_
    refine va_get (D := D) (ci := 9) (v := .ref y.aF) (C := RX9) (T := TX9) (N := 9) hx hb hts winX9 hown hK hP (98 + 98) (w3_at tW_o) rfl 5 (by decide) (hts (.fieldLink RL 85 "TapCapLaw$Told" "tariffs" "[[I") (List.mem_of_getElem? (i := 2) rfl)) (fun _ h9 => h9) rfl dL_isTurned_97 ?_
    refine lv_iload_n hx hb dL_isTurned_100 rfl (lv_at hl 0 rfl) ?_
    refine t_ald hx hb hK hP (98 + 100) 1 k (w3_at tW_f) rfl (by omega) (by omega) (tAA_at (by omega)) dL_isTurned_101 ?_
    refine lv_iconst (v := 4) hx hb dL_isTurned_102 (by decide) ?_
    refine t_ild hx hb hK hP (98 + (102 + k)) 0 4 (w3_at (tW_rf (by omega))) rfl (by decide) (by decide) dL_isTurned_103 ?_
    rw [show tFv g k 4 = g 7 k from rfl]
    obtain ⟨b0, b1, b2, b3, b4⟩ := hg.2.2.2.1.1 k hk1 (by omega)
    have hK8 := hK.sub (tys' := [(cI, .int)]) [0] rfl
    refine t_ki hP hD hS hA (va_runV (As := [.int (g 3 k), .int (g 4 k), .int (g 5 k), .int (g 6 k), .int (g 7 k)]) (rest := []) ⟨hx, hb, hml, hown, hts⟩ (kX8_tariff l D ad3 cI h H.size (g 3 k) (g 4 k) (g 5 k) (g 6 k) (g 7 k) b0 b1 b2 b3 b4 (by rw [st.2.1, Int32.le_iff_toInt_le, nI_toInt (by omega)]; show ¬ (6 : Int) ≤ (k : Int); omega) (by rw [st.2.2.1]; exact Int32.not_lt.mp b0.1)) (cwV 5 hts gL_isTurned_X8_tariff rfl rfl rfl (by decide +kernel) ⟨Nat.le_of_ble_eq_true rfl, Nat.le_of_ble_eq_true rfl⟩) (g_preV hK8 (pre_P hP) (pre_D hD) (ci := 8) (q0 := 0) rfl rfl) rfl rfl hl.1 rfl (lv_room (Nat.le_of_ble_eq_true rfl)) dL_isTurned_104 ⟨(show cells + 0 ≤ 99 by omega), (show slots + 0 ≤ 2268 by omega)⟩) (fun H locs hP hD hS => ?_)
    obtain ⟨-, t2, t3, t4, -⟩ := tar_step st.2.1 (show k < 6 by omega) (g 3 k) (g 4 k) (g 5 k) (g 6 k) (g 7 k)
    have st1 := tar_stg st (by omega) hk1 b0 b1 b2 b3 b4
    refine lv_pop hx hb dL_isTurned_107 rfl ?_
    refine lv_iinc (v := nI (k + 1)) (lv' := [(2, .int (nI (k + 1))), (0, .ref o9), (1, .ref (ad3 0))]) hx hb dL_isTurned_108 hl (k := 0) rfl (nI_1 k) (by decide) rfl (fun ls hl => ?_)
    refine lv_goto (tgt := 54) hx hb dL_isTurned_111 (by decide) ?_
    refine ih (k + 1) _ H locs ls (by omega) (by omega) st1 (fun i hi => by rw [t2 0 (by decide) (by decide)]; exact h0 i hi) (fun w hw i hi => ?_) (lv_sub hl [0, 1, 2] rfl) hP hD hS kk
    by_cases q : i = k
    · rw [q]
      have e9 := congrFun t4 w
      have e8 : tFv (fX8_tariff_w h (g 3 k) (g 4 k) (g 5 k) (g 6 k) (g 7 k)) k w = fX8_tariff_w h (g 3 k) (g 4 k) (g 5 k) (g 6 k) (g 7 k) (3 + w) k := if_pos hw
      rw [← e8, e9]
      match w, hw with
      | 0, _ => rfl
      | 1, _ => rfl
      | 2, _ => rfl
      | 3, _ => rfl
      | 4, _ => rfl
    · rw [t3 w hw i q]; exact ht w hw i (by omega)
end TU
