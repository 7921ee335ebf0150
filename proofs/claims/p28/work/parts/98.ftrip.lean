/-! trips of a Told -/
abbrev tV (ad : Nat → Nat) (o9 : Nat) (y : tA) (b : Nat) (cI cO : ClassId) (σ : tS) (cd : Int32) (nf : Nat) : va_W := tW ad o9 y b cI cO σ.1.1 σ.2 cd nf σ.1.2
theorem stA_0 {xs : Nat → Int32} {L c s l i d m : Nat} {σ : tS} (h : dN xs L σ.2 8 = 0) : stA xs L c s l i d m σ = (σ.1, σ.2 + 1) := by unfold stA; rw [if_pos h]
theorem stA_1 {xs : Nat → Int32} {L c s l i d m : Nat} {σ : tS} (h : ¬ dN xs L σ.2 8 = 0) : stA xs L c s l i d m σ = (tapF c s l i d m σ.1, σ.2 + 1) := by unfold stA; rw [if_neg h]
theorem stB_0 {xs : Nat → Int32} {L c s l i d m : Nat} {σ : tS} (h : dN xs L σ.2 9 = 0) : stB xs L c s l i d m σ = (tapF c s l i d (m + dN xs L (σ.2 + 1) 5) σ.1, σ.2 + 2) := by unfold stB; rw [if_pos h]
theorem stB_1 {xs : Nat → Int32} {L c s l i d m : Nat} {σ : tS} (h : ¬ dN xs L σ.2 9 = 0) : stB xs L c s l i d m σ = (σ.1, σ.2 + 1) := by unfold stB; rw [if_neg h]

section TP
variable {p : Program} {l : Launch} {e : Env} {s : State} {m : MethodId} {args : Array Value} {below : List Frame} {meth : Method} {c : Code} {H : Heap} {locs : List Loc} {cells slots : Nat} {Q : State → Prop}
variable {D : va_G} {A : Nat → Prop} {H0 : Heap} {ad : Nat → Nat} {o9 b : Nat} {y : tA} {cI cO : ClassId} {g : tG} {dr : Nat} {cd : Int32} {nf n : Nat}
variable {xs : Nat → Int32} {L c0 d0 mi st li to rd k : Nat}
set_option maxHeartbeats 4000000 in
set_option maxRecDepth 100000 in
theorem s_trip_1 (hx : p.tables.exec = Jvm.exec) (hb : c.code = cX9_trip) (hml : c.maxLocals = 9) (hts : ∀ w ∈ wsX9_trip, w.before args s = true) (hown : s.vm.findClass RX9 = some m.cls) (hN : s_N s) (hX : va_X b L xs s s.heap) (hbl : b < s.heap.size) (hbA : ¬ A b) (hA : ∀ q : Nat, s.heap.size ≤ q → A q) (hK : va_K D vwCl (tY_T cI cO) s) (hL : L < 2 ^ 20) {ls : Array Slot} (hl : lv_has ls 9 [(8, .int (nI rd)), (7, .int (nI to)), (0, .ref o9), (1, .int (nI c0)), (2, .int (nI d0)), (3, .int (nI mi)), (4, .int (nI st)), (5, .int (nI li)), (6, .int (nI k))]) (hR : RGN g n) (hc : c0 < 3) (hd : d0 < 10) (hst : st < 10) (hli : li < 6) (hm : mi < 1435) (hdr : dr + 2 < 2 ^ 20) (hcl : cells + 3 ≤ 36) (hsl : slots + 53 ≤ 636) (hP : va_P D vwCl (tW ad o9 y b cI cO g dr cd nf n) H) (hD : va_D A (tW ad o9 y b cI cO g dr cd nf n)) (hS : va_S A s.heap H locs) (kk : ∀ (y : tA) (H : Heap) (locs : List Loc), va_P D vwCl (tV ad o9 y b cI cO (stA xs L c0 st li 1 d0 mi ((g, n), dr)) cd nf) H → va_D A (tV ad o9 y b cI cO (stA xs L c0 st li 1 d0 mi ((g, n), dr)) cd nf) → va_S A s.heap H locs → W p l e ({ frames := 5, cells := 36, slots := 636, locals := 180 } : Room) s m args below meth c H locs (cells + 3) (slots + 53) Q (F0 m 83 ls [])) : W p l e ({ frames := 5, cells := 36, slots := 636, locals := 180 } : Room) s m args below meth c H locs cells slots Q (F0 m 57 ls []) := by
  have winX9 : ∀ w ∈ u_ws RX9 TX9 9, w ∈ wsX9_trip := by decide +kernel
  refine lv_aload_n hx hb dX9_trip_57 rfl (lv_at hl 2 rfl) ?_
  refine lv_bipush (v := 8) hx hb dX9_trip_58 (by decide) ?_
  refine g_ki hK hD hS hA (va_runV (As := [.int (nI 8)]) (rest := []) ⟨hx, hb, hml, hown, hts⟩ (kX9_draw l D H.size b L xs ad o9 y cI cO g dr cd nf n 8 (by decide) (by decide) (by omega) hL) (cwV 1 hts gX9_trip_X9_draw rfl rfl rfl (by decide +kernel) ⟨Nat.le_of_ble_eq_true rfl, Nat.le_of_ble_eq_true rfl⟩) (s_preV hN hX hbl hbA hS hA hK hP hD (ci := 9) (q0 := 98) rfl rfl) rfl rfl hl.1 rfl (lv_room (Nat.le_of_ble_eq_true rfl)) dX9_trip_60 ⟨(show cells + 0 ≤ 36 by omega), (show slots + 0 ≤ 636 by omega)⟩) (fun H locs hP hD hS => ?_)
  obtain ⟨eu1, lu1⟩ := dN_is xs L (dr) (m := 8) (by decide) (by decide)
  rw [eu1]
  refine lv_if_le (tgt := 83) hx hb dX9_trip_63 (by decide) (fun c1 => ?_) (fun c1 => ?_)
  · have h0 : dN xs L dr 8 = 0 := (nI_le0 (by omega)).mp c1
    refine W.widen (k := cells + 3) (n := slots + 53) (by omega) (by omega) ?_
    have hk := kk y H locs
    rw [stA_0 (σ := ((g, n), dr)) h0] at hk
    exact hk hP hD hS
  · have h0 : ¬ dN xs L dr 8 = 0 := fun q => c1 ((nI_le0 (by omega)).mpr q)
    refine lv_aload_n hx hb dX9_trip_66 rfl (lv_at hl 2 rfl) ?_
    refine lv_iload_n hx hb dX9_trip_67 rfl (lv_at hl 3 rfl) ?_
    refine lv_iload hx hb dX9_trip_68 (lv_at hl 6 rfl) ?_
    refine lv_iload hx hb dX9_trip_70 (lv_at hl 7 rfl) ?_
    refine lv_iconst (v := 1) hx hb dX9_trip_72 (by decide) ?_
    refine lv_iload_n hx hb dX9_trip_73 rfl (lv_at hl 4 rfl) ?_
    refine lv_iload_n hx hb dX9_trip_74 rfl (lv_at hl 5 rfl) ?_
    refine t_ky hD hS hA (va_runV (As := [.int (nI c0), .int (nI st), .int (nI li), .int (nI 1), .int (nI d0), .int (nI mi)]) (rest := []) ⟨hx, hb, hml, hown, hts⟩ (kX9_tap l D H.size b ad o9 y cI cO g (dr + 1) cd nf n c0 st li 1 d0 mi hc hst hli (by decide) hd (by omega) hR) (cwV 6 hts gX9_trip_X9_tap rfl rfl rfl (by decide +kernel) ⟨Nat.le_of_ble_eq_true rfl, Nat.le_of_ble_eq_true rfl⟩) (p_preV hN.2.2 hK hP hD (ci := 9) (q0 := 98) rfl rfl) rfl rfl hl.1 rfl (lv_room (Nat.le_of_ble_eq_true rfl)) dX9_trip_75 ⟨(show cells + 0 + 3 ≤ 36 by omega), (show slots + 0 + 53 ≤ 636 by omega)⟩) (fun y9 H locs hP hD hS => ?_)
    refine lv_if_ne (tgt := 83) hx hb dX9_trip_78 (by decide) (fun c2 => ?_) (fun c2 => ?_)
    · refine W.widen (k := cells + 3) (n := slots + 53) (by omega) (by omega) ?_
      have hk := kk y9 H locs
      rw [stA_1 (σ := ((g, n), dr)) h0] at hk
      exact hk hP hD hS
    · exact absurd c2 (by decide)
set_option maxHeartbeats 4000000 in
set_option maxRecDepth 100000 in
theorem s_trip_2 (hx : p.tables.exec = Jvm.exec) (hb : c.code = cX9_trip) (hml : c.maxLocals = 9) (hts : ∀ w ∈ wsX9_trip, w.before args s = true) (hown : s.vm.findClass RX9 = some m.cls) (hN : s_N s) (hX : va_X b L xs s s.heap) (hbl : b < s.heap.size) (hbA : ¬ A b) (hA : ∀ q : Nat, s.heap.size ≤ q → A q) (hK : va_K D vwCl (tY_T cI cO) s) (hL : L < 2 ^ 20) {ls : Array Slot} (hl : lv_has ls 9 [(8, .int (nI rd)), (7, .int (nI to)), (0, .ref o9), (1, .int (nI c0)), (2, .int (nI d0)), (3, .int (nI mi)), (4, .int (nI st)), (5, .int (nI li)), (6, .int (nI k))]) (hR : RGN g n) (hc : c0 < 3) (hd : d0 < 10) (hst : st < 10) (hli : li < 6) (hm : mi < 1435) (hdr : dr + 2 < 2 ^ 20) (hcl : cells + 3 ≤ 36) (hsl : slots + 53 ≤ 636) (hP : va_P D vwCl (tW ad o9 y b cI cO g dr cd nf n) H) (hD : va_D A (tW ad o9 y b cI cO g dr cd nf n)) (hS : va_S A s.heap H locs) (kk : ∀ (y : tA) (H : Heap) (locs : List Loc), va_P D vwCl (tV ad o9 y b cI cO (stB xs L c0 st li 1 d0 mi ((g, n), dr)) cd nf) H → va_D A (tV ad o9 y b cI cO (stB xs L c0 st li 1 d0 mi ((g, n), dr)) cd nf) → va_S A s.heap H locs → W p l e ({ frames := 5, cells := 36, slots := 636, locals := 180 } : Room) s m args below meth c H locs (cells + 3) (slots + 53) Q (F0 m 115 ls [])) : W p l e ({ frames := 5, cells := 36, slots := 636, locals := 180 } : Room) s m args below meth c H locs cells slots Q (F0 m 83 ls []) := by
  have winX9 : ∀ w ∈ u_ws RX9 TX9 9, w ∈ wsX9_trip := by decide +kernel
  refine lv_aload_n hx hb dX9_trip_83 rfl (lv_at hl 2 rfl) ?_
  refine lv_bipush (v := 9) hx hb dX9_trip_84 (by decide) ?_
  refine g_ki hK hD hS hA (va_runV (As := [.int (nI 9)]) (rest := []) ⟨hx, hb, hml, hown, hts⟩ (kX9_draw l D H.size b L xs ad o9 y cI cO g dr cd nf n 9 (by decide) (by decide) (by omega) hL) (cwV 1 hts gX9_trip_X9_draw rfl rfl rfl (by decide +kernel) ⟨Nat.le_of_ble_eq_true rfl, Nat.le_of_ble_eq_true rfl⟩) (s_preV hN hX hbl hbA hS hA hK hP hD (ci := 9) (q0 := 98) rfl rfl) rfl rfl hl.1 rfl (lv_room (Nat.le_of_ble_eq_true rfl)) dX9_trip_86 ⟨(show cells + 0 ≤ 36 by omega), (show slots + 0 ≤ 636 by omega)⟩) (fun H locs hP hD hS => ?_)
  obtain ⟨eu1, lu1⟩ := dN_is xs L (dr) (m := 9) (by decide) (by decide)
  rw [eu1]
  refine lv_if_ne (tgt := 115) hx hb dX9_trip_89 (by decide) (fun c1 => ?_) (fun c1 => ?_)
  · have h0 : ¬ dN xs L dr 9 = 0 := fun q => c1 (by rw [q]; rfl)
    refine W.widen (k := cells + 3) (n := slots + 53) (by omega) (by omega) ?_
    have hk := kk y H locs
    rw [stB_1 (σ := ((g, n), dr)) h0] at hk
    exact hk hP hD hS
  · have h0 : dN xs L dr 9 = 0 := (nI_eq (b := 0) (by omega) (by decide)).mp c1
    refine lv_aload_n hx hb dX9_trip_92 rfl (lv_at hl 2 rfl) ?_
    refine lv_iload_n hx hb dX9_trip_93 rfl (lv_at hl 3 rfl) ?_
    refine lv_iload hx hb dX9_trip_94 (lv_at hl 6 rfl) ?_
    refine lv_iload hx hb dX9_trip_96 (lv_at hl 7 rfl) ?_
    refine lv_iconst (v := 1) hx hb dX9_trip_98 (by decide) ?_
    refine lv_iload_n hx hb dX9_trip_99 rfl (lv_at hl 4 rfl) ?_
    refine lv_iload_n hx hb dX9_trip_100 rfl (lv_at hl 5 rfl) ?_
    refine lv_aload_n hx hb dX9_trip_101 rfl (lv_at hl 2 rfl) ?_
    refine lv_iconst (v := 5) hx hb dX9_trip_102 (by decide) ?_
    refine g_ki hK hD hS hA (va_runV (As := [.int (nI 5)]) (rest := [.int (nI mi), .int (nI d0), .int 1, .int (nI li), .int (nI st), .int (nI c0), .ref o9]) ⟨hx, hb, hml, hown, hts⟩ (kX9_draw l D H.size b L xs ad o9 y cI cO g (dr + 1) cd nf n 5 (by decide) (by decide) (by omega) hL) (cwV 1 hts gX9_trip_X9_draw rfl rfl rfl (by decide +kernel) ⟨Nat.le_of_ble_eq_true rfl, Nat.le_of_ble_eq_true rfl⟩) (s_preV hN hX hbl hbA hS hA hK hP hD (ci := 9) (q0 := 98) rfl rfl) rfl rfl hl.1 rfl (lv_room (Nat.le_of_ble_eq_true rfl)) dX9_trip_103 ⟨(show cells + 0 + 0 ≤ 36 by omega), (show slots + 0 + 0 ≤ 636 by omega)⟩) (fun H locs hP hD hS => ?_)
    obtain ⟨eu2, lu2⟩ := dN_is xs L (dr + 1) (m := 5) (by decide) (by decide)
    rw [eu2]
    refine lv_iadd hx hb dX9_trip_106 ?_
    rw [show ((nI mi) : Int32) + (nI (dN xs L (dr + 1) 5)) = nI (mi + (dN xs L (dr + 1) 5)) from nI_add _ _]
    refine t_ky hD hS hA (va_runV (As := [.int (nI c0), .int (nI st), .int (nI li), .int (nI 1), .int (nI d0), .int (nI (mi + (dN xs L (dr + 1) 5)))]) (rest := []) ⟨hx, hb, hml, hown, hts⟩ (kX9_tap l D H.size b ad o9 y cI cO g (dr + 2) cd nf n c0 st li 1 d0 (mi + (dN xs L (dr + 1) 5)) hc hst hli (by decide) hd (by omega) hR) (cwV 6 hts gX9_trip_X9_tap rfl rfl rfl (by decide +kernel) ⟨Nat.le_of_ble_eq_true rfl, Nat.le_of_ble_eq_true rfl⟩) (p_preV hN.2.2 hK hP hD (ci := 9) (q0 := 98) rfl rfl) rfl rfl hl.1 rfl (lv_room (Nat.le_of_ble_eq_true rfl)) dX9_trip_107 ⟨(show cells + 0 + 0 + 3 ≤ 36 by omega), (show slots + 0 + 0 + 53 ≤ 636 by omega)⟩) (fun y9 H locs hP hD hS => ?_)
    refine lv_if_ne (tgt := 115) hx hb dX9_trip_110 (by decide) (fun c2 => ?_) (fun c2 => ?_)
    · refine W.widen (k := cells + 3) (n := slots + 53) (by omega) (by omega) ?_
      have hk := kk y9 H locs
      rw [stB_0 (σ := ((g, n), dr)) h0] at hk
      exact hk hP hD hS
    · exact absurd c2 (by decide)
set_option maxHeartbeats 4000000 in
set_option maxRecDepth 100000 in
theorem s_trip_3 (hx : p.tables.exec = Jvm.exec) (hb : c.code = cX9_trip) (hml : c.maxLocals = 9) (hts : ∀ w ∈ wsX9_trip, w.before args s = true) (hown : s.vm.findClass RX9 = some m.cls) (hN : s_N s) (hX : va_X b L xs s s.heap) (hbl : b < s.heap.size) (hbA : ¬ A b) (hA : ∀ q : Nat, s.heap.size ≤ q → A q) (hK : va_K D vwCl (tY_T cI cO) s) (hL : L < 2 ^ 20) {ls : Array Slot} (hl : lv_has ls 9 [(8, .int (nI rd)), (7, .int (nI to)), (0, .ref o9), (1, .int (nI c0)), (2, .int (nI d0)), (3, .int (nI mi)), (4, .int (nI st)), (5, .int (nI li)), (6, .int (nI k))]) (hR : RGN g n) (hc : c0 < 3) (hd : d0 < 10) (hst : to < 10) (hli : li < 6) (hm : mi + rd < 1435) (hdr : dr + 2 < 2 ^ 20) (hcl : cells + 3 ≤ 36) (hsl : slots + 53 ≤ 636) (hP : va_P D vwCl (tW ad o9 y b cI cO g dr cd nf n) H) (hD : va_D A (tW ad o9 y b cI cO g dr cd nf n)) (hS : va_S A s.heap H locs) (kk : ∀ (y : tA) (H : Heap) (locs : List Loc), va_P D vwCl (tV ad o9 y b cI cO (stA xs L c0 to li 0 d0 (mi + rd) ((g, n), dr)) cd nf) H → va_D A (tV ad o9 y b cI cO (stA xs L c0 to li 0 d0 (mi + rd) ((g, n), dr)) cd nf) → va_S A s.heap H locs → W p l e ({ frames := 5, cells := 36, slots := 636, locals := 180 } : Room) s m args below meth c H locs (cells + 3) (slots + 53) Q (F0 m 144 ls [])) : W p l e ({ frames := 5, cells := 36, slots := 636, locals := 180 } : Room) s m args below meth c H locs cells slots Q (F0 m 115 ls []) := by
  have winX9 : ∀ w ∈ u_ws RX9 TX9 9, w ∈ wsX9_trip := by decide +kernel
  refine lv_aload_n hx hb dX9_trip_115 rfl (lv_at hl 2 rfl) ?_
  refine lv_bipush (v := 8) hx hb dX9_trip_116 (by decide) ?_
  refine g_ki hK hD hS hA (va_runV (As := [.int (nI 8)]) (rest := []) ⟨hx, hb, hml, hown, hts⟩ (kX9_draw l D H.size b L xs ad o9 y cI cO g dr cd nf n 8 (by decide) (by decide) (by omega) hL) (cwV 1 hts gX9_trip_X9_draw rfl rfl rfl (by decide +kernel) ⟨Nat.le_of_ble_eq_true rfl, Nat.le_of_ble_eq_true rfl⟩) (s_preV hN hX hbl hbA hS hA hK hP hD (ci := 9) (q0 := 98) rfl rfl) rfl rfl hl.1 rfl (lv_room (Nat.le_of_ble_eq_true rfl)) dX9_trip_118 ⟨(show cells + 0 ≤ 36 by omega), (show slots + 0 ≤ 636 by omega)⟩) (fun H locs hP hD hS => ?_)
  obtain ⟨eu1, lu1⟩ := dN_is xs L (dr) (m := 8) (by decide) (by decide)
  rw [eu1]
  refine lv_if_le (tgt := 144) hx hb dX9_trip_121 (by decide) (fun c1 => ?_) (fun c1 => ?_)
  · have h0 : dN xs L dr 8 = 0 := (nI_le0 (by omega)).mp c1
    refine W.widen (k := cells + 3) (n := slots + 53) (by omega) (by omega) ?_
    have hk := kk y H locs
    rw [stA_0 (σ := ((g, n), dr)) h0] at hk
    exact hk hP hD hS
  · have h0 : ¬ dN xs L dr 8 = 0 := fun q => c1 ((nI_le0 (by omega)).mpr q)
    refine lv_aload_n hx hb dX9_trip_124 rfl (lv_at hl 2 rfl) ?_
    refine lv_iload_n hx hb dX9_trip_125 rfl (lv_at hl 3 rfl) ?_
    refine lv_iload hx hb dX9_trip_126 (lv_at hl 1 rfl) ?_
    refine lv_iload hx hb dX9_trip_128 (lv_at hl 7 rfl) ?_
    refine lv_iconst (v := 0) hx hb dX9_trip_130 (by decide) ?_
    refine lv_iload_n hx hb dX9_trip_131 rfl (lv_at hl 4 rfl) ?_
    refine lv_iload_n hx hb dX9_trip_132 rfl (lv_at hl 5 rfl) ?_
    refine lv_iload hx hb dX9_trip_133 (lv_at hl 0 rfl) ?_
    refine lv_iadd hx hb dX9_trip_135 ?_
    rw [show ((nI mi) : Int32) + (nI rd) = nI (mi + rd) from nI_add _ _]
    refine t_ky hD hS hA (va_runV (As := [.int (nI c0), .int (nI to), .int (nI li), .int (nI 0), .int (nI d0), .int (nI (mi + rd))]) (rest := []) ⟨hx, hb, hml, hown, hts⟩ (kX9_tap l D H.size b ad o9 y cI cO g (dr + 1) cd nf n c0 to li 0 d0 (mi + rd) hc hst hli (by decide) hd (by omega) hR) (cwV 6 hts gX9_trip_X9_tap rfl rfl rfl (by decide +kernel) ⟨Nat.le_of_ble_eq_true rfl, Nat.le_of_ble_eq_true rfl⟩) (p_preV hN.2.2 hK hP hD (ci := 9) (q0 := 98) rfl rfl) rfl rfl hl.1 rfl (lv_room (Nat.le_of_ble_eq_true rfl)) dX9_trip_136 ⟨(show cells + 0 + 3 ≤ 36 by omega), (show slots + 0 + 53 ≤ 636 by omega)⟩) (fun y9 H locs hP hD hS => ?_)
    refine lv_if_ne (tgt := 144) hx hb dX9_trip_139 (by decide) (fun c2 => ?_) (fun c2 => ?_)
    · refine W.widen (k := cells + 3) (n := slots + 53) (by omega) (by omega) ?_
      have hk := kk y9 H locs
      rw [stA_1 (σ := ((g, n), dr)) h0] at hk
      exact hk hP hD hS
    · exact absurd c2 (by decide)
set_option maxHeartbeats 4000000 in
set_option maxRecDepth 100000 in
theorem s_trip_4 (hx : p.tables.exec = Jvm.exec) (hb : c.code = cX9_trip) (hml : c.maxLocals = 9) (hts : ∀ w ∈ wsX9_trip, w.before args s = true) (hown : s.vm.findClass RX9 = some m.cls) (hN : s_N s) (hX : va_X b L xs s s.heap) (hbl : b < s.heap.size) (hbA : ¬ A b) (hA : ∀ q : Nat, s.heap.size ≤ q → A q) (hK : va_K D vwCl (tY_T cI cO) s) (hL : L < 2 ^ 20) {ls : Array Slot} (hl : lv_has ls 9 [(8, .int (nI rd)), (7, .int (nI to)), (0, .ref o9), (1, .int (nI c0)), (2, .int (nI d0)), (3, .int (nI mi)), (4, .int (nI st)), (5, .int (nI li)), (6, .int (nI k))]) (hR : RGN g n) (hc : c0 < 3) (hd : d0 < 10) (hst : to < 10) (hli : li < 6) (hm : mi + rd < 1435) (hdr : dr + 2 < 2 ^ 20) (hcl : cells + 3 ≤ 36) (hsl : slots + 53 ≤ 636) (hP : va_P D vwCl (tW ad o9 y b cI cO g dr cd nf n) H) (hD : va_D A (tW ad o9 y b cI cO g dr cd nf n)) (hS : va_S A s.heap H locs) (kk : ∀ (y : tA) (H : Heap) (locs : List Loc), va_P D vwCl (tV ad o9 y b cI cO (stB xs L c0 to li 0 d0 (mi + rd) ((g, n), dr)) cd nf) H → va_D A (tV ad o9 y b cI cO (stB xs L c0 to li 0 d0 (mi + rd) ((g, n), dr)) cd nf) → va_S A s.heap H locs → W p l e ({ frames := 5, cells := 36, slots := 636, locals := 180 } : Room) s m args below meth c H locs (cells + 3) (slots + 53) Q (F0 m 179 ls [])) : W p l e ({ frames := 5, cells := 36, slots := 636, locals := 180 } : Room) s m args below meth c H locs cells slots Q (F0 m 144 ls []) := by
  have winX9 : ∀ w ∈ u_ws RX9 TX9 9, w ∈ wsX9_trip := by decide +kernel
  refine lv_aload_n hx hb dX9_trip_144 rfl (lv_at hl 2 rfl) ?_
  refine lv_bipush (v := 9) hx hb dX9_trip_145 (by decide) ?_
  refine g_ki hK hD hS hA (va_runV (As := [.int (nI 9)]) (rest := []) ⟨hx, hb, hml, hown, hts⟩ (kX9_draw l D H.size b L xs ad o9 y cI cO g dr cd nf n 9 (by decide) (by decide) (by omega) hL) (cwV 1 hts gX9_trip_X9_draw rfl rfl rfl (by decide +kernel) ⟨Nat.le_of_ble_eq_true rfl, Nat.le_of_ble_eq_true rfl⟩) (s_preV hN hX hbl hbA hS hA hK hP hD (ci := 9) (q0 := 98) rfl rfl) rfl rfl hl.1 rfl (lv_room (Nat.le_of_ble_eq_true rfl)) dX9_trip_147 ⟨(show cells + 0 ≤ 36 by omega), (show slots + 0 ≤ 636 by omega)⟩) (fun H locs hP hD hS => ?_)
  obtain ⟨eu1, lu1⟩ := dN_is xs L (dr) (m := 9) (by decide) (by decide)
  rw [eu1]
  refine lv_if_ne (tgt := 179) hx hb dX9_trip_150 (by decide) (fun c1 => ?_) (fun c1 => ?_)
  · have h0 : ¬ dN xs L dr 9 = 0 := fun q => c1 (by rw [q]; rfl)
    refine W.widen (k := cells + 3) (n := slots + 53) (by omega) (by omega) ?_
    have hk := kk y H locs
    rw [stB_1 (σ := ((g, n), dr)) h0] at hk
    exact hk hP hD hS
  · have h0 : dN xs L dr 9 = 0 := (nI_eq (b := 0) (by omega) (by decide)).mp c1
    refine lv_aload_n hx hb dX9_trip_153 rfl (lv_at hl 2 rfl) ?_
    refine lv_iload_n hx hb dX9_trip_154 rfl (lv_at hl 3 rfl) ?_
    refine lv_iload hx hb dX9_trip_155 (lv_at hl 1 rfl) ?_
    refine lv_iload hx hb dX9_trip_157 (lv_at hl 7 rfl) ?_
    refine lv_iconst (v := 0) hx hb dX9_trip_159 (by decide) ?_
    refine lv_iload_n hx hb dX9_trip_160 rfl (lv_at hl 4 rfl) ?_
    refine lv_iload_n hx hb dX9_trip_161 rfl (lv_at hl 5 rfl) ?_
    refine lv_iload hx hb dX9_trip_162 (lv_at hl 0 rfl) ?_
    refine lv_iadd hx hb dX9_trip_164 ?_
    rw [show ((nI mi) : Int32) + (nI rd) = nI (mi + rd) from nI_add _ _]
    refine lv_aload_n hx hb dX9_trip_165 rfl (lv_at hl 2 rfl) ?_
    refine lv_iconst (v := 5) hx hb dX9_trip_166 (by decide) ?_
    refine g_ki hK hD hS hA (va_runV (As := [.int (nI 5)]) (rest := [.int (nI (mi + rd)), .int (nI d0), .int 0, .int (nI li), .int (nI to), .int (nI c0), .ref o9]) ⟨hx, hb, hml, hown, hts⟩ (kX9_draw l D H.size b L xs ad o9 y cI cO g (dr + 1) cd nf n 5 (by decide) (by decide) (by omega) hL) (cwV 1 hts gX9_trip_X9_draw rfl rfl rfl (by decide +kernel) ⟨Nat.le_of_ble_eq_true rfl, Nat.le_of_ble_eq_true rfl⟩) (s_preV hN hX hbl hbA hS hA hK hP hD (ci := 9) (q0 := 98) rfl rfl) rfl rfl hl.1 rfl (lv_room (Nat.le_of_ble_eq_true rfl)) dX9_trip_167 ⟨(show cells + 0 + 0 ≤ 36 by omega), (show slots + 0 + 0 ≤ 636 by omega)⟩) (fun H locs hP hD hS => ?_)
    obtain ⟨eu2, lu2⟩ := dN_is xs L (dr + 1) (m := 5) (by decide) (by decide)
    rw [eu2]
    refine lv_iadd hx hb dX9_trip_170 ?_
    rw [show ((nI (mi + rd)) : Int32) + (nI (dN xs L (dr + 1) 5)) = nI ((mi + rd) + (dN xs L (dr + 1) 5)) from nI_add _ _]
    refine t_ky hD hS hA (va_runV (As := [.int (nI c0), .int (nI to), .int (nI li), .int (nI 0), .int (nI d0), .int (nI ((mi + rd) + (dN xs L (dr + 1) 5)))]) (rest := []) ⟨hx, hb, hml, hown, hts⟩ (kX9_tap l D H.size b ad o9 y cI cO g (dr + 2) cd nf n c0 to li 0 d0 ((mi + rd) + (dN xs L (dr + 1) 5)) hc hst hli (by decide) hd (by omega) hR) (cwV 6 hts gX9_trip_X9_tap rfl rfl rfl (by decide +kernel) ⟨Nat.le_of_ble_eq_true rfl, Nat.le_of_ble_eq_true rfl⟩) (p_preV hN.2.2 hK hP hD (ci := 9) (q0 := 98) rfl rfl) rfl rfl hl.1 rfl (lv_room (Nat.le_of_ble_eq_true rfl)) dX9_trip_171 ⟨(show cells + 0 + 0 + 3 ≤ 36 by omega), (show slots + 0 + 0 + 53 ≤ 636 by omega)⟩) (fun y9 H locs hP hD hS => ?_)
    refine lv_if_ne (tgt := 179) hx hb dX9_trip_174 (by decide) (fun c2 => ?_) (fun c2 => ?_)
    · refine W.widen (k := cells + 3) (n := slots + 53) (by omega) (by omega) ?_
      have hk := kk y9 H locs
      rw [stB_0 (σ := ((g, n), dr)) h0] at hk
      exact hk hP hD hS
    · exact absurd c2 (by decide)
set_option maxHeartbeats 4000000 in
set_option maxRecDepth 100000 in
theorem s_trip_loop (hx : p.tables.exec = Jvm.exec) (hb : c.code = cX9_trip) (hml : c.maxLocals = 9) (hts : ∀ w ∈ wsX9_trip, w.before args s = true) (hown : s.vm.findClass RX9 = some m.cls) (hN : s_N s) (hX : va_X b L xs s s.heap) (hbl : b < s.heap.size) (hbA : ¬ A b) (hA : ∀ q : Nat, s.heap.size ≤ q → A q) (hK : va_K D vwCl (tY_T cI cO) s) (hL : L < 2 ^ 20) (hc : c0 < 3) (hd : d0 < 10) : ∀ (k : Nat) (g : tG) (n dr mi st li : Nat) (y : tA) (cells slots : Nat) (H : Heap) (locs : List Loc) (ls : Array Slot), lv_has ls 9 [(0, .ref o9), (1, .int (nI c0)), (2, .int (nI d0)), (3, .int (nI mi)), (4, .int (nI st)), (5, .int (nI li)), (6, .int (nI k))] → RGN g n → st < 10 → li < 6 → mi + 63 * k < 1400 → dr + 10 * k < 2 ^ 19 → cells + 12 * k ≤ 36 → slots + 212 * k ≤ 636 → va_P D vwCl (tW ad o9 y b cI cO g dr cd nf n) H → va_D A (tW ad o9 y b cI cO g dr cd nf n) → va_S A s.heap H locs → (∀ (y : tA) (H : Heap) (locs : List Loc) (ls : Array Slot), va_P D vwCl (tV ad o9 y b cI cO (tripL xs L c0 d0 k ((g, n), dr) mi st li) cd nf) H → va_D A (tV ad o9 y b cI cO (tripL xs L c0 d0 k ((g, n), dr) mi st li) cd nf) → va_S A s.heap H locs → W p l e ({ frames := 5, cells := 36, slots := 636, locals := 180 } : Room) s m args below meth c H locs 36 636 Q (F0 m 208 ls [])) → W p l e ({ frames := 5, cells := 36, slots := 636, locals := 180 } : Room) s m args below meth c H locs cells slots Q (F0 m 35 ls []) := by
  have winX9 : ∀ w ∈ u_ws RX9 TX9 9, w ∈ wsX9_trip := by decide +kernel
  intro k
  induction k with
  | zero =>
    intro g n dr mi st li y cells slots H locs ls hl hR hst hli hm hdr hcl hsl hP hD hS kk
    refine lv_iload hx hb dX9_trip_35 (lv_at hl 6 rfl) ?_
    refine lv_if_le (tgt := 208) hx hb dX9_trip_37 (by decide) (fun c1 => ?_) (fun c1 => absurd (by decide) c1)
    refine W.widen (k := 36) (n := 636) (by omega) (by omega) ?_
    have hk := kk y H locs ls
    rw [tripL_0] at hk
    exact hk hP hD hS
  | succ k ih =>
    intro g n dr mi st li y cells slots H locs ls hl hR hst hli hm hdr hcl hsl hP hD hS kk
    refine lv_iload hx hb dX9_trip_35 (lv_at hl 6 rfl) ?_
    refine lv_if_le (tgt := 208) hx hb dX9_trip_37 (by decide) (fun c1 => absurd ((nI_le0 (by omega)).mp c1) (by omega)) (fun c1 => ?_)
    refine lv_aload_n hx hb dX9_trip_40 rfl (lv_at hl 0 rfl) ?_
    refine lv_iconst (v := 5) hx hb dX9_trip_41 (by decide) ?_
    refine g_ki hK hD hS hA (va_runV (As := [.int (nI 5)]) (rest := []) ⟨hx, hb, hml, hown, hts⟩ (kX9_draw l D H.size b L xs ad o9 y cI cO g dr cd nf n 5 (by decide) (by decide) (by omega) hL) (cwV 1 hts gX9_trip_X9_draw rfl rfl rfl (by decide +kernel) ⟨Nat.le_of_ble_eq_true rfl, Nat.le_of_ble_eq_true rfl⟩) (s_preV hN hX hbl hbA hS hA hK hP hD (ci := 9) (q0 := 98) rfl rfl) rfl rfl hl.1 rfl (lv_room (Nat.le_of_ble_eq_true rfl)) dX9_trip_42 ⟨(show cells + 0 ≤ 36 by omega), (show slots + 0 ≤ 636 by omega)⟩) (fun H locs hP hD hS => ?_)
    obtain ⟨eu1, lu1⟩ := dN_is xs L (dr) (m := 5) (by decide) (by decide)
    rw [eu1]
    obtain ⟨to, hto⟩ : ∃ z, z = dN xs L dr 5 := ⟨_, rfl⟩
    rw [← hto] at lu1 ⊢
    refine lv_istore (lv' := [(7, .int (nI to)), (0, .ref o9), (1, .int (nI c0)), (2, .int (nI d0)), (3, .int (nI mi)), (4, .int (nI st)), (5, .int (nI li)), (6, .int (nI (k + 1)))]) hx hb dX9_trip_45 hl (by decide) rfl (fun ls hl => ?_)
    refine lv_iconst (v := 5) hx hb dX9_trip_47 (by decide) ?_
    refine lv_aload_n hx hb dX9_trip_48 rfl (lv_at hl 1 rfl) ?_
    refine lv_bipush (v := 30) hx hb dX9_trip_49 (by decide) ?_
    refine g_ki hK hD hS hA (va_runV (As := [.int (nI 30)]) (rest := [.int 5]) ⟨hx, hb, hml, hown, hts⟩ (kX9_draw l D H.size b L xs ad o9 y cI cO g (dr + 1) cd nf n 30 (by decide) (by decide) (by omega) hL) (cwV 1 hts gX9_trip_X9_draw rfl rfl rfl (by decide +kernel) ⟨Nat.le_of_ble_eq_true rfl, Nat.le_of_ble_eq_true rfl⟩) (s_preV hN hX hbl hbA hS hA hK hP hD (ci := 9) (q0 := 98) rfl rfl) rfl rfl hl.1 rfl (lv_room (Nat.le_of_ble_eq_true rfl)) dX9_trip_51 ⟨(show cells + 0 + 0 ≤ 36 by omega), (show slots + 0 + 0 ≤ 636 by omega)⟩) (fun H locs hP hD hS => ?_)
    obtain ⟨eu2, lu2⟩ := dN_is xs L (dr + 1) (m := 30) (by decide) (by decide)
    rw [eu2]
    refine lv_iadd hx hb dX9_trip_54 ?_
    rw [show (5 : Int32) + (nI (dN xs L (dr + 1) 30)) = nI (5 + (dN xs L (dr + 1) 30)) from nI_add _ _]
    obtain ⟨rd, hrd⟩ : ∃ z, z = 5 + dN xs L (dr + 1) 30 := ⟨_, rfl⟩
    rw [← hrd]
    refine lv_istore (lv' := [(8, .int (nI rd)), (7, .int (nI to)), (0, .ref o9), (1, .int (nI c0)), (2, .int (nI d0)), (3, .int (nI mi)), (4, .int (nI st)), (5, .int (nI li)), (6, .int (nI (k + 1)))]) hx hb dX9_trip_55 hl (by decide) rfl (fun ls hl => ?_)
    have hl : lv_has ls 9 [(8, .int (nI rd)), (7, .int (nI to)), (0, .ref o9), (1, .int (nI c0)), (2, .int (nI d0)), (3, .int (nI mi)), (4, .int (nI st)), (5, .int (nI li)), (6, .int (nI (k + 1)))] := lv_sub hl [0, 1, 2, 3, 4, 5, 6, 7, 8] rfl
    obtain ⟨σ0, f0⟩ : ∃ z : tS, z = ((g, n), dr + 2) := ⟨_, rfl⟩
    have hR0 : RGN σ0.1.1 σ0.1.2 := by rw [f0]; exact hR
    have d0_ : σ0.2 = dr + 2 := by rw [f0]
    have hP : va_P D vwCl (tV ad o9 y b cI cO σ0 cd nf) H := by rw [f0]; exact hP
    have hD : va_D A (tV ad o9 y b cI cO σ0 cd nf) := by rw [f0]; exact hD
    have q1 := stA_ok xs L (c := c0) (s := st) (l := li) (i := 1) (d := d0) (m := mi) hR0 hc hst hli (by decide) hd (by omega)
    have d1_ := q1.2.2.2
    refine s_trip_1 hx hb hml hts hown hN hX hbl hbA hA hK hL (k := k + 1) hl hR0 hc hd hst hli (by omega) (by omega) (by omega) (by omega) hP hD hS (fun y H locs hP hD hS => ?_)
    obtain ⟨σ1, f1⟩ : ∃ z : tS, z = stA xs L c0 st li 1 d0 mi σ0 := ⟨_, rfl⟩
    have hP : va_P D vwCl (tV ad o9 y b cI cO σ1 cd nf) H := by rw [f1]; exact hP
    have hD : va_D A (tV ad o9 y b cI cO σ1 cd nf) := by rw [f1]; exact hD
    rw [← f1] at q1 d1_
    have hR1 := q1.1
    have q2 := stB_ok xs L (c := c0) (s := st) (l := li) (i := 1) (d := d0) (m := mi) hR1 hc hst hli (by decide) hd (by omega)
    have d2_ := q2.2.2.2
    refine s_trip_2 hx hb hml hts hown hN hX hbl hbA hA hK hL (k := k + 1) hl hR1 hc hd hst hli (by omega) (by omega) (by omega) (by omega) hP hD hS (fun y H locs hP hD hS => ?_)
    obtain ⟨σ2, f2⟩ : ∃ z : tS, z = stB xs L c0 st li 1 d0 mi σ1 := ⟨_, rfl⟩
    have hP : va_P D vwCl (tV ad o9 y b cI cO σ2 cd nf) H := by rw [f2]; exact hP
    have hD : va_D A (tV ad o9 y b cI cO σ2 cd nf) := by rw [f2]; exact hD
    rw [← f2] at q2 d2_
    have hR2 := q2.1
    have q3 := stA_ok xs L (c := c0) (s := to) (l := li) (i := 0) (d := d0) (m := mi + rd) hR2 hc (show to < 10 by omega) hli (by decide) hd (by omega)
    have d3_ := q3.2.2.2
    refine s_trip_3 hx hb hml hts hown hN hX hbl hbA hA hK hL (k := k + 1) hl hR2 hc hd (show to < 10 by omega) hli (by omega) (by omega) (by omega) (by omega) hP hD hS (fun y H locs hP hD hS => ?_)
    obtain ⟨σ3, f3⟩ : ∃ z : tS, z = stA xs L c0 to li 0 d0 (mi + rd) σ2 := ⟨_, rfl⟩
    have hP : va_P D vwCl (tV ad o9 y b cI cO σ3 cd nf) H := by rw [f3]; exact hP
    have hD : va_D A (tV ad o9 y b cI cO σ3 cd nf) := by rw [f3]; exact hD
    rw [← f3] at q3 d3_
    have hR3 := q3.1
    have q4 := stB_ok xs L (c := c0) (s := to) (l := li) (i := 0) (d := d0) (m := mi + rd) hR3 hc (show to < 10 by omega) hli (by decide) hd (by omega)
    have d4_ := q4.2.2.2
    refine s_trip_4 hx hb hml hts hown hN hX hbl hbA hA hK hL (k := k + 1) hl hR3 hc hd (show to < 10 by omega) hli (by omega) (by omega) (by omega) (by omega) hP hD hS (fun y H locs hP hD hS => ?_)
    obtain ⟨σ4, f4⟩ : ∃ z : tS, z = stB xs L c0 to li 0 d0 (mi + rd) σ3 := ⟨_, rfl⟩
    have hP : va_P D vwCl (tV ad o9 y b cI cO σ4 cd nf) H := by rw [f4]; exact hP
    have hD : va_D A (tV ad o9 y b cI cO σ4 cd nf) := by rw [f4]; exact hD
    rw [← f4] at q4 d4_
    have hR4 := q4.1
    have er : ride xs L c0 d0 mi st li to rd ((g, n), dr + 2) = σ4 := by unfold ride; rw [f4, f3, f2, f1, f0]
    refine lv_iload_n hx hb dX9_trip_179 rfl (lv_at hl 5 rfl) ?_
    refine lv_iload hx hb dX9_trip_180 (lv_at hl 0 rfl) ?_
    refine lv_aload_n hx hb dX9_trip_182 rfl (lv_at hl 2 rfl) ?_
    refine lv_bipush (v := 30) hx hb dX9_trip_183 (by decide) ?_
    refine g_ki hK hD hS hA (va_runV (As := [.int (nI 30)]) (rest := [.int (nI rd), .int (nI mi)]) ⟨hx, hb, hml, hown, hts⟩ (kX9_draw l D H.size b L xs ad o9 y cI cO σ4.1.1 σ4.2 cd nf σ4.1.2 30 (by decide) (by decide) (by omega) hL) (cwV 1 hts gX9_trip_X9_draw rfl rfl rfl (by decide +kernel) ⟨Nat.le_of_ble_eq_true rfl, Nat.le_of_ble_eq_true rfl⟩) (s_preV hN hX hbl hbA hS hA hK hP hD (ci := 9) (q0 := 98) rfl rfl) rfl rfl hl.1 rfl (lv_room (Nat.le_of_ble_eq_true rfl)) dX9_trip_185 ⟨(show cells + 0 + 0 + 3 + 3 + 3 + 3 + 0 ≤ 36 by omega), (show slots + 0 + 0 + 53 + 53 + 53 + 53 + 0 ≤ 636 by omega)⟩) (fun H locs hP hD hS => ?_)
    obtain ⟨eu3, lu3⟩ := dN_is xs L (σ4.2) (m := 30) (by decide) (by decide)
    rw [eu3]
    refine lv_iadd hx hb dX9_trip_188 ?_
    rw [show ((nI rd) : Int32) + (nI (dN xs L σ4.2 30)) = nI (rd + (dN xs L σ4.2 30)) from nI_add _ _]
    refine lv_iadd hx hb dX9_trip_189 ?_
    rw [show ((nI mi) : Int32) + (nI (rd + (dN xs L σ4.2 30))) = nI (mi + (rd + (dN xs L σ4.2 30))) from nI_add _ _]
    refine lv_istore_n (lv' := [(3, .int (nI (mi + (rd + (dN xs L σ4.2 30))))), (8, .int (nI rd)), (7, .int (nI to)), (0, .ref o9), (1, .int (nI c0)), (2, .int (nI d0)), (4, .int (nI st)), (5, .int (nI li)), (6, .int (nI (k + 1)))]) hx hb dX9_trip_190 rfl hl (by decide) rfl (fun ls hl => ?_)
    refine lv_iload hx hb dX9_trip_191 (lv_at hl 2 rfl) ?_
    refine lv_istore (lv' := [(4, .int (nI to)), (3, .int (nI (mi + (rd + (dN xs L σ4.2 30))))), (8, .int (nI rd)), (7, .int (nI to)), (0, .ref o9), (1, .int (nI c0)), (2, .int (nI d0)), (5, .int (nI li)), (6, .int (nI (k + 1)))]) hx hb dX9_trip_193 hl (by decide) rfl (fun ls hl => ?_)
    refine lv_aload_n hx hb dX9_trip_195 rfl (lv_at hl 4 rfl) ?_
    refine lv_iconst (v := 4) hx hb dX9_trip_196 (by decide) ?_
    refine g_ki hK hD hS hA (va_runV (As := [.int (nI 4)]) (rest := []) ⟨hx, hb, hml, hown, hts⟩ (kX9_draw l D H.size b L xs ad o9 y cI cO σ4.1.1 (σ4.2 + 1) cd nf σ4.1.2 4 (by decide) (by decide) (by omega) hL) (cwV 1 hts gX9_trip_X9_draw rfl rfl rfl (by decide +kernel) ⟨Nat.le_of_ble_eq_true rfl, Nat.le_of_ble_eq_true rfl⟩) (s_preV hN hX hbl hbA hS hA hK hP hD (ci := 9) (q0 := 98) rfl rfl) rfl rfl hl.1 rfl (lv_room (Nat.le_of_ble_eq_true rfl)) dX9_trip_197 ⟨(show cells + 0 + 0 + 3 + 3 + 3 + 3 + 0 + 0 ≤ 36 by omega), (show slots + 0 + 0 + 53 + 53 + 53 + 53 + 0 + 0 ≤ 636 by omega)⟩) (fun H locs hP hD hS => ?_)
    obtain ⟨eu4, lu4⟩ := dN_is xs L (σ4.2 + 1) (m := 4) (by decide) (by decide)
    rw [eu4]
    refine lv_istore (lv' := [(5, .int (nI (dN xs L (σ4.2 + 1) 4))), (4, .int (nI to)), (3, .int (nI (mi + (rd + (dN xs L σ4.2 30))))), (8, .int (nI rd)), (7, .int (nI to)), (0, .ref o9), (1, .int (nI c0)), (2, .int (nI d0)), (6, .int (nI (k + 1)))]) hx hb dX9_trip_200 hl (by decide) rfl (fun ls hl => ?_)
    refine lv_iinc (v := nI k) (lv' := [(6, .int (nI k)), (5, .int (nI (dN xs L (σ4.2 + 1) 4))), (4, .int (nI to)), (3, .int (nI (mi + (rd + (dN xs L σ4.2 30))))), (8, .int (nI rd)), (7, .int (nI to)), (0, .ref o9), (1, .int (nI c0)), (2, .int (nI d0))]) hx hb dX9_trip_202 hl (k := 8) rfl (nI_m k) (by decide) rfl (fun ls hl => ?_)
    refine lv_goto (tgt := 35) hx hb dX9_trip_205 (by decide) ?_
    have e9 : tripL xs L c0 d0 (k + 1) ((g, n), dr) mi st li = tripL xs L c0 d0 k (σ4.1, σ4.2 + 2) (mi + (rd + dN xs L σ4.2 30)) to (dN xs L (σ4.2 + 1) 4) := by
      rw [tripL_s]
      show tripL xs L c0 d0 k ((ride xs L c0 d0 mi st li (dN xs L dr 5) (5 + dN xs L (dr + 1) 30) ((g, n), dr + 2)).1, (ride xs L c0 d0 mi st li (dN xs L dr 5) (5 + dN xs L (dr + 1) 30) ((g, n), dr + 2)).2 + 2) (mi + (5 + dN xs L (dr + 1) 30 + dN xs L (ride xs L c0 d0 mi st li (dN xs L dr 5) (5 + dN xs L (dr + 1) 30) ((g, n), dr + 2)).2 30)) (dN xs L dr 5) (dN xs L ((ride xs L c0 d0 mi st li (dN xs L dr 5) (5 + dN xs L (dr + 1) 30) ((g, n), dr + 2)).2 + 1) 4) = _
      rw [← hto, ← hrd, er]
    refine ih σ4.1.1 σ4.1.2 (σ4.2 + 2) (mi + (rd + dN xs L σ4.2 30)) to (dN xs L (σ4.2 + 1) 4) y _ _ H locs ls (lv_sub hl [6, 7, 8, 3, 2, 1, 0] rfl) hR4 (by omega) (by omega) (by omega) (by omega) (by omega) (by omega) hP hD hS (fun y H locs ls hP hD hS => ?_)
    have hk := kk y H locs ls
    rw [e9] at hk
    exact hk hP hD hS
end TP
set_option maxHeartbeats 4000000 in
set_option maxRecDepth 100000 in
theorem kX9_trip (l : Launch) (D : va_G) (sz b L : Nat) (xs : Nat → Int32) (ad : Nat → Nat) (o9 : Nat) (y : tA) (cI cO : ClassId) (g : tG) (dr : Nat) (cd : Int32) (nf n : Nat) (c0 d0 : Nat) (hc : c0 < 3) (hd : d0 < 10) (hR : RGN g n) (hdr : dr < 2 ^ 18) (hL : L < 2 ^ 20) : Met l yX9_trip wsX9_trip ({ frames := 5, cells := 36, slots := 636, locals := 180 } : Room) (s_P D (tY_T cI cO) (tW ad o9 y b cI cO g dr cd nf n) [.ref o9, .int (nI c0), .int (nI d0)] sz b L xs) (t_Qy D (tY_T cI cO) (va_A (tW ad o9 y b cI cO g dr cd nf n) sz) (fun u => tV ad o9 u b cI cO (tripF xs L c0 d0 ((g, n), dr)) cd nf) 1) 36 636 (va_A (tW ad o9 y b cI cO g dr cd nf n) sz) := by
  refine Met.ofW (cc := cX9_trip) (maxL := 9) (ret := (some .boolean)) (by decide) rfl ?_
  intro p e s m args below meth c9 s₁ B hml hv
  obtain ⟨rfl, hN, hX, hbl, hbA, hsz, hP, hK, hD0⟩ := hv
  have hx := B.exec
  have hb := B.bytes
  have hr := B.returns
  have hts := atoms_spec (ws := wsX9_trip) B.pre
  have hown : s.vm.findClass RX9 = some m.cls := findClass_of_methodNamed B.named
  have hlocks := B.notSynchronized
  subst hsz
  have hD := hD0.self (sz := s.heap.size)
  generalize hAe : va_A (tW ad o9 y b cI cO g dr cd nf n) s.heap.size = A at hD hbA ⊢
  have hA : ∀ q : Nat, s.heap.size ≤ q → A q := fun q h => by rw [← hAe]; exact Or.inr h
  have hS : va_S A s.heap s.heap [] := va_S.rf
  have hl := lv_entry ([.ref o9, .int (nI c0), .int (nI d0)]) (n := 9) (Nat.le_of_ble_eq_true rfl)
  rw [lg_entry_eq]
  generalize (lg_sl ([.ref o9, .int (nI c0), .int (nI d0)]) ++ List.replicate (9 - (lg_sl ([.ref o9, .int (nI c0), .int (nI d0)])).length) Slot.unset).toArray = ls at hl ⊢
  have hl : lv_has ls 9 [(0, .ref o9), (1, .int (nI c0)), (2, .int (nI d0))] := hl
  have winX9 : ∀ w ∈ u_ws RX9 TX9 9, w ∈ wsX9_trip := by decide +kernel
  refine lv_sipush (v := 300) hx hb dX9_trip_0 (by decide) ?_
  refine lv_aload_n hx hb dX9_trip_3 rfl (lv_at hl 0 rfl) ?_
  refine lv_sipush (v := 600) hx hb dX9_trip_4 (by decide) ?_
  refine g_ki hK hD hS hA (va_runV (As := [.int (nI 600)]) (rest := [.int 300]) ⟨hx, hb, hml, hown, hts⟩ (kX9_draw l D s.heap.size b L xs ad o9 y cI cO g dr cd nf n 600 (by decide) (by decide) (by omega) hL) (cwV 1 hts gX9_trip_X9_draw rfl rfl rfl (by decide +kernel) ⟨Nat.le_of_ble_eq_true rfl, Nat.le_of_ble_eq_true rfl⟩) (s_preV hN hX hbl hbA hS hA hK hP hD (ci := 9) (q0 := 98) rfl rfl) rfl rfl hl.1 rfl (lv_room (Nat.le_of_ble_eq_true rfl)) dX9_trip_7 ⟨Nat.le_of_ble_eq_true rfl, Nat.le_of_ble_eq_true rfl⟩) (fun H locs hP hD hS => ?_)
  obtain ⟨eu1, lu1⟩ := dN_is xs L (dr) (m := 600) (by decide) (by decide)
  rw [eu1]
  refine lv_iadd hx hb dX9_trip_10 ?_
  rw [show (300 : Int32) + (nI (dN xs L dr 600)) = nI (300 + (dN xs L dr 600)) from nI_add _ _]
  refine lv_istore_n (lv' := [(3, .int (nI (300 + (dN xs L dr 600)))), (0, .ref o9), (1, .int (nI c0)), (2, .int (nI d0))]) hx hb dX9_trip_11 rfl hl (by decide) rfl (fun ls hl => ?_)
  refine lv_aload_n hx hb dX9_trip_12 rfl (lv_at hl 1 rfl) ?_
  refine lv_iconst (v := 5) hx hb dX9_trip_13 (by decide) ?_
  refine g_ki hK hD hS hA (va_runV (As := [.int (nI 5)]) (rest := []) ⟨hx, hb, hml, hown, hts⟩ (kX9_draw l D H.size b L xs ad o9 y cI cO g (dr + 1) cd nf n 5 (by decide) (by decide) (by omega) hL) (cwV 1 hts gX9_trip_X9_draw rfl rfl rfl (by decide +kernel) ⟨Nat.le_of_ble_eq_true rfl, Nat.le_of_ble_eq_true rfl⟩) (s_preV hN hX hbl hbA hS hA hK hP hD (ci := 9) (q0 := 98) rfl rfl) rfl rfl hl.1 rfl (lv_room (Nat.le_of_ble_eq_true rfl)) dX9_trip_14 ⟨Nat.le_of_ble_eq_true rfl, Nat.le_of_ble_eq_true rfl⟩) (fun H locs hP hD hS => ?_)
  obtain ⟨eu2, lu2⟩ := dN_is xs L (dr + 1) (m := 5) (by decide) (by decide)
  rw [eu2]
  refine lv_istore (lv' := [(4, .int (nI (dN xs L (dr + 1) 5))), (3, .int (nI (300 + (dN xs L dr 600)))), (0, .ref o9), (1, .int (nI c0)), (2, .int (nI d0))]) hx hb dX9_trip_17 hl (by decide) rfl (fun ls hl => ?_)
  refine lv_aload_n hx hb dX9_trip_19 rfl (lv_at hl 2 rfl) ?_
  refine lv_iconst (v := 4) hx hb dX9_trip_20 (by decide) ?_
  refine g_ki hK hD hS hA (va_runV (As := [.int (nI 4)]) (rest := []) ⟨hx, hb, hml, hown, hts⟩ (kX9_draw l D H.size b L xs ad o9 y cI cO g (dr + 2) cd nf n 4 (by decide) (by decide) (by omega) hL) (cwV 1 hts gX9_trip_X9_draw rfl rfl rfl (by decide +kernel) ⟨Nat.le_of_ble_eq_true rfl, Nat.le_of_ble_eq_true rfl⟩) (s_preV hN hX hbl hbA hS hA hK hP hD (ci := 9) (q0 := 98) rfl rfl) rfl rfl hl.1 rfl (lv_room (Nat.le_of_ble_eq_true rfl)) dX9_trip_21 ⟨Nat.le_of_ble_eq_true rfl, Nat.le_of_ble_eq_true rfl⟩) (fun H locs hP hD hS => ?_)
  obtain ⟨eu3, lu3⟩ := dN_is xs L (dr + 2) (m := 4) (by decide) (by decide)
  rw [eu3]
  refine lv_istore (lv' := [(5, .int (nI (dN xs L (dr + 2) 4))), (4, .int (nI (dN xs L (dr + 1) 5))), (3, .int (nI (300 + (dN xs L dr 600)))), (0, .ref o9), (1, .int (nI c0)), (2, .int (nI d0))]) hx hb dX9_trip_24 hl (by decide) rfl (fun ls hl => ?_)
  refine lv_iconst (v := 1) hx hb dX9_trip_26 (by decide) ?_
  refine lv_aload_n hx hb dX9_trip_27 rfl (lv_at hl 3 rfl) ?_
  refine lv_iconst (v := 3) hx hb dX9_trip_28 (by decide) ?_
  refine g_ki hK hD hS hA (va_runV (As := [.int (nI 3)]) (rest := [.int 1]) ⟨hx, hb, hml, hown, hts⟩ (kX9_draw l D H.size b L xs ad o9 y cI cO g (dr + 3) cd nf n 3 (by decide) (by decide) (by omega) hL) (cwV 1 hts gX9_trip_X9_draw rfl rfl rfl (by decide +kernel) ⟨Nat.le_of_ble_eq_true rfl, Nat.le_of_ble_eq_true rfl⟩) (s_preV hN hX hbl hbA hS hA hK hP hD (ci := 9) (q0 := 98) rfl rfl) rfl rfl hl.1 rfl (lv_room (Nat.le_of_ble_eq_true rfl)) dX9_trip_29 ⟨Nat.le_of_ble_eq_true rfl, Nat.le_of_ble_eq_true rfl⟩) (fun H locs hP hD hS => ?_)
  obtain ⟨eu4, lu4⟩ := dN_is xs L (dr + 3) (m := 3) (by decide) (by decide)
  rw [eu4]
  refine lv_iadd hx hb dX9_trip_32 ?_
  rw [show (1 : Int32) + (nI (dN xs L (dr + 3) 3)) = nI (1 + (dN xs L (dr + 3) 3)) from nI_add _ _]
  refine lv_istore (lv' := [(6, .int (nI (1 + (dN xs L (dr + 3) 3)))), (5, .int (nI (dN xs L (dr + 2) 4))), (4, .int (nI (dN xs L (dr + 1) 5))), (3, .int (nI (300 + (dN xs L dr 600)))), (0, .ref o9), (1, .int (nI c0)), (2, .int (nI d0))]) hx hb dX9_trip_33 hl (by decide) rfl (fun ls hl => ?_)
  refine s_trip_loop hx hb hml hts hown hN hX hbl hbA hA hK hL hc hd (1 + dN xs L (dr + 3) 3) g n (dr + 4) (300 + dN xs L dr 600) (dN xs L (dr + 1) 5) (dN xs L (dr + 2) 4) y _ _ H locs ls (lv_sub hl [4, 5, 6, 3, 2, 1, 0] rfl) hR (by omega) (by omega) (by omega) (by omega) (by omega) (by omega) hP hD hS (fun y9 H locs ls hP hD hS => ?_)
  refine lv_iconst (v := 1) hx hb dX9_trip_208 (by decide) ?_
  exact g_yret y9 rfl hx hb hr narrow_z1 hlocks hK hP hD hS rfl dX9_trip_209
