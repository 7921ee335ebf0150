section TV
variable {p : Program} {l : Launch} {e : Env} {s : State} {m : MethodId} {args : Array Value} {below : List Frame} {meth : Method} {c : Code} {H : Heap} {locs : List Loc} {cells slots : Nat} {Q : State → Prop}
variable {D : va_G} {A : Nat → Prop} {H0 : Heap} {ad : Nat → Nat} {o9 b : Nat} {y : tA} {cI cO : ClassId} {g : tG} {dr : Nat} {cd : Int32} {nf n : Nat}
variable {ad3 : Nat → Nat} {h g0 : tG} {E : va_W} {f : Nat → Int32} {qz : Nat} {cZ : ClassId}
set_option maxHeartbeats 4000000 in
set_option maxRecDepth 100000 in
theorem s_tur_in (hx : p.tables.exec = Jvm.exec) (hb : c.code = cL_isTurned) (hml : c.maxLocals = 7) (hts : ∀ w ∈ wsL_isTurned, w.before args s = true) (hown : s.vm.findClass RL = some m.cls) (hA : ∀ q : Nat, s.heap.size ≤ q → A q) (hK : va_K D vwCl (tZ_T cI cO cZ) s) {i : Nat} (hi : i < n) (hn : n ≤ 40) (tp : TAPS g n) (f0 : Nat → Int32) (kk : ∀ (f : Nat → Int32) (H : Heap) (locs : List Loc) (ls : Array Slot), MON f0 f → MIXJ g f i i → lv_has ls 7 [(5, .int (nI i)), (4, .ref (y.rP i)), (3, .int (nI i)), (2, .ref qz), (0, .ref o9), (1, .ref (ad3 0))] → va_P D vwCl (tcW ad3 cI h ++ (tW ad o9 y b cI cO g dr cd nf n ++ [(qz, .inl (cZ, 3, .inl f))])) H → va_D A (tcW ad3 cI h ++ (tW ad o9 y b cI cO g dr cd nf n ++ [(qz, .inl (cZ, 3, .inl f))])) → va_S A s.heap H locs → W p l e ({ frames := 8, cells := 99, slots := 2268, locals := 230 } : Room) s m args below meth c H locs cells slots Q (F0 m 208 ls [])) : ∀ (d j : Nat) (f : Nat → Int32) (H : Heap) (locs : List Loc) (ls : Array Slot), j + d = i → MON f0 f → MIXJ g f i j → lv_has ls 7 [(5, .int (nI j)), (4, .ref (y.rP i)), (3, .int (nI i)), (2, .ref qz), (0, .ref o9), (1, .ref (ad3 0))] → va_P D vwCl (tcW ad3 cI h ++ (tW ad o9 y b cI cO g dr cd nf n ++ [(qz, .inl (cZ, 3, .inl f))])) H → va_D A (tcW ad3 cI h ++ (tW ad o9 y b cI cO g dr cd nf n ++ [(qz, .inl (cZ, 3, .inl f))])) → va_S A s.heap H locs → W p l e ({ frames := 8, cells := 99, slots := 2268, locals := 230 } : Room) s m args below meth c H locs cells slots Q (F0 m 141 ls []) := by
  have winX9 : ∀ w ∈ u_ws RX9 TX9 9, w ∈ wsL_isTurned := by decide +kernel
  intro d
  induction d with
  | zero =>
    intro j f H locs ls hj hm hx9 hl hP hD hS
    have e9 : j = i := by omega
    subst e9
    refine lv_iload hx hb dL_isTurned_141 (lv_at hl 0 rfl) ?_
    refine lv_iload_n hx hb dL_isTurned_143 rfl (lv_at hl 2 rfl) ?_
    refine lv_icmp_ge (tgt := 208) hx hb dL_isTurned_144 (by decide) (fun c1 => ?_) (fun c1 => absurd ((nI_geq (by omega) (by omega)).mpr (Nat.le_refl j)) c1)
    exact kk f H locs ls hm hx9 hl hP hD hS
  | succ d ih =>
    intro j f H locs ls hj hm hx9 hl hP hD hS
    obtain ⟨c0, s0, l0, z0, d0, m0, c1_, c2_, c3_, c4_, c5_, c6_, a1, a2, a3, a4, a5, a6⟩ := tp.1 i hi
    refine lv_iload hx hb dL_isTurned_141 (lv_at hl 0 rfl) ?_
    refine lv_iload_n hx hb dL_isTurned_143 rfl (lv_at hl 2 rfl) ?_
    refine lv_icmp_ge (tgt := 208) hx hb dL_isTurned_144 (by decide) (fun c1 => absurd ((nI_geq (by omega) (by omega)).mp c1) (by omega)) (fun c1 => ?_)
    refine lv_aload_n hx hb dL_isTurned_147 rfl (lv_at hl 4 rfl) ?_
    refine va_get (D := D) (ci := 9) (v := .ref y.aP) (C := RX9) (T := TX9) (N := 9) hx hb hts winX9 hown hK hP (98 + 98) (w3_at tW_o) rfl 8 (by decide) (hts (.fieldLink RL 93 "TapCapLaw$Told" "taps" "[[I") (List.mem_of_getElem? (i := 3) rfl)) (fun _ h9 => h9) rfl dL_isTurned_148 ?_
    refine lv_iload hx hb dL_isTurned_151 (lv_at hl 0 rfl) ?_
    refine t_ald hx hb hK hP (98 + 101) 1 j (w3_at tW_p) rfl (by omega) (by omega) (tAA_at (by omega)) dL_isTurned_153 ?_
    refine lv_iconst (v := 0) hx hb dL_isTurned_154 (by decide) ?_
    refine t_ild hx hb hK hP (98 + (102 + nf + j)) 0 0 (w3_at (tW_rp (by omega))) rfl (by decide) (by decide) dL_isTurned_155 ?_
    rw [show tPv g j 0 = g 13 j from rfl]
    refine lv_aload hx hb dL_isTurned_156 (lv_at hl 1 rfl) ?_
    refine lv_iconst (v := 0) hx hb dL_isTurned_158 (by decide) ?_
    refine t_ild hx hb hK hP (98 + (102 + nf + i)) 0 0 (w3_at (tW_rp (by omega))) rfl (by decide) (by decide) dL_isTurned_159 ?_
    rw [show tPv g i 0 = g 13 i from rfl]
    refine lv_icmp_ne (tgt := 202) hx hb dL_isTurned_160 (by decide) (fun c1 => ?_) (fun c1 => ?_)
    · refine lv_iinc (v := nI (j + 1)) (lv' := [(5, .int (nI (j + 1))), (4, .ref (y.rP i)), (3, .int (nI i)), (2, .ref qz), (0, .ref o9), (1, .ref (ad3 0))]) hx hb dL_isTurned_202 hl (k := 0) rfl (nI_1 j) (by decide) rfl (fun ls hl => ?_)
      refine lv_goto (tgt := 141) hx hb dL_isTurned_205 (by decide) ?_
      exact ih (j + 1) _ H locs ls (by omega) (hm) (hx9.no (fun q => c1 q.1)) (lv_sub hl [0, 1, 2, 3, 4, 5] rfl) hP hD hS
    · refine lv_aload_n hx hb dL_isTurned_163 rfl (lv_at hl 4 rfl) ?_
      refine va_get (D := D) (ci := 9) (v := .ref y.aP) (C := RX9) (T := TX9) (N := 9) hx hb hts winX9 hown hK hP (98 + 98) (w3_at tW_o) rfl 8 (by decide) (hts (.fieldLink RL 93 "TapCapLaw$Told" "taps" "[[I") (List.mem_of_getElem? (i := 3) rfl)) (fun _ h9 => h9) rfl dL_isTurned_164 ?_
      refine lv_iload hx hb dL_isTurned_167 (lv_at hl 0 rfl) ?_
      refine t_ald hx hb hK hP (98 + 101) 1 j (w3_at tW_p) rfl (by omega) (by omega) (tAA_at (by omega)) dL_isTurned_169 ?_
      refine lv_iconst (v := 4) hx hb dL_isTurned_170 (by decide) ?_
      refine t_ild hx hb hK hP (98 + (102 + nf + j)) 0 4 (w3_at (tW_rp (by omega))) rfl (by decide) (by decide) dL_isTurned_171 ?_
      rw [show tPv g j 4 = g 17 j from rfl]
      refine lv_aload hx hb dL_isTurned_172 (lv_at hl 1 rfl) ?_
      refine lv_iconst (v := 4) hx hb dL_isTurned_174 (by decide) ?_
      refine t_ild hx hb hK hP (98 + (102 + nf + i)) 0 4 (w3_at (tW_rp (by omega))) rfl (by decide) (by decide) dL_isTurned_175 ?_
      rw [show tPv g i 4 = g 17 i from rfl]
      refine lv_icmp_ne (tgt := 202) hx hb dL_isTurned_176 (by decide) (fun c2 => ?_) (fun c2 => ?_)
      · refine lv_iinc (v := nI (j + 1)) (lv' := [(5, .int (nI (j + 1))), (4, .ref (y.rP i)), (3, .int (nI i)), (2, .ref qz), (0, .ref o9), (1, .ref (ad3 0))]) hx hb dL_isTurned_202 hl (k := 0) rfl (nI_1 j) (by decide) rfl (fun ls hl => ?_)
        refine lv_goto (tgt := 141) hx hb dL_isTurned_205 (by decide) ?_
        exact ih (j + 1) _ H locs ls (by omega) (hm) (hx9.no (fun q => c2 q.2.1)) (lv_sub hl [0, 1, 2, 3, 4, 5] rfl) hP hD hS
      · refine lv_aload_n hx hb dL_isTurned_179 rfl (lv_at hl 4 rfl) ?_
        refine va_get (D := D) (ci := 9) (v := .ref y.aP) (C := RX9) (T := TX9) (N := 9) hx hb hts winX9 hown hK hP (98 + 98) (w3_at tW_o) rfl 8 (by decide) (hts (.fieldLink RL 93 "TapCapLaw$Told" "taps" "[[I") (List.mem_of_getElem? (i := 3) rfl)) (fun _ h9 => h9) rfl dL_isTurned_180 ?_
        refine lv_iload hx hb dL_isTurned_183 (lv_at hl 0 rfl) ?_
        refine t_ald hx hb hK hP (98 + 101) 1 j (w3_at tW_p) rfl (by omega) (by omega) (tAA_at (by omega)) dL_isTurned_185 ?_
        refine lv_iconst (v := 5) hx hb dL_isTurned_186 (by decide) ?_
        refine t_ild hx hb hK hP (98 + (102 + nf + j)) 0 5 (w3_at (tW_rp (by omega))) rfl (by decide) (by decide) dL_isTurned_187 ?_
        rw [show tPv g j 5 = g 18 j from rfl]
        refine lv_aload hx hb dL_isTurned_188 (lv_at hl 1 rfl) ?_
        refine lv_iconst (v := 5) hx hb dL_isTurned_190 (by decide) ?_
        refine t_ild hx hb hK hP (98 + (102 + nf + i)) 0 5 (w3_at (tW_rp (by omega))) rfl (by decide) (by decide) dL_isTurned_191 ?_
        rw [show tPv g i 5 = g 18 i from rfl]
        refine lv_icmp_ne (tgt := 202) hx hb dL_isTurned_192 (by decide) (fun c3 => ?_) (fun c3 => ?_)
        · refine lv_iinc (v := nI (j + 1)) (lv' := [(5, .int (nI (j + 1))), (4, .ref (y.rP i)), (3, .int (nI i)), (2, .ref qz), (0, .ref o9), (1, .ref (ad3 0))]) hx hb dL_isTurned_202 hl (k := 0) rfl (nI_1 j) (by decide) rfl (fun ls hl => ?_)
          refine lv_goto (tgt := 141) hx hb dL_isTurned_205 (by decide) ?_
          exact ih (j + 1) _ H locs ls (by omega) (hm) (hx9.no (fun q => c3 q.2.2)) (lv_sub hl [0, 1, 2, 3, 4, 5] rfl) hP hD hS
        · refine lv_aload_n hx hb dL_isTurned_195 rfl (lv_at hl 3 rfl) ?_
          refine lv_aload hx hb dL_isTurned_196 (lv_at hl 1 rfl) ?_
          refine lv_iconst (v := 0) hx hb dL_isTurned_198 (by decide) ?_
          refine t_ild hx hb hK hP (98 + (102 + nf + i)) 0 0 (w3_at (tW_rp (by omega))) rfl (by decide) (by decide) dL_isTurned_199 ?_
          rw [show tPv g i 0 = nI c0 from a1]
          refine lv_iconst (v := 1) hx hb dL_isTurned_200 (by decide) ?_
          refine va_zast hx hb hK hP hD hS (98 + (tW ad o9 y b cI cO g dr cd nf n).length) 2 w3_last rfl (i := nI c0) (vp_nI (by omega) (by decide)) dL_isTurned_201 (fun H locs hP hD hS => ?_)
          rw [w3_set, nI_clamp (by omega)] at hP hD
          obtain ⟨y1, y2⟩ := hx9.yes c1_ a1 (x := vp_nar .boolean 1) (by decide)
          refine lv_iinc (v := nI (j + 1)) (lv' := [(5, .int (nI (j + 1))), (4, .ref (y.rP i)), (3, .int (nI i)), (2, .ref qz), (0, .ref o9), (1, .ref (ad3 0))]) hx hb dL_isTurned_202 hl (k := 0) rfl (nI_1 j) (by decide) rfl (fun ls hl => ?_)
          refine lv_goto (tgt := 141) hx hb dL_isTurned_205 (by decide) ?_
          exact ih (j + 1) _ H locs ls (by omega) (fun q h => y2 q (hm q h)) (y1) (lv_sub hl [0, 1, 2, 3, 4, 5] rfl) hP hD hS
theorem s_tur_b (hx : p.tables.exec = Jvm.exec) (hb : c.code = cL_isTurned) {R : Room} {rest : List Value} {ls : Array Slot} {z0 : Nat} (hz : z0 < 2) (kk : W p l e R s m args below meth c H locs cells slots Q (F0 m 234 ls (.int (nI z0) :: rest))) : W p l e R s m args below meth c H locs cells slots Q (F0 m 225 ls (.int (nI z0) :: rest)) := by
  refine lv_iconst (v := 1) hx hb dL_isTurned_225 (by decide) ?_
  have : z0 = 0 ∨ z0 = 1 := by omega
  rcases this with rfl | rfl
  · refine lv_icmp_ne (tgt := 233) hx hb dL_isTurned_226 (by decide) (fun c1 => ?_) (fun c1 => absurd c1 (by decide))
    refine lv_iconst (v := 0) hx hb dL_isTurned_233 (by decide) ?_
    exact kk
  · refine lv_icmp_ne (tgt := 233) hx hb dL_isTurned_226 (by decide) (fun c1 => absurd rfl c1) (fun c1 => ?_)
    refine lv_iconst (v := 1) hx hb dL_isTurned_229 (by decide) ?_
    refine lv_goto (tgt := 234) hx hb dL_isTurned_230 (by decide) ?_
    exact kk
set_option maxHeartbeats 4000000 in
set_option maxRecDepth 100000 in
theorem s_tur_taps (hx : p.tables.exec = Jvm.exec) (hb : c.code = cL_isTurned) (hml : c.maxLocals = 7) (hts : ∀ w ∈ wsL_isTurned, w.before args s = true) (hown : s.vm.findClass RL = some m.cls) (hA : ∀ q : Nat, s.heap.size ≤ q → A q) (hK : va_K D vwCl (tZ_T cI cO cZ) s) (hcl : cells ≤ 99) (hsl : slots ≤ 2268) (hn : n ≤ 40) (tp : TAPS g n) : ∀ (k : Nat) (h : tG) (f : Nat → Int32) (H : Heap) (locs : List Loc) (ls : Array Slot), k ≤ n → RE g h n (n - k) → MIX g n f k → lv_has ls 7 [(3, .int (nI k - 1)), (2, .ref qz), (0, .ref o9), (1, .ref (ad3 0))] → va_P D vwCl (tcW ad3 cI h ++ (tW ad o9 y b cI cO g dr cd nf n ++ [(qz, .inl (cZ, 3, .inl f))])) H → va_D A (tcW ad3 cI h ++ (tW ad o9 y b cI cO g dr cd nf n ++ [(qz, .inl (cZ, 3, .inl f))])) → va_S A s.heap H locs → (∀ (h : tG) (f : Nat → Int32) (H : Heap) (locs : List Loc) (ls : Array Slot), RE g h n n → MIX g n f 0 → lv_has ls 7 [(2, .ref qz), (0, .ref o9), (1, .ref (ad3 0))] → va_P D vwCl (tcW ad3 cI h ++ (tW ad o9 y b cI cO g dr cd nf n ++ [(qz, .inl (cZ, 3, .inl f))])) H → va_D A (tcW ad3 cI h ++ (tW ad o9 y b cI cO g dr cd nf n ++ [(qz, .inl (cZ, 3, .inl f))])) → va_S A s.heap H locs → W p l e ({ frames := 8, cells := 99, slots := 2268, locals := 230 } : Room) s m args below meth c H locs cells slots Q (F0 m 252 ls [])) → W p l e ({ frames := 8, cells := 99, slots := 2268, locals := 230 } : Room) s m args below meth c H locs cells slots Q (F0 m 126 ls []) := by
  have winX9 : ∀ w ∈ u_ws RX9 TX9 9, w ∈ wsL_isTurned := by decide +kernel
  intro k
  induction k with
  | zero =>
    intro h f H locs ls hk r mx hl hP hD hS kk
    refine lv_iload_n hx hb dL_isTurned_126 rfl (lv_at hl 0 rfl) ?_
    refine lv_if_lt (tgt := 252) hx hb dL_isTurned_127 (by decide) (fun c1 => ?_) (fun c1 => absurd (by decide) c1)
    exact kk h f H locs ls r mx (lv_sub hl [1, 2, 3] rfl) hP hD hS
  | succ i ih =>
    intro h f H locs ls hk r mx hl hP hD hS kk
    rw [nI_pd] at hl
    obtain ⟨c0, s0, l0, z0, d0, m0, c1_, c2_, c3_, c4_, c5_, c6_, a1, a2, a3, a4, a5, a6⟩ := tp.1 i (by omega)
    refine lv_iload_n hx hb dL_isTurned_126 rfl (lv_at hl 0 rfl) ?_
    refine lv_if_lt (tgt := 252) hx hb dL_isTurned_127 (by decide) (fun c1 => absurd c1 (nI_pos (by omega))) (fun c1 => ?_)
    refine lv_aload_n hx hb dL_isTurned_130 rfl (lv_at hl 2 rfl) ?_
    refine va_get (D := D) (ci := 9) (v := .ref y.aP) (C := RX9) (T := TX9) (N := 9) hx hb hts winX9 hown hK hP (98 + 98) (w3_at tW_o) rfl 8 (by decide) (hts (.fieldLink RL 93 "TapCapLaw$Told" "taps" "[[I") (List.mem_of_getElem? (i := 3) rfl)) (fun _ h9 => h9) rfl dL_isTurned_131 ?_
    refine lv_iload_n hx hb dL_isTurned_134 rfl (lv_at hl 0 rfl) ?_
    refine t_ald hx hb hK hP (98 + 101) 1 i (w3_at tW_p) rfl (by omega) (by omega) (tAA_at (by omega)) dL_isTurned_135 ?_
    refine lv_astore (lv' := [(4, .ref (y.rP i)), (3, .int (nI i)), (2, .ref qz), (0, .ref o9), (1, .ref (ad3 0))]) hx hb dL_isTurned_136 hl (by decide) rfl (fun ls hl => ?_)
    refine lv_iconst (v := 0) hx hb dL_isTurned_138 (by decide) ?_
    refine lv_istore (lv' := [(5, .int 0), (4, .ref (y.rP i)), (3, .int (nI i)), (2, .ref qz), (0, .ref o9), (1, .ref (ad3 0))]) hx hb dL_isTurned_139 hl (by decide) rfl (fun ls hl => ?_)
    refine s_tur_in hx hb hml hts hown hA hK (i := i) (by omega) hn tp f (fun f H locs ls hm hj hl hP hD hS => ?_) i 0 f H locs ls (by omega) (fun _ q => q) (fun b hb9 => absurd hb9 (Nat.not_lt_zero b)) (lv_sub hl [0, 1, 2, 3, 4, 5] rfl) hP hD hS
    refine lv_aload_n hx hb dL_isTurned_208 rfl (lv_at hl 5 rfl) ?_
    refine lv_aload hx hb dL_isTurned_209 (lv_at hl 1 rfl) ?_
    refine lv_iconst (v := 0) hx hb dL_isTurned_211 (by decide) ?_
    refine t_ild hx hb hK hP (98 + (102 + nf + i)) 0 0 (w3_at (tW_rp (by omega))) rfl (by decide) (by decide) dL_isTurned_212 ?_
    rw [show tPv g i 0 = nI c0 from a1]
    refine lv_aload hx hb dL_isTurned_213 (lv_at hl 1 rfl) ?_
    refine lv_iconst (v := 1) hx hb dL_isTurned_215 (by decide) ?_
    refine t_ild hx hb hK hP (98 + (102 + nf + i)) 0 1 (w3_at (tW_rp (by omega))) rfl (by decide) (by decide) dL_isTurned_216 ?_
    rw [show tPv g i 1 = nI s0 from a2]
    refine lv_aload hx hb dL_isTurned_217 (lv_at hl 1 rfl) ?_
    refine lv_iconst (v := 2) hx hb dL_isTurned_219 (by decide) ?_
    refine t_ild hx hb hK hP (98 + (102 + nf + i)) 0 2 (w3_at (tW_rp (by omega))) rfl (by decide) (by decide) dL_isTurned_220 ?_
    rw [show tPv g i 2 = nI l0 from a3]
    refine lv_aload hx hb dL_isTurned_221 (lv_at hl 1 rfl) ?_
    refine lv_iconst (v := 3) hx hb dL_isTurned_223 (by decide) ?_
    refine t_ild hx hb hK hP (98 + (102 + nf + i)) 0 3 (w3_at (tW_rp (by omega))) rfl (by decide) (by decide) dL_isTurned_224 ?_
    rw [show tPv g i 3 = nI z0 from a4]
    refine s_tur_b hx hb c4_ ?_
    refine lv_aload hx hb dL_isTurned_234 (lv_at hl 1 rfl) ?_
    refine lv_iconst (v := 4) hx hb dL_isTurned_236 (by decide) ?_
    refine t_ild hx hb hK hP (98 + (102 + nf + i)) 0 4 (w3_at (tW_rp (by omega))) rfl (by decide) (by decide) dL_isTurned_237 ?_
    rw [show tPv g i 4 = nI d0 from a5]
    refine lv_aload hx hb dL_isTurned_238 (lv_at hl 1 rfl) ?_
    refine lv_iconst (v := 5) hx hb dL_isTurned_240 (by decide) ?_
    refine t_ild hx hb hK hP (98 + (102 + nf + i)) 0 5 (w3_at (tW_rp (by omega))) rfl (by decide) (by decide) dL_isTurned_241 ?_
    rw [show tPv g i 5 = nI m0 from a6]
    have hK8 := hK.sub (tys' := [(cI, .int)]) [0] rfl
    refine t_ki hP hD hS hA (va_runV (As := [.int (nI c0), .int (nI s0), .int (nI l0), .int (nI z0), .int (nI d0), .int (nI m0)]) (rest := []) ⟨hx, hb, hml, hown, hts⟩ (kX8_tap l D ad3 cI h H.size (nI c0) (nI s0) (nI l0) (nI z0) (nI d0) (nI m0) (by rw [r.1.2.2.2.1]; exact in_NI c1_ (by decide)) (in_NI c2_ (by decide)) (in_NI c3_ (by decide)) (in_NI (n := 28) (by omega) (by decide)) (in_RI (a := 0) (b := 1439) (Nat.zero_le _) (by omega) (by decide)) (re_cond r (by omega) hn)) (cwV 6 hts gL_isTurned_X8_tap rfl rfl rfl (by decide +kernel) ⟨Nat.le_of_ble_eq_true rfl, Nat.le_of_ble_eq_true rfl⟩) (g_preV hK8 (pre_P hP) (pre_D hD) (ci := 8) (q0 := 0) rfl rfl) rfl rfl hl.1 rfl (lv_room (Nat.le_of_ble_eq_true rfl)) dL_isTurned_242 ⟨(show cells + 0 ≤ 99 by omega), (show slots + 0 ≤ 2268 by omega)⟩) (fun H locs hP hD hS => ?_)
    have r1 := re_step r tp (by omega) hn (i := i) (by omega) c1_ c2_ c3_ c4_ c5_ c6_ a1 a2 a3 a4 a5 a6
    rw [show n - (i + 1) + 1 = n - i by omega] at r1
    refine lv_pop hx hb dL_isTurned_245 rfl ?_
    refine lv_iinc (v := nI i - 1) (lv' := [(3, .int (nI i - 1)), (5, .int (nI i)), (4, .ref (y.rP i)), (2, .ref qz), (0, .ref o9), (1, .ref (ad3 0))]) hx hb dL_isTurned_246 hl (k := 2) rfl (iinc_m1 i) (by decide) rfl (fun ls hl => ?_)
    refine lv_goto (tgt := 126) hx hb dL_isTurned_249 (by decide) ?_
    exact ih _ f H locs ls (by omega) r1 (mx.next hm hj) (lv_sub hl [0, 3, 4, 5] rfl) hP hD hS kk
end TV
