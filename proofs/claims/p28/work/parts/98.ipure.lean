/-! the same region, told again with the taps turned -/
theorem nI_inj {a b : Nat} (ha : a < 2 ^ 31) (hb : b < 2 ^ 31) (h : nI a = nI b) : a = b := by
  have e := congrArg Int32.toInt h
  rw [nI_toInt ha, nI_toInt hb] at e
  omega
/-- two taps of a card and a day are of one minute: their card is mixed -/
def MIX (g : tG) (n : Nat) (f : Nat → Int32) (i : Nat) : Prop := ∀ a, i ≤ a → a < n → ∀ b, b < a → g 13 b = g 13 a → g 17 b = g 17 a → g 18 b = g 18 a → ∀ c, c < 3 → g 13 a = nI c → ¬ f c = 0
theorem unmix_of {g : tG} {n : Nat} (tp : TAPS g n) (per : PER g) {f : Nat → Int32} (hf : MIX g n f 0) {p : Nat} (hp : p < 3) (h0 : f p = 0) : UNMIX g n (nI p) := by
  have one : ∀ a b, a < n → b < a → selT g (nI p) (-1) a → selT g (nI p) (-1) b → momT g a ≠ momT g b := by
    intro a b ha hb sa sb em
    obtain ⟨c, s, l, i, d, m, c1, c2, c3, c4, c5, c6, a1, a2, a3, a4, a5, a6⟩ := tp.1 a ha
    obtain ⟨c', s', l', i', d', m', b1, b2, b3, b4, b5, b6, e1, e2, e3, e4, e5, e6⟩ := tp.1 b (by omega)
    have l9 : tc_len 9 = 4 := rfl
    have k1 : c = p := by
      have := sa.2
      rw [a1, gA_nI (by rw [l9]; omega) (by decide), (per c c1).1] at this
      exact nI_inj (by omega) (by omega) this
    have k2 : c' = p := by
      have := sb.2
      rw [e1, gA_nI (by rw [l9]; omega) (by decide), (per c' b1).1] at this
      exact nI_inj (by omega) (by omega) this
    unfold momT at em
    rw [a5, a6, e5, e6, show (1440 : Int32) = nI 1440 from rfl, nI_mul, nI_mul, nI_add, nI_add] at em
    have q := nI_inj (by omega) (by omega) em
    have q1 : d = d' := by omega
    have q2 : m = m' := by omega
    refine hf a (Nat.zero_le _) ha b hb (by rw [a1, e1, k1, k2]) (by rw [a5, e5, q1]) (by rw [a6, e6, q2]) p hp (by rw [a1, k1]) h0
  intro a b ha hb ne sa sb em
  rcases Nat.lt_or_ge b a with c | c
  · exact one a b ha c sa sb em
  · exact one b a hb (by omega) sb sa em.symm
/-- so many taps are told again, the last one first -/
def RE (g h : tG) (n j : Nat) : Prop := VAL h j 3 ∧ PER h ∧ (h 0 = g 0 ∧ h 9 = g 9 ∧ tar_eq g h) ∧ ∀ q, 13 ≤ q → q < 19 → ∀ a, a < j → h q a = g q (n - 1 - a)
theorem re_step {g h : tG} {n j : Nat} (r : RE g h n j) (tp : TAPS g n) (hj : j < n) (hn : n ≤ 40) {i c s l z d m : Nat} (hi : i = n - 1 - j) (hc : c < 3) (hs : s < 10) (hl : l < 6) (hz : z < 2) (hd : d < 10) (hm : m < 1440) (a1 : g 13 i = nI c) (a2 : g 14 i = nI s) (a3 : g 15 i = nI l) (a4 : g 16 i = nI z) (a5 : g 17 i = nI d) (a6 : g 18 i = nI m) :
    RE g (fX8_tap_w h (nI c) (nI s) (nI l) (nI z) (nI d) (nI m)) n (j + 1) := by
  obtain ⟨v, per, ⟨r0, r9_, rt⟩, rr⟩ := r
  have h40 : j ≤ 40 := by omega
  have row : ∀ q, 13 ≤ q → q < 19 → tv6 (nI c) (nI s) (nI l) (nI z) (nI d) (nI m) q = g q i := by
    intro q q1 q2
    have : q = 13 ∨ q = 14 ∨ q = 15 ∨ q = 16 ∨ q = 17 ∨ q = 18 := by omega
    rcases this with e | e | e | e | e | e <;> subst e
    · exact a1.symm
    · exact a2.symm
    · exact a3.symm
    · exact (nIb hz).trans a4.symm
    · exact a5.symm
    · exact a6.symm
  rcases tap_spec v.1 h40 (c := c) (by omega) (per c hc).2 (nI s) (nI l) (nI z) (nI d) (nI m) with ⟨-, r2, -, -⟩ | ⟨-, -, ⟨a, ha, r3⟩, -⟩
  · rw [r2]
    have st := tap_stay (g := h) h40 (nI c) (nI s) (nI l) (nI z) (nI d) (nI m)
    refine ⟨tapK_val v (by omega) (by omega) hm, st.per per, ⟨by rw [st.1 0 (by decide)]; exact r0, by rw [st.1 9 (by decide)]; exact r9_, fun q q1 q2 => by rw [st.1 q (by omega)]; exact rt.1 q q1 q2, by rw [st.2.2 2 (by decide)]; exact rt.2⟩, fun q q1 q2 a ha => ?_⟩
    rcases Nat.eq_or_lt_of_le (Nat.le_of_lt_succ ha) with e | e
    · rw [e, tapK_row h40 _ _ _ _ _ _ q q2 q1, upd_s, row q q1 q2, hi]
    · rw [st.2.1 q q1 q2 a e]; exact rr q q1 q2 a e
  · exfalso
    have lt : n - 1 - a < n := by omega
    have gt : i < n - 1 - a := by omega
    obtain ⟨q, q1, q2, e⟩ := tp.2 (n - 1 - a) i lt gt
    have := r3 q q1 q2
    rw [rr q q1 q2 a ha, row q q1 q2] at this
    exact e this.symm
theorem re_cond {g h : tG} {n j : Nat} (r : RE g h n j) (hj : j < n) (hn : n ≤ 40) {P : Prop} : P → h 45 4 < 40 := fun _ => by
  rw [r.1.1, Int32.lt_iff_toInt_lt, nI_toInt (by omega)]
  show (j : Int) < 40
  omega
theorem re_0 {g h : tG} {n nf : Nat} (hs : STG h 3 nf) (hg : TLD g nf) (h0 : ∀ i, i < 10 → h 0 i = g 0 i) (ht : ∀ w, w < 5 → ∀ i, i < nf → h (3 + w) i = g (3 + w) i) : RE g h n 0 := by
  have q := hs.rgn
  have t := hs.tld
  refine ⟨q.1, q.2.1, ⟨?_, by rw [t.2.2.2.2, hg.2.2.2.2], fun j j1 j2 => ?_, by rw [t.2.1, hg.2.1]⟩, fun q _ _ a ha => absurd ha (Nat.not_lt_zero a)⟩
  · funext i
    rcases Nat.lt_or_ge i 10 with c | c
    · exact h0 i c
    · rw [t.2.2.1.2 i c, hg.2.2.1.2 i c]
  · funext i
    obtain ⟨w, hw, rfl⟩ : ∃ w, w < 5 ∧ j = 3 + w := ⟨j - 3, by omega, by omega⟩
    rcases Nat.lt_or_ge i nf with c | c
    · exact ht w hw i c
    · rw [t.2.2.2.1.2 w hw i (Or.inr c), hg.2.2.2.1.2 w hw i (Or.inr c)]
theorem re_turn {g h : tG} {n n' : Nat} (r : RE g h n n) (v : VAL g n' 3) (hn : n ≤ n') (hd : ∀ a, n ≤ a → a < n' → ∃ d, 10 ≤ d ∧ d < 28 ∧ g 17 a = nI d) : TURN g h n n' := ⟨v, r.1, hn, r.2.2.1, r.2.2.2, hd⟩
/-! two regions beside one another -/
section W3
variable {ad ad3 : Nat → Nat} {o9 : Nat} {y : tA} {b : Nat} {cI cO : ClassId} {g h : tG} {dr : Nat} {cd : Int32} {nf n k : Nat} {E ws : va_W} {q x z : Nat × va_E}
theorem w3_at (hk : ws[k]? = some q) : (tcW ad3 cI h ++ (ws ++ E))[98 + k]? = some q := by
  rw [List.getElem?_append_right (by rw [tcW_len]; omega), tcW_len, show 98 + k - 98 = k by omega, List.getElem?_append_left (List.getElem?_eq_some_iff.mp hk).1]
  exact hk
theorem w3_last : (tcW ad3 cI h ++ (ws ++ [x]))[98 + ws.length]? = some x := by
  rw [List.getElem?_append_right (by rw [tcW_len]; omega), tcW_len, show 98 + ws.length - 98 = ws.length by omega]
  exact get_last
theorem w3_set : (tcW ad3 cI h ++ (ws ++ [x])).set (98 + ws.length) z = tcW ad3 cI h ++ (ws ++ [z]) := by
  rw [List.set_append_right _ _ (by rw [tcW_len]; omega), tcW_len, show 98 + ws.length - 98 = ws.length by omega, set_last]
end W3
theorem perm_m {α : Type} {x c d e : List α} : (c ++ (x ++ (d ++ e))).Perm (x ++ ((c ++ d) ++ e)) := by
  classical
  rw [List.perm_iff_count]
  intro a
  simp only [List.count_append]
  omega
section TM
variable {p : Program} {l : Launch} {e : Env} {R : Room} {s : State} {m : MethodId} {args : Array Value} {below : List Frame} {meth : Method} {c : Code} {H : Heap} {locs : List Loc} {cells slots : Nat} {Q : State → Prop}
variable {pc : Nat} {ls : Array Slot} {rest st0 : List Value} {D : va_G} {tys : List (ClassId × FieldType)} {x a a1 d E : va_W} {A : Nat → Prop} {H0 : Heap} {mc ms : Nat}
/-- a call that speaks of a part in the middle -/
theorem t_kmi {r : Int32} {av : Array Value} (hP : va_P D vwCl (x ++ ((a ++ d) ++ E)) H) (hD : va_D A (x ++ ((a ++ d) ++ E))) (hS : va_S A H0 H locs) (hA : ∀ q, H0.size ≤ q → A q)
    (hr : va_Run p l e R s m args below meth c H locs cells slots mc ms (F0 m pc ls st0) rest (g_Qi D tys (va_A a H.size) a1 r av) (va_A a H.size))
    (kk : ∀ (H1 : Heap) (locs1 : List Loc), va_P D vwCl (x ++ ((a1 ++ d) ++ E)) H1 → va_D A (x ++ ((a1 ++ d) ++ E)) → va_S A H0 H1 locs1 → W p l e R s m args below meth c H1 locs1 (cells + mc) (slots + ms) Q (F0 m (pc + 3) ls (.int r :: rest))) : W p l e R s m args below meth c H locs cells slots Q (F0 m pc ls st0) :=
  t_ki (va_P_perm hP perm_m) (va_D_perm hD perm_m) hS hA hr (fun H1 locs1 hP1 hD1 hS1 => kk H1 locs1 (va_P_perm hP1 perm_m.symm) (va_D_perm hD1 perm_m.symm) hS1)
theorem t_kml {r : Int64} {av : Array Value} (hP : va_P D vwCl (x ++ ((a ++ d) ++ E)) H) (hD : va_D A (x ++ ((a ++ d) ++ E))) (hS : va_S A H0 H locs) (hA : ∀ q, H0.size ≤ q → A q)
    (hr : va_Run p l e R s m args below meth c H locs cells slots mc ms (F0 m pc ls st0) rest (g_Ql D tys (va_A a H.size) a1 r av) (va_A a H.size))
    (kk : ∀ (H1 : Heap) (locs1 : List Loc), va_P D vwCl (x ++ ((a1 ++ d) ++ E)) H1 → va_D A (x ++ ((a1 ++ d) ++ E)) → va_S A H0 H1 locs1 → W p l e R s m args below meth c H1 locs1 (cells + mc) (slots + ms) Q (F0 m (pc + 3) ls (.long r :: rest))) : W p l e R s m args below meth c H locs cells slots Q (F0 m pc ls st0) :=
  t_kl (va_P_perm hP perm_m) (va_D_perm hD perm_m) hS hA hr (fun H1 locs1 hP1 hD1 hS1 => kk H1 locs1 (va_P_perm hP1 perm_m.symm) (va_D_perm hD1 perm_m.symm) hS1)
end TM
theorem mid_P {D : va_G} {x a d E : va_W} {H : Heap} (h : va_P D vwCl (x ++ ((a ++ d) ++ E)) H) : va_P D vwCl a H := pre_P (va_P_perm h perm_m)
theorem mid_D {A : Nat → Prop} {x a d E : va_W} (h : va_D A (x ++ ((a ++ d) ++ E))) : va_D A a := pre_D (va_D_perm h perm_m)
