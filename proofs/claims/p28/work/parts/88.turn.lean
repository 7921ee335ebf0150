/-! taps in another order make the same legs -/
/-- one is told the first taps of the other, the last one first; the other's taps behind them are of later days -/
def TURN (g h : tG) (n n' : Nat) : Prop := VAL g n' 3 ∧ VAL h n 3 ∧ n ≤ n' ∧ (h 0 = g 0 ∧ h 9 = g 9 ∧ tar_eq g h) ∧ (∀ j, 13 ≤ j → j < 19 → ∀ a, a < n → h j a = g j (n - 1 - a)) ∧ ∀ a, n ≤ a → a < n' → ∃ d, 10 ≤ d ∧ d < 28 ∧ g 17 a = nI d
def UNMIX (g : tG) (n : Nat) (p : Int32) : Prop := ∀ a b, a < n → b < n → a ≠ b → selT g p (-1) a → selT g p (-1) b → momT g a ≠ momT g b
theorem TURN.keep {g h g' h' : tG} {n n' : Nat} (t : TURN g h n n') (k1 : KEEP g g') (k2 : KEEP h h') : TURN g' h' n n' := by
  obtain ⟨t1, t2, t3, ⟨t4, t5, t6⟩, t7, t8⟩ := t
  refine ⟨k1.val t1, k2.val t2, t3, ⟨by rw [k1.1 0 (by decide), k2.1 0 (by decide)]; exact t4, by rw [k1.1 9 (by decide), k2.1 9 (by decide)]; exact t5, fun j j1 j2 => by rw [k1.1 j (by omega), k2.1 j (by omega)]; exact t6.1 j j1 j2, by rw [k1.2.1 2 (by decide), k2.2.1 2 (by decide)]; exact t6.2⟩, fun j j1 j2 a ha => by rw [k1.1 j j2, k2.1 j j2]; exact t7 j j1 j2 a ha, fun a a1 a2 => by rw [k1.1 17 (by decide)]; exact t8 a a1 a2⟩
theorem UNMIX.keep {g g' : tG} {n : Nat} {p : Int32} (u : UNMIX g n p) (k : KEEP g g') : UNMIX g' n p := by
  intro a b ha hb hab sa sb
  have es : ∀ a, selT g' p (-1) a ↔ selT g p (-1) a := fun a => by
    unfold selT
    rw [k.1 17 (by decide), k.1 13 (by decide), gA_row (k.1 9 (by decide))]
  have em : ∀ a, momT g' a = momT g a := fun a => by
    unfold momT
    rw [k.1 17 (by decide), k.1 18 (by decide)]
  rw [em, em]
  exact u a b ha hb hab ((es a).mp sa) ((es b).mp sb)
theorem turn_lo {g h S T : tG} {n n' : Nat} {p : Int32} {O O' : List Nat} (t : TURN g h n n') (u : UNMIX g n p) (hS : SL g S n' p (-1) O) (hS' : SL h T n p (-1) O') :
    (O.map (tapV g)).filter (isLo 10) = (O'.map (tapV h)).filter (isLo 10) := by
  obtain ⟨t1, t2, t3, ⟨t4, t5, t6⟩, t7, t8⟩ := t
  obtain ⟨s1, m1, -⟩ := hS
  obtain ⟨s2, m2, -⟩ := hS'
  have htv : ∀ a, a < n → tapV h a = tapV g (n - 1 - a) := fun a ha => by
    funext r
    unfold tapV
    rw [t7 17 (by decide) (by decide) a ha, t7 18 (by decide) (by decide) a ha, t7 14 (by decide) (by decide) a ha, t7 15 (by decide) (by decide) a ha, t7 16 (by decide) (by decide) a ha]
  have hsel : ∀ a, a < n → (selT h p (-1) a ↔ selT g p (-1) (n - 1 - a)) := fun a ha => by
    unfold selT
    rw [t7 17 (by decide) (by decide) a ha, t7 13 (by decide) (by decide) a ha, gA_row t5]
  have hmo : ∀ a, a < n → momT h a = momT g (n - 1 - a) := fun a ha => by
    unfold momT
    rw [t7 17 (by decide) (by decide) a ha, t7 18 (by decide) (by decide) a ha]
  have hlt : ∀ a, a < n' → isLo 10 (tapV g a) = true → a < n := fun a ha q => by
    rcases Nat.lt_or_ge a n with c | c
    · exact c
    · obtain ⟨d, d1, d2, e⟩ := t8 a c ha
      unfold isLo at q
      rw [decide_eq_true_iff] at q
      have q : g 17 a < nI 10 := q
      rw [e] at q
      have := (nI_ltI (by omega) (by omega)).mp q
      omega
  refine sorted_unique (R := fun (x y : tL) => x 0 * 1440 + x 1 < y 0 * 1440 + y 1) (fun _ q => Int32.lt_irrefl q) (fun _ _ q r => Int32.lt_irrefl (Int32.lt_trans q r)) _ _ ?_ ?_ (fun x => ?_)
  · rw [List.filter_map, List.pairwise_map]
    refine List.Pairwise.imp_of_mem (fun {a b} ha hb hab => ?_) (List.Pairwise.filter _ s1)
    obtain ⟨ha1, ha2⟩ := List.mem_filter.mp ha
    obtain ⟨hb1, hb2⟩ := List.mem_filter.mp hb
    have an := hlt a ((m1 a).mp ha1).1 ha2
    have bn := hlt b ((m1 b).mp hb1).1 hb2
    rcases hab with q | q
    · exact q
    · exact absurd q.1 (u a b an bn (by have := q.2; omega) ((m1 a).mp ha1).2 ((m1 b).mp hb1).2)
  · rw [List.filter_map, List.pairwise_map]
    refine List.Pairwise.imp_of_mem (fun {a b} ha hb hab => ?_) (List.Pairwise.filter _ s2)
    obtain ⟨an, sa⟩ := (m2 a).mp (List.mem_filter.mp ha).1
    obtain ⟨bn, sb⟩ := (m2 b).mp (List.mem_filter.mp hb).1
    rcases hab with q | q
    · exact q
    · have q1 := q.1
      rw [hmo a an, hmo b bn] at q1
      exact absurd q1 (u _ _ (by omega) (by omega) (by have := q.2; omega) ((hsel a an).mp sa) ((hsel b bn).mp sb))
  · rw [List.mem_filter, List.mem_filter]
    constructor
    · intro ⟨q1, q2⟩
      obtain ⟨a, ha, e⟩ := List.mem_map.mp q1
      obtain ⟨a1, a2⟩ := (m1 a).mp ha
      have an := hlt a a1 (by rw [e]; exact q2)
      have eb : n - 1 - (n - 1 - a) = a := by omega
      refine ⟨List.mem_map.mpr ⟨n - 1 - a, (m2 _).mpr ⟨by omega, (hsel _ (by omega)).mpr (by rw [eb]; exact a2)⟩, ?_⟩, q2⟩
      rw [htv _ (by omega), eb, e]
    · intro ⟨q1, q2⟩
      obtain ⟨a, ha, e⟩ := List.mem_map.mp q1
      obtain ⟨a1, a2⟩ := (m2 a).mp ha
      exact ⟨List.mem_map.mpr ⟨n - 1 - a, (m1 _).mpr ⟨by omega, (hsel a a1).mp a2⟩, by rw [← htv a a1, e]⟩, q2⟩
theorem turn_day {g h : tG} {n n' : Nat} {p : Int32} (t : TURN g h n n') (u : UNMIX g n p) {d : Nat} (hd : d < 10) :
    (∀ q, q < 7 → fX8_ofDay_r h p (nI d) (nI q) = fX8_ofDay_r g p (nI d) (nI q)) ∧ ∃ c, c ≤ 41 ∧ fX8_ofDay_r h p (nI d) 1 = nI c ∧ ∀ k, k < c → ∀ what, fX8_ofLeg_r h p (nI d) (nI k) what = fX8_ofLeg_r g p (nI d) (nI k) what := by
  have t0 := t
  obtain ⟨t1, t2, t3, ⟨t4, t5, t6⟩, t7, t8⟩ := t
  have hn : n' ≤ 41 := by have := t1.2.1; omega
  obtain ⟨O, hS⟩ := read_SL hn t1.2.2.1 p (-1)
  obtain ⟨O', hS'⟩ := read_SL (by omega) t2.2.2.1 p (-1)
  have hlo := turn_lo t0 u hS hS'
  have k3 : ∀ (v : tG) m j, j < 19 → fX3_read_w v m p (-1) j = v j := fun v m j hj => fjX3_read v _ _ _ j (notin_of (n := 19) (by decide) hj)
  have te : tar_eq (fX3_read_w g (nI n') p (-1)) (fX3_read_w h (nI n) p (-1)) := ⟨fun j h1 h2 => by rw [k3 h _ j (by omega), k3 g _ j (by omega)]; exact t6.1 j h1 h2, by
    rw [fiX3_read h _ _ _ 2 (by decide), fiX3_read g _ _ _ 2 (by decide)]; exact t6.2⟩
  obtain ⟨⟨n1, m1, hR, hD⟩, -⟩ := pre_alike t1.2.2.1 t2.2.2.1 hS hS' (D := 10) (by decide) hlo (by rw [k3 h _ 0 (by decide), k3 g _ 0 (by decide)]; exact t4) te
  obtain ⟨S2, f1⟩ : ∃ q, q = fX2_read_w (fX3_read_w g (nI n') p (-1)) := ⟨_, rfl⟩
  obtain ⟨T2, f2⟩ : ∃ q, q = fX2_read_w (fX3_read_w h (nI n) p (-1)) := ⟨_, rfl⟩
  rw [← f1, ← f2] at hR hD
  have te2 : tar_eq S2 T2 := ⟨fun j h1 h2 => by
    rw [f2, f1, fjX2_read _ j (notin_of (n := 32) (by decide) (by omega)), fjX2_read _ j (notin_of (n := 32) (by decide) (by omega))]; exact te.1 j h1 h2, by
    rw [f2, f1, fiX2_read _ 2 (by decide), fiX2_read _ 2 (by decide)]; exact te.2⟩
  have eS : fX8_study_w g p (nI n') (-1) = fX1_read_w S2 := by rw [f1]; rfl
  have eT : fX8_study_w h p (nI n) (-1) = fX1_read_w T2 := by rw [f2]; rfl
  have hR' := hR.mono (cread_rows S2) (cread_rows T2)
  have hD0 := hD d hd
  have hD' := hD0.mono (cread_rows S2) (cread_rows T2)
  have hd28 : d < 28 := by omega
  have f0 : ∀ z, fX2_fares_r T2 (nI d) z = fX2_fares_r S2 (nI d) z := fun z => (fares_day hR hd28 hD0 z).symm
  have e37 : gA T2 37 (nI d) = gA S2 37 (nI d) := (gA_eq (j := 37) hd28 (by decide) hD0.2.2.2.2.1).symm
  have e43 : gA (fX1_read_w T2) 43 (nI d * 5) = gA (fX1_read_w S2) 43 (nI d * 5) := by
    have l43 : tc_len 43 = 140 := rfl
    have e5 : nI d * 5 = nI (d * 5 + 0) := by
      rw [show (5 : Int32) = nI 5 from rfl, nI_mul]; rfl
    rw [e5, gA_nI (by rw [l43]; omega) (by decide), gA_nI (by rw [l43]; omega) (by decide), ((cread_days T2).2 d hd28).1 0 (by decide), ((cread_days S2).2 d hd28).1 0 (by decide)]
    unfold bwD
    rw [e37, bvD_congr te2 f0]
  have e41 : gA (fX1_read_w T2) 41 (nI d) = gA (fX1_read_w S2) 41 (nI d) := by
    rw [gA_nI (j := 41) hd28 (by decide), gA_nI (j := 41) hd28 (by decide), ((cread_days T2).2 d hd28).2, ((cread_days S2).2 d hd28).2]
    unfold cwD
    rw [e37, bvD_congr te2 f0]
  have a : ∀ j, tc_len j = 28 → fX1_read_w S2 j d = fX1_read_w T2 j d → gA (fX1_read_w T2) j (nI d) = gA (fX1_read_w S2) j (nI d) := fun j hj e => (gA_eq (by rw [hj]; exact hd28) (by rw [hj]; decide) e).symm
  have a26 := a 26 rfl hD'.1
  have a27 := a 27 rfl hD'.2.1
  have a28 := a 28 rfl hD'.2.2.1
  have a37 := a 37 rfl hD'.2.2.2.2.1
  refine ⟨fun q hq => ?_, ?_⟩
  · unfold fX8_ofDay_r
    simp only [t1.1, t2.1, eS, eT]
    unfold fX8_dayAnswer_r fX1_byItself_r
    have n7 : q = 0 ∨ q = 1 ∨ q = 2 ∨ q = 3 ∨ q = 4 ∨ q = 5 ∨ q = 6 := by omega
    rcases n7 with e | e | e | e | e | e | e <;> subst e
    · exact a28
    · exact a27
    · exact a37
    · exact (guesses_day hR' hd28 hD').symm
    · exact (fares_day hR' hd28 hD' 0).symm
    · exact e43
    · exact e41
  · obtain ⟨f, c, hf, hc, hb⟩ := hD'.2.2.2.2.2.1
    have h41 := hR'.1
    have v26 : gA (fX1_read_w S2) 26 (nI d) = nI f := by rw [gA_nI (j := 26) hd28 (by decide)]; exact hf
    have v27 : gA (fX1_read_w S2) 27 (nI d) = nI c := by rw [gA_nI (j := 27) hd28 (by decide)]; exact hc
    refine ⟨c, by omega, ?_, fun k hk what => ?_⟩
    · unfold fX8_ofDay_r
      simp only [t2.1, eT]
      unfold fX8_dayAnswer_r
      rw [if_neg (by decide), if_pos rfl, a27, v27]
    · unfold fX8_ofLeg_r
      simp only [t1.1, t2.1, eS, eT, a26, v26, nI_add]
      exact (legAns hR' (by omega) what).symm
