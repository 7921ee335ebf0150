/-! a TapCap: where its rows lie, and their contracts -/
def tc_pos : Nat → Nat := fun j => ([2, 4, 6, 9, 11, 13, 15, 17, 20, 22, 24, 26, 28, 31, 33, 35, 37, 39, 41, 44, 46, 48, 50, 52, 54, 56, 58, 60, 62, 64, 66, 68, 71, 73, 75, 77, 79, 81, 83, 85, 87, 90, 92, 94, 96] : List Nat).getD j 0
def tc_up (g : Nat → Nat → Int32) (j : Nat) (f : Nat → Int32) : Nat → Nat → Int32 := fun r => if r = j then f else g r
/-- one of the ints -/
def tc_sc (g : Nat → Nat → Int32) (i : Nat) (v : Int32) : Nat → Nat → Int32 := tc_up g 45 (upd (g 45) i v)
set_option maxRecDepth 20000 in
theorem tcW_row {ad : Nat → Nat} {cI : ClassId} {g : Nat → Nat → Int32} : ∀ (j : Nat), j < 45 → (tcW ad cI g)[tc_pos j]? = some (ad (tc_pos j), .inr (5, [.ref (ad (tc_pos j + 1))])) := by
  intro j hj
  match j, hj with
  | 0, _ => rfl
  | 1, _ => rfl
  | 2, _ => rfl
  | 3, _ => rfl
  | 4, _ => rfl
  | 5, _ => rfl
  | 6, _ => rfl
  | 7, _ => rfl
  | 8, _ => rfl
  | 9, _ => rfl
  | 10, _ => rfl
  | 11, _ => rfl
  | 12, _ => rfl
  | 13, _ => rfl
  | 14, _ => rfl
  | 15, _ => rfl
  | 16, _ => rfl
  | 17, _ => rfl
  | 18, _ => rfl
  | 19, _ => rfl
  | 20, _ => rfl
  | 21, _ => rfl
  | 22, _ => rfl
  | 23, _ => rfl
  | 24, _ => rfl
  | 25, _ => rfl
  | 26, _ => rfl
  | 27, _ => rfl
  | 28, _ => rfl
  | 29, _ => rfl
  | 30, _ => rfl
  | 31, _ => rfl
  | 32, _ => rfl
  | 33, _ => rfl
  | 34, _ => rfl
  | 35, _ => rfl
  | 36, _ => rfl
  | 37, _ => rfl
  | 38, _ => rfl
  | 39, _ => rfl
  | 40, _ => rfl
  | 41, _ => rfl
  | 42, _ => rfl
  | 43, _ => rfl
  | 44, _ => rfl
  | n + 45, h => exact absurd h (by omega)
set_option maxRecDepth 20000 in
theorem tcW_arr {ad : Nat → Nat} {cI : ClassId} {g : Nat → Nat → Int32} : ∀ (j : Nat), j < 45 → (tcW ad cI g)[tc_pos j + 1]? = some (ad (tc_pos j + 1), .inl (cI, tc_len j, .inl (g j))) := by
  intro j hj
  match j, hj with
  | 0, _ => rfl
  | 1, _ => rfl
  | 2, _ => rfl
  | 3, _ => rfl
  | 4, _ => rfl
  | 5, _ => rfl
  | 6, _ => rfl
  | 7, _ => rfl
  | 8, _ => rfl
  | 9, _ => rfl
  | 10, _ => rfl
  | 11, _ => rfl
  | 12, _ => rfl
  | 13, _ => rfl
  | 14, _ => rfl
  | 15, _ => rfl
  | 16, _ => rfl
  | 17, _ => rfl
  | 18, _ => rfl
  | 19, _ => rfl
  | 20, _ => rfl
  | 21, _ => rfl
  | 22, _ => rfl
  | 23, _ => rfl
  | 24, _ => rfl
  | 25, _ => rfl
  | 26, _ => rfl
  | 27, _ => rfl
  | 28, _ => rfl
  | 29, _ => rfl
  | 30, _ => rfl
  | 31, _ => rfl
  | 32, _ => rfl
  | 33, _ => rfl
  | 34, _ => rfl
  | 35, _ => rfl
  | 36, _ => rfl
  | 37, _ => rfl
  | 38, _ => rfl
  | 39, _ => rfl
  | 40, _ => rfl
  | 41, _ => rfl
  | 42, _ => rfl
  | 43, _ => rfl
  | 44, _ => rfl
  | n + 45, h => exact absurd h (by omega)
set_option maxRecDepth 20000 in
theorem tcW_set {ad : Nat → Nat} {cI : ClassId} {g : Nat → Nat → Int32} {f : Nat → Int32} : ∀ (j : Nat), j < 45 → (tcW ad cI g).set (tc_pos j + 1) (ad (tc_pos j + 1), .inl (cI, tc_len j, .inl f)) = tcW ad cI (tc_up g j f) := by
  intro j hj
  match j, hj with
  | 0, _ => rfl
  | 1, _ => rfl
  | 2, _ => rfl
  | 3, _ => rfl
  | 4, _ => rfl
  | 5, _ => rfl
  | 6, _ => rfl
  | 7, _ => rfl
  | 8, _ => rfl
  | 9, _ => rfl
  | 10, _ => rfl
  | 11, _ => rfl
  | 12, _ => rfl
  | 13, _ => rfl
  | 14, _ => rfl
  | 15, _ => rfl
  | 16, _ => rfl
  | 17, _ => rfl
  | 18, _ => rfl
  | 19, _ => rfl
  | 20, _ => rfl
  | 21, _ => rfl
  | 22, _ => rfl
  | 23, _ => rfl
  | 24, _ => rfl
  | 25, _ => rfl
  | 26, _ => rfl
  | 27, _ => rfl
  | 28, _ => rfl
  | 29, _ => rfl
  | 30, _ => rfl
  | 31, _ => rfl
  | 32, _ => rfl
  | 33, _ => rfl
  | 34, _ => rfl
  | 35, _ => rfl
  | 36, _ => rfl
  | 37, _ => rfl
  | 38, _ => rfl
  | 39, _ => rfl
  | 40, _ => rfl
  | 41, _ => rfl
  | 42, _ => rfl
  | 43, _ => rfl
  | 44, _ => rfl
  | n + 45, h => exact absurd h (by omega)
set_option maxRecDepth 20000 in
theorem tc_len_lt : ∀ (j : Nat), j < 45 → tc_len j < 2147483648 := by
  intro j hj
  match j, hj with
  | 0, _ => decide
  | 1, _ => decide
  | 2, _ => decide
  | 3, _ => decide
  | 4, _ => decide
  | 5, _ => decide
  | 6, _ => decide
  | 7, _ => decide
  | 8, _ => decide
  | 9, _ => decide
  | 10, _ => decide
  | 11, _ => decide
  | 12, _ => decide
  | 13, _ => decide
  | 14, _ => decide
  | 15, _ => decide
  | 16, _ => decide
  | 17, _ => decide
  | 18, _ => decide
  | 19, _ => decide
  | 20, _ => decide
  | 21, _ => decide
  | 22, _ => decide
  | 23, _ => decide
  | 24, _ => decide
  | 25, _ => decide
  | 26, _ => decide
  | 27, _ => decide
  | 28, _ => decide
  | 29, _ => decide
  | 30, _ => decide
  | 31, _ => decide
  | 32, _ => decide
  | 33, _ => decide
  | 34, _ => decide
  | 35, _ => decide
  | 36, _ => decide
  | 37, _ => decide
  | 38, _ => decide
  | 39, _ => decide
  | 40, _ => decide
  | 41, _ => decide
  | 42, _ => decide
  | 43, _ => decide
  | 44, _ => decide
  | n + 45, h => exact absurd h (by omega)
theorem tc_sP_2 {ad : Nat → Nat} {cI : ClassId} {g : Nat → Nat → Int32} {D : va_G} {v : Int32} {H : Heap} (h : va_P D vwCl ((tcW ad cI g).set 8 (ad 8, .inr (7, ([.ref (ad 9), .ref (ad 11), .ref (ad 13), .ref (ad 15), .ref (ad 17), .int (g 45 2)] : List Value).set 5 (.int v)))) H) : va_P D vwCl (tcW ad cI (tc_sc g 2 v)) H := h
theorem tc_sD_2 {ad : Nat → Nat} {cI : ClassId} {g : Nat → Nat → Int32} {A : Nat → Prop} {v : Int32} (h : va_D A ((tcW ad cI g).set 8 (ad 8, .inr (7, ([.ref (ad 9), .ref (ad 11), .ref (ad 13), .ref (ad 15), .ref (ad 17), .int (g 45 2)] : List Value).set 5 (.int v))))) : va_D A (tcW ad cI (tc_sc g 2 v)) := h
theorem tc_sP_3 {ad : Nat → Nat} {cI : ClassId} {g : Nat → Nat → Int32} {D : va_G} {v : Int32} {H : Heap} (h : va_P D vwCl ((tcW ad cI g).set 19 (ad 19, .inr (0, ([.ref (ad 20), .ref (ad 22), .ref (ad 24), .ref (ad 26), .ref (ad 28), .int (g 45 3)] : List Value).set 5 (.int v)))) H) : va_P D vwCl (tcW ad cI (tc_sc g 3 v)) H := h
theorem tc_sD_3 {ad : Nat → Nat} {cI : ClassId} {g : Nat → Nat → Int32} {A : Nat → Prop} {v : Int32} (h : va_D A ((tcW ad cI g).set 19 (ad 19, .inr (0, ([.ref (ad 20), .ref (ad 22), .ref (ad 24), .ref (ad 26), .ref (ad 28), .int (g 45 3)] : List Value).set 5 (.int v))))) : va_D A (tcW ad cI (tc_sc g 3 v)) := h
theorem tc_sP_4 {ad : Nat → Nat} {cI : ClassId} {g : Nat → Nat → Int32} {D : va_G} {v : Int32} {H : Heap} (h : va_P D vwCl ((tcW ad cI g).set 30 (ad 30, .inr (6, ([.ref (ad 31), .ref (ad 33), .ref (ad 35), .ref (ad 37), .ref (ad 39), .ref (ad 41), .int (g 45 4), .int (g 45 5), .int (g 45 6)] : List Value).set 6 (.int v)))) H) : va_P D vwCl (tcW ad cI (tc_sc g 4 v)) H := h
theorem tc_sD_4 {ad : Nat → Nat} {cI : ClassId} {g : Nat → Nat → Int32} {A : Nat → Prop} {v : Int32} (h : va_D A ((tcW ad cI g).set 30 (ad 30, .inr (6, ([.ref (ad 31), .ref (ad 33), .ref (ad 35), .ref (ad 37), .ref (ad 39), .ref (ad 41), .int (g 45 4), .int (g 45 5), .int (g 45 6)] : List Value).set 6 (.int v))))) : va_D A (tcW ad cI (tc_sc g 4 v)) := h
theorem tc_sP_5 {ad : Nat → Nat} {cI : ClassId} {g : Nat → Nat → Int32} {D : va_G} {v : Int32} {H : Heap} (h : va_P D vwCl ((tcW ad cI g).set 30 (ad 30, .inr (6, ([.ref (ad 31), .ref (ad 33), .ref (ad 35), .ref (ad 37), .ref (ad 39), .ref (ad 41), .int (g 45 4), .int (g 45 5), .int (g 45 6)] : List Value).set 7 (.int v)))) H) : va_P D vwCl (tcW ad cI (tc_sc g 5 v)) H := h
theorem tc_sD_5 {ad : Nat → Nat} {cI : ClassId} {g : Nat → Nat → Int32} {A : Nat → Prop} {v : Int32} (h : va_D A ((tcW ad cI g).set 30 (ad 30, .inr (6, ([.ref (ad 31), .ref (ad 33), .ref (ad 35), .ref (ad 37), .ref (ad 39), .ref (ad 41), .int (g 45 4), .int (g 45 5), .int (g 45 6)] : List Value).set 7 (.int v))))) : va_D A (tcW ad cI (tc_sc g 5 v)) := h
theorem tc_sP_6 {ad : Nat → Nat} {cI : ClassId} {g : Nat → Nat → Int32} {D : va_G} {v : Int32} {H : Heap} (h : va_P D vwCl ((tcW ad cI g).set 30 (ad 30, .inr (6, ([.ref (ad 31), .ref (ad 33), .ref (ad 35), .ref (ad 37), .ref (ad 39), .ref (ad 41), .int (g 45 4), .int (g 45 5), .int (g 45 6)] : List Value).set 8 (.int v)))) H) : va_P D vwCl (tcW ad cI (tc_sc g 6 v)) H := h
theorem tc_sD_6 {ad : Nat → Nat} {cI : ClassId} {g : Nat → Nat → Int32} {A : Nat → Prop} {v : Int32} (h : va_D A ((tcW ad cI g).set 30 (ad 30, .inr (6, ([.ref (ad 31), .ref (ad 33), .ref (ad 35), .ref (ad 37), .ref (ad 39), .ref (ad 41), .int (g 45 4), .int (g 45 5), .int (g 45 6)] : List Value).set 8 (.int v))))) : va_D A (tcW ad cI (tc_sc g 6 v)) := h
theorem tc_sP_7 {ad : Nat → Nat} {cI : ClassId} {g : Nat → Nat → Int32} {D : va_G} {v : Int32} {H : Heap} (h : va_P D vwCl ((tcW ad cI g).set 43 (ad 43, .inr (3, ([.ref (ad 44), .ref (ad 46), .ref (ad 48), .ref (ad 50), .ref (ad 52), .ref (ad 54), .ref (ad 56), .ref (ad 58), .ref (ad 60), .ref (ad 62), .int (g 45 7), .ref (ad 64), .ref (ad 66), .ref (ad 68), .int (g 45 8)] : List Value).set 10 (.int v)))) H) : va_P D vwCl (tcW ad cI (tc_sc g 7 v)) H := h
theorem tc_sD_7 {ad : Nat → Nat} {cI : ClassId} {g : Nat → Nat → Int32} {A : Nat → Prop} {v : Int32} (h : va_D A ((tcW ad cI g).set 43 (ad 43, .inr (3, ([.ref (ad 44), .ref (ad 46), .ref (ad 48), .ref (ad 50), .ref (ad 52), .ref (ad 54), .ref (ad 56), .ref (ad 58), .ref (ad 60), .ref (ad 62), .int (g 45 7), .ref (ad 64), .ref (ad 66), .ref (ad 68), .int (g 45 8)] : List Value).set 10 (.int v))))) : va_D A (tcW ad cI (tc_sc g 7 v)) := h
theorem tc_sP_8 {ad : Nat → Nat} {cI : ClassId} {g : Nat → Nat → Int32} {D : va_G} {v : Int32} {H : Heap} (h : va_P D vwCl ((tcW ad cI g).set 43 (ad 43, .inr (3, ([.ref (ad 44), .ref (ad 46), .ref (ad 48), .ref (ad 50), .ref (ad 52), .ref (ad 54), .ref (ad 56), .ref (ad 58), .ref (ad 60), .ref (ad 62), .int (g 45 7), .ref (ad 64), .ref (ad 66), .ref (ad 68), .int (g 45 8)] : List Value).set 14 (.int v)))) H) : va_P D vwCl (tcW ad cI (tc_sc g 8 v)) H := h
theorem tc_sD_8 {ad : Nat → Nat} {cI : ClassId} {g : Nat → Nat → Int32} {A : Nat → Prop} {v : Int32} (h : va_D A ((tcW ad cI g).set 43 (ad 43, .inr (3, ([.ref (ad 44), .ref (ad 46), .ref (ad 48), .ref (ad 50), .ref (ad 52), .ref (ad 54), .ref (ad 56), .ref (ad 58), .ref (ad 60), .ref (ad 62), .int (g 45 7), .ref (ad 64), .ref (ad 66), .ref (ad 68), .int (g 45 8)] : List Value).set 14 (.int v))))) : va_D A (tcW ad cI (tc_sc g 8 v)) := h
theorem tc_sP_9 {ad : Nat → Nat} {cI : ClassId} {g : Nat → Nat → Int32} {D : va_G} {v : Int32} {H : Heap} (h : va_P D vwCl ((tcW ad cI g).set 70 (ad 70, .inr (2, ([.ref (ad 71), .ref (ad 73), .ref (ad 75), .ref (ad 77), .ref (ad 79), .ref (ad 81), .ref (ad 83), .ref (ad 85), .ref (ad 87), .int (g 45 9)] : List Value).set 9 (.int v)))) H) : va_P D vwCl (tcW ad cI (tc_sc g 9 v)) H := h
theorem tc_sD_9 {ad : Nat → Nat} {cI : ClassId} {g : Nat → Nat → Int32} {A : Nat → Prop} {v : Int32} (h : va_D A ((tcW ad cI g).set 70 (ad 70, .inr (2, ([.ref (ad 71), .ref (ad 73), .ref (ad 75), .ref (ad 77), .ref (ad 79), .ref (ad 81), .ref (ad 83), .ref (ad 85), .ref (ad 87), .int (g 45 9)] : List Value).set 9 (.int v))))) : va_D A (tcW ad cI (tc_sc g 9 v)) := h
theorem tc_sP_0 {ad : Nat → Nat} {cI : ClassId} {g : Nat → Nat → Int32} {D : va_G} {v : Int32} {H : Heap} (h : va_P D vwCl ((tcW ad cI g).set 0 (ad 0, .inr (8, ([.ref (ad 1), .ref (ad 8), .ref (ad 19), .ref (ad 30), .ref (ad 43), .ref (ad 70), .ref (ad 89), .int (g 45 0), .int (g 45 1)] : List Value).set 7 (.int v)))) H) : va_P D vwCl (tcW ad cI (tc_sc g 0 v)) H := h
theorem tc_sD_0 {ad : Nat → Nat} {cI : ClassId} {g : Nat → Nat → Int32} {A : Nat → Prop} {v : Int32} (h : va_D A ((tcW ad cI g).set 0 (ad 0, .inr (8, ([.ref (ad 1), .ref (ad 8), .ref (ad 19), .ref (ad 30), .ref (ad 43), .ref (ad 70), .ref (ad 89), .int (g 45 0), .int (g 45 1)] : List Value).set 7 (.int v))))) : va_D A (tcW ad cI (tc_sc g 0 v)) := h
theorem tc_sP_1 {ad : Nat → Nat} {cI : ClassId} {g : Nat → Nat → Int32} {D : va_G} {v : Int32} {H : Heap} (h : va_P D vwCl ((tcW ad cI g).set 0 (ad 0, .inr (8, ([.ref (ad 1), .ref (ad 8), .ref (ad 19), .ref (ad 30), .ref (ad 43), .ref (ad 70), .ref (ad 89), .int (g 45 0), .int (g 45 1)] : List Value).set 8 (.int v)))) H) : va_P D vwCl (tcW ad cI (tc_sc g 1 v)) H := h
theorem tc_sD_1 {ad : Nat → Nat} {cI : ClassId} {g : Nat → Nat → Int32} {A : Nat → Prop} {v : Int32} (h : va_D A ((tcW ad cI g).set 0 (ad 0, .inr (8, ([.ref (ad 1), .ref (ad 8), .ref (ad 19), .ref (ad 30), .ref (ad 43), .ref (ad 70), .ref (ad 89), .int (g 45 0), .int (g 45 1)] : List Value).set 8 (.int v))))) : va_D A (tcW ad cI (tc_sc g 1 v)) := h
theorem c_tc_at (l : Launch) (D : va_G) (ad : Nat → Nat) (cI : ClassId) (g : Nat → Nat → Int32) (sz j : Nat) (hj : j < 45) (i : Int32) : Met l yX5_at wsX5_at ({ frames := 0, cells := 0, slots := 0, locals := 0 } : Room) (g_P D [(cI, .int)] (tcW ad cI g) [.ref (ad (tc_pos j)), .int i] sz) (g_Qi D [(cI, .int)] (va_A (tcW ad cI g) sz) (tcW ad cI g) (rw_at (tc_len j) (g j) i)) 0 0 (va_A (tcW ad cI g) sz) := by
  have h := c_Row_at l D [(cI, .int)] (tcW ad cI g) sz (tc_pos j) (tc_pos j + 1) 0 _ _ _ cI (g j) i (tcW_row j hj) (tcW_arr j hj) rfl (tc_len_lt j hj)
  exact h
theorem c_tc_put (l : Launch) (D : va_G) (ad : Nat → Nat) (cI : ClassId) (g : Nat → Nat → Int32) (sz j : Nat) (hj : j < 45) (i : Int32) (x : Int32) : Met l yX5_put wsX5_put ({ frames := 0, cells := 0, slots := 0, locals := 0 } : Room) (g_P D [(cI, .int)] (tcW ad cI g) [.ref (ad (tc_pos j)), .int i, .int x] sz) (g_Qv D [(cI, .int)] (va_A (tcW ad cI g) sz) (tcW ad cI (tc_up g j (rw_put (tc_len j) (g j) i x)))) 0 0 (va_A (tcW ad cI g) sz) := by
  have h := c_Row_put l D [(cI, .int)] (tcW ad cI g) sz (tc_pos j) (tc_pos j + 1) 0 _ _ _ cI (g j) i x (tcW_row j hj) (tcW_arr j hj) rfl (tc_len_lt j hj)
  rw [tcW_set j hj] at h
  exact h
theorem c_tc_add (l : Launch) (D : va_G) (ad : Nat → Nat) (cI : ClassId) (g : Nat → Nat → Int32) (sz j : Nat) (hj : j < 45) (i : Int32) (x : Int32) : Met l yX5_add wsX5_add ({ frames := 0, cells := 0, slots := 0, locals := 0 } : Room) (g_P D [(cI, .int)] (tcW ad cI g) [.ref (ad (tc_pos j)), .int i, .int x] sz) (g_Qv D [(cI, .int)] (va_A (tcW ad cI g) sz) (tcW ad cI (tc_up g j (rw_add (tc_len j) (g j) i x)))) 0 0 (va_A (tcW ad cI g) sz) := by
  have h := c_Row_add l D [(cI, .int)] (tcW ad cI g) sz (tc_pos j) (tc_pos j + 1) 0 _ _ _ cI (g j) i x (tcW_row j hj) (tcW_arr j hj) rfl (tc_len_lt j hj)
  rw [tcW_set j hj] at h
  exact h
theorem c_tc_fill (l : Launch) (D : va_G) (ad : Nat → Nat) (cI : ClassId) (g : Nat → Nat → Int32) (sz j : Nat) (hj : j < 45) (x : Int32) : Met l yX5_fill wsX5_fill ({ frames := 0, cells := 0, slots := 0, locals := 0 } : Room) (g_P D [(cI, .int)] (tcW ad cI g) [.ref (ad (tc_pos j)), .int x] sz) (g_Qv D [(cI, .int)] (va_A (tcW ad cI g) sz) (tcW ad cI (tc_up g j (rw_fill (g j) (tc_len j) x)))) 0 0 (va_A (tcW ad cI g) sz) := by
  have h := c_Row_fill l D [(cI, .int)] (tcW ad cI g) sz (tc_pos j) (tc_pos j + 1) 0 _ _ _ cI (g j) x (tcW_row j hj) (tcW_arr j hj) rfl (tc_len_lt j hj)
  rw [tcW_set j hj] at h
  exact h
theorem c_tc_sum (l : Launch) (D : va_G) (ad : Nat → Nat) (cI : ClassId) (g : Nat → Nat → Int32) (sz j : Nat) (hj : j < 45) : Met l yX5_sum wsX5_sum ({ frames := 0, cells := 0, slots := 0, locals := 0 } : Room) (g_P D [(cI, .int)] (tcW ad cI g) [.ref (ad (tc_pos j))] sz) (g_Qi D [(cI, .int)] (va_A (tcW ad cI g) sz) (tcW ad cI g) (rw_sum (g j) (tc_len j))) 0 0 (va_A (tcW ad cI g) sz) := by
  have h := c_Row_sum l D [(cI, .int)] (tcW ad cI g) sz (tc_pos j) (tc_pos j + 1) 0 _ _ _ cI (g j)  (tcW_row j hj) (tcW_arr j hj) rfl (tc_len_lt j hj)
  exact h
