theorem ag_zone {x0 x1 : Int32} {k r t : Int32} {y : Int64} (h1 : ((in_N x0 10) ∧ (in_R x1 1 4) ∧ k = 0 ∧ y = (1 : Int32).toInt64) ∨ ((¬ in_N x0 10) ∧ k = 1) ∨ ((in_N x0 10) ∧ (¬ in_R x1 1 4) ∧ k = 2)) (h2 : ((¬ (fin x0 0 9) = 0) ∧ (¬ (fin x1 1 4) = 0) ∧ r = 1 ∧ t = 0) ∨ ((¬ (fin x0 0 9) = 0) ∧ ((fin x1 1 4) = 0) ∧ r = 0 ∧ t = 2) ∨ (((fin x0 0 9) = 0) ∧ r = 0 ∧ t = 1)) : t = k ∧ (k = 0 → y = r.toInt64) := by
  try simp only [N10, N6, N3, N28, finR, Classical.not_not] at h1
  try simp only [N10, N6, N3, N28, finR, Classical.not_not] at h2
  rcases h1 with h1 | h1 | h1 <;> rcases h2 with h2 | h2 | h2 <;> simp_all
theorem ag_carrier {x0 x1 : Int32} {k r t : Int32} {y : Int64} (h1 : ((in_N x0 6) ∧ (in_N x1 3) ∧ k = 0 ∧ y = (0 : Int32).toInt64) ∨ ((¬ in_N x0 6) ∧ k = 1) ∨ ((in_N x0 6) ∧ (¬ in_N x1 3) ∧ k = 1)) (h2 : (((fin x0 0 5) = 0) ∧ r = 0 ∧ t = 1) ∨ ((¬ (fin x0 0 5) = 0) ∧ (¬ (fin x1 0 2) = 0) ∧ r = 0 ∧ t = 0) ∨ ((¬ (fin x0 0 5) = 0) ∧ ((fin x1 0 2) = 0) ∧ r = 0 ∧ t = 1)) : t = k ∧ (k = 0 → y = r.toInt64) := by
  try simp only [N10, N6, N3, N28, finR, Classical.not_not] at h1
  try simp only [N10, N6, N3, N28, finR, Classical.not_not] at h2
  rcases h1 with h1 | h1 | h1 <;> rcases h2 with h2 | h2 | h2 <;> simp_all
theorem ag_tariff {x0 x1 x2 x3 x4 : Int32} {k r t : Int32} {y : Int64} (h1 : ((in_R x0 0 27) ∧ (in_R x1 1 9) ∧ (in_R x2 0 5) ∧ (in_R x3 1 50) ∧ (in_R x4 1 200) ∧ k = 0 ∧ y = (2 : Int32).toInt64) ∨ ((¬ in_R x0 0 27) ∧ k = 1) ∨ ((in_R x0 0 27) ∧ (¬ in_R x1 1 9) ∧ k = 1) ∨ ((in_R x0 0 27) ∧ (in_R x1 1 9) ∧ (¬ in_R x2 0 5) ∧ k = 1) ∨ ((in_R x0 0 27) ∧ (in_R x1 1 9) ∧ (in_R x2 0 5) ∧ (¬ in_R x3 1 50) ∧ k = 1) ∨ ((in_R x0 0 27) ∧ (in_R x1 1 9) ∧ (in_R x2 0 5) ∧ (in_R x3 1 50) ∧ (¬ in_R x4 1 200) ∧ k = 1)) (h2 : (((fin x0 0 27) = 0) ∧ r = 0 ∧ t = 1) ∨ ((¬ (fin x0 0 27) = 0) ∧ ((fin x1 1 9) = 0) ∧ r = 0 ∧ t = 1) ∨ ((¬ (fin x0 0 27) = 0) ∧ (¬ (fin x1 1 9) = 0) ∧ ((fin x2 0 5) = 0) ∧ r = 0 ∧ t = 1) ∨ ((¬ (fin x0 0 27) = 0) ∧ (¬ (fin x1 1 9) = 0) ∧ (¬ (fin x2 0 5) = 0) ∧ ((fin x3 1 50) = 0) ∧ r = 0 ∧ t = 1) ∨ ((¬ (fin x0 0 27) = 0) ∧ (¬ (fin x1 1 9) = 0) ∧ (¬ (fin x2 0 5) = 0) ∧ (¬ (fin x3 1 50) = 0) ∧ (¬ (fin x4 1 200) = 0) ∧ r = 2 ∧ t = 0) ∨ ((¬ (fin x0 0 27) = 0) ∧ (¬ (fin x1 1 9) = 0) ∧ (¬ (fin x2 0 5) = 0) ∧ (¬ (fin x3 1 50) = 0) ∧ ((fin x4 1 200) = 0) ∧ r = 0 ∧ t = 1)) : t = k ∧ (k = 0 → y = r.toInt64) := by
  try simp only [N10, N6, N3, N28, finR, Classical.not_not] at h1
  try simp only [N10, N6, N3, N28, finR, Classical.not_not] at h2
  rcases h1 with h1 | h1 | h1 | h1 | h1 | h1 <;> rcases h2 with h2 | h2 | h2 | h2 | h2 | h2 <;> simp_all
theorem ag_card {k r t : Int32} {y : Int64} (h1 : (k = 0 ∧ y = (0 : Int32).toInt64)) (h2 : (r = 0 ∧ t = 0)) : t = k ∧ (k = 0 → y = r.toInt64) := by
  try simp only [N10, N6, N3, N28, finR, Classical.not_not] at h1
  try simp only [N10, N6, N3, N28, finR, Classical.not_not] at h2
  rcases h1 with h1 <;> rcases h2 with h2 <;> simp_all
theorem ag_tie {x0 x1 : Int32} {k r t : Int32} {y : Int64} (h1 : (k = 1)) (h2 : (r = 0 ∧ t = 1)) : t = k ∧ (k = 0 → y = r.toInt64) := by
  rcases h1 with h1 <;> rcases h2 with h2 <;> simp_all
theorem ag_lose {x0 x1 : Int32} {k r t : Int32} {y : Int64} (h1 : (k = 1)) (h2 : (r = 0 ∧ t = 1)) : t = k ∧ (k = 0 → y = r.toInt64) := by
  rcases h1 with h1 <;> rcases h2 with h2 <;> simp_all
theorem ag_pay {x0 x1 : Int32} {k r t : Int32} {y : Int64} (h1 : (k = 1)) (h2 : (r = 0 ∧ t = 1)) : t = k ∧ (k = 0 → y = r.toInt64) := by
  rcases h1 with h1 <;> rcases h2 with h2 <;> simp_all
theorem ag_late {x0 x1 x2 : Int32} {k r t : Int32} {y : Int64} (h1 : ((in_N x0 6) ∧ (in_N x1 28) ∧ (in_R x2 0 200) ∧ k = 0 ∧ y = (0 : Int32).toInt64) ∨ ((¬ in_N x0 6) ∧ k = 1) ∨ ((in_N x0 6) ∧ (¬ in_N x1 28) ∧ k = 1) ∨ ((in_N x0 6) ∧ (in_N x1 28) ∧ (¬ in_R x2 0 200) ∧ k = 2)) (h2 : (((fin x0 0 5) = 0) ∧ r = 0 ∧ t = 1) ∨ ((¬ (fin x0 0 5) = 0) ∧ (¬ (fin x1 0 27) = 0) ∧ (¬ (fin x2 0 200) = 0) ∧ r = 0 ∧ t = 0) ∨ ((¬ (fin x0 0 5) = 0) ∧ (¬ (fin x1 0 27) = 0) ∧ ((fin x2 0 200) = 0) ∧ r = 0 ∧ t = 2) ∨ ((¬ (fin x0 0 5) = 0) ∧ ((fin x1 0 27) = 0) ∧ r = 0 ∧ t = 1)) : t = k ∧ (k = 0 → y = r.toInt64) := by
  try simp only [N10, N6, N3, N28, finR, Classical.not_not] at h1
  try simp only [N10, N6, N3, N28, finR, Classical.not_not] at h2
  rcases h1 with h1 | h1 | h1 | h1 <;> rcases h2 with h2 | h2 | h2 | h2 <;> simp_all
theorem ag_tap {x0 x1 x2 x3 x4 x5 : Int32} {k r t : Int32} {y : Int64} (h1 : (k = 1)) (h2 : (r = 0 ∧ t = 1)) : t = k ∧ (k = 0 → y = r.toInt64) := by
  rcases h1 with h1 <;> rcases h2 with h2 <;> simp_all
theorem ag_close {k r t : Int32} {y : Int64} (h1 : (k = 0 ∧ y = (0 : Int32).toInt64)) (h2 : (r = 0 ∧ t = 0)) : t = k ∧ (k = 0 → y = r.toInt64) := by
  try simp only [N10, N6, N3, N28, finR, Classical.not_not] at h1
  try simp only [N10, N6, N3, N28, finR, Classical.not_not] at h2
  rcases h1 with h1 <;> rcases h2 with h2 <;> simp_all
theorem ag_settle {x0 x1 : Int32} {k r t : Int32} {y : Int64} (h1 : (k = 1)) (h2 : (r = 0 ∧ t = 1)) : t = k ∧ (k = 0 → y = r.toInt64) := by
  rcases h1 with h1 <;> rcases h2 with h2 <;> simp_all
theorem ag_refund {x0 x1 x2 : Int32} {k r t : Int32} {y : Int64} (h1 : (k = 1)) (h2 : (r = 0 ∧ t = 1)) : t = k ∧ (k = 0 → y = r.toInt64) := by
  rcases h1 with h1 <;> rcases h2 with h2 <;> simp_all
theorem ag_ofCard {x0 x1 : Int32} {k r t : Int32} {y : Int64} (h1 : (k = 1)) (h2 : (r = 0 ∧ t = 1)) : t = k ∧ (k = 0 → y = r.toInt64) := by
  rcases h1 with h1 <;> rcases h2 with h2 <;> simp_all
theorem ag_ofDay {x0 x1 x2 : Int32} {k r t : Int32} {y : Int64} (h1 : (k = 1)) (h2 : (r = 0 ∧ t = 1)) : t = k ∧ (k = 0 → y = r.toInt64) := by
  rcases h1 with h1 <;> rcases h2 with h2 <;> simp_all
theorem ag_ofLeg {x0 x1 x2 x3 : Int32} {k r t : Int32} {y : Int64} (h1 : (k = 1)) (h2 : (r = 0 ∧ t = 1)) : t = k ∧ (k = 0 → y = r.toInt64) := by
  rcases h1 with h1 <;> rcases h2 with h2 <;> simp_all
theorem ag_ofJourney {x0 x1 x2 x3 : Int32} {k r t : Int32} {y : Int64} (h1 : (k = 1)) (h2 : (r = 0 ∧ t = 1)) : t = k ∧ (k = 0 → y = r.toInt64) := by
  rcases h1 with h1 <;> rcases h2 with h2 <;> simp_all
theorem ag_ofWeek {x0 x1 x2 : Int32} {k r t : Int32} {y : Int64} (h1 : (k = 1)) (h2 : (r = 0 ∧ t = 1)) : t = k ∧ (k = 0 → y = r.toInt64) := by
  rcases h1 with h1 <;> rcases h2 with h2 <;> simp_all
theorem ag_share {x0 x1 x2 : Int32} {k r t : Int32} {y : Int64} (h1 : (k = 1)) (h2 : (r = 0 ∧ t = 1)) : t = k ∧ (k = 0 → y = r.toInt64) := by
  rcases h1 with h1 <;> rcases h2 with h2 <;> simp_all
theorem ag_check {x0 x1 x2 : Int32} {k r t : Int32} {y : Int64} (h1 : (k = 1)) (h2 : (r = 0 ∧ t = 1)) : t = k ∧ (k = 0 → y = r.toInt64) := by
  rcases h1 with h1 <;> rcases h2 with h2 <;> simp_all
theorem ag_many {x0 : Int32} {k r t : Int32} {y : Int64} (h1 : ((in_R x0 0 8) ∧ k = 0 ∧ y = (many_0 x0 : Int32).toInt64) ∨ ((¬ in_R x0 0 8) ∧ k = 1)) (h2 : (fin x0 0 8 = 0 ∧ t = 1) ∨ (in_R x0 0 8 ∧ r = many_0 x0 ∧ t = 0)) : t = k ∧ (k = 0 → y = r.toInt64) := by
  try simp only [N10, N6, N3, N28, finR, Classical.not_not] at h1
  try simp only [N10, N6, N3, N28, finR, Classical.not_not] at h2
  rcases h1 with h1 | h1 <;> rcases h2 with h2 | h2 <;> simp_all
theorem ag_meanFare {x0 : Int32} {k t : Int32} {r y : UInt64} (h1 : ((in_N x0 28) ∧ k = 0 ∧ y = FP.dconst0) ∨ ((¬ in_N x0 28) ∧ k = 1)) (h2 : ((¬ (fin x0 0 27) = 0) ∧ r = FP.dconst0 ∧ t = 0) ∨ (((fin x0 0 27) = 0) ∧ r = FP.i2d 0 ∧ t = 1)) : t = k ∧ (k = 0 → y = FP.dconst0 ∧ r = FP.dconst0) := by
  try simp only [N10, N6, N3, N28, finR, Classical.not_not] at h1
  try simp only [N10, N6, N3, N28, finR, Classical.not_not] at h2
  rcases h1 with h1 | h1 <;> rcases h2 with h2 | h2 <;> simp_all
theorem ag_wouldCost {x0 x1 x2 x3 x4 x5 : Int32} {k r t : Int32} {y : Int64} (h1 : (k = 1)) (h2 : (r = 0 ∧ t = 1)) : t = k ∧ (k = 0 → y = r.toInt64) := by
  rcases h1 with h1 <;> rcases h2 with h2 <;> simp_all
theorem ag_guess {x0 x1 x2 x3 : Int32} {k r t : Int32} {y : Int64} (h1 : (k = 1)) (h2 : (r = 0 ∧ t = 1)) : t = k ∧ (k = 0 → y = r.toInt64) := by
  rcases h1 with h1 <;> rcases h2 with h2 <;> simp_all
theorem ag_worth {x0 x1 x2 : Int32} {k r t : Int32} {y : Int64} (h1 : (k = 1)) (h2 : (r = 0 ∧ t = 1)) : t = k ∧ (k = 0 → y = r.toInt64) := by
  rcases h1 with h1 <;> rcases h2 with h2 <;> simp_all
