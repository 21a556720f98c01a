/-! the grid: junctions beside each other, segments, how far -/
/-- the junction beside one at a side; 24: none -/
def gz_nb (a s : Nat) : Nat := if s = 0 then (if a < 6 then 24 else a - 6) else if s = 1 then (if a % 6 = 0 then 24 else a - 1) else if s = 2 then (if a % 6 = 5 then 24 else a + 1) else (if 18 ≤ a then 24 else a + 6)
/-- the segment there -/
def gz_sa (a s : Nat) : Nat := if s = 0 then 18 + a else if s = 1 then a - 1 else if s = 2 then a else 24 + a
/-- the segment between two junctions -/
def gz_sg (p q : Nat) : Nat := if q ≤ p then (if p = q + 6 then 24 + q else q) else (if q = p + 6 then 24 + p else p)
def gz_be (p q : Nat) : Nat := if p = q + 6 ∨ q = p + 6 ∨ ((p = q + 1 ∨ q = p + 1) ∧ p / 6 = q / 6) then 1 else 0
/-- where a source lies -/
def gz_ju (s : Nat) : Nat := if s < 24 then s else if s < 28 then (s - 24) * 6 else (s - 28) * 6 + 5
def gz_di (p q : Nat) : Nat := ((p % 6 - q % 6) + (q % 6 - p % 6)) + ((p / 6 - q / 6) + (q / 6 - p / 6))
set_option maxRecDepth 100000 in
theorem l5_segmentAt : ∀ a, a < 24 → ∀ s, s < 4 → f_X5_segmentAt (nI a) (nI s) = some (if gz_nb a s < 24 then nI (gz_sa a s) else -1) := by decide +kernel
set_option maxRecDepth 100000 in
theorem l5_stp : ∀ a, a < 24 → ∀ s, s < 4 → gz_nb a s < 24 → nI a + xb_stI s = nI (gz_nb a s) := by decide +kernel
set_option maxRecDepth 100000 in
theorem l5_segmentBetween : ∀ p, p < 24 → ∀ q, q < 24 → f_X5_segmentBetween (nI p) (nI q) = some (if gz_be p q = 1 then nI (gz_sg p q) else -1) := by decide +kernel
theorem l5_segmentBetween_no {x y : Int32} (h : (x < 0 ∨ nI 24 ≤ x) ∨ (y < 0 ∨ nI 24 ≤ y)) : f_X5_segmentBetween x y = some (-1) := by
  unfold f_X5_segmentBetween
  rcases h with h | h
  · rw [l5_isPlace_no h]; rfl
  · rcases pz_ix x 24 (by omega) with ⟨j, hj, rfl⟩ | h2
    · rw [l5_isPlace_no h, l5_isPlace (by omega), if_pos hj]; rfl
    · rw [l5_isPlace_no h2]; rfl
set_option maxRecDepth 100000 in
theorem l6_areBeside : ∀ p, p < 24 → ∀ q, q < 24 → f_X6_areBeside (nI p) (nI q) = some (nI (gz_be p q)) := by decide +kernel
set_option maxRecDepth 100000 in
theorem l6_segment : ∀ p, p < 24 → ∀ q, q < 24 → f_X6_segment (nI p) (nI q) = some (nI (gz_sg p q)) := by decide +kernel
set_option maxRecDepth 100000 in
theorem l6_beside : ∀ a, a < 24 → ∀ s, s < 4 → f_X6_beside (nI a) (nI s) = some (if gz_nb a s < 24 then nI (gz_nb a s) else -5) := by decide +kernel
theorem gz_nb_sg : ∀ a, a < 24 → ∀ s, s < 4 → gz_nb a s < 24 → gz_sg a (gz_nb a s) = gz_sa a s ∧ gz_be a (gz_nb a s) = 1 ∧ gz_sa a s < 48 := by decide +kernel
theorem gz_sg_lt : ∀ p, p < 24 → ∀ q, q < 24 → gz_be p q = 1 → gz_sg p q < 48 := by decide +kernel
theorem gz_be_ne : ∀ p, p < 24 → ∀ q, q < 24 → gz_be p q = 1 → p ≠ q := by decide +kernel
/-- two segments are one only if they end at the same junctions -/
theorem gz_sg_inj0 : ∀ x, x < 576 → ∀ y, y < 96 → (gz_be (x / 24) (x % 24) = 1 ∧ gz_nb (y / 4) (y % 4) < 24 ∧ gz_sa (y / 4) (y % 4) = gz_sg (x / 24) (x % 24) → (y / 4 = x / 24 ∧ gz_nb (y / 4) (y % 4) = x % 24) ∨ (y / 4 = x % 24 ∧ gz_nb (y / 4) (y % 4) = x / 24)) := by decide +kernel
theorem gz_sg_inj : ∀ p, p < 24 → ∀ q, q < 24 → gz_be p q = 1 → ∀ a, a < 24 → ∀ s, s < 4 → gz_nb a s < 24 → gz_sa a s = gz_sg p q → (a = p ∧ gz_nb a s = q) ∨ (a = q ∧ gz_nb a s = p) := fun p hp q hq hb a ha s hs hn he => by
  have h := gz_sg_inj0 (24 * p + q) (by omega) (4 * a + s) (by omega)
  rw [show (24 * p + q) / 24 = p by omega, show (24 * p + q) % 24 = q by omega, show (4 * a + s) / 4 = a by omega, show (4 * a + s) % 4 = s by omega] at h
  exact h ⟨hb, hn, he⟩
set_option maxRecDepth 100000 in
theorem l5_junctionOf : ∀ s, s < 34 → f_X5_junctionOf (nI s) = some (if s < 32 then nI (gz_ju s) else -1) := by decide +kernel
set_option maxRecDepth 100000 in
theorem l6_junction : ∀ s, s < 34 → f_X6_junction (nI s) = some (if s < 32 then nI (gz_ju s) else -5) := by decide +kernel
theorem gz_ju_lt : ∀ s, s < 32 → gz_ju s < 24 := by decide +kernel
set_option maxRecDepth 100000 in
theorem l5_distanceBetween : ∀ p, p < 24 → ∀ q, q < 24 → f_X5_distanceBetween (nI p) (nI q) = some (nI (gz_di p q)) := by decide +kernel
theorem gz_di_le : ∀ p, p < 24 → ∀ q, q < 24 → gz_di p q ≤ 8 := by decide +kernel
set_option maxRecDepth 100000 in
theorem l6_size1 : ∀ p, p < 24 → ∀ q, q < 24 → f_X6_size ((nI p - nI p / 6 * 6) - (nI q - nI q / 6 * 6)) = some (nI ((p % 6 - q % 6) + (q % 6 - p % 6))) := by decide +kernel
set_option maxRecDepth 100000 in
theorem l6_size2 : ∀ p, p < 24 → ∀ q, q < 24 → f_X6_size (nI p / 6 - nI q / 6) = some (nI ((p / 6 - q / 6) + (q / 6 - p / 6))) := by decide +kernel
theorem l6_span {rr : Nat → Int32} {w s : Nat} (hw : w < 72) (hs : s < 32) (hr : rr (24 + w) = nI s) : f_X6_span rr (nI w) = some (nI (gz_di (gz_ju s) (w / 3))) := by
  unfold f_X6_span
  have h3 : nI w / 3 = nI (w / 3) := pk_div (d := 3) (by omega) (by omega) (by omega)
  rw [show (24 : Int32) + nI w = nI (24 + w) from nI_add 24 w, pz_d (by omega) (by omega), hr, Option.bind_some, l6_junction s (by omega), if_pos hs, Option.bind_some, h3, l6_size1 _ (gz_ju_lt s hs) _ (by omega), Option.bind_some, l6_size2 _ (gz_ju_lt s hs) _ (by omega), Option.bind_some, nI_add]
  rfl
