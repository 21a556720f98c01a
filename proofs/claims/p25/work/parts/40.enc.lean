/-! numbers, rows, sums: what all the methods' answers are said in -/
theorem nI_lit (k : Nat) : (OfNat.ofNat k : Int32) = nI (OfNat.ofNat k) := rfl
theorem pz_d {f : Nat → Int32} {N k : Nat} (h : k < N) (h2 : k < 2 ^ 31) : xr_d f N (nI k) = some (f k) := by
  unfold xr_d
  rw [nI_toInt h2, nI_clamp h2, if_pos ⟨by omega, by omega⟩]
theorem pz_w {f : Nat → Int32} {N k : Nat} {x : Int32} (h : k < N) (h2 : k < 2 ^ 31) : xr_w f N (nI k) x = some (upd f k x) := by
  unfold xr_w
  rw [nI_toInt h2, nI_clamp h2, if_pos ⟨by omega, by omega⟩]
theorem pz_nt {b : Nat} (hb : b < 2 ^ 31) : (-nI b).toInt = -(b : Int) := by
  have h : (-nI b) = Int32.ofInt (-(b : Int)) := by
    rw [Int32.ofInt_neg, Int32.ofInt_eq_ofNat]
    rfl
  rw [h, Int32.toInt_ofInt_of_le (by omega) (by omega)]
/-- a number beside one below 0 -/
theorem pz_neg {a b : Nat} (ha : a < 2 ^ 31) (h0 : 0 < b) (hb : b < 2 ^ 31) : (nI a = -nI b) = False := by
  refine eq_false (fun h => ?_)
  have h := congrArg Int32.toInt h
  rw [nI_toInt ha, pz_nt hb] at h
  omega
theorem pz_gen {a b : Nat} (ha : a < 2 ^ 31) (h0 : 0 < b) (hb : b < 2 ^ 31) : (-nI b = nI a) = False := by
  refine eq_false (fun h => ?_)
  have h := congrArg Int32.toInt h
  rw [nI_toInt ha, pz_nt hb] at h
  omega
theorem pz_nn {a b : Nat} (ha : a < 2 ^ 31) (hb : b < 2 ^ 31) : (-nI b = -nI a) = (b = a) := by
  refine propext ⟨fun h => ?_, fun h => by rw [h]⟩
  have h := congrArg Int32.toInt h
  rw [pz_nt ha, pz_nt hb] at h
  omega
theorem pz_ltn {a b : Nat} (ha : a < 2 ^ 31) (h0 : 0 < b) (hb : b < 2 ^ 31) : (-nI b < nI a) = True := by
  refine eq_true ?_
  rw [Int32.lt_iff_toInt_lt, nI_toInt ha, pz_nt hb]
  omega
theorem pz_len {a b : Nat} (ha : a < 2 ^ 31) (h0 : 0 < b) (hb : b < 2 ^ 31) : (nI a ≤ -nI b) = False := by
  refine eq_false (fun h => ?_)
  rw [Int32.le_iff_toInt_le, nI_toInt ha, pz_nt hb] at h
  omega
theorem pz_ltz {a b : Nat} (ha : a < 2 ^ 31) (h0 : 0 < b) (hb : b < 2 ^ 31) : (nI a < -nI b) = False := by
  refine eq_false (fun h => ?_)
  rw [Int32.lt_iff_toInt_lt, nI_toInt ha, pz_nt hb] at h
  omega
/-- one down -/
theorem pz_m1 {n : Nat} (h : 0 < n) : nI n + -nI 1 = nI (n - 1) := by
  obtain ⟨k, rfl⟩ : ∃ k, n = k + 1 := ⟨n - 1, by omega⟩
  exact pk_m1 k
/-- sums and greatest ones -/
def pz_su (f : Nat → Nat) : Nat → Nat
  | 0 => 0
  | n + 1 => pz_su f n + f n
def pz_mx (f : Nat → Nat) : Nat → Nat
  | 0 => 0
  | n + 1 => if pz_mx f n < f n then f n else pz_mx f n
theorem pz_su_le {f : Nat → Nat} {B : Nat} : ∀ {n : Nat}, (∀ i, i < n → f i ≤ B) → pz_su f n ≤ n * B
  | 0, _ => Nat.zero_le _
  | n + 1, h => by
    have h1 := pz_su_le (n := n) (fun i hi => h i (by omega))
    have h2 := h n (by omega)
    show pz_su f n + f n ≤ (n + 1) * B
    rw [Nat.succ_mul]
    omega
theorem pz_mx_le {f : Nat → Nat} {B : Nat} : ∀ {n : Nat}, (∀ i, i < n → f i ≤ B) → pz_mx f n ≤ B
  | 0, _ => Nat.zero_le _
  | n + 1, h => by
    have h1 := pz_mx_le (n := n) (fun i hi => h i (by omega))
    have h2 := h n (by omega)
    show (if pz_mx f n < f n then f n else pz_mx f n) ≤ B
    split <;> omega
theorem pz_su_eq {f g : Nat → Nat} : ∀ {n : Nat}, (∀ i, i < n → f i = g i) → pz_su f n = pz_su g n
  | 0, _ => rfl
  | n + 1, h => by
    show pz_su f n + f n = pz_su g n + g n
    rw [pz_su_eq (n := n) (fun i hi => h i (by omega)), h n (by omega)]
theorem pz_mx_eq {f g : Nat → Nat} : ∀ {n : Nat}, (∀ i, i < n → f i = g i) → pz_mx f n = pz_mx g n
  | 0, _ => rfl
  | n + 1, h => by
    unfold pz_mx
    rw [pz_mx_eq (n := n) (fun i hi => h i (by omega)), h n (by omega)]
/-- a sum where one place changes -/
theorem pz_su_up {f g : Nat → Nat} {k : Nat} : ∀ {n : Nat}, k < n → (∀ i, i < n → i ≠ k → f i = g i) → pz_su f n + g k = pz_su g n + f k
  | 0, h, _ => by omega
  | n + 1, hk, h => by
    show pz_su f n + f n + g k = pz_su g n + g n + f k
    by_cases hn : k = n
    · subst hn
      have h1 := pz_su_eq (f := f) (g := g) (n := k) (fun i hi => h i (by omega) (by omega))
      omega
    · have h1 := pz_su_up (n := n) (by omega) (fun i hi => h i (by omega))
      have h2 := h n (by omega) (by omega)
      omega
theorem pz_su_add {f g : Nat → Nat} : ∀ {n : Nat}, pz_su (fun i => f i + g i) n = pz_su f n + pz_su g n
  | 0 => rfl
  | n + 1 => by
    show pz_su (fun i => f i + g i) n + (f n + g n) = pz_su f n + f n + (pz_su g n + g n)
    rw [pz_su_add (n := n)]
    omega
theorem pz_su_zero {f : Nat → Nat} {n : Nat} (h : ∀ i, i < n → f i = 0) : pz_su f n = 0 := by
  have h1 := pz_su_le (f := f) (B := 0) (n := n) (fun i hi => by rw [h i hi]; omega)
  omega
theorem pz_us {f : Nat → Int32} {k : Nat} {x : Int32} : upd f k x k = x := by
  unfold upd
  rw [if_pos rfl]
theorem pz_un {f : Nat → Int32} {k j : Nat} {x : Int32} (h : j ≠ k) : upd f k x j = f j := by
  unfold upd
  rw [if_neg h]
/-- the same for rows of numbers -/
def pz_up (f : Nat → Nat) (k x : Nat) : Nat → Nat := fun j => if j = k then x else f j
theorem pz_ups {f : Nat → Nat} {k x : Nat} : pz_up f k x k = x := by
  unfold pz_up
  rw [if_pos rfl]
theorem pz_upn {f : Nat → Nat} {k j x : Nat} (h : j ≠ k) : pz_up f k x j = f j := by
  unfold pz_up
  rw [if_neg h]
/-- every argument is a number of a row or none -/
theorem pz_ix (x : Int32) (n : Nat) (hn : n < 2 ^ 31) : (∃ j : Nat, j < n ∧ x = nI j) ∨ (x < 0 ∨ nI n ≤ x) := by
  rcases pk_ix x hn with h | h | h
  · exact Or.inr (Or.inl h)
  · exact Or.inr (Or.inr h)
  · exact Or.inl h
