/-! sources that are sources; what an act does: nothing, or a state recorded and a board whose sources are sources -/
def iS (T : Nat → Int32) (x : Int32) : Prop := (∃ q, q < 24 ∧ x = nI q ∧ T q ≠ -1) ∨ ∃ q, 24 ≤ q ∧ q ≤ 33 ∧ x = nI q
theorem nI_inj' {a b : Nat} (ha : a < 2 ^ 31) (hb : b < 2 ^ 31) (h : nI a = nI b) : a = b := by
  have h := congrArg Int32.toInt h
  rw [nI_toInt ha, nI_toInt hb] at h
  omega
theorem ip_of {x v : Int32} (h : f_X5_isPlace x = some v) (hv : ¬ v = 0) : ∃ p, p < 24 ∧ x = nI p := by
  rcases pz_ix x 24 (by omega) with ⟨j, hj, rfl⟩ | h2
  · exact ⟨j, hj, rfl⟩
  · rw [l5_isPlace_no h2] at h
    exact absurd (Option.some.inj h).symm hv
theorem ii_of {x v : Int32} (h : f_X5_isInput x = some v) (hv : ¬ v = 0) : ∃ p, p < 3 ∧ x = nI p := by
  rcases pz_ix x 3 (by omega) with ⟨j, hj, rfl⟩ | h2
  · exact ⟨j, hj, rfl⟩
  · rw [l5_isInput_no h2] at h
    exact absurd (Option.some.inj h).symm hv
theorem it_of {x v : Int32} (h : f_X5_isTable x = some v) (hv : ¬ v = 0) : ∃ p, p < 256 ∧ x = nI p := by
  rcases pz_ix x 256 (by omega) with ⟨j, hj, rfl⟩ | h2
  · exact ⟨j, hj, rfl⟩
  · rw [l5_isTable_no h2] at h
    exact absurd (Option.some.inj h).symm hv
/-- a cell, told by its table -/
theorem hc_at {T : Nat → Int32} {p : Nat} (hp : p < 24) : f_X0_hasCell T (nI p) = some (if T p = -1 then nI 0 else nI 1) := by
  unfold f_X0_hasCell
  rw [l5_isPlace (by omega), if_pos hp, Option.bind_some, if_neg (by decide), pz_d hp (by omega), Option.bind_some]
  split <;> rfl
theorem hc_of {T : Nat → Int32} {x v : Int32} (h : f_X0_hasCell T x = some v) (hv : ¬ v = 0) : ∃ p, p < 24 ∧ x = nI p ∧ T p ≠ -1 := by
  rcases pz_ix x 24 (by omega) with ⟨j, hj, rfl⟩ | h2
  · refine ⟨j, hj, rfl, fun q => ?_⟩
    rw [hc_at hj, if_pos q] at h
    exact absurd (Option.some.inj h).symm hv
  · rw [l0_hasCell_no h2] at h
    exact absurd (Option.some.inj h).symm hv
theorem iS_of {T : Nat → Int32} {x v : Int32} (h : f_X0_isSource T x = some v) (hv : ¬ v = 0) : iS T x := by
  unfold f_X0_isSource at h
  obtain ⟨v1, e1, h⟩ := ob_i h
  by_cases c1 : v1 = 0
  · have h := it_i c1 h
    by_cases c2 : x < 24
    · have h := it_i c2 h
      exact absurd (Option.some.inj h).symm hv
    · have h := ie_i c2 h
      by_cases c3 : 33 < x
      · have h := it_i c3 h
        exact absurd (Option.some.inj h).symm hv
      · refine Or.inr ?_
        have c2' : (24 : Int) ≤ x.toInt := by
          have := Int32.le_iff_toInt_le.mp (Int32.not_lt.mp c2)
          exact this
        have c3' : x.toInt ≤ (33 : Int) := by
          have := Int32.le_iff_toInt_le.mp (Int32.not_lt.mp c3)
          exact this
        rcases pz_ix x 34 (by omega) with ⟨j, hj, rfl⟩ | h2
        · rw [nI_toInt (by omega)] at c2' c3'
          exact ⟨j, by omega, by omega, rfl⟩
        · exfalso
          rcases h2 with z | z
          · have : x.toInt < 0 := Int32.lt_iff_toInt_lt.mp z
            omega
          · have := Int32.le_iff_toInt_le.mp z
            rw [nI_toInt (by omega)] at this
            omega
  · obtain ⟨p, h1, h2, h3⟩ := hc_of e1 c1
    exact Or.inl ⟨p, h1, h2, h3⟩
theorem iS_to {T : Nat → Int32} {x : Int32} (h : iS T x) : f_X0_isSource T x = some (nI 1) := by
  unfold f_X0_isSource
  rcases h with ⟨q, h1, rfl, h3⟩ | ⟨q, h1, h2, rfl⟩
  · rw [hc_at h1, if_neg h3, Option.bind_some, if_neg (by decide)]
    rfl
  · rw [l0_hasCell_no (Or.inr (nI_le (by omega) (by omega))), Option.bind_some, if_pos (show nI 0 = 0 from rfl), if_neg, if_neg]
    · rfl
    · exact fun z => by
        have := Int32.lt_iff_toInt_lt.mp z
        rw [nI_toInt (by omega)] at this
        have h33 : (33 : Int32).toInt = 33 := rfl
        omega
    · exact fun z => by
        have := Int32.lt_iff_toInt_lt.mp z
        rw [nI_toInt (by omega)] at this
        have h24 : (24 : Int32).toInt = 24 := rfl
        omega
theorem iS_mono {T T' : Nat → Int32} {x : Int32} (hm : ∀ q, q < 24 → T q ≠ -1 → T' q ≠ -1) (h : iS T x) : iS T' x := by
  rcases h with ⟨q, h1, h2, h3⟩ | h
  · exact Or.inl ⟨q, h1, h2, hm q h1 h3⟩
  · exact Or.inr h
def wV (b : xBd) : Prop := ∀ w, w < 72 → iS b.1 (b.2.1 w)
theorem nI_nm1 {t : Nat} (h : t < 2 ^ 31) : nI t ≠ -1 := fun z => by
  have := congrArg Int32.toInt z
  rw [nI_toInt h] at this
  have h1 : (-1 : Int32).toInt = -1 := rfl
  omega
/-- in terms of the numbers that the rows speak in -/
theorem iS_zq {T : Nat → Int32} {tb : Nat → Nat} (hT : cT T tb) (hb : wT tb) {s : Nat} (hs : s ≤ 33) : iS T (nI s) ↔ zq tb s ≠ 0 := by
  have h := l0_isSource hT hb (s := s) (by omega)
  have hz : zq tb s = 0 ∨ zq tb s = 1 := by
    unfold zq
    split
    · have := zc_lt tb s; omega
    · exact Or.inr rfl
  constructor
  · intro hi z
    rw [iS_to hi, z] at h
    exact absurd (Option.some.inj h) (by decide)
  · intro hn
    refine iS_of h ?_
    rcases hz with z | z
    · exact absurd z hn
    · rw [z]; decide
theorem wV_zq {b : xBd} {tb sr : Nat → Nat} (hT : cT b.1 tb) (hS : cS b.2.1 sr) (hb : wT tb) (hs : ∀ w, w < 72 → sr w ≤ 33) : wV b ↔ ∀ w, w < 72 → zq tb (sr w) ≠ 0 :=
  ⟨fun h w hw => by have := h w hw; rw [hS w hw] at this; exact (iS_zq hT hb (hs w hw)).mp this, fun h w hw => by rw [hS w hw]; exact (iS_zq hT hb (hs w hw)).mpr (h w hw)⟩
theorem zq_x {tb sr : Nat → Nat} {p q : Nat} (hp : p < 24) (hq : q < 24) (h : ∀ w, w < 72 → zq tb (sr w) ≠ 0) : ∀ w, w < 72 → zq (xt tb p q) (xs sr p q w) ≠ 0 := by
  intro w hw
  obtain ⟨w', hw', e⟩ : ∃ w', w' < 72 ∧ xs_i sr p q 3 w = sr w' := by
    unfold xs_i
    split
    · exact ⟨3 * p + w % 3, by omega, rfl⟩
    · split
      · exact ⟨3 * q + w % 3, by omega, rfl⟩
      · exact ⟨w, hw, rfl⟩
  have h1 := h w' hw'
  have h2 : ∀ u, zq tb u ≠ 0 → zq (xt tb p q) (if u = p then q else if u = q then p else u) ≠ 0 := by
    intro u hu
    unfold zq at hu ⊢
    by_cases c1 : u = p
    · subst c1
      rw [if_pos hp] at hu
      rw [if_pos rfl, if_pos hq]
      unfold zc xt at *
      rw [if_pos rfl]
      exact hu
    · rw [if_neg c1]
      by_cases c2 : u = q
      · subst c2
        rw [if_pos hq] at hu
        rw [if_pos rfl, if_pos hp]
        unfold zc xt at *
        by_cases c3 : p = u
        · exact absurd c3.symm c1
        · rw [if_neg c3, if_pos rfl]
          exact hu
      · rw [if_neg c2]
        by_cases c4 : u < 24
        · rw [if_pos c4] at hu ⊢
          unfold zc xt at *
          rw [if_neg c2, if_neg c1]
          exact hu
        · rw [if_neg c4]
          decide
  show zq (xt tb p q) (xs_r (xs_i sr p q 3) p q w) ≠ 0
  unfold xs_r
  rw [e]
  exact h2 _ h1
theorem zq_t {tb sr : Nat → Nat} {p : Nat} (hp : p < 24) (h : ∀ w, w < 72 → zq tb (sr w) ≠ 0) (hu : pz_su (fun w => if w / 3 = p then 0 else zu sr p w) 72 = 0) : ∀ w, w < 72 → zq (pz_up tb p 0) (zi sr p 3 32 w) ≠ 0 := by
  have hz : ∀ n w, w < n → pz_su (fun w => if w / 3 = p then 0 else zu sr p w) n = 0 → (if w / 3 = p then 0 else zu sr p w) = 0 := by
    intro n
    induction n with
    | zero => intro w hw; omega
    | succ n ih =>
      intro w hw h0
      have h1 : pz_su (fun w => if w / 3 = p then 0 else zu sr p w) n + (if n / 3 = p then 0 else zu sr p n) = 0 := h0
      by_cases c : w = n
      · subst c; omega
      · exact ih w (by omega) (by omega)
  intro w hw
  unfold zi
  by_cases c : 3 * p ≤ w ∧ w < 3 * p + 3
  · rw [if_pos c]
    unfold zq
    rw [if_neg (by decide)]
    decide
  · rw [if_neg c]
    have h1 := hz 72 w hw hu
    rw [if_neg (by omega)] at h1
    have h2 : sr w ≠ p := fun q => by
      unfold zu at h1
      rw [if_pos q] at h1
      omega
    have h3 := h w hw
    unfold zq at h3 ⊢
    by_cases c4 : sr w < 24
    · rw [if_pos c4] at h3 ⊢
      unfold zc at h3 ⊢
      rw [pz_upn h2]
      exact h3
    · rw [if_neg c4]
      decide
