/-! an object's world, its cells one by one -/
def W5 (cI cC cR : ClassId) (ad : Nat → Nat) (ha : Nat → Nat → Nat) (hs : Int32) (b t s : xBd) (hn : Int32) (pm : Nat → Nat) (hb : Nat → xBd) (K Dp Bt Sq : Nat → Int32) (se : Int32) (Sg : Nat → Int32) (ln at_ : Int32) : va_W := (wLB ad hs ++ wBd cI (ad 1) (ad 2) (ad 3) (ad 4) (ad 5) (ad 6) b.1 b.2.1 b.2.2.1 b.2.2.2.1 b.2.2.2.2.1 b.2.2.2.2.2.1 b.2.2.2.2.2.2 ++ wBd cI (ad 7) (ad 8) (ad 9) (ad 10) (ad 11) (ad 12) t.1 t.2.1 t.2.2.1 t.2.2.2.1 t.2.2.2.2.1 t.2.2.2.2.2.1 t.2.2.2.2.2.2 ++ wBd cI (ad 13) (ad 14) (ad 15) (ad 16) (ad 17) (ad 18) s.1 s.2.1 s.2.2.1 s.2.2.2.1 s.2.2.2.2.1 s.2.2.2.2.2.1 s.2.2.2.2.2.2 ++ wHi cI cR (ad 19) (ad 20) ha hn pm hb ++ wLa cI (ad 21) (ad 22) K ++ wLo cI (ad 23) (ad 24) (ad 25) (ad 26) Dp Bt Sq se ++ wTe cC (ad 27) (ad 28) Sg ln at_)
def xL5 (ad : Nat → Nat) (ha : Nat → Nat → Nat) : List Nat := [ad 0, ad 1, ad 2, ad 3, ad 4, ad 5, ad 6, ad 7, ad 8, ad 9, ad 10, ad 11, ad 12, ad 13, ad 14, ad 15, ad 16, ad 17, ad 18, ad 19, ad 20, ha 0 0, ha 0 1, ha 0 2, ha 0 3, ha 0 4, ha 0 5, ha 1 0, ha 1 1, ha 1 2, ha 1 3, ha 1 4, ha 1 5, ha 2 0, ha 2 1, ha 2 2, ha 2 3, ha 2 4, ha 2 5, ha 3 0, ha 3 1, ha 3 2, ha 3 3, ha 3 4, ha 3 5, ad 21, ad 22, ad 23, ad 24, ad 25, ad 26, ad 27, ad 28]
section WL
variable {cI cC cZ cR : ClassId} {ad : Nat → Nat} {ha : Nat → Nat → Nat} {hs : Int32} {b t s : xBd} {hn : Int32} {pm : Nat → Nat} {hb : Nat → xBd} {K Dp Bt Sq : Nat → Int32} {se : Int32} {Sg : Nat → Int32} {ln at_ : Int32}
set_option maxRecDepth 100000 in
set_option maxHeartbeats 4000000 in
theorem W5_fst : (W5 cI cC cR ad ha hs b t s hn pm hb K Dp Bt Sq se Sg ln at_).map Prod.fst = xL5 ad ha := rfl
theorem W5_len : (W5 cI cC cR ad ha hs b t s hn pm hb K Dp Bt Sq se Sg ln at_).length = 53 := by
  rw [← List.length_map (f := Prod.fst), W5_fst]
  rfl
theorem W5_0 : (W5 cI cC cR ad ha hs b t s hn pm hb K Dp Bt Sq se Sg ln at_)[0]? = some (ad 0, .inr (5, [.ref (ad 1), .ref (ad 7), .ref (ad 13), .ref (ad 19), .ref (ad 21), .ref (ad 23), .ref (ad 27), .int hs])) := rfl
end WL
theorem xb_rgS (A B : va_W) (n k : Nat) (hn : A.length = n) (hk : B.length = k) : (List.range' n k).map (fun i => (A ++ B)[i]?) = B.map some := by
  subst hn
  subst hk
  apply List.ext_getElem?
  intro i
  by_cases h : i < B.length
  · simp [h, List.getElem?_range', List.getElem?_append_right]
  · rw [List.getElem?_eq_none (by simp; omega), List.getElem?_eq_none (by simp; omega)]
theorem xb_rgP (A B : va_W) (n : Nat) (hn : A.length = n) : (List.range n).map (fun i => (A ++ B)[i]?) = A.map some := by
  subst hn
  exact xb_rg A B
theorem xb_mixP {A B A' : va_W} (n : Nat) (hn : A.length = n) (h : A'.length = n) : xb_mix (A ++ B) (List.range n) A' = A' ++ B := by
  subst hn
  apply List.ext_getElem?
  intro k
  rcases xb_mix_get (List.range A.length) A' (A ++ B) (xb_nd_of _ List.nodup_range) (by simp [h]) (fun i hi => by simp at hi ⊢; omega) k with ⟨h1, h2⟩ | ⟨j, h1, h2⟩
  · rw [h2]
    have h3 : A.length ≤ k := by simpa using h1
    rw [List.getElem?_append_right h3, List.getElem?_append_right (by omega), h]
  · obtain ⟨hj, e⟩ := List.getElem?_eq_some_iff.mp h1
    simp at hj e
    subst e
    rw [h2, List.getElem?_append_left (by omega)]
theorem xb_mixS {A B B' : va_W} (n m : Nat) (hn : A.length = n) (hm : B.length = m) (h : B'.length = m) : xb_mix (A ++ B) (List.range' n m) B' = A ++ B' := by
  subst hn
  subst hm
  apply List.ext_getElem?
  intro k
  rcases xb_mix_get (List.range' A.length B.length) B' (A ++ B) (xb_nd_of _ List.nodup_range') (by simp [h]) (fun i hi => by simp at hi ⊢; omega) k with ⟨h1, h2⟩ | ⟨j, h1, h2⟩
  · rw [h2]
    have h3 : k < A.length ∨ A.length + B.length ≤ k := by
      simp only [List.mem_range'_1, not_and, Nat.not_lt] at h1
      rcases Nat.lt_or_ge k A.length with q | q
      · exact Or.inl q
      · exact Or.inr (h1 q)
    rcases h3 with h3 | h3
    · rw [List.getElem?_append_left h3, List.getElem?_append_left h3]
    · rw [List.getElem?_eq_none (by simp; omega), List.getElem?_eq_none (by simp; omega)]
  · obtain ⟨hj, e⟩ := List.getElem?_eq_some_iff.mp h1
    simp at hj e
    subst e
    rw [h2, List.getElem?_append_right (by omega)]
    congr 1
    omega
set_option maxRecDepth 100000 in
set_option maxHeartbeats 4000000 in
theorem pLB_W5 {cI cC cR : ClassId} {h : Nat} {w1 : va_W} (hp : pLB cI cC cR h w1) : ∃ (ad : Nat → Nat) (ha : Nat → Nat → Nat) (b t s : xBd) (hb : Nat → xBd), ad 0 = h ∧ w1 = W5 cI cC cR ad ha 0 b t s 0 id hb z0 z0 z0 z0 0 z0 0 0 ∧ bS0 b ∧ bS0 t ∧ bS0 s ∧ ∀ j, j < 4 → bS0 (hb j) := by
  obtain ⟨a1, a2, a3, b, t, s, hi, a, ha, hb, la, k, lo, l1, l2, l3, te, t1, rfl, e1, e2, e3, e4⟩ := hp
  refine ⟨fun k' => match k' with | 0 => h | 1 => a1 0 | 2 => a1 1 | 3 => a1 2 | 4 => a1 3 | 5 => a1 4 | 6 => a1 5 | 7 => a2 0 | 8 => a2 1 | 9 => a2 2 | 10 => a2 3 | 11 => a2 4 | 12 => a2 5 | 13 => a3 0 | 14 => a3 1 | 15 => a3 2 | 16 => a3 3 | 17 => a3 4 | 18 => a3 5 | 19 => hi | 20 => a | 21 => la | 22 => k | 23 => lo | 24 => l1 | 25 => l2 | 26 => l3 | 27 => te | _ => t1, ha, b, t, s, hb, rfl, ?_, e1, e2, e3, e4⟩
  unfold W5
  refine Eq.trans ?_ fx_X5.symm
  rfl
theorem W5_h0 {cI cC cR : ClassId} {ad : Nat → Nat} {ha : Nat → Nat → Nat} {hs : Int32} {b t s : xBd} {hn : Int32} {pm : Nat → Nat} {hb : Nat → xBd} {K Dp Bt Sq : Nat → Int32} {se : Int32} {Sg : Nat → Int32} {ln at_ : Int32} {B : va_W} : (W5 cI cC cR ad ha hs b t s hn pm hb K Dp Bt Sq se Sg ln at_ ++ B)[0]? = some (ad 0, .inr (5, [.ref (ad 1), .ref (ad 7), .ref (ad 13), .ref (ad 19), .ref (ad 21), .ref (ad 23), .ref (ad 27), .int hs])) := (List.getElem?_append_left (by rw [W5_len]; omega)).trans W5_0
