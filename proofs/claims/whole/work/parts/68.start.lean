/-! the law's world, and the start of both -/
def W5 (cI cC cR : ClassId) (ad : Nat → Nat) (ha : Nat → Nat → Nat) (hs : Int32) (b t s : xBd) (hn : Int32) (pm : Nat → Nat) (hb : Nat → xBd) (K Dp Bt Sq : Nat → Int32) (se : Int32) (Sg : Nat → Int32) (ln at_ : Int32) : va_W := (wLB ad hs ++ wBd cI (ad 1) (ad 2) (ad 3) (ad 4) (ad 5) (ad 6) b.1 b.2.1 b.2.2.1 b.2.2.2.1 b.2.2.2.2.1 b.2.2.2.2.2.1 b.2.2.2.2.2.2 ++ wBd cI (ad 7) (ad 8) (ad 9) (ad 10) (ad 11) (ad 12) t.1 t.2.1 t.2.2.1 t.2.2.2.1 t.2.2.2.2.1 t.2.2.2.2.2.1 t.2.2.2.2.2.2 ++ wBd cI (ad 13) (ad 14) (ad 15) (ad 16) (ad 17) (ad 18) s.1 s.2.1 s.2.2.1 s.2.2.2.1 s.2.2.2.2.1 s.2.2.2.2.2.1 s.2.2.2.2.2.2 ++ wHi cI cR (ad 19) (ad 20) ha hn pm hb ++ wLa cI (ad 21) (ad 22) K ++ wLo cI (ad 23) (ad 24) (ad 25) (ad 26) Dp Bt Sq se ++ wTe cC (ad 27) (ad 28) Sg ln at_)
def W6 (cI cC cZ : ClassId) (o0 : Nat) (ma : Nat → Nat) (st ik le sp nu : Int32) (now thn pst snp txt hld far don tld dep bit : Nat → Int32) : va_W := (wMo o0 ma st ik le sp nu ++ wAr cI (ma 0) 1898 now ++ wAr cI (ma 1) 1898 thn ++ wAr cI (ma 2) 7592 pst ++ wAr cI (ma 3) 1898 snp ++ wAr cC (ma 4) 80 txt ++ wAr cI (ma 5) 48 hld ++ wAr cI (ma 6) 24 far ++ wAr cZ (ma 7) 72 don ++ wAr cI (ma 8) 96 tld ++ wAr cI (ma 9) 24 dep ++ wAr cI (ma 10) 24 bit)
def xL5 (ad : Nat → Nat) (ha : Nat → Nat → Nat) : List Nat := [ad 0, ad 1, ad 2, ad 3, ad 4, ad 5, ad 6, ad 7, ad 8, ad 9, ad 10, ad 11, ad 12, ad 13, ad 14, ad 15, ad 16, ad 17, ad 18, ad 19, ad 20, ha 0 0, ha 0 1, ha 0 2, ha 0 3, ha 0 4, ha 0 5, ha 1 0, ha 1 1, ha 1 2, ha 1 3, ha 1 4, ha 1 5, ha 2 0, ha 2 1, ha 2 2, ha 2 3, ha 2 4, ha 2 5, ha 3 0, ha 3 1, ha 3 2, ha 3 3, ha 3 4, ha 3 5, ad 21, ad 22, ad 23, ad 24, ad 25, ad 26, ad 27, ad 28]
def xL6 (o0 : Nat) (ma : Nat → Nat) : List Nat := [o0, ma 0, ma 1, ma 2, ma 3, ma 4, ma 5, ma 6, ma 7, ma 8, ma 9, ma 10]
section WL
variable {cI cC cZ cR : ClassId} {ad : Nat → Nat} {ha : Nat → Nat → Nat} {hs : Int32} {b t s : xBd} {hn : Int32} {pm : Nat → Nat} {hb : Nat → xBd} {K Dp Bt Sq : Nat → Int32} {se : Int32} {Sg : Nat → Int32} {ln at_ : Int32}
variable {o0 : Nat} {ma : Nat → Nat} {st ik le sp nu : Int32} {now thn pst snp txt hld far don tld dep bit : Nat → Int32}
set_option maxRecDepth 100000 in
set_option maxHeartbeats 4000000 in
theorem W5_fst : (W5 cI cC cR ad ha hs b t s hn pm hb K Dp Bt Sq se Sg ln at_).map Prod.fst = xL5 ad ha := rfl
theorem W6_fst : (W6 cI cC cZ o0 ma st ik le sp nu now thn pst snp txt hld far don tld dep bit).map Prod.fst = xL6 o0 ma := rfl
theorem W5_len : (W5 cI cC cR ad ha hs b t s hn pm hb K Dp Bt Sq se Sg ln at_).length = 53 := by
  rw [← List.length_map (f := Prod.fst), W5_fst]
  rfl
theorem W6_len : (W6 cI cC cZ o0 ma st ik le sp nu now thn pst snp txt hld far don tld dep bit).length = 12 := by
  rw [← List.length_map (f := Prod.fst), W6_fst]
  rfl
theorem W5_0 : (W5 cI cC cR ad ha hs b t s hn pm hb K Dp Bt Sq se Sg ln at_)[0]? = some (ad 0, .inr (5, [.ref (ad 1), .ref (ad 7), .ref (ad 13), .ref (ad 19), .ref (ad 21), .ref (ad 23), .ref (ad 27), .int hs])) := rfl
theorem W6_0 : (W6 cI cC cZ o0 ma st ik le sp nu now thn pst snp txt hld far don tld dep bit)[0]? = some (o0, .inr (6, [.ref (ma 0), .ref (ma 1), .ref (ma 2), .int st, .ref (ma 3), .int ik, .ref (ma 4), .int le, .ref (ma 5), .ref (ma 6), .ref (ma 7), .int sp, .ref (ma 8), .int nu, .ref (ma 9), .ref (ma 10)])) := rfl
end WL
theorem xb_rgS (A B : va_W) (n k : Nat) (hn : A.length = n) (hk : B.length = k) : (List.range' n k).map (fun i => (A ++ B)[i]?) = B.map some := by
  subst hn
  subst hk
  apply List.ext_getElem?
  intro i
  by_cases h : i < B.length
  · simp [h, List.getElem?_range', List.getElem?_append_right]
  · rw [List.getElem?_eq_none (by simp; omega), List.getElem?_eq_none (by simp; omega)]
theorem xb_rgP (A B : va_W) (n : Nat) (hn : A.length = n) : (List.range n).map (fun i => (A ++ B)[i]?) = A.map some := by
  subst hn
  exact xb_rg A B
theorem xb_mixP {A B A' : va_W} (n : Nat) (hn : A.length = n) (h : A'.length = n) : xb_mix (A ++ B) (List.range n) A' = A' ++ B := by
  subst hn
  apply List.ext_getElem?
  intro k
  rcases xb_mix_get (List.range A.length) A' (A ++ B) (xb_nd_of _ List.nodup_range) (by simp [h]) (fun i hi => by simp at hi ⊢; omega) k with ⟨h1, h2⟩ | ⟨j, h1, h2⟩
  · rw [h2]
    have h3 : A.length ≤ k := by simpa using h1
    rw [List.getElem?_append_right h3, List.getElem?_append_right (by omega), h]
  · obtain ⟨hj, e⟩ := List.getElem?_eq_some_iff.mp h1
    simp at hj e
    subst e
    rw [h2, List.getElem?_append_left (by omega)]
theorem xb_mixS {A B B' : va_W} (n m : Nat) (hn : A.length = n) (hm : B.length = m) (h : B'.length = m) : xb_mix (A ++ B) (List.range' n m) B' = A ++ B' := by
  subst hn
  subst hm
  apply List.ext_getElem?
  intro k
  rcases xb_mix_get (List.range' A.length B.length) B' (A ++ B) (xb_nd_of _ List.nodup_range') (by simp [h]) (fun i hi => by simp at hi ⊢; omega) k with ⟨h1, h2⟩ | ⟨j, h1, h2⟩
  · rw [h2]
    have h3 : k < A.length ∨ A.length + B.length ≤ k := by
      simp only [List.mem_range'_1, not_and, Nat.not_lt] at h1
      rcases Nat.lt_or_ge k A.length with q | q
      · exact Or.inl q
      · exact Or.inr (h1 q)
    rcases h3 with h3 | h3
    · rw [List.getElem?_append_left h3, List.getElem?_append_left h3]
    · rw [List.getElem?_eq_none (by simp; omega), List.getElem?_eq_none (by simp; omega)]
  · obtain ⟨hj, e⟩ := List.getElem?_eq_some_iff.mp h1
    simp at hj e
    subst e
    rw [h2, List.getElem?_append_right (by omega)]
    congr 1
    omega
theorem pMo_W6 {cI cC cZ : ClassId} {o0 : Nat} {w1 : va_W} (h : pMo cI cC cZ o0 w1) : ∃ (ma : Nat → Nat) (now : Nat → Int32), w1 = W6 cI cC cZ o0 ma 0 0 0 0 0 now z0 z0 z0 z0 z0 z0 z0 z0 z0 z0 ∧ nS0 now := h
set_option maxRecDepth 100000 in
set_option maxHeartbeats 4000000 in
theorem pLB_W5 {cI cC cR : ClassId} {h : Nat} {w1 : va_W} (hp : pLB cI cC cR h w1) : ∃ (ad : Nat → Nat) (ha : Nat → Nat → Nat) (b t s : xBd) (hb : Nat → xBd), ad 0 = h ∧ w1 = W5 cI cC cR ad ha 0 b t s 0 id hb z0 z0 z0 z0 0 z0 0 0 ∧ bS0 b := by
  obtain ⟨a1, a2, a3, b, t, s, hi, a, ha, hb, la, k, lo, l1, l2, l3, te, t1, rfl, e1, -, -, -⟩ := hp
  refine ⟨fun k' => match k' with | 0 => h | 1 => a1 0 | 2 => a1 1 | 3 => a1 2 | 4 => a1 3 | 5 => a1 4 | 6 => a1 5 | 7 => a2 0 | 8 => a2 1 | 9 => a2 2 | 10 => a2 3 | 11 => a2 4 | 12 => a2 5 | 13 => a3 0 | 14 => a3 1 | 15 => a3 2 | 16 => a3 3 | 17 => a3 4 | 18 => a3 5 | 19 => hi | 20 => a | 21 => la | 22 => k | 23 => lo | 24 => l1 | 25 => l2 | 26 => l3 | 27 => te | _ => t1, ha, b, t, s, hb, rfl, ?_, e1⟩
  unfold W5
  refine Eq.trans ?_ fx_X5.symm
  rfl
theorem RR_start {b s : xBd} {hb : Nat → xBd} {now : Nat → Int32} (h0 : bS0 b) (h1 : nS0 now) : RR b s 0 0 id hb z0 0 0 0 0 now z0 z0 z0 := by
  obtain ⟨a1, a2, a3, a4, a5, a6, a7⟩ := h0
  refine ⟨⟨fun _ => 0, fun _ => 32, fun _ => 0, fun _ _ => 0, fun _ => 0, 2, 1, fun p hp => a1 p hp, fun w hw => a2 w hw, fun w hw => by rw [a3]; rfl, fun w hw k hk => absurd hk (Nat.not_lt_zero k), fun x hx => by rw [a5]; rfl, a6, a7, ⟨fun p hp => ?_, fun w hw => ?_, fun w hw => ?_, fun w hw k hk => absurd hk (Nat.not_lt_zero k), ?_, ?_⟩, fun p hp => Nat.zero_le _, ⟨fun w hw => (by decide : 32 ≤ 33), fun w hw _ => rfl⟩, ⟨by omega, by omega, by omega⟩, ⟨fun w hw => Nat.zero_le _, fun w hw k hk => absurd hk (Nat.not_lt_zero k), fun w hw k hk => absurd hk (Nat.not_lt_zero _)⟩, fun w hw => ⟨fun _ => Nat.le_refl _, fun _ => rfl⟩, fun x hx => ?_⟩, ⟨fun j hj => hj, fun i j hi hj h => h, 0, by omega, rfl, rfl, fun j hj => absurd hj (Nat.not_lt_zero j)⟩, Or.inl ⟨rfl, rfl⟩, ⟨0, by omega, rfl, rfl⟩, fun k hk => rfl⟩
  · rw [h1 p (by omega), if_pos hp]; rfl
  · rw [h1 _ (by omega), if_neg (by omega), if_pos (by omega)]; rfl
  · rw [h1 _ (by omega), if_neg (by omega), if_neg (by omega), if_pos (by omega)]; rfl
  · rw [h1 _ (by omega)]; rfl
  · rw [h1 _ (by omega)]; rfl
  · exact (pz_su_zero (fun w hw => rfl)).symm
