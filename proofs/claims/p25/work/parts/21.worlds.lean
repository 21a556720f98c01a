/-! the worlds: what each object holds, and its rows -/
abbrev xBd : Type := (Nat → Int32) × (Nat → Int32) × (Nat → Int32) × (Nat → Int32) × (Nat → Int32) × Int32 × Int32
abbrev xb_ty (cI cC cZ cR : ClassId) : List (ClassId × FieldType) := [(cI, .int), (cC, .char), (cZ, .int), (cR, .object "LookupBoard$Board")]
def wBd (cI : ClassId) (h a1 a2 a3 a4 a5 : Nat) (T S L J E : Nat → Int32) (cp su : Int32) : va_W := [(h, .inr (0, [.ref a1, .ref a2, .ref a3, .ref a4, .ref a5, .int cp, .int su])), (a1, .inl (cI, 24, .inl T)), (a2, .inl (cI, 72, .inl S)), (a3, .inl (cI, 72, .inl L)), (a4, .inl (cI, 1728, .inl J)), (a5, .inl (cI, 48, .inl E))]
def wHb (cI : ClassId) (a : Nat → Nat) (b : xBd) : va_W := wBd cI (a 0) (a 1) (a 2) (a 3) (a 4) (a 5) b.1 b.2.1 b.2.2.1 b.2.2.2.1 b.2.2.2.2.1 b.2.2.2.2.2.1 b.2.2.2.2.2.2
/-- the history's world: the row of states refers by f to four boards that stand in fixed places -/
def wHf (cI cR : ClassId) (h a : Nat) (ha : Nat → Nat → Nat) (hn : Int32) (f : Nat → Option Nat) (hb : Nat → xBd) : va_W := (h, .inr (1, [.ref a, .int hn])) :: (a, .inl (cR, 4, .inr (.inr (.inr (.inr f))))) :: (wHb cI (ha 0) (hb 0) ++ wHb cI (ha 1) (hb 1) ++ wHb cI (ha 2) (hb 2) ++ wHb cI (ha 3) (hb 3))
/-- the j-th state stands in the board of number pm j -/
def wHi (cI cR : ClassId) (h a : Nat) (ha : Nat → Nat → Nat) (hn : Int32) (pm : Nat → Nat) (hb : Nat → xBd) : va_W := wHf cI cR h a ha hn (fun j => some (ha (pm j) 0)) hb
def wLa (cI : ClassId) (h a : Nat) (K : Nat → Int32) : va_W := [(h, .inr (2, [.ref a])), (a, .inl (cI, 24, .inl K))]
def wLo (cI : ClassId) (h a1 a2 a3 : Nat) (Dp Bt Sq : Nat → Int32) (se : Int32) : va_W := [(h, .inr (3, [.ref a1, .ref a2, .ref a3, .int se])), (a1, .inl (cI, 24, .inl Dp)), (a2, .inl (cI, 24, .inl Bt)), (a3, .inl (cI, 24, .inl Sq))]
def wTe (cC : ClassId) (h a : Nat) (Sg : Nat → Int32) (ln at_ : Int32) : va_W := [(h, .inr (4, [.ref a, .int ln, .int at_])), (a, .inl (cC, 80, .inl Sg))]
def wLB (ad : Nat → Nat) (hs : Int32) : va_W := [(ad 0, .inr (5, [.ref (ad 1), .ref (ad 7), .ref (ad 13), .ref (ad 19), .ref (ad 21), .ref (ad 23), .ref (ad 27), .int hs]))]
def wMo (o : Nat) (ma : Nat → Nat) (st ik le sp nu : Int32) : va_W := [(o, .inr (6, [.ref (ma 0), .ref (ma 1), .ref (ma 2), .int st, .ref (ma 3), .int ik, .ref (ma 4), .int le, .ref (ma 5), .ref (ma 6), .ref (ma 7), .int sp, .ref (ma 8), .int nu, .ref (ma 9), .ref (ma 10)]))]
def wAr (c : ClassId) (a n : Nat) (f : Nat → Int32) : va_W := [(a, .inl (c, n, .inl f))]
/-- how many turns a loop is given: more than any needs -/
def xFu : Nat := 100000
theorem xb_nz0 : narrow .boolean (.int 0) = .int 0 := by decide +kernel
theorem xb_nz1 : narrow .boolean (.int 1) = .int 1 := by decide +kernel
/-- the places that a call leaves as they are -/
def xb_sm (w w2 : va_W) : List Nat → Prop
  | [] => True
  | i :: is => (∃ c, w2[i]? = some c ∧ w[i]? = some c) ∧ xb_sm w w2 is
theorem xb_smn {w w2 : va_W} : xb_sm w w2 [] := trivial
theorem xb_smc {w w2 : va_W} {i : Nat} {is : List Nat} {c : Nat × va_E} (h1 : w2[i]? = some c) (h2 : w[i]? = some c) (h : xb_sm w w2 is) : xb_sm w w2 (i :: is) := ⟨⟨c, h1, h2⟩, h⟩
theorem xb_sm_at {w w2 : va_W} : ∀ {is : List Nat} {i : Nat}, i ∈ is → xb_sm w w2 is → w2[i]? = w[i]?
  | [], _, h, _ => absurd h List.not_mem_nil
  | j :: is, i, h, ⟨⟨c, h1, h2⟩, h3⟩ => by
    rcases List.mem_cons.mp h with rfl | h
    · rw [h1, h2]
    · exact xb_sm_at h h3
/-- what a call leaves: its own cells as they are then, the rest as it was (read place by place) -/
theorem xb_mixq {w w1 w2 : va_W} {isC : List Nat} (rs : List Nat) (n : Nat) (hn : va_nd isC = true) (hl : w.length = n) (hl2 : w2.length = n) (ha : isC.map (fun i => w2[i]?) = w1.map some) (hb : xb_sm w w2 rs) (hc : ∀ i, i < n → i ∈ isC ∨ i ∈ rs) (hi : ∀ i ∈ isC, i < n) : xb_mix w isC w1 = w2 := by
  have hlen : isC.length = w1.length := by have := congrArg List.length ha; simpa using this
  apply List.ext_getElem?
  intro k
  rcases xb_mix_get isC w1 w hn hlen (fun i h => by rw [hl]; exact hi i h) k with ⟨h1, h2⟩ | ⟨j, h1, h2⟩
  · rw [h2]
    by_cases hk : k < n
    · rcases hc k hk with h3 | h3
      · exact absurd h3 h1
      · exact (xb_sm_at h3 hb).symm
    · rw [List.getElem?_eq_none (by omega), List.getElem?_eq_none (by omega)]
  · have h4 := congrArg (fun l : List (Option (Nat × va_E)) => l[j]?) ha
    simp only [List.getElem?_map, h1, Option.map_some] at h4
    cases hq : w1[j]? with
    | none => rw [hq] at h4; cases h4
    | some q =>
      rw [hq] at h4
      rw [h2, hq]
      exact (Option.some.inj h4).symm
