/-! the worlds: what each object holds, and its rows -/
abbrev xBd : Type := (Nat → Int32) × (Nat → Int32) × (Nat → Int32) × (Nat → Int32) × (Nat → Int32) × Int32 × Int32
abbrev xb_ty (cI cC cZ cR : ClassId) : List (ClassId × FieldType) := [(cI, .int), (cC, .char), (cZ, .boolean), (cR, .object "LookupBoard$Board")]
def wBd (cI : ClassId) (h a1 a2 a3 a4 a5 : Nat) (T S L J E : Nat → Int32) (cp su : Int32) : va_W := [(h, .inr (0, [.ref a1, .ref a2, .ref a3, .ref a4, .ref a5, .int cp, .int su])), (a1, .inl (cI, 24, .inl T)), (a2, .inl (cI, 72, .inl S)), (a3, .inl (cI, 72, .inl L)), (a4, .inl (cI, 1728, .inl J)), (a5, .inl (cI, 48, .inl E))]
def wHb (cI : ClassId) (a : Nat → Nat) (b : xBd) : va_W := wBd cI (a 0) (a 1) (a 2) (a 3) (a 4) (a 5) b.1 b.2.1 b.2.2.1 b.2.2.2.1 b.2.2.2.2.1 b.2.2.2.2.2.1 b.2.2.2.2.2.2
def wHi (cI cR : ClassId) (h a : Nat) (hn : Int32) (ha : Nat → Nat → Nat) (hb : Nat → xBd) : va_W := (h, .inr (1, [.ref a, .int hn])) :: (a, .inl (cR, 4, .inr (.inr (.inr (.inr (fun j => some (ha j 0))))))) :: (wHb cI (ha 0) (hb 0) ++ wHb cI (ha 1) (hb 1) ++ wHb cI (ha 2) (hb 2) ++ wHb cI (ha 3) (hb 3))
def wLa (cI : ClassId) (h a : Nat) (K : Nat → Int32) : va_W := [(h, .inr (2, [.ref a])), (a, .inl (cI, 24, .inl K))]
def wLo (cI : ClassId) (h a1 a2 a3 : Nat) (Dp Bt Sq : Nat → Int32) (se : Int32) : va_W := [(h, .inr (3, [.ref a1, .ref a2, .ref a3, .int se])), (a1, .inl (cI, 24, .inl Dp)), (a2, .inl (cI, 24, .inl Bt)), (a3, .inl (cI, 24, .inl Sq))]
def wTe (cC : ClassId) (h a : Nat) (Sg : Nat → Int32) (ln at_ : Int32) : va_W := [(h, .inr (4, [.ref a, .int ln, .int at_])), (a, .inl (cC, 80, .inl Sg))]
def wLB (ad : Nat → Nat) (hs : Int32) : va_W := [(ad 0, .inr (5, [.ref (ad 1), .ref (ad 7), .ref (ad 13), .ref (ad 19), .ref (ad 21), .ref (ad 23), .ref (ad 27), .int hs]))]
def wMo (o : Nat) (ma : Nat → Nat) (st ik le sp nu : Int32) : va_W := [(o, .inr (6, [.ref (ma 0), .ref (ma 1), .ref (ma 2), .int st, .ref (ma 3), .int ik, .ref (ma 4), .int le, .ref (ma 5), .ref (ma 6), .ref (ma 7), .int sp, .ref (ma 8), .int nu, .ref (ma 9), .ref (ma 10)]))]
def wAr (c : ClassId) (a n : Nat) (f : Nat → Int32) : va_W := [(a, .inl (c, n, .inl f))]
/-- how many turns a loop is given: more than any needs -/
def xFu : Nat := 100000
theorem xb_nz0 : narrow .boolean (.int 0) = .int 0 := by decide +kernel
theorem xb_nz1 : narrow .boolean (.int 1) = .int 1 := by decide +kernel
