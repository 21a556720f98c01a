/-! THE FRAME OF ALL WALKS: a context X, the world w as a list, the locals lv as a list; one rule an instruction. -/
/-- what the static array STEPS holds -/
def xb_st : Nat → Value := fun j => match j with | 0 => .int (-6) | 1 => .int (-1) | 2 => .int 1 | _ => .int 6
/-- private methods of a nest mate that are called: owner, pool number, name -/
def xb_nl : List (String × Nat × MethodName) := [(RX5, 31, yX2_init), (RX5, 38, yX3_init), (RX5, 45, yX4_init), (RX0, 46, yX5_isPlace), (RX0, 50, yX5_isWire), (RX0, 83, yX5_junctionOf), (RX0, 89, yX5_distanceBetween), (RX0, 93, yX5_segmentBetween), (RX2, 35, yX5_junctionOf), (RX2, 38, yX5_isPlace), (RX2, 68, yX5_segmentAt), (RX3, 49, yX5_isPlace)]
def xb_sta (A : Nat → Prop) (U : State) (t : Nat) : Prop := va_Z "LookupBoard" "STEPS" "[I" (.ref t) A U U.heap ∧ va_T .int t 4 xb_st A U U.heap
def xb_E (A : Nat → Prop) (U : State) : Prop := (∀ q ∈ xb_nl, va_Nw (.methodLinkNest q.1 q.2.1 q.2.2 "LookupBoard") U) ∧ va_Nw (.fieldLinkNest RX2 72 "LookupBoard" "STEPS" "[I" "LookupBoard") U ∧ ∃ t : Nat, xb_sta A U t
theorem xb_E_to {A B : Nat → Prop} {s U : State} {H : Heap} {locs : List Loc} (hE : xb_E A s) (hS : va_S A s.heap H locs) (hU : U.heap = H) (hW : s.WarmedH U.vm) (hAB : ∀ q, B q → A q) : xb_E B U := by
  obtain ⟨h1, h2, t, h3, h4⟩ := hE
  have hk : ∀ a : Nat, a < s.heap.size → ¬ A a → U.heap[a]? = s.heap[a]? := fun a h1 h2 => by rw [hU]; exact hS.2.1 a h1 h2
  exact ⟨fun q hq => va_Nw.warmM hW (h1 q hq), va_Nw.warmF hW h2, t, ((h3.kept hk).narrow hAB).moved hW.alike, ((h4.kept hk).narrow hAB).moved hW.alike⟩
theorem xb_E_calling {A : Nat → Prop} {U : State} {g : JFrame} {mk : MethodId} {a : Array Value} (hE : xb_E A U) : xb_E A (U.calling g mk a) := by
  obtain ⟨h1, h2, t, h3, h4⟩ := hE
  exact ⟨fun q hq => va_Nw.same rfl (u := U) rfl (h1 q hq), va_Nw.same rfl (u := U) rfl h2, t, va_Z.moved (u := U) (U := U.calling g mk a) (Vm.Alike.refl U.vm) h3, va_T.moved (u := U) (U := U.calling g mk a) (Vm.Alike.refl U.vm) h4⟩
/-- a method's start: its world -/
def xb_W (D : va_G) (tys : List (ClassId × FieldType)) (w : va_W) (sz : Nat) (U : State) : Prop := U.heap.size = sz ∧ va_P D vwCl w U.heap ∧ va_K D vwCl tys U ∧ va_D (fun _ => True) w ∧ xb_E (va_A w sz) U
/-- its end: the answer, and the world then -/
def xb_Q (D : va_G) (o : Option Value) (w1 : va_W) (A : Nat → Prop) : Array Value → State → Outcome → State → Prop := fun _ st oc t => oc = .returned o ∧ va_P D vwCl w1 t.heap ∧ va_F A st t
theorem xb_W_blind {D : va_G} {tys : List (ClassId × FieldType)} {w : va_W} {sz : Nat} {As : List Value} : FrameBlind (va_Pc As (xb_W D tys w sz)) := fun a U g mk q => by
  obtain ⟨q0, q1, qP, qK, qD, qE⟩ := q
  exact ⟨q0, q1, qP, va_K.moved (u := U) (U := U.calling g mk a) (Vm.Alike.refl U.vm) qK, qD, xb_E_calling qE⟩
abbrev xb_C : Type := Program × Launch × Jvm.Env × Room × State × MethodId × Array Value × List Frame × Method × Code × (Nat → Prop) × (State → Prop) × Nat × va_G
/-- the judgement: from this world, these locals, at this pc with this stack, the machine comes to the context's end -/
def xb_G (X : xb_C) (k n : Nat) (w : va_W) (lv : List (Nat × Value)) (pc : Nat) (st : List Value) : Prop := match X with
  | (p, l, e, R, s, m, args, below, meth, c, A, Q, nL, D) => ∀ (H : Heap) (locs : List Loc) (ls : Array Slot), va_P D vwCl w H → va_D A w → va_S A s.heap H locs → lv_has ls nL lv → W p l e R s m args below meth c H locs k n Q (F0 m pc ls st)
def xb_OK (X : xb_C) (cc : ByteArray) (ws : List Cond) (own : String) (rm : Room) (ret : Option FieldType) (nL : Nat) (tys : List (ClassId × FieldType)) (D : va_G) : Prop := match X with
  | (p, _, _, R, s, m, args, _, meth, c, A, _, nL', D') => p.tables.exec = Jvm.exec ∧ c.code = cc ∧ meth.sig.returnType = ret ∧ c.maxLocals = nL ∧ s.vm.findClass own = some m.cls ∧ (∀ w ∈ ws, w.before args s = true) ∧ meth.locks = false ∧ va_K D vwCl tys s ∧ xb_E A s ∧ (∀ q, s.heap.size ≤ q → A q) ∧ R = rm ∧ nL' = nL ∧ D' = D
def xb_Fin (X : xb_C) (D : va_G) (o : Option Value) (w1 : va_W) : Prop := match X with
  | (_, _, _, _, s, _, args, below, _, _, A, Q, _, _) => Q = MQ below (xb_Q D o w1 A) args s 0 0 A
/-- a method's contract -/
def xb_M (cc : ByteArray) (ws : List Cond) (own : String) (rm : Room) (ret : Option FieldType) (nL : Nat) (tys : List (ClassId × FieldType)) (D : va_G) (As : List Value) (w : va_W) (o : Option Value) (w1 : va_W) : Prop :=
  ∀ X : xb_C, xb_OK X cc ws own rm ret nL tys D → xb_Fin X D o w1 → xb_G X 0 0 w (lv_args 0 As) 0 []
theorem xb_met {y : MethodName} {cc : ByteArray} {ws ws' : List Cond} {rm : Room} {ret : Option FieldType} {nL : Nat} {tys : List (ClassId × FieldType)} {D : va_G} {As : List Value} {w : va_W} {o : Option Value} {w1 : va_W}
    (M : xb_M cc ws y.cls rm ret nL tys D As w o w1) (hy : plainName y.cls = true) (hw : ws = Cond.code y cc nL ret :: ws') (hlen : (lg_sl As).length ≤ nL) (l : Launch) (sz : Nat) : Met l y ws rm (va_Pc As (xb_W D tys w sz)) (xb_Q D o w1 (va_A w sz)) 0 0 (va_A w sz) := by
  refine Met.ofW (cc := cc) (maxL := nL) (ret := ret) hy hw ?_
  intro p e s m args below meth c s₁ B hml hv
  obtain ⟨rfl, hsz, hP, hK, hD0, hE⟩ := hv
  subst hsz
  rw [lg_entry_eq]
  exact M (p, l, e, (headSpec ws rm).room, s, m, As.toArray, below, meth, c, va_A w s.heap.size, MQ below (xb_Q D o w1 (va_A w s.heap.size)) As.toArray s 0 0 (va_A w s.heap.size), nL, D)
    ⟨B.exec, B.bytes, B.returns, hml, findClass_of_methodNamed B.named, atoms_spec (ws := ws) B.pre, B.notSynchronized, hK, hE, fun q h => Or.inr h, rfl, rfl, rfl⟩ rfl
    s.heap [] _ hP hD0.self va_S.rf (lv_entry As hlen)
/-! a world with some of its cells changed -/
def xb_mix : va_W → List Nat → va_W → va_W
  | ws, i :: is, q :: qs => xb_mix (ws.set i q) is qs
  | ws, _, _ => ws
theorem xb_mix_get : ∀ (is : List Nat) (w1 : va_W) (ws : va_W), va_nd is = true → is.length = w1.length → (∀ i ∈ is, i < ws.length) → ∀ k : Nat, (k ∉ is ∧ (xb_mix ws is w1)[k]? = ws[k]?) ∨ ∃ j : Nat, is[j]? = some k ∧ (xb_mix ws is w1)[k]? = w1[j]?
  | [], w1, ws, _, _, _, k => Or.inl ⟨List.not_mem_nil, by cases w1 <;> rfl⟩
  | i :: is, [], ws, _, hl, _, k => by simp at hl
  | i :: is, q :: qs, ws, hn, hl, hb, k => by
    simp only [va_nd, Bool.and_eq_true, decide_eq_true_eq] at hn
    have hl' : is.length = qs.length := by simpa using hl
    have hb' : ∀ j ∈ is, j < (ws.set i q).length := fun j hj => by rw [List.length_set]; exact hb j (List.mem_cons_of_mem _ hj)
    rcases xb_mix_get is qs (ws.set i q) hn.2 hl' hb' k with ⟨h1, h2⟩ | ⟨j, h1, h2⟩
    · by_cases hk : k = i
      · subst hk
        refine Or.inr ⟨0, rfl, ?_⟩
        show (xb_mix (ws.set k q) is qs)[k]? = some q
        rw [h2, List.getElem?_set_self (hb k List.mem_cons_self)]
      · refine Or.inl ⟨fun h => (List.mem_cons.mp h).elim hk h1, ?_⟩
        show (xb_mix (ws.set i q) is qs)[k]? = _
        rw [h2, List.getElem?_set_ne (Ne.symm hk)]
    · exact Or.inr ⟨j + 1, h1, h2⟩
theorem xb_fm {ws : va_W} : ∀ {isC : List Nat} {wc : va_W}, isC.map (fun i => ws[i]?) = wc.map some → isC.filterMap (fun i => ws[i]?) = wc
  | [], [], _ => rfl
  | [], _ :: _, h => by simp at h
  | _ :: _, [], h => by simp at h
  | i :: is, q :: qs, h => by
    simp only [List.map_cons, List.cons.injEq] at h
    rw [List.filterMap_cons, h.1, xb_fm h.2]
theorem xb_D_addr {A : Nat → Prop} {ws ws' : va_W} (h : ∀ (k : Nat) (q : Nat × va_E), ws'[k]? = some q → ∃ q0 : Nat × va_E, ws[k]? = some q0 ∧ q0.1 = q.1) (hD : va_D A ws) : va_D A ws' := by
  refine ⟨fun i j x y hi hj hxy => ?_, fun k q hk => ?_⟩
  · obtain ⟨x0, h1, h2⟩ := h i x hi
    obtain ⟨y0, h3, h4⟩ := h j y hj
    exact hD.1 i j x0 y0 h1 h3 (h2.trans (hxy.trans h4.symm))
  · obtain ⟨q0, h1, h2⟩ := h k q hk
    rw [← h2]
    exact hD.2 k q0 h1
theorem xb_mix_ok {A0 : Nat → Prop} {D : va_G} {ws wc w1 : va_W} {H H1 : Heap} (hP : va_P D vwCl ws H) (hD : va_D A0 ws) (isC : List Nat) (hC : isC.map (fun i => ws[i]?) = wc.map some) (hn : va_nd isC = true) (hw : w1.map Prod.fst = wc.map Prod.fst)
    (hk : ∀ q : Nat, q < H.size → ¬ va_A wc H.size q → H1[q]? = H[q]?) (hP1 : va_P D vwCl w1 H1) : va_P D vwCl (xb_mix ws isC w1) H1 ∧ va_D A0 (xb_mix ws isC w1) := by
  have hlen : isC.length = wc.length := by have := congrArg List.length hC; simpa using this
  have hlen1 : isC.length = w1.length := by have := congrArg List.length hw; simp at this; omega
  have at' : ∀ (k : Nat) (q : Nat × va_E), wc[k]? = some q → ∃ i, isC[k]? = some i ∧ ws[i]? = some q := by
    intro k q hq
    have h1 : (isC.map (fun i => ws[i]?))[k]? = some (some q) := by rw [hC, List.getElem?_map, hq]; rfl
    rw [List.getElem?_map] at h1
    cases hi : isC[k]? with
    | none => rw [hi] at h1; cases h1
    | some i => rw [hi] at h1; exact ⟨i, rfl, Option.some.inj h1⟩
  have at2 : ∀ (k i : Nat), isC[k]? = some i → ∃ q, wc[k]? = some q ∧ ws[i]? = some q := by
    intro k i hi
    have h1 : (wc.map some)[k]? = some (ws[i]?) := by rw [← hC, List.getElem?_map, hi]; rfl
    rw [List.getElem?_map] at h1
    cases hq : wc[k]? with
    | none => rw [hq] at h1; cases h1
    | some q => rw [hq] at h1; exact ⟨q, rfl, (Option.some.inj h1).symm⟩
  have hb : ∀ i ∈ isC, i < ws.length := by
    intro i hi
    obtain ⟨k, hk⟩ := List.getElem?_of_mem hi
    obtain ⟨q, -, h⟩ := at2 k i hk
    exact (List.getElem?_eq_some_iff.mp h).1
  have addr : ∀ (k : Nat) (q : Nat × va_E), (xb_mix ws isC w1)[k]? = some q → ∃ q0 : Nat × va_E, ws[k]? = some q0 ∧ q0.1 = q.1 := by
    intro k q hq
    rcases xb_mix_get isC w1 ws hn hlen1 hb k with ⟨h1, h2⟩ | ⟨j, h1, h2⟩
    · exact ⟨q, by rw [← h2]; exact hq, rfl⟩
    · rw [h2] at hq
      obtain ⟨q0, h3, h4⟩ := at2 j k h1
      refine ⟨q0, h4, ?_⟩
      have e1 : (w1.map Prod.fst)[j]? = some q.1 := by rw [List.getElem?_map, hq]; rfl
      rw [hw, List.getElem?_map, h3] at e1
      exact Option.some.inj e1
  refine ⟨fun k q hq => ?_, xb_D_addr addr hD⟩
  rcases xb_mix_get isC w1 ws hn hlen1 hb k with ⟨h1, h2⟩ | ⟨j, h1, h2⟩
  · rw [h2] at hq
    refine (hP k q hq).kept (hk q.1 ((hP k q hq).lt) (fun h => ?_))
    rcases h with ⟨k2, e, h⟩ | h
    · obtain ⟨i, h3, h4⟩ := at' k2 (q.1, e) h
      have hij := hD.1 k i q (q.1, e) hq h4 rfl
      subst hij
      exact h1 (List.mem_of_getElem? h3)
    · have := (hP k q hq).lt
      omega
  · rw [h2] at hq
    exact hP1 j q hq
/-! one rule an instruction, over xb_G -/
section XR
variable {X : xb_C} {k n : Nat} {w : va_W} {lv : List (Nat × Value)} {pc : Nat} {st : List Value} {cc : ByteArray} {ws : List Cond} {own : String} {rm : Room} {ret : Option FieldType} {nL : Nat} {tys : List (ClassId × FieldType)} {D : va_G}
theorem xi_iconst (C : xb_OK X cc ws own rm ret nL tys D) {a : Int} {v : Int32} (hd : decode cc pc = .ok (.iconst a, 1)) (hv : Int32.ofInt a = v) (g : xb_G X k n w lv (pc + 1) (.int v :: st)) : xb_G X k n w lv pc (st) := by
  obtain ⟨p, l, e, R, s, m, args, below, meth, c, A, Q, nL', D'⟩ := X
  obtain ⟨hx, hb, hr, hml, hown, hts, hlk, hK, hE, hA, rfl, rfl, rfl⟩ := C
  intro H locs ls hP hD hS hl
  exact lv_iconst hx hb hd hv (g H locs ls hP hD hS hl)
theorem xi_bipush (C : xb_OK X cc ws own rm ret nL tys D) {a : Int} {v : Int32} (hd : decode cc pc = .ok (.bipush a, 2)) (hv : (Int8.ofInt a).toInt32 = v) (g : xb_G X k n w lv (pc + 2) (.int v :: st)) : xb_G X k n w lv pc (st) := by
  obtain ⟨p, l, e, R, s, m, args, below, meth, c, A, Q, nL', D'⟩ := X
  obtain ⟨hx, hb, hr, hml, hown, hts, hlk, hK, hE, hA, rfl, rfl, rfl⟩ := C
  intro H locs ls hP hD hS hl
  exact lv_bipush hx hb hd hv (g H locs ls hP hD hS hl)
theorem xi_sipush (C : xb_OK X cc ws own rm ret nL tys D) {a : Int} {v : Int32} (hd : decode cc pc = .ok (.sipush a, 3)) (hv : (Int16.ofInt a).toInt32 = v) (g : xb_G X k n w lv (pc + 3) (.int v :: st)) : xb_G X k n w lv pc (st) := by
  obtain ⟨p, l, e, R, s, m, args, below, meth, c, A, Q, nL', D'⟩ := X
  obtain ⟨hx, hb, hr, hml, hown, hts, hlk, hK, hE, hA, rfl, rfl, rfl⟩ := C
  intro H locs ls hP hD hS hl
  exact lv_sipush hx hb hd hv (g H locs ls hP hD hS hl)
theorem xi_ldc (C : xb_OK X cc ws own rm ret nL tys D) {index : Nat} {v : Int32} (hd : decode cc pc = .ok (.ldc index, 2)) (hw : Cond.constant own index v ∈ ws) (g : xb_G X k n w lv (pc + 2) (.int v :: st)) : xb_G X k n w lv pc (st) := by
  obtain ⟨p, l, e, R, s, m, args, below, meth, c, A, Q, nL', D'⟩ := X
  obtain ⟨hx, hb, hr, hml, hown, hts, hlk, hK, hE, hA, rfl, rfl, rfl⟩ := C
  intro H locs ls hP hD hS hl
  exact lv_ldc hx hb hown (hts _ hw) hd (g H locs ls hP hD hS hl)
theorem xi_iload_n (C : xb_OK X cc ws own rm ret nL tys D) {kk : Fin 4} {i : Nat} {x : Int32} (hd : decode cc pc = .ok (.iload_n kk, 1)) (hi : (kk : Nat) = i) (j : Nat) (hj : lv[j]? = some (i, .int x)) (g : xb_G X k n w lv (pc + 1) (.int x :: st)) : xb_G X k n w lv pc (st) := by
  obtain ⟨p, l, e, R, s, m, args, below, meth, c, A, Q, nL', D'⟩ := X
  obtain ⟨hx, hb, hr, hml, hown, hts, hlk, hK, hE, hA, rfl, rfl, rfl⟩ := C
  intro H locs ls hP hD hS hl
  exact lv_iload_n hx hb hd hi (lv_at hl j hj) (g H locs ls hP hD hS hl)
theorem xi_iload (C : xb_OK X cc ws own rm ret nL tys D) {i : Nat} {x : Int32} (hd : decode cc pc = .ok (.iload i, 2)) (j : Nat) (hj : lv[j]? = some (i, .int x)) (g : xb_G X k n w lv (pc + 2) (.int x :: st)) : xb_G X k n w lv pc (st) := by
  obtain ⟨p, l, e, R, s, m, args, below, meth, c, A, Q, nL', D'⟩ := X
  obtain ⟨hx, hb, hr, hml, hown, hts, hlk, hK, hE, hA, rfl, rfl, rfl⟩ := C
  intro H locs ls hP hD hS hl
  exact lv_iload hx hb hd (lv_at hl j hj) (g H locs ls hP hD hS hl)
theorem xi_aload_n (C : xb_OK X cc ws own rm ret nL tys D) {kk : Fin 4} {i : Nat} {x : Nat} (hd : decode cc pc = .ok (.aload_n kk, 1)) (hi : (kk : Nat) = i) (j : Nat) (hj : lv[j]? = some (i, .ref x)) (g : xb_G X k n w lv (pc + 1) (.ref x :: st)) : xb_G X k n w lv pc (st) := by
  obtain ⟨p, l, e, R, s, m, args, below, meth, c, A, Q, nL', D'⟩ := X
  obtain ⟨hx, hb, hr, hml, hown, hts, hlk, hK, hE, hA, rfl, rfl, rfl⟩ := C
  intro H locs ls hP hD hS hl
  exact lv_aload_n hx hb hd hi (lv_at hl j hj) (g H locs ls hP hD hS hl)
/-- the locals behind a store: the new one stands among them, the others stood before -/
def xb_sto (lv : List (Nat × Value)) (i : Nat) (v : Value) (js : List Nat) : List (Nat × Value) := (i, v) :: js.filterMap (fun j => (lv[j]?).bind fun q => if q.1 == i || q.2.category == 2 then none else some q)
theorem xb_sto_has {ls : Array Slot} {nL : Nat} {lv lv2 : List (Nat × Value)} {i : Nat} {v : Value} (js : List Nat) (h : lv_has ls nL ((i, v) :: lv.filter (fun q => !(q.1 == i) && !(q.1 + 1 == i && q.2.category == 2)))) (ks : List Nat) (hl : lv_pick (xb_sto lv i v js) ks = lv2) : lv_has ls nL lv2 := by
  refine lv_sub (l := xb_sto lv i v js) ⟨h.1, h.2.1, fun q hq => ?_⟩ ks hl
  rcases List.mem_cons.mp hq with rfl | hq
  · exact h.2.2 _ List.mem_cons_self
  · obtain ⟨j, -, hj⟩ := List.mem_filterMap.mp hq
    cases hz : lv[j]? with
    | none => rw [hz] at hj; cases hj
    | some q0 =>
      rw [hz] at hj
      simp only [Option.bind_some] at hj
      split at hj
      · cases hj
      · next hne =>
        cases hj
        simp only [Bool.or_eq_true, not_or, Bool.not_eq_true] at hne
        refine h.2.2 _ (List.mem_cons_of_mem _ (List.mem_filter.mpr ⟨List.mem_of_getElem? hz, ?_⟩))
        rw [hne.1, hne.2]
        simp
theorem xi_istore_n (C : xb_OK X cc ws own rm ret nL tys D) {kk : Fin 4} {i : Nat} {x : Int32} {lv2 : List (Nat × Value)} (hd : decode cc pc = .ok (.istore_n kk, 1)) (hi : (kk : Nat) = i) (hn : i < nL) (js ks : List Nat) (hq : lv_pick (xb_sto lv i (.int x) js) ks = lv2) (g : xb_G X k n w lv2 (pc + 1) st) : xb_G X k n w lv pc (.int x :: st) := by
  obtain ⟨p, l, e, R, s, m, args, below, meth, c, A, Q, nL', D'⟩ := X
  obtain ⟨hx, hb, hr, hml, hown, hts, hlk, hK, hE, hA, rfl, rfl, rfl⟩ := C
  intro H locs ls hP hD hS hl
  exact lv_istore_n hx hb hd hi hl hn rfl (fun ls' h' => g H locs ls' hP hD hS (xb_sto_has js h' ks hq))
theorem xi_istore (C : xb_OK X cc ws own rm ret nL tys D) {i : Nat} {x : Int32} {lv2 : List (Nat × Value)} (hd : decode cc pc = .ok (.istore i, 2)) (hn : i < nL) (js ks : List Nat) (hq : lv_pick (xb_sto lv i (.int x) js) ks = lv2) (g : xb_G X k n w lv2 (pc + 2) st) : xb_G X k n w lv pc (.int x :: st) := by
  obtain ⟨p, l, e, R, s, m, args, below, meth, c, A, Q, nL', D'⟩ := X
  obtain ⟨hx, hb, hr, hml, hown, hts, hlk, hK, hE, hA, rfl, rfl, rfl⟩ := C
  intro H locs ls hP hD hS hl
  exact lv_istore hx hb hd hl hn rfl (fun ls' h' => g H locs ls' hP hD hS (xb_sto_has js h' ks hq))
theorem xi_astore_n (C : xb_OK X cc ws own rm ret nL tys D) {kk : Fin 4} {i : Nat} {x : Nat} {lv2 : List (Nat × Value)} (hd : decode cc pc = .ok (.astore_n kk, 1)) (hi : (kk : Nat) = i) (hn : i < nL) (js ks : List Nat) (hq : lv_pick (xb_sto lv i (.ref x) js) ks = lv2) (g : xb_G X k n w lv2 (pc + 1) st) : xb_G X k n w lv pc (.ref x :: st) := by
  obtain ⟨p, l, e, R, s, m, args, below, meth, c, A, Q, nL', D'⟩ := X
  obtain ⟨hx, hb, hr, hml, hown, hts, hlk, hK, hE, hA, rfl, rfl, rfl⟩ := C
  intro H locs ls hP hD hS hl
  exact lv_astore_n hx hb hd hi hl hn rfl (fun ls' h' => g H locs ls' hP hD hS (xb_sto_has js h' ks hq))
theorem xi_astore (C : xb_OK X cc ws own rm ret nL tys D) {i : Nat} {x : Nat} {lv2 : List (Nat × Value)} (hd : decode cc pc = .ok (.astore i, 2)) (hn : i < nL) (js ks : List Nat) (hq : lv_pick (xb_sto lv i (.ref x) js) ks = lv2) (g : xb_G X k n w lv2 (pc + 2) st) : xb_G X k n w lv pc (.ref x :: st) := by
  obtain ⟨p, l, e, R, s, m, args, below, meth, c, A, Q, nL', D'⟩ := X
  obtain ⟨hx, hb, hr, hml, hown, hts, hlk, hK, hE, hA, rfl, rfl, rfl⟩ := C
  intro H locs ls hP hD hS hl
  exact lv_astore hx hb hd hl hn rfl (fun ls' h' => g H locs ls' hP hD hS (xb_sto_has js h' ks hq))
theorem xi_iinc (C : xb_OK X cc ws own rm ret nL tys D) {i : Nat} {a : Int} {x v : Int32} {lv2 : List (Nat × Value)} (hd : decode cc pc = .ok (.iinc i a, 3)) (j : Nat) (hj : lv[j]? = some (i, .int x)) (hv : x + Int32.ofInt a = v) (hn : i < nL) (js ks : List Nat) (hq : lv_pick (xb_sto lv i (.int v) js) ks = lv2) (g : xb_G X k n w lv2 (pc + 3) st) : xb_G X k n w lv pc st := by
  obtain ⟨p, l, e, R, s, m, args, below, meth, c, A, Q, nL', D'⟩ := X
  obtain ⟨hx, hb, hr, hml, hown, hts, hlk, hK, hE, hA, rfl, rfl, rfl⟩ := C
  intro H locs ls hP hD hS hl
  exact lv_iinc hx hb hd hl hj hv hn rfl (fun ls' h' => g H locs ls' hP hD hS (xb_sto_has js h' ks hq))
theorem xi_iadd (C : xb_OK X cc ws own rm ret nL tys D) {x y : Int32} (hd : decode cc pc = .ok (.iadd, 1)) (g : xb_G X k n w lv (pc + 1) (.int (x + y) :: st)) : xb_G X k n w lv pc (.int y :: .int x :: st) := by
  obtain ⟨p, l, e, R, s, m, args, below, meth, c, A, Q, nL', D'⟩ := X
  obtain ⟨hx, hb, hr, hml, hown, hts, hlk, hK, hE, hA, rfl, rfl, rfl⟩ := C
  intro H locs ls hP hD hS hl
  exact lv_iadd hx hb hd (g H locs ls hP hD hS hl)
theorem xi_isub (C : xb_OK X cc ws own rm ret nL tys D) {x y : Int32} (hd : decode cc pc = .ok (.isub, 1)) (g : xb_G X k n w lv (pc + 1) (.int (x - y) :: st)) : xb_G X k n w lv pc (.int y :: .int x :: st) := by
  obtain ⟨p, l, e, R, s, m, args, below, meth, c, A, Q, nL', D'⟩ := X
  obtain ⟨hx, hb, hr, hml, hown, hts, hlk, hK, hE, hA, rfl, rfl, rfl⟩ := C
  intro H locs ls hP hD hS hl
  exact lv_isub hx hb hd (g H locs ls hP hD hS hl)
theorem xi_imul (C : xb_OK X cc ws own rm ret nL tys D) {x y : Int32} (hd : decode cc pc = .ok (.imul, 1)) (g : xb_G X k n w lv (pc + 1) (.int (x * y) :: st)) : xb_G X k n w lv pc (.int y :: .int x :: st) := by
  obtain ⟨p, l, e, R, s, m, args, below, meth, c, A, Q, nL', D'⟩ := X
  obtain ⟨hx, hb, hr, hml, hown, hts, hlk, hK, hE, hA, rfl, rfl, rfl⟩ := C
  intro H locs ls hP hD hS hl
  exact lv_imul hx hb hd (g H locs ls hP hD hS hl)
theorem xi_iand (C : xb_OK X cc ws own rm ret nL tys D) {x y : Int32} (hd : decode cc pc = .ok (.iand, 1)) (g : xb_G X k n w lv (pc + 1) (.int (x &&& y) :: st)) : xb_G X k n w lv pc (.int y :: .int x :: st) := by
  obtain ⟨p, l, e, R, s, m, args, below, meth, c, A, Q, nL', D'⟩ := X
  obtain ⟨hx, hb, hr, hml, hown, hts, hlk, hK, hE, hA, rfl, rfl, rfl⟩ := C
  intro H locs ls hP hD hS hl
  exact lv_iand hx hb hd (g H locs ls hP hD hS hl)
theorem xi_ior (C : xb_OK X cc ws own rm ret nL tys D) {x y : Int32} (hd : decode cc pc = .ok (.ior, 1)) (g : xb_G X k n w lv (pc + 1) (.int (x ||| y) :: st)) : xb_G X k n w lv pc (.int y :: .int x :: st) := by
  obtain ⟨p, l, e, R, s, m, args, below, meth, c, A, Q, nL', D'⟩ := X
  obtain ⟨hx, hb, hr, hml, hown, hts, hlk, hK, hE, hA, rfl, rfl, rfl⟩ := C
  intro H locs ls hP hD hS hl
  exact lv_ior hx hb hd (g H locs ls hP hD hS hl)
theorem xi_ishl (C : xb_OK X cc ws own rm ret nL tys D) {x y : Int32} (hd : decode cc pc = .ok (.ishl, 1)) (g : xb_G X k n w lv (pc + 1) (.int (x <<< (y &&& 31)) :: st)) : xb_G X k n w lv pc (.int y :: .int x :: st) := by
  obtain ⟨p, l, e, R, s, m, args, below, meth, c, A, Q, nL', D'⟩ := X
  obtain ⟨hx, hb, hr, hml, hown, hts, hlk, hK, hE, hA, rfl, rfl, rfl⟩ := C
  intro H locs ls hP hD hS hl
  exact lv_ishl hx hb hd (g H locs ls hP hD hS hl)
theorem xi_ishr (C : xb_OK X cc ws own rm ret nL tys D) {x y : Int32} (hd : decode cc pc = .ok (.ishr, 1)) (g : xb_G X k n w lv (pc + 1) (.int (x >>> (y &&& 31)) :: st)) : xb_G X k n w lv pc (.int y :: .int x :: st) := by
  obtain ⟨p, l, e, R, s, m, args, below, meth, c, A, Q, nL', D'⟩ := X
  obtain ⟨hx, hb, hr, hml, hown, hts, hlk, hK, hE, hA, rfl, rfl, rfl⟩ := C
  intro H locs ls hP hD hS hl
  exact lv_ishr hx hb hd (g H locs ls hP hD hS hl)
theorem xi_idiv (C : xb_OK X cc ws own rm ret nL tys D) {x y : Int32} (hd : decode cc pc = .ok (.idiv, 1)) (hne : ¬ y = 0) (g : xb_G X k n w lv (pc + 1) (.int (x / y) :: st)) : xb_G X k n w lv pc (.int y :: .int x :: st) := by
  obtain ⟨p, l, e, R, s, m, args, below, meth, c, A, Q, nL', D'⟩ := X
  obtain ⟨hx, hb, hr, hml, hown, hts, hlk, hK, hE, hA, rfl, rfl, rfl⟩ := C
  intro H locs ls hP hD hS hl
  exact lv_idiv hx hb hd hne (g H locs ls hP hD hS hl)
theorem xi_irem (C : xb_OK X cc ws own rm ret nL tys D) {x y : Int32} (hd : decode cc pc = .ok (.irem, 1)) (hne : ¬ y = 0) (g : xb_G X k n w lv (pc + 1) (.int (x - x / y * y) :: st)) : xb_G X k n w lv pc (.int y :: .int x :: st) := by
  obtain ⟨p, l, e, R, s, m, args, below, meth, c, A, Q, nL', D'⟩ := X
  obtain ⟨hx, hb, hr, hml, hown, hts, hlk, hK, hE, hA, rfl, rfl, rfl⟩ := C
  intro H locs ls hP hD hS hl
  exact lv_irem hx hb hd hne (g H locs ls hP hD hS hl)
theorem xi_ineg (C : xb_OK X cc ws own rm ret nL tys D) {x : Int32} (hd : decode cc pc = .ok (.ineg, 1)) (g : xb_G X k n w lv (pc + 1) (.int (-x) :: st)) : xb_G X k n w lv pc (.int x :: st) := by
  obtain ⟨p, l, e, R, s, m, args, below, meth, c, A, Q, nL', D'⟩ := X
  obtain ⟨hx, hb, hr, hml, hown, hts, hlk, hK, hE, hA, rfl, rfl, rfl⟩ := C
  intro H locs ls hP hD hS hl
  exact lv_ineg hx hb hd (g H locs ls hP hD hS hl)
theorem xi_i2c (C : xb_OK X cc ws own rm ret nL tys D) {x : Int32} (hd : decode cc pc = .ok (.i2c, 1)) (g : xb_G X k n w lv (pc + 1) (.int ((x.toUInt32 % 65536).toInt32) :: st)) : xb_G X k n w lv pc (.int x :: st) := by
  obtain ⟨p, l, e, R, s, m, args, below, meth, c, A, Q, nL', D'⟩ := X
  obtain ⟨hx, hb, hr, hml, hown, hts, hlk, hK, hE, hA, rfl, rfl, rfl⟩ := C
  intro H locs ls hP hD hS hl
  exact lv_i2c hx hb hd rfl (g H locs ls hP hD hS hl)
theorem xi_dup (C : xb_OK X cc ws own rm ret nL tys D) {a : Value} (hd : decode cc pc = .ok (.dup, 1)) (ha : a.category = 1) (g : xb_G X k n w lv (pc + 1) (a :: a :: st)) : xb_G X k n w lv pc (a :: st) := by
  obtain ⟨p, l, e, R, s, m, args, below, meth, c, A, Q, nL', D'⟩ := X
  obtain ⟨hx, hb, hr, hml, hown, hts, hlk, hK, hE, hA, rfl, rfl, rfl⟩ := C
  intro H locs ls hP hD hS hl
  exact lv_dup hx hb hd ha (g H locs ls hP hD hS hl)
theorem xi_dup2 (C : xb_OK X cc ws own rm ret nL tys D) {a b : Value} (hd : decode cc pc = .ok (.dup2, 1)) (ha : a.category = 1) (hb2 : b.category = 1) (g : xb_G X k n w lv (pc + 1) (a :: b :: a :: b :: st)) : xb_G X k n w lv pc (a :: b :: st) := by
  obtain ⟨p, l, e, R, s, m, args, below, meth, c, A, Q, nL', D'⟩ := X
  obtain ⟨hx, hb, hr, hml, hown, hts, hlk, hK, hE, hA, rfl, rfl, rfl⟩ := C
  intro H locs ls hP hD hS hl
  exact lv_dup2_11 hx hb hd ha hb2 (g H locs ls hP hD hS hl)
theorem xi_goto (C : xb_OK X cc ws own rm ret nL tys D) {off : Int} {tgt : Nat} (hd : decode cc pc = .ok (.goto off, 3)) (ht : (pc : Int) + off = (tgt : Int)) (g : xb_G X k n w lv tgt st) : xb_G X k n w lv pc st := by
  obtain ⟨p, l, e, R, s, m, args, below, meth, c, A, Q, nL', D'⟩ := X
  obtain ⟨hx, hb, hr, hml, hown, hts, hlk, hK, hE, hA, rfl, rfl, rfl⟩ := C
  intro H locs ls hP hD hS hl
  exact lv_goto hx hb hd ht (g H locs ls hP hD hS hl)
theorem xi_if_eq (C : xb_OK X cc ws own rm ret nL tys D) {x : Int32} {off : Int} {tgt : Nat} (hd : decode cc pc = .ok (.ifCond .eq off, 3)) (ht : (pc : Int) + off = (tgt : Int)) (g1 : x = 0 → xb_G X k n w lv tgt st) (g2 : ¬ x = 0 → xb_G X k n w lv (pc + 3) st) : xb_G X k n w lv pc (.int x :: st) := by
  obtain ⟨p, l, e, R, s, m, args, below, meth, c, A, Q, nL', D'⟩ := X
  obtain ⟨hx, hb, hr, hml, hown, hts, hlk, hK, hE, hA, rfl, rfl, rfl⟩ := C
  intro H locs ls hP hD hS hl
  exact lv_if_eq hx hb hd ht (fun z => g1 z H locs ls hP hD hS hl) (fun z => g2 z H locs ls hP hD hS hl)
theorem xi_if_ne (C : xb_OK X cc ws own rm ret nL tys D) {x : Int32} {off : Int} {tgt : Nat} (hd : decode cc pc = .ok (.ifCond .ne off, 3)) (ht : (pc : Int) + off = (tgt : Int)) (g1 : ¬ x = 0 → xb_G X k n w lv tgt st) (g2 : x = 0 → xb_G X k n w lv (pc + 3) st) : xb_G X k n w lv pc (.int x :: st) := by
  obtain ⟨p, l, e, R, s, m, args, below, meth, c, A, Q, nL', D'⟩ := X
  obtain ⟨hx, hb, hr, hml, hown, hts, hlk, hK, hE, hA, rfl, rfl, rfl⟩ := C
  intro H locs ls hP hD hS hl
  exact lv_if_ne hx hb hd ht (fun z => g1 z H locs ls hP hD hS hl) (fun z => g2 z H locs ls hP hD hS hl)
theorem xi_if_lt (C : xb_OK X cc ws own rm ret nL tys D) {x : Int32} {off : Int} {tgt : Nat} (hd : decode cc pc = .ok (.ifCond .lt off, 3)) (ht : (pc : Int) + off = (tgt : Int)) (g1 : x < 0 → xb_G X k n w lv tgt st) (g2 : ¬ x < 0 → xb_G X k n w lv (pc + 3) st) : xb_G X k n w lv pc (.int x :: st) := by
  obtain ⟨p, l, e, R, s, m, args, below, meth, c, A, Q, nL', D'⟩ := X
  obtain ⟨hx, hb, hr, hml, hown, hts, hlk, hK, hE, hA, rfl, rfl, rfl⟩ := C
  intro H locs ls hP hD hS hl
  exact lv_if_lt hx hb hd ht (fun z => g1 z H locs ls hP hD hS hl) (fun z => g2 z H locs ls hP hD hS hl)
theorem xi_if_ge (C : xb_OK X cc ws own rm ret nL tys D) {x : Int32} {off : Int} {tgt : Nat} (hd : decode cc pc = .ok (.ifCond .ge off, 3)) (ht : (pc : Int) + off = (tgt : Int)) (g1 : 0 ≤ x → xb_G X k n w lv tgt st) (g2 : ¬ 0 ≤ x → xb_G X k n w lv (pc + 3) st) : xb_G X k n w lv pc (.int x :: st) := by
  obtain ⟨p, l, e, R, s, m, args, below, meth, c, A, Q, nL', D'⟩ := X
  obtain ⟨hx, hb, hr, hml, hown, hts, hlk, hK, hE, hA, rfl, rfl, rfl⟩ := C
  intro H locs ls hP hD hS hl
  exact lv_if_ge hx hb hd ht (fun z => g1 z H locs ls hP hD hS hl) (fun z => g2 z H locs ls hP hD hS hl)
theorem xi_if_gt (C : xb_OK X cc ws own rm ret nL tys D) {x : Int32} {off : Int} {tgt : Nat} (hd : decode cc pc = .ok (.ifCond .gt off, 3)) (ht : (pc : Int) + off = (tgt : Int)) (g1 : 0 < x → xb_G X k n w lv tgt st) (g2 : ¬ 0 < x → xb_G X k n w lv (pc + 3) st) : xb_G X k n w lv pc (.int x :: st) := by
  obtain ⟨p, l, e, R, s, m, args, below, meth, c, A, Q, nL', D'⟩ := X
  obtain ⟨hx, hb, hr, hml, hown, hts, hlk, hK, hE, hA, rfl, rfl, rfl⟩ := C
  intro H locs ls hP hD hS hl
  exact lv_if_gt hx hb hd ht (fun z => g1 z H locs ls hP hD hS hl) (fun z => g2 z H locs ls hP hD hS hl)
theorem xi_if_le (C : xb_OK X cc ws own rm ret nL tys D) {x : Int32} {off : Int} {tgt : Nat} (hd : decode cc pc = .ok (.ifCond .le off, 3)) (ht : (pc : Int) + off = (tgt : Int)) (g1 : x ≤ 0 → xb_G X k n w lv tgt st) (g2 : ¬ x ≤ 0 → xb_G X k n w lv (pc + 3) st) : xb_G X k n w lv pc (.int x :: st) := by
  obtain ⟨p, l, e, R, s, m, args, below, meth, c, A, Q, nL', D'⟩ := X
  obtain ⟨hx, hb, hr, hml, hown, hts, hlk, hK, hE, hA, rfl, rfl, rfl⟩ := C
  intro H locs ls hP hD hS hl
  exact lv_if_le hx hb hd ht (fun z => g1 z H locs ls hP hD hS hl) (fun z => g2 z H locs ls hP hD hS hl)
theorem xi_icmp_eq (C : xb_OK X cc ws own rm ret nL tys D) {x y : Int32} {off : Int} {tgt : Nat} (hd : decode cc pc = .ok (.if_icmp .eq off, 3)) (ht : (pc : Int) + off = (tgt : Int)) (g1 : x = y → xb_G X k n w lv tgt st) (g2 : ¬ x = y → xb_G X k n w lv (pc + 3) st) : xb_G X k n w lv pc (.int y :: .int x :: st) := by
  obtain ⟨p, l, e, R, s, m, args, below, meth, c, A, Q, nL', D'⟩ := X
  obtain ⟨hx, hb, hr, hml, hown, hts, hlk, hK, hE, hA, rfl, rfl, rfl⟩ := C
  intro H locs ls hP hD hS hl
  exact lv_icmp_eq hx hb hd ht (fun z => g1 z H locs ls hP hD hS hl) (fun z => g2 z H locs ls hP hD hS hl)
theorem xi_icmp_ne (C : xb_OK X cc ws own rm ret nL tys D) {x y : Int32} {off : Int} {tgt : Nat} (hd : decode cc pc = .ok (.if_icmp .ne off, 3)) (ht : (pc : Int) + off = (tgt : Int)) (g1 : ¬ x = y → xb_G X k n w lv tgt st) (g2 : x = y → xb_G X k n w lv (pc + 3) st) : xb_G X k n w lv pc (.int y :: .int x :: st) := by
  obtain ⟨p, l, e, R, s, m, args, below, meth, c, A, Q, nL', D'⟩ := X
  obtain ⟨hx, hb, hr, hml, hown, hts, hlk, hK, hE, hA, rfl, rfl, rfl⟩ := C
  intro H locs ls hP hD hS hl
  exact lv_icmp_ne hx hb hd ht (fun z => g1 z H locs ls hP hD hS hl) (fun z => g2 z H locs ls hP hD hS hl)
theorem xi_icmp_lt (C : xb_OK X cc ws own rm ret nL tys D) {x y : Int32} {off : Int} {tgt : Nat} (hd : decode cc pc = .ok (.if_icmp .lt off, 3)) (ht : (pc : Int) + off = (tgt : Int)) (g1 : x < y → xb_G X k n w lv tgt st) (g2 : ¬ x < y → xb_G X k n w lv (pc + 3) st) : xb_G X k n w lv pc (.int y :: .int x :: st) := by
  obtain ⟨p, l, e, R, s, m, args, below, meth, c, A, Q, nL', D'⟩ := X
  obtain ⟨hx, hb, hr, hml, hown, hts, hlk, hK, hE, hA, rfl, rfl, rfl⟩ := C
  intro H locs ls hP hD hS hl
  exact lv_icmp_lt hx hb hd ht (fun z => g1 z H locs ls hP hD hS hl) (fun z => g2 z H locs ls hP hD hS hl)
theorem xi_icmp_ge (C : xb_OK X cc ws own rm ret nL tys D) {x y : Int32} {off : Int} {tgt : Nat} (hd : decode cc pc = .ok (.if_icmp .ge off, 3)) (ht : (pc : Int) + off = (tgt : Int)) (g1 : y ≤ x → xb_G X k n w lv tgt st) (g2 : ¬ y ≤ x → xb_G X k n w lv (pc + 3) st) : xb_G X k n w lv pc (.int y :: .int x :: st) := by
  obtain ⟨p, l, e, R, s, m, args, below, meth, c, A, Q, nL', D'⟩ := X
  obtain ⟨hx, hb, hr, hml, hown, hts, hlk, hK, hE, hA, rfl, rfl, rfl⟩ := C
  intro H locs ls hP hD hS hl
  exact lv_icmp_ge hx hb hd ht (fun z => g1 z H locs ls hP hD hS hl) (fun z => g2 z H locs ls hP hD hS hl)
theorem xi_icmp_gt (C : xb_OK X cc ws own rm ret nL tys D) {x y : Int32} {off : Int} {tgt : Nat} (hd : decode cc pc = .ok (.if_icmp .gt off, 3)) (ht : (pc : Int) + off = (tgt : Int)) (g1 : y < x → xb_G X k n w lv tgt st) (g2 : ¬ y < x → xb_G X k n w lv (pc + 3) st) : xb_G X k n w lv pc (.int y :: .int x :: st) := by
  obtain ⟨p, l, e, R, s, m, args, below, meth, c, A, Q, nL', D'⟩ := X
  obtain ⟨hx, hb, hr, hml, hown, hts, hlk, hK, hE, hA, rfl, rfl, rfl⟩ := C
  intro H locs ls hP hD hS hl
  exact lv_icmp_gt hx hb hd ht (fun z => g1 z H locs ls hP hD hS hl) (fun z => g2 z H locs ls hP hD hS hl)
theorem xi_icmp_le (C : xb_OK X cc ws own rm ret nL tys D) {x y : Int32} {off : Int} {tgt : Nat} (hd : decode cc pc = .ok (.if_icmp .le off, 3)) (ht : (pc : Int) + off = (tgt : Int)) (g1 : x ≤ y → xb_G X k n w lv tgt st) (g2 : ¬ x ≤ y → xb_G X k n w lv (pc + 3) st) : xb_G X k n w lv pc (.int y :: .int x :: st) := by
  obtain ⟨p, l, e, R, s, m, args, below, meth, c, A, Q, nL', D'⟩ := X
  obtain ⟨hx, hb, hr, hml, hown, hts, hlk, hK, hE, hA, rfl, rfl, rfl⟩ := C
  intro H locs ls hP hD hS hl
  exact lv_icmp_le hx hb hd ht (fun z => g1 z H locs ls hP hD hS hl) (fun z => g2 z H locs ls hP hD hS hl)
theorem xi_tabIn (C : xb_OK X cc ws own rm ret nL tys D) {dflt lo hi : Int} {offs : Array Int} {len : Nat} {x : Int32} {off : Int} {tgt : Nat} (cst : Int32) (hxc : x = cst) (hd : decode cc pc = .ok (.tableswitch dflt lo hi offs, len)) (h1 : ¬ cst.toInt < lo) (h2 : ¬ hi < cst.toInt) (ho : offs[(cst.toInt - lo).toNat]? = some off) (ht : (pc : Int) + off = (tgt : Int)) (g : xb_G X k n w lv tgt st) : xb_G X k n w lv pc (.int x :: st) := by
  subst hxc
  obtain ⟨p, l, e, R, s, m, args, below, meth, c, A, Q, nL', D'⟩ := X
  obtain ⟨hx, hb, hr, hml, hown, hts, hlk, hK, hE, hA, rfl, rfl, rfl⟩ := C
  intro H locs ls hP hD hS hl
  exact lv_tableIn hx hb hd h1 h2 ho ht (g H locs ls hP hD hS hl)
theorem xi_tabOut (C : xb_OK X cc ws own rm ret nL tys D) {dflt lo hi : Int} {offs : Array Int} {len : Nat} {x : Int32} {tgt : Nat} (hd : decode cc pc = .ok (.tableswitch dflt lo hi offs, len)) (h : x.toInt < lo ∨ hi < x.toInt) (ht : (pc : Int) + dflt = (tgt : Int)) (g : xb_G X k n w lv tgt st) : xb_G X k n w lv pc (.int x :: st) := by
  obtain ⟨p, l, e, R, s, m, args, below, meth, c, A, Q, nL', D'⟩ := X
  obtain ⟨hx, hb, hr, hml, hown, hts, hlk, hK, hE, hA, rfl, rfl, rfl⟩ := C
  intro H locs ls hP hD hS hl
  exact lv_tableOut hx hb hd h ht (g H locs ls hP hD hS hl)
theorem xb_tab {x : Int32} {N : Nat} (hN : N < 2 ^ 31) (h : ∀ j, j < N → ¬ x = nI j) : x.toInt < 0 ∨ (N : Int) - 1 < x.toInt := by
  rcases Int.lt_or_le x.toInt 0 with h0 | h0
  · exact Or.inl h0
  · refine Or.inr ?_
    apply Int.lt_of_not_ge
    intro h1
    have hj : x.toInt.toNat < N := by omega
    refine h _ hj (Int32.toInt_inj.mp ?_)
    rw [nI_toInt (by omega)]
    omega
theorem xb_lv {lv' : List (Nat × Value)} (g : xb_G X k n w lv' pc st) (ks : List Nat) (h : lv_pick lv ks = lv') : xb_G X k n w lv pc st := by
  obtain ⟨p, l, e, R, s, m, args, below, meth, c, A, Q, nL', D'⟩ := X
  intro H locs ls hP hD hS hl
  exact g H locs ls hP hD hS (lv_sub hl ks h)
theorem xb_w {w' : va_W} (h : w = w') (g : xb_G X k n w' lv pc st) : xb_G X k n w lv pc st := h ▸ g
/-- a read of a row, in range -/
def xr_d (f : Nat → Int32) (N : Nat) (i : Int32) : Option Int32 := if 0 ≤ i.toInt ∧ i.toInt < (N : Int) then some (f i.toNatClampNeg) else none
/-- a write -/
def xr_w (f : Nat → Int32) (N : Nat) (i x : Int32) : Option (Nat → Int32) := if 0 ≤ i.toInt ∧ i.toInt < (N : Int) then some (upd f i.toNatClampNeg x) else none
/-- System.arraycopy of a whole row onto one as long: it is that row then -/
def xr_c (f : Nat → Int32) (N : Nat) (sp : Int32) (_g : Nat → Int32) (M : Nat) (dp z : Int32) : Option (Nat → Int32) := if sp = 0 ∧ dp = 0 ∧ z = nI N ∧ N = M ∧ N < 2 ^ 31 then some f else none
/-- a truth value that is handed on -/
def xr_z (x : Int32) : Option Int32 := if x = 0 ∨ x = 1 then some x else none
theorem xr_d_spec {f : Nat → Int32} {N : Nat} {i v : Int32} (h : xr_d f N i = some v) : vp_in i N ∧ f i.toNatClampNeg = v := by
  unfold xr_d at h
  split at h
  · next hc => cases h; exact ⟨vp_in_iff.mpr hc, rfl⟩
  · cases h
theorem xr_w_spec {f f' : Nat → Int32} {N : Nat} {i x : Int32} (h : xr_w f N i x = some f') : vp_in i N ∧ upd f i.toNatClampNeg x = f' := by
  unfold xr_w at h
  split at h
  · next hc => cases h; exact ⟨vp_in_iff.mpr hc, rfl⟩
  · cases h
theorem xr_z_spec {x v : Int32} (h : xr_z x = some v) : narrow .boolean (.int x) = .int x ∧ x = v := by
  unfold xr_z at h
  split at h
  · next hc => cases h; rcases hc with rfl | rfl <;> exact ⟨by decide +kernel, rfl⟩
  · cases h
theorem xi_iald (C : xb_OK X cc ws own rm ret nL tys D) {a N : Nat} {i v : Int32} {f : Nat → Int32} {cA : ClassId} (hd : decode cc pc = .ok (.iaload, 1)) (q0 t0 : Nat) (ha : w[q0]? = some (a, .inl (cA, N, .inl f))) (ht : tys[t0]? = some (cA, .int)) (hv : xr_d f N i = some v) (g : xb_G X k n w lv (pc + 1) (.int v :: st)) : xb_G X k n w lv pc (.int i :: .ref a :: st) := by
  obtain ⟨hin, rfl⟩ := xr_d_spec hv
  obtain ⟨p, l, e, R, s, m, args, below, meth, c, A, Q, nL', D'⟩ := X
  obtain ⟨hx, hb, hr, hml, hown, hts, hlk, hK, hE, hA, rfl, rfl, rfl⟩ := C
  intro H locs ls hP hD hS hl
  exact va_iald hx hb hK hP q0 t0 ha ht hin hd (g H locs ls hP hD hS hl)
theorem xi_cald (C : xb_OK X cc ws own rm ret nL tys D) {a N : Nat} {i v : Int32} {f : Nat → Int32} {cA : ClassId} (hd : decode cc pc = .ok (.caload, 1)) (q0 t0 : Nat) (ha : w[q0]? = some (a, .inl (cA, N, .inl f))) (ht : tys[t0]? = some (cA, .char)) (hv : xr_d f N i = some v) (g : xb_G X k n w lv (pc + 1) (.int v :: st)) : xb_G X k n w lv pc (.int i :: .ref a :: st) := by
  obtain ⟨hin, rfl⟩ := xr_d_spec hv
  obtain ⟨p, l, e, R, s, m, args, below, meth, c, A, Q, nL', D'⟩ := X
  obtain ⟨hx, hb, hr, hml, hown, hts, hlk, hK, hE, hA, rfl, rfl, rfl⟩ := C
  intro H locs ls hP hD hS hl
  exact va_cald hx hb hK hP q0 t0 ha ht hin hd (g H locs ls hP hD hS hl)
theorem xi_zald (C : xb_OK X cc ws own rm ret nL tys D) {a N : Nat} {i v : Int32} {f : Nat → Int32} {cA : ClassId} (hd : decode cc pc = .ok (.baload, 1)) (q0 t0 : Nat) (ha : w[q0]? = some (a, .inl (cA, N, .inl f))) (ht : tys[t0]? = some (cA, .boolean)) (hv : xr_d f N i = some v) (g : xb_G X k n w lv (pc + 1) (.int v :: st)) : xb_G X k n w lv pc (.int i :: .ref a :: st) := by
  obtain ⟨hin, rfl⟩ := xr_d_spec hv
  obtain ⟨p, l, e, R, s, m, args, below, meth, c, A, Q, nL', D'⟩ := X
  obtain ⟨hx, hb, hr, hml, hown, hts, hlk, hK, hE, hA, rfl, rfl, rfl⟩ := C
  intro H locs ls hP hD hS hl
  exact va_zald hx hb hK hP q0 t0 ha ht hin hd (g H locs ls hP hD hS hl)
theorem xi_iast (C : xb_OK X cc ws own rm ret nL tys D) {a N : Nat} {i x : Int32} {f f' : Nat → Int32} {cA : ClassId} {w2 : va_W} (hd : decode cc pc = .ok (.iastore, 1)) (q0 t0 : Nat) (ha : w[q0]? = some (a, .inl (cA, N, .inl f))) (ht : tys[t0]? = some (cA, .int)) (hv : xr_w f N i x = some f') (hw : w.set q0 (a, .inl (cA, N, .inl f')) = w2) (g : xb_G X k n w2 lv (pc + 1) st) : xb_G X k n w lv pc (.int x :: .int i :: .ref a :: st) := by
  subst hw
  obtain ⟨hin, rfl⟩ := xr_w_spec hv
  obtain ⟨p, l, e, R, s, m, args, below, meth, c, A, Q, nL', D'⟩ := X
  obtain ⟨hx, hb, hr, hml, hown, hts, hlk, hK, hE, hA, rfl, rfl, rfl⟩ := C
  intro H locs ls hP hD hS hl
  exact va_iast hx hb hK hP hD hS q0 t0 ha ht hin hd (fun H1 locs1 hP hD hS => g H1 locs1 ls hP hD hS hl)
theorem xi_cast (C : xb_OK X cc ws own rm ret nL tys D) {a N : Nat} {i x : Int32} {f f' : Nat → Int32} {cA : ClassId} {w2 : va_W} (hd : decode cc pc = .ok (.castore, 1)) (q0 t0 : Nat) (ha : w[q0]? = some (a, .inl (cA, N, .inl f))) (ht : tys[t0]? = some (cA, .char)) (hv : xr_w f N i (vp_nar .char x) = some f') (hw : w.set q0 (a, .inl (cA, N, .inl f')) = w2) (g : xb_G X k n w2 lv (pc + 1) st) : xb_G X k n w lv pc (.int x :: .int i :: .ref a :: st) := by
  subst hw
  obtain ⟨hin, rfl⟩ := xr_w_spec hv
  obtain ⟨p, l, e, R, s, m, args, below, meth, c, A, Q, nL', D'⟩ := X
  obtain ⟨hx, hb, hr, hml, hown, hts, hlk, hK, hE, hA, rfl, rfl, rfl⟩ := C
  intro H locs ls hP hD hS hl
  exact va_cast hx hb hK hP hD hS q0 t0 ha ht hin hd (fun H1 locs1 hP hD hS => g H1 locs1 ls hP hD hS hl)
theorem xi_zast (C : xb_OK X cc ws own rm ret nL tys D) {a N : Nat} {i x : Int32} {f f' : Nat → Int32} {cA : ClassId} {w2 : va_W} (hd : decode cc pc = .ok (.bastore, 1)) (q0 t0 : Nat) (ha : w[q0]? = some (a, .inl (cA, N, .inl f))) (ht : tys[t0]? = some (cA, .boolean)) (hv : xr_w f N i (vp_nar .boolean x) = some f') (hw : w.set q0 (a, .inl (cA, N, .inl f')) = w2) (g : xb_G X k n w2 lv (pc + 1) st) : xb_G X k n w lv pc (.int x :: .int i :: .ref a :: st) := by
  subst hw
  obtain ⟨hin, rfl⟩ := xr_w_spec hv
  obtain ⟨p, l, e, R, s, m, args, below, meth, c, A, Q, nL', D'⟩ := X
  obtain ⟨hx, hb, hr, hml, hown, hts, hlk, hK, hE, hA, rfl, rfl, rfl⟩ := C
  intro H locs ls hP hD hS hl
  exact va_zast hx hb hK hP hD hS q0 t0 ha ht hin hd (fun H1 locs1 hP hD hS => g H1 locs1 ls hP hD hS hl)
theorem xi_alen (C : xb_OK X cc ws own rm ret nL tys D) {a : Nat} {x : vp_A} {v : Int32} {cA : ClassId} {ty : FieldType} (hd : decode cc pc = .ok (.arraylength, 1)) (q0 t0 : Nat) (ha : w[q0]? = some (a, .inl (cA, x))) (ht : tys[t0]? = some (cA, ty)) (hv : Int32.ofNat x.1 = v) (g : xb_G X k n w lv (pc + 1) (.int v :: st)) : xb_G X k n w lv pc (.ref a :: st) := by
  obtain ⟨p, l, e, R, s, m, args, below, meth, c, A, Q, nL', D'⟩ := X
  obtain ⟨hx, hb, hr, hml, hown, hts, hlk, hK, hE, hA, rfl, rfl, rfl⟩ := C
  intro H locs ls hP hD hS hl
  exact va_alen hx hb hK hP q0 t0 ha ht hv hd (g H locs ls hP hD hS hl)
theorem xi_get (C : xb_OK X cc ws own rm ret nL tys D) {a ci N index : Nat} {fs : List Value} {v : Value} {cls : String} {T : u_T} (hd : decode cc pc = .ok (.getfield index, 3)) (hin : ∀ w ∈ u_ws cls T N, w ∈ ws) (q0 : Nat) (he : w[q0]? = some (a, .inr (ci, fs))) (hc : vwCl[ci]? = some (cls, T, N)) (j : Nat) (hj : j < N) (hw : Cond.fieldLink own index (T j).1 (T j).2.1 (T j).2.2.1 ∈ ws) (hv : fs[j]? = some v) (g : xb_G X k n w lv (pc + 3) (v :: st)) : xb_G X k n w lv pc (.ref a :: st) := by
  obtain ⟨p, l, e, R, s, m, args, below, meth, c, A, Q, nL', D'⟩ := X
  obtain ⟨hx, hb, hr, hml, hown, hts, hlk, hK, hE, hA, rfl, rfl, rfl⟩ := C
  intro H locs ls hP hD hS hl
  exact va_get hx hb hts hin hown hK hP q0 he hc j hj (hts _ hw) (fun _ h9 => h9) hv hd (g H locs ls hP hD hS hl)
theorem xi_put (C : xb_OK X cc ws own rm ret nL tys D) {a ci N index : Nat} {fs : List Value} {v : Value} {cls : String} {T : u_T} {ty : FieldType} {w2 : va_W} (hd : decode cc pc = .ok (.putfield index, 3)) (hin : ∀ w ∈ u_ws cls T N, w ∈ ws) (ty0 : Nat → FieldType) (hty : ∀ k, k < N → parseFieldDescriptor (T k).2.2.1 = some (ty0 k)) (hnm : ∀ a, a < N → ∀ b, b < N → a ≠ b → (T a).2.1 ≠ (T b).2.1) (q0 : Nat) (he : w[q0]? = some (a, .inr (ci, fs))) (hc : vwCl[ci]? = some (cls, T, N)) (j : Nat) (hj : j < N) (hw : Cond.fieldLink own index (T j).1 (T j).2.1 (T j).2.2.1 ∈ ws) (hfin : (T j).2.2.2 = false) (hdt : parseFieldDescriptor (T j).2.2.1 = some ty) (hn : narrow ty v = v) (hfit : fits ty v = true) (hlen : j < fs.length) (hw2 : w.set q0 (a, .inr (ci, fs.set j v)) = w2) (g : xb_G X k n w2 lv (pc + 3) st) : xb_G X k n w lv pc (v :: .ref a :: st) := by
  subst hw2
  obtain ⟨p, l, e, R, s, m, args, below, meth, c, A, Q, nL', D'⟩ := X
  obtain ⟨hx, hb, hr, hml, hown, hts, hlk, hK, hE, hA, rfl, rfl, rfl⟩ := C
  intro H locs ls hP hD hS hl
  exact va_put hx hb hts hin ty0 hty hnm hown hK hP hD hS q0 he hc j hj (hts _ hw) (fun _ h9 => h9) hfin hdt hn hfit hlen hd (fun H1 locs1 hP hD hS => g H1 locs1 ls hP hD hS hl)
/-! the static row STEPS -/
def xb_stI : Nat → Int32 := fun j => match j with | 0 => -6 | 1 => -1 | 2 => 1 | _ => 6
theorem xb_stI_ok (j : Nat) : xb_st j = .int (xb_stI j) := by
  unfold xb_st xb_stI
  split <;> rfl
def xb_S (X : xb_C) (t : Nat) : Prop := match X with
  | (_, _, _, _, s, _, _, _, _, _, A, _, _, _) => xb_sta A s t
theorem xi_gets (C : xb_OK X cc ws own rm ret nL tys D) {index : Nat} (hd : decode cc pc = .ok (.getstatic index, 3)) (hw : Cond.fieldLink own index "LookupBoard" "STEPS" "[I" ∈ ws) (g : ∀ t : Nat, xb_S X t → xb_G X k n w lv (pc + 3) (.ref t :: st)) : xb_G X k n w lv pc st := by
  obtain ⟨p, l, e, R, s, m, args, below, meth, c, A, Q, nL', D'⟩ := X
  obtain ⟨hx, hb, hr, hml, hown, hts, hlk, hK, hE, hA, rfl, rfl, rfl⟩ := C
  obtain ⟨-, -, t, hE⟩ := hE
  intro H locs ls hP hD hS hl
  exact va_gets hx hb hE.1 hS hown (hts _ hw) (fun _ h => h) hd (g t hE H locs ls hP hD hS hl)
theorem xi_getsN (C : xb_OK X cc ws RX2 rm ret nL tys D) (hd : decode cc pc = .ok (.getstatic 72, 3)) (g : ∀ t : Nat, xb_S X t → xb_G X k n w lv (pc + 3) (.ref t :: st)) : xb_G X k n w lv pc st := by
  obtain ⟨p, l, e, R, s, m, args, below, meth, c, A, Q, nL', D'⟩ := X
  obtain ⟨hx, hb, hr, hml, hown, hts, hlk, hK, hE, hA, rfl, rfl, rfl⟩ := C
  obtain ⟨-, h2, t, hE⟩ := hE
  intro H locs ls hP hD hS hl
  exact va_getsN hx hb hE.1 hS hown (va_Nw.use rfl h2) (fun _ h => h) hd (g t hE H locs ls hP hD hS hl)
theorem xi_sald (C : xb_OK X cc ws own rm ret nL tys D) {t : Nat} {i v : Int32} (hd : decode cc pc = .ok (.iaload, 1)) (ht : xb_S X t) (hv : xr_d xb_stI 4 i = some v) (g : xb_G X k n w lv (pc + 1) (.int v :: st)) : xb_G X k n w lv pc (.int i :: .ref t :: st) := by
  obtain ⟨hin, rfl⟩ := xr_d_spec hv
  obtain ⟨p, l, e, R, s, m, args, below, meth, c, A, Q, nL', D'⟩ := X
  obtain ⟨hx, hb, hr, hml, hown, hts, hlk, hK, hE, hA, rfl, rfl, rfl⟩ := C
  intro H locs ls hP hD hS hl
  exact va_ti hx hb ht.2 hS hin (xb_stI_ok _) hd (g H locs ls hP hD hS hl)
/-! Math, arraycopy -/
theorem xi_mmax (C : xb_OK X cc ws own rm ret nL tys D) {index : Nat} {x y : Int32} (hd : decode cc pc = .ok (.invokestatic index, 3)) (h1 : Cond.methodLink own index Lib.Math.max.name ∈ ws) (h2 : Cond.static Lib.Math.max.name ∈ ws) (h3 : Cond.initialized "java/lang/Math" ∈ ws) (h4 : Cond.code Lib.Math.max.name Lib.Math.max.code 2 (some .int) ∈ ws) (hf : 1 ≤ rm.frames) (hlo : (st.map fun v => v.category).sum + 13 ≤ rm.locals) (hk : k ≤ rm.cells ∧ n ≤ rm.slots) {v : Int32} (hv : some (if x < y then y else x) = some v) (g : xb_G X k n w lv (pc + 3) (.int v :: st)) : xb_G X k n w lv pc (.int y :: .int x :: st) := by
  cases hv
  obtain ⟨p, l, e, R, s, m, args, below, meth, c, A, Q, nL', D'⟩ := X
  obtain ⟨hx, hb, hr, hml, hown, hts, hlk, hK, hE, hA, rfl, rfl, rfl⟩ := C
  intro H locs ls hP hD hS hl
  exact va_mmax hx hb (hml.trans hl.1.symm) hown (hts _ h1) (hts _ h2) (hts _ h3) (hts _ h4) hf hlo hk.1 hk.2 hd (g H locs ls hP hD hS hl)
theorem xi_mabs (C : xb_OK X cc ws own rm ret nL tys D) {index : Nat} {x : Int32} (hd : decode cc pc = .ok (.invokestatic index, 3)) (h1 : Cond.methodLink own index Lib.Math.abs.name ∈ ws) (h2 : Cond.static Lib.Math.abs.name ∈ ws) (h3 : Cond.initialized "java/lang/Math" ∈ ws) (h4 : Cond.code Lib.Math.abs.name Lib.Math.abs.code 1 (some .int) ∈ ws) (hf : 1 ≤ rm.frames) (hlo : (st.map fun v => v.category).sum + 13 ≤ rm.locals) (hk : k ≤ rm.cells ∧ n ≤ rm.slots) {v : Int32} (hv : some (if 0 ≤ x then x else 0 - x) = some v) (g : xb_G X k n w lv (pc + 3) (.int v :: st)) : xb_G X k n w lv pc (.int x :: st) := by
  cases hv
  obtain ⟨p, l, e, R, s, m, args, below, meth, c, A, Q, nL', D'⟩ := X
  obtain ⟨hx, hb, hr, hml, hown, hts, hlk, hK, hE, hA, rfl, rfl, rfl⟩ := C
  intro H locs ls hP hD hS hl
  exact va_mabs hx hb (hml.trans hl.1.symm) hown (hts _ h1) (hts _ h2) (hts _ h3) (hts _ h4) hf hlo hk.1 hk.2 hd (g H locs ls hP hD hS hl)
/-! a row's numbers beyond its length are nobody's -/
theorem vp_cell_ext {cA : ClassId} {N : Nat} {f g : Nat → Int32} (h : ∀ j, j < N → f j = g j) : vp_cell cA (N, .inl f) = vp_cell cA (N, .inl g) := by
  show arrV cA N (fun j => .int (f j)) = arrV cA N (fun j => .int (g j))
  unfold arrV
  congr 2
  funext j
  exact congrArg Value.int (h j.val j.isLt)
theorem xb_ext_P {D : va_G} {w : va_W} {H : Heap} {a N : Nat} {c0 : ClassId} {f g : Nat → Int32} (q : Nat) (h : ∀ j, j < N → f j = g j) (hP : va_P D vwCl (w.set q (a, .inl (c0, N, .inl f))) H) : va_P D vwCl (w.set q (a, .inl (c0, N, .inl g))) H := by
  intro k e he
  by_cases hk : k = q
  · subst hk
    by_cases hl : k < w.length
    · rw [List.getElem?_set_self hl] at he
      cases he
      have := hP k _ (List.getElem?_set_self hl)
      show H[a]? = some (vp_cell c0 (N, .inl g))
      rw [← vp_cell_ext h]
      exact this
    · rw [List.getElem?_eq_none (by rw [List.length_set]; omega)] at he
      cases he
  · rw [List.getElem?_set_ne (Ne.symm hk)] at he
    exact hP k e (by rw [List.getElem?_set_ne (Ne.symm hk)]; exact he)
theorem xb_ext_D {A : Nat → Prop} {w : va_W} {a N : Nat} {c0 : ClassId} {f g : Nat → Int32} (q : Nat) (hD : va_D A (w.set q (a, .inl (c0, N, .inl f)))) : va_D A (w.set q (a, .inl (c0, N, .inl g))) := by
  refine xb_D_addr (fun k e he => ?_) hD
  by_cases hk : k = q
  · subst hk
    by_cases hl : k < w.length
    · rw [List.getElem?_set_self hl] at he
      cases he
      exact ⟨_, List.getElem?_set_self hl, rfl⟩
    · rw [List.getElem?_eq_none (by rw [List.length_set]; omega)] at he
      cases he
  · rw [List.getElem?_set_ne (Ne.symm hk)] at he
    exact ⟨e, by rw [List.getElem?_set_ne (Ne.symm hk)]; exact he, rfl⟩
theorem xi_copy (C : xb_OK X cc ws own rm ret nL tys D) {index a a0 N M : Nat} {f g f' : Nat → Int32} {sp dp z : Int32} {c0 : ClassId} {w2 : va_W} (hd : decode cc pc = .ok (.invokestatic index, 3)) (h1 : Cond.methodLink own index arraycopyName ∈ ws) (h2 : Cond.native arraycopyName ∈ ws) (h3 : Cond.static arraycopyName ∈ ws) (h4 : Cond.initialized "java/lang/System" ∈ ws) (q0 q1 t0 : Nat) (ha0 : w[q0]? = some (a0, .inl (c0, N, .inl f))) (ha1 : w[q1]? = some (a, .inl (c0, M, .inl g))) (ht : tys[t0]? = some (c0, .int)) (hv : xr_c f N sp g M dp z = some f') (hf : 1 ≤ rm.frames) (hlo : (st.map fun v => v.category).sum + (nativeFrameWords "java/lang/System" "arraycopy" 5 + 11) ≤ rm.locals) (hw : w.set q1 (a, .inl (c0, M, .inl f')) = w2) (gg : xb_G X k n w2 lv (pc + 3) st) : xb_G X k n w lv pc (.int z :: .int dp :: .ref a :: .int sp :: .ref a0 :: st) := by
  subst hw
  unfold xr_c at hv
  split at hv
  · next hcnd =>
    cases hv
    obtain ⟨rfl, rfl, rfl, rfl, hN⟩ := hcnd
    obtain ⟨p, l, e, R, s, m, args, below, meth, c, A, Q, nL', D'⟩ := X
    obtain ⟨hx, hb, hr, hml, hown, hts, hlk, hK, hE, hA, rfl, rfl, rfl⟩ := C
    intro H locs ls hP hD hS hl
    have z0 : (0 : Int32).toNatClampNeg = 0 := nI_clamp (n := 0) (by decide)
    have zN : (nI N).toNatClampNeg = N := nI_clamp hN
    have n0 : ¬ ((0 : Int32) < 0) := by decide
    refine va_copyi (sp := 0) (dp := 0) (n := nI N) hx hb (hml.trans hl.1.symm) hown (hts _ h1) (hts _ h2) (hts _ h3) (hts _ h4) hK hP hD hS q0 q1 t0 t0 ha0 ha1 ht ht rfl n0 n0 (nI_pos hN) (by rw [z0, zN]; omega) (by rw [z0, zN]; omega) (fun _ _ => rfl) hf hlo hd (fun H1 locs1 hP hD hS => ?_)
    rw [z0, zN] at hP hD
    exact gg H1 locs1 ls (xb_ext_P q1 (fun j hj => by unfold va_cpy; rw [if_pos ⟨by omega, by omega⟩]; congr 1; omega) hP) (xb_ext_D q1 hD) hS hl
  · cases hv
/-! ends -/
theorem xi_iret (C : xb_OK X cc ws own rm (some .int) nL tys D) {v : Int32} (Z : xb_Fin X D (some (.int v)) w) (hd : decode cc pc = .ok (.ireturn, 1)) : xb_G X 0 0 w lv pc [.int v] := by
  obtain ⟨p, l, e, R, s, m, args, below, meth, c, A, Q, nL', D'⟩ := X
  obtain ⟨hx, hb, hr, hml, hown, hts, hlk, hK, hE, hA, rfl, rfl, rfl⟩ := C
  have Z : Q = MQ below (xb_Q D' (some (.int v)) w A) args s 0 0 A := Z
  subst Z
  intro H locs ls hP hD hS hl
  exact W.iret hx hb hr (fun t ht _ => ⟨rfl, by rw [ht]; exact hP, hS.F ht⟩) hS.2.2 hd hlk
theorem xi_zret (C : xb_OK X cc ws own rm (some .boolean) nL tys D) {v : Int32} (Z : xb_Fin X D (some (.int v)) w) (hd : decode cc pc = .ok (.ireturn, 1)) (hn : narrow .boolean (.int v) = .int v) : xb_G X 0 0 w lv pc [.int v] := by
  obtain ⟨p, l, e, R, s, m, args, below, meth, c, A, Q, nL', D'⟩ := X
  obtain ⟨hx, hb, hr, hml, hown, hts, hlk, hK, hE, hA, rfl, rfl, rfl⟩ := C
  have Z : Q = MQ below (xb_Q D' (some (.int v)) w A) args s 0 0 A := Z
  subst Z
  intro H locs ls hP hD hS hl
  exact W.zret hx hb hr hn (fun t ht _ => ⟨rfl, by rw [ht]; exact hP, hS.F ht⟩) hS.2.2 hd hlk
theorem xi_ret (C : xb_OK X cc ws own rm none nL tys D) (Z : xb_Fin X D none w) (hd : decode cc pc = .ok (.return_, 1)) : xb_G X 0 0 w lv pc [] := by
  obtain ⟨p, l, e, R, s, m, args, below, meth, c, A, Q, nL', D'⟩ := X
  obtain ⟨hx, hb, hr, hml, hown, hts, hlk, hK, hE, hA, rfl, rfl, rfl⟩ := C
  have Z : Q = MQ below (xb_Q D' none w A) args s 0 0 A := Z
  subst Z
  intro H locs ls hP hD hS hl
  exact W.vret hx hb hr (fun t ht _ => ⟨rfl, by rw [ht]; exact hP, hS.F ht⟩) hS.2.2 hd hlk
/-! calls -/
/-- what is said of a callee once for all -/
def xb_Y (y : MethodName) (cc : ByteArray) (ws : List Cond) (nL : Nat) (ret : Option FieldType) (rm : Room) (na : Nat) : Prop := (∃ ws' : List Cond, ws = Cond.code y cc nL ret :: ws') ∧ plainName y.cls = true ∧ (y.cls ≠ "java/lang/invoke/MethodHandle" ∧ y.cls ≠ "java/lang/invoke/VarHandle" ∧ (parseMethodDescriptor y.desc).map (fun d => d.parameters.length) = some na) ∧ rm.cells = 0 ∧ rm.slots = 0
theorem xb_go {p : Program} {l : Launch} {e : Jvm.Env} {R : Room} {s : State} {m : MethodId} {args : Array Value} {below : List Frame} {meth : Method} {c : Code} {A : Nat → Prop} {Q : State → Prop} {H : Heap} {locs : List Loc} {ls : Array Slot} {rest : List Value} {o : Option Value} {w1 wc w2 : va_W} {a : Array Value}
    (run : va_Run p l e R s m args below meth c H locs k n 0 0 (F0 m pc ls st) rest (xb_Q D o w1 (va_A wc H.size) a) (va_A wc H.size)) (hP : va_P D vwCl w H) (hD : va_D A w) (hS : va_S A s.heap H locs) (hF : ∀ q, va_A wc H.size q → A q) (isC : List Nat) (hC : isC.map (fun i => w[i]?) = wc.map some) (hn : va_nd isC = true) (hw1 : w1.map Prod.fst = wc.map Prod.fst) (hw2 : xb_mix w isC w1 = w2)
    (kk : ∀ (H1 : Heap) (locs1 : List Loc), va_P D vwCl w2 H1 → va_D A w2 → va_S A s.heap H1 locs1 → W p l e R s m args below meth c H1 locs1 k n Q (F0 m (pc + 3) ls (o.toList ++ rest))) : W p l e R s m args below meth c H locs k n Q (F0 m pc ls st) := by
  subst hw2
  intro T hT X
  obtain ⟨v, st₀, t, T', L, h0, X', hL, e1, e2, ⟨hv, hb, hz, hk⟩, stp⟩ := run T hT X
  cases hv
  rw [h0] at hz hk
  obtain ⟨hP2, hD2⟩ := xb_mix_ok hP hD isC hC hn hw1 hk hb
  obtain ⟨t2, a1, b1⟩ := kk t.heap (locs ++ L) hP2 hD2 ⟨Nat.le_trans hS.1 hz, fun q h1 h2 => by rw [hk q (Nat.lt_of_lt_of_le h1 hS.1) (fun z => h2 (hF q z))]; exact hS.2.1 q h1 h2, fun q hq => by
    rcases List.mem_append.mp hq with h | h
    · exact hS.2.2 q h
    · exact hF _ (hL q h)⟩ T' e1 X'
  exact ⟨t2, stp t2 a1, b1⟩
theorem xi_callV (C : xb_OK X cc ws own rm ret nL tys D) {y : MethodName} {bytes : ByteArray} {wsy : List Cond} {maxL index b ci N : Nat} {rety : Option FieldType} {rmy : Room} {tysy : List (ClassId × FieldType)} {As rest fs : List Value} {wc w1 w2 : va_W} {o : Option Value} {T : u_T} (Y : xb_Y y bytes wsy maxL rety rmy As.length) (M : xb_M bytes wsy y.cls rmy rety maxL tysy D (.ref b :: As) wc o w1) (hT : GoodIn ws (wsV own index y.cls y wsy)) (hd : decode cc pc = .ok (.invokevirtual index, 3)) (hR : rmy.frames + 1 ≤ rm.frames ∧ 8 + (maxL + 11) + rmy.locals ≤ rm.locals ∧ (lg_sl (.ref b :: As)).length ≤ maxL) (q0 : Nat) (he : w[q0]? = some (b, .inr (ci, fs))) (hc : vwCl[ci]? = some (y.cls, T, N)) (isC : List Nat) (hC : isC.map (fun i => w[i]?) = wc.map some) (hn : va_nd isC = true) (ts : List Nat) (hts' : ts.filterMap (fun i => tys[i]?) = tysy) (hw1 : w1.map Prod.fst = wc.map Prod.fst) (hw2 : xb_mix w isC w1 = w2) (hst : st = As.reverse ++ .ref b :: rest) (hcat : (rest.map fun v => v.category).sum ≤ 8) (hk : k ≤ rm.cells ∧ n ≤ rm.slots) {st2 : List Value} (hs2 : o.toList ++ rest = st2) (g : xb_G X k n w2 lv (pc + 3) st2) : xb_G X k n w lv pc st := by
  subst hst
  subst hs2
  obtain ⟨p, l, e, R, s, m, args, below, meth, c, A, Q, nL', D'⟩ := X
  obtain ⟨hx, hb, hr, hml, hown, hts, hlk, hK, hE, hA, rfl, rfl, rfl⟩ := C
  obtain ⟨⟨ws', hws⟩, hpl, hy, h01, h02⟩ := Y
  intro H locs ls hP hD hS hl
  have hF := va_free (wc := wc) hD hS hA isC hC
  have hm := xb_met M hpl hws hR.2.2 l H.size
  exact xb_go (va_runV (nL := nL') (As := As) (rest := rest) ⟨hx, hb, hml, hown, hts⟩ hm (cwV As.length hts hT hws h01 h02 ⟨rfl, hy⟩ ⟨hR.1, hR.2.1⟩)
    ⟨xb_W_blind, va_recv hK hP hc he, fun U hU hW => ⟨rfl, by rw [hU], by rw [hU]; exact hP.sub isC (xb_fm hC), va_K.moved hW.alike (hK.sub ts hts'), (hD.sub isC hn hC).weaken (fun _ _ _ _ => trivial), xb_E_to hE hS hU hW hF⟩⟩ rfl rfl hl.1 rfl (lv_room hcat) hd hk)
    hP hD hS hF isC hC hn hw1 hw2 (fun H1 locs1 hP hD hS => g H1 locs1 ls hP hD hS hl)
theorem xi_callS (C : xb_OK X cc ws own rm ret nL tys D) {y : MethodName} {bytes : ByteArray} {wsy : List Cond} {maxL index : Nat} {rety : Option FieldType} {rmy : Room} {tysy : List (ClassId × FieldType)} {As rest : List Value} {wc w1 w2 : va_W} {o : Option Value} (Y : xb_Y y bytes wsy maxL rety rmy As.length) (M : xb_M bytes wsy y.cls rmy rety maxL tysy D As wc o w1) (hT : GoodIn ws (va_wsS own index y wsy)) (hd : decode cc pc = .ok (.invokestatic index, 3)) (hR : rmy.frames + 1 ≤ rm.frames ∧ 8 + (maxL + 11) + rmy.locals ≤ rm.locals ∧ (lg_sl As).length ≤ maxL) (isC : List Nat) (hC : isC.map (fun i => w[i]?) = wc.map some) (hn : va_nd isC = true) (ts : List Nat) (hts' : ts.filterMap (fun i => tys[i]?) = tysy) (hw1 : w1.map Prod.fst = wc.map Prod.fst) (hw2 : xb_mix w isC w1 = w2) (hst : st = As.reverse ++ rest) (hcat : (rest.map fun v => v.category).sum ≤ 8) (hk : k ≤ rm.cells ∧ n ≤ rm.slots) {st2 : List Value} (hs2 : o.toList ++ rest = st2) (g : xb_G X k n w2 lv (pc + 3) st2) : xb_G X k n w lv pc st := by
  subst hst
  subst hs2
  obtain ⟨p, l, e, R, s, m, args, below, meth, c, A, Q, nL', D'⟩ := X
  obtain ⟨hx, hb, hr, hml, hown, hts, hlk, hK, hE, hA, rfl, rfl, rfl⟩ := C
  obtain ⟨⟨ws', hws⟩, hpl, hy, h01, h02⟩ := Y
  intro H locs ls hP hD hS hl
  have hF := va_free (wc := wc) hD hS hA isC hC
  have hm := xb_met M hpl hws hR.2.2 l H.size
  exact xb_go (va_runS (nL := nL') (As := As) (rest := rest) ⟨hx, hb, hml, hown, hts⟩ hm (va_cwS As.length hts hT hws h01 h02 hy ⟨hR.1, hR.2.1⟩)
    ⟨xb_W_blind, fun U hU hW => ⟨rfl, by rw [hU], by rw [hU]; exact hP.sub isC (xb_fm hC), va_K.moved hW.alike (hK.sub ts hts'), (hD.sub isC hn hC).weaken (fun _ _ _ _ => trivial), xb_E_to hE hS hU hW hF⟩⟩ rfl rfl hl.1 rfl (lv_room hcat) hd hk)
    hP hD hS hF isC hC hn hw1 hw2 (fun H1 locs1 hP hD hS => g H1 locs1 ls hP hD hS hl)
theorem xi_callSN (C : xb_OK X cc ws own rm ret nL tys D) {y : MethodName} {bytes : ByteArray} {wsy : List Cond} {maxL index : Nat} {rety : Option FieldType} {rmy : Room} {tysy : List (ClassId × FieldType)} {As rest : List Value} {wc w1 w2 : va_W} {o : Option Value} (Y : xb_Y y bytes wsy maxL rety rmy As.length) (M : xb_M bytes wsy y.cls rmy rety maxL tysy D As wc o w1) (hT : GoodIn ws wsy) (hnl : (own, index, y) ∈ xb_nl) (hini : Cond.initialized y.cls ∈ ws) (hstc : Cond.static y ∈ ws) (hd : decode cc pc = .ok (.invokestatic index, 3)) (hR : rmy.frames + 1 ≤ rm.frames ∧ 8 + (maxL + 11) + rmy.locals ≤ rm.locals ∧ (lg_sl As).length ≤ maxL) (isC : List Nat) (hC : isC.map (fun i => w[i]?) = wc.map some) (hn : va_nd isC = true) (ts : List Nat) (hts' : ts.filterMap (fun i => tys[i]?) = tysy) (hw1 : w1.map Prod.fst = wc.map Prod.fst) (hw2 : xb_mix w isC w1 = w2) (hst : st = As.reverse ++ rest) (hcat : (rest.map fun v => v.category).sum ≤ 8) (hk : k ≤ rm.cells ∧ n ≤ rm.slots) {st2 : List Value} (hs2 : o.toList ++ rest = st2) (g : xb_G X k n w2 lv (pc + 3) st2) : xb_G X k n w lv pc st := by
  subst hst
  subst hs2
  obtain ⟨p, l, e, R, s, m, args, below, meth, c, A, Q, nL', D'⟩ := X
  obtain ⟨hx, hb, hr, hml, hown, hts, hlk, hK, hE, hA, rfl, rfl, rfl⟩ := C
  obtain ⟨⟨ws', hws⟩, hpl, hy, h01, h02⟩ := Y
  intro H locs ls hP hD hS hl
  have hF := va_free (wc := wc) hD hS hA isC hC
  have hm := xb_met M hpl hws hR.2.2 l H.size
  exact xb_go (va_runSN (nL := nL') (As := As) (rest := rest) ⟨hx, hb, hml, hown, hts⟩ hm ⟨va_cnB As.length hts hT hws h01 h02 (hE.1 _ hnl) (hts _ hini) hy ⟨hR.1, hR.2.1⟩, hts _ hstc, trivial⟩
    ⟨xb_W_blind, fun U hU hW => ⟨rfl, by rw [hU], by rw [hU]; exact hP.sub isC (xb_fm hC), va_K.moved hW.alike (hK.sub ts hts'), (hD.sub isC hn hC).weaken (fun _ _ _ _ => trivial), xb_E_to hE hS hU hW hF⟩⟩ rfl rfl hl.1 rfl (lv_room hcat) hd hk)
    hP hD hS hF isC hC hn hw1 hw2 (fun H1 locs1 hP hD hS => g H1 locs1 ls hP hD hS hl)
end XR
/-! what a function with an outcome says, step by step -/
theorem ob_i {α β : Type} {x : Option α} {f : α → Option β} {r : β} (h : x.bind f = some r) : ∃ a, x = some a ∧ f a = some r := by
  cases x with
  | none => cases h
  | some a => exact ⟨a, rfl, h⟩
theorem it_i {c : Prop} [Decidable c] {β : Type} {a b r : β} (hc : c) (h : (if c then a else b) = r) : a = r := by rwa [if_pos hc] at h
theorem ie_i {c : Prop} [Decidable c] {β : Type} {a b r : β} (hc : ¬ c) (h : (if c then a else b) = r) : b = r := by rwa [if_neg hc] at h
