/-! the law's own methods: contracts with an outcome and a world of which something is said; longs; calls of the class' methods on an object -/
def xb_EE (X : xb_C) (E : State → Prop) : Prop := match X with
  | (_, _, _, _, s, _, _, _, _, _, _, _, _, _) => E s
def xb_QP (D : va_G) (P : Option Value → va_W → Prop) (A : Nat → Prop) : Array Value → State → Outcome → State → Prop := fun _ st oc t => (∃ (o : Option Value) (w1 : va_W), oc = .returned o ∧ P o w1 ∧ va_P D vwCl w1 t.heap) ∧ va_F A st t
def xb_FP (X : xb_C) (D : va_G) (P : Option Value → va_W → Prop) (mc ms : Nat) : Prop := match X with
  | (_, _, _, _, s, _, args, below, _, _, A, Q, _, _) => Q = MQ below (xb_QP D P A) args s mc ms A
def xb_MP (cc : ByteArray) (ws : List Cond) (own : String) (rm : Room) (ret : Option FieldType) (nL : Nat) (tys : List (ClassId × FieldType)) (D : va_G) (E : State → Prop) (As : List Value) (w : va_W) (P : Option Value → va_W → Prop) (mc ms : Nat) : Prop :=
  ∀ X : xb_C, xb_OK X cc ws own rm ret nL tys D → xb_EE X E → xb_FP X D P mc ms → (∀ q : Nat, (∀ (k : Nat) (e : va_E), w[k]? ≠ some (q, e)) → (match X with | (_, _, _, _, s, _, _, _, _, _, A, _, _, _) => q < s.heap.size → ¬ A q)) → xb_G X 0 0 w (lv_args 0 As) 0 []
theorem xb_WP_blind {D : va_G} {tys : List (ClassId × FieldType)} {E : State → Prop} {w : va_W} {sz : Nat} {As : List Value} (hEb : ∀ U g mk a, E U → E (U.calling g mk a)) : FrameBlind (va_Pc As (fun U => xb_W D tys w sz U ∧ E U)) := fun a U g mk q => by
  obtain ⟨q0, ⟨q1, qP, qK, qD, qE⟩, q2⟩ := q
  exact ⟨q0, ⟨q1, qP, va_K.moved (u := U) (U := U.calling g mk a) (Vm.Alike.refl U.vm) qK, qD, xb_E_calling qE⟩, hEb U g mk a q2⟩
theorem xb_metP {y : MethodName} {cc : ByteArray} {ws ws' : List Cond} {rm : Room} {ret : Option FieldType} {nL mc ms : Nat} {tys : List (ClassId × FieldType)} {D : va_G} {E : State → Prop} {As : List Value} {w : va_W} {P : Option Value → va_W → Prop}
    (M : xb_MP cc ws y.cls rm ret nL tys D E As w P mc ms) (hy : plainName y.cls = true) (hw : ws = Cond.code y cc nL ret :: ws') (hlen : (lg_sl As).length ≤ nL) (l : Launch) (sz : Nat) : Met l y ws rm (va_Pc As (fun U => xb_W D tys w sz U ∧ E U)) (xb_QP D P (va_A w sz)) mc ms (va_A w sz) := by
  refine Met.ofW (cc := cc) (maxL := nL) (ret := ret) hy hw ?_
  intro p e s m args below meth c s₁ B hml hv
  obtain ⟨rfl, ⟨hsz, hP, hK, hD0, hE⟩, hO⟩ := hv
  subst hsz
  rw [lg_entry_eq]
  refine M (p, l, e, (headSpec ws rm).room, s, m, As.toArray, below, meth, c, va_A w s.heap.size, MQ below (xb_QP D P (va_A w s.heap.size)) As.toArray s mc ms (va_A w s.heap.size), nL, D)
    ⟨B.exec, B.bytes, B.returns, hml, findClass_of_methodNamed B.named, atoms_spec (ws := ws) B.pre, B.notSynchronized, hK, hE, fun q h => Or.inr h, rfl, rfl, rfl⟩ hO rfl
    (fun q hq hlt hA => ?_) s.heap [] _ hP hD0.self va_S.rf (lv_entry As hlen)
  rcases hA with ⟨k, e, h⟩ | h
  · exact hq k e h
  · exact Nat.not_le.mpr hlt h
/-- what is said of a callee of the law once for all -/
def xb_YP (y : MethodName) (cc : ByteArray) (ws : List Cond) (nL : Nat) (ret : Option FieldType) (rm : Room) (na mc ms : Nat) : Prop := (∃ ws' : List Cond, ws = Cond.code y cc nL ret :: ws') ∧ plainName y.cls = true ∧ (y.cls ≠ "java/lang/invoke/MethodHandle" ∧ y.cls ≠ "java/lang/invoke/VarHandle" ∧ (parseMethodDescriptor y.desc).map (fun d => d.parameters.length) = some na) ∧ rm.cells = mc ∧ rm.slots = ms
section XP
variable {X : xb_C} {k n : Nat} {w : va_W} {lv : List (Nat × Value)} {pc : Nat} {st : List Value} {cc : ByteArray} {ws : List Cond} {own : String} {rm : Room} {ret : Option FieldType} {nL : Nat} {tys : List (ClassId × FieldType)} {D : va_G}
theorem xb_goP {p : Program} {l : Launch} {e : Jvm.Env} {R : Room} {s : State} {m : MethodId} {args : Array Value} {below : List Frame} {meth : Method} {c : Code} {A : Nat → Prop} {Q : State → Prop} {H : Heap} {locs : List Loc} {ls : Array Slot} {rest : List Value} {wc : va_W} {P : Option Value → va_W → Prop} {a : Array Value} {mc ms : Nat}
    (run : va_Run p l e R s m args below meth c H locs k n mc ms (F0 m pc ls st) rest (xb_QP D P (va_A wc H.size) a) (va_A wc H.size)) (hP : va_P D vwCl w H) (hD : va_D A w) (hS : va_S A s.heap H locs) (hF : ∀ q, va_A wc H.size q → A q) (isC : List Nat) (hC : isC.map (fun i => w[i]?) = wc.map some) (hn : va_nd isC = true) (hw1 : ∀ o w1, P o w1 → w1.map Prod.fst = wc.map Prod.fst)
    (kk : ∀ (o : Option Value) (w1 : va_W) (H1 : Heap) (locs1 : List Loc), P o w1 → va_P D vwCl (xb_mix w isC w1) H1 → va_D A (xb_mix w isC w1) → va_S A s.heap H1 locs1 → W p l e R s m args below meth c H1 locs1 (k + mc) (n + ms) Q (F0 m (pc + 3) ls (o.toList ++ rest))) : W p l e R s m args below meth c H locs k n Q (F0 m pc ls st) := by
  intro T hT X
  obtain ⟨v, st₀, t, T', L, h0, X', hL, e1, e2, ⟨⟨o, w1, hv, hp, hb⟩, hz, hk⟩, stp⟩ := run T hT X
  cases hv
  rw [h0] at hz hk
  obtain ⟨hP2, hD2⟩ := xb_mix_ok hP hD isC hC hn (hw1 _ _ hp) hk hb
  obtain ⟨t2, a1, b1⟩ := kk v w1 t.heap (locs ++ L) hp hP2 hD2 ⟨Nat.le_trans hS.1 hz, fun q h1 h2 => by rw [hk q (Nat.lt_of_lt_of_le h1 hS.1) (fun z => h2 (hF q z))]; exact hS.2.1 q h1 h2, fun q hq => by
    rcases List.mem_append.mp hq with h | h
    · exact hS.2.2 q h
    · exact hF _ (hL q h)⟩ T' e1 X'
  exact ⟨t2, stp t2 a1, b1⟩
/-- the law calls a method of its own -/
theorem xi_callP (C : xb_OK X cc ws own rm ret nL tys D) {y : MethodName} {bytes : ByteArray} {wsy : List Cond} {maxL index mc ms : Nat} {rety : Option FieldType} {rmy : Room} {tysy : List (ClassId × FieldType)} {E : State → Prop} {As rest : List Value} {wc : va_W} {P : Option Value → va_W → Prop} (Y : xb_YP y bytes wsy maxL rety rmy As.length mc ms) (M : xb_MP bytes wsy y.cls rmy rety maxL tysy D E As wc P mc ms) (hEb : ∀ U g mk a, E U → E (U.calling g mk a)) (hEc : match X with | (_, _, _, _, s, _, _, _, _, _, A, _, _, _) => ∀ (H : Heap) (locs : List Loc) (U : State), va_S A s.heap H locs → U.heap = H → s.WarmedH U.vm → E U) (hT : GoodIn ws (va_wsS own index y wsy)) (hd : decode cc pc = .ok (.invokestatic index, 3)) (hR : rmy.frames + 1 ≤ rm.frames ∧ 8 + (maxL + 11) + rmy.locals ≤ rm.locals ∧ (lg_sl As).length ≤ maxL) (isC : List Nat) (hC : isC.map (fun i => w[i]?) = wc.map some) (hn : va_nd isC = true) (ts : List Nat) (hts' : ts.filterMap (fun i => tys[i]?) = tysy) (hw1 : ∀ o w1, P o w1 → w1.map Prod.fst = wc.map Prod.fst) (hst : st = As.reverse ++ rest) (hcat : (rest.map fun v => v.category).sum ≤ 8) (hk : k + mc ≤ rm.cells ∧ n + ms ≤ rm.slots) (g : ∀ o w1, P o w1 → xb_G X (k + mc) (n + ms) (xb_mix w isC w1) lv (pc + 3) (o.toList ++ rest)) : xb_G X k n w lv pc st := by
  subst hst
  obtain ⟨p, l, e, R, s, m, args, below, meth, c, A, Q, nL', D'⟩ := X
  obtain ⟨hx, hb, hr, hml, hown, hts, hlk, hK, hE, hA, rfl, rfl, rfl⟩ := C
  obtain ⟨⟨ws', hws⟩, hpl, hy, h01, h02⟩ := Y
  intro H locs ls hP hD hS hl
  have hF := va_free (wc := wc) hD hS hA isC hC
  have hm := xb_metP M hpl hws hR.2.2 l H.size
  exact xb_goP (va_runS (nL := nL') (As := As) (rest := rest) ⟨hx, hb, hml, hown, hts⟩ hm (va_cwS As.length hts hT hws h01 h02 hy ⟨hR.1, hR.2.1⟩)
    ⟨xb_WP_blind hEb, fun U hU hW => ⟨rfl, ⟨by rw [hU], by rw [hU]; exact hP.sub isC (xb_fm hC), va_K.moved hW.alike (hK.sub ts hts'), (hD.sub isC hn hC).weaken (fun _ _ _ _ => trivial), xb_E_to hE hS hU hW hF⟩, hEc H locs U hS hU hW⟩⟩ rfl rfl hl.1 rfl (lv_room hcat) hd hk)
    hP hD hS hF isC hC hn hw1 (fun o w1 H1 locs1 hp hP hD hS => g o w1 hp H1 locs1 ls hP hD hS hl)
theorem xi_iretP (C : xb_OK X cc ws own rm (some .int) nL tys D) {v : Int32} {P : Option Value → va_W → Prop} {mc ms : Nat} {w1 : va_W} (Z : xb_FP X D P mc ms) (hk : k ≤ mc) (hn : n ≤ ms) (hw : ∀ H, va_P D vwCl w H → va_P D vwCl w1 H) (hp : P (some (.int v)) w1) (hd : decode cc pc = .ok (.ireturn, 1)) : xb_G X k n w lv pc [.int v] := by
  obtain ⟨p, l, e, R, s, m, args, below, meth, c, A, Q, nL', D'⟩ := X
  obtain ⟨hx, hb, hr, hml, hown, hts, hlk, hK, hE, hA, rfl, rfl, rfl⟩ := C
  have Z : Q = MQ below (xb_QP D' P A) args s mc ms A := Z
  subst Z
  intro H locs ls hP hD hS hl
  exact W.widen hk hn (W.iret hx hb hr (fun t ht _ => ⟨⟨_, w1, rfl, hp, by rw [ht]; exact hw H hP⟩, hS.F ht⟩) hS.2.2 hd hlk)
theorem xi_zretP (C : xb_OK X cc ws own rm (some .boolean) nL tys D) {v : Int32} {P : Option Value → va_W → Prop} {mc ms : Nat} {w1 : va_W} (Z : xb_FP X D P mc ms) (hk : k ≤ mc) (hn : n ≤ ms) (hw : ∀ H, va_P D vwCl w H → va_P D vwCl w1 H) (hp : P (some (.int v)) w1) (hd : decode cc pc = .ok (.ireturn, 1)) (hnr : narrow .boolean (.int v) = .int v) : xb_G X k n w lv pc [.int v] := by
  obtain ⟨p, l, e, R, s, m, args, below, meth, c, A, Q, nL', D'⟩ := X
  obtain ⟨hx, hb, hr, hml, hown, hts, hlk, hK, hE, hA, rfl, rfl, rfl⟩ := C
  have Z : Q = MQ below (xb_QP D' P A) args s mc ms A := Z
  subst Z
  intro H locs ls hP hD hS hl
  exact W.widen hk hn (W.zret hx hb hr hnr (fun t ht _ => ⟨⟨_, w1, rfl, hp, by rw [ht]; exact hw H hP⟩, hS.F ht⟩) hS.2.2 hd hlk)
theorem xi_lretP (C : xb_OK X cc ws own rm (some .long) nL tys D) {v : Int64} {P : Option Value → va_W → Prop} {mc ms : Nat} {w1 : va_W} (Z : xb_FP X D P mc ms) (hk : k ≤ mc) (hn : n ≤ ms) (hw : ∀ H, va_P D vwCl w H → va_P D vwCl w1 H) (hp : P (some (.long v)) w1) (hd : decode cc pc = .ok (.lreturn, 1)) : xb_G X k n w lv pc [.long v] := by
  obtain ⟨p, l, e, R, s, m, args, below, meth, c, A, Q, nL', D'⟩ := X
  obtain ⟨hx, hb, hr, hml, hown, hts, hlk, hK, hE, hA, rfl, rfl, rfl⟩ := C
  have Z : Q = MQ below (xb_QP D' P A) args s mc ms A := Z
  subst Z
  intro H locs ls hP hD hS hl
  exact W.widen hk hn (W.lret hx hb hr (fun t ht _ => ⟨⟨_, w1, rfl, hp, by rw [ht]; exact hw H hP⟩, hS.F ht⟩) hS.2.2 hd hlk)
/-! longs -/
theorem xi_ldc2 (C : xb_OK X cc ws own rm ret nL tys D) {index : Nat} {v : Int64} (hd : decode cc pc = .ok (.ldc2_w index, 3)) (hw : Cond.constantLong own index v ∈ ws) (g : xb_G X k n w lv (pc + 3) (.long v :: st)) : xb_G X k n w lv pc st := by
  obtain ⟨p, l, e, R, s, m, args, below, meth, c, A, Q, nL', D'⟩ := X
  obtain ⟨hx, hb, hr, hml, hown, hts, hlk, hK, hE, hA, rfl, rfl, rfl⟩ := C
  intro H locs ls hP hD hS hl
  exact lv_ldc2 hx hb hown (hts _ hw) hd (g H locs ls hP hD hS hl)
theorem xi_lconst (C : xb_OK X cc ws own rm ret nL tys D) {a : Fin 2} {v : Int64} (hd : decode cc pc = .ok (.lconst a, 1)) (hv : Int64.ofNat (a : Nat) = v) (g : xb_G X k n w lv (pc + 1) (.long v :: st)) : xb_G X k n w lv pc st := by
  obtain ⟨p, l, e, R, s, m, args, below, meth, c, A, Q, nL', D'⟩ := X
  obtain ⟨hx, hb, hr, hml, hown, hts, hlk, hK, hE, hA, rfl, rfl, rfl⟩ := C
  intro H locs ls hP hD hS hl
  exact lv_lconst hx hb hd hv (g H locs ls hP hD hS hl)
theorem xi_lload_n (C : xb_OK X cc ws own rm ret nL tys D) {kk : Fin 4} {i : Nat} {x : Int64} (hd : decode cc pc = .ok (.lload_n kk, 1)) (hi : (kk : Nat) = i) (j : Nat) (hj : lv[j]? = some (i, .long x)) (g : xb_G X k n w lv (pc + 1) (.long x :: st)) : xb_G X k n w lv pc st := by
  obtain ⟨p, l, e, R, s, m, args, below, meth, c, A, Q, nL', D'⟩ := X
  obtain ⟨hx, hb, hr, hml, hown, hts, hlk, hK, hE, hA, rfl, rfl, rfl⟩ := C
  intro H locs ls hP hD hS hl
  exact lv_lload_n hx hb hd hi (hl.2.2 _ (List.mem_of_getElem? hj)) (g H locs ls hP hD hS hl)
theorem xi_lload (C : xb_OK X cc ws own rm ret nL tys D) {i : Nat} {x : Int64} (hd : decode cc pc = .ok (.lload i, 2)) (j : Nat) (hj : lv[j]? = some (i, .long x)) (g : xb_G X k n w lv (pc + 2) (.long x :: st)) : xb_G X k n w lv pc st := by
  obtain ⟨p, l, e, R, s, m, args, below, meth, c, A, Q, nL', D'⟩ := X
  obtain ⟨hx, hb, hr, hml, hown, hts, hlk, hK, hE, hA, rfl, rfl, rfl⟩ := C
  intro H locs ls hP hD hS hl
  exact lv_lload hx hb hd (hl.2.2 _ (List.mem_of_getElem? hj)) (g H locs ls hP hD hS hl)
theorem xi_aload (C : xb_OK X cc ws own rm ret nL tys D) {i : Nat} {x : Nat} (hd : decode cc pc = .ok (.aload i, 2)) (j : Nat) (hj : lv[j]? = some (i, .ref x)) (g : xb_G X k n w lv (pc + 2) (.ref x :: st)) : xb_G X k n w lv pc st := by
  obtain ⟨p, l, e, R, s, m, args, below, meth, c, A, Q, nL', D'⟩ := X
  obtain ⟨hx, hb, hr, hml, hown, hts, hlk, hK, hE, hA, rfl, rfl, rfl⟩ := C
  intro H locs ls hP hD hS hl
  exact lv_aload hx hb hd (hl.2.2 _ (List.mem_of_getElem? hj)) (g H locs ls hP hD hS hl)
/-- the locals behind a store, longs kept -/
def xb_sto2 (lv : List (Nat × Value)) (i : Nat) (v : Value) (js : List Nat) : List (Nat × Value) := (i, v) :: js.filterMap (fun j => (lv[j]?).bind fun q => if q.1 == i || (q.1 + 1 == i && q.2.category == 2) then none else some q)
theorem xb_sto2_has {ls : Array Slot} {nL : Nat} {lv lv2 : List (Nat × Value)} {i : Nat} {v : Value} (js : List Nat) (h : lv_has ls nL ((i, v) :: lv.filter (fun q => !(q.1 == i) && !(q.1 + 1 == i && q.2.category == 2)))) (ks : List Nat) (hl : lv_pick (xb_sto2 lv i v js) ks = lv2) : lv_has ls nL lv2 := by
  refine lv_sub (l := xb_sto2 lv i v js) ⟨h.1, h.2.1, fun q hq => ?_⟩ ks hl
  rcases List.mem_cons.mp hq with rfl | hq
  · exact h.2.2 _ List.mem_cons_self
  · obtain ⟨j, -, hj⟩ := List.mem_filterMap.mp hq
    cases hz : lv[j]? with
    | none => rw [hz] at hj; cases hj
    | some q0 =>
      rw [hz] at hj
      simp only [Option.bind_some] at hj
      split at hj
      · cases hj
      · next hne =>
        cases hj
        simp only [Bool.or_eq_true, not_or, Bool.not_eq_true] at hne
        refine h.2.2 _ (List.mem_cons_of_mem _ (List.mem_filter.mpr ⟨List.mem_of_getElem? hz, ?_⟩))
        rw [hne.1, hne.2]
        rfl
def xb_stoL (lv : List (Nat × Value)) (i : Nat) (v : Value) (js : List Nat) : List (Nat × Value) := (i, v) :: js.filterMap (fun j => (lv[j]?).bind fun q => if q.1 == i || (q.1 == i + 1 || (q.1 + 1 == i && q.2.category == 2)) then none else some q)
theorem xb_stoL_has {ls : Array Slot} {nL : Nat} {lv lv2 : List (Nat × Value)} {i : Nat} {v : Value} (js : List Nat) (h : lv_has ls nL ((i, v) :: lv.filter (fun q => !(q.1 == i) && (!(q.1 == i + 1) && !(q.1 + 1 == i && q.2.category == 2))))) (ks : List Nat) (hl : lv_pick (xb_stoL lv i v js) ks = lv2) : lv_has ls nL lv2 := by
  refine lv_sub (l := xb_stoL lv i v js) ⟨h.1, h.2.1, fun q hq => ?_⟩ ks hl
  rcases List.mem_cons.mp hq with rfl | hq
  · exact h.2.2 _ List.mem_cons_self
  · obtain ⟨j, -, hj⟩ := List.mem_filterMap.mp hq
    cases hz : lv[j]? with
    | none => rw [hz] at hj; cases hj
    | some q0 =>
      rw [hz] at hj
      simp only [Option.bind_some] at hj
      split at hj
      · cases hj
      · next hne =>
        cases hj
        simp only [Bool.or_eq_true, not_or, Bool.not_eq_true] at hne
        refine h.2.2 _ (List.mem_cons_of_mem _ (List.mem_filter.mpr ⟨List.mem_of_getElem? hz, ?_⟩))
        rw [hne.1, hne.2.1, hne.2.2]
        rfl
theorem xj_istore_n (C : xb_OK X cc ws own rm ret nL tys D) {kk : Fin 4} {i : Nat} {x : Int32} {lv2 : List (Nat × Value)} (hd : decode cc pc = .ok (.istore_n kk, 1)) (hi : (kk : Nat) = i) (hn : i < nL) (js ks : List Nat) (hq : lv_pick (xb_sto2 lv i (.int x) js) ks = lv2) (g : xb_G X k n w lv2 (pc + 1) st) : xb_G X k n w lv pc (.int x :: st) := by
  obtain ⟨p, l, e, R, s, m, args, below, meth, c, A, Q, nL', D'⟩ := X
  obtain ⟨hx, hb, hr, hml, hown, hts, hlk, hK, hE, hA, rfl, rfl, rfl⟩ := C
  intro H locs ls hP hD hS hl
  exact lv_istore_n hx hb hd hi hl hn rfl (fun ls' h' => g H locs ls' hP hD hS (xb_sto2_has js h' ks hq))
theorem xj_istore (C : xb_OK X cc ws own rm ret nL tys D) {i : Nat} {x : Int32} {lv2 : List (Nat × Value)} (hd : decode cc pc = .ok (.istore i, 2)) (hn : i < nL) (js ks : List Nat) (hq : lv_pick (xb_sto2 lv i (.int x) js) ks = lv2) (g : xb_G X k n w lv2 (pc + 2) st) : xb_G X k n w lv pc (.int x :: st) := by
  obtain ⟨p, l, e, R, s, m, args, below, meth, c, A, Q, nL', D'⟩ := X
  obtain ⟨hx, hb, hr, hml, hown, hts, hlk, hK, hE, hA, rfl, rfl, rfl⟩ := C
  intro H locs ls hP hD hS hl
  exact lv_istore hx hb hd hl hn rfl (fun ls' h' => g H locs ls' hP hD hS (xb_sto2_has js h' ks hq))
theorem xj_astore_n (C : xb_OK X cc ws own rm ret nL tys D) {kk : Fin 4} {i : Nat} {x : Nat} {lv2 : List (Nat × Value)} (hd : decode cc pc = .ok (.astore_n kk, 1)) (hi : (kk : Nat) = i) (hn : i < nL) (js ks : List Nat) (hq : lv_pick (xb_sto2 lv i (.ref x) js) ks = lv2) (g : xb_G X k n w lv2 (pc + 1) st) : xb_G X k n w lv pc (.ref x :: st) := by
  obtain ⟨p, l, e, R, s, m, args, below, meth, c, A, Q, nL', D'⟩ := X
  obtain ⟨hx, hb, hr, hml, hown, hts, hlk, hK, hE, hA, rfl, rfl, rfl⟩ := C
  intro H locs ls hP hD hS hl
  exact lv_astore_n hx hb hd hi hl hn rfl (fun ls' h' => g H locs ls' hP hD hS (xb_sto2_has js h' ks hq))
theorem xj_astore (C : xb_OK X cc ws own rm ret nL tys D) {i : Nat} {x : Nat} {lv2 : List (Nat × Value)} (hd : decode cc pc = .ok (.astore i, 2)) (hn : i < nL) (js ks : List Nat) (hq : lv_pick (xb_sto2 lv i (.ref x) js) ks = lv2) (g : xb_G X k n w lv2 (pc + 2) st) : xb_G X k n w lv pc (.ref x :: st) := by
  obtain ⟨p, l, e, R, s, m, args, below, meth, c, A, Q, nL', D'⟩ := X
  obtain ⟨hx, hb, hr, hml, hown, hts, hlk, hK, hE, hA, rfl, rfl, rfl⟩ := C
  intro H locs ls hP hD hS hl
  exact lv_astore hx hb hd hl hn rfl (fun ls' h' => g H locs ls' hP hD hS (xb_sto2_has js h' ks hq))
theorem xj_iinc (C : xb_OK X cc ws own rm ret nL tys D) {i : Nat} {a : Int} {x v : Int32} {lv2 : List (Nat × Value)} (hd : decode cc pc = .ok (.iinc i a, 3)) (j : Nat) (hj : lv[j]? = some (i, .int x)) (hv : x + Int32.ofInt a = v) (hn : i < nL) (js ks : List Nat) (hq : lv_pick (xb_sto2 lv i (.int v) js) ks = lv2) (g : xb_G X k n w lv2 (pc + 3) st) : xb_G X k n w lv pc st := by
  obtain ⟨p, l, e, R, s, m, args, below, meth, c, A, Q, nL', D'⟩ := X
  obtain ⟨hx, hb, hr, hml, hown, hts, hlk, hK, hE, hA, rfl, rfl, rfl⟩ := C
  intro H locs ls hP hD hS hl
  exact lv_iinc hx hb hd hl hj hv hn rfl (fun ls' h' => g H locs ls' hP hD hS (xb_sto2_has js h' ks hq))
theorem xj_lstore_n (C : xb_OK X cc ws own rm ret nL tys D) {kk : Fin 4} {i : Nat} {x : Int64} {lv2 : List (Nat × Value)} (hd : decode cc pc = .ok (.lstore_n kk, 1)) (hi : (kk : Nat) = i) (hn : i + 1 < nL) (js ks : List Nat) (hq : lv_pick (xb_stoL lv i (.long x) js) ks = lv2) (g : xb_G X k n w lv2 (pc + 1) st) : xb_G X k n w lv pc (.long x :: st) := by
  obtain ⟨p, l, e, R, s, m, args, below, meth, c, A, Q, nL', D'⟩ := X
  obtain ⟨hx, hb, hr, hml, hown, hts, hlk, hK, hE, hA, rfl, rfl, rfl⟩ := C
  intro H locs ls hP hD hS hl
  exact lv_lstore_n hx hb hd hi hl hn rfl (fun ls' h' => g H locs ls' hP hD hS (xb_stoL_has js h' ks hq))
theorem xj_lstore (C : xb_OK X cc ws own rm ret nL tys D) {i : Nat} {x : Int64} {lv2 : List (Nat × Value)} (hd : decode cc pc = .ok (.lstore i, 2)) (hn : i + 1 < nL) (js ks : List Nat) (hq : lv_pick (xb_stoL lv i (.long x) js) ks = lv2) (g : xb_G X k n w lv2 (pc + 2) st) : xb_G X k n w lv pc (.long x :: st) := by
  obtain ⟨p, l, e, R, s, m, args, below, meth, c, A, Q, nL', D'⟩ := X
  obtain ⟨hx, hb, hr, hml, hown, hts, hlk, hK, hE, hA, rfl, rfl, rfl⟩ := C
  intro H locs ls hP hD hS hl
  exact lv_lstore hx hb hd hl hn rfl (fun ls' h' => g H locs ls' hP hD hS (xb_stoL_has js h' ks hq))
theorem xi_ladd (C : xb_OK X cc ws own rm ret nL tys D) {x y : Int64} (hd : decode cc pc = .ok (.ladd, 1)) (g : xb_G X k n w lv (pc + 1) (.long (x + y) :: st)) : xb_G X k n w lv pc (.long y :: .long x :: st) := by
  obtain ⟨p, l, e, R, s, m, args, below, meth, c, A, Q, nL', D'⟩ := X
  obtain ⟨hx, hb, hr, hml, hown, hts, hlk, hK, hE, hA, rfl, rfl, rfl⟩ := C
  intro H locs ls hP hD hS hl
  exact lv_ladd hx hb hd (g H locs ls hP hD hS hl)
theorem xi_lmul (C : xb_OK X cc ws own rm ret nL tys D) {x y : Int64} (hd : decode cc pc = .ok (.lmul, 1)) (g : xb_G X k n w lv (pc + 1) (.long (x * y) :: st)) : xb_G X k n w lv pc (.long y :: .long x :: st) := by
  obtain ⟨p, l, e, R, s, m, args, below, meth, c, A, Q, nL', D'⟩ := X
  obtain ⟨hx, hb, hr, hml, hown, hts, hlk, hK, hE, hA, rfl, rfl, rfl⟩ := C
  intro H locs ls hP hD hS hl
  exact lv_lmul hx hb hd (g H locs ls hP hD hS hl)
theorem xi_land (C : xb_OK X cc ws own rm ret nL tys D) {x y : Int64} (hd : decode cc pc = .ok (.land, 1)) (g : xb_G X k n w lv (pc + 1) (.long (x &&& y) :: st)) : xb_G X k n w lv pc (.long y :: .long x :: st) := by
  obtain ⟨p, l, e, R, s, m, args, below, meth, c, A, Q, nL', D'⟩ := X
  obtain ⟨hx, hb, hr, hml, hown, hts, hlk, hK, hE, hA, rfl, rfl, rfl⟩ := C
  intro H locs ls hP hD hS hl
  exact lv_land hx hb hd (g H locs ls hP hD hS hl)
theorem xi_lshr (C : xb_OK X cc ws own rm ret nL tys D) {x : Int64} {y : Int32} (hd : decode cc pc = .ok (.lshr, 1)) (g : xb_G X k n w lv (pc + 1) (.long (x >>> (y.toInt64 &&& 63)) :: st)) : xb_G X k n w lv pc (.int y :: .long x :: st) := by
  obtain ⟨p, l, e, R, s, m, args, below, meth, c, A, Q, nL', D'⟩ := X
  obtain ⟨hx, hb, hr, hml, hown, hts, hlk, hK, hE, hA, rfl, rfl, rfl⟩ := C
  intro H locs ls hP hD hS hl
  exact lv_lshr hx hb hd rfl (g H locs ls hP hD hS hl)
theorem xi_i2l (C : xb_OK X cc ws own rm ret nL tys D) {x : Int32} (hd : decode cc pc = .ok (.i2l, 1)) (g : xb_G X k n w lv (pc + 1) (.long x.toInt64 :: st)) : xb_G X k n w lv pc (.int x :: st) := by
  obtain ⟨p, l, e, R, s, m, args, below, meth, c, A, Q, nL', D'⟩ := X
  obtain ⟨hx, hb, hr, hml, hown, hts, hlk, hK, hE, hA, rfl, rfl, rfl⟩ := C
  intro H locs ls hP hD hS hl
  exact lv_i2l hx hb hd rfl (g H locs ls hP hD hS hl)
theorem xi_l2i (C : xb_OK X cc ws own rm ret nL tys D) {x : Int64} (hd : decode cc pc = .ok (.l2i, 1)) (g : xb_G X k n w lv (pc + 1) (.int x.toInt32 :: st)) : xb_G X k n w lv pc (.long x :: st) := by
  obtain ⟨p, l, e, R, s, m, args, below, meth, c, A, Q, nL', D'⟩ := X
  obtain ⟨hx, hb, hr, hml, hown, hts, hlk, hK, hE, hA, rfl, rfl, rfl⟩ := C
  intro H locs ls hP hD hS hl
  exact lv_l2i hx hb hd rfl (g H locs ls hP hD hS hl)
theorem xi_lcmp (C : xb_OK X cc ws own rm ret nL tys D) {x y : Int64} (hd : decode cc pc = .ok (.lcmp, 1)) (g : xb_G X k n w lv (pc + 1) (.int (lg_cmp x y) :: st)) : xb_G X k n w lv pc (.long y :: .long x :: st) := by
  obtain ⟨p, l, e, R, s, m, args, below, meth, c, A, Q, nL', D'⟩ := X
  obtain ⟨hx, hb, hr, hml, hown, hts, hlk, hK, hE, hA, rfl, rfl, rfl⟩ := C
  intro H locs ls hP hD hS hl
  exact W.lcmp hx hb hd (g H locs ls hP hD hS hl)
theorem xi_ixor (C : xb_OK X cc ws own rm ret nL tys D) {x y : Int32} (hd : decode cc pc = .ok (.ixor, 1)) (g : xb_G X k n w lv (pc + 1) (.int (x ^^^ y) :: st)) : xb_G X k n w lv pc (.int y :: .int x :: st) := by
  obtain ⟨p, l, e, R, s, m, args, below, meth, c, A, Q, nL', D'⟩ := X
  obtain ⟨hx, hb, hr, hml, hown, hts, hlk, hK, hE, hA, rfl, rfl, rfl⟩ := C
  intro H locs ls hP hD hS hl
  exact lv_ixor hx hb hd (g H locs ls hP hD hS hl)
theorem xi_lald (C : xb_OK X cc ws own rm ret nL tys D) {a N : Nat} {i : Int32} {f : Nat → Int64} {cA : ClassId} (hd : decode cc pc = .ok (.laload, 1)) (q0 t0 : Nat) (ha : w[q0]? = some (a, .inl (cA, N, .inr (.inl f)))) (ht : tys[t0]? = some (cA, .long)) (j : Nat) (hi : i = nI j) (hj : j < N) (hN : N < 2 ^ 31) (g : xb_G X k n w lv (pc + 1) (.long (f j) :: st)) : xb_G X k n w lv pc (.int i :: .ref a :: st) := by
  subst hi
  obtain ⟨p, l, e, R, s, m, args, below, meth, c, A, Q, nL', D'⟩ := X
  obtain ⟨hx, hb, hr, hml, hown, hts, hlk, hK, hE, hA, rfl, rfl, rfl⟩ := C
  intro H locs ls hP hD hS hl
  refine va_lald hx hb hK hP q0 t0 ha ht (vp_in_nI hj hN) hd ?_
  rw [nI_clamp (Nat.lt_trans hj hN)]
  exact g H locs ls hP hD hS hl
theorem xi_last (C : xb_OK X cc ws own rm ret nL tys D) {a N : Nat} {i : Int32} {x : Int64} {f : Nat → Int64} {cA : ClassId} {w2 : va_W} (hd : decode cc pc = .ok (.lastore, 1)) (q0 t0 : Nat) (ha : w[q0]? = some (a, .inl (cA, N, .inr (.inl f)))) (ht : tys[t0]? = some (cA, .long)) (j : Nat) (hi : i = nI j) (hj : j < N) (hN : N < 2 ^ 31) (hw : w.set q0 (a, .inl (cA, N, .inr (.inl (vp_updL f j x)))) = w2) (g : xb_G X k n w2 lv (pc + 1) st) : xb_G X k n w lv pc (.long x :: .int i :: .ref a :: st) := by
  subst hi hw
  obtain ⟨p, l, e, R, s, m, args, below, meth, c, A, Q, nL', D'⟩ := X
  obtain ⟨hx, hb, hr, hml, hown, hts, hlk, hK, hE, hA, rfl, rfl, rfl⟩ := C
  intro H locs ls hP hD hS hl
  refine va_last hx hb hK hP hD hS q0 t0 ha ht (vp_in_nI hj hN) hd (fun H1 locs1 hP hD hS => ?_)
  rw [nI_clamp (Nat.lt_trans hj hN)] at hP hD
  exact g H1 locs1 ls hP hD hS hl
end XP
