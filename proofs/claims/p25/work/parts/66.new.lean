/-! making: objects, rows, the calls of constructors -/
theorem va_RA_inj {U : State} {c1 c2 : ClassId} {ty : FieldType} (h1 : va_RA U c1 ty) (h2 : va_RA U c2 ty) : c1 = c2 := by
  cases ty with
  | object C => obtain ⟨_, _, _, _, _, a⟩ := h1; obtain ⟨_, _, _, _, _, b⟩ := h2; exact Option.some.inj (a.symm.trans b)
  | _ => exact Option.some.inj (Eq.trans (Eq.symm h1) h2)
/-- a constructor stands: its name, and the row of boards can be made -/
def xb_OI (X : xb_C) : Prop := match X with
  | (_, _, _, _, s, _, _, _, meth, _, _, _, _, _) => meth.name = "<init>" ∧ va_AO RX0 s
def xb_QN (D : va_G) (P : va_W → Prop) (A : Nat → Prop) : Array Value → State → Outcome → State → Prop := va_Qv P (fun (w1 : va_W) (t : State) => va_P D vwCl w1 t.heap ∧ va_D A w1) A
def xb_FN (X : xb_C) (D : va_G) (P : va_W → Prop) (mc ms : Nat) : Prop := match X with
  | (_, _, _, _, s, _, args, below, _, _, A, Q, _, _) => Q = MQ below (xb_QN D P A) args s mc ms A
def xb_MN (cc : ByteArray) (ws : List Cond) (own : String) (rm : Room) (nL : Nat) (tys : List (ClassId × FieldType)) (D : va_G) (As : List Value) (w : va_W) (P : va_W → Prop) (mc ms : Nat) : Prop :=
  ∀ X : xb_C, xb_OK X cc ws own rm none nL tys D → xb_OI X → xb_FN X D P mc ms → xb_G X 0 0 w (lv_args 0 As) 0 []
theorem xb_WN_blind {D : va_G} {tys : List (ClassId × FieldType)} {w : va_W} {sz : Nat} {As : List Value} : FrameBlind (va_Pc As (fun U => xb_W D tys w sz U ∧ va_AO RX0 U)) := fun a U g mk q => by
  obtain ⟨q0, ⟨q1, qP, qK, qD, qE⟩, q2⟩ := q
  exact ⟨q0, ⟨q1, qP, va_K.moved (u := U) (U := U.calling g mk a) (Vm.Alike.refl U.vm) qK, qD, xb_E_calling qE⟩, va_AO.moved (u := U) (U := U.calling g mk a) (Vm.Alike.refl U.vm) q2⟩
theorem xb_metN {y : MethodName} {cc : ByteArray} {ws ws' : List Cond} {rm : Room} {nL mc ms : Nat} {tys : List (ClassId × FieldType)} {D : va_G} {As : List Value} {w : va_W} {P : va_W → Prop}
    (M : xb_MN cc ws y.cls rm nL tys D As w P mc ms) (hy : plainName y.cls = true) (hi : y.name = "<init>") (hw : ws = Cond.code y cc nL none :: ws') (hlen : (lg_sl As).length ≤ nL) (l : Launch) (sz : Nat) : Met l y ws rm (va_Pc As (fun U => xb_W D tys w sz U ∧ va_AO RX0 U)) (xb_QN D P (va_A w sz)) mc ms (va_A w sz) := by
  refine Met.ofW (cc := cc) (maxL := nL) (ret := none) hy hw ?_
  intro p e s m args below meth c s₁ B hml hv
  obtain ⟨rfl, ⟨hsz, hP, hK, hD0, hE⟩, hO⟩ := hv
  subst hsz
  rw [lg_entry_eq]
  exact M (p, l, e, (headSpec ws rm).room, s, m, As.toArray, below, meth, c, va_A w s.heap.size, MQ below (xb_QN D P (va_A w s.heap.size)) As.toArray s mc ms (va_A w s.heap.size), nL, D)
    ⟨B.exec, B.bytes, B.returns, hml, findClass_of_methodNamed B.named, atoms_spec (ws := ws) B.pre, B.notSynchronized, hK, hE, fun q h => Or.inr h, rfl, rfl, rfl⟩ ⟨(name_of_methodNamed B.named B.method).1.trans hi, hO⟩ rfl
    s.heap [] _ hP hD0.self va_S.rf (lv_entry As hlen)
section XN
variable {X : xb_C} {k n : Nat} {w : va_W} {lv : List (Nat × Value)} {pc : Nat} {st : List Value} {cc : ByteArray} {ws : List Cond} {own : String} {rm : Room} {ret : Option FieldType} {nL : Nat} {tys : List (ClassId × FieldType)} {D : va_G}
theorem xi_new (C : xb_OK X cc ws own rm ret nL tys D) {index ci N : Nat} {Cn : String} {T : u_T} {fs : List Value} (hd : decode cc pc = .ok (.new index, 3)) (hin : ∀ w ∈ u_ws Cn T N, w ∈ ws) (ty : Nat → FieldType) (hty : ∀ k, k < N → parseFieldDescriptor (T k).2.2.1 = some (ty k)) (h1 : Cond.classLink own index Cn ∈ ws) (h2 : Cond.instantiable Cn N ∈ ws) (h3 : Cond.initialized Cn ∈ ws) (hc : vwCl[ci]? = some (Cn, T, N)) (hfs : ∀ j, j < N → defaultValue (ty j) = vp_V fs j) (hk : k + 1 ≤ rm.cells) (hn : n + N ≤ rm.slots) (g : ∀ q : Nat, xb_G X (k + 1) (n + N) (w ++ [(q, .inr (ci, fs))]) lv (pc + 3) (.ref q :: st)) : xb_G X k n w lv pc st := by
  obtain ⟨p, l, e, R, s, m, args, below, meth, c, A, Q, nL', D'⟩ := X
  obtain ⟨hx, hb, hr, hml, hown, hts, hlk, hK, hE, hA, rfl, rfl, rfl⟩ := C
  intro H locs ls hP hD hS hl
  exact va_new hx hb hts hin ty hty hown (hts _ h1) (hts _ h2) (hts _ h3) hK hP hD hS hA hc hfs hk hn hd (fun q H1 hP hD hS => g q H1 locs ls hP hD hS hl)
theorem xi_newa (C : xb_OK X cc ws own rm ret nL tys D) {atype : ArrayType} {ty : FieldType} {N : Nat} {nn : Int32} {a0 : vp_A} {cA : ClassId} (hd : decode cc pc = .ok (.newarray atype, 2)) (h1 : Cond.arrayClass (newarray.typeOf atype) ∈ ws) (hty : newarray.typeOf atype = ty) (t0 : Nat) (ht : tys[t0]? = some (cA, ty)) (ha : ∀ cA : ClassId, vp_cell cA a0 = arrV cA N (fun _ => defaultValue ty)) (hneg : ¬ nn < 0) (hN : nn.toNatClampNeg = N) (hby : N * componentBytes ty ≤ 536870912) (hk : k + 1 ≤ rm.cells) (hn : n + N ≤ rm.slots) (g : ∀ q : Nat, xb_G X (k + 1) (n + N) (w ++ [(q, .inl (cA, a0))]) lv (pc + 2) (.ref q :: st)) : xb_G X k n w lv pc (.int nn :: st) := by
  obtain ⟨p, l, e, R, s, m, args, below, meth, c, A, Q, nL', D'⟩ := X
  obtain ⟨hx, hb, hr, hml, hown, hts, hlk, hK, hE, hA, rfl, rfl, rfl⟩ := C
  intro H locs ls hP hD hS hl
  refine va_newa hx hb (hts _ h1) hty hK hP hD hS hA ha hneg hN hby hk hn hd (fun q cA' H1 hK' hP hD hS => ?_)
  have e1 := (hK.2 t0 _ ht).2
  have e2 := (hK'.2 tys.length (cA', ty) (by simp)).2
  have e3 : cA = cA' := va_RA_inj e1 e2
  subst e3
  exact g q H1 locs ls hP hD hS hl
theorem xi_newq (C : xb_OK X cc ws own rm ret nL tys D) (I : xb_OI X) {index N : Nat} {nn : Int32} {cA : ClassId} (hd : decode cc pc = .ok (.anewarray index, 3)) (h1 : Cond.classLink own index RX0 ∈ ws) (t0 : Nat) (ht : tys[t0]? = some (cA, .object RX0)) (hneg : ¬ nn < 0) (hN : nn.toNatClampNeg = N) (hby : N * 4 ≤ 536870912) (hk : k + 1 ≤ rm.cells) (hn : n + N ≤ rm.slots) (g : ∀ q : Nat, xb_G X (k + 1) (n + N) (w ++ [(q, .inl (cA, N, .inr (.inr (.inr (.inr (fun _ => none))))))]) lv (pc + 3) (.ref q :: st)) : xb_G X k n w lv pc (.int nn :: st) := by
  obtain ⟨p, l, e, R, s, m, args, below, meth, c, A, Q, nL', D'⟩ := X
  obtain ⟨hx, hb, hr, hml, hown, hts, hlk, hK, hE, hA, rfl, rfl, rfl⟩ := C
  obtain ⟨-, hO⟩ := I
  intro H locs ls hP hD hS hl
  refine va_newq hx hb hown (hts _ h1) hO hK hP hD hS hA hneg hN hby hk hn hd (fun q cA' H1 hK' hP hD hS => ?_)
  have e1 := (hK.2 t0 _ ht).2
  have e2 := (hK'.2 tys.length (cA', .object RX0) (by simp)).2
  have e3 : cA = cA' := va_RA_inj e1 e2
  subst e3
  exact g q H1 locs ls hP hD hS hl
theorem xi_putF (C : xb_OK X cc ws own rm ret nL tys D) (I : xb_OI X) {a ci N index : Nat} {fs : List Value} {v : Value} {cls : String} {T : u_T} {ty : FieldType} {w2 : va_W} (hd : decode cc pc = .ok (.putfield index, 3)) (hin : ∀ w ∈ u_ws cls T N, w ∈ ws) (ty0 : Nat → FieldType) (hty : ∀ k, k < N → parseFieldDescriptor (T k).2.2.1 = some (ty0 k)) (hnm : ∀ a, a < N → ∀ b, b < N → a ≠ b → (T a).2.1 ≠ (T b).2.1) (q0 : Nat) (he : w[q0]? = some (a, .inr (ci, fs))) (hc : vwCl[ci]? = some (cls, T, N)) (j : Nat) (hj : j < N) (hw : Cond.fieldLink own index (T j).1 (T j).2.1 (T j).2.2.1 ∈ ws) (hfin : (T j).2.2.2 = true) (hdecl : (T j).1 = own) (hdt : parseFieldDescriptor (T j).2.2.1 = some ty) (hn : narrow ty v = v) (hfit : fits ty v = true) (hlen : j < fs.length) (hw2 : w.set q0 (a, .inr (ci, fs.set j v)) = w2) (g : xb_G X k n w2 lv (pc + 3) st) : xb_G X k n w lv pc (v :: .ref a :: st) := by
  subst hw2
  obtain ⟨p, l, e, R, s, m, args, below, meth, c, A, Q, nL', D'⟩ := X
  obtain ⟨hx, hb, hr, hml, hown, hts, hlk, hK, hE, hA, rfl, rfl, rfl⟩ := C
  obtain ⟨hi, -⟩ := I
  intro H locs ls hP hD hS hl
  exact va_putF hx hb hts hin ty0 hty hnm hown hK hP hD hS q0 he hc j hj (hts _ hw) (fun _ h9 => h9) hfin hi hdecl hdt hn hfit hlen hd (fun H1 locs1 hP hD hS => g H1 locs1 ls hP hD hS hl)
theorem xi_obj (C : xb_OK X cc ws own rm ret nL tys D) {index a : Nat} (hd : decode cc pc = .ok (.invokespecial index, 3)) (h1 : Cond.methodLink own index objectInit ∈ ws) (h2 : Cond.instanceMethod objectInit ∈ ws) (h3 : Cond.code objectInit ⟨#[0xb1]⟩ 1 none ∈ ws) (hf : 1 ≤ rm.frames) (hlo : (st.map fun v => v.category).sum + 12 ≤ rm.locals) (g : xb_G X k n w lv (pc + 3) st) : xb_G X k n w lv pc (.ref a :: st) := by
  obtain ⟨p, l, e, R, s, m, args, below, meth, c, A, Q, nL', D'⟩ := X
  obtain ⟨hx, hb, hr, hml, hown, hts, hlk, hK, hE, hA, rfl, rfl, rfl⟩ := C
  intro H locs ls hP hD hS hl
  refine W.objInit hx hb hown (hts _ h1) (hts _ h2) (hts _ h3) (g := F0 m pc ls (.ref a :: st)) rfl (by rw [hml]; exact hl.1) rfl hd hf (by show 2 * 0 + _ + 12 ≤ _; omega) ?_
  exact W.eq (g2 := F0 m (pc + 3) ls st) rfl (g H locs ls hP hD hS hl)
theorem xi_retN (C : xb_OK X cc ws own rm none nL tys D) {P : va_W → Prop} (Z : xb_FN X D P k n) (hp : P w) (hd : decode cc pc = .ok (.return_, 1)) : xb_G X k n w lv pc [] := by
  obtain ⟨p, l, e, R, s, m, args, below, meth, c, A, Q, nL', D'⟩ := X
  obtain ⟨hx, hb, hr, hml, hown, hts, hlk, hK, hE, hA, rfl, rfl, rfl⟩ := C
  have Z : Q = MQ below (xb_QN D' P A) args s k n A := Z
  subst Z
  intro H locs ls hP hD hS hl
  exact W.vret hx hb hr (fun t ht _ => ⟨⟨w, rfl, hp, by rw [ht]; exact hP, hD⟩, hS.F ht⟩) hS.2.2 hd hlk
theorem xb_rg (w0 wc : va_W) : (List.range w0.length).map (fun i => (w0 ++ wc)[i]?) = w0.map some := by
  apply List.ext_getElem?
  intro i
  by_cases h : i < w0.length
  · simp [h, List.getElem?_append_left h]
  · rw [List.getElem?_eq_none (by simp; omega), List.getElem?_eq_none (by simp; omega)]
theorem xb_nd_of : ∀ (l : List Nat), l.Nodup → va_nd l = true
  | [], _ => rfl
  | a :: l, h => by
    obtain ⟨h1, h2⟩ := List.nodup_cons.mp h
    simp only [va_nd, Bool.and_eq_true, decide_eq_true_eq]
    exact ⟨h1, xb_nd_of l h2⟩
theorem xb_goN {p : Program} {l : Launch} {e : Jvm.Env} {R : Room} {s : State} {m : MethodId} {args : Array Value} {below : List Frame} {meth : Method} {c : Code} {A : Nat → Prop} {Q : State → Prop} {H : Heap} {locs : List Loc} {ls : Array Slot} {rest : List Value} {w0 : va_W} {cl : Nat × va_E} {P : va_W → Prop} {a : Array Value} {mc ms : Nat} {D : va_G} {st : List Value}
    (run : va_Run p l e R s m args below meth c H locs k n mc ms (F0 m pc ls st) rest (xb_QN D P (va_A [cl] H.size) a) (va_A [cl] H.size)) (hP : va_P D vwCl (w0 ++ [cl]) H) (hD : va_D A (w0 ++ [cl])) (hS : va_S A s.heap H locs) (hF : ∀ q, va_A [cl] H.size q → A q)
    (kk : ∀ (w1 : va_W) (H1 : Heap) (locs1 : List Loc), P w1 → va_P D vwCl (w0 ++ w1) H1 → va_D A (w0 ++ w1) → va_S A s.heap H1 locs1 → W p l e R s m args below meth c H1 locs1 (k + mc) (n + ms) Q (F0 m (pc + 3) ls rest)) : W p l e R s m args below meth c H locs k n Q (F0 m pc ls st) := by
  refine va_callv run hS (fun q _ h => hF q h) hF (fun w1 t H1 locs1 ht hvm hw hB hz1 hk1 hS => ?_)
  obtain ⟨hP1, hD1⟩ := hB
  rw [ht] at hP1
  obtain ⟨hP, hD⟩ := va_join (wr := w0) (w1 := w1) hP hD [w0.length] (List.range w0.length) (by simp) (xb_rg w0 [cl]) (xb_nd_of _ List.nodup_range) (fun i hi => by simp at hi ⊢; omega) hk1 hF hP1 hD1
  exact kk w1 H1 locs1 hw hP hD hS
theorem xi_callI (C : xb_OK X cc ws own rm ret nL tys D) {y : MethodName} {bytes : ByteArray} {wsy wsy' : List Cond} {maxL index mc ms : Nat} {rmy : Room} {tysy : List (ClassId × FieldType)} {rest : List Value} {b : Nat} {e0 : va_E} {w0 : va_W} {P : va_W → Prop} (I : ∀ s : State, (match X with | (_, _, _, _, s', _, _, _, _, _, _, _, _, _) => s' = s) → va_AO RX0 s) (M : xb_MN bytes wsy y.cls rmy maxL tysy D [.ref b] [(b, e0)] P mc ms) (hpl : plainName y.cls = true) (hi : y.name = "<init>") (hws : wsy = Cond.code y bytes maxL none :: wsy') (hy : y.cls ≠ "java/lang/invoke/MethodHandle" ∧ y.cls ≠ "java/lang/invoke/VarHandle" ∧ (parseMethodDescriptor y.desc).map (fun d => d.parameters.length) = some 0) (h01 : rmy.cells = mc) (h02 : rmy.slots = ms) (hT : GoodIn ws wsy) (h1 : Cond.initialized y.cls ∈ ws) (h2 : Cond.methodLink own index y ∈ ws) (h3 : Cond.instanceMethod y ∈ ws) (hd : decode cc pc = .ok (.invokespecial index, 3)) (hR : rmy.frames + 1 ≤ rm.frames ∧ 8 + (maxL + 11) + rmy.locals ≤ rm.locals ∧ 1 ≤ maxL) (ts : List Nat) (hts' : ts.filterMap (fun i => tys[i]?) = tysy) (hw : w = w0 ++ [(b, e0)]) (hcat : (rest.map fun v => v.category).sum ≤ 8) (hk : k + mc ≤ rm.cells ∧ n + ms ≤ rm.slots) (g : ∀ w1 : va_W, P w1 → xb_G X (k + mc) (n + ms) (w0 ++ w1) lv (pc + 3) rest) : xb_G X k n w lv pc (.ref b :: rest) := by
  subst hw
  obtain ⟨p, l, e, R, s, m, args, below, meth, c, A, Q, nL', D'⟩ := X
  obtain ⟨hx, hb, hr, hml, hown, hts, hlk, hK, hE, hA, rfl, rfl, rfl⟩ := C
  have hO := I s rfl
  intro H locs ls hP hD hS hl
  have hF := va_free (wc := [(b, e0)]) hD hS hA [w0.length] (by simp)
  have hm := xb_metN M hpl hi hws (show (lg_sl [.ref b]).length ≤ maxL from hR.2.2) l H.size
  exact xb_goN (va_runI (nL := nL') (As := []) (rest := rest) ⟨hx, hb, hml, hown, hts⟩ hm (cwI 0 hts hT hws h01 h02 (hts _ h1) (hts _ h2) (hts _ h3) hi hy ⟨hR.1, hR.2.1⟩)
    ⟨xb_WN_blind, fun U hU hW => ⟨rfl, ⟨by rw [hU], by rw [hU]; exact hP.sub [w0.length] (by simp), va_K.moved hW.alike (hK.sub ts hts'), (hD.sub [w0.length] rfl (by simp)).weaken (fun _ _ _ _ => trivial), xb_E_to hE hS hU hW hF⟩, va_AO.moved hW.alike hO⟩⟩ rfl rfl hl.1 rfl (lv_room hcat) hd hk)
    hP hD hS hF (fun w1 H1 locs1 hw1 hP hD hS => g w1 hw1 H1 locs1 ls hP hD hS hl)
theorem xi_callIN (C : xb_OK X cc ws own rm ret nL tys D) {y : MethodName} {bytes : ByteArray} {wsy wsy' : List Cond} {maxL index mc ms : Nat} {rmy : Room} {tysy : List (ClassId × FieldType)} {rest : List Value} {b : Nat} {e0 : va_E} {w0 : va_W} {P : va_W → Prop} (I : ∀ s : State, (match X with | (_, _, _, _, s', _, _, _, _, _, _, _, _, _) => s' = s) → va_AO RX0 s) (M : xb_MN bytes wsy y.cls rmy maxL tysy D [.ref b] [(b, e0)] P mc ms) (hpl : plainName y.cls = true) (hi : y.name = "<init>") (hws : wsy = Cond.code y bytes maxL none :: wsy') (hy : y.cls ≠ "java/lang/invoke/MethodHandle" ∧ y.cls ≠ "java/lang/invoke/VarHandle" ∧ (parseMethodDescriptor y.desc).map (fun d => d.parameters.length) = some 0) (h01 : rmy.cells = mc) (h02 : rmy.slots = ms) (hT : GoodIn ws wsy) (h1 : Cond.initialized y.cls ∈ ws) (h2 : (own, index, y) ∈ xb_nl) (h3 : Cond.instanceMethod y ∈ ws) (hd : decode cc pc = .ok (.invokespecial index, 3)) (hR : rmy.frames + 1 ≤ rm.frames ∧ 8 + (maxL + 11) + rmy.locals ≤ rm.locals ∧ 1 ≤ maxL) (ts : List Nat) (hts' : ts.filterMap (fun i => tys[i]?) = tysy) (hw : w = w0 ++ [(b, e0)]) (hcat : (rest.map fun v => v.category).sum ≤ 8) (hk : k + mc ≤ rm.cells ∧ n + ms ≤ rm.slots) (g : ∀ w1 : va_W, P w1 → xb_G X (k + mc) (n + ms) (w0 ++ w1) lv (pc + 3) rest) : xb_G X k n w lv pc (.ref b :: rest) := by
  subst hw
  obtain ⟨p, l, e, R, s, m, args, below, meth, c, A, Q, nL', D'⟩ := X
  obtain ⟨hx, hb, hr, hml, hown, hts, hlk, hK, hE, hA, rfl, rfl, rfl⟩ := C
  have hO := I s rfl
  intro H locs ls hP hD hS hl
  have hF := va_free (wc := [(b, e0)]) hD hS hA [w0.length] (by simp)
  have hm := xb_metN M hpl hi hws (show (lg_sl [.ref b]).length ≤ maxL from hR.2.2) l H.size
  exact xb_goN (va_runIN (nL := nL') (As := []) (rest := rest) ⟨hx, hb, hml, hown, hts⟩ hm ⟨va_cnB 0 hts hT hws h01 h02 (hE.1 _ h2) (hts _ h1) hy ⟨hR.1, hR.2.1⟩, hi, hts _ h3⟩
    ⟨xb_WN_blind, fun U hU hW => ⟨rfl, ⟨by rw [hU], by rw [hU]; exact hP.sub [w0.length] (by simp), va_K.moved hW.alike (hK.sub ts hts'), (hD.sub [w0.length] rfl (by simp)).weaken (fun _ _ _ _ => trivial), xb_E_to hE hS hU hW hF⟩, va_AO.moved hW.alike hO⟩⟩ rfl rfl hl.1 rfl (lv_room hcat) hd hk)
    hP hD hS hF (fun w1 H1 locs1 hw1 hP hD hS => g w1 hw1 H1 locs1 ls hP hD hS hl)
end XN
