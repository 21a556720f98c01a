/-! a call on an object, told by a step of its state; what only tells may leave other numbers in the places where it reckons -/
def W5m (cI cC cR : ClassId) (ad : Nat → Nat) (ha : Nat → Nat → Nat) (m : xMu) (Dp Bt Sq : Nat → Int32) (se : Int32) : va_W := W5 cI cC cR ad ha m.2.2.2.1 m.1 m.2.1 m.2.2.1 m.2.2.2.2.1 m.2.2.2.2.2.1 m.2.2.2.2.2.2.1 m.2.2.2.2.2.2.2.1 Dp Bt Sq se m.2.2.2.2.2.2.2.2.1 m.2.2.2.2.2.2.2.2.2.1 m.2.2.2.2.2.2.2.2.2.2
def oG (X : xb_C) (k n : Nat) (cI cC cR : ClassId) (ad : Nat → Nat) (ha : Nat → Nat → Nat) (m : xMu) (B : va_W) (lv : List (Nat × Value)) (pc : Nat) (st : List Value) : Prop := ∀ (Dp Bt Sq : Nat → Int32) (se : Int32), xb_G X k n (W5m cI cC cR ad ha m Dp Bt Sq se ++ B) lv pc st
/-- where the law's methods stand: their words among which are the law's, the arrays' classes, room for calls of the class -/
def xb_LW (X : xb_C) (cc : ByteArray) (ws : List Cond) (rm : Room) (ret : Option FieldType) (nL : Nat) (tys : List (ClassId × FieldType)) (D : va_G) (cI cC cZ cR : ClassId) : Prop := xb_OK X cc ws RL rm ret nL tys D ∧ (∀ w ∈ wsL_law, w ∈ ws) ∧ [0, 1, 2, 3].filterMap (fun i => tys[i]?) = xb_ty cI cC cZ cR ∧ 7 ≤ rm.frames ∧ 190 ≤ rm.locals
theorem gMono {a b c : List Cond} (h : ∀ w ∈ a, w ∈ b) (g : GoodIn a c) : GoodIn b c := fun w hw => ⟨h w (g w hw).1, (g w hw).2⟩
/-- what is known of a state: it is one that another reading has too -/
def GG (m : xMu) : Prop := ∃ (st ik le : Int32) (now pst snp txt : Nat → Int32), RR m.1 m.2.2.1 m.2.2.2.1 m.2.2.2.2.1 m.2.2.2.2.2.1 m.2.2.2.2.2.2.1 m.2.2.2.2.2.2.2.2.1 m.2.2.2.2.2.2.2.2.2.1 st ik le now pst snp txt
section TL
theorem te_cell {m : xMu} (J : GG m) {p1 p2 v : Int32} {r : (Nat → Int32) × (Nat → Int32) × Int32} (h : f_X5_cell m.1 z0 z0 0 p1 p2 = some (v, r)) (Dp Sq : Nat → Int32) (se : Int32) : ∃ Dp' Sq' se', f_X5_cell m.1 Dp Sq se p1 p2 = some (v, Dp', Sq', se') := by
  obtain ⟨st, ik, le, now, pst, snp, txt, R⟩ := J
  obtain ⟨va, Dp'a, Sq'a, se'a, dep'a, bit'a, a1, a2⟩ := o_cell R z0 z0 z0 z0 0 p1 p2
  obtain ⟨vb, Dp'b, Sq'b, se'b, dep'b, bit'b, b1, b2⟩ := o_cell R Dp Sq z0 z0 se p1 p2
  rw [a2] at b2
  rw [h] at a1
  have e1 : v = va := (Prod.mk.inj (Option.some.inj a1)).1
  have e2 : va = vb := (Prod.mk.inj (Option.some.inj b2)).1
  rw [e1, e2]
  exact ⟨_, _, _, b1⟩
theorem te_answer {m : xMu} (J : GG m) {p1 p2 v : Int32} {r : (Nat → Int32) × (Nat → Int32) × (Nat → Int32) × Int32} (h : f_X5_answer m.1 z0 z0 z0 0 p1 p2 = some (v, r)) (Dp Bt Sq : Nat → Int32) (se : Int32) : ∃ Dp' Bt' Sq' se', f_X5_answer m.1 Dp Bt Sq se p1 p2 = some (v, Dp', Bt', Sq', se') := by
  obtain ⟨st, ik, le, now, pst, snp, txt, R⟩ := J
  obtain ⟨va, Dp'a, Bt'a, Sq'a, se'a, dep'a, bit'a, a1, a2⟩ := o_answer R z0 z0 z0 z0 z0 0 p1 p2
  obtain ⟨vb, Dp'b, Bt'b, Sq'b, se'b, dep'b, bit'b, b1, b2⟩ := o_answer R Dp Bt Sq z0 z0 se p1 p2
  rw [a2] at b2
  rw [h] at a1
  have e1 : v = va := (Prod.mk.inj (Option.some.inj a1)).1
  have e2 : va = vb := (Prod.mk.inj (Option.some.inj b2)).1
  rw [e1, e2]
  exact ⟨_, _, _, _, b1⟩
theorem te_ones {m : xMu} (J : GG m) {p1 v : Int32} {r : (Nat → Int32) × (Nat → Int32) × (Nat → Int32) × Int32} (h : f_X5_ones m.1 z0 z0 z0 0 p1 = some (v, r)) (Dp Bt Sq : Nat → Int32) (se : Int32) : ∃ Dp' Bt' Sq' se', f_X5_ones m.1 Dp Bt Sq se p1 = some (v, Dp', Bt', Sq', se') := by
  obtain ⟨st, ik, le, now, pst, snp, txt, R⟩ := J
  obtain ⟨va, Dp'a, Bt'a, Sq'a, se'a, dep'a, bit'a, a1, a2⟩ := o_ones R z0 z0 z0 z0 z0 0 p1
  obtain ⟨vb, Dp'b, Bt'b, Sq'b, se'b, dep'b, bit'b, b1, b2⟩ := o_ones R Dp Bt Sq z0 z0 se p1
  rw [a2] at b2
  rw [h] at a1
  have e1 : v = va := (Prod.mk.inj (Option.some.inj a1)).1
  have e2 : va = vb := (Prod.mk.inj (Option.some.inj b2)).1
  rw [e1, e2]
  exact ⟨_, _, _, _, b1⟩
theorem te_count {m : xMu} (J : GG m) {p1 v : Int32} {r : (Nat → Int32) × (Nat → Int32) × Int32} (h : f_X5_count m.1 m.2.2.2.2.1 z0 z0 0 m.2.2.2.2.2.2.2.2.2.1 p1 = some (v, r)) (Dp Sq : Nat → Int32) (se : Int32) : ∃ Dp' Sq' se', f_X5_count m.1 m.2.2.2.2.1 Dp Sq se m.2.2.2.2.2.2.2.2.2.1 p1 = some (v, Dp', Sq', se') := by
  obtain ⟨st, ik, le, now, pst, snp, txt, R⟩ := J
  obtain ⟨va, Dp'a, Sq'a, se'a, hld'a, dep'a, bit'a, a1, a2⟩ := o_count R z0 z0 z0 z0 z0 0 p1
  obtain ⟨vb, Dp'b, Sq'b, se'b, hld'b, dep'b, bit'b, b1, b2⟩ := o_count R Dp Sq z0 z0 z0 se p1
  rw [a2] at b2
  rw [h] at a1
  have e1 : v = va := (Prod.mk.inj (Option.some.inj a1)).1
  have e2 : va = vb := (Prod.mk.inj (Option.some.inj b2)).1
  rw [e1, e2]
  exact ⟨_, _, _, b1⟩
end TL
section GS
theorem gg_0 {a1 a2 a3 : Nat} {v : Int32} {m m' : xMu} (J : GG m) (h : qf_0 a1 a2 a3 m = some (v, m')) : GG m' := by
  unfold qf_0 at h
  obtain ⟨⟨v0, b', hn', pm', hb'⟩, e, h⟩ := ob_i h
  have w0 := Option.some.inj h
  obtain ⟨q0, w1⟩ := Prod.mk.inj w0
  subst w1
  obtain ⟨st, ik, le, now, pst, snp, txt, R⟩ := J
  obtain ⟨vz, b'z, hn'z, pm'z, hb'z, st'z, now'z, pst'z, a1, a2, R'⟩ := o_put R (nI a1) (nI a2)
  rw [a1] at e
  have w2 := Option.some.inj e
  obtain ⟨z0, y0⟩ := Prod.mk.inj w2
  obtain ⟨z1, y1⟩ := Prod.mk.inj y0
  obtain ⟨z2, y2⟩ := Prod.mk.inj y1
  obtain ⟨z3, y3⟩ := Prod.mk.inj y2
  rw [z1, z2, z3, y3] at R'
  exact ⟨_, _, _, _, _, _, _, R'⟩
theorem gg_1 {a1 a2 a3 : Nat} {v : Int32} {m m' : xMu} (J : GG m) (h : qf_1 a1 a2 a3 m = some (v, m')) : GG m' := by
  unfold qf_1 at h
  obtain ⟨⟨v0, b', hn', pm', hb'⟩, e, h⟩ := ob_i h
  have w0 := Option.some.inj h
  obtain ⟨q0, w1⟩ := Prod.mk.inj w0
  subst w1
  obtain ⟨st, ik, le, now, pst, snp, txt, R⟩ := J
  obtain ⟨vz, b'z, hn'z, pm'z, hb'z, st'z, now'z, pst'z, a1, a2, R'⟩ := o_take R (nI a1)
  rw [a1] at e
  have w2 := Option.some.inj e
  obtain ⟨z0, y0⟩ := Prod.mk.inj w2
  obtain ⟨z1, y1⟩ := Prod.mk.inj y0
  obtain ⟨z2, y2⟩ := Prod.mk.inj y1
  obtain ⟨z3, y3⟩ := Prod.mk.inj y2
  rw [z1, z2, z3, y3] at R'
  exact ⟨_, _, _, _, _, _, _, R'⟩
theorem gg_2 {a1 a2 a3 : Nat} {v : Int32} {m m' : xMu} (J : GG m) (h : qf_2 a1 a2 a3 m = some (v, m')) : GG m' := by
  unfold qf_2 at h
  obtain ⟨⟨v0, b', hn', pm', hb'⟩, e, h⟩ := ob_i h
  have w0 := Option.some.inj h
  obtain ⟨q0, w1⟩ := Prod.mk.inj w0
  subst w1
  obtain ⟨st, ik, le, now, pst, snp, txt, R⟩ := J
  obtain ⟨vz, b'z, hn'z, pm'z, hb'z, st'z, now'z, pst'z, a1, a2, R'⟩ := o_setTable R (nI a1) (nI a2)
  rw [a1] at e
  have w2 := Option.some.inj e
  obtain ⟨z0, y0⟩ := Prod.mk.inj w2
  obtain ⟨z1, y1⟩ := Prod.mk.inj y0
  obtain ⟨z2, y2⟩ := Prod.mk.inj y1
  obtain ⟨z3, y3⟩ := Prod.mk.inj y2
  rw [z1, z2, z3, y3] at R'
  exact ⟨_, _, _, _, _, _, _, R'⟩
theorem gg_3 {a1 a2 a3 : Nat} {v : Int32} {m m' : xMu} (J : GG m) (h : qf_3 a1 a2 a3 m = some (v, m')) : GG m' := by
  unfold qf_3 at h
  obtain ⟨⟨v0, b', t', hn', pm', hb', K'⟩, e, h⟩ := ob_i h
  have w0 := Option.some.inj h
  obtain ⟨q0, w1⟩ := Prod.mk.inj w0
  subst w1
  obtain ⟨st, ik, le, now, pst, snp, txt, R⟩ := J
  obtain ⟨vz, b'z, t'z, hn'z, pm'z, hb'z, K'z, st'z, now'z, thn'z, pst'z, hld'z, far'z, a1, a2, R'⟩ := o_connect R m.2.1 m.2.2.2.2.2.2.2.1 z0 z0 z0 (nI a1) (nI a2) (nI a3)
  rw [a1] at e
  have w2 := Option.some.inj e
  obtain ⟨z0, y0⟩ := Prod.mk.inj w2
  obtain ⟨z1, y1⟩ := Prod.mk.inj y0
  obtain ⟨z2, y2⟩ := Prod.mk.inj y1
  obtain ⟨z3, y3⟩ := Prod.mk.inj y2
  obtain ⟨z4, y4⟩ := Prod.mk.inj y3
  obtain ⟨z5, y5⟩ := Prod.mk.inj y4
  rw [z1, z3, z4, z5] at R'
  exact ⟨_, _, _, _, _, _, _, R'⟩
theorem gg_4 {a1 a2 a3 : Nat} {v : Int32} {m m' : xMu} (J : GG m) (h : qf_4 a1 a2 a3 m = some (v, m')) : GG m' := by
  unfold qf_4 at h
  obtain ⟨⟨v0, b', t', hn', pm', hb', K'⟩, e, h⟩ := ob_i h
  have w0 := Option.some.inj h
  obtain ⟨q0, w1⟩ := Prod.mk.inj w0
  subst w1
  obtain ⟨st, ik, le, now, pst, snp, txt, R⟩ := J
  obtain ⟨vz, b'z, t'z, hn'z, pm'z, hb'z, K'z, st'z, now'z, thn'z, pst'z, H'z, F'z, D'z, a1, a2, R'⟩ := o_swap R m.2.1 m.2.2.2.2.2.2.2.1 z0 z0 z0 z0 (nI a1) (nI a2)
  rw [a1] at e
  have w2 := Option.some.inj e
  obtain ⟨z0, y0⟩ := Prod.mk.inj w2
  obtain ⟨z1, y1⟩ := Prod.mk.inj y0
  obtain ⟨z2, y2⟩ := Prod.mk.inj y1
  obtain ⟨z3, y3⟩ := Prod.mk.inj y2
  obtain ⟨z4, y4⟩ := Prod.mk.inj y3
  obtain ⟨z5, y5⟩ := Prod.mk.inj y4
  rw [z1, z3, z4, z5] at R'
  exact ⟨_, _, _, _, _, _, _, R'⟩
theorem gg_5 {a1 a2 a3 : Nat} {v : Int32} {m m' : xMu} (J : GG m) (h : qf_5 a1 a2 a3 m = some (v, m')) : GG m' := by
  unfold qf_5 at h
  obtain ⟨⟨v0, b', t', hn', pm', hb', K'⟩, e, h⟩ := ob_i h
  have w0 := Option.some.inj h
  obtain ⟨q0, w1⟩ := Prod.mk.inj w0
  subst w1
  obtain ⟨st, ik, le, now, pst, snp, txt, R⟩ := J
  obtain ⟨vz, b'z, t'z, hn'z, pm'z, hb'z, K'z, st'z, now'z, thn'z, pst'z, H'z, F'z, D'z, a1, a2, R'⟩ := o_layAnew R m.2.1 m.2.2.2.2.2.2.2.1 z0 z0 z0 z0 (nI a1)
  rw [a1] at e
  have w2 := Option.some.inj e
  obtain ⟨z0, y0⟩ := Prod.mk.inj w2
  obtain ⟨z1, y1⟩ := Prod.mk.inj y0
  obtain ⟨z2, y2⟩ := Prod.mk.inj y1
  obtain ⟨z3, y3⟩ := Prod.mk.inj y2
  obtain ⟨z4, y4⟩ := Prod.mk.inj y3
  obtain ⟨z5, y5⟩ := Prod.mk.inj y4
  rw [z1, z3, z4, z5] at R'
  exact ⟨_, _, _, _, _, _, _, R'⟩
theorem gg_6 {a1 a2 a3 : Nat} {v : Int32} {m m' : xMu} (J : GG m) (h : qf_6 a1 a2 a3 m = some (v, m')) : GG m' := by
  unfold qf_6 at h
  obtain ⟨⟨v0, b', hn', pm', hb'⟩, e, h⟩ := ob_i h
  have w0 := Option.some.inj h
  obtain ⟨q0, w1⟩ := Prod.mk.inj w0
  subst w1
  obtain ⟨st, ik, le, now, pst, snp, txt, R⟩ := J
  obtain ⟨vz, b'z, hn'z, pm'z, hb'z, st'z, now'z, pst'z, hld'z, a1, a2, R'⟩ := o_set R z0 (nI a1) (nI a2)
  rw [a1] at e
  have w2 := Option.some.inj e
  obtain ⟨z0, y0⟩ := Prod.mk.inj w2
  obtain ⟨z1, y1⟩ := Prod.mk.inj y0
  obtain ⟨z2, y2⟩ := Prod.mk.inj y1
  obtain ⟨z3, y3⟩ := Prod.mk.inj y2
  rw [z1, z2, z3, y3] at R'
  exact ⟨_, _, _, _, _, _, _, R'⟩
theorem gg_7 {a1 a2 a3 : Nat} {v : Int32} {m m' : xMu} (J : GG m) (h : qf_7 a1 a2 a3 m = some (v, m')) : GG m' := by
  unfold qf_7 at h
  obtain ⟨⟨v0, b', t', hn', pm', hb', K', at'⟩, e, h⟩ := ob_i h
  have w0 := Option.some.inj h
  obtain ⟨q0, w1⟩ := Prod.mk.inj w0
  subst w1
  obtain ⟨st, ik, le, now, pst, snp, txt, R⟩ := J
  obtain ⟨vz, b'z, t'z, hn'z, pm'z, hb'z, K'z, at'z, st'z, sp'z, nu'z, now'z, thn'z, pst'z, H'z, F'z, D'z, tld'z, a1, a2, R'⟩ := o_load R m.2.1 m.2.2.2.2.2.2.2.1 z0 z0 z0 z0 z0 m.2.2.2.2.2.2.2.2.2.2 0 0
  rw [a1] at e
  have w2 := Option.some.inj e
  obtain ⟨z0, y0⟩ := Prod.mk.inj w2
  obtain ⟨z1, y1⟩ := Prod.mk.inj y0
  obtain ⟨z2, y2⟩ := Prod.mk.inj y1
  obtain ⟨z3, y3⟩ := Prod.mk.inj y2
  obtain ⟨z4, y4⟩ := Prod.mk.inj y3
  obtain ⟨z5, y5⟩ := Prod.mk.inj y4
  obtain ⟨z6, y6⟩ := Prod.mk.inj y5
  rw [z1, z3, z4, z5] at R'
  exact ⟨_, _, _, _, _, _, _, R'⟩
theorem gg_8 {a1 a2 a3 : Nat} {v : Int32} {m m' : xMu} (J : GG m) (h : qf_8 a1 a2 a3 m = some (v, m')) : GG m' := by
  unfold qf_8 at h
  obtain ⟨⟨v0, Sg', ln'⟩, e, h⟩ := ob_i h
  have w0 := Option.some.inj h
  obtain ⟨q0, w1⟩ := Prod.mk.inj w0
  subst w1
  obtain ⟨st, ik, le, now, pst, snp, txt, R⟩ := J
  obtain ⟨vz, Sg'z, ln'z, le'z, txt'z, a1, a2, R'⟩ := o_type R (nI a1)
  rw [a1] at e
  have w2 := Option.some.inj e
  obtain ⟨z0, y0⟩ := Prod.mk.inj w2
  obtain ⟨z1, y1⟩ := Prod.mk.inj y0
  rw [z1, y1] at R'
  exact ⟨_, _, _, _, _, _, _, R'⟩
theorem gg_9 {a1 a2 a3 : Nat} {v : Int32} {m m' : xMu} (J : GG m) (h : qf_9 a1 a2 a3 m = some (v, m')) : GG m' := by
  unfold qf_9 at h
  obtain ⟨⟨v0, ln'⟩, e, h⟩ := ob_i h
  have w0 := Option.some.inj h
  obtain ⟨q0, w1⟩ := Prod.mk.inj w0
  subst w1
  obtain ⟨st, ik, le, now, pst, snp, txt, R⟩ := J
  obtain ⟨vz, ln'z, le'z, a1, a2, R'⟩ := o_clearText R 
  rw [a1] at e
  have w2 := Option.some.inj e
  obtain ⟨z0, y0⟩ := Prod.mk.inj w2
  rw [y0] at R'
  exact ⟨_, _, _, _, _, _, _, R'⟩
theorem gg_10 {a1 a2 a3 : Nat} {v : Int32} {m m' : xMu} (J : GG m) (h : qf_10 a1 a2 a3 m = some (v, m')) : GG m' := by
  unfold qf_10 at h
  obtain ⟨⟨v0, b', hn'⟩, e, h⟩ := ob_i h
  have w0 := Option.some.inj h
  obtain ⟨q0, w1⟩ := Prod.mk.inj w0
  subst w1
  obtain ⟨st, ik, le, now, pst, snp, txt, R⟩ := J
  obtain ⟨vz, b'z, hn'z, st'z, now'z, a1, a2, R'⟩ := o_undo R 
  rw [a1] at e
  have w2 := Option.some.inj e
  obtain ⟨z0, y0⟩ := Prod.mk.inj w2
  obtain ⟨z1, y1⟩ := Prod.mk.inj y0
  rw [z1, y1] at R'
  exact ⟨_, _, _, _, _, _, _, R'⟩
theorem gg_11 {a1 a2 a3 : Nat} {v : Int32} {m m' : xMu} (J : GG m) (h : qf_11 a1 a2 a3 m = some (v, m')) : GG m' := by
  unfold qf_11 at h
  obtain ⟨⟨v0, hs', s'⟩, e, h⟩ := ob_i h
  have w0 := Option.some.inj h
  obtain ⟨q0, w1⟩ := Prod.mk.inj w0
  subst w1
  obtain ⟨st, ik, le, now, pst, snp, txt, R⟩ := J
  obtain ⟨vz, hs'z, s'z, ik'z, snp'z, a1, a2, R'⟩ := o_keep R 
  rw [a1] at e
  have w2 := Option.some.inj e
  obtain ⟨z0, y0⟩ := Prod.mk.inj w2
  obtain ⟨z1, y1⟩ := Prod.mk.inj y0
  rw [z1, y1] at R'
  exact ⟨_, _, _, _, _, _, _, R'⟩
theorem gg_12 {a1 a2 a3 : Nat} {v : Int32} {m m' : xMu} (J : GG m) (h : qf_12 a1 a2 a3 m = some (v, m')) : GG m' := by
  unfold qf_12 at h
  obtain ⟨⟨v0, b', hn', pm', hb'⟩, e, h⟩ := ob_i h
  have w0 := Option.some.inj h
  obtain ⟨q0, w1⟩ := Prod.mk.inj w0
  subst w1
  obtain ⟨st, ik, le, now, pst, snp, txt, R⟩ := J
  obtain ⟨vz, b'z, hn'z, pm'z, hb'z, st'z, now'z, pst'z, a1, a2, R'⟩ := o_restore R 
  rw [a1] at e
  have w2 := Option.some.inj e
  obtain ⟨z0, y0⟩ := Prod.mk.inj w2
  obtain ⟨z1, y1⟩ := Prod.mk.inj y0
  obtain ⟨z2, y2⟩ := Prod.mk.inj y1
  obtain ⟨z3, y3⟩ := Prod.mk.inj y2
  rw [z1, z2, z3, y3] at R'
  exact ⟨_, _, _, _, _, _, _, R'⟩
theorem gg_13 {a1 a2 a3 : Nat} {v : Int32} {m m' : xMu} (J : GG m) (h : qf_13 a1 a2 a3 m = some (v, m')) : GG m' := by
  unfold qf_13 at h
  obtain ⟨⟨v0, Dp', Sq', se'⟩, e, h⟩ := ob_i h
  have w0 := Option.some.inj h
  obtain ⟨q0, w1⟩ := Prod.mk.inj w0
  subst w1
  exact J
theorem gg_14 {a1 a2 a3 : Nat} {v : Int32} {m m' : xMu} (J : GG m) (h : qf_14 a1 a2 a3 m = some (v, m')) : GG m' := by
  unfold qf_14 at h
  obtain ⟨v0, e, h⟩ := ob_i h
  have w0 := Option.some.inj h
  obtain ⟨q0, w1⟩ := Prod.mk.inj w0
  subst w1
  exact J
theorem gg_15 {a1 a2 a3 : Nat} {v : Int32} {m m' : xMu} (J : GG m) (h : qf_15 a1 a2 a3 m = some (v, m')) : GG m' := by
  unfold qf_15 at h
  obtain ⟨v0, e, h⟩ := ob_i h
  have w0 := Option.some.inj h
  obtain ⟨q0, w1⟩ := Prod.mk.inj w0
  subst w1
  exact J
theorem gg_16 {a1 a2 a3 : Nat} {v : Int32} {m m' : xMu} (J : GG m) (h : qf_16 a1 a2 a3 m = some (v, m')) : GG m' := by
  unfold qf_16 at h
  obtain ⟨⟨v0, Dp', Bt', Sq', se'⟩, e, h⟩ := ob_i h
  have w0 := Option.some.inj h
  obtain ⟨q0, w1⟩ := Prod.mk.inj w0
  subst w1
  exact J
theorem gg_17 {a1 a2 a3 : Nat} {v : Int32} {m m' : xMu} (J : GG m) (h : qf_17 a1 a2 a3 m = some (v, m')) : GG m' := by
  unfold qf_17 at h
  obtain ⟨⟨v0, Dp', Bt', Sq', se'⟩, e, h⟩ := ob_i h
  have w0 := Option.some.inj h
  obtain ⟨q0, w1⟩ := Prod.mk.inj w0
  subst w1
  exact J
theorem gg_18 {a1 a2 a3 : Nat} {v : Int32} {m m' : xMu} (J : GG m) (h : qf_18 a1 a2 a3 m = some (v, m')) : GG m' := by
  unfold qf_18 at h
  obtain ⟨⟨v0, t', K'⟩, e, h⟩ := ob_i h
  have w0 := Option.some.inj h
  obtain ⟨q0, w1⟩ := Prod.mk.inj w0
  subst w1
  exact J
theorem gg_19 {a1 a2 a3 : Nat} {v : Int32} {m m' : xMu} (J : GG m) (h : qf_19 a1 a2 a3 m = some (v, m')) : GG m' := by
  unfold qf_19 at h
  obtain ⟨⟨v0, t', K'⟩, e, h⟩ := ob_i h
  have w0 := Option.some.inj h
  obtain ⟨q0, w1⟩ := Prod.mk.inj w0
  subst w1
  exact J
theorem gg_20 {a1 a2 a3 : Nat} {v : Int32} {m m' : xMu} (J : GG m) (h : qf_20 a1 a2 a3 m = some (v, m')) : GG m' := by
  unfold qf_20 at h
  obtain ⟨⟨v0, t', K'⟩, e, h⟩ := ob_i h
  have w0 := Option.some.inj h
  obtain ⟨q0, w1⟩ := Prod.mk.inj w0
  subst w1
  exact J
theorem gg_21 {a1 a2 a3 : Nat} {v : Int32} {m m' : xMu} (J : GG m) (h : qf_21 a1 a2 a3 m = some (v, m')) : GG m' := by
  unfold qf_21 at h
  obtain ⟨⟨v0, Dp', Sq', se'⟩, e, h⟩ := ob_i h
  have w0 := Option.some.inj h
  obtain ⟨q0, w1⟩ := Prod.mk.inj w0
  subst w1
  exact J
theorem gg_q {op a1 a2 a3 : Nat} {v : Int32} {m m' : xMu} (hop : op ≤ 22) (J : GG m) (h : qf op a1 a2 a3 m = some (v, m')) : GG m' := by
  rcases (show op = 0 ∨ op = 1 ∨ op = 2 ∨ op = 3 ∨ op = 4 ∨ op = 5 ∨ op = 6 ∨ op = 7 ∨ op = 8 ∨ op = 9 ∨ op = 10 ∨ op = 11 ∨ op = 12 ∨ op = 13 ∨ op = 14 ∨ op = 15 ∨ op = 16 ∨ op = 17 ∨ op = 18 ∨ op = 19 ∨ op = 20 ∨ op = 21 ∨ op = 22 by omega) with rfl | rfl | rfl | rfl | rfl | rfl | rfl | rfl | rfl | rfl | rfl | rfl | rfl | rfl | rfl | rfl | rfl | rfl | rfl | rfl | rfl | rfl | rfl
  · exact gg_0 (a1 := a1) (a2 := a2) (a3 := a3) J h
  · exact gg_1 (a1 := a1) (a2 := a2) (a3 := a3) J h
  · exact gg_2 (a1 := a1) (a2 := a2) (a3 := a3) J h
  · exact gg_3 (a1 := a1) (a2 := a2) (a3 := a3) J h
  · exact gg_4 (a1 := a1) (a2 := a2) (a3 := a3) J h
  · exact gg_5 (a1 := a1) (a2 := a2) (a3 := a3) J h
  · exact gg_6 (a1 := a1) (a2 := a2) (a3 := a3) J h
  · exact gg_7 (a1 := a1) (a2 := a2) (a3 := a3) J h
  · exact gg_8 (a1 := a1) (a2 := a2) (a3 := a3) J h
  · exact gg_9 (a1 := a1) (a2 := a2) (a3 := a3) J h
  · exact gg_10 (a1 := a1) (a2 := a2) (a3 := a3) J h
  · exact gg_11 (a1 := a1) (a2 := a2) (a3 := a3) J h
  · exact gg_12 (a1 := a1) (a2 := a2) (a3 := a3) J h
  · exact gg_13 (a1 := a1) (a2 := a2) (a3 := a3) J h
  · exact gg_14 (a1 := a1) (a2 := a2) (a3 := a3) J h
  · exact gg_15 (a1 := a1) (a2 := a2) (a3 := a3) J h
  · exact gg_16 (a1 := a1) (a2 := a2) (a3 := a3) J h
  · exact gg_17 (a1 := a1) (a2 := a2) (a3 := a3) J h
  · exact gg_18 (a1 := a1) (a2 := a2) (a3 := a3) J h
  · exact gg_19 (a1 := a1) (a2 := a2) (a3 := a3) J h
  · exact gg_20 (a1 := a1) (a2 := a2) (a3 := a3) J h
  · exact gg_21 (a1 := a1) (a2 := a2) (a3 := a3) J h
  · have w0 := Option.some.inj h
    rw [← (Prod.mk.inj w0).2]
    exact J
end GS
section OW
variable {X : xb_C} {k n : Nat} {lv : List (Nat × Value)} {pc : Nat} {st : List Value} {cc : ByteArray} {ws : List Cond} {rm : Room} {ret : Option FieldType} {nL : Nat} {tys : List (ClassId × FieldType)} {D : va_G} {cI cC cZ cR : ClassId} {ad : Nat → Nat} {ha : Nat → Nat → Nat} {m m' : xMu} {B : va_W} {v : Int32} {a1 a2 a3 : Nat}
theorem ow_0 (C : xb_LW X cc ws rm ret nL tys D cI cC cZ cR) (J : GG m) (h : qf 0 a1 a2 a3 m = some (v, m')) (hd : decode cc pc = .ok (.invokevirtual 30, 3)) (hcat : (st.map fun v => v.category).sum ≤ 8) (hk : k ≤ rm.cells ∧ n ≤ rm.slots) (g : oG X k n cI cC cR ad ha m' B lv (pc + 3) (.int v :: st)) : oG X k n cI cC cR ad ha m B lv pc (.int (nI a2) :: .int (nI a1) :: .ref (ad 0) :: st) := by
  obtain ⟨C, hsub, hts, hf, hlo⟩ := C
  have h : qf_0 a1 a2 a3 m = some (v, m') := h
  unfold qf_0 at h
  obtain ⟨⟨v0, b', hn', pm', hb'⟩, e, h⟩ := ob_i h
  have w0 := Option.some.inj h
  obtain ⟨q0, w1⟩ := Prod.mk.inj w0
  subst q0
  subst w1
  intro Dp Bt Sq se
  exact xi_callV (As := [.int (nI a1), .int (nI a2)]) (o := some (.int v0)) (rest := st) (wc := (W5 cI cC cR ad ha m.2.2.2.1 m.1 m.2.1 m.2.2.1 m.2.2.2.2.1 m.2.2.2.2.2.1 m.2.2.2.2.2.2.1 m.2.2.2.2.2.2.2.1 Dp Bt Sq se m.2.2.2.2.2.2.2.2.1 m.2.2.2.2.2.2.2.2.2.1 m.2.2.2.2.2.2.2.2.2.2)) (w1 := (W5 cI cC cR ad ha m.2.2.2.1 b' m.2.1 m.2.2.1 hn' pm' hb' m.2.2.2.2.2.2.2.1 Dp Bt Sq se m.2.2.2.2.2.2.2.2.1 m.2.2.2.2.2.2.2.2.2.1 m.2.2.2.2.2.2.2.2.2.2)) (w2 := (W5 cI cC cR ad ha m.2.2.2.1 b' m.2.1 m.2.2.1 hn' pm' hb' m.2.2.2.2.2.2.2.1 Dp Bt Sq se m.2.2.2.2.2.2.2.2.1 m.2.2.2.2.2.2.2.2.2.1 m.2.2.2.2.2.2.2.2.2.2) ++ B) (st2 := .int v0 :: st) C k_X5_put (m_X5_put D cI cC cZ cR ad ha m.2.2.2.1 m.1 m.2.1 m.2.2.1 m.2.2.2.2.1 m.2.2.2.2.2.1 m.2.2.2.2.2.2.1 m.2.2.2.2.2.2.2.1 Dp Bt Sq se m.2.2.2.2.2.2.2.2.1 m.2.2.2.2.2.2.2.2.2.1 m.2.2.2.2.2.2.2.2.2.2 (nI a1) (nI a2) v0 b' hn' pm' hb' e) (gMono hsub gl_X5_put) hd ⟨by show 3 + 1 ≤ _; omega, by show 8 + (3 + 11) + 83 ≤ _; omega, Nat.le_of_ble_eq_true rfl⟩ 0 W5_h0 rfl (List.range 53) (xb_rgP _ _ 53 W5_len) (xb_nd_of _ List.nodup_range) [0, 1, 2, 3] hts (W5_fst.trans W5_fst.symm) (xb_mixP 53 W5_len W5_len) rfl hcat hk rfl (g Dp Bt Sq se)
theorem ow_1 (C : xb_LW X cc ws rm ret nL tys D cI cC cZ cR) (J : GG m) (h : qf 1 a1 a2 a3 m = some (v, m')) (hd : decode cc pc = .ok (.invokevirtual 35, 3)) (hcat : (st.map fun v => v.category).sum ≤ 8) (hk : k ≤ rm.cells ∧ n ≤ rm.slots) (g : oG X k n cI cC cR ad ha m' B lv (pc + 3) (.int v :: st)) : oG X k n cI cC cR ad ha m B lv pc (.int (nI a1) :: .ref (ad 0) :: st) := by
  obtain ⟨C, hsub, hts, hf, hlo⟩ := C
  have h : qf_1 a1 a2 a3 m = some (v, m') := h
  unfold qf_1 at h
  obtain ⟨⟨v0, b', hn', pm', hb'⟩, e, h⟩ := ob_i h
  have w0 := Option.some.inj h
  obtain ⟨q0, w1⟩ := Prod.mk.inj w0
  subst q0
  subst w1
  intro Dp Bt Sq se
  exact xi_callV (As := [.int (nI a1)]) (o := some (.int v0)) (rest := st) (wc := (W5 cI cC cR ad ha m.2.2.2.1 m.1 m.2.1 m.2.2.1 m.2.2.2.2.1 m.2.2.2.2.2.1 m.2.2.2.2.2.2.1 m.2.2.2.2.2.2.2.1 Dp Bt Sq se m.2.2.2.2.2.2.2.2.1 m.2.2.2.2.2.2.2.2.2.1 m.2.2.2.2.2.2.2.2.2.2)) (w1 := (W5 cI cC cR ad ha m.2.2.2.1 b' m.2.1 m.2.2.1 hn' pm' hb' m.2.2.2.2.2.2.2.1 Dp Bt Sq se m.2.2.2.2.2.2.2.2.1 m.2.2.2.2.2.2.2.2.2.1 m.2.2.2.2.2.2.2.2.2.2)) (w2 := (W5 cI cC cR ad ha m.2.2.2.1 b' m.2.1 m.2.2.1 hn' pm' hb' m.2.2.2.2.2.2.2.1 Dp Bt Sq se m.2.2.2.2.2.2.2.2.1 m.2.2.2.2.2.2.2.2.2.1 m.2.2.2.2.2.2.2.2.2.2) ++ B) (st2 := .int v0 :: st) C k_X5_take (m_X5_take D cI cC cZ cR ad ha m.2.2.2.1 m.1 m.2.1 m.2.2.1 m.2.2.2.2.1 m.2.2.2.2.2.1 m.2.2.2.2.2.2.1 m.2.2.2.2.2.2.2.1 Dp Bt Sq se m.2.2.2.2.2.2.2.2.1 m.2.2.2.2.2.2.2.2.2.1 m.2.2.2.2.2.2.2.2.2.2 (nI a1) v0 b' hn' pm' hb' e) (gMono hsub gl_X5_take) hd ⟨by show 5 + 1 ≤ _; omega, by show 8 + (2 + 11) + 110 ≤ _; omega, Nat.le_of_ble_eq_true rfl⟩ 0 W5_h0 rfl (List.range 53) (xb_rgP _ _ 53 W5_len) (xb_nd_of _ List.nodup_range) [0, 1, 2, 3] hts (W5_fst.trans W5_fst.symm) (xb_mixP 53 W5_len W5_len) rfl hcat hk rfl (g Dp Bt Sq se)
theorem ow_2 (C : xb_LW X cc ws rm ret nL tys D cI cC cZ cR) (J : GG m) (h : qf 2 a1 a2 a3 m = some (v, m')) (hd : decode cc pc = .ok (.invokevirtual 38, 3)) (hcat : (st.map fun v => v.category).sum ≤ 8) (hk : k ≤ rm.cells ∧ n ≤ rm.slots) (g : oG X k n cI cC cR ad ha m' B lv (pc + 3) (.int v :: st)) : oG X k n cI cC cR ad ha m B lv pc (.int (nI a2) :: .int (nI a1) :: .ref (ad 0) :: st) := by
  obtain ⟨C, hsub, hts, hf, hlo⟩ := C
  have h : qf_2 a1 a2 a3 m = some (v, m') := h
  unfold qf_2 at h
  obtain ⟨⟨v0, b', hn', pm', hb'⟩, e, h⟩ := ob_i h
  have w0 := Option.some.inj h
  obtain ⟨q0, w1⟩ := Prod.mk.inj w0
  subst q0
  subst w1
  intro Dp Bt Sq se
  exact xi_callV (As := [.int (nI a1), .int (nI a2)]) (o := some (.int v0)) (rest := st) (wc := (W5 cI cC cR ad ha m.2.2.2.1 m.1 m.2.1 m.2.2.1 m.2.2.2.2.1 m.2.2.2.2.2.1 m.2.2.2.2.2.2.1 m.2.2.2.2.2.2.2.1 Dp Bt Sq se m.2.2.2.2.2.2.2.2.1 m.2.2.2.2.2.2.2.2.2.1 m.2.2.2.2.2.2.2.2.2.2)) (w1 := (W5 cI cC cR ad ha m.2.2.2.1 b' m.2.1 m.2.2.1 hn' pm' hb' m.2.2.2.2.2.2.2.1 Dp Bt Sq se m.2.2.2.2.2.2.2.2.1 m.2.2.2.2.2.2.2.2.2.1 m.2.2.2.2.2.2.2.2.2.2)) (w2 := (W5 cI cC cR ad ha m.2.2.2.1 b' m.2.1 m.2.2.1 hn' pm' hb' m.2.2.2.2.2.2.2.1 Dp Bt Sq se m.2.2.2.2.2.2.2.2.1 m.2.2.2.2.2.2.2.2.2.1 m.2.2.2.2.2.2.2.2.2.2) ++ B) (st2 := .int v0 :: st) C k_X5_setTable (m_X5_setTable D cI cC cZ cR ad ha m.2.2.2.1 m.1 m.2.1 m.2.2.1 m.2.2.2.2.1 m.2.2.2.2.2.1 m.2.2.2.2.2.2.1 m.2.2.2.2.2.2.2.1 Dp Bt Sq se m.2.2.2.2.2.2.2.2.1 m.2.2.2.2.2.2.2.2.2.1 m.2.2.2.2.2.2.2.2.2.2 (nI a1) (nI a2) v0 b' hn' pm' hb' e) (gMono hsub gl_X5_setTable) hd ⟨by show 3 + 1 ≤ _; omega, by show 8 + (4 + 11) + 83 ≤ _; omega, Nat.le_of_ble_eq_true rfl⟩ 0 W5_h0 rfl (List.range 53) (xb_rgP _ _ 53 W5_len) (xb_nd_of _ List.nodup_range) [0, 1, 2, 3] hts (W5_fst.trans W5_fst.symm) (xb_mixP 53 W5_len W5_len) rfl hcat hk rfl (g Dp Bt Sq se)
theorem ow_3 (C : xb_LW X cc ws rm ret nL tys D cI cC cZ cR) (J : GG m) (h : qf 3 a1 a2 a3 m = some (v, m')) (hd : decode cc pc = .ok (.invokevirtual 41, 3)) (hcat : (st.map fun v => v.category).sum ≤ 8) (hk : k ≤ rm.cells ∧ n ≤ rm.slots) (g : oG X k n cI cC cR ad ha m' B lv (pc + 3) (.int v :: st)) : oG X k n cI cC cR ad ha m B lv pc (.int (nI a3) :: .int (nI a2) :: .int (nI a1) :: .ref (ad 0) :: st) := by
  obtain ⟨C, hsub, hts, hf, hlo⟩ := C
  have h : qf_3 a1 a2 a3 m = some (v, m') := h
  unfold qf_3 at h
  obtain ⟨⟨v0, b', t', hn', pm', hb', K'⟩, e, h⟩ := ob_i h
  have w0 := Option.some.inj h
  obtain ⟨q0, w1⟩ := Prod.mk.inj w0
  subst q0
  subst w1
  intro Dp Bt Sq se
  exact xi_callV (As := [.int (nI a1), .int (nI a2), .int (nI a3)]) (o := some (.int v0)) (rest := st) (wc := (W5 cI cC cR ad ha m.2.2.2.1 m.1 m.2.1 m.2.2.1 m.2.2.2.2.1 m.2.2.2.2.2.1 m.2.2.2.2.2.2.1 m.2.2.2.2.2.2.2.1 Dp Bt Sq se m.2.2.2.2.2.2.2.2.1 m.2.2.2.2.2.2.2.2.2.1 m.2.2.2.2.2.2.2.2.2.2)) (w1 := (W5 cI cC cR ad ha m.2.2.2.1 b' t' m.2.2.1 hn' pm' hb' K' Dp Bt Sq se m.2.2.2.2.2.2.2.2.1 m.2.2.2.2.2.2.2.2.2.1 m.2.2.2.2.2.2.2.2.2.2)) (w2 := (W5 cI cC cR ad ha m.2.2.2.1 b' t' m.2.2.1 hn' pm' hb' K' Dp Bt Sq se m.2.2.2.2.2.2.2.2.1 m.2.2.2.2.2.2.2.2.2.1 m.2.2.2.2.2.2.2.2.2.2) ++ B) (st2 := .int v0 :: st) C k_X5_connect (m_X5_connect D cI cC cZ cR ad ha m.2.2.2.1 m.1 m.2.1 m.2.2.1 m.2.2.2.2.1 m.2.2.2.2.2.1 m.2.2.2.2.2.2.1 m.2.2.2.2.2.2.2.1 Dp Bt Sq se m.2.2.2.2.2.2.2.2.1 m.2.2.2.2.2.2.2.2.2.1 m.2.2.2.2.2.2.2.2.2.2 (nI a1) (nI a2) (nI a3) v0 b' t' hn' pm' hb' K' e) (gMono hsub gl_X5_connect) hd ⟨by show 4 + 1 ≤ _; omega, by show 8 + (5 + 11) + 103 ≤ _; omega, Nat.le_of_ble_eq_true rfl⟩ 0 W5_h0 rfl (List.range 53) (xb_rgP _ _ 53 W5_len) (xb_nd_of _ List.nodup_range) [0, 1, 2, 3] hts (W5_fst.trans W5_fst.symm) (xb_mixP 53 W5_len W5_len) rfl hcat hk rfl (g Dp Bt Sq se)
theorem ow_4 (C : xb_LW X cc ws rm ret nL tys D cI cC cZ cR) (J : GG m) (h : qf 4 a1 a2 a3 m = some (v, m')) (hd : decode cc pc = .ok (.invokevirtual 44, 3)) (hcat : (st.map fun v => v.category).sum ≤ 8) (hk : k ≤ rm.cells ∧ n ≤ rm.slots) (g : oG X k n cI cC cR ad ha m' B lv (pc + 3) (.int v :: st)) : oG X k n cI cC cR ad ha m B lv pc (.int (nI a2) :: .int (nI a1) :: .ref (ad 0) :: st) := by
  obtain ⟨C, hsub, hts, hf, hlo⟩ := C
  have h : qf_4 a1 a2 a3 m = some (v, m') := h
  unfold qf_4 at h
  obtain ⟨⟨v0, b', t', hn', pm', hb', K'⟩, e, h⟩ := ob_i h
  have w0 := Option.some.inj h
  obtain ⟨q0, w1⟩ := Prod.mk.inj w0
  subst q0
  subst w1
  intro Dp Bt Sq se
  exact xi_callV (As := [.int (nI a1), .int (nI a2)]) (o := some (.int v0)) (rest := st) (wc := (W5 cI cC cR ad ha m.2.2.2.1 m.1 m.2.1 m.2.2.1 m.2.2.2.2.1 m.2.2.2.2.2.1 m.2.2.2.2.2.2.1 m.2.2.2.2.2.2.2.1 Dp Bt Sq se m.2.2.2.2.2.2.2.2.1 m.2.2.2.2.2.2.2.2.2.1 m.2.2.2.2.2.2.2.2.2.2)) (w1 := (W5 cI cC cR ad ha m.2.2.2.1 b' t' m.2.2.1 hn' pm' hb' K' Dp Bt Sq se m.2.2.2.2.2.2.2.2.1 m.2.2.2.2.2.2.2.2.2.1 m.2.2.2.2.2.2.2.2.2.2)) (w2 := (W5 cI cC cR ad ha m.2.2.2.1 b' t' m.2.2.1 hn' pm' hb' K' Dp Bt Sq se m.2.2.2.2.2.2.2.2.1 m.2.2.2.2.2.2.2.2.2.1 m.2.2.2.2.2.2.2.2.2.2) ++ B) (st2 := .int v0 :: st) C k_X5_swap (m_X5_swap D cI cC cZ cR ad ha m.2.2.2.1 m.1 m.2.1 m.2.2.1 m.2.2.2.2.1 m.2.2.2.2.2.1 m.2.2.2.2.2.2.1 m.2.2.2.2.2.2.2.1 Dp Bt Sq se m.2.2.2.2.2.2.2.2.1 m.2.2.2.2.2.2.2.2.2.1 m.2.2.2.2.2.2.2.2.2.2 (nI a1) (nI a2) v0 b' t' hn' pm' hb' K' e) (gMono hsub gl_X5_swap) hd ⟨by show 6 + 1 ≤ _; omega, by show 8 + (4 + 11) + 149 ≤ _; omega, Nat.le_of_ble_eq_true rfl⟩ 0 W5_h0 rfl (List.range 53) (xb_rgP _ _ 53 W5_len) (xb_nd_of _ List.nodup_range) [0, 1, 2, 3] hts (W5_fst.trans W5_fst.symm) (xb_mixP 53 W5_len W5_len) rfl hcat hk rfl (g Dp Bt Sq se)
theorem ow_5 (C : xb_LW X cc ws rm ret nL tys D cI cC cZ cR) (J : GG m) (h : qf 5 a1 a2 a3 m = some (v, m')) (hd : decode cc pc = .ok (.invokevirtual 47, 3)) (hcat : (st.map fun v => v.category).sum ≤ 8) (hk : k ≤ rm.cells ∧ n ≤ rm.slots) (g : oG X k n cI cC cR ad ha m' B lv (pc + 3) (.int v :: st)) : oG X k n cI cC cR ad ha m B lv pc (.int (nI a1) :: .ref (ad 0) :: st) := by
  obtain ⟨C, hsub, hts, hf, hlo⟩ := C
  have h : qf_5 a1 a2 a3 m = some (v, m') := h
  unfold qf_5 at h
  obtain ⟨⟨v0, b', t', hn', pm', hb', K'⟩, e, h⟩ := ob_i h
  have w0 := Option.some.inj h
  obtain ⟨q0, w1⟩ := Prod.mk.inj w0
  subst q0
  subst w1
  intro Dp Bt Sq se
  exact xi_callV (As := [.int (nI a1)]) (o := some (.int v0)) (rest := st) (wc := (W5 cI cC cR ad ha m.2.2.2.1 m.1 m.2.1 m.2.2.1 m.2.2.2.2.1 m.2.2.2.2.2.1 m.2.2.2.2.2.2.1 m.2.2.2.2.2.2.2.1 Dp Bt Sq se m.2.2.2.2.2.2.2.2.1 m.2.2.2.2.2.2.2.2.2.1 m.2.2.2.2.2.2.2.2.2.2)) (w1 := (W5 cI cC cR ad ha m.2.2.2.1 b' t' m.2.2.1 hn' pm' hb' K' Dp Bt Sq se m.2.2.2.2.2.2.2.2.1 m.2.2.2.2.2.2.2.2.2.1 m.2.2.2.2.2.2.2.2.2.2)) (w2 := (W5 cI cC cR ad ha m.2.2.2.1 b' t' m.2.2.1 hn' pm' hb' K' Dp Bt Sq se m.2.2.2.2.2.2.2.2.1 m.2.2.2.2.2.2.2.2.2.1 m.2.2.2.2.2.2.2.2.2.2) ++ B) (st2 := .int v0 :: st) C k_X5_layAnew (m_X5_layAnew D cI cC cZ cR ad ha m.2.2.2.1 m.1 m.2.1 m.2.2.1 m.2.2.2.2.1 m.2.2.2.2.2.1 m.2.2.2.2.2.2.1 m.2.2.2.2.2.2.2.1 Dp Bt Sq se m.2.2.2.2.2.2.2.2.1 m.2.2.2.2.2.2.2.2.2.1 m.2.2.2.2.2.2.2.2.2.2 (nI a1) v0 b' t' hn' pm' hb' K' e) (gMono hsub gl_X5_layAnew) hd ⟨by show 6 + 1 ≤ _; omega, by show 8 + (3 + 11) + 148 ≤ _; omega, Nat.le_of_ble_eq_true rfl⟩ 0 W5_h0 rfl (List.range 53) (xb_rgP _ _ 53 W5_len) (xb_nd_of _ List.nodup_range) [0, 1, 2, 3] hts (W5_fst.trans W5_fst.symm) (xb_mixP 53 W5_len W5_len) rfl hcat hk rfl (g Dp Bt Sq se)
theorem ow_6 (C : xb_LW X cc ws rm ret nL tys D cI cC cZ cR) (J : GG m) (h : qf 6 a1 a2 a3 m = some (v, m')) (hd : decode cc pc = .ok (.invokevirtual 50, 3)) (hcat : (st.map fun v => v.category).sum ≤ 8) (hk : k ≤ rm.cells ∧ n ≤ rm.slots) (g : oG X k n cI cC cR ad ha m' B lv (pc + 3) (.int v :: st)) : oG X k n cI cC cR ad ha m B lv pc (.int (nI a2) :: .int (nI a1) :: .ref (ad 0) :: st) := by
  obtain ⟨C, hsub, hts, hf, hlo⟩ := C
  have h : qf_6 a1 a2 a3 m = some (v, m') := h
  unfold qf_6 at h
  obtain ⟨⟨v0, b', hn', pm', hb'⟩, e, h⟩ := ob_i h
  have w0 := Option.some.inj h
  obtain ⟨q0, w1⟩ := Prod.mk.inj w0
  subst q0
  subst w1
  intro Dp Bt Sq se
  exact xi_callV (As := [.int (nI a1), .int (nI a2)]) (o := some (.int v0)) (rest := st) (wc := (W5 cI cC cR ad ha m.2.2.2.1 m.1 m.2.1 m.2.2.1 m.2.2.2.2.1 m.2.2.2.2.2.1 m.2.2.2.2.2.2.1 m.2.2.2.2.2.2.2.1 Dp Bt Sq se m.2.2.2.2.2.2.2.2.1 m.2.2.2.2.2.2.2.2.2.1 m.2.2.2.2.2.2.2.2.2.2)) (w1 := (W5 cI cC cR ad ha m.2.2.2.1 b' m.2.1 m.2.2.1 hn' pm' hb' m.2.2.2.2.2.2.2.1 Dp Bt Sq se m.2.2.2.2.2.2.2.2.1 m.2.2.2.2.2.2.2.2.2.1 m.2.2.2.2.2.2.2.2.2.2)) (w2 := (W5 cI cC cR ad ha m.2.2.2.1 b' m.2.1 m.2.2.1 hn' pm' hb' m.2.2.2.2.2.2.2.1 Dp Bt Sq se m.2.2.2.2.2.2.2.2.1 m.2.2.2.2.2.2.2.2.2.1 m.2.2.2.2.2.2.2.2.2.2) ++ B) (st2 := .int v0 :: st) C k_X5_set (m_X5_set D cI cC cZ cR ad ha m.2.2.2.1 m.1 m.2.1 m.2.2.1 m.2.2.2.2.1 m.2.2.2.2.2.1 m.2.2.2.2.2.2.1 m.2.2.2.2.2.2.2.1 Dp Bt Sq se m.2.2.2.2.2.2.2.2.1 m.2.2.2.2.2.2.2.2.2.1 m.2.2.2.2.2.2.2.2.2.2 (nI a1) (nI a2) v0 b' hn' pm' hb' e) (gMono hsub gl_X5_set) hd ⟨by show 3 + 1 ≤ _; omega, by show 8 + (5 + 11) + 83 ≤ _; omega, Nat.le_of_ble_eq_true rfl⟩ 0 W5_h0 rfl (List.range 53) (xb_rgP _ _ 53 W5_len) (xb_nd_of _ List.nodup_range) [0, 1, 2, 3] hts (W5_fst.trans W5_fst.symm) (xb_mixP 53 W5_len W5_len) rfl hcat hk rfl (g Dp Bt Sq se)
theorem ow_7 (C : xb_LW X cc ws rm ret nL tys D cI cC cZ cR) (J : GG m) (h : qf 7 a1 a2 a3 m = some (v, m')) (hd : decode cc pc = .ok (.invokevirtual 100, 3)) (hcat : (st.map fun v => v.category).sum ≤ 8) (hk : k ≤ rm.cells ∧ n ≤ rm.slots) (g : oG X k n cI cC cR ad ha m' B lv (pc + 3) (.int v :: st)) : oG X k n cI cC cR ad ha m B lv pc (.ref (ad 0) :: st) := by
  obtain ⟨C, hsub, hts, hf, hlo⟩ := C
  have h : qf_7 a1 a2 a3 m = some (v, m') := h
  unfold qf_7 at h
  obtain ⟨⟨v0, b', t', hn', pm', hb', K', at'⟩, e, h⟩ := ob_i h
  have w0 := Option.some.inj h
  obtain ⟨q0, w1⟩ := Prod.mk.inj w0
  subst q0
  subst w1
  intro Dp Bt Sq se
  exact xi_callV (As := []) (o := some (.int v0)) (rest := st) (wc := (W5 cI cC cR ad ha m.2.2.2.1 m.1 m.2.1 m.2.2.1 m.2.2.2.2.1 m.2.2.2.2.2.1 m.2.2.2.2.2.2.1 m.2.2.2.2.2.2.2.1 Dp Bt Sq se m.2.2.2.2.2.2.2.2.1 m.2.2.2.2.2.2.2.2.2.1 m.2.2.2.2.2.2.2.2.2.2)) (w1 := (W5 cI cC cR ad ha m.2.2.2.1 b' t' m.2.2.1 hn' pm' hb' K' Dp Bt Sq se m.2.2.2.2.2.2.2.2.1 m.2.2.2.2.2.2.2.2.2.1 at')) (w2 := (W5 cI cC cR ad ha m.2.2.2.1 b' t' m.2.2.1 hn' pm' hb' K' Dp Bt Sq se m.2.2.2.2.2.2.2.2.1 m.2.2.2.2.2.2.2.2.2.1 at') ++ B) (st2 := .int v0 :: st) C k_X5_load (m_X5_load D cI cC cZ cR ad ha m.2.2.2.1 m.1 m.2.1 m.2.2.1 m.2.2.2.2.1 m.2.2.2.2.2.1 m.2.2.2.2.2.2.1 m.2.2.2.2.2.2.2.1 Dp Bt Sq se m.2.2.2.2.2.2.2.2.1 m.2.2.2.2.2.2.2.2.2.1 m.2.2.2.2.2.2.2.2.2.2 v0 b' t' hn' pm' hb' K' at' e) (gMono hsub gl_X5_load) hd ⟨by show 6 + 1 ≤ _; omega, by show 8 + (2 + 11) + 133 ≤ _; omega, Nat.le_of_ble_eq_true rfl⟩ 0 W5_h0 rfl (List.range 53) (xb_rgP _ _ 53 W5_len) (xb_nd_of _ List.nodup_range) [0, 1, 2, 3] hts (W5_fst.trans W5_fst.symm) (xb_mixP 53 W5_len W5_len) rfl hcat hk rfl (g Dp Bt Sq se)
theorem ow_8 (C : xb_LW X cc ws rm ret nL tys D cI cC cZ cR) (J : GG m) (h : qf 8 a1 a2 a3 m = some (v, m')) (hd : decode cc pc = .ok (.invokevirtual 92, 3)) (hcat : (st.map fun v => v.category).sum ≤ 8) (hk : k ≤ rm.cells ∧ n ≤ rm.slots) (g : oG X k n cI cC cR ad ha m' B lv (pc + 3) (.int v :: st)) : oG X k n cI cC cR ad ha m B lv pc (.int (nI a1) :: .ref (ad 0) :: st) := by
  obtain ⟨C, hsub, hts, hf, hlo⟩ := C
  have h : qf_8 a1 a2 a3 m = some (v, m') := h
  unfold qf_8 at h
  obtain ⟨⟨v0, Sg', ln'⟩, e, h⟩ := ob_i h
  have w0 := Option.some.inj h
  obtain ⟨q0, w1⟩ := Prod.mk.inj w0
  subst q0
  subst w1
  intro Dp Bt Sq se
  exact xi_callV (As := [.int (nI a1)]) (o := some (.int v0)) (rest := st) (wc := (W5 cI cC cR ad ha m.2.2.2.1 m.1 m.2.1 m.2.2.1 m.2.2.2.2.1 m.2.2.2.2.2.1 m.2.2.2.2.2.2.1 m.2.2.2.2.2.2.2.1 Dp Bt Sq se m.2.2.2.2.2.2.2.2.1 m.2.2.2.2.2.2.2.2.2.1 m.2.2.2.2.2.2.2.2.2.2)) (w1 := (W5 cI cC cR ad ha m.2.2.2.1 m.1 m.2.1 m.2.2.1 m.2.2.2.2.1 m.2.2.2.2.2.1 m.2.2.2.2.2.2.1 m.2.2.2.2.2.2.2.1 Dp Bt Sq se Sg' ln' m.2.2.2.2.2.2.2.2.2.2)) (w2 := (W5 cI cC cR ad ha m.2.2.2.1 m.1 m.2.1 m.2.2.1 m.2.2.2.2.1 m.2.2.2.2.2.1 m.2.2.2.2.2.2.1 m.2.2.2.2.2.2.2.1 Dp Bt Sq se Sg' ln' m.2.2.2.2.2.2.2.2.2.2) ++ B) (st2 := .int v0 :: st) C k_X5_type (m_X5_type D cI cC cZ cR ad ha m.2.2.2.1 m.1 m.2.1 m.2.2.1 m.2.2.2.2.1 m.2.2.2.2.2.1 m.2.2.2.2.2.2.1 m.2.2.2.2.2.2.2.1 Dp Bt Sq se m.2.2.2.2.2.2.2.2.1 m.2.2.2.2.2.2.2.2.2.1 m.2.2.2.2.2.2.2.2.2.2 (nI a1) v0 Sg' ln' e) (gMono hsub gl_X5_type) hd ⟨by show 1 + 1 ≤ _; omega, by show 8 + (2 + 11) + 21 ≤ _; omega, Nat.le_of_ble_eq_true rfl⟩ 0 W5_h0 rfl (List.range 53) (xb_rgP _ _ 53 W5_len) (xb_nd_of _ List.nodup_range) [0, 1, 2, 3] hts (W5_fst.trans W5_fst.symm) (xb_mixP 53 W5_len W5_len) rfl hcat hk rfl (g Dp Bt Sq se)
theorem ow_9 (C : xb_LW X cc ws rm ret nL tys D cI cC cZ cR) (J : GG m) (h : qf 9 a1 a2 a3 m = some (v, m')) (hd : decode cc pc = .ok (.invokevirtual 153, 3)) (hcat : (st.map fun v => v.category).sum ≤ 8) (hk : k ≤ rm.cells ∧ n ≤ rm.slots) (g : oG X k n cI cC cR ad ha m' B lv (pc + 3) (.int v :: st)) : oG X k n cI cC cR ad ha m B lv pc (.ref (ad 0) :: st) := by
  obtain ⟨C, hsub, hts, hf, hlo⟩ := C
  have h : qf_9 a1 a2 a3 m = some (v, m') := h
  unfold qf_9 at h
  obtain ⟨⟨v0, ln'⟩, e, h⟩ := ob_i h
  have w0 := Option.some.inj h
  obtain ⟨q0, w1⟩ := Prod.mk.inj w0
  subst q0
  subst w1
  intro Dp Bt Sq se
  exact xi_callV (As := []) (o := some (.int v0)) (rest := st) (wc := (W5 cI cC cR ad ha m.2.2.2.1 m.1 m.2.1 m.2.2.1 m.2.2.2.2.1 m.2.2.2.2.2.1 m.2.2.2.2.2.2.1 m.2.2.2.2.2.2.2.1 Dp Bt Sq se m.2.2.2.2.2.2.2.2.1 m.2.2.2.2.2.2.2.2.2.1 m.2.2.2.2.2.2.2.2.2.2)) (w1 := (W5 cI cC cR ad ha m.2.2.2.1 m.1 m.2.1 m.2.2.1 m.2.2.2.2.1 m.2.2.2.2.2.1 m.2.2.2.2.2.2.1 m.2.2.2.2.2.2.2.1 Dp Bt Sq se m.2.2.2.2.2.2.2.2.1 ln' m.2.2.2.2.2.2.2.2.2.2)) (w2 := (W5 cI cC cR ad ha m.2.2.2.1 m.1 m.2.1 m.2.2.1 m.2.2.2.2.1 m.2.2.2.2.2.1 m.2.2.2.2.2.2.1 m.2.2.2.2.2.2.2.1 Dp Bt Sq se m.2.2.2.2.2.2.2.2.1 ln' m.2.2.2.2.2.2.2.2.2.2) ++ B) (st2 := .int v0 :: st) C k_X5_clearText (m_X5_clearText D cI cC cZ cR ad ha m.2.2.2.1 m.1 m.2.1 m.2.2.1 m.2.2.2.2.1 m.2.2.2.2.2.1 m.2.2.2.2.2.2.1 m.2.2.2.2.2.2.2.1 Dp Bt Sq se m.2.2.2.2.2.2.2.2.1 m.2.2.2.2.2.2.2.2.2.1 m.2.2.2.2.2.2.2.2.2.2 v0 ln' e) (gMono hsub gl_X5_clearText) hd ⟨by show 1 + 1 ≤ _; omega, by show 8 + (2 + 11) + 20 ≤ _; omega, Nat.le_of_ble_eq_true rfl⟩ 0 W5_h0 rfl (List.range 53) (xb_rgP _ _ 53 W5_len) (xb_nd_of _ List.nodup_range) [0, 1, 2, 3] hts (W5_fst.trans W5_fst.symm) (xb_mixP 53 W5_len W5_len) rfl hcat hk rfl (g Dp Bt Sq se)
theorem ow_10 (C : xb_LW X cc ws rm ret nL tys D cI cC cZ cR) (J : GG m) (h : qf 10 a1 a2 a3 m = some (v, m')) (hd : decode cc pc = .ok (.invokevirtual 74, 3)) (hcat : (st.map fun v => v.category).sum ≤ 8) (hk : k ≤ rm.cells ∧ n ≤ rm.slots) (g : oG X k n cI cC cR ad ha m' B lv (pc + 3) (.int v :: st)) : oG X k n cI cC cR ad ha m B lv pc (.ref (ad 0) :: st) := by
  obtain ⟨C, hsub, hts, hf, hlo⟩ := C
  have h : qf_10 a1 a2 a3 m = some (v, m') := h
  unfold qf_10 at h
  obtain ⟨⟨v0, b', hn'⟩, e, h⟩ := ob_i h
  have w0 := Option.some.inj h
  obtain ⟨q0, w1⟩ := Prod.mk.inj w0
  subst q0
  subst w1
  intro Dp Bt Sq se
  exact xi_callV (As := []) (o := some (.int v0)) (rest := st) (wc := (W5 cI cC cR ad ha m.2.2.2.1 m.1 m.2.1 m.2.2.1 m.2.2.2.2.1 m.2.2.2.2.2.1 m.2.2.2.2.2.2.1 m.2.2.2.2.2.2.2.1 Dp Bt Sq se m.2.2.2.2.2.2.2.2.1 m.2.2.2.2.2.2.2.2.2.1 m.2.2.2.2.2.2.2.2.2.2)) (w1 := (W5 cI cC cR ad ha m.2.2.2.1 b' m.2.1 m.2.2.1 hn' m.2.2.2.2.2.1 m.2.2.2.2.2.2.1 m.2.2.2.2.2.2.2.1 Dp Bt Sq se m.2.2.2.2.2.2.2.2.1 m.2.2.2.2.2.2.2.2.2.1 m.2.2.2.2.2.2.2.2.2.2)) (w2 := (W5 cI cC cR ad ha m.2.2.2.1 b' m.2.1 m.2.2.1 hn' m.2.2.2.2.2.1 m.2.2.2.2.2.2.1 m.2.2.2.2.2.2.2.1 Dp Bt Sq se m.2.2.2.2.2.2.2.2.1 m.2.2.2.2.2.2.2.2.2.1 m.2.2.2.2.2.2.2.2.2.2) ++ B) (st2 := .int v0 :: st) C k_X5_undo (m_X5_undo D cI cC cZ cR ad ha m.2.2.2.1 m.1 m.2.1 m.2.2.1 m.2.2.2.2.1 m.2.2.2.2.2.1 m.2.2.2.2.2.2.1 m.2.2.2.2.2.2.2.1 Dp Bt Sq se m.2.2.2.2.2.2.2.2.1 m.2.2.2.2.2.2.2.2.2.1 m.2.2.2.2.2.2.2.2.2.2 v0 b' hn' e) (gMono hsub gl_X5_undo) hd ⟨by show 3 + 1 ≤ _; omega, by show 8 + (1 + 11) + 83 ≤ _; omega, Nat.le_of_ble_eq_true rfl⟩ 0 W5_h0 rfl (List.range 53) (xb_rgP _ _ 53 W5_len) (xb_nd_of _ List.nodup_range) [0, 1, 2, 3] hts (W5_fst.trans W5_fst.symm) (xb_mixP 53 W5_len W5_len) rfl hcat hk rfl (g Dp Bt Sq se)
theorem ow_11 (C : xb_LW X cc ws rm ret nL tys D cI cC cZ cR) (J : GG m) (h : qf 11 a1 a2 a3 m = some (v, m')) (hd : decode cc pc = .ok (.invokevirtual 87, 3)) (hcat : (st.map fun v => v.category).sum ≤ 8) (hk : k ≤ rm.cells ∧ n ≤ rm.slots) (g : oG X k n cI cC cR ad ha m' B lv (pc + 3) (.int v :: st)) : oG X k n cI cC cR ad ha m B lv pc (.ref (ad 0) :: st) := by
  obtain ⟨C, hsub, hts, hf, hlo⟩ := C
  have h : qf_11 a1 a2 a3 m = some (v, m') := h
  unfold qf_11 at h
  obtain ⟨⟨v0, hs', s'⟩, e, h⟩ := ob_i h
  have w0 := Option.some.inj h
  obtain ⟨q0, w1⟩ := Prod.mk.inj w0
  subst q0
  subst w1
  intro Dp Bt Sq se
  exact xi_callV (As := []) (o := some (.int v0)) (rest := st) (wc := (W5 cI cC cR ad ha m.2.2.2.1 m.1 m.2.1 m.2.2.1 m.2.2.2.2.1 m.2.2.2.2.2.1 m.2.2.2.2.2.2.1 m.2.2.2.2.2.2.2.1 Dp Bt Sq se m.2.2.2.2.2.2.2.2.1 m.2.2.2.2.2.2.2.2.2.1 m.2.2.2.2.2.2.2.2.2.2)) (w1 := (W5 cI cC cR ad ha hs' m.1 m.2.1 s' m.2.2.2.2.1 m.2.2.2.2.2.1 m.2.2.2.2.2.2.1 m.2.2.2.2.2.2.2.1 Dp Bt Sq se m.2.2.2.2.2.2.2.2.1 m.2.2.2.2.2.2.2.2.2.1 m.2.2.2.2.2.2.2.2.2.2)) (w2 := (W5 cI cC cR ad ha hs' m.1 m.2.1 s' m.2.2.2.2.1 m.2.2.2.2.2.1 m.2.2.2.2.2.2.1 m.2.2.2.2.2.2.2.1 Dp Bt Sq se m.2.2.2.2.2.2.2.2.1 m.2.2.2.2.2.2.2.2.2.1 m.2.2.2.2.2.2.2.2.2.2) ++ B) (st2 := .int v0 :: st) C k_X5_keep (m_X5_keep D cI cC cZ cR ad ha m.2.2.2.1 m.1 m.2.1 m.2.2.1 m.2.2.2.2.1 m.2.2.2.2.2.1 m.2.2.2.2.2.2.1 m.2.2.2.2.2.2.2.1 Dp Bt Sq se m.2.2.2.2.2.2.2.2.1 m.2.2.2.2.2.2.2.2.2.1 m.2.2.2.2.2.2.2.2.2.2 v0 hs' s' e) (gMono hsub gl_X5_keep) hd ⟨by show 3 + 1 ≤ _; omega, by show 8 + (1 + 11) + 63 ≤ _; omega, Nat.le_of_ble_eq_true rfl⟩ 0 W5_h0 rfl (List.range 53) (xb_rgP _ _ 53 W5_len) (xb_nd_of _ List.nodup_range) [0, 1, 2, 3] hts (W5_fst.trans W5_fst.symm) (xb_mixP 53 W5_len W5_len) rfl hcat hk rfl (g Dp Bt Sq se)
theorem ow_12 (C : xb_LW X cc ws rm ret nL tys D cI cC cZ cR) (J : GG m) (h : qf 12 a1 a2 a3 m = some (v, m')) (hd : decode cc pc = .ok (.invokevirtual 78, 3)) (hcat : (st.map fun v => v.category).sum ≤ 8) (hk : k ≤ rm.cells ∧ n ≤ rm.slots) (g : oG X k n cI cC cR ad ha m' B lv (pc + 3) (.int v :: st)) : oG X k n cI cC cR ad ha m B lv pc (.ref (ad 0) :: st) := by
  obtain ⟨C, hsub, hts, hf, hlo⟩ := C
  have h : qf_12 a1 a2 a3 m = some (v, m') := h
  unfold qf_12 at h
  obtain ⟨⟨v0, b', hn', pm', hb'⟩, e, h⟩ := ob_i h
  have w0 := Option.some.inj h
  obtain ⟨q0, w1⟩ := Prod.mk.inj w0
  subst q0
  subst w1
  intro Dp Bt Sq se
  exact xi_callV (As := []) (o := some (.int v0)) (rest := st) (wc := (W5 cI cC cR ad ha m.2.2.2.1 m.1 m.2.1 m.2.2.1 m.2.2.2.2.1 m.2.2.2.2.2.1 m.2.2.2.2.2.2.1 m.2.2.2.2.2.2.2.1 Dp Bt Sq se m.2.2.2.2.2.2.2.2.1 m.2.2.2.2.2.2.2.2.2.1 m.2.2.2.2.2.2.2.2.2.2)) (w1 := (W5 cI cC cR ad ha m.2.2.2.1 b' m.2.1 m.2.2.1 hn' pm' hb' m.2.2.2.2.2.2.2.1 Dp Bt Sq se m.2.2.2.2.2.2.2.2.1 m.2.2.2.2.2.2.2.2.2.1 m.2.2.2.2.2.2.2.2.2.2)) (w2 := (W5 cI cC cR ad ha m.2.2.2.1 b' m.2.1 m.2.2.1 hn' pm' hb' m.2.2.2.2.2.2.2.1 Dp Bt Sq se m.2.2.2.2.2.2.2.2.1 m.2.2.2.2.2.2.2.2.2.1 m.2.2.2.2.2.2.2.2.2.2) ++ B) (st2 := .int v0 :: st) C k_X5_restore (m_X5_restore D cI cC cZ cR ad ha m.2.2.2.1 m.1 m.2.1 m.2.2.1 m.2.2.2.2.1 m.2.2.2.2.2.1 m.2.2.2.2.2.2.1 m.2.2.2.2.2.2.2.1 Dp Bt Sq se m.2.2.2.2.2.2.2.2.1 m.2.2.2.2.2.2.2.2.2.1 m.2.2.2.2.2.2.2.2.2.2 v0 b' hn' pm' hb' e) (gMono hsub gl_X5_restore) hd ⟨by show 3 + 1 ≤ _; omega, by show 8 + (1 + 11) + 83 ≤ _; omega, Nat.le_of_ble_eq_true rfl⟩ 0 W5_h0 rfl (List.range 53) (xb_rgP _ _ 53 W5_len) (xb_nd_of _ List.nodup_range) [0, 1, 2, 3] hts (W5_fst.trans W5_fst.symm) (xb_mixP 53 W5_len W5_len) rfl hcat hk rfl (g Dp Bt Sq se)
theorem ow_13 (C : xb_LW X cc ws rm ret nL tys D cI cC cZ cR) (J : GG m) (h : qf 13 a1 a2 a3 m = some (v, m')) (hd : decode cc pc = .ok (.invokevirtual 19, 3)) (hcat : (st.map fun v => v.category).sum ≤ 8) (hk : k ≤ rm.cells ∧ n ≤ rm.slots) (g : oG X k n cI cC cR ad ha m' B lv (pc + 3) (.int v :: st)) : oG X k n cI cC cR ad ha m B lv pc (.int (nI a2) :: .int (nI a1) :: .ref (ad 0) :: st) := by
  obtain ⟨C, hsub, hts, hf, hlo⟩ := C
  have h : qf_13 a1 a2 a3 m = some (v, m') := h
  unfold qf_13 at h
  obtain ⟨⟨v0, Dp', Sq', se'⟩, e, h⟩ := ob_i h
  have w0 := Option.some.inj h
  obtain ⟨q0, w1⟩ := Prod.mk.inj w0
  subst q0
  subst w1
  intro Dp Bt Sq se
  obtain ⟨Dp2, Sq2, se2, e2⟩ := te_cell J e Dp Sq se
  exact xi_callV (As := [.int (nI a1), .int (nI a2)]) (o := some (.int v0)) (rest := st) (wc := (W5 cI cC cR ad ha m.2.2.2.1 m.1 m.2.1 m.2.2.1 m.2.2.2.2.1 m.2.2.2.2.2.1 m.2.2.2.2.2.2.1 m.2.2.2.2.2.2.2.1 Dp Bt Sq se m.2.2.2.2.2.2.2.2.1 m.2.2.2.2.2.2.2.2.2.1 m.2.2.2.2.2.2.2.2.2.2)) (w1 := (W5 cI cC cR ad ha m.2.2.2.1 m.1 m.2.1 m.2.2.1 m.2.2.2.2.1 m.2.2.2.2.2.1 m.2.2.2.2.2.2.1 m.2.2.2.2.2.2.2.1 Dp2 Bt Sq2 se2 m.2.2.2.2.2.2.2.2.1 m.2.2.2.2.2.2.2.2.2.1 m.2.2.2.2.2.2.2.2.2.2)) (w2 := (W5 cI cC cR ad ha m.2.2.2.1 m.1 m.2.1 m.2.2.1 m.2.2.2.2.1 m.2.2.2.2.2.1 m.2.2.2.2.2.2.1 m.2.2.2.2.2.2.2.1 Dp2 Bt Sq2 se2 m.2.2.2.2.2.2.2.2.1 m.2.2.2.2.2.2.2.2.2.1 m.2.2.2.2.2.2.2.2.2.2) ++ B) (st2 := .int v0 :: st) C k_X5_cell (m_X5_cell D cI cC cZ cR ad ha m.2.2.2.1 m.1 m.2.1 m.2.2.1 m.2.2.2.2.1 m.2.2.2.2.2.1 m.2.2.2.2.2.2.1 m.2.2.2.2.2.2.2.1 Dp Bt Sq se m.2.2.2.2.2.2.2.2.1 m.2.2.2.2.2.2.2.2.2.1 m.2.2.2.2.2.2.2.2.2.2 (nI a1) (nI a2) v0 Dp2 Sq2 se2 e2) (gMono hsub gl_X5_cell) hd ⟨by show 5 + 1 ≤ _; omega, by show 8 + (3 + 11) + 113 ≤ _; omega, Nat.le_of_ble_eq_true rfl⟩ 0 W5_h0 rfl (List.range 53) (xb_rgP _ _ 53 W5_len) (xb_nd_of _ List.nodup_range) [0, 1, 2, 3] hts (W5_fst.trans W5_fst.symm) (xb_mixP 53 W5_len W5_len) rfl hcat hk rfl (g Dp2 Bt Sq2 se2)
theorem ow_14 (C : xb_LW X cc ws rm ret nL tys D cI cC cZ cR) (J : GG m) (h : qf 14 a1 a2 a3 m = some (v, m')) (hd : decode cc pc = .ok (.invokevirtual 26, 3)) (hcat : (st.map fun v => v.category).sum ≤ 8) (hk : k ≤ rm.cells ∧ n ≤ rm.slots) (g : oG X k n cI cC cR ad ha m' B lv (pc + 3) (.int v :: st)) : oG X k n cI cC cR ad ha m B lv pc (.int (nI a3) :: .int (nI a2) :: .int (nI a1) :: .ref (ad 0) :: st) := by
  obtain ⟨C, hsub, hts, hf, hlo⟩ := C
  have h : qf_14 a1 a2 a3 m = some (v, m') := h
  unfold qf_14 at h
  obtain ⟨v0, e, h⟩ := ob_i h
  have w0 := Option.some.inj h
  obtain ⟨q0, w1⟩ := Prod.mk.inj w0
  subst q0
  subst w1
  intro Dp Bt Sq se
  exact xi_callV (As := [.int (nI a1), .int (nI a2), .int (nI a3)]) (o := some (.int v0)) (rest := st) (wc := (W5 cI cC cR ad ha m.2.2.2.1 m.1 m.2.1 m.2.2.1 m.2.2.2.2.1 m.2.2.2.2.2.1 m.2.2.2.2.2.2.1 m.2.2.2.2.2.2.2.1 Dp Bt Sq se m.2.2.2.2.2.2.2.2.1 m.2.2.2.2.2.2.2.2.2.1 m.2.2.2.2.2.2.2.2.2.2)) (w1 := (W5 cI cC cR ad ha m.2.2.2.1 m.1 m.2.1 m.2.2.1 m.2.2.2.2.1 m.2.2.2.2.2.1 m.2.2.2.2.2.2.1 m.2.2.2.2.2.2.2.1 Dp Bt Sq se m.2.2.2.2.2.2.2.2.1 m.2.2.2.2.2.2.2.2.2.1 m.2.2.2.2.2.2.2.2.2.2)) (w2 := (W5 cI cC cR ad ha m.2.2.2.1 m.1 m.2.1 m.2.2.1 m.2.2.2.2.1 m.2.2.2.2.2.1 m.2.2.2.2.2.2.1 m.2.2.2.2.2.2.2.1 Dp Bt Sq se m.2.2.2.2.2.2.2.2.1 m.2.2.2.2.2.2.2.2.2.1 m.2.2.2.2.2.2.2.2.2.2) ++ B) (st2 := .int v0 :: st) C k_X5_path (m_X5_path D cI cC cZ cR ad ha m.2.2.2.1 m.1 m.2.1 m.2.2.1 m.2.2.2.2.1 m.2.2.2.2.2.1 m.2.2.2.2.2.2.1 m.2.2.2.2.2.2.2.1 Dp Bt Sq se m.2.2.2.2.2.2.2.2.1 m.2.2.2.2.2.2.2.2.2.1 m.2.2.2.2.2.2.2.2.2.2 (nI a1) (nI a2) (nI a3) v0 e) (gMono hsub gl_X5_path) hd ⟨by show 3 + 1 ≤ _; omega, by show 8 + (5 + 11) + 65 ≤ _; omega, Nat.le_of_ble_eq_true rfl⟩ 0 W5_h0 rfl (List.range 53) (xb_rgP _ _ 53 W5_len) (xb_nd_of _ List.nodup_range) [0, 1, 2, 3] hts (W5_fst.trans W5_fst.symm) (xb_mixP 53 W5_len W5_len) rfl hcat hk rfl (g Dp Bt Sq se)
theorem ow_15 (C : xb_LW X cc ws rm ret nL tys D cI cC cZ cR) (J : GG m) (h : qf 15 a1 a2 a3 m = some (v, m')) (hd : decode cc pc = .ok (.invokevirtual 23, 3)) (hcat : (st.map fun v => v.category).sum ≤ 8) (hk : k ≤ rm.cells ∧ n ≤ rm.slots) (g : oG X k n cI cC cR ad ha m' B lv (pc + 3) (.int v :: st)) : oG X k n cI cC cR ad ha m B lv pc (.int (nI a2) :: .int (nI a1) :: .ref (ad 0) :: st) := by
  obtain ⟨C, hsub, hts, hf, hlo⟩ := C
  have h : qf_15 a1 a2 a3 m = some (v, m') := h
  unfold qf_15 at h
  obtain ⟨v0, e, h⟩ := ob_i h
  have w0 := Option.some.inj h
  obtain ⟨q0, w1⟩ := Prod.mk.inj w0
  subst q0
  subst w1
  intro Dp Bt Sq se
  exact xi_callV (As := [.int (nI a1), .int (nI a2)]) (o := some (.int v0)) (rest := st) (wc := (W5 cI cC cR ad ha m.2.2.2.1 m.1 m.2.1 m.2.2.1 m.2.2.2.2.1 m.2.2.2.2.2.1 m.2.2.2.2.2.2.1 m.2.2.2.2.2.2.2.1 Dp Bt Sq se m.2.2.2.2.2.2.2.2.1 m.2.2.2.2.2.2.2.2.2.1 m.2.2.2.2.2.2.2.2.2.2)) (w1 := (W5 cI cC cR ad ha m.2.2.2.1 m.1 m.2.1 m.2.2.1 m.2.2.2.2.1 m.2.2.2.2.2.1 m.2.2.2.2.2.2.1 m.2.2.2.2.2.2.2.1 Dp Bt Sq se m.2.2.2.2.2.2.2.2.1 m.2.2.2.2.2.2.2.2.2.1 m.2.2.2.2.2.2.2.2.2.2)) (w2 := (W5 cI cC cR ad ha m.2.2.2.1 m.1 m.2.1 m.2.2.1 m.2.2.2.2.1 m.2.2.2.2.2.1 m.2.2.2.2.2.2.1 m.2.2.2.2.2.2.2.1 Dp Bt Sq se m.2.2.2.2.2.2.2.2.1 m.2.2.2.2.2.2.2.2.2.1 m.2.2.2.2.2.2.2.2.2.2) ++ B) (st2 := .int v0 :: st) C k_X5_held (m_X5_held D cI cC cZ cR ad ha m.2.2.2.1 m.1 m.2.1 m.2.2.1 m.2.2.2.2.1 m.2.2.2.2.2.1 m.2.2.2.2.2.2.1 m.2.2.2.2.2.2.2.1 Dp Bt Sq se m.2.2.2.2.2.2.2.2.1 m.2.2.2.2.2.2.2.2.2.1 m.2.2.2.2.2.2.2.2.2.2 (nI a1) (nI a2) v0 e) (gMono hsub gl_X5_held) hd ⟨by show 2 + 1 ≤ _; omega, by show 8 + (4 + 11) + 45 ≤ _; omega, Nat.le_of_ble_eq_true rfl⟩ 0 W5_h0 rfl (List.range 53) (xb_rgP _ _ 53 W5_len) (xb_nd_of _ List.nodup_range) [0, 1, 2, 3] hts (W5_fst.trans W5_fst.symm) (xb_mixP 53 W5_len W5_len) rfl hcat hk rfl (g Dp Bt Sq se)
theorem ow_16 (C : xb_LW X cc ws rm ret nL tys D cI cC cZ cR) (J : GG m) (h : qf 16 a1 a2 a3 m = some (v, m')) (hd : decode cc pc = .ok (.invokevirtual 53, 3)) (hcat : (st.map fun v => v.category).sum ≤ 8) (hk : k ≤ rm.cells ∧ n ≤ rm.slots) (g : oG X k n cI cC cR ad ha m' B lv (pc + 3) (.int v :: st)) : oG X k n cI cC cR ad ha m B lv pc (.int (nI a2) :: .int (nI a1) :: .ref (ad 0) :: st) := by
  obtain ⟨C, hsub, hts, hf, hlo⟩ := C
  have h : qf_16 a1 a2 a3 m = some (v, m') := h
  unfold qf_16 at h
  obtain ⟨⟨v0, Dp', Bt', Sq', se'⟩, e, h⟩ := ob_i h
  have w0 := Option.some.inj h
  obtain ⟨q0, w1⟩ := Prod.mk.inj w0
  subst q0
  subst w1
  intro Dp Bt Sq se
  obtain ⟨Dp2, Bt2, Sq2, se2, e2⟩ := te_answer J e Dp Bt Sq se
  exact xi_callV (As := [.int (nI a1), .int (nI a2)]) (o := some (.int v0)) (rest := st) (wc := (W5 cI cC cR ad ha m.2.2.2.1 m.1 m.2.1 m.2.2.1 m.2.2.2.2.1 m.2.2.2.2.2.1 m.2.2.2.2.2.2.1 m.2.2.2.2.2.2.2.1 Dp Bt Sq se m.2.2.2.2.2.2.2.2.1 m.2.2.2.2.2.2.2.2.2.1 m.2.2.2.2.2.2.2.2.2.2)) (w1 := (W5 cI cC cR ad ha m.2.2.2.1 m.1 m.2.1 m.2.2.1 m.2.2.2.2.1 m.2.2.2.2.2.1 m.2.2.2.2.2.2.1 m.2.2.2.2.2.2.2.1 Dp2 Bt2 Sq2 se2 m.2.2.2.2.2.2.2.2.1 m.2.2.2.2.2.2.2.2.2.1 m.2.2.2.2.2.2.2.2.2.2)) (w2 := (W5 cI cC cR ad ha m.2.2.2.1 m.1 m.2.1 m.2.2.1 m.2.2.2.2.1 m.2.2.2.2.2.1 m.2.2.2.2.2.2.1 m.2.2.2.2.2.2.2.1 Dp2 Bt2 Sq2 se2 m.2.2.2.2.2.2.2.2.1 m.2.2.2.2.2.2.2.2.2.1 m.2.2.2.2.2.2.2.2.2.2) ++ B) (st2 := .int v0 :: st) C k_X5_answer (m_X5_answer D cI cC cZ cR ad ha m.2.2.2.1 m.1 m.2.1 m.2.2.1 m.2.2.2.2.1 m.2.2.2.2.2.1 m.2.2.2.2.2.2.1 m.2.2.2.2.2.2.2.1 Dp Bt Sq se m.2.2.2.2.2.2.2.2.1 m.2.2.2.2.2.2.2.2.2.1 m.2.2.2.2.2.2.2.2.2.2 (nI a1) (nI a2) v0 Dp2 Bt2 Sq2 se2 e2) (gMono hsub gl_X5_answer) hd ⟨by show 5 + 1 ≤ _; omega, by show 8 + (3 + 11) + 113 ≤ _; omega, Nat.le_of_ble_eq_true rfl⟩ 0 W5_h0 rfl (List.range 53) (xb_rgP _ _ 53 W5_len) (xb_nd_of _ List.nodup_range) [0, 1, 2, 3] hts (W5_fst.trans W5_fst.symm) (xb_mixP 53 W5_len W5_len) rfl hcat hk rfl (g Dp2 Bt2 Sq2 se2)
theorem ow_17 (C : xb_LW X cc ws rm ret nL tys D cI cC cZ cR) (J : GG m) (h : qf 17 a1 a2 a3 m = some (v, m')) (hd : decode cc pc = .ok (.invokevirtual 56, 3)) (hcat : (st.map fun v => v.category).sum ≤ 8) (hk : k ≤ rm.cells ∧ n ≤ rm.slots) (g : oG X k n cI cC cR ad ha m' B lv (pc + 3) (.int v :: st)) : oG X k n cI cC cR ad ha m B lv pc (.int (nI a1) :: .ref (ad 0) :: st) := by
  obtain ⟨C, hsub, hts, hf, hlo⟩ := C
  have h : qf_17 a1 a2 a3 m = some (v, m') := h
  unfold qf_17 at h
  obtain ⟨⟨v0, Dp', Bt', Sq', se'⟩, e, h⟩ := ob_i h
  have w0 := Option.some.inj h
  obtain ⟨q0, w1⟩ := Prod.mk.inj w0
  subst q0
  subst w1
  intro Dp Bt Sq se
  obtain ⟨Dp2, Bt2, Sq2, se2, e2⟩ := te_ones J e Dp Bt Sq se
  exact xi_callV (As := [.int (nI a1)]) (o := some (.int v0)) (rest := st) (wc := (W5 cI cC cR ad ha m.2.2.2.1 m.1 m.2.1 m.2.2.1 m.2.2.2.2.1 m.2.2.2.2.2.1 m.2.2.2.2.2.2.1 m.2.2.2.2.2.2.2.1 Dp Bt Sq se m.2.2.2.2.2.2.2.2.1 m.2.2.2.2.2.2.2.2.2.1 m.2.2.2.2.2.2.2.2.2.2)) (w1 := (W5 cI cC cR ad ha m.2.2.2.1 m.1 m.2.1 m.2.2.1 m.2.2.2.2.1 m.2.2.2.2.2.1 m.2.2.2.2.2.2.1 m.2.2.2.2.2.2.2.1 Dp2 Bt2 Sq2 se2 m.2.2.2.2.2.2.2.2.1 m.2.2.2.2.2.2.2.2.2.1 m.2.2.2.2.2.2.2.2.2.2)) (w2 := (W5 cI cC cR ad ha m.2.2.2.1 m.1 m.2.1 m.2.2.1 m.2.2.2.2.1 m.2.2.2.2.2.1 m.2.2.2.2.2.2.1 m.2.2.2.2.2.2.2.1 Dp2 Bt2 Sq2 se2 m.2.2.2.2.2.2.2.2.1 m.2.2.2.2.2.2.2.2.2.1 m.2.2.2.2.2.2.2.2.2.2) ++ B) (st2 := .int v0 :: st) C k_X5_ones (m_X5_ones D cI cC cZ cR ad ha m.2.2.2.1 m.1 m.2.1 m.2.2.1 m.2.2.2.2.1 m.2.2.2.2.2.1 m.2.2.2.2.2.2.1 m.2.2.2.2.2.2.2.1 Dp Bt Sq se m.2.2.2.2.2.2.2.2.1 m.2.2.2.2.2.2.2.2.2.1 m.2.2.2.2.2.2.2.2.2.2 (nI a1) v0 Dp2 Bt2 Sq2 se2 e2) (gMono hsub gl_X5_ones) hd ⟨by show 5 + 1 ≤ _; omega, by show 8 + (4 + 11) + 113 ≤ _; omega, Nat.le_of_ble_eq_true rfl⟩ 0 W5_h0 rfl (List.range 53) (xb_rgP _ _ 53 W5_len) (xb_nd_of _ List.nodup_range) [0, 1, 2, 3] hts (W5_fst.trans W5_fst.symm) (xb_mixP 53 W5_len W5_len) rfl hcat hk rfl (g Dp2 Bt2 Sq2 se2)
theorem ow_18 (C : xb_LW X cc ws rm ret nL tys D cI cC cZ cR) (J : GG m) (h : qf 18 a1 a2 a3 m = some (v, m')) (hd : decode cc pc = .ok (.invokevirtual 59, 3)) (hcat : (st.map fun v => v.category).sum ≤ 8) (hk : k ≤ rm.cells ∧ n ≤ rm.slots) (g : oG X k n cI cC cR ad ha m' B lv (pc + 3) (.int v :: st)) : oG X k n cI cC cR ad ha m B lv pc (.int (nI a2) :: .int (nI a1) :: .ref (ad 0) :: st) := by
  obtain ⟨C, hsub, hts, hf, hlo⟩ := C
  have h : qf_18 a1 a2 a3 m = some (v, m') := h
  unfold qf_18 at h
  obtain ⟨⟨v0, t', K'⟩, e, h⟩ := ob_i h
  have w0 := Option.some.inj h
  obtain ⟨q0, w1⟩ := Prod.mk.inj w0
  subst q0
  subst w1
  intro Dp Bt Sq se
  exact xi_callV (As := [.int (nI a1), .int (nI a2)]) (o := some (.int v0)) (rest := st) (wc := (W5 cI cC cR ad ha m.2.2.2.1 m.1 m.2.1 m.2.2.1 m.2.2.2.2.1 m.2.2.2.2.2.1 m.2.2.2.2.2.2.1 m.2.2.2.2.2.2.2.1 Dp Bt Sq se m.2.2.2.2.2.2.2.2.1 m.2.2.2.2.2.2.2.2.2.1 m.2.2.2.2.2.2.2.2.2.2)) (w1 := (W5 cI cC cR ad ha m.2.2.2.1 m.1 t' m.2.2.1 m.2.2.2.2.1 m.2.2.2.2.2.1 m.2.2.2.2.2.2.1 K' Dp Bt Sq se m.2.2.2.2.2.2.2.2.1 m.2.2.2.2.2.2.2.2.2.1 m.2.2.2.2.2.2.2.2.2.2)) (w2 := (W5 cI cC cR ad ha m.2.2.2.1 m.1 t' m.2.2.1 m.2.2.2.2.1 m.2.2.2.2.2.1 m.2.2.2.2.2.2.1 K' Dp Bt Sq se m.2.2.2.2.2.2.2.2.1 m.2.2.2.2.2.2.2.2.2.1 m.2.2.2.2.2.2.2.2.2.2) ++ B) (st2 := .int v0 :: st) C k_X5_ifSwap (m_X5_ifSwap D cI cC cZ cR ad ha m.2.2.2.1 m.1 m.2.1 m.2.2.1 m.2.2.2.2.1 m.2.2.2.2.2.1 m.2.2.2.2.2.2.1 m.2.2.2.2.2.2.2.1 Dp Bt Sq se m.2.2.2.2.2.2.2.2.1 m.2.2.2.2.2.2.2.2.2.1 m.2.2.2.2.2.2.2.2.2.2 (nI a1) (nI a2) v0 t' K' e) (gMono hsub gl_X5_ifSwap) hd ⟨by show 6 + 1 ≤ _; omega, by show 8 + (3 + 11) + 149 ≤ _; omega, Nat.le_of_ble_eq_true rfl⟩ 0 W5_h0 rfl (List.range 53) (xb_rgP _ _ 53 W5_len) (xb_nd_of _ List.nodup_range) [0, 1, 2, 3] hts (W5_fst.trans W5_fst.symm) (xb_mixP 53 W5_len W5_len) rfl hcat hk rfl (g Dp Bt Sq se)
theorem ow_19 (C : xb_LW X cc ws rm ret nL tys D cI cC cZ cR) (J : GG m) (h : qf 19 a1 a2 a3 m = some (v, m')) (hd : decode cc pc = .ok (.invokevirtual 62, 3)) (hcat : (st.map fun v => v.category).sum ≤ 8) (hk : k ≤ rm.cells ∧ n ≤ rm.slots) (g : oG X k n cI cC cR ad ha m' B lv (pc + 3) (.int v :: st)) : oG X k n cI cC cR ad ha m B lv pc (.int (nI a1) :: .ref (ad 0) :: st) := by
  obtain ⟨C, hsub, hts, hf, hlo⟩ := C
  have h : qf_19 a1 a2 a3 m = some (v, m') := h
  unfold qf_19 at h
  obtain ⟨⟨v0, t', K'⟩, e, h⟩ := ob_i h
  have w0 := Option.some.inj h
  obtain ⟨q0, w1⟩ := Prod.mk.inj w0
  subst q0
  subst w1
  intro Dp Bt Sq se
  exact xi_callV (As := [.int (nI a1)]) (o := some (.int v0)) (rest := st) (wc := (W5 cI cC cR ad ha m.2.2.2.1 m.1 m.2.1 m.2.2.1 m.2.2.2.2.1 m.2.2.2.2.2.1 m.2.2.2.2.2.2.1 m.2.2.2.2.2.2.2.1 Dp Bt Sq se m.2.2.2.2.2.2.2.2.1 m.2.2.2.2.2.2.2.2.2.1 m.2.2.2.2.2.2.2.2.2.2)) (w1 := (W5 cI cC cR ad ha m.2.2.2.1 m.1 t' m.2.2.1 m.2.2.2.2.1 m.2.2.2.2.2.1 m.2.2.2.2.2.2.1 K' Dp Bt Sq se m.2.2.2.2.2.2.2.2.1 m.2.2.2.2.2.2.2.2.2.1 m.2.2.2.2.2.2.2.2.2.2)) (w2 := (W5 cI cC cR ad ha m.2.2.2.1 m.1 t' m.2.2.1 m.2.2.2.2.1 m.2.2.2.2.2.1 m.2.2.2.2.2.2.1 K' Dp Bt Sq se m.2.2.2.2.2.2.2.2.1 m.2.2.2.2.2.2.2.2.2.1 m.2.2.2.2.2.2.2.2.2.2) ++ B) (st2 := .int v0 :: st) C k_X5_bestSwap (m_X5_bestSwap D cI cC cZ cR ad ha m.2.2.2.1 m.1 m.2.1 m.2.2.1 m.2.2.2.2.1 m.2.2.2.2.2.1 m.2.2.2.2.2.2.1 m.2.2.2.2.2.2.2.1 Dp Bt Sq se m.2.2.2.2.2.2.2.2.1 m.2.2.2.2.2.2.2.2.2.1 m.2.2.2.2.2.2.2.2.2.2 (nI a1) v0 t' K' e) (gMono hsub gl_X5_bestSwap) hd ⟨by show 6 + 1 ≤ _; omega, by show 8 + (6 + 11) + 149 ≤ _; omega, Nat.le_of_ble_eq_true rfl⟩ 0 W5_h0 rfl (List.range 53) (xb_rgP _ _ 53 W5_len) (xb_nd_of _ List.nodup_range) [0, 1, 2, 3] hts (W5_fst.trans W5_fst.symm) (xb_mixP 53 W5_len W5_len) rfl hcat hk rfl (g Dp Bt Sq se)
theorem ow_20 (C : xb_LW X cc ws rm ret nL tys D cI cC cZ cR) (J : GG m) (h : qf 20 a1 a2 a3 m = some (v, m')) (hd : decode cc pc = .ok (.invokevirtual 81, 3)) (hcat : (st.map fun v => v.category).sum ≤ 8) (hk : k ≤ rm.cells ∧ n ≤ rm.slots) (g : oG X k n cI cC cR ad ha m' B lv (pc + 3) (.int v :: st)) : oG X k n cI cC cR ad ha m B lv pc (.ref (ad 0) :: st) := by
  obtain ⟨C, hsub, hts, hf, hlo⟩ := C
  have h : qf_20 a1 a2 a3 m = some (v, m') := h
  unfold qf_20 at h
  obtain ⟨⟨v0, t', K'⟩, e, h⟩ := ob_i h
  have w0 := Option.some.inj h
  obtain ⟨q0, w1⟩ := Prod.mk.inj w0
  subst q0
  subst w1
  intro Dp Bt Sq se
  exact xi_callV (As := []) (o := some (.int v0)) (rest := st) (wc := (W5 cI cC cR ad ha m.2.2.2.1 m.1 m.2.1 m.2.2.1 m.2.2.2.2.1 m.2.2.2.2.2.1 m.2.2.2.2.2.2.1 m.2.2.2.2.2.2.2.1 Dp Bt Sq se m.2.2.2.2.2.2.2.2.1 m.2.2.2.2.2.2.2.2.2.1 m.2.2.2.2.2.2.2.2.2.2)) (w1 := (W5 cI cC cR ad ha m.2.2.2.1 m.1 t' m.2.2.1 m.2.2.2.2.1 m.2.2.2.2.2.1 m.2.2.2.2.2.2.1 K' Dp Bt Sq se m.2.2.2.2.2.2.2.2.1 m.2.2.2.2.2.2.2.2.2.1 m.2.2.2.2.2.2.2.2.2.2)) (w2 := (W5 cI cC cR ad ha m.2.2.2.1 m.1 t' m.2.2.1 m.2.2.2.2.1 m.2.2.2.2.2.1 m.2.2.2.2.2.2.1 K' Dp Bt Sq se m.2.2.2.2.2.2.2.2.1 m.2.2.2.2.2.2.2.2.2.1 m.2.2.2.2.2.2.2.2.2.2) ++ B) (st2 := .int v0 :: st) C k_X5_bestOrder (m_X5_bestOrder D cI cC cZ cR ad ha m.2.2.2.1 m.1 m.2.1 m.2.2.1 m.2.2.2.2.1 m.2.2.2.2.2.1 m.2.2.2.2.2.2.1 m.2.2.2.2.2.2.2.1 Dp Bt Sq se m.2.2.2.2.2.2.2.2.1 m.2.2.2.2.2.2.2.2.2.1 m.2.2.2.2.2.2.2.2.2.2 v0 t' K' e) (gMono hsub gl_X5_bestOrder) hd ⟨by show 6 + 1 ≤ _; omega, by show 8 + (5 + 11) + 148 ≤ _; omega, Nat.le_of_ble_eq_true rfl⟩ 0 W5_h0 rfl (List.range 53) (xb_rgP _ _ 53 W5_len) (xb_nd_of _ List.nodup_range) [0, 1, 2, 3] hts (W5_fst.trans W5_fst.symm) (xb_mixP 53 W5_len W5_len) rfl hcat hk rfl (g Dp Bt Sq se)
theorem ow_21 (C : xb_LW X cc ws rm ret nL tys D cI cC cZ cR) (J : GG m) (h : qf 21 a1 a2 a3 m = some (v, m')) (hd : decode cc pc = .ok (.invokevirtual 13, 3)) (hcat : (st.map fun v => v.category).sum ≤ 8) (hk : k ≤ rm.cells ∧ n ≤ rm.slots) (g : oG X k n cI cC cR ad ha m' B lv (pc + 3) (.int v :: st)) : oG X k n cI cC cR ad ha m B lv pc (.int (nI a1) :: .ref (ad 0) :: st) := by
  obtain ⟨C, hsub, hts, hf, hlo⟩ := C
  have h : qf_21 a1 a2 a3 m = some (v, m') := h
  unfold qf_21 at h
  obtain ⟨⟨v0, Dp', Sq', se'⟩, e, h⟩ := ob_i h
  have w0 := Option.some.inj h
  obtain ⟨q0, w1⟩ := Prod.mk.inj w0
  subst q0
  subst w1
  intro Dp Bt Sq se
  obtain ⟨Dp2, Sq2, se2, e2⟩ := te_count J e Dp Sq se
  exact xi_callV (As := [.int (nI a1)]) (o := some (.int v0)) (rest := st) (wc := (W5 cI cC cR ad ha m.2.2.2.1 m.1 m.2.1 m.2.2.1 m.2.2.2.2.1 m.2.2.2.2.2.1 m.2.2.2.2.2.2.1 m.2.2.2.2.2.2.2.1 Dp Bt Sq se m.2.2.2.2.2.2.2.2.1 m.2.2.2.2.2.2.2.2.2.1 m.2.2.2.2.2.2.2.2.2.2)) (w1 := (W5 cI cC cR ad ha m.2.2.2.1 m.1 m.2.1 m.2.2.1 m.2.2.2.2.1 m.2.2.2.2.2.1 m.2.2.2.2.2.2.1 m.2.2.2.2.2.2.2.1 Dp2 Bt Sq2 se2 m.2.2.2.2.2.2.2.2.1 m.2.2.2.2.2.2.2.2.2.1 m.2.2.2.2.2.2.2.2.2.2)) (w2 := (W5 cI cC cR ad ha m.2.2.2.1 m.1 m.2.1 m.2.2.1 m.2.2.2.2.1 m.2.2.2.2.2.1 m.2.2.2.2.2.2.1 m.2.2.2.2.2.2.2.1 Dp2 Bt Sq2 se2 m.2.2.2.2.2.2.2.2.1 m.2.2.2.2.2.2.2.2.2.1 m.2.2.2.2.2.2.2.2.2.2) ++ B) (st2 := .int v0 :: st) C k_X5_count (m_X5_count D cI cC cZ cR ad ha m.2.2.2.1 m.1 m.2.1 m.2.2.1 m.2.2.2.2.1 m.2.2.2.2.2.1 m.2.2.2.2.2.2.1 m.2.2.2.2.2.2.2.1 Dp Bt Sq se m.2.2.2.2.2.2.2.2.1 m.2.2.2.2.2.2.2.2.2.1 m.2.2.2.2.2.2.2.2.2.2 (nI a1) v0 Dp2 Sq2 se2 e2) (gMono hsub gl_X5_count) hd ⟨by show 5 + 1 ≤ _; omega, by show 8 + (2 + 11) + 113 ≤ _; omega, Nat.le_of_ble_eq_true rfl⟩ 0 W5_h0 rfl (List.range 53) (xb_rgP _ _ 53 W5_len) (xb_nd_of _ List.nodup_range) [0, 1, 2, 3] hts (W5_fst.trans W5_fst.symm) (xb_mixP 53 W5_len W5_len) rfl hcat hk rfl (g Dp2 Bt Sq2 se2)
end OW
