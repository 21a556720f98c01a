/-! calls of the law's own methods on an object; what is refused with a cell -/
theorem hE_true (X : xb_C) : match X with | (_, _, _, _, s, _, _, _, _, _, A, _, _, _) => ∀ (H : Heap) (locs : List Loc) (U : State), va_S A s.heap H locs → U.heap = H → s.WarmedH U.vm → (fun _ : State => True) U := by
  obtain ⟨p, l, e, R, s, m, args, below, meth, c, A, Q, nL', D'⟩ := X
  exact fun _ _ _ _ _ _ => trivial
section OC
variable {X : xb_C} {k n : Nat} {lv : List (Nat × Value)} {pc : Nat} {st : List Value} {cc : ByteArray} {ws : List Cond} {rm : Room} {ret : Option FieldType} {nL : Nat} {tys : List (ClassId × FieldType)} {D : va_G} {cI cC cZ cR : ClassId} {ad : Nat → Nat} {ha : Nat → Nat → Nat} {m : xMu} {B : va_W}
theorem oc_P (C : xb_LW X cc ws rm ret nL tys D cI cC cZ cR) {y : MethodName} {bytes : ByteArray} {wsy : List Cond} {maxL index : Nat} {rety : Option FieldType} {rmy : Room} {As rest : List Value} {v : Value} (Y : xb_YP y bytes wsy maxL rety rmy (Value.ref (ad 0) :: As).length 0 0) (M : ∀ (Dp Bt Sq : Nat → Int32) (se : Int32), xb_MP bytes wsy y.cls rmy rety maxL (xb_ty cI cC cZ cR) D (fun _ => True) (.ref (ad 0) :: As) (W5m cI cC cR ad ha m Dp Bt Sq se) (oP cI cC cR ad ha m v) 0 0) (hT : GoodIn wsL_law (va_wsS RL index y wsy)) (hd : decode cc pc = .ok (.invokestatic index, 3)) (hR : rmy.frames + 1 ≤ rm.frames ∧ 8 + (maxL + 11) + rmy.locals ≤ rm.locals ∧ (lg_sl (.ref (ad 0) :: As)).length ≤ maxL) (hst : st = (Value.ref (ad 0) :: As).reverse ++ rest) (hcat : (rest.map fun v => v.category).sum ≤ 8) (hk : k ≤ rm.cells ∧ n ≤ rm.slots) (g : oG X k n cI cC cR ad ha m B lv (pc + 3) (v :: rest)) : oG X k n cI cC cR ad ha m B lv pc st := by
  intro Dp Bt Sq se
  refine xi_callP (P := oP cI cC cR ad ha m v) (E := fun _ => True) C.1 Y (M Dp Bt Sq se) (fun _ _ _ _ h => h) (hE_true X) (gMono C.2.1 hT) hd hR (List.range 53) (xb_rgP _ _ 53 W5_len) (xb_nd_of _ List.nodup_range) [0, 1, 2, 3] C.2.2.1 (fun o w1 hP => ?_) hst hcat hk (fun o w1 hP => ?_)
  · obtain ⟨-, Dp2, Bt2, Sq2, se2, rfl⟩ := hP
    exact W5_fst.trans W5_fst.symm
  · obtain ⟨rfl, Dp2, Bt2, Sq2, se2, rfl⟩ := hP
    rw [show xb_mix (W5m cI cC cR ad ha m Dp Bt Sq se ++ B) (List.range 53) (W5m cI cC cR ad ha m Dp2 Bt2 Sq2 se2) = W5m cI cC cR ad ha m Dp2 Bt2 Sq2 se2 ++ B from xb_mixP 53 W5_len W5_len]
    exact g Dp2 Bt2 Sq2 se2
end OC
/-- a cell that is there -/
def rc_ok (m : xMu) (p t s : Nat) : Prop := t < 256 ∧ s < 34 ∧ f_X0_hasCell m.1.1 (nI p) = some (nI 1) ∧ f_X0_tableOf m.1.1 (nI p) = some (nI t) ∧ ce_n m.1 p 0 = nI t ∧ ce_n m.1 p 1 = nI s ∧ f_X0_sourceOf m.1.2.1 (nI p * 3 + nI 0) = some (nI s)
theorem rc_ex {m : xMu} (J : GG m) {p : Nat} (hp : p < 24) (h : ¬ ce_n m.1 p 0 < 0) : ∃ t s : Nat, rc_ok m p t s := by
  obtain ⟨st, ik, le, now, pst, snp, txt, R⟩ := J
  obtain ⟨⟨tb, sr, lg, jn, hd, cp, su, h1, h2, h3, h4, h5, h6, h7, h8, h9, h10, h11, h12, h13, h14⟩, -⟩ := R
  have e0 := l0_hasCell h1 h9 hp
  have hz := zc_0 (tb := tb) (p := p)
  by_cases ht : tb p = 0
  · exfalso
    apply h
    have hc : f_X5_cell m.1 z0 z0 0 (nI p) (nI 0) = some (-1, z0, z0, 0) := by
      unfold f_X5_cell
      rw [hz.mpr ht] at e0
      exact ob_s e0 (if_pos rfl)
    unfold ce_n
    rw [hc]
    decide
  · have hz1 : zc tb p = 1 := by
      have := zc_lt tb p
      have : zc tb p ≠ 0 := fun q => ht (hz.mp q)
      omega
    rw [hz1] at e0
    have n10 : ¬ (nI 1 = 0) := by decide
    have et : cz_t (tb p) = nI (tb p - 1) := by unfold cz_t; rw [if_neg ht]
    have e1 : f_X0_tableOf m.1.1 (nI p) = some (nI (tb p - 1)) := by rw [l0_tableOf h1 hp, et]
    have hs : sr (3 * p) ≤ 33 := h10.1 _ (by omega)
    have e2 := l0_sourceOf h2 (w := 3 * p) (by omega)
    have a1 : nI p * 3 + nI 1 - 1 = nI (3 * p) := by
      rw [show (3 : Int32) = nI 3 from rfl, show (1 : Int32) = nI 1 from rfl, pk_mul, nI_add, pk_sub (by omega)]
      congr 1
      omega
    have a0 : nI p * 3 + nI 0 = nI (3 * p) := by
      rw [show (3 : Int32) = nI 3 from rfl, pk_mul, nI_add]
      congr 1
      omega
    refine ⟨tb p - 1, sr (3 * p), by have := h9 p hp; omega, by omega, e0, e1, ?_, ?_, by rw [a0]; exact e2⟩
    · have hc : f_X5_cell m.1 z0 z0 0 (nI p) (nI 0) = some (nI (tb p - 1), z0, z0, 0) := by
        unfold f_X5_cell
        refine ob_s e0 ?_
        refine (if_neg n10).trans ?_
        refine (if_pos rfl).trans ?_
        exact ob_s e1 rfl
      unfold ce_n
      rw [hc]
    · have hc : f_X5_cell m.1 z0 z0 0 (nI p) (nI 1) = some (nI (sr (3 * p)), z0, z0, 0) := by
        unfold f_X5_cell
        refine ob_s e0 ?_
        refine (if_neg n10).trans ?_
        refine (if_neg (by decide)).trans ?_
        refine (if_pos rfl).trans ?_
        rw [a1]
        exact ob_s e2 rfl
      unfold ce_n
      rw [hc]
section RQ
variable {m : xMu} {p t s : Nat}
theorem n1ne : ¬ (nI 1 = 0) := by decide
theorem hP_is (hp : p < 24) : f_X5_isPlace (nI p) = some (nI 1) := by rw [l5_isPlace (by omega), if_pos hp]
theorem rq_put (hp : p < 24) (h : rc_ok m p t s) : qf 0 p 1 0 m = some (nI 4294967292, m) := by
  show qf_0 p 1 0 m = _
  unfold qf_0
  refine ob_s (a := (-4, m.1, m.2.2.2.2.1, m.2.2.2.2.2.1, m.2.2.2.2.2.2.1)) ?_ rfl
  unfold f_X5_put
  refine ob_s (hP_is hp) ?_
  refine (if_neg n1ne).trans ?_
  refine ob_s (show f_X5_isTable (nI 1) = some (nI 1) by decide +kernel) ?_
  refine (if_neg n1ne).trans ?_
  exact ob_s h.2.2.1 (if_neg n1ne)
theorem rq_putv (hp : p < 24) : qf 0 p 256 0 m = some (nI 4294967294, m) := by
  show qf_0 p 256 0 m = _
  unfold qf_0
  refine ob_s (a := (-2, m.1, m.2.2.2.2.1, m.2.2.2.2.2.1, m.2.2.2.2.2.2.1)) ?_ rfl
  unfold f_X5_put
  refine ob_s (hP_is hp) ?_
  refine (if_neg n1ne).trans ?_
  exact ob_s (show f_X5_isTable (nI 256) = some (nI 0) by decide +kernel) (if_pos rfl)
theorem rq_stv (h : rc_ok m p t s) {a : Nat} (ha : f_X5_isTable (nI a) = some (nI 0)) : qf 2 p a 0 m = some (nI 4294967294, m) := by
  show qf_2 p a 0 m = _
  unfold qf_2
  refine ob_s (a := (-2, m.1, m.2.2.2.2.1, m.2.2.2.2.2.1, m.2.2.2.2.2.2.1)) ?_ rfl
  unfold f_X5_setTable
  refine ob_s h.2.2.1 ?_
  refine (if_neg n1ne).trans ?_
  exact ob_s ha (if_pos rfl)
theorem rq_st (h : rc_ok m p t s) : qf 2 p t 0 m = some (nI 4294967291, m) := by
  show qf_2 p t 0 m = _
  unfold qf_2
  refine ob_s (a := (-5, m.1, m.2.2.2.2.1, m.2.2.2.2.2.1, m.2.2.2.2.2.2.1)) ?_ rfl
  unfold f_X5_setTable
  refine ob_s h.2.2.1 ?_
  refine (if_neg n1ne).trans ?_
  refine ob_s (show f_X5_isTable (nI t) = some (nI 1) by rw [l5_isTable (by have := h.1; omega), if_pos h.1]) ?_
  refine (if_neg n1ne).trans ?_
  exact ob_s h.2.2.2.1 (if_pos rfl)
theorem rq_coi (h : rc_ok m p t s) {a c : Nat} (ha : f_X5_isInput (nI a) = some (nI 0)) : qf 3 p a c m = some (nI 4294967295, m) := by
  show qf_3 p a c m = _
  unfold qf_3
  refine ob_s (a := (-1, m.1, m.2.1, m.2.2.2.2.1, m.2.2.2.2.2.1, m.2.2.2.2.2.2.1, m.2.2.2.2.2.2.2.1)) ?_ rfl
  unfold f_X5_connect
  refine ob_s h.2.2.1 ?_
  refine (if_neg n1ne).trans ?_
  exact ob_s ha (if_pos rfl)
theorem rq_cos (h : rc_ok m p t s) {c : Nat} (hc : f_X0_isSource m.1.1 (nI c) = some (nI 0)) : qf 3 p 0 c m = some (nI 4294967295, m) := by
  show qf_3 p 0 c m = _
  unfold qf_3
  refine ob_s (a := (-1, m.1, m.2.1, m.2.2.2.2.1, m.2.2.2.2.2.1, m.2.2.2.2.2.2.1, m.2.2.2.2.2.2.2.1)) ?_ rfl
  unfold f_X5_connect
  refine ob_s h.2.2.1 ?_
  refine (if_neg n1ne).trans ?_
  refine ob_s (show f_X5_isInput (nI 0) = some (nI 1) by decide +kernel) ?_
  refine (if_neg n1ne).trans ?_
  exact ob_s hc (if_pos rfl)
theorem rq_co (h : rc_ok m p t s) (hs : f_X0_isSource m.1.1 (nI s) = some (nI 1)) : qf 3 p 0 s m = some (nI 4294967291, m) := by
  show qf_3 p 0 s m = _
  unfold qf_3
  refine ob_s (a := (-5, m.1, m.2.1, m.2.2.2.2.1, m.2.2.2.2.2.1, m.2.2.2.2.2.2.1, m.2.2.2.2.2.2.2.1)) ?_ rfl
  unfold f_X5_connect
  refine ob_s h.2.2.1 ?_
  refine (if_neg n1ne).trans ?_
  refine ob_s (show f_X5_isInput (nI 0) = some (nI 1) by decide +kernel) ?_
  refine (if_neg n1ne).trans ?_
  refine ob_s hs ?_
  refine (if_neg n1ne).trans ?_
  exact ob_s h.2.2.2.2.2.2 (if_pos rfl)
theorem rq_ce (h : rc_ok m p t s) {c : Nat} (hc : nI c < nI 0 ∨ nI 7 ≤ nI c) : qf 13 p c 0 m = some (nI 4294967294, m) := by
  have hn : ∀ j : Nat, j < 7 → ¬ nI c = nI j := fun j hj q => by
    rw [q] at hc
    rcases hc with z | z
    · exact nI_pos (by omega) z
    · exact nI_ge hj (by omega) z
  show qf_13 p c 0 m = _
  unfold qf_13
  refine ob_s (a := (-2, z0, z0, 0)) ?_ rfl
  unfold f_X5_cell
  refine ob_s h.2.2.1 ?_
  refine (if_neg n1ne).trans ?_
  refine (if_neg (hn 0 (by omega))).trans ?_
  refine (if_neg (hn 1 (by omega))).trans ?_
  refine (if_neg (hn 2 (by omega))).trans ?_
  refine (if_neg (hn 3 (by omega))).trans ?_
  refine (if_neg (hn 4 (by omega))).trans ?_
  refine (if_neg (hn 5 (by omega))).trans ?_
  exact if_neg (hn 6 (by omega))
theorem rq_pai (h : rc_ok m p t s) {a c : Nat} (ha : f_X5_isInput (nI a) = some (nI 0)) : qf 14 p a c m = some (nI 4294967295, m) := by
  show qf_14 p a c m = _
  unfold qf_14
  refine ob_s (a := -1) ?_ rfl
  unfold f_X5_path
  refine ob_s h.2.2.1 ?_
  refine (if_neg n1ne).trans ?_
  exact ob_s ha (if_pos rfl)
theorem rq_pas (h : rc_ok m p t s) {c : Nat} (hc : ¬ 0 ≤ nI c) : qf 14 p 0 c m = some (nI 4294967294, m) := by
  show qf_14 p 0 c m = _
  unfold qf_14
  refine ob_s (a := -2) ?_ rfl
  unfold f_X5_path
  refine ob_s h.2.2.1 ?_
  refine (if_neg n1ne).trans ?_
  refine ob_s (show f_X5_isInput (nI 0) = some (nI 1) by decide +kernel) ?_
  refine (if_neg n1ne).trans ?_
  exact if_neg hc
theorem rq_an (h : rc_ok m p t s) {c : Nat} (hc : nI c < 0 ∨ ¬ nI c < 256) : qf 16 p c 0 m = some (nI 4294967294, m) := by
  show qf_16 p c 0 m = _
  unfold qf_16
  refine ob_s (a := (-2, z0, z0, z0, 0)) ?_ rfl
  unfold f_X5_answer
  refine ob_s h.2.2.1 ?_
  refine (if_neg n1ne).trans ?_
  by_cases c0 : nI c < 0
  · exact if_pos c0
  · refine (if_neg c0).trans ?_
    exact if_neg (hc.resolve_left c0)
end RQ
theorem tq_c9 (m : xMu) : qf 21 9 0 0 m = some (m.2.2.2.2.1, m) := by
  show qf_21 9 0 0 m = _
  unfold qf_21
  refine ob_s (a := (m.2.2.2.2.1, z0, z0, 0)) ?_ rfl
  rfl
theorem lg_cmp_self (x : Int64) : lg_cmp x x = 0 := by
  unfold lg_cmp
  rw [if_neg (by simp), if_pos rfl]
