/-! the history: rows of references, four boards in fixed places -/
section XQ
variable {X : xb_C} {k n : Nat} {w : va_W} {lv : List (Nat × Value)} {pc : Nat} {st : List Value} {cc : ByteArray} {ws : List Cond} {own : String} {rm : Room} {ret : Option FieldType} {nL : Nat} {tys : List (ClassId × FieldType)} {D : va_G}
theorem xi_aldq (C : xb_OK X cc ws own rm ret nL tys D) {a N : Nat} {i : Int32} {f : Nat → Option Nat} {v : Nat} {Cn : String} {cA : ClassId} (hd : decode cc pc = .ok (.aaload, 1)) (q0 t0 : Nat) (ha : w[q0]? = some (a, .inl (cA, N, .inr (.inr (.inr (.inr f)))))) (ht : tys[t0]? = some (cA, .object Cn)) (hin : vp_in i N) (hv : f i.toNatClampNeg = some v) (g : xb_G X k n w lv (pc + 1) (.ref v :: st)) : xb_G X k n w lv pc (.int i :: .ref a :: st) := by
  obtain ⟨p, l, e, R, s, m, args, below, meth, c, A, Q, nL', D'⟩ := X
  obtain ⟨hx, hb, hr, hml, hown, hts, hlk, hK, hE, hA, rfl, rfl, rfl⟩ := C
  intro H locs ls hP hD hS hl
  refine va_aldq hx hb hK hP q0 t0 ha ht hin hd ?_
  rw [hv]
  exact g H locs ls hP hD hS hl
theorem xi_astq (C : xb_OK X cc ws own rm ret nL tys D) {a N v : Nat} {i : Int32} {f : Nat → Option Nat} {r : vw_C} {vs : List Value} {cA : ClassId} {w2 : va_W} (hd : decode cc pc = .ok (.aastore, 1)) (q0 t0 qk ci : Nat) (ha : w[q0]? = some (a, .inl (cA, N, .inr (.inr (.inr (.inr f)))))) (ht : tys[t0]? = some (cA, .object r.1)) (hv : w[qk]? = some (v, .inr (ci, vs))) (hc : vwCl[ci]? = some r) (hin : vp_in i N) (hw : w.set q0 (a, .inl (cA, N, .inr (.inr (.inr (.inr (va_up f i.toNatClampNeg (some v))))))) = w2) (g : xb_G X k n w2 lv (pc + 1) st) : xb_G X k n w lv pc (.ref v :: .int i :: .ref a :: st) := by
  obtain ⟨p, l, e, R, s, m, args, below, meth, c, A, Q, nL', D'⟩ := X
  obtain ⟨hx, hb, hr, hml, hown, hts, hlk, hK, hE, hA, rfl, rfl, rfl⟩ := C
  intro H locs ls hP hD hS hl
  subst hw
  exact va_astq hx hb hK hP hD hS q0 t0 qk ci ha ht hv hc hin hd (fun H1 locs1 hP hD hS => g H1 locs1 ls hP hD hS hl)
theorem xi_null (C : xb_OK X cc ws own rm ret nL tys D) (hd : decode cc pc = .ok (.aconst_null, 1)) (g : xb_G X k n w lv (pc + 1) (.null :: st)) : xb_G X k n w lv pc st := by
  obtain ⟨p, l, e, R, s, m, args, below, meth, c, A, Q, nL', D'⟩ := X
  obtain ⟨hx, hb, hr, hml, hown, hts, hlk, hK, hE, hA, rfl, rfl, rfl⟩ := C
  intro H locs ls hP hD hS hl
  exact lv_null hx hb hd (g H locs ls hP hD hS hl)
theorem xi_ifnullR (C : xb_OK X cc ws own rm ret nL tys D) {x : Nat} {off : Int} (hd : decode cc pc = .ok (.ifnull off, 3)) (g : xb_G X k n w lv (pc + 3) st) : xb_G X k n w lv pc (.ref x :: st) := by
  obtain ⟨p, l, e, R, s, m, args, below, meth, c, A, Q, nL', D'⟩ := X
  obtain ⟨hx, hb, hr, hml, hown, hts, hlk, hK, hE, hA, rfl, rfl, rfl⟩ := C
  intro H locs ls hP hD hS hl
  exact lv_ifnull hx hb hd (g H locs ls hP hD hS hl)
theorem xi_ifnonnullR (C : xb_OK X cc ws own rm ret nL tys D) {x tgt : Nat} {off : Int} (hd : decode cc pc = .ok (.ifnonnull off, 3)) (ht : (pc : Int) + off = (tgt : Int)) (g : xb_G X k n w lv tgt st) : xb_G X k n w lv pc (.ref x :: st) := by
  obtain ⟨p, l, e, R, s, m, args, below, meth, c, A, Q, nL', D'⟩ := X
  obtain ⟨hx, hb, hr, hml, hown, hts, hlk, hK, hE, hA, rfl, rfl, rfl⟩ := C
  intro H locs ls hP hD hS hl
  exact lv_ifnonnull hx hb hd ht (g H locs ls hP hD hS hl)
theorem xi_ifnonnullN (C : xb_OK X cc ws own rm ret nL tys D) {off : Int} (hd : decode cc pc = .ok (.ifnonnull off, 3)) (g : xb_G X k n w lv (pc + 3) st) : xb_G X k n w lv pc (.null :: st) := by
  obtain ⟨p, l, e, R, s, m, args, below, meth, c, A, Q, nL', D'⟩ := X
  obtain ⟨hx, hb, hr, hml, hown, hts, hlk, hK, hE, hA, rfl, rfl, rfl⟩ := C
  intro H locs ls hP hD hS hl
  exact lv_ifnonnullN hx hb hd (g H locs ls hP hD hS hl)
theorem xi_astore_nN (C : xb_OK X cc ws own rm ret nL tys D) {kk : Fin 4} {i : Nat} {lv2 : List (Nat × Value)} (hd : decode cc pc = .ok (.astore_n kk, 1)) (hi : (kk : Nat) = i) (hn : i < nL) (js ks : List Nat) (hq : lv_pick (xb_sto lv i .null js) ks = lv2) (g : xb_G X k n w lv2 (pc + 1) st) : xb_G X k n w lv pc (.null :: st) := by
  obtain ⟨p, l, e, R, s, m, args, below, meth, c, A, Q, nL', D'⟩ := X
  obtain ⟨hx, hb, hr, hml, hown, hts, hlk, hK, hE, hA, rfl, rfl, rfl⟩ := C
  intro H locs ls hP hD hS hl
  exact lv_astore_nN hx hb hd hi hl hn rfl (fun ls' h' => g H locs ls' hP hD hS (xb_sto_has js h' ks hq))
theorem xi_aload_nN (C : xb_OK X cc ws own rm ret nL tys D) {kk : Fin 4} {i : Nat} (hd : decode cc pc = .ok (.aload_n kk, 1)) (hi : (kk : Nat) = i) (j : Nat) (hj : lv[j]? = some (i, .null)) (g : xb_G X k n w lv (pc + 1) (.null :: st)) : xb_G X k n w lv pc st := by
  obtain ⟨p, l, e, R, s, m, args, below, meth, c, A, Q, nL', D'⟩ := X
  obtain ⟨hx, hb, hr, hml, hown, hts, hlk, hK, hE, hA, rfl, rfl, rfl⟩ := C
  intro H locs ls hP hD hS hl
  exact lv_aload_nN hx hb hd hi (lv_at hl j hj) (g H locs ls hP hD hS hl)
theorem xi_aret {cn : String} (C : xb_OK X cc ws own rm (some (.object cn)) nL tys D) {v : Value} (hv : v = .null ∨ ∃ a, v = .ref a) (Z : xb_Fin X D (some v) w) (hd : decode cc pc = .ok (.areturn, 1)) : xb_G X 0 0 w lv pc [v] := by
  obtain ⟨p, l, e, R, s, m, args, below, meth, c, A, Q, nL', D'⟩ := X
  obtain ⟨hx, hb, hr, hml, hown, hts, hlk, hK, hE, hA, rfl, rfl, rfl⟩ := C
  have Z : Q = MQ below (xb_Q D' (some v) w A) args s 0 0 A := Z
  subst Z
  intro H locs ls hP hD hS hl
  exact W.aret hx hb hr (Or.inl ⟨_, rfl⟩) hv (fun t ht _ => ⟨rfl, by rw [ht]; exact hP, hS.F ht⟩) hS.2.2 hd hlk
end XQ
def xh_set (hb : Nat → xBd) (q : Nat) (t : xBd) : Nat → xBd := fun i => if i = q then t else hb i
def xh_rot (pm : Nat → Nat) : Nat → Nat := fun j => if j = 0 then pm 1 else if j = 1 then pm 2 else if j = 2 then pm 3 else if j = 3 then pm 0 else pm j
theorem k_X1_stateAt : xb_Y yX1_stateAt cX1_stateAt wsX1_stateAt 2 (some (.object "LookupBoard$Board")) { frames := 0, cells := 0, slots := 0, locals := 0 } 1 := ⟨⟨_, rfl⟩, by decide, ⟨by decide, by decide, by decide +kernel⟩, rfl, rfl⟩
theorem fl_X1_stateAt_11 : Cond.fieldLink RX1 11 "LookupBoard$History" "states" "[LLookupBoard$Board;" ∈ wsX1_stateAt := List.mem_of_getElem? (i := 1) rfl
theorem iw_X1_stateAt_1 : ∀ w ∈ wsX10, w ∈ wsX1_stateAt := fun w h => List.mem_cons_of_mem _ (List.mem_append_right _ h)
set_option maxHeartbeats 4000000 in
set_option maxRecDepth 100000 in
/-- a state in range -/
theorem m_X1_stateAt (D : va_G) (cI cC cZ cR : ClassId) (y0 y1 : Nat) (ha : Nat → Nat → Nat) (hn : Int32) (f : Nat → Option Nat) (hb : Nat → xBd) (p1 : Int32) (j v : Nat) (hj : j < 4) (hp : p1 = nI j) (hv : f j = some v) : xb_M cX1_stateAt wsX1_stateAt RX1 { frames := 0, cells := 0, slots := 0, locals := 0 } (some (.object "LookupBoard$Board")) 2 (xb_ty cI cC cZ cR) D [.ref y0, .int p1] (wHf cI cR y0 y1 ha hn f hb) (some (.ref v)) (wHf cI cR y0 y1 ha hn f hb) := by
  intro X C Z
  show xb_G X 0 0 (wHf cI cR y0 y1 ha hn f hb) [(0, .ref y0), (1, .int p1)] 0 []
  refine xi_iload_n C dX1_stateAt_0 rfl 1 rfl ?_
  refine xi_if_lt (tgt := 22) C dX1_stateAt_1 (by decide) (fun c1 => ?_) (fun c1 => ?_)
  · exact absurd c1 (by rw [hp]; exact nI_pos (by omega))
  · refine xi_iload_n C dX1_stateAt_4 rfl 1 rfl ?_
    refine xi_aload_n C dX1_stateAt_5 rfl 0 rfl ?_
    refine xi_get C dX1_stateAt_6 iw_X1_stateAt_1 0 rfl rfl 0 (by decide) fl_X1_stateAt_11 rfl ?_
    refine xi_alen (v := 4) C dX1_stateAt_9 1 3 rfl rfl rfl ?_
    refine xi_icmp_ge (tgt := 22) C dX1_stateAt_10 (by decide) (fun c2 => ?_) (fun c2 => ?_)
    · exact absurd c2 (by rw [hp]; exact nI_ge (b := 4) hj (by omega))
    · refine xi_aload_n C dX1_stateAt_13 rfl 0 rfl ?_
      refine xi_get C dX1_stateAt_14 iw_X1_stateAt_1 0 rfl rfl 0 (by decide) fl_X1_stateAt_11 rfl ?_
      refine xi_iload_n C dX1_stateAt_17 rfl 1 rfl ?_
      refine xi_aldq C dX1_stateAt_18 1 3 rfl rfl (by rw [hp]; exact vp_in_nI hj (by omega)) (by rw [hp, nI_clamp (by omega)]; exact hv) ?_
      refine xi_goto (tgt := 23) C dX1_stateAt_19 (by decide) ?_
      exact xi_aret C (Or.inr ⟨_, rfl⟩) Z dX1_stateAt_23
set_option maxHeartbeats 4000000 in
set_option maxRecDepth 100000 in
/-- none below 0 -/
theorem m_X1_stateAt_no (D : va_G) (cI cC cZ cR : ClassId) (y0 y1 : Nat) (ha : Nat → Nat → Nat) (hn : Int32) (f : Nat → Option Nat) (hb : Nat → xBd) (p1 : Int32) (hp : p1 < 0) : xb_M cX1_stateAt wsX1_stateAt RX1 { frames := 0, cells := 0, slots := 0, locals := 0 } (some (.object "LookupBoard$Board")) 2 (xb_ty cI cC cZ cR) D [.ref y0, .int p1] (wHf cI cR y0 y1 ha hn f hb) (some .null) (wHf cI cR y0 y1 ha hn f hb) := by
  intro X C Z
  show xb_G X 0 0 (wHf cI cR y0 y1 ha hn f hb) [(0, .ref y0), (1, .int p1)] 0 []
  refine xi_iload_n C dX1_stateAt_0 rfl 1 rfl ?_
  refine xi_if_lt (tgt := 22) C dX1_stateAt_1 (by decide) (fun c1 => ?_) (fun c1 => ?_)
  · refine xi_null C dX1_stateAt_22 ?_
    exact xi_aret C (Or.inl rfl) Z dX1_stateAt_23
  · exact absurd hp c1
/-- a board of the four stands among the cells -/
theorem xh_at (cI cR : ClassId) (y0 y1 : Nat) (ha : Nat → Nat → Nat) (hn : Int32) (f : Nat → Option Nat) (hb : Nat → xBd) {q : Nat} (hq : q < 4) : ∃ (qk : Nat) (vs : List Value), (wHf cI cR y0 y1 ha hn f hb)[qk]? = some (ha q 0, .inr (0, vs)) := by
  rcases (show q = 0 ∨ q = 1 ∨ q = 2 ∨ q = 3 by omega) with rfl | rfl | rfl | rfl
  · exact ⟨2, _, rfl⟩
  · exact ⟨8, _, rfl⟩
  · exact ⟨14, _, rfl⟩
  · exact ⟨20, _, rfl⟩
theorem k_X1_dropOldest : xb_Y yX1_dropOldest cX1_dropOldest wsX1_dropOldest 3 none { frames := 0, cells := 0, slots := 0, locals := 0 } 0 := ⟨⟨_, rfl⟩, by decide, ⟨by decide, by decide, by decide +kernel⟩, rfl, rfl⟩
theorem fl_X1_dropOldest_11 : Cond.fieldLink RX1 11 "LookupBoard$History" "states" "[LLookupBoard$Board;" ∈ wsX1_dropOldest := List.mem_of_getElem? (i := 1) rfl
theorem fl_X1_dropOldest_17 : Cond.fieldLink RX1 17 "LookupBoard$History" "size" "I" ∈ wsX1_dropOldest := List.mem_of_getElem? (i := 2) rfl
theorem iw_X1_dropOldest_1 : ∀ w ∈ wsX10, w ∈ wsX1_dropOldest := fun w h => List.mem_cons_of_mem _ (List.mem_append_right _ h)
theorem vp_in_0 : vp_in 0 4 := vp_in_nI (n := 0) (by decide) (by decide)
theorem vp_in_1 : vp_in 1 4 := vp_in_nI (n := 1) (by decide) (by decide)
theorem vp_in_2 : vp_in 2 4 := vp_in_nI (n := 2) (by decide) (by decide)
theorem vp_in_3 : vp_in 3 4 := vp_in_nI (n := 3) (by decide) (by decide)
theorem xh_cl (j : Nat) (h : j < 4) : (nI j).toNatClampNeg = j := nI_clamp (by omega)

set_option maxHeartbeats 4000000 in
set_option maxRecDepth 100000 in
/-- the oldest state's board goes to the end -/
theorem m_X1_dropOldest (D : va_G) (cI cC cZ cR : ClassId) (y0 y1 : Nat) (ha : Nat → Nat → Nat) (hn : Int32) (pm : Nat → Nat) (hb : Nat → xBd) (hp : ∀ j, j < 4 → pm j < 4) : xb_M cX1_dropOldest wsX1_dropOldest RX1 { frames := 0, cells := 0, slots := 0, locals := 0 } none 3 (xb_ty cI cC cZ cR) D [.ref y0] (wHi cI cR y0 y1 ha hn pm hb) none (wHi cI cR y0 y1 ha 3 (xh_rot pm) hb) := by
  intro X C Z
  show xb_G X 0 0 (wHi cI cR y0 y1 ha hn pm hb) [(0, .ref y0)] 0 []
  refine xi_aload_n C dX1_dropOldest_0 rfl 0 rfl ?_
  refine xi_get C dX1_dropOldest_1 iw_X1_dropOldest_1 0 rfl rfl 0 (by decide) fl_X1_dropOldest_11 rfl ?_
  refine xi_iconst (v := 0) C dX1_dropOldest_4 (by decide) ?_
  refine xi_aldq (v := ha (pm 0) 0) C dX1_dropOldest_5 1 3 rfl rfl vp_in_0 rfl ?_
  refine xi_astore_n (lv2 := [(0, .ref y0), (1, .ref (ha (pm 0) 0))]) C dX1_dropOldest_6 rfl (by decide) [0] [1, 0] rfl ?_
  refine xi_iconst (v := 1) C dX1_dropOldest_7 (by decide) ?_
  refine xi_istore_n (lv2 := [(0, .ref y0), (1, .ref (ha (pm 0) 0)), (2, .int 1)]) C dX1_dropOldest_8 rfl (by decide) [0, 1] [1, 2, 0] rfl ?_
  obtain ⟨f0, hf0⟩ : ∃ f : Nat → Option Nat, f = fun j => some (ha (pm j) 0) := ⟨_, rfl⟩
  refine xb_w (w' := wHf cI cR y0 y1 ha hn f0 hb) (by rw [hf0]; rfl) ?_
  -- turn 1
  refine xi_iload_n C dX1_dropOldest_9 rfl 2 rfl ?_
  refine xi_iconst (v := 4) C dX1_dropOldest_10 (by decide) ?_
  refine xi_icmp_ge (tgt := 34) C dX1_dropOldest_11 (by decide) (fun c => absurd c (by decide)) (fun _ => ?_)
  refine xi_aload_n C dX1_dropOldest_14 rfl 0 rfl ?_
  refine xi_get C dX1_dropOldest_15 iw_X1_dropOldest_1 0 rfl rfl 0 (by decide) fl_X1_dropOldest_11 rfl ?_
  refine xi_iload_n C dX1_dropOldest_18 rfl 2 rfl ?_
  refine xi_iconst (v := 1) C dX1_dropOldest_19 (by decide) ?_
  refine xi_isub C dX1_dropOldest_20 ?_
  rw [show ((1 : Int32) - 1) = 0 by decide]
  refine xi_aload_n C dX1_dropOldest_21 rfl 0 rfl ?_
  refine xi_get C dX1_dropOldest_22 iw_X1_dropOldest_1 0 rfl rfl 0 (by decide) fl_X1_dropOldest_11 rfl ?_
  refine xi_iload_n C dX1_dropOldest_25 rfl 2 rfl ?_
  have e1 : f0 (1 : Int32).toNatClampNeg = some (ha (pm 1) 0) := by
    rw [show (1 : Int32).toNatClampNeg = 1 from xh_cl 1 (by decide)]
    rw [hf0]
  refine xi_aldq (v := ha (pm 1) 0) C dX1_dropOldest_26 1 3 rfl rfl vp_in_1 e1 ?_
  obtain ⟨qk, vs, hq⟩ := xh_at cI cR y0 y1 ha hn f0 hb (hp 1 (by decide))
  obtain ⟨f1, hf1⟩ : ∃ f : Nat → Option Nat, f = va_up f0 (0 : Int32).toNatClampNeg (some (ha (pm 1) 0)) := ⟨_, rfl⟩
  refine xi_astq (w2 := wHf cI cR y0 y1 ha hn f1 hb) (r := (RX0, TX0, 7)) C dX1_dropOldest_27 1 3 qk 0 rfl rfl hq rfl vp_in_0 (by rw [hf1]; rfl) ?_
  refine xi_iinc (v := 2) (lv2 := [(0, .ref y0), (1, .ref (ha (pm 0) 0)), (2, .int 2)]) C dX1_dropOldest_28 2 rfl (by decide) (by decide) [0, 1] [1, 2, 0] rfl ?_
  refine xi_goto (tgt := 9) C dX1_dropOldest_31 (by decide) ?_
  -- turn 2
  refine xi_iload_n C dX1_dropOldest_9 rfl 2 rfl ?_
  refine xi_iconst (v := 4) C dX1_dropOldest_10 (by decide) ?_
  refine xi_icmp_ge (tgt := 34) C dX1_dropOldest_11 (by decide) (fun c => absurd c (by decide)) (fun _ => ?_)
  refine xi_aload_n C dX1_dropOldest_14 rfl 0 rfl ?_
  refine xi_get C dX1_dropOldest_15 iw_X1_dropOldest_1 0 rfl rfl 0 (by decide) fl_X1_dropOldest_11 rfl ?_
  refine xi_iload_n C dX1_dropOldest_18 rfl 2 rfl ?_
  refine xi_iconst (v := 1) C dX1_dropOldest_19 (by decide) ?_
  refine xi_isub C dX1_dropOldest_20 ?_
  rw [show ((2 : Int32) - 1) = 1 by decide]
  refine xi_aload_n C dX1_dropOldest_21 rfl 0 rfl ?_
  refine xi_get C dX1_dropOldest_22 iw_X1_dropOldest_1 0 rfl rfl 0 (by decide) fl_X1_dropOldest_11 rfl ?_
  refine xi_iload_n C dX1_dropOldest_25 rfl 2 rfl ?_
  have e2 : f1 (2 : Int32).toNatClampNeg = some (ha (pm 2) 0) := by
    rw [show (2 : Int32).toNatClampNeg = 2 from xh_cl 2 (by decide)]
    rw [hf1, show (0 : Int32).toNatClampNeg = 0 from xh_cl 0 (by decide), hf0]; rfl
  refine xi_aldq (v := ha (pm 2) 0) C dX1_dropOldest_26 1 3 rfl rfl vp_in_2 e2 ?_
  obtain ⟨qk, vs, hq⟩ := xh_at cI cR y0 y1 ha hn f1 hb (hp 2 (by decide))
  obtain ⟨f2, hf2⟩ : ∃ f : Nat → Option Nat, f = va_up f1 (1 : Int32).toNatClampNeg (some (ha (pm 2) 0)) := ⟨_, rfl⟩
  refine xi_astq (w2 := wHf cI cR y0 y1 ha hn f2 hb) (r := (RX0, TX0, 7)) C dX1_dropOldest_27 1 3 qk 0 rfl rfl hq rfl vp_in_1 (by rw [hf2]; rfl) ?_
  refine xi_iinc (v := 3) (lv2 := [(0, .ref y0), (1, .ref (ha (pm 0) 0)), (2, .int 3)]) C dX1_dropOldest_28 2 rfl (by decide) (by decide) [0, 1] [1, 2, 0] rfl ?_
  refine xi_goto (tgt := 9) C dX1_dropOldest_31 (by decide) ?_
  -- turn 3
  refine xi_iload_n C dX1_dropOldest_9 rfl 2 rfl ?_
  refine xi_iconst (v := 4) C dX1_dropOldest_10 (by decide) ?_
  refine xi_icmp_ge (tgt := 34) C dX1_dropOldest_11 (by decide) (fun c => absurd c (by decide)) (fun _ => ?_)
  refine xi_aload_n C dX1_dropOldest_14 rfl 0 rfl ?_
  refine xi_get C dX1_dropOldest_15 iw_X1_dropOldest_1 0 rfl rfl 0 (by decide) fl_X1_dropOldest_11 rfl ?_
  refine xi_iload_n C dX1_dropOldest_18 rfl 2 rfl ?_
  refine xi_iconst (v := 1) C dX1_dropOldest_19 (by decide) ?_
  refine xi_isub C dX1_dropOldest_20 ?_
  rw [show ((3 : Int32) - 1) = 2 by decide]
  refine xi_aload_n C dX1_dropOldest_21 rfl 0 rfl ?_
  refine xi_get C dX1_dropOldest_22 iw_X1_dropOldest_1 0 rfl rfl 0 (by decide) fl_X1_dropOldest_11 rfl ?_
  refine xi_iload_n C dX1_dropOldest_25 rfl 2 rfl ?_
  have e3 : f2 (3 : Int32).toNatClampNeg = some (ha (pm 3) 0) := by
    rw [show (3 : Int32).toNatClampNeg = 3 from xh_cl 3 (by decide)]
    rw [hf2, hf1, show (1 : Int32).toNatClampNeg = 1 from xh_cl 1 (by decide), show (0 : Int32).toNatClampNeg = 0 from xh_cl 0 (by decide), hf0]; rfl
  refine xi_aldq (v := ha (pm 3) 0) C dX1_dropOldest_26 1 3 rfl rfl vp_in_3 e3 ?_
  obtain ⟨qk, vs, hq⟩ := xh_at cI cR y0 y1 ha hn f2 hb (hp 3 (by decide))
  obtain ⟨f3, hf3⟩ : ∃ f : Nat → Option Nat, f = va_up f2 (2 : Int32).toNatClampNeg (some (ha (pm 3) 0)) := ⟨_, rfl⟩
  refine xi_astq (w2 := wHf cI cR y0 y1 ha hn f3 hb) (r := (RX0, TX0, 7)) C dX1_dropOldest_27 1 3 qk 0 rfl rfl hq rfl vp_in_2 (by rw [hf3]; rfl) ?_
  refine xi_iinc (v := 4) (lv2 := [(0, .ref y0), (1, .ref (ha (pm 0) 0)), (2, .int 4)]) C dX1_dropOldest_28 2 rfl (by decide) (by decide) [0, 1] [1, 2, 0] rfl ?_
  refine xi_goto (tgt := 9) C dX1_dropOldest_31 (by decide) ?_
  refine xi_iload_n C dX1_dropOldest_9 rfl 2 rfl ?_
  refine xi_iconst (v := 4) C dX1_dropOldest_10 (by decide) ?_
  refine xi_icmp_ge (tgt := 34) C dX1_dropOldest_11 (by decide) (fun _ => ?_) (fun c => absurd (by decide) c)
  refine xi_aload_n C dX1_dropOldest_34 rfl 0 rfl ?_
  refine xi_get C dX1_dropOldest_35 iw_X1_dropOldest_1 0 rfl rfl 0 (by decide) fl_X1_dropOldest_11 rfl ?_
  refine xi_iconst (v := 3) C dX1_dropOldest_38 (by decide) ?_
  refine xi_aload_n C dX1_dropOldest_39 rfl 1 rfl ?_
  obtain ⟨qk, vs, hq⟩ := xh_at cI cR y0 y1 ha hn f3 hb (hp 0 (by decide))
  obtain ⟨f4, hf4⟩ : ∃ f : Nat → Option Nat, f = va_up f3 (3 : Int32).toNatClampNeg (some (ha (pm 0) 0)) := ⟨_, rfl⟩
  refine xi_astq (w2 := wHf cI cR y0 y1 ha hn f4 hb) (r := (RX0, TX0, 7)) C dX1_dropOldest_40 1 3 qk 0 rfl rfl hq rfl vp_in_3 (by rw [hf4]; rfl) ?_
  refine xi_aload_n C dX1_dropOldest_41 rfl 0 rfl ?_
  refine xi_iconst (v := 3) C dX1_dropOldest_42 (by decide) ?_
  refine xi_put (ty := .int) (w2 := wHf cI cR y0 y1 ha 3 f4 hb) C dX1_dropOldest_43 iw_X1_dropOldest_1 tyX1 tyX1_ok nmX1 0 rfl rfl 1 (by decide) fl_X1_dropOldest_17 rfl (by decide +kernel) (by rfl) (by rfl) (Nat.le_of_ble_eq_true rfl) rfl ?_
  refine xb_w (w' := wHi cI cR y0 y1 ha 3 (xh_rot pm) hb) ?_ (xi_ret C Z dX1_dropOldest_46)
  have hf : f4 = fun j => some (ha (xh_rot pm j) 0) := by
    rw [hf4, hf3, hf2, hf1, hf0, show (3 : Int32).toNatClampNeg = 3 from xh_cl 3 (by decide), show (2 : Int32).toNatClampNeg = 2 from xh_cl 2 (by decide), show (1 : Int32).toNatClampNeg = 1 from xh_cl 1 (by decide), show (0 : Int32).toNatClampNeg = 0 from xh_cl 0 (by decide)]
    funext j
    unfold va_up xh_rot
    by_cases h0 : j = 0
    · subst h0; rfl
    · by_cases h1 : j = 1
      · subst h1; rfl
      · by_cases h2 : j = 2
        · subst h2; rfl
        · by_cases h3 : j = 3
          · subst h3; rfl
          · rw [if_neg h3, if_neg h2, if_neg h1, if_neg h0, if_neg h0, if_neg h1, if_neg h2, if_neg h3]
  rw [hf]
  rfl
