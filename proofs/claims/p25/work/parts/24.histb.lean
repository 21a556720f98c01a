/-- remembers, where there is room -/
def f_X1_rest (hn : Int32) (pm : Nat → Nat) (hb : Nat → xBd) (b : xBd) : Option (Int32 × (Nat → Nat) × (Nat → xBd)) :=
  if 0 ≤ hn.toInt ∧ hn.toInt < 4 ∧ pm hn.toNatClampNeg < 4 then
    (f_X0_copyFrom (hb (pm hn.toNatClampNeg)).1 (hb (pm hn.toNatClampNeg)).2.1 (hb (pm hn.toNatClampNeg)).2.2.1 (hb (pm hn.toNatClampNeg)).2.2.2.1 (hb (pm hn.toNatClampNeg)).2.2.2.2.1 (hb (pm hn.toNatClampNeg)).2.2.2.2.2.1 (hb (pm hn.toNatClampNeg)).2.2.2.2.2.2 b.1 b.2.1 b.2.2.1 b.2.2.2.1 b.2.2.2.2.1 b.2.2.2.2.2.1 b.2.2.2.2.2.2).bind fun t =>
    some (hn + 1, pm, xh_set hb (pm hn.toNatClampNeg) t)
  else none
def f_X1_remember (hn : Int32) (pm : Nat → Nat) (hb : Nat → xBd) (b : xBd) : Option (Int32 × (Nat → Nat) × (Nat → xBd)) :=
  if hn < 4 then f_X1_rest hn pm hb b
  else if pm 0 < 4 ∧ pm 1 < 4 ∧ pm 2 < 4 ∧ pm 3 < 4 then f_X1_rest 3 (xh_rot pm) hb b
  else none
def f_X1_bringBack (hn : Int32) (pm : Nat → Nat) (hb : Nat → xBd) (b : xBd) : Option (Int32 × Int32 × xBd) :=
  if hn = 0 then some (0, hn, b)
  else if 0 ≤ (hn - 1).toInt ∧ (hn - 1).toInt < 4 ∧ pm (hn - 1).toNatClampNeg < 4 then
    (f_X0_copyFrom b.1 b.2.1 b.2.2.1 b.2.2.2.1 b.2.2.2.2.1 b.2.2.2.2.2.1 b.2.2.2.2.2.2 (hb (pm (hn - 1).toNatClampNeg)).1 (hb (pm (hn - 1).toNatClampNeg)).2.1 (hb (pm (hn - 1).toNatClampNeg)).2.2.1 (hb (pm (hn - 1).toNatClampNeg)).2.2.2.1 (hb (pm (hn - 1).toNatClampNeg)).2.2.2.2.1 (hb (pm (hn - 1).toNatClampNeg)).2.2.2.2.2.1 (hb (pm (hn - 1).toNatClampNeg)).2.2.2.2.2.2).bind fun t =>
    some (1, hn - 1, t)
  else none
/-- the same with the four boards told one by one -/
def wH4 (cI cR : ClassId) (h a : Nat) (ha : Nat → Nat → Nat) (hn : Int32) (f : Nat → Option Nat) (c0 c1 c2 c3 : xBd) : va_W := (h, .inr (1, [.ref a, .int hn])) :: (a, .inl (cR, 4, .inr (.inr (.inr (.inr f))))) :: (wHb cI (ha 0) c0 ++ wHb cI (ha 1) c1 ++ wHb cI (ha 2) c2 ++ wHb cI (ha 3) c3)
theorem wHf_s0 (cI cR : ClassId) (h a : Nat) (ha : Nat → Nat → Nat) (hn : Int32) (f : Nat → Option Nat) (hb : Nat → xBd) (t : xBd) : wHf cI cR h a ha hn f (xh_set hb 0 t) = wH4 cI cR h a ha hn f t (hb 1) (hb 2) (hb 3) := by
  show wH4 cI cR h a ha hn f (xh_set hb 0 t 0) (xh_set hb 0 t 1) (xh_set hb 0 t 2) (xh_set hb 0 t 3) = _
  rw [show xh_set hb 0 t 0 = t from if_pos rfl, show xh_set hb 0 t 1 = hb 1 from if_neg (by decide), show xh_set hb 0 t 2 = hb 2 from if_neg (by decide), show xh_set hb 0 t 3 = hb 3 from if_neg (by decide)]
theorem wHf_s1 (cI cR : ClassId) (h a : Nat) (ha : Nat → Nat → Nat) (hn : Int32) (f : Nat → Option Nat) (hb : Nat → xBd) (t : xBd) : wHf cI cR h a ha hn f (xh_set hb 1 t) = wH4 cI cR h a ha hn f (hb 0) t (hb 2) (hb 3) := by
  show wH4 cI cR h a ha hn f (xh_set hb 1 t 0) (xh_set hb 1 t 1) (xh_set hb 1 t 2) (xh_set hb 1 t 3) = _
  rw [show xh_set hb 1 t 0 = hb 0 from if_neg (by decide), show xh_set hb 1 t 1 = t from if_pos rfl, show xh_set hb 1 t 2 = hb 2 from if_neg (by decide), show xh_set hb 1 t 3 = hb 3 from if_neg (by decide)]
theorem wHf_s2 (cI cR : ClassId) (h a : Nat) (ha : Nat → Nat → Nat) (hn : Int32) (f : Nat → Option Nat) (hb : Nat → xBd) (t : xBd) : wHf cI cR h a ha hn f (xh_set hb 2 t) = wH4 cI cR h a ha hn f (hb 0) (hb 1) t (hb 3) := by
  show wH4 cI cR h a ha hn f (xh_set hb 2 t 0) (xh_set hb 2 t 1) (xh_set hb 2 t 2) (xh_set hb 2 t 3) = _
  rw [show xh_set hb 2 t 0 = hb 0 from if_neg (by decide), show xh_set hb 2 t 1 = hb 1 from if_neg (by decide), show xh_set hb 2 t 2 = t from if_pos rfl, show xh_set hb 2 t 3 = hb 3 from if_neg (by decide)]
theorem wHf_s3 (cI cR : ClassId) (h a : Nat) (ha : Nat → Nat → Nat) (hn : Int32) (f : Nat → Option Nat) (hb : Nat → xBd) (t : xBd) : wHf cI cR h a ha hn f (xh_set hb 3 t) = wH4 cI cR h a ha hn f (hb 0) (hb 1) (hb 2) t := by
  show wH4 cI cR h a ha hn f (xh_set hb 3 t 0) (xh_set hb 3 t 1) (xh_set hb 3 t 2) (xh_set hb 3 t 3) = _
  rw [show xh_set hb 3 t 0 = hb 0 from if_neg (by decide), show xh_set hb 3 t 1 = hb 1 from if_neg (by decide), show xh_set hb 3 t 2 = hb 2 from if_neg (by decide), show xh_set hb 3 t 3 = t from if_pos rfl]
theorem fl_X1_remember_17 : Cond.fieldLink RX1 17 "LookupBoard$History" "size" "I" ∈ wsX1_remember := List.mem_of_getElem? (i := 1) rfl
theorem iw_X1_remember_1 : ∀ w ∈ wsX10, w ∈ wsX1_remember := fun w h => List.mem_cons_of_mem _ (List.mem_append_left _ (List.mem_append_right _ h))
theorem fl_X1_bringBack_17 : Cond.fieldLink RX1 17 "LookupBoard$History" "size" "I" ∈ wsX1_bringBack := List.mem_of_getElem? (i := 1) rfl
theorem iw_X1_bringBack_1 : ∀ w ∈ wsX10, w ∈ wsX1_bringBack := fun w h => List.mem_cons_of_mem _ (List.mem_append_left _ (List.mem_append_right _ h))
theorem k_X1_remember : xb_Y yX1_remember cX1_remember wsX1_remember 3 none { frames := 2, cells := 0, slots := 0, locals := 61 } 1 := ⟨⟨_, rfl⟩, by decide, ⟨by decide, by decide, by decide +kernel⟩, rfl, rfl⟩
theorem k_X1_bringBack : xb_Y yX1_bringBack cX1_bringBack wsX1_bringBack 3 (some .boolean) { frames := 2, cells := 0, slots := 0, locals := 61 } 1 := ⟨⟨_, rfl⟩, by decide, ⟨by decide, by decide, by decide +kernel⟩, rfl, rfl⟩
set_option maxHeartbeats 8000000 in
set_option maxRecDepth 100000 in
theorem m_X1_remember (D : va_G) (cI cC cZ cR : ClassId) (y0 y1 : Nat) (ha : Nat → Nat → Nat) (b0 b1 b2 b3 b4 b5 : Nat) (hn : Int32) (pm : Nat → Nat) (hb : Nat → xBd) (b : xBd) (hn' : Int32) (pm' : Nat → Nat) (hb' : Nat → xBd) (h : f_X1_remember hn pm hb b = some (hn', pm', hb')) : xb_M cX1_remember wsX1_remember RX1 { frames := 2, cells := 0, slots := 0, locals := 61 } none 3 (xb_ty cI cC cZ cR) D [.ref y0, .ref b0] (wHi cI cR y0 y1 ha hn pm hb ++ wBd cI b0 b1 b2 b3 b4 b5 b.1 b.2.1 b.2.2.1 b.2.2.2.1 b.2.2.2.2.1 b.2.2.2.2.2.1 b.2.2.2.2.2.2) none (wHi cI cR y0 y1 ha hn' pm' hb' ++ wBd cI b0 b1 b2 b3 b4 b5 b.1 b.2.1 b.2.2.1 b.2.2.2.1 b.2.2.2.2.1 b.2.2.2.2.2.1 b.2.2.2.2.2.2) := by
  intro X C Z
  show xb_G X 0 0 (wHi cI cR y0 y1 ha hn pm hb ++ wBd cI b0 b1 b2 b3 b4 b5 b.1 b.2.1 b.2.2.1 b.2.2.2.1 b.2.2.2.2.1 b.2.2.2.2.2.1 b.2.2.2.2.2.2) [(0, .ref y0), (1, .ref b0)] 0 []
  have rest : ∀ (hn : Int32) (pm : Nat → Nat), f_X1_rest hn pm hb b = some (hn', pm', hb') → xb_G X 0 0 (wHi cI cR y0 y1 ha hn pm hb ++ wBd cI b0 b1 b2 b3 b4 b5 b.1 b.2.1 b.2.2.1 b.2.2.2.1 b.2.2.2.2.1 b.2.2.2.2.2.1 b.2.2.2.2.2.2) [(0, .ref y0), (1, .ref b0)] 12 [] := by
    intro hn pm h
    unfold f_X1_rest at h
    split at h
    · next hc =>
      obtain ⟨hc0, hc1, hc2⟩ := hc
      obtain ⟨j, hj, rfl⟩ := vp_in_of (n := 4) (vp_in_iff.mpr ⟨hc0, hc1⟩) (by decide)
      rw [nI_clamp (by omega)] at hc2 h
      obtain ⟨t, e1, h⟩ := ob_i h
      have w0 := Option.some.inj h
      obtain ⟨q0, w1⟩ := Prod.mk.inj w0
      obtain ⟨q1, w2⟩ := Prod.mk.inj w1
      subst q0
      subst q1
      subst w2
      refine xi_aload_n C dX1_remember_12 rfl 0 rfl ?_
      refine xi_aload_n C dX1_remember_13 rfl 0 rfl ?_
      refine xi_get C dX1_remember_14 iw_X1_remember_1 0 rfl rfl 1 (by decide) fl_X1_remember_17 rfl ?_
      obtain ⟨q, hq⟩ : ∃ q, q = pm j := ⟨_, rfl⟩
      rw [← hq] at hc2 e1 Z
      refine xi_callV (As := [.int (nI j)]) (o := some (.ref (ha q 0))) (rest := []) (w2 := (wHf cI cR y0 y1 ha (nI j) (fun j => some (ha (pm j) 0)) hb ++ wBd cI b0 b1 b2 b3 b4 b5 b.1 b.2.1 b.2.2.1 b.2.2.2.1 b.2.2.2.2.1 b.2.2.2.2.2.1 b.2.2.2.2.2.2)) (st2 := [.ref (ha q 0)]) C k_X1_stateAt (m_X1_stateAt D cI cC cZ cR y0 y1 ha (nI j) (fun j => some (ha (pm j) 0)) hb (nI j) j (ha q 0) hj rfl (by rw [hq])) gX1_remember_X1_stateAt dX1_remember_17 ⟨Nat.le_of_ble_eq_true rfl, Nat.le_of_ble_eq_true rfl, Nat.le_of_ble_eq_true rfl⟩ 0 rfl rfl [0, 1, 2, 3, 4, 5, 6, 7, 8, 9, 10, 11, 12, 13, 14, 15, 16, 17, 18, 19, 20, 21, 22, 23, 24, 25] rfl rfl [0, 1, 2, 3] rfl rfl (xb_mixq [26, 27, 28, 29, 30, 31] 32 rfl rfl rfl rfl (xb_smc rfl rfl (xb_smc rfl rfl (xb_smc rfl rfl (xb_smc rfl rfl (xb_smc rfl rfl (xb_smc rfl rfl xb_smn)))))) (by decide +kernel) (by decide +kernel)) rfl (Nat.le_of_ble_eq_true rfl) ⟨Nat.zero_le _, Nat.zero_le _⟩ rfl ?_
      refine xi_astore_n (lv2 := [(0, .ref y0), (1, .ref b0), (2, .ref (ha q 0))]) C dX1_remember_20 rfl (by decide) [0, 1] [1, 2, 0] rfl ?_
      refine xi_aload_n C dX1_remember_21 rfl 2 rfl ?_
      refine xi_ifnullR C dX1_remember_22 ?_
      refine xi_aload_n C dX1_remember_25 rfl 2 rfl ?_
      refine xi_aload_n C dX1_remember_26 rfl 1 rfl ?_
      obtain ⟨t1, t2, t3, t4, t5, t6, t7⟩ := t
      clear hc0 hc1
      rcases (show q = 0 ∨ q = 1 ∨ q = 2 ∨ q = 3 by omega) with hz | hz | hz | hz
      · rw [hz] at e1 Z ⊢
        unfold wHi at Z
        rw [wHf_s0] at Z
        refine xi_callV (As := [.ref b0]) (o := none) (rest := []) (w2 := (wH4 cI cR y0 y1 ha (nI j) (fun j => some (ha (pm j) 0)) (t1, t2, t3, t4, t5, t6, t7) (hb 1) (hb 2) (hb 3) ++ wBd cI b0 b1 b2 b3 b4 b5 b.1 b.2.1 b.2.2.1 b.2.2.2.1 b.2.2.2.2.1 b.2.2.2.2.2.1 b.2.2.2.2.2.2)) (st2 := []) C k_X0_copyFrom (m_X0_copyFrom D cI cC cZ cR (ha 0 0) (ha 0 1) (ha 0 2) (ha 0 3) (ha 0 4) (ha 0 5) b0 b1 b2 b3 b4 b5 (hb 0).1 (hb 0).2.1 (hb 0).2.2.1 (hb 0).2.2.2.1 (hb 0).2.2.2.2.1 (hb 0).2.2.2.2.2.1 (hb 0).2.2.2.2.2.2 b.1 b.2.1 b.2.2.1 b.2.2.2.1 b.2.2.2.2.1 b.2.2.2.2.2.1 b.2.2.2.2.2.2 t1 t2 t3 t4 t5 t6 t7 e1) gX1_remember_X0_copyFrom dX1_remember_27 ⟨Nat.le_of_ble_eq_true rfl, Nat.le_of_ble_eq_true rfl, Nat.le_of_ble_eq_true rfl⟩ 2 rfl rfl [2, 3, 4, 5, 6, 7, 26, 27, 28, 29, 30, 31] rfl rfl [0, 1, 2, 3] rfl rfl (xb_mixq [0, 1, 8, 9, 10, 11, 12, 13, 14, 15, 16, 17, 18, 19, 20, 21, 22, 23, 24, 25] 32 rfl rfl rfl rfl (xb_smc rfl rfl (xb_smc rfl rfl (xb_smc rfl rfl (xb_smc rfl rfl (xb_smc rfl rfl (xb_smc rfl rfl (xb_smc rfl rfl (xb_smc rfl rfl (xb_smc rfl rfl (xb_smc rfl rfl (xb_smc rfl rfl (xb_smc rfl rfl (xb_smc rfl rfl (xb_smc rfl rfl (xb_smc rfl rfl (xb_smc rfl rfl (xb_smc rfl rfl (xb_smc rfl rfl (xb_smc rfl rfl (xb_smc rfl rfl xb_smn)))))))))))))))))))) (by decide +kernel) (by decide +kernel)) rfl (Nat.le_of_ble_eq_true rfl) ⟨Nat.zero_le _, Nat.zero_le _⟩ rfl ?_
        refine xi_aload_n C dX1_remember_30 rfl 0 rfl ?_
        refine xi_dup C dX1_remember_31 rfl ?_
        refine xi_get C dX1_remember_32 iw_X1_remember_1 0 rfl rfl 1 (by decide) fl_X1_remember_17 rfl ?_
        refine xi_iconst (v := 1) C dX1_remember_35 (by decide) ?_
        refine xi_iadd C dX1_remember_36 ?_
        refine xi_put (ty := .int) (w2 := (wH4 cI cR y0 y1 ha (nI j + 1) (fun j => some (ha (pm j) 0)) (t1, t2, t3, t4, t5, t6, t7) (hb 1) (hb 2) (hb 3) ++ wBd cI b0 b1 b2 b3 b4 b5 b.1 b.2.1 b.2.2.1 b.2.2.2.1 b.2.2.2.2.1 b.2.2.2.2.2.1 b.2.2.2.2.2.2)) C dX1_remember_37 iw_X1_remember_1 tyX1 tyX1_ok nmX1 0 rfl rfl 1 (by decide) fl_X1_remember_17 rfl (by decide +kernel) (by rfl) (by rfl) (Nat.le_of_ble_eq_true rfl) rfl ?_
        exact xi_ret C Z dX1_remember_40
      · rw [hz] at e1 Z ⊢
        unfold wHi at Z
        rw [wHf_s1] at Z
        refine xi_callV (As := [.ref b0]) (o := none) (rest := []) (w2 := (wH4 cI cR y0 y1 ha (nI j) (fun j => some (ha (pm j) 0)) (hb 0) (t1, t2, t3, t4, t5, t6, t7) (hb 2) (hb 3) ++ wBd cI b0 b1 b2 b3 b4 b5 b.1 b.2.1 b.2.2.1 b.2.2.2.1 b.2.2.2.2.1 b.2.2.2.2.2.1 b.2.2.2.2.2.2)) (st2 := []) C k_X0_copyFrom (m_X0_copyFrom D cI cC cZ cR (ha 1 0) (ha 1 1) (ha 1 2) (ha 1 3) (ha 1 4) (ha 1 5) b0 b1 b2 b3 b4 b5 (hb 1).1 (hb 1).2.1 (hb 1).2.2.1 (hb 1).2.2.2.1 (hb 1).2.2.2.2.1 (hb 1).2.2.2.2.2.1 (hb 1).2.2.2.2.2.2 b.1 b.2.1 b.2.2.1 b.2.2.2.1 b.2.2.2.2.1 b.2.2.2.2.2.1 b.2.2.2.2.2.2 t1 t2 t3 t4 t5 t6 t7 e1) gX1_remember_X0_copyFrom dX1_remember_27 ⟨Nat.le_of_ble_eq_true rfl, Nat.le_of_ble_eq_true rfl, Nat.le_of_ble_eq_true rfl⟩ 8 rfl rfl [8, 9, 10, 11, 12, 13, 26, 27, 28, 29, 30, 31] rfl rfl [0, 1, 2, 3] rfl rfl (xb_mixq [0, 1, 2, 3, 4, 5, 6, 7, 14, 15, 16, 17, 18, 19, 20, 21, 22, 23, 24, 25] 32 rfl rfl rfl rfl (xb_smc rfl rfl (xb_smc rfl rfl (xb_smc rfl rfl (xb_smc rfl rfl (xb_smc rfl rfl (xb_smc rfl rfl (xb_smc rfl rfl (xb_smc rfl rfl (xb_smc rfl rfl (xb_smc rfl rfl (xb_smc rfl rfl (xb_smc rfl rfl (xb_smc rfl rfl (xb_smc rfl rfl (xb_smc rfl rfl (xb_smc rfl rfl (xb_smc rfl rfl (xb_smc rfl rfl (xb_smc rfl rfl (xb_smc rfl rfl xb_smn)))))))))))))))))))) (by decide +kernel) (by decide +kernel)) rfl (Nat.le_of_ble_eq_true rfl) ⟨Nat.zero_le _, Nat.zero_le _⟩ rfl ?_
        refine xi_aload_n C dX1_remember_30 rfl 0 rfl ?_
        refine xi_dup C dX1_remember_31 rfl ?_
        refine xi_get C dX1_remember_32 iw_X1_remember_1 0 rfl rfl 1 (by decide) fl_X1_remember_17 rfl ?_
        refine xi_iconst (v := 1) C dX1_remember_35 (by decide) ?_
        refine xi_iadd C dX1_remember_36 ?_
        refine xi_put (ty := .int) (w2 := (wH4 cI cR y0 y1 ha (nI j + 1) (fun j => some (ha (pm j) 0)) (hb 0) (t1, t2, t3, t4, t5, t6, t7) (hb 2) (hb 3) ++ wBd cI b0 b1 b2 b3 b4 b5 b.1 b.2.1 b.2.2.1 b.2.2.2.1 b.2.2.2.2.1 b.2.2.2.2.2.1 b.2.2.2.2.2.2)) C dX1_remember_37 iw_X1_remember_1 tyX1 tyX1_ok nmX1 0 rfl rfl 1 (by decide) fl_X1_remember_17 rfl (by decide +kernel) (by rfl) (by rfl) (Nat.le_of_ble_eq_true rfl) rfl ?_
        exact xi_ret C Z dX1_remember_40
      · rw [hz] at e1 Z ⊢
        unfold wHi at Z
        rw [wHf_s2] at Z
        refine xi_callV (As := [.ref b0]) (o := none) (rest := []) (w2 := (wH4 cI cR y0 y1 ha (nI j) (fun j => some (ha (pm j) 0)) (hb 0) (hb 1) (t1, t2, t3, t4, t5, t6, t7) (hb 3) ++ wBd cI b0 b1 b2 b3 b4 b5 b.1 b.2.1 b.2.2.1 b.2.2.2.1 b.2.2.2.2.1 b.2.2.2.2.2.1 b.2.2.2.2.2.2)) (st2 := []) C k_X0_copyFrom (m_X0_copyFrom D cI cC cZ cR (ha 2 0) (ha 2 1) (ha 2 2) (ha 2 3) (ha 2 4) (ha 2 5) b0 b1 b2 b3 b4 b5 (hb 2).1 (hb 2).2.1 (hb 2).2.2.1 (hb 2).2.2.2.1 (hb 2).2.2.2.2.1 (hb 2).2.2.2.2.2.1 (hb 2).2.2.2.2.2.2 b.1 b.2.1 b.2.2.1 b.2.2.2.1 b.2.2.2.2.1 b.2.2.2.2.2.1 b.2.2.2.2.2.2 t1 t2 t3 t4 t5 t6 t7 e1) gX1_remember_X0_copyFrom dX1_remember_27 ⟨Nat.le_of_ble_eq_true rfl, Nat.le_of_ble_eq_true rfl, Nat.le_of_ble_eq_true rfl⟩ 14 rfl rfl [14, 15, 16, 17, 18, 19, 26, 27, 28, 29, 30, 31] rfl rfl [0, 1, 2, 3] rfl rfl (xb_mixq [0, 1, 2, 3, 4, 5, 6, 7, 8, 9, 10, 11, 12, 13, 20, 21, 22, 23, 24, 25] 32 rfl rfl rfl rfl (xb_smc rfl rfl (xb_smc rfl rfl (xb_smc rfl rfl (xb_smc rfl rfl (xb_smc rfl rfl (xb_smc rfl rfl (xb_smc rfl rfl (xb_smc rfl rfl (xb_smc rfl rfl (xb_smc rfl rfl (xb_smc rfl rfl (xb_smc rfl rfl (xb_smc rfl rfl (xb_smc rfl rfl (xb_smc rfl rfl (xb_smc rfl rfl (xb_smc rfl rfl (xb_smc rfl rfl (xb_smc rfl rfl (xb_smc rfl rfl xb_smn)))))))))))))))))))) (by decide +kernel) (by decide +kernel)) rfl (Nat.le_of_ble_eq_true rfl) ⟨Nat.zero_le _, Nat.zero_le _⟩ rfl ?_
        refine xi_aload_n C dX1_remember_30 rfl 0 rfl ?_
        refine xi_dup C dX1_remember_31 rfl ?_
        refine xi_get C dX1_remember_32 iw_X1_remember_1 0 rfl rfl 1 (by decide) fl_X1_remember_17 rfl ?_
        refine xi_iconst (v := 1) C dX1_remember_35 (by decide) ?_
        refine xi_iadd C dX1_remember_36 ?_
        refine xi_put (ty := .int) (w2 := (wH4 cI cR y0 y1 ha (nI j + 1) (fun j => some (ha (pm j) 0)) (hb 0) (hb 1) (t1, t2, t3, t4, t5, t6, t7) (hb 3) ++ wBd cI b0 b1 b2 b3 b4 b5 b.1 b.2.1 b.2.2.1 b.2.2.2.1 b.2.2.2.2.1 b.2.2.2.2.2.1 b.2.2.2.2.2.2)) C dX1_remember_37 iw_X1_remember_1 tyX1 tyX1_ok nmX1 0 rfl rfl 1 (by decide) fl_X1_remember_17 rfl (by decide +kernel) (by rfl) (by rfl) (Nat.le_of_ble_eq_true rfl) rfl ?_
        exact xi_ret C Z dX1_remember_40
      · rw [hz] at e1 Z ⊢
        unfold wHi at Z
        rw [wHf_s3] at Z
        refine xi_callV (As := [.ref b0]) (o := none) (rest := []) (w2 := (wH4 cI cR y0 y1 ha (nI j) (fun j => some (ha (pm j) 0)) (hb 0) (hb 1) (hb 2) (t1, t2, t3, t4, t5, t6, t7) ++ wBd cI b0 b1 b2 b3 b4 b5 b.1 b.2.1 b.2.2.1 b.2.2.2.1 b.2.2.2.2.1 b.2.2.2.2.2.1 b.2.2.2.2.2.2)) (st2 := []) C k_X0_copyFrom (m_X0_copyFrom D cI cC cZ cR (ha 3 0) (ha 3 1) (ha 3 2) (ha 3 3) (ha 3 4) (ha 3 5) b0 b1 b2 b3 b4 b5 (hb 3).1 (hb 3).2.1 (hb 3).2.2.1 (hb 3).2.2.2.1 (hb 3).2.2.2.2.1 (hb 3).2.2.2.2.2.1 (hb 3).2.2.2.2.2.2 b.1 b.2.1 b.2.2.1 b.2.2.2.1 b.2.2.2.2.1 b.2.2.2.2.2.1 b.2.2.2.2.2.2 t1 t2 t3 t4 t5 t6 t7 e1) gX1_remember_X0_copyFrom dX1_remember_27 ⟨Nat.le_of_ble_eq_true rfl, Nat.le_of_ble_eq_true rfl, Nat.le_of_ble_eq_true rfl⟩ 20 rfl rfl [20, 21, 22, 23, 24, 25, 26, 27, 28, 29, 30, 31] rfl rfl [0, 1, 2, 3] rfl rfl (xb_mixq [0, 1, 2, 3, 4, 5, 6, 7, 8, 9, 10, 11, 12, 13, 14, 15, 16, 17, 18, 19] 32 rfl rfl rfl rfl (xb_smc rfl rfl (xb_smc rfl rfl (xb_smc rfl rfl (xb_smc rfl rfl (xb_smc rfl rfl (xb_smc rfl rfl (xb_smc rfl rfl (xb_smc rfl rfl (xb_smc rfl rfl (xb_smc rfl rfl (xb_smc rfl rfl (xb_smc rfl rfl (xb_smc rfl rfl (xb_smc rfl rfl (xb_smc rfl rfl (xb_smc rfl rfl (xb_smc rfl rfl (xb_smc rfl rfl (xb_smc rfl rfl (xb_smc rfl rfl xb_smn)))))))))))))))))))) (by decide +kernel) (by decide +kernel)) rfl (Nat.le_of_ble_eq_true rfl) ⟨Nat.zero_le _, Nat.zero_le _⟩ rfl ?_
        refine xi_aload_n C dX1_remember_30 rfl 0 rfl ?_
        refine xi_dup C dX1_remember_31 rfl ?_
        refine xi_get C dX1_remember_32 iw_X1_remember_1 0 rfl rfl 1 (by decide) fl_X1_remember_17 rfl ?_
        refine xi_iconst (v := 1) C dX1_remember_35 (by decide) ?_
        refine xi_iadd C dX1_remember_36 ?_
        refine xi_put (ty := .int) (w2 := (wH4 cI cR y0 y1 ha (nI j + 1) (fun j => some (ha (pm j) 0)) (hb 0) (hb 1) (hb 2) (t1, t2, t3, t4, t5, t6, t7) ++ wBd cI b0 b1 b2 b3 b4 b5 b.1 b.2.1 b.2.2.1 b.2.2.2.1 b.2.2.2.2.1 b.2.2.2.2.2.1 b.2.2.2.2.2.2)) C dX1_remember_37 iw_X1_remember_1 tyX1 tyX1_ok nmX1 0 rfl rfl 1 (by decide) fl_X1_remember_17 rfl (by decide +kernel) (by rfl) (by rfl) (Nat.le_of_ble_eq_true rfl) rfl ?_
        exact xi_ret C Z dX1_remember_40
    · cases h
  refine xi_aload_n C dX1_remember_0 rfl 0 rfl ?_
  refine xi_get C dX1_remember_1 iw_X1_remember_1 0 rfl rfl 1 (by decide) fl_X1_remember_17 rfl ?_
  refine xi_iconst (v := 4) C dX1_remember_4 (by decide) ?_
  unfold f_X1_remember at h
  refine xi_icmp_lt (tgt := 12) C dX1_remember_5 (by decide) (fun c1 => ?_) (fun c1 => ?_)
  · have h := it_i c1 h
    exact rest hn pm h
  · have h := ie_i c1 h
    split at h
    · next hc =>
      obtain ⟨hp0, hp1, hp2, hp3⟩ := hc
      refine xi_aload_n C dX1_remember_8 rfl 0 rfl ?_
      refine xi_callV (As := []) (o := none) (rest := []) (w2 := (wHi cI cR y0 y1 ha 3 (xh_rot pm) hb ++ wBd cI b0 b1 b2 b3 b4 b5 b.1 b.2.1 b.2.2.1 b.2.2.2.1 b.2.2.2.2.1 b.2.2.2.2.2.1 b.2.2.2.2.2.2)) (st2 := []) C k_X1_dropOldest (m_X1_dropOldest D cI cC cZ cR y0 y1 ha hn pm hb (fun j hj => by rcases (show j = 0 ∨ j = 1 ∨ j = 2 ∨ j = 3 by omega) with rfl | rfl | rfl | rfl <;> assumption)) gX1_remember_X1_dropOldest dX1_remember_9 ⟨Nat.le_of_ble_eq_true rfl, Nat.le_of_ble_eq_true rfl, Nat.le_of_ble_eq_true rfl⟩ 0 rfl rfl [0, 1, 2, 3, 4, 5, 6, 7, 8, 9, 10, 11, 12, 13, 14, 15, 16, 17, 18, 19, 20, 21, 22, 23, 24, 25] rfl rfl [0, 1, 2, 3] rfl rfl (xb_mixq [26, 27, 28, 29, 30, 31] 32 rfl rfl rfl rfl (xb_smc rfl rfl (xb_smc rfl rfl (xb_smc rfl rfl (xb_smc rfl rfl (xb_smc rfl rfl (xb_smc rfl rfl xb_smn)))))) (by decide +kernel) (by decide +kernel)) rfl (Nat.le_of_ble_eq_true rfl) ⟨Nat.zero_le _, Nat.zero_le _⟩ rfl ?_
      exact rest 3 (xh_rot pm) h
    · cases h
set_option maxHeartbeats 8000000 in
set_option maxRecDepth 100000 in
theorem m_X1_bringBack (D : va_G) (cI cC cZ cR : ClassId) (y0 y1 : Nat) (ha : Nat → Nat → Nat) (b0 b1 b2 b3 b4 b5 : Nat) (hn : Int32) (pm : Nat → Nat) (hb : Nat → xBd) (b : xBd) (r : Int32) (hn' : Int32) (b' : xBd) (h : f_X1_bringBack hn pm hb b = some (r, hn', b')) : xb_M cX1_bringBack wsX1_bringBack RX1 { frames := 2, cells := 0, slots := 0, locals := 61 } (some .boolean) 3 (xb_ty cI cC cZ cR) D [.ref y0, .ref b0] (wHi cI cR y0 y1 ha hn pm hb ++ wBd cI b0 b1 b2 b3 b4 b5 b.1 b.2.1 b.2.2.1 b.2.2.2.1 b.2.2.2.2.1 b.2.2.2.2.2.1 b.2.2.2.2.2.2) (some (.int r)) (wHi cI cR y0 y1 ha hn' pm hb ++ wBd cI b0 b1 b2 b3 b4 b5 b'.1 b'.2.1 b'.2.2.1 b'.2.2.2.1 b'.2.2.2.2.1 b'.2.2.2.2.2.1 b'.2.2.2.2.2.2) := by
  intro X C Z
  show xb_G X 0 0 (wHi cI cR y0 y1 ha hn pm hb ++ wBd cI b0 b1 b2 b3 b4 b5 b.1 b.2.1 b.2.2.1 b.2.2.2.1 b.2.2.2.2.1 b.2.2.2.2.2.1 b.2.2.2.2.2.2) [(0, .ref y0), (1, .ref b0)] 0 []
  unfold f_X1_bringBack at h
  refine xi_aload_n C dX1_bringBack_0 rfl 0 rfl ?_
  refine xi_aload_n C dX1_bringBack_1 rfl 0 rfl ?_
  refine xi_get C dX1_bringBack_2 iw_X1_bringBack_1 0 rfl rfl 1 (by decide) fl_X1_bringBack_17 rfl ?_
  refine xi_iconst (v := 1) C dX1_bringBack_5 (by decide) ?_
  refine xi_isub C dX1_bringBack_6 ?_
  split at h
  · next hc =>
    subst hc
    have w0 := Option.some.inj h
    obtain ⟨q0, w1⟩ := Prod.mk.inj w0
    obtain ⟨q1, w2⟩ := Prod.mk.inj w1
    subst q0
    subst q1
    subst w2
    refine xi_callV (As := [.int (0 - 1)]) (o := some .null) (rest := []) (w2 := (wHf cI cR y0 y1 ha 0 (fun j => some (ha (pm j) 0)) hb ++ wBd cI b0 b1 b2 b3 b4 b5 b.1 b.2.1 b.2.2.1 b.2.2.2.1 b.2.2.2.2.1 b.2.2.2.2.2.1 b.2.2.2.2.2.2)) (st2 := [.null]) C k_X1_stateAt (m_X1_stateAt_no D cI cC cZ cR y0 y1 ha 0 (fun j => some (ha (pm j) 0)) hb (0 - 1) (by decide)) gX1_bringBack_X1_stateAt dX1_bringBack_7 ⟨Nat.le_of_ble_eq_true rfl, Nat.le_of_ble_eq_true rfl, Nat.le_of_ble_eq_true rfl⟩ 0 rfl rfl [0, 1, 2, 3, 4, 5, 6, 7, 8, 9, 10, 11, 12, 13, 14, 15, 16, 17, 18, 19, 20, 21, 22, 23, 24, 25] rfl rfl [0, 1, 2, 3] rfl rfl (xb_mixq [26, 27, 28, 29, 30, 31] 32 rfl rfl rfl rfl (xb_smc rfl rfl (xb_smc rfl rfl (xb_smc rfl rfl (xb_smc rfl rfl (xb_smc rfl rfl (xb_smc rfl rfl xb_smn)))))) (by decide +kernel) (by decide +kernel)) rfl (Nat.le_of_ble_eq_true rfl) ⟨Nat.zero_le _, Nat.zero_le _⟩ rfl ?_
    refine xi_astore_nN (lv2 := [(0, .ref y0), (1, .ref b0), (2, .null)]) C dX1_bringBack_10 rfl (by decide) [0, 1] [1, 2, 0] rfl ?_
    refine xi_aload_nN C dX1_bringBack_11 rfl 2 rfl ?_
    refine xi_ifnonnullN C dX1_bringBack_12 ?_
    refine xi_iconst (v := 0) C dX1_bringBack_15 (by decide) ?_
    exact xi_zret C Z dX1_bringBack_16 xb_nz0
  · split at h
    · next hc =>
      obtain ⟨hc0, hc1, hc2⟩ := hc
      obtain ⟨j, hj, hi⟩ := vp_in_of (n := 4) (vp_in_iff.mpr ⟨hc0, hc1⟩) (by decide)
      rw [hi, nI_clamp (by omega)] at hc2 h
      rw [hi]
      obtain ⟨t, e1, h⟩ := ob_i h
      have w0 := Option.some.inj h
      obtain ⟨q0, w1⟩ := Prod.mk.inj w0
      obtain ⟨q1, w2⟩ := Prod.mk.inj w1
      subst q0
      subst q1
      subst w2
      obtain ⟨q, hq⟩ : ∃ q, q = pm j := ⟨_, rfl⟩
      rw [← hq] at hc2 e1
      refine xi_callV (As := [.int (nI j)]) (o := some (.ref (ha q 0))) (rest := []) (w2 := (wHf cI cR y0 y1 ha hn (fun j => some (ha (pm j) 0)) hb ++ wBd cI b0 b1 b2 b3 b4 b5 b.1 b.2.1 b.2.2.1 b.2.2.2.1 b.2.2.2.2.1 b.2.2.2.2.2.1 b.2.2.2.2.2.2)) (st2 := [.ref (ha q 0)]) C k_X1_stateAt (m_X1_stateAt D cI cC cZ cR y0 y1 ha hn (fun j => some (ha (pm j) 0)) hb (nI j) j (ha q 0) hj rfl (by rw [hq])) gX1_bringBack_X1_stateAt dX1_bringBack_7 ⟨Nat.le_of_ble_eq_true rfl, Nat.le_of_ble_eq_true rfl, Nat.le_of_ble_eq_true rfl⟩ 0 rfl rfl [0, 1, 2, 3, 4, 5, 6, 7, 8, 9, 10, 11, 12, 13, 14, 15, 16, 17, 18, 19, 20, 21, 22, 23, 24, 25] rfl rfl [0, 1, 2, 3] rfl rfl (xb_mixq [26, 27, 28, 29, 30, 31] 32 rfl rfl rfl rfl (xb_smc rfl rfl (xb_smc rfl rfl (xb_smc rfl rfl (xb_smc rfl rfl (xb_smc rfl rfl (xb_smc rfl rfl xb_smn)))))) (by decide +kernel) (by decide +kernel)) rfl (Nat.le_of_ble_eq_true rfl) ⟨Nat.zero_le _, Nat.zero_le _⟩ rfl ?_
      refine xi_astore_n (lv2 := [(0, .ref y0), (1, .ref b0), (2, .ref (ha q 0))]) C dX1_bringBack_10 rfl (by decide) [0, 1] [1, 2, 0] rfl ?_
      refine xi_aload_n C dX1_bringBack_11 rfl 2 rfl ?_
      refine xi_ifnonnullR (tgt := 17) C dX1_bringBack_12 (by decide) ?_
      refine xi_aload_n C dX1_bringBack_17 rfl 1 rfl ?_
      refine xi_aload_n C dX1_bringBack_18 rfl 2 rfl ?_
      obtain ⟨t1, t2, t3, t4, t5, t6, t7⟩ := t
      rcases (show q = 0 ∨ q = 1 ∨ q = 2 ∨ q = 3 by omega) with hz | hz | hz | hz
      · rw [hz] at e1 ⊢
        refine xi_callV (As := [.ref (ha 0 0)]) (o := none) (rest := []) (w2 := (wHf cI cR y0 y1 ha hn (fun j => some (ha (pm j) 0)) hb ++ wBd cI b0 b1 b2 b3 b4 b5 t1 t2 t3 t4 t5 t6 t7)) (st2 := []) C k_X0_copyFrom (m_X0_copyFrom D cI cC cZ cR b0 b1 b2 b3 b4 b5 (ha 0 0) (ha 0 1) (ha 0 2) (ha 0 3) (ha 0 4) (ha 0 5) b.1 b.2.1 b.2.2.1 b.2.2.2.1 b.2.2.2.2.1 b.2.2.2.2.2.1 b.2.2.2.2.2.2 (hb 0).1 (hb 0).2.1 (hb 0).2.2.1 (hb 0).2.2.2.1 (hb 0).2.2.2.2.1 (hb 0).2.2.2.2.2.1 (hb 0).2.2.2.2.2.2 t1 t2 t3 t4 t5 t6 t7 e1) gX1_bringBack_X0_copyFrom dX1_bringBack_19 ⟨Nat.le_of_ble_eq_true rfl, Nat.le_of_ble_eq_true rfl, Nat.le_of_ble_eq_true rfl⟩ 26 rfl rfl [26, 27, 28, 29, 30, 31, 2, 3, 4, 5, 6, 7] rfl rfl [0, 1, 2, 3] rfl rfl (xb_mixq [0, 1, 8, 9, 10, 11, 12, 13, 14, 15, 16, 17, 18, 19, 20, 21, 22, 23, 24, 25] 32 rfl rfl rfl rfl (xb_smc rfl rfl (xb_smc rfl rfl (xb_smc rfl rfl (xb_smc rfl rfl (xb_smc rfl rfl (xb_smc rfl rfl (xb_smc rfl rfl (xb_smc rfl rfl (xb_smc rfl rfl (xb_smc rfl rfl (xb_smc rfl rfl (xb_smc rfl rfl (xb_smc rfl rfl (xb_smc rfl rfl (xb_smc rfl rfl (xb_smc rfl rfl (xb_smc rfl rfl (xb_smc rfl rfl (xb_smc rfl rfl (xb_smc rfl rfl xb_smn)))))))))))))))))))) (by decide +kernel) (by decide +kernel)) rfl (Nat.le_of_ble_eq_true rfl) ⟨Nat.zero_le _, Nat.zero_le _⟩ rfl ?_
        refine xi_aload_n C dX1_bringBack_22 rfl 0 rfl ?_
        refine xi_dup C dX1_bringBack_23 rfl ?_
        refine xi_get C dX1_bringBack_24 iw_X1_bringBack_1 0 rfl rfl 1 (by decide) fl_X1_bringBack_17 rfl ?_
        refine xi_iconst (v := 1) C dX1_bringBack_27 (by decide) ?_
        refine xi_isub C dX1_bringBack_28 ?_
        rw [hi]
        refine xi_put (ty := .int) (w2 := (wHf cI cR y0 y1 ha (nI j) (fun j => some (ha (pm j) 0)) hb ++ wBd cI b0 b1 b2 b3 b4 b5 t1 t2 t3 t4 t5 t6 t7)) C dX1_bringBack_29 iw_X1_bringBack_1 tyX1 tyX1_ok nmX1 0 rfl rfl 1 (by decide) fl_X1_bringBack_17 rfl (by decide +kernel) (by rfl) (by rfl) (Nat.le_of_ble_eq_true rfl) rfl ?_
        refine xi_iconst (v := 1) C dX1_bringBack_32 (by decide) ?_
        exact xi_zret C Z dX1_bringBack_33 xb_nz1
      · rw [hz] at e1 ⊢
        refine xi_callV (As := [.ref (ha 1 0)]) (o := none) (rest := []) (w2 := (wHf cI cR y0 y1 ha hn (fun j => some (ha (pm j) 0)) hb ++ wBd cI b0 b1 b2 b3 b4 b5 t1 t2 t3 t4 t5 t6 t7)) (st2 := []) C k_X0_copyFrom (m_X0_copyFrom D cI cC cZ cR b0 b1 b2 b3 b4 b5 (ha 1 0) (ha 1 1) (ha 1 2) (ha 1 3) (ha 1 4) (ha 1 5) b.1 b.2.1 b.2.2.1 b.2.2.2.1 b.2.2.2.2.1 b.2.2.2.2.2.1 b.2.2.2.2.2.2 (hb 1).1 (hb 1).2.1 (hb 1).2.2.1 (hb 1).2.2.2.1 (hb 1).2.2.2.2.1 (hb 1).2.2.2.2.2.1 (hb 1).2.2.2.2.2.2 t1 t2 t3 t4 t5 t6 t7 e1) gX1_bringBack_X0_copyFrom dX1_bringBack_19 ⟨Nat.le_of_ble_eq_true rfl, Nat.le_of_ble_eq_true rfl, Nat.le_of_ble_eq_true rfl⟩ 26 rfl rfl [26, 27, 28, 29, 30, 31, 8, 9, 10, 11, 12, 13] rfl rfl [0, 1, 2, 3] rfl rfl (xb_mixq [0, 1, 2, 3, 4, 5, 6, 7, 14, 15, 16, 17, 18, 19, 20, 21, 22, 23, 24, 25] 32 rfl rfl rfl rfl (xb_smc rfl rfl (xb_smc rfl rfl (xb_smc rfl rfl (xb_smc rfl rfl (xb_smc rfl rfl (xb_smc rfl rfl (xb_smc rfl rfl (xb_smc rfl rfl (xb_smc rfl rfl (xb_smc rfl rfl (xb_smc rfl rfl (xb_smc rfl rfl (xb_smc rfl rfl (xb_smc rfl rfl (xb_smc rfl rfl (xb_smc rfl rfl (xb_smc rfl rfl (xb_smc rfl rfl (xb_smc rfl rfl (xb_smc rfl rfl xb_smn)))))))))))))))))))) (by decide +kernel) (by decide +kernel)) rfl (Nat.le_of_ble_eq_true rfl) ⟨Nat.zero_le _, Nat.zero_le _⟩ rfl ?_
        refine xi_aload_n C dX1_bringBack_22 rfl 0 rfl ?_
        refine xi_dup C dX1_bringBack_23 rfl ?_
        refine xi_get C dX1_bringBack_24 iw_X1_bringBack_1 0 rfl rfl 1 (by decide) fl_X1_bringBack_17 rfl ?_
        refine xi_iconst (v := 1) C dX1_bringBack_27 (by decide) ?_
        refine xi_isub C dX1_bringBack_28 ?_
        rw [hi]
        refine xi_put (ty := .int) (w2 := (wHf cI cR y0 y1 ha (nI j) (fun j => some (ha (pm j) 0)) hb ++ wBd cI b0 b1 b2 b3 b4 b5 t1 t2 t3 t4 t5 t6 t7)) C dX1_bringBack_29 iw_X1_bringBack_1 tyX1 tyX1_ok nmX1 0 rfl rfl 1 (by decide) fl_X1_bringBack_17 rfl (by decide +kernel) (by rfl) (by rfl) (Nat.le_of_ble_eq_true rfl) rfl ?_
        refine xi_iconst (v := 1) C dX1_bringBack_32 (by decide) ?_
        exact xi_zret C Z dX1_bringBack_33 xb_nz1
      · rw [hz] at e1 ⊢
        refine xi_callV (As := [.ref (ha 2 0)]) (o := none) (rest := []) (w2 := (wHf cI cR y0 y1 ha hn (fun j => some (ha (pm j) 0)) hb ++ wBd cI b0 b1 b2 b3 b4 b5 t1 t2 t3 t4 t5 t6 t7)) (st2 := []) C k_X0_copyFrom (m_X0_copyFrom D cI cC cZ cR b0 b1 b2 b3 b4 b5 (ha 2 0) (ha 2 1) (ha 2 2) (ha 2 3) (ha 2 4) (ha 2 5) b.1 b.2.1 b.2.2.1 b.2.2.2.1 b.2.2.2.2.1 b.2.2.2.2.2.1 b.2.2.2.2.2.2 (hb 2).1 (hb 2).2.1 (hb 2).2.2.1 (hb 2).2.2.2.1 (hb 2).2.2.2.2.1 (hb 2).2.2.2.2.2.1 (hb 2).2.2.2.2.2.2 t1 t2 t3 t4 t5 t6 t7 e1) gX1_bringBack_X0_copyFrom dX1_bringBack_19 ⟨Nat.le_of_ble_eq_true rfl, Nat.le_of_ble_eq_true rfl, Nat.le_of_ble_eq_true rfl⟩ 26 rfl rfl [26, 27, 28, 29, 30, 31, 14, 15, 16, 17, 18, 19] rfl rfl [0, 1, 2, 3] rfl rfl (xb_mixq [0, 1, 2, 3, 4, 5, 6, 7, 8, 9, 10, 11, 12, 13, 20, 21, 22, 23, 24, 25] 32 rfl rfl rfl rfl (xb_smc rfl rfl (xb_smc rfl rfl (xb_smc rfl rfl (xb_smc rfl rfl (xb_smc rfl rfl (xb_smc rfl rfl (xb_smc rfl rfl (xb_smc rfl rfl (xb_smc rfl rfl (xb_smc rfl rfl (xb_smc rfl rfl (xb_smc rfl rfl (xb_smc rfl rfl (xb_smc rfl rfl (xb_smc rfl rfl (xb_smc rfl rfl (xb_smc rfl rfl (xb_smc rfl rfl (xb_smc rfl rfl (xb_smc rfl rfl xb_smn)))))))))))))))))))) (by decide +kernel) (by decide +kernel)) rfl (Nat.le_of_ble_eq_true rfl) ⟨Nat.zero_le _, Nat.zero_le _⟩ rfl ?_
        refine xi_aload_n C dX1_bringBack_22 rfl 0 rfl ?_
        refine xi_dup C dX1_bringBack_23 rfl ?_
        refine xi_get C dX1_bringBack_24 iw_X1_bringBack_1 0 rfl rfl 1 (by decide) fl_X1_bringBack_17 rfl ?_
        refine xi_iconst (v := 1) C dX1_bringBack_27 (by decide) ?_
        refine xi_isub C dX1_bringBack_28 ?_
        rw [hi]
        refine xi_put (ty := .int) (w2 := (wHf cI cR y0 y1 ha (nI j) (fun j => some (ha (pm j) 0)) hb ++ wBd cI b0 b1 b2 b3 b4 b5 t1 t2 t3 t4 t5 t6 t7)) C dX1_bringBack_29 iw_X1_bringBack_1 tyX1 tyX1_ok nmX1 0 rfl rfl 1 (by decide) fl_X1_bringBack_17 rfl (by decide +kernel) (by rfl) (by rfl) (Nat.le_of_ble_eq_true rfl) rfl ?_
        refine xi_iconst (v := 1) C dX1_bringBack_32 (by decide) ?_
        exact xi_zret C Z dX1_bringBack_33 xb_nz1
      · rw [hz] at e1 ⊢
        refine xi_callV (As := [.ref (ha 3 0)]) (o := none) (rest := []) (w2 := (wHf cI cR y0 y1 ha hn (fun j => some (ha (pm j) 0)) hb ++ wBd cI b0 b1 b2 b3 b4 b5 t1 t2 t3 t4 t5 t6 t7)) (st2 := []) C k_X0_copyFrom (m_X0_copyFrom D cI cC cZ cR b0 b1 b2 b3 b4 b5 (ha 3 0) (ha 3 1) (ha 3 2) (ha 3 3) (ha 3 4) (ha 3 5) b.1 b.2.1 b.2.2.1 b.2.2.2.1 b.2.2.2.2.1 b.2.2.2.2.2.1 b.2.2.2.2.2.2 (hb 3).1 (hb 3).2.1 (hb 3).2.2.1 (hb 3).2.2.2.1 (hb 3).2.2.2.2.1 (hb 3).2.2.2.2.2.1 (hb 3).2.2.2.2.2.2 t1 t2 t3 t4 t5 t6 t7 e1) gX1_bringBack_X0_copyFrom dX1_bringBack_19 ⟨Nat.le_of_ble_eq_true rfl, Nat.le_of_ble_eq_true rfl, Nat.le_of_ble_eq_true rfl⟩ 26 rfl rfl [26, 27, 28, 29, 30, 31, 20, 21, 22, 23, 24, 25] rfl rfl [0, 1, 2, 3] rfl rfl (xb_mixq [0, 1, 2, 3, 4, 5, 6, 7, 8, 9, 10, 11, 12, 13, 14, 15, 16, 17, 18, 19] 32 rfl rfl rfl rfl (xb_smc rfl rfl (xb_smc rfl rfl (xb_smc rfl rfl (xb_smc rfl rfl (xb_smc rfl rfl (xb_smc rfl rfl (xb_smc rfl rfl (xb_smc rfl rfl (xb_smc rfl rfl (xb_smc rfl rfl (xb_smc rfl rfl (xb_smc rfl rfl (xb_smc rfl rfl (xb_smc rfl rfl (xb_smc rfl rfl (xb_smc rfl rfl (xb_smc rfl rfl (xb_smc rfl rfl (xb_smc rfl rfl (xb_smc rfl rfl xb_smn)))))))))))))))))))) (by decide +kernel) (by decide +kernel)) rfl (Nat.le_of_ble_eq_true rfl) ⟨Nat.zero_le _, Nat.zero_le _⟩ rfl ?_
        refine xi_aload_n C dX1_bringBack_22 rfl 0 rfl ?_
        refine xi_dup C dX1_bringBack_23 rfl ?_
        refine xi_get C dX1_bringBack_24 iw_X1_bringBack_1 0 rfl rfl 1 (by decide) fl_X1_bringBack_17 rfl ?_
        refine xi_iconst (v := 1) C dX1_bringBack_27 (by decide) ?_
        refine xi_isub C dX1_bringBack_28 ?_
        rw [hi]
        refine xi_put (ty := .int) (w2 := (wHf cI cR y0 y1 ha (nI j) (fun j => some (ha (pm j) 0)) hb ++ wBd cI b0 b1 b2 b3 b4 b5 t1 t2 t3 t4 t5 t6 t7)) C dX1_bringBack_29 iw_X1_bringBack_1 tyX1 tyX1_ok nmX1 0 rfl rfl 1 (by decide) fl_X1_bringBack_17 rfl (by decide +kernel) (by rfl) (by rfl) (Nat.le_of_ble_eq_true rfl) rfl ?_
        refine xi_iconst (v := 1) C dX1_bringBack_32 (by decide) ?_
        exact xi_zret C Z dX1_bringBack_33 xb_nz1
    · cases h
