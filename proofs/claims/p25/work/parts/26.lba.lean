def f_X5_put (b : xBd) (hn : Int32) (pm : Nat → Nat) (hb : Nat → xBd) (p1 : Int32) (p2 : Int32) : Option (Int32 × xBd × Int32 × (Nat → Nat) × (Nat → xBd)) :=
  (f_X5_isPlace p1).bind fun v1 =>
  if v1 = 0 then
    some ((-1), b, hn, pm, hb)
  else
    (f_X5_isTable p2).bind fun v4 =>
    if v4 = 0 then
      some ((-2), b, hn, pm, hb)
    else
      (f_X0_hasCell b.1 p1).bind fun v7 =>
      if v7 = 0 then
        (f_X1_remember hn pm hb b).bind fun (hn10, pm11, hb12) =>
        (f_X0_changeTable b.1 p1 p2).bind fun T14 =>
        (f_X0_cells T14).bind fun v16 =>
        some (v16, (T14, b.2.1, b.2.2.1, b.2.2.2.1, b.2.2.2.2.1, b.2.2.2.2.2.1, b.2.2.2.2.2.2), hn10, pm11, hb12)
      else
        some ((-4), b, hn, pm, hb)
theorem k_X5_put : xb_Y yX5_put cX5_put wsX5_put 3 (some .int) { frames := 3, cells := 0, slots := 0, locals := 83 } 2 := ⟨⟨_, rfl⟩, by decide, ⟨by decide, by decide, by decide +kernel⟩, rfl, rfl⟩
theorem fl_X5_put_10 : Cond.fieldLink RX5 10 "LookupBoard" "board" "LLookupBoard$Board;" ∈ wsX5_put := List.mem_of_getElem? (i := 1) rfl
theorem fl_X5_put_25 : Cond.fieldLink RX5 25 "LookupBoard" "history" "LLookupBoard$History;" ∈ wsX5_put := List.mem_of_getElem? (i := 2) rfl
theorem iw_X5_put_5 : ∀ w ∈ wsX50, w ∈ wsX5_put := fun w h => List.mem_cons_of_mem _ (List.mem_append_left _ (List.mem_append_left _ (List.mem_append_right _ h)))
set_option maxHeartbeats 4000000 in
set_option maxRecDepth 100000 in
theorem m_X5_put (D : va_G) (cI cC cZ cR : ClassId) (ad : Nat → Nat) (ha : Nat → Nat → Nat) (hs : Int32) (b : xBd) (t : xBd) (s : xBd) (hn : Int32) (pm : Nat → Nat) (hb : Nat → xBd) (K : Nat → Int32) (Dp : Nat → Int32) (Bt : Nat → Int32) (Sq : Nat → Int32) (se : Int32) (Sg : Nat → Int32) (ln : Int32) (at_ : Int32) (p1 : Int32) (p2 : Int32) (r : Int32) (b' : xBd) (hn' : Int32) (pm' : Nat → Nat) (hb' : Nat → xBd) (h : f_X5_put b hn pm hb p1 p2 = some (r, b', hn', pm', hb')) : xb_M cX5_put wsX5_put RX5 { frames := 3, cells := 0, slots := 0, locals := 83 } (some .int) 3 (xb_ty cI cC cZ cR) D [.ref (ad 0), .int p1, .int p2] (wLB ad hs ++ wBd cI (ad 1) (ad 2) (ad 3) (ad 4) (ad 5) (ad 6) b.1 b.2.1 b.2.2.1 b.2.2.2.1 b.2.2.2.2.1 b.2.2.2.2.2.1 b.2.2.2.2.2.2 ++ wBd cI (ad 7) (ad 8) (ad 9) (ad 10) (ad 11) (ad 12) t.1 t.2.1 t.2.2.1 t.2.2.2.1 t.2.2.2.2.1 t.2.2.2.2.2.1 t.2.2.2.2.2.2 ++ wBd cI (ad 13) (ad 14) (ad 15) (ad 16) (ad 17) (ad 18) s.1 s.2.1 s.2.2.1 s.2.2.2.1 s.2.2.2.2.1 s.2.2.2.2.2.1 s.2.2.2.2.2.2 ++ wHi cI cR (ad 19) (ad 20) ha hn pm hb ++ wLa cI (ad 21) (ad 22) K ++ wLo cI (ad 23) (ad 24) (ad 25) (ad 26) Dp Bt Sq se ++ wTe cC (ad 27) (ad 28) Sg ln at_) (some (.int r)) (wLB ad hs ++ wBd cI (ad 1) (ad 2) (ad 3) (ad 4) (ad 5) (ad 6) b'.1 b'.2.1 b'.2.2.1 b'.2.2.2.1 b'.2.2.2.2.1 b'.2.2.2.2.2.1 b'.2.2.2.2.2.2 ++ wBd cI (ad 7) (ad 8) (ad 9) (ad 10) (ad 11) (ad 12) t.1 t.2.1 t.2.2.1 t.2.2.2.1 t.2.2.2.2.1 t.2.2.2.2.2.1 t.2.2.2.2.2.2 ++ wBd cI (ad 13) (ad 14) (ad 15) (ad 16) (ad 17) (ad 18) s.1 s.2.1 s.2.2.1 s.2.2.2.1 s.2.2.2.2.1 s.2.2.2.2.2.1 s.2.2.2.2.2.2 ++ wHi cI cR (ad 19) (ad 20) ha hn' pm' hb' ++ wLa cI (ad 21) (ad 22) K ++ wLo cI (ad 23) (ad 24) (ad 25) (ad 26) Dp Bt Sq se ++ wTe cC (ad 27) (ad 28) Sg ln at_) := by
  intro X C Z
  show xb_G X 0 0 (wLB ad hs ++ wBd cI (ad 1) (ad 2) (ad 3) (ad 4) (ad 5) (ad 6) b.1 b.2.1 b.2.2.1 b.2.2.2.1 b.2.2.2.2.1 b.2.2.2.2.2.1 b.2.2.2.2.2.2 ++ wBd cI (ad 7) (ad 8) (ad 9) (ad 10) (ad 11) (ad 12) t.1 t.2.1 t.2.2.1 t.2.2.2.1 t.2.2.2.2.1 t.2.2.2.2.2.1 t.2.2.2.2.2.2 ++ wBd cI (ad 13) (ad 14) (ad 15) (ad 16) (ad 17) (ad 18) s.1 s.2.1 s.2.2.1 s.2.2.2.1 s.2.2.2.2.1 s.2.2.2.2.2.1 s.2.2.2.2.2.2 ++ wHi cI cR (ad 19) (ad 20) ha hn pm hb ++ wLa cI (ad 21) (ad 22) K ++ wLo cI (ad 23) (ad 24) (ad 25) (ad 26) Dp Bt Sq se ++ wTe cC (ad 27) (ad 28) Sg ln at_) [(0, .ref (ad 0)), (1, .int p1), (2, .int p2)] 0 []
  unfold f_X5_put at h
  refine xi_iload_n C dX5_put_0 rfl 1 rfl ?_
  obtain ⟨v1, e2, h⟩ := ob_i h
  refine xi_callS (As := [.int p1]) (o := some (.int v1)) (rest := []) (w2 := (wLB ad hs ++ wBd cI (ad 1) (ad 2) (ad 3) (ad 4) (ad 5) (ad 6) b.1 b.2.1 b.2.2.1 b.2.2.2.1 b.2.2.2.2.1 b.2.2.2.2.2.1 b.2.2.2.2.2.2 ++ wBd cI (ad 7) (ad 8) (ad 9) (ad 10) (ad 11) (ad 12) t.1 t.2.1 t.2.2.1 t.2.2.2.1 t.2.2.2.2.1 t.2.2.2.2.2.1 t.2.2.2.2.2.2 ++ wBd cI (ad 13) (ad 14) (ad 15) (ad 16) (ad 17) (ad 18) s.1 s.2.1 s.2.2.1 s.2.2.2.1 s.2.2.2.2.1 s.2.2.2.2.2.1 s.2.2.2.2.2.2 ++ wHi cI cR (ad 19) (ad 20) ha hn pm hb ++ wLa cI (ad 21) (ad 22) K ++ wLo cI (ad 23) (ad 24) (ad 25) (ad 26) Dp Bt Sq se ++ wTe cC (ad 27) (ad 28) Sg ln at_)) (st2 := [.int v1]) C k_X5_isPlace (m_X5_isPlace D cI cC cZ cR p1 v1 e2) gX5_put_X5_isPlace dX5_put_1 ⟨Nat.le_of_ble_eq_true rfl, Nat.le_of_ble_eq_true rfl, Nat.le_of_ble_eq_true rfl⟩ [] rfl rfl [0, 1, 2, 3] rfl rfl rfl rfl (Nat.le_of_ble_eq_true rfl) ⟨Nat.zero_le _, Nat.zero_le _⟩ rfl ?_
  refine xi_if_ne (tgt := 9) C dX5_put_4 (by decide) (fun c3 => ?_) (fun c3 => ?_)
  · have h := ie_i c3 h
    refine xi_iload_n C dX5_put_9 rfl 2 rfl ?_
    obtain ⟨v4, e5, h⟩ := ob_i h
    refine xi_callS (As := [.int p2]) (o := some (.int v4)) (rest := []) (w2 := (wLB ad hs ++ wBd cI (ad 1) (ad 2) (ad 3) (ad 4) (ad 5) (ad 6) b.1 b.2.1 b.2.2.1 b.2.2.2.1 b.2.2.2.2.1 b.2.2.2.2.2.1 b.2.2.2.2.2.2 ++ wBd cI (ad 7) (ad 8) (ad 9) (ad 10) (ad 11) (ad 12) t.1 t.2.1 t.2.2.1 t.2.2.2.1 t.2.2.2.2.1 t.2.2.2.2.2.1 t.2.2.2.2.2.2 ++ wBd cI (ad 13) (ad 14) (ad 15) (ad 16) (ad 17) (ad 18) s.1 s.2.1 s.2.2.1 s.2.2.2.1 s.2.2.2.2.1 s.2.2.2.2.2.1 s.2.2.2.2.2.2 ++ wHi cI cR (ad 19) (ad 20) ha hn pm hb ++ wLa cI (ad 21) (ad 22) K ++ wLo cI (ad 23) (ad 24) (ad 25) (ad 26) Dp Bt Sq se ++ wTe cC (ad 27) (ad 28) Sg ln at_)) (st2 := [.int v4]) C k_X5_isTable (m_X5_isTable D cI cC cZ cR p2 v4 e5) gX5_put_X5_isTable dX5_put_10 ⟨Nat.le_of_ble_eq_true rfl, Nat.le_of_ble_eq_true rfl, Nat.le_of_ble_eq_true rfl⟩ [] rfl rfl [0, 1, 2, 3] rfl rfl rfl rfl (Nat.le_of_ble_eq_true rfl) ⟨Nat.zero_le _, Nat.zero_le _⟩ rfl ?_
    refine xi_if_ne (tgt := 19) C dX5_put_13 (by decide) (fun c6 => ?_) (fun c6 => ?_)
    · have h := ie_i c6 h
      refine xi_aload_n C dX5_put_19 rfl 0 rfl ?_
      refine xi_get C dX5_put_20 iw_X5_put_5 0 rfl rfl 0 (by decide) fl_X5_put_10 rfl ?_
      refine xi_iload_n C dX5_put_23 rfl 1 rfl ?_
      obtain ⟨v7, e8, h⟩ := ob_i h
      refine xi_callV (As := [.int p1]) (o := some (.int v7)) (rest := []) (w2 := (wLB ad hs ++ wBd cI (ad 1) (ad 2) (ad 3) (ad 4) (ad 5) (ad 6) b.1 b.2.1 b.2.2.1 b.2.2.2.1 b.2.2.2.2.1 b.2.2.2.2.2.1 b.2.2.2.2.2.2 ++ wBd cI (ad 7) (ad 8) (ad 9) (ad 10) (ad 11) (ad 12) t.1 t.2.1 t.2.2.1 t.2.2.2.1 t.2.2.2.2.1 t.2.2.2.2.2.1 t.2.2.2.2.2.2 ++ wBd cI (ad 13) (ad 14) (ad 15) (ad 16) (ad 17) (ad 18) s.1 s.2.1 s.2.2.1 s.2.2.2.1 s.2.2.2.2.1 s.2.2.2.2.2.1 s.2.2.2.2.2.2 ++ wHi cI cR (ad 19) (ad 20) ha hn pm hb ++ wLa cI (ad 21) (ad 22) K ++ wLo cI (ad 23) (ad 24) (ad 25) (ad 26) Dp Bt Sq se ++ wTe cC (ad 27) (ad 28) Sg ln at_)) (st2 := [.int v7]) C k_X0_hasCell (m_X0_hasCell D cI cC cZ cR (ad 1) (ad 2) (ad 3) (ad 4) (ad 5) (ad 6) b.1 b.2.1 b.2.2.1 b.2.2.2.1 b.2.2.2.2.1 b.2.2.2.2.2.1 b.2.2.2.2.2.2 p1 v7 e8) gX5_put_X0_hasCell dX5_put_24 ⟨Nat.le_of_ble_eq_true rfl, Nat.le_of_ble_eq_true rfl, Nat.le_of_ble_eq_true rfl⟩ 1 rfl rfl [1, 2, 3, 4, 5, 6] mxC_X5_1 rfl [0, 1, 2, 3] rfl mxF_X5_1 mxM_X5_1 rfl (Nat.le_of_ble_eq_true rfl) ⟨Nat.zero_le _, Nat.zero_le _⟩ rfl ?_
      refine xi_if_eq (tgt := 33) C dX5_put_27 (by decide) (fun c9 => ?_) (fun c9 => ?_)
      · have h := it_i c9 h
        refine xi_aload_n C dX5_put_33 rfl 0 rfl ?_
        refine xi_get C dX5_put_34 iw_X5_put_5 0 rfl rfl 3 (by decide) fl_X5_put_25 rfl ?_
        refine xi_aload_n C dX5_put_37 rfl 0 rfl ?_
        refine xi_get C dX5_put_38 iw_X5_put_5 0 rfl rfl 0 (by decide) fl_X5_put_10 rfl ?_
        obtain ⟨⟨hn10, pm11, hb12⟩, e13, h⟩ := ob_i h
        refine xi_callV (As := [.ref (ad 1)]) (o := none) (rest := []) (w2 := (wLB ad hs ++ wBd cI (ad 1) (ad 2) (ad 3) (ad 4) (ad 5) (ad 6) b.1 b.2.1 b.2.2.1 b.2.2.2.1 b.2.2.2.2.1 b.2.2.2.2.2.1 b.2.2.2.2.2.2 ++ wBd cI (ad 7) (ad 8) (ad 9) (ad 10) (ad 11) (ad 12) t.1 t.2.1 t.2.2.1 t.2.2.2.1 t.2.2.2.2.1 t.2.2.2.2.2.1 t.2.2.2.2.2.2 ++ wBd cI (ad 13) (ad 14) (ad 15) (ad 16) (ad 17) (ad 18) s.1 s.2.1 s.2.2.1 s.2.2.2.1 s.2.2.2.2.1 s.2.2.2.2.2.1 s.2.2.2.2.2.2 ++ wHi cI cR (ad 19) (ad 20) ha hn10 pm11 hb12 ++ wLa cI (ad 21) (ad 22) K ++ wLo cI (ad 23) (ad 24) (ad 25) (ad 26) Dp Bt Sq se ++ wTe cC (ad 27) (ad 28) Sg ln at_)) (st2 := []) C k_X1_remember (m_X1_remember D cI cC cZ cR (ad 19) (ad 20) ha (ad 1) (ad 2) (ad 3) (ad 4) (ad 5) (ad 6) hn pm hb b hn10 pm11 hb12 e13) gX5_put_X1_remember dX5_put_41 ⟨Nat.le_of_ble_eq_true rfl, Nat.le_of_ble_eq_true rfl, Nat.le_of_ble_eq_true rfl⟩ 19 rfl rfl [19, 20, 21, 22, 23, 24, 25, 26, 27, 28, 29, 30, 31, 32, 33, 34, 35, 36, 37, 38, 39, 40, 41, 42, 43, 44, 1, 2, 3, 4, 5, 6] mxC_X5_4_1 rfl [0, 1, 2, 3] rfl mxF_X5_4_1 mxM_X5_4_1 rfl (Nat.le_of_ble_eq_true rfl) ⟨Nat.zero_le _, Nat.zero_le _⟩ rfl ?_
        refine xi_aload_n C dX5_put_44 rfl 0 rfl ?_
        refine xi_get C dX5_put_45 iw_X5_put_5 0 rfl rfl 0 (by decide) fl_X5_put_10 rfl ?_
        refine xi_iload_n C dX5_put_48 rfl 1 rfl ?_
        refine xi_iload_n C dX5_put_49 rfl 2 rfl ?_
        obtain ⟨T14, e15, h⟩ := ob_i h
        refine xi_callV (As := [.int p1, .int p2]) (o := none) (rest := []) (w2 := (wLB ad hs ++ wBd cI (ad 1) (ad 2) (ad 3) (ad 4) (ad 5) (ad 6) T14 b.2.1 b.2.2.1 b.2.2.2.1 b.2.2.2.2.1 b.2.2.2.2.2.1 b.2.2.2.2.2.2 ++ wBd cI (ad 7) (ad 8) (ad 9) (ad 10) (ad 11) (ad 12) t.1 t.2.1 t.2.2.1 t.2.2.2.1 t.2.2.2.2.1 t.2.2.2.2.2.1 t.2.2.2.2.2.2 ++ wBd cI (ad 13) (ad 14) (ad 15) (ad 16) (ad 17) (ad 18) s.1 s.2.1 s.2.2.1 s.2.2.2.1 s.2.2.2.2.1 s.2.2.2.2.2.1 s.2.2.2.2.2.2 ++ wHi cI cR (ad 19) (ad 20) ha hn10 pm11 hb12 ++ wLa cI (ad 21) (ad 22) K ++ wLo cI (ad 23) (ad 24) (ad 25) (ad 26) Dp Bt Sq se ++ wTe cC (ad 27) (ad 28) Sg ln at_)) (st2 := []) C k_X0_changeTable (m_X0_changeTable D cI cC cZ cR (ad 1) (ad 2) (ad 3) (ad 4) (ad 5) (ad 6) b.1 b.2.1 b.2.2.1 b.2.2.2.1 b.2.2.2.2.1 b.2.2.2.2.2.1 b.2.2.2.2.2.2 p1 p2 T14 e15) gX5_put_X0_changeTable dX5_put_50 ⟨Nat.le_of_ble_eq_true rfl, Nat.le_of_ble_eq_true rfl, Nat.le_of_ble_eq_true rfl⟩ 1 rfl rfl [1, 2, 3, 4, 5, 6] mxC_X5_1 rfl [0, 1, 2, 3] rfl mxF_X5_1 mxM_X5_1 rfl (Nat.le_of_ble_eq_true rfl) ⟨Nat.zero_le _, Nat.zero_le _⟩ rfl ?_
        refine xi_aload_n C dX5_put_53 rfl 0 rfl ?_
        refine xi_get C dX5_put_54 iw_X5_put_5 0 rfl rfl 0 (by decide) fl_X5_put_10 rfl ?_
        obtain ⟨v16, e17, h⟩ := ob_i h
        refine xi_callV (As := []) (o := some (.int v16)) (rest := []) (w2 := (wLB ad hs ++ wBd cI (ad 1) (ad 2) (ad 3) (ad 4) (ad 5) (ad 6) T14 b.2.1 b.2.2.1 b.2.2.2.1 b.2.2.2.2.1 b.2.2.2.2.2.1 b.2.2.2.2.2.2 ++ wBd cI (ad 7) (ad 8) (ad 9) (ad 10) (ad 11) (ad 12) t.1 t.2.1 t.2.2.1 t.2.2.2.1 t.2.2.2.2.1 t.2.2.2.2.2.1 t.2.2.2.2.2.2 ++ wBd cI (ad 13) (ad 14) (ad 15) (ad 16) (ad 17) (ad 18) s.1 s.2.1 s.2.2.1 s.2.2.2.1 s.2.2.2.2.1 s.2.2.2.2.2.1 s.2.2.2.2.2.2 ++ wHi cI cR (ad 19) (ad 20) ha hn10 pm11 hb12 ++ wLa cI (ad 21) (ad 22) K ++ wLo cI (ad 23) (ad 24) (ad 25) (ad 26) Dp Bt Sq se ++ wTe cC (ad 27) (ad 28) Sg ln at_)) (st2 := [.int v16]) C k_X0_cells (m_X0_cells D cI cC cZ cR (ad 1) (ad 2) (ad 3) (ad 4) (ad 5) (ad 6) T14 b.2.1 b.2.2.1 b.2.2.2.1 b.2.2.2.2.1 b.2.2.2.2.2.1 b.2.2.2.2.2.2 v16 e17) gX5_put_X0_cells dX5_put_57 ⟨Nat.le_of_ble_eq_true rfl, Nat.le_of_ble_eq_true rfl, Nat.le_of_ble_eq_true rfl⟩ 1 rfl rfl [1, 2, 3, 4, 5, 6] mxC_X5_1 rfl [0, 1, 2, 3] rfl mxF_X5_1 mxM_X5_1 rfl (Nat.le_of_ble_eq_true rfl) ⟨Nat.zero_le _, Nat.zero_le _⟩ rfl ?_
        have w0 := Option.some.inj h
        obtain ⟨q0, w1⟩ := Prod.mk.inj w0
        obtain ⟨q1, w2⟩ := Prod.mk.inj w1
        obtain ⟨q2, w3⟩ := Prod.mk.inj w2
        obtain ⟨q3, w4⟩ := Prod.mk.inj w3
        subst q0
        subst q1
        subst q2
        subst q3
        subst w4
        exact xi_iret C Z dX5_put_60
      · have h := ie_i c9 h
        refine xi_bipush (v := (-4)) C dX5_put_30 (by decide) ?_
        have w0 := Option.some.inj h
        obtain ⟨q0, w1⟩ := Prod.mk.inj w0
        obtain ⟨q1, w2⟩ := Prod.mk.inj w1
        obtain ⟨q2, w3⟩ := Prod.mk.inj w2
        obtain ⟨q3, w4⟩ := Prod.mk.inj w3
        subst q0
        subst q1
        subst q2
        subst q3
        subst w4
        exact xi_iret C Z dX5_put_32
    · have h := it_i c6 h
      refine xi_bipush (v := (-2)) C dX5_put_16 (by decide) ?_
      have w0 := Option.some.inj h
      obtain ⟨q0, w1⟩ := Prod.mk.inj w0
      obtain ⟨q1, w2⟩ := Prod.mk.inj w1
      obtain ⟨q2, w3⟩ := Prod.mk.inj w2
      obtain ⟨q3, w4⟩ := Prod.mk.inj w3
      subst q0
      subst q1
      subst q2
      subst q3
      subst w4
      exact xi_iret C Z dX5_put_18
  · have h := it_i c3 h
    refine xi_iconst (v := (-1)) C dX5_put_7 (by decide) ?_
    have w0 := Option.some.inj h
    obtain ⟨q0, w1⟩ := Prod.mk.inj w0
    obtain ⟨q1, w2⟩ := Prod.mk.inj w1
    obtain ⟨q2, w3⟩ := Prod.mk.inj w2
    obtain ⟨q3, w4⟩ := Prod.mk.inj w3
    subst q0
    subst q1
    subst q2
    subst q3
    subst w4
    exact xi_iret C Z dX5_put_8
def f_X5_take (b : xBd) (hn : Int32) (pm : Nat → Nat) (hb : Nat → xBd) (p1 : Int32) : Option (Int32 × xBd × Int32 × (Nat → Nat) × (Nat → xBd)) :=
  (f_X0_hasCell b.1 p1).bind fun v1 =>
  if v1 = 0 then
    some ((-1), b, hn, pm, hb)
  else
    (f_X0_usesByOthers b.2.1 p1).bind fun v4 =>
    if v4 ≤ 0 then
      (f_X1_remember hn pm hb b).bind fun (hn7, pm8, hb9) =>
      (f_X0_removeCell b.1 b.2.1 b.2.2.1 b.2.2.2.1 b.2.2.2.2.1 p1).bind fun (T11, S12, L13, E14) =>
      (f_X0_cells T11).bind fun v16 =>
      some (v16, (T11, S12, L13, b.2.2.2.1, E14, b.2.2.2.2.2.1, b.2.2.2.2.2.2), hn7, pm8, hb9)
    else
      some ((-4), b, hn, pm, hb)
theorem k_X5_take : xb_Y yX5_take cX5_take wsX5_take 2 (some .int) { frames := 5, cells := 0, slots := 0, locals := 110 } 1 := ⟨⟨_, rfl⟩, by decide, ⟨by decide, by decide, by decide +kernel⟩, rfl, rfl⟩
theorem fl_X5_take_10 : Cond.fieldLink RX5 10 "LookupBoard" "board" "LLookupBoard$Board;" ∈ wsX5_take := List.mem_of_getElem? (i := 1) rfl
theorem fl_X5_take_25 : Cond.fieldLink RX5 25 "LookupBoard" "history" "LLookupBoard$History;" ∈ wsX5_take := List.mem_of_getElem? (i := 2) rfl
theorem iw_X5_take_5 : ∀ w ∈ wsX50, w ∈ wsX5_take := fun w h => List.mem_cons_of_mem _ (List.mem_append_left _ (List.mem_append_left _ (List.mem_append_right _ h)))
set_option maxHeartbeats 4000000 in
set_option maxRecDepth 100000 in
theorem m_X5_take (D : va_G) (cI cC cZ cR : ClassId) (ad : Nat → Nat) (ha : Nat → Nat → Nat) (hs : Int32) (b : xBd) (t : xBd) (s : xBd) (hn : Int32) (pm : Nat → Nat) (hb : Nat → xBd) (K : Nat → Int32) (Dp : Nat → Int32) (Bt : Nat → Int32) (Sq : Nat → Int32) (se : Int32) (Sg : Nat → Int32) (ln : Int32) (at_ : Int32) (p1 : Int32) (r : Int32) (b' : xBd) (hn' : Int32) (pm' : Nat → Nat) (hb' : Nat → xBd) (h : f_X5_take b hn pm hb p1 = some (r, b', hn', pm', hb')) : xb_M cX5_take wsX5_take RX5 { frames := 5, cells := 0, slots := 0, locals := 110 } (some .int) 2 (xb_ty cI cC cZ cR) D [.ref (ad 0), .int p1] (wLB ad hs ++ wBd cI (ad 1) (ad 2) (ad 3) (ad 4) (ad 5) (ad 6) b.1 b.2.1 b.2.2.1 b.2.2.2.1 b.2.2.2.2.1 b.2.2.2.2.2.1 b.2.2.2.2.2.2 ++ wBd cI (ad 7) (ad 8) (ad 9) (ad 10) (ad 11) (ad 12) t.1 t.2.1 t.2.2.1 t.2.2.2.1 t.2.2.2.2.1 t.2.2.2.2.2.1 t.2.2.2.2.2.2 ++ wBd cI (ad 13) (ad 14) (ad 15) (ad 16) (ad 17) (ad 18) s.1 s.2.1 s.2.2.1 s.2.2.2.1 s.2.2.2.2.1 s.2.2.2.2.2.1 s.2.2.2.2.2.2 ++ wHi cI cR (ad 19) (ad 20) ha hn pm hb ++ wLa cI (ad 21) (ad 22) K ++ wLo cI (ad 23) (ad 24) (ad 25) (ad 26) Dp Bt Sq se ++ wTe cC (ad 27) (ad 28) Sg ln at_) (some (.int r)) (wLB ad hs ++ wBd cI (ad 1) (ad 2) (ad 3) (ad 4) (ad 5) (ad 6) b'.1 b'.2.1 b'.2.2.1 b'.2.2.2.1 b'.2.2.2.2.1 b'.2.2.2.2.2.1 b'.2.2.2.2.2.2 ++ wBd cI (ad 7) (ad 8) (ad 9) (ad 10) (ad 11) (ad 12) t.1 t.2.1 t.2.2.1 t.2.2.2.1 t.2.2.2.2.1 t.2.2.2.2.2.1 t.2.2.2.2.2.2 ++ wBd cI (ad 13) (ad 14) (ad 15) (ad 16) (ad 17) (ad 18) s.1 s.2.1 s.2.2.1 s.2.2.2.1 s.2.2.2.2.1 s.2.2.2.2.2.1 s.2.2.2.2.2.2 ++ wHi cI cR (ad 19) (ad 20) ha hn' pm' hb' ++ wLa cI (ad 21) (ad 22) K ++ wLo cI (ad 23) (ad 24) (ad 25) (ad 26) Dp Bt Sq se ++ wTe cC (ad 27) (ad 28) Sg ln at_) := by
  intro X C Z
  show xb_G X 0 0 (wLB ad hs ++ wBd cI (ad 1) (ad 2) (ad 3) (ad 4) (ad 5) (ad 6) b.1 b.2.1 b.2.2.1 b.2.2.2.1 b.2.2.2.2.1 b.2.2.2.2.2.1 b.2.2.2.2.2.2 ++ wBd cI (ad 7) (ad 8) (ad 9) (ad 10) (ad 11) (ad 12) t.1 t.2.1 t.2.2.1 t.2.2.2.1 t.2.2.2.2.1 t.2.2.2.2.2.1 t.2.2.2.2.2.2 ++ wBd cI (ad 13) (ad 14) (ad 15) (ad 16) (ad 17) (ad 18) s.1 s.2.1 s.2.2.1 s.2.2.2.1 s.2.2.2.2.1 s.2.2.2.2.2.1 s.2.2.2.2.2.2 ++ wHi cI cR (ad 19) (ad 20) ha hn pm hb ++ wLa cI (ad 21) (ad 22) K ++ wLo cI (ad 23) (ad 24) (ad 25) (ad 26) Dp Bt Sq se ++ wTe cC (ad 27) (ad 28) Sg ln at_) [(0, .ref (ad 0)), (1, .int p1)] 0 []
  unfold f_X5_take at h
  refine xi_aload_n C dX5_take_0 rfl 0 rfl ?_
  refine xi_get C dX5_take_1 iw_X5_take_5 0 rfl rfl 0 (by decide) fl_X5_take_10 rfl ?_
  refine xi_iload_n C dX5_take_4 rfl 1 rfl ?_
  obtain ⟨v1, e2, h⟩ := ob_i h
  refine xi_callV (As := [.int p1]) (o := some (.int v1)) (rest := []) (w2 := (wLB ad hs ++ wBd cI (ad 1) (ad 2) (ad 3) (ad 4) (ad 5) (ad 6) b.1 b.2.1 b.2.2.1 b.2.2.2.1 b.2.2.2.2.1 b.2.2.2.2.2.1 b.2.2.2.2.2.2 ++ wBd cI (ad 7) (ad 8) (ad 9) (ad 10) (ad 11) (ad 12) t.1 t.2.1 t.2.2.1 t.2.2.2.1 t.2.2.2.2.1 t.2.2.2.2.2.1 t.2.2.2.2.2.2 ++ wBd cI (ad 13) (ad 14) (ad 15) (ad 16) (ad 17) (ad 18) s.1 s.2.1 s.2.2.1 s.2.2.2.1 s.2.2.2.2.1 s.2.2.2.2.2.1 s.2.2.2.2.2.2 ++ wHi cI cR (ad 19) (ad 20) ha hn pm hb ++ wLa cI (ad 21) (ad 22) K ++ wLo cI (ad 23) (ad 24) (ad 25) (ad 26) Dp Bt Sq se ++ wTe cC (ad 27) (ad 28) Sg ln at_)) (st2 := [.int v1]) C k_X0_hasCell (m_X0_hasCell D cI cC cZ cR (ad 1) (ad 2) (ad 3) (ad 4) (ad 5) (ad 6) b.1 b.2.1 b.2.2.1 b.2.2.2.1 b.2.2.2.2.1 b.2.2.2.2.2.1 b.2.2.2.2.2.2 p1 v1 e2) gX5_take_X0_hasCell dX5_take_5 ⟨Nat.le_of_ble_eq_true rfl, Nat.le_of_ble_eq_true rfl, Nat.le_of_ble_eq_true rfl⟩ 1 rfl rfl [1, 2, 3, 4, 5, 6] mxC_X5_1 rfl [0, 1, 2, 3] rfl mxF_X5_1 mxM_X5_1 rfl (Nat.le_of_ble_eq_true rfl) ⟨Nat.zero_le _, Nat.zero_le _⟩ rfl ?_
  refine xi_if_ne (tgt := 13) C dX5_take_8 (by decide) (fun c3 => ?_) (fun c3 => ?_)
  · have h := ie_i c3 h
    refine xi_aload_n C dX5_take_13 rfl 0 rfl ?_
    refine xi_get C dX5_take_14 iw_X5_take_5 0 rfl rfl 0 (by decide) fl_X5_take_10 rfl ?_
    refine xi_iload_n C dX5_take_17 rfl 1 rfl ?_
    obtain ⟨v4, e5, h⟩ := ob_i h
    refine xi_callV (As := [.int p1]) (o := some (.int v4)) (rest := []) (w2 := (wLB ad hs ++ wBd cI (ad 1) (ad 2) (ad 3) (ad 4) (ad 5) (ad 6) b.1 b.2.1 b.2.2.1 b.2.2.2.1 b.2.2.2.2.1 b.2.2.2.2.2.1 b.2.2.2.2.2.2 ++ wBd cI (ad 7) (ad 8) (ad 9) (ad 10) (ad 11) (ad 12) t.1 t.2.1 t.2.2.1 t.2.2.2.1 t.2.2.2.2.1 t.2.2.2.2.2.1 t.2.2.2.2.2.2 ++ wBd cI (ad 13) (ad 14) (ad 15) (ad 16) (ad 17) (ad 18) s.1 s.2.1 s.2.2.1 s.2.2.2.1 s.2.2.2.2.1 s.2.2.2.2.2.1 s.2.2.2.2.2.2 ++ wHi cI cR (ad 19) (ad 20) ha hn pm hb ++ wLa cI (ad 21) (ad 22) K ++ wLo cI (ad 23) (ad 24) (ad 25) (ad 26) Dp Bt Sq se ++ wTe cC (ad 27) (ad 28) Sg ln at_)) (st2 := [.int v4]) C k_X0_usesByOthers (m_X0_usesByOthers D cI cC cZ cR (ad 1) (ad 2) (ad 3) (ad 4) (ad 5) (ad 6) b.1 b.2.1 b.2.2.1 b.2.2.2.1 b.2.2.2.2.1 b.2.2.2.2.2.1 b.2.2.2.2.2.2 p1 v4 e5) gX5_take_X0_usesByOthers dX5_take_18 ⟨Nat.le_of_ble_eq_true rfl, Nat.le_of_ble_eq_true rfl, Nat.le_of_ble_eq_true rfl⟩ 1 rfl rfl [1, 2, 3, 4, 5, 6] mxC_X5_1 rfl [0, 1, 2, 3] rfl mxF_X5_1 mxM_X5_1 rfl (Nat.le_of_ble_eq_true rfl) ⟨Nat.zero_le _, Nat.zero_le _⟩ rfl ?_
    refine xi_if_le (tgt := 27) C dX5_take_21 (by decide) (fun c6 => ?_) (fun c6 => ?_)
    · have h := it_i c6 h
      refine xi_aload_n C dX5_take_27 rfl 0 rfl ?_
      refine xi_get C dX5_take_28 iw_X5_take_5 0 rfl rfl 3 (by decide) fl_X5_take_25 rfl ?_
      refine xi_aload_n C dX5_take_31 rfl 0 rfl ?_
      refine xi_get C dX5_take_32 iw_X5_take_5 0 rfl rfl 0 (by decide) fl_X5_take_10 rfl ?_
      obtain ⟨⟨hn7, pm8, hb9⟩, e10, h⟩ := ob_i h
      refine xi_callV (As := [.ref (ad 1)]) (o := none) (rest := []) (w2 := (wLB ad hs ++ wBd cI (ad 1) (ad 2) (ad 3) (ad 4) (ad 5) (ad 6) b.1 b.2.1 b.2.2.1 b.2.2.2.1 b.2.2.2.2.1 b.2.2.2.2.2.1 b.2.2.2.2.2.2 ++ wBd cI (ad 7) (ad 8) (ad 9) (ad 10) (ad 11) (ad 12) t.1 t.2.1 t.2.2.1 t.2.2.2.1 t.2.2.2.2.1 t.2.2.2.2.2.1 t.2.2.2.2.2.2 ++ wBd cI (ad 13) (ad 14) (ad 15) (ad 16) (ad 17) (ad 18) s.1 s.2.1 s.2.2.1 s.2.2.2.1 s.2.2.2.2.1 s.2.2.2.2.2.1 s.2.2.2.2.2.2 ++ wHi cI cR (ad 19) (ad 20) ha hn7 pm8 hb9 ++ wLa cI (ad 21) (ad 22) K ++ wLo cI (ad 23) (ad 24) (ad 25) (ad 26) Dp Bt Sq se ++ wTe cC (ad 27) (ad 28) Sg ln at_)) (st2 := []) C k_X1_remember (m_X1_remember D cI cC cZ cR (ad 19) (ad 20) ha (ad 1) (ad 2) (ad 3) (ad 4) (ad 5) (ad 6) hn pm hb b hn7 pm8 hb9 e10) gX5_take_X1_remember dX5_take_35 ⟨Nat.le_of_ble_eq_true rfl, Nat.le_of_ble_eq_true rfl, Nat.le_of_ble_eq_true rfl⟩ 19 rfl rfl [19, 20, 21, 22, 23, 24, 25, 26, 27, 28, 29, 30, 31, 32, 33, 34, 35, 36, 37, 38, 39, 40, 41, 42, 43, 44, 1, 2, 3, 4, 5, 6] mxC_X5_4_1 rfl [0, 1, 2, 3] rfl mxF_X5_4_1 mxM_X5_4_1 rfl (Nat.le_of_ble_eq_true rfl) ⟨Nat.zero_le _, Nat.zero_le _⟩ rfl ?_
      refine xi_aload_n C dX5_take_38 rfl 0 rfl ?_
      refine xi_get C dX5_take_39 iw_X5_take_5 0 rfl rfl 0 (by decide) fl_X5_take_10 rfl ?_
      refine xi_iload_n C dX5_take_42 rfl 1 rfl ?_
      obtain ⟨⟨T11, S12, L13, E14⟩, e15, h⟩ := ob_i h
      refine xi_callV (As := [.int p1]) (o := none) (rest := []) (w2 := (wLB ad hs ++ wBd cI (ad 1) (ad 2) (ad 3) (ad 4) (ad 5) (ad 6) T11 S12 L13 b.2.2.2.1 E14 b.2.2.2.2.2.1 b.2.2.2.2.2.2 ++ wBd cI (ad 7) (ad 8) (ad 9) (ad 10) (ad 11) (ad 12) t.1 t.2.1 t.2.2.1 t.2.2.2.1 t.2.2.2.2.1 t.2.2.2.2.2.1 t.2.2.2.2.2.2 ++ wBd cI (ad 13) (ad 14) (ad 15) (ad 16) (ad 17) (ad 18) s.1 s.2.1 s.2.2.1 s.2.2.2.1 s.2.2.2.2.1 s.2.2.2.2.2.1 s.2.2.2.2.2.2 ++ wHi cI cR (ad 19) (ad 20) ha hn7 pm8 hb9 ++ wLa cI (ad 21) (ad 22) K ++ wLo cI (ad 23) (ad 24) (ad 25) (ad 26) Dp Bt Sq se ++ wTe cC (ad 27) (ad 28) Sg ln at_)) (st2 := []) C k_X0_removeCell (m_X0_removeCell D cI cC cZ cR (ad 1) (ad 2) (ad 3) (ad 4) (ad 5) (ad 6) b.1 b.2.1 b.2.2.1 b.2.2.2.1 b.2.2.2.2.1 b.2.2.2.2.2.1 b.2.2.2.2.2.2 p1 T11 S12 L13 E14 e15) gX5_take_X0_removeCell dX5_take_43 ⟨Nat.le_of_ble_eq_true rfl, Nat.le_of_ble_eq_true rfl, Nat.le_of_ble_eq_true rfl⟩ 1 rfl rfl [1, 2, 3, 4, 5, 6] mxC_X5_1 rfl [0, 1, 2, 3] rfl mxF_X5_1 mxM_X5_1 rfl (Nat.le_of_ble_eq_true rfl) ⟨Nat.zero_le _, Nat.zero_le _⟩ rfl ?_
      refine xi_aload_n C dX5_take_46 rfl 0 rfl ?_
      refine xi_get C dX5_take_47 iw_X5_take_5 0 rfl rfl 0 (by decide) fl_X5_take_10 rfl ?_
      obtain ⟨v16, e17, h⟩ := ob_i h
      refine xi_callV (As := []) (o := some (.int v16)) (rest := []) (w2 := (wLB ad hs ++ wBd cI (ad 1) (ad 2) (ad 3) (ad 4) (ad 5) (ad 6) T11 S12 L13 b.2.2.2.1 E14 b.2.2.2.2.2.1 b.2.2.2.2.2.2 ++ wBd cI (ad 7) (ad 8) (ad 9) (ad 10) (ad 11) (ad 12) t.1 t.2.1 t.2.2.1 t.2.2.2.1 t.2.2.2.2.1 t.2.2.2.2.2.1 t.2.2.2.2.2.2 ++ wBd cI (ad 13) (ad 14) (ad 15) (ad 16) (ad 17) (ad 18) s.1 s.2.1 s.2.2.1 s.2.2.2.1 s.2.2.2.2.1 s.2.2.2.2.2.1 s.2.2.2.2.2.2 ++ wHi cI cR (ad 19) (ad 20) ha hn7 pm8 hb9 ++ wLa cI (ad 21) (ad 22) K ++ wLo cI (ad 23) (ad 24) (ad 25) (ad 26) Dp Bt Sq se ++ wTe cC (ad 27) (ad 28) Sg ln at_)) (st2 := [.int v16]) C k_X0_cells (m_X0_cells D cI cC cZ cR (ad 1) (ad 2) (ad 3) (ad 4) (ad 5) (ad 6) T11 S12 L13 b.2.2.2.1 E14 b.2.2.2.2.2.1 b.2.2.2.2.2.2 v16 e17) gX5_take_X0_cells dX5_take_50 ⟨Nat.le_of_ble_eq_true rfl, Nat.le_of_ble_eq_true rfl, Nat.le_of_ble_eq_true rfl⟩ 1 rfl rfl [1, 2, 3, 4, 5, 6] mxC_X5_1 rfl [0, 1, 2, 3] rfl mxF_X5_1 mxM_X5_1 rfl (Nat.le_of_ble_eq_true rfl) ⟨Nat.zero_le _, Nat.zero_le _⟩ rfl ?_
      have w0 := Option.some.inj h
      obtain ⟨q0, w1⟩ := Prod.mk.inj w0
      obtain ⟨q1, w2⟩ := Prod.mk.inj w1
      obtain ⟨q2, w3⟩ := Prod.mk.inj w2
      obtain ⟨q3, w4⟩ := Prod.mk.inj w3
      subst q0
      subst q1
      subst q2
      subst q3
      subst w4
      exact xi_iret C Z dX5_take_53
    · have h := ie_i c6 h
      refine xi_bipush (v := (-4)) C dX5_take_24 (by decide) ?_
      have w0 := Option.some.inj h
      obtain ⟨q0, w1⟩ := Prod.mk.inj w0
      obtain ⟨q1, w2⟩ := Prod.mk.inj w1
      obtain ⟨q2, w3⟩ := Prod.mk.inj w2
      obtain ⟨q3, w4⟩ := Prod.mk.inj w3
      subst q0
      subst q1
      subst q2
      subst q3
      subst w4
      exact xi_iret C Z dX5_take_26
  · have h := it_i c3 h
    refine xi_iconst (v := (-1)) C dX5_take_11 (by decide) ?_
    have w0 := Option.some.inj h
    obtain ⟨q0, w1⟩ := Prod.mk.inj w0
    obtain ⟨q1, w2⟩ := Prod.mk.inj w1
    obtain ⟨q2, w3⟩ := Prod.mk.inj w2
    obtain ⟨q3, w4⟩ := Prod.mk.inj w3
    subst q0
    subst q1
    subst q2
    subst q3
    subst w4
    exact xi_iret C Z dX5_take_12
def f_X5_setTable (b : xBd) (hn : Int32) (pm : Nat → Nat) (hb : Nat → xBd) (p1 : Int32) (p2 : Int32) : Option (Int32 × xBd × Int32 × (Nat → Nat) × (Nat → xBd)) :=
  (f_X0_hasCell b.1 p1).bind fun v1 =>
  if v1 = 0 then
    some ((-1), b, hn, pm, hb)
  else
    (f_X5_isTable p2).bind fun v4 =>
    if v4 = 0 then
      some ((-2), b, hn, pm, hb)
    else
      (f_X0_tableOf b.1 p1).bind fun v7 =>
      if v7 = p2 then
        some ((-5), b, hn, pm, hb)
      else
        (f_X1_remember hn pm hb b).bind fun (hn10, pm11, hb12) =>
        (f_X0_changeTable b.1 p1 p2).bind fun T14 =>
        some (v7, (T14, b.2.1, b.2.2.1, b.2.2.2.1, b.2.2.2.2.1, b.2.2.2.2.2.1, b.2.2.2.2.2.2), hn10, pm11, hb12)
theorem k_X5_setTable : xb_Y yX5_setTable cX5_setTable wsX5_setTable 4 (some .int) { frames := 3, cells := 0, slots := 0, locals := 83 } 2 := ⟨⟨_, rfl⟩, by decide, ⟨by decide, by decide, by decide +kernel⟩, rfl, rfl⟩
theorem fl_X5_setTable_10 : Cond.fieldLink RX5 10 "LookupBoard" "board" "LLookupBoard$Board;" ∈ wsX5_setTable := List.mem_of_getElem? (i := 1) rfl
theorem fl_X5_setTable_25 : Cond.fieldLink RX5 25 "LookupBoard" "history" "LLookupBoard$History;" ∈ wsX5_setTable := List.mem_of_getElem? (i := 2) rfl
theorem iw_X5_setTable_5 : ∀ w ∈ wsX50, w ∈ wsX5_setTable := fun w h => List.mem_cons_of_mem _ (List.mem_append_left _ (List.mem_append_left _ (List.mem_append_right _ h)))
set_option maxHeartbeats 4000000 in
set_option maxRecDepth 100000 in
theorem m_X5_setTable (D : va_G) (cI cC cZ cR : ClassId) (ad : Nat → Nat) (ha : Nat → Nat → Nat) (hs : Int32) (b : xBd) (t : xBd) (s : xBd) (hn : Int32) (pm : Nat → Nat) (hb : Nat → xBd) (K : Nat → Int32) (Dp : Nat → Int32) (Bt : Nat → Int32) (Sq : Nat → Int32) (se : Int32) (Sg : Nat → Int32) (ln : Int32) (at_ : Int32) (p1 : Int32) (p2 : Int32) (r : Int32) (b' : xBd) (hn' : Int32) (pm' : Nat → Nat) (hb' : Nat → xBd) (h : f_X5_setTable b hn pm hb p1 p2 = some (r, b', hn', pm', hb')) : xb_M cX5_setTable wsX5_setTable RX5 { frames := 3, cells := 0, slots := 0, locals := 83 } (some .int) 4 (xb_ty cI cC cZ cR) D [.ref (ad 0), .int p1, .int p2] (wLB ad hs ++ wBd cI (ad 1) (ad 2) (ad 3) (ad 4) (ad 5) (ad 6) b.1 b.2.1 b.2.2.1 b.2.2.2.1 b.2.2.2.2.1 b.2.2.2.2.2.1 b.2.2.2.2.2.2 ++ wBd cI (ad 7) (ad 8) (ad 9) (ad 10) (ad 11) (ad 12) t.1 t.2.1 t.2.2.1 t.2.2.2.1 t.2.2.2.2.1 t.2.2.2.2.2.1 t.2.2.2.2.2.2 ++ wBd cI (ad 13) (ad 14) (ad 15) (ad 16) (ad 17) (ad 18) s.1 s.2.1 s.2.2.1 s.2.2.2.1 s.2.2.2.2.1 s.2.2.2.2.2.1 s.2.2.2.2.2.2 ++ wHi cI cR (ad 19) (ad 20) ha hn pm hb ++ wLa cI (ad 21) (ad 22) K ++ wLo cI (ad 23) (ad 24) (ad 25) (ad 26) Dp Bt Sq se ++ wTe cC (ad 27) (ad 28) Sg ln at_) (some (.int r)) (wLB ad hs ++ wBd cI (ad 1) (ad 2) (ad 3) (ad 4) (ad 5) (ad 6) b'.1 b'.2.1 b'.2.2.1 b'.2.2.2.1 b'.2.2.2.2.1 b'.2.2.2.2.2.1 b'.2.2.2.2.2.2 ++ wBd cI (ad 7) (ad 8) (ad 9) (ad 10) (ad 11) (ad 12) t.1 t.2.1 t.2.2.1 t.2.2.2.1 t.2.2.2.2.1 t.2.2.2.2.2.1 t.2.2.2.2.2.2 ++ wBd cI (ad 13) (ad 14) (ad 15) (ad 16) (ad 17) (ad 18) s.1 s.2.1 s.2.2.1 s.2.2.2.1 s.2.2.2.2.1 s.2.2.2.2.2.1 s.2.2.2.2.2.2 ++ wHi cI cR (ad 19) (ad 20) ha hn' pm' hb' ++ wLa cI (ad 21) (ad 22) K ++ wLo cI (ad 23) (ad 24) (ad 25) (ad 26) Dp Bt Sq se ++ wTe cC (ad 27) (ad 28) Sg ln at_) := by
  intro X C Z
  show xb_G X 0 0 (wLB ad hs ++ wBd cI (ad 1) (ad 2) (ad 3) (ad 4) (ad 5) (ad 6) b.1 b.2.1 b.2.2.1 b.2.2.2.1 b.2.2.2.2.1 b.2.2.2.2.2.1 b.2.2.2.2.2.2 ++ wBd cI (ad 7) (ad 8) (ad 9) (ad 10) (ad 11) (ad 12) t.1 t.2.1 t.2.2.1 t.2.2.2.1 t.2.2.2.2.1 t.2.2.2.2.2.1 t.2.2.2.2.2.2 ++ wBd cI (ad 13) (ad 14) (ad 15) (ad 16) (ad 17) (ad 18) s.1 s.2.1 s.2.2.1 s.2.2.2.1 s.2.2.2.2.1 s.2.2.2.2.2.1 s.2.2.2.2.2.2 ++ wHi cI cR (ad 19) (ad 20) ha hn pm hb ++ wLa cI (ad 21) (ad 22) K ++ wLo cI (ad 23) (ad 24) (ad 25) (ad 26) Dp Bt Sq se ++ wTe cC (ad 27) (ad 28) Sg ln at_) [(0, .ref (ad 0)), (1, .int p1), (2, .int p2)] 0 []
  unfold f_X5_setTable at h
  refine xi_aload_n C dX5_setTable_0 rfl 0 rfl ?_
  refine xi_get C dX5_setTable_1 iw_X5_setTable_5 0 rfl rfl 0 (by decide) fl_X5_setTable_10 rfl ?_
  refine xi_iload_n C dX5_setTable_4 rfl 1 rfl ?_
  obtain ⟨v1, e2, h⟩ := ob_i h
  refine xi_callV (As := [.int p1]) (o := some (.int v1)) (rest := []) (w2 := (wLB ad hs ++ wBd cI (ad 1) (ad 2) (ad 3) (ad 4) (ad 5) (ad 6) b.1 b.2.1 b.2.2.1 b.2.2.2.1 b.2.2.2.2.1 b.2.2.2.2.2.1 b.2.2.2.2.2.2 ++ wBd cI (ad 7) (ad 8) (ad 9) (ad 10) (ad 11) (ad 12) t.1 t.2.1 t.2.2.1 t.2.2.2.1 t.2.2.2.2.1 t.2.2.2.2.2.1 t.2.2.2.2.2.2 ++ wBd cI (ad 13) (ad 14) (ad 15) (ad 16) (ad 17) (ad 18) s.1 s.2.1 s.2.2.1 s.2.2.2.1 s.2.2.2.2.1 s.2.2.2.2.2.1 s.2.2.2.2.2.2 ++ wHi cI cR (ad 19) (ad 20) ha hn pm hb ++ wLa cI (ad 21) (ad 22) K ++ wLo cI (ad 23) (ad 24) (ad 25) (ad 26) Dp Bt Sq se ++ wTe cC (ad 27) (ad 28) Sg ln at_)) (st2 := [.int v1]) C k_X0_hasCell (m_X0_hasCell D cI cC cZ cR (ad 1) (ad 2) (ad 3) (ad 4) (ad 5) (ad 6) b.1 b.2.1 b.2.2.1 b.2.2.2.1 b.2.2.2.2.1 b.2.2.2.2.2.1 b.2.2.2.2.2.2 p1 v1 e2) gX5_setTable_X0_hasCell dX5_setTable_5 ⟨Nat.le_of_ble_eq_true rfl, Nat.le_of_ble_eq_true rfl, Nat.le_of_ble_eq_true rfl⟩ 1 rfl rfl [1, 2, 3, 4, 5, 6] mxC_X5_1 rfl [0, 1, 2, 3] rfl mxF_X5_1 mxM_X5_1 rfl (Nat.le_of_ble_eq_true rfl) ⟨Nat.zero_le _, Nat.zero_le _⟩ rfl ?_
  refine xi_if_ne (tgt := 13) C dX5_setTable_8 (by decide) (fun c3 => ?_) (fun c3 => ?_)
  · have h := ie_i c3 h
    refine xi_iload_n C dX5_setTable_13 rfl 2 rfl ?_
    obtain ⟨v4, e5, h⟩ := ob_i h
    refine xi_callS (As := [.int p2]) (o := some (.int v4)) (rest := []) (w2 := (wLB ad hs ++ wBd cI (ad 1) (ad 2) (ad 3) (ad 4) (ad 5) (ad 6) b.1 b.2.1 b.2.2.1 b.2.2.2.1 b.2.2.2.2.1 b.2.2.2.2.2.1 b.2.2.2.2.2.2 ++ wBd cI (ad 7) (ad 8) (ad 9) (ad 10) (ad 11) (ad 12) t.1 t.2.1 t.2.2.1 t.2.2.2.1 t.2.2.2.2.1 t.2.2.2.2.2.1 t.2.2.2.2.2.2 ++ wBd cI (ad 13) (ad 14) (ad 15) (ad 16) (ad 17) (ad 18) s.1 s.2.1 s.2.2.1 s.2.2.2.1 s.2.2.2.2.1 s.2.2.2.2.2.1 s.2.2.2.2.2.2 ++ wHi cI cR (ad 19) (ad 20) ha hn pm hb ++ wLa cI (ad 21) (ad 22) K ++ wLo cI (ad 23) (ad 24) (ad 25) (ad 26) Dp Bt Sq se ++ wTe cC (ad 27) (ad 28) Sg ln at_)) (st2 := [.int v4]) C k_X5_isTable (m_X5_isTable D cI cC cZ cR p2 v4 e5) gX5_setTable_X5_isTable dX5_setTable_14 ⟨Nat.le_of_ble_eq_true rfl, Nat.le_of_ble_eq_true rfl, Nat.le_of_ble_eq_true rfl⟩ [] rfl rfl [0, 1, 2, 3] rfl rfl rfl rfl (Nat.le_of_ble_eq_true rfl) ⟨Nat.zero_le _, Nat.zero_le _⟩ rfl ?_
    refine xi_if_ne (tgt := 23) C dX5_setTable_17 (by decide) (fun c6 => ?_) (fun c6 => ?_)
    · have h := ie_i c6 h
      refine xi_aload_n C dX5_setTable_23 rfl 0 rfl ?_
      refine xi_get C dX5_setTable_24 iw_X5_setTable_5 0 rfl rfl 0 (by decide) fl_X5_setTable_10 rfl ?_
      refine xi_iload_n C dX5_setTable_27 rfl 1 rfl ?_
      obtain ⟨v7, e8, h⟩ := ob_i h
      refine xi_callV (As := [.int p1]) (o := some (.int v7)) (rest := []) (w2 := (wLB ad hs ++ wBd cI (ad 1) (ad 2) (ad 3) (ad 4) (ad 5) (ad 6) b.1 b.2.1 b.2.2.1 b.2.2.2.1 b.2.2.2.2.1 b.2.2.2.2.2.1 b.2.2.2.2.2.2 ++ wBd cI (ad 7) (ad 8) (ad 9) (ad 10) (ad 11) (ad 12) t.1 t.2.1 t.2.2.1 t.2.2.2.1 t.2.2.2.2.1 t.2.2.2.2.2.1 t.2.2.2.2.2.2 ++ wBd cI (ad 13) (ad 14) (ad 15) (ad 16) (ad 17) (ad 18) s.1 s.2.1 s.2.2.1 s.2.2.2.1 s.2.2.2.2.1 s.2.2.2.2.2.1 s.2.2.2.2.2.2 ++ wHi cI cR (ad 19) (ad 20) ha hn pm hb ++ wLa cI (ad 21) (ad 22) K ++ wLo cI (ad 23) (ad 24) (ad 25) (ad 26) Dp Bt Sq se ++ wTe cC (ad 27) (ad 28) Sg ln at_)) (st2 := [.int v7]) C k_X0_tableOf (m_X0_tableOf D cI cC cZ cR (ad 1) (ad 2) (ad 3) (ad 4) (ad 5) (ad 6) b.1 b.2.1 b.2.2.1 b.2.2.2.1 b.2.2.2.2.1 b.2.2.2.2.2.1 b.2.2.2.2.2.2 p1 v7 e8) gX5_setTable_X0_tableOf dX5_setTable_28 ⟨Nat.le_of_ble_eq_true rfl, Nat.le_of_ble_eq_true rfl, Nat.le_of_ble_eq_true rfl⟩ 1 rfl rfl [1, 2, 3, 4, 5, 6] mxC_X5_1 rfl [0, 1, 2, 3] rfl mxF_X5_1 mxM_X5_1 rfl (Nat.le_of_ble_eq_true rfl) ⟨Nat.zero_le _, Nat.zero_le _⟩ rfl ?_
      refine xi_istore_n (lv2 := [(0, .ref (ad 0)), (1, .int p1), (2, .int p2), (3, .int v7)]) C dX5_setTable_31 rfl (by decide) [0, 1, 2] [1, 2, 3, 0] rfl ?_
      refine xi_iload_n C dX5_setTable_32 rfl 3 rfl ?_
      refine xi_iload_n C dX5_setTable_33 rfl 2 rfl ?_
      refine xi_icmp_ne (tgt := 40) C dX5_setTable_34 (by decide) (fun c9 => ?_) (fun c9 => ?_)
      · have h := ie_i c9 h
        refine xi_aload_n C dX5_setTable_40 rfl 0 rfl ?_
        refine xi_get C dX5_setTable_41 iw_X5_setTable_5 0 rfl rfl 3 (by decide) fl_X5_setTable_25 rfl ?_
        refine xi_aload_n C dX5_setTable_44 rfl 0 rfl ?_
        refine xi_get C dX5_setTable_45 iw_X5_setTable_5 0 rfl rfl 0 (by decide) fl_X5_setTable_10 rfl ?_
        obtain ⟨⟨hn10, pm11, hb12⟩, e13, h⟩ := ob_i h
        refine xi_callV (As := [.ref (ad 1)]) (o := none) (rest := []) (w2 := (wLB ad hs ++ wBd cI (ad 1) (ad 2) (ad 3) (ad 4) (ad 5) (ad 6) b.1 b.2.1 b.2.2.1 b.2.2.2.1 b.2.2.2.2.1 b.2.2.2.2.2.1 b.2.2.2.2.2.2 ++ wBd cI (ad 7) (ad 8) (ad 9) (ad 10) (ad 11) (ad 12) t.1 t.2.1 t.2.2.1 t.2.2.2.1 t.2.2.2.2.1 t.2.2.2.2.2.1 t.2.2.2.2.2.2 ++ wBd cI (ad 13) (ad 14) (ad 15) (ad 16) (ad 17) (ad 18) s.1 s.2.1 s.2.2.1 s.2.2.2.1 s.2.2.2.2.1 s.2.2.2.2.2.1 s.2.2.2.2.2.2 ++ wHi cI cR (ad 19) (ad 20) ha hn10 pm11 hb12 ++ wLa cI (ad 21) (ad 22) K ++ wLo cI (ad 23) (ad 24) (ad 25) (ad 26) Dp Bt Sq se ++ wTe cC (ad 27) (ad 28) Sg ln at_)) (st2 := []) C k_X1_remember (m_X1_remember D cI cC cZ cR (ad 19) (ad 20) ha (ad 1) (ad 2) (ad 3) (ad 4) (ad 5) (ad 6) hn pm hb b hn10 pm11 hb12 e13) gX5_setTable_X1_remember dX5_setTable_48 ⟨Nat.le_of_ble_eq_true rfl, Nat.le_of_ble_eq_true rfl, Nat.le_of_ble_eq_true rfl⟩ 19 rfl rfl [19, 20, 21, 22, 23, 24, 25, 26, 27, 28, 29, 30, 31, 32, 33, 34, 35, 36, 37, 38, 39, 40, 41, 42, 43, 44, 1, 2, 3, 4, 5, 6] mxC_X5_4_1 rfl [0, 1, 2, 3] rfl mxF_X5_4_1 mxM_X5_4_1 rfl (Nat.le_of_ble_eq_true rfl) ⟨Nat.zero_le _, Nat.zero_le _⟩ rfl ?_
        refine xi_aload_n C dX5_setTable_51 rfl 0 rfl ?_
        refine xi_get C dX5_setTable_52 iw_X5_setTable_5 0 rfl rfl 0 (by decide) fl_X5_setTable_10 rfl ?_
        refine xi_iload_n C dX5_setTable_55 rfl 1 rfl ?_
        refine xi_iload_n C dX5_setTable_56 rfl 2 rfl ?_
        obtain ⟨T14, e15, h⟩ := ob_i h
        refine xi_callV (As := [.int p1, .int p2]) (o := none) (rest := []) (w2 := (wLB ad hs ++ wBd cI (ad 1) (ad 2) (ad 3) (ad 4) (ad 5) (ad 6) T14 b.2.1 b.2.2.1 b.2.2.2.1 b.2.2.2.2.1 b.2.2.2.2.2.1 b.2.2.2.2.2.2 ++ wBd cI (ad 7) (ad 8) (ad 9) (ad 10) (ad 11) (ad 12) t.1 t.2.1 t.2.2.1 t.2.2.2.1 t.2.2.2.2.1 t.2.2.2.2.2.1 t.2.2.2.2.2.2 ++ wBd cI (ad 13) (ad 14) (ad 15) (ad 16) (ad 17) (ad 18) s.1 s.2.1 s.2.2.1 s.2.2.2.1 s.2.2.2.2.1 s.2.2.2.2.2.1 s.2.2.2.2.2.2 ++ wHi cI cR (ad 19) (ad 20) ha hn10 pm11 hb12 ++ wLa cI (ad 21) (ad 22) K ++ wLo cI (ad 23) (ad 24) (ad 25) (ad 26) Dp Bt Sq se ++ wTe cC (ad 27) (ad 28) Sg ln at_)) (st2 := []) C k_X0_changeTable (m_X0_changeTable D cI cC cZ cR (ad 1) (ad 2) (ad 3) (ad 4) (ad 5) (ad 6) b.1 b.2.1 b.2.2.1 b.2.2.2.1 b.2.2.2.2.1 b.2.2.2.2.2.1 b.2.2.2.2.2.2 p1 p2 T14 e15) gX5_setTable_X0_changeTable dX5_setTable_57 ⟨Nat.le_of_ble_eq_true rfl, Nat.le_of_ble_eq_true rfl, Nat.le_of_ble_eq_true rfl⟩ 1 rfl rfl [1, 2, 3, 4, 5, 6] mxC_X5_1 rfl [0, 1, 2, 3] rfl mxF_X5_1 mxM_X5_1 rfl (Nat.le_of_ble_eq_true rfl) ⟨Nat.zero_le _, Nat.zero_le _⟩ rfl ?_
        refine xi_iload_n C dX5_setTable_60 rfl 3 rfl ?_
        have w0 := Option.some.inj h
        obtain ⟨q0, w1⟩ := Prod.mk.inj w0
        obtain ⟨q1, w2⟩ := Prod.mk.inj w1
        obtain ⟨q2, w3⟩ := Prod.mk.inj w2
        obtain ⟨q3, w4⟩ := Prod.mk.inj w3
        subst q0
        subst q1
        subst q2
        subst q3
        subst w4
        exact xi_iret C Z dX5_setTable_61
      · have h := it_i c9 h
        refine xi_bipush (v := (-5)) C dX5_setTable_37 (by decide) ?_
        have w0 := Option.some.inj h
        obtain ⟨q0, w1⟩ := Prod.mk.inj w0
        obtain ⟨q1, w2⟩ := Prod.mk.inj w1
        obtain ⟨q2, w3⟩ := Prod.mk.inj w2
        obtain ⟨q3, w4⟩ := Prod.mk.inj w3
        subst q0
        subst q1
        subst q2
        subst q3
        subst w4
        exact xi_iret C Z dX5_setTable_39
    · have h := it_i c6 h
      refine xi_bipush (v := (-2)) C dX5_setTable_20 (by decide) ?_
      have w0 := Option.some.inj h
      obtain ⟨q0, w1⟩ := Prod.mk.inj w0
      obtain ⟨q1, w2⟩ := Prod.mk.inj w1
      obtain ⟨q2, w3⟩ := Prod.mk.inj w2
      obtain ⟨q3, w4⟩ := Prod.mk.inj w3
      subst q0
      subst q1
      subst q2
      subst q3
      subst w4
      exact xi_iret C Z dX5_setTable_22
  · have h := it_i c3 h
    refine xi_iconst (v := (-1)) C dX5_setTable_11 (by decide) ?_
    have w0 := Option.some.inj h
    obtain ⟨q0, w1⟩ := Prod.mk.inj w0
    obtain ⟨q1, w2⟩ := Prod.mk.inj w1
    obtain ⟨q2, w3⟩ := Prod.mk.inj w2
    obtain ⟨q3, w4⟩ := Prod.mk.inj w3
    subst q0
    subst q1
    subst q2
    subst q3
    subst w4
    exact xi_iret C Z dX5_setTable_12
def f_X5_acceptTrial (b : xBd) (t : xBd) (hn : Int32) (pm : Nat → Nat) (hb : Nat → xBd) : Option (xBd × Int32 × (Nat → Nat) × (Nat → xBd)) :=
  (f_X1_remember hn pm hb b).bind fun (hn1, pm2, hb3) =>
  (f_X0_copyFrom b.1 b.2.1 b.2.2.1 b.2.2.2.1 b.2.2.2.2.1 b.2.2.2.2.2.1 b.2.2.2.2.2.2 t.1 t.2.1 t.2.2.1 t.2.2.2.1 t.2.2.2.2.1 t.2.2.2.2.2.1 t.2.2.2.2.2.2).bind fun (T5, S6, L7, J8, E9, cp10, su11) =>
  some ((T5, S6, L7, J8, E9, cp10, su11), hn1, pm2, hb3)
theorem k_X5_acceptTrial : xb_Y yX5_acceptTrial cX5_acceptTrial wsX5_acceptTrial 1 none { frames := 3, cells := 0, slots := 0, locals := 83 } 0 := ⟨⟨_, rfl⟩, by decide, ⟨by decide, by decide, by decide +kernel⟩, rfl, rfl⟩
theorem fl_X5_acceptTrial_10 : Cond.fieldLink RX5 10 "LookupBoard" "board" "LLookupBoard$Board;" ∈ wsX5_acceptTrial := List.mem_of_getElem? (i := 2) rfl
theorem fl_X5_acceptTrial_16 : Cond.fieldLink RX5 16 "LookupBoard" "trial" "LLookupBoard$Board;" ∈ wsX5_acceptTrial := List.mem_of_getElem? (i := 3) rfl
theorem fl_X5_acceptTrial_25 : Cond.fieldLink RX5 25 "LookupBoard" "history" "LLookupBoard$History;" ∈ wsX5_acceptTrial := List.mem_of_getElem? (i := 1) rfl
theorem iw_X5_acceptTrial_5 : ∀ w ∈ wsX50, w ∈ wsX5_acceptTrial := fun w h => List.mem_cons_of_mem _ (List.mem_append_left _ (List.mem_append_left _ (List.mem_append_right _ h)))
set_option maxHeartbeats 4000000 in
set_option maxRecDepth 100000 in
theorem m_X5_acceptTrial (D : va_G) (cI cC cZ cR : ClassId) (ad : Nat → Nat) (ha : Nat → Nat → Nat) (hs : Int32) (b : xBd) (t : xBd) (s : xBd) (hn : Int32) (pm : Nat → Nat) (hb : Nat → xBd) (K : Nat → Int32) (Dp : Nat → Int32) (Bt : Nat → Int32) (Sq : Nat → Int32) (se : Int32) (Sg : Nat → Int32) (ln : Int32) (at_ : Int32) (b' : xBd) (hn' : Int32) (pm' : Nat → Nat) (hb' : Nat → xBd) (h : f_X5_acceptTrial b t hn pm hb = some (b', hn', pm', hb')) : xb_M cX5_acceptTrial wsX5_acceptTrial RX5 { frames := 3, cells := 0, slots := 0, locals := 83 } none 1 (xb_ty cI cC cZ cR) D [.ref (ad 0)] (wLB ad hs ++ wBd cI (ad 1) (ad 2) (ad 3) (ad 4) (ad 5) (ad 6) b.1 b.2.1 b.2.2.1 b.2.2.2.1 b.2.2.2.2.1 b.2.2.2.2.2.1 b.2.2.2.2.2.2 ++ wBd cI (ad 7) (ad 8) (ad 9) (ad 10) (ad 11) (ad 12) t.1 t.2.1 t.2.2.1 t.2.2.2.1 t.2.2.2.2.1 t.2.2.2.2.2.1 t.2.2.2.2.2.2 ++ wBd cI (ad 13) (ad 14) (ad 15) (ad 16) (ad 17) (ad 18) s.1 s.2.1 s.2.2.1 s.2.2.2.1 s.2.2.2.2.1 s.2.2.2.2.2.1 s.2.2.2.2.2.2 ++ wHi cI cR (ad 19) (ad 20) ha hn pm hb ++ wLa cI (ad 21) (ad 22) K ++ wLo cI (ad 23) (ad 24) (ad 25) (ad 26) Dp Bt Sq se ++ wTe cC (ad 27) (ad 28) Sg ln at_) none (wLB ad hs ++ wBd cI (ad 1) (ad 2) (ad 3) (ad 4) (ad 5) (ad 6) b'.1 b'.2.1 b'.2.2.1 b'.2.2.2.1 b'.2.2.2.2.1 b'.2.2.2.2.2.1 b'.2.2.2.2.2.2 ++ wBd cI (ad 7) (ad 8) (ad 9) (ad 10) (ad 11) (ad 12) t.1 t.2.1 t.2.2.1 t.2.2.2.1 t.2.2.2.2.1 t.2.2.2.2.2.1 t.2.2.2.2.2.2 ++ wBd cI (ad 13) (ad 14) (ad 15) (ad 16) (ad 17) (ad 18) s.1 s.2.1 s.2.2.1 s.2.2.2.1 s.2.2.2.2.1 s.2.2.2.2.2.1 s.2.2.2.2.2.2 ++ wHi cI cR (ad 19) (ad 20) ha hn' pm' hb' ++ wLa cI (ad 21) (ad 22) K ++ wLo cI (ad 23) (ad 24) (ad 25) (ad 26) Dp Bt Sq se ++ wTe cC (ad 27) (ad 28) Sg ln at_) := by
  intro X C Z
  show xb_G X 0 0 (wLB ad hs ++ wBd cI (ad 1) (ad 2) (ad 3) (ad 4) (ad 5) (ad 6) b.1 b.2.1 b.2.2.1 b.2.2.2.1 b.2.2.2.2.1 b.2.2.2.2.2.1 b.2.2.2.2.2.2 ++ wBd cI (ad 7) (ad 8) (ad 9) (ad 10) (ad 11) (ad 12) t.1 t.2.1 t.2.2.1 t.2.2.2.1 t.2.2.2.2.1 t.2.2.2.2.2.1 t.2.2.2.2.2.2 ++ wBd cI (ad 13) (ad 14) (ad 15) (ad 16) (ad 17) (ad 18) s.1 s.2.1 s.2.2.1 s.2.2.2.1 s.2.2.2.2.1 s.2.2.2.2.2.1 s.2.2.2.2.2.2 ++ wHi cI cR (ad 19) (ad 20) ha hn pm hb ++ wLa cI (ad 21) (ad 22) K ++ wLo cI (ad 23) (ad 24) (ad 25) (ad 26) Dp Bt Sq se ++ wTe cC (ad 27) (ad 28) Sg ln at_) [(0, .ref (ad 0))] 0 []
  unfold f_X5_acceptTrial at h
  refine xi_aload_n C dX5_acceptTrial_0 rfl 0 rfl ?_
  refine xi_get C dX5_acceptTrial_1 iw_X5_acceptTrial_5 0 rfl rfl 3 (by decide) fl_X5_acceptTrial_25 rfl ?_
  refine xi_aload_n C dX5_acceptTrial_4 rfl 0 rfl ?_
  refine xi_get C dX5_acceptTrial_5 iw_X5_acceptTrial_5 0 rfl rfl 0 (by decide) fl_X5_acceptTrial_10 rfl ?_
  obtain ⟨⟨hn1, pm2, hb3⟩, e4, h⟩ := ob_i h
  refine xi_callV (As := [.ref (ad 1)]) (o := none) (rest := []) (w2 := (wLB ad hs ++ wBd cI (ad 1) (ad 2) (ad 3) (ad 4) (ad 5) (ad 6) b.1 b.2.1 b.2.2.1 b.2.2.2.1 b.2.2.2.2.1 b.2.2.2.2.2.1 b.2.2.2.2.2.2 ++ wBd cI (ad 7) (ad 8) (ad 9) (ad 10) (ad 11) (ad 12) t.1 t.2.1 t.2.2.1 t.2.2.2.1 t.2.2.2.2.1 t.2.2.2.2.2.1 t.2.2.2.2.2.2 ++ wBd cI (ad 13) (ad 14) (ad 15) (ad 16) (ad 17) (ad 18) s.1 s.2.1 s.2.2.1 s.2.2.2.1 s.2.2.2.2.1 s.2.2.2.2.2.1 s.2.2.2.2.2.2 ++ wHi cI cR (ad 19) (ad 20) ha hn1 pm2 hb3 ++ wLa cI (ad 21) (ad 22) K ++ wLo cI (ad 23) (ad 24) (ad 25) (ad 26) Dp Bt Sq se ++ wTe cC (ad 27) (ad 28) Sg ln at_)) (st2 := []) C k_X1_remember (m_X1_remember D cI cC cZ cR (ad 19) (ad 20) ha (ad 1) (ad 2) (ad 3) (ad 4) (ad 5) (ad 6) hn pm hb b hn1 pm2 hb3 e4) gX5_acceptTrial_X1_remember dX5_acceptTrial_8 ⟨Nat.le_of_ble_eq_true rfl, Nat.le_of_ble_eq_true rfl, Nat.le_of_ble_eq_true rfl⟩ 19 rfl rfl [19, 20, 21, 22, 23, 24, 25, 26, 27, 28, 29, 30, 31, 32, 33, 34, 35, 36, 37, 38, 39, 40, 41, 42, 43, 44, 1, 2, 3, 4, 5, 6] mxC_X5_4_1 rfl [0, 1, 2, 3] rfl mxF_X5_4_1 mxM_X5_4_1 rfl (Nat.le_of_ble_eq_true rfl) ⟨Nat.zero_le _, Nat.zero_le _⟩ rfl ?_
  refine xi_aload_n C dX5_acceptTrial_11 rfl 0 rfl ?_
  refine xi_get C dX5_acceptTrial_12 iw_X5_acceptTrial_5 0 rfl rfl 0 (by decide) fl_X5_acceptTrial_10 rfl ?_
  refine xi_aload_n C dX5_acceptTrial_15 rfl 0 rfl ?_
  refine xi_get C dX5_acceptTrial_16 iw_X5_acceptTrial_5 0 rfl rfl 1 (by decide) fl_X5_acceptTrial_16 rfl ?_
  obtain ⟨⟨T5, S6, L7, J8, E9, cp10, su11⟩, e12, h⟩ := ob_i h
  refine xi_callV (As := [.ref (ad 7)]) (o := none) (rest := []) (w2 := (wLB ad hs ++ wBd cI (ad 1) (ad 2) (ad 3) (ad 4) (ad 5) (ad 6) T5 S6 L7 J8 E9 cp10 su11 ++ wBd cI (ad 7) (ad 8) (ad 9) (ad 10) (ad 11) (ad 12) t.1 t.2.1 t.2.2.1 t.2.2.2.1 t.2.2.2.2.1 t.2.2.2.2.2.1 t.2.2.2.2.2.2 ++ wBd cI (ad 13) (ad 14) (ad 15) (ad 16) (ad 17) (ad 18) s.1 s.2.1 s.2.2.1 s.2.2.2.1 s.2.2.2.2.1 s.2.2.2.2.2.1 s.2.2.2.2.2.2 ++ wHi cI cR (ad 19) (ad 20) ha hn1 pm2 hb3 ++ wLa cI (ad 21) (ad 22) K ++ wLo cI (ad 23) (ad 24) (ad 25) (ad 26) Dp Bt Sq se ++ wTe cC (ad 27) (ad 28) Sg ln at_)) (st2 := []) C k_X0_copyFrom (m_X0_copyFrom D cI cC cZ cR (ad 1) (ad 2) (ad 3) (ad 4) (ad 5) (ad 6) (ad 7) (ad 8) (ad 9) (ad 10) (ad 11) (ad 12) b.1 b.2.1 b.2.2.1 b.2.2.2.1 b.2.2.2.2.1 b.2.2.2.2.2.1 b.2.2.2.2.2.2 t.1 t.2.1 t.2.2.1 t.2.2.2.1 t.2.2.2.2.1 t.2.2.2.2.2.1 t.2.2.2.2.2.2 T5 S6 L7 J8 E9 cp10 su11 e12) gX5_acceptTrial_X0_copyFrom dX5_acceptTrial_19 ⟨Nat.le_of_ble_eq_true rfl, Nat.le_of_ble_eq_true rfl, Nat.le_of_ble_eq_true rfl⟩ 1 rfl rfl [1, 2, 3, 4, 5, 6, 7, 8, 9, 10, 11, 12] mxC_X5_1_2 rfl [0, 1, 2, 3] rfl mxF_X5_1_2 mxM_X5_1_2 rfl (Nat.le_of_ble_eq_true rfl) ⟨Nat.zero_le _, Nat.zero_le _⟩ rfl ?_
  have w0 := Option.some.inj h
  obtain ⟨q0, w1⟩ := Prod.mk.inj w0
  obtain ⟨q1, w2⟩ := Prod.mk.inj w1
  obtain ⟨q2, w3⟩ := Prod.mk.inj w2
  subst q0
  subst q1
  subst q2
  subst w3
  exact xi_ret C Z dX5_acceptTrial_22
def f_X5_connect (b : xBd) (t : xBd) (hn : Int32) (pm : Nat → Nat) (hb : Nat → xBd) (K : Nat → Int32) (p1 : Int32) (p2 : Int32) (p3 : Int32) : Option (Int32 × xBd × xBd × Int32 × (Nat → Nat) × (Nat → xBd) × (Nat → Int32)) :=
  (f_X0_hasCell b.1 p1).bind fun v1 =>
  if v1 = 0 then
    some ((-1), b, t, hn, pm, hb, K)
  else
    (f_X5_isInput p2).bind fun v4 =>
    if v4 = 0 then
      some ((-1), b, t, hn, pm, hb, K)
    else
      (f_X0_isSource b.1 p3).bind fun v7 =>
      if v7 = 0 then
        some ((-1), b, t, hn, pm, hb, K)
      else
        (f_X0_sourceOf b.2.1 ((p1 * 3) + p2)).bind fun v10 =>
        if v10 = p3 then
          some ((-5), b, t, hn, pm, hb, K)
        else
          (f_X0_copyFrom t.1 t.2.1 t.2.2.1 t.2.2.2.1 t.2.2.2.2.1 t.2.2.2.2.2.1 t.2.2.2.2.2.2 b.1 b.2.1 b.2.2.1 b.2.2.2.1 b.2.2.2.2.1 b.2.2.2.2.2.1 b.2.2.2.2.2.2).bind fun (T13, S14, L15, J16, E17, cp18, su19) =>
          (f_X0_removeWire S14 L15 J16 E17 ((p1 * 3) + p2)).bind fun (L21, E22) =>
          (f_X0_changeSource S14 ((p1 * 3) + p2) p3).bind fun S24 =>
          (f_X2_layWire K S24 L21 J16 E22 cp18 su19 ((p1 * 3) + p2)).bind fun (v26, K27, L28, J29, E30) =>
          if v26 = 0 then
            some ((-3), b, (T13, S24, L28, J29, E30, cp18, su19), hn, pm, hb, K27)
          else
            (f_X5_acceptTrial b (T13, S24, L28, J29, E30, cp18, su19) hn pm hb).bind fun (b33, hn34, pm35, hb36) =>
            (f_X0_lengthOf b33.2.2.1 ((p1 * 3) + p2)).bind fun v38 =>
            some (v38, b33, (T13, S24, L28, J29, E30, cp18, su19), hn34, pm35, hb36, K27)
theorem k_X5_connect : xb_Y yX5_connect cX5_connect wsX5_connect 5 (some .int) { frames := 4, cells := 0, slots := 0, locals := 103 } 3 := ⟨⟨_, rfl⟩, by decide, ⟨by decide, by decide, by decide +kernel⟩, rfl, rfl⟩
theorem fl_X5_connect_10 : Cond.fieldLink RX5 10 "LookupBoard" "board" "LLookupBoard$Board;" ∈ wsX5_connect := List.mem_of_getElem? (i := 1) rfl
theorem fl_X5_connect_16 : Cond.fieldLink RX5 16 "LookupBoard" "trial" "LLookupBoard$Board;" ∈ wsX5_connect := List.mem_of_getElem? (i := 2) rfl
theorem fl_X5_connect_32 : Cond.fieldLink RX5 32 "LookupBoard" "layer" "LLookupBoard$Layer;" ∈ wsX5_connect := List.mem_of_getElem? (i := 3) rfl
theorem iw_X5_connect_5 : ∀ w ∈ wsX50, w ∈ wsX5_connect := fun w h => List.mem_cons_of_mem _ (List.mem_append_left _ (List.mem_append_left _ (List.mem_append_left _ (List.mem_append_right _ h))))
set_option maxHeartbeats 4000000 in
set_option maxRecDepth 100000 in
theorem m_X5_connect (D : va_G) (cI cC cZ cR : ClassId) (ad : Nat → Nat) (ha : Nat → Nat → Nat) (hs : Int32) (b : xBd) (t : xBd) (s : xBd) (hn : Int32) (pm : Nat → Nat) (hb : Nat → xBd) (K : Nat → Int32) (Dp : Nat → Int32) (Bt : Nat → Int32) (Sq : Nat → Int32) (se : Int32) (Sg : Nat → Int32) (ln : Int32) (at_ : Int32) (p1 : Int32) (p2 : Int32) (p3 : Int32) (r : Int32) (b' : xBd) (t' : xBd) (hn' : Int32) (pm' : Nat → Nat) (hb' : Nat → xBd) (K' : Nat → Int32) (h : f_X5_connect b t hn pm hb K p1 p2 p3 = some (r, b', t', hn', pm', hb', K')) : xb_M cX5_connect wsX5_connect RX5 { frames := 4, cells := 0, slots := 0, locals := 103 } (some .int) 5 (xb_ty cI cC cZ cR) D [.ref (ad 0), .int p1, .int p2, .int p3] (wLB ad hs ++ wBd cI (ad 1) (ad 2) (ad 3) (ad 4) (ad 5) (ad 6) b.1 b.2.1 b.2.2.1 b.2.2.2.1 b.2.2.2.2.1 b.2.2.2.2.2.1 b.2.2.2.2.2.2 ++ wBd cI (ad 7) (ad 8) (ad 9) (ad 10) (ad 11) (ad 12) t.1 t.2.1 t.2.2.1 t.2.2.2.1 t.2.2.2.2.1 t.2.2.2.2.2.1 t.2.2.2.2.2.2 ++ wBd cI (ad 13) (ad 14) (ad 15) (ad 16) (ad 17) (ad 18) s.1 s.2.1 s.2.2.1 s.2.2.2.1 s.2.2.2.2.1 s.2.2.2.2.2.1 s.2.2.2.2.2.2 ++ wHi cI cR (ad 19) (ad 20) ha hn pm hb ++ wLa cI (ad 21) (ad 22) K ++ wLo cI (ad 23) (ad 24) (ad 25) (ad 26) Dp Bt Sq se ++ wTe cC (ad 27) (ad 28) Sg ln at_) (some (.int r)) (wLB ad hs ++ wBd cI (ad 1) (ad 2) (ad 3) (ad 4) (ad 5) (ad 6) b'.1 b'.2.1 b'.2.2.1 b'.2.2.2.1 b'.2.2.2.2.1 b'.2.2.2.2.2.1 b'.2.2.2.2.2.2 ++ wBd cI (ad 7) (ad 8) (ad 9) (ad 10) (ad 11) (ad 12) t'.1 t'.2.1 t'.2.2.1 t'.2.2.2.1 t'.2.2.2.2.1 t'.2.2.2.2.2.1 t'.2.2.2.2.2.2 ++ wBd cI (ad 13) (ad 14) (ad 15) (ad 16) (ad 17) (ad 18) s.1 s.2.1 s.2.2.1 s.2.2.2.1 s.2.2.2.2.1 s.2.2.2.2.2.1 s.2.2.2.2.2.2 ++ wHi cI cR (ad 19) (ad 20) ha hn' pm' hb' ++ wLa cI (ad 21) (ad 22) K' ++ wLo cI (ad 23) (ad 24) (ad 25) (ad 26) Dp Bt Sq se ++ wTe cC (ad 27) (ad 28) Sg ln at_) := by
  intro X C Z
  show xb_G X 0 0 (wLB ad hs ++ wBd cI (ad 1) (ad 2) (ad 3) (ad 4) (ad 5) (ad 6) b.1 b.2.1 b.2.2.1 b.2.2.2.1 b.2.2.2.2.1 b.2.2.2.2.2.1 b.2.2.2.2.2.2 ++ wBd cI (ad 7) (ad 8) (ad 9) (ad 10) (ad 11) (ad 12) t.1 t.2.1 t.2.2.1 t.2.2.2.1 t.2.2.2.2.1 t.2.2.2.2.2.1 t.2.2.2.2.2.2 ++ wBd cI (ad 13) (ad 14) (ad 15) (ad 16) (ad 17) (ad 18) s.1 s.2.1 s.2.2.1 s.2.2.2.1 s.2.2.2.2.1 s.2.2.2.2.2.1 s.2.2.2.2.2.2 ++ wHi cI cR (ad 19) (ad 20) ha hn pm hb ++ wLa cI (ad 21) (ad 22) K ++ wLo cI (ad 23) (ad 24) (ad 25) (ad 26) Dp Bt Sq se ++ wTe cC (ad 27) (ad 28) Sg ln at_) [(0, .ref (ad 0)), (1, .int p1), (2, .int p2), (3, .int p3)] 0 []
  unfold f_X5_connect at h
  refine xi_aload_n C dX5_connect_0 rfl 0 rfl ?_
  refine xi_get C dX5_connect_1 iw_X5_connect_5 0 rfl rfl 0 (by decide) fl_X5_connect_10 rfl ?_
  refine xi_iload_n C dX5_connect_4 rfl 1 rfl ?_
  obtain ⟨v1, e2, h⟩ := ob_i h
  refine xi_callV (As := [.int p1]) (o := some (.int v1)) (rest := []) (w2 := (wLB ad hs ++ wBd cI (ad 1) (ad 2) (ad 3) (ad 4) (ad 5) (ad 6) b.1 b.2.1 b.2.2.1 b.2.2.2.1 b.2.2.2.2.1 b.2.2.2.2.2.1 b.2.2.2.2.2.2 ++ wBd cI (ad 7) (ad 8) (ad 9) (ad 10) (ad 11) (ad 12) t.1 t.2.1 t.2.2.1 t.2.2.2.1 t.2.2.2.2.1 t.2.2.2.2.2.1 t.2.2.2.2.2.2 ++ wBd cI (ad 13) (ad 14) (ad 15) (ad 16) (ad 17) (ad 18) s.1 s.2.1 s.2.2.1 s.2.2.2.1 s.2.2.2.2.1 s.2.2.2.2.2.1 s.2.2.2.2.2.2 ++ wHi cI cR (ad 19) (ad 20) ha hn pm hb ++ wLa cI (ad 21) (ad 22) K ++ wLo cI (ad 23) (ad 24) (ad 25) (ad 26) Dp Bt Sq se ++ wTe cC (ad 27) (ad 28) Sg ln at_)) (st2 := [.int v1]) C k_X0_hasCell (m_X0_hasCell D cI cC cZ cR (ad 1) (ad 2) (ad 3) (ad 4) (ad 5) (ad 6) b.1 b.2.1 b.2.2.1 b.2.2.2.1 b.2.2.2.2.1 b.2.2.2.2.2.1 b.2.2.2.2.2.2 p1 v1 e2) gX5_connect_X0_hasCell dX5_connect_5 ⟨Nat.le_of_ble_eq_true rfl, Nat.le_of_ble_eq_true rfl, Nat.le_of_ble_eq_true rfl⟩ 1 rfl rfl [1, 2, 3, 4, 5, 6] mxC_X5_1 rfl [0, 1, 2, 3] rfl mxF_X5_1 mxM_X5_1 rfl (Nat.le_of_ble_eq_true rfl) ⟨Nat.zero_le _, Nat.zero_le _⟩ rfl ?_
  refine xi_if_eq (tgt := 29) C dX5_connect_8 (by decide) (fun c3 => ?_) (fun c3 => ?_)
  · have h := it_i c3 h
    refine xi_iconst (v := (-1)) C dX5_connect_29 (by decide) ?_
    have w0 := Option.some.inj h
    obtain ⟨q0, w1⟩ := Prod.mk.inj w0
    obtain ⟨q1, w2⟩ := Prod.mk.inj w1
    obtain ⟨q2, w3⟩ := Prod.mk.inj w2
    obtain ⟨q3, w4⟩ := Prod.mk.inj w3
    obtain ⟨q4, w5⟩ := Prod.mk.inj w4
    obtain ⟨q5, w6⟩ := Prod.mk.inj w5
    subst q0
    subst q1
    subst q2
    subst q3
    subst q4
    subst q5
    subst w6
    exact xi_iret C Z dX5_connect_30
  · have h := ie_i c3 h
    refine xi_iload_n C dX5_connect_11 rfl 2 rfl ?_
    obtain ⟨v4, e5, h⟩ := ob_i h
    refine xi_callS (As := [.int p2]) (o := some (.int v4)) (rest := []) (w2 := (wLB ad hs ++ wBd cI (ad 1) (ad 2) (ad 3) (ad 4) (ad 5) (ad 6) b.1 b.2.1 b.2.2.1 b.2.2.2.1 b.2.2.2.2.1 b.2.2.2.2.2.1 b.2.2.2.2.2.2 ++ wBd cI (ad 7) (ad 8) (ad 9) (ad 10) (ad 11) (ad 12) t.1 t.2.1 t.2.2.1 t.2.2.2.1 t.2.2.2.2.1 t.2.2.2.2.2.1 t.2.2.2.2.2.2 ++ wBd cI (ad 13) (ad 14) (ad 15) (ad 16) (ad 17) (ad 18) s.1 s.2.1 s.2.2.1 s.2.2.2.1 s.2.2.2.2.1 s.2.2.2.2.2.1 s.2.2.2.2.2.2 ++ wHi cI cR (ad 19) (ad 20) ha hn pm hb ++ wLa cI (ad 21) (ad 22) K ++ wLo cI (ad 23) (ad 24) (ad 25) (ad 26) Dp Bt Sq se ++ wTe cC (ad 27) (ad 28) Sg ln at_)) (st2 := [.int v4]) C k_X5_isInput (m_X5_isInput D cI cC cZ cR p2 v4 e5) gX5_connect_X5_isInput dX5_connect_12 ⟨Nat.le_of_ble_eq_true rfl, Nat.le_of_ble_eq_true rfl, Nat.le_of_ble_eq_true rfl⟩ [] rfl rfl [0, 1, 2, 3] rfl rfl rfl rfl (Nat.le_of_ble_eq_true rfl) ⟨Nat.zero_le _, Nat.zero_le _⟩ rfl ?_
    refine xi_if_eq (tgt := 29) C dX5_connect_15 (by decide) (fun c6 => ?_) (fun c6 => ?_)
    · have h := it_i c6 h
      refine xi_iconst (v := (-1)) C dX5_connect_29 (by decide) ?_
      have w0 := Option.some.inj h
      obtain ⟨q0, w1⟩ := Prod.mk.inj w0
      obtain ⟨q1, w2⟩ := Prod.mk.inj w1
      obtain ⟨q2, w3⟩ := Prod.mk.inj w2
      obtain ⟨q3, w4⟩ := Prod.mk.inj w3
      obtain ⟨q4, w5⟩ := Prod.mk.inj w4
      obtain ⟨q5, w6⟩ := Prod.mk.inj w5
      subst q0
      subst q1
      subst q2
      subst q3
      subst q4
      subst q5
      subst w6
      exact xi_iret C Z dX5_connect_30
    · have h := ie_i c6 h
      refine xi_aload_n C dX5_connect_18 rfl 0 rfl ?_
      refine xi_get C dX5_connect_19 iw_X5_connect_5 0 rfl rfl 0 (by decide) fl_X5_connect_10 rfl ?_
      refine xi_iload_n C dX5_connect_22 rfl 3 rfl ?_
      obtain ⟨v7, e8, h⟩ := ob_i h
      refine xi_callV (As := [.int p3]) (o := some (.int v7)) (rest := []) (w2 := (wLB ad hs ++ wBd cI (ad 1) (ad 2) (ad 3) (ad 4) (ad 5) (ad 6) b.1 b.2.1 b.2.2.1 b.2.2.2.1 b.2.2.2.2.1 b.2.2.2.2.2.1 b.2.2.2.2.2.2 ++ wBd cI (ad 7) (ad 8) (ad 9) (ad 10) (ad 11) (ad 12) t.1 t.2.1 t.2.2.1 t.2.2.2.1 t.2.2.2.2.1 t.2.2.2.2.2.1 t.2.2.2.2.2.2 ++ wBd cI (ad 13) (ad 14) (ad 15) (ad 16) (ad 17) (ad 18) s.1 s.2.1 s.2.2.1 s.2.2.2.1 s.2.2.2.2.1 s.2.2.2.2.2.1 s.2.2.2.2.2.2 ++ wHi cI cR (ad 19) (ad 20) ha hn pm hb ++ wLa cI (ad 21) (ad 22) K ++ wLo cI (ad 23) (ad 24) (ad 25) (ad 26) Dp Bt Sq se ++ wTe cC (ad 27) (ad 28) Sg ln at_)) (st2 := [.int v7]) C k_X0_isSource (m_X0_isSource D cI cC cZ cR (ad 1) (ad 2) (ad 3) (ad 4) (ad 5) (ad 6) b.1 b.2.1 b.2.2.1 b.2.2.2.1 b.2.2.2.2.1 b.2.2.2.2.2.1 b.2.2.2.2.2.2 p3 v7 e8) gX5_connect_X0_isSource dX5_connect_23 ⟨Nat.le_of_ble_eq_true rfl, Nat.le_of_ble_eq_true rfl, Nat.le_of_ble_eq_true rfl⟩ 1 rfl rfl [1, 2, 3, 4, 5, 6] mxC_X5_1 rfl [0, 1, 2, 3] rfl mxF_X5_1 mxM_X5_1 rfl (Nat.le_of_ble_eq_true rfl) ⟨Nat.zero_le _, Nat.zero_le _⟩ rfl ?_
      refine xi_if_ne (tgt := 31) C dX5_connect_26 (by decide) (fun c9 => ?_) (fun c9 => ?_)
      · have h := ie_i c9 h
        refine xi_iload_n C dX5_connect_31 rfl 1 rfl ?_
        refine xi_iconst (v := 3) C dX5_connect_32 (by decide) ?_
        refine xi_imul C dX5_connect_33 ?_
        refine xi_iload_n C dX5_connect_34 rfl 2 rfl ?_
        refine xi_iadd C dX5_connect_35 ?_
        refine xi_istore (lv2 := [(0, .ref (ad 0)), (1, .int p1), (2, .int p2), (3, .int p3), (4, .int ((p1 * 3) + p2))]) C dX5_connect_36 (by decide) [0, 1, 2, 3] [1, 2, 3, 4, 0] rfl ?_
        refine xi_aload_n C dX5_connect_38 rfl 0 rfl ?_
        refine xi_get C dX5_connect_39 iw_X5_connect_5 0 rfl rfl 0 (by decide) fl_X5_connect_10 rfl ?_
        refine xi_iload C dX5_connect_42 4 rfl ?_
        obtain ⟨v10, e11, h⟩ := ob_i h
        refine xi_callV (As := [.int ((p1 * 3) + p2)]) (o := some (.int v10)) (rest := []) (w2 := (wLB ad hs ++ wBd cI (ad 1) (ad 2) (ad 3) (ad 4) (ad 5) (ad 6) b.1 b.2.1 b.2.2.1 b.2.2.2.1 b.2.2.2.2.1 b.2.2.2.2.2.1 b.2.2.2.2.2.2 ++ wBd cI (ad 7) (ad 8) (ad 9) (ad 10) (ad 11) (ad 12) t.1 t.2.1 t.2.2.1 t.2.2.2.1 t.2.2.2.2.1 t.2.2.2.2.2.1 t.2.2.2.2.2.2 ++ wBd cI (ad 13) (ad 14) (ad 15) (ad 16) (ad 17) (ad 18) s.1 s.2.1 s.2.2.1 s.2.2.2.1 s.2.2.2.2.1 s.2.2.2.2.2.1 s.2.2.2.2.2.2 ++ wHi cI cR (ad 19) (ad 20) ha hn pm hb ++ wLa cI (ad 21) (ad 22) K ++ wLo cI (ad 23) (ad 24) (ad 25) (ad 26) Dp Bt Sq se ++ wTe cC (ad 27) (ad 28) Sg ln at_)) (st2 := [.int v10]) C k_X0_sourceOf (m_X0_sourceOf D cI cC cZ cR (ad 1) (ad 2) (ad 3) (ad 4) (ad 5) (ad 6) b.1 b.2.1 b.2.2.1 b.2.2.2.1 b.2.2.2.2.1 b.2.2.2.2.2.1 b.2.2.2.2.2.2 ((p1 * 3) + p2) v10 e11) gX5_connect_X0_sourceOf dX5_connect_44 ⟨Nat.le_of_ble_eq_true rfl, Nat.le_of_ble_eq_true rfl, Nat.le_of_ble_eq_true rfl⟩ 1 rfl rfl [1, 2, 3, 4, 5, 6] mxC_X5_1 rfl [0, 1, 2, 3] rfl mxF_X5_1 mxM_X5_1 rfl (Nat.le_of_ble_eq_true rfl) ⟨Nat.zero_le _, Nat.zero_le _⟩ rfl ?_
        refine xi_iload_n C dX5_connect_47 rfl 3 rfl ?_
        refine xi_icmp_ne (tgt := 54) C dX5_connect_48 (by decide) (fun c12 => ?_) (fun c12 => ?_)
        · have h := ie_i c12 h
          refine xi_aload_n C dX5_connect_54 rfl 0 rfl ?_
          refine xi_get C dX5_connect_55 iw_X5_connect_5 0 rfl rfl 1 (by decide) fl_X5_connect_16 rfl ?_
          refine xi_aload_n C dX5_connect_58 rfl 0 rfl ?_
          refine xi_get C dX5_connect_59 iw_X5_connect_5 0 rfl rfl 0 (by decide) fl_X5_connect_10 rfl ?_
          obtain ⟨⟨T13, S14, L15, J16, E17, cp18, su19⟩, e20, h⟩ := ob_i h
          refine xi_callV (As := [.ref (ad 1)]) (o := none) (rest := []) (w2 := (wLB ad hs ++ wBd cI (ad 1) (ad 2) (ad 3) (ad 4) (ad 5) (ad 6) b.1 b.2.1 b.2.2.1 b.2.2.2.1 b.2.2.2.2.1 b.2.2.2.2.2.1 b.2.2.2.2.2.2 ++ wBd cI (ad 7) (ad 8) (ad 9) (ad 10) (ad 11) (ad 12) T13 S14 L15 J16 E17 cp18 su19 ++ wBd cI (ad 13) (ad 14) (ad 15) (ad 16) (ad 17) (ad 18) s.1 s.2.1 s.2.2.1 s.2.2.2.1 s.2.2.2.2.1 s.2.2.2.2.2.1 s.2.2.2.2.2.2 ++ wHi cI cR (ad 19) (ad 20) ha hn pm hb ++ wLa cI (ad 21) (ad 22) K ++ wLo cI (ad 23) (ad 24) (ad 25) (ad 26) Dp Bt Sq se ++ wTe cC (ad 27) (ad 28) Sg ln at_)) (st2 := []) C k_X0_copyFrom (m_X0_copyFrom D cI cC cZ cR (ad 7) (ad 8) (ad 9) (ad 10) (ad 11) (ad 12) (ad 1) (ad 2) (ad 3) (ad 4) (ad 5) (ad 6) t.1 t.2.1 t.2.2.1 t.2.2.2.1 t.2.2.2.2.1 t.2.2.2.2.2.1 t.2.2.2.2.2.2 b.1 b.2.1 b.2.2.1 b.2.2.2.1 b.2.2.2.2.1 b.2.2.2.2.2.1 b.2.2.2.2.2.2 T13 S14 L15 J16 E17 cp18 su19 e20) gX5_connect_X0_copyFrom dX5_connect_62 ⟨Nat.le_of_ble_eq_true rfl, Nat.le_of_ble_eq_true rfl, Nat.le_of_ble_eq_true rfl⟩ 7 rfl rfl [7, 8, 9, 10, 11, 12, 1, 2, 3, 4, 5, 6] mxC_X5_2_1 rfl [0, 1, 2, 3] rfl mxF_X5_2_1 mxM_X5_2_1 rfl (Nat.le_of_ble_eq_true rfl) ⟨Nat.zero_le _, Nat.zero_le _⟩ rfl ?_
          refine xi_aload_n C dX5_connect_65 rfl 0 rfl ?_
          refine xi_get C dX5_connect_66 iw_X5_connect_5 0 rfl rfl 1 (by decide) fl_X5_connect_16 rfl ?_
          refine xi_iload C dX5_connect_69 4 rfl ?_
          obtain ⟨⟨L21, E22⟩, e23, h⟩ := ob_i h
          refine xi_callV (As := [.int ((p1 * 3) + p2)]) (o := none) (rest := []) (w2 := (wLB ad hs ++ wBd cI (ad 1) (ad 2) (ad 3) (ad 4) (ad 5) (ad 6) b.1 b.2.1 b.2.2.1 b.2.2.2.1 b.2.2.2.2.1 b.2.2.2.2.2.1 b.2.2.2.2.2.2 ++ wBd cI (ad 7) (ad 8) (ad 9) (ad 10) (ad 11) (ad 12) T13 S14 L21 J16 E22 cp18 su19 ++ wBd cI (ad 13) (ad 14) (ad 15) (ad 16) (ad 17) (ad 18) s.1 s.2.1 s.2.2.1 s.2.2.2.1 s.2.2.2.2.1 s.2.2.2.2.2.1 s.2.2.2.2.2.2 ++ wHi cI cR (ad 19) (ad 20) ha hn pm hb ++ wLa cI (ad 21) (ad 22) K ++ wLo cI (ad 23) (ad 24) (ad 25) (ad 26) Dp Bt Sq se ++ wTe cC (ad 27) (ad 28) Sg ln at_)) (st2 := []) C k_X0_removeWire (m_X0_removeWire D cI cC cZ cR (ad 7) (ad 8) (ad 9) (ad 10) (ad 11) (ad 12) T13 S14 L15 J16 E17 cp18 su19 ((p1 * 3) + p2) L21 E22 e23) gX5_connect_X0_removeWire dX5_connect_71 ⟨Nat.le_of_ble_eq_true rfl, Nat.le_of_ble_eq_true rfl, Nat.le_of_ble_eq_true rfl⟩ 7 rfl rfl [7, 8, 9, 10, 11, 12] mxC_X5_2 rfl [0, 1, 2, 3] rfl mxF_X5_2 mxM_X5_2 rfl (Nat.le_of_ble_eq_true rfl) ⟨Nat.zero_le _, Nat.zero_le _⟩ rfl ?_
          refine xi_aload_n C dX5_connect_74 rfl 0 rfl ?_
          refine xi_get C dX5_connect_75 iw_X5_connect_5 0 rfl rfl 1 (by decide) fl_X5_connect_16 rfl ?_
          refine xi_iload C dX5_connect_78 4 rfl ?_
          refine xi_iload_n C dX5_connect_80 rfl 3 rfl ?_
          obtain ⟨S24, e25, h⟩ := ob_i h
          refine xi_callV (As := [.int ((p1 * 3) + p2), .int p3]) (o := none) (rest := []) (w2 := (wLB ad hs ++ wBd cI (ad 1) (ad 2) (ad 3) (ad 4) (ad 5) (ad 6) b.1 b.2.1 b.2.2.1 b.2.2.2.1 b.2.2.2.2.1 b.2.2.2.2.2.1 b.2.2.2.2.2.2 ++ wBd cI (ad 7) (ad 8) (ad 9) (ad 10) (ad 11) (ad 12) T13 S24 L21 J16 E22 cp18 su19 ++ wBd cI (ad 13) (ad 14) (ad 15) (ad 16) (ad 17) (ad 18) s.1 s.2.1 s.2.2.1 s.2.2.2.1 s.2.2.2.2.1 s.2.2.2.2.2.1 s.2.2.2.2.2.2 ++ wHi cI cR (ad 19) (ad 20) ha hn pm hb ++ wLa cI (ad 21) (ad 22) K ++ wLo cI (ad 23) (ad 24) (ad 25) (ad 26) Dp Bt Sq se ++ wTe cC (ad 27) (ad 28) Sg ln at_)) (st2 := []) C k_X0_changeSource (m_X0_changeSource D cI cC cZ cR (ad 7) (ad 8) (ad 9) (ad 10) (ad 11) (ad 12) T13 S14 L21 J16 E22 cp18 su19 ((p1 * 3) + p2) p3 S24 e25) gX5_connect_X0_changeSource dX5_connect_81 ⟨Nat.le_of_ble_eq_true rfl, Nat.le_of_ble_eq_true rfl, Nat.le_of_ble_eq_true rfl⟩ 7 rfl rfl [7, 8, 9, 10, 11, 12] mxC_X5_2 rfl [0, 1, 2, 3] rfl mxF_X5_2 mxM_X5_2 rfl (Nat.le_of_ble_eq_true rfl) ⟨Nat.zero_le _, Nat.zero_le _⟩ rfl ?_
          refine xi_aload_n C dX5_connect_84 rfl 0 rfl ?_
          refine xi_get C dX5_connect_85 iw_X5_connect_5 0 rfl rfl 4 (by decide) fl_X5_connect_32 rfl ?_
          refine xi_aload_n C dX5_connect_88 rfl 0 rfl ?_
          refine xi_get C dX5_connect_89 iw_X5_connect_5 0 rfl rfl 1 (by decide) fl_X5_connect_16 rfl ?_
          refine xi_iload C dX5_connect_92 4 rfl ?_
          obtain ⟨⟨v26, K27, L28, J29, E30⟩, e31, h⟩ := ob_i h
          refine xi_callV (As := [.ref (ad 7), .int ((p1 * 3) + p2)]) (o := some (.int v26)) (rest := []) (w2 := (wLB ad hs ++ wBd cI (ad 1) (ad 2) (ad 3) (ad 4) (ad 5) (ad 6) b.1 b.2.1 b.2.2.1 b.2.2.2.1 b.2.2.2.2.1 b.2.2.2.2.2.1 b.2.2.2.2.2.2 ++ wBd cI (ad 7) (ad 8) (ad 9) (ad 10) (ad 11) (ad 12) T13 S24 L28 J29 E30 cp18 su19 ++ wBd cI (ad 13) (ad 14) (ad 15) (ad 16) (ad 17) (ad 18) s.1 s.2.1 s.2.2.1 s.2.2.2.1 s.2.2.2.2.1 s.2.2.2.2.2.1 s.2.2.2.2.2.2 ++ wHi cI cR (ad 19) (ad 20) ha hn pm hb ++ wLa cI (ad 21) (ad 22) K27 ++ wLo cI (ad 23) (ad 24) (ad 25) (ad 26) Dp Bt Sq se ++ wTe cC (ad 27) (ad 28) Sg ln at_)) (st2 := [.int v26]) C k_X2_layWire (m_X2_layWire D cI cC cZ cR (ad 21) (ad 22) (ad 7) (ad 8) (ad 9) (ad 10) (ad 11) (ad 12) K T13 S24 L21 J16 E22 cp18 su19 ((p1 * 3) + p2) v26 K27 L28 J29 E30 e31) gX5_connect_X2_layWire dX5_connect_94 ⟨Nat.le_of_ble_eq_true rfl, Nat.le_of_ble_eq_true rfl, Nat.le_of_ble_eq_true rfl⟩ 45 rfl rfl [45, 46, 7, 8, 9, 10, 11, 12] mxC_X5_5_2 rfl [0, 1, 2, 3] rfl mxF_X5_5_2 mxM_X5_5_2 rfl (Nat.le_of_ble_eq_true rfl) ⟨Nat.zero_le _, Nat.zero_le _⟩ rfl ?_
          refine xi_if_ne (tgt := 103) C dX5_connect_97 (by decide) (fun c32 => ?_) (fun c32 => ?_)
          · have h := ie_i c32 h
            refine xi_aload_n C dX5_connect_103 rfl 0 rfl ?_
            obtain ⟨⟨b33, hn34, pm35, hb36⟩, e37, h⟩ := ob_i h
            refine xi_callV (As := []) (o := none) (rest := []) (w2 := (wLB ad hs ++ wBd cI (ad 1) (ad 2) (ad 3) (ad 4) (ad 5) (ad 6) b33.1 b33.2.1 b33.2.2.1 b33.2.2.2.1 b33.2.2.2.2.1 b33.2.2.2.2.2.1 b33.2.2.2.2.2.2 ++ wBd cI (ad 7) (ad 8) (ad 9) (ad 10) (ad 11) (ad 12) T13 S24 L28 J29 E30 cp18 su19 ++ wBd cI (ad 13) (ad 14) (ad 15) (ad 16) (ad 17) (ad 18) s.1 s.2.1 s.2.2.1 s.2.2.2.1 s.2.2.2.2.1 s.2.2.2.2.2.1 s.2.2.2.2.2.2 ++ wHi cI cR (ad 19) (ad 20) ha hn34 pm35 hb36 ++ wLa cI (ad 21) (ad 22) K27 ++ wLo cI (ad 23) (ad 24) (ad 25) (ad 26) Dp Bt Sq se ++ wTe cC (ad 27) (ad 28) Sg ln at_)) (st2 := []) C k_X5_acceptTrial (m_X5_acceptTrial D cI cC cZ cR ad ha hs b (T13, S24, L28, J29, E30, cp18, su19) s hn pm hb K27 Dp Bt Sq se Sg ln at_ b33 hn34 pm35 hb36 e37) gX5_connect_X5_acceptTrial dX5_connect_104 ⟨Nat.le_of_ble_eq_true rfl, Nat.le_of_ble_eq_true rfl, Nat.le_of_ble_eq_true rfl⟩ 0 rfl rfl [0, 1, 2, 3, 4, 5, 6, 7, 8, 9, 10, 11, 12, 13, 14, 15, 16, 17, 18, 19, 20, 21, 22, 23, 24, 25, 26, 27, 28, 29, 30, 31, 32, 33, 34, 35, 36, 37, 38, 39, 40, 41, 42, 43, 44, 45, 46, 47, 48, 49, 50, 51, 52] mxC_X5_0_1_2_3_4_5_6_7 rfl [0, 1, 2, 3] rfl mxF_X5_0_1_2_3_4_5_6_7 mxM_X5_0_1_2_3_4_5_6_7 rfl (Nat.le_of_ble_eq_true rfl) ⟨Nat.zero_le _, Nat.zero_le _⟩ rfl ?_
            refine xi_aload_n C dX5_connect_107 rfl 0 rfl ?_
            refine xi_get C dX5_connect_108 iw_X5_connect_5 0 rfl rfl 0 (by decide) fl_X5_connect_10 rfl ?_
            refine xi_iload C dX5_connect_111 4 rfl ?_
            obtain ⟨v38, e39, h⟩ := ob_i h
            refine xi_callV (As := [.int ((p1 * 3) + p2)]) (o := some (.int v38)) (rest := []) (w2 := (wLB ad hs ++ wBd cI (ad 1) (ad 2) (ad 3) (ad 4) (ad 5) (ad 6) b33.1 b33.2.1 b33.2.2.1 b33.2.2.2.1 b33.2.2.2.2.1 b33.2.2.2.2.2.1 b33.2.2.2.2.2.2 ++ wBd cI (ad 7) (ad 8) (ad 9) (ad 10) (ad 11) (ad 12) T13 S24 L28 J29 E30 cp18 su19 ++ wBd cI (ad 13) (ad 14) (ad 15) (ad 16) (ad 17) (ad 18) s.1 s.2.1 s.2.2.1 s.2.2.2.1 s.2.2.2.2.1 s.2.2.2.2.2.1 s.2.2.2.2.2.2 ++ wHi cI cR (ad 19) (ad 20) ha hn34 pm35 hb36 ++ wLa cI (ad 21) (ad 22) K27 ++ wLo cI (ad 23) (ad 24) (ad 25) (ad 26) Dp Bt Sq se ++ wTe cC (ad 27) (ad 28) Sg ln at_)) (st2 := [.int v38]) C k_X0_lengthOf (m_X0_lengthOf D cI cC cZ cR (ad 1) (ad 2) (ad 3) (ad 4) (ad 5) (ad 6) b33.1 b33.2.1 b33.2.2.1 b33.2.2.2.1 b33.2.2.2.2.1 b33.2.2.2.2.2.1 b33.2.2.2.2.2.2 ((p1 * 3) + p2) v38 e39) gX5_connect_X0_lengthOf dX5_connect_113 ⟨Nat.le_of_ble_eq_true rfl, Nat.le_of_ble_eq_true rfl, Nat.le_of_ble_eq_true rfl⟩ 1 rfl rfl [1, 2, 3, 4, 5, 6] mxC_X5_1 rfl [0, 1, 2, 3] rfl mxF_X5_1 mxM_X5_1 rfl (Nat.le_of_ble_eq_true rfl) ⟨Nat.zero_le _, Nat.zero_le _⟩ rfl ?_
            have w0 := Option.some.inj h
            obtain ⟨q0, w1⟩ := Prod.mk.inj w0
            obtain ⟨q1, w2⟩ := Prod.mk.inj w1
            obtain ⟨q2, w3⟩ := Prod.mk.inj w2
            obtain ⟨q3, w4⟩ := Prod.mk.inj w3
            obtain ⟨q4, w5⟩ := Prod.mk.inj w4
            obtain ⟨q5, w6⟩ := Prod.mk.inj w5
            subst q0
            subst q1
            subst q2
            subst q3
            subst q4
            subst q5
            subst w6
            exact xi_iret C Z dX5_connect_116
          · have h := it_i c32 h
            refine xi_bipush (v := (-3)) C dX5_connect_100 (by decide) ?_
            have w0 := Option.some.inj h
            obtain ⟨q0, w1⟩ := Prod.mk.inj w0
            obtain ⟨q1, w2⟩ := Prod.mk.inj w1
            obtain ⟨q2, w3⟩ := Prod.mk.inj w2
            obtain ⟨q3, w4⟩ := Prod.mk.inj w3
            obtain ⟨q4, w5⟩ := Prod.mk.inj w4
            obtain ⟨q5, w6⟩ := Prod.mk.inj w5
            subst q0
            subst q1
            subst q2
            subst q3
            subst q4
            subst q5
            subst w6
            exact xi_iret C Z dX5_connect_102
        · have h := it_i c12 h
          refine xi_bipush (v := (-5)) C dX5_connect_51 (by decide) ?_
          have w0 := Option.some.inj h
          obtain ⟨q0, w1⟩ := Prod.mk.inj w0
          obtain ⟨q1, w2⟩ := Prod.mk.inj w1
          obtain ⟨q2, w3⟩ := Prod.mk.inj w2
          obtain ⟨q3, w4⟩ := Prod.mk.inj w3
          obtain ⟨q4, w5⟩ := Prod.mk.inj w4
          obtain ⟨q5, w6⟩ := Prod.mk.inj w5
          subst q0
          subst q1
          subst q2
          subst q3
          subst q4
          subst q5
          subst w6
          exact xi_iret C Z dX5_connect_53
      · have h := it_i c9 h
        refine xi_iconst (v := (-1)) C dX5_connect_29 (by decide) ?_
        have w0 := Option.some.inj h
        obtain ⟨q0, w1⟩ := Prod.mk.inj w0
        obtain ⟨q1, w2⟩ := Prod.mk.inj w1
        obtain ⟨q2, w3⟩ := Prod.mk.inj w2
        obtain ⟨q3, w4⟩ := Prod.mk.inj w3
        obtain ⟨q4, w5⟩ := Prod.mk.inj w4
        obtain ⟨q5, w6⟩ := Prod.mk.inj w5
        subst q0
        subst q1
        subst q2
        subst q3
        subst q4
        subst q5
        subst w6
        exact xi_iret C Z dX5_connect_30
def f_X5_trySwap (b : xBd) (t : xBd) (K : Nat → Int32) (p1 : Int32) (p2 : Int32) : Option (Int32 × xBd × (Nat → Int32)) :=
  (f_X5_isPlace p1).bind fun v1 =>
  if v1 = 0 then
    some ((-1), t, K)
  else
    (f_X5_isPlace p2).bind fun v4 =>
    if v4 = 0 then
      some ((-1), t, K)
    else
      if p1 = p2 then
        some ((-5), t, K)
      else
        (f_X0_hasCell b.1 p1).bind fun v8 =>
        if v8 = 0 then
          (f_X0_hasCell b.1 p2).bind fun v28 =>
          if v28 = 0 then
            some ((-5), t, K)
          else
            (f_X0_copyFrom t.1 t.2.1 t.2.2.1 t.2.2.2.1 t.2.2.2.2.1 t.2.2.2.2.2.1 t.2.2.2.2.2.2 b.1 b.2.1 b.2.2.1 b.2.2.2.1 b.2.2.2.2.1 b.2.2.2.2.2.1 b.2.2.2.2.2.2).bind fun (T31, S32, L33, J34, E35, cp36, su37) =>
            (f_X0_exchange T31 S32 p1 p2).bind fun (T39, S40) =>
            (f_X2_layAll K S40 L33 J34 E35 cp36 su37 0).bind fun (v42, K43, L44, J45, E46) =>
            some (v42, (T39, S40, L44, J45, E46, cp36, su37), K43)
        else
          (f_X0_copyFrom t.1 t.2.1 t.2.2.1 t.2.2.2.1 t.2.2.2.2.1 t.2.2.2.2.2.1 t.2.2.2.2.2.2 b.1 b.2.1 b.2.2.1 b.2.2.2.1 b.2.2.2.2.1 b.2.2.2.2.2.1 b.2.2.2.2.2.2).bind fun (T11, S12, L13, J14, E15, cp16, su17) =>
          (f_X0_exchange T11 S12 p1 p2).bind fun (T19, S20) =>
          (f_X2_layAll K S20 L13 J14 E15 cp16 su17 0).bind fun (v22, K23, L24, J25, E26) =>
          some (v22, (T19, S20, L24, J25, E26, cp16, su17), K23)
theorem k_X5_trySwap : xb_Y yX5_trySwap cX5_trySwap wsX5_trySwap 3 (some .int) { frames := 5, cells := 0, slots := 0, locals := 127 } 2 := ⟨⟨_, rfl⟩, by decide, ⟨by decide, by decide, by decide +kernel⟩, rfl, rfl⟩
theorem fl_X5_trySwap_10 : Cond.fieldLink RX5 10 "LookupBoard" "board" "LLookupBoard$Board;" ∈ wsX5_trySwap := List.mem_of_getElem? (i := 1) rfl
theorem fl_X5_trySwap_16 : Cond.fieldLink RX5 16 "LookupBoard" "trial" "LLookupBoard$Board;" ∈ wsX5_trySwap := List.mem_of_getElem? (i := 2) rfl
theorem fl_X5_trySwap_32 : Cond.fieldLink RX5 32 "LookupBoard" "layer" "LLookupBoard$Layer;" ∈ wsX5_trySwap := List.mem_of_getElem? (i := 3) rfl
theorem iw_X5_trySwap_5 : ∀ w ∈ wsX50, w ∈ wsX5_trySwap := fun w h => List.mem_cons_of_mem _ (List.mem_append_left _ (List.mem_append_left _ (List.mem_append_right _ h)))
set_option maxHeartbeats 4000000 in
set_option maxRecDepth 100000 in
theorem m_X5_trySwap (D : va_G) (cI cC cZ cR : ClassId) (ad : Nat → Nat) (ha : Nat → Nat → Nat) (hs : Int32) (b : xBd) (t : xBd) (s : xBd) (hn : Int32) (pm : Nat → Nat) (hb : Nat → xBd) (K : Nat → Int32) (Dp : Nat → Int32) (Bt : Nat → Int32) (Sq : Nat → Int32) (se : Int32) (Sg : Nat → Int32) (ln : Int32) (at_ : Int32) (p1 : Int32) (p2 : Int32) (r : Int32) (t' : xBd) (K' : Nat → Int32) (h : f_X5_trySwap b t K p1 p2 = some (r, t', K')) : xb_M cX5_trySwap wsX5_trySwap RX5 { frames := 5, cells := 0, slots := 0, locals := 127 } (some .int) 3 (xb_ty cI cC cZ cR) D [.ref (ad 0), .int p1, .int p2] (wLB ad hs ++ wBd cI (ad 1) (ad 2) (ad 3) (ad 4) (ad 5) (ad 6) b.1 b.2.1 b.2.2.1 b.2.2.2.1 b.2.2.2.2.1 b.2.2.2.2.2.1 b.2.2.2.2.2.2 ++ wBd cI (ad 7) (ad 8) (ad 9) (ad 10) (ad 11) (ad 12) t.1 t.2.1 t.2.2.1 t.2.2.2.1 t.2.2.2.2.1 t.2.2.2.2.2.1 t.2.2.2.2.2.2 ++ wBd cI (ad 13) (ad 14) (ad 15) (ad 16) (ad 17) (ad 18) s.1 s.2.1 s.2.2.1 s.2.2.2.1 s.2.2.2.2.1 s.2.2.2.2.2.1 s.2.2.2.2.2.2 ++ wHi cI cR (ad 19) (ad 20) ha hn pm hb ++ wLa cI (ad 21) (ad 22) K ++ wLo cI (ad 23) (ad 24) (ad 25) (ad 26) Dp Bt Sq se ++ wTe cC (ad 27) (ad 28) Sg ln at_) (some (.int r)) (wLB ad hs ++ wBd cI (ad 1) (ad 2) (ad 3) (ad 4) (ad 5) (ad 6) b.1 b.2.1 b.2.2.1 b.2.2.2.1 b.2.2.2.2.1 b.2.2.2.2.2.1 b.2.2.2.2.2.2 ++ wBd cI (ad 7) (ad 8) (ad 9) (ad 10) (ad 11) (ad 12) t'.1 t'.2.1 t'.2.2.1 t'.2.2.2.1 t'.2.2.2.2.1 t'.2.2.2.2.2.1 t'.2.2.2.2.2.2 ++ wBd cI (ad 13) (ad 14) (ad 15) (ad 16) (ad 17) (ad 18) s.1 s.2.1 s.2.2.1 s.2.2.2.1 s.2.2.2.2.1 s.2.2.2.2.2.1 s.2.2.2.2.2.2 ++ wHi cI cR (ad 19) (ad 20) ha hn pm hb ++ wLa cI (ad 21) (ad 22) K' ++ wLo cI (ad 23) (ad 24) (ad 25) (ad 26) Dp Bt Sq se ++ wTe cC (ad 27) (ad 28) Sg ln at_) := by
  intro X C Z
  show xb_G X 0 0 (wLB ad hs ++ wBd cI (ad 1) (ad 2) (ad 3) (ad 4) (ad 5) (ad 6) b.1 b.2.1 b.2.2.1 b.2.2.2.1 b.2.2.2.2.1 b.2.2.2.2.2.1 b.2.2.2.2.2.2 ++ wBd cI (ad 7) (ad 8) (ad 9) (ad 10) (ad 11) (ad 12) t.1 t.2.1 t.2.2.1 t.2.2.2.1 t.2.2.2.2.1 t.2.2.2.2.2.1 t.2.2.2.2.2.2 ++ wBd cI (ad 13) (ad 14) (ad 15) (ad 16) (ad 17) (ad 18) s.1 s.2.1 s.2.2.1 s.2.2.2.1 s.2.2.2.2.1 s.2.2.2.2.2.1 s.2.2.2.2.2.2 ++ wHi cI cR (ad 19) (ad 20) ha hn pm hb ++ wLa cI (ad 21) (ad 22) K ++ wLo cI (ad 23) (ad 24) (ad 25) (ad 26) Dp Bt Sq se ++ wTe cC (ad 27) (ad 28) Sg ln at_) [(0, .ref (ad 0)), (1, .int p1), (2, .int p2)] 0 []
  unfold f_X5_trySwap at h
  refine xi_iload_n C dX5_trySwap_0 rfl 1 rfl ?_
  obtain ⟨v1, e2, h⟩ := ob_i h
  refine xi_callS (As := [.int p1]) (o := some (.int v1)) (rest := []) (w2 := (wLB ad hs ++ wBd cI (ad 1) (ad 2) (ad 3) (ad 4) (ad 5) (ad 6) b.1 b.2.1 b.2.2.1 b.2.2.2.1 b.2.2.2.2.1 b.2.2.2.2.2.1 b.2.2.2.2.2.2 ++ wBd cI (ad 7) (ad 8) (ad 9) (ad 10) (ad 11) (ad 12) t.1 t.2.1 t.2.2.1 t.2.2.2.1 t.2.2.2.2.1 t.2.2.2.2.2.1 t.2.2.2.2.2.2 ++ wBd cI (ad 13) (ad 14) (ad 15) (ad 16) (ad 17) (ad 18) s.1 s.2.1 s.2.2.1 s.2.2.2.1 s.2.2.2.2.1 s.2.2.2.2.2.1 s.2.2.2.2.2.2 ++ wHi cI cR (ad 19) (ad 20) ha hn pm hb ++ wLa cI (ad 21) (ad 22) K ++ wLo cI (ad 23) (ad 24) (ad 25) (ad 26) Dp Bt Sq se ++ wTe cC (ad 27) (ad 28) Sg ln at_)) (st2 := [.int v1]) C k_X5_isPlace (m_X5_isPlace D cI cC cZ cR p1 v1 e2) gX5_trySwap_X5_isPlace dX5_trySwap_1 ⟨Nat.le_of_ble_eq_true rfl, Nat.le_of_ble_eq_true rfl, Nat.le_of_ble_eq_true rfl⟩ [] rfl rfl [0, 1, 2, 3] rfl rfl rfl rfl (Nat.le_of_ble_eq_true rfl) ⟨Nat.zero_le _, Nat.zero_le _⟩ rfl ?_
  refine xi_if_eq (tgt := 14) C dX5_trySwap_4 (by decide) (fun c3 => ?_) (fun c3 => ?_)
  · have h := it_i c3 h
    refine xi_iconst (v := (-1)) C dX5_trySwap_14 (by decide) ?_
    have w0 := Option.some.inj h
    obtain ⟨q0, w1⟩ := Prod.mk.inj w0
    obtain ⟨q1, w2⟩ := Prod.mk.inj w1
    subst q0
    subst q1
    subst w2
    exact xi_iret C Z dX5_trySwap_15
  · have h := ie_i c3 h
    refine xi_iload_n C dX5_trySwap_7 rfl 2 rfl ?_
    obtain ⟨v4, e5, h⟩ := ob_i h
    refine xi_callS (As := [.int p2]) (o := some (.int v4)) (rest := []) (w2 := (wLB ad hs ++ wBd cI (ad 1) (ad 2) (ad 3) (ad 4) (ad 5) (ad 6) b.1 b.2.1 b.2.2.1 b.2.2.2.1 b.2.2.2.2.1 b.2.2.2.2.2.1 b.2.2.2.2.2.2 ++ wBd cI (ad 7) (ad 8) (ad 9) (ad 10) (ad 11) (ad 12) t.1 t.2.1 t.2.2.1 t.2.2.2.1 t.2.2.2.2.1 t.2.2.2.2.2.1 t.2.2.2.2.2.2 ++ wBd cI (ad 13) (ad 14) (ad 15) (ad 16) (ad 17) (ad 18) s.1 s.2.1 s.2.2.1 s.2.2.2.1 s.2.2.2.2.1 s.2.2.2.2.2.1 s.2.2.2.2.2.2 ++ wHi cI cR (ad 19) (ad 20) ha hn pm hb ++ wLa cI (ad 21) (ad 22) K ++ wLo cI (ad 23) (ad 24) (ad 25) (ad 26) Dp Bt Sq se ++ wTe cC (ad 27) (ad 28) Sg ln at_)) (st2 := [.int v4]) C k_X5_isPlace (m_X5_isPlace D cI cC cZ cR p2 v4 e5) gX5_trySwap_X5_isPlace dX5_trySwap_8 ⟨Nat.le_of_ble_eq_true rfl, Nat.le_of_ble_eq_true rfl, Nat.le_of_ble_eq_true rfl⟩ [] rfl rfl [0, 1, 2, 3] rfl rfl rfl rfl (Nat.le_of_ble_eq_true rfl) ⟨Nat.zero_le _, Nat.zero_le _⟩ rfl ?_
    refine xi_if_ne (tgt := 16) C dX5_trySwap_11 (by decide) (fun c6 => ?_) (fun c6 => ?_)
    · have h := ie_i c6 h
      refine xi_iload_n C dX5_trySwap_16 rfl 1 rfl ?_
      refine xi_iload_n C dX5_trySwap_17 rfl 2 rfl ?_
      refine xi_icmp_eq (tgt := 43) C dX5_trySwap_18 (by decide) (fun c7 => ?_) (fun c7 => ?_)
      · have h := it_i c7 h
        refine xi_bipush (v := (-5)) C dX5_trySwap_43 (by decide) ?_
        have w0 := Option.some.inj h
        obtain ⟨q0, w1⟩ := Prod.mk.inj w0
        obtain ⟨q1, w2⟩ := Prod.mk.inj w1
        subst q0
        subst q1
        subst w2
        exact xi_iret C Z dX5_trySwap_45
      · have h := ie_i c7 h
        refine xi_aload_n C dX5_trySwap_21 rfl 0 rfl ?_
        refine xi_get C dX5_trySwap_22 iw_X5_trySwap_5 0 rfl rfl 0 (by decide) fl_X5_trySwap_10 rfl ?_
        refine xi_iload_n C dX5_trySwap_25 rfl 1 rfl ?_
        obtain ⟨v8, e9, h⟩ := ob_i h
        refine xi_callV (As := [.int p1]) (o := some (.int v8)) (rest := []) (w2 := (wLB ad hs ++ wBd cI (ad 1) (ad 2) (ad 3) (ad 4) (ad 5) (ad 6) b.1 b.2.1 b.2.2.1 b.2.2.2.1 b.2.2.2.2.1 b.2.2.2.2.2.1 b.2.2.2.2.2.2 ++ wBd cI (ad 7) (ad 8) (ad 9) (ad 10) (ad 11) (ad 12) t.1 t.2.1 t.2.2.1 t.2.2.2.1 t.2.2.2.2.1 t.2.2.2.2.2.1 t.2.2.2.2.2.2 ++ wBd cI (ad 13) (ad 14) (ad 15) (ad 16) (ad 17) (ad 18) s.1 s.2.1 s.2.2.1 s.2.2.2.1 s.2.2.2.2.1 s.2.2.2.2.2.1 s.2.2.2.2.2.2 ++ wHi cI cR (ad 19) (ad 20) ha hn pm hb ++ wLa cI (ad 21) (ad 22) K ++ wLo cI (ad 23) (ad 24) (ad 25) (ad 26) Dp Bt Sq se ++ wTe cC (ad 27) (ad 28) Sg ln at_)) (st2 := [.int v8]) C k_X0_hasCell (m_X0_hasCell D cI cC cZ cR (ad 1) (ad 2) (ad 3) (ad 4) (ad 5) (ad 6) b.1 b.2.1 b.2.2.1 b.2.2.2.1 b.2.2.2.2.1 b.2.2.2.2.2.1 b.2.2.2.2.2.2 p1 v8 e9) gX5_trySwap_X0_hasCell dX5_trySwap_26 ⟨Nat.le_of_ble_eq_true rfl, Nat.le_of_ble_eq_true rfl, Nat.le_of_ble_eq_true rfl⟩ 1 rfl rfl [1, 2, 3, 4, 5, 6] mxC_X5_1 rfl [0, 1, 2, 3] rfl mxF_X5_1 mxM_X5_1 rfl (Nat.le_of_ble_eq_true rfl) ⟨Nat.zero_le _, Nat.zero_le _⟩ rfl ?_
        refine xi_if_ne (tgt := 46) C dX5_trySwap_29 (by decide) (fun c10 => ?_) (fun c10 => ?_)
        · have h := ie_i c10 h
          refine xi_aload_n C dX5_trySwap_46 rfl 0 rfl ?_
          refine xi_get C dX5_trySwap_47 iw_X5_trySwap_5 0 rfl rfl 1 (by decide) fl_X5_trySwap_16 rfl ?_
          refine xi_aload_n C dX5_trySwap_50 rfl 0 rfl ?_
          refine xi_get C dX5_trySwap_51 iw_X5_trySwap_5 0 rfl rfl 0 (by decide) fl_X5_trySwap_10 rfl ?_
          obtain ⟨⟨T11, S12, L13, J14, E15, cp16, su17⟩, e18, h⟩ := ob_i h
          refine xi_callV (As := [.ref (ad 1)]) (o := none) (rest := []) (w2 := (wLB ad hs ++ wBd cI (ad 1) (ad 2) (ad 3) (ad 4) (ad 5) (ad 6) b.1 b.2.1 b.2.2.1 b.2.2.2.1 b.2.2.2.2.1 b.2.2.2.2.2.1 b.2.2.2.2.2.2 ++ wBd cI (ad 7) (ad 8) (ad 9) (ad 10) (ad 11) (ad 12) T11 S12 L13 J14 E15 cp16 su17 ++ wBd cI (ad 13) (ad 14) (ad 15) (ad 16) (ad 17) (ad 18) s.1 s.2.1 s.2.2.1 s.2.2.2.1 s.2.2.2.2.1 s.2.2.2.2.2.1 s.2.2.2.2.2.2 ++ wHi cI cR (ad 19) (ad 20) ha hn pm hb ++ wLa cI (ad 21) (ad 22) K ++ wLo cI (ad 23) (ad 24) (ad 25) (ad 26) Dp Bt Sq se ++ wTe cC (ad 27) (ad 28) Sg ln at_)) (st2 := []) C k_X0_copyFrom (m_X0_copyFrom D cI cC cZ cR (ad 7) (ad 8) (ad 9) (ad 10) (ad 11) (ad 12) (ad 1) (ad 2) (ad 3) (ad 4) (ad 5) (ad 6) t.1 t.2.1 t.2.2.1 t.2.2.2.1 t.2.2.2.2.1 t.2.2.2.2.2.1 t.2.2.2.2.2.2 b.1 b.2.1 b.2.2.1 b.2.2.2.1 b.2.2.2.2.1 b.2.2.2.2.2.1 b.2.2.2.2.2.2 T11 S12 L13 J14 E15 cp16 su17 e18) gX5_trySwap_X0_copyFrom dX5_trySwap_54 ⟨Nat.le_of_ble_eq_true rfl, Nat.le_of_ble_eq_true rfl, Nat.le_of_ble_eq_true rfl⟩ 7 rfl rfl [7, 8, 9, 10, 11, 12, 1, 2, 3, 4, 5, 6] mxC_X5_2_1 rfl [0, 1, 2, 3] rfl mxF_X5_2_1 mxM_X5_2_1 rfl (Nat.le_of_ble_eq_true rfl) ⟨Nat.zero_le _, Nat.zero_le _⟩ rfl ?_
          refine xi_aload_n C dX5_trySwap_57 rfl 0 rfl ?_
          refine xi_get C dX5_trySwap_58 iw_X5_trySwap_5 0 rfl rfl 1 (by decide) fl_X5_trySwap_16 rfl ?_
          refine xi_iload_n C dX5_trySwap_61 rfl 1 rfl ?_
          refine xi_iload_n C dX5_trySwap_62 rfl 2 rfl ?_
          obtain ⟨⟨T19, S20⟩, e21, h⟩ := ob_i h
          refine xi_callV (As := [.int p1, .int p2]) (o := none) (rest := []) (w2 := (wLB ad hs ++ wBd cI (ad 1) (ad 2) (ad 3) (ad 4) (ad 5) (ad 6) b.1 b.2.1 b.2.2.1 b.2.2.2.1 b.2.2.2.2.1 b.2.2.2.2.2.1 b.2.2.2.2.2.2 ++ wBd cI (ad 7) (ad 8) (ad 9) (ad 10) (ad 11) (ad 12) T19 S20 L13 J14 E15 cp16 su17 ++ wBd cI (ad 13) (ad 14) (ad 15) (ad 16) (ad 17) (ad 18) s.1 s.2.1 s.2.2.1 s.2.2.2.1 s.2.2.2.2.1 s.2.2.2.2.2.1 s.2.2.2.2.2.2 ++ wHi cI cR (ad 19) (ad 20) ha hn pm hb ++ wLa cI (ad 21) (ad 22) K ++ wLo cI (ad 23) (ad 24) (ad 25) (ad 26) Dp Bt Sq se ++ wTe cC (ad 27) (ad 28) Sg ln at_)) (st2 := []) C k_X0_exchange (m_X0_exchange D cI cC cZ cR (ad 7) (ad 8) (ad 9) (ad 10) (ad 11) (ad 12) T11 S12 L13 J14 E15 cp16 su17 p1 p2 T19 S20 e21) gX5_trySwap_X0_exchange dX5_trySwap_63 ⟨Nat.le_of_ble_eq_true rfl, Nat.le_of_ble_eq_true rfl, Nat.le_of_ble_eq_true rfl⟩ 7 rfl rfl [7, 8, 9, 10, 11, 12] mxC_X5_2 rfl [0, 1, 2, 3] rfl mxF_X5_2 mxM_X5_2 rfl (Nat.le_of_ble_eq_true rfl) ⟨Nat.zero_le _, Nat.zero_le _⟩ rfl ?_
          refine xi_aload_n C dX5_trySwap_66 rfl 0 rfl ?_
          refine xi_get C dX5_trySwap_67 iw_X5_trySwap_5 0 rfl rfl 4 (by decide) fl_X5_trySwap_32 rfl ?_
          refine xi_aload_n C dX5_trySwap_70 rfl 0 rfl ?_
          refine xi_get C dX5_trySwap_71 iw_X5_trySwap_5 0 rfl rfl 1 (by decide) fl_X5_trySwap_16 rfl ?_
          refine xi_iconst (v := 0) C dX5_trySwap_74 (by decide) ?_
          obtain ⟨⟨v22, K23, L24, J25, E26⟩, e27, h⟩ := ob_i h
          refine xi_callV (As := [.ref (ad 7), .int 0]) (o := some (.int v22)) (rest := []) (w2 := (wLB ad hs ++ wBd cI (ad 1) (ad 2) (ad 3) (ad 4) (ad 5) (ad 6) b.1 b.2.1 b.2.2.1 b.2.2.2.1 b.2.2.2.2.1 b.2.2.2.2.2.1 b.2.2.2.2.2.2 ++ wBd cI (ad 7) (ad 8) (ad 9) (ad 10) (ad 11) (ad 12) T19 S20 L24 J25 E26 cp16 su17 ++ wBd cI (ad 13) (ad 14) (ad 15) (ad 16) (ad 17) (ad 18) s.1 s.2.1 s.2.2.1 s.2.2.2.1 s.2.2.2.2.1 s.2.2.2.2.2.1 s.2.2.2.2.2.2 ++ wHi cI cR (ad 19) (ad 20) ha hn pm hb ++ wLa cI (ad 21) (ad 22) K23 ++ wLo cI (ad 23) (ad 24) (ad 25) (ad 26) Dp Bt Sq se ++ wTe cC (ad 27) (ad 28) Sg ln at_)) (st2 := [.int v22]) C k_X2_layAll (m_X2_layAll D cI cC cZ cR (ad 21) (ad 22) (ad 7) (ad 8) (ad 9) (ad 10) (ad 11) (ad 12) K T19 S20 L13 J14 E15 cp16 su17 0 v22 K23 L24 J25 E26 e27) gX5_trySwap_X2_layAll dX5_trySwap_75 ⟨Nat.le_of_ble_eq_true rfl, Nat.le_of_ble_eq_true rfl, Nat.le_of_ble_eq_true rfl⟩ 45 rfl rfl [45, 46, 7, 8, 9, 10, 11, 12] mxC_X5_5_2 rfl [0, 1, 2, 3] rfl mxF_X5_5_2 mxM_X5_5_2 rfl (Nat.le_of_ble_eq_true rfl) ⟨Nat.zero_le _, Nat.zero_le _⟩ rfl ?_
          have w0 := Option.some.inj h
          obtain ⟨q0, w1⟩ := Prod.mk.inj w0
          obtain ⟨q1, w2⟩ := Prod.mk.inj w1
          subst q0
          subst q1
          subst w2
          exact xi_iret C Z dX5_trySwap_78
        · have h := it_i c10 h
          refine xi_aload_n C dX5_trySwap_32 rfl 0 rfl ?_
          refine xi_get C dX5_trySwap_33 iw_X5_trySwap_5 0 rfl rfl 0 (by decide) fl_X5_trySwap_10 rfl ?_
          refine xi_iload_n C dX5_trySwap_36 rfl 2 rfl ?_
          obtain ⟨v28, e29, h⟩ := ob_i h
          refine xi_callV (As := [.int p2]) (o := some (.int v28)) (rest := []) (w2 := (wLB ad hs ++ wBd cI (ad 1) (ad 2) (ad 3) (ad 4) (ad 5) (ad 6) b.1 b.2.1 b.2.2.1 b.2.2.2.1 b.2.2.2.2.1 b.2.2.2.2.2.1 b.2.2.2.2.2.2 ++ wBd cI (ad 7) (ad 8) (ad 9) (ad 10) (ad 11) (ad 12) t.1 t.2.1 t.2.2.1 t.2.2.2.1 t.2.2.2.2.1 t.2.2.2.2.2.1 t.2.2.2.2.2.2 ++ wBd cI (ad 13) (ad 14) (ad 15) (ad 16) (ad 17) (ad 18) s.1 s.2.1 s.2.2.1 s.2.2.2.1 s.2.2.2.2.1 s.2.2.2.2.2.1 s.2.2.2.2.2.2 ++ wHi cI cR (ad 19) (ad 20) ha hn pm hb ++ wLa cI (ad 21) (ad 22) K ++ wLo cI (ad 23) (ad 24) (ad 25) (ad 26) Dp Bt Sq se ++ wTe cC (ad 27) (ad 28) Sg ln at_)) (st2 := [.int v28]) C k_X0_hasCell (m_X0_hasCell D cI cC cZ cR (ad 1) (ad 2) (ad 3) (ad 4) (ad 5) (ad 6) b.1 b.2.1 b.2.2.1 b.2.2.2.1 b.2.2.2.2.1 b.2.2.2.2.2.1 b.2.2.2.2.2.2 p2 v28 e29) gX5_trySwap_X0_hasCell dX5_trySwap_37 ⟨Nat.le_of_ble_eq_true rfl, Nat.le_of_ble_eq_true rfl, Nat.le_of_ble_eq_true rfl⟩ 1 rfl rfl [1, 2, 3, 4, 5, 6] mxC_X5_1 rfl [0, 1, 2, 3] rfl mxF_X5_1 mxM_X5_1 rfl (Nat.le_of_ble_eq_true rfl) ⟨Nat.zero_le _, Nat.zero_le _⟩ rfl ?_
          refine xi_if_ne (tgt := 46) C dX5_trySwap_40 (by decide) (fun c30 => ?_) (fun c30 => ?_)
          · have h := ie_i c30 h
            refine xi_aload_n C dX5_trySwap_46 rfl 0 rfl ?_
            refine xi_get C dX5_trySwap_47 iw_X5_trySwap_5 0 rfl rfl 1 (by decide) fl_X5_trySwap_16 rfl ?_
            refine xi_aload_n C dX5_trySwap_50 rfl 0 rfl ?_
            refine xi_get C dX5_trySwap_51 iw_X5_trySwap_5 0 rfl rfl 0 (by decide) fl_X5_trySwap_10 rfl ?_
            obtain ⟨⟨T31, S32, L33, J34, E35, cp36, su37⟩, e38, h⟩ := ob_i h
            refine xi_callV (As := [.ref (ad 1)]) (o := none) (rest := []) (w2 := (wLB ad hs ++ wBd cI (ad 1) (ad 2) (ad 3) (ad 4) (ad 5) (ad 6) b.1 b.2.1 b.2.2.1 b.2.2.2.1 b.2.2.2.2.1 b.2.2.2.2.2.1 b.2.2.2.2.2.2 ++ wBd cI (ad 7) (ad 8) (ad 9) (ad 10) (ad 11) (ad 12) T31 S32 L33 J34 E35 cp36 su37 ++ wBd cI (ad 13) (ad 14) (ad 15) (ad 16) (ad 17) (ad 18) s.1 s.2.1 s.2.2.1 s.2.2.2.1 s.2.2.2.2.1 s.2.2.2.2.2.1 s.2.2.2.2.2.2 ++ wHi cI cR (ad 19) (ad 20) ha hn pm hb ++ wLa cI (ad 21) (ad 22) K ++ wLo cI (ad 23) (ad 24) (ad 25) (ad 26) Dp Bt Sq se ++ wTe cC (ad 27) (ad 28) Sg ln at_)) (st2 := []) C k_X0_copyFrom (m_X0_copyFrom D cI cC cZ cR (ad 7) (ad 8) (ad 9) (ad 10) (ad 11) (ad 12) (ad 1) (ad 2) (ad 3) (ad 4) (ad 5) (ad 6) t.1 t.2.1 t.2.2.1 t.2.2.2.1 t.2.2.2.2.1 t.2.2.2.2.2.1 t.2.2.2.2.2.2 b.1 b.2.1 b.2.2.1 b.2.2.2.1 b.2.2.2.2.1 b.2.2.2.2.2.1 b.2.2.2.2.2.2 T31 S32 L33 J34 E35 cp36 su37 e38) gX5_trySwap_X0_copyFrom dX5_trySwap_54 ⟨Nat.le_of_ble_eq_true rfl, Nat.le_of_ble_eq_true rfl, Nat.le_of_ble_eq_true rfl⟩ 7 rfl rfl [7, 8, 9, 10, 11, 12, 1, 2, 3, 4, 5, 6] mxC_X5_2_1 rfl [0, 1, 2, 3] rfl mxF_X5_2_1 mxM_X5_2_1 rfl (Nat.le_of_ble_eq_true rfl) ⟨Nat.zero_le _, Nat.zero_le _⟩ rfl ?_
            refine xi_aload_n C dX5_trySwap_57 rfl 0 rfl ?_
            refine xi_get C dX5_trySwap_58 iw_X5_trySwap_5 0 rfl rfl 1 (by decide) fl_X5_trySwap_16 rfl ?_
            refine xi_iload_n C dX5_trySwap_61 rfl 1 rfl ?_
            refine xi_iload_n C dX5_trySwap_62 rfl 2 rfl ?_
            obtain ⟨⟨T39, S40⟩, e41, h⟩ := ob_i h
            refine xi_callV (As := [.int p1, .int p2]) (o := none) (rest := []) (w2 := (wLB ad hs ++ wBd cI (ad 1) (ad 2) (ad 3) (ad 4) (ad 5) (ad 6) b.1 b.2.1 b.2.2.1 b.2.2.2.1 b.2.2.2.2.1 b.2.2.2.2.2.1 b.2.2.2.2.2.2 ++ wBd cI (ad 7) (ad 8) (ad 9) (ad 10) (ad 11) (ad 12) T39 S40 L33 J34 E35 cp36 su37 ++ wBd cI (ad 13) (ad 14) (ad 15) (ad 16) (ad 17) (ad 18) s.1 s.2.1 s.2.2.1 s.2.2.2.1 s.2.2.2.2.1 s.2.2.2.2.2.1 s.2.2.2.2.2.2 ++ wHi cI cR (ad 19) (ad 20) ha hn pm hb ++ wLa cI (ad 21) (ad 22) K ++ wLo cI (ad 23) (ad 24) (ad 25) (ad 26) Dp Bt Sq se ++ wTe cC (ad 27) (ad 28) Sg ln at_)) (st2 := []) C k_X0_exchange (m_X0_exchange D cI cC cZ cR (ad 7) (ad 8) (ad 9) (ad 10) (ad 11) (ad 12) T31 S32 L33 J34 E35 cp36 su37 p1 p2 T39 S40 e41) gX5_trySwap_X0_exchange dX5_trySwap_63 ⟨Nat.le_of_ble_eq_true rfl, Nat.le_of_ble_eq_true rfl, Nat.le_of_ble_eq_true rfl⟩ 7 rfl rfl [7, 8, 9, 10, 11, 12] mxC_X5_2 rfl [0, 1, 2, 3] rfl mxF_X5_2 mxM_X5_2 rfl (Nat.le_of_ble_eq_true rfl) ⟨Nat.zero_le _, Nat.zero_le _⟩ rfl ?_
            refine xi_aload_n C dX5_trySwap_66 rfl 0 rfl ?_
            refine xi_get C dX5_trySwap_67 iw_X5_trySwap_5 0 rfl rfl 4 (by decide) fl_X5_trySwap_32 rfl ?_
            refine xi_aload_n C dX5_trySwap_70 rfl 0 rfl ?_
            refine xi_get C dX5_trySwap_71 iw_X5_trySwap_5 0 rfl rfl 1 (by decide) fl_X5_trySwap_16 rfl ?_
            refine xi_iconst (v := 0) C dX5_trySwap_74 (by decide) ?_
            obtain ⟨⟨v42, K43, L44, J45, E46⟩, e47, h⟩ := ob_i h
            refine xi_callV (As := [.ref (ad 7), .int 0]) (o := some (.int v42)) (rest := []) (w2 := (wLB ad hs ++ wBd cI (ad 1) (ad 2) (ad 3) (ad 4) (ad 5) (ad 6) b.1 b.2.1 b.2.2.1 b.2.2.2.1 b.2.2.2.2.1 b.2.2.2.2.2.1 b.2.2.2.2.2.2 ++ wBd cI (ad 7) (ad 8) (ad 9) (ad 10) (ad 11) (ad 12) T39 S40 L44 J45 E46 cp36 su37 ++ wBd cI (ad 13) (ad 14) (ad 15) (ad 16) (ad 17) (ad 18) s.1 s.2.1 s.2.2.1 s.2.2.2.1 s.2.2.2.2.1 s.2.2.2.2.2.1 s.2.2.2.2.2.2 ++ wHi cI cR (ad 19) (ad 20) ha hn pm hb ++ wLa cI (ad 21) (ad 22) K43 ++ wLo cI (ad 23) (ad 24) (ad 25) (ad 26) Dp Bt Sq se ++ wTe cC (ad 27) (ad 28) Sg ln at_)) (st2 := [.int v42]) C k_X2_layAll (m_X2_layAll D cI cC cZ cR (ad 21) (ad 22) (ad 7) (ad 8) (ad 9) (ad 10) (ad 11) (ad 12) K T39 S40 L33 J34 E35 cp36 su37 0 v42 K43 L44 J45 E46 e47) gX5_trySwap_X2_layAll dX5_trySwap_75 ⟨Nat.le_of_ble_eq_true rfl, Nat.le_of_ble_eq_true rfl, Nat.le_of_ble_eq_true rfl⟩ 45 rfl rfl [45, 46, 7, 8, 9, 10, 11, 12] mxC_X5_5_2 rfl [0, 1, 2, 3] rfl mxF_X5_5_2 mxM_X5_5_2 rfl (Nat.le_of_ble_eq_true rfl) ⟨Nat.zero_le _, Nat.zero_le _⟩ rfl ?_
            have w0 := Option.some.inj h
            obtain ⟨q0, w1⟩ := Prod.mk.inj w0
            obtain ⟨q1, w2⟩ := Prod.mk.inj w1
            subst q0
            subst q1
            subst w2
            exact xi_iret C Z dX5_trySwap_78
          · have h := it_i c30 h
            refine xi_bipush (v := (-5)) C dX5_trySwap_43 (by decide) ?_
            have w0 := Option.some.inj h
            obtain ⟨q0, w1⟩ := Prod.mk.inj w0
            obtain ⟨q1, w2⟩ := Prod.mk.inj w1
            subst q0
            subst q1
            subst w2
            exact xi_iret C Z dX5_trySwap_45
    · have h := it_i c6 h
      refine xi_iconst (v := (-1)) C dX5_trySwap_14 (by decide) ?_
      have w0 := Option.some.inj h
      obtain ⟨q0, w1⟩ := Prod.mk.inj w0
      obtain ⟨q1, w2⟩ := Prod.mk.inj w1
      subst q0
      subst q1
      subst w2
      exact xi_iret C Z dX5_trySwap_15
def f_X5_swap (b : xBd) (t : xBd) (hn : Int32) (pm : Nat → Nat) (hb : Nat → xBd) (K : Nat → Int32) (p1 : Int32) (p2 : Int32) : Option (Int32 × xBd × xBd × Int32 × (Nat → Nat) × (Nat → xBd) × (Nat → Int32)) :=
  (f_X5_trySwap b t K p1 p2).bind fun (v1, t2, K3) =>
  if v1 < 0 then
    some (v1, b, t2, hn, pm, hb, K3)
  else
    (f_X5_acceptTrial b t2 hn pm hb).bind fun (b6, hn7, pm8, hb9) =>
    some (v1, b6, t2, hn7, pm8, hb9, K3)
theorem k_X5_swap : xb_Y yX5_swap cX5_swap wsX5_swap 4 (some .int) { frames := 6, cells := 0, slots := 0, locals := 149 } 2 := ⟨⟨_, rfl⟩, by decide, ⟨by decide, by decide, by decide +kernel⟩, rfl, rfl⟩
set_option maxHeartbeats 4000000 in
set_option maxRecDepth 100000 in
theorem m_X5_swap (D : va_G) (cI cC cZ cR : ClassId) (ad : Nat → Nat) (ha : Nat → Nat → Nat) (hs : Int32) (b : xBd) (t : xBd) (s : xBd) (hn : Int32) (pm : Nat → Nat) (hb : Nat → xBd) (K : Nat → Int32) (Dp : Nat → Int32) (Bt : Nat → Int32) (Sq : Nat → Int32) (se : Int32) (Sg : Nat → Int32) (ln : Int32) (at_ : Int32) (p1 : Int32) (p2 : Int32) (r : Int32) (b' : xBd) (t' : xBd) (hn' : Int32) (pm' : Nat → Nat) (hb' : Nat → xBd) (K' : Nat → Int32) (h : f_X5_swap b t hn pm hb K p1 p2 = some (r, b', t', hn', pm', hb', K')) : xb_M cX5_swap wsX5_swap RX5 { frames := 6, cells := 0, slots := 0, locals := 149 } (some .int) 4 (xb_ty cI cC cZ cR) D [.ref (ad 0), .int p1, .int p2] (wLB ad hs ++ wBd cI (ad 1) (ad 2) (ad 3) (ad 4) (ad 5) (ad 6) b.1 b.2.1 b.2.2.1 b.2.2.2.1 b.2.2.2.2.1 b.2.2.2.2.2.1 b.2.2.2.2.2.2 ++ wBd cI (ad 7) (ad 8) (ad 9) (ad 10) (ad 11) (ad 12) t.1 t.2.1 t.2.2.1 t.2.2.2.1 t.2.2.2.2.1 t.2.2.2.2.2.1 t.2.2.2.2.2.2 ++ wBd cI (ad 13) (ad 14) (ad 15) (ad 16) (ad 17) (ad 18) s.1 s.2.1 s.2.2.1 s.2.2.2.1 s.2.2.2.2.1 s.2.2.2.2.2.1 s.2.2.2.2.2.2 ++ wHi cI cR (ad 19) (ad 20) ha hn pm hb ++ wLa cI (ad 21) (ad 22) K ++ wLo cI (ad 23) (ad 24) (ad 25) (ad 26) Dp Bt Sq se ++ wTe cC (ad 27) (ad 28) Sg ln at_) (some (.int r)) (wLB ad hs ++ wBd cI (ad 1) (ad 2) (ad 3) (ad 4) (ad 5) (ad 6) b'.1 b'.2.1 b'.2.2.1 b'.2.2.2.1 b'.2.2.2.2.1 b'.2.2.2.2.2.1 b'.2.2.2.2.2.2 ++ wBd cI (ad 7) (ad 8) (ad 9) (ad 10) (ad 11) (ad 12) t'.1 t'.2.1 t'.2.2.1 t'.2.2.2.1 t'.2.2.2.2.1 t'.2.2.2.2.2.1 t'.2.2.2.2.2.2 ++ wBd cI (ad 13) (ad 14) (ad 15) (ad 16) (ad 17) (ad 18) s.1 s.2.1 s.2.2.1 s.2.2.2.1 s.2.2.2.2.1 s.2.2.2.2.2.1 s.2.2.2.2.2.2 ++ wHi cI cR (ad 19) (ad 20) ha hn' pm' hb' ++ wLa cI (ad 21) (ad 22) K' ++ wLo cI (ad 23) (ad 24) (ad 25) (ad 26) Dp Bt Sq se ++ wTe cC (ad 27) (ad 28) Sg ln at_) := by
  intro X C Z
  show xb_G X 0 0 (wLB ad hs ++ wBd cI (ad 1) (ad 2) (ad 3) (ad 4) (ad 5) (ad 6) b.1 b.2.1 b.2.2.1 b.2.2.2.1 b.2.2.2.2.1 b.2.2.2.2.2.1 b.2.2.2.2.2.2 ++ wBd cI (ad 7) (ad 8) (ad 9) (ad 10) (ad 11) (ad 12) t.1 t.2.1 t.2.2.1 t.2.2.2.1 t.2.2.2.2.1 t.2.2.2.2.2.1 t.2.2.2.2.2.2 ++ wBd cI (ad 13) (ad 14) (ad 15) (ad 16) (ad 17) (ad 18) s.1 s.2.1 s.2.2.1 s.2.2.2.1 s.2.2.2.2.1 s.2.2.2.2.2.1 s.2.2.2.2.2.2 ++ wHi cI cR (ad 19) (ad 20) ha hn pm hb ++ wLa cI (ad 21) (ad 22) K ++ wLo cI (ad 23) (ad 24) (ad 25) (ad 26) Dp Bt Sq se ++ wTe cC (ad 27) (ad 28) Sg ln at_) [(0, .ref (ad 0)), (1, .int p1), (2, .int p2)] 0 []
  unfold f_X5_swap at h
  refine xi_aload_n C dX5_swap_0 rfl 0 rfl ?_
  refine xi_iload_n C dX5_swap_1 rfl 1 rfl ?_
  refine xi_iload_n C dX5_swap_2 rfl 2 rfl ?_
  obtain ⟨⟨v1, t2, K3⟩, e4, h⟩ := ob_i h
  refine xi_callV (As := [.int p1, .int p2]) (o := some (.int v1)) (rest := []) (w2 := (wLB ad hs ++ wBd cI (ad 1) (ad 2) (ad 3) (ad 4) (ad 5) (ad 6) b.1 b.2.1 b.2.2.1 b.2.2.2.1 b.2.2.2.2.1 b.2.2.2.2.2.1 b.2.2.2.2.2.2 ++ wBd cI (ad 7) (ad 8) (ad 9) (ad 10) (ad 11) (ad 12) t2.1 t2.2.1 t2.2.2.1 t2.2.2.2.1 t2.2.2.2.2.1 t2.2.2.2.2.2.1 t2.2.2.2.2.2.2 ++ wBd cI (ad 13) (ad 14) (ad 15) (ad 16) (ad 17) (ad 18) s.1 s.2.1 s.2.2.1 s.2.2.2.1 s.2.2.2.2.1 s.2.2.2.2.2.1 s.2.2.2.2.2.2 ++ wHi cI cR (ad 19) (ad 20) ha hn pm hb ++ wLa cI (ad 21) (ad 22) K3 ++ wLo cI (ad 23) (ad 24) (ad 25) (ad 26) Dp Bt Sq se ++ wTe cC (ad 27) (ad 28) Sg ln at_)) (st2 := [.int v1]) C k_X5_trySwap (m_X5_trySwap D cI cC cZ cR ad ha hs b t s hn pm hb K Dp Bt Sq se Sg ln at_ p1 p2 v1 t2 K3 e4) gX5_swap_X5_trySwap dX5_swap_3 ⟨Nat.le_of_ble_eq_true rfl, Nat.le_of_ble_eq_true rfl, Nat.le_of_ble_eq_true rfl⟩ 0 rfl rfl [0, 1, 2, 3, 4, 5, 6, 7, 8, 9, 10, 11, 12, 13, 14, 15, 16, 17, 18, 19, 20, 21, 22, 23, 24, 25, 26, 27, 28, 29, 30, 31, 32, 33, 34, 35, 36, 37, 38, 39, 40, 41, 42, 43, 44, 45, 46, 47, 48, 49, 50, 51, 52] mxC_X5_0_1_2_3_4_5_6_7 rfl [0, 1, 2, 3] rfl mxF_X5_0_1_2_3_4_5_6_7 mxM_X5_0_1_2_3_4_5_6_7 rfl (Nat.le_of_ble_eq_true rfl) ⟨Nat.zero_le _, Nat.zero_le _⟩ rfl ?_
  refine xi_istore_n (lv2 := [(0, .ref (ad 0)), (1, .int p1), (2, .int p2), (3, .int v1)]) C dX5_swap_6 rfl (by decide) [0, 1, 2] [1, 2, 3, 0] rfl ?_
  refine xi_iload_n C dX5_swap_7 rfl 3 rfl ?_
  refine xi_if_lt (tgt := 15) C dX5_swap_8 (by decide) (fun c5 => ?_) (fun c5 => ?_)
  · have h := it_i c5 h
    refine xi_iload_n C dX5_swap_15 rfl 3 rfl ?_
    have w0 := Option.some.inj h
    obtain ⟨q0, w1⟩ := Prod.mk.inj w0
    obtain ⟨q1, w2⟩ := Prod.mk.inj w1
    obtain ⟨q2, w3⟩ := Prod.mk.inj w2
    obtain ⟨q3, w4⟩ := Prod.mk.inj w3
    obtain ⟨q4, w5⟩ := Prod.mk.inj w4
    obtain ⟨q5, w6⟩ := Prod.mk.inj w5
    subst q0
    subst q1
    subst q2
    subst q3
    subst q4
    subst q5
    subst w6
    exact xi_iret C Z dX5_swap_16
  · have h := ie_i c5 h
    refine xi_aload_n C dX5_swap_11 rfl 0 rfl ?_
    obtain ⟨⟨b6, hn7, pm8, hb9⟩, e10, h⟩ := ob_i h
    refine xi_callV (As := []) (o := none) (rest := []) (w2 := (wLB ad hs ++ wBd cI (ad 1) (ad 2) (ad 3) (ad 4) (ad 5) (ad 6) b6.1 b6.2.1 b6.2.2.1 b6.2.2.2.1 b6.2.2.2.2.1 b6.2.2.2.2.2.1 b6.2.2.2.2.2.2 ++ wBd cI (ad 7) (ad 8) (ad 9) (ad 10) (ad 11) (ad 12) t2.1 t2.2.1 t2.2.2.1 t2.2.2.2.1 t2.2.2.2.2.1 t2.2.2.2.2.2.1 t2.2.2.2.2.2.2 ++ wBd cI (ad 13) (ad 14) (ad 15) (ad 16) (ad 17) (ad 18) s.1 s.2.1 s.2.2.1 s.2.2.2.1 s.2.2.2.2.1 s.2.2.2.2.2.1 s.2.2.2.2.2.2 ++ wHi cI cR (ad 19) (ad 20) ha hn7 pm8 hb9 ++ wLa cI (ad 21) (ad 22) K3 ++ wLo cI (ad 23) (ad 24) (ad 25) (ad 26) Dp Bt Sq se ++ wTe cC (ad 27) (ad 28) Sg ln at_)) (st2 := []) C k_X5_acceptTrial (m_X5_acceptTrial D cI cC cZ cR ad ha hs b t2 s hn pm hb K3 Dp Bt Sq se Sg ln at_ b6 hn7 pm8 hb9 e10) gX5_swap_X5_acceptTrial dX5_swap_12 ⟨Nat.le_of_ble_eq_true rfl, Nat.le_of_ble_eq_true rfl, Nat.le_of_ble_eq_true rfl⟩ 0 rfl rfl [0, 1, 2, 3, 4, 5, 6, 7, 8, 9, 10, 11, 12, 13, 14, 15, 16, 17, 18, 19, 20, 21, 22, 23, 24, 25, 26, 27, 28, 29, 30, 31, 32, 33, 34, 35, 36, 37, 38, 39, 40, 41, 42, 43, 44, 45, 46, 47, 48, 49, 50, 51, 52] mxC_X5_0_1_2_3_4_5_6_7 rfl [0, 1, 2, 3] rfl mxF_X5_0_1_2_3_4_5_6_7 mxM_X5_0_1_2_3_4_5_6_7 rfl (Nat.le_of_ble_eq_true rfl) ⟨Nat.zero_le _, Nat.zero_le _⟩ rfl ?_
    refine xi_iload_n C dX5_swap_15 rfl 3 rfl ?_
    have w0 := Option.some.inj h
    obtain ⟨q0, w1⟩ := Prod.mk.inj w0
    obtain ⟨q1, w2⟩ := Prod.mk.inj w1
    obtain ⟨q2, w3⟩ := Prod.mk.inj w2
    obtain ⟨q3, w4⟩ := Prod.mk.inj w3
    obtain ⟨q4, w5⟩ := Prod.mk.inj w4
    obtain ⟨q5, w6⟩ := Prod.mk.inj w5
    subst q0
    subst q1
    subst q2
    subst q3
    subst q4
    subst q5
    subst w6
    exact xi_iret C Z dX5_swap_16
