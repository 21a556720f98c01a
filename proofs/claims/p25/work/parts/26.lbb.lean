def f_X5_tryOrder (b : xBd) (t : xBd) (K : Nat → Int32) (p1 : Int32) : Option (Int32 × xBd × (Nat → Int32)) :=
  (f_X0_copyFrom t.1 t.2.1 t.2.2.1 t.2.2.2.1 t.2.2.2.2.1 t.2.2.2.2.2.1 t.2.2.2.2.2.2 b.1 b.2.1 b.2.2.1 b.2.2.2.1 b.2.2.2.2.1 b.2.2.2.2.2.1 b.2.2.2.2.2.2).bind fun (T1, S2, L3, J4, E5, cp6, su7) =>
  (f_X2_layAll K S2 L3 J4 E5 cp6 su7 p1).bind fun (v9, K10, L11, J12, E13) =>
  some (v9, (T1, S2, L11, J12, E13, cp6, su7), K10)
theorem k_X5_tryOrder : xb_Y yX5_tryOrder cX5_tryOrder wsX5_tryOrder 2 (some .int) { frames := 5, cells := 0, slots := 0, locals := 127 } 1 := ⟨⟨_, rfl⟩, by decide, ⟨by decide, by decide, by decide +kernel⟩, rfl, rfl⟩
theorem fl_X5_tryOrder_10 : Cond.fieldLink RX5 10 "LookupBoard" "board" "LLookupBoard$Board;" ∈ wsX5_tryOrder := List.mem_of_getElem? (i := 2) rfl
theorem fl_X5_tryOrder_16 : Cond.fieldLink RX5 16 "LookupBoard" "trial" "LLookupBoard$Board;" ∈ wsX5_tryOrder := List.mem_of_getElem? (i := 1) rfl
theorem fl_X5_tryOrder_32 : Cond.fieldLink RX5 32 "LookupBoard" "layer" "LLookupBoard$Layer;" ∈ wsX5_tryOrder := List.mem_of_getElem? (i := 3) rfl
theorem iw_X5_tryOrder_5 : ∀ w ∈ wsX50, w ∈ wsX5_tryOrder := fun w h => List.mem_cons_of_mem _ (List.mem_append_left _ (List.mem_append_left _ (List.mem_append_right _ h)))
set_option maxHeartbeats 4000000 in
set_option maxRecDepth 100000 in
theorem m_X5_tryOrder (D : va_G) (cI cC cZ cR : ClassId) (ad : Nat → Nat) (ha : Nat → Nat → Nat) (hs : Int32) (b : xBd) (t : xBd) (s : xBd) (hn : Int32) (pm : Nat → Nat) (hb : Nat → xBd) (K : Nat → Int32) (Dp : Nat → Int32) (Bt : Nat → Int32) (Sq : Nat → Int32) (se : Int32) (Sg : Nat → Int32) (ln : Int32) (at_ : Int32) (p1 : Int32) (r : Int32) (t' : xBd) (K' : Nat → Int32) (h : f_X5_tryOrder b t K p1 = some (r, t', K')) : xb_M cX5_tryOrder wsX5_tryOrder RX5 { frames := 5, cells := 0, slots := 0, locals := 127 } (some .int) 2 (xb_ty cI cC cZ cR) D [.ref (ad 0), .int p1] (wLB ad hs ++ wBd cI (ad 1) (ad 2) (ad 3) (ad 4) (ad 5) (ad 6) b.1 b.2.1 b.2.2.1 b.2.2.2.1 b.2.2.2.2.1 b.2.2.2.2.2.1 b.2.2.2.2.2.2 ++ wBd cI (ad 7) (ad 8) (ad 9) (ad 10) (ad 11) (ad 12) t.1 t.2.1 t.2.2.1 t.2.2.2.1 t.2.2.2.2.1 t.2.2.2.2.2.1 t.2.2.2.2.2.2 ++ wBd cI (ad 13) (ad 14) (ad 15) (ad 16) (ad 17) (ad 18) s.1 s.2.1 s.2.2.1 s.2.2.2.1 s.2.2.2.2.1 s.2.2.2.2.2.1 s.2.2.2.2.2.2 ++ wHi cI cR (ad 19) (ad 20) ha hn pm hb ++ wLa cI (ad 21) (ad 22) K ++ wLo cI (ad 23) (ad 24) (ad 25) (ad 26) Dp Bt Sq se ++ wTe cC (ad 27) (ad 28) Sg ln at_) (some (.int r)) (wLB ad hs ++ wBd cI (ad 1) (ad 2) (ad 3) (ad 4) (ad 5) (ad 6) b.1 b.2.1 b.2.2.1 b.2.2.2.1 b.2.2.2.2.1 b.2.2.2.2.2.1 b.2.2.2.2.2.2 ++ wBd cI (ad 7) (ad 8) (ad 9) (ad 10) (ad 11) (ad 12) t'.1 t'.2.1 t'.2.2.1 t'.2.2.2.1 t'.2.2.2.2.1 t'.2.2.2.2.2.1 t'.2.2.2.2.2.2 ++ wBd cI (ad 13) (ad 14) (ad 15) (ad 16) (ad 17) (ad 18) s.1 s.2.1 s.2.2.1 s.2.2.2.1 s.2.2.2.2.1 s.2.2.2.2.2.1 s.2.2.2.2.2.2 ++ wHi cI cR (ad 19) (ad 20) ha hn pm hb ++ wLa cI (ad 21) (ad 22) K' ++ wLo cI (ad 23) (ad 24) (ad 25) (ad 26) Dp Bt Sq se ++ wTe cC (ad 27) (ad 28) Sg ln at_) := by
  intro X C Z
  show xb_G X 0 0 (wLB ad hs ++ wBd cI (ad 1) (ad 2) (ad 3) (ad 4) (ad 5) (ad 6) b.1 b.2.1 b.2.2.1 b.2.2.2.1 b.2.2.2.2.1 b.2.2.2.2.2.1 b.2.2.2.2.2.2 ++ wBd cI (ad 7) (ad 8) (ad 9) (ad 10) (ad 11) (ad 12) t.1 t.2.1 t.2.2.1 t.2.2.2.1 t.2.2.2.2.1 t.2.2.2.2.2.1 t.2.2.2.2.2.2 ++ wBd cI (ad 13) (ad 14) (ad 15) (ad 16) (ad 17) (ad 18) s.1 s.2.1 s.2.2.1 s.2.2.2.1 s.2.2.2.2.1 s.2.2.2.2.2.1 s.2.2.2.2.2.2 ++ wHi cI cR (ad 19) (ad 20) ha hn pm hb ++ wLa cI (ad 21) (ad 22) K ++ wLo cI (ad 23) (ad 24) (ad 25) (ad 26) Dp Bt Sq se ++ wTe cC (ad 27) (ad 28) Sg ln at_) [(0, .ref (ad 0)), (1, .int p1)] 0 []
  unfold f_X5_tryOrder at h
  refine xi_aload_n C dX5_tryOrder_0 rfl 0 rfl ?_
  refine xi_get C dX5_tryOrder_1 iw_X5_tryOrder_5 0 rfl rfl 1 (by decide) fl_X5_tryOrder_16 rfl ?_
  refine xi_aload_n C dX5_tryOrder_4 rfl 0 rfl ?_
  refine xi_get C dX5_tryOrder_5 iw_X5_tryOrder_5 0 rfl rfl 0 (by decide) fl_X5_tryOrder_10 rfl ?_
  obtain ⟨⟨T1, S2, L3, J4, E5, cp6, su7⟩, e8, h⟩ := ob_i h
  refine xi_callV (As := [.ref (ad 1)]) (o := none) (rest := []) (w2 := (wLB ad hs ++ wBd cI (ad 1) (ad 2) (ad 3) (ad 4) (ad 5) (ad 6) b.1 b.2.1 b.2.2.1 b.2.2.2.1 b.2.2.2.2.1 b.2.2.2.2.2.1 b.2.2.2.2.2.2 ++ wBd cI (ad 7) (ad 8) (ad 9) (ad 10) (ad 11) (ad 12) T1 S2 L3 J4 E5 cp6 su7 ++ wBd cI (ad 13) (ad 14) (ad 15) (ad 16) (ad 17) (ad 18) s.1 s.2.1 s.2.2.1 s.2.2.2.1 s.2.2.2.2.1 s.2.2.2.2.2.1 s.2.2.2.2.2.2 ++ wHi cI cR (ad 19) (ad 20) ha hn pm hb ++ wLa cI (ad 21) (ad 22) K ++ wLo cI (ad 23) (ad 24) (ad 25) (ad 26) Dp Bt Sq se ++ wTe cC (ad 27) (ad 28) Sg ln at_)) (st2 := []) C k_X0_copyFrom (m_X0_copyFrom D cI cC cZ cR (ad 7) (ad 8) (ad 9) (ad 10) (ad 11) (ad 12) (ad 1) (ad 2) (ad 3) (ad 4) (ad 5) (ad 6) t.1 t.2.1 t.2.2.1 t.2.2.2.1 t.2.2.2.2.1 t.2.2.2.2.2.1 t.2.2.2.2.2.2 b.1 b.2.1 b.2.2.1 b.2.2.2.1 b.2.2.2.2.1 b.2.2.2.2.2.1 b.2.2.2.2.2.2 T1 S2 L3 J4 E5 cp6 su7 e8) gX5_tryOrder_X0_copyFrom dX5_tryOrder_8 ⟨Nat.le_of_ble_eq_true rfl, Nat.le_of_ble_eq_true rfl, Nat.le_of_ble_eq_true rfl⟩ 7 rfl rfl [7, 8, 9, 10, 11, 12, 1, 2, 3, 4, 5, 6] mxC_X5_2_1 rfl [0, 1, 2, 3] rfl mxF_X5_2_1 mxM_X5_2_1 rfl (Nat.le_of_ble_eq_true rfl) ⟨Nat.zero_le _, Nat.zero_le _⟩ rfl ?_
  refine xi_aload_n C dX5_tryOrder_11 rfl 0 rfl ?_
  refine xi_get C dX5_tryOrder_12 iw_X5_tryOrder_5 0 rfl rfl 4 (by decide) fl_X5_tryOrder_32 rfl ?_
  refine xi_aload_n C dX5_tryOrder_15 rfl 0 rfl ?_
  refine xi_get C dX5_tryOrder_16 iw_X5_tryOrder_5 0 rfl rfl 1 (by decide) fl_X5_tryOrder_16 rfl ?_
  refine xi_iload_n C dX5_tryOrder_19 rfl 1 rfl ?_
  obtain ⟨⟨v9, K10, L11, J12, E13⟩, e14, h⟩ := ob_i h
  refine xi_callV (As := [.ref (ad 7), .int p1]) (o := some (.int v9)) (rest := []) (w2 := (wLB ad hs ++ wBd cI (ad 1) (ad 2) (ad 3) (ad 4) (ad 5) (ad 6) b.1 b.2.1 b.2.2.1 b.2.2.2.1 b.2.2.2.2.1 b.2.2.2.2.2.1 b.2.2.2.2.2.2 ++ wBd cI (ad 7) (ad 8) (ad 9) (ad 10) (ad 11) (ad 12) T1 S2 L11 J12 E13 cp6 su7 ++ wBd cI (ad 13) (ad 14) (ad 15) (ad 16) (ad 17) (ad 18) s.1 s.2.1 s.2.2.1 s.2.2.2.1 s.2.2.2.2.1 s.2.2.2.2.2.1 s.2.2.2.2.2.2 ++ wHi cI cR (ad 19) (ad 20) ha hn pm hb ++ wLa cI (ad 21) (ad 22) K10 ++ wLo cI (ad 23) (ad 24) (ad 25) (ad 26) Dp Bt Sq se ++ wTe cC (ad 27) (ad 28) Sg ln at_)) (st2 := [.int v9]) C k_X2_layAll (m_X2_layAll D cI cC cZ cR (ad 21) (ad 22) (ad 7) (ad 8) (ad 9) (ad 10) (ad 11) (ad 12) K T1 S2 L3 J4 E5 cp6 su7 p1 v9 K10 L11 J12 E13 e14) gX5_tryOrder_X2_layAll dX5_tryOrder_20 ⟨Nat.le_of_ble_eq_true rfl, Nat.le_of_ble_eq_true rfl, Nat.le_of_ble_eq_true rfl⟩ 45 rfl rfl [45, 46, 7, 8, 9, 10, 11, 12] mxC_X5_5_2 rfl [0, 1, 2, 3] rfl mxF_X5_5_2 mxM_X5_5_2 rfl (Nat.le_of_ble_eq_true rfl) ⟨Nat.zero_le _, Nat.zero_le _⟩ rfl ?_
  have w0 := Option.some.inj h
  obtain ⟨q0, w1⟩ := Prod.mk.inj w0
  obtain ⟨q1, w2⟩ := Prod.mk.inj w1
  subst q0
  subst q1
  subst w2
  exact xi_iret C Z dX5_tryOrder_23
def f_X5_layAnew (b : xBd) (t : xBd) (hn : Int32) (pm : Nat → Nat) (hb : Nat → xBd) (K : Nat → Int32) (p1 : Int32) : Option (Int32 × xBd × xBd × Int32 × (Nat → Nat) × (Nat → xBd) × (Nat → Int32)) :=
  if p1 < 0 then
    some ((-2), b, t, hn, pm, hb, K)
  else
    if p1 < 3 then
      (f_X5_tryOrder b t K p1).bind fun (v3, t4, K5) =>
      if v3 < 0 then
        some (v3, b, t4, hn, pm, hb, K5)
      else
        (f_X5_acceptTrial b t4 hn pm hb).bind fun (b8, hn9, pm10, hb11) =>
        some (v3, b8, t4, hn9, pm10, hb11, K5)
    else
      some ((-2), b, t, hn, pm, hb, K)
theorem k_X5_layAnew : xb_Y yX5_layAnew cX5_layAnew wsX5_layAnew 3 (some .int) { frames := 6, cells := 0, slots := 0, locals := 148 } 1 := ⟨⟨_, rfl⟩, by decide, ⟨by decide, by decide, by decide +kernel⟩, rfl, rfl⟩
set_option maxHeartbeats 4000000 in
set_option maxRecDepth 100000 in
theorem m_X5_layAnew (D : va_G) (cI cC cZ cR : ClassId) (ad : Nat → Nat) (ha : Nat → Nat → Nat) (hs : Int32) (b : xBd) (t : xBd) (s : xBd) (hn : Int32) (pm : Nat → Nat) (hb : Nat → xBd) (K : Nat → Int32) (Dp : Nat → Int32) (Bt : Nat → Int32) (Sq : Nat → Int32) (se : Int32) (Sg : Nat → Int32) (ln : Int32) (at_ : Int32) (p1 : Int32) (r : Int32) (b' : xBd) (t' : xBd) (hn' : Int32) (pm' : Nat → Nat) (hb' : Nat → xBd) (K' : Nat → Int32) (h : f_X5_layAnew b t hn pm hb K p1 = some (r, b', t', hn', pm', hb', K')) : xb_M cX5_layAnew wsX5_layAnew RX5 { frames := 6, cells := 0, slots := 0, locals := 148 } (some .int) 3 (xb_ty cI cC cZ cR) D [.ref (ad 0), .int p1] (wLB ad hs ++ wBd cI (ad 1) (ad 2) (ad 3) (ad 4) (ad 5) (ad 6) b.1 b.2.1 b.2.2.1 b.2.2.2.1 b.2.2.2.2.1 b.2.2.2.2.2.1 b.2.2.2.2.2.2 ++ wBd cI (ad 7) (ad 8) (ad 9) (ad 10) (ad 11) (ad 12) t.1 t.2.1 t.2.2.1 t.2.2.2.1 t.2.2.2.2.1 t.2.2.2.2.2.1 t.2.2.2.2.2.2 ++ wBd cI (ad 13) (ad 14) (ad 15) (ad 16) (ad 17) (ad 18) s.1 s.2.1 s.2.2.1 s.2.2.2.1 s.2.2.2.2.1 s.2.2.2.2.2.1 s.2.2.2.2.2.2 ++ wHi cI cR (ad 19) (ad 20) ha hn pm hb ++ wLa cI (ad 21) (ad 22) K ++ wLo cI (ad 23) (ad 24) (ad 25) (ad 26) Dp Bt Sq se ++ wTe cC (ad 27) (ad 28) Sg ln at_) (some (.int r)) (wLB ad hs ++ wBd cI (ad 1) (ad 2) (ad 3) (ad 4) (ad 5) (ad 6) b'.1 b'.2.1 b'.2.2.1 b'.2.2.2.1 b'.2.2.2.2.1 b'.2.2.2.2.2.1 b'.2.2.2.2.2.2 ++ wBd cI (ad 7) (ad 8) (ad 9) (ad 10) (ad 11) (ad 12) t'.1 t'.2.1 t'.2.2.1 t'.2.2.2.1 t'.2.2.2.2.1 t'.2.2.2.2.2.1 t'.2.2.2.2.2.2 ++ wBd cI (ad 13) (ad 14) (ad 15) (ad 16) (ad 17) (ad 18) s.1 s.2.1 s.2.2.1 s.2.2.2.1 s.2.2.2.2.1 s.2.2.2.2.2.1 s.2.2.2.2.2.2 ++ wHi cI cR (ad 19) (ad 20) ha hn' pm' hb' ++ wLa cI (ad 21) (ad 22) K' ++ wLo cI (ad 23) (ad 24) (ad 25) (ad 26) Dp Bt Sq se ++ wTe cC (ad 27) (ad 28) Sg ln at_) := by
  intro X C Z
  show xb_G X 0 0 (wLB ad hs ++ wBd cI (ad 1) (ad 2) (ad 3) (ad 4) (ad 5) (ad 6) b.1 b.2.1 b.2.2.1 b.2.2.2.1 b.2.2.2.2.1 b.2.2.2.2.2.1 b.2.2.2.2.2.2 ++ wBd cI (ad 7) (ad 8) (ad 9) (ad 10) (ad 11) (ad 12) t.1 t.2.1 t.2.2.1 t.2.2.2.1 t.2.2.2.2.1 t.2.2.2.2.2.1 t.2.2.2.2.2.2 ++ wBd cI (ad 13) (ad 14) (ad 15) (ad 16) (ad 17) (ad 18) s.1 s.2.1 s.2.2.1 s.2.2.2.1 s.2.2.2.2.1 s.2.2.2.2.2.1 s.2.2.2.2.2.2 ++ wHi cI cR (ad 19) (ad 20) ha hn pm hb ++ wLa cI (ad 21) (ad 22) K ++ wLo cI (ad 23) (ad 24) (ad 25) (ad 26) Dp Bt Sq se ++ wTe cC (ad 27) (ad 28) Sg ln at_) [(0, .ref (ad 0)), (1, .int p1)] 0 []
  unfold f_X5_layAnew at h
  refine xi_iload_n C dX5_layAnew_0 rfl 1 rfl ?_
  refine xi_if_lt (tgt := 9) C dX5_layAnew_1 (by decide) (fun c1 => ?_) (fun c1 => ?_)
  · have h := it_i c1 h
    refine xi_bipush (v := (-2)) C dX5_layAnew_9 (by decide) ?_
    have w0 := Option.some.inj h
    obtain ⟨q0, w1⟩ := Prod.mk.inj w0
    obtain ⟨q1, w2⟩ := Prod.mk.inj w1
    obtain ⟨q2, w3⟩ := Prod.mk.inj w2
    obtain ⟨q3, w4⟩ := Prod.mk.inj w3
    obtain ⟨q4, w5⟩ := Prod.mk.inj w4
    obtain ⟨q5, w6⟩ := Prod.mk.inj w5
    subst q0
    subst q1
    subst q2
    subst q3
    subst q4
    subst q5
    subst w6
    exact xi_iret C Z dX5_layAnew_11
  · have h := ie_i c1 h
    refine xi_iload_n C dX5_layAnew_4 rfl 1 rfl ?_
    refine xi_iconst (v := 3) C dX5_layAnew_5 (by decide) ?_
    refine xi_icmp_lt (tgt := 12) C dX5_layAnew_6 (by decide) (fun c2 => ?_) (fun c2 => ?_)
    · have h := it_i c2 h
      refine xi_aload_n C dX5_layAnew_12 rfl 0 rfl ?_
      refine xi_iload_n C dX5_layAnew_13 rfl 1 rfl ?_
      obtain ⟨⟨v3, t4, K5⟩, e6, h⟩ := ob_i h
      refine xi_callV (As := [.int p1]) (o := some (.int v3)) (rest := []) (w2 := (wLB ad hs ++ wBd cI (ad 1) (ad 2) (ad 3) (ad 4) (ad 5) (ad 6) b.1 b.2.1 b.2.2.1 b.2.2.2.1 b.2.2.2.2.1 b.2.2.2.2.2.1 b.2.2.2.2.2.2 ++ wBd cI (ad 7) (ad 8) (ad 9) (ad 10) (ad 11) (ad 12) t4.1 t4.2.1 t4.2.2.1 t4.2.2.2.1 t4.2.2.2.2.1 t4.2.2.2.2.2.1 t4.2.2.2.2.2.2 ++ wBd cI (ad 13) (ad 14) (ad 15) (ad 16) (ad 17) (ad 18) s.1 s.2.1 s.2.2.1 s.2.2.2.1 s.2.2.2.2.1 s.2.2.2.2.2.1 s.2.2.2.2.2.2 ++ wHi cI cR (ad 19) (ad 20) ha hn pm hb ++ wLa cI (ad 21) (ad 22) K5 ++ wLo cI (ad 23) (ad 24) (ad 25) (ad 26) Dp Bt Sq se ++ wTe cC (ad 27) (ad 28) Sg ln at_)) (st2 := [.int v3]) C k_X5_tryOrder (m_X5_tryOrder D cI cC cZ cR ad ha hs b t s hn pm hb K Dp Bt Sq se Sg ln at_ p1 v3 t4 K5 e6) gX5_layAnew_X5_tryOrder dX5_layAnew_14 ⟨Nat.le_of_ble_eq_true rfl, Nat.le_of_ble_eq_true rfl, Nat.le_of_ble_eq_true rfl⟩ 0 rfl rfl [0, 1, 2, 3, 4, 5, 6, 7, 8, 9, 10, 11, 12, 13, 14, 15, 16, 17, 18, 19, 20, 21, 22, 23, 24, 25, 26, 27, 28, 29, 30, 31, 32, 33, 34, 35, 36, 37, 38, 39, 40, 41, 42, 43, 44, 45, 46, 47, 48, 49, 50, 51, 52] mxC_X5_0_1_2_3_4_5_6_7 rfl [0, 1, 2, 3] rfl mxF_X5_0_1_2_3_4_5_6_7 mxM_X5_0_1_2_3_4_5_6_7 rfl (Nat.le_of_ble_eq_true rfl) ⟨Nat.zero_le _, Nat.zero_le _⟩ rfl ?_
      refine xi_istore_n (lv2 := [(0, .ref (ad 0)), (1, .int p1), (2, .int v3)]) C dX5_layAnew_17 rfl (by decide) [0, 1] [1, 2, 0] rfl ?_
      refine xi_iload_n C dX5_layAnew_18 rfl 2 rfl ?_
      refine xi_if_lt (tgt := 26) C dX5_layAnew_19 (by decide) (fun c7 => ?_) (fun c7 => ?_)
      · have h := it_i c7 h
        refine xi_iload_n C dX5_layAnew_26 rfl 2 rfl ?_
        have w0 := Option.some.inj h
        obtain ⟨q0, w1⟩ := Prod.mk.inj w0
        obtain ⟨q1, w2⟩ := Prod.mk.inj w1
        obtain ⟨q2, w3⟩ := Prod.mk.inj w2
        obtain ⟨q3, w4⟩ := Prod.mk.inj w3
        obtain ⟨q4, w5⟩ := Prod.mk.inj w4
        obtain ⟨q5, w6⟩ := Prod.mk.inj w5
        subst q0
        subst q1
        subst q2
        subst q3
        subst q4
        subst q5
        subst w6
        exact xi_iret C Z dX5_layAnew_27
      · have h := ie_i c7 h
        refine xi_aload_n C dX5_layAnew_22 rfl 0 rfl ?_
        obtain ⟨⟨b8, hn9, pm10, hb11⟩, e12, h⟩ := ob_i h
        refine xi_callV (As := []) (o := none) (rest := []) (w2 := (wLB ad hs ++ wBd cI (ad 1) (ad 2) (ad 3) (ad 4) (ad 5) (ad 6) b8.1 b8.2.1 b8.2.2.1 b8.2.2.2.1 b8.2.2.2.2.1 b8.2.2.2.2.2.1 b8.2.2.2.2.2.2 ++ wBd cI (ad 7) (ad 8) (ad 9) (ad 10) (ad 11) (ad 12) t4.1 t4.2.1 t4.2.2.1 t4.2.2.2.1 t4.2.2.2.2.1 t4.2.2.2.2.2.1 t4.2.2.2.2.2.2 ++ wBd cI (ad 13) (ad 14) (ad 15) (ad 16) (ad 17) (ad 18) s.1 s.2.1 s.2.2.1 s.2.2.2.1 s.2.2.2.2.1 s.2.2.2.2.2.1 s.2.2.2.2.2.2 ++ wHi cI cR (ad 19) (ad 20) ha hn9 pm10 hb11 ++ wLa cI (ad 21) (ad 22) K5 ++ wLo cI (ad 23) (ad 24) (ad 25) (ad 26) Dp Bt Sq se ++ wTe cC (ad 27) (ad 28) Sg ln at_)) (st2 := []) C k_X5_acceptTrial (m_X5_acceptTrial D cI cC cZ cR ad ha hs b t4 s hn pm hb K5 Dp Bt Sq se Sg ln at_ b8 hn9 pm10 hb11 e12) gX5_layAnew_X5_acceptTrial dX5_layAnew_23 ⟨Nat.le_of_ble_eq_true rfl, Nat.le_of_ble_eq_true rfl, Nat.le_of_ble_eq_true rfl⟩ 0 rfl rfl [0, 1, 2, 3, 4, 5, 6, 7, 8, 9, 10, 11, 12, 13, 14, 15, 16, 17, 18, 19, 20, 21, 22, 23, 24, 25, 26, 27, 28, 29, 30, 31, 32, 33, 34, 35, 36, 37, 38, 39, 40, 41, 42, 43, 44, 45, 46, 47, 48, 49, 50, 51, 52] mxC_X5_0_1_2_3_4_5_6_7 rfl [0, 1, 2, 3] rfl mxF_X5_0_1_2_3_4_5_6_7 mxM_X5_0_1_2_3_4_5_6_7 rfl (Nat.le_of_ble_eq_true rfl) ⟨Nat.zero_le _, Nat.zero_le _⟩ rfl ?_
        refine xi_iload_n C dX5_layAnew_26 rfl 2 rfl ?_
        have w0 := Option.some.inj h
        obtain ⟨q0, w1⟩ := Prod.mk.inj w0
        obtain ⟨q1, w2⟩ := Prod.mk.inj w1
        obtain ⟨q2, w3⟩ := Prod.mk.inj w2
        obtain ⟨q3, w4⟩ := Prod.mk.inj w3
        obtain ⟨q4, w5⟩ := Prod.mk.inj w4
        obtain ⟨q5, w6⟩ := Prod.mk.inj w5
        subst q0
        subst q1
        subst q2
        subst q3
        subst q4
        subst q5
        subst w6
        exact xi_iret C Z dX5_layAnew_27
    · have h := ie_i c2 h
      refine xi_bipush (v := (-2)) C dX5_layAnew_9 (by decide) ?_
      have w0 := Option.some.inj h
      obtain ⟨q0, w1⟩ := Prod.mk.inj w0
      obtain ⟨q1, w2⟩ := Prod.mk.inj w1
      obtain ⟨q2, w3⟩ := Prod.mk.inj w2
      obtain ⟨q3, w4⟩ := Prod.mk.inj w3
      obtain ⟨q4, w5⟩ := Prod.mk.inj w4
      obtain ⟨q5, w6⟩ := Prod.mk.inj w5
      subst q0
      subst q1
      subst q2
      subst q3
      subst q4
      subst q5
      subst w6
      exact xi_iret C Z dX5_layAnew_11
def f_X5_set (b : xBd) (hn : Int32) (pm : Nat → Nat) (hb : Nat → xBd) (p1 : Int32) (p2 : Int32) : Option (Int32 × xBd × Int32 × (Nat → Nat) × (Nat → xBd)) :=
  if p1 = 0 then
    if p1 = 0 then
      if p2 < 1 then
        some ((-2), b, hn, pm, hb)
      else
        if 4 < p2 then
          some ((-2), b, hn, pm, hb)
        else
          if p1 = 0 then
            (f_X0_mostHeld b.2.2.2.2.1).bind fun v48 =>
            if v48 ≤ p2 then
              (f_X0_setting b.2.2.2.2.2.1 b.2.2.2.2.2.2 p1).bind fun v51 =>
              if v51 = p2 then
                some ((-5), b, hn, pm, hb)
              else
                (f_X1_remember hn pm hb b).bind fun (hn54, pm55, hb56) =>
                (f_X0_changeSetting b.2.2.2.2.2.1 b.2.2.2.2.2.2 p1 p2).bind fun (cp58, su59) =>
                some (v51, (b.1, b.2.1, b.2.2.1, b.2.2.2.1, b.2.2.2.2.1, cp58, su59), hn54, pm55, hb56)
            else
              some ((-4), b, hn, pm, hb)
          else
            (f_X0_setting b.2.2.2.2.2.1 b.2.2.2.2.2.2 p1).bind fun v38 =>
            if v38 = p2 then
              some ((-5), b, hn, pm, hb)
            else
              (f_X1_remember hn pm hb b).bind fun (hn41, pm42, hb43) =>
              (f_X0_changeSetting b.2.2.2.2.2.1 b.2.2.2.2.2.2 p1 p2).bind fun (cp45, su46) =>
              some (v38, (b.1, b.2.1, b.2.2.1, b.2.2.2.1, b.2.2.2.2.1, cp45, su46), hn41, pm42, hb43)
    else
      if p2 < 0 then
        some ((-2), b, hn, pm, hb)
      else
        if 9 < p2 then
          some ((-2), b, hn, pm, hb)
        else
          if p1 = 0 then
            (f_X0_mostHeld b.2.2.2.2.1).bind fun v19 =>
            if v19 ≤ p2 then
              (f_X0_setting b.2.2.2.2.2.1 b.2.2.2.2.2.2 p1).bind fun v22 =>
              if v22 = p2 then
                some ((-5), b, hn, pm, hb)
              else
                (f_X1_remember hn pm hb b).bind fun (hn25, pm26, hb27) =>
                (f_X0_changeSetting b.2.2.2.2.2.1 b.2.2.2.2.2.2 p1 p2).bind fun (cp29, su30) =>
                some (v22, (b.1, b.2.1, b.2.2.1, b.2.2.2.1, b.2.2.2.2.1, cp29, su30), hn25, pm26, hb27)
            else
              some ((-4), b, hn, pm, hb)
          else
            (f_X0_setting b.2.2.2.2.2.1 b.2.2.2.2.2.2 p1).bind fun v9 =>
            if v9 = p2 then
              some ((-5), b, hn, pm, hb)
            else
              (f_X1_remember hn pm hb b).bind fun (hn12, pm13, hb14) =>
              (f_X0_changeSetting b.2.2.2.2.2.1 b.2.2.2.2.2.2 p1 p2).bind fun (cp16, su17) =>
              some (v9, (b.1, b.2.1, b.2.2.1, b.2.2.2.1, b.2.2.2.2.1, cp16, su17), hn12, pm13, hb14)
  else
    if p1 = 1 then
      if p1 = 0 then
        if p2 < 1 then
          some ((-2), b, hn, pm, hb)
        else
          if 4 < p2 then
            some ((-2), b, hn, pm, hb)
          else
            if p1 = 0 then
              (f_X0_mostHeld b.2.2.2.2.1).bind fun v108 =>
              if v108 ≤ p2 then
                (f_X0_setting b.2.2.2.2.2.1 b.2.2.2.2.2.2 p1).bind fun v111 =>
                if v111 = p2 then
                  some ((-5), b, hn, pm, hb)
                else
                  (f_X1_remember hn pm hb b).bind fun (hn114, pm115, hb116) =>
                  (f_X0_changeSetting b.2.2.2.2.2.1 b.2.2.2.2.2.2 p1 p2).bind fun (cp118, su119) =>
                  some (v111, (b.1, b.2.1, b.2.2.1, b.2.2.2.1, b.2.2.2.2.1, cp118, su119), hn114, pm115, hb116)
              else
                some ((-4), b, hn, pm, hb)
            else
              (f_X0_setting b.2.2.2.2.2.1 b.2.2.2.2.2.2 p1).bind fun v98 =>
              if v98 = p2 then
                some ((-5), b, hn, pm, hb)
              else
                (f_X1_remember hn pm hb b).bind fun (hn101, pm102, hb103) =>
                (f_X0_changeSetting b.2.2.2.2.2.1 b.2.2.2.2.2.2 p1 p2).bind fun (cp105, su106) =>
                some (v98, (b.1, b.2.1, b.2.2.1, b.2.2.2.1, b.2.2.2.2.1, cp105, su106), hn101, pm102, hb103)
      else
        if p2 < 0 then
          some ((-2), b, hn, pm, hb)
        else
          if 9 < p2 then
            some ((-2), b, hn, pm, hb)
          else
            if p1 = 0 then
              (f_X0_mostHeld b.2.2.2.2.1).bind fun v79 =>
              if v79 ≤ p2 then
                (f_X0_setting b.2.2.2.2.2.1 b.2.2.2.2.2.2 p1).bind fun v82 =>
                if v82 = p2 then
                  some ((-5), b, hn, pm, hb)
                else
                  (f_X1_remember hn pm hb b).bind fun (hn85, pm86, hb87) =>
                  (f_X0_changeSetting b.2.2.2.2.2.1 b.2.2.2.2.2.2 p1 p2).bind fun (cp89, su90) =>
                  some (v82, (b.1, b.2.1, b.2.2.1, b.2.2.2.1, b.2.2.2.2.1, cp89, su90), hn85, pm86, hb87)
              else
                some ((-4), b, hn, pm, hb)
            else
              (f_X0_setting b.2.2.2.2.2.1 b.2.2.2.2.2.2 p1).bind fun v69 =>
              if v69 = p2 then
                some ((-5), b, hn, pm, hb)
              else
                (f_X1_remember hn pm hb b).bind fun (hn72, pm73, hb74) =>
                (f_X0_changeSetting b.2.2.2.2.2.1 b.2.2.2.2.2.2 p1 p2).bind fun (cp76, su77) =>
                some (v69, (b.1, b.2.1, b.2.2.1, b.2.2.2.1, b.2.2.2.2.1, cp76, su77), hn72, pm73, hb74)
    else
      some ((-1), b, hn, pm, hb)
theorem k_X5_set : xb_Y yX5_set cX5_set wsX5_set 5 (some .int) { frames := 3, cells := 0, slots := 0, locals := 83 } 2 := ⟨⟨_, rfl⟩, by decide, ⟨by decide, by decide, by decide +kernel⟩, rfl, rfl⟩
theorem fl_X5_set_10 : Cond.fieldLink RX5 10 "LookupBoard" "board" "LLookupBoard$Board;" ∈ wsX5_set := List.mem_of_getElem? (i := 1) rfl
theorem fl_X5_set_25 : Cond.fieldLink RX5 25 "LookupBoard" "history" "LLookupBoard$History;" ∈ wsX5_set := List.mem_of_getElem? (i := 2) rfl
theorem iw_X5_set_5 : ∀ w ∈ wsX50, w ∈ wsX5_set := fun w h => List.mem_cons_of_mem _ (List.mem_append_left _ (List.mem_append_left _ (List.mem_append_right _ h)))
set_option maxHeartbeats 4000000 in
set_option maxRecDepth 100000 in
theorem m_X5_set (D : va_G) (cI cC cZ cR : ClassId) (ad : Nat → Nat) (ha : Nat → Nat → Nat) (hs : Int32) (b : xBd) (t : xBd) (s : xBd) (hn : Int32) (pm : Nat → Nat) (hb : Nat → xBd) (K : Nat → Int32) (Dp : Nat → Int32) (Bt : Nat → Int32) (Sq : Nat → Int32) (se : Int32) (Sg : Nat → Int32) (ln : Int32) (at_ : Int32) (p1 : Int32) (p2 : Int32) (r : Int32) (b' : xBd) (hn' : Int32) (pm' : Nat → Nat) (hb' : Nat → xBd) (h : f_X5_set b hn pm hb p1 p2 = some (r, b', hn', pm', hb')) : xb_M cX5_set wsX5_set RX5 { frames := 3, cells := 0, slots := 0, locals := 83 } (some .int) 5 (xb_ty cI cC cZ cR) D [.ref (ad 0), .int p1, .int p2] (wLB ad hs ++ wBd cI (ad 1) (ad 2) (ad 3) (ad 4) (ad 5) (ad 6) b.1 b.2.1 b.2.2.1 b.2.2.2.1 b.2.2.2.2.1 b.2.2.2.2.2.1 b.2.2.2.2.2.2 ++ wBd cI (ad 7) (ad 8) (ad 9) (ad 10) (ad 11) (ad 12) t.1 t.2.1 t.2.2.1 t.2.2.2.1 t.2.2.2.2.1 t.2.2.2.2.2.1 t.2.2.2.2.2.2 ++ wBd cI (ad 13) (ad 14) (ad 15) (ad 16) (ad 17) (ad 18) s.1 s.2.1 s.2.2.1 s.2.2.2.1 s.2.2.2.2.1 s.2.2.2.2.2.1 s.2.2.2.2.2.2 ++ wHi cI cR (ad 19) (ad 20) ha hn pm hb ++ wLa cI (ad 21) (ad 22) K ++ wLo cI (ad 23) (ad 24) (ad 25) (ad 26) Dp Bt Sq se ++ wTe cC (ad 27) (ad 28) Sg ln at_) (some (.int r)) (wLB ad hs ++ wBd cI (ad 1) (ad 2) (ad 3) (ad 4) (ad 5) (ad 6) b'.1 b'.2.1 b'.2.2.1 b'.2.2.2.1 b'.2.2.2.2.1 b'.2.2.2.2.2.1 b'.2.2.2.2.2.2 ++ wBd cI (ad 7) (ad 8) (ad 9) (ad 10) (ad 11) (ad 12) t.1 t.2.1 t.2.2.1 t.2.2.2.1 t.2.2.2.2.1 t.2.2.2.2.2.1 t.2.2.2.2.2.2 ++ wBd cI (ad 13) (ad 14) (ad 15) (ad 16) (ad 17) (ad 18) s.1 s.2.1 s.2.2.1 s.2.2.2.1 s.2.2.2.2.1 s.2.2.2.2.2.1 s.2.2.2.2.2.2 ++ wHi cI cR (ad 19) (ad 20) ha hn' pm' hb' ++ wLa cI (ad 21) (ad 22) K ++ wLo cI (ad 23) (ad 24) (ad 25) (ad 26) Dp Bt Sq se ++ wTe cC (ad 27) (ad 28) Sg ln at_) := by
  intro X C Z
  show xb_G X 0 0 (wLB ad hs ++ wBd cI (ad 1) (ad 2) (ad 3) (ad 4) (ad 5) (ad 6) b.1 b.2.1 b.2.2.1 b.2.2.2.1 b.2.2.2.2.1 b.2.2.2.2.2.1 b.2.2.2.2.2.2 ++ wBd cI (ad 7) (ad 8) (ad 9) (ad 10) (ad 11) (ad 12) t.1 t.2.1 t.2.2.1 t.2.2.2.1 t.2.2.2.2.1 t.2.2.2.2.2.1 t.2.2.2.2.2.2 ++ wBd cI (ad 13) (ad 14) (ad 15) (ad 16) (ad 17) (ad 18) s.1 s.2.1 s.2.2.1 s.2.2.2.1 s.2.2.2.2.1 s.2.2.2.2.2.1 s.2.2.2.2.2.2 ++ wHi cI cR (ad 19) (ad 20) ha hn pm hb ++ wLa cI (ad 21) (ad 22) K ++ wLo cI (ad 23) (ad 24) (ad 25) (ad 26) Dp Bt Sq se ++ wTe cC (ad 27) (ad 28) Sg ln at_) [(0, .ref (ad 0)), (1, .int p1), (2, .int p2)] 0 []
  unfold f_X5_set at h
  refine xi_iload_n C dX5_set_0 rfl 1 rfl ?_
  refine xi_if_eq (tgt := 11) C dX5_set_1 (by decide) (fun c1 => ?_) (fun c1 => ?_)
  · have h := it_i c1 h
    refine xi_iload_n C dX5_set_11 rfl 1 rfl ?_
    refine xi_if_ne (tgt := 33) C dX5_set_12 (by decide) (fun c2 => ?_) (fun c2 => ?_)
    · have h := ie_i c2 h
      refine xi_iload_n C dX5_set_33 rfl 2 rfl ?_
      refine xi_if_lt (tgt := 47) C dX5_set_34 (by decide) (fun c3 => ?_) (fun c3 => ?_)
      · have h := it_i c3 h
        refine xi_iconst (v := 0) C dX5_set_47 (by decide) ?_
        refine xi_istore_n (lv2 := [(0, .ref (ad 0)), (1, .int p1), (2, .int p2), (3, .int 0)]) C dX5_set_48 rfl (by decide) [0, 1, 2] [1, 2, 3, 0] rfl ?_
        refine xi_iload_n C dX5_set_49 rfl 3 rfl ?_
        refine xi_if_ne (tgt := 56) C dX5_set_50 (by decide) (fun c4 => ?_) (fun c4 => ?_)
        · first | exact absurd c4 (by decide) | exact absurd (by decide) c4
        refine xi_bipush (v := (-2)) C dX5_set_53 (by decide) ?_
        have w0 := Option.some.inj h
        obtain ⟨q0, w1⟩ := Prod.mk.inj w0
        obtain ⟨q1, w2⟩ := Prod.mk.inj w1
        obtain ⟨q2, w3⟩ := Prod.mk.inj w2
        obtain ⟨q3, w4⟩ := Prod.mk.inj w3
        subst q0
        subst q1
        subst q2
        subst q3
        subst w4
        exact xi_iret C Z dX5_set_55
      · have h := ie_i c3 h
        refine xi_iload_n C dX5_set_37 rfl 2 rfl ?_
        refine xi_bipush (v := 9) C dX5_set_38 (by decide) ?_
        refine xi_icmp_gt (tgt := 47) C dX5_set_40 (by decide) (fun c5 => ?_) (fun c5 => ?_)
        · have h := it_i c5 h
          refine xi_iconst (v := 0) C dX5_set_47 (by decide) ?_
          refine xi_istore_n (lv2 := [(0, .ref (ad 0)), (1, .int p1), (2, .int p2), (3, .int 0)]) C dX5_set_48 rfl (by decide) [0, 1, 2] [1, 2, 3, 0] rfl ?_
          refine xi_iload_n C dX5_set_49 rfl 3 rfl ?_
          refine xi_if_ne (tgt := 56) C dX5_set_50 (by decide) (fun c6 => ?_) (fun c6 => ?_)
          · first | exact absurd c6 (by decide) | exact absurd (by decide) c6
          refine xi_bipush (v := (-2)) C dX5_set_53 (by decide) ?_
          have w0 := Option.some.inj h
          obtain ⟨q0, w1⟩ := Prod.mk.inj w0
          obtain ⟨q1, w2⟩ := Prod.mk.inj w1
          obtain ⟨q2, w3⟩ := Prod.mk.inj w2
          obtain ⟨q3, w4⟩ := Prod.mk.inj w3
          subst q0
          subst q1
          subst q2
          subst q3
          subst w4
          exact xi_iret C Z dX5_set_55
        · have h := ie_i c5 h
          refine xi_iconst (v := 1) C dX5_set_43 (by decide) ?_
          refine xi_goto (tgt := 48) C dX5_set_44 (by decide) ?_
          refine xi_istore_n (lv2 := [(0, .ref (ad 0)), (1, .int p1), (2, .int p2), (3, .int 1)]) C dX5_set_48 rfl (by decide) [0, 1, 2] [1, 2, 3, 0] rfl ?_
          refine xi_iload_n C dX5_set_49 rfl 3 rfl ?_
          refine xi_if_ne (tgt := 56) C dX5_set_50 (by decide) (fun c7 => ?_) (fun c7 => ?_)
          rotate_left
          · first | exact absurd c7 (by decide) | exact absurd (by decide) c7
          refine xi_iload_n C dX5_set_56 rfl 1 rfl ?_
          refine xi_if_ne (tgt := 74) C dX5_set_57 (by decide) (fun c8 => ?_) (fun c8 => ?_)
          · have h := ie_i c8 h
            refine xi_aload_n C dX5_set_74 rfl 0 rfl ?_
            refine xi_get C dX5_set_75 iw_X5_set_5 0 rfl rfl 0 (by decide) fl_X5_set_10 rfl ?_
            refine xi_iload_n C dX5_set_78 rfl 1 rfl ?_
            obtain ⟨v9, e10, h⟩ := ob_i h
            refine xi_callV (As := [.int p1]) (o := some (.int v9)) (rest := []) (w2 := (wLB ad hs ++ wBd cI (ad 1) (ad 2) (ad 3) (ad 4) (ad 5) (ad 6) b.1 b.2.1 b.2.2.1 b.2.2.2.1 b.2.2.2.2.1 b.2.2.2.2.2.1 b.2.2.2.2.2.2 ++ wBd cI (ad 7) (ad 8) (ad 9) (ad 10) (ad 11) (ad 12) t.1 t.2.1 t.2.2.1 t.2.2.2.1 t.2.2.2.2.1 t.2.2.2.2.2.1 t.2.2.2.2.2.2 ++ wBd cI (ad 13) (ad 14) (ad 15) (ad 16) (ad 17) (ad 18) s.1 s.2.1 s.2.2.1 s.2.2.2.1 s.2.2.2.2.1 s.2.2.2.2.2.1 s.2.2.2.2.2.2 ++ wHi cI cR (ad 19) (ad 20) ha hn pm hb ++ wLa cI (ad 21) (ad 22) K ++ wLo cI (ad 23) (ad 24) (ad 25) (ad 26) Dp Bt Sq se ++ wTe cC (ad 27) (ad 28) Sg ln at_)) (st2 := [.int v9]) C k_X0_setting (m_X0_setting D cI cC cZ cR (ad 1) (ad 2) (ad 3) (ad 4) (ad 5) (ad 6) b.1 b.2.1 b.2.2.1 b.2.2.2.1 b.2.2.2.2.1 b.2.2.2.2.2.1 b.2.2.2.2.2.2 p1 v9 e10) gX5_set_X0_setting dX5_set_79 ⟨Nat.le_of_ble_eq_true rfl, Nat.le_of_ble_eq_true rfl, Nat.le_of_ble_eq_true rfl⟩ 1 rfl rfl [1, 2, 3, 4, 5, 6] mxC_X5_1 rfl [0, 1, 2, 3] rfl mxF_X5_1 mxM_X5_1 rfl (Nat.le_of_ble_eq_true rfl) ⟨Nat.zero_le _, Nat.zero_le _⟩ rfl ?_
            refine xi_istore (lv2 := [(0, .ref (ad 0)), (1, .int p1), (2, .int p2), (3, .int 1), (4, .int v9)]) C dX5_set_82 (by decide) [0, 1, 2, 3] [1, 2, 3, 4, 0] rfl ?_
            refine xi_iload C dX5_set_84 4 rfl ?_
            refine xi_iload_n C dX5_set_86 rfl 2 rfl ?_
            refine xi_icmp_ne (tgt := 93) C dX5_set_87 (by decide) (fun c11 => ?_) (fun c11 => ?_)
            · have h := ie_i c11 h
              refine xi_aload_n C dX5_set_93 rfl 0 rfl ?_
              refine xi_get C dX5_set_94 iw_X5_set_5 0 rfl rfl 3 (by decide) fl_X5_set_25 rfl ?_
              refine xi_aload_n C dX5_set_97 rfl 0 rfl ?_
              refine xi_get C dX5_set_98 iw_X5_set_5 0 rfl rfl 0 (by decide) fl_X5_set_10 rfl ?_
              obtain ⟨⟨hn12, pm13, hb14⟩, e15, h⟩ := ob_i h
              refine xi_callV (As := [.ref (ad 1)]) (o := none) (rest := []) (w2 := (wLB ad hs ++ wBd cI (ad 1) (ad 2) (ad 3) (ad 4) (ad 5) (ad 6) b.1 b.2.1 b.2.2.1 b.2.2.2.1 b.2.2.2.2.1 b.2.2.2.2.2.1 b.2.2.2.2.2.2 ++ wBd cI (ad 7) (ad 8) (ad 9) (ad 10) (ad 11) (ad 12) t.1 t.2.1 t.2.2.1 t.2.2.2.1 t.2.2.2.2.1 t.2.2.2.2.2.1 t.2.2.2.2.2.2 ++ wBd cI (ad 13) (ad 14) (ad 15) (ad 16) (ad 17) (ad 18) s.1 s.2.1 s.2.2.1 s.2.2.2.1 s.2.2.2.2.1 s.2.2.2.2.2.1 s.2.2.2.2.2.2 ++ wHi cI cR (ad 19) (ad 20) ha hn12 pm13 hb14 ++ wLa cI (ad 21) (ad 22) K ++ wLo cI (ad 23) (ad 24) (ad 25) (ad 26) Dp Bt Sq se ++ wTe cC (ad 27) (ad 28) Sg ln at_)) (st2 := []) C k_X1_remember (m_X1_remember D cI cC cZ cR (ad 19) (ad 20) ha (ad 1) (ad 2) (ad 3) (ad 4) (ad 5) (ad 6) hn pm hb b hn12 pm13 hb14 e15) gX5_set_X1_remember dX5_set_101 ⟨Nat.le_of_ble_eq_true rfl, Nat.le_of_ble_eq_true rfl, Nat.le_of_ble_eq_true rfl⟩ 19 rfl rfl [19, 20, 21, 22, 23, 24, 25, 26, 27, 28, 29, 30, 31, 32, 33, 34, 35, 36, 37, 38, 39, 40, 41, 42, 43, 44, 1, 2, 3, 4, 5, 6] mxC_X5_4_1 rfl [0, 1, 2, 3] rfl mxF_X5_4_1 mxM_X5_4_1 rfl (Nat.le_of_ble_eq_true rfl) ⟨Nat.zero_le _, Nat.zero_le _⟩ rfl ?_
              refine xi_aload_n C dX5_set_104 rfl 0 rfl ?_
              refine xi_get C dX5_set_105 iw_X5_set_5 0 rfl rfl 0 (by decide) fl_X5_set_10 rfl ?_
              refine xi_iload_n C dX5_set_108 rfl 1 rfl ?_
              refine xi_iload_n C dX5_set_109 rfl 2 rfl ?_
              obtain ⟨⟨cp16, su17⟩, e18, h⟩ := ob_i h
              refine xi_callV (As := [.int p1, .int p2]) (o := none) (rest := []) (w2 := (wLB ad hs ++ wBd cI (ad 1) (ad 2) (ad 3) (ad 4) (ad 5) (ad 6) b.1 b.2.1 b.2.2.1 b.2.2.2.1 b.2.2.2.2.1 cp16 su17 ++ wBd cI (ad 7) (ad 8) (ad 9) (ad 10) (ad 11) (ad 12) t.1 t.2.1 t.2.2.1 t.2.2.2.1 t.2.2.2.2.1 t.2.2.2.2.2.1 t.2.2.2.2.2.2 ++ wBd cI (ad 13) (ad 14) (ad 15) (ad 16) (ad 17) (ad 18) s.1 s.2.1 s.2.2.1 s.2.2.2.1 s.2.2.2.2.1 s.2.2.2.2.2.1 s.2.2.2.2.2.2 ++ wHi cI cR (ad 19) (ad 20) ha hn12 pm13 hb14 ++ wLa cI (ad 21) (ad 22) K ++ wLo cI (ad 23) (ad 24) (ad 25) (ad 26) Dp Bt Sq se ++ wTe cC (ad 27) (ad 28) Sg ln at_)) (st2 := []) C k_X0_changeSetting (m_X0_changeSetting D cI cC cZ cR (ad 1) (ad 2) (ad 3) (ad 4) (ad 5) (ad 6) b.1 b.2.1 b.2.2.1 b.2.2.2.1 b.2.2.2.2.1 b.2.2.2.2.2.1 b.2.2.2.2.2.2 p1 p2 cp16 su17 e18) gX5_set_X0_changeSetting dX5_set_110 ⟨Nat.le_of_ble_eq_true rfl, Nat.le_of_ble_eq_true rfl, Nat.le_of_ble_eq_true rfl⟩ 1 rfl rfl [1, 2, 3, 4, 5, 6] mxC_X5_1 rfl [0, 1, 2, 3] rfl mxF_X5_1 mxM_X5_1 rfl (Nat.le_of_ble_eq_true rfl) ⟨Nat.zero_le _, Nat.zero_le _⟩ rfl ?_
              refine xi_iload C dX5_set_113 4 rfl ?_
              have w0 := Option.some.inj h
              obtain ⟨q0, w1⟩ := Prod.mk.inj w0
              obtain ⟨q1, w2⟩ := Prod.mk.inj w1
              obtain ⟨q2, w3⟩ := Prod.mk.inj w2
              obtain ⟨q3, w4⟩ := Prod.mk.inj w3
              subst q0
              subst q1
              subst q2
              subst q3
              subst w4
              exact xi_iret C Z dX5_set_115
            · have h := it_i c11 h
              refine xi_bipush (v := (-5)) C dX5_set_90 (by decide) ?_
              have w0 := Option.some.inj h
              obtain ⟨q0, w1⟩ := Prod.mk.inj w0
              obtain ⟨q1, w2⟩ := Prod.mk.inj w1
              obtain ⟨q2, w3⟩ := Prod.mk.inj w2
              obtain ⟨q3, w4⟩ := Prod.mk.inj w3
              subst q0
              subst q1
              subst q2
              subst q3
              subst w4
              exact xi_iret C Z dX5_set_92
          · have h := it_i c8 h
            refine xi_aload_n C dX5_set_60 rfl 0 rfl ?_
            refine xi_get C dX5_set_61 iw_X5_set_5 0 rfl rfl 0 (by decide) fl_X5_set_10 rfl ?_
            obtain ⟨v19, e20, h⟩ := ob_i h
            refine xi_callV (As := []) (o := some (.int v19)) (rest := []) (w2 := (wLB ad hs ++ wBd cI (ad 1) (ad 2) (ad 3) (ad 4) (ad 5) (ad 6) b.1 b.2.1 b.2.2.1 b.2.2.2.1 b.2.2.2.2.1 b.2.2.2.2.2.1 b.2.2.2.2.2.2 ++ wBd cI (ad 7) (ad 8) (ad 9) (ad 10) (ad 11) (ad 12) t.1 t.2.1 t.2.2.1 t.2.2.2.1 t.2.2.2.2.1 t.2.2.2.2.2.1 t.2.2.2.2.2.2 ++ wBd cI (ad 13) (ad 14) (ad 15) (ad 16) (ad 17) (ad 18) s.1 s.2.1 s.2.2.1 s.2.2.2.1 s.2.2.2.2.1 s.2.2.2.2.2.1 s.2.2.2.2.2.2 ++ wHi cI cR (ad 19) (ad 20) ha hn pm hb ++ wLa cI (ad 21) (ad 22) K ++ wLo cI (ad 23) (ad 24) (ad 25) (ad 26) Dp Bt Sq se ++ wTe cC (ad 27) (ad 28) Sg ln at_)) (st2 := [.int v19]) C k_X0_mostHeld (m_X0_mostHeld D cI cC cZ cR (ad 1) (ad 2) (ad 3) (ad 4) (ad 5) (ad 6) b.1 b.2.1 b.2.2.1 b.2.2.2.1 b.2.2.2.2.1 b.2.2.2.2.2.1 b.2.2.2.2.2.2 v19 e20) gX5_set_X0_mostHeld dX5_set_64 ⟨Nat.le_of_ble_eq_true rfl, Nat.le_of_ble_eq_true rfl, Nat.le_of_ble_eq_true rfl⟩ 1 rfl rfl [1, 2, 3, 4, 5, 6] mxC_X5_1 rfl [0, 1, 2, 3] rfl mxF_X5_1 mxM_X5_1 rfl (Nat.le_of_ble_eq_true rfl) ⟨Nat.zero_le _, Nat.zero_le _⟩ rfl ?_
            refine xi_iload_n C dX5_set_67 rfl 2 rfl ?_
            refine xi_icmp_le (tgt := 74) C dX5_set_68 (by decide) (fun c21 => ?_) (fun c21 => ?_)
            · have h := it_i c21 h
              refine xi_aload_n C dX5_set_74 rfl 0 rfl ?_
              refine xi_get C dX5_set_75 iw_X5_set_5 0 rfl rfl 0 (by decide) fl_X5_set_10 rfl ?_
              refine xi_iload_n C dX5_set_78 rfl 1 rfl ?_
              obtain ⟨v22, e23, h⟩ := ob_i h
              refine xi_callV (As := [.int p1]) (o := some (.int v22)) (rest := []) (w2 := (wLB ad hs ++ wBd cI (ad 1) (ad 2) (ad 3) (ad 4) (ad 5) (ad 6) b.1 b.2.1 b.2.2.1 b.2.2.2.1 b.2.2.2.2.1 b.2.2.2.2.2.1 b.2.2.2.2.2.2 ++ wBd cI (ad 7) (ad 8) (ad 9) (ad 10) (ad 11) (ad 12) t.1 t.2.1 t.2.2.1 t.2.2.2.1 t.2.2.2.2.1 t.2.2.2.2.2.1 t.2.2.2.2.2.2 ++ wBd cI (ad 13) (ad 14) (ad 15) (ad 16) (ad 17) (ad 18) s.1 s.2.1 s.2.2.1 s.2.2.2.1 s.2.2.2.2.1 s.2.2.2.2.2.1 s.2.2.2.2.2.2 ++ wHi cI cR (ad 19) (ad 20) ha hn pm hb ++ wLa cI (ad 21) (ad 22) K ++ wLo cI (ad 23) (ad 24) (ad 25) (ad 26) Dp Bt Sq se ++ wTe cC (ad 27) (ad 28) Sg ln at_)) (st2 := [.int v22]) C k_X0_setting (m_X0_setting D cI cC cZ cR (ad 1) (ad 2) (ad 3) (ad 4) (ad 5) (ad 6) b.1 b.2.1 b.2.2.1 b.2.2.2.1 b.2.2.2.2.1 b.2.2.2.2.2.1 b.2.2.2.2.2.2 p1 v22 e23) gX5_set_X0_setting dX5_set_79 ⟨Nat.le_of_ble_eq_true rfl, Nat.le_of_ble_eq_true rfl, Nat.le_of_ble_eq_true rfl⟩ 1 rfl rfl [1, 2, 3, 4, 5, 6] mxC_X5_1 rfl [0, 1, 2, 3] rfl mxF_X5_1 mxM_X5_1 rfl (Nat.le_of_ble_eq_true rfl) ⟨Nat.zero_le _, Nat.zero_le _⟩ rfl ?_
              refine xi_istore (lv2 := [(0, .ref (ad 0)), (1, .int p1), (2, .int p2), (3, .int 1), (4, .int v22)]) C dX5_set_82 (by decide) [0, 1, 2, 3] [1, 2, 3, 4, 0] rfl ?_
              refine xi_iload C dX5_set_84 4 rfl ?_
              refine xi_iload_n C dX5_set_86 rfl 2 rfl ?_
              refine xi_icmp_ne (tgt := 93) C dX5_set_87 (by decide) (fun c24 => ?_) (fun c24 => ?_)
              · have h := ie_i c24 h
                refine xi_aload_n C dX5_set_93 rfl 0 rfl ?_
                refine xi_get C dX5_set_94 iw_X5_set_5 0 rfl rfl 3 (by decide) fl_X5_set_25 rfl ?_
                refine xi_aload_n C dX5_set_97 rfl 0 rfl ?_
                refine xi_get C dX5_set_98 iw_X5_set_5 0 rfl rfl 0 (by decide) fl_X5_set_10 rfl ?_
                obtain ⟨⟨hn25, pm26, hb27⟩, e28, h⟩ := ob_i h
                refine xi_callV (As := [.ref (ad 1)]) (o := none) (rest := []) (w2 := (wLB ad hs ++ wBd cI (ad 1) (ad 2) (ad 3) (ad 4) (ad 5) (ad 6) b.1 b.2.1 b.2.2.1 b.2.2.2.1 b.2.2.2.2.1 b.2.2.2.2.2.1 b.2.2.2.2.2.2 ++ wBd cI (ad 7) (ad 8) (ad 9) (ad 10) (ad 11) (ad 12) t.1 t.2.1 t.2.2.1 t.2.2.2.1 t.2.2.2.2.1 t.2.2.2.2.2.1 t.2.2.2.2.2.2 ++ wBd cI (ad 13) (ad 14) (ad 15) (ad 16) (ad 17) (ad 18) s.1 s.2.1 s.2.2.1 s.2.2.2.1 s.2.2.2.2.1 s.2.2.2.2.2.1 s.2.2.2.2.2.2 ++ wHi cI cR (ad 19) (ad 20) ha hn25 pm26 hb27 ++ wLa cI (ad 21) (ad 22) K ++ wLo cI (ad 23) (ad 24) (ad 25) (ad 26) Dp Bt Sq se ++ wTe cC (ad 27) (ad 28) Sg ln at_)) (st2 := []) C k_X1_remember (m_X1_remember D cI cC cZ cR (ad 19) (ad 20) ha (ad 1) (ad 2) (ad 3) (ad 4) (ad 5) (ad 6) hn pm hb b hn25 pm26 hb27 e28) gX5_set_X1_remember dX5_set_101 ⟨Nat.le_of_ble_eq_true rfl, Nat.le_of_ble_eq_true rfl, Nat.le_of_ble_eq_true rfl⟩ 19 rfl rfl [19, 20, 21, 22, 23, 24, 25, 26, 27, 28, 29, 30, 31, 32, 33, 34, 35, 36, 37, 38, 39, 40, 41, 42, 43, 44, 1, 2, 3, 4, 5, 6] mxC_X5_4_1 rfl [0, 1, 2, 3] rfl mxF_X5_4_1 mxM_X5_4_1 rfl (Nat.le_of_ble_eq_true rfl) ⟨Nat.zero_le _, Nat.zero_le _⟩ rfl ?_
                refine xi_aload_n C dX5_set_104 rfl 0 rfl ?_
                refine xi_get C dX5_set_105 iw_X5_set_5 0 rfl rfl 0 (by decide) fl_X5_set_10 rfl ?_
                refine xi_iload_n C dX5_set_108 rfl 1 rfl ?_
                refine xi_iload_n C dX5_set_109 rfl 2 rfl ?_
                obtain ⟨⟨cp29, su30⟩, e31, h⟩ := ob_i h
                refine xi_callV (As := [.int p1, .int p2]) (o := none) (rest := []) (w2 := (wLB ad hs ++ wBd cI (ad 1) (ad 2) (ad 3) (ad 4) (ad 5) (ad 6) b.1 b.2.1 b.2.2.1 b.2.2.2.1 b.2.2.2.2.1 cp29 su30 ++ wBd cI (ad 7) (ad 8) (ad 9) (ad 10) (ad 11) (ad 12) t.1 t.2.1 t.2.2.1 t.2.2.2.1 t.2.2.2.2.1 t.2.2.2.2.2.1 t.2.2.2.2.2.2 ++ wBd cI (ad 13) (ad 14) (ad 15) (ad 16) (ad 17) (ad 18) s.1 s.2.1 s.2.2.1 s.2.2.2.1 s.2.2.2.2.1 s.2.2.2.2.2.1 s.2.2.2.2.2.2 ++ wHi cI cR (ad 19) (ad 20) ha hn25 pm26 hb27 ++ wLa cI (ad 21) (ad 22) K ++ wLo cI (ad 23) (ad 24) (ad 25) (ad 26) Dp Bt Sq se ++ wTe cC (ad 27) (ad 28) Sg ln at_)) (st2 := []) C k_X0_changeSetting (m_X0_changeSetting D cI cC cZ cR (ad 1) (ad 2) (ad 3) (ad 4) (ad 5) (ad 6) b.1 b.2.1 b.2.2.1 b.2.2.2.1 b.2.2.2.2.1 b.2.2.2.2.2.1 b.2.2.2.2.2.2 p1 p2 cp29 su30 e31) gX5_set_X0_changeSetting dX5_set_110 ⟨Nat.le_of_ble_eq_true rfl, Nat.le_of_ble_eq_true rfl, Nat.le_of_ble_eq_true rfl⟩ 1 rfl rfl [1, 2, 3, 4, 5, 6] mxC_X5_1 rfl [0, 1, 2, 3] rfl mxF_X5_1 mxM_X5_1 rfl (Nat.le_of_ble_eq_true rfl) ⟨Nat.zero_le _, Nat.zero_le _⟩ rfl ?_
                refine xi_iload C dX5_set_113 4 rfl ?_
                have w0 := Option.some.inj h
                obtain ⟨q0, w1⟩ := Prod.mk.inj w0
                obtain ⟨q1, w2⟩ := Prod.mk.inj w1
                obtain ⟨q2, w3⟩ := Prod.mk.inj w2
                obtain ⟨q3, w4⟩ := Prod.mk.inj w3
                subst q0
                subst q1
                subst q2
                subst q3
                subst w4
                exact xi_iret C Z dX5_set_115
              · have h := it_i c24 h
                refine xi_bipush (v := (-5)) C dX5_set_90 (by decide) ?_
                have w0 := Option.some.inj h
                obtain ⟨q0, w1⟩ := Prod.mk.inj w0
                obtain ⟨q1, w2⟩ := Prod.mk.inj w1
                obtain ⟨q2, w3⟩ := Prod.mk.inj w2
                obtain ⟨q3, w4⟩ := Prod.mk.inj w3
                subst q0
                subst q1
                subst q2
                subst q3
                subst w4
                exact xi_iret C Z dX5_set_92
            · have h := ie_i c21 h
              refine xi_bipush (v := (-4)) C dX5_set_71 (by decide) ?_
              have w0 := Option.some.inj h
              obtain ⟨q0, w1⟩ := Prod.mk.inj w0
              obtain ⟨q1, w2⟩ := Prod.mk.inj w1
              obtain ⟨q2, w3⟩ := Prod.mk.inj w2
              obtain ⟨q3, w4⟩ := Prod.mk.inj w3
              subst q0
              subst q1
              subst q2
              subst q3
              subst w4
              exact xi_iret C Z dX5_set_73
    · have h := it_i c2 h
      refine xi_iload_n C dX5_set_15 rfl 2 rfl ?_
      refine xi_iconst (v := 1) C dX5_set_16 (by decide) ?_
      refine xi_icmp_lt (tgt := 29) C dX5_set_17 (by decide) (fun c32 => ?_) (fun c32 => ?_)
      · have h := it_i c32 h
        refine xi_iconst (v := 0) C dX5_set_29 (by decide) ?_
        refine xi_goto (tgt := 48) C dX5_set_30 (by decide) ?_
        refine xi_istore_n (lv2 := [(0, .ref (ad 0)), (1, .int p1), (2, .int p2), (3, .int 0)]) C dX5_set_48 rfl (by decide) [0, 1, 2] [1, 2, 3, 0] rfl ?_
        refine xi_iload_n C dX5_set_49 rfl 3 rfl ?_
        refine xi_if_ne (tgt := 56) C dX5_set_50 (by decide) (fun c33 => ?_) (fun c33 => ?_)
        · first | exact absurd c33 (by decide) | exact absurd (by decide) c33
        refine xi_bipush (v := (-2)) C dX5_set_53 (by decide) ?_
        have w0 := Option.some.inj h
        obtain ⟨q0, w1⟩ := Prod.mk.inj w0
        obtain ⟨q1, w2⟩ := Prod.mk.inj w1
        obtain ⟨q2, w3⟩ := Prod.mk.inj w2
        obtain ⟨q3, w4⟩ := Prod.mk.inj w3
        subst q0
        subst q1
        subst q2
        subst q3
        subst w4
        exact xi_iret C Z dX5_set_55
      · have h := ie_i c32 h
        refine xi_iload_n C dX5_set_20 rfl 2 rfl ?_
        refine xi_iconst (v := 4) C dX5_set_21 (by decide) ?_
        refine xi_icmp_gt (tgt := 29) C dX5_set_22 (by decide) (fun c34 => ?_) (fun c34 => ?_)
        · have h := it_i c34 h
          refine xi_iconst (v := 0) C dX5_set_29 (by decide) ?_
          refine xi_goto (tgt := 48) C dX5_set_30 (by decide) ?_
          refine xi_istore_n (lv2 := [(0, .ref (ad 0)), (1, .int p1), (2, .int p2), (3, .int 0)]) C dX5_set_48 rfl (by decide) [0, 1, 2] [1, 2, 3, 0] rfl ?_
          refine xi_iload_n C dX5_set_49 rfl 3 rfl ?_
          refine xi_if_ne (tgt := 56) C dX5_set_50 (by decide) (fun c35 => ?_) (fun c35 => ?_)
          · first | exact absurd c35 (by decide) | exact absurd (by decide) c35
          refine xi_bipush (v := (-2)) C dX5_set_53 (by decide) ?_
          have w0 := Option.some.inj h
          obtain ⟨q0, w1⟩ := Prod.mk.inj w0
          obtain ⟨q1, w2⟩ := Prod.mk.inj w1
          obtain ⟨q2, w3⟩ := Prod.mk.inj w2
          obtain ⟨q3, w4⟩ := Prod.mk.inj w3
          subst q0
          subst q1
          subst q2
          subst q3
          subst w4
          exact xi_iret C Z dX5_set_55
        · have h := ie_i c34 h
          refine xi_iconst (v := 1) C dX5_set_25 (by decide) ?_
          refine xi_goto (tgt := 48) C dX5_set_26 (by decide) ?_
          refine xi_istore_n (lv2 := [(0, .ref (ad 0)), (1, .int p1), (2, .int p2), (3, .int 1)]) C dX5_set_48 rfl (by decide) [0, 1, 2] [1, 2, 3, 0] rfl ?_
          refine xi_iload_n C dX5_set_49 rfl 3 rfl ?_
          refine xi_if_ne (tgt := 56) C dX5_set_50 (by decide) (fun c36 => ?_) (fun c36 => ?_)
          rotate_left
          · first | exact absurd c36 (by decide) | exact absurd (by decide) c36
          refine xi_iload_n C dX5_set_56 rfl 1 rfl ?_
          refine xi_if_ne (tgt := 74) C dX5_set_57 (by decide) (fun c37 => ?_) (fun c37 => ?_)
          · have h := ie_i c37 h
            refine xi_aload_n C dX5_set_74 rfl 0 rfl ?_
            refine xi_get C dX5_set_75 iw_X5_set_5 0 rfl rfl 0 (by decide) fl_X5_set_10 rfl ?_
            refine xi_iload_n C dX5_set_78 rfl 1 rfl ?_
            obtain ⟨v38, e39, h⟩ := ob_i h
            refine xi_callV (As := [.int p1]) (o := some (.int v38)) (rest := []) (w2 := (wLB ad hs ++ wBd cI (ad 1) (ad 2) (ad 3) (ad 4) (ad 5) (ad 6) b.1 b.2.1 b.2.2.1 b.2.2.2.1 b.2.2.2.2.1 b.2.2.2.2.2.1 b.2.2.2.2.2.2 ++ wBd cI (ad 7) (ad 8) (ad 9) (ad 10) (ad 11) (ad 12) t.1 t.2.1 t.2.2.1 t.2.2.2.1 t.2.2.2.2.1 t.2.2.2.2.2.1 t.2.2.2.2.2.2 ++ wBd cI (ad 13) (ad 14) (ad 15) (ad 16) (ad 17) (ad 18) s.1 s.2.1 s.2.2.1 s.2.2.2.1 s.2.2.2.2.1 s.2.2.2.2.2.1 s.2.2.2.2.2.2 ++ wHi cI cR (ad 19) (ad 20) ha hn pm hb ++ wLa cI (ad 21) (ad 22) K ++ wLo cI (ad 23) (ad 24) (ad 25) (ad 26) Dp Bt Sq se ++ wTe cC (ad 27) (ad 28) Sg ln at_)) (st2 := [.int v38]) C k_X0_setting (m_X0_setting D cI cC cZ cR (ad 1) (ad 2) (ad 3) (ad 4) (ad 5) (ad 6) b.1 b.2.1 b.2.2.1 b.2.2.2.1 b.2.2.2.2.1 b.2.2.2.2.2.1 b.2.2.2.2.2.2 p1 v38 e39) gX5_set_X0_setting dX5_set_79 ⟨Nat.le_of_ble_eq_true rfl, Nat.le_of_ble_eq_true rfl, Nat.le_of_ble_eq_true rfl⟩ 1 rfl rfl [1, 2, 3, 4, 5, 6] mxC_X5_1 rfl [0, 1, 2, 3] rfl mxF_X5_1 mxM_X5_1 rfl (Nat.le_of_ble_eq_true rfl) ⟨Nat.zero_le _, Nat.zero_le _⟩ rfl ?_
            refine xi_istore (lv2 := [(0, .ref (ad 0)), (1, .int p1), (2, .int p2), (3, .int 1), (4, .int v38)]) C dX5_set_82 (by decide) [0, 1, 2, 3] [1, 2, 3, 4, 0] rfl ?_
            refine xi_iload C dX5_set_84 4 rfl ?_
            refine xi_iload_n C dX5_set_86 rfl 2 rfl ?_
            refine xi_icmp_ne (tgt := 93) C dX5_set_87 (by decide) (fun c40 => ?_) (fun c40 => ?_)
            · have h := ie_i c40 h
              refine xi_aload_n C dX5_set_93 rfl 0 rfl ?_
              refine xi_get C dX5_set_94 iw_X5_set_5 0 rfl rfl 3 (by decide) fl_X5_set_25 rfl ?_
              refine xi_aload_n C dX5_set_97 rfl 0 rfl ?_
              refine xi_get C dX5_set_98 iw_X5_set_5 0 rfl rfl 0 (by decide) fl_X5_set_10 rfl ?_
              obtain ⟨⟨hn41, pm42, hb43⟩, e44, h⟩ := ob_i h
              refine xi_callV (As := [.ref (ad 1)]) (o := none) (rest := []) (w2 := (wLB ad hs ++ wBd cI (ad 1) (ad 2) (ad 3) (ad 4) (ad 5) (ad 6) b.1 b.2.1 b.2.2.1 b.2.2.2.1 b.2.2.2.2.1 b.2.2.2.2.2.1 b.2.2.2.2.2.2 ++ wBd cI (ad 7) (ad 8) (ad 9) (ad 10) (ad 11) (ad 12) t.1 t.2.1 t.2.2.1 t.2.2.2.1 t.2.2.2.2.1 t.2.2.2.2.2.1 t.2.2.2.2.2.2 ++ wBd cI (ad 13) (ad 14) (ad 15) (ad 16) (ad 17) (ad 18) s.1 s.2.1 s.2.2.1 s.2.2.2.1 s.2.2.2.2.1 s.2.2.2.2.2.1 s.2.2.2.2.2.2 ++ wHi cI cR (ad 19) (ad 20) ha hn41 pm42 hb43 ++ wLa cI (ad 21) (ad 22) K ++ wLo cI (ad 23) (ad 24) (ad 25) (ad 26) Dp Bt Sq se ++ wTe cC (ad 27) (ad 28) Sg ln at_)) (st2 := []) C k_X1_remember (m_X1_remember D cI cC cZ cR (ad 19) (ad 20) ha (ad 1) (ad 2) (ad 3) (ad 4) (ad 5) (ad 6) hn pm hb b hn41 pm42 hb43 e44) gX5_set_X1_remember dX5_set_101 ⟨Nat.le_of_ble_eq_true rfl, Nat.le_of_ble_eq_true rfl, Nat.le_of_ble_eq_true rfl⟩ 19 rfl rfl [19, 20, 21, 22, 23, 24, 25, 26, 27, 28, 29, 30, 31, 32, 33, 34, 35, 36, 37, 38, 39, 40, 41, 42, 43, 44, 1, 2, 3, 4, 5, 6] mxC_X5_4_1 rfl [0, 1, 2, 3] rfl mxF_X5_4_1 mxM_X5_4_1 rfl (Nat.le_of_ble_eq_true rfl) ⟨Nat.zero_le _, Nat.zero_le _⟩ rfl ?_
              refine xi_aload_n C dX5_set_104 rfl 0 rfl ?_
              refine xi_get C dX5_set_105 iw_X5_set_5 0 rfl rfl 0 (by decide) fl_X5_set_10 rfl ?_
              refine xi_iload_n C dX5_set_108 rfl 1 rfl ?_
              refine xi_iload_n C dX5_set_109 rfl 2 rfl ?_
              obtain ⟨⟨cp45, su46⟩, e47, h⟩ := ob_i h
              refine xi_callV (As := [.int p1, .int p2]) (o := none) (rest := []) (w2 := (wLB ad hs ++ wBd cI (ad 1) (ad 2) (ad 3) (ad 4) (ad 5) (ad 6) b.1 b.2.1 b.2.2.1 b.2.2.2.1 b.2.2.2.2.1 cp45 su46 ++ wBd cI (ad 7) (ad 8) (ad 9) (ad 10) (ad 11) (ad 12) t.1 t.2.1 t.2.2.1 t.2.2.2.1 t.2.2.2.2.1 t.2.2.2.2.2.1 t.2.2.2.2.2.2 ++ wBd cI (ad 13) (ad 14) (ad 15) (ad 16) (ad 17) (ad 18) s.1 s.2.1 s.2.2.1 s.2.2.2.1 s.2.2.2.2.1 s.2.2.2.2.2.1 s.2.2.2.2.2.2 ++ wHi cI cR (ad 19) (ad 20) ha hn41 pm42 hb43 ++ wLa cI (ad 21) (ad 22) K ++ wLo cI (ad 23) (ad 24) (ad 25) (ad 26) Dp Bt Sq se ++ wTe cC (ad 27) (ad 28) Sg ln at_)) (st2 := []) C k_X0_changeSetting (m_X0_changeSetting D cI cC cZ cR (ad 1) (ad 2) (ad 3) (ad 4) (ad 5) (ad 6) b.1 b.2.1 b.2.2.1 b.2.2.2.1 b.2.2.2.2.1 b.2.2.2.2.2.1 b.2.2.2.2.2.2 p1 p2 cp45 su46 e47) gX5_set_X0_changeSetting dX5_set_110 ⟨Nat.le_of_ble_eq_true rfl, Nat.le_of_ble_eq_true rfl, Nat.le_of_ble_eq_true rfl⟩ 1 rfl rfl [1, 2, 3, 4, 5, 6] mxC_X5_1 rfl [0, 1, 2, 3] rfl mxF_X5_1 mxM_X5_1 rfl (Nat.le_of_ble_eq_true rfl) ⟨Nat.zero_le _, Nat.zero_le _⟩ rfl ?_
              refine xi_iload C dX5_set_113 4 rfl ?_
              have w0 := Option.some.inj h
              obtain ⟨q0, w1⟩ := Prod.mk.inj w0
              obtain ⟨q1, w2⟩ := Prod.mk.inj w1
              obtain ⟨q2, w3⟩ := Prod.mk.inj w2
              obtain ⟨q3, w4⟩ := Prod.mk.inj w3
              subst q0
              subst q1
              subst q2
              subst q3
              subst w4
              exact xi_iret C Z dX5_set_115
            · have h := it_i c40 h
              refine xi_bipush (v := (-5)) C dX5_set_90 (by decide) ?_
              have w0 := Option.some.inj h
              obtain ⟨q0, w1⟩ := Prod.mk.inj w0
              obtain ⟨q1, w2⟩ := Prod.mk.inj w1
              obtain ⟨q2, w3⟩ := Prod.mk.inj w2
              obtain ⟨q3, w4⟩ := Prod.mk.inj w3
              subst q0
              subst q1
              subst q2
              subst q3
              subst w4
              exact xi_iret C Z dX5_set_92
          · have h := it_i c37 h
            refine xi_aload_n C dX5_set_60 rfl 0 rfl ?_
            refine xi_get C dX5_set_61 iw_X5_set_5 0 rfl rfl 0 (by decide) fl_X5_set_10 rfl ?_
            obtain ⟨v48, e49, h⟩ := ob_i h
            refine xi_callV (As := []) (o := some (.int v48)) (rest := []) (w2 := (wLB ad hs ++ wBd cI (ad 1) (ad 2) (ad 3) (ad 4) (ad 5) (ad 6) b.1 b.2.1 b.2.2.1 b.2.2.2.1 b.2.2.2.2.1 b.2.2.2.2.2.1 b.2.2.2.2.2.2 ++ wBd cI (ad 7) (ad 8) (ad 9) (ad 10) (ad 11) (ad 12) t.1 t.2.1 t.2.2.1 t.2.2.2.1 t.2.2.2.2.1 t.2.2.2.2.2.1 t.2.2.2.2.2.2 ++ wBd cI (ad 13) (ad 14) (ad 15) (ad 16) (ad 17) (ad 18) s.1 s.2.1 s.2.2.1 s.2.2.2.1 s.2.2.2.2.1 s.2.2.2.2.2.1 s.2.2.2.2.2.2 ++ wHi cI cR (ad 19) (ad 20) ha hn pm hb ++ wLa cI (ad 21) (ad 22) K ++ wLo cI (ad 23) (ad 24) (ad 25) (ad 26) Dp Bt Sq se ++ wTe cC (ad 27) (ad 28) Sg ln at_)) (st2 := [.int v48]) C k_X0_mostHeld (m_X0_mostHeld D cI cC cZ cR (ad 1) (ad 2) (ad 3) (ad 4) (ad 5) (ad 6) b.1 b.2.1 b.2.2.1 b.2.2.2.1 b.2.2.2.2.1 b.2.2.2.2.2.1 b.2.2.2.2.2.2 v48 e49) gX5_set_X0_mostHeld dX5_set_64 ⟨Nat.le_of_ble_eq_true rfl, Nat.le_of_ble_eq_true rfl, Nat.le_of_ble_eq_true rfl⟩ 1 rfl rfl [1, 2, 3, 4, 5, 6] mxC_X5_1 rfl [0, 1, 2, 3] rfl mxF_X5_1 mxM_X5_1 rfl (Nat.le_of_ble_eq_true rfl) ⟨Nat.zero_le _, Nat.zero_le _⟩ rfl ?_
            refine xi_iload_n C dX5_set_67 rfl 2 rfl ?_
            refine xi_icmp_le (tgt := 74) C dX5_set_68 (by decide) (fun c50 => ?_) (fun c50 => ?_)
            · have h := it_i c50 h
              refine xi_aload_n C dX5_set_74 rfl 0 rfl ?_
              refine xi_get C dX5_set_75 iw_X5_set_5 0 rfl rfl 0 (by decide) fl_X5_set_10 rfl ?_
              refine xi_iload_n C dX5_set_78 rfl 1 rfl ?_
              obtain ⟨v51, e52, h⟩ := ob_i h
              refine xi_callV (As := [.int p1]) (o := some (.int v51)) (rest := []) (w2 := (wLB ad hs ++ wBd cI (ad 1) (ad 2) (ad 3) (ad 4) (ad 5) (ad 6) b.1 b.2.1 b.2.2.1 b.2.2.2.1 b.2.2.2.2.1 b.2.2.2.2.2.1 b.2.2.2.2.2.2 ++ wBd cI (ad 7) (ad 8) (ad 9) (ad 10) (ad 11) (ad 12) t.1 t.2.1 t.2.2.1 t.2.2.2.1 t.2.2.2.2.1 t.2.2.2.2.2.1 t.2.2.2.2.2.2 ++ wBd cI (ad 13) (ad 14) (ad 15) (ad 16) (ad 17) (ad 18) s.1 s.2.1 s.2.2.1 s.2.2.2.1 s.2.2.2.2.1 s.2.2.2.2.2.1 s.2.2.2.2.2.2 ++ wHi cI cR (ad 19) (ad 20) ha hn pm hb ++ wLa cI (ad 21) (ad 22) K ++ wLo cI (ad 23) (ad 24) (ad 25) (ad 26) Dp Bt Sq se ++ wTe cC (ad 27) (ad 28) Sg ln at_)) (st2 := [.int v51]) C k_X0_setting (m_X0_setting D cI cC cZ cR (ad 1) (ad 2) (ad 3) (ad 4) (ad 5) (ad 6) b.1 b.2.1 b.2.2.1 b.2.2.2.1 b.2.2.2.2.1 b.2.2.2.2.2.1 b.2.2.2.2.2.2 p1 v51 e52) gX5_set_X0_setting dX5_set_79 ⟨Nat.le_of_ble_eq_true rfl, Nat.le_of_ble_eq_true rfl, Nat.le_of_ble_eq_true rfl⟩ 1 rfl rfl [1, 2, 3, 4, 5, 6] mxC_X5_1 rfl [0, 1, 2, 3] rfl mxF_X5_1 mxM_X5_1 rfl (Nat.le_of_ble_eq_true rfl) ⟨Nat.zero_le _, Nat.zero_le _⟩ rfl ?_
              refine xi_istore (lv2 := [(0, .ref (ad 0)), (1, .int p1), (2, .int p2), (3, .int 1), (4, .int v51)]) C dX5_set_82 (by decide) [0, 1, 2, 3] [1, 2, 3, 4, 0] rfl ?_
              refine xi_iload C dX5_set_84 4 rfl ?_
              refine xi_iload_n C dX5_set_86 rfl 2 rfl ?_
              refine xi_icmp_ne (tgt := 93) C dX5_set_87 (by decide) (fun c53 => ?_) (fun c53 => ?_)
              · have h := ie_i c53 h
                refine xi_aload_n C dX5_set_93 rfl 0 rfl ?_
                refine xi_get C dX5_set_94 iw_X5_set_5 0 rfl rfl 3 (by decide) fl_X5_set_25 rfl ?_
                refine xi_aload_n C dX5_set_97 rfl 0 rfl ?_
                refine xi_get C dX5_set_98 iw_X5_set_5 0 rfl rfl 0 (by decide) fl_X5_set_10 rfl ?_
                obtain ⟨⟨hn54, pm55, hb56⟩, e57, h⟩ := ob_i h
                refine xi_callV (As := [.ref (ad 1)]) (o := none) (rest := []) (w2 := (wLB ad hs ++ wBd cI (ad 1) (ad 2) (ad 3) (ad 4) (ad 5) (ad 6) b.1 b.2.1 b.2.2.1 b.2.2.2.1 b.2.2.2.2.1 b.2.2.2.2.2.1 b.2.2.2.2.2.2 ++ wBd cI (ad 7) (ad 8) (ad 9) (ad 10) (ad 11) (ad 12) t.1 t.2.1 t.2.2.1 t.2.2.2.1 t.2.2.2.2.1 t.2.2.2.2.2.1 t.2.2.2.2.2.2 ++ wBd cI (ad 13) (ad 14) (ad 15) (ad 16) (ad 17) (ad 18) s.1 s.2.1 s.2.2.1 s.2.2.2.1 s.2.2.2.2.1 s.2.2.2.2.2.1 s.2.2.2.2.2.2 ++ wHi cI cR (ad 19) (ad 20) ha hn54 pm55 hb56 ++ wLa cI (ad 21) (ad 22) K ++ wLo cI (ad 23) (ad 24) (ad 25) (ad 26) Dp Bt Sq se ++ wTe cC (ad 27) (ad 28) Sg ln at_)) (st2 := []) C k_X1_remember (m_X1_remember D cI cC cZ cR (ad 19) (ad 20) ha (ad 1) (ad 2) (ad 3) (ad 4) (ad 5) (ad 6) hn pm hb b hn54 pm55 hb56 e57) gX5_set_X1_remember dX5_set_101 ⟨Nat.le_of_ble_eq_true rfl, Nat.le_of_ble_eq_true rfl, Nat.le_of_ble_eq_true rfl⟩ 19 rfl rfl [19, 20, 21, 22, 23, 24, 25, 26, 27, 28, 29, 30, 31, 32, 33, 34, 35, 36, 37, 38, 39, 40, 41, 42, 43, 44, 1, 2, 3, 4, 5, 6] mxC_X5_4_1 rfl [0, 1, 2, 3] rfl mxF_X5_4_1 mxM_X5_4_1 rfl (Nat.le_of_ble_eq_true rfl) ⟨Nat.zero_le _, Nat.zero_le _⟩ rfl ?_
                refine xi_aload_n C dX5_set_104 rfl 0 rfl ?_
                refine xi_get C dX5_set_105 iw_X5_set_5 0 rfl rfl 0 (by decide) fl_X5_set_10 rfl ?_
                refine xi_iload_n C dX5_set_108 rfl 1 rfl ?_
                refine xi_iload_n C dX5_set_109 rfl 2 rfl ?_
                obtain ⟨⟨cp58, su59⟩, e60, h⟩ := ob_i h
                refine xi_callV (As := [.int p1, .int p2]) (o := none) (rest := []) (w2 := (wLB ad hs ++ wBd cI (ad 1) (ad 2) (ad 3) (ad 4) (ad 5) (ad 6) b.1 b.2.1 b.2.2.1 b.2.2.2.1 b.2.2.2.2.1 cp58 su59 ++ wBd cI (ad 7) (ad 8) (ad 9) (ad 10) (ad 11) (ad 12) t.1 t.2.1 t.2.2.1 t.2.2.2.1 t.2.2.2.2.1 t.2.2.2.2.2.1 t.2.2.2.2.2.2 ++ wBd cI (ad 13) (ad 14) (ad 15) (ad 16) (ad 17) (ad 18) s.1 s.2.1 s.2.2.1 s.2.2.2.1 s.2.2.2.2.1 s.2.2.2.2.2.1 s.2.2.2.2.2.2 ++ wHi cI cR (ad 19) (ad 20) ha hn54 pm55 hb56 ++ wLa cI (ad 21) (ad 22) K ++ wLo cI (ad 23) (ad 24) (ad 25) (ad 26) Dp Bt Sq se ++ wTe cC (ad 27) (ad 28) Sg ln at_)) (st2 := []) C k_X0_changeSetting (m_X0_changeSetting D cI cC cZ cR (ad 1) (ad 2) (ad 3) (ad 4) (ad 5) (ad 6) b.1 b.2.1 b.2.2.1 b.2.2.2.1 b.2.2.2.2.1 b.2.2.2.2.2.1 b.2.2.2.2.2.2 p1 p2 cp58 su59 e60) gX5_set_X0_changeSetting dX5_set_110 ⟨Nat.le_of_ble_eq_true rfl, Nat.le_of_ble_eq_true rfl, Nat.le_of_ble_eq_true rfl⟩ 1 rfl rfl [1, 2, 3, 4, 5, 6] mxC_X5_1 rfl [0, 1, 2, 3] rfl mxF_X5_1 mxM_X5_1 rfl (Nat.le_of_ble_eq_true rfl) ⟨Nat.zero_le _, Nat.zero_le _⟩ rfl ?_
                refine xi_iload C dX5_set_113 4 rfl ?_
                have w0 := Option.some.inj h
                obtain ⟨q0, w1⟩ := Prod.mk.inj w0
                obtain ⟨q1, w2⟩ := Prod.mk.inj w1
                obtain ⟨q2, w3⟩ := Prod.mk.inj w2
                obtain ⟨q3, w4⟩ := Prod.mk.inj w3
                subst q0
                subst q1
                subst q2
                subst q3
                subst w4
                exact xi_iret C Z dX5_set_115
              · have h := it_i c53 h
                refine xi_bipush (v := (-5)) C dX5_set_90 (by decide) ?_
                have w0 := Option.some.inj h
                obtain ⟨q0, w1⟩ := Prod.mk.inj w0
                obtain ⟨q1, w2⟩ := Prod.mk.inj w1
                obtain ⟨q2, w3⟩ := Prod.mk.inj w2
                obtain ⟨q3, w4⟩ := Prod.mk.inj w3
                subst q0
                subst q1
                subst q2
                subst q3
                subst w4
                exact xi_iret C Z dX5_set_92
            · have h := ie_i c50 h
              refine xi_bipush (v := (-4)) C dX5_set_71 (by decide) ?_
              have w0 := Option.some.inj h
              obtain ⟨q0, w1⟩ := Prod.mk.inj w0
              obtain ⟨q1, w2⟩ := Prod.mk.inj w1
              obtain ⟨q2, w3⟩ := Prod.mk.inj w2
              obtain ⟨q3, w4⟩ := Prod.mk.inj w3
              subst q0
              subst q1
              subst q2
              subst q3
              subst w4
              exact xi_iret C Z dX5_set_73
  · have h := ie_i c1 h
    refine xi_iload_n C dX5_set_4 rfl 1 rfl ?_
    refine xi_iconst (v := 1) C dX5_set_5 (by decide) ?_
    refine xi_icmp_eq (tgt := 11) C dX5_set_6 (by decide) (fun c61 => ?_) (fun c61 => ?_)
    · have h := it_i c61 h
      refine xi_iload_n C dX5_set_11 rfl 1 rfl ?_
      refine xi_if_ne (tgt := 33) C dX5_set_12 (by decide) (fun c62 => ?_) (fun c62 => ?_)
      · have h := ie_i c62 h
        refine xi_iload_n C dX5_set_33 rfl 2 rfl ?_
        refine xi_if_lt (tgt := 47) C dX5_set_34 (by decide) (fun c63 => ?_) (fun c63 => ?_)
        · have h := it_i c63 h
          refine xi_iconst (v := 0) C dX5_set_47 (by decide) ?_
          refine xi_istore_n (lv2 := [(0, .ref (ad 0)), (1, .int p1), (2, .int p2), (3, .int 0)]) C dX5_set_48 rfl (by decide) [0, 1, 2] [1, 2, 3, 0] rfl ?_
          refine xi_iload_n C dX5_set_49 rfl 3 rfl ?_
          refine xi_if_ne (tgt := 56) C dX5_set_50 (by decide) (fun c64 => ?_) (fun c64 => ?_)
          · first | exact absurd c64 (by decide) | exact absurd (by decide) c64
          refine xi_bipush (v := (-2)) C dX5_set_53 (by decide) ?_
          have w0 := Option.some.inj h
          obtain ⟨q0, w1⟩ := Prod.mk.inj w0
          obtain ⟨q1, w2⟩ := Prod.mk.inj w1
          obtain ⟨q2, w3⟩ := Prod.mk.inj w2
          obtain ⟨q3, w4⟩ := Prod.mk.inj w3
          subst q0
          subst q1
          subst q2
          subst q3
          subst w4
          exact xi_iret C Z dX5_set_55
        · have h := ie_i c63 h
          refine xi_iload_n C dX5_set_37 rfl 2 rfl ?_
          refine xi_bipush (v := 9) C dX5_set_38 (by decide) ?_
          refine xi_icmp_gt (tgt := 47) C dX5_set_40 (by decide) (fun c65 => ?_) (fun c65 => ?_)
          · have h := it_i c65 h
            refine xi_iconst (v := 0) C dX5_set_47 (by decide) ?_
            refine xi_istore_n (lv2 := [(0, .ref (ad 0)), (1, .int p1), (2, .int p2), (3, .int 0)]) C dX5_set_48 rfl (by decide) [0, 1, 2] [1, 2, 3, 0] rfl ?_
            refine xi_iload_n C dX5_set_49 rfl 3 rfl ?_
            refine xi_if_ne (tgt := 56) C dX5_set_50 (by decide) (fun c66 => ?_) (fun c66 => ?_)
            · first | exact absurd c66 (by decide) | exact absurd (by decide) c66
            refine xi_bipush (v := (-2)) C dX5_set_53 (by decide) ?_
            have w0 := Option.some.inj h
            obtain ⟨q0, w1⟩ := Prod.mk.inj w0
            obtain ⟨q1, w2⟩ := Prod.mk.inj w1
            obtain ⟨q2, w3⟩ := Prod.mk.inj w2
            obtain ⟨q3, w4⟩ := Prod.mk.inj w3
            subst q0
            subst q1
            subst q2
            subst q3
            subst w4
            exact xi_iret C Z dX5_set_55
          · have h := ie_i c65 h
            refine xi_iconst (v := 1) C dX5_set_43 (by decide) ?_
            refine xi_goto (tgt := 48) C dX5_set_44 (by decide) ?_
            refine xi_istore_n (lv2 := [(0, .ref (ad 0)), (1, .int p1), (2, .int p2), (3, .int 1)]) C dX5_set_48 rfl (by decide) [0, 1, 2] [1, 2, 3, 0] rfl ?_
            refine xi_iload_n C dX5_set_49 rfl 3 rfl ?_
            refine xi_if_ne (tgt := 56) C dX5_set_50 (by decide) (fun c67 => ?_) (fun c67 => ?_)
            rotate_left
            · first | exact absurd c67 (by decide) | exact absurd (by decide) c67
            refine xi_iload_n C dX5_set_56 rfl 1 rfl ?_
            refine xi_if_ne (tgt := 74) C dX5_set_57 (by decide) (fun c68 => ?_) (fun c68 => ?_)
            · have h := ie_i c68 h
              refine xi_aload_n C dX5_set_74 rfl 0 rfl ?_
              refine xi_get C dX5_set_75 iw_X5_set_5 0 rfl rfl 0 (by decide) fl_X5_set_10 rfl ?_
              refine xi_iload_n C dX5_set_78 rfl 1 rfl ?_
              obtain ⟨v69, e70, h⟩ := ob_i h
              refine xi_callV (As := [.int p1]) (o := some (.int v69)) (rest := []) (w2 := (wLB ad hs ++ wBd cI (ad 1) (ad 2) (ad 3) (ad 4) (ad 5) (ad 6) b.1 b.2.1 b.2.2.1 b.2.2.2.1 b.2.2.2.2.1 b.2.2.2.2.2.1 b.2.2.2.2.2.2 ++ wBd cI (ad 7) (ad 8) (ad 9) (ad 10) (ad 11) (ad 12) t.1 t.2.1 t.2.2.1 t.2.2.2.1 t.2.2.2.2.1 t.2.2.2.2.2.1 t.2.2.2.2.2.2 ++ wBd cI (ad 13) (ad 14) (ad 15) (ad 16) (ad 17) (ad 18) s.1 s.2.1 s.2.2.1 s.2.2.2.1 s.2.2.2.2.1 s.2.2.2.2.2.1 s.2.2.2.2.2.2 ++ wHi cI cR (ad 19) (ad 20) ha hn pm hb ++ wLa cI (ad 21) (ad 22) K ++ wLo cI (ad 23) (ad 24) (ad 25) (ad 26) Dp Bt Sq se ++ wTe cC (ad 27) (ad 28) Sg ln at_)) (st2 := [.int v69]) C k_X0_setting (m_X0_setting D cI cC cZ cR (ad 1) (ad 2) (ad 3) (ad 4) (ad 5) (ad 6) b.1 b.2.1 b.2.2.1 b.2.2.2.1 b.2.2.2.2.1 b.2.2.2.2.2.1 b.2.2.2.2.2.2 p1 v69 e70) gX5_set_X0_setting dX5_set_79 ⟨Nat.le_of_ble_eq_true rfl, Nat.le_of_ble_eq_true rfl, Nat.le_of_ble_eq_true rfl⟩ 1 rfl rfl [1, 2, 3, 4, 5, 6] mxC_X5_1 rfl [0, 1, 2, 3] rfl mxF_X5_1 mxM_X5_1 rfl (Nat.le_of_ble_eq_true rfl) ⟨Nat.zero_le _, Nat.zero_le _⟩ rfl ?_
              refine xi_istore (lv2 := [(0, .ref (ad 0)), (1, .int p1), (2, .int p2), (3, .int 1), (4, .int v69)]) C dX5_set_82 (by decide) [0, 1, 2, 3] [1, 2, 3, 4, 0] rfl ?_
              refine xi_iload C dX5_set_84 4 rfl ?_
              refine xi_iload_n C dX5_set_86 rfl 2 rfl ?_
              refine xi_icmp_ne (tgt := 93) C dX5_set_87 (by decide) (fun c71 => ?_) (fun c71 => ?_)
              · have h := ie_i c71 h
                refine xi_aload_n C dX5_set_93 rfl 0 rfl ?_
                refine xi_get C dX5_set_94 iw_X5_set_5 0 rfl rfl 3 (by decide) fl_X5_set_25 rfl ?_
                refine xi_aload_n C dX5_set_97 rfl 0 rfl ?_
                refine xi_get C dX5_set_98 iw_X5_set_5 0 rfl rfl 0 (by decide) fl_X5_set_10 rfl ?_
                obtain ⟨⟨hn72, pm73, hb74⟩, e75, h⟩ := ob_i h
                refine xi_callV (As := [.ref (ad 1)]) (o := none) (rest := []) (w2 := (wLB ad hs ++ wBd cI (ad 1) (ad 2) (ad 3) (ad 4) (ad 5) (ad 6) b.1 b.2.1 b.2.2.1 b.2.2.2.1 b.2.2.2.2.1 b.2.2.2.2.2.1 b.2.2.2.2.2.2 ++ wBd cI (ad 7) (ad 8) (ad 9) (ad 10) (ad 11) (ad 12) t.1 t.2.1 t.2.2.1 t.2.2.2.1 t.2.2.2.2.1 t.2.2.2.2.2.1 t.2.2.2.2.2.2 ++ wBd cI (ad 13) (ad 14) (ad 15) (ad 16) (ad 17) (ad 18) s.1 s.2.1 s.2.2.1 s.2.2.2.1 s.2.2.2.2.1 s.2.2.2.2.2.1 s.2.2.2.2.2.2 ++ wHi cI cR (ad 19) (ad 20) ha hn72 pm73 hb74 ++ wLa cI (ad 21) (ad 22) K ++ wLo cI (ad 23) (ad 24) (ad 25) (ad 26) Dp Bt Sq se ++ wTe cC (ad 27) (ad 28) Sg ln at_)) (st2 := []) C k_X1_remember (m_X1_remember D cI cC cZ cR (ad 19) (ad 20) ha (ad 1) (ad 2) (ad 3) (ad 4) (ad 5) (ad 6) hn pm hb b hn72 pm73 hb74 e75) gX5_set_X1_remember dX5_set_101 ⟨Nat.le_of_ble_eq_true rfl, Nat.le_of_ble_eq_true rfl, Nat.le_of_ble_eq_true rfl⟩ 19 rfl rfl [19, 20, 21, 22, 23, 24, 25, 26, 27, 28, 29, 30, 31, 32, 33, 34, 35, 36, 37, 38, 39, 40, 41, 42, 43, 44, 1, 2, 3, 4, 5, 6] mxC_X5_4_1 rfl [0, 1, 2, 3] rfl mxF_X5_4_1 mxM_X5_4_1 rfl (Nat.le_of_ble_eq_true rfl) ⟨Nat.zero_le _, Nat.zero_le _⟩ rfl ?_
                refine xi_aload_n C dX5_set_104 rfl 0 rfl ?_
                refine xi_get C dX5_set_105 iw_X5_set_5 0 rfl rfl 0 (by decide) fl_X5_set_10 rfl ?_
                refine xi_iload_n C dX5_set_108 rfl 1 rfl ?_
                refine xi_iload_n C dX5_set_109 rfl 2 rfl ?_
                obtain ⟨⟨cp76, su77⟩, e78, h⟩ := ob_i h
                refine xi_callV (As := [.int p1, .int p2]) (o := none) (rest := []) (w2 := (wLB ad hs ++ wBd cI (ad 1) (ad 2) (ad 3) (ad 4) (ad 5) (ad 6) b.1 b.2.1 b.2.2.1 b.2.2.2.1 b.2.2.2.2.1 cp76 su77 ++ wBd cI (ad 7) (ad 8) (ad 9) (ad 10) (ad 11) (ad 12) t.1 t.2.1 t.2.2.1 t.2.2.2.1 t.2.2.2.2.1 t.2.2.2.2.2.1 t.2.2.2.2.2.2 ++ wBd cI (ad 13) (ad 14) (ad 15) (ad 16) (ad 17) (ad 18) s.1 s.2.1 s.2.2.1 s.2.2.2.1 s.2.2.2.2.1 s.2.2.2.2.2.1 s.2.2.2.2.2.2 ++ wHi cI cR (ad 19) (ad 20) ha hn72 pm73 hb74 ++ wLa cI (ad 21) (ad 22) K ++ wLo cI (ad 23) (ad 24) (ad 25) (ad 26) Dp Bt Sq se ++ wTe cC (ad 27) (ad 28) Sg ln at_)) (st2 := []) C k_X0_changeSetting (m_X0_changeSetting D cI cC cZ cR (ad 1) (ad 2) (ad 3) (ad 4) (ad 5) (ad 6) b.1 b.2.1 b.2.2.1 b.2.2.2.1 b.2.2.2.2.1 b.2.2.2.2.2.1 b.2.2.2.2.2.2 p1 p2 cp76 su77 e78) gX5_set_X0_changeSetting dX5_set_110 ⟨Nat.le_of_ble_eq_true rfl, Nat.le_of_ble_eq_true rfl, Nat.le_of_ble_eq_true rfl⟩ 1 rfl rfl [1, 2, 3, 4, 5, 6] mxC_X5_1 rfl [0, 1, 2, 3] rfl mxF_X5_1 mxM_X5_1 rfl (Nat.le_of_ble_eq_true rfl) ⟨Nat.zero_le _, Nat.zero_le _⟩ rfl ?_
                refine xi_iload C dX5_set_113 4 rfl ?_
                have w0 := Option.some.inj h
                obtain ⟨q0, w1⟩ := Prod.mk.inj w0
                obtain ⟨q1, w2⟩ := Prod.mk.inj w1
                obtain ⟨q2, w3⟩ := Prod.mk.inj w2
                obtain ⟨q3, w4⟩ := Prod.mk.inj w3
                subst q0
                subst q1
                subst q2
                subst q3
                subst w4
                exact xi_iret C Z dX5_set_115
              · have h := it_i c71 h
                refine xi_bipush (v := (-5)) C dX5_set_90 (by decide) ?_
                have w0 := Option.some.inj h
                obtain ⟨q0, w1⟩ := Prod.mk.inj w0
                obtain ⟨q1, w2⟩ := Prod.mk.inj w1
                obtain ⟨q2, w3⟩ := Prod.mk.inj w2
                obtain ⟨q3, w4⟩ := Prod.mk.inj w3
                subst q0
                subst q1
                subst q2
                subst q3
                subst w4
                exact xi_iret C Z dX5_set_92
            · have h := it_i c68 h
              refine xi_aload_n C dX5_set_60 rfl 0 rfl ?_
              refine xi_get C dX5_set_61 iw_X5_set_5 0 rfl rfl 0 (by decide) fl_X5_set_10 rfl ?_
              obtain ⟨v79, e80, h⟩ := ob_i h
              refine xi_callV (As := []) (o := some (.int v79)) (rest := []) (w2 := (wLB ad hs ++ wBd cI (ad 1) (ad 2) (ad 3) (ad 4) (ad 5) (ad 6) b.1 b.2.1 b.2.2.1 b.2.2.2.1 b.2.2.2.2.1 b.2.2.2.2.2.1 b.2.2.2.2.2.2 ++ wBd cI (ad 7) (ad 8) (ad 9) (ad 10) (ad 11) (ad 12) t.1 t.2.1 t.2.2.1 t.2.2.2.1 t.2.2.2.2.1 t.2.2.2.2.2.1 t.2.2.2.2.2.2 ++ wBd cI (ad 13) (ad 14) (ad 15) (ad 16) (ad 17) (ad 18) s.1 s.2.1 s.2.2.1 s.2.2.2.1 s.2.2.2.2.1 s.2.2.2.2.2.1 s.2.2.2.2.2.2 ++ wHi cI cR (ad 19) (ad 20) ha hn pm hb ++ wLa cI (ad 21) (ad 22) K ++ wLo cI (ad 23) (ad 24) (ad 25) (ad 26) Dp Bt Sq se ++ wTe cC (ad 27) (ad 28) Sg ln at_)) (st2 := [.int v79]) C k_X0_mostHeld (m_X0_mostHeld D cI cC cZ cR (ad 1) (ad 2) (ad 3) (ad 4) (ad 5) (ad 6) b.1 b.2.1 b.2.2.1 b.2.2.2.1 b.2.2.2.2.1 b.2.2.2.2.2.1 b.2.2.2.2.2.2 v79 e80) gX5_set_X0_mostHeld dX5_set_64 ⟨Nat.le_of_ble_eq_true rfl, Nat.le_of_ble_eq_true rfl, Nat.le_of_ble_eq_true rfl⟩ 1 rfl rfl [1, 2, 3, 4, 5, 6] mxC_X5_1 rfl [0, 1, 2, 3] rfl mxF_X5_1 mxM_X5_1 rfl (Nat.le_of_ble_eq_true rfl) ⟨Nat.zero_le _, Nat.zero_le _⟩ rfl ?_
              refine xi_iload_n C dX5_set_67 rfl 2 rfl ?_
              refine xi_icmp_le (tgt := 74) C dX5_set_68 (by decide) (fun c81 => ?_) (fun c81 => ?_)
              · have h := it_i c81 h
                refine xi_aload_n C dX5_set_74 rfl 0 rfl ?_
                refine xi_get C dX5_set_75 iw_X5_set_5 0 rfl rfl 0 (by decide) fl_X5_set_10 rfl ?_
                refine xi_iload_n C dX5_set_78 rfl 1 rfl ?_
                obtain ⟨v82, e83, h⟩ := ob_i h
                refine xi_callV (As := [.int p1]) (o := some (.int v82)) (rest := []) (w2 := (wLB ad hs ++ wBd cI (ad 1) (ad 2) (ad 3) (ad 4) (ad 5) (ad 6) b.1 b.2.1 b.2.2.1 b.2.2.2.1 b.2.2.2.2.1 b.2.2.2.2.2.1 b.2.2.2.2.2.2 ++ wBd cI (ad 7) (ad 8) (ad 9) (ad 10) (ad 11) (ad 12) t.1 t.2.1 t.2.2.1 t.2.2.2.1 t.2.2.2.2.1 t.2.2.2.2.2.1 t.2.2.2.2.2.2 ++ wBd cI (ad 13) (ad 14) (ad 15) (ad 16) (ad 17) (ad 18) s.1 s.2.1 s.2.2.1 s.2.2.2.1 s.2.2.2.2.1 s.2.2.2.2.2.1 s.2.2.2.2.2.2 ++ wHi cI cR (ad 19) (ad 20) ha hn pm hb ++ wLa cI (ad 21) (ad 22) K ++ wLo cI (ad 23) (ad 24) (ad 25) (ad 26) Dp Bt Sq se ++ wTe cC (ad 27) (ad 28) Sg ln at_)) (st2 := [.int v82]) C k_X0_setting (m_X0_setting D cI cC cZ cR (ad 1) (ad 2) (ad 3) (ad 4) (ad 5) (ad 6) b.1 b.2.1 b.2.2.1 b.2.2.2.1 b.2.2.2.2.1 b.2.2.2.2.2.1 b.2.2.2.2.2.2 p1 v82 e83) gX5_set_X0_setting dX5_set_79 ⟨Nat.le_of_ble_eq_true rfl, Nat.le_of_ble_eq_true rfl, Nat.le_of_ble_eq_true rfl⟩ 1 rfl rfl [1, 2, 3, 4, 5, 6] mxC_X5_1 rfl [0, 1, 2, 3] rfl mxF_X5_1 mxM_X5_1 rfl (Nat.le_of_ble_eq_true rfl) ⟨Nat.zero_le _, Nat.zero_le _⟩ rfl ?_
                refine xi_istore (lv2 := [(0, .ref (ad 0)), (1, .int p1), (2, .int p2), (3, .int 1), (4, .int v82)]) C dX5_set_82 (by decide) [0, 1, 2, 3] [1, 2, 3, 4, 0] rfl ?_
                refine xi_iload C dX5_set_84 4 rfl ?_
                refine xi_iload_n C dX5_set_86 rfl 2 rfl ?_
                refine xi_icmp_ne (tgt := 93) C dX5_set_87 (by decide) (fun c84 => ?_) (fun c84 => ?_)
                · have h := ie_i c84 h
                  refine xi_aload_n C dX5_set_93 rfl 0 rfl ?_
                  refine xi_get C dX5_set_94 iw_X5_set_5 0 rfl rfl 3 (by decide) fl_X5_set_25 rfl ?_
                  refine xi_aload_n C dX5_set_97 rfl 0 rfl ?_
                  refine xi_get C dX5_set_98 iw_X5_set_5 0 rfl rfl 0 (by decide) fl_X5_set_10 rfl ?_
                  obtain ⟨⟨hn85, pm86, hb87⟩, e88, h⟩ := ob_i h
                  refine xi_callV (As := [.ref (ad 1)]) (o := none) (rest := []) (w2 := (wLB ad hs ++ wBd cI (ad 1) (ad 2) (ad 3) (ad 4) (ad 5) (ad 6) b.1 b.2.1 b.2.2.1 b.2.2.2.1 b.2.2.2.2.1 b.2.2.2.2.2.1 b.2.2.2.2.2.2 ++ wBd cI (ad 7) (ad 8) (ad 9) (ad 10) (ad 11) (ad 12) t.1 t.2.1 t.2.2.1 t.2.2.2.1 t.2.2.2.2.1 t.2.2.2.2.2.1 t.2.2.2.2.2.2 ++ wBd cI (ad 13) (ad 14) (ad 15) (ad 16) (ad 17) (ad 18) s.1 s.2.1 s.2.2.1 s.2.2.2.1 s.2.2.2.2.1 s.2.2.2.2.2.1 s.2.2.2.2.2.2 ++ wHi cI cR (ad 19) (ad 20) ha hn85 pm86 hb87 ++ wLa cI (ad 21) (ad 22) K ++ wLo cI (ad 23) (ad 24) (ad 25) (ad 26) Dp Bt Sq se ++ wTe cC (ad 27) (ad 28) Sg ln at_)) (st2 := []) C k_X1_remember (m_X1_remember D cI cC cZ cR (ad 19) (ad 20) ha (ad 1) (ad 2) (ad 3) (ad 4) (ad 5) (ad 6) hn pm hb b hn85 pm86 hb87 e88) gX5_set_X1_remember dX5_set_101 ⟨Nat.le_of_ble_eq_true rfl, Nat.le_of_ble_eq_true rfl, Nat.le_of_ble_eq_true rfl⟩ 19 rfl rfl [19, 20, 21, 22, 23, 24, 25, 26, 27, 28, 29, 30, 31, 32, 33, 34, 35, 36, 37, 38, 39, 40, 41, 42, 43, 44, 1, 2, 3, 4, 5, 6] mxC_X5_4_1 rfl [0, 1, 2, 3] rfl mxF_X5_4_1 mxM_X5_4_1 rfl (Nat.le_of_ble_eq_true rfl) ⟨Nat.zero_le _, Nat.zero_le _⟩ rfl ?_
                  refine xi_aload_n C dX5_set_104 rfl 0 rfl ?_
                  refine xi_get C dX5_set_105 iw_X5_set_5 0 rfl rfl 0 (by decide) fl_X5_set_10 rfl ?_
                  refine xi_iload_n C dX5_set_108 rfl 1 rfl ?_
                  refine xi_iload_n C dX5_set_109 rfl 2 rfl ?_
                  obtain ⟨⟨cp89, su90⟩, e91, h⟩ := ob_i h
                  refine xi_callV (As := [.int p1, .int p2]) (o := none) (rest := []) (w2 := (wLB ad hs ++ wBd cI (ad 1) (ad 2) (ad 3) (ad 4) (ad 5) (ad 6) b.1 b.2.1 b.2.2.1 b.2.2.2.1 b.2.2.2.2.1 cp89 su90 ++ wBd cI (ad 7) (ad 8) (ad 9) (ad 10) (ad 11) (ad 12) t.1 t.2.1 t.2.2.1 t.2.2.2.1 t.2.2.2.2.1 t.2.2.2.2.2.1 t.2.2.2.2.2.2 ++ wBd cI (ad 13) (ad 14) (ad 15) (ad 16) (ad 17) (ad 18) s.1 s.2.1 s.2.2.1 s.2.2.2.1 s.2.2.2.2.1 s.2.2.2.2.2.1 s.2.2.2.2.2.2 ++ wHi cI cR (ad 19) (ad 20) ha hn85 pm86 hb87 ++ wLa cI (ad 21) (ad 22) K ++ wLo cI (ad 23) (ad 24) (ad 25) (ad 26) Dp Bt Sq se ++ wTe cC (ad 27) (ad 28) Sg ln at_)) (st2 := []) C k_X0_changeSetting (m_X0_changeSetting D cI cC cZ cR (ad 1) (ad 2) (ad 3) (ad 4) (ad 5) (ad 6) b.1 b.2.1 b.2.2.1 b.2.2.2.1 b.2.2.2.2.1 b.2.2.2.2.2.1 b.2.2.2.2.2.2 p1 p2 cp89 su90 e91) gX5_set_X0_changeSetting dX5_set_110 ⟨Nat.le_of_ble_eq_true rfl, Nat.le_of_ble_eq_true rfl, Nat.le_of_ble_eq_true rfl⟩ 1 rfl rfl [1, 2, 3, 4, 5, 6] mxC_X5_1 rfl [0, 1, 2, 3] rfl mxF_X5_1 mxM_X5_1 rfl (Nat.le_of_ble_eq_true rfl) ⟨Nat.zero_le _, Nat.zero_le _⟩ rfl ?_
                  refine xi_iload C dX5_set_113 4 rfl ?_
                  have w0 := Option.some.inj h
                  obtain ⟨q0, w1⟩ := Prod.mk.inj w0
                  obtain ⟨q1, w2⟩ := Prod.mk.inj w1
                  obtain ⟨q2, w3⟩ := Prod.mk.inj w2
                  obtain ⟨q3, w4⟩ := Prod.mk.inj w3
                  subst q0
                  subst q1
                  subst q2
                  subst q3
                  subst w4
                  exact xi_iret C Z dX5_set_115
                · have h := it_i c84 h
                  refine xi_bipush (v := (-5)) C dX5_set_90 (by decide) ?_
                  have w0 := Option.some.inj h
                  obtain ⟨q0, w1⟩ := Prod.mk.inj w0
                  obtain ⟨q1, w2⟩ := Prod.mk.inj w1
                  obtain ⟨q2, w3⟩ := Prod.mk.inj w2
                  obtain ⟨q3, w4⟩ := Prod.mk.inj w3
                  subst q0
                  subst q1
                  subst q2
                  subst q3
                  subst w4
                  exact xi_iret C Z dX5_set_92
              · have h := ie_i c81 h
                refine xi_bipush (v := (-4)) C dX5_set_71 (by decide) ?_
                have w0 := Option.some.inj h
                obtain ⟨q0, w1⟩ := Prod.mk.inj w0
                obtain ⟨q1, w2⟩ := Prod.mk.inj w1
                obtain ⟨q2, w3⟩ := Prod.mk.inj w2
                obtain ⟨q3, w4⟩ := Prod.mk.inj w3
                subst q0
                subst q1
                subst q2
                subst q3
                subst w4
                exact xi_iret C Z dX5_set_73
      · have h := it_i c62 h
        refine xi_iload_n C dX5_set_15 rfl 2 rfl ?_
        refine xi_iconst (v := 1) C dX5_set_16 (by decide) ?_
        refine xi_icmp_lt (tgt := 29) C dX5_set_17 (by decide) (fun c92 => ?_) (fun c92 => ?_)
        · have h := it_i c92 h
          refine xi_iconst (v := 0) C dX5_set_29 (by decide) ?_
          refine xi_goto (tgt := 48) C dX5_set_30 (by decide) ?_
          refine xi_istore_n (lv2 := [(0, .ref (ad 0)), (1, .int p1), (2, .int p2), (3, .int 0)]) C dX5_set_48 rfl (by decide) [0, 1, 2] [1, 2, 3, 0] rfl ?_
          refine xi_iload_n C dX5_set_49 rfl 3 rfl ?_
          refine xi_if_ne (tgt := 56) C dX5_set_50 (by decide) (fun c93 => ?_) (fun c93 => ?_)
          · first | exact absurd c93 (by decide) | exact absurd (by decide) c93
          refine xi_bipush (v := (-2)) C dX5_set_53 (by decide) ?_
          have w0 := Option.some.inj h
          obtain ⟨q0, w1⟩ := Prod.mk.inj w0
          obtain ⟨q1, w2⟩ := Prod.mk.inj w1
          obtain ⟨q2, w3⟩ := Prod.mk.inj w2
          obtain ⟨q3, w4⟩ := Prod.mk.inj w3
          subst q0
          subst q1
          subst q2
          subst q3
          subst w4
          exact xi_iret C Z dX5_set_55
        · have h := ie_i c92 h
          refine xi_iload_n C dX5_set_20 rfl 2 rfl ?_
          refine xi_iconst (v := 4) C dX5_set_21 (by decide) ?_
          refine xi_icmp_gt (tgt := 29) C dX5_set_22 (by decide) (fun c94 => ?_) (fun c94 => ?_)
          · have h := it_i c94 h
            refine xi_iconst (v := 0) C dX5_set_29 (by decide) ?_
            refine xi_goto (tgt := 48) C dX5_set_30 (by decide) ?_
            refine xi_istore_n (lv2 := [(0, .ref (ad 0)), (1, .int p1), (2, .int p2), (3, .int 0)]) C dX5_set_48 rfl (by decide) [0, 1, 2] [1, 2, 3, 0] rfl ?_
            refine xi_iload_n C dX5_set_49 rfl 3 rfl ?_
            refine xi_if_ne (tgt := 56) C dX5_set_50 (by decide) (fun c95 => ?_) (fun c95 => ?_)
            · first | exact absurd c95 (by decide) | exact absurd (by decide) c95
            refine xi_bipush (v := (-2)) C dX5_set_53 (by decide) ?_
            have w0 := Option.some.inj h
            obtain ⟨q0, w1⟩ := Prod.mk.inj w0
            obtain ⟨q1, w2⟩ := Prod.mk.inj w1
            obtain ⟨q2, w3⟩ := Prod.mk.inj w2
            obtain ⟨q3, w4⟩ := Prod.mk.inj w3
            subst q0
            subst q1
            subst q2
            subst q3
            subst w4
            exact xi_iret C Z dX5_set_55
          · have h := ie_i c94 h
            refine xi_iconst (v := 1) C dX5_set_25 (by decide) ?_
            refine xi_goto (tgt := 48) C dX5_set_26 (by decide) ?_
            refine xi_istore_n (lv2 := [(0, .ref (ad 0)), (1, .int p1), (2, .int p2), (3, .int 1)]) C dX5_set_48 rfl (by decide) [0, 1, 2] [1, 2, 3, 0] rfl ?_
            refine xi_iload_n C dX5_set_49 rfl 3 rfl ?_
            refine xi_if_ne (tgt := 56) C dX5_set_50 (by decide) (fun c96 => ?_) (fun c96 => ?_)
            rotate_left
            · first | exact absurd c96 (by decide) | exact absurd (by decide) c96
            refine xi_iload_n C dX5_set_56 rfl 1 rfl ?_
            refine xi_if_ne (tgt := 74) C dX5_set_57 (by decide) (fun c97 => ?_) (fun c97 => ?_)
            · have h := ie_i c97 h
              refine xi_aload_n C dX5_set_74 rfl 0 rfl ?_
              refine xi_get C dX5_set_75 iw_X5_set_5 0 rfl rfl 0 (by decide) fl_X5_set_10 rfl ?_
              refine xi_iload_n C dX5_set_78 rfl 1 rfl ?_
              obtain ⟨v98, e99, h⟩ := ob_i h
              refine xi_callV (As := [.int p1]) (o := some (.int v98)) (rest := []) (w2 := (wLB ad hs ++ wBd cI (ad 1) (ad 2) (ad 3) (ad 4) (ad 5) (ad 6) b.1 b.2.1 b.2.2.1 b.2.2.2.1 b.2.2.2.2.1 b.2.2.2.2.2.1 b.2.2.2.2.2.2 ++ wBd cI (ad 7) (ad 8) (ad 9) (ad 10) (ad 11) (ad 12) t.1 t.2.1 t.2.2.1 t.2.2.2.1 t.2.2.2.2.1 t.2.2.2.2.2.1 t.2.2.2.2.2.2 ++ wBd cI (ad 13) (ad 14) (ad 15) (ad 16) (ad 17) (ad 18) s.1 s.2.1 s.2.2.1 s.2.2.2.1 s.2.2.2.2.1 s.2.2.2.2.2.1 s.2.2.2.2.2.2 ++ wHi cI cR (ad 19) (ad 20) ha hn pm hb ++ wLa cI (ad 21) (ad 22) K ++ wLo cI (ad 23) (ad 24) (ad 25) (ad 26) Dp Bt Sq se ++ wTe cC (ad 27) (ad 28) Sg ln at_)) (st2 := [.int v98]) C k_X0_setting (m_X0_setting D cI cC cZ cR (ad 1) (ad 2) (ad 3) (ad 4) (ad 5) (ad 6) b.1 b.2.1 b.2.2.1 b.2.2.2.1 b.2.2.2.2.1 b.2.2.2.2.2.1 b.2.2.2.2.2.2 p1 v98 e99) gX5_set_X0_setting dX5_set_79 ⟨Nat.le_of_ble_eq_true rfl, Nat.le_of_ble_eq_true rfl, Nat.le_of_ble_eq_true rfl⟩ 1 rfl rfl [1, 2, 3, 4, 5, 6] mxC_X5_1 rfl [0, 1, 2, 3] rfl mxF_X5_1 mxM_X5_1 rfl (Nat.le_of_ble_eq_true rfl) ⟨Nat.zero_le _, Nat.zero_le _⟩ rfl ?_
              refine xi_istore (lv2 := [(0, .ref (ad 0)), (1, .int p1), (2, .int p2), (3, .int 1), (4, .int v98)]) C dX5_set_82 (by decide) [0, 1, 2, 3] [1, 2, 3, 4, 0] rfl ?_
              refine xi_iload C dX5_set_84 4 rfl ?_
              refine xi_iload_n C dX5_set_86 rfl 2 rfl ?_
              refine xi_icmp_ne (tgt := 93) C dX5_set_87 (by decide) (fun c100 => ?_) (fun c100 => ?_)
              · have h := ie_i c100 h
                refine xi_aload_n C dX5_set_93 rfl 0 rfl ?_
                refine xi_get C dX5_set_94 iw_X5_set_5 0 rfl rfl 3 (by decide) fl_X5_set_25 rfl ?_
                refine xi_aload_n C dX5_set_97 rfl 0 rfl ?_
                refine xi_get C dX5_set_98 iw_X5_set_5 0 rfl rfl 0 (by decide) fl_X5_set_10 rfl ?_
                obtain ⟨⟨hn101, pm102, hb103⟩, e104, h⟩ := ob_i h
                refine xi_callV (As := [.ref (ad 1)]) (o := none) (rest := []) (w2 := (wLB ad hs ++ wBd cI (ad 1) (ad 2) (ad 3) (ad 4) (ad 5) (ad 6) b.1 b.2.1 b.2.2.1 b.2.2.2.1 b.2.2.2.2.1 b.2.2.2.2.2.1 b.2.2.2.2.2.2 ++ wBd cI (ad 7) (ad 8) (ad 9) (ad 10) (ad 11) (ad 12) t.1 t.2.1 t.2.2.1 t.2.2.2.1 t.2.2.2.2.1 t.2.2.2.2.2.1 t.2.2.2.2.2.2 ++ wBd cI (ad 13) (ad 14) (ad 15) (ad 16) (ad 17) (ad 18) s.1 s.2.1 s.2.2.1 s.2.2.2.1 s.2.2.2.2.1 s.2.2.2.2.2.1 s.2.2.2.2.2.2 ++ wHi cI cR (ad 19) (ad 20) ha hn101 pm102 hb103 ++ wLa cI (ad 21) (ad 22) K ++ wLo cI (ad 23) (ad 24) (ad 25) (ad 26) Dp Bt Sq se ++ wTe cC (ad 27) (ad 28) Sg ln at_)) (st2 := []) C k_X1_remember (m_X1_remember D cI cC cZ cR (ad 19) (ad 20) ha (ad 1) (ad 2) (ad 3) (ad 4) (ad 5) (ad 6) hn pm hb b hn101 pm102 hb103 e104) gX5_set_X1_remember dX5_set_101 ⟨Nat.le_of_ble_eq_true rfl, Nat.le_of_ble_eq_true rfl, Nat.le_of_ble_eq_true rfl⟩ 19 rfl rfl [19, 20, 21, 22, 23, 24, 25, 26, 27, 28, 29, 30, 31, 32, 33, 34, 35, 36, 37, 38, 39, 40, 41, 42, 43, 44, 1, 2, 3, 4, 5, 6] mxC_X5_4_1 rfl [0, 1, 2, 3] rfl mxF_X5_4_1 mxM_X5_4_1 rfl (Nat.le_of_ble_eq_true rfl) ⟨Nat.zero_le _, Nat.zero_le _⟩ rfl ?_
                refine xi_aload_n C dX5_set_104 rfl 0 rfl ?_
                refine xi_get C dX5_set_105 iw_X5_set_5 0 rfl rfl 0 (by decide) fl_X5_set_10 rfl ?_
                refine xi_iload_n C dX5_set_108 rfl 1 rfl ?_
                refine xi_iload_n C dX5_set_109 rfl 2 rfl ?_
                obtain ⟨⟨cp105, su106⟩, e107, h⟩ := ob_i h
                refine xi_callV (As := [.int p1, .int p2]) (o := none) (rest := []) (w2 := (wLB ad hs ++ wBd cI (ad 1) (ad 2) (ad 3) (ad 4) (ad 5) (ad 6) b.1 b.2.1 b.2.2.1 b.2.2.2.1 b.2.2.2.2.1 cp105 su106 ++ wBd cI (ad 7) (ad 8) (ad 9) (ad 10) (ad 11) (ad 12) t.1 t.2.1 t.2.2.1 t.2.2.2.1 t.2.2.2.2.1 t.2.2.2.2.2.1 t.2.2.2.2.2.2 ++ wBd cI (ad 13) (ad 14) (ad 15) (ad 16) (ad 17) (ad 18) s.1 s.2.1 s.2.2.1 s.2.2.2.1 s.2.2.2.2.1 s.2.2.2.2.2.1 s.2.2.2.2.2.2 ++ wHi cI cR (ad 19) (ad 20) ha hn101 pm102 hb103 ++ wLa cI (ad 21) (ad 22) K ++ wLo cI (ad 23) (ad 24) (ad 25) (ad 26) Dp Bt Sq se ++ wTe cC (ad 27) (ad 28) Sg ln at_)) (st2 := []) C k_X0_changeSetting (m_X0_changeSetting D cI cC cZ cR (ad 1) (ad 2) (ad 3) (ad 4) (ad 5) (ad 6) b.1 b.2.1 b.2.2.1 b.2.2.2.1 b.2.2.2.2.1 b.2.2.2.2.2.1 b.2.2.2.2.2.2 p1 p2 cp105 su106 e107) gX5_set_X0_changeSetting dX5_set_110 ⟨Nat.le_of_ble_eq_true rfl, Nat.le_of_ble_eq_true rfl, Nat.le_of_ble_eq_true rfl⟩ 1 rfl rfl [1, 2, 3, 4, 5, 6] mxC_X5_1 rfl [0, 1, 2, 3] rfl mxF_X5_1 mxM_X5_1 rfl (Nat.le_of_ble_eq_true rfl) ⟨Nat.zero_le _, Nat.zero_le _⟩ rfl ?_
                refine xi_iload C dX5_set_113 4 rfl ?_
                have w0 := Option.some.inj h
                obtain ⟨q0, w1⟩ := Prod.mk.inj w0
                obtain ⟨q1, w2⟩ := Prod.mk.inj w1
                obtain ⟨q2, w3⟩ := Prod.mk.inj w2
                obtain ⟨q3, w4⟩ := Prod.mk.inj w3
                subst q0
                subst q1
                subst q2
                subst q3
                subst w4
                exact xi_iret C Z dX5_set_115
              · have h := it_i c100 h
                refine xi_bipush (v := (-5)) C dX5_set_90 (by decide) ?_
                have w0 := Option.some.inj h
                obtain ⟨q0, w1⟩ := Prod.mk.inj w0
                obtain ⟨q1, w2⟩ := Prod.mk.inj w1
                obtain ⟨q2, w3⟩ := Prod.mk.inj w2
                obtain ⟨q3, w4⟩ := Prod.mk.inj w3
                subst q0
                subst q1
                subst q2
                subst q3
                subst w4
                exact xi_iret C Z dX5_set_92
            · have h := it_i c97 h
              refine xi_aload_n C dX5_set_60 rfl 0 rfl ?_
              refine xi_get C dX5_set_61 iw_X5_set_5 0 rfl rfl 0 (by decide) fl_X5_set_10 rfl ?_
              obtain ⟨v108, e109, h⟩ := ob_i h
              refine xi_callV (As := []) (o := some (.int v108)) (rest := []) (w2 := (wLB ad hs ++ wBd cI (ad 1) (ad 2) (ad 3) (ad 4) (ad 5) (ad 6) b.1 b.2.1 b.2.2.1 b.2.2.2.1 b.2.2.2.2.1 b.2.2.2.2.2.1 b.2.2.2.2.2.2 ++ wBd cI (ad 7) (ad 8) (ad 9) (ad 10) (ad 11) (ad 12) t.1 t.2.1 t.2.2.1 t.2.2.2.1 t.2.2.2.2.1 t.2.2.2.2.2.1 t.2.2.2.2.2.2 ++ wBd cI (ad 13) (ad 14) (ad 15) (ad 16) (ad 17) (ad 18) s.1 s.2.1 s.2.2.1 s.2.2.2.1 s.2.2.2.2.1 s.2.2.2.2.2.1 s.2.2.2.2.2.2 ++ wHi cI cR (ad 19) (ad 20) ha hn pm hb ++ wLa cI (ad 21) (ad 22) K ++ wLo cI (ad 23) (ad 24) (ad 25) (ad 26) Dp Bt Sq se ++ wTe cC (ad 27) (ad 28) Sg ln at_)) (st2 := [.int v108]) C k_X0_mostHeld (m_X0_mostHeld D cI cC cZ cR (ad 1) (ad 2) (ad 3) (ad 4) (ad 5) (ad 6) b.1 b.2.1 b.2.2.1 b.2.2.2.1 b.2.2.2.2.1 b.2.2.2.2.2.1 b.2.2.2.2.2.2 v108 e109) gX5_set_X0_mostHeld dX5_set_64 ⟨Nat.le_of_ble_eq_true rfl, Nat.le_of_ble_eq_true rfl, Nat.le_of_ble_eq_true rfl⟩ 1 rfl rfl [1, 2, 3, 4, 5, 6] mxC_X5_1 rfl [0, 1, 2, 3] rfl mxF_X5_1 mxM_X5_1 rfl (Nat.le_of_ble_eq_true rfl) ⟨Nat.zero_le _, Nat.zero_le _⟩ rfl ?_
              refine xi_iload_n C dX5_set_67 rfl 2 rfl ?_
              refine xi_icmp_le (tgt := 74) C dX5_set_68 (by decide) (fun c110 => ?_) (fun c110 => ?_)
              · have h := it_i c110 h
                refine xi_aload_n C dX5_set_74 rfl 0 rfl ?_
                refine xi_get C dX5_set_75 iw_X5_set_5 0 rfl rfl 0 (by decide) fl_X5_set_10 rfl ?_
                refine xi_iload_n C dX5_set_78 rfl 1 rfl ?_
                obtain ⟨v111, e112, h⟩ := ob_i h
                refine xi_callV (As := [.int p1]) (o := some (.int v111)) (rest := []) (w2 := (wLB ad hs ++ wBd cI (ad 1) (ad 2) (ad 3) (ad 4) (ad 5) (ad 6) b.1 b.2.1 b.2.2.1 b.2.2.2.1 b.2.2.2.2.1 b.2.2.2.2.2.1 b.2.2.2.2.2.2 ++ wBd cI (ad 7) (ad 8) (ad 9) (ad 10) (ad 11) (ad 12) t.1 t.2.1 t.2.2.1 t.2.2.2.1 t.2.2.2.2.1 t.2.2.2.2.2.1 t.2.2.2.2.2.2 ++ wBd cI (ad 13) (ad 14) (ad 15) (ad 16) (ad 17) (ad 18) s.1 s.2.1 s.2.2.1 s.2.2.2.1 s.2.2.2.2.1 s.2.2.2.2.2.1 s.2.2.2.2.2.2 ++ wHi cI cR (ad 19) (ad 20) ha hn pm hb ++ wLa cI (ad 21) (ad 22) K ++ wLo cI (ad 23) (ad 24) (ad 25) (ad 26) Dp Bt Sq se ++ wTe cC (ad 27) (ad 28) Sg ln at_)) (st2 := [.int v111]) C k_X0_setting (m_X0_setting D cI cC cZ cR (ad 1) (ad 2) (ad 3) (ad 4) (ad 5) (ad 6) b.1 b.2.1 b.2.2.1 b.2.2.2.1 b.2.2.2.2.1 b.2.2.2.2.2.1 b.2.2.2.2.2.2 p1 v111 e112) gX5_set_X0_setting dX5_set_79 ⟨Nat.le_of_ble_eq_true rfl, Nat.le_of_ble_eq_true rfl, Nat.le_of_ble_eq_true rfl⟩ 1 rfl rfl [1, 2, 3, 4, 5, 6] mxC_X5_1 rfl [0, 1, 2, 3] rfl mxF_X5_1 mxM_X5_1 rfl (Nat.le_of_ble_eq_true rfl) ⟨Nat.zero_le _, Nat.zero_le _⟩ rfl ?_
                refine xi_istore (lv2 := [(0, .ref (ad 0)), (1, .int p1), (2, .int p2), (3, .int 1), (4, .int v111)]) C dX5_set_82 (by decide) [0, 1, 2, 3] [1, 2, 3, 4, 0] rfl ?_
                refine xi_iload C dX5_set_84 4 rfl ?_
                refine xi_iload_n C dX5_set_86 rfl 2 rfl ?_
                refine xi_icmp_ne (tgt := 93) C dX5_set_87 (by decide) (fun c113 => ?_) (fun c113 => ?_)
                · have h := ie_i c113 h
                  refine xi_aload_n C dX5_set_93 rfl 0 rfl ?_
                  refine xi_get C dX5_set_94 iw_X5_set_5 0 rfl rfl 3 (by decide) fl_X5_set_25 rfl ?_
                  refine xi_aload_n C dX5_set_97 rfl 0 rfl ?_
                  refine xi_get C dX5_set_98 iw_X5_set_5 0 rfl rfl 0 (by decide) fl_X5_set_10 rfl ?_
                  obtain ⟨⟨hn114, pm115, hb116⟩, e117, h⟩ := ob_i h
                  refine xi_callV (As := [.ref (ad 1)]) (o := none) (rest := []) (w2 := (wLB ad hs ++ wBd cI (ad 1) (ad 2) (ad 3) (ad 4) (ad 5) (ad 6) b.1 b.2.1 b.2.2.1 b.2.2.2.1 b.2.2.2.2.1 b.2.2.2.2.2.1 b.2.2.2.2.2.2 ++ wBd cI (ad 7) (ad 8) (ad 9) (ad 10) (ad 11) (ad 12) t.1 t.2.1 t.2.2.1 t.2.2.2.1 t.2.2.2.2.1 t.2.2.2.2.2.1 t.2.2.2.2.2.2 ++ wBd cI (ad 13) (ad 14) (ad 15) (ad 16) (ad 17) (ad 18) s.1 s.2.1 s.2.2.1 s.2.2.2.1 s.2.2.2.2.1 s.2.2.2.2.2.1 s.2.2.2.2.2.2 ++ wHi cI cR (ad 19) (ad 20) ha hn114 pm115 hb116 ++ wLa cI (ad 21) (ad 22) K ++ wLo cI (ad 23) (ad 24) (ad 25) (ad 26) Dp Bt Sq se ++ wTe cC (ad 27) (ad 28) Sg ln at_)) (st2 := []) C k_X1_remember (m_X1_remember D cI cC cZ cR (ad 19) (ad 20) ha (ad 1) (ad 2) (ad 3) (ad 4) (ad 5) (ad 6) hn pm hb b hn114 pm115 hb116 e117) gX5_set_X1_remember dX5_set_101 ⟨Nat.le_of_ble_eq_true rfl, Nat.le_of_ble_eq_true rfl, Nat.le_of_ble_eq_true rfl⟩ 19 rfl rfl [19, 20, 21, 22, 23, 24, 25, 26, 27, 28, 29, 30, 31, 32, 33, 34, 35, 36, 37, 38, 39, 40, 41, 42, 43, 44, 1, 2, 3, 4, 5, 6] mxC_X5_4_1 rfl [0, 1, 2, 3] rfl mxF_X5_4_1 mxM_X5_4_1 rfl (Nat.le_of_ble_eq_true rfl) ⟨Nat.zero_le _, Nat.zero_le _⟩ rfl ?_
                  refine xi_aload_n C dX5_set_104 rfl 0 rfl ?_
                  refine xi_get C dX5_set_105 iw_X5_set_5 0 rfl rfl 0 (by decide) fl_X5_set_10 rfl ?_
                  refine xi_iload_n C dX5_set_108 rfl 1 rfl ?_
                  refine xi_iload_n C dX5_set_109 rfl 2 rfl ?_
                  obtain ⟨⟨cp118, su119⟩, e120, h⟩ := ob_i h
                  refine xi_callV (As := [.int p1, .int p2]) (o := none) (rest := []) (w2 := (wLB ad hs ++ wBd cI (ad 1) (ad 2) (ad 3) (ad 4) (ad 5) (ad 6) b.1 b.2.1 b.2.2.1 b.2.2.2.1 b.2.2.2.2.1 cp118 su119 ++ wBd cI (ad 7) (ad 8) (ad 9) (ad 10) (ad 11) (ad 12) t.1 t.2.1 t.2.2.1 t.2.2.2.1 t.2.2.2.2.1 t.2.2.2.2.2.1 t.2.2.2.2.2.2 ++ wBd cI (ad 13) (ad 14) (ad 15) (ad 16) (ad 17) (ad 18) s.1 s.2.1 s.2.2.1 s.2.2.2.1 s.2.2.2.2.1 s.2.2.2.2.2.1 s.2.2.2.2.2.2 ++ wHi cI cR (ad 19) (ad 20) ha hn114 pm115 hb116 ++ wLa cI (ad 21) (ad 22) K ++ wLo cI (ad 23) (ad 24) (ad 25) (ad 26) Dp Bt Sq se ++ wTe cC (ad 27) (ad 28) Sg ln at_)) (st2 := []) C k_X0_changeSetting (m_X0_changeSetting D cI cC cZ cR (ad 1) (ad 2) (ad 3) (ad 4) (ad 5) (ad 6) b.1 b.2.1 b.2.2.1 b.2.2.2.1 b.2.2.2.2.1 b.2.2.2.2.2.1 b.2.2.2.2.2.2 p1 p2 cp118 su119 e120) gX5_set_X0_changeSetting dX5_set_110 ⟨Nat.le_of_ble_eq_true rfl, Nat.le_of_ble_eq_true rfl, Nat.le_of_ble_eq_true rfl⟩ 1 rfl rfl [1, 2, 3, 4, 5, 6] mxC_X5_1 rfl [0, 1, 2, 3] rfl mxF_X5_1 mxM_X5_1 rfl (Nat.le_of_ble_eq_true rfl) ⟨Nat.zero_le _, Nat.zero_le _⟩ rfl ?_
                  refine xi_iload C dX5_set_113 4 rfl ?_
                  have w0 := Option.some.inj h
                  obtain ⟨q0, w1⟩ := Prod.mk.inj w0
                  obtain ⟨q1, w2⟩ := Prod.mk.inj w1
                  obtain ⟨q2, w3⟩ := Prod.mk.inj w2
                  obtain ⟨q3, w4⟩ := Prod.mk.inj w3
                  subst q0
                  subst q1
                  subst q2
                  subst q3
                  subst w4
                  exact xi_iret C Z dX5_set_115
                · have h := it_i c113 h
                  refine xi_bipush (v := (-5)) C dX5_set_90 (by decide) ?_
                  have w0 := Option.some.inj h
                  obtain ⟨q0, w1⟩ := Prod.mk.inj w0
                  obtain ⟨q1, w2⟩ := Prod.mk.inj w1
                  obtain ⟨q2, w3⟩ := Prod.mk.inj w2
                  obtain ⟨q3, w4⟩ := Prod.mk.inj w3
                  subst q0
                  subst q1
                  subst q2
                  subst q3
                  subst w4
                  exact xi_iret C Z dX5_set_92
              · have h := ie_i c110 h
                refine xi_bipush (v := (-4)) C dX5_set_71 (by decide) ?_
                have w0 := Option.some.inj h
                obtain ⟨q0, w1⟩ := Prod.mk.inj w0
                obtain ⟨q1, w2⟩ := Prod.mk.inj w1
                obtain ⟨q2, w3⟩ := Prod.mk.inj w2
                obtain ⟨q3, w4⟩ := Prod.mk.inj w3
                subst q0
                subst q1
                subst q2
                subst q3
                subst w4
                exact xi_iret C Z dX5_set_73
    · have h := ie_i c61 h
      refine xi_iconst (v := (-1)) C dX5_set_9 (by decide) ?_
      have w0 := Option.some.inj h
      obtain ⟨q0, w1⟩ := Prod.mk.inj w0
      obtain ⟨q1, w2⟩ := Prod.mk.inj w1
      obtain ⟨q2, w3⟩ := Prod.mk.inj w2
      obtain ⟨q3, w4⟩ := Prod.mk.inj w3
      subst q0
      subst q1
      subst q2
      subst q3
      subst w4
      exact xi_iret C Z dX5_set_10
def f_X5_load (b : xBd) (t : xBd) (hn : Int32) (pm : Nat → Nat) (hb : Nat → xBd) (K : Nat → Int32) (Sg : Nat → Int32) (ln : Int32) (at_ : Int32) : Option (Int32 × xBd × xBd × Int32 × (Nat → Nat) × (Nat → xBd) × (Nat → Int32) × Int32) :=
  (f_X0_copyFrom t.1 t.2.1 t.2.2.1 t.2.2.2.1 t.2.2.2.2.1 t.2.2.2.2.2.1 t.2.2.2.2.2.2 b.1 b.2.1 b.2.2.1 b.2.2.2.1 b.2.2.2.2.1 b.2.2.2.2.2.1 b.2.2.2.2.2.2).bind fun (T1, S2, L3, J4, E5, cp6, su7) =>
  (f_X0_removeAllCells T1 S2 L3 E5).bind fun (T9, S10, L11, E12) =>
  (f_X4_readInto Sg ln at_ T9 S10).bind fun (v14, at15, T16, S17) =>
  if v14 = (-1) then
    (f_X0_hasAllSources T16 S17).bind fun v20 =>
    if v20 = 0 then
      some ((-4), b, (T16, S17, L11, J4, E12, cp6, su7), hn, pm, hb, K, at15)
    else
      (f_X2_layAll K S17 L11 J4 E12 cp6 su7 0).bind fun (v23, K24, L25, J26, E27) =>
      if 0 ≤ v23 then
        (f_X5_acceptTrial b (T16, S17, L25, J26, E27, cp6, su7) hn pm hb).bind fun (b30, hn31, pm32, hb33) =>
        (f_X0_cells b30.1).bind fun v35 =>
        some (v35, b30, (T16, S17, L25, J26, E27, cp6, su7), hn31, pm32, hb33, K24, at15)
      else
        some ((-3), b, (T16, S17, L25, J26, E27, cp6, su7), hn, pm, hb, K24, at15)
  else
    some ((-100) - v14, b, (T16, S17, L11, J4, E12, cp6, su7), hn, pm, hb, K, at15)
theorem k_X5_load : xb_Y yX5_load cX5_load wsX5_load 2 (some .int) { frames := 6, cells := 0, slots := 0, locals := 133 } 0 := ⟨⟨_, rfl⟩, by decide, ⟨by decide, by decide, by decide +kernel⟩, rfl, rfl⟩
theorem fl_X5_load_10 : Cond.fieldLink RX5 10 "LookupBoard" "board" "LLookupBoard$Board;" ∈ wsX5_load := List.mem_of_getElem? (i := 2) rfl
theorem fl_X5_load_16 : Cond.fieldLink RX5 16 "LookupBoard" "trial" "LLookupBoard$Board;" ∈ wsX5_load := List.mem_of_getElem? (i := 1) rfl
theorem fl_X5_load_32 : Cond.fieldLink RX5 32 "LookupBoard" "layer" "LLookupBoard$Layer;" ∈ wsX5_load := List.mem_of_getElem? (i := 4) rfl
theorem fl_X5_load_46 : Cond.fieldLink RX5 46 "LookupBoard" "text" "LLookupBoard$PlanText;" ∈ wsX5_load := List.mem_of_getElem? (i := 3) rfl
theorem iw_X5_load_5 : ∀ w ∈ wsX50, w ∈ wsX5_load := fun w h => List.mem_cons_of_mem _ (List.mem_append_left _ (List.mem_append_left _ (List.mem_append_left _ (List.mem_append_left _ (List.mem_append_right _ h)))))
set_option maxHeartbeats 4000000 in
set_option maxRecDepth 100000 in
theorem m_X5_load (D : va_G) (cI cC cZ cR : ClassId) (ad : Nat → Nat) (ha : Nat → Nat → Nat) (hs : Int32) (b : xBd) (t : xBd) (s : xBd) (hn : Int32) (pm : Nat → Nat) (hb : Nat → xBd) (K : Nat → Int32) (Dp : Nat → Int32) (Bt : Nat → Int32) (Sq : Nat → Int32) (se : Int32) (Sg : Nat → Int32) (ln : Int32) (at_ : Int32) (r : Int32) (b' : xBd) (t' : xBd) (hn' : Int32) (pm' : Nat → Nat) (hb' : Nat → xBd) (K' : Nat → Int32) (at' : Int32) (h : f_X5_load b t hn pm hb K Sg ln at_ = some (r, b', t', hn', pm', hb', K', at')) : xb_M cX5_load wsX5_load RX5 { frames := 6, cells := 0, slots := 0, locals := 133 } (some .int) 2 (xb_ty cI cC cZ cR) D [.ref (ad 0)] (wLB ad hs ++ wBd cI (ad 1) (ad 2) (ad 3) (ad 4) (ad 5) (ad 6) b.1 b.2.1 b.2.2.1 b.2.2.2.1 b.2.2.2.2.1 b.2.2.2.2.2.1 b.2.2.2.2.2.2 ++ wBd cI (ad 7) (ad 8) (ad 9) (ad 10) (ad 11) (ad 12) t.1 t.2.1 t.2.2.1 t.2.2.2.1 t.2.2.2.2.1 t.2.2.2.2.2.1 t.2.2.2.2.2.2 ++ wBd cI (ad 13) (ad 14) (ad 15) (ad 16) (ad 17) (ad 18) s.1 s.2.1 s.2.2.1 s.2.2.2.1 s.2.2.2.2.1 s.2.2.2.2.2.1 s.2.2.2.2.2.2 ++ wHi cI cR (ad 19) (ad 20) ha hn pm hb ++ wLa cI (ad 21) (ad 22) K ++ wLo cI (ad 23) (ad 24) (ad 25) (ad 26) Dp Bt Sq se ++ wTe cC (ad 27) (ad 28) Sg ln at_) (some (.int r)) (wLB ad hs ++ wBd cI (ad 1) (ad 2) (ad 3) (ad 4) (ad 5) (ad 6) b'.1 b'.2.1 b'.2.2.1 b'.2.2.2.1 b'.2.2.2.2.1 b'.2.2.2.2.2.1 b'.2.2.2.2.2.2 ++ wBd cI (ad 7) (ad 8) (ad 9) (ad 10) (ad 11) (ad 12) t'.1 t'.2.1 t'.2.2.1 t'.2.2.2.1 t'.2.2.2.2.1 t'.2.2.2.2.2.1 t'.2.2.2.2.2.2 ++ wBd cI (ad 13) (ad 14) (ad 15) (ad 16) (ad 17) (ad 18) s.1 s.2.1 s.2.2.1 s.2.2.2.1 s.2.2.2.2.1 s.2.2.2.2.2.1 s.2.2.2.2.2.2 ++ wHi cI cR (ad 19) (ad 20) ha hn' pm' hb' ++ wLa cI (ad 21) (ad 22) K' ++ wLo cI (ad 23) (ad 24) (ad 25) (ad 26) Dp Bt Sq se ++ wTe cC (ad 27) (ad 28) Sg ln at') := by
  intro X C Z
  show xb_G X 0 0 (wLB ad hs ++ wBd cI (ad 1) (ad 2) (ad 3) (ad 4) (ad 5) (ad 6) b.1 b.2.1 b.2.2.1 b.2.2.2.1 b.2.2.2.2.1 b.2.2.2.2.2.1 b.2.2.2.2.2.2 ++ wBd cI (ad 7) (ad 8) (ad 9) (ad 10) (ad 11) (ad 12) t.1 t.2.1 t.2.2.1 t.2.2.2.1 t.2.2.2.2.1 t.2.2.2.2.2.1 t.2.2.2.2.2.2 ++ wBd cI (ad 13) (ad 14) (ad 15) (ad 16) (ad 17) (ad 18) s.1 s.2.1 s.2.2.1 s.2.2.2.1 s.2.2.2.2.1 s.2.2.2.2.2.1 s.2.2.2.2.2.2 ++ wHi cI cR (ad 19) (ad 20) ha hn pm hb ++ wLa cI (ad 21) (ad 22) K ++ wLo cI (ad 23) (ad 24) (ad 25) (ad 26) Dp Bt Sq se ++ wTe cC (ad 27) (ad 28) Sg ln at_) [(0, .ref (ad 0))] 0 []
  unfold f_X5_load at h
  refine xi_aload_n C dX5_load_0 rfl 0 rfl ?_
  refine xi_get C dX5_load_1 iw_X5_load_5 0 rfl rfl 1 (by decide) fl_X5_load_16 rfl ?_
  refine xi_aload_n C dX5_load_4 rfl 0 rfl ?_
  refine xi_get C dX5_load_5 iw_X5_load_5 0 rfl rfl 0 (by decide) fl_X5_load_10 rfl ?_
  obtain ⟨⟨T1, S2, L3, J4, E5, cp6, su7⟩, e8, h⟩ := ob_i h
  refine xi_callV (As := [.ref (ad 1)]) (o := none) (rest := []) (w2 := (wLB ad hs ++ wBd cI (ad 1) (ad 2) (ad 3) (ad 4) (ad 5) (ad 6) b.1 b.2.1 b.2.2.1 b.2.2.2.1 b.2.2.2.2.1 b.2.2.2.2.2.1 b.2.2.2.2.2.2 ++ wBd cI (ad 7) (ad 8) (ad 9) (ad 10) (ad 11) (ad 12) T1 S2 L3 J4 E5 cp6 su7 ++ wBd cI (ad 13) (ad 14) (ad 15) (ad 16) (ad 17) (ad 18) s.1 s.2.1 s.2.2.1 s.2.2.2.1 s.2.2.2.2.1 s.2.2.2.2.2.1 s.2.2.2.2.2.2 ++ wHi cI cR (ad 19) (ad 20) ha hn pm hb ++ wLa cI (ad 21) (ad 22) K ++ wLo cI (ad 23) (ad 24) (ad 25) (ad 26) Dp Bt Sq se ++ wTe cC (ad 27) (ad 28) Sg ln at_)) (st2 := []) C k_X0_copyFrom (m_X0_copyFrom D cI cC cZ cR (ad 7) (ad 8) (ad 9) (ad 10) (ad 11) (ad 12) (ad 1) (ad 2) (ad 3) (ad 4) (ad 5) (ad 6) t.1 t.2.1 t.2.2.1 t.2.2.2.1 t.2.2.2.2.1 t.2.2.2.2.2.1 t.2.2.2.2.2.2 b.1 b.2.1 b.2.2.1 b.2.2.2.1 b.2.2.2.2.1 b.2.2.2.2.2.1 b.2.2.2.2.2.2 T1 S2 L3 J4 E5 cp6 su7 e8) gX5_load_X0_copyFrom dX5_load_8 ⟨Nat.le_of_ble_eq_true rfl, Nat.le_of_ble_eq_true rfl, Nat.le_of_ble_eq_true rfl⟩ 7 rfl rfl [7, 8, 9, 10, 11, 12, 1, 2, 3, 4, 5, 6] mxC_X5_2_1 rfl [0, 1, 2, 3] rfl mxF_X5_2_1 mxM_X5_2_1 rfl (Nat.le_of_ble_eq_true rfl) ⟨Nat.zero_le _, Nat.zero_le _⟩ rfl ?_
  refine xi_aload_n C dX5_load_11 rfl 0 rfl ?_
  refine xi_get C dX5_load_12 iw_X5_load_5 0 rfl rfl 1 (by decide) fl_X5_load_16 rfl ?_
  obtain ⟨⟨T9, S10, L11, E12⟩, e13, h⟩ := ob_i h
  refine xi_callV (As := []) (o := none) (rest := []) (w2 := (wLB ad hs ++ wBd cI (ad 1) (ad 2) (ad 3) (ad 4) (ad 5) (ad 6) b.1 b.2.1 b.2.2.1 b.2.2.2.1 b.2.2.2.2.1 b.2.2.2.2.2.1 b.2.2.2.2.2.2 ++ wBd cI (ad 7) (ad 8) (ad 9) (ad 10) (ad 11) (ad 12) T9 S10 L11 J4 E12 cp6 su7 ++ wBd cI (ad 13) (ad 14) (ad 15) (ad 16) (ad 17) (ad 18) s.1 s.2.1 s.2.2.1 s.2.2.2.1 s.2.2.2.2.1 s.2.2.2.2.2.1 s.2.2.2.2.2.2 ++ wHi cI cR (ad 19) (ad 20) ha hn pm hb ++ wLa cI (ad 21) (ad 22) K ++ wLo cI (ad 23) (ad 24) (ad 25) (ad 26) Dp Bt Sq se ++ wTe cC (ad 27) (ad 28) Sg ln at_)) (st2 := []) C k_X0_removeAllCells (m_X0_removeAllCells D cI cC cZ cR (ad 7) (ad 8) (ad 9) (ad 10) (ad 11) (ad 12) T1 S2 L3 J4 E5 cp6 su7 T9 S10 L11 E12 e13) gX5_load_X0_removeAllCells dX5_load_15 ⟨Nat.le_of_ble_eq_true rfl, Nat.le_of_ble_eq_true rfl, Nat.le_of_ble_eq_true rfl⟩ 7 rfl rfl [7, 8, 9, 10, 11, 12] mxC_X5_2 rfl [0, 1, 2, 3] rfl mxF_X5_2 mxM_X5_2 rfl (Nat.le_of_ble_eq_true rfl) ⟨Nat.zero_le _, Nat.zero_le _⟩ rfl ?_
  refine xi_aload_n C dX5_load_18 rfl 0 rfl ?_
  refine xi_get C dX5_load_19 iw_X5_load_5 0 rfl rfl 6 (by decide) fl_X5_load_46 rfl ?_
  refine xi_aload_n C dX5_load_22 rfl 0 rfl ?_
  refine xi_get C dX5_load_23 iw_X5_load_5 0 rfl rfl 1 (by decide) fl_X5_load_16 rfl ?_
  obtain ⟨⟨v14, at15, T16, S17⟩, e18, h⟩ := ob_i h
  refine xi_callV (As := [.ref (ad 7)]) (o := some (.int v14)) (rest := []) (w2 := (wLB ad hs ++ wBd cI (ad 1) (ad 2) (ad 3) (ad 4) (ad 5) (ad 6) b.1 b.2.1 b.2.2.1 b.2.2.2.1 b.2.2.2.2.1 b.2.2.2.2.2.1 b.2.2.2.2.2.2 ++ wBd cI (ad 7) (ad 8) (ad 9) (ad 10) (ad 11) (ad 12) T16 S17 L11 J4 E12 cp6 su7 ++ wBd cI (ad 13) (ad 14) (ad 15) (ad 16) (ad 17) (ad 18) s.1 s.2.1 s.2.2.1 s.2.2.2.1 s.2.2.2.2.1 s.2.2.2.2.2.1 s.2.2.2.2.2.2 ++ wHi cI cR (ad 19) (ad 20) ha hn pm hb ++ wLa cI (ad 21) (ad 22) K ++ wLo cI (ad 23) (ad 24) (ad 25) (ad 26) Dp Bt Sq se ++ wTe cC (ad 27) (ad 28) Sg ln at15)) (st2 := [.int v14]) C k_X4_readInto (m_X4_readInto D cI cC cZ cR (ad 27) (ad 28) (ad 7) (ad 8) (ad 9) (ad 10) (ad 11) (ad 12) Sg ln at_ T9 S10 L11 J4 E12 cp6 su7 v14 at15 T16 S17 e18) gX5_load_X4_readInto dX5_load_26 ⟨Nat.le_of_ble_eq_true rfl, Nat.le_of_ble_eq_true rfl, Nat.le_of_ble_eq_true rfl⟩ 51 rfl rfl [51, 52, 7, 8, 9, 10, 11, 12] mxC_X5_7_2 rfl [0, 1, 2, 3] rfl mxF_X5_7_2 mxM_X5_7_2 rfl (Nat.le_of_ble_eq_true rfl) ⟨Nat.zero_le _, Nat.zero_le _⟩ rfl ?_
  refine xi_istore_n (lv2 := [(0, .ref (ad 0)), (1, .int v14)]) C dX5_load_29 rfl (by decide) [0] [1, 0] rfl ?_
  refine xi_iload_n C dX5_load_30 rfl 1 rfl ?_
  refine xi_iconst (v := (-1)) C dX5_load_31 (by decide) ?_
  refine xi_icmp_eq (tgt := 40) C dX5_load_32 (by decide) (fun c19 => ?_) (fun c19 => ?_)
  · have h := it_i c19 h
    refine xi_aload_n C dX5_load_40 rfl 0 rfl ?_
    refine xi_get C dX5_load_41 iw_X5_load_5 0 rfl rfl 1 (by decide) fl_X5_load_16 rfl ?_
    obtain ⟨v20, e21, h⟩ := ob_i h
    refine xi_callV (As := []) (o := some (.int v20)) (rest := []) (w2 := (wLB ad hs ++ wBd cI (ad 1) (ad 2) (ad 3) (ad 4) (ad 5) (ad 6) b.1 b.2.1 b.2.2.1 b.2.2.2.1 b.2.2.2.2.1 b.2.2.2.2.2.1 b.2.2.2.2.2.2 ++ wBd cI (ad 7) (ad 8) (ad 9) (ad 10) (ad 11) (ad 12) T16 S17 L11 J4 E12 cp6 su7 ++ wBd cI (ad 13) (ad 14) (ad 15) (ad 16) (ad 17) (ad 18) s.1 s.2.1 s.2.2.1 s.2.2.2.1 s.2.2.2.2.1 s.2.2.2.2.2.1 s.2.2.2.2.2.2 ++ wHi cI cR (ad 19) (ad 20) ha hn pm hb ++ wLa cI (ad 21) (ad 22) K ++ wLo cI (ad 23) (ad 24) (ad 25) (ad 26) Dp Bt Sq se ++ wTe cC (ad 27) (ad 28) Sg ln at15)) (st2 := [.int v20]) C k_X0_hasAllSources (m_X0_hasAllSources D cI cC cZ cR (ad 7) (ad 8) (ad 9) (ad 10) (ad 11) (ad 12) T16 S17 L11 J4 E12 cp6 su7 v20 e21) gX5_load_X0_hasAllSources dX5_load_44 ⟨Nat.le_of_ble_eq_true rfl, Nat.le_of_ble_eq_true rfl, Nat.le_of_ble_eq_true rfl⟩ 7 rfl rfl [7, 8, 9, 10, 11, 12] mxC_X5_2 rfl [0, 1, 2, 3] rfl mxF_X5_2 mxM_X5_2 rfl (Nat.le_of_ble_eq_true rfl) ⟨Nat.zero_le _, Nat.zero_le _⟩ rfl ?_
    refine xi_if_ne (tgt := 53) C dX5_load_47 (by decide) (fun c22 => ?_) (fun c22 => ?_)
    · have h := ie_i c22 h
      refine xi_aload_n C dX5_load_53 rfl 0 rfl ?_
      refine xi_get C dX5_load_54 iw_X5_load_5 0 rfl rfl 4 (by decide) fl_X5_load_32 rfl ?_
      refine xi_aload_n C dX5_load_57 rfl 0 rfl ?_
      refine xi_get C dX5_load_58 iw_X5_load_5 0 rfl rfl 1 (by decide) fl_X5_load_16 rfl ?_
      refine xi_iconst (v := 0) C dX5_load_61 (by decide) ?_
      obtain ⟨⟨v23, K24, L25, J26, E27⟩, e28, h⟩ := ob_i h
      refine xi_callV (As := [.ref (ad 7), .int 0]) (o := some (.int v23)) (rest := []) (w2 := (wLB ad hs ++ wBd cI (ad 1) (ad 2) (ad 3) (ad 4) (ad 5) (ad 6) b.1 b.2.1 b.2.2.1 b.2.2.2.1 b.2.2.2.2.1 b.2.2.2.2.2.1 b.2.2.2.2.2.2 ++ wBd cI (ad 7) (ad 8) (ad 9) (ad 10) (ad 11) (ad 12) T16 S17 L25 J26 E27 cp6 su7 ++ wBd cI (ad 13) (ad 14) (ad 15) (ad 16) (ad 17) (ad 18) s.1 s.2.1 s.2.2.1 s.2.2.2.1 s.2.2.2.2.1 s.2.2.2.2.2.1 s.2.2.2.2.2.2 ++ wHi cI cR (ad 19) (ad 20) ha hn pm hb ++ wLa cI (ad 21) (ad 22) K24 ++ wLo cI (ad 23) (ad 24) (ad 25) (ad 26) Dp Bt Sq se ++ wTe cC (ad 27) (ad 28) Sg ln at15)) (st2 := [.int v23]) C k_X2_layAll (m_X2_layAll D cI cC cZ cR (ad 21) (ad 22) (ad 7) (ad 8) (ad 9) (ad 10) (ad 11) (ad 12) K T16 S17 L11 J4 E12 cp6 su7 0 v23 K24 L25 J26 E27 e28) gX5_load_X2_layAll dX5_load_62 ⟨Nat.le_of_ble_eq_true rfl, Nat.le_of_ble_eq_true rfl, Nat.le_of_ble_eq_true rfl⟩ 45 rfl rfl [45, 46, 7, 8, 9, 10, 11, 12] mxC_X5_5_2 rfl [0, 1, 2, 3] rfl mxF_X5_5_2 mxM_X5_5_2 rfl (Nat.le_of_ble_eq_true rfl) ⟨Nat.zero_le _, Nat.zero_le _⟩ rfl ?_
      refine xi_if_ge (tgt := 71) C dX5_load_65 (by decide) (fun c29 => ?_) (fun c29 => ?_)
      · have h := it_i c29 h
        refine xi_aload_n C dX5_load_71 rfl 0 rfl ?_
        obtain ⟨⟨b30, hn31, pm32, hb33⟩, e34, h⟩ := ob_i h
        refine xi_callV (As := []) (o := none) (rest := []) (w2 := (wLB ad hs ++ wBd cI (ad 1) (ad 2) (ad 3) (ad 4) (ad 5) (ad 6) b30.1 b30.2.1 b30.2.2.1 b30.2.2.2.1 b30.2.2.2.2.1 b30.2.2.2.2.2.1 b30.2.2.2.2.2.2 ++ wBd cI (ad 7) (ad 8) (ad 9) (ad 10) (ad 11) (ad 12) T16 S17 L25 J26 E27 cp6 su7 ++ wBd cI (ad 13) (ad 14) (ad 15) (ad 16) (ad 17) (ad 18) s.1 s.2.1 s.2.2.1 s.2.2.2.1 s.2.2.2.2.1 s.2.2.2.2.2.1 s.2.2.2.2.2.2 ++ wHi cI cR (ad 19) (ad 20) ha hn31 pm32 hb33 ++ wLa cI (ad 21) (ad 22) K24 ++ wLo cI (ad 23) (ad 24) (ad 25) (ad 26) Dp Bt Sq se ++ wTe cC (ad 27) (ad 28) Sg ln at15)) (st2 := []) C k_X5_acceptTrial (m_X5_acceptTrial D cI cC cZ cR ad ha hs b (T16, S17, L25, J26, E27, cp6, su7) s hn pm hb K24 Dp Bt Sq se Sg ln at15 b30 hn31 pm32 hb33 e34) gX5_load_X5_acceptTrial dX5_load_72 ⟨Nat.le_of_ble_eq_true rfl, Nat.le_of_ble_eq_true rfl, Nat.le_of_ble_eq_true rfl⟩ 0 rfl rfl [0, 1, 2, 3, 4, 5, 6, 7, 8, 9, 10, 11, 12, 13, 14, 15, 16, 17, 18, 19, 20, 21, 22, 23, 24, 25, 26, 27, 28, 29, 30, 31, 32, 33, 34, 35, 36, 37, 38, 39, 40, 41, 42, 43, 44, 45, 46, 47, 48, 49, 50, 51, 52] mxC_X5_0_1_2_3_4_5_6_7 rfl [0, 1, 2, 3] rfl mxF_X5_0_1_2_3_4_5_6_7 mxM_X5_0_1_2_3_4_5_6_7 rfl (Nat.le_of_ble_eq_true rfl) ⟨Nat.zero_le _, Nat.zero_le _⟩ rfl ?_
        refine xi_aload_n C dX5_load_75 rfl 0 rfl ?_
        refine xi_get C dX5_load_76 iw_X5_load_5 0 rfl rfl 0 (by decide) fl_X5_load_10 rfl ?_
        obtain ⟨v35, e36, h⟩ := ob_i h
        refine xi_callV (As := []) (o := some (.int v35)) (rest := []) (w2 := (wLB ad hs ++ wBd cI (ad 1) (ad 2) (ad 3) (ad 4) (ad 5) (ad 6) b30.1 b30.2.1 b30.2.2.1 b30.2.2.2.1 b30.2.2.2.2.1 b30.2.2.2.2.2.1 b30.2.2.2.2.2.2 ++ wBd cI (ad 7) (ad 8) (ad 9) (ad 10) (ad 11) (ad 12) T16 S17 L25 J26 E27 cp6 su7 ++ wBd cI (ad 13) (ad 14) (ad 15) (ad 16) (ad 17) (ad 18) s.1 s.2.1 s.2.2.1 s.2.2.2.1 s.2.2.2.2.1 s.2.2.2.2.2.1 s.2.2.2.2.2.2 ++ wHi cI cR (ad 19) (ad 20) ha hn31 pm32 hb33 ++ wLa cI (ad 21) (ad 22) K24 ++ wLo cI (ad 23) (ad 24) (ad 25) (ad 26) Dp Bt Sq se ++ wTe cC (ad 27) (ad 28) Sg ln at15)) (st2 := [.int v35]) C k_X0_cells (m_X0_cells D cI cC cZ cR (ad 1) (ad 2) (ad 3) (ad 4) (ad 5) (ad 6) b30.1 b30.2.1 b30.2.2.1 b30.2.2.2.1 b30.2.2.2.2.1 b30.2.2.2.2.2.1 b30.2.2.2.2.2.2 v35 e36) gX5_load_X0_cells dX5_load_79 ⟨Nat.le_of_ble_eq_true rfl, Nat.le_of_ble_eq_true rfl, Nat.le_of_ble_eq_true rfl⟩ 1 rfl rfl [1, 2, 3, 4, 5, 6] mxC_X5_1 rfl [0, 1, 2, 3] rfl mxF_X5_1 mxM_X5_1 rfl (Nat.le_of_ble_eq_true rfl) ⟨Nat.zero_le _, Nat.zero_le _⟩ rfl ?_
        have w0 := Option.some.inj h
        obtain ⟨q0, w1⟩ := Prod.mk.inj w0
        obtain ⟨q1, w2⟩ := Prod.mk.inj w1
        obtain ⟨q2, w3⟩ := Prod.mk.inj w2
        obtain ⟨q3, w4⟩ := Prod.mk.inj w3
        obtain ⟨q4, w5⟩ := Prod.mk.inj w4
        obtain ⟨q5, w6⟩ := Prod.mk.inj w5
        obtain ⟨q6, w7⟩ := Prod.mk.inj w6
        subst q0
        subst q1
        subst q2
        subst q3
        subst q4
        subst q5
        subst q6
        subst w7
        exact xi_iret C Z dX5_load_82
      · have h := ie_i c29 h
        refine xi_bipush (v := (-3)) C dX5_load_68 (by decide) ?_
        have w0 := Option.some.inj h
        obtain ⟨q0, w1⟩ := Prod.mk.inj w0
        obtain ⟨q1, w2⟩ := Prod.mk.inj w1
        obtain ⟨q2, w3⟩ := Prod.mk.inj w2
        obtain ⟨q3, w4⟩ := Prod.mk.inj w3
        obtain ⟨q4, w5⟩ := Prod.mk.inj w4
        obtain ⟨q5, w6⟩ := Prod.mk.inj w5
        obtain ⟨q6, w7⟩ := Prod.mk.inj w6
        subst q0
        subst q1
        subst q2
        subst q3
        subst q4
        subst q5
        subst q6
        subst w7
        exact xi_iret C Z dX5_load_70
    · have h := it_i c22 h
      refine xi_bipush (v := (-4)) C dX5_load_50 (by decide) ?_
      have w0 := Option.some.inj h
      obtain ⟨q0, w1⟩ := Prod.mk.inj w0
      obtain ⟨q1, w2⟩ := Prod.mk.inj w1
      obtain ⟨q2, w3⟩ := Prod.mk.inj w2
      obtain ⟨q3, w4⟩ := Prod.mk.inj w3
      obtain ⟨q4, w5⟩ := Prod.mk.inj w4
      obtain ⟨q5, w6⟩ := Prod.mk.inj w5
      obtain ⟨q6, w7⟩ := Prod.mk.inj w6
      subst q0
      subst q1
      subst q2
      subst q3
      subst q4
      subst q5
      subst q6
      subst w7
      exact xi_iret C Z dX5_load_52
  · have h := ie_i c19 h
    refine xi_bipush (v := (-100)) C dX5_load_35 (by decide) ?_
    refine xi_iload_n C dX5_load_37 rfl 1 rfl ?_
    refine xi_isub C dX5_load_38 ?_
    have w0 := Option.some.inj h
    obtain ⟨q0, w1⟩ := Prod.mk.inj w0
    obtain ⟨q1, w2⟩ := Prod.mk.inj w1
    obtain ⟨q2, w3⟩ := Prod.mk.inj w2
    obtain ⟨q3, w4⟩ := Prod.mk.inj w3
    obtain ⟨q4, w5⟩ := Prod.mk.inj w4
    obtain ⟨q5, w6⟩ := Prod.mk.inj w5
    obtain ⟨q6, w7⟩ := Prod.mk.inj w6
    subst q0
    subst q1
    subst q2
    subst q3
    subst q4
    subst q5
    subst q6
    subst w7
    exact xi_iret C Z dX5_load_39
def f_X5_type (Sg : Nat → Int32) (ln : Int32) (p1 : Int32) : Option (Int32 × (Nat → Int32) × Int32) :=
  (f_X4_append Sg ln p1).bind fun (v1, Sg2, ln3) =>
  if v1 = 0 then
    some ((-6), Sg2, ln3)
  else
    (f_X4_length ln3).bind fun v6 =>
    some (v6, Sg2, ln3)
theorem k_X5_type : xb_Y yX5_type cX5_type wsX5_type 2 (some .int) { frames := 1, cells := 0, slots := 0, locals := 21 } 1 := ⟨⟨_, rfl⟩, by decide, ⟨by decide, by decide, by decide +kernel⟩, rfl, rfl⟩
theorem fl_X5_type_46 : Cond.fieldLink RX5 46 "LookupBoard" "text" "LLookupBoard$PlanText;" ∈ wsX5_type := List.mem_of_getElem? (i := 1) rfl
theorem iw_X5_type_5 : ∀ w ∈ wsX50, w ∈ wsX5_type := fun w h => List.mem_cons_of_mem _ (List.mem_append_left _ (List.mem_append_right _ h))
set_option maxHeartbeats 4000000 in
set_option maxRecDepth 100000 in
theorem m_X5_type (D : va_G) (cI cC cZ cR : ClassId) (ad : Nat → Nat) (ha : Nat → Nat → Nat) (hs : Int32) (b : xBd) (t : xBd) (s : xBd) (hn : Int32) (pm : Nat → Nat) (hb : Nat → xBd) (K : Nat → Int32) (Dp : Nat → Int32) (Bt : Nat → Int32) (Sq : Nat → Int32) (se : Int32) (Sg : Nat → Int32) (ln : Int32) (at_ : Int32) (p1 : Int32) (r : Int32) (Sg' : Nat → Int32) (ln' : Int32) (h : f_X5_type Sg ln p1 = some (r, Sg', ln')) : xb_M cX5_type wsX5_type RX5 { frames := 1, cells := 0, slots := 0, locals := 21 } (some .int) 2 (xb_ty cI cC cZ cR) D [.ref (ad 0), .int p1] (wLB ad hs ++ wBd cI (ad 1) (ad 2) (ad 3) (ad 4) (ad 5) (ad 6) b.1 b.2.1 b.2.2.1 b.2.2.2.1 b.2.2.2.2.1 b.2.2.2.2.2.1 b.2.2.2.2.2.2 ++ wBd cI (ad 7) (ad 8) (ad 9) (ad 10) (ad 11) (ad 12) t.1 t.2.1 t.2.2.1 t.2.2.2.1 t.2.2.2.2.1 t.2.2.2.2.2.1 t.2.2.2.2.2.2 ++ wBd cI (ad 13) (ad 14) (ad 15) (ad 16) (ad 17) (ad 18) s.1 s.2.1 s.2.2.1 s.2.2.2.1 s.2.2.2.2.1 s.2.2.2.2.2.1 s.2.2.2.2.2.2 ++ wHi cI cR (ad 19) (ad 20) ha hn pm hb ++ wLa cI (ad 21) (ad 22) K ++ wLo cI (ad 23) (ad 24) (ad 25) (ad 26) Dp Bt Sq se ++ wTe cC (ad 27) (ad 28) Sg ln at_) (some (.int r)) (wLB ad hs ++ wBd cI (ad 1) (ad 2) (ad 3) (ad 4) (ad 5) (ad 6) b.1 b.2.1 b.2.2.1 b.2.2.2.1 b.2.2.2.2.1 b.2.2.2.2.2.1 b.2.2.2.2.2.2 ++ wBd cI (ad 7) (ad 8) (ad 9) (ad 10) (ad 11) (ad 12) t.1 t.2.1 t.2.2.1 t.2.2.2.1 t.2.2.2.2.1 t.2.2.2.2.2.1 t.2.2.2.2.2.2 ++ wBd cI (ad 13) (ad 14) (ad 15) (ad 16) (ad 17) (ad 18) s.1 s.2.1 s.2.2.1 s.2.2.2.1 s.2.2.2.2.1 s.2.2.2.2.2.1 s.2.2.2.2.2.2 ++ wHi cI cR (ad 19) (ad 20) ha hn pm hb ++ wLa cI (ad 21) (ad 22) K ++ wLo cI (ad 23) (ad 24) (ad 25) (ad 26) Dp Bt Sq se ++ wTe cC (ad 27) (ad 28) Sg' ln' at_) := by
  intro X C Z
  show xb_G X 0 0 (wLB ad hs ++ wBd cI (ad 1) (ad 2) (ad 3) (ad 4) (ad 5) (ad 6) b.1 b.2.1 b.2.2.1 b.2.2.2.1 b.2.2.2.2.1 b.2.2.2.2.2.1 b.2.2.2.2.2.2 ++ wBd cI (ad 7) (ad 8) (ad 9) (ad 10) (ad 11) (ad 12) t.1 t.2.1 t.2.2.1 t.2.2.2.1 t.2.2.2.2.1 t.2.2.2.2.2.1 t.2.2.2.2.2.2 ++ wBd cI (ad 13) (ad 14) (ad 15) (ad 16) (ad 17) (ad 18) s.1 s.2.1 s.2.2.1 s.2.2.2.1 s.2.2.2.2.1 s.2.2.2.2.2.1 s.2.2.2.2.2.2 ++ wHi cI cR (ad 19) (ad 20) ha hn pm hb ++ wLa cI (ad 21) (ad 22) K ++ wLo cI (ad 23) (ad 24) (ad 25) (ad 26) Dp Bt Sq se ++ wTe cC (ad 27) (ad 28) Sg ln at_) [(0, .ref (ad 0)), (1, .int p1)] 0 []
  unfold f_X5_type at h
  refine xi_aload_n C dX5_type_0 rfl 0 rfl ?_
  refine xi_get C dX5_type_1 iw_X5_type_5 0 rfl rfl 6 (by decide) fl_X5_type_46 rfl ?_
  refine xi_iload_n C dX5_type_4 rfl 1 rfl ?_
  obtain ⟨⟨v1, Sg2, ln3⟩, e4, h⟩ := ob_i h
  refine xi_callV (As := [.int p1]) (o := some (.int v1)) (rest := []) (w2 := (wLB ad hs ++ wBd cI (ad 1) (ad 2) (ad 3) (ad 4) (ad 5) (ad 6) b.1 b.2.1 b.2.2.1 b.2.2.2.1 b.2.2.2.2.1 b.2.2.2.2.2.1 b.2.2.2.2.2.2 ++ wBd cI (ad 7) (ad 8) (ad 9) (ad 10) (ad 11) (ad 12) t.1 t.2.1 t.2.2.1 t.2.2.2.1 t.2.2.2.2.1 t.2.2.2.2.2.1 t.2.2.2.2.2.2 ++ wBd cI (ad 13) (ad 14) (ad 15) (ad 16) (ad 17) (ad 18) s.1 s.2.1 s.2.2.1 s.2.2.2.1 s.2.2.2.2.1 s.2.2.2.2.2.1 s.2.2.2.2.2.2 ++ wHi cI cR (ad 19) (ad 20) ha hn pm hb ++ wLa cI (ad 21) (ad 22) K ++ wLo cI (ad 23) (ad 24) (ad 25) (ad 26) Dp Bt Sq se ++ wTe cC (ad 27) (ad 28) Sg2 ln3 at_)) (st2 := [.int v1]) C k_X4_append (m_X4_append D cI cC cZ cR (ad 27) (ad 28) Sg ln at_ p1 v1 Sg2 ln3 e4) gX5_type_X4_append dX5_type_5 ⟨Nat.le_of_ble_eq_true rfl, Nat.le_of_ble_eq_true rfl, Nat.le_of_ble_eq_true rfl⟩ 51 rfl rfl [51, 52] mxC_X5_7 rfl [0, 1, 2, 3] rfl mxF_X5_7 mxM_X5_7 rfl (Nat.le_of_ble_eq_true rfl) ⟨Nat.zero_le _, Nat.zero_le _⟩ rfl ?_
  refine xi_if_eq (tgt := 21) C dX5_type_8 (by decide) (fun c5 => ?_) (fun c5 => ?_)
  · have h := it_i c5 h
    refine xi_bipush (v := (-6)) C dX5_type_21 (by decide) ?_
    have w0 := Option.some.inj h
    obtain ⟨q0, w1⟩ := Prod.mk.inj w0
    obtain ⟨q1, w2⟩ := Prod.mk.inj w1
    subst q0
    subst q1
    subst w2
    exact xi_iret C Z dX5_type_23
  · have h := ie_i c5 h
    refine xi_aload_n C dX5_type_11 rfl 0 rfl ?_
    refine xi_get C dX5_type_12 iw_X5_type_5 0 rfl rfl 6 (by decide) fl_X5_type_46 rfl ?_
    obtain ⟨v6, e7, h⟩ := ob_i h
    refine xi_callV (As := []) (o := some (.int v6)) (rest := []) (w2 := (wLB ad hs ++ wBd cI (ad 1) (ad 2) (ad 3) (ad 4) (ad 5) (ad 6) b.1 b.2.1 b.2.2.1 b.2.2.2.1 b.2.2.2.2.1 b.2.2.2.2.2.1 b.2.2.2.2.2.2 ++ wBd cI (ad 7) (ad 8) (ad 9) (ad 10) (ad 11) (ad 12) t.1 t.2.1 t.2.2.1 t.2.2.2.1 t.2.2.2.2.1 t.2.2.2.2.2.1 t.2.2.2.2.2.2 ++ wBd cI (ad 13) (ad 14) (ad 15) (ad 16) (ad 17) (ad 18) s.1 s.2.1 s.2.2.1 s.2.2.2.1 s.2.2.2.2.1 s.2.2.2.2.2.1 s.2.2.2.2.2.2 ++ wHi cI cR (ad 19) (ad 20) ha hn pm hb ++ wLa cI (ad 21) (ad 22) K ++ wLo cI (ad 23) (ad 24) (ad 25) (ad 26) Dp Bt Sq se ++ wTe cC (ad 27) (ad 28) Sg2 ln3 at_)) (st2 := [.int v6]) C k_X4_length (m_X4_length D cI cC cZ cR (ad 27) (ad 28) Sg2 ln3 at_ v6 e7) gX5_type_X4_length dX5_type_15 ⟨Nat.le_of_ble_eq_true rfl, Nat.le_of_ble_eq_true rfl, Nat.le_of_ble_eq_true rfl⟩ 51 rfl rfl [51, 52] mxC_X5_7 rfl [0, 1, 2, 3] rfl mxF_X5_7 mxM_X5_7 rfl (Nat.le_of_ble_eq_true rfl) ⟨Nat.zero_le _, Nat.zero_le _⟩ rfl ?_
    refine xi_goto (tgt := 23) C dX5_type_18 (by decide) ?_
    have w0 := Option.some.inj h
    obtain ⟨q0, w1⟩ := Prod.mk.inj w0
    obtain ⟨q1, w2⟩ := Prod.mk.inj w1
    subst q0
    subst q1
    subst w2
    exact xi_iret C Z dX5_type_23
def f_X5_clearText (ln : Int32) : Option (Int32 × Int32) :=
  (f_X4_length ln).bind fun v1 =>
  (f_X4_empty ln).bind fun ln3 =>
  some (v1, ln3)
theorem k_X5_clearText : xb_Y yX5_clearText cX5_clearText wsX5_clearText 2 (some .int) { frames := 1, cells := 0, slots := 0, locals := 20 } 0 := ⟨⟨_, rfl⟩, by decide, ⟨by decide, by decide, by decide +kernel⟩, rfl, rfl⟩
theorem fl_X5_clearText_46 : Cond.fieldLink RX5 46 "LookupBoard" "text" "LLookupBoard$PlanText;" ∈ wsX5_clearText := List.mem_of_getElem? (i := 1) rfl
theorem iw_X5_clearText_5 : ∀ w ∈ wsX50, w ∈ wsX5_clearText := fun w h => List.mem_cons_of_mem _ (List.mem_append_left _ (List.mem_append_right _ h))
set_option maxHeartbeats 4000000 in
set_option maxRecDepth 100000 in
theorem m_X5_clearText (D : va_G) (cI cC cZ cR : ClassId) (ad : Nat → Nat) (ha : Nat → Nat → Nat) (hs : Int32) (b : xBd) (t : xBd) (s : xBd) (hn : Int32) (pm : Nat → Nat) (hb : Nat → xBd) (K : Nat → Int32) (Dp : Nat → Int32) (Bt : Nat → Int32) (Sq : Nat → Int32) (se : Int32) (Sg : Nat → Int32) (ln : Int32) (at_ : Int32) (r : Int32) (ln' : Int32) (h : f_X5_clearText ln = some (r, ln')) : xb_M cX5_clearText wsX5_clearText RX5 { frames := 1, cells := 0, slots := 0, locals := 20 } (some .int) 2 (xb_ty cI cC cZ cR) D [.ref (ad 0)] (wLB ad hs ++ wBd cI (ad 1) (ad 2) (ad 3) (ad 4) (ad 5) (ad 6) b.1 b.2.1 b.2.2.1 b.2.2.2.1 b.2.2.2.2.1 b.2.2.2.2.2.1 b.2.2.2.2.2.2 ++ wBd cI (ad 7) (ad 8) (ad 9) (ad 10) (ad 11) (ad 12) t.1 t.2.1 t.2.2.1 t.2.2.2.1 t.2.2.2.2.1 t.2.2.2.2.2.1 t.2.2.2.2.2.2 ++ wBd cI (ad 13) (ad 14) (ad 15) (ad 16) (ad 17) (ad 18) s.1 s.2.1 s.2.2.1 s.2.2.2.1 s.2.2.2.2.1 s.2.2.2.2.2.1 s.2.2.2.2.2.2 ++ wHi cI cR (ad 19) (ad 20) ha hn pm hb ++ wLa cI (ad 21) (ad 22) K ++ wLo cI (ad 23) (ad 24) (ad 25) (ad 26) Dp Bt Sq se ++ wTe cC (ad 27) (ad 28) Sg ln at_) (some (.int r)) (wLB ad hs ++ wBd cI (ad 1) (ad 2) (ad 3) (ad 4) (ad 5) (ad 6) b.1 b.2.1 b.2.2.1 b.2.2.2.1 b.2.2.2.2.1 b.2.2.2.2.2.1 b.2.2.2.2.2.2 ++ wBd cI (ad 7) (ad 8) (ad 9) (ad 10) (ad 11) (ad 12) t.1 t.2.1 t.2.2.1 t.2.2.2.1 t.2.2.2.2.1 t.2.2.2.2.2.1 t.2.2.2.2.2.2 ++ wBd cI (ad 13) (ad 14) (ad 15) (ad 16) (ad 17) (ad 18) s.1 s.2.1 s.2.2.1 s.2.2.2.1 s.2.2.2.2.1 s.2.2.2.2.2.1 s.2.2.2.2.2.2 ++ wHi cI cR (ad 19) (ad 20) ha hn pm hb ++ wLa cI (ad 21) (ad 22) K ++ wLo cI (ad 23) (ad 24) (ad 25) (ad 26) Dp Bt Sq se ++ wTe cC (ad 27) (ad 28) Sg ln' at_) := by
  intro X C Z
  show xb_G X 0 0 (wLB ad hs ++ wBd cI (ad 1) (ad 2) (ad 3) (ad 4) (ad 5) (ad 6) b.1 b.2.1 b.2.2.1 b.2.2.2.1 b.2.2.2.2.1 b.2.2.2.2.2.1 b.2.2.2.2.2.2 ++ wBd cI (ad 7) (ad 8) (ad 9) (ad 10) (ad 11) (ad 12) t.1 t.2.1 t.2.2.1 t.2.2.2.1 t.2.2.2.2.1 t.2.2.2.2.2.1 t.2.2.2.2.2.2 ++ wBd cI (ad 13) (ad 14) (ad 15) (ad 16) (ad 17) (ad 18) s.1 s.2.1 s.2.2.1 s.2.2.2.1 s.2.2.2.2.1 s.2.2.2.2.2.1 s.2.2.2.2.2.2 ++ wHi cI cR (ad 19) (ad 20) ha hn pm hb ++ wLa cI (ad 21) (ad 22) K ++ wLo cI (ad 23) (ad 24) (ad 25) (ad 26) Dp Bt Sq se ++ wTe cC (ad 27) (ad 28) Sg ln at_) [(0, .ref (ad 0))] 0 []
  unfold f_X5_clearText at h
  refine xi_aload_n C dX5_clearText_0 rfl 0 rfl ?_
  refine xi_get C dX5_clearText_1 iw_X5_clearText_5 0 rfl rfl 6 (by decide) fl_X5_clearText_46 rfl ?_
  obtain ⟨v1, e2, h⟩ := ob_i h
  refine xi_callV (As := []) (o := some (.int v1)) (rest := []) (w2 := (wLB ad hs ++ wBd cI (ad 1) (ad 2) (ad 3) (ad 4) (ad 5) (ad 6) b.1 b.2.1 b.2.2.1 b.2.2.2.1 b.2.2.2.2.1 b.2.2.2.2.2.1 b.2.2.2.2.2.2 ++ wBd cI (ad 7) (ad 8) (ad 9) (ad 10) (ad 11) (ad 12) t.1 t.2.1 t.2.2.1 t.2.2.2.1 t.2.2.2.2.1 t.2.2.2.2.2.1 t.2.2.2.2.2.2 ++ wBd cI (ad 13) (ad 14) (ad 15) (ad 16) (ad 17) (ad 18) s.1 s.2.1 s.2.2.1 s.2.2.2.1 s.2.2.2.2.1 s.2.2.2.2.2.1 s.2.2.2.2.2.2 ++ wHi cI cR (ad 19) (ad 20) ha hn pm hb ++ wLa cI (ad 21) (ad 22) K ++ wLo cI (ad 23) (ad 24) (ad 25) (ad 26) Dp Bt Sq se ++ wTe cC (ad 27) (ad 28) Sg ln at_)) (st2 := [.int v1]) C k_X4_length (m_X4_length D cI cC cZ cR (ad 27) (ad 28) Sg ln at_ v1 e2) gX5_clearText_X4_length dX5_clearText_4 ⟨Nat.le_of_ble_eq_true rfl, Nat.le_of_ble_eq_true rfl, Nat.le_of_ble_eq_true rfl⟩ 51 rfl rfl [51, 52] mxC_X5_7 rfl [0, 1, 2, 3] rfl mxF_X5_7 mxM_X5_7 rfl (Nat.le_of_ble_eq_true rfl) ⟨Nat.zero_le _, Nat.zero_le _⟩ rfl ?_
  refine xi_istore_n (lv2 := [(0, .ref (ad 0)), (1, .int v1)]) C dX5_clearText_7 rfl (by decide) [0] [1, 0] rfl ?_
  refine xi_aload_n C dX5_clearText_8 rfl 0 rfl ?_
  refine xi_get C dX5_clearText_9 iw_X5_clearText_5 0 rfl rfl 6 (by decide) fl_X5_clearText_46 rfl ?_
  obtain ⟨ln3, e4, h⟩ := ob_i h
  refine xi_callV (As := []) (o := none) (rest := []) (w2 := (wLB ad hs ++ wBd cI (ad 1) (ad 2) (ad 3) (ad 4) (ad 5) (ad 6) b.1 b.2.1 b.2.2.1 b.2.2.2.1 b.2.2.2.2.1 b.2.2.2.2.2.1 b.2.2.2.2.2.2 ++ wBd cI (ad 7) (ad 8) (ad 9) (ad 10) (ad 11) (ad 12) t.1 t.2.1 t.2.2.1 t.2.2.2.1 t.2.2.2.2.1 t.2.2.2.2.2.1 t.2.2.2.2.2.2 ++ wBd cI (ad 13) (ad 14) (ad 15) (ad 16) (ad 17) (ad 18) s.1 s.2.1 s.2.2.1 s.2.2.2.1 s.2.2.2.2.1 s.2.2.2.2.2.1 s.2.2.2.2.2.2 ++ wHi cI cR (ad 19) (ad 20) ha hn pm hb ++ wLa cI (ad 21) (ad 22) K ++ wLo cI (ad 23) (ad 24) (ad 25) (ad 26) Dp Bt Sq se ++ wTe cC (ad 27) (ad 28) Sg ln3 at_)) (st2 := []) C k_X4_empty (m_X4_empty D cI cC cZ cR (ad 27) (ad 28) Sg ln at_ ln3 e4) gX5_clearText_X4_empty dX5_clearText_12 ⟨Nat.le_of_ble_eq_true rfl, Nat.le_of_ble_eq_true rfl, Nat.le_of_ble_eq_true rfl⟩ 51 rfl rfl [51, 52] mxC_X5_7 rfl [0, 1, 2, 3] rfl mxF_X5_7 mxM_X5_7 rfl (Nat.le_of_ble_eq_true rfl) ⟨Nat.zero_le _, Nat.zero_le _⟩ rfl ?_
  refine xi_iload_n C dX5_clearText_15 rfl 1 rfl ?_
  have w0 := Option.some.inj h
  obtain ⟨q0, w1⟩ := Prod.mk.inj w0
  subst q0
  subst w1
  exact xi_iret C Z dX5_clearText_16
def f_X5_undo (b : xBd) (hn : Int32) (pm : Nat → Nat) (hb : Nat → xBd) : Option (Int32 × xBd × Int32) :=
  (f_X1_bringBack hn pm hb b).bind fun (v1, hn2, b3) =>
  if v1 = 0 then
    some ((-5), b3, hn2)
  else
    (f_X1_size hn2).bind fun v6 =>
    some (v6, b3, hn2)
theorem k_X5_undo : xb_Y yX5_undo cX5_undo wsX5_undo 1 (some .int) { frames := 3, cells := 0, slots := 0, locals := 83 } 0 := ⟨⟨_, rfl⟩, by decide, ⟨by decide, by decide, by decide +kernel⟩, rfl, rfl⟩
theorem fl_X5_undo_10 : Cond.fieldLink RX5 10 "LookupBoard" "board" "LLookupBoard$Board;" ∈ wsX5_undo := List.mem_of_getElem? (i := 2) rfl
theorem fl_X5_undo_25 : Cond.fieldLink RX5 25 "LookupBoard" "history" "LLookupBoard$History;" ∈ wsX5_undo := List.mem_of_getElem? (i := 1) rfl
theorem iw_X5_undo_5 : ∀ w ∈ wsX50, w ∈ wsX5_undo := fun w h => List.mem_cons_of_mem _ (List.mem_append_left _ (List.mem_append_left _ (List.mem_append_right _ h)))
set_option maxHeartbeats 4000000 in
set_option maxRecDepth 100000 in
theorem m_X5_undo (D : va_G) (cI cC cZ cR : ClassId) (ad : Nat → Nat) (ha : Nat → Nat → Nat) (hs : Int32) (b : xBd) (t : xBd) (s : xBd) (hn : Int32) (pm : Nat → Nat) (hb : Nat → xBd) (K : Nat → Int32) (Dp : Nat → Int32) (Bt : Nat → Int32) (Sq : Nat → Int32) (se : Int32) (Sg : Nat → Int32) (ln : Int32) (at_ : Int32) (r : Int32) (b' : xBd) (hn' : Int32) (h : f_X5_undo b hn pm hb = some (r, b', hn')) : xb_M cX5_undo wsX5_undo RX5 { frames := 3, cells := 0, slots := 0, locals := 83 } (some .int) 1 (xb_ty cI cC cZ cR) D [.ref (ad 0)] (wLB ad hs ++ wBd cI (ad 1) (ad 2) (ad 3) (ad 4) (ad 5) (ad 6) b.1 b.2.1 b.2.2.1 b.2.2.2.1 b.2.2.2.2.1 b.2.2.2.2.2.1 b.2.2.2.2.2.2 ++ wBd cI (ad 7) (ad 8) (ad 9) (ad 10) (ad 11) (ad 12) t.1 t.2.1 t.2.2.1 t.2.2.2.1 t.2.2.2.2.1 t.2.2.2.2.2.1 t.2.2.2.2.2.2 ++ wBd cI (ad 13) (ad 14) (ad 15) (ad 16) (ad 17) (ad 18) s.1 s.2.1 s.2.2.1 s.2.2.2.1 s.2.2.2.2.1 s.2.2.2.2.2.1 s.2.2.2.2.2.2 ++ wHi cI cR (ad 19) (ad 20) ha hn pm hb ++ wLa cI (ad 21) (ad 22) K ++ wLo cI (ad 23) (ad 24) (ad 25) (ad 26) Dp Bt Sq se ++ wTe cC (ad 27) (ad 28) Sg ln at_) (some (.int r)) (wLB ad hs ++ wBd cI (ad 1) (ad 2) (ad 3) (ad 4) (ad 5) (ad 6) b'.1 b'.2.1 b'.2.2.1 b'.2.2.2.1 b'.2.2.2.2.1 b'.2.2.2.2.2.1 b'.2.2.2.2.2.2 ++ wBd cI (ad 7) (ad 8) (ad 9) (ad 10) (ad 11) (ad 12) t.1 t.2.1 t.2.2.1 t.2.2.2.1 t.2.2.2.2.1 t.2.2.2.2.2.1 t.2.2.2.2.2.2 ++ wBd cI (ad 13) (ad 14) (ad 15) (ad 16) (ad 17) (ad 18) s.1 s.2.1 s.2.2.1 s.2.2.2.1 s.2.2.2.2.1 s.2.2.2.2.2.1 s.2.2.2.2.2.2 ++ wHi cI cR (ad 19) (ad 20) ha hn' pm hb ++ wLa cI (ad 21) (ad 22) K ++ wLo cI (ad 23) (ad 24) (ad 25) (ad 26) Dp Bt Sq se ++ wTe cC (ad 27) (ad 28) Sg ln at_) := by
  intro X C Z
  show xb_G X 0 0 (wLB ad hs ++ wBd cI (ad 1) (ad 2) (ad 3) (ad 4) (ad 5) (ad 6) b.1 b.2.1 b.2.2.1 b.2.2.2.1 b.2.2.2.2.1 b.2.2.2.2.2.1 b.2.2.2.2.2.2 ++ wBd cI (ad 7) (ad 8) (ad 9) (ad 10) (ad 11) (ad 12) t.1 t.2.1 t.2.2.1 t.2.2.2.1 t.2.2.2.2.1 t.2.2.2.2.2.1 t.2.2.2.2.2.2 ++ wBd cI (ad 13) (ad 14) (ad 15) (ad 16) (ad 17) (ad 18) s.1 s.2.1 s.2.2.1 s.2.2.2.1 s.2.2.2.2.1 s.2.2.2.2.2.1 s.2.2.2.2.2.2 ++ wHi cI cR (ad 19) (ad 20) ha hn pm hb ++ wLa cI (ad 21) (ad 22) K ++ wLo cI (ad 23) (ad 24) (ad 25) (ad 26) Dp Bt Sq se ++ wTe cC (ad 27) (ad 28) Sg ln at_) [(0, .ref (ad 0))] 0 []
  unfold f_X5_undo at h
  refine xi_aload_n C dX5_undo_0 rfl 0 rfl ?_
  refine xi_get C dX5_undo_1 iw_X5_undo_5 0 rfl rfl 3 (by decide) fl_X5_undo_25 rfl ?_
  refine xi_aload_n C dX5_undo_4 rfl 0 rfl ?_
  refine xi_get C dX5_undo_5 iw_X5_undo_5 0 rfl rfl 0 (by decide) fl_X5_undo_10 rfl ?_
  obtain ⟨⟨v1, hn2, b3⟩, e4, h⟩ := ob_i h
  refine xi_callV (As := [.ref (ad 1)]) (o := some (.int v1)) (rest := []) (w2 := (wLB ad hs ++ wBd cI (ad 1) (ad 2) (ad 3) (ad 4) (ad 5) (ad 6) b3.1 b3.2.1 b3.2.2.1 b3.2.2.2.1 b3.2.2.2.2.1 b3.2.2.2.2.2.1 b3.2.2.2.2.2.2 ++ wBd cI (ad 7) (ad 8) (ad 9) (ad 10) (ad 11) (ad 12) t.1 t.2.1 t.2.2.1 t.2.2.2.1 t.2.2.2.2.1 t.2.2.2.2.2.1 t.2.2.2.2.2.2 ++ wBd cI (ad 13) (ad 14) (ad 15) (ad 16) (ad 17) (ad 18) s.1 s.2.1 s.2.2.1 s.2.2.2.1 s.2.2.2.2.1 s.2.2.2.2.2.1 s.2.2.2.2.2.2 ++ wHi cI cR (ad 19) (ad 20) ha hn2 pm hb ++ wLa cI (ad 21) (ad 22) K ++ wLo cI (ad 23) (ad 24) (ad 25) (ad 26) Dp Bt Sq se ++ wTe cC (ad 27) (ad 28) Sg ln at_)) (st2 := [.int v1]) C k_X1_bringBack (m_X1_bringBack D cI cC cZ cR (ad 19) (ad 20) ha (ad 1) (ad 2) (ad 3) (ad 4) (ad 5) (ad 6) hn pm hb b v1 hn2 b3 e4) gX5_undo_X1_bringBack dX5_undo_8 ⟨Nat.le_of_ble_eq_true rfl, Nat.le_of_ble_eq_true rfl, Nat.le_of_ble_eq_true rfl⟩ 19 rfl rfl [19, 20, 21, 22, 23, 24, 25, 26, 27, 28, 29, 30, 31, 32, 33, 34, 35, 36, 37, 38, 39, 40, 41, 42, 43, 44, 1, 2, 3, 4, 5, 6] mxC_X5_4_1 rfl [0, 1, 2, 3] rfl mxF_X5_4_1 mxM_X5_4_1 rfl (Nat.le_of_ble_eq_true rfl) ⟨Nat.zero_le _, Nat.zero_le _⟩ rfl ?_
  refine xi_if_eq (tgt := 24) C dX5_undo_11 (by decide) (fun c5 => ?_) (fun c5 => ?_)
  · have h := it_i c5 h
    refine xi_bipush (v := (-5)) C dX5_undo_24 (by decide) ?_
    have w0 := Option.some.inj h
    obtain ⟨q0, w1⟩ := Prod.mk.inj w0
    obtain ⟨q1, w2⟩ := Prod.mk.inj w1
    subst q0
    subst q1
    subst w2
    exact xi_iret C Z dX5_undo_26
  · have h := ie_i c5 h
    refine xi_aload_n C dX5_undo_14 rfl 0 rfl ?_
    refine xi_get C dX5_undo_15 iw_X5_undo_5 0 rfl rfl 3 (by decide) fl_X5_undo_25 rfl ?_
    obtain ⟨v6, e7, h⟩ := ob_i h
    refine xi_callV (As := []) (o := some (.int v6)) (rest := []) (w2 := (wLB ad hs ++ wBd cI (ad 1) (ad 2) (ad 3) (ad 4) (ad 5) (ad 6) b3.1 b3.2.1 b3.2.2.1 b3.2.2.2.1 b3.2.2.2.2.1 b3.2.2.2.2.2.1 b3.2.2.2.2.2.2 ++ wBd cI (ad 7) (ad 8) (ad 9) (ad 10) (ad 11) (ad 12) t.1 t.2.1 t.2.2.1 t.2.2.2.1 t.2.2.2.2.1 t.2.2.2.2.2.1 t.2.2.2.2.2.2 ++ wBd cI (ad 13) (ad 14) (ad 15) (ad 16) (ad 17) (ad 18) s.1 s.2.1 s.2.2.1 s.2.2.2.1 s.2.2.2.2.1 s.2.2.2.2.2.1 s.2.2.2.2.2.2 ++ wHi cI cR (ad 19) (ad 20) ha hn2 pm hb ++ wLa cI (ad 21) (ad 22) K ++ wLo cI (ad 23) (ad 24) (ad 25) (ad 26) Dp Bt Sq se ++ wTe cC (ad 27) (ad 28) Sg ln at_)) (st2 := [.int v6]) C k_X1_size (m_X1_size D cI cC cZ cR (ad 19) (ad 20) ha hn2 pm hb v6 e7) gX5_undo_X1_size dX5_undo_18 ⟨Nat.le_of_ble_eq_true rfl, Nat.le_of_ble_eq_true rfl, Nat.le_of_ble_eq_true rfl⟩ 19 rfl rfl [19, 20, 21, 22, 23, 24, 25, 26, 27, 28, 29, 30, 31, 32, 33, 34, 35, 36, 37, 38, 39, 40, 41, 42, 43, 44] mxC_X5_4 rfl [0, 1, 2, 3] rfl mxF_X5_4 mxM_X5_4 rfl (Nat.le_of_ble_eq_true rfl) ⟨Nat.zero_le _, Nat.zero_le _⟩ rfl ?_
    refine xi_goto (tgt := 26) C dX5_undo_21 (by decide) ?_
    have w0 := Option.some.inj h
    obtain ⟨q0, w1⟩ := Prod.mk.inj w0
    obtain ⟨q1, w2⟩ := Prod.mk.inj w1
    subst q0
    subst q1
    subst w2
    exact xi_iret C Z dX5_undo_26
