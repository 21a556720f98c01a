def f_X5_keep (hs : Int32) (b : xBd) (s : xBd) : Option (Int32 × Int32 × xBd) :=
  (f_X0_copyFrom s.1 s.2.1 s.2.2.1 s.2.2.2.1 s.2.2.2.2.1 s.2.2.2.2.2.1 s.2.2.2.2.2.2 b.1 b.2.1 b.2.2.1 b.2.2.2.1 b.2.2.2.2.1 b.2.2.2.2.2.1 b.2.2.2.2.2.2).bind fun (T1, S2, L3, J4, E5, cp6, su7) =>
  (f_X0_cells b.1).bind fun v9 =>
  some (v9, 1, (T1, S2, L3, J4, E5, cp6, su7))
theorem k_X5_keep : xb_Y yX5_keep cX5_keep wsX5_keep 1 (some .int) { frames := 3, cells := 0, slots := 0, locals := 63 } 0 := ⟨⟨_, rfl⟩, by decide, ⟨by decide, by decide, by decide +kernel⟩, rfl, rfl⟩
theorem fl_X5_keep_10 : Cond.fieldLink RX5 10 "LookupBoard" "board" "LLookupBoard$Board;" ∈ wsX5_keep := List.mem_of_getElem? (i := 2) rfl
theorem fl_X5_keep_19 : Cond.fieldLink RX5 19 "LookupBoard" "snapshot" "LLookupBoard$Board;" ∈ wsX5_keep := List.mem_of_getElem? (i := 1) rfl
theorem fl_X5_keep_50 : Cond.fieldLink RX5 50 "LookupBoard" "hasSnapshot" "Z" ∈ wsX5_keep := List.mem_of_getElem? (i := 3) rfl
theorem iw_X5_keep_5 : ∀ w ∈ wsX50, w ∈ wsX5_keep := fun w h => List.mem_cons_of_mem _ (List.mem_append_left _ (List.mem_append_right _ h))
set_option maxHeartbeats 4000000 in
set_option maxRecDepth 100000 in
theorem m_X5_keep (D : va_G) (cI cC cZ cR : ClassId) (ad : Nat → Nat) (ha : Nat → Nat → Nat) (hs : Int32) (b : xBd) (t : xBd) (s : xBd) (hn : Int32) (pm : Nat → Nat) (hb : Nat → xBd) (K : Nat → Int32) (Dp : Nat → Int32) (Bt : Nat → Int32) (Sq : Nat → Int32) (se : Int32) (Sg : Nat → Int32) (ln : Int32) (at_ : Int32) (r : Int32) (hs' : Int32) (s' : xBd) (h : f_X5_keep hs b s = some (r, hs', s')) : xb_M cX5_keep wsX5_keep RX5 { frames := 3, cells := 0, slots := 0, locals := 63 } (some .int) 1 (xb_ty cI cC cZ cR) D [.ref (ad 0)] (wLB ad hs ++ wBd cI (ad 1) (ad 2) (ad 3) (ad 4) (ad 5) (ad 6) b.1 b.2.1 b.2.2.1 b.2.2.2.1 b.2.2.2.2.1 b.2.2.2.2.2.1 b.2.2.2.2.2.2 ++ wBd cI (ad 7) (ad 8) (ad 9) (ad 10) (ad 11) (ad 12) t.1 t.2.1 t.2.2.1 t.2.2.2.1 t.2.2.2.2.1 t.2.2.2.2.2.1 t.2.2.2.2.2.2 ++ wBd cI (ad 13) (ad 14) (ad 15) (ad 16) (ad 17) (ad 18) s.1 s.2.1 s.2.2.1 s.2.2.2.1 s.2.2.2.2.1 s.2.2.2.2.2.1 s.2.2.2.2.2.2 ++ wHi cI cR (ad 19) (ad 20) ha hn pm hb ++ wLa cI (ad 21) (ad 22) K ++ wLo cI (ad 23) (ad 24) (ad 25) (ad 26) Dp Bt Sq se ++ wTe cC (ad 27) (ad 28) Sg ln at_) (some (.int r)) (wLB ad hs' ++ wBd cI (ad 1) (ad 2) (ad 3) (ad 4) (ad 5) (ad 6) b.1 b.2.1 b.2.2.1 b.2.2.2.1 b.2.2.2.2.1 b.2.2.2.2.2.1 b.2.2.2.2.2.2 ++ wBd cI (ad 7) (ad 8) (ad 9) (ad 10) (ad 11) (ad 12) t.1 t.2.1 t.2.2.1 t.2.2.2.1 t.2.2.2.2.1 t.2.2.2.2.2.1 t.2.2.2.2.2.2 ++ wBd cI (ad 13) (ad 14) (ad 15) (ad 16) (ad 17) (ad 18) s'.1 s'.2.1 s'.2.2.1 s'.2.2.2.1 s'.2.2.2.2.1 s'.2.2.2.2.2.1 s'.2.2.2.2.2.2 ++ wHi cI cR (ad 19) (ad 20) ha hn pm hb ++ wLa cI (ad 21) (ad 22) K ++ wLo cI (ad 23) (ad 24) (ad 25) (ad 26) Dp Bt Sq se ++ wTe cC (ad 27) (ad 28) Sg ln at_) := by
  intro X C Z
  show xb_G X 0 0 (wLB ad hs ++ wBd cI (ad 1) (ad 2) (ad 3) (ad 4) (ad 5) (ad 6) b.1 b.2.1 b.2.2.1 b.2.2.2.1 b.2.2.2.2.1 b.2.2.2.2.2.1 b.2.2.2.2.2.2 ++ wBd cI (ad 7) (ad 8) (ad 9) (ad 10) (ad 11) (ad 12) t.1 t.2.1 t.2.2.1 t.2.2.2.1 t.2.2.2.2.1 t.2.2.2.2.2.1 t.2.2.2.2.2.2 ++ wBd cI (ad 13) (ad 14) (ad 15) (ad 16) (ad 17) (ad 18) s.1 s.2.1 s.2.2.1 s.2.2.2.1 s.2.2.2.2.1 s.2.2.2.2.2.1 s.2.2.2.2.2.2 ++ wHi cI cR (ad 19) (ad 20) ha hn pm hb ++ wLa cI (ad 21) (ad 22) K ++ wLo cI (ad 23) (ad 24) (ad 25) (ad 26) Dp Bt Sq se ++ wTe cC (ad 27) (ad 28) Sg ln at_) [(0, .ref (ad 0))] 0 []
  unfold f_X5_keep at h
  refine xi_aload_n C dX5_keep_0 rfl 0 rfl ?_
  refine xi_get C dX5_keep_1 iw_X5_keep_5 0 rfl rfl 2 (by decide) fl_X5_keep_19 rfl ?_
  refine xi_aload_n C dX5_keep_4 rfl 0 rfl ?_
  refine xi_get C dX5_keep_5 iw_X5_keep_5 0 rfl rfl 0 (by decide) fl_X5_keep_10 rfl ?_
  obtain ⟨⟨T1, S2, L3, J4, E5, cp6, su7⟩, e8, h⟩ := ob_i h
  refine xi_callV (As := [.ref (ad 1)]) (o := none) (rest := []) (w2 := (wLB ad hs ++ wBd cI (ad 1) (ad 2) (ad 3) (ad 4) (ad 5) (ad 6) b.1 b.2.1 b.2.2.1 b.2.2.2.1 b.2.2.2.2.1 b.2.2.2.2.2.1 b.2.2.2.2.2.2 ++ wBd cI (ad 7) (ad 8) (ad 9) (ad 10) (ad 11) (ad 12) t.1 t.2.1 t.2.2.1 t.2.2.2.1 t.2.2.2.2.1 t.2.2.2.2.2.1 t.2.2.2.2.2.2 ++ wBd cI (ad 13) (ad 14) (ad 15) (ad 16) (ad 17) (ad 18) T1 S2 L3 J4 E5 cp6 su7 ++ wHi cI cR (ad 19) (ad 20) ha hn pm hb ++ wLa cI (ad 21) (ad 22) K ++ wLo cI (ad 23) (ad 24) (ad 25) (ad 26) Dp Bt Sq se ++ wTe cC (ad 27) (ad 28) Sg ln at_)) (st2 := []) C k_X0_copyFrom (m_X0_copyFrom D cI cC cZ cR (ad 13) (ad 14) (ad 15) (ad 16) (ad 17) (ad 18) (ad 1) (ad 2) (ad 3) (ad 4) (ad 5) (ad 6) s.1 s.2.1 s.2.2.1 s.2.2.2.1 s.2.2.2.2.1 s.2.2.2.2.2.1 s.2.2.2.2.2.2 b.1 b.2.1 b.2.2.1 b.2.2.2.1 b.2.2.2.2.1 b.2.2.2.2.2.1 b.2.2.2.2.2.2 T1 S2 L3 J4 E5 cp6 su7 e8) gX5_keep_X0_copyFrom dX5_keep_8 ⟨Nat.le_of_ble_eq_true rfl, Nat.le_of_ble_eq_true rfl, Nat.le_of_ble_eq_true rfl⟩ 13 rfl rfl [13, 14, 15, 16, 17, 18, 1, 2, 3, 4, 5, 6] mxC_X5_3_1 rfl [0, 1, 2, 3] rfl mxF_X5_3_1 mxM_X5_3_1 rfl (Nat.le_of_ble_eq_true rfl) ⟨Nat.zero_le _, Nat.zero_le _⟩ rfl ?_
  refine xi_aload_n C dX5_keep_11 rfl 0 rfl ?_
  refine xi_iconst (v := 1) C dX5_keep_12 (by decide) ?_
  refine xi_put (ty := .boolean) (w2 := (wLB ad 1 ++ wBd cI (ad 1) (ad 2) (ad 3) (ad 4) (ad 5) (ad 6) b.1 b.2.1 b.2.2.1 b.2.2.2.1 b.2.2.2.2.1 b.2.2.2.2.2.1 b.2.2.2.2.2.2 ++ wBd cI (ad 7) (ad 8) (ad 9) (ad 10) (ad 11) (ad 12) t.1 t.2.1 t.2.2.1 t.2.2.2.1 t.2.2.2.2.1 t.2.2.2.2.2.1 t.2.2.2.2.2.2 ++ wBd cI (ad 13) (ad 14) (ad 15) (ad 16) (ad 17) (ad 18) T1 S2 L3 J4 E5 cp6 su7 ++ wHi cI cR (ad 19) (ad 20) ha hn pm hb ++ wLa cI (ad 21) (ad 22) K ++ wLo cI (ad 23) (ad 24) (ad 25) (ad 26) Dp Bt Sq se ++ wTe cC (ad 27) (ad 28) Sg ln at_)) C dX5_keep_13 iw_X5_keep_5 tyX5 tyX5_ok nmX5 0 rfl rfl 7 (by decide) fl_X5_keep_50 rfl (by decide +kernel) (by rfl) (by rfl) (Nat.le_of_ble_eq_true rfl) rfl ?_
  refine xi_aload_n C dX5_keep_16 rfl 0 rfl ?_
  refine xi_get C dX5_keep_17 iw_X5_keep_5 0 rfl rfl 0 (by decide) fl_X5_keep_10 rfl ?_
  obtain ⟨v9, e10, h⟩ := ob_i h
  refine xi_callV (As := []) (o := some (.int v9)) (rest := []) (w2 := (wLB ad 1 ++ wBd cI (ad 1) (ad 2) (ad 3) (ad 4) (ad 5) (ad 6) b.1 b.2.1 b.2.2.1 b.2.2.2.1 b.2.2.2.2.1 b.2.2.2.2.2.1 b.2.2.2.2.2.2 ++ wBd cI (ad 7) (ad 8) (ad 9) (ad 10) (ad 11) (ad 12) t.1 t.2.1 t.2.2.1 t.2.2.2.1 t.2.2.2.2.1 t.2.2.2.2.2.1 t.2.2.2.2.2.2 ++ wBd cI (ad 13) (ad 14) (ad 15) (ad 16) (ad 17) (ad 18) T1 S2 L3 J4 E5 cp6 su7 ++ wHi cI cR (ad 19) (ad 20) ha hn pm hb ++ wLa cI (ad 21) (ad 22) K ++ wLo cI (ad 23) (ad 24) (ad 25) (ad 26) Dp Bt Sq se ++ wTe cC (ad 27) (ad 28) Sg ln at_)) (st2 := [.int v9]) C k_X0_cells (m_X0_cells D cI cC cZ cR (ad 1) (ad 2) (ad 3) (ad 4) (ad 5) (ad 6) b.1 b.2.1 b.2.2.1 b.2.2.2.1 b.2.2.2.2.1 b.2.2.2.2.2.1 b.2.2.2.2.2.2 v9 e10) gX5_keep_X0_cells dX5_keep_20 ⟨Nat.le_of_ble_eq_true rfl, Nat.le_of_ble_eq_true rfl, Nat.le_of_ble_eq_true rfl⟩ 1 rfl rfl [1, 2, 3, 4, 5, 6] mxC_X5_1 rfl [0, 1, 2, 3] rfl mxF_X5_1 mxM_X5_1 rfl (Nat.le_of_ble_eq_true rfl) ⟨Nat.zero_le _, Nat.zero_le _⟩ rfl ?_
  have w0 := Option.some.inj h
  obtain ⟨q0, w1⟩ := Prod.mk.inj w0
  obtain ⟨q1, w2⟩ := Prod.mk.inj w1
  subst q0
  subst q1
  subst w2
  exact xi_iret C Z dX5_keep_23
def f_X5_restore (hs : Int32) (b : xBd) (s : xBd) (hn : Int32) (pm : Nat → Nat) (hb : Nat → xBd) : Option (Int32 × xBd × Int32 × (Nat → Nat) × (Nat → xBd)) :=
  if hs = 0 then
    some ((-5), b, hn, pm, hb)
  else
    (f_X1_remember hn pm hb b).bind fun (hn2, pm3, hb4) =>
    (f_X0_copyFrom b.1 b.2.1 b.2.2.1 b.2.2.2.1 b.2.2.2.2.1 b.2.2.2.2.2.1 b.2.2.2.2.2.2 s.1 s.2.1 s.2.2.1 s.2.2.2.1 s.2.2.2.2.1 s.2.2.2.2.2.1 s.2.2.2.2.2.2).bind fun (T6, S7, L8, J9, E10, cp11, su12) =>
    (f_X0_cells T6).bind fun v14 =>
    some (v14, (T6, S7, L8, J9, E10, cp11, su12), hn2, pm3, hb4)
theorem k_X5_restore : xb_Y yX5_restore cX5_restore wsX5_restore 1 (some .int) { frames := 3, cells := 0, slots := 0, locals := 83 } 0 := ⟨⟨_, rfl⟩, by decide, ⟨by decide, by decide, by decide +kernel⟩, rfl, rfl⟩
theorem fl_X5_restore_10 : Cond.fieldLink RX5 10 "LookupBoard" "board" "LLookupBoard$Board;" ∈ wsX5_restore := List.mem_of_getElem? (i := 3) rfl
theorem fl_X5_restore_19 : Cond.fieldLink RX5 19 "LookupBoard" "snapshot" "LLookupBoard$Board;" ∈ wsX5_restore := List.mem_of_getElem? (i := 4) rfl
theorem fl_X5_restore_25 : Cond.fieldLink RX5 25 "LookupBoard" "history" "LLookupBoard$History;" ∈ wsX5_restore := List.mem_of_getElem? (i := 2) rfl
theorem fl_X5_restore_50 : Cond.fieldLink RX5 50 "LookupBoard" "hasSnapshot" "Z" ∈ wsX5_restore := List.mem_of_getElem? (i := 1) rfl
theorem iw_X5_restore_5 : ∀ w ∈ wsX50, w ∈ wsX5_restore := fun w h => List.mem_cons_of_mem _ (List.mem_append_left _ (List.mem_append_left _ (List.mem_append_right _ h)))
set_option maxHeartbeats 4000000 in
set_option maxRecDepth 100000 in
theorem m_X5_restore (D : va_G) (cI cC cZ cR : ClassId) (ad : Nat → Nat) (ha : Nat → Nat → Nat) (hs : Int32) (b : xBd) (t : xBd) (s : xBd) (hn : Int32) (pm : Nat → Nat) (hb : Nat → xBd) (K : Nat → Int32) (Dp : Nat → Int32) (Bt : Nat → Int32) (Sq : Nat → Int32) (se : Int32) (Sg : Nat → Int32) (ln : Int32) (at_ : Int32) (r : Int32) (b' : xBd) (hn' : Int32) (pm' : Nat → Nat) (hb' : Nat → xBd) (h : f_X5_restore hs b s hn pm hb = some (r, b', hn', pm', hb')) : xb_M cX5_restore wsX5_restore RX5 { frames := 3, cells := 0, slots := 0, locals := 83 } (some .int) 1 (xb_ty cI cC cZ cR) D [.ref (ad 0)] (wLB ad hs ++ wBd cI (ad 1) (ad 2) (ad 3) (ad 4) (ad 5) (ad 6) b.1 b.2.1 b.2.2.1 b.2.2.2.1 b.2.2.2.2.1 b.2.2.2.2.2.1 b.2.2.2.2.2.2 ++ wBd cI (ad 7) (ad 8) (ad 9) (ad 10) (ad 11) (ad 12) t.1 t.2.1 t.2.2.1 t.2.2.2.1 t.2.2.2.2.1 t.2.2.2.2.2.1 t.2.2.2.2.2.2 ++ wBd cI (ad 13) (ad 14) (ad 15) (ad 16) (ad 17) (ad 18) s.1 s.2.1 s.2.2.1 s.2.2.2.1 s.2.2.2.2.1 s.2.2.2.2.2.1 s.2.2.2.2.2.2 ++ wHi cI cR (ad 19) (ad 20) ha hn pm hb ++ wLa cI (ad 21) (ad 22) K ++ wLo cI (ad 23) (ad 24) (ad 25) (ad 26) Dp Bt Sq se ++ wTe cC (ad 27) (ad 28) Sg ln at_) (some (.int r)) (wLB ad hs ++ wBd cI (ad 1) (ad 2) (ad 3) (ad 4) (ad 5) (ad 6) b'.1 b'.2.1 b'.2.2.1 b'.2.2.2.1 b'.2.2.2.2.1 b'.2.2.2.2.2.1 b'.2.2.2.2.2.2 ++ wBd cI (ad 7) (ad 8) (ad 9) (ad 10) (ad 11) (ad 12) t.1 t.2.1 t.2.2.1 t.2.2.2.1 t.2.2.2.2.1 t.2.2.2.2.2.1 t.2.2.2.2.2.2 ++ wBd cI (ad 13) (ad 14) (ad 15) (ad 16) (ad 17) (ad 18) s.1 s.2.1 s.2.2.1 s.2.2.2.1 s.2.2.2.2.1 s.2.2.2.2.2.1 s.2.2.2.2.2.2 ++ wHi cI cR (ad 19) (ad 20) ha hn' pm' hb' ++ wLa cI (ad 21) (ad 22) K ++ wLo cI (ad 23) (ad 24) (ad 25) (ad 26) Dp Bt Sq se ++ wTe cC (ad 27) (ad 28) Sg ln at_) := by
  intro X C Z
  show xb_G X 0 0 (wLB ad hs ++ wBd cI (ad 1) (ad 2) (ad 3) (ad 4) (ad 5) (ad 6) b.1 b.2.1 b.2.2.1 b.2.2.2.1 b.2.2.2.2.1 b.2.2.2.2.2.1 b.2.2.2.2.2.2 ++ wBd cI (ad 7) (ad 8) (ad 9) (ad 10) (ad 11) (ad 12) t.1 t.2.1 t.2.2.1 t.2.2.2.1 t.2.2.2.2.1 t.2.2.2.2.2.1 t.2.2.2.2.2.2 ++ wBd cI (ad 13) (ad 14) (ad 15) (ad 16) (ad 17) (ad 18) s.1 s.2.1 s.2.2.1 s.2.2.2.1 s.2.2.2.2.1 s.2.2.2.2.2.1 s.2.2.2.2.2.2 ++ wHi cI cR (ad 19) (ad 20) ha hn pm hb ++ wLa cI (ad 21) (ad 22) K ++ wLo cI (ad 23) (ad 24) (ad 25) (ad 26) Dp Bt Sq se ++ wTe cC (ad 27) (ad 28) Sg ln at_) [(0, .ref (ad 0))] 0 []
  unfold f_X5_restore at h
  refine xi_aload_n C dX5_restore_0 rfl 0 rfl ?_
  refine xi_get C dX5_restore_1 iw_X5_restore_5 0 rfl rfl 7 (by decide) fl_X5_restore_50 rfl ?_
  refine xi_if_ne (tgt := 10) C dX5_restore_4 (by decide) (fun c1 => ?_) (fun c1 => ?_)
  · have h := ie_i c1 h
    refine xi_aload_n C dX5_restore_10 rfl 0 rfl ?_
    refine xi_get C dX5_restore_11 iw_X5_restore_5 0 rfl rfl 3 (by decide) fl_X5_restore_25 rfl ?_
    refine xi_aload_n C dX5_restore_14 rfl 0 rfl ?_
    refine xi_get C dX5_restore_15 iw_X5_restore_5 0 rfl rfl 0 (by decide) fl_X5_restore_10 rfl ?_
    obtain ⟨⟨hn2, pm3, hb4⟩, e5, h⟩ := ob_i h
    refine xi_callV (As := [.ref (ad 1)]) (o := none) (rest := []) (w2 := (wLB ad hs ++ wBd cI (ad 1) (ad 2) (ad 3) (ad 4) (ad 5) (ad 6) b.1 b.2.1 b.2.2.1 b.2.2.2.1 b.2.2.2.2.1 b.2.2.2.2.2.1 b.2.2.2.2.2.2 ++ wBd cI (ad 7) (ad 8) (ad 9) (ad 10) (ad 11) (ad 12) t.1 t.2.1 t.2.2.1 t.2.2.2.1 t.2.2.2.2.1 t.2.2.2.2.2.1 t.2.2.2.2.2.2 ++ wBd cI (ad 13) (ad 14) (ad 15) (ad 16) (ad 17) (ad 18) s.1 s.2.1 s.2.2.1 s.2.2.2.1 s.2.2.2.2.1 s.2.2.2.2.2.1 s.2.2.2.2.2.2 ++ wHi cI cR (ad 19) (ad 20) ha hn2 pm3 hb4 ++ wLa cI (ad 21) (ad 22) K ++ wLo cI (ad 23) (ad 24) (ad 25) (ad 26) Dp Bt Sq se ++ wTe cC (ad 27) (ad 28) Sg ln at_)) (st2 := []) C k_X1_remember (m_X1_remember D cI cC cZ cR (ad 19) (ad 20) ha (ad 1) (ad 2) (ad 3) (ad 4) (ad 5) (ad 6) hn pm hb b hn2 pm3 hb4 e5) gX5_restore_X1_remember dX5_restore_18 ⟨Nat.le_of_ble_eq_true rfl, Nat.le_of_ble_eq_true rfl, Nat.le_of_ble_eq_true rfl⟩ 19 rfl rfl [19, 20, 21, 22, 23, 24, 25, 26, 27, 28, 29, 30, 31, 32, 33, 34, 35, 36, 37, 38, 39, 40, 41, 42, 43, 44, 1, 2, 3, 4, 5, 6] mxC_X5_4_1 rfl [0, 1, 2, 3] rfl mxF_X5_4_1 mxM_X5_4_1 rfl (Nat.le_of_ble_eq_true rfl) ⟨Nat.zero_le _, Nat.zero_le _⟩ rfl ?_
    refine xi_aload_n C dX5_restore_21 rfl 0 rfl ?_
    refine xi_get C dX5_restore_22 iw_X5_restore_5 0 rfl rfl 0 (by decide) fl_X5_restore_10 rfl ?_
    refine xi_aload_n C dX5_restore_25 rfl 0 rfl ?_
    refine xi_get C dX5_restore_26 iw_X5_restore_5 0 rfl rfl 2 (by decide) fl_X5_restore_19 rfl ?_
    obtain ⟨⟨T6, S7, L8, J9, E10, cp11, su12⟩, e13, h⟩ := ob_i h
    refine xi_callV (As := [.ref (ad 13)]) (o := none) (rest := []) (w2 := (wLB ad hs ++ wBd cI (ad 1) (ad 2) (ad 3) (ad 4) (ad 5) (ad 6) T6 S7 L8 J9 E10 cp11 su12 ++ wBd cI (ad 7) (ad 8) (ad 9) (ad 10) (ad 11) (ad 12) t.1 t.2.1 t.2.2.1 t.2.2.2.1 t.2.2.2.2.1 t.2.2.2.2.2.1 t.2.2.2.2.2.2 ++ wBd cI (ad 13) (ad 14) (ad 15) (ad 16) (ad 17) (ad 18) s.1 s.2.1 s.2.2.1 s.2.2.2.1 s.2.2.2.2.1 s.2.2.2.2.2.1 s.2.2.2.2.2.2 ++ wHi cI cR (ad 19) (ad 20) ha hn2 pm3 hb4 ++ wLa cI (ad 21) (ad 22) K ++ wLo cI (ad 23) (ad 24) (ad 25) (ad 26) Dp Bt Sq se ++ wTe cC (ad 27) (ad 28) Sg ln at_)) (st2 := []) C k_X0_copyFrom (m_X0_copyFrom D cI cC cZ cR (ad 1) (ad 2) (ad 3) (ad 4) (ad 5) (ad 6) (ad 13) (ad 14) (ad 15) (ad 16) (ad 17) (ad 18) b.1 b.2.1 b.2.2.1 b.2.2.2.1 b.2.2.2.2.1 b.2.2.2.2.2.1 b.2.2.2.2.2.2 s.1 s.2.1 s.2.2.1 s.2.2.2.1 s.2.2.2.2.1 s.2.2.2.2.2.1 s.2.2.2.2.2.2 T6 S7 L8 J9 E10 cp11 su12 e13) gX5_restore_X0_copyFrom dX5_restore_29 ⟨Nat.le_of_ble_eq_true rfl, Nat.le_of_ble_eq_true rfl, Nat.le_of_ble_eq_true rfl⟩ 1 rfl rfl [1, 2, 3, 4, 5, 6, 13, 14, 15, 16, 17, 18] mxC_X5_1_3 rfl [0, 1, 2, 3] rfl mxF_X5_1_3 mxM_X5_1_3 rfl (Nat.le_of_ble_eq_true rfl) ⟨Nat.zero_le _, Nat.zero_le _⟩ rfl ?_
    refine xi_aload_n C dX5_restore_32 rfl 0 rfl ?_
    refine xi_get C dX5_restore_33 iw_X5_restore_5 0 rfl rfl 0 (by decide) fl_X5_restore_10 rfl ?_
    obtain ⟨v14, e15, h⟩ := ob_i h
    refine xi_callV (As := []) (o := some (.int v14)) (rest := []) (w2 := (wLB ad hs ++ wBd cI (ad 1) (ad 2) (ad 3) (ad 4) (ad 5) (ad 6) T6 S7 L8 J9 E10 cp11 su12 ++ wBd cI (ad 7) (ad 8) (ad 9) (ad 10) (ad 11) (ad 12) t.1 t.2.1 t.2.2.1 t.2.2.2.1 t.2.2.2.2.1 t.2.2.2.2.2.1 t.2.2.2.2.2.2 ++ wBd cI (ad 13) (ad 14) (ad 15) (ad 16) (ad 17) (ad 18) s.1 s.2.1 s.2.2.1 s.2.2.2.1 s.2.2.2.2.1 s.2.2.2.2.2.1 s.2.2.2.2.2.2 ++ wHi cI cR (ad 19) (ad 20) ha hn2 pm3 hb4 ++ wLa cI (ad 21) (ad 22) K ++ wLo cI (ad 23) (ad 24) (ad 25) (ad 26) Dp Bt Sq se ++ wTe cC (ad 27) (ad 28) Sg ln at_)) (st2 := [.int v14]) C k_X0_cells (m_X0_cells D cI cC cZ cR (ad 1) (ad 2) (ad 3) (ad 4) (ad 5) (ad 6) T6 S7 L8 J9 E10 cp11 su12 v14 e15) gX5_restore_X0_cells dX5_restore_36 ⟨Nat.le_of_ble_eq_true rfl, Nat.le_of_ble_eq_true rfl, Nat.le_of_ble_eq_true rfl⟩ 1 rfl rfl [1, 2, 3, 4, 5, 6] mxC_X5_1 rfl [0, 1, 2, 3] rfl mxF_X5_1 mxM_X5_1 rfl (Nat.le_of_ble_eq_true rfl) ⟨Nat.zero_le _, Nat.zero_le _⟩ rfl ?_
    have w0 := Option.some.inj h
    obtain ⟨q0, w1⟩ := Prod.mk.inj w0
    obtain ⟨q1, w2⟩ := Prod.mk.inj w1
    obtain ⟨q2, w3⟩ := Prod.mk.inj w2
    obtain ⟨q3, w4⟩ := Prod.mk.inj w3
    subst q0
    subst q1
    subst q2
    subst q3
    subst w4
    exact xi_iret C Z dX5_restore_39
  · have h := it_i c1 h
    refine xi_bipush (v := (-5)) C dX5_restore_7 (by decide) ?_
    have w0 := Option.some.inj h
    obtain ⟨q0, w1⟩ := Prod.mk.inj w0
    obtain ⟨q1, w2⟩ := Prod.mk.inj w1
    obtain ⟨q2, w3⟩ := Prod.mk.inj w2
    obtain ⟨q3, w4⟩ := Prod.mk.inj w3
    subst q0
    subst q1
    subst q2
    subst q3
    subst w4
    exact xi_iret C Z dX5_restore_9
def f_X5_cell (b : xBd) (Dp : Nat → Int32) (Sq : Nat → Int32) (se : Int32) (p1 : Int32) (p2 : Int32) : Option (Int32 × (Nat → Int32) × (Nat → Int32) × Int32) :=
  (f_X0_hasCell b.1 p1).bind fun v1 =>
  if v1 = 0 then
    some ((-1), Dp, Sq, se)
  else
    if p2 = 0 then
      (f_X0_tableOf b.1 p1).bind fun v4 =>
      some (v4, Dp, Sq, se)
    else
      if p2 = 1 then
        (f_X0_sourceOf b.2.1 (((p1 * 3) + p2) - 1)).bind fun v6 =>
        some (v6, Dp, Sq, se)
      else
        if p2 = 2 then
          (f_X0_sourceOf b.2.1 (((p1 * 3) + p2) - 1)).bind fun v8 =>
          some (v8, Dp, Sq, se)
        else
          if p2 = 3 then
            (f_X0_sourceOf b.2.1 (((p1 * 3) + p2) - 1)).bind fun v10 =>
            some (v10, Dp, Sq, se)
          else
            if p2 = 4 then
              (f_X3_study Dp Sq se b.1 b.2.1).bind fun (Dp12, Sq13, se14) =>
              (f_X3_answers Dp12 p1).bind fun v16 =>
              if v16 = 0 then
                some ((-5), Dp12, Sq13, se14)
              else
                (f_X3_depthOf Dp12 p1).bind fun v19 =>
                some (v19, Dp12, Sq13, se14)
            else
              if p2 = 5 then
                (f_X0_uses b.2.1 p1).bind fun v21 =>
                some (v21, Dp, Sq, se)
              else
                if p2 = 6 then
                  (f_X0_segmentsOfCell b.2.2.1 p1).bind fun v23 =>
                  some (v23, Dp, Sq, se)
                else
                  some ((-2), Dp, Sq, se)
theorem k_X5_cell : xb_Y yX5_cell cX5_cell wsX5_cell 3 (some .int) { frames := 5, cells := 0, slots := 0, locals := 113 } 2 := ⟨⟨_, rfl⟩, by decide, ⟨by decide, by decide, by decide +kernel⟩, rfl, rfl⟩
theorem fl_X5_cell_10 : Cond.fieldLink RX5 10 "LookupBoard" "board" "LLookupBoard$Board;" ∈ wsX5_cell := List.mem_of_getElem? (i := 1) rfl
theorem fl_X5_cell_39 : Cond.fieldLink RX5 39 "LookupBoard" "logic" "LLookupBoard$Logic;" ∈ wsX5_cell := List.mem_of_getElem? (i := 2) rfl
theorem iw_X5_cell_5 : ∀ w ∈ wsX50, w ∈ wsX5_cell := fun w h => List.mem_cons_of_mem _ (List.mem_append_left _ (List.mem_append_left _ (List.mem_append_right _ h)))
set_option maxHeartbeats 4000000 in
set_option maxRecDepth 100000 in
theorem m_X5_cell (D : va_G) (cI cC cZ cR : ClassId) (ad : Nat → Nat) (ha : Nat → Nat → Nat) (hs : Int32) (b : xBd) (t : xBd) (s : xBd) (hn : Int32) (pm : Nat → Nat) (hb : Nat → xBd) (K : Nat → Int32) (Dp : Nat → Int32) (Bt : Nat → Int32) (Sq : Nat → Int32) (se : Int32) (Sg : Nat → Int32) (ln : Int32) (at_ : Int32) (p1 : Int32) (p2 : Int32) (r : Int32) (Dp' : Nat → Int32) (Sq' : Nat → Int32) (se' : Int32) (h : f_X5_cell b Dp Sq se p1 p2 = some (r, Dp', Sq', se')) : xb_M cX5_cell wsX5_cell RX5 { frames := 5, cells := 0, slots := 0, locals := 113 } (some .int) 3 (xb_ty cI cC cZ cR) D [.ref (ad 0), .int p1, .int p2] (wLB ad hs ++ wBd cI (ad 1) (ad 2) (ad 3) (ad 4) (ad 5) (ad 6) b.1 b.2.1 b.2.2.1 b.2.2.2.1 b.2.2.2.2.1 b.2.2.2.2.2.1 b.2.2.2.2.2.2 ++ wBd cI (ad 7) (ad 8) (ad 9) (ad 10) (ad 11) (ad 12) t.1 t.2.1 t.2.2.1 t.2.2.2.1 t.2.2.2.2.1 t.2.2.2.2.2.1 t.2.2.2.2.2.2 ++ wBd cI (ad 13) (ad 14) (ad 15) (ad 16) (ad 17) (ad 18) s.1 s.2.1 s.2.2.1 s.2.2.2.1 s.2.2.2.2.1 s.2.2.2.2.2.1 s.2.2.2.2.2.2 ++ wHi cI cR (ad 19) (ad 20) ha hn pm hb ++ wLa cI (ad 21) (ad 22) K ++ wLo cI (ad 23) (ad 24) (ad 25) (ad 26) Dp Bt Sq se ++ wTe cC (ad 27) (ad 28) Sg ln at_) (some (.int r)) (wLB ad hs ++ wBd cI (ad 1) (ad 2) (ad 3) (ad 4) (ad 5) (ad 6) b.1 b.2.1 b.2.2.1 b.2.2.2.1 b.2.2.2.2.1 b.2.2.2.2.2.1 b.2.2.2.2.2.2 ++ wBd cI (ad 7) (ad 8) (ad 9) (ad 10) (ad 11) (ad 12) t.1 t.2.1 t.2.2.1 t.2.2.2.1 t.2.2.2.2.1 t.2.2.2.2.2.1 t.2.2.2.2.2.2 ++ wBd cI (ad 13) (ad 14) (ad 15) (ad 16) (ad 17) (ad 18) s.1 s.2.1 s.2.2.1 s.2.2.2.1 s.2.2.2.2.1 s.2.2.2.2.2.1 s.2.2.2.2.2.2 ++ wHi cI cR (ad 19) (ad 20) ha hn pm hb ++ wLa cI (ad 21) (ad 22) K ++ wLo cI (ad 23) (ad 24) (ad 25) (ad 26) Dp' Bt Sq' se' ++ wTe cC (ad 27) (ad 28) Sg ln at_) := by
  intro X C Z
  show xb_G X 0 0 (wLB ad hs ++ wBd cI (ad 1) (ad 2) (ad 3) (ad 4) (ad 5) (ad 6) b.1 b.2.1 b.2.2.1 b.2.2.2.1 b.2.2.2.2.1 b.2.2.2.2.2.1 b.2.2.2.2.2.2 ++ wBd cI (ad 7) (ad 8) (ad 9) (ad 10) (ad 11) (ad 12) t.1 t.2.1 t.2.2.1 t.2.2.2.1 t.2.2.2.2.1 t.2.2.2.2.2.1 t.2.2.2.2.2.2 ++ wBd cI (ad 13) (ad 14) (ad 15) (ad 16) (ad 17) (ad 18) s.1 s.2.1 s.2.2.1 s.2.2.2.1 s.2.2.2.2.1 s.2.2.2.2.2.1 s.2.2.2.2.2.2 ++ wHi cI cR (ad 19) (ad 20) ha hn pm hb ++ wLa cI (ad 21) (ad 22) K ++ wLo cI (ad 23) (ad 24) (ad 25) (ad 26) Dp Bt Sq se ++ wTe cC (ad 27) (ad 28) Sg ln at_) [(0, .ref (ad 0)), (1, .int p1), (2, .int p2)] 0 []
  unfold f_X5_cell at h
  refine xi_aload_n C dX5_cell_0 rfl 0 rfl ?_
  refine xi_get C dX5_cell_1 iw_X5_cell_5 0 rfl rfl 0 (by decide) fl_X5_cell_10 rfl ?_
  refine xi_iload_n C dX5_cell_4 rfl 1 rfl ?_
  obtain ⟨v1, e2, h⟩ := ob_i h
  refine xi_callV (As := [.int p1]) (o := some (.int v1)) (rest := []) (w2 := (wLB ad hs ++ wBd cI (ad 1) (ad 2) (ad 3) (ad 4) (ad 5) (ad 6) b.1 b.2.1 b.2.2.1 b.2.2.2.1 b.2.2.2.2.1 b.2.2.2.2.2.1 b.2.2.2.2.2.2 ++ wBd cI (ad 7) (ad 8) (ad 9) (ad 10) (ad 11) (ad 12) t.1 t.2.1 t.2.2.1 t.2.2.2.1 t.2.2.2.2.1 t.2.2.2.2.2.1 t.2.2.2.2.2.2 ++ wBd cI (ad 13) (ad 14) (ad 15) (ad 16) (ad 17) (ad 18) s.1 s.2.1 s.2.2.1 s.2.2.2.1 s.2.2.2.2.1 s.2.2.2.2.2.1 s.2.2.2.2.2.2 ++ wHi cI cR (ad 19) (ad 20) ha hn pm hb ++ wLa cI (ad 21) (ad 22) K ++ wLo cI (ad 23) (ad 24) (ad 25) (ad 26) Dp Bt Sq se ++ wTe cC (ad 27) (ad 28) Sg ln at_)) (st2 := [.int v1]) C k_X0_hasCell (m_X0_hasCell D cI cC cZ cR (ad 1) (ad 2) (ad 3) (ad 4) (ad 5) (ad 6) b.1 b.2.1 b.2.2.1 b.2.2.2.1 b.2.2.2.2.1 b.2.2.2.2.2.1 b.2.2.2.2.2.2 p1 v1 e2) gX5_cell_X0_hasCell dX5_cell_5 ⟨Nat.le_of_ble_eq_true rfl, Nat.le_of_ble_eq_true rfl, Nat.le_of_ble_eq_true rfl⟩ 1 rfl rfl [1, 2, 3, 4, 5, 6] mxC_X5_1 rfl [0, 1, 2, 3] rfl mxF_X5_1 mxM_X5_1 rfl (Nat.le_of_ble_eq_true rfl) ⟨Nat.zero_le _, Nat.zero_le _⟩ rfl ?_
  refine xi_if_ne (tgt := 13) C dX5_cell_8 (by decide) (fun c3 => ?_) (fun c3 => ?_)
  · have h := ie_i c3 h
    refine xi_iload_n C dX5_cell_13 rfl 2 rfl ?_
    rcases Decidable.em (p2 = 0) with w14_0 | w14_0
    · have h := it_i w14_0 h
      refine xi_tabIn (tgt := 56) C 0 w14_0 dX5_cell_14 (by decide) (by decide) rfl (by decide) ?_
      refine xi_aload_n C dX5_cell_56 rfl 0 rfl ?_
      refine xi_get C dX5_cell_57 iw_X5_cell_5 0 rfl rfl 0 (by decide) fl_X5_cell_10 rfl ?_
      refine xi_iload_n C dX5_cell_60 rfl 1 rfl ?_
      obtain ⟨v4, e5, h⟩ := ob_i h
      refine xi_callV (As := [.int p1]) (o := some (.int v4)) (rest := []) (w2 := (wLB ad hs ++ wBd cI (ad 1) (ad 2) (ad 3) (ad 4) (ad 5) (ad 6) b.1 b.2.1 b.2.2.1 b.2.2.2.1 b.2.2.2.2.1 b.2.2.2.2.2.1 b.2.2.2.2.2.2 ++ wBd cI (ad 7) (ad 8) (ad 9) (ad 10) (ad 11) (ad 12) t.1 t.2.1 t.2.2.1 t.2.2.2.1 t.2.2.2.2.1 t.2.2.2.2.2.1 t.2.2.2.2.2.2 ++ wBd cI (ad 13) (ad 14) (ad 15) (ad 16) (ad 17) (ad 18) s.1 s.2.1 s.2.2.1 s.2.2.2.1 s.2.2.2.2.1 s.2.2.2.2.2.1 s.2.2.2.2.2.2 ++ wHi cI cR (ad 19) (ad 20) ha hn pm hb ++ wLa cI (ad 21) (ad 22) K ++ wLo cI (ad 23) (ad 24) (ad 25) (ad 26) Dp Bt Sq se ++ wTe cC (ad 27) (ad 28) Sg ln at_)) (st2 := [.int v4]) C k_X0_tableOf (m_X0_tableOf D cI cC cZ cR (ad 1) (ad 2) (ad 3) (ad 4) (ad 5) (ad 6) b.1 b.2.1 b.2.2.1 b.2.2.2.1 b.2.2.2.2.1 b.2.2.2.2.2.1 b.2.2.2.2.2.2 p1 v4 e5) gX5_cell_X0_tableOf dX5_cell_61 ⟨Nat.le_of_ble_eq_true rfl, Nat.le_of_ble_eq_true rfl, Nat.le_of_ble_eq_true rfl⟩ 1 rfl rfl [1, 2, 3, 4, 5, 6] mxC_X5_1 rfl [0, 1, 2, 3] rfl mxF_X5_1 mxM_X5_1 rfl (Nat.le_of_ble_eq_true rfl) ⟨Nat.zero_le _, Nat.zero_le _⟩ rfl ?_
      have w0 := Option.some.inj h
      obtain ⟨q0, w1⟩ := Prod.mk.inj w0
      obtain ⟨q1, w2⟩ := Prod.mk.inj w1
      obtain ⟨q2, w3⟩ := Prod.mk.inj w2
      subst q0
      subst q1
      subst q2
      subst w3
      exact xi_iret C Z dX5_cell_64
    have h := ie_i w14_0 h
    rcases Decidable.em (p2 = 1) with w14_1 | w14_1
    · have h := it_i w14_1 h
      refine xi_tabIn (tgt := 65) C 1 w14_1 dX5_cell_14 (by decide) (by decide) rfl (by decide) ?_
      refine xi_aload_n C dX5_cell_65 rfl 0 rfl ?_
      refine xi_get C dX5_cell_66 iw_X5_cell_5 0 rfl rfl 0 (by decide) fl_X5_cell_10 rfl ?_
      refine xi_iload_n C dX5_cell_69 rfl 1 rfl ?_
      refine xi_iconst (v := 3) C dX5_cell_70 (by decide) ?_
      refine xi_imul C dX5_cell_71 ?_
      refine xi_iload_n C dX5_cell_72 rfl 2 rfl ?_
      refine xi_iadd C dX5_cell_73 ?_
      refine xi_iconst (v := 1) C dX5_cell_74 (by decide) ?_
      refine xi_isub C dX5_cell_75 ?_
      obtain ⟨v6, e7, h⟩ := ob_i h
      refine xi_callV (As := [.int (((p1 * 3) + p2) - 1)]) (o := some (.int v6)) (rest := []) (w2 := (wLB ad hs ++ wBd cI (ad 1) (ad 2) (ad 3) (ad 4) (ad 5) (ad 6) b.1 b.2.1 b.2.2.1 b.2.2.2.1 b.2.2.2.2.1 b.2.2.2.2.2.1 b.2.2.2.2.2.2 ++ wBd cI (ad 7) (ad 8) (ad 9) (ad 10) (ad 11) (ad 12) t.1 t.2.1 t.2.2.1 t.2.2.2.1 t.2.2.2.2.1 t.2.2.2.2.2.1 t.2.2.2.2.2.2 ++ wBd cI (ad 13) (ad 14) (ad 15) (ad 16) (ad 17) (ad 18) s.1 s.2.1 s.2.2.1 s.2.2.2.1 s.2.2.2.2.1 s.2.2.2.2.2.1 s.2.2.2.2.2.2 ++ wHi cI cR (ad 19) (ad 20) ha hn pm hb ++ wLa cI (ad 21) (ad 22) K ++ wLo cI (ad 23) (ad 24) (ad 25) (ad 26) Dp Bt Sq se ++ wTe cC (ad 27) (ad 28) Sg ln at_)) (st2 := [.int v6]) C k_X0_sourceOf (m_X0_sourceOf D cI cC cZ cR (ad 1) (ad 2) (ad 3) (ad 4) (ad 5) (ad 6) b.1 b.2.1 b.2.2.1 b.2.2.2.1 b.2.2.2.2.1 b.2.2.2.2.2.1 b.2.2.2.2.2.2 (((p1 * 3) + p2) - 1) v6 e7) gX5_cell_X0_sourceOf dX5_cell_76 ⟨Nat.le_of_ble_eq_true rfl, Nat.le_of_ble_eq_true rfl, Nat.le_of_ble_eq_true rfl⟩ 1 rfl rfl [1, 2, 3, 4, 5, 6] mxC_X5_1 rfl [0, 1, 2, 3] rfl mxF_X5_1 mxM_X5_1 rfl (Nat.le_of_ble_eq_true rfl) ⟨Nat.zero_le _, Nat.zero_le _⟩ rfl ?_
      have w0 := Option.some.inj h
      obtain ⟨q0, w1⟩ := Prod.mk.inj w0
      obtain ⟨q1, w2⟩ := Prod.mk.inj w1
      obtain ⟨q2, w3⟩ := Prod.mk.inj w2
      subst q0
      subst q1
      subst q2
      subst w3
      exact xi_iret C Z dX5_cell_79
    have h := ie_i w14_1 h
    rcases Decidable.em (p2 = 2) with w14_2 | w14_2
    · have h := it_i w14_2 h
      refine xi_tabIn (tgt := 65) C 2 w14_2 dX5_cell_14 (by decide) (by decide) rfl (by decide) ?_
      refine xi_aload_n C dX5_cell_65 rfl 0 rfl ?_
      refine xi_get C dX5_cell_66 iw_X5_cell_5 0 rfl rfl 0 (by decide) fl_X5_cell_10 rfl ?_
      refine xi_iload_n C dX5_cell_69 rfl 1 rfl ?_
      refine xi_iconst (v := 3) C dX5_cell_70 (by decide) ?_
      refine xi_imul C dX5_cell_71 ?_
      refine xi_iload_n C dX5_cell_72 rfl 2 rfl ?_
      refine xi_iadd C dX5_cell_73 ?_
      refine xi_iconst (v := 1) C dX5_cell_74 (by decide) ?_
      refine xi_isub C dX5_cell_75 ?_
      obtain ⟨v8, e9, h⟩ := ob_i h
      refine xi_callV (As := [.int (((p1 * 3) + p2) - 1)]) (o := some (.int v8)) (rest := []) (w2 := (wLB ad hs ++ wBd cI (ad 1) (ad 2) (ad 3) (ad 4) (ad 5) (ad 6) b.1 b.2.1 b.2.2.1 b.2.2.2.1 b.2.2.2.2.1 b.2.2.2.2.2.1 b.2.2.2.2.2.2 ++ wBd cI (ad 7) (ad 8) (ad 9) (ad 10) (ad 11) (ad 12) t.1 t.2.1 t.2.2.1 t.2.2.2.1 t.2.2.2.2.1 t.2.2.2.2.2.1 t.2.2.2.2.2.2 ++ wBd cI (ad 13) (ad 14) (ad 15) (ad 16) (ad 17) (ad 18) s.1 s.2.1 s.2.2.1 s.2.2.2.1 s.2.2.2.2.1 s.2.2.2.2.2.1 s.2.2.2.2.2.2 ++ wHi cI cR (ad 19) (ad 20) ha hn pm hb ++ wLa cI (ad 21) (ad 22) K ++ wLo cI (ad 23) (ad 24) (ad 25) (ad 26) Dp Bt Sq se ++ wTe cC (ad 27) (ad 28) Sg ln at_)) (st2 := [.int v8]) C k_X0_sourceOf (m_X0_sourceOf D cI cC cZ cR (ad 1) (ad 2) (ad 3) (ad 4) (ad 5) (ad 6) b.1 b.2.1 b.2.2.1 b.2.2.2.1 b.2.2.2.2.1 b.2.2.2.2.2.1 b.2.2.2.2.2.2 (((p1 * 3) + p2) - 1) v8 e9) gX5_cell_X0_sourceOf dX5_cell_76 ⟨Nat.le_of_ble_eq_true rfl, Nat.le_of_ble_eq_true rfl, Nat.le_of_ble_eq_true rfl⟩ 1 rfl rfl [1, 2, 3, 4, 5, 6] mxC_X5_1 rfl [0, 1, 2, 3] rfl mxF_X5_1 mxM_X5_1 rfl (Nat.le_of_ble_eq_true rfl) ⟨Nat.zero_le _, Nat.zero_le _⟩ rfl ?_
      have w0 := Option.some.inj h
      obtain ⟨q0, w1⟩ := Prod.mk.inj w0
      obtain ⟨q1, w2⟩ := Prod.mk.inj w1
      obtain ⟨q2, w3⟩ := Prod.mk.inj w2
      subst q0
      subst q1
      subst q2
      subst w3
      exact xi_iret C Z dX5_cell_79
    have h := ie_i w14_2 h
    rcases Decidable.em (p2 = 3) with w14_3 | w14_3
    · have h := it_i w14_3 h
      refine xi_tabIn (tgt := 65) C 3 w14_3 dX5_cell_14 (by decide) (by decide) rfl (by decide) ?_
      refine xi_aload_n C dX5_cell_65 rfl 0 rfl ?_
      refine xi_get C dX5_cell_66 iw_X5_cell_5 0 rfl rfl 0 (by decide) fl_X5_cell_10 rfl ?_
      refine xi_iload_n C dX5_cell_69 rfl 1 rfl ?_
      refine xi_iconst (v := 3) C dX5_cell_70 (by decide) ?_
      refine xi_imul C dX5_cell_71 ?_
      refine xi_iload_n C dX5_cell_72 rfl 2 rfl ?_
      refine xi_iadd C dX5_cell_73 ?_
      refine xi_iconst (v := 1) C dX5_cell_74 (by decide) ?_
      refine xi_isub C dX5_cell_75 ?_
      obtain ⟨v10, e11, h⟩ := ob_i h
      refine xi_callV (As := [.int (((p1 * 3) + p2) - 1)]) (o := some (.int v10)) (rest := []) (w2 := (wLB ad hs ++ wBd cI (ad 1) (ad 2) (ad 3) (ad 4) (ad 5) (ad 6) b.1 b.2.1 b.2.2.1 b.2.2.2.1 b.2.2.2.2.1 b.2.2.2.2.2.1 b.2.2.2.2.2.2 ++ wBd cI (ad 7) (ad 8) (ad 9) (ad 10) (ad 11) (ad 12) t.1 t.2.1 t.2.2.1 t.2.2.2.1 t.2.2.2.2.1 t.2.2.2.2.2.1 t.2.2.2.2.2.2 ++ wBd cI (ad 13) (ad 14) (ad 15) (ad 16) (ad 17) (ad 18) s.1 s.2.1 s.2.2.1 s.2.2.2.1 s.2.2.2.2.1 s.2.2.2.2.2.1 s.2.2.2.2.2.2 ++ wHi cI cR (ad 19) (ad 20) ha hn pm hb ++ wLa cI (ad 21) (ad 22) K ++ wLo cI (ad 23) (ad 24) (ad 25) (ad 26) Dp Bt Sq se ++ wTe cC (ad 27) (ad 28) Sg ln at_)) (st2 := [.int v10]) C k_X0_sourceOf (m_X0_sourceOf D cI cC cZ cR (ad 1) (ad 2) (ad 3) (ad 4) (ad 5) (ad 6) b.1 b.2.1 b.2.2.1 b.2.2.2.1 b.2.2.2.2.1 b.2.2.2.2.2.1 b.2.2.2.2.2.2 (((p1 * 3) + p2) - 1) v10 e11) gX5_cell_X0_sourceOf dX5_cell_76 ⟨Nat.le_of_ble_eq_true rfl, Nat.le_of_ble_eq_true rfl, Nat.le_of_ble_eq_true rfl⟩ 1 rfl rfl [1, 2, 3, 4, 5, 6] mxC_X5_1 rfl [0, 1, 2, 3] rfl mxF_X5_1 mxM_X5_1 rfl (Nat.le_of_ble_eq_true rfl) ⟨Nat.zero_le _, Nat.zero_le _⟩ rfl ?_
      have w0 := Option.some.inj h
      obtain ⟨q0, w1⟩ := Prod.mk.inj w0
      obtain ⟨q1, w2⟩ := Prod.mk.inj w1
      obtain ⟨q2, w3⟩ := Prod.mk.inj w2
      subst q0
      subst q1
      subst q2
      subst w3
      exact xi_iret C Z dX5_cell_79
    have h := ie_i w14_3 h
    rcases Decidable.em (p2 = 4) with w14_4 | w14_4
    · have h := it_i w14_4 h
      refine xi_tabIn (tgt := 80) C 4 w14_4 dX5_cell_14 (by decide) (by decide) rfl (by decide) ?_
      refine xi_aload_n C dX5_cell_80 rfl 0 rfl ?_
      refine xi_get C dX5_cell_81 iw_X5_cell_5 0 rfl rfl 5 (by decide) fl_X5_cell_39 rfl ?_
      refine xi_aload_n C dX5_cell_84 rfl 0 rfl ?_
      refine xi_get C dX5_cell_85 iw_X5_cell_5 0 rfl rfl 0 (by decide) fl_X5_cell_10 rfl ?_
      obtain ⟨⟨Dp12, Sq13, se14⟩, e15, h⟩ := ob_i h
      refine xi_callV (As := [.ref (ad 1)]) (o := none) (rest := []) (w2 := (wLB ad hs ++ wBd cI (ad 1) (ad 2) (ad 3) (ad 4) (ad 5) (ad 6) b.1 b.2.1 b.2.2.1 b.2.2.2.1 b.2.2.2.2.1 b.2.2.2.2.2.1 b.2.2.2.2.2.2 ++ wBd cI (ad 7) (ad 8) (ad 9) (ad 10) (ad 11) (ad 12) t.1 t.2.1 t.2.2.1 t.2.2.2.1 t.2.2.2.2.1 t.2.2.2.2.2.1 t.2.2.2.2.2.2 ++ wBd cI (ad 13) (ad 14) (ad 15) (ad 16) (ad 17) (ad 18) s.1 s.2.1 s.2.2.1 s.2.2.2.1 s.2.2.2.2.1 s.2.2.2.2.2.1 s.2.2.2.2.2.2 ++ wHi cI cR (ad 19) (ad 20) ha hn pm hb ++ wLa cI (ad 21) (ad 22) K ++ wLo cI (ad 23) (ad 24) (ad 25) (ad 26) Dp12 Bt Sq13 se14 ++ wTe cC (ad 27) (ad 28) Sg ln at_)) (st2 := []) C k_X3_study (m_X3_study D cI cC cZ cR (ad 23) (ad 24) (ad 25) (ad 26) (ad 1) (ad 2) (ad 3) (ad 4) (ad 5) (ad 6) Dp Bt Sq se b.1 b.2.1 b.2.2.1 b.2.2.2.1 b.2.2.2.2.1 b.2.2.2.2.2.1 b.2.2.2.2.2.2 Dp12 Sq13 se14 e15) gX5_cell_X3_study dX5_cell_88 ⟨Nat.le_of_ble_eq_true rfl, Nat.le_of_ble_eq_true rfl, Nat.le_of_ble_eq_true rfl⟩ 47 rfl rfl [47, 48, 49, 50, 1, 2, 3, 4, 5, 6] mxC_X5_6_1 rfl [0, 1, 2, 3] rfl mxF_X5_6_1 mxM_X5_6_1 rfl (Nat.le_of_ble_eq_true rfl) ⟨Nat.zero_le _, Nat.zero_le _⟩ rfl ?_
      refine xi_aload_n C dX5_cell_91 rfl 0 rfl ?_
      refine xi_get C dX5_cell_92 iw_X5_cell_5 0 rfl rfl 5 (by decide) fl_X5_cell_39 rfl ?_
      refine xi_iload_n C dX5_cell_95 rfl 1 rfl ?_
      obtain ⟨v16, e17, h⟩ := ob_i h
      refine xi_callV (As := [.int p1]) (o := some (.int v16)) (rest := []) (w2 := (wLB ad hs ++ wBd cI (ad 1) (ad 2) (ad 3) (ad 4) (ad 5) (ad 6) b.1 b.2.1 b.2.2.1 b.2.2.2.1 b.2.2.2.2.1 b.2.2.2.2.2.1 b.2.2.2.2.2.2 ++ wBd cI (ad 7) (ad 8) (ad 9) (ad 10) (ad 11) (ad 12) t.1 t.2.1 t.2.2.1 t.2.2.2.1 t.2.2.2.2.1 t.2.2.2.2.2.1 t.2.2.2.2.2.2 ++ wBd cI (ad 13) (ad 14) (ad 15) (ad 16) (ad 17) (ad 18) s.1 s.2.1 s.2.2.1 s.2.2.2.1 s.2.2.2.2.1 s.2.2.2.2.2.1 s.2.2.2.2.2.2 ++ wHi cI cR (ad 19) (ad 20) ha hn pm hb ++ wLa cI (ad 21) (ad 22) K ++ wLo cI (ad 23) (ad 24) (ad 25) (ad 26) Dp12 Bt Sq13 se14 ++ wTe cC (ad 27) (ad 28) Sg ln at_)) (st2 := [.int v16]) C k_X3_answers (m_X3_answers D cI cC cZ cR (ad 23) (ad 24) (ad 25) (ad 26) Dp12 Bt Sq13 se14 p1 v16 e17) gX5_cell_X3_answers dX5_cell_96 ⟨Nat.le_of_ble_eq_true rfl, Nat.le_of_ble_eq_true rfl, Nat.le_of_ble_eq_true rfl⟩ 47 rfl rfl [47, 48, 49, 50] mxC_X5_6 rfl [0, 1, 2, 3] rfl mxF_X5_6 mxM_X5_6 rfl (Nat.le_of_ble_eq_true rfl) ⟨Nat.zero_le _, Nat.zero_le _⟩ rfl ?_
      refine xi_if_eq (tgt := 113) C dX5_cell_99 (by decide) (fun c18 => ?_) (fun c18 => ?_)
      · have h := it_i c18 h
        refine xi_bipush (v := (-5)) C dX5_cell_113 (by decide) ?_
        have w0 := Option.some.inj h
        obtain ⟨q0, w1⟩ := Prod.mk.inj w0
        obtain ⟨q1, w2⟩ := Prod.mk.inj w1
        obtain ⟨q2, w3⟩ := Prod.mk.inj w2
        subst q0
        subst q1
        subst q2
        subst w3
        exact xi_iret C Z dX5_cell_115
      · have h := ie_i c18 h
        refine xi_aload_n C dX5_cell_102 rfl 0 rfl ?_
        refine xi_get C dX5_cell_103 iw_X5_cell_5 0 rfl rfl 5 (by decide) fl_X5_cell_39 rfl ?_
        refine xi_iload_n C dX5_cell_106 rfl 1 rfl ?_
        obtain ⟨v19, e20, h⟩ := ob_i h
        refine xi_callV (As := [.int p1]) (o := some (.int v19)) (rest := []) (w2 := (wLB ad hs ++ wBd cI (ad 1) (ad 2) (ad 3) (ad 4) (ad 5) (ad 6) b.1 b.2.1 b.2.2.1 b.2.2.2.1 b.2.2.2.2.1 b.2.2.2.2.2.1 b.2.2.2.2.2.2 ++ wBd cI (ad 7) (ad 8) (ad 9) (ad 10) (ad 11) (ad 12) t.1 t.2.1 t.2.2.1 t.2.2.2.1 t.2.2.2.2.1 t.2.2.2.2.2.1 t.2.2.2.2.2.2 ++ wBd cI (ad 13) (ad 14) (ad 15) (ad 16) (ad 17) (ad 18) s.1 s.2.1 s.2.2.1 s.2.2.2.1 s.2.2.2.2.1 s.2.2.2.2.2.1 s.2.2.2.2.2.2 ++ wHi cI cR (ad 19) (ad 20) ha hn pm hb ++ wLa cI (ad 21) (ad 22) K ++ wLo cI (ad 23) (ad 24) (ad 25) (ad 26) Dp12 Bt Sq13 se14 ++ wTe cC (ad 27) (ad 28) Sg ln at_)) (st2 := [.int v19]) C k_X3_depthOf (m_X3_depthOf D cI cC cZ cR (ad 23) (ad 24) (ad 25) (ad 26) Dp12 Bt Sq13 se14 p1 v19 e20) gX5_cell_X3_depthOf dX5_cell_107 ⟨Nat.le_of_ble_eq_true rfl, Nat.le_of_ble_eq_true rfl, Nat.le_of_ble_eq_true rfl⟩ 47 rfl rfl [47, 48, 49, 50] mxC_X5_6 rfl [0, 1, 2, 3] rfl mxF_X5_6 mxM_X5_6 rfl (Nat.le_of_ble_eq_true rfl) ⟨Nat.zero_le _, Nat.zero_le _⟩ rfl ?_
        refine xi_goto (tgt := 115) C dX5_cell_110 (by decide) ?_
        have w0 := Option.some.inj h
        obtain ⟨q0, w1⟩ := Prod.mk.inj w0
        obtain ⟨q1, w2⟩ := Prod.mk.inj w1
        obtain ⟨q2, w3⟩ := Prod.mk.inj w2
        subst q0
        subst q1
        subst q2
        subst w3
        exact xi_iret C Z dX5_cell_115
    have h := ie_i w14_4 h
    rcases Decidable.em (p2 = 5) with w14_5 | w14_5
    · have h := it_i w14_5 h
      refine xi_tabIn (tgt := 116) C 5 w14_5 dX5_cell_14 (by decide) (by decide) rfl (by decide) ?_
      refine xi_aload_n C dX5_cell_116 rfl 0 rfl ?_
      refine xi_get C dX5_cell_117 iw_X5_cell_5 0 rfl rfl 0 (by decide) fl_X5_cell_10 rfl ?_
      refine xi_iload_n C dX5_cell_120 rfl 1 rfl ?_
      obtain ⟨v21, e22, h⟩ := ob_i h
      refine xi_callV (As := [.int p1]) (o := some (.int v21)) (rest := []) (w2 := (wLB ad hs ++ wBd cI (ad 1) (ad 2) (ad 3) (ad 4) (ad 5) (ad 6) b.1 b.2.1 b.2.2.1 b.2.2.2.1 b.2.2.2.2.1 b.2.2.2.2.2.1 b.2.2.2.2.2.2 ++ wBd cI (ad 7) (ad 8) (ad 9) (ad 10) (ad 11) (ad 12) t.1 t.2.1 t.2.2.1 t.2.2.2.1 t.2.2.2.2.1 t.2.2.2.2.2.1 t.2.2.2.2.2.2 ++ wBd cI (ad 13) (ad 14) (ad 15) (ad 16) (ad 17) (ad 18) s.1 s.2.1 s.2.2.1 s.2.2.2.1 s.2.2.2.2.1 s.2.2.2.2.2.1 s.2.2.2.2.2.2 ++ wHi cI cR (ad 19) (ad 20) ha hn pm hb ++ wLa cI (ad 21) (ad 22) K ++ wLo cI (ad 23) (ad 24) (ad 25) (ad 26) Dp Bt Sq se ++ wTe cC (ad 27) (ad 28) Sg ln at_)) (st2 := [.int v21]) C k_X0_uses (m_X0_uses D cI cC cZ cR (ad 1) (ad 2) (ad 3) (ad 4) (ad 5) (ad 6) b.1 b.2.1 b.2.2.1 b.2.2.2.1 b.2.2.2.2.1 b.2.2.2.2.2.1 b.2.2.2.2.2.2 p1 v21 e22) gX5_cell_X0_uses dX5_cell_121 ⟨Nat.le_of_ble_eq_true rfl, Nat.le_of_ble_eq_true rfl, Nat.le_of_ble_eq_true rfl⟩ 1 rfl rfl [1, 2, 3, 4, 5, 6] mxC_X5_1 rfl [0, 1, 2, 3] rfl mxF_X5_1 mxM_X5_1 rfl (Nat.le_of_ble_eq_true rfl) ⟨Nat.zero_le _, Nat.zero_le _⟩ rfl ?_
      have w0 := Option.some.inj h
      obtain ⟨q0, w1⟩ := Prod.mk.inj w0
      obtain ⟨q1, w2⟩ := Prod.mk.inj w1
      obtain ⟨q2, w3⟩ := Prod.mk.inj w2
      subst q0
      subst q1
      subst q2
      subst w3
      exact xi_iret C Z dX5_cell_124
    have h := ie_i w14_5 h
    rcases Decidable.em (p2 = 6) with w14_6 | w14_6
    · have h := it_i w14_6 h
      refine xi_tabIn (tgt := 125) C 6 w14_6 dX5_cell_14 (by decide) (by decide) rfl (by decide) ?_
      refine xi_aload_n C dX5_cell_125 rfl 0 rfl ?_
      refine xi_get C dX5_cell_126 iw_X5_cell_5 0 rfl rfl 0 (by decide) fl_X5_cell_10 rfl ?_
      refine xi_iload_n C dX5_cell_129 rfl 1 rfl ?_
      obtain ⟨v23, e24, h⟩ := ob_i h
      refine xi_callV (As := [.int p1]) (o := some (.int v23)) (rest := []) (w2 := (wLB ad hs ++ wBd cI (ad 1) (ad 2) (ad 3) (ad 4) (ad 5) (ad 6) b.1 b.2.1 b.2.2.1 b.2.2.2.1 b.2.2.2.2.1 b.2.2.2.2.2.1 b.2.2.2.2.2.2 ++ wBd cI (ad 7) (ad 8) (ad 9) (ad 10) (ad 11) (ad 12) t.1 t.2.1 t.2.2.1 t.2.2.2.1 t.2.2.2.2.1 t.2.2.2.2.2.1 t.2.2.2.2.2.2 ++ wBd cI (ad 13) (ad 14) (ad 15) (ad 16) (ad 17) (ad 18) s.1 s.2.1 s.2.2.1 s.2.2.2.1 s.2.2.2.2.1 s.2.2.2.2.2.1 s.2.2.2.2.2.2 ++ wHi cI cR (ad 19) (ad 20) ha hn pm hb ++ wLa cI (ad 21) (ad 22) K ++ wLo cI (ad 23) (ad 24) (ad 25) (ad 26) Dp Bt Sq se ++ wTe cC (ad 27) (ad 28) Sg ln at_)) (st2 := [.int v23]) C k_X0_segmentsOfCell (m_X0_segmentsOfCell D cI cC cZ cR (ad 1) (ad 2) (ad 3) (ad 4) (ad 5) (ad 6) b.1 b.2.1 b.2.2.1 b.2.2.2.1 b.2.2.2.2.1 b.2.2.2.2.2.1 b.2.2.2.2.2.2 p1 v23 e24) gX5_cell_X0_segmentsOfCell dX5_cell_130 ⟨Nat.le_of_ble_eq_true rfl, Nat.le_of_ble_eq_true rfl, Nat.le_of_ble_eq_true rfl⟩ 1 rfl rfl [1, 2, 3, 4, 5, 6] mxC_X5_1 rfl [0, 1, 2, 3] rfl mxF_X5_1 mxM_X5_1 rfl (Nat.le_of_ble_eq_true rfl) ⟨Nat.zero_le _, Nat.zero_le _⟩ rfl ?_
      have w0 := Option.some.inj h
      obtain ⟨q0, w1⟩ := Prod.mk.inj w0
      obtain ⟨q1, w2⟩ := Prod.mk.inj w1
      obtain ⟨q2, w3⟩ := Prod.mk.inj w2
      subst q0
      subst q1
      subst q2
      subst w3
      exact xi_iret C Z dX5_cell_133
    have h := ie_i w14_6 h
    refine xi_tabOut (tgt := 134) C dX5_cell_14 (xb_tab (N := 7) (by decide) (fun j hj => ?_)) (by decide) ?_
    · rcases (show j = 0 ∨ j = 1 ∨ j = 2 ∨ j = 3 ∨ j = 4 ∨ j = 5 ∨ j = 6 by omega) with rfl | rfl | rfl | rfl | rfl | rfl | rfl
      · exact w14_0
      · exact w14_1
      · exact w14_2
      · exact w14_3
      · exact w14_4
      · exact w14_5
      · exact w14_6
    refine xi_bipush (v := (-2)) C dX5_cell_134 (by decide) ?_
    have w0 := Option.some.inj h
    obtain ⟨q0, w1⟩ := Prod.mk.inj w0
    obtain ⟨q1, w2⟩ := Prod.mk.inj w1
    obtain ⟨q2, w3⟩ := Prod.mk.inj w2
    subst q0
    subst q1
    subst q2
    subst w3
    exact xi_iret C Z dX5_cell_136
  · have h := it_i c3 h
    refine xi_iconst (v := (-1)) C dX5_cell_11 (by decide) ?_
    have w0 := Option.some.inj h
    obtain ⟨q0, w1⟩ := Prod.mk.inj w0
    obtain ⟨q1, w2⟩ := Prod.mk.inj w1
    obtain ⟨q2, w3⟩ := Prod.mk.inj w2
    subst q0
    subst q1
    subst q2
    subst w3
    exact xi_iret C Z dX5_cell_12
def f_X5_path (b : xBd) (p1 : Int32) (p2 : Int32) (p3 : Int32) : Option (Int32) :=
  (f_X0_hasCell b.1 p1).bind fun v1 =>
  if v1 = 0 then
    some (-1)
  else
    (f_X5_isInput p2).bind fun v4 =>
    if v4 = 0 then
      some (-1)
    else
      if 0 ≤ p3 then
        (f_X0_junctionAt b.2.1 b.2.2.1 b.2.2.2.1 ((p1 * 3) + p2) p3).bind fun v8 =>
        if v8 = (-1) then
          some (-5)
        else
          some v8
      else
        some (-2)
theorem k_X5_path : xb_Y yX5_path cX5_path wsX5_path 5 (some .int) { frames := 3, cells := 0, slots := 0, locals := 65 } 3 := ⟨⟨_, rfl⟩, by decide, ⟨by decide, by decide, by decide +kernel⟩, rfl, rfl⟩
theorem fl_X5_path_10 : Cond.fieldLink RX5 10 "LookupBoard" "board" "LLookupBoard$Board;" ∈ wsX5_path := List.mem_of_getElem? (i := 1) rfl
theorem iw_X5_path_5 : ∀ w ∈ wsX50, w ∈ wsX5_path := fun w h => List.mem_cons_of_mem _ (List.mem_append_left _ (List.mem_append_right _ h))
set_option maxHeartbeats 4000000 in
set_option maxRecDepth 100000 in
theorem m_X5_path (D : va_G) (cI cC cZ cR : ClassId) (ad : Nat → Nat) (ha : Nat → Nat → Nat) (hs : Int32) (b : xBd) (t : xBd) (s : xBd) (hn : Int32) (pm : Nat → Nat) (hb : Nat → xBd) (K : Nat → Int32) (Dp : Nat → Int32) (Bt : Nat → Int32) (Sq : Nat → Int32) (se : Int32) (Sg : Nat → Int32) (ln : Int32) (at_ : Int32) (p1 : Int32) (p2 : Int32) (p3 : Int32) (r : Int32) (h : f_X5_path b p1 p2 p3 = some r) : xb_M cX5_path wsX5_path RX5 { frames := 3, cells := 0, slots := 0, locals := 65 } (some .int) 5 (xb_ty cI cC cZ cR) D [.ref (ad 0), .int p1, .int p2, .int p3] (wLB ad hs ++ wBd cI (ad 1) (ad 2) (ad 3) (ad 4) (ad 5) (ad 6) b.1 b.2.1 b.2.2.1 b.2.2.2.1 b.2.2.2.2.1 b.2.2.2.2.2.1 b.2.2.2.2.2.2 ++ wBd cI (ad 7) (ad 8) (ad 9) (ad 10) (ad 11) (ad 12) t.1 t.2.1 t.2.2.1 t.2.2.2.1 t.2.2.2.2.1 t.2.2.2.2.2.1 t.2.2.2.2.2.2 ++ wBd cI (ad 13) (ad 14) (ad 15) (ad 16) (ad 17) (ad 18) s.1 s.2.1 s.2.2.1 s.2.2.2.1 s.2.2.2.2.1 s.2.2.2.2.2.1 s.2.2.2.2.2.2 ++ wHi cI cR (ad 19) (ad 20) ha hn pm hb ++ wLa cI (ad 21) (ad 22) K ++ wLo cI (ad 23) (ad 24) (ad 25) (ad 26) Dp Bt Sq se ++ wTe cC (ad 27) (ad 28) Sg ln at_) (some (.int r)) (wLB ad hs ++ wBd cI (ad 1) (ad 2) (ad 3) (ad 4) (ad 5) (ad 6) b.1 b.2.1 b.2.2.1 b.2.2.2.1 b.2.2.2.2.1 b.2.2.2.2.2.1 b.2.2.2.2.2.2 ++ wBd cI (ad 7) (ad 8) (ad 9) (ad 10) (ad 11) (ad 12) t.1 t.2.1 t.2.2.1 t.2.2.2.1 t.2.2.2.2.1 t.2.2.2.2.2.1 t.2.2.2.2.2.2 ++ wBd cI (ad 13) (ad 14) (ad 15) (ad 16) (ad 17) (ad 18) s.1 s.2.1 s.2.2.1 s.2.2.2.1 s.2.2.2.2.1 s.2.2.2.2.2.1 s.2.2.2.2.2.2 ++ wHi cI cR (ad 19) (ad 20) ha hn pm hb ++ wLa cI (ad 21) (ad 22) K ++ wLo cI (ad 23) (ad 24) (ad 25) (ad 26) Dp Bt Sq se ++ wTe cC (ad 27) (ad 28) Sg ln at_) := by
  intro X C Z
  show xb_G X 0 0 (wLB ad hs ++ wBd cI (ad 1) (ad 2) (ad 3) (ad 4) (ad 5) (ad 6) b.1 b.2.1 b.2.2.1 b.2.2.2.1 b.2.2.2.2.1 b.2.2.2.2.2.1 b.2.2.2.2.2.2 ++ wBd cI (ad 7) (ad 8) (ad 9) (ad 10) (ad 11) (ad 12) t.1 t.2.1 t.2.2.1 t.2.2.2.1 t.2.2.2.2.1 t.2.2.2.2.2.1 t.2.2.2.2.2.2 ++ wBd cI (ad 13) (ad 14) (ad 15) (ad 16) (ad 17) (ad 18) s.1 s.2.1 s.2.2.1 s.2.2.2.1 s.2.2.2.2.1 s.2.2.2.2.2.1 s.2.2.2.2.2.2 ++ wHi cI cR (ad 19) (ad 20) ha hn pm hb ++ wLa cI (ad 21) (ad 22) K ++ wLo cI (ad 23) (ad 24) (ad 25) (ad 26) Dp Bt Sq se ++ wTe cC (ad 27) (ad 28) Sg ln at_) [(0, .ref (ad 0)), (1, .int p1), (2, .int p2), (3, .int p3)] 0 []
  unfold f_X5_path at h
  refine xi_aload_n C dX5_path_0 rfl 0 rfl ?_
  refine xi_get C dX5_path_1 iw_X5_path_5 0 rfl rfl 0 (by decide) fl_X5_path_10 rfl ?_
  refine xi_iload_n C dX5_path_4 rfl 1 rfl ?_
  obtain ⟨v1, e2, h⟩ := ob_i h
  refine xi_callV (As := [.int p1]) (o := some (.int v1)) (rest := []) (w2 := (wLB ad hs ++ wBd cI (ad 1) (ad 2) (ad 3) (ad 4) (ad 5) (ad 6) b.1 b.2.1 b.2.2.1 b.2.2.2.1 b.2.2.2.2.1 b.2.2.2.2.2.1 b.2.2.2.2.2.2 ++ wBd cI (ad 7) (ad 8) (ad 9) (ad 10) (ad 11) (ad 12) t.1 t.2.1 t.2.2.1 t.2.2.2.1 t.2.2.2.2.1 t.2.2.2.2.2.1 t.2.2.2.2.2.2 ++ wBd cI (ad 13) (ad 14) (ad 15) (ad 16) (ad 17) (ad 18) s.1 s.2.1 s.2.2.1 s.2.2.2.1 s.2.2.2.2.1 s.2.2.2.2.2.1 s.2.2.2.2.2.2 ++ wHi cI cR (ad 19) (ad 20) ha hn pm hb ++ wLa cI (ad 21) (ad 22) K ++ wLo cI (ad 23) (ad 24) (ad 25) (ad 26) Dp Bt Sq se ++ wTe cC (ad 27) (ad 28) Sg ln at_)) (st2 := [.int v1]) C k_X0_hasCell (m_X0_hasCell D cI cC cZ cR (ad 1) (ad 2) (ad 3) (ad 4) (ad 5) (ad 6) b.1 b.2.1 b.2.2.1 b.2.2.2.1 b.2.2.2.2.1 b.2.2.2.2.2.1 b.2.2.2.2.2.2 p1 v1 e2) gX5_path_X0_hasCell dX5_path_5 ⟨Nat.le_of_ble_eq_true rfl, Nat.le_of_ble_eq_true rfl, Nat.le_of_ble_eq_true rfl⟩ 1 rfl rfl [1, 2, 3, 4, 5, 6] mxC_X5_1 rfl [0, 1, 2, 3] rfl mxF_X5_1 mxM_X5_1 rfl (Nat.le_of_ble_eq_true rfl) ⟨Nat.zero_le _, Nat.zero_le _⟩ rfl ?_
  refine xi_if_eq (tgt := 18) C dX5_path_8 (by decide) (fun c3 => ?_) (fun c3 => ?_)
  · have h := it_i c3 h
    refine xi_iconst (v := (-1)) C dX5_path_18 (by decide) ?_
    have w0 := Option.some.inj h
    subst w0
    exact xi_iret C Z dX5_path_19
  · have h := ie_i c3 h
    refine xi_iload_n C dX5_path_11 rfl 2 rfl ?_
    obtain ⟨v4, e5, h⟩ := ob_i h
    refine xi_callS (As := [.int p2]) (o := some (.int v4)) (rest := []) (w2 := (wLB ad hs ++ wBd cI (ad 1) (ad 2) (ad 3) (ad 4) (ad 5) (ad 6) b.1 b.2.1 b.2.2.1 b.2.2.2.1 b.2.2.2.2.1 b.2.2.2.2.2.1 b.2.2.2.2.2.2 ++ wBd cI (ad 7) (ad 8) (ad 9) (ad 10) (ad 11) (ad 12) t.1 t.2.1 t.2.2.1 t.2.2.2.1 t.2.2.2.2.1 t.2.2.2.2.2.1 t.2.2.2.2.2.2 ++ wBd cI (ad 13) (ad 14) (ad 15) (ad 16) (ad 17) (ad 18) s.1 s.2.1 s.2.2.1 s.2.2.2.1 s.2.2.2.2.1 s.2.2.2.2.2.1 s.2.2.2.2.2.2 ++ wHi cI cR (ad 19) (ad 20) ha hn pm hb ++ wLa cI (ad 21) (ad 22) K ++ wLo cI (ad 23) (ad 24) (ad 25) (ad 26) Dp Bt Sq se ++ wTe cC (ad 27) (ad 28) Sg ln at_)) (st2 := [.int v4]) C k_X5_isInput (m_X5_isInput D cI cC cZ cR p2 v4 e5) gX5_path_X5_isInput dX5_path_12 ⟨Nat.le_of_ble_eq_true rfl, Nat.le_of_ble_eq_true rfl, Nat.le_of_ble_eq_true rfl⟩ [] rfl rfl [0, 1, 2, 3] rfl rfl rfl rfl (Nat.le_of_ble_eq_true rfl) ⟨Nat.zero_le _, Nat.zero_le _⟩ rfl ?_
    refine xi_if_ne (tgt := 20) C dX5_path_15 (by decide) (fun c6 => ?_) (fun c6 => ?_)
    · have h := ie_i c6 h
      refine xi_iload_n C dX5_path_20 rfl 3 rfl ?_
      refine xi_if_ge (tgt := 27) C dX5_path_21 (by decide) (fun c7 => ?_) (fun c7 => ?_)
      · have h := it_i c7 h
        refine xi_aload_n C dX5_path_27 rfl 0 rfl ?_
        refine xi_get C dX5_path_28 iw_X5_path_5 0 rfl rfl 0 (by decide) fl_X5_path_10 rfl ?_
        refine xi_iload_n C dX5_path_31 rfl 1 rfl ?_
        refine xi_iconst (v := 3) C dX5_path_32 (by decide) ?_
        refine xi_imul C dX5_path_33 ?_
        refine xi_iload_n C dX5_path_34 rfl 2 rfl ?_
        refine xi_iadd C dX5_path_35 ?_
        refine xi_iload_n C dX5_path_36 rfl 3 rfl ?_
        obtain ⟨v8, e9, h⟩ := ob_i h
        refine xi_callV (As := [.int ((p1 * 3) + p2), .int p3]) (o := some (.int v8)) (rest := []) (w2 := (wLB ad hs ++ wBd cI (ad 1) (ad 2) (ad 3) (ad 4) (ad 5) (ad 6) b.1 b.2.1 b.2.2.1 b.2.2.2.1 b.2.2.2.2.1 b.2.2.2.2.2.1 b.2.2.2.2.2.2 ++ wBd cI (ad 7) (ad 8) (ad 9) (ad 10) (ad 11) (ad 12) t.1 t.2.1 t.2.2.1 t.2.2.2.1 t.2.2.2.2.1 t.2.2.2.2.2.1 t.2.2.2.2.2.2 ++ wBd cI (ad 13) (ad 14) (ad 15) (ad 16) (ad 17) (ad 18) s.1 s.2.1 s.2.2.1 s.2.2.2.1 s.2.2.2.2.1 s.2.2.2.2.2.1 s.2.2.2.2.2.2 ++ wHi cI cR (ad 19) (ad 20) ha hn pm hb ++ wLa cI (ad 21) (ad 22) K ++ wLo cI (ad 23) (ad 24) (ad 25) (ad 26) Dp Bt Sq se ++ wTe cC (ad 27) (ad 28) Sg ln at_)) (st2 := [.int v8]) C k_X0_junctionAt (m_X0_junctionAt D cI cC cZ cR (ad 1) (ad 2) (ad 3) (ad 4) (ad 5) (ad 6) b.1 b.2.1 b.2.2.1 b.2.2.2.1 b.2.2.2.2.1 b.2.2.2.2.2.1 b.2.2.2.2.2.2 ((p1 * 3) + p2) p3 v8 e9) gX5_path_X0_junctionAt dX5_path_37 ⟨Nat.le_of_ble_eq_true rfl, Nat.le_of_ble_eq_true rfl, Nat.le_of_ble_eq_true rfl⟩ 1 rfl rfl [1, 2, 3, 4, 5, 6] mxC_X5_1 rfl [0, 1, 2, 3] rfl mxF_X5_1 mxM_X5_1 rfl (Nat.le_of_ble_eq_true rfl) ⟨Nat.zero_le _, Nat.zero_le _⟩ rfl ?_
        refine xi_istore (lv2 := [(0, .ref (ad 0)), (1, .int p1), (2, .int p2), (3, .int p3), (4, .int v8)]) C dX5_path_40 (by decide) [0, 1, 2, 3] [1, 2, 3, 4, 0] rfl ?_
        refine xi_iload C dX5_path_42 4 rfl ?_
        refine xi_iconst (v := (-1)) C dX5_path_44 (by decide) ?_
        refine xi_icmp_ne (tgt := 53) C dX5_path_45 (by decide) (fun c10 => ?_) (fun c10 => ?_)
        · have h := ie_i c10 h
          refine xi_iload C dX5_path_53 4 rfl ?_
          have w0 := Option.some.inj h
          subst w0
          exact xi_iret C Z dX5_path_55
        · have h := it_i c10 h
          refine xi_bipush (v := (-5)) C dX5_path_48 (by decide) ?_
          refine xi_goto (tgt := 55) C dX5_path_50 (by decide) ?_
          have w0 := Option.some.inj h
          subst w0
          exact xi_iret C Z dX5_path_55
      · have h := ie_i c7 h
        refine xi_bipush (v := (-2)) C dX5_path_24 (by decide) ?_
        have w0 := Option.some.inj h
        subst w0
        exact xi_iret C Z dX5_path_26
    · have h := it_i c6 h
      refine xi_iconst (v := (-1)) C dX5_path_18 (by decide) ?_
      have w0 := Option.some.inj h
      subst w0
      exact xi_iret C Z dX5_path_19
def f_X5_held (b : xBd) (p1 : Int32) (p2 : Int32) : Option (Int32) :=
  (f_X5_segmentBetween p1 p2).bind fun v1 =>
  if v1 = (-1) then
    some (-1)
  else
    (f_X0_heldBy b.2.2.2.2.1 v1).bind fun v4 =>
    some v4
theorem k_X5_held : xb_Y yX5_held cX5_held wsX5_held 4 (some .int) { frames := 2, cells := 0, slots := 0, locals := 45 } 2 := ⟨⟨_, rfl⟩, by decide, ⟨by decide, by decide, by decide +kernel⟩, rfl, rfl⟩
theorem fl_X5_held_10 : Cond.fieldLink RX5 10 "LookupBoard" "board" "LLookupBoard$Board;" ∈ wsX5_held := List.mem_of_getElem? (i := 1) rfl
theorem iw_X5_held_5 : ∀ w ∈ wsX50, w ∈ wsX5_held := fun w h => List.mem_cons_of_mem _ (List.mem_append_left _ (List.mem_append_right _ h))
set_option maxHeartbeats 4000000 in
set_option maxRecDepth 100000 in
theorem m_X5_held (D : va_G) (cI cC cZ cR : ClassId) (ad : Nat → Nat) (ha : Nat → Nat → Nat) (hs : Int32) (b : xBd) (t : xBd) (s : xBd) (hn : Int32) (pm : Nat → Nat) (hb : Nat → xBd) (K : Nat → Int32) (Dp : Nat → Int32) (Bt : Nat → Int32) (Sq : Nat → Int32) (se : Int32) (Sg : Nat → Int32) (ln : Int32) (at_ : Int32) (p1 : Int32) (p2 : Int32) (r : Int32) (h : f_X5_held b p1 p2 = some r) : xb_M cX5_held wsX5_held RX5 { frames := 2, cells := 0, slots := 0, locals := 45 } (some .int) 4 (xb_ty cI cC cZ cR) D [.ref (ad 0), .int p1, .int p2] (wLB ad hs ++ wBd cI (ad 1) (ad 2) (ad 3) (ad 4) (ad 5) (ad 6) b.1 b.2.1 b.2.2.1 b.2.2.2.1 b.2.2.2.2.1 b.2.2.2.2.2.1 b.2.2.2.2.2.2 ++ wBd cI (ad 7) (ad 8) (ad 9) (ad 10) (ad 11) (ad 12) t.1 t.2.1 t.2.2.1 t.2.2.2.1 t.2.2.2.2.1 t.2.2.2.2.2.1 t.2.2.2.2.2.2 ++ wBd cI (ad 13) (ad 14) (ad 15) (ad 16) (ad 17) (ad 18) s.1 s.2.1 s.2.2.1 s.2.2.2.1 s.2.2.2.2.1 s.2.2.2.2.2.1 s.2.2.2.2.2.2 ++ wHi cI cR (ad 19) (ad 20) ha hn pm hb ++ wLa cI (ad 21) (ad 22) K ++ wLo cI (ad 23) (ad 24) (ad 25) (ad 26) Dp Bt Sq se ++ wTe cC (ad 27) (ad 28) Sg ln at_) (some (.int r)) (wLB ad hs ++ wBd cI (ad 1) (ad 2) (ad 3) (ad 4) (ad 5) (ad 6) b.1 b.2.1 b.2.2.1 b.2.2.2.1 b.2.2.2.2.1 b.2.2.2.2.2.1 b.2.2.2.2.2.2 ++ wBd cI (ad 7) (ad 8) (ad 9) (ad 10) (ad 11) (ad 12) t.1 t.2.1 t.2.2.1 t.2.2.2.1 t.2.2.2.2.1 t.2.2.2.2.2.1 t.2.2.2.2.2.2 ++ wBd cI (ad 13) (ad 14) (ad 15) (ad 16) (ad 17) (ad 18) s.1 s.2.1 s.2.2.1 s.2.2.2.1 s.2.2.2.2.1 s.2.2.2.2.2.1 s.2.2.2.2.2.2 ++ wHi cI cR (ad 19) (ad 20) ha hn pm hb ++ wLa cI (ad 21) (ad 22) K ++ wLo cI (ad 23) (ad 24) (ad 25) (ad 26) Dp Bt Sq se ++ wTe cC (ad 27) (ad 28) Sg ln at_) := by
  intro X C Z
  show xb_G X 0 0 (wLB ad hs ++ wBd cI (ad 1) (ad 2) (ad 3) (ad 4) (ad 5) (ad 6) b.1 b.2.1 b.2.2.1 b.2.2.2.1 b.2.2.2.2.1 b.2.2.2.2.2.1 b.2.2.2.2.2.2 ++ wBd cI (ad 7) (ad 8) (ad 9) (ad 10) (ad 11) (ad 12) t.1 t.2.1 t.2.2.1 t.2.2.2.1 t.2.2.2.2.1 t.2.2.2.2.2.1 t.2.2.2.2.2.2 ++ wBd cI (ad 13) (ad 14) (ad 15) (ad 16) (ad 17) (ad 18) s.1 s.2.1 s.2.2.1 s.2.2.2.1 s.2.2.2.2.1 s.2.2.2.2.2.1 s.2.2.2.2.2.2 ++ wHi cI cR (ad 19) (ad 20) ha hn pm hb ++ wLa cI (ad 21) (ad 22) K ++ wLo cI (ad 23) (ad 24) (ad 25) (ad 26) Dp Bt Sq se ++ wTe cC (ad 27) (ad 28) Sg ln at_) [(0, .ref (ad 0)), (1, .int p1), (2, .int p2)] 0 []
  unfold f_X5_held at h
  refine xi_iload_n C dX5_held_0 rfl 1 rfl ?_
  refine xi_iload_n C dX5_held_1 rfl 2 rfl ?_
  obtain ⟨v1, e2, h⟩ := ob_i h
  refine xi_callS (As := [.int p1, .int p2]) (o := some (.int v1)) (rest := []) (w2 := (wLB ad hs ++ wBd cI (ad 1) (ad 2) (ad 3) (ad 4) (ad 5) (ad 6) b.1 b.2.1 b.2.2.1 b.2.2.2.1 b.2.2.2.2.1 b.2.2.2.2.2.1 b.2.2.2.2.2.2 ++ wBd cI (ad 7) (ad 8) (ad 9) (ad 10) (ad 11) (ad 12) t.1 t.2.1 t.2.2.1 t.2.2.2.1 t.2.2.2.2.1 t.2.2.2.2.2.1 t.2.2.2.2.2.2 ++ wBd cI (ad 13) (ad 14) (ad 15) (ad 16) (ad 17) (ad 18) s.1 s.2.1 s.2.2.1 s.2.2.2.1 s.2.2.2.2.1 s.2.2.2.2.2.1 s.2.2.2.2.2.2 ++ wHi cI cR (ad 19) (ad 20) ha hn pm hb ++ wLa cI (ad 21) (ad 22) K ++ wLo cI (ad 23) (ad 24) (ad 25) (ad 26) Dp Bt Sq se ++ wTe cC (ad 27) (ad 28) Sg ln at_)) (st2 := [.int v1]) C k_X5_segmentBetween (m_X5_segmentBetween D cI cC cZ cR p1 p2 v1 e2) gX5_held_X5_segmentBetween dX5_held_2 ⟨Nat.le_of_ble_eq_true rfl, Nat.le_of_ble_eq_true rfl, Nat.le_of_ble_eq_true rfl⟩ [] rfl rfl [0, 1, 2, 3] rfl rfl rfl rfl (Nat.le_of_ble_eq_true rfl) ⟨Nat.zero_le _, Nat.zero_le _⟩ rfl ?_
  refine xi_istore_n (lv2 := [(0, .ref (ad 0)), (1, .int p1), (2, .int p2), (3, .int v1)]) C dX5_held_5 rfl (by decide) [0, 1, 2] [1, 2, 3, 0] rfl ?_
  refine xi_iload_n C dX5_held_6 rfl 3 rfl ?_
  refine xi_iconst (v := (-1)) C dX5_held_7 (by decide) ?_
  refine xi_icmp_ne (tgt := 15) C dX5_held_8 (by decide) (fun c3 => ?_) (fun c3 => ?_)
  · have h := ie_i c3 h
    refine xi_aload_n C dX5_held_15 rfl 0 rfl ?_
    refine xi_get C dX5_held_16 iw_X5_held_5 0 rfl rfl 0 (by decide) fl_X5_held_10 rfl ?_
    refine xi_iload_n C dX5_held_19 rfl 3 rfl ?_
    obtain ⟨v4, e5, h⟩ := ob_i h
    refine xi_callV (As := [.int v1]) (o := some (.int v4)) (rest := []) (w2 := (wLB ad hs ++ wBd cI (ad 1) (ad 2) (ad 3) (ad 4) (ad 5) (ad 6) b.1 b.2.1 b.2.2.1 b.2.2.2.1 b.2.2.2.2.1 b.2.2.2.2.2.1 b.2.2.2.2.2.2 ++ wBd cI (ad 7) (ad 8) (ad 9) (ad 10) (ad 11) (ad 12) t.1 t.2.1 t.2.2.1 t.2.2.2.1 t.2.2.2.2.1 t.2.2.2.2.2.1 t.2.2.2.2.2.2 ++ wBd cI (ad 13) (ad 14) (ad 15) (ad 16) (ad 17) (ad 18) s.1 s.2.1 s.2.2.1 s.2.2.2.1 s.2.2.2.2.1 s.2.2.2.2.2.1 s.2.2.2.2.2.2 ++ wHi cI cR (ad 19) (ad 20) ha hn pm hb ++ wLa cI (ad 21) (ad 22) K ++ wLo cI (ad 23) (ad 24) (ad 25) (ad 26) Dp Bt Sq se ++ wTe cC (ad 27) (ad 28) Sg ln at_)) (st2 := [.int v4]) C k_X0_heldBy (m_X0_heldBy D cI cC cZ cR (ad 1) (ad 2) (ad 3) (ad 4) (ad 5) (ad 6) b.1 b.2.1 b.2.2.1 b.2.2.2.1 b.2.2.2.2.1 b.2.2.2.2.2.1 b.2.2.2.2.2.2 v1 v4 e5) gX5_held_X0_heldBy dX5_held_20 ⟨Nat.le_of_ble_eq_true rfl, Nat.le_of_ble_eq_true rfl, Nat.le_of_ble_eq_true rfl⟩ 1 rfl rfl [1, 2, 3, 4, 5, 6] mxC_X5_1 rfl [0, 1, 2, 3] rfl mxF_X5_1 mxM_X5_1 rfl (Nat.le_of_ble_eq_true rfl) ⟨Nat.zero_le _, Nat.zero_le _⟩ rfl ?_
    have w0 := Option.some.inj h
    subst w0
    exact xi_iret C Z dX5_held_23
  · have h := it_i c3 h
    refine xi_iconst (v := (-1)) C dX5_held_11 (by decide) ?_
    refine xi_goto (tgt := 23) C dX5_held_12 (by decide) ?_
    have w0 := Option.some.inj h
    subst w0
    exact xi_iret C Z dX5_held_23
def f_X5_answer (b : xBd) (Dp : Nat → Int32) (Bt : Nat → Int32) (Sq : Nat → Int32) (se : Int32) (p1 : Int32) (p2 : Int32) : Option (Int32 × (Nat → Int32) × (Nat → Int32) × (Nat → Int32) × Int32) :=
  (f_X0_hasCell b.1 p1).bind fun v1 =>
  if v1 = 0 then
    some ((-1), Dp, Bt, Sq, se)
  else
    if p2 < 0 then
      some ((-2), Dp, Bt, Sq, se)
    else
      if p2 < 256 then
        (f_X3_study Dp Sq se b.1 b.2.1).bind fun (Dp6, Sq7, se8) =>
        (f_X3_answers Dp6 p1).bind fun v10 =>
        if v10 = 0 then
          some ((-5), Dp6, Bt, Sq7, se8)
        else
          (f_X3_work Bt Sq7 se8 b.1 b.2.1 p2).bind fun Bt13 =>
          (f_X3_bitOf Bt13 p1).bind fun v15 =>
          some (v15, Dp6, Bt13, Sq7, se8)
      else
        some ((-2), Dp, Bt, Sq, se)
theorem k_X5_answer : xb_Y yX5_answer cX5_answer wsX5_answer 3 (some .int) { frames := 5, cells := 0, slots := 0, locals := 113 } 2 := ⟨⟨_, rfl⟩, by decide, ⟨by decide, by decide, by decide +kernel⟩, rfl, rfl⟩
theorem fl_X5_answer_10 : Cond.fieldLink RX5 10 "LookupBoard" "board" "LLookupBoard$Board;" ∈ wsX5_answer := List.mem_of_getElem? (i := 1) rfl
theorem fl_X5_answer_39 : Cond.fieldLink RX5 39 "LookupBoard" "logic" "LLookupBoard$Logic;" ∈ wsX5_answer := List.mem_of_getElem? (i := 2) rfl
theorem iw_X5_answer_5 : ∀ w ∈ wsX50, w ∈ wsX5_answer := fun w h => List.mem_cons_of_mem _ (List.mem_append_left _ (List.mem_append_left _ (List.mem_append_right _ h)))
set_option maxHeartbeats 4000000 in
set_option maxRecDepth 100000 in
theorem m_X5_answer (D : va_G) (cI cC cZ cR : ClassId) (ad : Nat → Nat) (ha : Nat → Nat → Nat) (hs : Int32) (b : xBd) (t : xBd) (s : xBd) (hn : Int32) (pm : Nat → Nat) (hb : Nat → xBd) (K : Nat → Int32) (Dp : Nat → Int32) (Bt : Nat → Int32) (Sq : Nat → Int32) (se : Int32) (Sg : Nat → Int32) (ln : Int32) (at_ : Int32) (p1 : Int32) (p2 : Int32) (r : Int32) (Dp' : Nat → Int32) (Bt' : Nat → Int32) (Sq' : Nat → Int32) (se' : Int32) (h : f_X5_answer b Dp Bt Sq se p1 p2 = some (r, Dp', Bt', Sq', se')) : xb_M cX5_answer wsX5_answer RX5 { frames := 5, cells := 0, slots := 0, locals := 113 } (some .int) 3 (xb_ty cI cC cZ cR) D [.ref (ad 0), .int p1, .int p2] (wLB ad hs ++ wBd cI (ad 1) (ad 2) (ad 3) (ad 4) (ad 5) (ad 6) b.1 b.2.1 b.2.2.1 b.2.2.2.1 b.2.2.2.2.1 b.2.2.2.2.2.1 b.2.2.2.2.2.2 ++ wBd cI (ad 7) (ad 8) (ad 9) (ad 10) (ad 11) (ad 12) t.1 t.2.1 t.2.2.1 t.2.2.2.1 t.2.2.2.2.1 t.2.2.2.2.2.1 t.2.2.2.2.2.2 ++ wBd cI (ad 13) (ad 14) (ad 15) (ad 16) (ad 17) (ad 18) s.1 s.2.1 s.2.2.1 s.2.2.2.1 s.2.2.2.2.1 s.2.2.2.2.2.1 s.2.2.2.2.2.2 ++ wHi cI cR (ad 19) (ad 20) ha hn pm hb ++ wLa cI (ad 21) (ad 22) K ++ wLo cI (ad 23) (ad 24) (ad 25) (ad 26) Dp Bt Sq se ++ wTe cC (ad 27) (ad 28) Sg ln at_) (some (.int r)) (wLB ad hs ++ wBd cI (ad 1) (ad 2) (ad 3) (ad 4) (ad 5) (ad 6) b.1 b.2.1 b.2.2.1 b.2.2.2.1 b.2.2.2.2.1 b.2.2.2.2.2.1 b.2.2.2.2.2.2 ++ wBd cI (ad 7) (ad 8) (ad 9) (ad 10) (ad 11) (ad 12) t.1 t.2.1 t.2.2.1 t.2.2.2.1 t.2.2.2.2.1 t.2.2.2.2.2.1 t.2.2.2.2.2.2 ++ wBd cI (ad 13) (ad 14) (ad 15) (ad 16) (ad 17) (ad 18) s.1 s.2.1 s.2.2.1 s.2.2.2.1 s.2.2.2.2.1 s.2.2.2.2.2.1 s.2.2.2.2.2.2 ++ wHi cI cR (ad 19) (ad 20) ha hn pm hb ++ wLa cI (ad 21) (ad 22) K ++ wLo cI (ad 23) (ad 24) (ad 25) (ad 26) Dp' Bt' Sq' se' ++ wTe cC (ad 27) (ad 28) Sg ln at_) := by
  intro X C Z
  show xb_G X 0 0 (wLB ad hs ++ wBd cI (ad 1) (ad 2) (ad 3) (ad 4) (ad 5) (ad 6) b.1 b.2.1 b.2.2.1 b.2.2.2.1 b.2.2.2.2.1 b.2.2.2.2.2.1 b.2.2.2.2.2.2 ++ wBd cI (ad 7) (ad 8) (ad 9) (ad 10) (ad 11) (ad 12) t.1 t.2.1 t.2.2.1 t.2.2.2.1 t.2.2.2.2.1 t.2.2.2.2.2.1 t.2.2.2.2.2.2 ++ wBd cI (ad 13) (ad 14) (ad 15) (ad 16) (ad 17) (ad 18) s.1 s.2.1 s.2.2.1 s.2.2.2.1 s.2.2.2.2.1 s.2.2.2.2.2.1 s.2.2.2.2.2.2 ++ wHi cI cR (ad 19) (ad 20) ha hn pm hb ++ wLa cI (ad 21) (ad 22) K ++ wLo cI (ad 23) (ad 24) (ad 25) (ad 26) Dp Bt Sq se ++ wTe cC (ad 27) (ad 28) Sg ln at_) [(0, .ref (ad 0)), (1, .int p1), (2, .int p2)] 0 []
  unfold f_X5_answer at h
  refine xi_aload_n C dX5_answer_0 rfl 0 rfl ?_
  refine xi_get C dX5_answer_1 iw_X5_answer_5 0 rfl rfl 0 (by decide) fl_X5_answer_10 rfl ?_
  refine xi_iload_n C dX5_answer_4 rfl 1 rfl ?_
  obtain ⟨v1, e2, h⟩ := ob_i h
  refine xi_callV (As := [.int p1]) (o := some (.int v1)) (rest := []) (w2 := (wLB ad hs ++ wBd cI (ad 1) (ad 2) (ad 3) (ad 4) (ad 5) (ad 6) b.1 b.2.1 b.2.2.1 b.2.2.2.1 b.2.2.2.2.1 b.2.2.2.2.2.1 b.2.2.2.2.2.2 ++ wBd cI (ad 7) (ad 8) (ad 9) (ad 10) (ad 11) (ad 12) t.1 t.2.1 t.2.2.1 t.2.2.2.1 t.2.2.2.2.1 t.2.2.2.2.2.1 t.2.2.2.2.2.2 ++ wBd cI (ad 13) (ad 14) (ad 15) (ad 16) (ad 17) (ad 18) s.1 s.2.1 s.2.2.1 s.2.2.2.1 s.2.2.2.2.1 s.2.2.2.2.2.1 s.2.2.2.2.2.2 ++ wHi cI cR (ad 19) (ad 20) ha hn pm hb ++ wLa cI (ad 21) (ad 22) K ++ wLo cI (ad 23) (ad 24) (ad 25) (ad 26) Dp Bt Sq se ++ wTe cC (ad 27) (ad 28) Sg ln at_)) (st2 := [.int v1]) C k_X0_hasCell (m_X0_hasCell D cI cC cZ cR (ad 1) (ad 2) (ad 3) (ad 4) (ad 5) (ad 6) b.1 b.2.1 b.2.2.1 b.2.2.2.1 b.2.2.2.2.1 b.2.2.2.2.2.1 b.2.2.2.2.2.2 p1 v1 e2) gX5_answer_X0_hasCell dX5_answer_5 ⟨Nat.le_of_ble_eq_true rfl, Nat.le_of_ble_eq_true rfl, Nat.le_of_ble_eq_true rfl⟩ 1 rfl rfl [1, 2, 3, 4, 5, 6] mxC_X5_1 rfl [0, 1, 2, 3] rfl mxF_X5_1 mxM_X5_1 rfl (Nat.le_of_ble_eq_true rfl) ⟨Nat.zero_le _, Nat.zero_le _⟩ rfl ?_
  refine xi_if_ne (tgt := 13) C dX5_answer_8 (by decide) (fun c3 => ?_) (fun c3 => ?_)
  · have h := ie_i c3 h
    refine xi_iload_n C dX5_answer_13 rfl 2 rfl ?_
    refine xi_if_lt (tgt := 24) C dX5_answer_14 (by decide) (fun c4 => ?_) (fun c4 => ?_)
    · have h := it_i c4 h
      refine xi_bipush (v := (-2)) C dX5_answer_24 (by decide) ?_
      have w0 := Option.some.inj h
      obtain ⟨q0, w1⟩ := Prod.mk.inj w0
      obtain ⟨q1, w2⟩ := Prod.mk.inj w1
      obtain ⟨q2, w3⟩ := Prod.mk.inj w2
      obtain ⟨q3, w4⟩ := Prod.mk.inj w3
      subst q0
      subst q1
      subst q2
      subst q3
      subst w4
      exact xi_iret C Z dX5_answer_26
    · have h := ie_i c4 h
      refine xi_iload_n C dX5_answer_17 rfl 2 rfl ?_
      refine xi_sipush (v := 256) C dX5_answer_18 (by decide) ?_
      refine xi_icmp_lt (tgt := 27) C dX5_answer_21 (by decide) (fun c5 => ?_) (fun c5 => ?_)
      · have h := it_i c5 h
        refine xi_aload_n C dX5_answer_27 rfl 0 rfl ?_
        refine xi_get C dX5_answer_28 iw_X5_answer_5 0 rfl rfl 5 (by decide) fl_X5_answer_39 rfl ?_
        refine xi_aload_n C dX5_answer_31 rfl 0 rfl ?_
        refine xi_get C dX5_answer_32 iw_X5_answer_5 0 rfl rfl 0 (by decide) fl_X5_answer_10 rfl ?_
        obtain ⟨⟨Dp6, Sq7, se8⟩, e9, h⟩ := ob_i h
        refine xi_callV (As := [.ref (ad 1)]) (o := none) (rest := []) (w2 := (wLB ad hs ++ wBd cI (ad 1) (ad 2) (ad 3) (ad 4) (ad 5) (ad 6) b.1 b.2.1 b.2.2.1 b.2.2.2.1 b.2.2.2.2.1 b.2.2.2.2.2.1 b.2.2.2.2.2.2 ++ wBd cI (ad 7) (ad 8) (ad 9) (ad 10) (ad 11) (ad 12) t.1 t.2.1 t.2.2.1 t.2.2.2.1 t.2.2.2.2.1 t.2.2.2.2.2.1 t.2.2.2.2.2.2 ++ wBd cI (ad 13) (ad 14) (ad 15) (ad 16) (ad 17) (ad 18) s.1 s.2.1 s.2.2.1 s.2.2.2.1 s.2.2.2.2.1 s.2.2.2.2.2.1 s.2.2.2.2.2.2 ++ wHi cI cR (ad 19) (ad 20) ha hn pm hb ++ wLa cI (ad 21) (ad 22) K ++ wLo cI (ad 23) (ad 24) (ad 25) (ad 26) Dp6 Bt Sq7 se8 ++ wTe cC (ad 27) (ad 28) Sg ln at_)) (st2 := []) C k_X3_study (m_X3_study D cI cC cZ cR (ad 23) (ad 24) (ad 25) (ad 26) (ad 1) (ad 2) (ad 3) (ad 4) (ad 5) (ad 6) Dp Bt Sq se b.1 b.2.1 b.2.2.1 b.2.2.2.1 b.2.2.2.2.1 b.2.2.2.2.2.1 b.2.2.2.2.2.2 Dp6 Sq7 se8 e9) gX5_answer_X3_study dX5_answer_35 ⟨Nat.le_of_ble_eq_true rfl, Nat.le_of_ble_eq_true rfl, Nat.le_of_ble_eq_true rfl⟩ 47 rfl rfl [47, 48, 49, 50, 1, 2, 3, 4, 5, 6] mxC_X5_6_1 rfl [0, 1, 2, 3] rfl mxF_X5_6_1 mxM_X5_6_1 rfl (Nat.le_of_ble_eq_true rfl) ⟨Nat.zero_le _, Nat.zero_le _⟩ rfl ?_
        refine xi_aload_n C dX5_answer_38 rfl 0 rfl ?_
        refine xi_get C dX5_answer_39 iw_X5_answer_5 0 rfl rfl 5 (by decide) fl_X5_answer_39 rfl ?_
        refine xi_iload_n C dX5_answer_42 rfl 1 rfl ?_
        obtain ⟨v10, e11, h⟩ := ob_i h
        refine xi_callV (As := [.int p1]) (o := some (.int v10)) (rest := []) (w2 := (wLB ad hs ++ wBd cI (ad 1) (ad 2) (ad 3) (ad 4) (ad 5) (ad 6) b.1 b.2.1 b.2.2.1 b.2.2.2.1 b.2.2.2.2.1 b.2.2.2.2.2.1 b.2.2.2.2.2.2 ++ wBd cI (ad 7) (ad 8) (ad 9) (ad 10) (ad 11) (ad 12) t.1 t.2.1 t.2.2.1 t.2.2.2.1 t.2.2.2.2.1 t.2.2.2.2.2.1 t.2.2.2.2.2.2 ++ wBd cI (ad 13) (ad 14) (ad 15) (ad 16) (ad 17) (ad 18) s.1 s.2.1 s.2.2.1 s.2.2.2.1 s.2.2.2.2.1 s.2.2.2.2.2.1 s.2.2.2.2.2.2 ++ wHi cI cR (ad 19) (ad 20) ha hn pm hb ++ wLa cI (ad 21) (ad 22) K ++ wLo cI (ad 23) (ad 24) (ad 25) (ad 26) Dp6 Bt Sq7 se8 ++ wTe cC (ad 27) (ad 28) Sg ln at_)) (st2 := [.int v10]) C k_X3_answers (m_X3_answers D cI cC cZ cR (ad 23) (ad 24) (ad 25) (ad 26) Dp6 Bt Sq7 se8 p1 v10 e11) gX5_answer_X3_answers dX5_answer_43 ⟨Nat.le_of_ble_eq_true rfl, Nat.le_of_ble_eq_true rfl, Nat.le_of_ble_eq_true rfl⟩ 47 rfl rfl [47, 48, 49, 50] mxC_X5_6 rfl [0, 1, 2, 3] rfl mxF_X5_6 mxM_X5_6 rfl (Nat.le_of_ble_eq_true rfl) ⟨Nat.zero_le _, Nat.zero_le _⟩ rfl ?_
        refine xi_if_ne (tgt := 52) C dX5_answer_46 (by decide) (fun c12 => ?_) (fun c12 => ?_)
        · have h := ie_i c12 h
          refine xi_aload_n C dX5_answer_52 rfl 0 rfl ?_
          refine xi_get C dX5_answer_53 iw_X5_answer_5 0 rfl rfl 5 (by decide) fl_X5_answer_39 rfl ?_
          refine xi_aload_n C dX5_answer_56 rfl 0 rfl ?_
          refine xi_get C dX5_answer_57 iw_X5_answer_5 0 rfl rfl 0 (by decide) fl_X5_answer_10 rfl ?_
          refine xi_iload_n C dX5_answer_60 rfl 2 rfl ?_
          obtain ⟨Bt13, e14, h⟩ := ob_i h
          refine xi_callV (As := [.ref (ad 1), .int p2]) (o := none) (rest := []) (w2 := (wLB ad hs ++ wBd cI (ad 1) (ad 2) (ad 3) (ad 4) (ad 5) (ad 6) b.1 b.2.1 b.2.2.1 b.2.2.2.1 b.2.2.2.2.1 b.2.2.2.2.2.1 b.2.2.2.2.2.2 ++ wBd cI (ad 7) (ad 8) (ad 9) (ad 10) (ad 11) (ad 12) t.1 t.2.1 t.2.2.1 t.2.2.2.1 t.2.2.2.2.1 t.2.2.2.2.2.1 t.2.2.2.2.2.2 ++ wBd cI (ad 13) (ad 14) (ad 15) (ad 16) (ad 17) (ad 18) s.1 s.2.1 s.2.2.1 s.2.2.2.1 s.2.2.2.2.1 s.2.2.2.2.2.1 s.2.2.2.2.2.2 ++ wHi cI cR (ad 19) (ad 20) ha hn pm hb ++ wLa cI (ad 21) (ad 22) K ++ wLo cI (ad 23) (ad 24) (ad 25) (ad 26) Dp6 Bt13 Sq7 se8 ++ wTe cC (ad 27) (ad 28) Sg ln at_)) (st2 := []) C k_X3_work (m_X3_work D cI cC cZ cR (ad 23) (ad 24) (ad 25) (ad 26) (ad 1) (ad 2) (ad 3) (ad 4) (ad 5) (ad 6) Dp6 Bt Sq7 se8 b.1 b.2.1 b.2.2.1 b.2.2.2.1 b.2.2.2.2.1 b.2.2.2.2.2.1 b.2.2.2.2.2.2 p2 Bt13 e14) gX5_answer_X3_work dX5_answer_61 ⟨Nat.le_of_ble_eq_true rfl, Nat.le_of_ble_eq_true rfl, Nat.le_of_ble_eq_true rfl⟩ 47 rfl rfl [47, 48, 49, 50, 1, 2, 3, 4, 5, 6] mxC_X5_6_1 rfl [0, 1, 2, 3] rfl mxF_X5_6_1 mxM_X5_6_1 rfl (Nat.le_of_ble_eq_true rfl) ⟨Nat.zero_le _, Nat.zero_le _⟩ rfl ?_
          refine xi_aload_n C dX5_answer_64 rfl 0 rfl ?_
          refine xi_get C dX5_answer_65 iw_X5_answer_5 0 rfl rfl 5 (by decide) fl_X5_answer_39 rfl ?_
          refine xi_iload_n C dX5_answer_68 rfl 1 rfl ?_
          obtain ⟨v15, e16, h⟩ := ob_i h
          refine xi_callV (As := [.int p1]) (o := some (.int v15)) (rest := []) (w2 := (wLB ad hs ++ wBd cI (ad 1) (ad 2) (ad 3) (ad 4) (ad 5) (ad 6) b.1 b.2.1 b.2.2.1 b.2.2.2.1 b.2.2.2.2.1 b.2.2.2.2.2.1 b.2.2.2.2.2.2 ++ wBd cI (ad 7) (ad 8) (ad 9) (ad 10) (ad 11) (ad 12) t.1 t.2.1 t.2.2.1 t.2.2.2.1 t.2.2.2.2.1 t.2.2.2.2.2.1 t.2.2.2.2.2.2 ++ wBd cI (ad 13) (ad 14) (ad 15) (ad 16) (ad 17) (ad 18) s.1 s.2.1 s.2.2.1 s.2.2.2.1 s.2.2.2.2.1 s.2.2.2.2.2.1 s.2.2.2.2.2.2 ++ wHi cI cR (ad 19) (ad 20) ha hn pm hb ++ wLa cI (ad 21) (ad 22) K ++ wLo cI (ad 23) (ad 24) (ad 25) (ad 26) Dp6 Bt13 Sq7 se8 ++ wTe cC (ad 27) (ad 28) Sg ln at_)) (st2 := [.int v15]) C k_X3_bitOf (m_X3_bitOf D cI cC cZ cR (ad 23) (ad 24) (ad 25) (ad 26) Dp6 Bt13 Sq7 se8 p1 v15 e16) gX5_answer_X3_bitOf dX5_answer_69 ⟨Nat.le_of_ble_eq_true rfl, Nat.le_of_ble_eq_true rfl, Nat.le_of_ble_eq_true rfl⟩ 47 rfl rfl [47, 48, 49, 50] mxC_X5_6 rfl [0, 1, 2, 3] rfl mxF_X5_6 mxM_X5_6 rfl (Nat.le_of_ble_eq_true rfl) ⟨Nat.zero_le _, Nat.zero_le _⟩ rfl ?_
          have w0 := Option.some.inj h
          obtain ⟨q0, w1⟩ := Prod.mk.inj w0
          obtain ⟨q1, w2⟩ := Prod.mk.inj w1
          obtain ⟨q2, w3⟩ := Prod.mk.inj w2
          obtain ⟨q3, w4⟩ := Prod.mk.inj w3
          subst q0
          subst q1
          subst q2
          subst q3
          subst w4
          exact xi_iret C Z dX5_answer_72
        · have h := it_i c12 h
          refine xi_bipush (v := (-5)) C dX5_answer_49 (by decide) ?_
          have w0 := Option.some.inj h
          obtain ⟨q0, w1⟩ := Prod.mk.inj w0
          obtain ⟨q1, w2⟩ := Prod.mk.inj w1
          obtain ⟨q2, w3⟩ := Prod.mk.inj w2
          obtain ⟨q3, w4⟩ := Prod.mk.inj w3
          subst q0
          subst q1
          subst q2
          subst q3
          subst w4
          exact xi_iret C Z dX5_answer_51
      · have h := ie_i c5 h
        refine xi_bipush (v := (-2)) C dX5_answer_24 (by decide) ?_
        have w0 := Option.some.inj h
        obtain ⟨q0, w1⟩ := Prod.mk.inj w0
        obtain ⟨q1, w2⟩ := Prod.mk.inj w1
        obtain ⟨q2, w3⟩ := Prod.mk.inj w2
        obtain ⟨q3, w4⟩ := Prod.mk.inj w3
        subst q0
        subst q1
        subst q2
        subst q3
        subst w4
        exact xi_iret C Z dX5_answer_26
  · have h := it_i c3 h
    refine xi_iconst (v := (-1)) C dX5_answer_11 (by decide) ?_
    have w0 := Option.some.inj h
    obtain ⟨q0, w1⟩ := Prod.mk.inj w0
    obtain ⟨q1, w2⟩ := Prod.mk.inj w1
    obtain ⟨q2, w3⟩ := Prod.mk.inj w2
    obtain ⟨q3, w4⟩ := Prod.mk.inj w3
    subst q0
    subst q1
    subst q2
    subst q3
    subst w4
    exact xi_iret C Z dX5_answer_12
def f_X5_ones_42 (b : xBd) (Sq_42 : Nat → Int32) (se_42 : Int32) (x1_42 : Int32) (k : Int32 → (Nat → Int32) → Option (Int32 × (Nat → Int32) × (Nat → Int32) × (Nat → Int32) × Int32)) : Nat → Int32 → Int32 → (Nat → Int32) → Option (Int32 × (Nat → Int32) × (Nat → Int32) × (Nat → Int32) × Int32)
  | 0, _, _, _ => none
  | n + 1, x2_42, x3_42, Bt_42 =>
    if 256 ≤ x3_42 then
      k x2_42 Bt_42
    else
      (f_X3_work Bt_42 Sq_42 se_42 b.1 b.2.1 x3_42).bind fun Bt12 =>
      (f_X3_bitOf Bt12 x1_42).bind fun v14 =>
      f_X5_ones_42 b Sq_42 se_42 x1_42 k n (x2_42 + v14) (x3_42 + 1) Bt12
def f_X5_ones (b : xBd) (Dp : Nat → Int32) (Bt : Nat → Int32) (Sq : Nat → Int32) (se : Int32) (p1 : Int32) : Option (Int32 × (Nat → Int32) × (Nat → Int32) × (Nat → Int32) × Int32) :=
  (f_X0_hasCell b.1 p1).bind fun v1 =>
  if v1 = 0 then
    some ((-1), Dp, Bt, Sq, se)
  else
    (f_X3_study Dp Sq se b.1 b.2.1).bind fun (Dp4, Sq5, se6) =>
    (f_X3_answers Dp4 p1).bind fun v8 =>
    if v8 = 0 then
      some ((-5), Dp4, Bt, Sq5, se6)
    else
      f_X5_ones_42 b Sq5 se6 p1 (fun x2z16 Btz16 =>
        some (x2z16, Dp4, Btz16, Sq5, se6)) xFu 0 0 Bt
theorem k_X5_ones : xb_Y yX5_ones cX5_ones wsX5_ones 4 (some .int) { frames := 5, cells := 0, slots := 0, locals := 113 } 1 := ⟨⟨_, rfl⟩, by decide, ⟨by decide, by decide, by decide +kernel⟩, rfl, rfl⟩
theorem fl_X5_ones_10 : Cond.fieldLink RX5 10 "LookupBoard" "board" "LLookupBoard$Board;" ∈ wsX5_ones := List.mem_of_getElem? (i := 1) rfl
theorem fl_X5_ones_39 : Cond.fieldLink RX5 39 "LookupBoard" "logic" "LLookupBoard$Logic;" ∈ wsX5_ones := List.mem_of_getElem? (i := 2) rfl
theorem iw_X5_ones_5 : ∀ w ∈ wsX50, w ∈ wsX5_ones := fun w h => List.mem_cons_of_mem _ (List.mem_append_left _ (List.mem_append_left _ (List.mem_append_right _ h)))
set_option maxHeartbeats 4000000 in
set_option maxRecDepth 100000 in
theorem m_X5_ones (D : va_G) (cI cC cZ cR : ClassId) (ad : Nat → Nat) (ha : Nat → Nat → Nat) (hs : Int32) (b : xBd) (t : xBd) (s : xBd) (hn : Int32) (pm : Nat → Nat) (hb : Nat → xBd) (K : Nat → Int32) (Dp : Nat → Int32) (Bt : Nat → Int32) (Sq : Nat → Int32) (se : Int32) (Sg : Nat → Int32) (ln : Int32) (at_ : Int32) (p1 : Int32) (r : Int32) (Dp' : Nat → Int32) (Bt' : Nat → Int32) (Sq' : Nat → Int32) (se' : Int32) (h : f_X5_ones b Dp Bt Sq se p1 = some (r, Dp', Bt', Sq', se')) : xb_M cX5_ones wsX5_ones RX5 { frames := 5, cells := 0, slots := 0, locals := 113 } (some .int) 4 (xb_ty cI cC cZ cR) D [.ref (ad 0), .int p1] (wLB ad hs ++ wBd cI (ad 1) (ad 2) (ad 3) (ad 4) (ad 5) (ad 6) b.1 b.2.1 b.2.2.1 b.2.2.2.1 b.2.2.2.2.1 b.2.2.2.2.2.1 b.2.2.2.2.2.2 ++ wBd cI (ad 7) (ad 8) (ad 9) (ad 10) (ad 11) (ad 12) t.1 t.2.1 t.2.2.1 t.2.2.2.1 t.2.2.2.2.1 t.2.2.2.2.2.1 t.2.2.2.2.2.2 ++ wBd cI (ad 13) (ad 14) (ad 15) (ad 16) (ad 17) (ad 18) s.1 s.2.1 s.2.2.1 s.2.2.2.1 s.2.2.2.2.1 s.2.2.2.2.2.1 s.2.2.2.2.2.2 ++ wHi cI cR (ad 19) (ad 20) ha hn pm hb ++ wLa cI (ad 21) (ad 22) K ++ wLo cI (ad 23) (ad 24) (ad 25) (ad 26) Dp Bt Sq se ++ wTe cC (ad 27) (ad 28) Sg ln at_) (some (.int r)) (wLB ad hs ++ wBd cI (ad 1) (ad 2) (ad 3) (ad 4) (ad 5) (ad 6) b.1 b.2.1 b.2.2.1 b.2.2.2.1 b.2.2.2.2.1 b.2.2.2.2.2.1 b.2.2.2.2.2.2 ++ wBd cI (ad 7) (ad 8) (ad 9) (ad 10) (ad 11) (ad 12) t.1 t.2.1 t.2.2.1 t.2.2.2.1 t.2.2.2.2.1 t.2.2.2.2.2.1 t.2.2.2.2.2.2 ++ wBd cI (ad 13) (ad 14) (ad 15) (ad 16) (ad 17) (ad 18) s.1 s.2.1 s.2.2.1 s.2.2.2.1 s.2.2.2.2.1 s.2.2.2.2.2.1 s.2.2.2.2.2.2 ++ wHi cI cR (ad 19) (ad 20) ha hn pm hb ++ wLa cI (ad 21) (ad 22) K ++ wLo cI (ad 23) (ad 24) (ad 25) (ad 26) Dp' Bt' Sq' se' ++ wTe cC (ad 27) (ad 28) Sg ln at_) := by
  intro X C Z
  show xb_G X 0 0 (wLB ad hs ++ wBd cI (ad 1) (ad 2) (ad 3) (ad 4) (ad 5) (ad 6) b.1 b.2.1 b.2.2.1 b.2.2.2.1 b.2.2.2.2.1 b.2.2.2.2.2.1 b.2.2.2.2.2.2 ++ wBd cI (ad 7) (ad 8) (ad 9) (ad 10) (ad 11) (ad 12) t.1 t.2.1 t.2.2.1 t.2.2.2.1 t.2.2.2.2.1 t.2.2.2.2.2.1 t.2.2.2.2.2.2 ++ wBd cI (ad 13) (ad 14) (ad 15) (ad 16) (ad 17) (ad 18) s.1 s.2.1 s.2.2.1 s.2.2.2.1 s.2.2.2.2.1 s.2.2.2.2.2.1 s.2.2.2.2.2.2 ++ wHi cI cR (ad 19) (ad 20) ha hn pm hb ++ wLa cI (ad 21) (ad 22) K ++ wLo cI (ad 23) (ad 24) (ad 25) (ad 26) Dp Bt Sq se ++ wTe cC (ad 27) (ad 28) Sg ln at_) [(0, .ref (ad 0)), (1, .int p1)] 0 []
  have lp42 : ∀ (Dp_42 : Nat → Int32) (Sq_42 : Nat → Int32) (se_42 : Int32) (x1_42 : Int32) (k : Int32 → (Nat → Int32) → Option (Int32 × (Nat → Int32) × (Nat → Int32) × (Nat → Int32) × Int32)) (n : Nat) (x2_42 : Int32) (x3_42 : Int32) (Bt_42 : Nat → Int32), f_X5_ones_42 b Sq_42 se_42 x1_42 k n x2_42 x3_42 Bt_42 = some (r, Dp', Bt', Sq', se') → (∀ (x2_42e : Int32) (Bt_42e : Nat → Int32), k x2_42e Bt_42e = some (r, Dp', Bt', Sq', se') → xb_G X 0 0 (wLB ad hs ++ wBd cI (ad 1) (ad 2) (ad 3) (ad 4) (ad 5) (ad 6) b.1 b.2.1 b.2.2.1 b.2.2.2.1 b.2.2.2.2.1 b.2.2.2.2.2.1 b.2.2.2.2.2.2 ++ wBd cI (ad 7) (ad 8) (ad 9) (ad 10) (ad 11) (ad 12) t.1 t.2.1 t.2.2.1 t.2.2.2.1 t.2.2.2.2.1 t.2.2.2.2.2.1 t.2.2.2.2.2.2 ++ wBd cI (ad 13) (ad 14) (ad 15) (ad 16) (ad 17) (ad 18) s.1 s.2.1 s.2.2.1 s.2.2.2.1 s.2.2.2.2.1 s.2.2.2.2.2.1 s.2.2.2.2.2.2 ++ wHi cI cR (ad 19) (ad 20) ha hn pm hb ++ wLa cI (ad 21) (ad 22) K ++ wLo cI (ad 23) (ad 24) (ad 25) (ad 26) Dp_42 Bt_42e Sq_42 se_42 ++ wTe cC (ad 27) (ad 28) Sg ln at_) [(2, .int x2_42e)] 78 []) → xb_G X 0 0 (wLB ad hs ++ wBd cI (ad 1) (ad 2) (ad 3) (ad 4) (ad 5) (ad 6) b.1 b.2.1 b.2.2.1 b.2.2.2.1 b.2.2.2.2.1 b.2.2.2.2.2.1 b.2.2.2.2.2.2 ++ wBd cI (ad 7) (ad 8) (ad 9) (ad 10) (ad 11) (ad 12) t.1 t.2.1 t.2.2.1 t.2.2.2.1 t.2.2.2.2.1 t.2.2.2.2.2.1 t.2.2.2.2.2.2 ++ wBd cI (ad 13) (ad 14) (ad 15) (ad 16) (ad 17) (ad 18) s.1 s.2.1 s.2.2.1 s.2.2.2.1 s.2.2.2.2.1 s.2.2.2.2.2.1 s.2.2.2.2.2.2 ++ wHi cI cR (ad 19) (ad 20) ha hn pm hb ++ wLa cI (ad 21) (ad 22) K ++ wLo cI (ad 23) (ad 24) (ad 25) (ad 26) Dp_42 Bt_42 Sq_42 se_42 ++ wTe cC (ad 27) (ad 28) Sg ln at_) [(0, .ref (ad 0)), (1, .int x1_42), (2, .int x2_42), (3, .int x3_42)] 42 [] := by
    intro Dp_42 Sq_42 se_42 x1_42 k n
    induction n with
    | zero => intro x2_42 x3_42 Bt_42 h hk; unfold f_X5_ones_42 at h; cases h
    | succ n ih =>
      intro x2_42 x3_42 Bt_42 h hk
      unfold f_X5_ones_42 at h
      refine xi_iload_n C dX5_ones_42 rfl 3 rfl ?_
      refine xi_sipush (v := 256) C dX5_ones_43 (by decide) ?_
      refine xi_icmp_ge (tgt := 78) C dX5_ones_46 (by decide) (fun c11 => ?_) (fun c11 => ?_)
      · have h := it_i c11 h
        exact xb_lv (hk x2_42 Bt_42 h) [2] rfl
      · have h := ie_i c11 h
        refine xi_aload_n C dX5_ones_49 rfl 0 rfl ?_
        refine xi_get C dX5_ones_50 iw_X5_ones_5 0 rfl rfl 5 (by decide) fl_X5_ones_39 rfl ?_
        refine xi_aload_n C dX5_ones_53 rfl 0 rfl ?_
        refine xi_get C dX5_ones_54 iw_X5_ones_5 0 rfl rfl 0 (by decide) fl_X5_ones_10 rfl ?_
        refine xi_iload_n C dX5_ones_57 rfl 3 rfl ?_
        obtain ⟨Bt12, e13, h⟩ := ob_i h
        refine xi_callV (As := [.ref (ad 1), .int x3_42]) (o := none) (rest := []) (w2 := (wLB ad hs ++ wBd cI (ad 1) (ad 2) (ad 3) (ad 4) (ad 5) (ad 6) b.1 b.2.1 b.2.2.1 b.2.2.2.1 b.2.2.2.2.1 b.2.2.2.2.2.1 b.2.2.2.2.2.2 ++ wBd cI (ad 7) (ad 8) (ad 9) (ad 10) (ad 11) (ad 12) t.1 t.2.1 t.2.2.1 t.2.2.2.1 t.2.2.2.2.1 t.2.2.2.2.2.1 t.2.2.2.2.2.2 ++ wBd cI (ad 13) (ad 14) (ad 15) (ad 16) (ad 17) (ad 18) s.1 s.2.1 s.2.2.1 s.2.2.2.1 s.2.2.2.2.1 s.2.2.2.2.2.1 s.2.2.2.2.2.2 ++ wHi cI cR (ad 19) (ad 20) ha hn pm hb ++ wLa cI (ad 21) (ad 22) K ++ wLo cI (ad 23) (ad 24) (ad 25) (ad 26) Dp_42 Bt12 Sq_42 se_42 ++ wTe cC (ad 27) (ad 28) Sg ln at_)) (st2 := []) C k_X3_work (m_X3_work D cI cC cZ cR (ad 23) (ad 24) (ad 25) (ad 26) (ad 1) (ad 2) (ad 3) (ad 4) (ad 5) (ad 6) Dp_42 Bt_42 Sq_42 se_42 b.1 b.2.1 b.2.2.1 b.2.2.2.1 b.2.2.2.2.1 b.2.2.2.2.2.1 b.2.2.2.2.2.2 x3_42 Bt12 e13) gX5_ones_X3_work dX5_ones_58 ⟨Nat.le_of_ble_eq_true rfl, Nat.le_of_ble_eq_true rfl, Nat.le_of_ble_eq_true rfl⟩ 47 rfl rfl [47, 48, 49, 50, 1, 2, 3, 4, 5, 6] mxC_X5_6_1 rfl [0, 1, 2, 3] rfl mxF_X5_6_1 mxM_X5_6_1 rfl (Nat.le_of_ble_eq_true rfl) ⟨Nat.zero_le _, Nat.zero_le _⟩ rfl ?_
        refine xi_iload_n C dX5_ones_61 rfl 2 rfl ?_
        refine xi_aload_n C dX5_ones_62 rfl 0 rfl ?_
        refine xi_get C dX5_ones_63 iw_X5_ones_5 0 rfl rfl 5 (by decide) fl_X5_ones_39 rfl ?_
        refine xi_iload_n C dX5_ones_66 rfl 1 rfl ?_
        obtain ⟨v14, e15, h⟩ := ob_i h
        refine xi_callV (As := [.int x1_42]) (o := some (.int v14)) (rest := [.int x2_42]) (w2 := (wLB ad hs ++ wBd cI (ad 1) (ad 2) (ad 3) (ad 4) (ad 5) (ad 6) b.1 b.2.1 b.2.2.1 b.2.2.2.1 b.2.2.2.2.1 b.2.2.2.2.2.1 b.2.2.2.2.2.2 ++ wBd cI (ad 7) (ad 8) (ad 9) (ad 10) (ad 11) (ad 12) t.1 t.2.1 t.2.2.1 t.2.2.2.1 t.2.2.2.2.1 t.2.2.2.2.2.1 t.2.2.2.2.2.2 ++ wBd cI (ad 13) (ad 14) (ad 15) (ad 16) (ad 17) (ad 18) s.1 s.2.1 s.2.2.1 s.2.2.2.1 s.2.2.2.2.1 s.2.2.2.2.2.1 s.2.2.2.2.2.2 ++ wHi cI cR (ad 19) (ad 20) ha hn pm hb ++ wLa cI (ad 21) (ad 22) K ++ wLo cI (ad 23) (ad 24) (ad 25) (ad 26) Dp_42 Bt12 Sq_42 se_42 ++ wTe cC (ad 27) (ad 28) Sg ln at_)) (st2 := [.int v14, .int x2_42]) C k_X3_bitOf (m_X3_bitOf D cI cC cZ cR (ad 23) (ad 24) (ad 25) (ad 26) Dp_42 Bt12 Sq_42 se_42 x1_42 v14 e15) gX5_ones_X3_bitOf dX5_ones_67 ⟨Nat.le_of_ble_eq_true rfl, Nat.le_of_ble_eq_true rfl, Nat.le_of_ble_eq_true rfl⟩ 47 rfl rfl [47, 48, 49, 50] mxC_X5_6 rfl [0, 1, 2, 3] rfl mxF_X5_6 mxM_X5_6 rfl (Nat.le_of_ble_eq_true rfl) ⟨Nat.zero_le _, Nat.zero_le _⟩ rfl ?_
        refine xi_iadd C dX5_ones_70 ?_
        refine xi_istore_n (lv2 := [(0, .ref (ad 0)), (1, .int x1_42), (2, .int (x2_42 + v14)), (3, .int x3_42)]) C dX5_ones_71 rfl (by decide) [0, 1, 3] [1, 2, 0, 3] rfl ?_
        refine xi_iinc (v := x3_42 + 1) (lv2 := [(0, .ref (ad 0)), (1, .int x1_42), (2, .int (x2_42 + v14)), (3, .int (x3_42 + 1))]) C dX5_ones_72 3 rfl (by rfl) (by decide) [0, 1, 2] [1, 2, 3, 0] rfl ?_
        refine xi_goto (tgt := 42) C dX5_ones_75 (by decide) ?_
        exact xb_lv (ih (x2_42 + v14) (x3_42 + 1) Bt12 h hk) [0, 1, 2, 3] rfl
  unfold f_X5_ones at h
  refine xi_aload_n C dX5_ones_0 rfl 0 rfl ?_
  refine xi_get C dX5_ones_1 iw_X5_ones_5 0 rfl rfl 0 (by decide) fl_X5_ones_10 rfl ?_
  refine xi_iload_n C dX5_ones_4 rfl 1 rfl ?_
  obtain ⟨v1, e2, h⟩ := ob_i h
  refine xi_callV (As := [.int p1]) (o := some (.int v1)) (rest := []) (w2 := (wLB ad hs ++ wBd cI (ad 1) (ad 2) (ad 3) (ad 4) (ad 5) (ad 6) b.1 b.2.1 b.2.2.1 b.2.2.2.1 b.2.2.2.2.1 b.2.2.2.2.2.1 b.2.2.2.2.2.2 ++ wBd cI (ad 7) (ad 8) (ad 9) (ad 10) (ad 11) (ad 12) t.1 t.2.1 t.2.2.1 t.2.2.2.1 t.2.2.2.2.1 t.2.2.2.2.2.1 t.2.2.2.2.2.2 ++ wBd cI (ad 13) (ad 14) (ad 15) (ad 16) (ad 17) (ad 18) s.1 s.2.1 s.2.2.1 s.2.2.2.1 s.2.2.2.2.1 s.2.2.2.2.2.1 s.2.2.2.2.2.2 ++ wHi cI cR (ad 19) (ad 20) ha hn pm hb ++ wLa cI (ad 21) (ad 22) K ++ wLo cI (ad 23) (ad 24) (ad 25) (ad 26) Dp Bt Sq se ++ wTe cC (ad 27) (ad 28) Sg ln at_)) (st2 := [.int v1]) C k_X0_hasCell (m_X0_hasCell D cI cC cZ cR (ad 1) (ad 2) (ad 3) (ad 4) (ad 5) (ad 6) b.1 b.2.1 b.2.2.1 b.2.2.2.1 b.2.2.2.2.1 b.2.2.2.2.2.1 b.2.2.2.2.2.2 p1 v1 e2) gX5_ones_X0_hasCell dX5_ones_5 ⟨Nat.le_of_ble_eq_true rfl, Nat.le_of_ble_eq_true rfl, Nat.le_of_ble_eq_true rfl⟩ 1 rfl rfl [1, 2, 3, 4, 5, 6] mxC_X5_1 rfl [0, 1, 2, 3] rfl mxF_X5_1 mxM_X5_1 rfl (Nat.le_of_ble_eq_true rfl) ⟨Nat.zero_le _, Nat.zero_le _⟩ rfl ?_
  refine xi_if_ne (tgt := 13) C dX5_ones_8 (by decide) (fun c3 => ?_) (fun c3 => ?_)
  · have h := ie_i c3 h
    refine xi_aload_n C dX5_ones_13 rfl 0 rfl ?_
    refine xi_get C dX5_ones_14 iw_X5_ones_5 0 rfl rfl 5 (by decide) fl_X5_ones_39 rfl ?_
    refine xi_aload_n C dX5_ones_17 rfl 0 rfl ?_
    refine xi_get C dX5_ones_18 iw_X5_ones_5 0 rfl rfl 0 (by decide) fl_X5_ones_10 rfl ?_
    obtain ⟨⟨Dp4, Sq5, se6⟩, e7, h⟩ := ob_i h
    refine xi_callV (As := [.ref (ad 1)]) (o := none) (rest := []) (w2 := (wLB ad hs ++ wBd cI (ad 1) (ad 2) (ad 3) (ad 4) (ad 5) (ad 6) b.1 b.2.1 b.2.2.1 b.2.2.2.1 b.2.2.2.2.1 b.2.2.2.2.2.1 b.2.2.2.2.2.2 ++ wBd cI (ad 7) (ad 8) (ad 9) (ad 10) (ad 11) (ad 12) t.1 t.2.1 t.2.2.1 t.2.2.2.1 t.2.2.2.2.1 t.2.2.2.2.2.1 t.2.2.2.2.2.2 ++ wBd cI (ad 13) (ad 14) (ad 15) (ad 16) (ad 17) (ad 18) s.1 s.2.1 s.2.2.1 s.2.2.2.1 s.2.2.2.2.1 s.2.2.2.2.2.1 s.2.2.2.2.2.2 ++ wHi cI cR (ad 19) (ad 20) ha hn pm hb ++ wLa cI (ad 21) (ad 22) K ++ wLo cI (ad 23) (ad 24) (ad 25) (ad 26) Dp4 Bt Sq5 se6 ++ wTe cC (ad 27) (ad 28) Sg ln at_)) (st2 := []) C k_X3_study (m_X3_study D cI cC cZ cR (ad 23) (ad 24) (ad 25) (ad 26) (ad 1) (ad 2) (ad 3) (ad 4) (ad 5) (ad 6) Dp Bt Sq se b.1 b.2.1 b.2.2.1 b.2.2.2.1 b.2.2.2.2.1 b.2.2.2.2.2.1 b.2.2.2.2.2.2 Dp4 Sq5 se6 e7) gX5_ones_X3_study dX5_ones_21 ⟨Nat.le_of_ble_eq_true rfl, Nat.le_of_ble_eq_true rfl, Nat.le_of_ble_eq_true rfl⟩ 47 rfl rfl [47, 48, 49, 50, 1, 2, 3, 4, 5, 6] mxC_X5_6_1 rfl [0, 1, 2, 3] rfl mxF_X5_6_1 mxM_X5_6_1 rfl (Nat.le_of_ble_eq_true rfl) ⟨Nat.zero_le _, Nat.zero_le _⟩ rfl ?_
    refine xi_aload_n C dX5_ones_24 rfl 0 rfl ?_
    refine xi_get C dX5_ones_25 iw_X5_ones_5 0 rfl rfl 5 (by decide) fl_X5_ones_39 rfl ?_
    refine xi_iload_n C dX5_ones_28 rfl 1 rfl ?_
    obtain ⟨v8, e9, h⟩ := ob_i h
    refine xi_callV (As := [.int p1]) (o := some (.int v8)) (rest := []) (w2 := (wLB ad hs ++ wBd cI (ad 1) (ad 2) (ad 3) (ad 4) (ad 5) (ad 6) b.1 b.2.1 b.2.2.1 b.2.2.2.1 b.2.2.2.2.1 b.2.2.2.2.2.1 b.2.2.2.2.2.2 ++ wBd cI (ad 7) (ad 8) (ad 9) (ad 10) (ad 11) (ad 12) t.1 t.2.1 t.2.2.1 t.2.2.2.1 t.2.2.2.2.1 t.2.2.2.2.2.1 t.2.2.2.2.2.2 ++ wBd cI (ad 13) (ad 14) (ad 15) (ad 16) (ad 17) (ad 18) s.1 s.2.1 s.2.2.1 s.2.2.2.1 s.2.2.2.2.1 s.2.2.2.2.2.1 s.2.2.2.2.2.2 ++ wHi cI cR (ad 19) (ad 20) ha hn pm hb ++ wLa cI (ad 21) (ad 22) K ++ wLo cI (ad 23) (ad 24) (ad 25) (ad 26) Dp4 Bt Sq5 se6 ++ wTe cC (ad 27) (ad 28) Sg ln at_)) (st2 := [.int v8]) C k_X3_answers (m_X3_answers D cI cC cZ cR (ad 23) (ad 24) (ad 25) (ad 26) Dp4 Bt Sq5 se6 p1 v8 e9) gX5_ones_X3_answers dX5_ones_29 ⟨Nat.le_of_ble_eq_true rfl, Nat.le_of_ble_eq_true rfl, Nat.le_of_ble_eq_true rfl⟩ 47 rfl rfl [47, 48, 49, 50] mxC_X5_6 rfl [0, 1, 2, 3] rfl mxF_X5_6 mxM_X5_6 rfl (Nat.le_of_ble_eq_true rfl) ⟨Nat.zero_le _, Nat.zero_le _⟩ rfl ?_
    refine xi_if_ne (tgt := 38) C dX5_ones_32 (by decide) (fun c10 => ?_) (fun c10 => ?_)
    · have h := ie_i c10 h
      refine xi_iconst (v := 0) C dX5_ones_38 (by decide) ?_
      refine xi_istore_n (lv2 := [(0, .ref (ad 0)), (1, .int p1), (2, .int 0)]) C dX5_ones_39 rfl (by decide) [0, 1] [1, 2, 0] rfl ?_
      refine xi_iconst (v := 0) C dX5_ones_40 (by decide) ?_
      refine xi_istore_n (lv2 := [(0, .ref (ad 0)), (1, .int p1), (2, .int 0), (3, .int 0)]) C dX5_ones_41 rfl (by decide) [0, 1, 2] [1, 2, 3, 0] rfl ?_
      refine xb_lv (lp42 Dp4 Sq5 se6 p1 _ xFu 0 0 Bt h (fun x2z16 Btz16 h => ?_)) [0, 1, 2, 3] rfl
      refine xi_iload_n C dX5_ones_78 rfl 0 rfl ?_
      have w0 := Option.some.inj h
      obtain ⟨q0, w1⟩ := Prod.mk.inj w0
      obtain ⟨q1, w2⟩ := Prod.mk.inj w1
      obtain ⟨q2, w3⟩ := Prod.mk.inj w2
      obtain ⟨q3, w4⟩ := Prod.mk.inj w3
      subst q0
      subst q1
      subst q2
      subst q3
      subst w4
      exact xi_iret C Z dX5_ones_79
    · have h := it_i c10 h
      refine xi_bipush (v := (-5)) C dX5_ones_35 (by decide) ?_
      have w0 := Option.some.inj h
      obtain ⟨q0, w1⟩ := Prod.mk.inj w0
      obtain ⟨q1, w2⟩ := Prod.mk.inj w1
      obtain ⟨q2, w3⟩ := Prod.mk.inj w2
      obtain ⟨q3, w4⟩ := Prod.mk.inj w3
      subst q0
      subst q1
      subst q2
      subst q3
      subst w4
      exact xi_iret C Z dX5_ones_37
  · have h := it_i c3 h
    refine xi_iconst (v := (-1)) C dX5_ones_11 (by decide) ?_
    have w0 := Option.some.inj h
    obtain ⟨q0, w1⟩ := Prod.mk.inj w0
    obtain ⟨q1, w2⟩ := Prod.mk.inj w1
    obtain ⟨q2, w3⟩ := Prod.mk.inj w2
    obtain ⟨q3, w4⟩ := Prod.mk.inj w3
    subst q0
    subst q1
    subst q2
    subst q3
    subst w4
    exact xi_iret C Z dX5_ones_12
