def f_X6_sees (le : Int32) (sp : Int32) (txt : Nat → Int32) (p1 : Int32) (p2 : Int32) : Option (Int32) :=
  if le ≤ sp then
    some 0
  else
    (xr_d txt 80 sp).bind fun v2 =>
    (f_X6_in v2 p1 p2).bind fun v4 =>
    if v4 = 0 then
      some 0
    else
      some 1
theorem k_X6_sees : xb_Y yX6_sees cX6_sees wsX6_sees 3 (some .boolean) { frames := 1, cells := 0, slots := 0, locals := 22 } 2 := ⟨⟨_, rfl⟩, by decide, ⟨by decide, by decide, by decide +kernel⟩, rfl, rfl⟩
theorem fl_X6_sees_22 : Cond.fieldLink RX6 22 "LookupBoardModel" "text" "[C" ∈ wsX6_sees := List.mem_of_getElem? (i := 3) rfl
theorem fl_X6_sees_157 : Cond.fieldLink RX6 157 "LookupBoardModel" "length" "I" ∈ wsX6_sees := List.mem_of_getElem? (i := 2) rfl
theorem fl_X6_sees_160 : Cond.fieldLink RX6 160 "LookupBoardModel" "spot" "I" ∈ wsX6_sees := List.mem_of_getElem? (i := 1) rfl
theorem iw_X6_sees_6 : ∀ w ∈ wsX60, w ∈ wsX6_sees := fun w h => List.mem_cons_of_mem _ (List.mem_append_right _ h)
set_option maxHeartbeats 4000000 in
set_option maxRecDepth 100000 in
theorem m_X6_sees (D : va_G) (cI cC cZ cR : ClassId) (o0 : Nat) (ma : Nat → Nat) (st : Int32) (ik : Int32) (le : Int32) (sp : Int32) (nu : Int32) (now : Nat → Int32) (thn : Nat → Int32) (pst : Nat → Int32) (snp : Nat → Int32) (txt : Nat → Int32) (hld : Nat → Int32) (far : Nat → Int32) (don : Nat → Int32) (tld : Nat → Int32) (dep : Nat → Int32) (bit : Nat → Int32) (p1 : Int32) (p2 : Int32) (r : Int32) (h : f_X6_sees le sp txt p1 p2 = some r) : xb_M cX6_sees wsX6_sees RX6 { frames := 1, cells := 0, slots := 0, locals := 22 } (some .boolean) 3 (xb_ty cI cC cZ cR) D [.ref o0, .int p1, .int p2] (wMo o0 ma st ik le sp nu ++ wAr cI (ma 0) 1898 now ++ wAr cI (ma 1) 1898 thn ++ wAr cI (ma 2) 7592 pst ++ wAr cI (ma 3) 1898 snp ++ wAr cC (ma 4) 80 txt ++ wAr cI (ma 5) 48 hld ++ wAr cI (ma 6) 24 far ++ wAr cZ (ma 7) 72 don ++ wAr cI (ma 8) 96 tld ++ wAr cI (ma 9) 24 dep ++ wAr cI (ma 10) 24 bit) (some (.int r)) (wMo o0 ma st ik le sp nu ++ wAr cI (ma 0) 1898 now ++ wAr cI (ma 1) 1898 thn ++ wAr cI (ma 2) 7592 pst ++ wAr cI (ma 3) 1898 snp ++ wAr cC (ma 4) 80 txt ++ wAr cI (ma 5) 48 hld ++ wAr cI (ma 6) 24 far ++ wAr cZ (ma 7) 72 don ++ wAr cI (ma 8) 96 tld ++ wAr cI (ma 9) 24 dep ++ wAr cI (ma 10) 24 bit) := by
  intro X C Z
  show xb_G X 0 0 (wMo o0 ma st ik le sp nu ++ wAr cI (ma 0) 1898 now ++ wAr cI (ma 1) 1898 thn ++ wAr cI (ma 2) 7592 pst ++ wAr cI (ma 3) 1898 snp ++ wAr cC (ma 4) 80 txt ++ wAr cI (ma 5) 48 hld ++ wAr cI (ma 6) 24 far ++ wAr cZ (ma 7) 72 don ++ wAr cI (ma 8) 96 tld ++ wAr cI (ma 9) 24 dep ++ wAr cI (ma 10) 24 bit) [(0, .ref o0), (1, .int p1), (2, .int p2)] 0 []
  unfold f_X6_sees at h
  refine xi_aload_n C dX6_sees_0 rfl 0 rfl ?_
  refine xi_get C dX6_sees_1 iw_X6_sees_6 0 rfl rfl 11 (by decide) fl_X6_sees_160 rfl ?_
  refine xi_aload_n C dX6_sees_4 rfl 0 rfl ?_
  refine xi_get C dX6_sees_5 iw_X6_sees_6 0 rfl rfl 7 (by decide) fl_X6_sees_157 rfl ?_
  refine xi_icmp_ge (tgt := 32) C dX6_sees_8 (by decide) (fun c1 => ?_) (fun c1 => ?_)
  · have h := it_i c1 h
    refine xi_iconst (v := 0) C dX6_sees_32 (by decide) ?_
    have w0 := Option.some.inj h
    subst w0
    exact xi_zret C Z dX6_sees_33 xb_nz0
  · have h := ie_i c1 h
    refine xi_aload_n C dX6_sees_11 rfl 0 rfl ?_
    refine xi_get C dX6_sees_12 iw_X6_sees_6 0 rfl rfl 6 (by decide) fl_X6_sees_22 rfl ?_
    refine xi_aload_n C dX6_sees_15 rfl 0 rfl ?_
    refine xi_get C dX6_sees_16 iw_X6_sees_6 0 rfl rfl 11 (by decide) fl_X6_sees_160 rfl ?_
    obtain ⟨v2, e3, h⟩ := ob_i h
    refine xi_cald C dX6_sees_19 5 1 rfl rfl e3 ?_
    refine xi_iload_n C dX6_sees_20 rfl 1 rfl ?_
    refine xi_iload_n C dX6_sees_21 rfl 2 rfl ?_
    obtain ⟨v4, e5, h⟩ := ob_i h
    refine xi_callS (As := [.int v2, .int p1, .int p2]) (o := some (.int v4)) (rest := []) (w2 := (wMo o0 ma st ik le sp nu ++ wAr cI (ma 0) 1898 now ++ wAr cI (ma 1) 1898 thn ++ wAr cI (ma 2) 7592 pst ++ wAr cI (ma 3) 1898 snp ++ wAr cC (ma 4) 80 txt ++ wAr cI (ma 5) 48 hld ++ wAr cI (ma 6) 24 far ++ wAr cZ (ma 7) 72 don ++ wAr cI (ma 8) 96 tld ++ wAr cI (ma 9) 24 dep ++ wAr cI (ma 10) 24 bit)) (st2 := [.int v4]) C k_X6_in (m_X6_in D cI cC cZ cR v2 p1 p2 v4 e5) gX6_sees_X6_in dX6_sees_22 ⟨Nat.le_of_ble_eq_true rfl, Nat.le_of_ble_eq_true rfl, Nat.le_of_ble_eq_true rfl⟩ [] rfl rfl [0, 1, 2, 3] rfl rfl rfl rfl (Nat.le_of_ble_eq_true rfl) ⟨Nat.zero_le _, Nat.zero_le _⟩ rfl ?_
    refine xi_if_eq (tgt := 32) C dX6_sees_25 (by decide) (fun c6 => ?_) (fun c6 => ?_)
    · have h := it_i c6 h
      refine xi_iconst (v := 0) C dX6_sees_32 (by decide) ?_
      have w0 := Option.some.inj h
      subst w0
      exact xi_zret C Z dX6_sees_33 xb_nz0
    · have h := ie_i c6 h
      refine xi_iconst (v := 1) C dX6_sees_28 (by decide) ?_
      refine xi_goto (tgt := 33) C dX6_sees_29 (by decide) ?_
      have w0 := Option.some.inj h
      subst w0
      exact xi_zret C Z dX6_sees_33 xb_nz1
def f_X6_takes (le : Int32) (sp : Int32) (txt : Nat → Int32) (p1 : Int32) : Option (Int32 × Int32) :=
  (f_X6_sees le sp txt p1 p1).bind fun v1 =>
  if v1 = 0 then
    (xr_z v1).bind fun v4 =>
    some (v4, sp + 0)
  else
    (xr_z v1).bind fun v6 =>
    some (v6, sp + 1)
theorem k_X6_takes : xb_Y yX6_takes cX6_takes wsX6_takes 3 (some .boolean) { frames := 2, cells := 0, slots := 0, locals := 44 } 1 := ⟨⟨_, rfl⟩, by decide, ⟨by decide, by decide, by decide +kernel⟩, rfl, rfl⟩
theorem fl_X6_takes_160 : Cond.fieldLink RX6 160 "LookupBoardModel" "spot" "I" ∈ wsX6_takes := List.mem_of_getElem? (i := 1) rfl
theorem iw_X6_takes_6 : ∀ w ∈ wsX60, w ∈ wsX6_takes := fun w h => List.mem_cons_of_mem _ (List.mem_append_right _ h)
set_option maxHeartbeats 4000000 in
set_option maxRecDepth 100000 in
theorem m_X6_takes (D : va_G) (cI cC cZ cR : ClassId) (o0 : Nat) (ma : Nat → Nat) (st : Int32) (ik : Int32) (le : Int32) (sp : Int32) (nu : Int32) (now : Nat → Int32) (thn : Nat → Int32) (pst : Nat → Int32) (snp : Nat → Int32) (txt : Nat → Int32) (hld : Nat → Int32) (far : Nat → Int32) (don : Nat → Int32) (tld : Nat → Int32) (dep : Nat → Int32) (bit : Nat → Int32) (p1 : Int32) (r : Int32) (sp' : Int32) (h : f_X6_takes le sp txt p1 = some (r, sp')) : xb_M cX6_takes wsX6_takes RX6 { frames := 2, cells := 0, slots := 0, locals := 44 } (some .boolean) 3 (xb_ty cI cC cZ cR) D [.ref o0, .int p1] (wMo o0 ma st ik le sp nu ++ wAr cI (ma 0) 1898 now ++ wAr cI (ma 1) 1898 thn ++ wAr cI (ma 2) 7592 pst ++ wAr cI (ma 3) 1898 snp ++ wAr cC (ma 4) 80 txt ++ wAr cI (ma 5) 48 hld ++ wAr cI (ma 6) 24 far ++ wAr cZ (ma 7) 72 don ++ wAr cI (ma 8) 96 tld ++ wAr cI (ma 9) 24 dep ++ wAr cI (ma 10) 24 bit) (some (.int r)) (wMo o0 ma st ik le sp' nu ++ wAr cI (ma 0) 1898 now ++ wAr cI (ma 1) 1898 thn ++ wAr cI (ma 2) 7592 pst ++ wAr cI (ma 3) 1898 snp ++ wAr cC (ma 4) 80 txt ++ wAr cI (ma 5) 48 hld ++ wAr cI (ma 6) 24 far ++ wAr cZ (ma 7) 72 don ++ wAr cI (ma 8) 96 tld ++ wAr cI (ma 9) 24 dep ++ wAr cI (ma 10) 24 bit) := by
  intro X C Z
  show xb_G X 0 0 (wMo o0 ma st ik le sp nu ++ wAr cI (ma 0) 1898 now ++ wAr cI (ma 1) 1898 thn ++ wAr cI (ma 2) 7592 pst ++ wAr cI (ma 3) 1898 snp ++ wAr cC (ma 4) 80 txt ++ wAr cI (ma 5) 48 hld ++ wAr cI (ma 6) 24 far ++ wAr cZ (ma 7) 72 don ++ wAr cI (ma 8) 96 tld ++ wAr cI (ma 9) 24 dep ++ wAr cI (ma 10) 24 bit) [(0, .ref o0), (1, .int p1)] 0 []
  unfold f_X6_takes at h
  refine xi_aload_n C dX6_takes_0 rfl 0 rfl ?_
  refine xi_iload_n C dX6_takes_1 rfl 1 rfl ?_
  refine xi_iload_n C dX6_takes_2 rfl 1 rfl ?_
  obtain ⟨v1, e2, h⟩ := ob_i h
  refine xi_callV (As := [.int p1, .int p1]) (o := some (.int v1)) (rest := []) (w2 := (wMo o0 ma st ik le sp nu ++ wAr cI (ma 0) 1898 now ++ wAr cI (ma 1) 1898 thn ++ wAr cI (ma 2) 7592 pst ++ wAr cI (ma 3) 1898 snp ++ wAr cC (ma 4) 80 txt ++ wAr cI (ma 5) 48 hld ++ wAr cI (ma 6) 24 far ++ wAr cZ (ma 7) 72 don ++ wAr cI (ma 8) 96 tld ++ wAr cI (ma 9) 24 dep ++ wAr cI (ma 10) 24 bit)) (st2 := [.int v1]) C k_X6_sees (m_X6_sees D cI cC cZ cR o0 ma st ik le sp nu now thn pst snp txt hld far don tld dep bit p1 p1 v1 e2) gX6_takes_X6_sees dX6_takes_3 ⟨Nat.le_of_ble_eq_true rfl, Nat.le_of_ble_eq_true rfl, Nat.le_of_ble_eq_true rfl⟩ 0 rfl rfl [0, 1, 2, 3, 4, 5, 6, 7, 8, 9, 10, 11] mxC_X6_0_1_2_3_4_5_6_7_8_9_10_11 rfl [0, 1, 2, 3] rfl mxF_X6_0_1_2_3_4_5_6_7_8_9_10_11 mxM_X6_0_1_2_3_4_5_6_7_8_9_10_11 rfl (Nat.le_of_ble_eq_true rfl) ⟨Nat.zero_le _, Nat.zero_le _⟩ rfl ?_
  refine xi_istore_n (lv2 := [(0, .ref o0), (1, .int p1), (2, .int v1)]) C dX6_takes_6 rfl (by decide) [0, 1] [1, 2, 0] rfl ?_
  refine xi_aload_n C dX6_takes_7 rfl 0 rfl ?_
  refine xi_dup C dX6_takes_8 rfl ?_
  refine xi_get C dX6_takes_9 iw_X6_takes_6 0 rfl rfl 11 (by decide) fl_X6_takes_160 rfl ?_
  refine xi_iload_n C dX6_takes_12 rfl 2 rfl ?_
  refine xi_if_eq (tgt := 20) C dX6_takes_13 (by decide) (fun c3 => ?_) (fun c3 => ?_)
  · have h := it_i c3 h
    refine xi_iconst (v := 0) C dX6_takes_20 (by decide) ?_
    refine xi_iadd C dX6_takes_21 ?_
    refine xi_put (ty := .int) (w2 := (wMo o0 ma st ik le (sp + 0) nu ++ wAr cI (ma 0) 1898 now ++ wAr cI (ma 1) 1898 thn ++ wAr cI (ma 2) 7592 pst ++ wAr cI (ma 3) 1898 snp ++ wAr cC (ma 4) 80 txt ++ wAr cI (ma 5) 48 hld ++ wAr cI (ma 6) 24 far ++ wAr cZ (ma 7) 72 don ++ wAr cI (ma 8) 96 tld ++ wAr cI (ma 9) 24 dep ++ wAr cI (ma 10) 24 bit)) C dX6_takes_22 iw_X6_takes_6 tyX6 tyX6_ok nmX6 0 rfl rfl 11 (by decide) fl_X6_takes_160 rfl (by decide +kernel) (by rfl) (by rfl) (Nat.le_of_ble_eq_true rfl) rfl ?_
    refine xi_iload_n C dX6_takes_25 rfl 2 rfl ?_
    obtain ⟨v4, e5, h⟩ := ob_i h
    obtain ⟨e5n, e5q⟩ := xr_z_spec e5
    subst e5q
    have w0 := Option.some.inj h
    obtain ⟨q0, w1⟩ := Prod.mk.inj w0
    subst q0
    subst w1
    exact xi_zret C Z dX6_takes_26 e5n
  · have h := ie_i c3 h
    refine xi_iconst (v := 1) C dX6_takes_16 (by decide) ?_
    refine xi_goto (tgt := 21) C dX6_takes_17 (by decide) ?_
    refine xi_iadd C dX6_takes_21 ?_
    refine xi_put (ty := .int) (w2 := (wMo o0 ma st ik le (sp + 1) nu ++ wAr cI (ma 0) 1898 now ++ wAr cI (ma 1) 1898 thn ++ wAr cI (ma 2) 7592 pst ++ wAr cI (ma 3) 1898 snp ++ wAr cC (ma 4) 80 txt ++ wAr cI (ma 5) 48 hld ++ wAr cI (ma 6) 24 far ++ wAr cZ (ma 7) 72 don ++ wAr cI (ma 8) 96 tld ++ wAr cI (ma 9) 24 dep ++ wAr cI (ma 10) 24 bit)) C dX6_takes_22 iw_X6_takes_6 tyX6 tyX6_ok nmX6 0 rfl rfl 11 (by decide) fl_X6_takes_160 rfl (by decide +kernel) (by rfl) (by rfl) (Nat.le_of_ble_eq_true rfl) rfl ?_
    refine xi_iload_n C dX6_takes_25 rfl 2 rfl ?_
    obtain ⟨v6, e7, h⟩ := ob_i h
    obtain ⟨e7n, e7q⟩ := xr_z_spec e7
    subst e7q
    have w0 := Option.some.inj h
    obtain ⟨q0, w1⟩ := Prod.mk.inj w0
    subst q0
    subst w1
    exact xi_zret C Z dX6_takes_26 e7n
def f_X6_isNumber_52 (le : Int32) (txt : Nat → Int32) (x1_52 : Int32) (k : Int32 → Int32 → Option (Int32 × Int32 × Int32)) : Nat → Int32 → Int32 → Option (Int32 × Int32 × Int32)
  | 0, _, _ => none
  | n + 1, sp_52, nu_52 =>
    if nu_52 ≤ 0 then
      k sp_52 nu_52
    else
      (f_X6_sees le sp_52 txt 48 57).bind fun v8 =>
      if v8 = 0 then
        k sp_52 nu_52
      else
        (xr_d txt 80 sp_52).bind fun v11 =>
        if x1_52 < (((10 * nu_52) + v11) - 48) then
          k sp_52 nu_52
        else
          (xr_d txt 80 sp_52).bind fun v14 =>
          f_X6_isNumber_52 le txt x1_52 k n (sp_52 + 1) (((10 * nu_52) + v14) - 48)
def f_X6_isNumber (le : Int32) (sp : Int32) (nu : Int32) (txt : Nat → Int32) (p1 : Int32) : Option (Int32 × Int32 × Int32) :=
  if 9 ≤ p1 then
    (f_X6_sees le sp txt 48 57).bind fun v2 =>
    if v2 = 0 then
      some (0, sp, nu)
    else
      (xr_d txt 80 sp).bind fun v5 =>
      f_X6_isNumber_52 le txt p1 (fun spz16 nuz16 =>
        some (1, spz16, nuz16)) xFu (sp + 1) (v5 - 48)
  else
    (f_X6_sees le sp txt 48 (48 + p1)).bind fun v17 =>
    if v17 = 0 then
      some (0, sp, nu)
    else
      (xr_d txt 80 sp).bind fun v20 =>
      f_X6_isNumber_52 le txt p1 (fun spz22 nuz22 =>
        some (1, spz22, nuz22)) xFu (sp + 1) (v20 - 48)
theorem k_X6_isNumber : xb_Y yX6_isNumber cX6_isNumber wsX6_isNumber 2 (some .boolean) { frames := 2, cells := 0, slots := 0, locals := 44 } 1 := ⟨⟨_, rfl⟩, by decide, ⟨by decide, by decide, by decide +kernel⟩, rfl, rfl⟩
theorem fl_X6_isNumber_22 : Cond.fieldLink RX6 22 "LookupBoardModel" "text" "[C" ∈ wsX6_isNumber := List.mem_of_getElem? (i := 1) rfl
theorem fl_X6_isNumber_160 : Cond.fieldLink RX6 160 "LookupBoardModel" "spot" "I" ∈ wsX6_isNumber := List.mem_of_getElem? (i := 2) rfl
theorem fl_X6_isNumber_166 : Cond.fieldLink RX6 166 "LookupBoardModel" "number" "I" ∈ wsX6_isNumber := List.mem_of_getElem? (i := 3) rfl
theorem iw_X6_isNumber_6 : ∀ w ∈ wsX60, w ∈ wsX6_isNumber := fun w h => List.mem_cons_of_mem _ (List.mem_append_right _ h)
set_option maxHeartbeats 4000000 in
set_option maxRecDepth 100000 in
theorem m_X6_isNumber (D : va_G) (cI cC cZ cR : ClassId) (o0 : Nat) (ma : Nat → Nat) (st : Int32) (ik : Int32) (le : Int32) (sp : Int32) (nu : Int32) (now : Nat → Int32) (thn : Nat → Int32) (pst : Nat → Int32) (snp : Nat → Int32) (txt : Nat → Int32) (hld : Nat → Int32) (far : Nat → Int32) (don : Nat → Int32) (tld : Nat → Int32) (dep : Nat → Int32) (bit : Nat → Int32) (p1 : Int32) (r : Int32) (sp' : Int32) (nu' : Int32) (h : f_X6_isNumber le sp nu txt p1 = some (r, sp', nu')) : xb_M cX6_isNumber wsX6_isNumber RX6 { frames := 2, cells := 0, slots := 0, locals := 44 } (some .boolean) 2 (xb_ty cI cC cZ cR) D [.ref o0, .int p1] (wMo o0 ma st ik le sp nu ++ wAr cI (ma 0) 1898 now ++ wAr cI (ma 1) 1898 thn ++ wAr cI (ma 2) 7592 pst ++ wAr cI (ma 3) 1898 snp ++ wAr cC (ma 4) 80 txt ++ wAr cI (ma 5) 48 hld ++ wAr cI (ma 6) 24 far ++ wAr cZ (ma 7) 72 don ++ wAr cI (ma 8) 96 tld ++ wAr cI (ma 9) 24 dep ++ wAr cI (ma 10) 24 bit) (some (.int r)) (wMo o0 ma st ik le sp' nu' ++ wAr cI (ma 0) 1898 now ++ wAr cI (ma 1) 1898 thn ++ wAr cI (ma 2) 7592 pst ++ wAr cI (ma 3) 1898 snp ++ wAr cC (ma 4) 80 txt ++ wAr cI (ma 5) 48 hld ++ wAr cI (ma 6) 24 far ++ wAr cZ (ma 7) 72 don ++ wAr cI (ma 8) 96 tld ++ wAr cI (ma 9) 24 dep ++ wAr cI (ma 10) 24 bit) := by
  intro X C Z
  show xb_G X 0 0 (wMo o0 ma st ik le sp nu ++ wAr cI (ma 0) 1898 now ++ wAr cI (ma 1) 1898 thn ++ wAr cI (ma 2) 7592 pst ++ wAr cI (ma 3) 1898 snp ++ wAr cC (ma 4) 80 txt ++ wAr cI (ma 5) 48 hld ++ wAr cI (ma 6) 24 far ++ wAr cZ (ma 7) 72 don ++ wAr cI (ma 8) 96 tld ++ wAr cI (ma 9) 24 dep ++ wAr cI (ma 10) 24 bit) [(0, .ref o0), (1, .int p1)] 0 []
  have lp52 : ∀ (x1_52 : Int32) (k : Int32 → Int32 → Option (Int32 × Int32 × Int32)) (n : Nat) (sp_52 : Int32) (nu_52 : Int32), f_X6_isNumber_52 le txt x1_52 k n sp_52 nu_52 = some (r, sp', nu') → (∀ (sp_52e : Int32) (nu_52e : Int32), k sp_52e nu_52e = some (r, sp', nu') → xb_G X 0 0 (wMo o0 ma st ik le sp_52e nu_52e ++ wAr cI (ma 0) 1898 now ++ wAr cI (ma 1) 1898 thn ++ wAr cI (ma 2) 7592 pst ++ wAr cI (ma 3) 1898 snp ++ wAr cC (ma 4) 80 txt ++ wAr cI (ma 5) 48 hld ++ wAr cI (ma 6) 24 far ++ wAr cZ (ma 7) 72 don ++ wAr cI (ma 8) 96 tld ++ wAr cI (ma 9) 24 dep ++ wAr cI (ma 10) 24 bit) [] 131 []) → xb_G X 0 0 (wMo o0 ma st ik le sp_52 nu_52 ++ wAr cI (ma 0) 1898 now ++ wAr cI (ma 1) 1898 thn ++ wAr cI (ma 2) 7592 pst ++ wAr cI (ma 3) 1898 snp ++ wAr cC (ma 4) 80 txt ++ wAr cI (ma 5) 48 hld ++ wAr cI (ma 6) 24 far ++ wAr cZ (ma 7) 72 don ++ wAr cI (ma 8) 96 tld ++ wAr cI (ma 9) 24 dep ++ wAr cI (ma 10) 24 bit) [(0, .ref o0), (1, .int x1_52)] 52 [] := by
    intro x1_52 k n
    induction n with
    | zero => intro sp_52 nu_52 h hk; unfold f_X6_isNumber_52 at h; cases h
    | succ n ih =>
      intro sp_52 nu_52 h hk
      unfold f_X6_isNumber_52 at h
      refine xi_aload_n C dX6_isNumber_52 rfl 0 rfl ?_
      refine xi_get C dX6_isNumber_53 iw_X6_isNumber_6 0 rfl rfl 13 (by decide) fl_X6_isNumber_166 rfl ?_
      refine xi_if_le (tgt := 131) C dX6_isNumber_56 (by decide) (fun c7 => ?_) (fun c7 => ?_)
      · have h := it_i c7 h
        exact xb_lv (hk sp_52 nu_52 h) [] rfl
      · have h := ie_i c7 h
        refine xi_aload_n C dX6_isNumber_59 rfl 0 rfl ?_
        refine xi_bipush (v := 48) C dX6_isNumber_60 (by decide) ?_
        refine xi_bipush (v := 57) C dX6_isNumber_62 (by decide) ?_
        obtain ⟨v8, e9, h⟩ := ob_i h
        refine xi_callV (As := [.int 48, .int 57]) (o := some (.int v8)) (rest := []) (w2 := (wMo o0 ma st ik le sp_52 nu_52 ++ wAr cI (ma 0) 1898 now ++ wAr cI (ma 1) 1898 thn ++ wAr cI (ma 2) 7592 pst ++ wAr cI (ma 3) 1898 snp ++ wAr cC (ma 4) 80 txt ++ wAr cI (ma 5) 48 hld ++ wAr cI (ma 6) 24 far ++ wAr cZ (ma 7) 72 don ++ wAr cI (ma 8) 96 tld ++ wAr cI (ma 9) 24 dep ++ wAr cI (ma 10) 24 bit)) (st2 := [.int v8]) C k_X6_sees (m_X6_sees D cI cC cZ cR o0 ma st ik le sp_52 nu_52 now thn pst snp txt hld far don tld dep bit 48 57 v8 e9) gX6_isNumber_X6_sees dX6_isNumber_64 ⟨Nat.le_of_ble_eq_true rfl, Nat.le_of_ble_eq_true rfl, Nat.le_of_ble_eq_true rfl⟩ 0 rfl rfl [0, 1, 2, 3, 4, 5, 6, 7, 8, 9, 10, 11] mxC_X6_0_1_2_3_4_5_6_7_8_9_10_11 rfl [0, 1, 2, 3] rfl mxF_X6_0_1_2_3_4_5_6_7_8_9_10_11 mxM_X6_0_1_2_3_4_5_6_7_8_9_10_11 rfl (Nat.le_of_ble_eq_true rfl) ⟨Nat.zero_le _, Nat.zero_le _⟩ rfl ?_
        refine xi_if_eq (tgt := 131) C dX6_isNumber_67 (by decide) (fun c10 => ?_) (fun c10 => ?_)
        · have h := it_i c10 h
          exact xb_lv (hk sp_52 nu_52 h) [] rfl
        · have h := ie_i c10 h
          refine xi_bipush (v := 10) C dX6_isNumber_70 (by decide) ?_
          refine xi_aload_n C dX6_isNumber_72 rfl 0 rfl ?_
          refine xi_get C dX6_isNumber_73 iw_X6_isNumber_6 0 rfl rfl 13 (by decide) fl_X6_isNumber_166 rfl ?_
          refine xi_imul C dX6_isNumber_76 ?_
          refine xi_aload_n C dX6_isNumber_77 rfl 0 rfl ?_
          refine xi_get C dX6_isNumber_78 iw_X6_isNumber_6 0 rfl rfl 6 (by decide) fl_X6_isNumber_22 rfl ?_
          refine xi_aload_n C dX6_isNumber_81 rfl 0 rfl ?_
          refine xi_get C dX6_isNumber_82 iw_X6_isNumber_6 0 rfl rfl 11 (by decide) fl_X6_isNumber_160 rfl ?_
          obtain ⟨v11, e12, h⟩ := ob_i h
          refine xi_cald C dX6_isNumber_85 5 1 rfl rfl e12 ?_
          refine xi_iadd C dX6_isNumber_86 ?_
          refine xi_bipush (v := 48) C dX6_isNumber_87 (by decide) ?_
          refine xi_isub C dX6_isNumber_89 ?_
          refine xi_iload_n C dX6_isNumber_90 rfl 1 rfl ?_
          refine xi_icmp_gt (tgt := 131) C dX6_isNumber_91 (by decide) (fun c13 => ?_) (fun c13 => ?_)
          · have h := it_i c13 h
            exact xb_lv (hk sp_52 nu_52 h) [] rfl
          · have h := ie_i c13 h
            refine xi_aload_n C dX6_isNumber_94 rfl 0 rfl ?_
            refine xi_bipush (v := 10) C dX6_isNumber_95 (by decide) ?_
            refine xi_aload_n C dX6_isNumber_97 rfl 0 rfl ?_
            refine xi_get C dX6_isNumber_98 iw_X6_isNumber_6 0 rfl rfl 13 (by decide) fl_X6_isNumber_166 rfl ?_
            refine xi_imul C dX6_isNumber_101 ?_
            refine xi_aload_n C dX6_isNumber_102 rfl 0 rfl ?_
            refine xi_get C dX6_isNumber_103 iw_X6_isNumber_6 0 rfl rfl 6 (by decide) fl_X6_isNumber_22 rfl ?_
            refine xi_aload_n C dX6_isNumber_106 rfl 0 rfl ?_
            refine xi_get C dX6_isNumber_107 iw_X6_isNumber_6 0 rfl rfl 11 (by decide) fl_X6_isNumber_160 rfl ?_
            obtain ⟨v14, e15, h⟩ := ob_i h
            refine xi_cald C dX6_isNumber_110 5 1 rfl rfl e15 ?_
            refine xi_iadd C dX6_isNumber_111 ?_
            refine xi_bipush (v := 48) C dX6_isNumber_112 (by decide) ?_
            refine xi_isub C dX6_isNumber_114 ?_
            refine xi_put (ty := .int) (w2 := (wMo o0 ma st ik le sp_52 (((10 * nu_52) + v14) - 48) ++ wAr cI (ma 0) 1898 now ++ wAr cI (ma 1) 1898 thn ++ wAr cI (ma 2) 7592 pst ++ wAr cI (ma 3) 1898 snp ++ wAr cC (ma 4) 80 txt ++ wAr cI (ma 5) 48 hld ++ wAr cI (ma 6) 24 far ++ wAr cZ (ma 7) 72 don ++ wAr cI (ma 8) 96 tld ++ wAr cI (ma 9) 24 dep ++ wAr cI (ma 10) 24 bit)) C dX6_isNumber_115 iw_X6_isNumber_6 tyX6 tyX6_ok nmX6 0 rfl rfl 13 (by decide) fl_X6_isNumber_166 rfl (by decide +kernel) (by rfl) (by rfl) (Nat.le_of_ble_eq_true rfl) rfl ?_
            refine xi_aload_n C dX6_isNumber_118 rfl 0 rfl ?_
            refine xi_dup C dX6_isNumber_119 rfl ?_
            refine xi_get C dX6_isNumber_120 iw_X6_isNumber_6 0 rfl rfl 11 (by decide) fl_X6_isNumber_160 rfl ?_
            refine xi_iconst (v := 1) C dX6_isNumber_123 (by decide) ?_
            refine xi_iadd C dX6_isNumber_124 ?_
            refine xi_put (ty := .int) (w2 := (wMo o0 ma st ik le (sp_52 + 1) (((10 * nu_52) + v14) - 48) ++ wAr cI (ma 0) 1898 now ++ wAr cI (ma 1) 1898 thn ++ wAr cI (ma 2) 7592 pst ++ wAr cI (ma 3) 1898 snp ++ wAr cC (ma 4) 80 txt ++ wAr cI (ma 5) 48 hld ++ wAr cI (ma 6) 24 far ++ wAr cZ (ma 7) 72 don ++ wAr cI (ma 8) 96 tld ++ wAr cI (ma 9) 24 dep ++ wAr cI (ma 10) 24 bit)) C dX6_isNumber_125 iw_X6_isNumber_6 tyX6 tyX6_ok nmX6 0 rfl rfl 11 (by decide) fl_X6_isNumber_160 rfl (by decide +kernel) (by rfl) (by rfl) (Nat.le_of_ble_eq_true rfl) rfl ?_
            refine xi_goto (tgt := 52) C dX6_isNumber_128 (by decide) ?_
            exact xb_lv (ih (sp_52 + 1) (((10 * nu_52) + v14) - 48) h hk) [0, 1] rfl
  unfold f_X6_isNumber at h
  refine xi_aload_n C dX6_isNumber_0 rfl 0 rfl ?_
  refine xi_bipush (v := 48) C dX6_isNumber_1 (by decide) ?_
  refine xi_iload_n C dX6_isNumber_3 rfl 1 rfl ?_
  refine xi_bipush (v := 9) C dX6_isNumber_4 (by decide) ?_
  refine xi_icmp_ge (tgt := 16) C dX6_isNumber_6 (by decide) (fun c1 => ?_) (fun c1 => ?_)
  · have h := it_i c1 h
    refine xi_bipush (v := 57) C dX6_isNumber_16 (by decide) ?_
    obtain ⟨v2, e3, h⟩ := ob_i h
    refine xi_callV (As := [.int 48, .int 57]) (o := some (.int v2)) (rest := []) (w2 := (wMo o0 ma st ik le sp nu ++ wAr cI (ma 0) 1898 now ++ wAr cI (ma 1) 1898 thn ++ wAr cI (ma 2) 7592 pst ++ wAr cI (ma 3) 1898 snp ++ wAr cC (ma 4) 80 txt ++ wAr cI (ma 5) 48 hld ++ wAr cI (ma 6) 24 far ++ wAr cZ (ma 7) 72 don ++ wAr cI (ma 8) 96 tld ++ wAr cI (ma 9) 24 dep ++ wAr cI (ma 10) 24 bit)) (st2 := [.int v2]) C k_X6_sees (m_X6_sees D cI cC cZ cR o0 ma st ik le sp nu now thn pst snp txt hld far don tld dep bit 48 57 v2 e3) gX6_isNumber_X6_sees dX6_isNumber_18 ⟨Nat.le_of_ble_eq_true rfl, Nat.le_of_ble_eq_true rfl, Nat.le_of_ble_eq_true rfl⟩ 0 rfl rfl [0, 1, 2, 3, 4, 5, 6, 7, 8, 9, 10, 11] mxC_X6_0_1_2_3_4_5_6_7_8_9_10_11 rfl [0, 1, 2, 3] rfl mxF_X6_0_1_2_3_4_5_6_7_8_9_10_11 mxM_X6_0_1_2_3_4_5_6_7_8_9_10_11 rfl (Nat.le_of_ble_eq_true rfl) ⟨Nat.zero_le _, Nat.zero_le _⟩ rfl ?_
    refine xi_if_ne (tgt := 26) C dX6_isNumber_21 (by decide) (fun c4 => ?_) (fun c4 => ?_)
    · have h := ie_i c4 h
      refine xi_aload_n C dX6_isNumber_26 rfl 0 rfl ?_
      refine xi_aload_n C dX6_isNumber_27 rfl 0 rfl ?_
      refine xi_get C dX6_isNumber_28 iw_X6_isNumber_6 0 rfl rfl 6 (by decide) fl_X6_isNumber_22 rfl ?_
      refine xi_aload_n C dX6_isNumber_31 rfl 0 rfl ?_
      refine xi_get C dX6_isNumber_32 iw_X6_isNumber_6 0 rfl rfl 11 (by decide) fl_X6_isNumber_160 rfl ?_
      obtain ⟨v5, e6, h⟩ := ob_i h
      refine xi_cald C dX6_isNumber_35 5 1 rfl rfl e6 ?_
      refine xi_bipush (v := 48) C dX6_isNumber_36 (by decide) ?_
      refine xi_isub C dX6_isNumber_38 ?_
      refine xi_put (ty := .int) (w2 := (wMo o0 ma st ik le sp (v5 - 48) ++ wAr cI (ma 0) 1898 now ++ wAr cI (ma 1) 1898 thn ++ wAr cI (ma 2) 7592 pst ++ wAr cI (ma 3) 1898 snp ++ wAr cC (ma 4) 80 txt ++ wAr cI (ma 5) 48 hld ++ wAr cI (ma 6) 24 far ++ wAr cZ (ma 7) 72 don ++ wAr cI (ma 8) 96 tld ++ wAr cI (ma 9) 24 dep ++ wAr cI (ma 10) 24 bit)) C dX6_isNumber_39 iw_X6_isNumber_6 tyX6 tyX6_ok nmX6 0 rfl rfl 13 (by decide) fl_X6_isNumber_166 rfl (by decide +kernel) (by rfl) (by rfl) (Nat.le_of_ble_eq_true rfl) rfl ?_
      refine xi_aload_n C dX6_isNumber_42 rfl 0 rfl ?_
      refine xi_dup C dX6_isNumber_43 rfl ?_
      refine xi_get C dX6_isNumber_44 iw_X6_isNumber_6 0 rfl rfl 11 (by decide) fl_X6_isNumber_160 rfl ?_
      refine xi_iconst (v := 1) C dX6_isNumber_47 (by decide) ?_
      refine xi_iadd C dX6_isNumber_48 ?_
      refine xi_put (ty := .int) (w2 := (wMo o0 ma st ik le (sp + 1) (v5 - 48) ++ wAr cI (ma 0) 1898 now ++ wAr cI (ma 1) 1898 thn ++ wAr cI (ma 2) 7592 pst ++ wAr cI (ma 3) 1898 snp ++ wAr cC (ma 4) 80 txt ++ wAr cI (ma 5) 48 hld ++ wAr cI (ma 6) 24 far ++ wAr cZ (ma 7) 72 don ++ wAr cI (ma 8) 96 tld ++ wAr cI (ma 9) 24 dep ++ wAr cI (ma 10) 24 bit)) C dX6_isNumber_49 iw_X6_isNumber_6 tyX6 tyX6_ok nmX6 0 rfl rfl 11 (by decide) fl_X6_isNumber_160 rfl (by decide +kernel) (by rfl) (by rfl) (Nat.le_of_ble_eq_true rfl) rfl ?_
      refine xb_lv (lp52 p1 _ xFu (sp + 1) (v5 - 48) h (fun spz16 nuz16 h => ?_)) [0, 1] rfl
      refine xi_iconst (v := 1) C dX6_isNumber_131 (by decide) ?_
      have w0 := Option.some.inj h
      obtain ⟨q0, w1⟩ := Prod.mk.inj w0
      obtain ⟨q1, w2⟩ := Prod.mk.inj w1
      subst q0
      subst q1
      subst w2
      exact xi_zret C Z dX6_isNumber_132 xb_nz1
    · have h := it_i c4 h
      refine xi_iconst (v := 0) C dX6_isNumber_24 (by decide) ?_
      have w0 := Option.some.inj h
      obtain ⟨q0, w1⟩ := Prod.mk.inj w0
      obtain ⟨q1, w2⟩ := Prod.mk.inj w1
      subst q0
      subst q1
      subst w2
      exact xi_zret C Z dX6_isNumber_25 xb_nz0
  · have h := ie_i c1 h
    refine xi_bipush (v := 48) C dX6_isNumber_9 (by decide) ?_
    refine xi_iload_n C dX6_isNumber_11 rfl 1 rfl ?_
    refine xi_iadd C dX6_isNumber_12 ?_
    refine xi_goto (tgt := 18) C dX6_isNumber_13 (by decide) ?_
    obtain ⟨v17, e18, h⟩ := ob_i h
    refine xi_callV (As := [.int 48, .int (48 + p1)]) (o := some (.int v17)) (rest := []) (w2 := (wMo o0 ma st ik le sp nu ++ wAr cI (ma 0) 1898 now ++ wAr cI (ma 1) 1898 thn ++ wAr cI (ma 2) 7592 pst ++ wAr cI (ma 3) 1898 snp ++ wAr cC (ma 4) 80 txt ++ wAr cI (ma 5) 48 hld ++ wAr cI (ma 6) 24 far ++ wAr cZ (ma 7) 72 don ++ wAr cI (ma 8) 96 tld ++ wAr cI (ma 9) 24 dep ++ wAr cI (ma 10) 24 bit)) (st2 := [.int v17]) C k_X6_sees (m_X6_sees D cI cC cZ cR o0 ma st ik le sp nu now thn pst snp txt hld far don tld dep bit 48 (48 + p1) v17 e18) gX6_isNumber_X6_sees dX6_isNumber_18 ⟨Nat.le_of_ble_eq_true rfl, Nat.le_of_ble_eq_true rfl, Nat.le_of_ble_eq_true rfl⟩ 0 rfl rfl [0, 1, 2, 3, 4, 5, 6, 7, 8, 9, 10, 11] mxC_X6_0_1_2_3_4_5_6_7_8_9_10_11 rfl [0, 1, 2, 3] rfl mxF_X6_0_1_2_3_4_5_6_7_8_9_10_11 mxM_X6_0_1_2_3_4_5_6_7_8_9_10_11 rfl (Nat.le_of_ble_eq_true rfl) ⟨Nat.zero_le _, Nat.zero_le _⟩ rfl ?_
    refine xi_if_ne (tgt := 26) C dX6_isNumber_21 (by decide) (fun c19 => ?_) (fun c19 => ?_)
    · have h := ie_i c19 h
      refine xi_aload_n C dX6_isNumber_26 rfl 0 rfl ?_
      refine xi_aload_n C dX6_isNumber_27 rfl 0 rfl ?_
      refine xi_get C dX6_isNumber_28 iw_X6_isNumber_6 0 rfl rfl 6 (by decide) fl_X6_isNumber_22 rfl ?_
      refine xi_aload_n C dX6_isNumber_31 rfl 0 rfl ?_
      refine xi_get C dX6_isNumber_32 iw_X6_isNumber_6 0 rfl rfl 11 (by decide) fl_X6_isNumber_160 rfl ?_
      obtain ⟨v20, e21, h⟩ := ob_i h
      refine xi_cald C dX6_isNumber_35 5 1 rfl rfl e21 ?_
      refine xi_bipush (v := 48) C dX6_isNumber_36 (by decide) ?_
      refine xi_isub C dX6_isNumber_38 ?_
      refine xi_put (ty := .int) (w2 := (wMo o0 ma st ik le sp (v20 - 48) ++ wAr cI (ma 0) 1898 now ++ wAr cI (ma 1) 1898 thn ++ wAr cI (ma 2) 7592 pst ++ wAr cI (ma 3) 1898 snp ++ wAr cC (ma 4) 80 txt ++ wAr cI (ma 5) 48 hld ++ wAr cI (ma 6) 24 far ++ wAr cZ (ma 7) 72 don ++ wAr cI (ma 8) 96 tld ++ wAr cI (ma 9) 24 dep ++ wAr cI (ma 10) 24 bit)) C dX6_isNumber_39 iw_X6_isNumber_6 tyX6 tyX6_ok nmX6 0 rfl rfl 13 (by decide) fl_X6_isNumber_166 rfl (by decide +kernel) (by rfl) (by rfl) (Nat.le_of_ble_eq_true rfl) rfl ?_
      refine xi_aload_n C dX6_isNumber_42 rfl 0 rfl ?_
      refine xi_dup C dX6_isNumber_43 rfl ?_
      refine xi_get C dX6_isNumber_44 iw_X6_isNumber_6 0 rfl rfl 11 (by decide) fl_X6_isNumber_160 rfl ?_
      refine xi_iconst (v := 1) C dX6_isNumber_47 (by decide) ?_
      refine xi_iadd C dX6_isNumber_48 ?_
      refine xi_put (ty := .int) (w2 := (wMo o0 ma st ik le (sp + 1) (v20 - 48) ++ wAr cI (ma 0) 1898 now ++ wAr cI (ma 1) 1898 thn ++ wAr cI (ma 2) 7592 pst ++ wAr cI (ma 3) 1898 snp ++ wAr cC (ma 4) 80 txt ++ wAr cI (ma 5) 48 hld ++ wAr cI (ma 6) 24 far ++ wAr cZ (ma 7) 72 don ++ wAr cI (ma 8) 96 tld ++ wAr cI (ma 9) 24 dep ++ wAr cI (ma 10) 24 bit)) C dX6_isNumber_49 iw_X6_isNumber_6 tyX6 tyX6_ok nmX6 0 rfl rfl 11 (by decide) fl_X6_isNumber_160 rfl (by decide +kernel) (by rfl) (by rfl) (Nat.le_of_ble_eq_true rfl) rfl ?_
      refine xb_lv (lp52 p1 _ xFu (sp + 1) (v20 - 48) h (fun spz22 nuz22 h => ?_)) [0, 1] rfl
      refine xi_iconst (v := 1) C dX6_isNumber_131 (by decide) ?_
      have w0 := Option.some.inj h
      obtain ⟨q0, w1⟩ := Prod.mk.inj w0
      obtain ⟨q1, w2⟩ := Prod.mk.inj w1
      subst q0
      subst q1
      subst w2
      exact xi_zret C Z dX6_isNumber_132 xb_nz1
    · have h := it_i c19 h
      refine xi_iconst (v := 0) C dX6_isNumber_24 (by decide) ?_
      have w0 := Option.some.inj h
      obtain ⟨q0, w1⟩ := Prod.mk.inj w0
      obtain ⟨q1, w2⟩ := Prod.mk.inj w1
      subst q0
      subst q1
      subst w2
      exact xi_zret C Z dX6_isNumber_25 xb_nz0
def f_X6_sixteenth (le : Int32) (sp : Int32) (txt : Nat → Int32) : Option (Int32 × Int32) :=
  (f_X6_sees le sp txt 48 57).bind fun v1 =>
  if v1 = 0 then
    (f_X6_sees le sp txt 97 102).bind fun v9 =>
    if v9 = 0 then
      some ((-5), sp)
    else
      if v1 = 0 then
        (xr_d txt 80 ((sp + 1) - 1)).bind fun v13 =>
        some ((v13 - 97) + 10, sp + 1)
      else
        (xr_d txt 80 ((sp + 1) - 1)).bind fun v15 =>
        some (v15 - 48, sp + 1)
  else
    if v1 = 0 then
      (xr_d txt 80 ((sp + 1) - 1)).bind fun v5 =>
      some ((v5 - 97) + 10, sp + 1)
    else
      (xr_d txt 80 ((sp + 1) - 1)).bind fun v7 =>
      some (v7 - 48, sp + 1)
theorem k_X6_sixteenth : xb_Y yX6_sixteenth cX6_sixteenth wsX6_sixteenth 2 (some .int) { frames := 2, cells := 0, slots := 0, locals := 44 } 0 := ⟨⟨_, rfl⟩, by decide, ⟨by decide, by decide, by decide +kernel⟩, rfl, rfl⟩
theorem fl_X6_sixteenth_22 : Cond.fieldLink RX6 22 "LookupBoardModel" "text" "[C" ∈ wsX6_sixteenth := List.mem_of_getElem? (i := 2) rfl
theorem fl_X6_sixteenth_160 : Cond.fieldLink RX6 160 "LookupBoardModel" "spot" "I" ∈ wsX6_sixteenth := List.mem_of_getElem? (i := 1) rfl
theorem iw_X6_sixteenth_6 : ∀ w ∈ wsX60, w ∈ wsX6_sixteenth := fun w h => List.mem_cons_of_mem _ (List.mem_append_right _ h)
set_option maxHeartbeats 4000000 in
set_option maxRecDepth 100000 in
theorem m_X6_sixteenth (D : va_G) (cI cC cZ cR : ClassId) (o0 : Nat) (ma : Nat → Nat) (st : Int32) (ik : Int32) (le : Int32) (sp : Int32) (nu : Int32) (now : Nat → Int32) (thn : Nat → Int32) (pst : Nat → Int32) (snp : Nat → Int32) (txt : Nat → Int32) (hld : Nat → Int32) (far : Nat → Int32) (don : Nat → Int32) (tld : Nat → Int32) (dep : Nat → Int32) (bit : Nat → Int32) (r : Int32) (sp' : Int32) (h : f_X6_sixteenth le sp txt = some (r, sp')) : xb_M cX6_sixteenth wsX6_sixteenth RX6 { frames := 2, cells := 0, slots := 0, locals := 44 } (some .int) 2 (xb_ty cI cC cZ cR) D [.ref o0] (wMo o0 ma st ik le sp nu ++ wAr cI (ma 0) 1898 now ++ wAr cI (ma 1) 1898 thn ++ wAr cI (ma 2) 7592 pst ++ wAr cI (ma 3) 1898 snp ++ wAr cC (ma 4) 80 txt ++ wAr cI (ma 5) 48 hld ++ wAr cI (ma 6) 24 far ++ wAr cZ (ma 7) 72 don ++ wAr cI (ma 8) 96 tld ++ wAr cI (ma 9) 24 dep ++ wAr cI (ma 10) 24 bit) (some (.int r)) (wMo o0 ma st ik le sp' nu ++ wAr cI (ma 0) 1898 now ++ wAr cI (ma 1) 1898 thn ++ wAr cI (ma 2) 7592 pst ++ wAr cI (ma 3) 1898 snp ++ wAr cC (ma 4) 80 txt ++ wAr cI (ma 5) 48 hld ++ wAr cI (ma 6) 24 far ++ wAr cZ (ma 7) 72 don ++ wAr cI (ma 8) 96 tld ++ wAr cI (ma 9) 24 dep ++ wAr cI (ma 10) 24 bit) := by
  intro X C Z
  show xb_G X 0 0 (wMo o0 ma st ik le sp nu ++ wAr cI (ma 0) 1898 now ++ wAr cI (ma 1) 1898 thn ++ wAr cI (ma 2) 7592 pst ++ wAr cI (ma 3) 1898 snp ++ wAr cC (ma 4) 80 txt ++ wAr cI (ma 5) 48 hld ++ wAr cI (ma 6) 24 far ++ wAr cZ (ma 7) 72 don ++ wAr cI (ma 8) 96 tld ++ wAr cI (ma 9) 24 dep ++ wAr cI (ma 10) 24 bit) [(0, .ref o0)] 0 []
  unfold f_X6_sixteenth at h
  refine xi_aload_n C dX6_sixteenth_0 rfl 0 rfl ?_
  refine xi_bipush (v := 48) C dX6_sixteenth_1 (by decide) ?_
  refine xi_bipush (v := 57) C dX6_sixteenth_3 (by decide) ?_
  obtain ⟨v1, e2, h⟩ := ob_i h
  refine xi_callV (As := [.int 48, .int 57]) (o := some (.int v1)) (rest := []) (w2 := (wMo o0 ma st ik le sp nu ++ wAr cI (ma 0) 1898 now ++ wAr cI (ma 1) 1898 thn ++ wAr cI (ma 2) 7592 pst ++ wAr cI (ma 3) 1898 snp ++ wAr cC (ma 4) 80 txt ++ wAr cI (ma 5) 48 hld ++ wAr cI (ma 6) 24 far ++ wAr cZ (ma 7) 72 don ++ wAr cI (ma 8) 96 tld ++ wAr cI (ma 9) 24 dep ++ wAr cI (ma 10) 24 bit)) (st2 := [.int v1]) C k_X6_sees (m_X6_sees D cI cC cZ cR o0 ma st ik le sp nu now thn pst snp txt hld far don tld dep bit 48 57 v1 e2) gX6_sixteenth_X6_sees dX6_sixteenth_5 ⟨Nat.le_of_ble_eq_true rfl, Nat.le_of_ble_eq_true rfl, Nat.le_of_ble_eq_true rfl⟩ 0 rfl rfl [0, 1, 2, 3, 4, 5, 6, 7, 8, 9, 10, 11] mxC_X6_0_1_2_3_4_5_6_7_8_9_10_11 rfl [0, 1, 2, 3] rfl mxF_X6_0_1_2_3_4_5_6_7_8_9_10_11 mxM_X6_0_1_2_3_4_5_6_7_8_9_10_11 rfl (Nat.le_of_ble_eq_true rfl) ⟨Nat.zero_le _, Nat.zero_le _⟩ rfl ?_
  refine xi_istore_n (lv2 := [(0, .ref o0), (1, .int v1)]) C dX6_sixteenth_8 rfl (by decide) [0] [1, 0] rfl ?_
  refine xi_iload_n C dX6_sixteenth_9 rfl 1 rfl ?_
  refine xi_if_ne (tgt := 27) C dX6_sixteenth_10 (by decide) (fun c3 => ?_) (fun c3 => ?_)
  · have h := ie_i c3 h
    refine xi_aload_n C dX6_sixteenth_27 rfl 0 rfl ?_
    refine xi_dup C dX6_sixteenth_28 rfl ?_
    refine xi_get C dX6_sixteenth_29 iw_X6_sixteenth_6 0 rfl rfl 11 (by decide) fl_X6_sixteenth_160 rfl ?_
    refine xi_iconst (v := 1) C dX6_sixteenth_32 (by decide) ?_
    refine xi_iadd C dX6_sixteenth_33 ?_
    refine xi_put (ty := .int) (w2 := (wMo o0 ma st ik le (sp + 1) nu ++ wAr cI (ma 0) 1898 now ++ wAr cI (ma 1) 1898 thn ++ wAr cI (ma 2) 7592 pst ++ wAr cI (ma 3) 1898 snp ++ wAr cC (ma 4) 80 txt ++ wAr cI (ma 5) 48 hld ++ wAr cI (ma 6) 24 far ++ wAr cZ (ma 7) 72 don ++ wAr cI (ma 8) 96 tld ++ wAr cI (ma 9) 24 dep ++ wAr cI (ma 10) 24 bit)) C dX6_sixteenth_34 iw_X6_sixteenth_6 tyX6 tyX6_ok nmX6 0 rfl rfl 11 (by decide) fl_X6_sixteenth_160 rfl (by decide +kernel) (by rfl) (by rfl) (Nat.le_of_ble_eq_true rfl) rfl ?_
    refine xi_iload_n C dX6_sixteenth_37 rfl 1 rfl ?_
    refine xi_if_eq (tgt := 58) C dX6_sixteenth_38 (by decide) (fun c4 => ?_) (fun c4 => ?_)
    · have h := it_i c4 h
      refine xi_aload_n C dX6_sixteenth_58 rfl 0 rfl ?_
      refine xi_get C dX6_sixteenth_59 iw_X6_sixteenth_6 0 rfl rfl 6 (by decide) fl_X6_sixteenth_22 rfl ?_
      refine xi_aload_n C dX6_sixteenth_62 rfl 0 rfl ?_
      refine xi_get C dX6_sixteenth_63 iw_X6_sixteenth_6 0 rfl rfl 11 (by decide) fl_X6_sixteenth_160 rfl ?_
      refine xi_iconst (v := 1) C dX6_sixteenth_66 (by decide) ?_
      refine xi_isub C dX6_sixteenth_67 ?_
      obtain ⟨v5, e6, h⟩ := ob_i h
      refine xi_cald C dX6_sixteenth_68 5 1 rfl rfl e6 ?_
      refine xi_bipush (v := 97) C dX6_sixteenth_69 (by decide) ?_
      refine xi_isub C dX6_sixteenth_71 ?_
      refine xi_bipush (v := 10) C dX6_sixteenth_72 (by decide) ?_
      refine xi_iadd C dX6_sixteenth_74 ?_
      have w0 := Option.some.inj h
      obtain ⟨q0, w1⟩ := Prod.mk.inj w0
      subst q0
      subst w1
      exact xi_iret C Z dX6_sixteenth_75
    · have h := ie_i c4 h
      refine xi_aload_n C dX6_sixteenth_41 rfl 0 rfl ?_
      refine xi_get C dX6_sixteenth_42 iw_X6_sixteenth_6 0 rfl rfl 6 (by decide) fl_X6_sixteenth_22 rfl ?_
      refine xi_aload_n C dX6_sixteenth_45 rfl 0 rfl ?_
      refine xi_get C dX6_sixteenth_46 iw_X6_sixteenth_6 0 rfl rfl 11 (by decide) fl_X6_sixteenth_160 rfl ?_
      refine xi_iconst (v := 1) C dX6_sixteenth_49 (by decide) ?_
      refine xi_isub C dX6_sixteenth_50 ?_
      obtain ⟨v7, e8, h⟩ := ob_i h
      refine xi_cald C dX6_sixteenth_51 5 1 rfl rfl e8 ?_
      refine xi_bipush (v := 48) C dX6_sixteenth_52 (by decide) ?_
      refine xi_isub C dX6_sixteenth_54 ?_
      refine xi_goto (tgt := 75) C dX6_sixteenth_55 (by decide) ?_
      have w0 := Option.some.inj h
      obtain ⟨q0, w1⟩ := Prod.mk.inj w0
      subst q0
      subst w1
      exact xi_iret C Z dX6_sixteenth_75
  · have h := it_i c3 h
    refine xi_aload_n C dX6_sixteenth_13 rfl 0 rfl ?_
    refine xi_bipush (v := 97) C dX6_sixteenth_14 (by decide) ?_
    refine xi_bipush (v := 102) C dX6_sixteenth_16 (by decide) ?_
    obtain ⟨v9, e10, h⟩ := ob_i h
    refine xi_callV (As := [.int 97, .int 102]) (o := some (.int v9)) (rest := []) (w2 := (wMo o0 ma st ik le sp nu ++ wAr cI (ma 0) 1898 now ++ wAr cI (ma 1) 1898 thn ++ wAr cI (ma 2) 7592 pst ++ wAr cI (ma 3) 1898 snp ++ wAr cC (ma 4) 80 txt ++ wAr cI (ma 5) 48 hld ++ wAr cI (ma 6) 24 far ++ wAr cZ (ma 7) 72 don ++ wAr cI (ma 8) 96 tld ++ wAr cI (ma 9) 24 dep ++ wAr cI (ma 10) 24 bit)) (st2 := [.int v9]) C k_X6_sees (m_X6_sees D cI cC cZ cR o0 ma st ik le sp nu now thn pst snp txt hld far don tld dep bit 97 102 v9 e10) gX6_sixteenth_X6_sees dX6_sixteenth_18 ⟨Nat.le_of_ble_eq_true rfl, Nat.le_of_ble_eq_true rfl, Nat.le_of_ble_eq_true rfl⟩ 0 rfl rfl [0, 1, 2, 3, 4, 5, 6, 7, 8, 9, 10, 11] mxC_X6_0_1_2_3_4_5_6_7_8_9_10_11 rfl [0, 1, 2, 3] rfl mxF_X6_0_1_2_3_4_5_6_7_8_9_10_11 mxM_X6_0_1_2_3_4_5_6_7_8_9_10_11 rfl (Nat.le_of_ble_eq_true rfl) ⟨Nat.zero_le _, Nat.zero_le _⟩ rfl ?_
    refine xi_if_ne (tgt := 27) C dX6_sixteenth_21 (by decide) (fun c11 => ?_) (fun c11 => ?_)
    · have h := ie_i c11 h
      refine xi_aload_n C dX6_sixteenth_27 rfl 0 rfl ?_
      refine xi_dup C dX6_sixteenth_28 rfl ?_
      refine xi_get C dX6_sixteenth_29 iw_X6_sixteenth_6 0 rfl rfl 11 (by decide) fl_X6_sixteenth_160 rfl ?_
      refine xi_iconst (v := 1) C dX6_sixteenth_32 (by decide) ?_
      refine xi_iadd C dX6_sixteenth_33 ?_
      refine xi_put (ty := .int) (w2 := (wMo o0 ma st ik le (sp + 1) nu ++ wAr cI (ma 0) 1898 now ++ wAr cI (ma 1) 1898 thn ++ wAr cI (ma 2) 7592 pst ++ wAr cI (ma 3) 1898 snp ++ wAr cC (ma 4) 80 txt ++ wAr cI (ma 5) 48 hld ++ wAr cI (ma 6) 24 far ++ wAr cZ (ma 7) 72 don ++ wAr cI (ma 8) 96 tld ++ wAr cI (ma 9) 24 dep ++ wAr cI (ma 10) 24 bit)) C dX6_sixteenth_34 iw_X6_sixteenth_6 tyX6 tyX6_ok nmX6 0 rfl rfl 11 (by decide) fl_X6_sixteenth_160 rfl (by decide +kernel) (by rfl) (by rfl) (Nat.le_of_ble_eq_true rfl) rfl ?_
      refine xi_iload_n C dX6_sixteenth_37 rfl 1 rfl ?_
      refine xi_if_eq (tgt := 58) C dX6_sixteenth_38 (by decide) (fun c12 => ?_) (fun c12 => ?_)
      · have h := it_i c12 h
        refine xi_aload_n C dX6_sixteenth_58 rfl 0 rfl ?_
        refine xi_get C dX6_sixteenth_59 iw_X6_sixteenth_6 0 rfl rfl 6 (by decide) fl_X6_sixteenth_22 rfl ?_
        refine xi_aload_n C dX6_sixteenth_62 rfl 0 rfl ?_
        refine xi_get C dX6_sixteenth_63 iw_X6_sixteenth_6 0 rfl rfl 11 (by decide) fl_X6_sixteenth_160 rfl ?_
        refine xi_iconst (v := 1) C dX6_sixteenth_66 (by decide) ?_
        refine xi_isub C dX6_sixteenth_67 ?_
        obtain ⟨v13, e14, h⟩ := ob_i h
        refine xi_cald C dX6_sixteenth_68 5 1 rfl rfl e14 ?_
        refine xi_bipush (v := 97) C dX6_sixteenth_69 (by decide) ?_
        refine xi_isub C dX6_sixteenth_71 ?_
        refine xi_bipush (v := 10) C dX6_sixteenth_72 (by decide) ?_
        refine xi_iadd C dX6_sixteenth_74 ?_
        have w0 := Option.some.inj h
        obtain ⟨q0, w1⟩ := Prod.mk.inj w0
        subst q0
        subst w1
        exact xi_iret C Z dX6_sixteenth_75
      · have h := ie_i c12 h
        refine xi_aload_n C dX6_sixteenth_41 rfl 0 rfl ?_
        refine xi_get C dX6_sixteenth_42 iw_X6_sixteenth_6 0 rfl rfl 6 (by decide) fl_X6_sixteenth_22 rfl ?_
        refine xi_aload_n C dX6_sixteenth_45 rfl 0 rfl ?_
        refine xi_get C dX6_sixteenth_46 iw_X6_sixteenth_6 0 rfl rfl 11 (by decide) fl_X6_sixteenth_160 rfl ?_
        refine xi_iconst (v := 1) C dX6_sixteenth_49 (by decide) ?_
        refine xi_isub C dX6_sixteenth_50 ?_
        obtain ⟨v15, e16, h⟩ := ob_i h
        refine xi_cald C dX6_sixteenth_51 5 1 rfl rfl e16 ?_
        refine xi_bipush (v := 48) C dX6_sixteenth_52 (by decide) ?_
        refine xi_isub C dX6_sixteenth_54 ?_
        refine xi_goto (tgt := 75) C dX6_sixteenth_55 (by decide) ?_
        have w0 := Option.some.inj h
        obtain ⟨q0, w1⟩ := Prod.mk.inj w0
        subst q0
        subst w1
        exact xi_iret C Z dX6_sixteenth_75
    · have h := it_i c11 h
      refine xi_bipush (v := (-5)) C dX6_sixteenth_24 (by decide) ?_
      have w0 := Option.some.inj h
      obtain ⟨q0, w1⟩ := Prod.mk.inj w0
      subst q0
      subst w1
      exact xi_iret C Z dX6_sixteenth_26
def f_X6_isSourceTold (le : Int32) (sp : Int32) (nu : Int32) (txt : Nat → Int32) : Option (Int32 × Int32 × Int32) :=
  (f_X6_takes le sp txt 99).bind fun (v1, sp2) =>
  if v1 = 0 then
    (f_X6_takes le sp2 txt 112).bind fun (v5, sp6) =>
    if v5 = 0 then
      (f_X6_sees le sp6 txt 49 49).bind fun v9 =>
      if v9 = 0 then
        if v9 = 0 then
          (f_X6_takes le sp6 txt 48).bind fun (v13, sp14) =>
          (xr_z v13).bind fun v16 =>
          some (v16, sp14, 32)
        else
          (f_X6_takes le sp6 txt 49).bind fun (v18, sp19) =>
          (xr_z v18).bind fun v21 =>
          some (v21, sp19, 32)
      else
        if v9 = 0 then
          (f_X6_takes le sp6 txt 48).bind fun (v24, sp25) =>
          (xr_z v24).bind fun v27 =>
          some (v27, sp25, 33)
        else
          (f_X6_takes le sp6 txt 49).bind fun (v29, sp30) =>
          (xr_z v29).bind fun v32 =>
          some (v32, sp30, 33)
    else
      (f_X6_isNumber le sp6 nu txt 7).bind fun (v34, sp35, nu36) =>
      (xr_z v34).bind fun v38 =>
      some (v38, sp35, nu36 + 24)
  else
    (f_X6_isNumber le sp2 nu txt 23).bind fun (v40, sp41, nu42) =>
    (xr_z v40).bind fun v44 =>
    some (v44, sp41, nu42)
theorem k_X6_isSourceTold : xb_Y yX6_isSourceTold cX6_isSourceTold wsX6_isSourceTold 2 (some .boolean) { frames := 3, cells := 0, slots := 0, locals := 66 } 0 := ⟨⟨_, rfl⟩, by decide, ⟨by decide, by decide, by decide +kernel⟩, rfl, rfl⟩
theorem fl_X6_isSourceTold_166 : Cond.fieldLink RX6 166 "LookupBoardModel" "number" "I" ∈ wsX6_isSourceTold := List.mem_of_getElem? (i := 1) rfl
theorem iw_X6_isSourceTold_6 : ∀ w ∈ wsX60, w ∈ wsX6_isSourceTold := fun w h => List.mem_cons_of_mem _ (List.mem_append_right _ h)
set_option maxHeartbeats 4000000 in
set_option maxRecDepth 100000 in
theorem m_X6_isSourceTold (D : va_G) (cI cC cZ cR : ClassId) (o0 : Nat) (ma : Nat → Nat) (st : Int32) (ik : Int32) (le : Int32) (sp : Int32) (nu : Int32) (now : Nat → Int32) (thn : Nat → Int32) (pst : Nat → Int32) (snp : Nat → Int32) (txt : Nat → Int32) (hld : Nat → Int32) (far : Nat → Int32) (don : Nat → Int32) (tld : Nat → Int32) (dep : Nat → Int32) (bit : Nat → Int32) (r : Int32) (sp' : Int32) (nu' : Int32) (h : f_X6_isSourceTold le sp nu txt = some (r, sp', nu')) : xb_M cX6_isSourceTold wsX6_isSourceTold RX6 { frames := 3, cells := 0, slots := 0, locals := 66 } (some .boolean) 2 (xb_ty cI cC cZ cR) D [.ref o0] (wMo o0 ma st ik le sp nu ++ wAr cI (ma 0) 1898 now ++ wAr cI (ma 1) 1898 thn ++ wAr cI (ma 2) 7592 pst ++ wAr cI (ma 3) 1898 snp ++ wAr cC (ma 4) 80 txt ++ wAr cI (ma 5) 48 hld ++ wAr cI (ma 6) 24 far ++ wAr cZ (ma 7) 72 don ++ wAr cI (ma 8) 96 tld ++ wAr cI (ma 9) 24 dep ++ wAr cI (ma 10) 24 bit) (some (.int r)) (wMo o0 ma st ik le sp' nu' ++ wAr cI (ma 0) 1898 now ++ wAr cI (ma 1) 1898 thn ++ wAr cI (ma 2) 7592 pst ++ wAr cI (ma 3) 1898 snp ++ wAr cC (ma 4) 80 txt ++ wAr cI (ma 5) 48 hld ++ wAr cI (ma 6) 24 far ++ wAr cZ (ma 7) 72 don ++ wAr cI (ma 8) 96 tld ++ wAr cI (ma 9) 24 dep ++ wAr cI (ma 10) 24 bit) := by
  intro X C Z
  show xb_G X 0 0 (wMo o0 ma st ik le sp nu ++ wAr cI (ma 0) 1898 now ++ wAr cI (ma 1) 1898 thn ++ wAr cI (ma 2) 7592 pst ++ wAr cI (ma 3) 1898 snp ++ wAr cC (ma 4) 80 txt ++ wAr cI (ma 5) 48 hld ++ wAr cI (ma 6) 24 far ++ wAr cZ (ma 7) 72 don ++ wAr cI (ma 8) 96 tld ++ wAr cI (ma 9) 24 dep ++ wAr cI (ma 10) 24 bit) [(0, .ref o0)] 0 []
  unfold f_X6_isSourceTold at h
  refine xi_aload_n C dX6_isSourceTold_0 rfl 0 rfl ?_
  refine xi_bipush (v := 99) C dX6_isSourceTold_1 (by decide) ?_
  obtain ⟨⟨v1, sp2⟩, e3, h⟩ := ob_i h
  refine xi_callV (As := [.int 99]) (o := some (.int v1)) (rest := []) (w2 := (wMo o0 ma st ik le sp2 nu ++ wAr cI (ma 0) 1898 now ++ wAr cI (ma 1) 1898 thn ++ wAr cI (ma 2) 7592 pst ++ wAr cI (ma 3) 1898 snp ++ wAr cC (ma 4) 80 txt ++ wAr cI (ma 5) 48 hld ++ wAr cI (ma 6) 24 far ++ wAr cZ (ma 7) 72 don ++ wAr cI (ma 8) 96 tld ++ wAr cI (ma 9) 24 dep ++ wAr cI (ma 10) 24 bit)) (st2 := [.int v1]) C k_X6_takes (m_X6_takes D cI cC cZ cR o0 ma st ik le sp nu now thn pst snp txt hld far don tld dep bit 99 v1 sp2 e3) gX6_isSourceTold_X6_takes dX6_isSourceTold_3 ⟨Nat.le_of_ble_eq_true rfl, Nat.le_of_ble_eq_true rfl, Nat.le_of_ble_eq_true rfl⟩ 0 rfl rfl [0, 1, 2, 3, 4, 5, 6, 7, 8, 9, 10, 11] mxC_X6_0_1_2_3_4_5_6_7_8_9_10_11 rfl [0, 1, 2, 3] rfl mxF_X6_0_1_2_3_4_5_6_7_8_9_10_11 mxM_X6_0_1_2_3_4_5_6_7_8_9_10_11 rfl (Nat.le_of_ble_eq_true rfl) ⟨Nat.zero_le _, Nat.zero_le _⟩ rfl ?_
  refine xi_if_eq (tgt := 16) C dX6_isSourceTold_6 (by decide) (fun c4 => ?_) (fun c4 => ?_)
  · have h := it_i c4 h
    refine xi_aload_n C dX6_isSourceTold_16 rfl 0 rfl ?_
    refine xi_bipush (v := 112) C dX6_isSourceTold_17 (by decide) ?_
    obtain ⟨⟨v5, sp6⟩, e7, h⟩ := ob_i h
    refine xi_callV (As := [.int 112]) (o := some (.int v5)) (rest := []) (w2 := (wMo o0 ma st ik le sp6 nu ++ wAr cI (ma 0) 1898 now ++ wAr cI (ma 1) 1898 thn ++ wAr cI (ma 2) 7592 pst ++ wAr cI (ma 3) 1898 snp ++ wAr cC (ma 4) 80 txt ++ wAr cI (ma 5) 48 hld ++ wAr cI (ma 6) 24 far ++ wAr cZ (ma 7) 72 don ++ wAr cI (ma 8) 96 tld ++ wAr cI (ma 9) 24 dep ++ wAr cI (ma 10) 24 bit)) (st2 := [.int v5]) C k_X6_takes (m_X6_takes D cI cC cZ cR o0 ma st ik le sp2 nu now thn pst snp txt hld far don tld dep bit 112 v5 sp6 e7) gX6_isSourceTold_X6_takes dX6_isSourceTold_19 ⟨Nat.le_of_ble_eq_true rfl, Nat.le_of_ble_eq_true rfl, Nat.le_of_ble_eq_true rfl⟩ 0 rfl rfl [0, 1, 2, 3, 4, 5, 6, 7, 8, 9, 10, 11] mxC_X6_0_1_2_3_4_5_6_7_8_9_10_11 rfl [0, 1, 2, 3] rfl mxF_X6_0_1_2_3_4_5_6_7_8_9_10_11 mxM_X6_0_1_2_3_4_5_6_7_8_9_10_11 rfl (Nat.le_of_ble_eq_true rfl) ⟨Nat.zero_le _, Nat.zero_le _⟩ rfl ?_
    refine xi_if_eq (tgt := 45) C dX6_isSourceTold_22 (by decide) (fun c8 => ?_) (fun c8 => ?_)
    · have h := it_i c8 h
      refine xi_aload_n C dX6_isSourceTold_45 rfl 0 rfl ?_
      refine xi_bipush (v := 49) C dX6_isSourceTold_46 (by decide) ?_
      refine xi_bipush (v := 49) C dX6_isSourceTold_48 (by decide) ?_
      obtain ⟨v9, e10, h⟩ := ob_i h
      refine xi_callV (As := [.int 49, .int 49]) (o := some (.int v9)) (rest := []) (w2 := (wMo o0 ma st ik le sp6 nu ++ wAr cI (ma 0) 1898 now ++ wAr cI (ma 1) 1898 thn ++ wAr cI (ma 2) 7592 pst ++ wAr cI (ma 3) 1898 snp ++ wAr cC (ma 4) 80 txt ++ wAr cI (ma 5) 48 hld ++ wAr cI (ma 6) 24 far ++ wAr cZ (ma 7) 72 don ++ wAr cI (ma 8) 96 tld ++ wAr cI (ma 9) 24 dep ++ wAr cI (ma 10) 24 bit)) (st2 := [.int v9]) C k_X6_sees (m_X6_sees D cI cC cZ cR o0 ma st ik le sp6 nu now thn pst snp txt hld far don tld dep bit 49 49 v9 e10) gX6_isSourceTold_X6_sees dX6_isSourceTold_50 ⟨Nat.le_of_ble_eq_true rfl, Nat.le_of_ble_eq_true rfl, Nat.le_of_ble_eq_true rfl⟩ 0 rfl rfl [0, 1, 2, 3, 4, 5, 6, 7, 8, 9, 10, 11] mxC_X6_0_1_2_3_4_5_6_7_8_9_10_11 rfl [0, 1, 2, 3] rfl mxF_X6_0_1_2_3_4_5_6_7_8_9_10_11 mxM_X6_0_1_2_3_4_5_6_7_8_9_10_11 rfl (Nat.le_of_ble_eq_true rfl) ⟨Nat.zero_le _, Nat.zero_le _⟩ rfl ?_
      refine xi_istore_n (lv2 := [(0, .ref o0), (1, .int v9)]) C dX6_isSourceTold_53 rfl (by decide) [0] [1, 0] rfl ?_
      refine xi_aload_n C dX6_isSourceTold_54 rfl 0 rfl ?_
      refine xi_iload_n C dX6_isSourceTold_55 rfl 1 rfl ?_
      refine xi_if_eq (tgt := 64) C dX6_isSourceTold_56 (by decide) (fun c11 => ?_) (fun c11 => ?_)
      · have h := it_i c11 h
        refine xi_bipush (v := 32) C dX6_isSourceTold_64 (by decide) ?_
        refine xi_put (ty := .int) (w2 := (wMo o0 ma st ik le sp6 32 ++ wAr cI (ma 0) 1898 now ++ wAr cI (ma 1) 1898 thn ++ wAr cI (ma 2) 7592 pst ++ wAr cI (ma 3) 1898 snp ++ wAr cC (ma 4) 80 txt ++ wAr cI (ma 5) 48 hld ++ wAr cI (ma 6) 24 far ++ wAr cZ (ma 7) 72 don ++ wAr cI (ma 8) 96 tld ++ wAr cI (ma 9) 24 dep ++ wAr cI (ma 10) 24 bit)) C dX6_isSourceTold_66 iw_X6_isSourceTold_6 tyX6 tyX6_ok nmX6 0 rfl rfl 13 (by decide) fl_X6_isSourceTold_166 rfl (by decide +kernel) (by rfl) (by rfl) (Nat.le_of_ble_eq_true rfl) rfl ?_
        refine xi_aload_n C dX6_isSourceTold_69 rfl 0 rfl ?_
        refine xi_iload_n C dX6_isSourceTold_70 rfl 1 rfl ?_
        refine xi_if_eq (tgt := 79) C dX6_isSourceTold_71 (by decide) (fun c12 => ?_) (fun c12 => ?_)
        · have h := it_i c12 h
          refine xi_bipush (v := 48) C dX6_isSourceTold_79 (by decide) ?_
          obtain ⟨⟨v13, sp14⟩, e15, h⟩ := ob_i h
          refine xi_callV (As := [.int 48]) (o := some (.int v13)) (rest := []) (w2 := (wMo o0 ma st ik le sp14 32 ++ wAr cI (ma 0) 1898 now ++ wAr cI (ma 1) 1898 thn ++ wAr cI (ma 2) 7592 pst ++ wAr cI (ma 3) 1898 snp ++ wAr cC (ma 4) 80 txt ++ wAr cI (ma 5) 48 hld ++ wAr cI (ma 6) 24 far ++ wAr cZ (ma 7) 72 don ++ wAr cI (ma 8) 96 tld ++ wAr cI (ma 9) 24 dep ++ wAr cI (ma 10) 24 bit)) (st2 := [.int v13]) C k_X6_takes (m_X6_takes D cI cC cZ cR o0 ma st ik le sp6 32 now thn pst snp txt hld far don tld dep bit 48 v13 sp14 e15) gX6_isSourceTold_X6_takes dX6_isSourceTold_81 ⟨Nat.le_of_ble_eq_true rfl, Nat.le_of_ble_eq_true rfl, Nat.le_of_ble_eq_true rfl⟩ 0 rfl rfl [0, 1, 2, 3, 4, 5, 6, 7, 8, 9, 10, 11] mxC_X6_0_1_2_3_4_5_6_7_8_9_10_11 rfl [0, 1, 2, 3] rfl mxF_X6_0_1_2_3_4_5_6_7_8_9_10_11 mxM_X6_0_1_2_3_4_5_6_7_8_9_10_11 rfl (Nat.le_of_ble_eq_true rfl) ⟨Nat.zero_le _, Nat.zero_le _⟩ rfl ?_
          obtain ⟨v16, e17, h⟩ := ob_i h
          obtain ⟨e17n, e17q⟩ := xr_z_spec e17
          subst e17q
          have w0 := Option.some.inj h
          obtain ⟨q0, w1⟩ := Prod.mk.inj w0
          obtain ⟨q1, w2⟩ := Prod.mk.inj w1
          subst q0
          subst q1
          subst w2
          exact xi_zret C Z dX6_isSourceTold_84 e17n
        · have h := ie_i c12 h
          refine xi_bipush (v := 49) C dX6_isSourceTold_74 (by decide) ?_
          refine xi_goto (tgt := 81) C dX6_isSourceTold_76 (by decide) ?_
          obtain ⟨⟨v18, sp19⟩, e20, h⟩ := ob_i h
          refine xi_callV (As := [.int 49]) (o := some (.int v18)) (rest := []) (w2 := (wMo o0 ma st ik le sp19 32 ++ wAr cI (ma 0) 1898 now ++ wAr cI (ma 1) 1898 thn ++ wAr cI (ma 2) 7592 pst ++ wAr cI (ma 3) 1898 snp ++ wAr cC (ma 4) 80 txt ++ wAr cI (ma 5) 48 hld ++ wAr cI (ma 6) 24 far ++ wAr cZ (ma 7) 72 don ++ wAr cI (ma 8) 96 tld ++ wAr cI (ma 9) 24 dep ++ wAr cI (ma 10) 24 bit)) (st2 := [.int v18]) C k_X6_takes (m_X6_takes D cI cC cZ cR o0 ma st ik le sp6 32 now thn pst snp txt hld far don tld dep bit 49 v18 sp19 e20) gX6_isSourceTold_X6_takes dX6_isSourceTold_81 ⟨Nat.le_of_ble_eq_true rfl, Nat.le_of_ble_eq_true rfl, Nat.le_of_ble_eq_true rfl⟩ 0 rfl rfl [0, 1, 2, 3, 4, 5, 6, 7, 8, 9, 10, 11] mxC_X6_0_1_2_3_4_5_6_7_8_9_10_11 rfl [0, 1, 2, 3] rfl mxF_X6_0_1_2_3_4_5_6_7_8_9_10_11 mxM_X6_0_1_2_3_4_5_6_7_8_9_10_11 rfl (Nat.le_of_ble_eq_true rfl) ⟨Nat.zero_le _, Nat.zero_le _⟩ rfl ?_
          obtain ⟨v21, e22, h⟩ := ob_i h
          obtain ⟨e22n, e22q⟩ := xr_z_spec e22
          subst e22q
          have w0 := Option.some.inj h
          obtain ⟨q0, w1⟩ := Prod.mk.inj w0
          obtain ⟨q1, w2⟩ := Prod.mk.inj w1
          subst q0
          subst q1
          subst w2
          exact xi_zret C Z dX6_isSourceTold_84 e22n
      · have h := ie_i c11 h
        refine xi_bipush (v := 33) C dX6_isSourceTold_59 (by decide) ?_
        refine xi_goto (tgt := 66) C dX6_isSourceTold_61 (by decide) ?_
        refine xi_put (ty := .int) (w2 := (wMo o0 ma st ik le sp6 33 ++ wAr cI (ma 0) 1898 now ++ wAr cI (ma 1) 1898 thn ++ wAr cI (ma 2) 7592 pst ++ wAr cI (ma 3) 1898 snp ++ wAr cC (ma 4) 80 txt ++ wAr cI (ma 5) 48 hld ++ wAr cI (ma 6) 24 far ++ wAr cZ (ma 7) 72 don ++ wAr cI (ma 8) 96 tld ++ wAr cI (ma 9) 24 dep ++ wAr cI (ma 10) 24 bit)) C dX6_isSourceTold_66 iw_X6_isSourceTold_6 tyX6 tyX6_ok nmX6 0 rfl rfl 13 (by decide) fl_X6_isSourceTold_166 rfl (by decide +kernel) (by rfl) (by rfl) (Nat.le_of_ble_eq_true rfl) rfl ?_
        refine xi_aload_n C dX6_isSourceTold_69 rfl 0 rfl ?_
        refine xi_iload_n C dX6_isSourceTold_70 rfl 1 rfl ?_
        refine xi_if_eq (tgt := 79) C dX6_isSourceTold_71 (by decide) (fun c23 => ?_) (fun c23 => ?_)
        · have h := it_i c23 h
          refine xi_bipush (v := 48) C dX6_isSourceTold_79 (by decide) ?_
          obtain ⟨⟨v24, sp25⟩, e26, h⟩ := ob_i h
          refine xi_callV (As := [.int 48]) (o := some (.int v24)) (rest := []) (w2 := (wMo o0 ma st ik le sp25 33 ++ wAr cI (ma 0) 1898 now ++ wAr cI (ma 1) 1898 thn ++ wAr cI (ma 2) 7592 pst ++ wAr cI (ma 3) 1898 snp ++ wAr cC (ma 4) 80 txt ++ wAr cI (ma 5) 48 hld ++ wAr cI (ma 6) 24 far ++ wAr cZ (ma 7) 72 don ++ wAr cI (ma 8) 96 tld ++ wAr cI (ma 9) 24 dep ++ wAr cI (ma 10) 24 bit)) (st2 := [.int v24]) C k_X6_takes (m_X6_takes D cI cC cZ cR o0 ma st ik le sp6 33 now thn pst snp txt hld far don tld dep bit 48 v24 sp25 e26) gX6_isSourceTold_X6_takes dX6_isSourceTold_81 ⟨Nat.le_of_ble_eq_true rfl, Nat.le_of_ble_eq_true rfl, Nat.le_of_ble_eq_true rfl⟩ 0 rfl rfl [0, 1, 2, 3, 4, 5, 6, 7, 8, 9, 10, 11] mxC_X6_0_1_2_3_4_5_6_7_8_9_10_11 rfl [0, 1, 2, 3] rfl mxF_X6_0_1_2_3_4_5_6_7_8_9_10_11 mxM_X6_0_1_2_3_4_5_6_7_8_9_10_11 rfl (Nat.le_of_ble_eq_true rfl) ⟨Nat.zero_le _, Nat.zero_le _⟩ rfl ?_
          obtain ⟨v27, e28, h⟩ := ob_i h
          obtain ⟨e28n, e28q⟩ := xr_z_spec e28
          subst e28q
          have w0 := Option.some.inj h
          obtain ⟨q0, w1⟩ := Prod.mk.inj w0
          obtain ⟨q1, w2⟩ := Prod.mk.inj w1
          subst q0
          subst q1
          subst w2
          exact xi_zret C Z dX6_isSourceTold_84 e28n
        · have h := ie_i c23 h
          refine xi_bipush (v := 49) C dX6_isSourceTold_74 (by decide) ?_
          refine xi_goto (tgt := 81) C dX6_isSourceTold_76 (by decide) ?_
          obtain ⟨⟨v29, sp30⟩, e31, h⟩ := ob_i h
          refine xi_callV (As := [.int 49]) (o := some (.int v29)) (rest := []) (w2 := (wMo o0 ma st ik le sp30 33 ++ wAr cI (ma 0) 1898 now ++ wAr cI (ma 1) 1898 thn ++ wAr cI (ma 2) 7592 pst ++ wAr cI (ma 3) 1898 snp ++ wAr cC (ma 4) 80 txt ++ wAr cI (ma 5) 48 hld ++ wAr cI (ma 6) 24 far ++ wAr cZ (ma 7) 72 don ++ wAr cI (ma 8) 96 tld ++ wAr cI (ma 9) 24 dep ++ wAr cI (ma 10) 24 bit)) (st2 := [.int v29]) C k_X6_takes (m_X6_takes D cI cC cZ cR o0 ma st ik le sp6 33 now thn pst snp txt hld far don tld dep bit 49 v29 sp30 e31) gX6_isSourceTold_X6_takes dX6_isSourceTold_81 ⟨Nat.le_of_ble_eq_true rfl, Nat.le_of_ble_eq_true rfl, Nat.le_of_ble_eq_true rfl⟩ 0 rfl rfl [0, 1, 2, 3, 4, 5, 6, 7, 8, 9, 10, 11] mxC_X6_0_1_2_3_4_5_6_7_8_9_10_11 rfl [0, 1, 2, 3] rfl mxF_X6_0_1_2_3_4_5_6_7_8_9_10_11 mxM_X6_0_1_2_3_4_5_6_7_8_9_10_11 rfl (Nat.le_of_ble_eq_true rfl) ⟨Nat.zero_le _, Nat.zero_le _⟩ rfl ?_
          obtain ⟨v32, e33, h⟩ := ob_i h
          obtain ⟨e33n, e33q⟩ := xr_z_spec e33
          subst e33q
          have w0 := Option.some.inj h
          obtain ⟨q0, w1⟩ := Prod.mk.inj w0
          obtain ⟨q1, w2⟩ := Prod.mk.inj w1
          subst q0
          subst q1
          subst w2
          exact xi_zret C Z dX6_isSourceTold_84 e33n
    · have h := ie_i c8 h
      refine xi_aload_n C dX6_isSourceTold_25 rfl 0 rfl ?_
      refine xi_bipush (v := 7) C dX6_isSourceTold_26 (by decide) ?_
      obtain ⟨⟨v34, sp35, nu36⟩, e37, h⟩ := ob_i h
      refine xi_callV (As := [.int 7]) (o := some (.int v34)) (rest := []) (w2 := (wMo o0 ma st ik le sp35 nu36 ++ wAr cI (ma 0) 1898 now ++ wAr cI (ma 1) 1898 thn ++ wAr cI (ma 2) 7592 pst ++ wAr cI (ma 3) 1898 snp ++ wAr cC (ma 4) 80 txt ++ wAr cI (ma 5) 48 hld ++ wAr cI (ma 6) 24 far ++ wAr cZ (ma 7) 72 don ++ wAr cI (ma 8) 96 tld ++ wAr cI (ma 9) 24 dep ++ wAr cI (ma 10) 24 bit)) (st2 := [.int v34]) C k_X6_isNumber (m_X6_isNumber D cI cC cZ cR o0 ma st ik le sp6 nu now thn pst snp txt hld far don tld dep bit 7 v34 sp35 nu36 e37) gX6_isSourceTold_X6_isNumber dX6_isSourceTold_28 ⟨Nat.le_of_ble_eq_true rfl, Nat.le_of_ble_eq_true rfl, Nat.le_of_ble_eq_true rfl⟩ 0 rfl rfl [0, 1, 2, 3, 4, 5, 6, 7, 8, 9, 10, 11] mxC_X6_0_1_2_3_4_5_6_7_8_9_10_11 rfl [0, 1, 2, 3] rfl mxF_X6_0_1_2_3_4_5_6_7_8_9_10_11 mxM_X6_0_1_2_3_4_5_6_7_8_9_10_11 rfl (Nat.le_of_ble_eq_true rfl) ⟨Nat.zero_le _, Nat.zero_le _⟩ rfl ?_
      refine xi_istore_n (lv2 := [(0, .ref o0), (1, .int v34)]) C dX6_isSourceTold_31 rfl (by decide) [0] [1, 0] rfl ?_
      refine xi_aload_n C dX6_isSourceTold_32 rfl 0 rfl ?_
      refine xi_dup C dX6_isSourceTold_33 rfl ?_
      refine xi_get C dX6_isSourceTold_34 iw_X6_isSourceTold_6 0 rfl rfl 13 (by decide) fl_X6_isSourceTold_166 rfl ?_
      refine xi_bipush (v := 24) C dX6_isSourceTold_37 (by decide) ?_
      refine xi_iadd C dX6_isSourceTold_39 ?_
      refine xi_put (ty := .int) (w2 := (wMo o0 ma st ik le sp35 (nu36 + 24) ++ wAr cI (ma 0) 1898 now ++ wAr cI (ma 1) 1898 thn ++ wAr cI (ma 2) 7592 pst ++ wAr cI (ma 3) 1898 snp ++ wAr cC (ma 4) 80 txt ++ wAr cI (ma 5) 48 hld ++ wAr cI (ma 6) 24 far ++ wAr cZ (ma 7) 72 don ++ wAr cI (ma 8) 96 tld ++ wAr cI (ma 9) 24 dep ++ wAr cI (ma 10) 24 bit)) C dX6_isSourceTold_40 iw_X6_isSourceTold_6 tyX6 tyX6_ok nmX6 0 rfl rfl 13 (by decide) fl_X6_isSourceTold_166 rfl (by decide +kernel) (by rfl) (by rfl) (Nat.le_of_ble_eq_true rfl) rfl ?_
      refine xi_iload_n C dX6_isSourceTold_43 rfl 1 rfl ?_
      obtain ⟨v38, e39, h⟩ := ob_i h
      obtain ⟨e39n, e39q⟩ := xr_z_spec e39
      subst e39q
      have w0 := Option.some.inj h
      obtain ⟨q0, w1⟩ := Prod.mk.inj w0
      obtain ⟨q1, w2⟩ := Prod.mk.inj w1
      subst q0
      subst q1
      subst w2
      exact xi_zret C Z dX6_isSourceTold_44 e39n
  · have h := ie_i c4 h
    refine xi_aload_n C dX6_isSourceTold_9 rfl 0 rfl ?_
    refine xi_bipush (v := 23) C dX6_isSourceTold_10 (by decide) ?_
    obtain ⟨⟨v40, sp41, nu42⟩, e43, h⟩ := ob_i h
    refine xi_callV (As := [.int 23]) (o := some (.int v40)) (rest := []) (w2 := (wMo o0 ma st ik le sp41 nu42 ++ wAr cI (ma 0) 1898 now ++ wAr cI (ma 1) 1898 thn ++ wAr cI (ma 2) 7592 pst ++ wAr cI (ma 3) 1898 snp ++ wAr cC (ma 4) 80 txt ++ wAr cI (ma 5) 48 hld ++ wAr cI (ma 6) 24 far ++ wAr cZ (ma 7) 72 don ++ wAr cI (ma 8) 96 tld ++ wAr cI (ma 9) 24 dep ++ wAr cI (ma 10) 24 bit)) (st2 := [.int v40]) C k_X6_isNumber (m_X6_isNumber D cI cC cZ cR o0 ma st ik le sp2 nu now thn pst snp txt hld far don tld dep bit 23 v40 sp41 nu42 e43) gX6_isSourceTold_X6_isNumber dX6_isSourceTold_12 ⟨Nat.le_of_ble_eq_true rfl, Nat.le_of_ble_eq_true rfl, Nat.le_of_ble_eq_true rfl⟩ 0 rfl rfl [0, 1, 2, 3, 4, 5, 6, 7, 8, 9, 10, 11] mxC_X6_0_1_2_3_4_5_6_7_8_9_10_11 rfl [0, 1, 2, 3] rfl mxF_X6_0_1_2_3_4_5_6_7_8_9_10_11 mxM_X6_0_1_2_3_4_5_6_7_8_9_10_11 rfl (Nat.le_of_ble_eq_true rfl) ⟨Nat.zero_le _, Nat.zero_le _⟩ rfl ?_
    obtain ⟨v44, e45, h⟩ := ob_i h
    obtain ⟨e45n, e45q⟩ := xr_z_spec e45
    subst e45q
    have w0 := Option.some.inj h
    obtain ⟨q0, w1⟩ := Prod.mk.inj w0
    obtain ⟨q1, w2⟩ := Prod.mk.inj w1
    subst q0
    subst q1
    subst w2
    exact xi_zret C Z dX6_isSourceTold_15 e45n
def f_X6_areSources_30 (le : Int32) (txt : Nat → Int32) (x1_30 : Int32) (k : Int32 → Int32 → (Nat → Int32) → Option (Int32 × Int32 × Int32 × (Nat → Int32))) : Nat → Int32 → Int32 → Int32 → (Nat → Int32) → Option (Int32 × Int32 × Int32 × (Nat → Int32))
  | 0, _, _, _, _ => none
  | n + 1, x2_30, sp_30, nu_30, tld_30 =>
    if 3 ≤ x2_30 then
      k sp_30 nu_30 tld_30
    else
      (f_X6_takes le sp_30 txt 47).bind fun (v6, sp7) =>
      if v6 = 0 then
        k sp7 nu_30 tld_30
      else
        (f_X6_isSourceTold le sp7 nu_30 txt).bind fun (v10, sp11, nu12) =>
        if v10 = 0 then
          some (0, sp11, nu12, tld_30)
        else
          (xr_w tld_30 96 ((24 + (3 * x1_30)) + x2_30) nu12).bind fun tld16 =>
          f_X6_areSources_30 le txt x1_30 k n (x2_30 + 1) sp11 nu12 tld16
def f_X6_areSources_2 (x1_2 : Int32) (k : (Nat → Int32) → Option (Int32 × Int32 × Int32 × (Nat → Int32))) : Nat → Int32 → (Nat → Int32) → Option (Int32 × Int32 × Int32 × (Nat → Int32))
  | 0, _, _ => none
  | n + 1, x2_2, tld_2 =>
    if 3 ≤ x2_2 then
      k tld_2
    else
      (xr_w tld_2 96 ((24 + (3 * x1_2)) + x2_2) 32).bind fun tld3 =>
      f_X6_areSources_2 x1_2 k n (x2_2 + 1) tld3
def f_X6_areSources (le : Int32) (sp : Int32) (nu : Int32) (txt : Nat → Int32) (tld : Nat → Int32) (p1 : Int32) : Option (Int32 × Int32 × Int32 × (Nat → Int32)) :=
  f_X6_areSources_2 p1 (fun tldz4 =>
    f_X6_areSources_30 le txt p1 (fun spz17 nuz17 tldz17 =>
      some (1, spz17, nuz17, tldz17)) xFu 0 sp nu tldz4) xFu 0 tld
theorem k_X6_areSources : xb_Y yX6_areSources cX6_areSources wsX6_areSources 3 (some .boolean) { frames := 4, cells := 0, slots := 0, locals := 87 } 1 := ⟨⟨_, rfl⟩, by decide, ⟨by decide, by decide, by decide +kernel⟩, rfl, rfl⟩
theorem fl_X6_areSources_36 : Cond.fieldLink RX6 36 "LookupBoardModel" "told" "[I" ∈ wsX6_areSources := List.mem_of_getElem? (i := 1) rfl
theorem fl_X6_areSources_166 : Cond.fieldLink RX6 166 "LookupBoardModel" "number" "I" ∈ wsX6_areSources := List.mem_of_getElem? (i := 2) rfl
theorem iw_X6_areSources_6 : ∀ w ∈ wsX60, w ∈ wsX6_areSources := fun w h => List.mem_cons_of_mem _ (List.mem_append_right _ h)
set_option maxHeartbeats 4000000 in
set_option maxRecDepth 100000 in
theorem m_X6_areSources (D : va_G) (cI cC cZ cR : ClassId) (o0 : Nat) (ma : Nat → Nat) (st : Int32) (ik : Int32) (le : Int32) (sp : Int32) (nu : Int32) (now : Nat → Int32) (thn : Nat → Int32) (pst : Nat → Int32) (snp : Nat → Int32) (txt : Nat → Int32) (hld : Nat → Int32) (far : Nat → Int32) (don : Nat → Int32) (tld : Nat → Int32) (dep : Nat → Int32) (bit : Nat → Int32) (p1 : Int32) (r : Int32) (sp' : Int32) (nu' : Int32) (tld' : Nat → Int32) (h : f_X6_areSources le sp nu txt tld p1 = some (r, sp', nu', tld')) : xb_M cX6_areSources wsX6_areSources RX6 { frames := 4, cells := 0, slots := 0, locals := 87 } (some .boolean) 3 (xb_ty cI cC cZ cR) D [.ref o0, .int p1] (wMo o0 ma st ik le sp nu ++ wAr cI (ma 0) 1898 now ++ wAr cI (ma 1) 1898 thn ++ wAr cI (ma 2) 7592 pst ++ wAr cI (ma 3) 1898 snp ++ wAr cC (ma 4) 80 txt ++ wAr cI (ma 5) 48 hld ++ wAr cI (ma 6) 24 far ++ wAr cZ (ma 7) 72 don ++ wAr cI (ma 8) 96 tld ++ wAr cI (ma 9) 24 dep ++ wAr cI (ma 10) 24 bit) (some (.int r)) (wMo o0 ma st ik le sp' nu' ++ wAr cI (ma 0) 1898 now ++ wAr cI (ma 1) 1898 thn ++ wAr cI (ma 2) 7592 pst ++ wAr cI (ma 3) 1898 snp ++ wAr cC (ma 4) 80 txt ++ wAr cI (ma 5) 48 hld ++ wAr cI (ma 6) 24 far ++ wAr cZ (ma 7) 72 don ++ wAr cI (ma 8) 96 tld' ++ wAr cI (ma 9) 24 dep ++ wAr cI (ma 10) 24 bit) := by
  intro X C Z
  show xb_G X 0 0 (wMo o0 ma st ik le sp nu ++ wAr cI (ma 0) 1898 now ++ wAr cI (ma 1) 1898 thn ++ wAr cI (ma 2) 7592 pst ++ wAr cI (ma 3) 1898 snp ++ wAr cC (ma 4) 80 txt ++ wAr cI (ma 5) 48 hld ++ wAr cI (ma 6) 24 far ++ wAr cZ (ma 7) 72 don ++ wAr cI (ma 8) 96 tld ++ wAr cI (ma 9) 24 dep ++ wAr cI (ma 10) 24 bit) [(0, .ref o0), (1, .int p1)] 0 []
  have lp30 : ∀ (x1_30 : Int32) (k : Int32 → Int32 → (Nat → Int32) → Option (Int32 × Int32 × Int32 × (Nat → Int32))) (n : Nat) (x2_30 : Int32) (sp_30 : Int32) (nu_30 : Int32) (tld_30 : Nat → Int32), f_X6_areSources_30 le txt x1_30 k n x2_30 sp_30 nu_30 tld_30 = some (r, sp', nu', tld') → (∀ (sp_30e : Int32) (nu_30e : Int32) (tld_30e : Nat → Int32), k sp_30e nu_30e tld_30e = some (r, sp', nu', tld') → xb_G X 0 0 (wMo o0 ma st ik le sp_30e nu_30e ++ wAr cI (ma 0) 1898 now ++ wAr cI (ma 1) 1898 thn ++ wAr cI (ma 2) 7592 pst ++ wAr cI (ma 3) 1898 snp ++ wAr cC (ma 4) 80 txt ++ wAr cI (ma 5) 48 hld ++ wAr cI (ma 6) 24 far ++ wAr cZ (ma 7) 72 don ++ wAr cI (ma 8) 96 tld_30e ++ wAr cI (ma 9) 24 dep ++ wAr cI (ma 10) 24 bit) [] 76 []) → xb_G X 0 0 (wMo o0 ma st ik le sp_30 nu_30 ++ wAr cI (ma 0) 1898 now ++ wAr cI (ma 1) 1898 thn ++ wAr cI (ma 2) 7592 pst ++ wAr cI (ma 3) 1898 snp ++ wAr cC (ma 4) 80 txt ++ wAr cI (ma 5) 48 hld ++ wAr cI (ma 6) 24 far ++ wAr cZ (ma 7) 72 don ++ wAr cI (ma 8) 96 tld_30 ++ wAr cI (ma 9) 24 dep ++ wAr cI (ma 10) 24 bit) [(0, .ref o0), (1, .int x1_30), (2, .int x2_30)] 30 [] := by
    intro x1_30 k n
    induction n with
    | zero => intro x2_30 sp_30 nu_30 tld_30 h hk; unfold f_X6_areSources_30 at h; cases h
    | succ n ih =>
      intro x2_30 sp_30 nu_30 tld_30 h hk
      unfold f_X6_areSources_30 at h
      refine xi_iload_n C dX6_areSources_30 rfl 2 rfl ?_
      refine xi_iconst (v := 3) C dX6_areSources_31 (by decide) ?_
      refine xi_icmp_ge (tgt := 76) C dX6_areSources_32 (by decide) (fun c5 => ?_) (fun c5 => ?_)
      · have h := it_i c5 h
        exact xb_lv (hk sp_30 nu_30 tld_30 h) [] rfl
      · have h := ie_i c5 h
        refine xi_aload_n C dX6_areSources_35 rfl 0 rfl ?_
        refine xi_bipush (v := 47) C dX6_areSources_36 (by decide) ?_
        obtain ⟨⟨v6, sp7⟩, e8, h⟩ := ob_i h
        refine xi_callV (As := [.int 47]) (o := some (.int v6)) (rest := []) (w2 := (wMo o0 ma st ik le sp7 nu_30 ++ wAr cI (ma 0) 1898 now ++ wAr cI (ma 1) 1898 thn ++ wAr cI (ma 2) 7592 pst ++ wAr cI (ma 3) 1898 snp ++ wAr cC (ma 4) 80 txt ++ wAr cI (ma 5) 48 hld ++ wAr cI (ma 6) 24 far ++ wAr cZ (ma 7) 72 don ++ wAr cI (ma 8) 96 tld_30 ++ wAr cI (ma 9) 24 dep ++ wAr cI (ma 10) 24 bit)) (st2 := [.int v6]) C k_X6_takes (m_X6_takes D cI cC cZ cR o0 ma st ik le sp_30 nu_30 now thn pst snp txt hld far don tld_30 dep bit 47 v6 sp7 e8) gX6_areSources_X6_takes dX6_areSources_38 ⟨Nat.le_of_ble_eq_true rfl, Nat.le_of_ble_eq_true rfl, Nat.le_of_ble_eq_true rfl⟩ 0 rfl rfl [0, 1, 2, 3, 4, 5, 6, 7, 8, 9, 10, 11] mxC_X6_0_1_2_3_4_5_6_7_8_9_10_11 rfl [0, 1, 2, 3] rfl mxF_X6_0_1_2_3_4_5_6_7_8_9_10_11 mxM_X6_0_1_2_3_4_5_6_7_8_9_10_11 rfl (Nat.le_of_ble_eq_true rfl) ⟨Nat.zero_le _, Nat.zero_le _⟩ rfl ?_
        refine xi_if_eq (tgt := 76) C dX6_areSources_41 (by decide) (fun c9 => ?_) (fun c9 => ?_)
        · have h := it_i c9 h
          exact xb_lv (hk sp7 nu_30 tld_30 h) [] rfl
        · have h := ie_i c9 h
          refine xi_aload_n C dX6_areSources_44 rfl 0 rfl ?_
          obtain ⟨⟨v10, sp11, nu12⟩, e13, h⟩ := ob_i h
          refine xi_callV (As := []) (o := some (.int v10)) (rest := []) (w2 := (wMo o0 ma st ik le sp11 nu12 ++ wAr cI (ma 0) 1898 now ++ wAr cI (ma 1) 1898 thn ++ wAr cI (ma 2) 7592 pst ++ wAr cI (ma 3) 1898 snp ++ wAr cC (ma 4) 80 txt ++ wAr cI (ma 5) 48 hld ++ wAr cI (ma 6) 24 far ++ wAr cZ (ma 7) 72 don ++ wAr cI (ma 8) 96 tld_30 ++ wAr cI (ma 9) 24 dep ++ wAr cI (ma 10) 24 bit)) (st2 := [.int v10]) C k_X6_isSourceTold (m_X6_isSourceTold D cI cC cZ cR o0 ma st ik le sp7 nu_30 now thn pst snp txt hld far don tld_30 dep bit v10 sp11 nu12 e13) gX6_areSources_X6_isSourceTold dX6_areSources_45 ⟨Nat.le_of_ble_eq_true rfl, Nat.le_of_ble_eq_true rfl, Nat.le_of_ble_eq_true rfl⟩ 0 rfl rfl [0, 1, 2, 3, 4, 5, 6, 7, 8, 9, 10, 11] mxC_X6_0_1_2_3_4_5_6_7_8_9_10_11 rfl [0, 1, 2, 3] rfl mxF_X6_0_1_2_3_4_5_6_7_8_9_10_11 mxM_X6_0_1_2_3_4_5_6_7_8_9_10_11 rfl (Nat.le_of_ble_eq_true rfl) ⟨Nat.zero_le _, Nat.zero_le _⟩ rfl ?_
          refine xi_if_ne (tgt := 53) C dX6_areSources_48 (by decide) (fun c14 => ?_) (fun c14 => ?_)
          · have h := ie_i c14 h
            refine xi_aload_n C dX6_areSources_53 rfl 0 rfl ?_
            refine xi_get C dX6_areSources_54 iw_X6_areSources_6 0 rfl rfl 12 (by decide) fl_X6_areSources_36 rfl ?_
            refine xi_bipush (v := 24) C dX6_areSources_57 (by decide) ?_
            refine xi_iconst (v := 3) C dX6_areSources_59 (by decide) ?_
            refine xi_iload_n C dX6_areSources_60 rfl 1 rfl ?_
            refine xi_imul C dX6_areSources_61 ?_
            refine xi_iadd C dX6_areSources_62 ?_
            refine xi_iload_n C dX6_areSources_63 rfl 2 rfl ?_
            refine xi_iadd C dX6_areSources_64 ?_
            refine xi_aload_n C dX6_areSources_65 rfl 0 rfl ?_
            refine xi_get C dX6_areSources_66 iw_X6_areSources_6 0 rfl rfl 13 (by decide) fl_X6_areSources_166 rfl ?_
            obtain ⟨tld16, e15, h⟩ := ob_i h
            refine xi_iast (w2 := (wMo o0 ma st ik le sp11 nu12 ++ wAr cI (ma 0) 1898 now ++ wAr cI (ma 1) 1898 thn ++ wAr cI (ma 2) 7592 pst ++ wAr cI (ma 3) 1898 snp ++ wAr cC (ma 4) 80 txt ++ wAr cI (ma 5) 48 hld ++ wAr cI (ma 6) 24 far ++ wAr cZ (ma 7) 72 don ++ wAr cI (ma 8) 96 tld16 ++ wAr cI (ma 9) 24 dep ++ wAr cI (ma 10) 24 bit)) C dX6_areSources_69 9 0 rfl rfl e15 rfl ?_
            refine xi_iinc (v := x2_30 + 1) (lv2 := [(0, .ref o0), (1, .int x1_30), (2, .int (x2_30 + 1))]) C dX6_areSources_70 2 rfl (by rfl) (by decide) [0, 1] [1, 2, 0] rfl ?_
            refine xi_goto (tgt := 30) C dX6_areSources_73 (by decide) ?_
            exact xb_lv (ih (x2_30 + 1) sp11 nu12 tld16 h hk) [0, 1, 2] rfl
          · have h := it_i c14 h
            refine xi_iconst (v := 0) C dX6_areSources_51 (by decide) ?_
            have w0 := Option.some.inj h
            obtain ⟨q0, w1⟩ := Prod.mk.inj w0
            obtain ⟨q1, w2⟩ := Prod.mk.inj w1
            obtain ⟨q2, w3⟩ := Prod.mk.inj w2
            subst q0
            subst q1
            subst q2
            subst w3
            exact xi_zret C Z dX6_areSources_52 xb_nz0
  have lp2 : ∀ (sp_2 : Int32) (nu_2 : Int32) (x1_2 : Int32) (k : (Nat → Int32) → Option (Int32 × Int32 × Int32 × (Nat → Int32))) (n : Nat) (x2_2 : Int32) (tld_2 : Nat → Int32), f_X6_areSources_2 x1_2 k n x2_2 tld_2 = some (r, sp', nu', tld') → (∀ (tld_2e : Nat → Int32), k tld_2e = some (r, sp', nu', tld') → xb_G X 0 0 (wMo o0 ma st ik le sp_2 nu_2 ++ wAr cI (ma 0) 1898 now ++ wAr cI (ma 1) 1898 thn ++ wAr cI (ma 2) 7592 pst ++ wAr cI (ma 3) 1898 snp ++ wAr cC (ma 4) 80 txt ++ wAr cI (ma 5) 48 hld ++ wAr cI (ma 6) 24 far ++ wAr cZ (ma 7) 72 don ++ wAr cI (ma 8) 96 tld_2e ++ wAr cI (ma 9) 24 dep ++ wAr cI (ma 10) 24 bit) [(0, .ref o0), (1, .int x1_2)] 28 []) → xb_G X 0 0 (wMo o0 ma st ik le sp_2 nu_2 ++ wAr cI (ma 0) 1898 now ++ wAr cI (ma 1) 1898 thn ++ wAr cI (ma 2) 7592 pst ++ wAr cI (ma 3) 1898 snp ++ wAr cC (ma 4) 80 txt ++ wAr cI (ma 5) 48 hld ++ wAr cI (ma 6) 24 far ++ wAr cZ (ma 7) 72 don ++ wAr cI (ma 8) 96 tld_2 ++ wAr cI (ma 9) 24 dep ++ wAr cI (ma 10) 24 bit) [(0, .ref o0), (1, .int x1_2), (2, .int x2_2)] 2 [] := by
    intro sp_2 nu_2 x1_2 k n
    induction n with
    | zero => intro x2_2 tld_2 h hk; unfold f_X6_areSources_2 at h; cases h
    | succ n ih =>
      intro x2_2 tld_2 h hk
      unfold f_X6_areSources_2 at h
      refine xi_iload_n C dX6_areSources_2 rfl 2 rfl ?_
      refine xi_iconst (v := 3) C dX6_areSources_3 (by decide) ?_
      refine xi_icmp_ge (tgt := 28) C dX6_areSources_4 (by decide) (fun c1 => ?_) (fun c1 => ?_)
      · have h := it_i c1 h
        exact xb_lv (hk tld_2 h) [0, 1] rfl
      · have h := ie_i c1 h
        refine xi_aload_n C dX6_areSources_7 rfl 0 rfl ?_
        refine xi_get C dX6_areSources_8 iw_X6_areSources_6 0 rfl rfl 12 (by decide) fl_X6_areSources_36 rfl ?_
        refine xi_bipush (v := 24) C dX6_areSources_11 (by decide) ?_
        refine xi_iconst (v := 3) C dX6_areSources_13 (by decide) ?_
        refine xi_iload_n C dX6_areSources_14 rfl 1 rfl ?_
        refine xi_imul C dX6_areSources_15 ?_
        refine xi_iadd C dX6_areSources_16 ?_
        refine xi_iload_n C dX6_areSources_17 rfl 2 rfl ?_
        refine xi_iadd C dX6_areSources_18 ?_
        refine xi_bipush (v := 32) C dX6_areSources_19 (by decide) ?_
        obtain ⟨tld3, e2, h⟩ := ob_i h
        refine xi_iast (w2 := (wMo o0 ma st ik le sp_2 nu_2 ++ wAr cI (ma 0) 1898 now ++ wAr cI (ma 1) 1898 thn ++ wAr cI (ma 2) 7592 pst ++ wAr cI (ma 3) 1898 snp ++ wAr cC (ma 4) 80 txt ++ wAr cI (ma 5) 48 hld ++ wAr cI (ma 6) 24 far ++ wAr cZ (ma 7) 72 don ++ wAr cI (ma 8) 96 tld3 ++ wAr cI (ma 9) 24 dep ++ wAr cI (ma 10) 24 bit)) C dX6_areSources_21 9 0 rfl rfl e2 rfl ?_
        refine xi_iinc (v := x2_2 + 1) (lv2 := [(0, .ref o0), (1, .int x1_2), (2, .int (x2_2 + 1))]) C dX6_areSources_22 2 rfl (by rfl) (by decide) [0, 1] [1, 2, 0] rfl ?_
        refine xi_goto (tgt := 2) C dX6_areSources_25 (by decide) ?_
        exact xb_lv (ih (x2_2 + 1) tld3 h hk) [0, 1, 2] rfl
  unfold f_X6_areSources at h
  refine xi_iconst (v := 0) C dX6_areSources_0 (by decide) ?_
  refine xi_istore_n (lv2 := [(0, .ref o0), (1, .int p1), (2, .int 0)]) C dX6_areSources_1 rfl (by decide) [0, 1] [1, 2, 0] rfl ?_
  refine xb_lv (lp2 sp nu p1 _ xFu 0 tld h (fun tldz4 h => ?_)) [0, 1, 2] rfl
  refine xi_iconst (v := 0) C dX6_areSources_28 (by decide) ?_
  refine xi_istore_n (lv2 := [(0, .ref o0), (1, .int p1), (2, .int 0)]) C dX6_areSources_29 rfl (by decide) [0, 1] [1, 2, 0] rfl ?_
  refine xb_lv (lp30 p1 _ xFu 0 sp nu tldz4 h (fun spz17 nuz17 tldz17 h => ?_)) [0, 1, 2] rfl
  refine xi_iconst (v := 1) C dX6_areSources_76 (by decide) ?_
  have w0 := Option.some.inj h
  obtain ⟨q0, w1⟩ := Prod.mk.inj w0
  obtain ⟨q1, w2⟩ := Prod.mk.inj w1
  obtain ⟨q2, w3⟩ := Prod.mk.inj w2
  subst q0
  subst q1
  subst q2
  subst w3
  exact xi_zret C Z dX6_areSources_77 xb_nz1
def f_X6_isCellTold (le : Int32) (sp : Int32) (nu : Int32) (txt : Nat → Int32) (tld : Nat → Int32) : Option (Int32 × Int32 × Int32 × (Nat → Int32)) :=
  (f_X6_isNumber le sp nu txt 23).bind fun (v1, sp2, nu3) =>
  if v1 = 0 then
    some (0, sp2, nu3, tld)
  else
    (f_X6_takes le sp2 txt 61).bind fun (v6, sp7) =>
    if v6 = 0 then
      some (0, sp7, nu3, tld)
    else
      (f_X6_sixteenth le sp7 txt).bind fun (v10, sp11) =>
      if v10 = (-5) then
        some (0, sp11, nu3, tld)
      else
        (f_X6_sixteenth le sp11 txt).bind fun (v14, sp15) =>
        if v14 = (-5) then
          some (0, sp15, nu3, tld)
        else
          (xr_w tld 96 nu3 ((16 * v10) + v14)).bind fun tld19 =>
          (f_X6_areSources le sp15 nu3 txt tld19 nu3).bind fun (v20, sp21, nu22, tld23) =>
          (xr_z v20).bind fun v25 =>
          some (v25, sp21, nu22, tld23)
theorem k_X6_isCellTold : xb_Y yX6_isCellTold cX6_isCellTold wsX6_isCellTold 4 (some .boolean) { frames := 5, cells := 0, slots := 0, locals := 109 } 0 := ⟨⟨_, rfl⟩, by decide, ⟨by decide, by decide, by decide +kernel⟩, rfl, rfl⟩
theorem fl_X6_isCellTold_36 : Cond.fieldLink RX6 36 "LookupBoardModel" "told" "[I" ∈ wsX6_isCellTold := List.mem_of_getElem? (i := 2) rfl
theorem fl_X6_isCellTold_166 : Cond.fieldLink RX6 166 "LookupBoardModel" "number" "I" ∈ wsX6_isCellTold := List.mem_of_getElem? (i := 1) rfl
theorem iw_X6_isCellTold_6 : ∀ w ∈ wsX60, w ∈ wsX6_isCellTold := fun w h => List.mem_cons_of_mem _ (List.mem_append_right _ h)
set_option maxHeartbeats 4000000 in
set_option maxRecDepth 100000 in
theorem m_X6_isCellTold (D : va_G) (cI cC cZ cR : ClassId) (o0 : Nat) (ma : Nat → Nat) (st : Int32) (ik : Int32) (le : Int32) (sp : Int32) (nu : Int32) (now : Nat → Int32) (thn : Nat → Int32) (pst : Nat → Int32) (snp : Nat → Int32) (txt : Nat → Int32) (hld : Nat → Int32) (far : Nat → Int32) (don : Nat → Int32) (tld : Nat → Int32) (dep : Nat → Int32) (bit : Nat → Int32) (r : Int32) (sp' : Int32) (nu' : Int32) (tld' : Nat → Int32) (h : f_X6_isCellTold le sp nu txt tld = some (r, sp', nu', tld')) : xb_M cX6_isCellTold wsX6_isCellTold RX6 { frames := 5, cells := 0, slots := 0, locals := 109 } (some .boolean) 4 (xb_ty cI cC cZ cR) D [.ref o0] (wMo o0 ma st ik le sp nu ++ wAr cI (ma 0) 1898 now ++ wAr cI (ma 1) 1898 thn ++ wAr cI (ma 2) 7592 pst ++ wAr cI (ma 3) 1898 snp ++ wAr cC (ma 4) 80 txt ++ wAr cI (ma 5) 48 hld ++ wAr cI (ma 6) 24 far ++ wAr cZ (ma 7) 72 don ++ wAr cI (ma 8) 96 tld ++ wAr cI (ma 9) 24 dep ++ wAr cI (ma 10) 24 bit) (some (.int r)) (wMo o0 ma st ik le sp' nu' ++ wAr cI (ma 0) 1898 now ++ wAr cI (ma 1) 1898 thn ++ wAr cI (ma 2) 7592 pst ++ wAr cI (ma 3) 1898 snp ++ wAr cC (ma 4) 80 txt ++ wAr cI (ma 5) 48 hld ++ wAr cI (ma 6) 24 far ++ wAr cZ (ma 7) 72 don ++ wAr cI (ma 8) 96 tld' ++ wAr cI (ma 9) 24 dep ++ wAr cI (ma 10) 24 bit) := by
  intro X C Z
  show xb_G X 0 0 (wMo o0 ma st ik le sp nu ++ wAr cI (ma 0) 1898 now ++ wAr cI (ma 1) 1898 thn ++ wAr cI (ma 2) 7592 pst ++ wAr cI (ma 3) 1898 snp ++ wAr cC (ma 4) 80 txt ++ wAr cI (ma 5) 48 hld ++ wAr cI (ma 6) 24 far ++ wAr cZ (ma 7) 72 don ++ wAr cI (ma 8) 96 tld ++ wAr cI (ma 9) 24 dep ++ wAr cI (ma 10) 24 bit) [(0, .ref o0)] 0 []
  unfold f_X6_isCellTold at h
  refine xi_aload_n C dX6_isCellTold_0 rfl 0 rfl ?_
  refine xi_bipush (v := 23) C dX6_isCellTold_1 (by decide) ?_
  obtain ⟨⟨v1, sp2, nu3⟩, e4, h⟩ := ob_i h
  refine xi_callV (As := [.int 23]) (o := some (.int v1)) (rest := []) (w2 := (wMo o0 ma st ik le sp2 nu3 ++ wAr cI (ma 0) 1898 now ++ wAr cI (ma 1) 1898 thn ++ wAr cI (ma 2) 7592 pst ++ wAr cI (ma 3) 1898 snp ++ wAr cC (ma 4) 80 txt ++ wAr cI (ma 5) 48 hld ++ wAr cI (ma 6) 24 far ++ wAr cZ (ma 7) 72 don ++ wAr cI (ma 8) 96 tld ++ wAr cI (ma 9) 24 dep ++ wAr cI (ma 10) 24 bit)) (st2 := [.int v1]) C k_X6_isNumber (m_X6_isNumber D cI cC cZ cR o0 ma st ik le sp nu now thn pst snp txt hld far don tld dep bit 23 v1 sp2 nu3 e4) gX6_isCellTold_X6_isNumber dX6_isCellTold_3 ⟨Nat.le_of_ble_eq_true rfl, Nat.le_of_ble_eq_true rfl, Nat.le_of_ble_eq_true rfl⟩ 0 rfl rfl [0, 1, 2, 3, 4, 5, 6, 7, 8, 9, 10, 11] mxC_X6_0_1_2_3_4_5_6_7_8_9_10_11 rfl [0, 1, 2, 3] rfl mxF_X6_0_1_2_3_4_5_6_7_8_9_10_11 mxM_X6_0_1_2_3_4_5_6_7_8_9_10_11 rfl (Nat.le_of_ble_eq_true rfl) ⟨Nat.zero_le _, Nat.zero_le _⟩ rfl ?_
  refine xi_if_eq (tgt := 18) C dX6_isCellTold_6 (by decide) (fun c5 => ?_) (fun c5 => ?_)
  · have h := it_i c5 h
    refine xi_iconst (v := 0) C dX6_isCellTold_18 (by decide) ?_
    have w0 := Option.some.inj h
    obtain ⟨q0, w1⟩ := Prod.mk.inj w0
    obtain ⟨q1, w2⟩ := Prod.mk.inj w1
    obtain ⟨q2, w3⟩ := Prod.mk.inj w2
    subst q0
    subst q1
    subst q2
    subst w3
    exact xi_zret C Z dX6_isCellTold_19 xb_nz0
  · have h := ie_i c5 h
    refine xi_aload_n C dX6_isCellTold_9 rfl 0 rfl ?_
    refine xi_bipush (v := 61) C dX6_isCellTold_10 (by decide) ?_
    obtain ⟨⟨v6, sp7⟩, e8, h⟩ := ob_i h
    refine xi_callV (As := [.int 61]) (o := some (.int v6)) (rest := []) (w2 := (wMo o0 ma st ik le sp7 nu3 ++ wAr cI (ma 0) 1898 now ++ wAr cI (ma 1) 1898 thn ++ wAr cI (ma 2) 7592 pst ++ wAr cI (ma 3) 1898 snp ++ wAr cC (ma 4) 80 txt ++ wAr cI (ma 5) 48 hld ++ wAr cI (ma 6) 24 far ++ wAr cZ (ma 7) 72 don ++ wAr cI (ma 8) 96 tld ++ wAr cI (ma 9) 24 dep ++ wAr cI (ma 10) 24 bit)) (st2 := [.int v6]) C k_X6_takes (m_X6_takes D cI cC cZ cR o0 ma st ik le sp2 nu3 now thn pst snp txt hld far don tld dep bit 61 v6 sp7 e8) gX6_isCellTold_X6_takes dX6_isCellTold_12 ⟨Nat.le_of_ble_eq_true rfl, Nat.le_of_ble_eq_true rfl, Nat.le_of_ble_eq_true rfl⟩ 0 rfl rfl [0, 1, 2, 3, 4, 5, 6, 7, 8, 9, 10, 11] mxC_X6_0_1_2_3_4_5_6_7_8_9_10_11 rfl [0, 1, 2, 3] rfl mxF_X6_0_1_2_3_4_5_6_7_8_9_10_11 mxM_X6_0_1_2_3_4_5_6_7_8_9_10_11 rfl (Nat.le_of_ble_eq_true rfl) ⟨Nat.zero_le _, Nat.zero_le _⟩ rfl ?_
    refine xi_if_ne (tgt := 20) C dX6_isCellTold_15 (by decide) (fun c9 => ?_) (fun c9 => ?_)
    · have h := ie_i c9 h
      refine xi_aload_n C dX6_isCellTold_20 rfl 0 rfl ?_
      refine xi_get C dX6_isCellTold_21 iw_X6_isCellTold_6 0 rfl rfl 13 (by decide) fl_X6_isCellTold_166 rfl ?_
      refine xi_istore_n (lv2 := [(0, .ref o0), (1, .int nu3)]) C dX6_isCellTold_24 rfl (by decide) [0] [1, 0] rfl ?_
      refine xi_aload_n C dX6_isCellTold_25 rfl 0 rfl ?_
      obtain ⟨⟨v10, sp11⟩, e12, h⟩ := ob_i h
      refine xi_callV (As := []) (o := some (.int v10)) (rest := []) (w2 := (wMo o0 ma st ik le sp11 nu3 ++ wAr cI (ma 0) 1898 now ++ wAr cI (ma 1) 1898 thn ++ wAr cI (ma 2) 7592 pst ++ wAr cI (ma 3) 1898 snp ++ wAr cC (ma 4) 80 txt ++ wAr cI (ma 5) 48 hld ++ wAr cI (ma 6) 24 far ++ wAr cZ (ma 7) 72 don ++ wAr cI (ma 8) 96 tld ++ wAr cI (ma 9) 24 dep ++ wAr cI (ma 10) 24 bit)) (st2 := [.int v10]) C k_X6_sixteenth (m_X6_sixteenth D cI cC cZ cR o0 ma st ik le sp7 nu3 now thn pst snp txt hld far don tld dep bit v10 sp11 e12) gX6_isCellTold_X6_sixteenth dX6_isCellTold_26 ⟨Nat.le_of_ble_eq_true rfl, Nat.le_of_ble_eq_true rfl, Nat.le_of_ble_eq_true rfl⟩ 0 rfl rfl [0, 1, 2, 3, 4, 5, 6, 7, 8, 9, 10, 11] mxC_X6_0_1_2_3_4_5_6_7_8_9_10_11 rfl [0, 1, 2, 3] rfl mxF_X6_0_1_2_3_4_5_6_7_8_9_10_11 mxM_X6_0_1_2_3_4_5_6_7_8_9_10_11 rfl (Nat.le_of_ble_eq_true rfl) ⟨Nat.zero_le _, Nat.zero_le _⟩ rfl ?_
      refine xi_istore_n (lv2 := [(0, .ref o0), (1, .int nu3), (2, .int v10)]) C dX6_isCellTold_29 rfl (by decide) [0, 1] [1, 2, 0] rfl ?_
      refine xi_iload_n C dX6_isCellTold_30 rfl 2 rfl ?_
      refine xi_bipush (v := (-5)) C dX6_isCellTold_31 (by decide) ?_
      refine xi_icmp_ne (tgt := 41) C dX6_isCellTold_33 (by decide) (fun c13 => ?_) (fun c13 => ?_)
      · have h := ie_i c13 h
        refine xi_aload_n C dX6_isCellTold_41 rfl 0 rfl ?_
        obtain ⟨⟨v14, sp15⟩, e16, h⟩ := ob_i h
        refine xi_callV (As := []) (o := some (.int v14)) (rest := []) (w2 := (wMo o0 ma st ik le sp15 nu3 ++ wAr cI (ma 0) 1898 now ++ wAr cI (ma 1) 1898 thn ++ wAr cI (ma 2) 7592 pst ++ wAr cI (ma 3) 1898 snp ++ wAr cC (ma 4) 80 txt ++ wAr cI (ma 5) 48 hld ++ wAr cI (ma 6) 24 far ++ wAr cZ (ma 7) 72 don ++ wAr cI (ma 8) 96 tld ++ wAr cI (ma 9) 24 dep ++ wAr cI (ma 10) 24 bit)) (st2 := [.int v14]) C k_X6_sixteenth (m_X6_sixteenth D cI cC cZ cR o0 ma st ik le sp11 nu3 now thn pst snp txt hld far don tld dep bit v14 sp15 e16) gX6_isCellTold_X6_sixteenth dX6_isCellTold_42 ⟨Nat.le_of_ble_eq_true rfl, Nat.le_of_ble_eq_true rfl, Nat.le_of_ble_eq_true rfl⟩ 0 rfl rfl [0, 1, 2, 3, 4, 5, 6, 7, 8, 9, 10, 11] mxC_X6_0_1_2_3_4_5_6_7_8_9_10_11 rfl [0, 1, 2, 3] rfl mxF_X6_0_1_2_3_4_5_6_7_8_9_10_11 mxM_X6_0_1_2_3_4_5_6_7_8_9_10_11 rfl (Nat.le_of_ble_eq_true rfl) ⟨Nat.zero_le _, Nat.zero_le _⟩ rfl ?_
        refine xi_istore_n (lv2 := [(0, .ref o0), (1, .int nu3), (2, .int v10), (3, .int v14)]) C dX6_isCellTold_45 rfl (by decide) [0, 1, 2] [1, 2, 3, 0] rfl ?_
        refine xi_iload_n C dX6_isCellTold_46 rfl 3 rfl ?_
        refine xi_bipush (v := (-5)) C dX6_isCellTold_47 (by decide) ?_
        refine xi_icmp_ne (tgt := 54) C dX6_isCellTold_49 (by decide) (fun c17 => ?_) (fun c17 => ?_)
        · have h := ie_i c17 h
          refine xi_aload_n C dX6_isCellTold_54 rfl 0 rfl ?_
          refine xi_get C dX6_isCellTold_55 iw_X6_isCellTold_6 0 rfl rfl 12 (by decide) fl_X6_isCellTold_36 rfl ?_
          refine xi_iload_n C dX6_isCellTold_58 rfl 1 rfl ?_
          refine xi_bipush (v := 16) C dX6_isCellTold_59 (by decide) ?_
          refine xi_iload_n C dX6_isCellTold_61 rfl 2 rfl ?_
          refine xi_imul C dX6_isCellTold_62 ?_
          refine xi_iload_n C dX6_isCellTold_63 rfl 3 rfl ?_
          refine xi_iadd C dX6_isCellTold_64 ?_
          obtain ⟨tld19, e18, h⟩ := ob_i h
          refine xi_iast (w2 := (wMo o0 ma st ik le sp15 nu3 ++ wAr cI (ma 0) 1898 now ++ wAr cI (ma 1) 1898 thn ++ wAr cI (ma 2) 7592 pst ++ wAr cI (ma 3) 1898 snp ++ wAr cC (ma 4) 80 txt ++ wAr cI (ma 5) 48 hld ++ wAr cI (ma 6) 24 far ++ wAr cZ (ma 7) 72 don ++ wAr cI (ma 8) 96 tld19 ++ wAr cI (ma 9) 24 dep ++ wAr cI (ma 10) 24 bit)) C dX6_isCellTold_65 9 0 rfl rfl e18 rfl ?_
          refine xi_aload_n C dX6_isCellTold_66 rfl 0 rfl ?_
          refine xi_iload_n C dX6_isCellTold_67 rfl 1 rfl ?_
          obtain ⟨⟨v20, sp21, nu22, tld23⟩, e24, h⟩ := ob_i h
          refine xi_callV (As := [.int nu3]) (o := some (.int v20)) (rest := []) (w2 := (wMo o0 ma st ik le sp21 nu22 ++ wAr cI (ma 0) 1898 now ++ wAr cI (ma 1) 1898 thn ++ wAr cI (ma 2) 7592 pst ++ wAr cI (ma 3) 1898 snp ++ wAr cC (ma 4) 80 txt ++ wAr cI (ma 5) 48 hld ++ wAr cI (ma 6) 24 far ++ wAr cZ (ma 7) 72 don ++ wAr cI (ma 8) 96 tld23 ++ wAr cI (ma 9) 24 dep ++ wAr cI (ma 10) 24 bit)) (st2 := [.int v20]) C k_X6_areSources (m_X6_areSources D cI cC cZ cR o0 ma st ik le sp15 nu3 now thn pst snp txt hld far don tld19 dep bit nu3 v20 sp21 nu22 tld23 e24) gX6_isCellTold_X6_areSources dX6_isCellTold_68 ⟨Nat.le_of_ble_eq_true rfl, Nat.le_of_ble_eq_true rfl, Nat.le_of_ble_eq_true rfl⟩ 0 rfl rfl [0, 1, 2, 3, 4, 5, 6, 7, 8, 9, 10, 11] mxC_X6_0_1_2_3_4_5_6_7_8_9_10_11 rfl [0, 1, 2, 3] rfl mxF_X6_0_1_2_3_4_5_6_7_8_9_10_11 mxM_X6_0_1_2_3_4_5_6_7_8_9_10_11 rfl (Nat.le_of_ble_eq_true rfl) ⟨Nat.zero_le _, Nat.zero_le _⟩ rfl ?_
          obtain ⟨v25, e26, h⟩ := ob_i h
          obtain ⟨e26n, e26q⟩ := xr_z_spec e26
          subst e26q
          have w0 := Option.some.inj h
          obtain ⟨q0, w1⟩ := Prod.mk.inj w0
          obtain ⟨q1, w2⟩ := Prod.mk.inj w1
          obtain ⟨q2, w3⟩ := Prod.mk.inj w2
          subst q0
          subst q1
          subst q2
          subst w3
          exact xi_zret C Z dX6_isCellTold_71 e26n
        · have h := it_i c17 h
          refine xi_iconst (v := 0) C dX6_isCellTold_52 (by decide) ?_
          have w0 := Option.some.inj h
          obtain ⟨q0, w1⟩ := Prod.mk.inj w0
          obtain ⟨q1, w2⟩ := Prod.mk.inj w1
          obtain ⟨q2, w3⟩ := Prod.mk.inj w2
          subst q0
          subst q1
          subst q2
          subst w3
          exact xi_zret C Z dX6_isCellTold_53 xb_nz0
      · have h := it_i c13 h
        refine xi_bipush (v := (-5)) C dX6_isCellTold_36 (by decide) ?_
        refine xi_goto (tgt := 45) C dX6_isCellTold_38 (by decide) ?_
        refine xi_istore_n (lv2 := [(0, .ref o0), (1, .int nu3), (2, .int v10), (3, .int (-5))]) C dX6_isCellTold_45 rfl (by decide) [0, 1, 2] [1, 2, 3, 0] rfl ?_
        refine xi_iload_n C dX6_isCellTold_46 rfl 3 rfl ?_
        refine xi_bipush (v := (-5)) C dX6_isCellTold_47 (by decide) ?_
        refine xi_icmp_ne (tgt := 54) C dX6_isCellTold_49 (by decide) (fun c27 => ?_) (fun c27 => ?_)
        · first | exact absurd c27 (by decide) | exact absurd (by decide) c27
        refine xi_iconst (v := 0) C dX6_isCellTold_52 (by decide) ?_
        have w0 := Option.some.inj h
        obtain ⟨q0, w1⟩ := Prod.mk.inj w0
        obtain ⟨q1, w2⟩ := Prod.mk.inj w1
        obtain ⟨q2, w3⟩ := Prod.mk.inj w2
        subst q0
        subst q1
        subst q2
        subst w3
        exact xi_zret C Z dX6_isCellTold_53 xb_nz0
    · have h := it_i c9 h
      refine xi_iconst (v := 0) C dX6_isCellTold_18 (by decide) ?_
      have w0 := Option.some.inj h
      obtain ⟨q0, w1⟩ := Prod.mk.inj w0
      obtain ⟨q1, w2⟩ := Prod.mk.inj w1
      obtain ⟨q2, w3⟩ := Prod.mk.inj w2
      subst q0
      subst q1
      subst q2
      subst w3
      exact xi_zret C Z dX6_isCellTold_19 xb_nz0
def f_X6_fault_29 (le : Int32) (txt : Nat → Int32) (k : Int32 → Int32 → (Nat → Int32) → Option (Int32 × Int32 × Int32 × (Nat → Int32))) : Nat → Int32 → Int32 → Int32 → (Nat → Int32) → Option (Int32 × Int32 × Int32 × (Nat → Int32))
  | 0, _, _, _, _ => none
  | n + 1, x1_29, sp_29, nu_29, tld_29 =>
    if x1_29 = 0 then
      k sp_29 nu_29 tld_29
    else
      (f_X6_isCellTold le sp_29 nu_29 txt tld_29).bind fun (v6, sp7, nu8, tld9) =>
      if v6 = 0 then
        some (sp7, sp7, nu8, tld9)
      else
        (f_X6_takes le sp7 txt 59).bind fun (v12, sp13) =>
        f_X6_fault_29 le txt k n v12 sp13 nu8 tld9
def f_X6_fault_7 (k : (Nat → Int32) → Option (Int32 × Int32 × Int32 × (Nat → Int32))) : Nat → Int32 → (Nat → Int32) → Option (Int32 × Int32 × Int32 × (Nat → Int32))
  | 0, _, _ => none
  | n + 1, x1_7, tld_7 =>
    if 24 ≤ x1_7 then
      k tld_7
    else
      (xr_w tld_7 96 x1_7 (-5)).bind fun tld3 =>
      f_X6_fault_7 k n (x1_7 + 1) tld3
def f_X6_fault (le : Int32) (sp : Int32) (nu : Int32) (txt : Nat → Int32) (tld : Nat → Int32) : Option (Int32 × Int32 × Int32 × (Nat → Int32)) :=
  f_X6_fault_7 (fun tldz4 =>
    f_X6_fault_29 le txt (fun spz15 nuz15 tldz15 =>
      if spz15 = le then
        some ((-5), spz15, nuz15, tldz15)
      else
        some (spz15, spz15, nuz15, tldz15)) xFu 1 0 nu tldz4) xFu 0 tld
theorem k_X6_fault : xb_Y yX6_fault cX6_fault wsX6_fault 2 (some .int) { frames := 6, cells := 0, slots := 0, locals := 132 } 0 := ⟨⟨_, rfl⟩, by decide, ⟨by decide, by decide, by decide +kernel⟩, rfl, rfl⟩
theorem fl_X6_fault_36 : Cond.fieldLink RX6 36 "LookupBoardModel" "told" "[I" ∈ wsX6_fault := List.mem_of_getElem? (i := 2) rfl
theorem fl_X6_fault_157 : Cond.fieldLink RX6 157 "LookupBoardModel" "length" "I" ∈ wsX6_fault := List.mem_of_getElem? (i := 3) rfl
theorem fl_X6_fault_160 : Cond.fieldLink RX6 160 "LookupBoardModel" "spot" "I" ∈ wsX6_fault := List.mem_of_getElem? (i := 1) rfl
theorem iw_X6_fault_6 : ∀ w ∈ wsX60, w ∈ wsX6_fault := fun w h => List.mem_cons_of_mem _ (List.mem_append_right _ h)
set_option maxHeartbeats 4000000 in
set_option maxRecDepth 100000 in
theorem m_X6_fault (D : va_G) (cI cC cZ cR : ClassId) (o0 : Nat) (ma : Nat → Nat) (st : Int32) (ik : Int32) (le : Int32) (sp : Int32) (nu : Int32) (now : Nat → Int32) (thn : Nat → Int32) (pst : Nat → Int32) (snp : Nat → Int32) (txt : Nat → Int32) (hld : Nat → Int32) (far : Nat → Int32) (don : Nat → Int32) (tld : Nat → Int32) (dep : Nat → Int32) (bit : Nat → Int32) (r : Int32) (sp' : Int32) (nu' : Int32) (tld' : Nat → Int32) (h : f_X6_fault le sp nu txt tld = some (r, sp', nu', tld')) : xb_M cX6_fault wsX6_fault RX6 { frames := 6, cells := 0, slots := 0, locals := 132 } (some .int) 2 (xb_ty cI cC cZ cR) D [.ref o0] (wMo o0 ma st ik le sp nu ++ wAr cI (ma 0) 1898 now ++ wAr cI (ma 1) 1898 thn ++ wAr cI (ma 2) 7592 pst ++ wAr cI (ma 3) 1898 snp ++ wAr cC (ma 4) 80 txt ++ wAr cI (ma 5) 48 hld ++ wAr cI (ma 6) 24 far ++ wAr cZ (ma 7) 72 don ++ wAr cI (ma 8) 96 tld ++ wAr cI (ma 9) 24 dep ++ wAr cI (ma 10) 24 bit) (some (.int r)) (wMo o0 ma st ik le sp' nu' ++ wAr cI (ma 0) 1898 now ++ wAr cI (ma 1) 1898 thn ++ wAr cI (ma 2) 7592 pst ++ wAr cI (ma 3) 1898 snp ++ wAr cC (ma 4) 80 txt ++ wAr cI (ma 5) 48 hld ++ wAr cI (ma 6) 24 far ++ wAr cZ (ma 7) 72 don ++ wAr cI (ma 8) 96 tld' ++ wAr cI (ma 9) 24 dep ++ wAr cI (ma 10) 24 bit) := by
  intro X C Z
  show xb_G X 0 0 (wMo o0 ma st ik le sp nu ++ wAr cI (ma 0) 1898 now ++ wAr cI (ma 1) 1898 thn ++ wAr cI (ma 2) 7592 pst ++ wAr cI (ma 3) 1898 snp ++ wAr cC (ma 4) 80 txt ++ wAr cI (ma 5) 48 hld ++ wAr cI (ma 6) 24 far ++ wAr cZ (ma 7) 72 don ++ wAr cI (ma 8) 96 tld ++ wAr cI (ma 9) 24 dep ++ wAr cI (ma 10) 24 bit) [(0, .ref o0)] 0 []
  have lp29 : ∀ (k : Int32 → Int32 → (Nat → Int32) → Option (Int32 × Int32 × Int32 × (Nat → Int32))) (n : Nat) (x1_29 : Int32) (sp_29 : Int32) (nu_29 : Int32) (tld_29 : Nat → Int32), f_X6_fault_29 le txt k n x1_29 sp_29 nu_29 tld_29 = some (r, sp', nu', tld') → (∀ (sp_29e : Int32) (nu_29e : Int32) (tld_29e : Nat → Int32), k sp_29e nu_29e tld_29e = some (r, sp', nu', tld') → xb_G X 0 0 (wMo o0 ma st ik le sp_29e nu_29e ++ wAr cI (ma 0) 1898 now ++ wAr cI (ma 1) 1898 thn ++ wAr cI (ma 2) 7592 pst ++ wAr cI (ma 3) 1898 snp ++ wAr cC (ma 4) 80 txt ++ wAr cI (ma 5) 48 hld ++ wAr cI (ma 6) 24 far ++ wAr cZ (ma 7) 72 don ++ wAr cI (ma 8) 96 tld_29e ++ wAr cI (ma 9) 24 dep ++ wAr cI (ma 10) 24 bit) [(0, .ref o0)] 55 []) → xb_G X 0 0 (wMo o0 ma st ik le sp_29 nu_29 ++ wAr cI (ma 0) 1898 now ++ wAr cI (ma 1) 1898 thn ++ wAr cI (ma 2) 7592 pst ++ wAr cI (ma 3) 1898 snp ++ wAr cC (ma 4) 80 txt ++ wAr cI (ma 5) 48 hld ++ wAr cI (ma 6) 24 far ++ wAr cZ (ma 7) 72 don ++ wAr cI (ma 8) 96 tld_29 ++ wAr cI (ma 9) 24 dep ++ wAr cI (ma 10) 24 bit) [(0, .ref o0), (1, .int x1_29)] 29 [] := by
    intro k n
    induction n with
    | zero => intro x1_29 sp_29 nu_29 tld_29 h hk; unfold f_X6_fault_29 at h; cases h
    | succ n ih =>
      intro x1_29 sp_29 nu_29 tld_29 h hk
      unfold f_X6_fault_29 at h
      refine xi_iload_n C dX6_fault_29 rfl 1 rfl ?_
      refine xi_if_eq (tgt := 55) C dX6_fault_30 (by decide) (fun c5 => ?_) (fun c5 => ?_)
      · have h := it_i c5 h
        exact xb_lv (hk sp_29 nu_29 tld_29 h) [0] rfl
      · have h := ie_i c5 h
        refine xi_aload_n C dX6_fault_33 rfl 0 rfl ?_
        obtain ⟨⟨v6, sp7, nu8, tld9⟩, e10, h⟩ := ob_i h
        refine xi_callV (As := []) (o := some (.int v6)) (rest := []) (w2 := (wMo o0 ma st ik le sp7 nu8 ++ wAr cI (ma 0) 1898 now ++ wAr cI (ma 1) 1898 thn ++ wAr cI (ma 2) 7592 pst ++ wAr cI (ma 3) 1898 snp ++ wAr cC (ma 4) 80 txt ++ wAr cI (ma 5) 48 hld ++ wAr cI (ma 6) 24 far ++ wAr cZ (ma 7) 72 don ++ wAr cI (ma 8) 96 tld9 ++ wAr cI (ma 9) 24 dep ++ wAr cI (ma 10) 24 bit)) (st2 := [.int v6]) C k_X6_isCellTold (m_X6_isCellTold D cI cC cZ cR o0 ma st ik le sp_29 nu_29 now thn pst snp txt hld far don tld_29 dep bit v6 sp7 nu8 tld9 e10) gX6_fault_X6_isCellTold dX6_fault_34 ⟨Nat.le_of_ble_eq_true rfl, Nat.le_of_ble_eq_true rfl, Nat.le_of_ble_eq_true rfl⟩ 0 rfl rfl [0, 1, 2, 3, 4, 5, 6, 7, 8, 9, 10, 11] mxC_X6_0_1_2_3_4_5_6_7_8_9_10_11 rfl [0, 1, 2, 3] rfl mxF_X6_0_1_2_3_4_5_6_7_8_9_10_11 mxM_X6_0_1_2_3_4_5_6_7_8_9_10_11 rfl (Nat.le_of_ble_eq_true rfl) ⟨Nat.zero_le _, Nat.zero_le _⟩ rfl ?_
        refine xi_if_ne (tgt := 45) C dX6_fault_37 (by decide) (fun c11 => ?_) (fun c11 => ?_)
        · have h := ie_i c11 h
          refine xi_aload_n C dX6_fault_45 rfl 0 rfl ?_
          refine xi_bipush (v := 59) C dX6_fault_46 (by decide) ?_
          obtain ⟨⟨v12, sp13⟩, e14, h⟩ := ob_i h
          refine xi_callV (As := [.int 59]) (o := some (.int v12)) (rest := []) (w2 := (wMo o0 ma st ik le sp13 nu8 ++ wAr cI (ma 0) 1898 now ++ wAr cI (ma 1) 1898 thn ++ wAr cI (ma 2) 7592 pst ++ wAr cI (ma 3) 1898 snp ++ wAr cC (ma 4) 80 txt ++ wAr cI (ma 5) 48 hld ++ wAr cI (ma 6) 24 far ++ wAr cZ (ma 7) 72 don ++ wAr cI (ma 8) 96 tld9 ++ wAr cI (ma 9) 24 dep ++ wAr cI (ma 10) 24 bit)) (st2 := [.int v12]) C k_X6_takes (m_X6_takes D cI cC cZ cR o0 ma st ik le sp7 nu8 now thn pst snp txt hld far don tld9 dep bit 59 v12 sp13 e14) gX6_fault_X6_takes dX6_fault_48 ⟨Nat.le_of_ble_eq_true rfl, Nat.le_of_ble_eq_true rfl, Nat.le_of_ble_eq_true rfl⟩ 0 rfl rfl [0, 1, 2, 3, 4, 5, 6, 7, 8, 9, 10, 11] mxC_X6_0_1_2_3_4_5_6_7_8_9_10_11 rfl [0, 1, 2, 3] rfl mxF_X6_0_1_2_3_4_5_6_7_8_9_10_11 mxM_X6_0_1_2_3_4_5_6_7_8_9_10_11 rfl (Nat.le_of_ble_eq_true rfl) ⟨Nat.zero_le _, Nat.zero_le _⟩ rfl ?_
          refine xi_istore_n (lv2 := [(0, .ref o0), (1, .int v12)]) C dX6_fault_51 rfl (by decide) [0] [1, 0] rfl ?_
          refine xi_goto (tgt := 29) C dX6_fault_52 (by decide) ?_
          exact xb_lv (ih v12 sp13 nu8 tld9 h hk) [0, 1] rfl
        · have h := it_i c11 h
          refine xi_aload_n C dX6_fault_40 rfl 0 rfl ?_
          refine xi_get C dX6_fault_41 iw_X6_fault_6 0 rfl rfl 11 (by decide) fl_X6_fault_160 rfl ?_
          have w0 := Option.some.inj h
          obtain ⟨q0, w1⟩ := Prod.mk.inj w0
          obtain ⟨q1, w2⟩ := Prod.mk.inj w1
          obtain ⟨q2, w3⟩ := Prod.mk.inj w2
          subst q0
          subst q1
          subst q2
          subst w3
          exact xi_iret C Z dX6_fault_44
  have lp7 : ∀ (sp_7 : Int32) (nu_7 : Int32) (k : (Nat → Int32) → Option (Int32 × Int32 × Int32 × (Nat → Int32))) (n : Nat) (x1_7 : Int32) (tld_7 : Nat → Int32), f_X6_fault_7 k n x1_7 tld_7 = some (r, sp', nu', tld') → (∀ (tld_7e : Nat → Int32), k tld_7e = some (r, sp', nu', tld') → xb_G X 0 0 (wMo o0 ma st ik le sp_7 nu_7 ++ wAr cI (ma 0) 1898 now ++ wAr cI (ma 1) 1898 thn ++ wAr cI (ma 2) 7592 pst ++ wAr cI (ma 3) 1898 snp ++ wAr cC (ma 4) 80 txt ++ wAr cI (ma 5) 48 hld ++ wAr cI (ma 6) 24 far ++ wAr cZ (ma 7) 72 don ++ wAr cI (ma 8) 96 tld_7e ++ wAr cI (ma 9) 24 dep ++ wAr cI (ma 10) 24 bit) [(0, .ref o0)] 27 []) → xb_G X 0 0 (wMo o0 ma st ik le sp_7 nu_7 ++ wAr cI (ma 0) 1898 now ++ wAr cI (ma 1) 1898 thn ++ wAr cI (ma 2) 7592 pst ++ wAr cI (ma 3) 1898 snp ++ wAr cC (ma 4) 80 txt ++ wAr cI (ma 5) 48 hld ++ wAr cI (ma 6) 24 far ++ wAr cZ (ma 7) 72 don ++ wAr cI (ma 8) 96 tld_7 ++ wAr cI (ma 9) 24 dep ++ wAr cI (ma 10) 24 bit) [(0, .ref o0), (1, .int x1_7)] 7 [] := by
    intro sp_7 nu_7 k n
    induction n with
    | zero => intro x1_7 tld_7 h hk; unfold f_X6_fault_7 at h; cases h
    | succ n ih =>
      intro x1_7 tld_7 h hk
      unfold f_X6_fault_7 at h
      refine xi_iload_n C dX6_fault_7 rfl 1 rfl ?_
      refine xi_bipush (v := 24) C dX6_fault_8 (by decide) ?_
      refine xi_icmp_ge (tgt := 27) C dX6_fault_10 (by decide) (fun c1 => ?_) (fun c1 => ?_)
      · have h := it_i c1 h
        exact xb_lv (hk tld_7 h) [0] rfl
      · have h := ie_i c1 h
        refine xi_aload_n C dX6_fault_13 rfl 0 rfl ?_
        refine xi_get C dX6_fault_14 iw_X6_fault_6 0 rfl rfl 12 (by decide) fl_X6_fault_36 rfl ?_
        refine xi_iload_n C dX6_fault_17 rfl 1 rfl ?_
        refine xi_bipush (v := (-5)) C dX6_fault_18 (by decide) ?_
        obtain ⟨tld3, e2, h⟩ := ob_i h
        refine xi_iast (w2 := (wMo o0 ma st ik le sp_7 nu_7 ++ wAr cI (ma 0) 1898 now ++ wAr cI (ma 1) 1898 thn ++ wAr cI (ma 2) 7592 pst ++ wAr cI (ma 3) 1898 snp ++ wAr cC (ma 4) 80 txt ++ wAr cI (ma 5) 48 hld ++ wAr cI (ma 6) 24 far ++ wAr cZ (ma 7) 72 don ++ wAr cI (ma 8) 96 tld3 ++ wAr cI (ma 9) 24 dep ++ wAr cI (ma 10) 24 bit)) C dX6_fault_20 9 0 rfl rfl e2 rfl ?_
        refine xi_iinc (v := x1_7 + 1) (lv2 := [(0, .ref o0), (1, .int (x1_7 + 1))]) C dX6_fault_21 1 rfl (by rfl) (by decide) [0] [1, 0] rfl ?_
        refine xi_goto (tgt := 7) C dX6_fault_24 (by decide) ?_
        exact xb_lv (ih (x1_7 + 1) tld3 h hk) [0, 1] rfl
  unfold f_X6_fault at h
  refine xi_aload_n C dX6_fault_0 rfl 0 rfl ?_
  refine xi_iconst (v := 0) C dX6_fault_1 (by decide) ?_
  refine xi_put (ty := .int) (w2 := (wMo o0 ma st ik le 0 nu ++ wAr cI (ma 0) 1898 now ++ wAr cI (ma 1) 1898 thn ++ wAr cI (ma 2) 7592 pst ++ wAr cI (ma 3) 1898 snp ++ wAr cC (ma 4) 80 txt ++ wAr cI (ma 5) 48 hld ++ wAr cI (ma 6) 24 far ++ wAr cZ (ma 7) 72 don ++ wAr cI (ma 8) 96 tld ++ wAr cI (ma 9) 24 dep ++ wAr cI (ma 10) 24 bit)) C dX6_fault_2 iw_X6_fault_6 tyX6 tyX6_ok nmX6 0 rfl rfl 11 (by decide) fl_X6_fault_160 rfl (by decide +kernel) (by rfl) (by rfl) (Nat.le_of_ble_eq_true rfl) rfl ?_
  refine xi_iconst (v := 0) C dX6_fault_5 (by decide) ?_
  refine xi_istore_n (lv2 := [(0, .ref o0), (1, .int 0)]) C dX6_fault_6 rfl (by decide) [0] [1, 0] rfl ?_
  refine xb_lv (lp7 0 nu _ xFu 0 tld h (fun tldz4 h => ?_)) [0, 1] rfl
  refine xi_iconst (v := 1) C dX6_fault_27 (by decide) ?_
  refine xi_istore_n (lv2 := [(0, .ref o0), (1, .int 1)]) C dX6_fault_28 rfl (by decide) [0] [1, 0] rfl ?_
  refine xb_lv (lp29 _ xFu 1 0 nu tldz4 h (fun spz15 nuz15 tldz15 h => ?_)) [0, 1] rfl
  refine xi_aload_n C dX6_fault_55 rfl 0 rfl ?_
  refine xi_get C dX6_fault_56 iw_X6_fault_6 0 rfl rfl 11 (by decide) fl_X6_fault_160 rfl ?_
  refine xi_aload_n C dX6_fault_59 rfl 0 rfl ?_
  refine xi_get C dX6_fault_60 iw_X6_fault_6 0 rfl rfl 7 (by decide) fl_X6_fault_157 rfl ?_
  refine xi_icmp_ne (tgt := 71) C dX6_fault_63 (by decide) (fun c16 => ?_) (fun c16 => ?_)
  · have h := ie_i c16 h
    refine xi_aload_n C dX6_fault_71 rfl 0 rfl ?_
    refine xi_get C dX6_fault_72 iw_X6_fault_6 0 rfl rfl 11 (by decide) fl_X6_fault_160 rfl ?_
    have w0 := Option.some.inj h
    obtain ⟨q0, w1⟩ := Prod.mk.inj w0
    obtain ⟨q1, w2⟩ := Prod.mk.inj w1
    obtain ⟨q2, w3⟩ := Prod.mk.inj w2
    subst q0
    subst q1
    subst q2
    subst w3
    exact xi_iret C Z dX6_fault_75
  · have h := it_i c16 h
    refine xi_bipush (v := (-5)) C dX6_fault_66 (by decide) ?_
    refine xi_goto (tgt := 75) C dX6_fault_68 (by decide) ?_
    have w0 := Option.some.inj h
    obtain ⟨q0, w1⟩ := Prod.mk.inj w0
    obtain ⟨q1, w2⟩ := Prod.mk.inj w1
    obtain ⟨q2, w3⟩ := Prod.mk.inj w2
    subst q0
    subst q1
    subst q2
    subst w3
    exact xi_iret C Z dX6_fault_75
