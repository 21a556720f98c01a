def f_X0_copyFrom (T : Nat → Int32) (S : Nat → Int32) (L : Nat → Int32) (J : Nat → Int32) (E : Nat → Int32) (cp : Int32) (su : Int32) (oT : Nat → Int32) (oS : Nat → Int32) (oL : Nat → Int32) (oJ : Nat → Int32) (oE : Nat → Int32) (ocp : Int32) (osu : Int32) : Option ((Nat → Int32) × (Nat → Int32) × (Nat → Int32) × (Nat → Int32) × (Nat → Int32) × Int32 × Int32) :=
  (xr_c oT 24 0 T 24 0 24).bind fun T1 =>
  (xr_c oS 72 0 S 72 0 72).bind fun S3 =>
  (xr_c oL 72 0 L 72 0 72).bind fun L5 =>
  (xr_c oJ 1728 0 J 1728 0 1728).bind fun J7 =>
  (xr_c oE 48 0 E 48 0 48).bind fun E9 =>
  some (T1, S3, L5, J7, E9, ocp, osu)
theorem k_X0_copyFrom : xb_Y yX0_copyFrom cX0_copyFrom wsX0_copyFrom 2 none { frames := 1, cells := 0, slots := 0, locals := 40 } 1 := ⟨⟨_, rfl⟩, by decide, ⟨by decide, by decide, by decide +kernel⟩, rfl, rfl⟩
theorem fl_X0_copyFrom_9 : Cond.fieldLink RX0 9 "LookupBoard$Board" "tables" "[I" ∈ wsX0_copyFrom := List.mem_of_getElem? (i := 1) rfl
theorem fl_X0_copyFrom_15 : Cond.fieldLink RX0 15 "LookupBoard$Board" "sources" "[I" ∈ wsX0_copyFrom := List.mem_of_getElem? (i := 6) rfl
theorem fl_X0_copyFrom_18 : Cond.fieldLink RX0 18 "LookupBoard$Board" "lengths" "[I" ∈ wsX0_copyFrom := List.mem_of_getElem? (i := 7) rfl
theorem fl_X0_copyFrom_21 : Cond.fieldLink RX0 21 "LookupBoard$Board" "junctions" "[I" ∈ wsX0_copyFrom := List.mem_of_getElem? (i := 8) rfl
theorem fl_X0_copyFrom_24 : Cond.fieldLink RX0 24 "LookupBoard$Board" "wiresHeld" "[I" ∈ wsX0_copyFrom := List.mem_of_getElem? (i := 9) rfl
theorem fl_X0_copyFrom_27 : Cond.fieldLink RX0 27 "LookupBoard$Board" "capacity" "I" ∈ wsX0_copyFrom := List.mem_of_getElem? (i := 10) rfl
theorem fl_X0_copyFrom_31 : Cond.fieldLink RX0 31 "LookupBoard$Board" "surcharge" "I" ∈ wsX0_copyFrom := List.mem_of_getElem? (i := 11) rfl
theorem iw_X0_copyFrom_0 : ∀ w ∈ wsX00, w ∈ wsX0_copyFrom := fun w h => List.mem_cons_of_mem _ (List.mem_append_right _ h)
set_option maxHeartbeats 4000000 in
set_option maxRecDepth 100000 in
theorem m_X0_copyFrom (D : va_G) (cI cC cZ cR : ClassId) (b0 b1 b2 b3 b4 b5 : Nat) (g0 g1 g2 g3 g4 g5 : Nat) (T : Nat → Int32) (S : Nat → Int32) (L : Nat → Int32) (J : Nat → Int32) (E : Nat → Int32) (cp : Int32) (su : Int32) (oT : Nat → Int32) (oS : Nat → Int32) (oL : Nat → Int32) (oJ : Nat → Int32) (oE : Nat → Int32) (ocp : Int32) (osu : Int32) (T' : Nat → Int32) (S' : Nat → Int32) (L' : Nat → Int32) (J' : Nat → Int32) (E' : Nat → Int32) (cp' : Int32) (su' : Int32) (h : f_X0_copyFrom T S L J E cp su oT oS oL oJ oE ocp osu = some (T', S', L', J', E', cp', su')) : xb_M cX0_copyFrom wsX0_copyFrom RX0 { frames := 1, cells := 0, slots := 0, locals := 40 } none 2 (xb_ty cI cC cZ cR) D [.ref b0, .ref g0] (wBd cI b0 b1 b2 b3 b4 b5 T S L J E cp su ++ wBd cI g0 g1 g2 g3 g4 g5 oT oS oL oJ oE ocp osu) none (wBd cI b0 b1 b2 b3 b4 b5 T' S' L' J' E' cp' su' ++ wBd cI g0 g1 g2 g3 g4 g5 oT oS oL oJ oE ocp osu) := by
  intro X C Z
  show xb_G X 0 0 (wBd cI b0 b1 b2 b3 b4 b5 T S L J E cp su ++ wBd cI g0 g1 g2 g3 g4 g5 oT oS oL oJ oE ocp osu) [(0, .ref b0), (1, .ref g0)] 0 []
  unfold f_X0_copyFrom at h
  refine xi_aload_n C dX0_copyFrom_0 rfl 1 rfl ?_
  refine xi_get C dX0_copyFrom_1 iw_X0_copyFrom_0 6 rfl rfl 0 (by decide) fl_X0_copyFrom_9 rfl ?_
  refine xi_iconst (v := 0) C dX0_copyFrom_4 (by decide) ?_
  refine xi_aload_n C dX0_copyFrom_5 rfl 0 rfl ?_
  refine xi_get C dX0_copyFrom_6 iw_X0_copyFrom_0 0 rfl rfl 0 (by decide) fl_X0_copyFrom_9 rfl ?_
  refine xi_iconst (v := 0) C dX0_copyFrom_9 (by decide) ?_
  refine xi_bipush (v := 24) C dX0_copyFrom_10 (by decide) ?_
  obtain ⟨T1, e2, h⟩ := ob_i h
  refine xi_copy (w2 := (wBd cI b0 b1 b2 b3 b4 b5 T1 S L J E cp su ++ wBd cI g0 g1 g2 g3 g4 g5 oT oS oL oJ oE ocp osu)) C dX0_copyFrom_12 (List.mem_of_getElem? (i := 2) rfl) (List.mem_of_getElem? (i := 3) rfl) (List.mem_of_getElem? (i := 4) rfl) (List.mem_of_getElem? (i := 5) rfl) 7 1 0 rfl rfl rfl e2 (Nat.le_of_ble_eq_true rfl) (Nat.le_of_ble_eq_true rfl) rfl ?_
  refine xi_aload_n C dX0_copyFrom_15 rfl 1 rfl ?_
  refine xi_get C dX0_copyFrom_16 iw_X0_copyFrom_0 6 rfl rfl 1 (by decide) fl_X0_copyFrom_15 rfl ?_
  refine xi_iconst (v := 0) C dX0_copyFrom_19 (by decide) ?_
  refine xi_aload_n C dX0_copyFrom_20 rfl 0 rfl ?_
  refine xi_get C dX0_copyFrom_21 iw_X0_copyFrom_0 0 rfl rfl 1 (by decide) fl_X0_copyFrom_15 rfl ?_
  refine xi_iconst (v := 0) C dX0_copyFrom_24 (by decide) ?_
  refine xi_bipush (v := 72) C dX0_copyFrom_25 (by decide) ?_
  obtain ⟨S3, e4, h⟩ := ob_i h
  refine xi_copy (w2 := (wBd cI b0 b1 b2 b3 b4 b5 T1 S3 L J E cp su ++ wBd cI g0 g1 g2 g3 g4 g5 oT oS oL oJ oE ocp osu)) C dX0_copyFrom_27 (List.mem_of_getElem? (i := 2) rfl) (List.mem_of_getElem? (i := 3) rfl) (List.mem_of_getElem? (i := 4) rfl) (List.mem_of_getElem? (i := 5) rfl) 8 2 0 rfl rfl rfl e4 (Nat.le_of_ble_eq_true rfl) (Nat.le_of_ble_eq_true rfl) rfl ?_
  refine xi_aload_n C dX0_copyFrom_30 rfl 1 rfl ?_
  refine xi_get C dX0_copyFrom_31 iw_X0_copyFrom_0 6 rfl rfl 2 (by decide) fl_X0_copyFrom_18 rfl ?_
  refine xi_iconst (v := 0) C dX0_copyFrom_34 (by decide) ?_
  refine xi_aload_n C dX0_copyFrom_35 rfl 0 rfl ?_
  refine xi_get C dX0_copyFrom_36 iw_X0_copyFrom_0 0 rfl rfl 2 (by decide) fl_X0_copyFrom_18 rfl ?_
  refine xi_iconst (v := 0) C dX0_copyFrom_39 (by decide) ?_
  refine xi_bipush (v := 72) C dX0_copyFrom_40 (by decide) ?_
  obtain ⟨L5, e6, h⟩ := ob_i h
  refine xi_copy (w2 := (wBd cI b0 b1 b2 b3 b4 b5 T1 S3 L5 J E cp su ++ wBd cI g0 g1 g2 g3 g4 g5 oT oS oL oJ oE ocp osu)) C dX0_copyFrom_42 (List.mem_of_getElem? (i := 2) rfl) (List.mem_of_getElem? (i := 3) rfl) (List.mem_of_getElem? (i := 4) rfl) (List.mem_of_getElem? (i := 5) rfl) 9 3 0 rfl rfl rfl e6 (Nat.le_of_ble_eq_true rfl) (Nat.le_of_ble_eq_true rfl) rfl ?_
  refine xi_aload_n C dX0_copyFrom_45 rfl 1 rfl ?_
  refine xi_get C dX0_copyFrom_46 iw_X0_copyFrom_0 6 rfl rfl 3 (by decide) fl_X0_copyFrom_21 rfl ?_
  refine xi_iconst (v := 0) C dX0_copyFrom_49 (by decide) ?_
  refine xi_aload_n C dX0_copyFrom_50 rfl 0 rfl ?_
  refine xi_get C dX0_copyFrom_51 iw_X0_copyFrom_0 0 rfl rfl 3 (by decide) fl_X0_copyFrom_21 rfl ?_
  refine xi_iconst (v := 0) C dX0_copyFrom_54 (by decide) ?_
  refine xi_sipush (v := 1728) C dX0_copyFrom_55 (by decide) ?_
  obtain ⟨J7, e8, h⟩ := ob_i h
  refine xi_copy (w2 := (wBd cI b0 b1 b2 b3 b4 b5 T1 S3 L5 J7 E cp su ++ wBd cI g0 g1 g2 g3 g4 g5 oT oS oL oJ oE ocp osu)) C dX0_copyFrom_58 (List.mem_of_getElem? (i := 2) rfl) (List.mem_of_getElem? (i := 3) rfl) (List.mem_of_getElem? (i := 4) rfl) (List.mem_of_getElem? (i := 5) rfl) 10 4 0 rfl rfl rfl e8 (Nat.le_of_ble_eq_true rfl) (Nat.le_of_ble_eq_true rfl) rfl ?_
  refine xi_aload_n C dX0_copyFrom_61 rfl 1 rfl ?_
  refine xi_get C dX0_copyFrom_62 iw_X0_copyFrom_0 6 rfl rfl 4 (by decide) fl_X0_copyFrom_24 rfl ?_
  refine xi_iconst (v := 0) C dX0_copyFrom_65 (by decide) ?_
  refine xi_aload_n C dX0_copyFrom_66 rfl 0 rfl ?_
  refine xi_get C dX0_copyFrom_67 iw_X0_copyFrom_0 0 rfl rfl 4 (by decide) fl_X0_copyFrom_24 rfl ?_
  refine xi_iconst (v := 0) C dX0_copyFrom_70 (by decide) ?_
  refine xi_bipush (v := 48) C dX0_copyFrom_71 (by decide) ?_
  obtain ⟨E9, e10, h⟩ := ob_i h
  refine xi_copy (w2 := (wBd cI b0 b1 b2 b3 b4 b5 T1 S3 L5 J7 E9 cp su ++ wBd cI g0 g1 g2 g3 g4 g5 oT oS oL oJ oE ocp osu)) C dX0_copyFrom_73 (List.mem_of_getElem? (i := 2) rfl) (List.mem_of_getElem? (i := 3) rfl) (List.mem_of_getElem? (i := 4) rfl) (List.mem_of_getElem? (i := 5) rfl) 11 5 0 rfl rfl rfl e10 (Nat.le_of_ble_eq_true rfl) (Nat.le_of_ble_eq_true rfl) rfl ?_
  refine xi_aload_n C dX0_copyFrom_76 rfl 0 rfl ?_
  refine xi_aload_n C dX0_copyFrom_77 rfl 1 rfl ?_
  refine xi_get C dX0_copyFrom_78 iw_X0_copyFrom_0 6 rfl rfl 5 (by decide) fl_X0_copyFrom_27 rfl ?_
  refine xi_put (ty := .int) (w2 := (wBd cI b0 b1 b2 b3 b4 b5 T1 S3 L5 J7 E9 ocp su ++ wBd cI g0 g1 g2 g3 g4 g5 oT oS oL oJ oE ocp osu)) C dX0_copyFrom_81 iw_X0_copyFrom_0 tyX0 tyX0_ok nmX0 0 rfl rfl 5 (by decide) fl_X0_copyFrom_27 rfl (by decide +kernel) (by rfl) (by rfl) (Nat.le_of_ble_eq_true rfl) rfl ?_
  refine xi_aload_n C dX0_copyFrom_84 rfl 0 rfl ?_
  refine xi_aload_n C dX0_copyFrom_85 rfl 1 rfl ?_
  refine xi_get C dX0_copyFrom_86 iw_X0_copyFrom_0 6 rfl rfl 6 (by decide) fl_X0_copyFrom_31 rfl ?_
  refine xi_put (ty := .int) (w2 := (wBd cI b0 b1 b2 b3 b4 b5 T1 S3 L5 J7 E9 ocp osu ++ wBd cI g0 g1 g2 g3 g4 g5 oT oS oL oJ oE ocp osu)) C dX0_copyFrom_89 iw_X0_copyFrom_0 tyX0 tyX0_ok nmX0 0 rfl rfl 6 (by decide) fl_X0_copyFrom_31 rfl (by decide +kernel) (by rfl) (by rfl) (Nat.le_of_ble_eq_true rfl) rfl ?_
  have w0 := Option.some.inj h
  obtain ⟨q0, w1⟩ := Prod.mk.inj w0
  obtain ⟨q1, w2⟩ := Prod.mk.inj w1
  obtain ⟨q2, w3⟩ := Prod.mk.inj w2
  obtain ⟨q3, w4⟩ := Prod.mk.inj w3
  obtain ⟨q4, w5⟩ := Prod.mk.inj w4
  obtain ⟨q5, w6⟩ := Prod.mk.inj w5
  subst q0
  subst q1
  subst q2
  subst q3
  subst q4
  subst q5
  subst w6
  exact xi_ret C Z dX0_copyFrom_92
def f_X5_isPlace (p0 : Int32) : Option (Int32) :=
  if p0 < 0 then
    some 0
  else
    if 24 ≤ p0 then
      some 0
    else
      some 1
theorem k_X5_isPlace : xb_Y yX5_isPlace cX5_isPlace wsX5_isPlace 1 (some .boolean) { frames := 0, cells := 0, slots := 0, locals := 0 } 1 := ⟨⟨_, rfl⟩, by decide, ⟨by decide, by decide, by decide +kernel⟩, rfl, rfl⟩
set_option maxHeartbeats 4000000 in
set_option maxRecDepth 100000 in
theorem m_X5_isPlace (D : va_G) (cI cC cZ cR : ClassId) (p0 : Int32) (r : Int32) (h : f_X5_isPlace p0 = some r) : xb_M cX5_isPlace wsX5_isPlace RX5 { frames := 0, cells := 0, slots := 0, locals := 0 } (some .boolean) 1 (xb_ty cI cC cZ cR) D [.int p0] ([] : va_W) (some (.int r)) ([] : va_W) := by
  intro X C Z
  show xb_G X 0 0 ([] : va_W) [(0, .int p0)] 0 []
  unfold f_X5_isPlace at h
  refine xi_iload_n C dX5_isPlace_0 rfl 0 rfl ?_
  refine xi_if_lt (tgt := 14) C dX5_isPlace_1 (by decide) (fun c1 => ?_) (fun c1 => ?_)
  · have h := it_i c1 h
    refine xi_iconst (v := 0) C dX5_isPlace_14 (by decide) ?_
    have w0 := Option.some.inj h
    subst w0
    exact xi_zret C Z dX5_isPlace_15 xb_nz0
  · have h := ie_i c1 h
    refine xi_iload_n C dX5_isPlace_4 rfl 0 rfl ?_
    refine xi_bipush (v := 24) C dX5_isPlace_5 (by decide) ?_
    refine xi_icmp_ge (tgt := 14) C dX5_isPlace_7 (by decide) (fun c2 => ?_) (fun c2 => ?_)
    · have h := it_i c2 h
      refine xi_iconst (v := 0) C dX5_isPlace_14 (by decide) ?_
      have w0 := Option.some.inj h
      subst w0
      exact xi_zret C Z dX5_isPlace_15 xb_nz0
    · have h := ie_i c2 h
      refine xi_iconst (v := 1) C dX5_isPlace_10 (by decide) ?_
      refine xi_goto (tgt := 15) C dX5_isPlace_11 (by decide) ?_
      have w0 := Option.some.inj h
      subst w0
      exact xi_zret C Z dX5_isPlace_15 xb_nz1
def f_X0_hasCell (T : Nat → Int32) (p1 : Int32) : Option (Int32) :=
  (f_X5_isPlace p1).bind fun v1 =>
  if v1 = 0 then
    some 0
  else
    (xr_d T 24 p1).bind fun v4 =>
    if v4 = (-1) then
      some 0
    else
      some 1
theorem k_X0_hasCell : xb_Y yX0_hasCell cX0_hasCell wsX0_hasCell 2 (some .boolean) { frames := 1, cells := 0, slots := 0, locals := 20 } 1 := ⟨⟨_, rfl⟩, by decide, ⟨by decide, by decide, by decide +kernel⟩, rfl, rfl⟩
theorem fl_X0_hasCell_9 : Cond.fieldLink RX0 9 "LookupBoard$Board" "tables" "[I" ∈ wsX0_hasCell := List.mem_of_getElem? (i := 1) rfl
theorem iw_X0_hasCell_0 : ∀ w ∈ wsX00, w ∈ wsX0_hasCell := fun w h => List.mem_cons_of_mem _ (List.mem_append_right _ h)
set_option maxHeartbeats 4000000 in
set_option maxRecDepth 100000 in
theorem m_X0_hasCell (D : va_G) (cI cC cZ cR : ClassId) (b0 b1 b2 b3 b4 b5 : Nat) (T : Nat → Int32) (S : Nat → Int32) (L : Nat → Int32) (J : Nat → Int32) (E : Nat → Int32) (cp : Int32) (su : Int32) (p1 : Int32) (r : Int32) (h : f_X0_hasCell T p1 = some r) : xb_M cX0_hasCell wsX0_hasCell RX0 { frames := 1, cells := 0, slots := 0, locals := 20 } (some .boolean) 2 (xb_ty cI cC cZ cR) D [.ref b0, .int p1] (wBd cI b0 b1 b2 b3 b4 b5 T S L J E cp su) (some (.int r)) (wBd cI b0 b1 b2 b3 b4 b5 T S L J E cp su) := by
  intro X C Z
  show xb_G X 0 0 (wBd cI b0 b1 b2 b3 b4 b5 T S L J E cp su) [(0, .ref b0), (1, .int p1)] 0 []
  unfold f_X0_hasCell at h
  refine xi_iload_n C dX0_hasCell_0 rfl 1 rfl ?_
  obtain ⟨v1, e2, h⟩ := ob_i h
  refine xi_callSN (As := [.int p1]) (o := some (.int v1)) (rest := []) (w2 := (wBd cI b0 b1 b2 b3 b4 b5 T S L J E cp su)) (st2 := [.int v1]) C k_X5_isPlace (m_X5_isPlace D cI cC cZ cR p1 v1 e2) gX0_hasCell_X5_isPlace_n46 (List.mem_of_getElem? (i := 3) rfl) (List.mem_of_getElem? (i := 3) rfl) (List.mem_of_getElem? (i := 2) rfl) dX0_hasCell_1 ⟨Nat.le_of_ble_eq_true rfl, Nat.le_of_ble_eq_true rfl, Nat.le_of_ble_eq_true rfl⟩ [] rfl rfl [0, 1, 2, 3] rfl rfl rfl rfl (Nat.le_of_ble_eq_true rfl) ⟨Nat.zero_le _, Nat.zero_le _⟩ rfl ?_
  refine xi_if_eq (tgt := 21) C dX0_hasCell_4 (by decide) (fun c3 => ?_) (fun c3 => ?_)
  · have h := it_i c3 h
    refine xi_iconst (v := 0) C dX0_hasCell_21 (by decide) ?_
    have w0 := Option.some.inj h
    subst w0
    exact xi_zret C Z dX0_hasCell_22 xb_nz0
  · have h := ie_i c3 h
    refine xi_aload_n C dX0_hasCell_7 rfl 0 rfl ?_
    refine xi_get C dX0_hasCell_8 iw_X0_hasCell_0 0 rfl rfl 0 (by decide) fl_X0_hasCell_9 rfl ?_
    refine xi_iload_n C dX0_hasCell_11 rfl 1 rfl ?_
    obtain ⟨v4, e5, h⟩ := ob_i h
    refine xi_iald C dX0_hasCell_12 1 0 rfl rfl e5 ?_
    refine xi_iconst (v := (-1)) C dX0_hasCell_13 (by decide) ?_
    refine xi_icmp_eq (tgt := 21) C dX0_hasCell_14 (by decide) (fun c6 => ?_) (fun c6 => ?_)
    · have h := it_i c6 h
      refine xi_iconst (v := 0) C dX0_hasCell_21 (by decide) ?_
      have w0 := Option.some.inj h
      subst w0
      exact xi_zret C Z dX0_hasCell_22 xb_nz0
    · have h := ie_i c6 h
      refine xi_iconst (v := 1) C dX0_hasCell_17 (by decide) ?_
      refine xi_goto (tgt := 22) C dX0_hasCell_18 (by decide) ?_
      have w0 := Option.some.inj h
      subst w0
      exact xi_zret C Z dX0_hasCell_22 xb_nz1
def f_X0_tableOf (T : Nat → Int32) (p1 : Int32) : Option (Int32) :=
  (f_X5_isPlace p1).bind fun v1 =>
  if v1 = 0 then
    some (-1)
  else
    (xr_d T 24 p1).bind fun v4 =>
    some v4
theorem k_X0_tableOf : xb_Y yX0_tableOf cX0_tableOf wsX0_tableOf 2 (some .int) { frames := 1, cells := 0, slots := 0, locals := 20 } 1 := ⟨⟨_, rfl⟩, by decide, ⟨by decide, by decide, by decide +kernel⟩, rfl, rfl⟩
theorem fl_X0_tableOf_9 : Cond.fieldLink RX0 9 "LookupBoard$Board" "tables" "[I" ∈ wsX0_tableOf := List.mem_of_getElem? (i := 1) rfl
theorem iw_X0_tableOf_0 : ∀ w ∈ wsX00, w ∈ wsX0_tableOf := fun w h => List.mem_cons_of_mem _ (List.mem_append_right _ h)
set_option maxHeartbeats 4000000 in
set_option maxRecDepth 100000 in
theorem m_X0_tableOf (D : va_G) (cI cC cZ cR : ClassId) (b0 b1 b2 b3 b4 b5 : Nat) (T : Nat → Int32) (S : Nat → Int32) (L : Nat → Int32) (J : Nat → Int32) (E : Nat → Int32) (cp : Int32) (su : Int32) (p1 : Int32) (r : Int32) (h : f_X0_tableOf T p1 = some r) : xb_M cX0_tableOf wsX0_tableOf RX0 { frames := 1, cells := 0, slots := 0, locals := 20 } (some .int) 2 (xb_ty cI cC cZ cR) D [.ref b0, .int p1] (wBd cI b0 b1 b2 b3 b4 b5 T S L J E cp su) (some (.int r)) (wBd cI b0 b1 b2 b3 b4 b5 T S L J E cp su) := by
  intro X C Z
  show xb_G X 0 0 (wBd cI b0 b1 b2 b3 b4 b5 T S L J E cp su) [(0, .ref b0), (1, .int p1)] 0 []
  unfold f_X0_tableOf at h
  refine xi_iload_n C dX0_tableOf_0 rfl 1 rfl ?_
  obtain ⟨v1, e2, h⟩ := ob_i h
  refine xi_callSN (As := [.int p1]) (o := some (.int v1)) (rest := []) (w2 := (wBd cI b0 b1 b2 b3 b4 b5 T S L J E cp su)) (st2 := [.int v1]) C k_X5_isPlace (m_X5_isPlace D cI cC cZ cR p1 v1 e2) gX0_tableOf_X5_isPlace_n46 (List.mem_of_getElem? (i := 3) rfl) (List.mem_of_getElem? (i := 3) rfl) (List.mem_of_getElem? (i := 2) rfl) dX0_tableOf_1 ⟨Nat.le_of_ble_eq_true rfl, Nat.le_of_ble_eq_true rfl, Nat.le_of_ble_eq_true rfl⟩ [] rfl rfl [0, 1, 2, 3] rfl rfl rfl rfl (Nat.le_of_ble_eq_true rfl) ⟨Nat.zero_le _, Nat.zero_le _⟩ rfl ?_
  refine xi_if_eq (tgt := 16) C dX0_tableOf_4 (by decide) (fun c3 => ?_) (fun c3 => ?_)
  · have h := it_i c3 h
    refine xi_iconst (v := (-1)) C dX0_tableOf_16 (by decide) ?_
    have w0 := Option.some.inj h
    subst w0
    exact xi_iret C Z dX0_tableOf_17
  · have h := ie_i c3 h
    refine xi_aload_n C dX0_tableOf_7 rfl 0 rfl ?_
    refine xi_get C dX0_tableOf_8 iw_X0_tableOf_0 0 rfl rfl 0 (by decide) fl_X0_tableOf_9 rfl ?_
    refine xi_iload_n C dX0_tableOf_11 rfl 1 rfl ?_
    obtain ⟨v4, e5, h⟩ := ob_i h
    refine xi_iald C dX0_tableOf_12 1 0 rfl rfl e5 ?_
    refine xi_goto (tgt := 17) C dX0_tableOf_13 (by decide) ?_
    have w0 := Option.some.inj h
    subst w0
    exact xi_iret C Z dX0_tableOf_17
def f_X0_changeTable (T : Nat → Int32) (p1 : Int32) (p2 : Int32) : Option ((Nat → Int32)) :=
  (f_X5_isPlace p1).bind fun v1 =>
  if v1 = 0 then
    some T
  else
    (xr_w T 24 p1 p2).bind fun T5 =>
    some T5
theorem k_X0_changeTable : xb_Y yX0_changeTable cX0_changeTable wsX0_changeTable 3 none { frames := 1, cells := 0, slots := 0, locals := 20 } 2 := ⟨⟨_, rfl⟩, by decide, ⟨by decide, by decide, by decide +kernel⟩, rfl, rfl⟩
theorem fl_X0_changeTable_9 : Cond.fieldLink RX0 9 "LookupBoard$Board" "tables" "[I" ∈ wsX0_changeTable := List.mem_of_getElem? (i := 1) rfl
theorem iw_X0_changeTable_0 : ∀ w ∈ wsX00, w ∈ wsX0_changeTable := fun w h => List.mem_cons_of_mem _ (List.mem_append_right _ h)
set_option maxHeartbeats 4000000 in
set_option maxRecDepth 100000 in
theorem m_X0_changeTable (D : va_G) (cI cC cZ cR : ClassId) (b0 b1 b2 b3 b4 b5 : Nat) (T : Nat → Int32) (S : Nat → Int32) (L : Nat → Int32) (J : Nat → Int32) (E : Nat → Int32) (cp : Int32) (su : Int32) (p1 : Int32) (p2 : Int32) (T' : Nat → Int32) (h : f_X0_changeTable T p1 p2 = some T') : xb_M cX0_changeTable wsX0_changeTable RX0 { frames := 1, cells := 0, slots := 0, locals := 20 } none 3 (xb_ty cI cC cZ cR) D [.ref b0, .int p1, .int p2] (wBd cI b0 b1 b2 b3 b4 b5 T S L J E cp su) none (wBd cI b0 b1 b2 b3 b4 b5 T' S L J E cp su) := by
  intro X C Z
  show xb_G X 0 0 (wBd cI b0 b1 b2 b3 b4 b5 T S L J E cp su) [(0, .ref b0), (1, .int p1), (2, .int p2)] 0 []
  unfold f_X0_changeTable at h
  refine xi_iload_n C dX0_changeTable_0 rfl 1 rfl ?_
  obtain ⟨v1, e2, h⟩ := ob_i h
  refine xi_callSN (As := [.int p1]) (o := some (.int v1)) (rest := []) (w2 := (wBd cI b0 b1 b2 b3 b4 b5 T S L J E cp su)) (st2 := [.int v1]) C k_X5_isPlace (m_X5_isPlace D cI cC cZ cR p1 v1 e2) gX0_changeTable_X5_isPlace_n46 (List.mem_of_getElem? (i := 3) rfl) (List.mem_of_getElem? (i := 3) rfl) (List.mem_of_getElem? (i := 2) rfl) dX0_changeTable_1 ⟨Nat.le_of_ble_eq_true rfl, Nat.le_of_ble_eq_true rfl, Nat.le_of_ble_eq_true rfl⟩ [] rfl rfl [0, 1, 2, 3] rfl rfl rfl rfl (Nat.le_of_ble_eq_true rfl) ⟨Nat.zero_le _, Nat.zero_le _⟩ rfl ?_
  refine xi_if_eq (tgt := 14) C dX0_changeTable_4 (by decide) (fun c3 => ?_) (fun c3 => ?_)
  · have h := it_i c3 h
    have w0 := Option.some.inj h
    subst w0
    exact xi_ret C Z dX0_changeTable_14
  · have h := ie_i c3 h
    refine xi_aload_n C dX0_changeTable_7 rfl 0 rfl ?_
    refine xi_get C dX0_changeTable_8 iw_X0_changeTable_0 0 rfl rfl 0 (by decide) fl_X0_changeTable_9 rfl ?_
    refine xi_iload_n C dX0_changeTable_11 rfl 1 rfl ?_
    refine xi_iload_n C dX0_changeTable_12 rfl 2 rfl ?_
    obtain ⟨T5, e4, h⟩ := ob_i h
    refine xi_iast (w2 := (wBd cI b0 b1 b2 b3 b4 b5 T5 S L J E cp su)) C dX0_changeTable_13 1 0 rfl rfl e4 rfl ?_
    have w0 := Option.some.inj h
    subst w0
    exact xi_ret C Z dX0_changeTable_14
def f_X5_isWire (p0 : Int32) : Option (Int32) :=
  if p0 < 0 then
    some 0
  else
    if 72 ≤ p0 then
      some 0
    else
      some 1
theorem k_X5_isWire : xb_Y yX5_isWire cX5_isWire wsX5_isWire 1 (some .boolean) { frames := 0, cells := 0, slots := 0, locals := 0 } 1 := ⟨⟨_, rfl⟩, by decide, ⟨by decide, by decide, by decide +kernel⟩, rfl, rfl⟩
set_option maxHeartbeats 4000000 in
set_option maxRecDepth 100000 in
theorem m_X5_isWire (D : va_G) (cI cC cZ cR : ClassId) (p0 : Int32) (r : Int32) (h : f_X5_isWire p0 = some r) : xb_M cX5_isWire wsX5_isWire RX5 { frames := 0, cells := 0, slots := 0, locals := 0 } (some .boolean) 1 (xb_ty cI cC cZ cR) D [.int p0] ([] : va_W) (some (.int r)) ([] : va_W) := by
  intro X C Z
  show xb_G X 0 0 ([] : va_W) [(0, .int p0)] 0 []
  unfold f_X5_isWire at h
  refine xi_iload_n C dX5_isWire_0 rfl 0 rfl ?_
  refine xi_if_lt (tgt := 14) C dX5_isWire_1 (by decide) (fun c1 => ?_) (fun c1 => ?_)
  · have h := it_i c1 h
    refine xi_iconst (v := 0) C dX5_isWire_14 (by decide) ?_
    have w0 := Option.some.inj h
    subst w0
    exact xi_zret C Z dX5_isWire_15 xb_nz0
  · have h := ie_i c1 h
    refine xi_iload_n C dX5_isWire_4 rfl 0 rfl ?_
    refine xi_bipush (v := 72) C dX5_isWire_5 (by decide) ?_
    refine xi_icmp_ge (tgt := 14) C dX5_isWire_7 (by decide) (fun c2 => ?_) (fun c2 => ?_)
    · have h := it_i c2 h
      refine xi_iconst (v := 0) C dX5_isWire_14 (by decide) ?_
      have w0 := Option.some.inj h
      subst w0
      exact xi_zret C Z dX5_isWire_15 xb_nz0
    · have h := ie_i c2 h
      refine xi_iconst (v := 1) C dX5_isWire_10 (by decide) ?_
      refine xi_goto (tgt := 15) C dX5_isWire_11 (by decide) ?_
      have w0 := Option.some.inj h
      subst w0
      exact xi_zret C Z dX5_isWire_15 xb_nz1
def f_X0_sourceOf (S : Nat → Int32) (p1 : Int32) : Option (Int32) :=
  (f_X5_isWire p1).bind fun v1 =>
  if v1 = 0 then
    some 32
  else
    (xr_d S 72 p1).bind fun v4 =>
    some v4
theorem k_X0_sourceOf : xb_Y yX0_sourceOf cX0_sourceOf wsX0_sourceOf 2 (some .int) { frames := 1, cells := 0, slots := 0, locals := 20 } 1 := ⟨⟨_, rfl⟩, by decide, ⟨by decide, by decide, by decide +kernel⟩, rfl, rfl⟩
theorem fl_X0_sourceOf_15 : Cond.fieldLink RX0 15 "LookupBoard$Board" "sources" "[I" ∈ wsX0_sourceOf := List.mem_of_getElem? (i := 1) rfl
theorem iw_X0_sourceOf_0 : ∀ w ∈ wsX00, w ∈ wsX0_sourceOf := fun w h => List.mem_cons_of_mem _ (List.mem_append_right _ h)
set_option maxHeartbeats 4000000 in
set_option maxRecDepth 100000 in
theorem m_X0_sourceOf (D : va_G) (cI cC cZ cR : ClassId) (b0 b1 b2 b3 b4 b5 : Nat) (T : Nat → Int32) (S : Nat → Int32) (L : Nat → Int32) (J : Nat → Int32) (E : Nat → Int32) (cp : Int32) (su : Int32) (p1 : Int32) (r : Int32) (h : f_X0_sourceOf S p1 = some r) : xb_M cX0_sourceOf wsX0_sourceOf RX0 { frames := 1, cells := 0, slots := 0, locals := 20 } (some .int) 2 (xb_ty cI cC cZ cR) D [.ref b0, .int p1] (wBd cI b0 b1 b2 b3 b4 b5 T S L J E cp su) (some (.int r)) (wBd cI b0 b1 b2 b3 b4 b5 T S L J E cp su) := by
  intro X C Z
  show xb_G X 0 0 (wBd cI b0 b1 b2 b3 b4 b5 T S L J E cp su) [(0, .ref b0), (1, .int p1)] 0 []
  unfold f_X0_sourceOf at h
  refine xi_iload_n C dX0_sourceOf_0 rfl 1 rfl ?_
  obtain ⟨v1, e2, h⟩ := ob_i h
  refine xi_callSN (As := [.int p1]) (o := some (.int v1)) (rest := []) (w2 := (wBd cI b0 b1 b2 b3 b4 b5 T S L J E cp su)) (st2 := [.int v1]) C k_X5_isWire (m_X5_isWire D cI cC cZ cR p1 v1 e2) gX0_sourceOf_X5_isWire_n50 (List.mem_of_getElem? (i := 4) rfl) (List.mem_of_getElem? (i := 3) rfl) (List.mem_of_getElem? (i := 2) rfl) dX0_sourceOf_1 ⟨Nat.le_of_ble_eq_true rfl, Nat.le_of_ble_eq_true rfl, Nat.le_of_ble_eq_true rfl⟩ [] rfl rfl [0, 1, 2, 3] rfl rfl rfl rfl (Nat.le_of_ble_eq_true rfl) ⟨Nat.zero_le _, Nat.zero_le _⟩ rfl ?_
  refine xi_if_eq (tgt := 16) C dX0_sourceOf_4 (by decide) (fun c3 => ?_) (fun c3 => ?_)
  · have h := it_i c3 h
    refine xi_bipush (v := 32) C dX0_sourceOf_16 (by decide) ?_
    have w0 := Option.some.inj h
    subst w0
    exact xi_iret C Z dX0_sourceOf_18
  · have h := ie_i c3 h
    refine xi_aload_n C dX0_sourceOf_7 rfl 0 rfl ?_
    refine xi_get C dX0_sourceOf_8 iw_X0_sourceOf_0 0 rfl rfl 1 (by decide) fl_X0_sourceOf_15 rfl ?_
    refine xi_iload_n C dX0_sourceOf_11 rfl 1 rfl ?_
    obtain ⟨v4, e5, h⟩ := ob_i h
    refine xi_iald C dX0_sourceOf_12 2 0 rfl rfl e5 ?_
    refine xi_goto (tgt := 18) C dX0_sourceOf_13 (by decide) ?_
    have w0 := Option.some.inj h
    subst w0
    exact xi_iret C Z dX0_sourceOf_18
def f_X0_changeSource (S : Nat → Int32) (p1 : Int32) (p2 : Int32) : Option ((Nat → Int32)) :=
  (f_X5_isWire p1).bind fun v1 =>
  if v1 = 0 then
    some S
  else
    (xr_w S 72 p1 p2).bind fun S5 =>
    some S5
theorem k_X0_changeSource : xb_Y yX0_changeSource cX0_changeSource wsX0_changeSource 3 none { frames := 1, cells := 0, slots := 0, locals := 20 } 2 := ⟨⟨_, rfl⟩, by decide, ⟨by decide, by decide, by decide +kernel⟩, rfl, rfl⟩
theorem fl_X0_changeSource_15 : Cond.fieldLink RX0 15 "LookupBoard$Board" "sources" "[I" ∈ wsX0_changeSource := List.mem_of_getElem? (i := 1) rfl
theorem iw_X0_changeSource_0 : ∀ w ∈ wsX00, w ∈ wsX0_changeSource := fun w h => List.mem_cons_of_mem _ (List.mem_append_right _ h)
set_option maxHeartbeats 4000000 in
set_option maxRecDepth 100000 in
theorem m_X0_changeSource (D : va_G) (cI cC cZ cR : ClassId) (b0 b1 b2 b3 b4 b5 : Nat) (T : Nat → Int32) (S : Nat → Int32) (L : Nat → Int32) (J : Nat → Int32) (E : Nat → Int32) (cp : Int32) (su : Int32) (p1 : Int32) (p2 : Int32) (S' : Nat → Int32) (h : f_X0_changeSource S p1 p2 = some S') : xb_M cX0_changeSource wsX0_changeSource RX0 { frames := 1, cells := 0, slots := 0, locals := 20 } none 3 (xb_ty cI cC cZ cR) D [.ref b0, .int p1, .int p2] (wBd cI b0 b1 b2 b3 b4 b5 T S L J E cp su) none (wBd cI b0 b1 b2 b3 b4 b5 T S' L J E cp su) := by
  intro X C Z
  show xb_G X 0 0 (wBd cI b0 b1 b2 b3 b4 b5 T S L J E cp su) [(0, .ref b0), (1, .int p1), (2, .int p2)] 0 []
  unfold f_X0_changeSource at h
  refine xi_iload_n C dX0_changeSource_0 rfl 1 rfl ?_
  obtain ⟨v1, e2, h⟩ := ob_i h
  refine xi_callSN (As := [.int p1]) (o := some (.int v1)) (rest := []) (w2 := (wBd cI b0 b1 b2 b3 b4 b5 T S L J E cp su)) (st2 := [.int v1]) C k_X5_isWire (m_X5_isWire D cI cC cZ cR p1 v1 e2) gX0_changeSource_X5_isWire_n50 (List.mem_of_getElem? (i := 4) rfl) (List.mem_of_getElem? (i := 3) rfl) (List.mem_of_getElem? (i := 2) rfl) dX0_changeSource_1 ⟨Nat.le_of_ble_eq_true rfl, Nat.le_of_ble_eq_true rfl, Nat.le_of_ble_eq_true rfl⟩ [] rfl rfl [0, 1, 2, 3] rfl rfl rfl rfl (Nat.le_of_ble_eq_true rfl) ⟨Nat.zero_le _, Nat.zero_le _⟩ rfl ?_
  refine xi_if_eq (tgt := 14) C dX0_changeSource_4 (by decide) (fun c3 => ?_) (fun c3 => ?_)
  · have h := it_i c3 h
    have w0 := Option.some.inj h
    subst w0
    exact xi_ret C Z dX0_changeSource_14
  · have h := ie_i c3 h
    refine xi_aload_n C dX0_changeSource_7 rfl 0 rfl ?_
    refine xi_get C dX0_changeSource_8 iw_X0_changeSource_0 0 rfl rfl 1 (by decide) fl_X0_changeSource_15 rfl ?_
    refine xi_iload_n C dX0_changeSource_11 rfl 1 rfl ?_
    refine xi_iload_n C dX0_changeSource_12 rfl 2 rfl ?_
    obtain ⟨S5, e4, h⟩ := ob_i h
    refine xi_iast (w2 := (wBd cI b0 b1 b2 b3 b4 b5 T S5 L J E cp su)) C dX0_changeSource_13 2 0 rfl rfl e4 rfl ?_
    have w0 := Option.some.inj h
    subst w0
    exact xi_ret C Z dX0_changeSource_14
def f_X0_isSource (T : Nat → Int32) (p1 : Int32) : Option (Int32) :=
  (f_X0_hasCell T p1).bind fun v1 =>
  if v1 = 0 then
    if p1 < 24 then
      some 0
    else
      if 33 < p1 then
        some 0
      else
        some 1
  else
    some 1
theorem k_X0_isSource : xb_Y yX0_isSource cX0_isSource wsX0_isSource 2 (some .boolean) { frames := 2, cells := 0, slots := 0, locals := 41 } 1 := ⟨⟨_, rfl⟩, by decide, ⟨by decide, by decide, by decide +kernel⟩, rfl, rfl⟩
set_option maxHeartbeats 4000000 in
set_option maxRecDepth 100000 in
theorem m_X0_isSource (D : va_G) (cI cC cZ cR : ClassId) (b0 b1 b2 b3 b4 b5 : Nat) (T : Nat → Int32) (S : Nat → Int32) (L : Nat → Int32) (J : Nat → Int32) (E : Nat → Int32) (cp : Int32) (su : Int32) (p1 : Int32) (r : Int32) (h : f_X0_isSource T p1 = some r) : xb_M cX0_isSource wsX0_isSource RX0 { frames := 2, cells := 0, slots := 0, locals := 41 } (some .boolean) 2 (xb_ty cI cC cZ cR) D [.ref b0, .int p1] (wBd cI b0 b1 b2 b3 b4 b5 T S L J E cp su) (some (.int r)) (wBd cI b0 b1 b2 b3 b4 b5 T S L J E cp su) := by
  intro X C Z
  show xb_G X 0 0 (wBd cI b0 b1 b2 b3 b4 b5 T S L J E cp su) [(0, .ref b0), (1, .int p1)] 0 []
  unfold f_X0_isSource at h
  refine xi_aload_n C dX0_isSource_0 rfl 0 rfl ?_
  refine xi_iload_n C dX0_isSource_1 rfl 1 rfl ?_
  obtain ⟨v1, e2, h⟩ := ob_i h
  refine xi_callV (As := [.int p1]) (o := some (.int v1)) (rest := []) (w2 := (wBd cI b0 b1 b2 b3 b4 b5 T S L J E cp su)) (st2 := [.int v1]) C k_X0_hasCell (m_X0_hasCell D cI cC cZ cR b0 b1 b2 b3 b4 b5 T S L J E cp su p1 v1 e2) gX0_isSource_X0_hasCell dX0_isSource_2 ⟨Nat.le_of_ble_eq_true rfl, Nat.le_of_ble_eq_true rfl, Nat.le_of_ble_eq_true rfl⟩ 0 rfl rfl [0, 1, 2, 3, 4, 5] rfl rfl [0, 1, 2, 3] rfl rfl rfl rfl (Nat.le_of_ble_eq_true rfl) ⟨Nat.zero_le _, Nat.zero_le _⟩ rfl ?_
  refine xi_if_ne (tgt := 20) C dX0_isSource_5 (by decide) (fun c3 => ?_) (fun c3 => ?_)
  · have h := ie_i c3 h
    refine xi_iconst (v := 1) C dX0_isSource_20 (by decide) ?_
    refine xi_goto (tgt := 25) C dX0_isSource_21 (by decide) ?_
    have w0 := Option.some.inj h
    subst w0
    exact xi_zret C Z dX0_isSource_25 xb_nz1
  · have h := it_i c3 h
    refine xi_iload_n C dX0_isSource_8 rfl 1 rfl ?_
    refine xi_bipush (v := 24) C dX0_isSource_9 (by decide) ?_
    refine xi_icmp_lt (tgt := 24) C dX0_isSource_11 (by decide) (fun c4 => ?_) (fun c4 => ?_)
    · have h := it_i c4 h
      refine xi_iconst (v := 0) C dX0_isSource_24 (by decide) ?_
      have w0 := Option.some.inj h
      subst w0
      exact xi_zret C Z dX0_isSource_25 xb_nz0
    · have h := ie_i c4 h
      refine xi_iload_n C dX0_isSource_14 rfl 1 rfl ?_
      refine xi_bipush (v := 33) C dX0_isSource_15 (by decide) ?_
      refine xi_icmp_gt (tgt := 24) C dX0_isSource_17 (by decide) (fun c5 => ?_) (fun c5 => ?_)
      · have h := it_i c5 h
        refine xi_iconst (v := 0) C dX0_isSource_24 (by decide) ?_
        have w0 := Option.some.inj h
        subst w0
        exact xi_zret C Z dX0_isSource_25 xb_nz0
      · have h := ie_i c5 h
        refine xi_iconst (v := 1) C dX0_isSource_20 (by decide) ?_
        refine xi_goto (tgt := 25) C dX0_isSource_21 (by decide) ?_
        have w0 := Option.some.inj h
        subst w0
        exact xi_zret C Z dX0_isSource_25 xb_nz1
def f_X0_hasAllSources_2 (T : Nat → Int32) (S : Nat → Int32) (k : Option (Int32)) : Nat → Int32 → Option (Int32)
  | 0, _ => none
  | n + 1, x1_2 =>
    if 72 ≤ x1_2 then
      k
    else
      (xr_d S 72 x1_2).bind fun v2 =>
      (f_X0_isSource T v2).bind fun v4 =>
      if v4 = 0 then
        some 0
      else
        f_X0_hasAllSources_2 T S k n (x1_2 + 1)
def f_X0_hasAllSources (T : Nat → Int32) (S : Nat → Int32) : Option (Int32) :=
  f_X0_hasAllSources_2 T S (
    some 1) xFu 0
theorem k_X0_hasAllSources : xb_Y yX0_hasAllSources cX0_hasAllSources wsX0_hasAllSources 2 (some .boolean) { frames := 3, cells := 0, slots := 0, locals := 62 } 0 := ⟨⟨_, rfl⟩, by decide, ⟨by decide, by decide, by decide +kernel⟩, rfl, rfl⟩
theorem fl_X0_hasAllSources_15 : Cond.fieldLink RX0 15 "LookupBoard$Board" "sources" "[I" ∈ wsX0_hasAllSources := List.mem_of_getElem? (i := 1) rfl
theorem iw_X0_hasAllSources_0 : ∀ w ∈ wsX00, w ∈ wsX0_hasAllSources := fun w h => List.mem_cons_of_mem _ (List.mem_append_right _ h)
set_option maxHeartbeats 4000000 in
set_option maxRecDepth 100000 in
theorem m_X0_hasAllSources (D : va_G) (cI cC cZ cR : ClassId) (b0 b1 b2 b3 b4 b5 : Nat) (T : Nat → Int32) (S : Nat → Int32) (L : Nat → Int32) (J : Nat → Int32) (E : Nat → Int32) (cp : Int32) (su : Int32) (r : Int32) (h : f_X0_hasAllSources T S = some r) : xb_M cX0_hasAllSources wsX0_hasAllSources RX0 { frames := 3, cells := 0, slots := 0, locals := 62 } (some .boolean) 2 (xb_ty cI cC cZ cR) D [.ref b0] (wBd cI b0 b1 b2 b3 b4 b5 T S L J E cp su) (some (.int r)) (wBd cI b0 b1 b2 b3 b4 b5 T S L J E cp su) := by
  intro X C Z
  show xb_G X 0 0 (wBd cI b0 b1 b2 b3 b4 b5 T S L J E cp su) [(0, .ref b0)] 0 []
  have lp2 : ∀ (k : Option (Int32)) (n : Nat) (x1_2 : Int32), f_X0_hasAllSources_2 T S k n x1_2 = some r → (k = some r → xb_G X 0 0 (wBd cI b0 b1 b2 b3 b4 b5 T S L J E cp su) [] 29 []) → xb_G X 0 0 (wBd cI b0 b1 b2 b3 b4 b5 T S L J E cp su) [(0, .ref b0), (1, .int x1_2)] 2 [] := by
    intro k n
    induction n with
    | zero => intro x1_2 h hk; unfold f_X0_hasAllSources_2 at h; cases h
    | succ n ih =>
      intro x1_2 h hk
      unfold f_X0_hasAllSources_2 at h
      refine xi_iload_n C dX0_hasAllSources_2 rfl 1 rfl ?_
      refine xi_bipush (v := 72) C dX0_hasAllSources_3 (by decide) ?_
      refine xi_icmp_ge (tgt := 29) C dX0_hasAllSources_5 (by decide) (fun c1 => ?_) (fun c1 => ?_)
      · have h := it_i c1 h
        exact xb_lv (hk h) [] rfl
      · have h := ie_i c1 h
        refine xi_aload_n C dX0_hasAllSources_8 rfl 0 rfl ?_
        refine xi_aload_n C dX0_hasAllSources_9 rfl 0 rfl ?_
        refine xi_get C dX0_hasAllSources_10 iw_X0_hasAllSources_0 0 rfl rfl 1 (by decide) fl_X0_hasAllSources_15 rfl ?_
        refine xi_iload_n C dX0_hasAllSources_13 rfl 1 rfl ?_
        obtain ⟨v2, e3, h⟩ := ob_i h
        refine xi_iald C dX0_hasAllSources_14 2 0 rfl rfl e3 ?_
        obtain ⟨v4, e5, h⟩ := ob_i h
        refine xi_callV (As := [.int v2]) (o := some (.int v4)) (rest := []) (w2 := (wBd cI b0 b1 b2 b3 b4 b5 T S L J E cp su)) (st2 := [.int v4]) C k_X0_isSource (m_X0_isSource D cI cC cZ cR b0 b1 b2 b3 b4 b5 T S L J E cp su v2 v4 e5) gX0_hasAllSources_X0_isSource dX0_hasAllSources_15 ⟨Nat.le_of_ble_eq_true rfl, Nat.le_of_ble_eq_true rfl, Nat.le_of_ble_eq_true rfl⟩ 0 rfl rfl [0, 1, 2, 3, 4, 5] rfl rfl [0, 1, 2, 3] rfl rfl rfl rfl (Nat.le_of_ble_eq_true rfl) ⟨Nat.zero_le _, Nat.zero_le _⟩ rfl ?_
        refine xi_if_ne (tgt := 23) C dX0_hasAllSources_18 (by decide) (fun c6 => ?_) (fun c6 => ?_)
        · have h := ie_i c6 h
          refine xi_iinc (v := x1_2 + 1) (lv2 := [(0, .ref b0), (1, .int (x1_2 + 1))]) C dX0_hasAllSources_23 1 rfl (by rfl) (by decide) [0] [1, 0] rfl ?_
          refine xi_goto (tgt := 2) C dX0_hasAllSources_26 (by decide) ?_
          exact xb_lv (ih (x1_2 + 1) h hk) [0, 1] rfl
        · have h := it_i c6 h
          refine xi_iconst (v := 0) C dX0_hasAllSources_21 (by decide) ?_
          have w0 := Option.some.inj h
          subst w0
          exact xi_zret C Z dX0_hasAllSources_22 xb_nz0
  unfold f_X0_hasAllSources at h
  refine xi_iconst (v := 0) C dX0_hasAllSources_0 (by decide) ?_
  refine xi_istore_n (lv2 := [(0, .ref b0), (1, .int 0)]) C dX0_hasAllSources_1 rfl (by decide) [0] [1, 0] rfl ?_
  refine xb_lv (lp2 _ xFu 0 h (fun h => ?_)) [0, 1] rfl
  refine xi_iconst (v := 1) C dX0_hasAllSources_29 (by decide) ?_
  have w0 := Option.some.inj h
  subst w0
  exact xi_zret C Z dX0_hasAllSources_30 xb_nz1
def f_X0_lengthOf (L : Nat → Int32) (p1 : Int32) : Option (Int32) :=
  (f_X5_isWire p1).bind fun v1 =>
  if v1 = 0 then
    some 0
  else
    (xr_d L 72 p1).bind fun v4 =>
    some v4
theorem k_X0_lengthOf : xb_Y yX0_lengthOf cX0_lengthOf wsX0_lengthOf 2 (some .int) { frames := 1, cells := 0, slots := 0, locals := 20 } 1 := ⟨⟨_, rfl⟩, by decide, ⟨by decide, by decide, by decide +kernel⟩, rfl, rfl⟩
theorem fl_X0_lengthOf_18 : Cond.fieldLink RX0 18 "LookupBoard$Board" "lengths" "[I" ∈ wsX0_lengthOf := List.mem_of_getElem? (i := 1) rfl
theorem iw_X0_lengthOf_0 : ∀ w ∈ wsX00, w ∈ wsX0_lengthOf := fun w h => List.mem_cons_of_mem _ (List.mem_append_right _ h)
set_option maxHeartbeats 4000000 in
set_option maxRecDepth 100000 in
theorem m_X0_lengthOf (D : va_G) (cI cC cZ cR : ClassId) (b0 b1 b2 b3 b4 b5 : Nat) (T : Nat → Int32) (S : Nat → Int32) (L : Nat → Int32) (J : Nat → Int32) (E : Nat → Int32) (cp : Int32) (su : Int32) (p1 : Int32) (r : Int32) (h : f_X0_lengthOf L p1 = some r) : xb_M cX0_lengthOf wsX0_lengthOf RX0 { frames := 1, cells := 0, slots := 0, locals := 20 } (some .int) 2 (xb_ty cI cC cZ cR) D [.ref b0, .int p1] (wBd cI b0 b1 b2 b3 b4 b5 T S L J E cp su) (some (.int r)) (wBd cI b0 b1 b2 b3 b4 b5 T S L J E cp su) := by
  intro X C Z
  show xb_G X 0 0 (wBd cI b0 b1 b2 b3 b4 b5 T S L J E cp su) [(0, .ref b0), (1, .int p1)] 0 []
  unfold f_X0_lengthOf at h
  refine xi_iload_n C dX0_lengthOf_0 rfl 1 rfl ?_
  obtain ⟨v1, e2, h⟩ := ob_i h
  refine xi_callSN (As := [.int p1]) (o := some (.int v1)) (rest := []) (w2 := (wBd cI b0 b1 b2 b3 b4 b5 T S L J E cp su)) (st2 := [.int v1]) C k_X5_isWire (m_X5_isWire D cI cC cZ cR p1 v1 e2) gX0_lengthOf_X5_isWire_n50 (List.mem_of_getElem? (i := 4) rfl) (List.mem_of_getElem? (i := 3) rfl) (List.mem_of_getElem? (i := 2) rfl) dX0_lengthOf_1 ⟨Nat.le_of_ble_eq_true rfl, Nat.le_of_ble_eq_true rfl, Nat.le_of_ble_eq_true rfl⟩ [] rfl rfl [0, 1, 2, 3] rfl rfl rfl rfl (Nat.le_of_ble_eq_true rfl) ⟨Nat.zero_le _, Nat.zero_le _⟩ rfl ?_
  refine xi_if_eq (tgt := 16) C dX0_lengthOf_4 (by decide) (fun c3 => ?_) (fun c3 => ?_)
  · have h := it_i c3 h
    refine xi_iconst (v := 0) C dX0_lengthOf_16 (by decide) ?_
    have w0 := Option.some.inj h
    subst w0
    exact xi_iret C Z dX0_lengthOf_17
  · have h := ie_i c3 h
    refine xi_aload_n C dX0_lengthOf_7 rfl 0 rfl ?_
    refine xi_get C dX0_lengthOf_8 iw_X0_lengthOf_0 0 rfl rfl 2 (by decide) fl_X0_lengthOf_18 rfl ?_
    refine xi_iload_n C dX0_lengthOf_11 rfl 1 rfl ?_
    obtain ⟨v4, e5, h⟩ := ob_i h
    refine xi_iald C dX0_lengthOf_12 3 0 rfl rfl e5 ?_
    refine xi_goto (tgt := 17) C dX0_lengthOf_13 (by decide) ?_
    have w0 := Option.some.inj h
    subst w0
    exact xi_iret C Z dX0_lengthOf_17
def f_X5_junctionOf (p0 : Int32) : Option (Int32) :=
  if p0 < 0 then
    some (-1)
  else
    if p0 < 32 then
      if 24 ≤ p0 then
        if 28 ≤ p0 then
          some ((((p0 - 28) * 6) + 6) - 1)
        else
          some ((p0 - 24) * 6)
      else
        some p0
    else
      some (-1)
theorem k_X5_junctionOf : xb_Y yX5_junctionOf cX5_junctionOf wsX5_junctionOf 1 (some .int) { frames := 0, cells := 0, slots := 0, locals := 0 } 1 := ⟨⟨_, rfl⟩, by decide, ⟨by decide, by decide, by decide +kernel⟩, rfl, rfl⟩
set_option maxHeartbeats 4000000 in
set_option maxRecDepth 100000 in
theorem m_X5_junctionOf (D : va_G) (cI cC cZ cR : ClassId) (p0 : Int32) (r : Int32) (h : f_X5_junctionOf p0 = some r) : xb_M cX5_junctionOf wsX5_junctionOf RX5 { frames := 0, cells := 0, slots := 0, locals := 0 } (some .int) 1 (xb_ty cI cC cZ cR) D [.int p0] ([] : va_W) (some (.int r)) ([] : va_W) := by
  intro X C Z
  show xb_G X 0 0 ([] : va_W) [(0, .int p0)] 0 []
  unfold f_X5_junctionOf at h
  refine xi_iload_n C dX5_junctionOf_0 rfl 0 rfl ?_
  refine xi_if_lt (tgt := 10) C dX5_junctionOf_1 (by decide) (fun c1 => ?_) (fun c1 => ?_)
  · have h := it_i c1 h
    refine xi_iconst (v := (-1)) C dX5_junctionOf_10 (by decide) ?_
    have w0 := Option.some.inj h
    subst w0
    exact xi_iret C Z dX5_junctionOf_11
  · have h := ie_i c1 h
    refine xi_iload_n C dX5_junctionOf_4 rfl 0 rfl ?_
    refine xi_bipush (v := 32) C dX5_junctionOf_5 (by decide) ?_
    refine xi_icmp_lt (tgt := 12) C dX5_junctionOf_7 (by decide) (fun c2 => ?_) (fun c2 => ?_)
    · have h := it_i c2 h
      refine xi_iload_n C dX5_junctionOf_12 rfl 0 rfl ?_
      refine xi_bipush (v := 24) C dX5_junctionOf_13 (by decide) ?_
      refine xi_icmp_ge (tgt := 20) C dX5_junctionOf_15 (by decide) (fun c3 => ?_) (fun c3 => ?_)
      · have h := it_i c3 h
        refine xi_iload_n C dX5_junctionOf_20 rfl 0 rfl ?_
        refine xi_bipush (v := 28) C dX5_junctionOf_21 (by decide) ?_
        refine xi_icmp_ge (tgt := 34) C dX5_junctionOf_23 (by decide) (fun c4 => ?_) (fun c4 => ?_)
        · have h := it_i c4 h
          refine xi_iload_n C dX5_junctionOf_34 rfl 0 rfl ?_
          refine xi_bipush (v := 28) C dX5_junctionOf_35 (by decide) ?_
          refine xi_isub C dX5_junctionOf_37 ?_
          refine xi_bipush (v := 6) C dX5_junctionOf_38 (by decide) ?_
          refine xi_imul C dX5_junctionOf_40 ?_
          refine xi_bipush (v := 6) C dX5_junctionOf_41 (by decide) ?_
          refine xi_iadd C dX5_junctionOf_43 ?_
          refine xi_iconst (v := 1) C dX5_junctionOf_44 (by decide) ?_
          refine xi_isub C dX5_junctionOf_45 ?_
          have w0 := Option.some.inj h
          subst w0
          exact xi_iret C Z dX5_junctionOf_46
        · have h := ie_i c4 h
          refine xi_iload_n C dX5_junctionOf_26 rfl 0 rfl ?_
          refine xi_bipush (v := 24) C dX5_junctionOf_27 (by decide) ?_
          refine xi_isub C dX5_junctionOf_29 ?_
          refine xi_bipush (v := 6) C dX5_junctionOf_30 (by decide) ?_
          refine xi_imul C dX5_junctionOf_32 ?_
          have w0 := Option.some.inj h
          subst w0
          exact xi_iret C Z dX5_junctionOf_33
      · have h := ie_i c3 h
        refine xi_iload_n C dX5_junctionOf_18 rfl 0 rfl ?_
        have w0 := Option.some.inj h
        subst w0
        exact xi_iret C Z dX5_junctionOf_19
    · have h := ie_i c2 h
      refine xi_iconst (v := (-1)) C dX5_junctionOf_10 (by decide) ?_
      have w0 := Option.some.inj h
      subst w0
      exact xi_iret C Z dX5_junctionOf_11
def f_X0_junctionAt (S : Nat → Int32) (L : Nat → Int32) (J : Nat → Int32) (p1 : Int32) (p2 : Int32) : Option (Int32) :=
  (f_X0_sourceOf S p1).bind fun v1 =>
  (f_X5_junctionOf v1).bind fun v3 =>
  if v3 = (-1) then
    some (-1)
  else
    if p2 < 0 then
      some (-1)
    else
      (f_X0_lengthOf L p1).bind fun v11 =>
      if v11 < p2 then
        some (-1)
      else
        if ((p1 * 24) + p2) < 0 then
          some (-1)
        else
          if 1728 ≤ ((p1 * 24) + p2) then
            some (-1)
          else
            (xr_d J 1728 ((p1 * 24) + p2)).bind fun v19 =>
            some v19
theorem k_X0_junctionAt : xb_Y yX0_junctionAt cX0_junctionAt wsX0_junctionAt 5 (some .int) { frames := 2, cells := 0, slots := 0, locals := 41 } 2 := ⟨⟨_, rfl⟩, by decide, ⟨by decide, by decide, by decide +kernel⟩, rfl, rfl⟩
theorem fl_X0_junctionAt_21 : Cond.fieldLink RX0 21 "LookupBoard$Board" "junctions" "[I" ∈ wsX0_junctionAt := List.mem_of_getElem? (i := 1) rfl
theorem iw_X0_junctionAt_0 : ∀ w ∈ wsX00, w ∈ wsX0_junctionAt := fun w h => List.mem_cons_of_mem _ (List.mem_append_right _ h)
set_option maxHeartbeats 4000000 in
set_option maxRecDepth 100000 in
theorem m_X0_junctionAt (D : va_G) (cI cC cZ cR : ClassId) (b0 b1 b2 b3 b4 b5 : Nat) (T : Nat → Int32) (S : Nat → Int32) (L : Nat → Int32) (J : Nat → Int32) (E : Nat → Int32) (cp : Int32) (su : Int32) (p1 : Int32) (p2 : Int32) (r : Int32) (h : f_X0_junctionAt S L J p1 p2 = some r) : xb_M cX0_junctionAt wsX0_junctionAt RX0 { frames := 2, cells := 0, slots := 0, locals := 41 } (some .int) 5 (xb_ty cI cC cZ cR) D [.ref b0, .int p1, .int p2] (wBd cI b0 b1 b2 b3 b4 b5 T S L J E cp su) (some (.int r)) (wBd cI b0 b1 b2 b3 b4 b5 T S L J E cp su) := by
  intro X C Z
  show xb_G X 0 0 (wBd cI b0 b1 b2 b3 b4 b5 T S L J E cp su) [(0, .ref b0), (1, .int p1), (2, .int p2)] 0 []
  unfold f_X0_junctionAt at h
  refine xi_aload_n C dX0_junctionAt_0 rfl 0 rfl ?_
  refine xi_iload_n C dX0_junctionAt_1 rfl 1 rfl ?_
  obtain ⟨v1, e2, h⟩ := ob_i h
  refine xi_callV (As := [.int p1]) (o := some (.int v1)) (rest := []) (w2 := (wBd cI b0 b1 b2 b3 b4 b5 T S L J E cp su)) (st2 := [.int v1]) C k_X0_sourceOf (m_X0_sourceOf D cI cC cZ cR b0 b1 b2 b3 b4 b5 T S L J E cp su p1 v1 e2) gX0_junctionAt_X0_sourceOf dX0_junctionAt_2 ⟨Nat.le_of_ble_eq_true rfl, Nat.le_of_ble_eq_true rfl, Nat.le_of_ble_eq_true rfl⟩ 0 rfl rfl [0, 1, 2, 3, 4, 5] rfl rfl [0, 1, 2, 3] rfl rfl rfl rfl (Nat.le_of_ble_eq_true rfl) ⟨Nat.zero_le _, Nat.zero_le _⟩ rfl ?_
  obtain ⟨v3, e4, h⟩ := ob_i h
  refine xi_callSN (As := [.int v1]) (o := some (.int v3)) (rest := []) (w2 := (wBd cI b0 b1 b2 b3 b4 b5 T S L J E cp su)) (st2 := [.int v3]) C k_X5_junctionOf (m_X5_junctionOf D cI cC cZ cR v1 v3 e4) gX0_junctionAt_X5_junctionOf_n83 (List.mem_of_getElem? (i := 5) rfl) (List.mem_of_getElem? (i := 9) rfl) (List.mem_of_getElem? (i := 11) rfl) dX0_junctionAt_5 ⟨Nat.le_of_ble_eq_true rfl, Nat.le_of_ble_eq_true rfl, Nat.le_of_ble_eq_true rfl⟩ [] rfl rfl [0, 1, 2, 3] rfl rfl rfl rfl (Nat.le_of_ble_eq_true rfl) ⟨Nat.zero_le _, Nat.zero_le _⟩ rfl ?_
  refine xi_iconst (v := (-1)) C dX0_junctionAt_8 (by decide) ?_
  refine xi_icmp_eq (tgt := 29) C dX0_junctionAt_9 (by decide) (fun c5 => ?_) (fun c5 => ?_)
  · have h := it_i c5 h
    refine xi_iconst (v := 0) C dX0_junctionAt_29 (by decide) ?_
    refine xi_istore_n (lv2 := [(0, .ref b0), (1, .int p1), (2, .int p2), (3, .int 0)]) C dX0_junctionAt_30 rfl (by decide) [0, 1, 2] [1, 2, 3, 0] rfl ?_
    refine xi_iload_n C dX0_junctionAt_31 rfl 3 rfl ?_
    refine xi_if_eq (tgt := 44) C dX0_junctionAt_32 (by decide) (fun c6 => ?_) (fun c6 => ?_)
    rotate_left
    · first | exact absurd c6 (by decide) | exact absurd (by decide) c6
    refine xi_iconst (v := (-1)) C dX0_junctionAt_44 (by decide) ?_
    refine xi_istore (lv2 := [(0, .ref b0), (1, .int p1), (2, .int p2), (3, .int 0), (4, .int (-1))]) C dX0_junctionAt_45 (by decide) [0, 1, 2, 3] [1, 2, 3, 4, 0] rfl ?_
    refine xi_iload C dX0_junctionAt_47 4 rfl ?_
    refine xi_if_lt (tgt := 72) C dX0_junctionAt_49 (by decide) (fun c7 => ?_) (fun c7 => ?_)
    rotate_left
    · first | exact absurd c7 (by decide) | exact absurd (by decide) c7
    refine xi_iconst (v := (-1)) C dX0_junctionAt_72 (by decide) ?_
    have w0 := Option.some.inj h
    subst w0
    exact xi_iret C Z dX0_junctionAt_73
  · have h := ie_i c5 h
    refine xi_iload_n C dX0_junctionAt_12 rfl 2 rfl ?_
    refine xi_if_lt (tgt := 29) C dX0_junctionAt_13 (by decide) (fun c8 => ?_) (fun c8 => ?_)
    · have h := it_i c8 h
      refine xi_iconst (v := 0) C dX0_junctionAt_29 (by decide) ?_
      refine xi_istore_n (lv2 := [(0, .ref b0), (1, .int p1), (2, .int p2), (3, .int 0)]) C dX0_junctionAt_30 rfl (by decide) [0, 1, 2] [1, 2, 3, 0] rfl ?_
      refine xi_iload_n C dX0_junctionAt_31 rfl 3 rfl ?_
      refine xi_if_eq (tgt := 44) C dX0_junctionAt_32 (by decide) (fun c9 => ?_) (fun c9 => ?_)
      rotate_left
      · first | exact absurd c9 (by decide) | exact absurd (by decide) c9
      refine xi_iconst (v := (-1)) C dX0_junctionAt_44 (by decide) ?_
      refine xi_istore (lv2 := [(0, .ref b0), (1, .int p1), (2, .int p2), (3, .int 0), (4, .int (-1))]) C dX0_junctionAt_45 (by decide) [0, 1, 2, 3] [1, 2, 3, 4, 0] rfl ?_
      refine xi_iload C dX0_junctionAt_47 4 rfl ?_
      refine xi_if_lt (tgt := 72) C dX0_junctionAt_49 (by decide) (fun c10 => ?_) (fun c10 => ?_)
      rotate_left
      · first | exact absurd c10 (by decide) | exact absurd (by decide) c10
      refine xi_iconst (v := (-1)) C dX0_junctionAt_72 (by decide) ?_
      have w0 := Option.some.inj h
      subst w0
      exact xi_iret C Z dX0_junctionAt_73
    · have h := ie_i c8 h
      refine xi_iload_n C dX0_junctionAt_16 rfl 2 rfl ?_
      refine xi_aload_n C dX0_junctionAt_17 rfl 0 rfl ?_
      refine xi_iload_n C dX0_junctionAt_18 rfl 1 rfl ?_
      obtain ⟨v11, e12, h⟩ := ob_i h
      refine xi_callV (As := [.int p1]) (o := some (.int v11)) (rest := [.int p2]) (w2 := (wBd cI b0 b1 b2 b3 b4 b5 T S L J E cp su)) (st2 := [.int v11, .int p2]) C k_X0_lengthOf (m_X0_lengthOf D cI cC cZ cR b0 b1 b2 b3 b4 b5 T S L J E cp su p1 v11 e12) gX0_junctionAt_X0_lengthOf dX0_junctionAt_19 ⟨Nat.le_of_ble_eq_true rfl, Nat.le_of_ble_eq_true rfl, Nat.le_of_ble_eq_true rfl⟩ 0 rfl rfl [0, 1, 2, 3, 4, 5] rfl rfl [0, 1, 2, 3] rfl rfl rfl rfl (Nat.le_of_ble_eq_true rfl) ⟨Nat.zero_le _, Nat.zero_le _⟩ rfl ?_
      refine xi_icmp_gt (tgt := 29) C dX0_junctionAt_22 (by decide) (fun c13 => ?_) (fun c13 => ?_)
      · have h := it_i c13 h
        refine xi_iconst (v := 0) C dX0_junctionAt_29 (by decide) ?_
        refine xi_istore_n (lv2 := [(0, .ref b0), (1, .int p1), (2, .int p2), (3, .int 0)]) C dX0_junctionAt_30 rfl (by decide) [0, 1, 2] [1, 2, 3, 0] rfl ?_
        refine xi_iload_n C dX0_junctionAt_31 rfl 3 rfl ?_
        refine xi_if_eq (tgt := 44) C dX0_junctionAt_32 (by decide) (fun c14 => ?_) (fun c14 => ?_)
        rotate_left
        · first | exact absurd c14 (by decide) | exact absurd (by decide) c14
        refine xi_iconst (v := (-1)) C dX0_junctionAt_44 (by decide) ?_
        refine xi_istore (lv2 := [(0, .ref b0), (1, .int p1), (2, .int p2), (3, .int 0), (4, .int (-1))]) C dX0_junctionAt_45 (by decide) [0, 1, 2, 3] [1, 2, 3, 4, 0] rfl ?_
        refine xi_iload C dX0_junctionAt_47 4 rfl ?_
        refine xi_if_lt (tgt := 72) C dX0_junctionAt_49 (by decide) (fun c15 => ?_) (fun c15 => ?_)
        rotate_left
        · first | exact absurd c15 (by decide) | exact absurd (by decide) c15
        refine xi_iconst (v := (-1)) C dX0_junctionAt_72 (by decide) ?_
        have w0 := Option.some.inj h
        subst w0
        exact xi_iret C Z dX0_junctionAt_73
      · have h := ie_i c13 h
        refine xi_iconst (v := 1) C dX0_junctionAt_25 (by decide) ?_
        refine xi_goto (tgt := 30) C dX0_junctionAt_26 (by decide) ?_
        refine xi_istore_n (lv2 := [(0, .ref b0), (1, .int p1), (2, .int p2), (3, .int 1)]) C dX0_junctionAt_30 rfl (by decide) [0, 1, 2] [1, 2, 3, 0] rfl ?_
        refine xi_iload_n C dX0_junctionAt_31 rfl 3 rfl ?_
        refine xi_if_eq (tgt := 44) C dX0_junctionAt_32 (by decide) (fun c16 => ?_) (fun c16 => ?_)
        · first | exact absurd c16 (by decide) | exact absurd (by decide) c16
        refine xi_iload_n C dX0_junctionAt_35 rfl 1 rfl ?_
        refine xi_bipush (v := 24) C dX0_junctionAt_36 (by decide) ?_
        refine xi_imul C dX0_junctionAt_38 ?_
        refine xi_iload_n C dX0_junctionAt_39 rfl 2 rfl ?_
        refine xi_iadd C dX0_junctionAt_40 ?_
        refine xi_goto (tgt := 45) C dX0_junctionAt_41 (by decide) ?_
        refine xi_istore (lv2 := [(0, .ref b0), (1, .int p1), (2, .int p2), (3, .int 1), (4, .int ((p1 * 24) + p2))]) C dX0_junctionAt_45 (by decide) [0, 1, 2, 3] [1, 2, 3, 4, 0] rfl ?_
        refine xi_iload C dX0_junctionAt_47 4 rfl ?_
        refine xi_if_lt (tgt := 72) C dX0_junctionAt_49 (by decide) (fun c17 => ?_) (fun c17 => ?_)
        · have h := it_i c17 h
          refine xi_iconst (v := (-1)) C dX0_junctionAt_72 (by decide) ?_
          have w0 := Option.some.inj h
          subst w0
          exact xi_iret C Z dX0_junctionAt_73
        · have h := ie_i c17 h
          refine xi_iload C dX0_junctionAt_52 4 rfl ?_
          refine xi_aload_n C dX0_junctionAt_54 rfl 0 rfl ?_
          refine xi_get C dX0_junctionAt_55 iw_X0_junctionAt_0 0 rfl rfl 3 (by decide) fl_X0_junctionAt_21 rfl ?_
          refine xi_alen (v := 1728) C dX0_junctionAt_58 4 0 rfl rfl rfl ?_
          refine xi_icmp_ge (tgt := 72) C dX0_junctionAt_59 (by decide) (fun c18 => ?_) (fun c18 => ?_)
          · have h := it_i c18 h
            refine xi_iconst (v := (-1)) C dX0_junctionAt_72 (by decide) ?_
            have w0 := Option.some.inj h
            subst w0
            exact xi_iret C Z dX0_junctionAt_73
          · have h := ie_i c18 h
            refine xi_aload_n C dX0_junctionAt_62 rfl 0 rfl ?_
            refine xi_get C dX0_junctionAt_63 iw_X0_junctionAt_0 0 rfl rfl 3 (by decide) fl_X0_junctionAt_21 rfl ?_
            refine xi_iload C dX0_junctionAt_66 4 rfl ?_
            obtain ⟨v19, e20, h⟩ := ob_i h
            refine xi_iald C dX0_junctionAt_68 4 0 rfl rfl e20 ?_
            refine xi_goto (tgt := 73) C dX0_junctionAt_69 (by decide) ?_
            have w0 := Option.some.inj h
            subst w0
            exact xi_iret C Z dX0_junctionAt_73
def f_X5_segmentAt (p0 : Int32) (p1 : Int32) : Option (Int32) :=
  if p1 = 0 then
    if (p0 / 6) ≤ 0 then
      some (-1)
    else
      some ((24 + p0) - 6)
  else
    if p1 = 1 then
      if (p0 - p0 / 6 * 6) ≤ 0 then
        some (-1)
      else
        some (p0 - 1)
    else
      if p1 = 2 then
        if 5 ≤ (p0 - p0 / 6 * 6) then
          some (-1)
        else
          some p0
      else
        if p1 = 3 then
          if 3 ≤ (p0 / 6) then
            some (-1)
          else
            some (24 + p0)
        else
          some (-1)
theorem k_X5_segmentAt : xb_Y yX5_segmentAt cX5_segmentAt wsX5_segmentAt 4 (some .int) { frames := 0, cells := 0, slots := 0, locals := 0 } 2 := ⟨⟨_, rfl⟩, by decide, ⟨by decide, by decide, by decide +kernel⟩, rfl, rfl⟩
set_option maxHeartbeats 4000000 in
set_option maxRecDepth 100000 in
theorem m_X5_segmentAt (D : va_G) (cI cC cZ cR : ClassId) (p0 : Int32) (p1 : Int32) (r : Int32) (h : f_X5_segmentAt p0 p1 = some r) : xb_M cX5_segmentAt wsX5_segmentAt RX5 { frames := 0, cells := 0, slots := 0, locals := 0 } (some .int) 4 (xb_ty cI cC cZ cR) D [.int p0, .int p1] ([] : va_W) (some (.int r)) ([] : va_W) := by
  intro X C Z
  show xb_G X 0 0 ([] : va_W) [(0, .int p0), (1, .int p1)] 0 []
  unfold f_X5_segmentAt at h
  refine xi_iload_n C dX5_segmentAt_0 rfl 0 rfl ?_
  refine xi_bipush (v := 6) C dX5_segmentAt_1 (by decide) ?_
  refine xi_irem C dX5_segmentAt_3 (by decide) ?_
  refine xi_istore_n (lv2 := [(0, .int p0), (1, .int p1), (2, .int (p0 - p0 / 6 * 6))]) C dX5_segmentAt_4 rfl (by decide) [0, 1] [1, 2, 0] rfl ?_
  refine xi_iload_n C dX5_segmentAt_5 rfl 0 rfl ?_
  refine xi_bipush (v := 6) C dX5_segmentAt_6 (by decide) ?_
  refine xi_idiv C dX5_segmentAt_8 (by decide) ?_
  refine xi_istore_n (lv2 := [(0, .int p0), (1, .int p1), (2, .int (p0 - p0 / 6 * 6)), (3, .int (p0 / 6))]) C dX5_segmentAt_9 rfl (by decide) [0, 1, 2] [1, 2, 3, 0] rfl ?_
  refine xi_iload_n C dX5_segmentAt_10 rfl 1 rfl ?_
  rcases Decidable.em (p1 = 0) with w11_0 | w11_0
  · have h := it_i w11_0 h
    refine xi_tabIn (tgt := 40) C 0 w11_0 dX5_segmentAt_11 (by decide) (by decide) rfl (by decide) ?_
    refine xi_iload_n C dX5_segmentAt_40 rfl 3 rfl ?_
    refine xi_if_le (tgt := 54) C dX5_segmentAt_41 (by decide) (fun c1 => ?_) (fun c1 => ?_)
    · have h := it_i c1 h
      refine xi_iconst (v := (-1)) C dX5_segmentAt_54 (by decide) ?_
      have w0 := Option.some.inj h
      subst w0
      exact xi_iret C Z dX5_segmentAt_55
    · have h := ie_i c1 h
      refine xi_bipush (v := 24) C dX5_segmentAt_44 (by decide) ?_
      refine xi_iload_n C dX5_segmentAt_46 rfl 0 rfl ?_
      refine xi_iadd C dX5_segmentAt_47 ?_
      refine xi_bipush (v := 6) C dX5_segmentAt_48 (by decide) ?_
      refine xi_isub C dX5_segmentAt_50 ?_
      refine xi_goto (tgt := 55) C dX5_segmentAt_51 (by decide) ?_
      have w0 := Option.some.inj h
      subst w0
      exact xi_iret C Z dX5_segmentAt_55
  have h := ie_i w11_0 h
  rcases Decidable.em (p1 = 1) with w11_1 | w11_1
  · have h := it_i w11_1 h
    refine xi_tabIn (tgt := 56) C 1 w11_1 dX5_segmentAt_11 (by decide) (by decide) rfl (by decide) ?_
    refine xi_iload_n C dX5_segmentAt_56 rfl 2 rfl ?_
    refine xi_if_le (tgt := 66) C dX5_segmentAt_57 (by decide) (fun c2 => ?_) (fun c2 => ?_)
    · have h := it_i c2 h
      refine xi_iconst (v := (-1)) C dX5_segmentAt_66 (by decide) ?_
      have w0 := Option.some.inj h
      subst w0
      exact xi_iret C Z dX5_segmentAt_67
    · have h := ie_i c2 h
      refine xi_iload_n C dX5_segmentAt_60 rfl 0 rfl ?_
      refine xi_iconst (v := 1) C dX5_segmentAt_61 (by decide) ?_
      refine xi_isub C dX5_segmentAt_62 ?_
      refine xi_goto (tgt := 67) C dX5_segmentAt_63 (by decide) ?_
      have w0 := Option.some.inj h
      subst w0
      exact xi_iret C Z dX5_segmentAt_67
  have h := ie_i w11_1 h
  rcases Decidable.em (p1 = 2) with w11_2 | w11_2
  · have h := it_i w11_2 h
    refine xi_tabIn (tgt := 68) C 2 w11_2 dX5_segmentAt_11 (by decide) (by decide) rfl (by decide) ?_
    refine xi_iload_n C dX5_segmentAt_68 rfl 2 rfl ?_
    refine xi_iconst (v := 5) C dX5_segmentAt_69 (by decide) ?_
    refine xi_icmp_ge (tgt := 77) C dX5_segmentAt_70 (by decide) (fun c3 => ?_) (fun c3 => ?_)
    · have h := it_i c3 h
      refine xi_iconst (v := (-1)) C dX5_segmentAt_77 (by decide) ?_
      have w0 := Option.some.inj h
      subst w0
      exact xi_iret C Z dX5_segmentAt_78
    · have h := ie_i c3 h
      refine xi_iload_n C dX5_segmentAt_73 rfl 0 rfl ?_
      refine xi_goto (tgt := 78) C dX5_segmentAt_74 (by decide) ?_
      have w0 := Option.some.inj h
      subst w0
      exact xi_iret C Z dX5_segmentAt_78
  have h := ie_i w11_2 h
  rcases Decidable.em (p1 = 3) with w11_3 | w11_3
  · have h := it_i w11_3 h
    refine xi_tabIn (tgt := 79) C 3 w11_3 dX5_segmentAt_11 (by decide) (by decide) rfl (by decide) ?_
    refine xi_iload_n C dX5_segmentAt_79 rfl 3 rfl ?_
    refine xi_iconst (v := 3) C dX5_segmentAt_80 (by decide) ?_
    refine xi_icmp_ge (tgt := 91) C dX5_segmentAt_81 (by decide) (fun c4 => ?_) (fun c4 => ?_)
    · have h := it_i c4 h
      refine xi_iconst (v := (-1)) C dX5_segmentAt_91 (by decide) ?_
      have w0 := Option.some.inj h
      subst w0
      exact xi_iret C Z dX5_segmentAt_92
    · have h := ie_i c4 h
      refine xi_bipush (v := 24) C dX5_segmentAt_84 (by decide) ?_
      refine xi_iload_n C dX5_segmentAt_86 rfl 0 rfl ?_
      refine xi_iadd C dX5_segmentAt_87 ?_
      refine xi_goto (tgt := 92) C dX5_segmentAt_88 (by decide) ?_
      have w0 := Option.some.inj h
      subst w0
      exact xi_iret C Z dX5_segmentAt_92
  have h := ie_i w11_3 h
  refine xi_tabOut (tgt := 93) C dX5_segmentAt_11 (xb_tab (N := 4) (by decide) (fun j hj => ?_)) (by decide) ?_
  · rcases (show j = 0 ∨ j = 1 ∨ j = 2 ∨ j = 3 by omega) with rfl | rfl | rfl | rfl
    · exact w11_0
    · exact w11_1
    · exact w11_2
    · exact w11_3
  refine xi_iconst (v := (-1)) C dX5_segmentAt_93 (by decide) ?_
  have w0 := Option.some.inj h
  subst w0
  exact xi_iret C Z dX5_segmentAt_94
def f_X5_segmentBetween_18 (x0_18 : Int32) (x1_18 : Int32) (k : Option (Int32)) : Nat → Int32 → Option (Int32)
  | 0, _ => none
  | n + 1, x2_18 =>
    if 4 ≤ x2_18 then
      k
    else
      (xr_d xb_stI 4 x2_18).bind fun v10 =>
      if (x0_18 + v10) = x1_18 then
        (f_X5_segmentAt x0_18 x2_18).bind fun v13 =>
        some v13
      else
        f_X5_segmentBetween_18 x0_18 x1_18 k n (x2_18 + 1)
def f_X5_segmentBetween (p0 : Int32) (p1 : Int32) : Option (Int32) :=
  (f_X5_isPlace p0).bind fun v1 =>
  if v1 = 0 then
    some (-1)
  else
    (f_X5_isPlace p1).bind fun v4 =>
    if v4 = 0 then
      some (-1)
    else
      f_X5_segmentBetween_18 p0 p1 (
        some (-1)) xFu 0
theorem k_X5_segmentBetween : xb_Y yX5_segmentBetween cX5_segmentBetween wsX5_segmentBetween 3 (some .int) { frames := 1, cells := 0, slots := 0, locals := 23 } 2 := ⟨⟨_, rfl⟩, by decide, ⟨by decide, by decide, by decide +kernel⟩, rfl, rfl⟩
theorem fl_X5_segmentBetween_213 : Cond.fieldLink RX5 213 "LookupBoard" "STEPS" "[I" ∈ wsX5_segmentBetween := List.mem_of_getElem? (i := 1) rfl
set_option maxHeartbeats 4000000 in
set_option maxRecDepth 100000 in
theorem m_X5_segmentBetween (D : va_G) (cI cC cZ cR : ClassId) (p0 : Int32) (p1 : Int32) (r : Int32) (h : f_X5_segmentBetween p0 p1 = some r) : xb_M cX5_segmentBetween wsX5_segmentBetween RX5 { frames := 1, cells := 0, slots := 0, locals := 23 } (some .int) 3 (xb_ty cI cC cZ cR) D [.int p0, .int p1] ([] : va_W) (some (.int r)) ([] : va_W) := by
  intro X C Z
  show xb_G X 0 0 ([] : va_W) [(0, .int p0), (1, .int p1)] 0 []
  have lp18 : ∀ (x0_18 : Int32) (x1_18 : Int32) (k : Option (Int32)) (n : Nat) (x2_18 : Int32), f_X5_segmentBetween_18 x0_18 x1_18 k n x2_18 = some r → (k = some r → xb_G X 0 0 ([] : va_W) [] 46 []) → xb_G X 0 0 ([] : va_W) [(0, .int x0_18), (1, .int x1_18), (2, .int x2_18)] 18 [] := by
    intro x0_18 x1_18 k n
    induction n with
    | zero => intro x2_18 h hk; unfold f_X5_segmentBetween_18 at h; cases h
    | succ n ih =>
      intro x2_18 h hk
      unfold f_X5_segmentBetween_18 at h
      refine xi_iload_n C dX5_segmentBetween_18 rfl 2 rfl ?_
      refine xi_iconst (v := 4) C dX5_segmentBetween_19 (by decide) ?_
      refine xi_icmp_ge (tgt := 46) C dX5_segmentBetween_20 (by decide) (fun c7 => ?_) (fun c7 => ?_)
      · have h := it_i c7 h
        exact xb_lv (hk h) [] rfl
      · have h := ie_i c7 h
        refine xi_iload_n C dX5_segmentBetween_23 rfl 0 rfl ?_
        refine xi_gets C dX5_segmentBetween_24 fl_X5_segmentBetween_213 (fun t8 ht9 => ?_)
        refine xi_iload_n C dX5_segmentBetween_27 rfl 2 rfl ?_
        obtain ⟨v10, e11, h⟩ := ob_i h
        refine xi_sald C dX5_segmentBetween_28 ht9 e11 ?_
        refine xi_iadd C dX5_segmentBetween_29 ?_
        refine xi_iload_n C dX5_segmentBetween_30 rfl 1 rfl ?_
        refine xi_icmp_ne (tgt := 40) C dX5_segmentBetween_31 (by decide) (fun c12 => ?_) (fun c12 => ?_)
        · have h := ie_i c12 h
          refine xi_iinc (v := x2_18 + 1) (lv2 := [(0, .int x0_18), (1, .int x1_18), (2, .int (x2_18 + 1))]) C dX5_segmentBetween_40 2 rfl (by rfl) (by decide) [0, 1] [1, 2, 0] rfl ?_
          refine xi_goto (tgt := 18) C dX5_segmentBetween_43 (by decide) ?_
          exact xb_lv (ih (x2_18 + 1) h hk) [0, 1, 2] rfl
        · have h := it_i c12 h
          refine xi_iload_n C dX5_segmentBetween_34 rfl 0 rfl ?_
          refine xi_iload_n C dX5_segmentBetween_35 rfl 2 rfl ?_
          obtain ⟨v13, e14, h⟩ := ob_i h
          refine xi_callS (As := [.int x0_18, .int x2_18]) (o := some (.int v13)) (rest := []) (w2 := ([] : va_W)) (st2 := [.int v13]) C k_X5_segmentAt (m_X5_segmentAt D cI cC cZ cR x0_18 x2_18 v13 e14) gX5_segmentBetween_X5_segmentAt dX5_segmentBetween_36 ⟨Nat.le_of_ble_eq_true rfl, Nat.le_of_ble_eq_true rfl, Nat.le_of_ble_eq_true rfl⟩ [] rfl rfl [0, 1, 2, 3] rfl rfl rfl rfl (Nat.le_of_ble_eq_true rfl) ⟨Nat.zero_le _, Nat.zero_le _⟩ rfl ?_
          have w0 := Option.some.inj h
          subst w0
          exact xi_iret C Z dX5_segmentBetween_39
  unfold f_X5_segmentBetween at h
  refine xi_iload_n C dX5_segmentBetween_0 rfl 0 rfl ?_
  obtain ⟨v1, e2, h⟩ := ob_i h
  refine xi_callS (As := [.int p0]) (o := some (.int v1)) (rest := []) (w2 := ([] : va_W)) (st2 := [.int v1]) C k_X5_isPlace (m_X5_isPlace D cI cC cZ cR p0 v1 e2) gX5_segmentBetween_X5_isPlace dX5_segmentBetween_1 ⟨Nat.le_of_ble_eq_true rfl, Nat.le_of_ble_eq_true rfl, Nat.le_of_ble_eq_true rfl⟩ [] rfl rfl [0, 1, 2, 3] rfl rfl rfl rfl (Nat.le_of_ble_eq_true rfl) ⟨Nat.zero_le _, Nat.zero_le _⟩ rfl ?_
  refine xi_if_eq (tgt := 14) C dX5_segmentBetween_4 (by decide) (fun c3 => ?_) (fun c3 => ?_)
  · have h := it_i c3 h
    refine xi_iconst (v := (-1)) C dX5_segmentBetween_14 (by decide) ?_
    have w0 := Option.some.inj h
    subst w0
    exact xi_iret C Z dX5_segmentBetween_15
  · have h := ie_i c3 h
    refine xi_iload_n C dX5_segmentBetween_7 rfl 1 rfl ?_
    obtain ⟨v4, e5, h⟩ := ob_i h
    refine xi_callS (As := [.int p1]) (o := some (.int v4)) (rest := []) (w2 := ([] : va_W)) (st2 := [.int v4]) C k_X5_isPlace (m_X5_isPlace D cI cC cZ cR p1 v4 e5) gX5_segmentBetween_X5_isPlace dX5_segmentBetween_8 ⟨Nat.le_of_ble_eq_true rfl, Nat.le_of_ble_eq_true rfl, Nat.le_of_ble_eq_true rfl⟩ [] rfl rfl [0, 1, 2, 3] rfl rfl rfl rfl (Nat.le_of_ble_eq_true rfl) ⟨Nat.zero_le _, Nat.zero_le _⟩ rfl ?_
    refine xi_if_ne (tgt := 16) C dX5_segmentBetween_11 (by decide) (fun c6 => ?_) (fun c6 => ?_)
    · have h := ie_i c6 h
      refine xi_iconst (v := 0) C dX5_segmentBetween_16 (by decide) ?_
      refine xi_istore_n (lv2 := [(0, .int p0), (1, .int p1), (2, .int 0)]) C dX5_segmentBetween_17 rfl (by decide) [0, 1] [1, 2, 0] rfl ?_
      refine xb_lv (lp18 p0 p1 _ xFu 0 h (fun h => ?_)) [0, 1, 2] rfl
      refine xi_iconst (v := (-1)) C dX5_segmentBetween_46 (by decide) ?_
      have w0 := Option.some.inj h
      subst w0
      exact xi_iret C Z dX5_segmentBetween_47
    · have h := it_i c6 h
      refine xi_iconst (v := (-1)) C dX5_segmentBetween_14 (by decide) ?_
      have w0 := Option.some.inj h
      subst w0
      exact xi_iret C Z dX5_segmentBetween_15
def f_X0_removeWire_6 (S : Nat → Int32) (L_6 : Nat → Int32) (J : Nat → Int32) (x1_6 : Int32) (k : (Nat → Int32) → Option ((Nat → Int32) × (Nat → Int32))) : Nat → Int32 → (Nat → Int32) → Option ((Nat → Int32) × (Nat → Int32))
  | 0, _, _ => none
  | n + 1, x2_6, E_6 =>
    if x2_6 ≤ 0 then
      k E_6
    else
      (f_X0_junctionAt S L_6 J x1_6 (x2_6 - 1)).bind fun v4 =>
      (f_X0_junctionAt S L_6 J x1_6 x2_6).bind fun v6 =>
      (f_X5_segmentBetween v4 v6).bind fun v8 =>
      if v8 = (-1) then
        f_X0_removeWire_6 S L_6 J x1_6 k n (x2_6 + (-1)) E_6
      else
        (xr_d E_6 48 v8).bind fun v11 =>
        (xr_w E_6 48 v8 (v11 - 1)).bind fun E14 =>
        f_X0_removeWire_6 S L_6 J x1_6 k n (x2_6 + (-1)) E14
def f_X0_removeWire (S : Nat → Int32) (L : Nat → Int32) (J : Nat → Int32) (E : Nat → Int32) (p1 : Int32) : Option ((Nat → Int32) × (Nat → Int32)) :=
  (f_X0_lengthOf L p1).bind fun v1 =>
  f_X0_removeWire_6 S L J p1 (fun Ez15 =>
    (f_X5_isWire p1).bind fun v16 =>
    if v16 = 0 then
      some (L, Ez15)
    else
      (xr_w L 72 p1 0).bind fun L20 =>
      some (L20, Ez15)) xFu v1 E
theorem k_X0_removeWire : xb_Y yX0_removeWire cX0_removeWire wsX0_removeWire 4 none { frames := 3, cells := 0, slots := 0, locals := 65 } 1 := ⟨⟨_, rfl⟩, by decide, ⟨by decide, by decide, by decide +kernel⟩, rfl, rfl⟩
theorem fl_X0_removeWire_18 : Cond.fieldLink RX0 18 "LookupBoard$Board" "lengths" "[I" ∈ wsX0_removeWire := List.mem_of_getElem? (i := 2) rfl
theorem fl_X0_removeWire_24 : Cond.fieldLink RX0 24 "LookupBoard$Board" "wiresHeld" "[I" ∈ wsX0_removeWire := List.mem_of_getElem? (i := 1) rfl
theorem iw_X0_removeWire_0 : ∀ w ∈ wsX00, w ∈ wsX0_removeWire := fun w h => List.mem_cons_of_mem _ (List.mem_append_right _ h)
set_option maxHeartbeats 4000000 in
set_option maxRecDepth 100000 in
theorem m_X0_removeWire (D : va_G) (cI cC cZ cR : ClassId) (b0 b1 b2 b3 b4 b5 : Nat) (T : Nat → Int32) (S : Nat → Int32) (L : Nat → Int32) (J : Nat → Int32) (E : Nat → Int32) (cp : Int32) (su : Int32) (p1 : Int32) (L' : Nat → Int32) (E' : Nat → Int32) (h : f_X0_removeWire S L J E p1 = some (L', E')) : xb_M cX0_removeWire wsX0_removeWire RX0 { frames := 3, cells := 0, slots := 0, locals := 65 } none 4 (xb_ty cI cC cZ cR) D [.ref b0, .int p1] (wBd cI b0 b1 b2 b3 b4 b5 T S L J E cp su) none (wBd cI b0 b1 b2 b3 b4 b5 T S L' J E' cp su) := by
  intro X C Z
  show xb_G X 0 0 (wBd cI b0 b1 b2 b3 b4 b5 T S L J E cp su) [(0, .ref b0), (1, .int p1)] 0 []
  have lp6 : ∀ (L_6 : Nat → Int32) (x1_6 : Int32) (k : (Nat → Int32) → Option ((Nat → Int32) × (Nat → Int32))) (n : Nat) (x2_6 : Int32) (E_6 : Nat → Int32), f_X0_removeWire_6 S L_6 J x1_6 k n x2_6 E_6 = some (L', E') → (∀ (E_6e : Nat → Int32), k E_6e = some (L', E') → xb_G X 0 0 (wBd cI b0 b1 b2 b3 b4 b5 T S L_6 J E_6e cp su) [(0, .ref b0), (1, .int x1_6)] 49 []) → xb_G X 0 0 (wBd cI b0 b1 b2 b3 b4 b5 T S L_6 J E_6 cp su) [(0, .ref b0), (1, .int x1_6), (2, .int x2_6)] 6 [] := by
    intro L_6 x1_6 k n
    induction n with
    | zero => intro x2_6 E_6 h hk; unfold f_X0_removeWire_6 at h; cases h
    | succ n ih =>
      intro x2_6 E_6 h hk
      unfold f_X0_removeWire_6 at h
      refine xi_iload_n C dX0_removeWire_6 rfl 2 rfl ?_
      refine xi_if_le (tgt := 49) C dX0_removeWire_7 (by decide) (fun c3 => ?_) (fun c3 => ?_)
      · have h := it_i c3 h
        exact xb_lv (hk E_6 h) [0, 1] rfl
      · have h := ie_i c3 h
        refine xi_aload_n C dX0_removeWire_10 rfl 0 rfl ?_
        refine xi_iload_n C dX0_removeWire_11 rfl 1 rfl ?_
        refine xi_iload_n C dX0_removeWire_12 rfl 2 rfl ?_
        refine xi_iconst (v := 1) C dX0_removeWire_13 (by decide) ?_
        refine xi_isub C dX0_removeWire_14 ?_
        obtain ⟨v4, e5, h⟩ := ob_i h
        refine xi_callV (As := [.int x1_6, .int (x2_6 - 1)]) (o := some (.int v4)) (rest := []) (w2 := (wBd cI b0 b1 b2 b3 b4 b5 T S L_6 J E_6 cp su)) (st2 := [.int v4]) C k_X0_junctionAt (m_X0_junctionAt D cI cC cZ cR b0 b1 b2 b3 b4 b5 T S L_6 J E_6 cp su x1_6 (x2_6 - 1) v4 e5) gX0_removeWire_X0_junctionAt dX0_removeWire_15 ⟨Nat.le_of_ble_eq_true rfl, Nat.le_of_ble_eq_true rfl, Nat.le_of_ble_eq_true rfl⟩ 0 rfl rfl [0, 1, 2, 3, 4, 5] rfl rfl [0, 1, 2, 3] rfl rfl rfl rfl (Nat.le_of_ble_eq_true rfl) ⟨Nat.zero_le _, Nat.zero_le _⟩ rfl ?_
        refine xi_aload_n C dX0_removeWire_18 rfl 0 rfl ?_
        refine xi_iload_n C dX0_removeWire_19 rfl 1 rfl ?_
        refine xi_iload_n C dX0_removeWire_20 rfl 2 rfl ?_
        obtain ⟨v6, e7, h⟩ := ob_i h
        refine xi_callV (As := [.int x1_6, .int x2_6]) (o := some (.int v6)) (rest := [.int v4]) (w2 := (wBd cI b0 b1 b2 b3 b4 b5 T S L_6 J E_6 cp su)) (st2 := [.int v6, .int v4]) C k_X0_junctionAt (m_X0_junctionAt D cI cC cZ cR b0 b1 b2 b3 b4 b5 T S L_6 J E_6 cp su x1_6 x2_6 v6 e7) gX0_removeWire_X0_junctionAt dX0_removeWire_21 ⟨Nat.le_of_ble_eq_true rfl, Nat.le_of_ble_eq_true rfl, Nat.le_of_ble_eq_true rfl⟩ 0 rfl rfl [0, 1, 2, 3, 4, 5] rfl rfl [0, 1, 2, 3] rfl rfl rfl rfl (Nat.le_of_ble_eq_true rfl) ⟨Nat.zero_le _, Nat.zero_le _⟩ rfl ?_
        obtain ⟨v8, e9, h⟩ := ob_i h
        refine xi_callSN (As := [.int v4, .int v6]) (o := some (.int v8)) (rest := []) (w2 := (wBd cI b0 b1 b2 b3 b4 b5 T S L_6 J E_6 cp su)) (st2 := [.int v8]) C k_X5_segmentBetween (m_X5_segmentBetween D cI cC cZ cR v4 v6 v8 e9) gX0_removeWire_X5_segmentBetween_n93 (List.mem_of_getElem? (i := 7) rfl) (List.mem_of_getElem? (i := 9) rfl) (List.mem_of_getElem? (i := 23) rfl) dX0_removeWire_24 ⟨Nat.le_of_ble_eq_true rfl, Nat.le_of_ble_eq_true rfl, Nat.le_of_ble_eq_true rfl⟩ [] rfl rfl [0, 1, 2, 3] rfl rfl rfl rfl (Nat.le_of_ble_eq_true rfl) ⟨Nat.zero_le _, Nat.zero_le _⟩ rfl ?_
        refine xi_istore_n (lv2 := [(0, .ref b0), (1, .int x1_6), (2, .int x2_6), (3, .int v8)]) C dX0_removeWire_27 rfl (by decide) [0, 1, 2] [1, 2, 3, 0] rfl ?_
        refine xi_iload_n C dX0_removeWire_28 rfl 3 rfl ?_
        refine xi_iconst (v := (-1)) C dX0_removeWire_29 (by decide) ?_
        refine xi_icmp_eq (tgt := 43) C dX0_removeWire_30 (by decide) (fun c10 => ?_) (fun c10 => ?_)
        · have h := it_i c10 h
          refine xi_iinc (v := x2_6 + (-1)) (lv2 := [(0, .ref b0), (1, .int x1_6), (2, .int (x2_6 + (-1))), (3, .int v8)]) C dX0_removeWire_43 2 rfl (by rfl) (by decide) [0, 1, 3] [1, 2, 0, 3] rfl ?_
          refine xi_goto (tgt := 6) C dX0_removeWire_46 (by decide) ?_
          exact xb_lv (ih (x2_6 + (-1)) E_6 h hk) [0, 1, 2] rfl
        · have h := ie_i c10 h
          refine xi_aload_n C dX0_removeWire_33 rfl 0 rfl ?_
          refine xi_get C dX0_removeWire_34 iw_X0_removeWire_0 0 rfl rfl 4 (by decide) fl_X0_removeWire_24 rfl ?_
          refine xi_iload_n C dX0_removeWire_37 rfl 3 rfl ?_
          refine xi_dup2 C dX0_removeWire_38 rfl rfl ?_
          obtain ⟨v11, e12, h⟩ := ob_i h
          refine xi_iald C dX0_removeWire_39 5 0 rfl rfl e12 ?_
          refine xi_iconst (v := 1) C dX0_removeWire_40 (by decide) ?_
          refine xi_isub C dX0_removeWire_41 ?_
          obtain ⟨E14, e13, h⟩ := ob_i h
          refine xi_iast (w2 := (wBd cI b0 b1 b2 b3 b4 b5 T S L_6 J E14 cp su)) C dX0_removeWire_42 5 0 rfl rfl e13 rfl ?_
          refine xi_iinc (v := x2_6 + (-1)) (lv2 := [(0, .ref b0), (1, .int x1_6), (2, .int (x2_6 + (-1))), (3, .int v8)]) C dX0_removeWire_43 2 rfl (by rfl) (by decide) [0, 1, 3] [1, 2, 0, 3] rfl ?_
          refine xi_goto (tgt := 6) C dX0_removeWire_46 (by decide) ?_
          exact xb_lv (ih (x2_6 + (-1)) E14 h hk) [0, 1, 2] rfl
  unfold f_X0_removeWire at h
  refine xi_aload_n C dX0_removeWire_0 rfl 0 rfl ?_
  refine xi_iload_n C dX0_removeWire_1 rfl 1 rfl ?_
  obtain ⟨v1, e2, h⟩ := ob_i h
  refine xi_callV (As := [.int p1]) (o := some (.int v1)) (rest := []) (w2 := (wBd cI b0 b1 b2 b3 b4 b5 T S L J E cp su)) (st2 := [.int v1]) C k_X0_lengthOf (m_X0_lengthOf D cI cC cZ cR b0 b1 b2 b3 b4 b5 T S L J E cp su p1 v1 e2) gX0_removeWire_X0_lengthOf dX0_removeWire_2 ⟨Nat.le_of_ble_eq_true rfl, Nat.le_of_ble_eq_true rfl, Nat.le_of_ble_eq_true rfl⟩ 0 rfl rfl [0, 1, 2, 3, 4, 5] rfl rfl [0, 1, 2, 3] rfl rfl rfl rfl (Nat.le_of_ble_eq_true rfl) ⟨Nat.zero_le _, Nat.zero_le _⟩ rfl ?_
  refine xi_istore_n (lv2 := [(0, .ref b0), (1, .int p1), (2, .int v1)]) C dX0_removeWire_5 rfl (by decide) [0, 1] [1, 2, 0] rfl ?_
  refine xb_lv (lp6 L p1 _ xFu v1 E h (fun Ez15 h => ?_)) [0, 1, 2] rfl
  refine xi_iload_n C dX0_removeWire_49 rfl 1 rfl ?_
  obtain ⟨v16, e17, h⟩ := ob_i h
  refine xi_callSN (As := [.int p1]) (o := some (.int v16)) (rest := []) (w2 := (wBd cI b0 b1 b2 b3 b4 b5 T S L J Ez15 cp su)) (st2 := [.int v16]) C k_X5_isWire (m_X5_isWire D cI cC cZ cR p1 v16 e17) gX0_removeWire_X5_isWire_n50 (List.mem_of_getElem? (i := 4) rfl) (List.mem_of_getElem? (i := 9) rfl) (List.mem_of_getElem? (i := 8) rfl) dX0_removeWire_50 ⟨Nat.le_of_ble_eq_true rfl, Nat.le_of_ble_eq_true rfl, Nat.le_of_ble_eq_true rfl⟩ [] rfl rfl [0, 1, 2, 3] rfl rfl rfl rfl (Nat.le_of_ble_eq_true rfl) ⟨Nat.zero_le _, Nat.zero_le _⟩ rfl ?_
  refine xi_if_eq (tgt := 63) C dX0_removeWire_53 (by decide) (fun c18 => ?_) (fun c18 => ?_)
  · have h := it_i c18 h
    have w0 := Option.some.inj h
    obtain ⟨q0, w1⟩ := Prod.mk.inj w0
    subst q0
    subst w1
    exact xi_ret C Z dX0_removeWire_63
  · have h := ie_i c18 h
    refine xi_aload_n C dX0_removeWire_56 rfl 0 rfl ?_
    refine xi_get C dX0_removeWire_57 iw_X0_removeWire_0 0 rfl rfl 2 (by decide) fl_X0_removeWire_18 rfl ?_
    refine xi_iload_n C dX0_removeWire_60 rfl 1 rfl ?_
    refine xi_iconst (v := 0) C dX0_removeWire_61 (by decide) ?_
    obtain ⟨L20, e19, h⟩ := ob_i h
    refine xi_iast (w2 := (wBd cI b0 b1 b2 b3 b4 b5 T S L20 J Ez15 cp su)) C dX0_removeWire_62 3 0 rfl rfl e19 rfl ?_
    have w0 := Option.some.inj h
    obtain ⟨q0, w1⟩ := Prod.mk.inj w0
    subst q0
    subst w1
    exact xi_ret C Z dX0_removeWire_63
def f_X0_removeCell_2 (J : Nat → Int32) (x1_2 : Int32) (k : (Nat → Int32) → (Nat → Int32) → (Nat → Int32) → Option ((Nat → Int32) × (Nat → Int32) × (Nat → Int32) × (Nat → Int32))) : Nat → Int32 → (Nat → Int32) → (Nat → Int32) → (Nat → Int32) → Option ((Nat → Int32) × (Nat → Int32) × (Nat → Int32) × (Nat → Int32))
  | 0, _, _, _, _ => none
  | n + 1, x2_2, S_2, L_2, E_2 =>
    if 3 ≤ x2_2 then
      k S_2 L_2 E_2
    else
      (f_X0_removeWire S_2 L_2 J E_2 ((x1_2 * 3) + x2_2)).bind fun (L2, E3) =>
      (f_X0_changeSource S_2 ((x1_2 * 3) + x2_2) 32).bind fun S5 =>
      f_X0_removeCell_2 J x1_2 k n (x2_2 + 1) S5 L2 E3
def f_X0_removeCell (T : Nat → Int32) (S : Nat → Int32) (L : Nat → Int32) (J : Nat → Int32) (E : Nat → Int32) (p1 : Int32) : Option ((Nat → Int32) × (Nat → Int32) × (Nat → Int32) × (Nat → Int32)) :=
  f_X0_removeCell_2 J p1 (fun Sz7 Lz7 Ez7 =>
    (f_X0_changeTable T p1 (-1)).bind fun T8 =>
    some (T8, Sz7, Lz7, Ez7)) xFu 0 S L E
theorem k_X0_removeCell : xb_Y yX0_removeCell cX0_removeCell wsX0_removeCell 3 none { frames := 4, cells := 0, slots := 0, locals := 88 } 1 := ⟨⟨_, rfl⟩, by decide, ⟨by decide, by decide, by decide +kernel⟩, rfl, rfl⟩
set_option maxHeartbeats 4000000 in
set_option maxRecDepth 100000 in
theorem m_X0_removeCell (D : va_G) (cI cC cZ cR : ClassId) (b0 b1 b2 b3 b4 b5 : Nat) (T : Nat → Int32) (S : Nat → Int32) (L : Nat → Int32) (J : Nat → Int32) (E : Nat → Int32) (cp : Int32) (su : Int32) (p1 : Int32) (T' : Nat → Int32) (S' : Nat → Int32) (L' : Nat → Int32) (E' : Nat → Int32) (h : f_X0_removeCell T S L J E p1 = some (T', S', L', E')) : xb_M cX0_removeCell wsX0_removeCell RX0 { frames := 4, cells := 0, slots := 0, locals := 88 } none 3 (xb_ty cI cC cZ cR) D [.ref b0, .int p1] (wBd cI b0 b1 b2 b3 b4 b5 T S L J E cp su) none (wBd cI b0 b1 b2 b3 b4 b5 T' S' L' J E' cp su) := by
  intro X C Z
  show xb_G X 0 0 (wBd cI b0 b1 b2 b3 b4 b5 T S L J E cp su) [(0, .ref b0), (1, .int p1)] 0 []
  have lp2 : ∀ (T_2 : Nat → Int32) (x1_2 : Int32) (k : (Nat → Int32) → (Nat → Int32) → (Nat → Int32) → Option ((Nat → Int32) × (Nat → Int32) × (Nat → Int32) × (Nat → Int32))) (n : Nat) (x2_2 : Int32) (S_2 : Nat → Int32) (L_2 : Nat → Int32) (E_2 : Nat → Int32), f_X0_removeCell_2 J x1_2 k n x2_2 S_2 L_2 E_2 = some (T', S', L', E') → (∀ (S_2e : Nat → Int32) (L_2e : Nat → Int32) (E_2e : Nat → Int32), k S_2e L_2e E_2e = some (T', S', L', E') → xb_G X 0 0 (wBd cI b0 b1 b2 b3 b4 b5 T_2 S_2e L_2e J E_2e cp su) [(0, .ref b0), (1, .int x1_2)] 33 []) → xb_G X 0 0 (wBd cI b0 b1 b2 b3 b4 b5 T_2 S_2 L_2 J E_2 cp su) [(0, .ref b0), (1, .int x1_2), (2, .int x2_2)] 2 [] := by
    intro T_2 x1_2 k n
    induction n with
    | zero => intro x2_2 S_2 L_2 E_2 h hk; unfold f_X0_removeCell_2 at h; cases h
    | succ n ih =>
      intro x2_2 S_2 L_2 E_2 h hk
      unfold f_X0_removeCell_2 at h
      refine xi_iload_n C dX0_removeCell_2 rfl 2 rfl ?_
      refine xi_iconst (v := 3) C dX0_removeCell_3 (by decide) ?_
      refine xi_icmp_ge (tgt := 33) C dX0_removeCell_4 (by decide) (fun c1 => ?_) (fun c1 => ?_)
      · have h := it_i c1 h
        exact xb_lv (hk S_2 L_2 E_2 h) [0, 1] rfl
      · have h := ie_i c1 h
        refine xi_aload_n C dX0_removeCell_7 rfl 0 rfl ?_
        refine xi_iload_n C dX0_removeCell_8 rfl 1 rfl ?_
        refine xi_iconst (v := 3) C dX0_removeCell_9 (by decide) ?_
        refine xi_imul C dX0_removeCell_10 ?_
        refine xi_iload_n C dX0_removeCell_11 rfl 2 rfl ?_
        refine xi_iadd C dX0_removeCell_12 ?_
        obtain ⟨⟨L2, E3⟩, e4, h⟩ := ob_i h
        refine xi_callV (As := [.int ((x1_2 * 3) + x2_2)]) (o := none) (rest := []) (w2 := (wBd cI b0 b1 b2 b3 b4 b5 T_2 S_2 L2 J E3 cp su)) (st2 := []) C k_X0_removeWire (m_X0_removeWire D cI cC cZ cR b0 b1 b2 b3 b4 b5 T_2 S_2 L_2 J E_2 cp su ((x1_2 * 3) + x2_2) L2 E3 e4) gX0_removeCell_X0_removeWire dX0_removeCell_13 ⟨Nat.le_of_ble_eq_true rfl, Nat.le_of_ble_eq_true rfl, Nat.le_of_ble_eq_true rfl⟩ 0 rfl rfl [0, 1, 2, 3, 4, 5] rfl rfl [0, 1, 2, 3] rfl rfl rfl rfl (Nat.le_of_ble_eq_true rfl) ⟨Nat.zero_le _, Nat.zero_le _⟩ rfl ?_
        refine xi_aload_n C dX0_removeCell_16 rfl 0 rfl ?_
        refine xi_iload_n C dX0_removeCell_17 rfl 1 rfl ?_
        refine xi_iconst (v := 3) C dX0_removeCell_18 (by decide) ?_
        refine xi_imul C dX0_removeCell_19 ?_
        refine xi_iload_n C dX0_removeCell_20 rfl 2 rfl ?_
        refine xi_iadd C dX0_removeCell_21 ?_
        refine xi_bipush (v := 32) C dX0_removeCell_22 (by decide) ?_
        obtain ⟨S5, e6, h⟩ := ob_i h
        refine xi_callV (As := [.int ((x1_2 * 3) + x2_2), .int 32]) (o := none) (rest := []) (w2 := (wBd cI b0 b1 b2 b3 b4 b5 T_2 S5 L2 J E3 cp su)) (st2 := []) C k_X0_changeSource (m_X0_changeSource D cI cC cZ cR b0 b1 b2 b3 b4 b5 T_2 S_2 L2 J E3 cp su ((x1_2 * 3) + x2_2) 32 S5 e6) gX0_removeCell_X0_changeSource dX0_removeCell_24 ⟨Nat.le_of_ble_eq_true rfl, Nat.le_of_ble_eq_true rfl, Nat.le_of_ble_eq_true rfl⟩ 0 rfl rfl [0, 1, 2, 3, 4, 5] rfl rfl [0, 1, 2, 3] rfl rfl rfl rfl (Nat.le_of_ble_eq_true rfl) ⟨Nat.zero_le _, Nat.zero_le _⟩ rfl ?_
        refine xi_iinc (v := x2_2 + 1) (lv2 := [(0, .ref b0), (1, .int x1_2), (2, .int (x2_2 + 1))]) C dX0_removeCell_27 2 rfl (by rfl) (by decide) [0, 1] [1, 2, 0] rfl ?_
        refine xi_goto (tgt := 2) C dX0_removeCell_30 (by decide) ?_
        exact xb_lv (ih (x2_2 + 1) S5 L2 E3 h hk) [0, 1, 2] rfl
  unfold f_X0_removeCell at h
  refine xi_iconst (v := 0) C dX0_removeCell_0 (by decide) ?_
  refine xi_istore_n (lv2 := [(0, .ref b0), (1, .int p1), (2, .int 0)]) C dX0_removeCell_1 rfl (by decide) [0, 1] [1, 2, 0] rfl ?_
  refine xb_lv (lp2 T p1 _ xFu 0 S L E h (fun Sz7 Lz7 Ez7 h => ?_)) [0, 1, 2] rfl
  refine xi_aload_n C dX0_removeCell_33 rfl 0 rfl ?_
  refine xi_iload_n C dX0_removeCell_34 rfl 1 rfl ?_
  refine xi_iconst (v := (-1)) C dX0_removeCell_35 (by decide) ?_
  obtain ⟨T8, e9, h⟩ := ob_i h
  refine xi_callV (As := [.int p1, .int (-1)]) (o := none) (rest := []) (w2 := (wBd cI b0 b1 b2 b3 b4 b5 T8 Sz7 Lz7 J Ez7 cp su)) (st2 := []) C k_X0_changeTable (m_X0_changeTable D cI cC cZ cR b0 b1 b2 b3 b4 b5 T Sz7 Lz7 J Ez7 cp su p1 (-1) T8 e9) gX0_removeCell_X0_changeTable dX0_removeCell_36 ⟨Nat.le_of_ble_eq_true rfl, Nat.le_of_ble_eq_true rfl, Nat.le_of_ble_eq_true rfl⟩ 0 rfl rfl [0, 1, 2, 3, 4, 5] rfl rfl [0, 1, 2, 3] rfl rfl rfl rfl (Nat.le_of_ble_eq_true rfl) ⟨Nat.zero_le _, Nat.zero_le _⟩ rfl ?_
  have w0 := Option.some.inj h
  obtain ⟨q0, w1⟩ := Prod.mk.inj w0
  obtain ⟨q1, w2⟩ := Prod.mk.inj w1
  obtain ⟨q2, w3⟩ := Prod.mk.inj w2
  subst q0
  subst q1
  subst q2
  subst w3
  exact xi_ret C Z dX0_removeCell_39
def f_J7_fill_53178_5 (N : Nat) (x1_5 : Int32) (x3_5 : Int32) (k : (Nat → Int32) → Option ((Nat → Int32))) : Nat → Int32 → (Nat → Int32) → Option ((Nat → Int32))
  | 0, _, _ => none
  | n + 1, x2_5, f_5 =>
    if x3_5 ≤ x2_5 then
      k f_5
    else
      (xr_w f_5 N x2_5 x1_5).bind fun f3 =>
      f_J7_fill_53178_5 N x1_5 x3_5 k n (x2_5 + 1) f3
def f_J7_fill_53178 (N : Nat) (f : Nat → Int32) (p1 : Int32) : Option ((Nat → Int32)) :=
  f_J7_fill_53178_5 N p1 (Int32.ofNat N) (fun fz4 =>
    some fz4) xFu 0 f
theorem k_J7_fill_53178 : xb_Y yJ7_fill_53178 cJ7_fill_53178 wsJ7_fill_53178 4 none { frames := 0, cells := 0, slots := 0, locals := 0 } 2 := ⟨⟨_, rfl⟩, by decide, ⟨by decide, by decide, by decide +kernel⟩, rfl, rfl⟩
set_option maxHeartbeats 4000000 in
set_option maxRecDepth 100000 in
theorem m_J7_fill_53178 (D : va_G) (cI : ClassId) (N : Nat) (q : Nat) (f : Nat → Int32) (p1 : Int32) (f' : Nat → Int32) (h : f_J7_fill_53178 N f p1 = some f') : xb_M cJ7_fill_53178 wsJ7_fill_53178 RJ7 { frames := 0, cells := 0, slots := 0, locals := 0 } none 4 ([(cI, FieldType.int)]) D [.ref q, .int p1] (wAr cI q N f) none (wAr cI q N f') := by
  intro X C Z
  show xb_G X 0 0 (wAr cI q N f) [(0, .ref q), (1, .int p1)] 0 []
  have lp5 : ∀ (x1_5 : Int32) (x3_5 : Int32) (k : (Nat → Int32) → Option ((Nat → Int32))) (n : Nat) (x2_5 : Int32) (f_5 : Nat → Int32), f_J7_fill_53178_5 N x1_5 x3_5 k n x2_5 f_5 = some f' → (∀ (f_5e : Nat → Int32), k f_5e = some f' → xb_G X 0 0 (wAr cI q N f_5e) [] 20 []) → xb_G X 0 0 (wAr cI q N f_5) [(0, .ref q), (1, .int x1_5), (2, .int x2_5), (3, .int x3_5)] 5 [] := by
    intro x1_5 x3_5 k n
    induction n with
    | zero => intro x2_5 f_5 h hk; unfold f_J7_fill_53178_5 at h; cases h
    | succ n ih =>
      intro x2_5 f_5 h hk
      unfold f_J7_fill_53178_5 at h
      refine xi_iload_n C dJ7_fill_53178_5 rfl 2 rfl ?_
      refine xi_iload_n C dJ7_fill_53178_6 rfl 3 rfl ?_
      refine xi_icmp_ge (tgt := 20) C dJ7_fill_53178_7 (by decide) (fun c1 => ?_) (fun c1 => ?_)
      · have h := it_i c1 h
        exact xb_lv (hk f_5 h) [] rfl
      · have h := ie_i c1 h
        refine xi_aload_n C dJ7_fill_53178_10 rfl 0 rfl ?_
        refine xi_iload_n C dJ7_fill_53178_11 rfl 2 rfl ?_
        refine xi_iload_n C dJ7_fill_53178_12 rfl 1 rfl ?_
        obtain ⟨f3, e2, h⟩ := ob_i h
        refine xi_iast (w2 := (wAr cI q N f3)) C dJ7_fill_53178_13 0 0 rfl rfl e2 rfl ?_
        refine xi_iinc (v := x2_5 + 1) (lv2 := [(0, .ref q), (1, .int x1_5), (2, .int (x2_5 + 1)), (3, .int x3_5)]) C dJ7_fill_53178_14 2 rfl (by rfl) (by decide) [0, 1, 3] [1, 2, 0, 3] rfl ?_
        refine xi_goto (tgt := 5) C dJ7_fill_53178_17 (by decide) ?_
        exact xb_lv (ih (x2_5 + 1) f3 h hk) [0, 1, 2, 3] rfl
  unfold f_J7_fill_53178 at h
  refine xi_iconst (v := 0) C dJ7_fill_53178_0 (by decide) ?_
  refine xi_istore_n (lv2 := [(0, .ref q), (1, .int p1), (2, .int 0)]) C dJ7_fill_53178_1 rfl (by decide) [0, 1] [1, 2, 0] rfl ?_
  refine xi_aload_n C dJ7_fill_53178_2 rfl 0 rfl ?_
  refine xi_alen (v := Int32.ofNat N) C dJ7_fill_53178_3 0 0 rfl rfl rfl ?_
  refine xi_istore_n (lv2 := [(0, .ref q), (1, .int p1), (2, .int 0), (3, .int (Int32.ofNat N))]) C dJ7_fill_53178_4 rfl (by decide) [0, 1, 2] [1, 2, 3, 0] rfl ?_
  refine xb_lv (lp5 p1 (Int32.ofNat N) _ xFu 0 f h (fun fz4 h => ?_)) [0, 1, 2, 3] rfl
  have w0 := Option.some.inj h
  subst w0
  exact xi_ret C Z dJ7_fill_53178_20
def f_X0_removeAllWires (L : Nat → Int32) (E : Nat → Int32) : Option ((Nat → Int32) × (Nat → Int32)) :=
  (f_J7_fill_53178 72 L 0).bind fun f1 =>
  (f_J7_fill_53178 48 E 0).bind fun f3 =>
  some (f1, f3)
theorem k_X0_removeAllWires : xb_Y yX0_removeAllWires cX0_removeAllWires wsX0_removeAllWires 1 none { frames := 1, cells := 0, slots := 0, locals := 23 } 0 := ⟨⟨_, rfl⟩, by decide, ⟨by decide, by decide, by decide +kernel⟩, rfl, rfl⟩
theorem fl_X0_removeAllWires_18 : Cond.fieldLink RX0 18 "LookupBoard$Board" "lengths" "[I" ∈ wsX0_removeAllWires := List.mem_of_getElem? (i := 1) rfl
theorem fl_X0_removeAllWires_24 : Cond.fieldLink RX0 24 "LookupBoard$Board" "wiresHeld" "[I" ∈ wsX0_removeAllWires := List.mem_of_getElem? (i := 2) rfl
theorem iw_X0_removeAllWires_0 : ∀ w ∈ wsX00, w ∈ wsX0_removeAllWires := fun w h => List.mem_cons_of_mem _ (List.mem_append_right _ h)
set_option maxHeartbeats 4000000 in
set_option maxRecDepth 100000 in
theorem m_X0_removeAllWires (D : va_G) (cI cC cZ cR : ClassId) (b0 b1 b2 b3 b4 b5 : Nat) (T : Nat → Int32) (S : Nat → Int32) (L : Nat → Int32) (J : Nat → Int32) (E : Nat → Int32) (cp : Int32) (su : Int32) (L' : Nat → Int32) (E' : Nat → Int32) (h : f_X0_removeAllWires L E = some (L', E')) : xb_M cX0_removeAllWires wsX0_removeAllWires RX0 { frames := 1, cells := 0, slots := 0, locals := 23 } none 1 (xb_ty cI cC cZ cR) D [.ref b0] (wBd cI b0 b1 b2 b3 b4 b5 T S L J E cp su) none (wBd cI b0 b1 b2 b3 b4 b5 T S L' J E' cp su) := by
  intro X C Z
  show xb_G X 0 0 (wBd cI b0 b1 b2 b3 b4 b5 T S L J E cp su) [(0, .ref b0)] 0 []
  unfold f_X0_removeAllWires at h
  refine xi_aload_n C dX0_removeAllWires_0 rfl 0 rfl ?_
  refine xi_get C dX0_removeAllWires_1 iw_X0_removeAllWires_0 0 rfl rfl 2 (by decide) fl_X0_removeAllWires_18 rfl ?_
  refine xi_iconst (v := 0) C dX0_removeAllWires_4 (by decide) ?_
  obtain ⟨f1, e2, h⟩ := ob_i h
  refine xi_callS (As := [.ref b3, .int 0]) (o := none) (rest := []) (w2 := (wBd cI b0 b1 b2 b3 b4 b5 T S f1 J E cp su)) (st2 := []) C k_J7_fill_53178 (m_J7_fill_53178 D cI 72 b3 L 0 f1 e2) gX0_removeAllWires_J7_fill_53178 dX0_removeAllWires_5 ⟨Nat.le_of_ble_eq_true rfl, Nat.le_of_ble_eq_true rfl, Nat.le_of_ble_eq_true rfl⟩ [3] rfl rfl [0] rfl rfl rfl rfl (Nat.le_of_ble_eq_true rfl) ⟨Nat.zero_le _, Nat.zero_le _⟩ rfl ?_
  refine xi_aload_n C dX0_removeAllWires_8 rfl 0 rfl ?_
  refine xi_get C dX0_removeAllWires_9 iw_X0_removeAllWires_0 0 rfl rfl 4 (by decide) fl_X0_removeAllWires_24 rfl ?_
  refine xi_iconst (v := 0) C dX0_removeAllWires_12 (by decide) ?_
  obtain ⟨f3, e4, h⟩ := ob_i h
  refine xi_callS (As := [.ref b5, .int 0]) (o := none) (rest := []) (w2 := (wBd cI b0 b1 b2 b3 b4 b5 T S f1 J f3 cp su)) (st2 := []) C k_J7_fill_53178 (m_J7_fill_53178 D cI 48 b5 E 0 f3 e4) gX0_removeAllWires_J7_fill_53178 dX0_removeAllWires_13 ⟨Nat.le_of_ble_eq_true rfl, Nat.le_of_ble_eq_true rfl, Nat.le_of_ble_eq_true rfl⟩ [5] rfl rfl [0] rfl rfl rfl rfl (Nat.le_of_ble_eq_true rfl) ⟨Nat.zero_le _, Nat.zero_le _⟩ rfl ?_
  have w0 := Option.some.inj h
  obtain ⟨q0, w1⟩ := Prod.mk.inj w0
  subst q0
  subst w1
  exact xi_ret C Z dX0_removeAllWires_16
def f_X0_removeAllCells (T : Nat → Int32) (S : Nat → Int32) (L : Nat → Int32) (E : Nat → Int32) : Option ((Nat → Int32) × (Nat → Int32) × (Nat → Int32) × (Nat → Int32)) :=
  (f_X0_removeAllWires L E).bind fun (L1, E2) =>
  (f_J7_fill_53178 24 T (-1)).bind fun f4 =>
  (f_J7_fill_53178 72 S 32).bind fun f6 =>
  some (f4, f6, L1, E2)
theorem k_X0_removeAllCells : xb_Y yX0_removeAllCells cX0_removeAllCells wsX0_removeAllCells 1 none { frames := 2, cells := 0, slots := 0, locals := 43 } 0 := ⟨⟨_, rfl⟩, by decide, ⟨by decide, by decide, by decide +kernel⟩, rfl, rfl⟩
theorem fl_X0_removeAllCells_9 : Cond.fieldLink RX0 9 "LookupBoard$Board" "tables" "[I" ∈ wsX0_removeAllCells := List.mem_of_getElem? (i := 1) rfl
theorem fl_X0_removeAllCells_15 : Cond.fieldLink RX0 15 "LookupBoard$Board" "sources" "[I" ∈ wsX0_removeAllCells := List.mem_of_getElem? (i := 2) rfl
theorem iw_X0_removeAllCells_0 : ∀ w ∈ wsX00, w ∈ wsX0_removeAllCells := fun w h => List.mem_cons_of_mem _ (List.mem_append_right _ h)
set_option maxHeartbeats 4000000 in
set_option maxRecDepth 100000 in
theorem m_X0_removeAllCells (D : va_G) (cI cC cZ cR : ClassId) (b0 b1 b2 b3 b4 b5 : Nat) (T : Nat → Int32) (S : Nat → Int32) (L : Nat → Int32) (J : Nat → Int32) (E : Nat → Int32) (cp : Int32) (su : Int32) (T' : Nat → Int32) (S' : Nat → Int32) (L' : Nat → Int32) (E' : Nat → Int32) (h : f_X0_removeAllCells T S L E = some (T', S', L', E')) : xb_M cX0_removeAllCells wsX0_removeAllCells RX0 { frames := 2, cells := 0, slots := 0, locals := 43 } none 1 (xb_ty cI cC cZ cR) D [.ref b0] (wBd cI b0 b1 b2 b3 b4 b5 T S L J E cp su) none (wBd cI b0 b1 b2 b3 b4 b5 T' S' L' J E' cp su) := by
  intro X C Z
  show xb_G X 0 0 (wBd cI b0 b1 b2 b3 b4 b5 T S L J E cp su) [(0, .ref b0)] 0 []
  unfold f_X0_removeAllCells at h
  refine xi_aload_n C dX0_removeAllCells_0 rfl 0 rfl ?_
  obtain ⟨⟨L1, E2⟩, e3, h⟩ := ob_i h
  refine xi_callV (As := []) (o := none) (rest := []) (w2 := (wBd cI b0 b1 b2 b3 b4 b5 T S L1 J E2 cp su)) (st2 := []) C k_X0_removeAllWires (m_X0_removeAllWires D cI cC cZ cR b0 b1 b2 b3 b4 b5 T S L J E cp su L1 E2 e3) gX0_removeAllCells_X0_removeAllWires dX0_removeAllCells_1 ⟨Nat.le_of_ble_eq_true rfl, Nat.le_of_ble_eq_true rfl, Nat.le_of_ble_eq_true rfl⟩ 0 rfl rfl [0, 1, 2, 3, 4, 5] rfl rfl [0, 1, 2, 3] rfl rfl rfl rfl (Nat.le_of_ble_eq_true rfl) ⟨Nat.zero_le _, Nat.zero_le _⟩ rfl ?_
  refine xi_aload_n C dX0_removeAllCells_4 rfl 0 rfl ?_
  refine xi_get C dX0_removeAllCells_5 iw_X0_removeAllCells_0 0 rfl rfl 0 (by decide) fl_X0_removeAllCells_9 rfl ?_
  refine xi_iconst (v := (-1)) C dX0_removeAllCells_8 (by decide) ?_
  obtain ⟨f4, e5, h⟩ := ob_i h
  refine xi_callS (As := [.ref b1, .int (-1)]) (o := none) (rest := []) (w2 := (wBd cI b0 b1 b2 b3 b4 b5 f4 S L1 J E2 cp su)) (st2 := []) C k_J7_fill_53178 (m_J7_fill_53178 D cI 24 b1 T (-1) f4 e5) gX0_removeAllCells_J7_fill_53178 dX0_removeAllCells_9 ⟨Nat.le_of_ble_eq_true rfl, Nat.le_of_ble_eq_true rfl, Nat.le_of_ble_eq_true rfl⟩ [1] rfl rfl [0] rfl rfl rfl rfl (Nat.le_of_ble_eq_true rfl) ⟨Nat.zero_le _, Nat.zero_le _⟩ rfl ?_
  refine xi_aload_n C dX0_removeAllCells_12 rfl 0 rfl ?_
  refine xi_get C dX0_removeAllCells_13 iw_X0_removeAllCells_0 0 rfl rfl 1 (by decide) fl_X0_removeAllCells_15 rfl ?_
  refine xi_bipush (v := 32) C dX0_removeAllCells_16 (by decide) ?_
  obtain ⟨f6, e7, h⟩ := ob_i h
  refine xi_callS (As := [.ref b2, .int 32]) (o := none) (rest := []) (w2 := (wBd cI b0 b1 b2 b3 b4 b5 f4 f6 L1 J E2 cp su)) (st2 := []) C k_J7_fill_53178 (m_J7_fill_53178 D cI 72 b2 S 32 f6 e7) gX0_removeAllCells_J7_fill_53178 dX0_removeAllCells_18 ⟨Nat.le_of_ble_eq_true rfl, Nat.le_of_ble_eq_true rfl, Nat.le_of_ble_eq_true rfl⟩ [2] rfl rfl [0] rfl rfl rfl rfl (Nat.le_of_ble_eq_true rfl) ⟨Nat.zero_le _, Nat.zero_le _⟩ rfl ?_
  have w0 := Option.some.inj h
  obtain ⟨q0, w1⟩ := Prod.mk.inj w0
  obtain ⟨q1, w2⟩ := Prod.mk.inj w1
  obtain ⟨q2, w3⟩ := Prod.mk.inj w2
  subst q0
  subst q1
  subst q2
  subst w3
  exact xi_ret C Z dX0_removeAllCells_21
def f_X0_cells_4 (T : Nat → Int32) (k : Int32 → Option (Int32)) : Nat → Int32 → Int32 → Option (Int32)
  | 0, _, _ => none
  | n + 1, x1_4, x2_4 =>
    if 24 ≤ x2_4 then
      k x1_4
    else
      (f_X0_hasCell T x2_4).bind fun v2 =>
      if v2 = 0 then
        f_X0_cells_4 T k n (x1_4 + 0) (x2_4 + 1)
      else
        f_X0_cells_4 T k n (x1_4 + 1) (x2_4 + 1)
def f_X0_cells (T : Nat → Int32) : Option (Int32) :=
  f_X0_cells_4 T (fun x1z5 =>
    some x1z5) xFu 0 0
theorem k_X0_cells : xb_Y yX0_cells cX0_cells wsX0_cells 3 (some .int) { frames := 2, cells := 0, slots := 0, locals := 41 } 0 := ⟨⟨_, rfl⟩, by decide, ⟨by decide, by decide, by decide +kernel⟩, rfl, rfl⟩
set_option maxHeartbeats 4000000 in
set_option maxRecDepth 100000 in
theorem m_X0_cells (D : va_G) (cI cC cZ cR : ClassId) (b0 b1 b2 b3 b4 b5 : Nat) (T : Nat → Int32) (S : Nat → Int32) (L : Nat → Int32) (J : Nat → Int32) (E : Nat → Int32) (cp : Int32) (su : Int32) (r : Int32) (h : f_X0_cells T = some r) : xb_M cX0_cells wsX0_cells RX0 { frames := 2, cells := 0, slots := 0, locals := 41 } (some .int) 3 (xb_ty cI cC cZ cR) D [.ref b0] (wBd cI b0 b1 b2 b3 b4 b5 T S L J E cp su) (some (.int r)) (wBd cI b0 b1 b2 b3 b4 b5 T S L J E cp su) := by
  intro X C Z
  show xb_G X 0 0 (wBd cI b0 b1 b2 b3 b4 b5 T S L J E cp su) [(0, .ref b0)] 0 []
  have lp4 : ∀ (k : Int32 → Option (Int32)) (n : Nat) (x1_4 : Int32) (x2_4 : Int32), f_X0_cells_4 T k n x1_4 x2_4 = some r → (∀ (x1_4e : Int32), k x1_4e = some r → xb_G X 0 0 (wBd cI b0 b1 b2 b3 b4 b5 T S L J E cp su) [(1, .int x1_4e)] 32 []) → xb_G X 0 0 (wBd cI b0 b1 b2 b3 b4 b5 T S L J E cp su) [(0, .ref b0), (1, .int x1_4), (2, .int x2_4)] 4 [] := by
    intro k n
    induction n with
    | zero => intro x1_4 x2_4 h hk; unfold f_X0_cells_4 at h; cases h
    | succ n ih =>
      intro x1_4 x2_4 h hk
      unfold f_X0_cells_4 at h
      refine xi_iload_n C dX0_cells_4 rfl 2 rfl ?_
      refine xi_bipush (v := 24) C dX0_cells_5 (by decide) ?_
      refine xi_icmp_ge (tgt := 32) C dX0_cells_7 (by decide) (fun c1 => ?_) (fun c1 => ?_)
      · have h := it_i c1 h
        exact xb_lv (hk x1_4 h) [1] rfl
      · have h := ie_i c1 h
        refine xi_iload_n C dX0_cells_10 rfl 1 rfl ?_
        refine xi_aload_n C dX0_cells_11 rfl 0 rfl ?_
        refine xi_iload_n C dX0_cells_12 rfl 2 rfl ?_
        obtain ⟨v2, e3, h⟩ := ob_i h
        refine xi_callV (As := [.int x2_4]) (o := some (.int v2)) (rest := [.int x1_4]) (w2 := (wBd cI b0 b1 b2 b3 b4 b5 T S L J E cp su)) (st2 := [.int v2, .int x1_4]) C k_X0_hasCell (m_X0_hasCell D cI cC cZ cR b0 b1 b2 b3 b4 b5 T S L J E cp su x2_4 v2 e3) gX0_cells_X0_hasCell dX0_cells_13 ⟨Nat.le_of_ble_eq_true rfl, Nat.le_of_ble_eq_true rfl, Nat.le_of_ble_eq_true rfl⟩ 0 rfl rfl [0, 1, 2, 3, 4, 5] rfl rfl [0, 1, 2, 3] rfl rfl rfl rfl (Nat.le_of_ble_eq_true rfl) ⟨Nat.zero_le _, Nat.zero_le _⟩ rfl ?_
        refine xi_if_eq (tgt := 23) C dX0_cells_16 (by decide) (fun c4 => ?_) (fun c4 => ?_)
        · have h := it_i c4 h
          refine xi_iconst (v := 0) C dX0_cells_23 (by decide) ?_
          refine xi_iadd C dX0_cells_24 ?_
          refine xi_istore_n (lv2 := [(0, .ref b0), (1, .int (x1_4 + 0)), (2, .int x2_4)]) C dX0_cells_25 rfl (by decide) [0, 2] [1, 0, 2] rfl ?_
          refine xi_iinc (v := x2_4 + 1) (lv2 := [(0, .ref b0), (1, .int (x1_4 + 0)), (2, .int (x2_4 + 1))]) C dX0_cells_26 2 rfl (by rfl) (by decide) [0, 1] [1, 2, 0] rfl ?_
          refine xi_goto (tgt := 4) C dX0_cells_29 (by decide) ?_
          exact xb_lv (ih (x1_4 + 0) (x2_4 + 1) h hk) [0, 1, 2] rfl
        · have h := ie_i c4 h
          refine xi_iconst (v := 1) C dX0_cells_19 (by decide) ?_
          refine xi_goto (tgt := 24) C dX0_cells_20 (by decide) ?_
          refine xi_iadd C dX0_cells_24 ?_
          refine xi_istore_n (lv2 := [(0, .ref b0), (1, .int (x1_4 + 1)), (2, .int x2_4)]) C dX0_cells_25 rfl (by decide) [0, 2] [1, 0, 2] rfl ?_
          refine xi_iinc (v := x2_4 + 1) (lv2 := [(0, .ref b0), (1, .int (x1_4 + 1)), (2, .int (x2_4 + 1))]) C dX0_cells_26 2 rfl (by rfl) (by decide) [0, 1] [1, 2, 0] rfl ?_
          refine xi_goto (tgt := 4) C dX0_cells_29 (by decide) ?_
          exact xb_lv (ih (x1_4 + 1) (x2_4 + 1) h hk) [0, 1, 2] rfl
  unfold f_X0_cells at h
  refine xi_iconst (v := 0) C dX0_cells_0 (by decide) ?_
  refine xi_istore_n (lv2 := [(0, .ref b0), (1, .int 0)]) C dX0_cells_1 rfl (by decide) [0] [1, 0] rfl ?_
  refine xi_iconst (v := 0) C dX0_cells_2 (by decide) ?_
  refine xi_istore_n (lv2 := [(0, .ref b0), (1, .int 0), (2, .int 0)]) C dX0_cells_3 rfl (by decide) [0, 1] [1, 2, 0] rfl ?_
  refine xb_lv (lp4 _ xFu 0 0 h (fun x1z5 h => ?_)) [0, 1, 2] rfl
  refine xi_iload_n C dX0_cells_32 rfl 0 rfl ?_
  have w0 := Option.some.inj h
  subst w0
  exact xi_iret C Z dX0_cells_33
def f_X0_uses_4 (S : Nat → Int32) (x1_4 : Int32) (k : Int32 → Option (Int32)) : Nat → Int32 → Int32 → Option (Int32)
  | 0, _, _ => none
  | n + 1, x2_4, x3_4 =>
    if 72 ≤ x3_4 then
      k x2_4
    else
      (xr_d S 72 x3_4).bind fun v2 =>
      if v2 = x1_4 then
        f_X0_uses_4 S x1_4 k n (x2_4 + 1) (x3_4 + 1)
      else
        f_X0_uses_4 S x1_4 k n (x2_4 + 0) (x3_4 + 1)
def f_X0_uses (S : Nat → Int32) (p1 : Int32) : Option (Int32) :=
  f_X0_uses_4 S p1 (fun x2z5 =>
    some x2z5) xFu 0 0
theorem k_X0_uses : xb_Y yX0_uses cX0_uses wsX0_uses 4 (some .int) { frames := 0, cells := 0, slots := 0, locals := 0 } 1 := ⟨⟨_, rfl⟩, by decide, ⟨by decide, by decide, by decide +kernel⟩, rfl, rfl⟩
theorem fl_X0_uses_15 : Cond.fieldLink RX0 15 "LookupBoard$Board" "sources" "[I" ∈ wsX0_uses := List.mem_of_getElem? (i := 1) rfl
theorem iw_X0_uses_0 : ∀ w ∈ wsX00, w ∈ wsX0_uses := fun w h => List.mem_cons_of_mem _ (List.mem_append_right _ h)
set_option maxHeartbeats 4000000 in
set_option maxRecDepth 100000 in
theorem m_X0_uses (D : va_G) (cI cC cZ cR : ClassId) (b0 b1 b2 b3 b4 b5 : Nat) (T : Nat → Int32) (S : Nat → Int32) (L : Nat → Int32) (J : Nat → Int32) (E : Nat → Int32) (cp : Int32) (su : Int32) (p1 : Int32) (r : Int32) (h : f_X0_uses S p1 = some r) : xb_M cX0_uses wsX0_uses RX0 { frames := 0, cells := 0, slots := 0, locals := 0 } (some .int) 4 (xb_ty cI cC cZ cR) D [.ref b0, .int p1] (wBd cI b0 b1 b2 b3 b4 b5 T S L J E cp su) (some (.int r)) (wBd cI b0 b1 b2 b3 b4 b5 T S L J E cp su) := by
  intro X C Z
  show xb_G X 0 0 (wBd cI b0 b1 b2 b3 b4 b5 T S L J E cp su) [(0, .ref b0), (1, .int p1)] 0 []
  have lp4 : ∀ (x1_4 : Int32) (k : Int32 → Option (Int32)) (n : Nat) (x2_4 : Int32) (x3_4 : Int32), f_X0_uses_4 S x1_4 k n x2_4 x3_4 = some r → (∀ (x2_4e : Int32), k x2_4e = some r → xb_G X 0 0 (wBd cI b0 b1 b2 b3 b4 b5 T S L J E cp su) [(2, .int x2_4e)] 34 []) → xb_G X 0 0 (wBd cI b0 b1 b2 b3 b4 b5 T S L J E cp su) [(0, .ref b0), (1, .int x1_4), (2, .int x2_4), (3, .int x3_4)] 4 [] := by
    intro x1_4 k n
    induction n with
    | zero => intro x2_4 x3_4 h hk; unfold f_X0_uses_4 at h; cases h
    | succ n ih =>
      intro x2_4 x3_4 h hk
      unfold f_X0_uses_4 at h
      refine xi_iload_n C dX0_uses_4 rfl 3 rfl ?_
      refine xi_bipush (v := 72) C dX0_uses_5 (by decide) ?_
      refine xi_icmp_ge (tgt := 34) C dX0_uses_7 (by decide) (fun c1 => ?_) (fun c1 => ?_)
      · have h := it_i c1 h
        exact xb_lv (hk x2_4 h) [2] rfl
      · have h := ie_i c1 h
        refine xi_iload_n C dX0_uses_10 rfl 2 rfl ?_
        refine xi_aload_n C dX0_uses_11 rfl 0 rfl ?_
        refine xi_get C dX0_uses_12 iw_X0_uses_0 0 rfl rfl 1 (by decide) fl_X0_uses_15 rfl ?_
        refine xi_iload_n C dX0_uses_15 rfl 3 rfl ?_
        obtain ⟨v2, e3, h⟩ := ob_i h
        refine xi_iald C dX0_uses_16 2 0 rfl rfl e3 ?_
        refine xi_iload_n C dX0_uses_17 rfl 1 rfl ?_
        refine xi_icmp_ne (tgt := 25) C dX0_uses_18 (by decide) (fun c4 => ?_) (fun c4 => ?_)
        · have h := ie_i c4 h
          refine xi_iconst (v := 0) C dX0_uses_25 (by decide) ?_
          refine xi_iadd C dX0_uses_26 ?_
          refine xi_istore_n (lv2 := [(0, .ref b0), (1, .int x1_4), (2, .int (x2_4 + 0)), (3, .int x3_4)]) C dX0_uses_27 rfl (by decide) [0, 1, 3] [1, 2, 0, 3] rfl ?_
          refine xi_iinc (v := x3_4 + 1) (lv2 := [(0, .ref b0), (1, .int x1_4), (2, .int (x2_4 + 0)), (3, .int (x3_4 + 1))]) C dX0_uses_28 3 rfl (by rfl) (by decide) [0, 1, 2] [1, 2, 3, 0] rfl ?_
          refine xi_goto (tgt := 4) C dX0_uses_31 (by decide) ?_
          exact xb_lv (ih (x2_4 + 0) (x3_4 + 1) h hk) [0, 1, 2, 3] rfl
        · have h := it_i c4 h
          refine xi_iconst (v := 1) C dX0_uses_21 (by decide) ?_
          refine xi_goto (tgt := 26) C dX0_uses_22 (by decide) ?_
          refine xi_iadd C dX0_uses_26 ?_
          refine xi_istore_n (lv2 := [(0, .ref b0), (1, .int x1_4), (2, .int (x2_4 + 1)), (3, .int x3_4)]) C dX0_uses_27 rfl (by decide) [0, 1, 3] [1, 2, 0, 3] rfl ?_
          refine xi_iinc (v := x3_4 + 1) (lv2 := [(0, .ref b0), (1, .int x1_4), (2, .int (x2_4 + 1)), (3, .int (x3_4 + 1))]) C dX0_uses_28 3 rfl (by rfl) (by decide) [0, 1, 2] [1, 2, 3, 0] rfl ?_
          refine xi_goto (tgt := 4) C dX0_uses_31 (by decide) ?_
          exact xb_lv (ih (x2_4 + 1) (x3_4 + 1) h hk) [0, 1, 2, 3] rfl
  unfold f_X0_uses at h
  refine xi_iconst (v := 0) C dX0_uses_0 (by decide) ?_
  refine xi_istore_n (lv2 := [(0, .ref b0), (1, .int p1), (2, .int 0)]) C dX0_uses_1 rfl (by decide) [0, 1] [1, 2, 0] rfl ?_
  refine xi_iconst (v := 0) C dX0_uses_2 (by decide) ?_
  refine xi_istore_n (lv2 := [(0, .ref b0), (1, .int p1), (2, .int 0), (3, .int 0)]) C dX0_uses_3 rfl (by decide) [0, 1, 2] [1, 2, 3, 0] rfl ?_
  refine xb_lv (lp4 p1 _ xFu 0 0 h (fun x2z5 h => ?_)) [0, 1, 2, 3] rfl
  refine xi_iload_n C dX0_uses_34 rfl 0 rfl ?_
  have w0 := Option.some.inj h
  subst w0
  exact xi_iret C Z dX0_uses_35
def f_X0_usesByOthers_8 (S : Nat → Int32) (x1_8 : Int32) (k : Int32 → Option (Int32)) : Nat → Int32 → Int32 → Option (Int32)
  | 0, _, _ => none
  | n + 1, x2_8, x3_8 =>
    if 3 ≤ x3_8 then
      k x2_8
    else
      (f_X0_sourceOf S ((x1_8 * 3) + x3_8)).bind fun v4 =>
      if v4 = x1_8 then
        f_X0_usesByOthers_8 S x1_8 k n (x2_8 - 1) (x3_8 + 1)
      else
        f_X0_usesByOthers_8 S x1_8 k n (x2_8 - 0) (x3_8 + 1)
def f_X0_usesByOthers (S : Nat → Int32) (p1 : Int32) : Option (Int32) :=
  (f_X0_uses S p1).bind fun v1 =>
  f_X0_usesByOthers_8 S p1 (fun x2z7 =>
    some x2z7) xFu v1 0
theorem k_X0_usesByOthers : xb_Y yX0_usesByOthers cX0_usesByOthers wsX0_usesByOthers 4 (some .int) { frames := 2, cells := 0, slots := 0, locals := 41 } 1 := ⟨⟨_, rfl⟩, by decide, ⟨by decide, by decide, by decide +kernel⟩, rfl, rfl⟩
set_option maxHeartbeats 4000000 in
set_option maxRecDepth 100000 in
theorem m_X0_usesByOthers (D : va_G) (cI cC cZ cR : ClassId) (b0 b1 b2 b3 b4 b5 : Nat) (T : Nat → Int32) (S : Nat → Int32) (L : Nat → Int32) (J : Nat → Int32) (E : Nat → Int32) (cp : Int32) (su : Int32) (p1 : Int32) (r : Int32) (h : f_X0_usesByOthers S p1 = some r) : xb_M cX0_usesByOthers wsX0_usesByOthers RX0 { frames := 2, cells := 0, slots := 0, locals := 41 } (some .int) 4 (xb_ty cI cC cZ cR) D [.ref b0, .int p1] (wBd cI b0 b1 b2 b3 b4 b5 T S L J E cp su) (some (.int r)) (wBd cI b0 b1 b2 b3 b4 b5 T S L J E cp su) := by
  intro X C Z
  show xb_G X 0 0 (wBd cI b0 b1 b2 b3 b4 b5 T S L J E cp su) [(0, .ref b0), (1, .int p1)] 0 []
  have lp8 : ∀ (x1_8 : Int32) (k : Int32 → Option (Int32)) (n : Nat) (x2_8 : Int32) (x3_8 : Int32), f_X0_usesByOthers_8 S x1_8 k n x2_8 x3_8 = some r → (∀ (x2_8e : Int32), k x2_8e = some r → xb_G X 0 0 (wBd cI b0 b1 b2 b3 b4 b5 T S L J E cp su) [(2, .int x2_8e)] 40 []) → xb_G X 0 0 (wBd cI b0 b1 b2 b3 b4 b5 T S L J E cp su) [(0, .ref b0), (1, .int x1_8), (2, .int x2_8), (3, .int x3_8)] 8 [] := by
    intro x1_8 k n
    induction n with
    | zero => intro x2_8 x3_8 h hk; unfold f_X0_usesByOthers_8 at h; cases h
    | succ n ih =>
      intro x2_8 x3_8 h hk
      unfold f_X0_usesByOthers_8 at h
      refine xi_iload_n C dX0_usesByOthers_8 rfl 3 rfl ?_
      refine xi_iconst (v := 3) C dX0_usesByOthers_9 (by decide) ?_
      refine xi_icmp_ge (tgt := 40) C dX0_usesByOthers_10 (by decide) (fun c3 => ?_) (fun c3 => ?_)
      · have h := it_i c3 h
        exact xb_lv (hk x2_8 h) [2] rfl
      · have h := ie_i c3 h
        refine xi_iload_n C dX0_usesByOthers_13 rfl 2 rfl ?_
        refine xi_aload_n C dX0_usesByOthers_14 rfl 0 rfl ?_
        refine xi_iload_n C dX0_usesByOthers_15 rfl 1 rfl ?_
        refine xi_iconst (v := 3) C dX0_usesByOthers_16 (by decide) ?_
        refine xi_imul C dX0_usesByOthers_17 ?_
        refine xi_iload_n C dX0_usesByOthers_18 rfl 3 rfl ?_
        refine xi_iadd C dX0_usesByOthers_19 ?_
        obtain ⟨v4, e5, h⟩ := ob_i h
        refine xi_callV (As := [.int ((x1_8 * 3) + x3_8)]) (o := some (.int v4)) (rest := [.int x2_8]) (w2 := (wBd cI b0 b1 b2 b3 b4 b5 T S L J E cp su)) (st2 := [.int v4, .int x2_8]) C k_X0_sourceOf (m_X0_sourceOf D cI cC cZ cR b0 b1 b2 b3 b4 b5 T S L J E cp su ((x1_8 * 3) + x3_8) v4 e5) gX0_usesByOthers_X0_sourceOf dX0_usesByOthers_20 ⟨Nat.le_of_ble_eq_true rfl, Nat.le_of_ble_eq_true rfl, Nat.le_of_ble_eq_true rfl⟩ 0 rfl rfl [0, 1, 2, 3, 4, 5] rfl rfl [0, 1, 2, 3] rfl rfl rfl rfl (Nat.le_of_ble_eq_true rfl) ⟨Nat.zero_le _, Nat.zero_le _⟩ rfl ?_
        refine xi_iload_n C dX0_usesByOthers_23 rfl 1 rfl ?_
        refine xi_icmp_ne (tgt := 31) C dX0_usesByOthers_24 (by decide) (fun c6 => ?_) (fun c6 => ?_)
        · have h := ie_i c6 h
          refine xi_iconst (v := 0) C dX0_usesByOthers_31 (by decide) ?_
          refine xi_isub C dX0_usesByOthers_32 ?_
          refine xi_istore_n (lv2 := [(0, .ref b0), (1, .int x1_8), (2, .int (x2_8 - 0)), (3, .int x3_8)]) C dX0_usesByOthers_33 rfl (by decide) [0, 1, 3] [1, 2, 0, 3] rfl ?_
          refine xi_iinc (v := x3_8 + 1) (lv2 := [(0, .ref b0), (1, .int x1_8), (2, .int (x2_8 - 0)), (3, .int (x3_8 + 1))]) C dX0_usesByOthers_34 3 rfl (by rfl) (by decide) [0, 1, 2] [1, 2, 3, 0] rfl ?_
          refine xi_goto (tgt := 8) C dX0_usesByOthers_37 (by decide) ?_
          exact xb_lv (ih (x2_8 - 0) (x3_8 + 1) h hk) [0, 1, 2, 3] rfl
        · have h := it_i c6 h
          refine xi_iconst (v := 1) C dX0_usesByOthers_27 (by decide) ?_
          refine xi_goto (tgt := 32) C dX0_usesByOthers_28 (by decide) ?_
          refine xi_isub C dX0_usesByOthers_32 ?_
          refine xi_istore_n (lv2 := [(0, .ref b0), (1, .int x1_8), (2, .int (x2_8 - 1)), (3, .int x3_8)]) C dX0_usesByOthers_33 rfl (by decide) [0, 1, 3] [1, 2, 0, 3] rfl ?_
          refine xi_iinc (v := x3_8 + 1) (lv2 := [(0, .ref b0), (1, .int x1_8), (2, .int (x2_8 - 1)), (3, .int (x3_8 + 1))]) C dX0_usesByOthers_34 3 rfl (by rfl) (by decide) [0, 1, 2] [1, 2, 3, 0] rfl ?_
          refine xi_goto (tgt := 8) C dX0_usesByOthers_37 (by decide) ?_
          exact xb_lv (ih (x2_8 - 1) (x3_8 + 1) h hk) [0, 1, 2, 3] rfl
  unfold f_X0_usesByOthers at h
  refine xi_aload_n C dX0_usesByOthers_0 rfl 0 rfl ?_
  refine xi_iload_n C dX0_usesByOthers_1 rfl 1 rfl ?_
  obtain ⟨v1, e2, h⟩ := ob_i h
  refine xi_callV (As := [.int p1]) (o := some (.int v1)) (rest := []) (w2 := (wBd cI b0 b1 b2 b3 b4 b5 T S L J E cp su)) (st2 := [.int v1]) C k_X0_uses (m_X0_uses D cI cC cZ cR b0 b1 b2 b3 b4 b5 T S L J E cp su p1 v1 e2) gX0_usesByOthers_X0_uses dX0_usesByOthers_2 ⟨Nat.le_of_ble_eq_true rfl, Nat.le_of_ble_eq_true rfl, Nat.le_of_ble_eq_true rfl⟩ 0 rfl rfl [0, 1, 2, 3, 4, 5] rfl rfl [0, 1, 2, 3] rfl rfl rfl rfl (Nat.le_of_ble_eq_true rfl) ⟨Nat.zero_le _, Nat.zero_le _⟩ rfl ?_
  refine xi_istore_n (lv2 := [(0, .ref b0), (1, .int p1), (2, .int v1)]) C dX0_usesByOthers_5 rfl (by decide) [0, 1] [1, 2, 0] rfl ?_
  refine xi_iconst (v := 0) C dX0_usesByOthers_6 (by decide) ?_
  refine xi_istore_n (lv2 := [(0, .ref b0), (1, .int p1), (2, .int v1), (3, .int 0)]) C dX0_usesByOthers_7 rfl (by decide) [0, 1, 2] [1, 2, 3, 0] rfl ?_
  refine xb_lv (lp8 p1 _ xFu v1 0 h (fun x2z7 h => ?_)) [0, 1, 2, 3] rfl
  refine xi_iload_n C dX0_usesByOthers_40 rfl 0 rfl ?_
  have w0 := Option.some.inj h
  subst w0
  exact xi_iret C Z dX0_usesByOthers_41
def f_X0_exchange_84 (x1_84 : Int32) (x2_84 : Int32) (k : (Nat → Int32) → Option ((Nat → Int32) × (Nat → Int32))) : Nat → Int32 → (Nat → Int32) → Option ((Nat → Int32) × (Nat → Int32))
  | 0, _, _ => none
  | n + 1, x4_84, S_84 =>
    if 72 ≤ x4_84 then
      k S_84
    else
      (xr_d S_84 72 x4_84).bind fun v20 =>
      if v20 = x1_84 then
        (xr_w S_84 72 x4_84 x2_84).bind fun S29 =>
        f_X0_exchange_84 x1_84 x2_84 k n (x4_84 + 1) S29
      else
        (xr_d S_84 72 x4_84).bind fun v23 =>
        if v23 = x2_84 then
          (xr_w S_84 72 x4_84 x1_84).bind fun S27 =>
          f_X0_exchange_84 x1_84 x2_84 k n (x4_84 + 1) S27
        else
          f_X0_exchange_84 x1_84 x2_84 k n (x4_84 + 1) S_84
def f_X0_exchange_25 (x1_25 : Int32) (x2_25 : Int32) (k : (Nat → Int32) → Option ((Nat → Int32) × (Nat → Int32))) : Nat → Int32 → (Nat → Int32) → Option ((Nat → Int32) × (Nat → Int32))
  | 0, _, _ => none
  | n + 1, x4_25, S_25 =>
    if 3 ≤ x4_25 then
      k S_25
    else
      (f_X0_sourceOf S_25 ((x1_25 * 3) + x4_25)).bind fun v10 =>
      (f_X0_sourceOf S_25 ((x2_25 * 3) + x4_25)).bind fun v12 =>
      (f_X0_changeSource S_25 ((x1_25 * 3) + x4_25) v12).bind fun S14 =>
      (f_X0_changeSource S14 ((x2_25 * 3) + x4_25) v10).bind fun S16 =>
      f_X0_exchange_25 x1_25 x2_25 k n (x4_25 + 1) S16
def f_X0_exchange (T : Nat → Int32) (S : Nat → Int32) (p1 : Int32) (p2 : Int32) : Option ((Nat → Int32) × (Nat → Int32)) :=
  (f_X0_tableOf T p1).bind fun v1 =>
  (f_X0_tableOf T p2).bind fun v3 =>
  (f_X0_changeTable T p1 v3).bind fun T5 =>
  (f_X0_changeTable T5 p2 v1).bind fun T7 =>
  f_X0_exchange_25 p1 p2 (fun Sz18 =>
    f_X0_exchange_84 p1 p2 (fun Sz30 =>
      some (T7, Sz30)) xFu 0 Sz18) xFu 0 S
theorem k_X0_exchange : xb_Y yX0_exchange cX0_exchange wsX0_exchange 6 none { frames := 2, cells := 0, slots := 0, locals := 42 } 2 := ⟨⟨_, rfl⟩, by decide, ⟨by decide, by decide, by decide +kernel⟩, rfl, rfl⟩
theorem fl_X0_exchange_15 : Cond.fieldLink RX0 15 "LookupBoard$Board" "sources" "[I" ∈ wsX0_exchange := List.mem_of_getElem? (i := 1) rfl
theorem iw_X0_exchange_0 : ∀ w ∈ wsX00, w ∈ wsX0_exchange := fun w h => List.mem_cons_of_mem _ (List.mem_append_right _ h)
set_option maxHeartbeats 4000000 in
set_option maxRecDepth 100000 in
theorem m_X0_exchange (D : va_G) (cI cC cZ cR : ClassId) (b0 b1 b2 b3 b4 b5 : Nat) (T : Nat → Int32) (S : Nat → Int32) (L : Nat → Int32) (J : Nat → Int32) (E : Nat → Int32) (cp : Int32) (su : Int32) (p1 : Int32) (p2 : Int32) (T' : Nat → Int32) (S' : Nat → Int32) (h : f_X0_exchange T S p1 p2 = some (T', S')) : xb_M cX0_exchange wsX0_exchange RX0 { frames := 2, cells := 0, slots := 0, locals := 42 } none 6 (xb_ty cI cC cZ cR) D [.ref b0, .int p1, .int p2] (wBd cI b0 b1 b2 b3 b4 b5 T S L J E cp su) none (wBd cI b0 b1 b2 b3 b4 b5 T' S' L J E cp su) := by
  intro X C Z
  show xb_G X 0 0 (wBd cI b0 b1 b2 b3 b4 b5 T S L J E cp su) [(0, .ref b0), (1, .int p1), (2, .int p2)] 0 []
  have lp84 : ∀ (T_84 : Nat → Int32) (x1_84 : Int32) (x2_84 : Int32) (k : (Nat → Int32) → Option ((Nat → Int32) × (Nat → Int32))) (n : Nat) (x4_84 : Int32) (S_84 : Nat → Int32), f_X0_exchange_84 x1_84 x2_84 k n x4_84 S_84 = some (T', S') → (∀ (S_84e : Nat → Int32), k S_84e = some (T', S') → xb_G X 0 0 (wBd cI b0 b1 b2 b3 b4 b5 T_84 S_84e L J E cp su) [] 138 []) → xb_G X 0 0 (wBd cI b0 b1 b2 b3 b4 b5 T_84 S_84 L J E cp su) [(0, .ref b0), (1, .int x1_84), (2, .int x2_84), (4, .int x4_84)] 84 [] := by
    intro T_84 x1_84 x2_84 k n
    induction n with
    | zero => intro x4_84 S_84 h hk; unfold f_X0_exchange_84 at h; cases h
    | succ n ih =>
      intro x4_84 S_84 h hk
      unfold f_X0_exchange_84 at h
      refine xi_iload C dX0_exchange_84 3 rfl ?_
      refine xi_bipush (v := 72) C dX0_exchange_86 (by decide) ?_
      refine xi_icmp_ge (tgt := 138) C dX0_exchange_88 (by decide) (fun c19 => ?_) (fun c19 => ?_)
      · have h := it_i c19 h
        exact xb_lv (hk S_84 h) [] rfl
      · have h := ie_i c19 h
        refine xi_aload_n C dX0_exchange_91 rfl 0 rfl ?_
        refine xi_get C dX0_exchange_92 iw_X0_exchange_0 0 rfl rfl 1 (by decide) fl_X0_exchange_15 rfl ?_
        refine xi_iload C dX0_exchange_95 3 rfl ?_
        obtain ⟨v20, e21, h⟩ := ob_i h
        refine xi_iald C dX0_exchange_97 2 0 rfl rfl e21 ?_
        refine xi_iload_n C dX0_exchange_98 rfl 1 rfl ?_
        refine xi_icmp_ne (tgt := 113) C dX0_exchange_99 (by decide) (fun c22 => ?_) (fun c22 => ?_)
        · have h := ie_i c22 h
          refine xi_aload_n C dX0_exchange_113 rfl 0 rfl ?_
          refine xi_get C dX0_exchange_114 iw_X0_exchange_0 0 rfl rfl 1 (by decide) fl_X0_exchange_15 rfl ?_
          refine xi_iload C dX0_exchange_117 3 rfl ?_
          obtain ⟨v23, e24, h⟩ := ob_i h
          refine xi_iald C dX0_exchange_119 2 0 rfl rfl e24 ?_
          refine xi_iload_n C dX0_exchange_120 rfl 2 rfl ?_
          refine xi_icmp_ne (tgt := 132) C dX0_exchange_121 (by decide) (fun c25 => ?_) (fun c25 => ?_)
          · have h := ie_i c25 h
            refine xi_iinc (v := x4_84 + 1) (lv2 := [(0, .ref b0), (1, .int x1_84), (2, .int x2_84), (4, .int (x4_84 + 1))]) C dX0_exchange_132 3 rfl (by rfl) (by decide) [0, 1, 2] [1, 2, 3, 0] rfl ?_
            refine xi_goto (tgt := 84) C dX0_exchange_135 (by decide) ?_
            exact xb_lv (ih (x4_84 + 1) S_84 h hk) [0, 1, 2, 3] rfl
          · have h := it_i c25 h
            refine xi_aload_n C dX0_exchange_124 rfl 0 rfl ?_
            refine xi_get C dX0_exchange_125 iw_X0_exchange_0 0 rfl rfl 1 (by decide) fl_X0_exchange_15 rfl ?_
            refine xi_iload C dX0_exchange_128 3 rfl ?_
            refine xi_iload_n C dX0_exchange_130 rfl 1 rfl ?_
            obtain ⟨S27, e26, h⟩ := ob_i h
            refine xi_iast (w2 := (wBd cI b0 b1 b2 b3 b4 b5 T_84 S27 L J E cp su)) C dX0_exchange_131 2 0 rfl rfl e26 rfl ?_
            refine xi_iinc (v := x4_84 + 1) (lv2 := [(0, .ref b0), (1, .int x1_84), (2, .int x2_84), (4, .int (x4_84 + 1))]) C dX0_exchange_132 3 rfl (by rfl) (by decide) [0, 1, 2] [1, 2, 3, 0] rfl ?_
            refine xi_goto (tgt := 84) C dX0_exchange_135 (by decide) ?_
            exact xb_lv (ih (x4_84 + 1) S27 h hk) [0, 1, 2, 3] rfl
        · have h := it_i c22 h
          refine xi_aload_n C dX0_exchange_102 rfl 0 rfl ?_
          refine xi_get C dX0_exchange_103 iw_X0_exchange_0 0 rfl rfl 1 (by decide) fl_X0_exchange_15 rfl ?_
          refine xi_iload C dX0_exchange_106 3 rfl ?_
          refine xi_iload_n C dX0_exchange_108 rfl 2 rfl ?_
          obtain ⟨S29, e28, h⟩ := ob_i h
          refine xi_iast (w2 := (wBd cI b0 b1 b2 b3 b4 b5 T_84 S29 L J E cp su)) C dX0_exchange_109 2 0 rfl rfl e28 rfl ?_
          refine xi_goto (tgt := 132) C dX0_exchange_110 (by decide) ?_
          refine xi_iinc (v := x4_84 + 1) (lv2 := [(0, .ref b0), (1, .int x1_84), (2, .int x2_84), (4, .int (x4_84 + 1))]) C dX0_exchange_132 3 rfl (by rfl) (by decide) [0, 1, 2] [1, 2, 3, 0] rfl ?_
          refine xi_goto (tgt := 84) C dX0_exchange_135 (by decide) ?_
          exact xb_lv (ih (x4_84 + 1) S29 h hk) [0, 1, 2, 3] rfl
  have lp25 : ∀ (T_25 : Nat → Int32) (x1_25 : Int32) (x2_25 : Int32) (k : (Nat → Int32) → Option ((Nat → Int32) × (Nat → Int32))) (n : Nat) (x4_25 : Int32) (S_25 : Nat → Int32), f_X0_exchange_25 x1_25 x2_25 k n x4_25 S_25 = some (T', S') → (∀ (S_25e : Nat → Int32), k S_25e = some (T', S') → xb_G X 0 0 (wBd cI b0 b1 b2 b3 b4 b5 T_25 S_25e L J E cp su) [(0, .ref b0), (1, .int x1_25), (2, .int x2_25)] 81 []) → xb_G X 0 0 (wBd cI b0 b1 b2 b3 b4 b5 T_25 S_25 L J E cp su) [(0, .ref b0), (1, .int x1_25), (2, .int x2_25), (4, .int x4_25)] 25 [] := by
    intro T_25 x1_25 x2_25 k n
    induction n with
    | zero => intro x4_25 S_25 h hk; unfold f_X0_exchange_25 at h; cases h
    | succ n ih =>
      intro x4_25 S_25 h hk
      unfold f_X0_exchange_25 at h
      refine xi_iload C dX0_exchange_25 3 rfl ?_
      refine xi_iconst (v := 3) C dX0_exchange_27 (by decide) ?_
      refine xi_icmp_ge (tgt := 81) C dX0_exchange_28 (by decide) (fun c9 => ?_) (fun c9 => ?_)
      · have h := it_i c9 h
        exact xb_lv (hk S_25 h) [0, 1, 2] rfl
      · have h := ie_i c9 h
        refine xi_aload_n C dX0_exchange_31 rfl 0 rfl ?_
        refine xi_iload_n C dX0_exchange_32 rfl 1 rfl ?_
        refine xi_iconst (v := 3) C dX0_exchange_33 (by decide) ?_
        refine xi_imul C dX0_exchange_34 ?_
        refine xi_iload C dX0_exchange_35 3 rfl ?_
        refine xi_iadd C dX0_exchange_37 ?_
        obtain ⟨v10, e11, h⟩ := ob_i h
        refine xi_callV (As := [.int ((x1_25 * 3) + x4_25)]) (o := some (.int v10)) (rest := []) (w2 := (wBd cI b0 b1 b2 b3 b4 b5 T_25 S_25 L J E cp su)) (st2 := [.int v10]) C k_X0_sourceOf (m_X0_sourceOf D cI cC cZ cR b0 b1 b2 b3 b4 b5 T_25 S_25 L J E cp su ((x1_25 * 3) + x4_25) v10 e11) gX0_exchange_X0_sourceOf dX0_exchange_38 ⟨Nat.le_of_ble_eq_true rfl, Nat.le_of_ble_eq_true rfl, Nat.le_of_ble_eq_true rfl⟩ 0 rfl rfl [0, 1, 2, 3, 4, 5] rfl rfl [0, 1, 2, 3] rfl rfl rfl rfl (Nat.le_of_ble_eq_true rfl) ⟨Nat.zero_le _, Nat.zero_le _⟩ rfl ?_
        refine xi_istore (lv2 := [(0, .ref b0), (1, .int x1_25), (2, .int x2_25), (4, .int x4_25), (5, .int v10)]) C dX0_exchange_41 (by decide) [0, 1, 2, 3] [1, 2, 3, 4, 0] rfl ?_
        refine xi_aload_n C dX0_exchange_43 rfl 0 rfl ?_
        refine xi_iload_n C dX0_exchange_44 rfl 1 rfl ?_
        refine xi_iconst (v := 3) C dX0_exchange_45 (by decide) ?_
        refine xi_imul C dX0_exchange_46 ?_
        refine xi_iload C dX0_exchange_47 3 rfl ?_
        refine xi_iadd C dX0_exchange_49 ?_
        refine xi_aload_n C dX0_exchange_50 rfl 0 rfl ?_
        refine xi_iload_n C dX0_exchange_51 rfl 2 rfl ?_
        refine xi_iconst (v := 3) C dX0_exchange_52 (by decide) ?_
        refine xi_imul C dX0_exchange_53 ?_
        refine xi_iload C dX0_exchange_54 3 rfl ?_
        refine xi_iadd C dX0_exchange_56 ?_
        obtain ⟨v12, e13, h⟩ := ob_i h
        refine xi_callV (As := [.int ((x2_25 * 3) + x4_25)]) (o := some (.int v12)) (rest := [.int ((x1_25 * 3) + x4_25), .ref b0]) (w2 := (wBd cI b0 b1 b2 b3 b4 b5 T_25 S_25 L J E cp su)) (st2 := [.int v12, .int ((x1_25 * 3) + x4_25), .ref b0]) C k_X0_sourceOf (m_X0_sourceOf D cI cC cZ cR b0 b1 b2 b3 b4 b5 T_25 S_25 L J E cp su ((x2_25 * 3) + x4_25) v12 e13) gX0_exchange_X0_sourceOf dX0_exchange_57 ⟨Nat.le_of_ble_eq_true rfl, Nat.le_of_ble_eq_true rfl, Nat.le_of_ble_eq_true rfl⟩ 0 rfl rfl [0, 1, 2, 3, 4, 5] rfl rfl [0, 1, 2, 3] rfl rfl rfl rfl (Nat.le_of_ble_eq_true rfl) ⟨Nat.zero_le _, Nat.zero_le _⟩ rfl ?_
        obtain ⟨S14, e15, h⟩ := ob_i h
        refine xi_callV (As := [.int ((x1_25 * 3) + x4_25), .int v12]) (o := none) (rest := []) (w2 := (wBd cI b0 b1 b2 b3 b4 b5 T_25 S14 L J E cp su)) (st2 := []) C k_X0_changeSource (m_X0_changeSource D cI cC cZ cR b0 b1 b2 b3 b4 b5 T_25 S_25 L J E cp su ((x1_25 * 3) + x4_25) v12 S14 e15) gX0_exchange_X0_changeSource dX0_exchange_60 ⟨Nat.le_of_ble_eq_true rfl, Nat.le_of_ble_eq_true rfl, Nat.le_of_ble_eq_true rfl⟩ 0 rfl rfl [0, 1, 2, 3, 4, 5] rfl rfl [0, 1, 2, 3] rfl rfl rfl rfl (Nat.le_of_ble_eq_true rfl) ⟨Nat.zero_le _, Nat.zero_le _⟩ rfl ?_
        refine xi_aload_n C dX0_exchange_63 rfl 0 rfl ?_
        refine xi_iload_n C dX0_exchange_64 rfl 2 rfl ?_
        refine xi_iconst (v := 3) C dX0_exchange_65 (by decide) ?_
        refine xi_imul C dX0_exchange_66 ?_
        refine xi_iload C dX0_exchange_67 3 rfl ?_
        refine xi_iadd C dX0_exchange_69 ?_
        refine xi_iload C dX0_exchange_70 4 rfl ?_
        obtain ⟨S16, e17, h⟩ := ob_i h
        refine xi_callV (As := [.int ((x2_25 * 3) + x4_25), .int v10]) (o := none) (rest := []) (w2 := (wBd cI b0 b1 b2 b3 b4 b5 T_25 S16 L J E cp su)) (st2 := []) C k_X0_changeSource (m_X0_changeSource D cI cC cZ cR b0 b1 b2 b3 b4 b5 T_25 S14 L J E cp su ((x2_25 * 3) + x4_25) v10 S16 e17) gX0_exchange_X0_changeSource dX0_exchange_72 ⟨Nat.le_of_ble_eq_true rfl, Nat.le_of_ble_eq_true rfl, Nat.le_of_ble_eq_true rfl⟩ 0 rfl rfl [0, 1, 2, 3, 4, 5] rfl rfl [0, 1, 2, 3] rfl rfl rfl rfl (Nat.le_of_ble_eq_true rfl) ⟨Nat.zero_le _, Nat.zero_le _⟩ rfl ?_
        refine xi_iinc (v := x4_25 + 1) (lv2 := [(0, .ref b0), (1, .int x1_25), (2, .int x2_25), (4, .int (x4_25 + 1)), (5, .int v10)]) C dX0_exchange_75 3 rfl (by rfl) (by decide) [0, 1, 2, 4] [1, 2, 3, 0, 4] rfl ?_
        refine xi_goto (tgt := 25) C dX0_exchange_78 (by decide) ?_
        exact xb_lv (ih (x4_25 + 1) S16 h hk) [0, 1, 2, 3] rfl
  unfold f_X0_exchange at h
  refine xi_aload_n C dX0_exchange_0 rfl 0 rfl ?_
  refine xi_iload_n C dX0_exchange_1 rfl 1 rfl ?_
  obtain ⟨v1, e2, h⟩ := ob_i h
  refine xi_callV (As := [.int p1]) (o := some (.int v1)) (rest := []) (w2 := (wBd cI b0 b1 b2 b3 b4 b5 T S L J E cp su)) (st2 := [.int v1]) C k_X0_tableOf (m_X0_tableOf D cI cC cZ cR b0 b1 b2 b3 b4 b5 T S L J E cp su p1 v1 e2) gX0_exchange_X0_tableOf dX0_exchange_2 ⟨Nat.le_of_ble_eq_true rfl, Nat.le_of_ble_eq_true rfl, Nat.le_of_ble_eq_true rfl⟩ 0 rfl rfl [0, 1, 2, 3, 4, 5] rfl rfl [0, 1, 2, 3] rfl rfl rfl rfl (Nat.le_of_ble_eq_true rfl) ⟨Nat.zero_le _, Nat.zero_le _⟩ rfl ?_
  refine xi_istore_n (lv2 := [(0, .ref b0), (1, .int p1), (2, .int p2), (3, .int v1)]) C dX0_exchange_5 rfl (by decide) [0, 1, 2] [1, 2, 3, 0] rfl ?_
  refine xi_aload_n C dX0_exchange_6 rfl 0 rfl ?_
  refine xi_iload_n C dX0_exchange_7 rfl 1 rfl ?_
  refine xi_aload_n C dX0_exchange_8 rfl 0 rfl ?_
  refine xi_iload_n C dX0_exchange_9 rfl 2 rfl ?_
  obtain ⟨v3, e4, h⟩ := ob_i h
  refine xi_callV (As := [.int p2]) (o := some (.int v3)) (rest := [.int p1, .ref b0]) (w2 := (wBd cI b0 b1 b2 b3 b4 b5 T S L J E cp su)) (st2 := [.int v3, .int p1, .ref b0]) C k_X0_tableOf (m_X0_tableOf D cI cC cZ cR b0 b1 b2 b3 b4 b5 T S L J E cp su p2 v3 e4) gX0_exchange_X0_tableOf dX0_exchange_10 ⟨Nat.le_of_ble_eq_true rfl, Nat.le_of_ble_eq_true rfl, Nat.le_of_ble_eq_true rfl⟩ 0 rfl rfl [0, 1, 2, 3, 4, 5] rfl rfl [0, 1, 2, 3] rfl rfl rfl rfl (Nat.le_of_ble_eq_true rfl) ⟨Nat.zero_le _, Nat.zero_le _⟩ rfl ?_
  obtain ⟨T5, e6, h⟩ := ob_i h
  refine xi_callV (As := [.int p1, .int v3]) (o := none) (rest := []) (w2 := (wBd cI b0 b1 b2 b3 b4 b5 T5 S L J E cp su)) (st2 := []) C k_X0_changeTable (m_X0_changeTable D cI cC cZ cR b0 b1 b2 b3 b4 b5 T S L J E cp su p1 v3 T5 e6) gX0_exchange_X0_changeTable dX0_exchange_13 ⟨Nat.le_of_ble_eq_true rfl, Nat.le_of_ble_eq_true rfl, Nat.le_of_ble_eq_true rfl⟩ 0 rfl rfl [0, 1, 2, 3, 4, 5] rfl rfl [0, 1, 2, 3] rfl rfl rfl rfl (Nat.le_of_ble_eq_true rfl) ⟨Nat.zero_le _, Nat.zero_le _⟩ rfl ?_
  refine xi_aload_n C dX0_exchange_16 rfl 0 rfl ?_
  refine xi_iload_n C dX0_exchange_17 rfl 2 rfl ?_
  refine xi_iload_n C dX0_exchange_18 rfl 3 rfl ?_
  obtain ⟨T7, e8, h⟩ := ob_i h
  refine xi_callV (As := [.int p2, .int v1]) (o := none) (rest := []) (w2 := (wBd cI b0 b1 b2 b3 b4 b5 T7 S L J E cp su)) (st2 := []) C k_X0_changeTable (m_X0_changeTable D cI cC cZ cR b0 b1 b2 b3 b4 b5 T5 S L J E cp su p2 v1 T7 e8) gX0_exchange_X0_changeTable dX0_exchange_19 ⟨Nat.le_of_ble_eq_true rfl, Nat.le_of_ble_eq_true rfl, Nat.le_of_ble_eq_true rfl⟩ 0 rfl rfl [0, 1, 2, 3, 4, 5] rfl rfl [0, 1, 2, 3] rfl rfl rfl rfl (Nat.le_of_ble_eq_true rfl) ⟨Nat.zero_le _, Nat.zero_le _⟩ rfl ?_
  refine xi_iconst (v := 0) C dX0_exchange_22 (by decide) ?_
  refine xi_istore (lv2 := [(0, .ref b0), (1, .int p1), (2, .int p2), (3, .int v1), (4, .int 0)]) C dX0_exchange_23 (by decide) [0, 1, 2, 3] [1, 2, 3, 4, 0] rfl ?_
  refine xb_lv (lp25 T7 p1 p2 _ xFu 0 S h (fun Sz18 h => ?_)) [0, 1, 2, 4] rfl
  refine xi_iconst (v := 0) C dX0_exchange_81 (by decide) ?_
  refine xi_istore (lv2 := [(0, .ref b0), (1, .int p1), (2, .int p2), (4, .int 0)]) C dX0_exchange_82 (by decide) [0, 1, 2] [1, 2, 3, 0] rfl ?_
  refine xb_lv (lp84 T7 p1 p2 _ xFu 0 Sz18 h (fun Sz30 h => ?_)) [0, 1, 2, 3] rfl
  have w0 := Option.some.inj h
  obtain ⟨q0, w1⟩ := Prod.mk.inj w0
  subst q0
  subst w1
  exact xi_ret C Z dX0_exchange_138
def f_X0_wires_4 (S : Nat → Int32) (k : Int32 → Option (Int32)) : Nat → Int32 → Int32 → Option (Int32)
  | 0, _, _ => none
  | n + 1, x1_4, x2_4 =>
    if 72 ≤ x2_4 then
      k x1_4
    else
      (xr_d S 72 x2_4).bind fun v2 =>
      (f_X5_junctionOf v2).bind fun v4 =>
      if v4 = (-1) then
        f_X0_wires_4 S k n (x1_4 + 0) (x2_4 + 1)
      else
        f_X0_wires_4 S k n (x1_4 + 1) (x2_4 + 1)
def f_X0_wires (S : Nat → Int32) : Option (Int32) :=
  f_X0_wires_4 S (fun x1z7 =>
    some x1z7) xFu 0 0
theorem k_X0_wires : xb_Y yX0_wires cX0_wires wsX0_wires 3 (some .int) { frames := 1, cells := 0, slots := 0, locals := 20 } 0 := ⟨⟨_, rfl⟩, by decide, ⟨by decide, by decide, by decide +kernel⟩, rfl, rfl⟩
theorem fl_X0_wires_15 : Cond.fieldLink RX0 15 "LookupBoard$Board" "sources" "[I" ∈ wsX0_wires := List.mem_of_getElem? (i := 1) rfl
theorem iw_X0_wires_0 : ∀ w ∈ wsX00, w ∈ wsX0_wires := fun w h => List.mem_cons_of_mem _ (List.mem_append_right _ h)
set_option maxHeartbeats 4000000 in
set_option maxRecDepth 100000 in
theorem m_X0_wires (D : va_G) (cI cC cZ cR : ClassId) (b0 b1 b2 b3 b4 b5 : Nat) (T : Nat → Int32) (S : Nat → Int32) (L : Nat → Int32) (J : Nat → Int32) (E : Nat → Int32) (cp : Int32) (su : Int32) (r : Int32) (h : f_X0_wires S = some r) : xb_M cX0_wires wsX0_wires RX0 { frames := 1, cells := 0, slots := 0, locals := 20 } (some .int) 3 (xb_ty cI cC cZ cR) D [.ref b0] (wBd cI b0 b1 b2 b3 b4 b5 T S L J E cp su) (some (.int r)) (wBd cI b0 b1 b2 b3 b4 b5 T S L J E cp su) := by
  intro X C Z
  show xb_G X 0 0 (wBd cI b0 b1 b2 b3 b4 b5 T S L J E cp su) [(0, .ref b0)] 0 []
  have lp4 : ∀ (k : Int32 → Option (Int32)) (n : Nat) (x1_4 : Int32) (x2_4 : Int32), f_X0_wires_4 S k n x1_4 x2_4 = some r → (∀ (x1_4e : Int32), k x1_4e = some r → xb_G X 0 0 (wBd cI b0 b1 b2 b3 b4 b5 T S L J E cp su) [(1, .int x1_4e)] 37 []) → xb_G X 0 0 (wBd cI b0 b1 b2 b3 b4 b5 T S L J E cp su) [(0, .ref b0), (1, .int x1_4), (2, .int x2_4)] 4 [] := by
    intro k n
    induction n with
    | zero => intro x1_4 x2_4 h hk; unfold f_X0_wires_4 at h; cases h
    | succ n ih =>
      intro x1_4 x2_4 h hk
      unfold f_X0_wires_4 at h
      refine xi_iload_n C dX0_wires_4 rfl 2 rfl ?_
      refine xi_bipush (v := 72) C dX0_wires_5 (by decide) ?_
      refine xi_icmp_ge (tgt := 37) C dX0_wires_7 (by decide) (fun c1 => ?_) (fun c1 => ?_)
      · have h := it_i c1 h
        exact xb_lv (hk x1_4 h) [1] rfl
      · have h := ie_i c1 h
        refine xi_iload_n C dX0_wires_10 rfl 1 rfl ?_
        refine xi_aload_n C dX0_wires_11 rfl 0 rfl ?_
        refine xi_get C dX0_wires_12 iw_X0_wires_0 0 rfl rfl 1 (by decide) fl_X0_wires_15 rfl ?_
        refine xi_iload_n C dX0_wires_15 rfl 2 rfl ?_
        obtain ⟨v2, e3, h⟩ := ob_i h
        refine xi_iald C dX0_wires_16 2 0 rfl rfl e3 ?_
        obtain ⟨v4, e5, h⟩ := ob_i h
        refine xi_callSN (As := [.int v2]) (o := some (.int v4)) (rest := [.int x1_4]) (w2 := (wBd cI b0 b1 b2 b3 b4 b5 T S L J E cp su)) (st2 := [.int v4, .int x1_4]) C k_X5_junctionOf (m_X5_junctionOf D cI cC cZ cR v2 v4 e5) gX0_wires_X5_junctionOf_n83 (List.mem_of_getElem? (i := 5) rfl) (List.mem_of_getElem? (i := 3) rfl) (List.mem_of_getElem? (i := 2) rfl) dX0_wires_17 ⟨Nat.le_of_ble_eq_true rfl, Nat.le_of_ble_eq_true rfl, Nat.le_of_ble_eq_true rfl⟩ [] rfl rfl [0, 1, 2, 3] rfl rfl rfl rfl (Nat.le_of_ble_eq_true rfl) ⟨Nat.zero_le _, Nat.zero_le _⟩ rfl ?_
        refine xi_iconst (v := (-1)) C dX0_wires_20 (by decide) ?_
        refine xi_icmp_eq (tgt := 28) C dX0_wires_21 (by decide) (fun c6 => ?_) (fun c6 => ?_)
        · have h := it_i c6 h
          refine xi_iconst (v := 0) C dX0_wires_28 (by decide) ?_
          refine xi_iadd C dX0_wires_29 ?_
          refine xi_istore_n (lv2 := [(0, .ref b0), (1, .int (x1_4 + 0)), (2, .int x2_4)]) C dX0_wires_30 rfl (by decide) [0, 2] [1, 0, 2] rfl ?_
          refine xi_iinc (v := x2_4 + 1) (lv2 := [(0, .ref b0), (1, .int (x1_4 + 0)), (2, .int (x2_4 + 1))]) C dX0_wires_31 2 rfl (by rfl) (by decide) [0, 1] [1, 2, 0] rfl ?_
          refine xi_goto (tgt := 4) C dX0_wires_34 (by decide) ?_
          exact xb_lv (ih (x1_4 + 0) (x2_4 + 1) h hk) [0, 1, 2] rfl
        · have h := ie_i c6 h
          refine xi_iconst (v := 1) C dX0_wires_24 (by decide) ?_
          refine xi_goto (tgt := 29) C dX0_wires_25 (by decide) ?_
          refine xi_iadd C dX0_wires_29 ?_
          refine xi_istore_n (lv2 := [(0, .ref b0), (1, .int (x1_4 + 1)), (2, .int x2_4)]) C dX0_wires_30 rfl (by decide) [0, 2] [1, 0, 2] rfl ?_
          refine xi_iinc (v := x2_4 + 1) (lv2 := [(0, .ref b0), (1, .int (x1_4 + 1)), (2, .int (x2_4 + 1))]) C dX0_wires_31 2 rfl (by rfl) (by decide) [0, 1] [1, 2, 0] rfl ?_
          refine xi_goto (tgt := 4) C dX0_wires_34 (by decide) ?_
          exact xb_lv (ih (x1_4 + 1) (x2_4 + 1) h hk) [0, 1, 2] rfl
  unfold f_X0_wires at h
  refine xi_iconst (v := 0) C dX0_wires_0 (by decide) ?_
  refine xi_istore_n (lv2 := [(0, .ref b0), (1, .int 0)]) C dX0_wires_1 rfl (by decide) [0] [1, 0] rfl ?_
  refine xi_iconst (v := 0) C dX0_wires_2 (by decide) ?_
  refine xi_istore_n (lv2 := [(0, .ref b0), (1, .int 0), (2, .int 0)]) C dX0_wires_3 rfl (by decide) [0, 1] [1, 2, 0] rfl ?_
  refine xb_lv (lp4 _ xFu 0 0 h (fun x1z7 h => ?_)) [0, 1, 2] rfl
  refine xi_iload_n C dX0_wires_37 rfl 0 rfl ?_
  have w0 := Option.some.inj h
  subst w0
  exact xi_iret C Z dX0_wires_38
def f_X0_segmentsOfCell_4 (L : Nat → Int32) (x1_4 : Int32) (k : Int32 → Option (Int32)) : Nat → Int32 → Int32 → Option (Int32)
  | 0, _, _ => none
  | n + 1, x2_4, x3_4 =>
    if 3 ≤ x3_4 then
      k x2_4
    else
      (f_X0_lengthOf L ((x1_4 * 3) + x3_4)).bind fun v2 =>
      f_X0_segmentsOfCell_4 L x1_4 k n (x2_4 + v2) (x3_4 + 1)
def f_X0_segmentsOfCell (L : Nat → Int32) (p1 : Int32) : Option (Int32) :=
  f_X0_segmentsOfCell_4 L p1 (fun x2z4 =>
    some x2z4) xFu 0 0
theorem k_X0_segmentsOfCell : xb_Y yX0_segmentsOfCell cX0_segmentsOfCell wsX0_segmentsOfCell 4 (some .int) { frames := 2, cells := 0, slots := 0, locals := 41 } 1 := ⟨⟨_, rfl⟩, by decide, ⟨by decide, by decide, by decide +kernel⟩, rfl, rfl⟩
set_option maxHeartbeats 4000000 in
set_option maxRecDepth 100000 in
theorem m_X0_segmentsOfCell (D : va_G) (cI cC cZ cR : ClassId) (b0 b1 b2 b3 b4 b5 : Nat) (T : Nat → Int32) (S : Nat → Int32) (L : Nat → Int32) (J : Nat → Int32) (E : Nat → Int32) (cp : Int32) (su : Int32) (p1 : Int32) (r : Int32) (h : f_X0_segmentsOfCell L p1 = some r) : xb_M cX0_segmentsOfCell wsX0_segmentsOfCell RX0 { frames := 2, cells := 0, slots := 0, locals := 41 } (some .int) 4 (xb_ty cI cC cZ cR) D [.ref b0, .int p1] (wBd cI b0 b1 b2 b3 b4 b5 T S L J E cp su) (some (.int r)) (wBd cI b0 b1 b2 b3 b4 b5 T S L J E cp su) := by
  intro X C Z
  show xb_G X 0 0 (wBd cI b0 b1 b2 b3 b4 b5 T S L J E cp su) [(0, .ref b0), (1, .int p1)] 0 []
  have lp4 : ∀ (x1_4 : Int32) (k : Int32 → Option (Int32)) (n : Nat) (x2_4 : Int32) (x3_4 : Int32), f_X0_segmentsOfCell_4 L x1_4 k n x2_4 x3_4 = some r → (∀ (x2_4e : Int32), k x2_4e = some r → xb_G X 0 0 (wBd cI b0 b1 b2 b3 b4 b5 T S L J E cp su) [(2, .int x2_4e)] 27 []) → xb_G X 0 0 (wBd cI b0 b1 b2 b3 b4 b5 T S L J E cp su) [(0, .ref b0), (1, .int x1_4), (2, .int x2_4), (3, .int x3_4)] 4 [] := by
    intro x1_4 k n
    induction n with
    | zero => intro x2_4 x3_4 h hk; unfold f_X0_segmentsOfCell_4 at h; cases h
    | succ n ih =>
      intro x2_4 x3_4 h hk
      unfold f_X0_segmentsOfCell_4 at h
      refine xi_iload_n C dX0_segmentsOfCell_4 rfl 3 rfl ?_
      refine xi_iconst (v := 3) C dX0_segmentsOfCell_5 (by decide) ?_
      refine xi_icmp_ge (tgt := 27) C dX0_segmentsOfCell_6 (by decide) (fun c1 => ?_) (fun c1 => ?_)
      · have h := it_i c1 h
        exact xb_lv (hk x2_4 h) [2] rfl
      · have h := ie_i c1 h
        refine xi_iload_n C dX0_segmentsOfCell_9 rfl 2 rfl ?_
        refine xi_aload_n C dX0_segmentsOfCell_10 rfl 0 rfl ?_
        refine xi_iload_n C dX0_segmentsOfCell_11 rfl 1 rfl ?_
        refine xi_iconst (v := 3) C dX0_segmentsOfCell_12 (by decide) ?_
        refine xi_imul C dX0_segmentsOfCell_13 ?_
        refine xi_iload_n C dX0_segmentsOfCell_14 rfl 3 rfl ?_
        refine xi_iadd C dX0_segmentsOfCell_15 ?_
        obtain ⟨v2, e3, h⟩ := ob_i h
        refine xi_callV (As := [.int ((x1_4 * 3) + x3_4)]) (o := some (.int v2)) (rest := [.int x2_4]) (w2 := (wBd cI b0 b1 b2 b3 b4 b5 T S L J E cp su)) (st2 := [.int v2, .int x2_4]) C k_X0_lengthOf (m_X0_lengthOf D cI cC cZ cR b0 b1 b2 b3 b4 b5 T S L J E cp su ((x1_4 * 3) + x3_4) v2 e3) gX0_segmentsOfCell_X0_lengthOf dX0_segmentsOfCell_16 ⟨Nat.le_of_ble_eq_true rfl, Nat.le_of_ble_eq_true rfl, Nat.le_of_ble_eq_true rfl⟩ 0 rfl rfl [0, 1, 2, 3, 4, 5] rfl rfl [0, 1, 2, 3] rfl rfl rfl rfl (Nat.le_of_ble_eq_true rfl) ⟨Nat.zero_le _, Nat.zero_le _⟩ rfl ?_
        refine xi_iadd C dX0_segmentsOfCell_19 ?_
        refine xi_istore_n (lv2 := [(0, .ref b0), (1, .int x1_4), (2, .int (x2_4 + v2)), (3, .int x3_4)]) C dX0_segmentsOfCell_20 rfl (by decide) [0, 1, 3] [1, 2, 0, 3] rfl ?_
        refine xi_iinc (v := x3_4 + 1) (lv2 := [(0, .ref b0), (1, .int x1_4), (2, .int (x2_4 + v2)), (3, .int (x3_4 + 1))]) C dX0_segmentsOfCell_21 3 rfl (by rfl) (by decide) [0, 1, 2] [1, 2, 3, 0] rfl ?_
        refine xi_goto (tgt := 4) C dX0_segmentsOfCell_24 (by decide) ?_
        exact xb_lv (ih (x2_4 + v2) (x3_4 + 1) h hk) [0, 1, 2, 3] rfl
  unfold f_X0_segmentsOfCell at h
  refine xi_iconst (v := 0) C dX0_segmentsOfCell_0 (by decide) ?_
  refine xi_istore_n (lv2 := [(0, .ref b0), (1, .int p1), (2, .int 0)]) C dX0_segmentsOfCell_1 rfl (by decide) [0, 1] [1, 2, 0] rfl ?_
  refine xi_iconst (v := 0) C dX0_segmentsOfCell_2 (by decide) ?_
  refine xi_istore_n (lv2 := [(0, .ref b0), (1, .int p1), (2, .int 0), (3, .int 0)]) C dX0_segmentsOfCell_3 rfl (by decide) [0, 1, 2] [1, 2, 3, 0] rfl ?_
  refine xb_lv (lp4 p1 _ xFu 0 0 h (fun x2z4 h => ?_)) [0, 1, 2, 3] rfl
  refine xi_iload_n C dX0_segmentsOfCell_27 rfl 0 rfl ?_
  have w0 := Option.some.inj h
  subst w0
  exact xi_iret C Z dX0_segmentsOfCell_28
def f_X0_segmentsOfAll_4 (L : Nat → Int32) (k : Int32 → Option (Int32)) : Nat → Int32 → Int32 → Option (Int32)
  | 0, _, _ => none
  | n + 1, x1_4, x2_4 =>
    if 72 ≤ x2_4 then
      k x1_4
    else
      (xr_d L 72 x2_4).bind fun v2 =>
      f_X0_segmentsOfAll_4 L k n (x1_4 + v2) (x2_4 + 1)
def f_X0_segmentsOfAll (L : Nat → Int32) : Option (Int32) :=
  f_X0_segmentsOfAll_4 L (fun x1z4 =>
    some x1z4) xFu 0 0
theorem k_X0_segmentsOfAll : xb_Y yX0_segmentsOfAll cX0_segmentsOfAll wsX0_segmentsOfAll 3 (some .int) { frames := 0, cells := 0, slots := 0, locals := 0 } 0 := ⟨⟨_, rfl⟩, by decide, ⟨by decide, by decide, by decide +kernel⟩, rfl, rfl⟩
theorem fl_X0_segmentsOfAll_18 : Cond.fieldLink RX0 18 "LookupBoard$Board" "lengths" "[I" ∈ wsX0_segmentsOfAll := List.mem_of_getElem? (i := 1) rfl
theorem iw_X0_segmentsOfAll_0 : ∀ w ∈ wsX00, w ∈ wsX0_segmentsOfAll := fun w h => List.mem_cons_of_mem _ (List.mem_append_right _ h)
set_option maxHeartbeats 4000000 in
set_option maxRecDepth 100000 in
theorem m_X0_segmentsOfAll (D : va_G) (cI cC cZ cR : ClassId) (b0 b1 b2 b3 b4 b5 : Nat) (T : Nat → Int32) (S : Nat → Int32) (L : Nat → Int32) (J : Nat → Int32) (E : Nat → Int32) (cp : Int32) (su : Int32) (r : Int32) (h : f_X0_segmentsOfAll L = some r) : xb_M cX0_segmentsOfAll wsX0_segmentsOfAll RX0 { frames := 0, cells := 0, slots := 0, locals := 0 } (some .int) 3 (xb_ty cI cC cZ cR) D [.ref b0] (wBd cI b0 b1 b2 b3 b4 b5 T S L J E cp su) (some (.int r)) (wBd cI b0 b1 b2 b3 b4 b5 T S L J E cp su) := by
  intro X C Z
  show xb_G X 0 0 (wBd cI b0 b1 b2 b3 b4 b5 T S L J E cp su) [(0, .ref b0)] 0 []
  have lp4 : ∀ (k : Int32 → Option (Int32)) (n : Nat) (x1_4 : Int32) (x2_4 : Int32), f_X0_segmentsOfAll_4 L k n x1_4 x2_4 = some r → (∀ (x1_4e : Int32), k x1_4e = some r → xb_G X 0 0 (wBd cI b0 b1 b2 b3 b4 b5 T S L J E cp su) [(1, .int x1_4e)] 25 []) → xb_G X 0 0 (wBd cI b0 b1 b2 b3 b4 b5 T S L J E cp su) [(0, .ref b0), (1, .int x1_4), (2, .int x2_4)] 4 [] := by
    intro k n
    induction n with
    | zero => intro x1_4 x2_4 h hk; unfold f_X0_segmentsOfAll_4 at h; cases h
    | succ n ih =>
      intro x1_4 x2_4 h hk
      unfold f_X0_segmentsOfAll_4 at h
      refine xi_iload_n C dX0_segmentsOfAll_4 rfl 2 rfl ?_
      refine xi_bipush (v := 72) C dX0_segmentsOfAll_5 (by decide) ?_
      refine xi_icmp_ge (tgt := 25) C dX0_segmentsOfAll_7 (by decide) (fun c1 => ?_) (fun c1 => ?_)
      · have h := it_i c1 h
        exact xb_lv (hk x1_4 h) [1] rfl
      · have h := ie_i c1 h
        refine xi_iload_n C dX0_segmentsOfAll_10 rfl 1 rfl ?_
        refine xi_aload_n C dX0_segmentsOfAll_11 rfl 0 rfl ?_
        refine xi_get C dX0_segmentsOfAll_12 iw_X0_segmentsOfAll_0 0 rfl rfl 2 (by decide) fl_X0_segmentsOfAll_18 rfl ?_
        refine xi_iload_n C dX0_segmentsOfAll_15 rfl 2 rfl ?_
        obtain ⟨v2, e3, h⟩ := ob_i h
        refine xi_iald C dX0_segmentsOfAll_16 3 0 rfl rfl e3 ?_
        refine xi_iadd C dX0_segmentsOfAll_17 ?_
        refine xi_istore_n (lv2 := [(0, .ref b0), (1, .int (x1_4 + v2)), (2, .int x2_4)]) C dX0_segmentsOfAll_18 rfl (by decide) [0, 2] [1, 0, 2] rfl ?_
        refine xi_iinc (v := x2_4 + 1) (lv2 := [(0, .ref b0), (1, .int (x1_4 + v2)), (2, .int (x2_4 + 1))]) C dX0_segmentsOfAll_19 2 rfl (by rfl) (by decide) [0, 1] [1, 2, 0] rfl ?_
        refine xi_goto (tgt := 4) C dX0_segmentsOfAll_22 (by decide) ?_
        exact xb_lv (ih (x1_4 + v2) (x2_4 + 1) h hk) [0, 1, 2] rfl
  unfold f_X0_segmentsOfAll at h
  refine xi_iconst (v := 0) C dX0_segmentsOfAll_0 (by decide) ?_
  refine xi_istore_n (lv2 := [(0, .ref b0), (1, .int 0)]) C dX0_segmentsOfAll_1 rfl (by decide) [0] [1, 0] rfl ?_
  refine xi_iconst (v := 0) C dX0_segmentsOfAll_2 (by decide) ?_
  refine xi_istore_n (lv2 := [(0, .ref b0), (1, .int 0), (2, .int 0)]) C dX0_segmentsOfAll_3 rfl (by decide) [0, 1] [1, 2, 0] rfl ?_
  refine xb_lv (lp4 _ xFu 0 0 h (fun x1z4 h => ?_)) [0, 1, 2] rfl
  refine xi_iload_n C dX0_segmentsOfAll_25 rfl 0 rfl ?_
  have w0 := Option.some.inj h
  subst w0
  exact xi_iret C Z dX0_segmentsOfAll_26
def f_X5_distanceBetween (p0 : Int32) (p1 : Int32) : Option (Int32) :=
  (some (if 0 ≤ ((p0 - p0 / 6 * 6) - (p1 - p1 / 6 * 6)) then ((p0 - p0 / 6 * 6) - (p1 - p1 / 6 * 6)) else 0 - ((p0 - p0 / 6 * 6) - (p1 - p1 / 6 * 6)))).bind fun v1 =>
  (some (if 0 ≤ ((p0 / 6) - (p1 / 6)) then ((p0 / 6) - (p1 / 6)) else 0 - ((p0 / 6) - (p1 / 6)))).bind fun v3 =>
  some (v1 + v3)
theorem k_X5_distanceBetween : xb_Y yX5_distanceBetween cX5_distanceBetween wsX5_distanceBetween 2 (some .int) { frames := 1, cells := 0, slots := 0, locals := 20 } 2 := ⟨⟨_, rfl⟩, by decide, ⟨by decide, by decide, by decide +kernel⟩, rfl, rfl⟩
set_option maxHeartbeats 4000000 in
set_option maxRecDepth 100000 in
theorem m_X5_distanceBetween (D : va_G) (cI cC cZ cR : ClassId) (p0 : Int32) (p1 : Int32) (r : Int32) (h : f_X5_distanceBetween p0 p1 = some r) : xb_M cX5_distanceBetween wsX5_distanceBetween RX5 { frames := 1, cells := 0, slots := 0, locals := 20 } (some .int) 2 (xb_ty cI cC cZ cR) D [.int p0, .int p1] ([] : va_W) (some (.int r)) ([] : va_W) := by
  intro X C Z
  show xb_G X 0 0 ([] : va_W) [(0, .int p0), (1, .int p1)] 0 []
  unfold f_X5_distanceBetween at h
  refine xi_iload_n C dX5_distanceBetween_0 rfl 0 rfl ?_
  refine xi_bipush (v := 6) C dX5_distanceBetween_1 (by decide) ?_
  refine xi_irem C dX5_distanceBetween_3 (by decide) ?_
  refine xi_iload_n C dX5_distanceBetween_4 rfl 1 rfl ?_
  refine xi_bipush (v := 6) C dX5_distanceBetween_5 (by decide) ?_
  refine xi_irem C dX5_distanceBetween_7 (by decide) ?_
  refine xi_isub C dX5_distanceBetween_8 ?_
  obtain ⟨v1, e2, h⟩ := ob_i h
  refine xi_mabs C dX5_distanceBetween_9 (List.mem_of_getElem? (i := 1) rfl) (List.mem_of_getElem? (i := 2) rfl) (List.mem_of_getElem? (i := 3) rfl) (List.mem_of_getElem? (i := 4) rfl) (Nat.le_of_ble_eq_true rfl) (Nat.le_of_ble_eq_true rfl) ⟨Nat.zero_le _, Nat.zero_le _⟩ e2 ?_
  refine xi_iload_n C dX5_distanceBetween_12 rfl 0 rfl ?_
  refine xi_bipush (v := 6) C dX5_distanceBetween_13 (by decide) ?_
  refine xi_idiv C dX5_distanceBetween_15 (by decide) ?_
  refine xi_iload_n C dX5_distanceBetween_16 rfl 1 rfl ?_
  refine xi_bipush (v := 6) C dX5_distanceBetween_17 (by decide) ?_
  refine xi_idiv C dX5_distanceBetween_19 (by decide) ?_
  refine xi_isub C dX5_distanceBetween_20 ?_
  obtain ⟨v3, e4, h⟩ := ob_i h
  refine xi_mabs C dX5_distanceBetween_21 (List.mem_of_getElem? (i := 1) rfl) (List.mem_of_getElem? (i := 2) rfl) (List.mem_of_getElem? (i := 3) rfl) (List.mem_of_getElem? (i := 4) rfl) (Nat.le_of_ble_eq_true rfl) (Nat.le_of_ble_eq_true rfl) ⟨Nat.zero_le _, Nat.zero_le _⟩ e4 ?_
  refine xi_iadd C dX5_distanceBetween_24 ?_
  have w0 := Option.some.inj h
  subst w0
  exact xi_iret C Z dX5_distanceBetween_25
def f_X0_distanceOf (S : Nat → Int32) (p1 : Int32) : Option (Int32) :=
  (f_X0_sourceOf S p1).bind fun v1 =>
  (f_X5_junctionOf v1).bind fun v3 =>
  if v3 = (-1) then
    some (-1)
  else
    (f_X5_distanceBetween v3 (p1 / 3)).bind fun v6 =>
    some v6
theorem k_X0_distanceOf : xb_Y yX0_distanceOf cX0_distanceOf wsX0_distanceOf 3 (some .int) { frames := 2, cells := 0, slots := 0, locals := 41 } 1 := ⟨⟨_, rfl⟩, by decide, ⟨by decide, by decide, by decide +kernel⟩, rfl, rfl⟩
set_option maxHeartbeats 4000000 in
set_option maxRecDepth 100000 in
theorem m_X0_distanceOf (D : va_G) (cI cC cZ cR : ClassId) (b0 b1 b2 b3 b4 b5 : Nat) (T : Nat → Int32) (S : Nat → Int32) (L : Nat → Int32) (J : Nat → Int32) (E : Nat → Int32) (cp : Int32) (su : Int32) (p1 : Int32) (r : Int32) (h : f_X0_distanceOf S p1 = some r) : xb_M cX0_distanceOf wsX0_distanceOf RX0 { frames := 2, cells := 0, slots := 0, locals := 41 } (some .int) 3 (xb_ty cI cC cZ cR) D [.ref b0, .int p1] (wBd cI b0 b1 b2 b3 b4 b5 T S L J E cp su) (some (.int r)) (wBd cI b0 b1 b2 b3 b4 b5 T S L J E cp su) := by
  intro X C Z
  show xb_G X 0 0 (wBd cI b0 b1 b2 b3 b4 b5 T S L J E cp su) [(0, .ref b0), (1, .int p1)] 0 []
  unfold f_X0_distanceOf at h
  refine xi_aload_n C dX0_distanceOf_0 rfl 0 rfl ?_
  refine xi_iload_n C dX0_distanceOf_1 rfl 1 rfl ?_
  obtain ⟨v1, e2, h⟩ := ob_i h
  refine xi_callV (As := [.int p1]) (o := some (.int v1)) (rest := []) (w2 := (wBd cI b0 b1 b2 b3 b4 b5 T S L J E cp su)) (st2 := [.int v1]) C k_X0_sourceOf (m_X0_sourceOf D cI cC cZ cR b0 b1 b2 b3 b4 b5 T S L J E cp su p1 v1 e2) gX0_distanceOf_X0_sourceOf dX0_distanceOf_2 ⟨Nat.le_of_ble_eq_true rfl, Nat.le_of_ble_eq_true rfl, Nat.le_of_ble_eq_true rfl⟩ 0 rfl rfl [0, 1, 2, 3, 4, 5] rfl rfl [0, 1, 2, 3] rfl rfl rfl rfl (Nat.le_of_ble_eq_true rfl) ⟨Nat.zero_le _, Nat.zero_le _⟩ rfl ?_
  obtain ⟨v3, e4, h⟩ := ob_i h
  refine xi_callSN (As := [.int v1]) (o := some (.int v3)) (rest := []) (w2 := (wBd cI b0 b1 b2 b3 b4 b5 T S L J E cp su)) (st2 := [.int v3]) C k_X5_junctionOf (m_X5_junctionOf D cI cC cZ cR v1 v3 e4) gX0_distanceOf_X5_junctionOf_n83 (List.mem_of_getElem? (i := 5) rfl) (List.mem_of_getElem? (i := 8) rfl) (List.mem_of_getElem? (i := 10) rfl) dX0_distanceOf_5 ⟨Nat.le_of_ble_eq_true rfl, Nat.le_of_ble_eq_true rfl, Nat.le_of_ble_eq_true rfl⟩ [] rfl rfl [0, 1, 2, 3] rfl rfl rfl rfl (Nat.le_of_ble_eq_true rfl) ⟨Nat.zero_le _, Nat.zero_le _⟩ rfl ?_
  refine xi_istore_n (lv2 := [(0, .ref b0), (1, .int p1), (2, .int v3)]) C dX0_distanceOf_8 rfl (by decide) [0, 1] [1, 2, 0] rfl ?_
  refine xi_iload_n C dX0_distanceOf_9 rfl 2 rfl ?_
  refine xi_iconst (v := (-1)) C dX0_distanceOf_10 (by decide) ?_
  refine xi_icmp_ne (tgt := 18) C dX0_distanceOf_11 (by decide) (fun c5 => ?_) (fun c5 => ?_)
  · have h := ie_i c5 h
    refine xi_iload_n C dX0_distanceOf_18 rfl 2 rfl ?_
    refine xi_iload_n C dX0_distanceOf_19 rfl 1 rfl ?_
    refine xi_iconst (v := 3) C dX0_distanceOf_20 (by decide) ?_
    refine xi_idiv C dX0_distanceOf_21 (by decide) ?_
    obtain ⟨v6, e7, h⟩ := ob_i h
    refine xi_callSN (As := [.int v3, .int (p1 / 3)]) (o := some (.int v6)) (rest := []) (w2 := (wBd cI b0 b1 b2 b3 b4 b5 T S L J E cp su)) (st2 := [.int v6]) C k_X5_distanceBetween (m_X5_distanceBetween D cI cC cZ cR v3 (p1 / 3) v6 e7) gX0_distanceOf_X5_distanceBetween_n89 (List.mem_of_getElem? (i := 6) rfl) (List.mem_of_getElem? (i := 8) rfl) (List.mem_of_getElem? (i := 12) rfl) dX0_distanceOf_22 ⟨Nat.le_of_ble_eq_true rfl, Nat.le_of_ble_eq_true rfl, Nat.le_of_ble_eq_true rfl⟩ [] rfl rfl [0, 1, 2, 3] rfl rfl rfl rfl (Nat.le_of_ble_eq_true rfl) ⟨Nat.zero_le _, Nat.zero_le _⟩ rfl ?_
    have w0 := Option.some.inj h
    subst w0
    exact xi_iret C Z dX0_distanceOf_25
  · have h := it_i c5 h
    refine xi_iconst (v := (-1)) C dX0_distanceOf_14 (by decide) ?_
    refine xi_goto (tgt := 25) C dX0_distanceOf_15 (by decide) ?_
    have w0 := Option.some.inj h
    subst w0
    exact xi_iret C Z dX0_distanceOf_25
def f_X0_startWire (L : Nat → Int32) (J : Nat → Int32) (p1 : Int32) (p2 : Int32) : Option ((Nat → Int32) × (Nat → Int32)) :=
  (f_X5_isWire p1).bind fun v1 =>
  if v1 = 0 then
    some (L, J)
  else
    (xr_w L 72 p1 0).bind fun L5 =>
    (xr_w J 1728 (p1 * 24) p2).bind fun J7 =>
    some (L5, J7)
theorem k_X0_startWire : xb_Y yX0_startWire cX0_startWire wsX0_startWire 3 none { frames := 1, cells := 0, slots := 0, locals := 20 } 2 := ⟨⟨_, rfl⟩, by decide, ⟨by decide, by decide, by decide +kernel⟩, rfl, rfl⟩
theorem fl_X0_startWire_18 : Cond.fieldLink RX0 18 "LookupBoard$Board" "lengths" "[I" ∈ wsX0_startWire := List.mem_of_getElem? (i := 1) rfl
theorem fl_X0_startWire_21 : Cond.fieldLink RX0 21 "LookupBoard$Board" "junctions" "[I" ∈ wsX0_startWire := List.mem_of_getElem? (i := 2) rfl
theorem iw_X0_startWire_0 : ∀ w ∈ wsX00, w ∈ wsX0_startWire := fun w h => List.mem_cons_of_mem _ (List.mem_append_right _ h)
set_option maxHeartbeats 4000000 in
set_option maxRecDepth 100000 in
theorem m_X0_startWire (D : va_G) (cI cC cZ cR : ClassId) (b0 b1 b2 b3 b4 b5 : Nat) (T : Nat → Int32) (S : Nat → Int32) (L : Nat → Int32) (J : Nat → Int32) (E : Nat → Int32) (cp : Int32) (su : Int32) (p1 : Int32) (p2 : Int32) (L' : Nat → Int32) (J' : Nat → Int32) (h : f_X0_startWire L J p1 p2 = some (L', J')) : xb_M cX0_startWire wsX0_startWire RX0 { frames := 1, cells := 0, slots := 0, locals := 20 } none 3 (xb_ty cI cC cZ cR) D [.ref b0, .int p1, .int p2] (wBd cI b0 b1 b2 b3 b4 b5 T S L J E cp su) none (wBd cI b0 b1 b2 b3 b4 b5 T S L' J' E cp su) := by
  intro X C Z
  show xb_G X 0 0 (wBd cI b0 b1 b2 b3 b4 b5 T S L J E cp su) [(0, .ref b0), (1, .int p1), (2, .int p2)] 0 []
  unfold f_X0_startWire at h
  refine xi_iload_n C dX0_startWire_0 rfl 1 rfl ?_
  obtain ⟨v1, e2, h⟩ := ob_i h
  refine xi_callSN (As := [.int p1]) (o := some (.int v1)) (rest := []) (w2 := (wBd cI b0 b1 b2 b3 b4 b5 T S L J E cp su)) (st2 := [.int v1]) C k_X5_isWire (m_X5_isWire D cI cC cZ cR p1 v1 e2) gX0_startWire_X5_isWire_n50 (List.mem_of_getElem? (i := 4) rfl) (List.mem_of_getElem? (i := 4) rfl) (List.mem_of_getElem? (i := 3) rfl) dX0_startWire_1 ⟨Nat.le_of_ble_eq_true rfl, Nat.le_of_ble_eq_true rfl, Nat.le_of_ble_eq_true rfl⟩ [] rfl rfl [0, 1, 2, 3] rfl rfl rfl rfl (Nat.le_of_ble_eq_true rfl) ⟨Nat.zero_le _, Nat.zero_le _⟩ rfl ?_
  refine xi_if_eq (tgt := 24) C dX0_startWire_4 (by decide) (fun c3 => ?_) (fun c3 => ?_)
  · have h := it_i c3 h
    have w0 := Option.some.inj h
    obtain ⟨q0, w1⟩ := Prod.mk.inj w0
    subst q0
    subst w1
    exact xi_ret C Z dX0_startWire_24
  · have h := ie_i c3 h
    refine xi_aload_n C dX0_startWire_7 rfl 0 rfl ?_
    refine xi_get C dX0_startWire_8 iw_X0_startWire_0 0 rfl rfl 2 (by decide) fl_X0_startWire_18 rfl ?_
    refine xi_iload_n C dX0_startWire_11 rfl 1 rfl ?_
    refine xi_iconst (v := 0) C dX0_startWire_12 (by decide) ?_
    obtain ⟨L5, e4, h⟩ := ob_i h
    refine xi_iast (w2 := (wBd cI b0 b1 b2 b3 b4 b5 T S L5 J E cp su)) C dX0_startWire_13 3 0 rfl rfl e4 rfl ?_
    refine xi_aload_n C dX0_startWire_14 rfl 0 rfl ?_
    refine xi_get C dX0_startWire_15 iw_X0_startWire_0 0 rfl rfl 3 (by decide) fl_X0_startWire_21 rfl ?_
    refine xi_iload_n C dX0_startWire_18 rfl 1 rfl ?_
    refine xi_bipush (v := 24) C dX0_startWire_19 (by decide) ?_
    refine xi_imul C dX0_startWire_21 ?_
    refine xi_iload_n C dX0_startWire_22 rfl 2 rfl ?_
    obtain ⟨J7, e6, h⟩ := ob_i h
    refine xi_iast (w2 := (wBd cI b0 b1 b2 b3 b4 b5 T S L5 J7 E cp su)) C dX0_startWire_23 4 0 rfl rfl e6 rfl ?_
    have w0 := Option.some.inj h
    obtain ⟨q0, w1⟩ := Prod.mk.inj w0
    subst q0
    subst w1
    exact xi_ret C Z dX0_startWire_24
def f_X0_extendWire (L : Nat → Int32) (J : Nat → Int32) (E : Nat → Int32) (p1 : Int32) (p2 : Int32) : Option ((Nat → Int32) × (Nat → Int32) × (Nat → Int32)) :=
  (f_X5_isWire p1).bind fun v1 =>
  if v1 = 0 then
    some (L, J, E)
  else
    (xr_d L 72 p1).bind fun v4 =>
    if v4 < 0 then
      some (L, J, E)
    else
      (xr_d L 72 p1).bind fun v7 =>
      if v7 < 23 then
        (xr_d L 72 p1).bind fun v10 =>
        (xr_d J 1728 ((p1 * 24) + v10)).bind fun v12 =>
        (f_X5_segmentBetween v12 p2).bind fun v14 =>
        if v14 = (-1) then
          some (L, J, E)
        else
          (xr_d L 72 p1).bind fun v17 =>
          (xr_w L 72 p1 (v17 + 1)).bind fun L20 =>
          (xr_d L20 72 p1).bind fun v21 =>
          (xr_w J 1728 ((p1 * 24) + v21) p2).bind fun J24 =>
          (xr_d E 48 v14).bind fun v25 =>
          (xr_w E 48 v14 (v25 + 1)).bind fun E28 =>
          some (L20, J24, E28)
      else
        some (L, J, E)
theorem k_X0_extendWire : xb_Y yX0_extendWire cX0_extendWire wsX0_extendWire 4 none { frames := 2, cells := 0, slots := 0, locals := 45 } 2 := ⟨⟨_, rfl⟩, by decide, ⟨by decide, by decide, by decide +kernel⟩, rfl, rfl⟩
theorem fl_X0_extendWire_18 : Cond.fieldLink RX0 18 "LookupBoard$Board" "lengths" "[I" ∈ wsX0_extendWire := List.mem_of_getElem? (i := 1) rfl
theorem fl_X0_extendWire_21 : Cond.fieldLink RX0 21 "LookupBoard$Board" "junctions" "[I" ∈ wsX0_extendWire := List.mem_of_getElem? (i := 2) rfl
theorem fl_X0_extendWire_24 : Cond.fieldLink RX0 24 "LookupBoard$Board" "wiresHeld" "[I" ∈ wsX0_extendWire := List.mem_of_getElem? (i := 3) rfl
theorem iw_X0_extendWire_0 : ∀ w ∈ wsX00, w ∈ wsX0_extendWire := fun w h => List.mem_cons_of_mem _ (List.mem_append_right _ h)
set_option maxHeartbeats 4000000 in
set_option maxRecDepth 100000 in
theorem m_X0_extendWire (D : va_G) (cI cC cZ cR : ClassId) (b0 b1 b2 b3 b4 b5 : Nat) (T : Nat → Int32) (S : Nat → Int32) (L : Nat → Int32) (J : Nat → Int32) (E : Nat → Int32) (cp : Int32) (su : Int32) (p1 : Int32) (p2 : Int32) (L' : Nat → Int32) (J' : Nat → Int32) (E' : Nat → Int32) (h : f_X0_extendWire L J E p1 p2 = some (L', J', E')) : xb_M cX0_extendWire wsX0_extendWire RX0 { frames := 2, cells := 0, slots := 0, locals := 45 } none 4 (xb_ty cI cC cZ cR) D [.ref b0, .int p1, .int p2] (wBd cI b0 b1 b2 b3 b4 b5 T S L J E cp su) none (wBd cI b0 b1 b2 b3 b4 b5 T S L' J' E' cp su) := by
  intro X C Z
  show xb_G X 0 0 (wBd cI b0 b1 b2 b3 b4 b5 T S L J E cp su) [(0, .ref b0), (1, .int p1), (2, .int p2)] 0 []
  unfold f_X0_extendWire at h
  refine xi_iload_n C dX0_extendWire_0 rfl 1 rfl ?_
  obtain ⟨v1, e2, h⟩ := ob_i h
  refine xi_callSN (As := [.int p1]) (o := some (.int v1)) (rest := []) (w2 := (wBd cI b0 b1 b2 b3 b4 b5 T S L J E cp su)) (st2 := [.int v1]) C k_X5_isWire (m_X5_isWire D cI cC cZ cR p1 v1 e2) gX0_extendWire_X5_isWire_n50 (List.mem_of_getElem? (i := 4) rfl) (List.mem_of_getElem? (i := 5) rfl) (List.mem_of_getElem? (i := 4) rfl) dX0_extendWire_1 ⟨Nat.le_of_ble_eq_true rfl, Nat.le_of_ble_eq_true rfl, Nat.le_of_ble_eq_true rfl⟩ [] rfl rfl [0, 1, 2, 3] rfl rfl rfl rfl (Nat.le_of_ble_eq_true rfl) ⟨Nat.zero_le _, Nat.zero_le _⟩ rfl ?_
  refine xi_if_eq (tgt := 27) C dX0_extendWire_4 (by decide) (fun c3 => ?_) (fun c3 => ?_)
  · have h := it_i c3 h
    have w0 := Option.some.inj h
    obtain ⟨q0, w1⟩ := Prod.mk.inj w0
    obtain ⟨q1, w2⟩ := Prod.mk.inj w1
    subst q0
    subst q1
    subst w2
    exact xi_ret C Z dX0_extendWire_27
  · have h := ie_i c3 h
    refine xi_aload_n C dX0_extendWire_7 rfl 0 rfl ?_
    refine xi_get C dX0_extendWire_8 iw_X0_extendWire_0 0 rfl rfl 2 (by decide) fl_X0_extendWire_18 rfl ?_
    refine xi_iload_n C dX0_extendWire_11 rfl 1 rfl ?_
    obtain ⟨v4, e5, h⟩ := ob_i h
    refine xi_iald C dX0_extendWire_12 3 0 rfl rfl e5 ?_
    refine xi_if_lt (tgt := 27) C dX0_extendWire_13 (by decide) (fun c6 => ?_) (fun c6 => ?_)
    · have h := it_i c6 h
      have w0 := Option.some.inj h
      obtain ⟨q0, w1⟩ := Prod.mk.inj w0
      obtain ⟨q1, w2⟩ := Prod.mk.inj w1
      subst q0
      subst q1
      subst w2
      exact xi_ret C Z dX0_extendWire_27
    · have h := ie_i c6 h
      refine xi_aload_n C dX0_extendWire_16 rfl 0 rfl ?_
      refine xi_get C dX0_extendWire_17 iw_X0_extendWire_0 0 rfl rfl 2 (by decide) fl_X0_extendWire_18 rfl ?_
      refine xi_iload_n C dX0_extendWire_20 rfl 1 rfl ?_
      obtain ⟨v7, e8, h⟩ := ob_i h
      refine xi_iald C dX0_extendWire_21 3 0 rfl rfl e8 ?_
      refine xi_bipush (v := 23) C dX0_extendWire_22 (by decide) ?_
      refine xi_icmp_lt (tgt := 28) C dX0_extendWire_24 (by decide) (fun c9 => ?_) (fun c9 => ?_)
      · have h := it_i c9 h
        refine xi_aload_n C dX0_extendWire_28 rfl 0 rfl ?_
        refine xi_get C dX0_extendWire_29 iw_X0_extendWire_0 0 rfl rfl 3 (by decide) fl_X0_extendWire_21 rfl ?_
        refine xi_iload_n C dX0_extendWire_32 rfl 1 rfl ?_
        refine xi_bipush (v := 24) C dX0_extendWire_33 (by decide) ?_
        refine xi_imul C dX0_extendWire_35 ?_
        refine xi_aload_n C dX0_extendWire_36 rfl 0 rfl ?_
        refine xi_get C dX0_extendWire_37 iw_X0_extendWire_0 0 rfl rfl 2 (by decide) fl_X0_extendWire_18 rfl ?_
        refine xi_iload_n C dX0_extendWire_40 rfl 1 rfl ?_
        obtain ⟨v10, e11, h⟩ := ob_i h
        refine xi_iald C dX0_extendWire_41 3 0 rfl rfl e11 ?_
        refine xi_iadd C dX0_extendWire_42 ?_
        obtain ⟨v12, e13, h⟩ := ob_i h
        refine xi_iald C dX0_extendWire_43 4 0 rfl rfl e13 ?_
        refine xi_iload_n C dX0_extendWire_44 rfl 2 rfl ?_
        obtain ⟨v14, e15, h⟩ := ob_i h
        refine xi_callSN (As := [.int v12, .int p2]) (o := some (.int v14)) (rest := []) (w2 := (wBd cI b0 b1 b2 b3 b4 b5 T S L J E cp su)) (st2 := [.int v14]) C k_X5_segmentBetween (m_X5_segmentBetween D cI cC cZ cR v12 p2 v14 e15) gX0_extendWire_X5_segmentBetween_n93 (List.mem_of_getElem? (i := 7) rfl) (List.mem_of_getElem? (i := 5) rfl) (List.mem_of_getElem? (i := 7) rfl) dX0_extendWire_45 ⟨Nat.le_of_ble_eq_true rfl, Nat.le_of_ble_eq_true rfl, Nat.le_of_ble_eq_true rfl⟩ [] rfl rfl [0, 1, 2, 3] rfl rfl rfl rfl (Nat.le_of_ble_eq_true rfl) ⟨Nat.zero_le _, Nat.zero_le _⟩ rfl ?_
        refine xi_istore_n (lv2 := [(0, .ref b0), (1, .int p1), (2, .int p2), (3, .int v14)]) C dX0_extendWire_48 rfl (by decide) [0, 1, 2] [1, 2, 3, 0] rfl ?_
        refine xi_iload_n C dX0_extendWire_49 rfl 3 rfl ?_
        refine xi_iconst (v := (-1)) C dX0_extendWire_50 (by decide) ?_
        refine xi_icmp_ne (tgt := 55) C dX0_extendWire_51 (by decide) (fun c16 => ?_) (fun c16 => ?_)
        · have h := ie_i c16 h
          refine xi_aload_n C dX0_extendWire_55 rfl 0 rfl ?_
          refine xi_get C dX0_extendWire_56 iw_X0_extendWire_0 0 rfl rfl 2 (by decide) fl_X0_extendWire_18 rfl ?_
          refine xi_iload_n C dX0_extendWire_59 rfl 1 rfl ?_
          refine xi_dup2 C dX0_extendWire_60 rfl rfl ?_
          obtain ⟨v17, e18, h⟩ := ob_i h
          refine xi_iald C dX0_extendWire_61 3 0 rfl rfl e18 ?_
          refine xi_iconst (v := 1) C dX0_extendWire_62 (by decide) ?_
          refine xi_iadd C dX0_extendWire_63 ?_
          obtain ⟨L20, e19, h⟩ := ob_i h
          refine xi_iast (w2 := (wBd cI b0 b1 b2 b3 b4 b5 T S L20 J E cp su)) C dX0_extendWire_64 3 0 rfl rfl e19 rfl ?_
          refine xi_aload_n C dX0_extendWire_65 rfl 0 rfl ?_
          refine xi_get C dX0_extendWire_66 iw_X0_extendWire_0 0 rfl rfl 3 (by decide) fl_X0_extendWire_21 rfl ?_
          refine xi_iload_n C dX0_extendWire_69 rfl 1 rfl ?_
          refine xi_bipush (v := 24) C dX0_extendWire_70 (by decide) ?_
          refine xi_imul C dX0_extendWire_72 ?_
          refine xi_aload_n C dX0_extendWire_73 rfl 0 rfl ?_
          refine xi_get C dX0_extendWire_74 iw_X0_extendWire_0 0 rfl rfl 2 (by decide) fl_X0_extendWire_18 rfl ?_
          refine xi_iload_n C dX0_extendWire_77 rfl 1 rfl ?_
          obtain ⟨v21, e22, h⟩ := ob_i h
          refine xi_iald C dX0_extendWire_78 3 0 rfl rfl e22 ?_
          refine xi_iadd C dX0_extendWire_79 ?_
          refine xi_iload_n C dX0_extendWire_80 rfl 2 rfl ?_
          obtain ⟨J24, e23, h⟩ := ob_i h
          refine xi_iast (w2 := (wBd cI b0 b1 b2 b3 b4 b5 T S L20 J24 E cp su)) C dX0_extendWire_81 4 0 rfl rfl e23 rfl ?_
          refine xi_aload_n C dX0_extendWire_82 rfl 0 rfl ?_
          refine xi_get C dX0_extendWire_83 iw_X0_extendWire_0 0 rfl rfl 4 (by decide) fl_X0_extendWire_24 rfl ?_
          refine xi_iload_n C dX0_extendWire_86 rfl 3 rfl ?_
          refine xi_dup2 C dX0_extendWire_87 rfl rfl ?_
          obtain ⟨v25, e26, h⟩ := ob_i h
          refine xi_iald C dX0_extendWire_88 5 0 rfl rfl e26 ?_
          refine xi_iconst (v := 1) C dX0_extendWire_89 (by decide) ?_
          refine xi_iadd C dX0_extendWire_90 ?_
          obtain ⟨E28, e27, h⟩ := ob_i h
          refine xi_iast (w2 := (wBd cI b0 b1 b2 b3 b4 b5 T S L20 J24 E28 cp su)) C dX0_extendWire_91 5 0 rfl rfl e27 rfl ?_
          have w0 := Option.some.inj h
          obtain ⟨q0, w1⟩ := Prod.mk.inj w0
          obtain ⟨q1, w2⟩ := Prod.mk.inj w1
          subst q0
          subst q1
          subst w2
          exact xi_ret C Z dX0_extendWire_92
        · have h := it_i c16 h
          have w0 := Option.some.inj h
          obtain ⟨q0, w1⟩ := Prod.mk.inj w0
          obtain ⟨q1, w2⟩ := Prod.mk.inj w1
          subst q0
          subst q1
          subst w2
          exact xi_ret C Z dX0_extendWire_54
      · have h := ie_i c9 h
        have w0 := Option.some.inj h
        obtain ⟨q0, w1⟩ := Prod.mk.inj w0
        obtain ⟨q1, w2⟩ := Prod.mk.inj w1
        subst q0
        subst q1
        subst w2
        exact xi_ret C Z dX0_extendWire_27
def f_X0_heldBy (E : Nat → Int32) (p1 : Int32) : Option (Int32) :=
  if p1 < 0 then
    some 0
  else
    if 48 ≤ p1 then
      some 0
    else
      (xr_d E 48 p1).bind fun v3 =>
      some v3
theorem k_X0_heldBy : xb_Y yX0_heldBy cX0_heldBy wsX0_heldBy 2 (some .int) { frames := 0, cells := 0, slots := 0, locals := 0 } 1 := ⟨⟨_, rfl⟩, by decide, ⟨by decide, by decide, by decide +kernel⟩, rfl, rfl⟩
theorem fl_X0_heldBy_24 : Cond.fieldLink RX0 24 "LookupBoard$Board" "wiresHeld" "[I" ∈ wsX0_heldBy := List.mem_of_getElem? (i := 1) rfl
theorem iw_X0_heldBy_0 : ∀ w ∈ wsX00, w ∈ wsX0_heldBy := fun w h => List.mem_cons_of_mem _ (List.mem_append_right _ h)
set_option maxHeartbeats 4000000 in
set_option maxRecDepth 100000 in
theorem m_X0_heldBy (D : va_G) (cI cC cZ cR : ClassId) (b0 b1 b2 b3 b4 b5 : Nat) (T : Nat → Int32) (S : Nat → Int32) (L : Nat → Int32) (J : Nat → Int32) (E : Nat → Int32) (cp : Int32) (su : Int32) (p1 : Int32) (r : Int32) (h : f_X0_heldBy E p1 = some r) : xb_M cX0_heldBy wsX0_heldBy RX0 { frames := 0, cells := 0, slots := 0, locals := 0 } (some .int) 2 (xb_ty cI cC cZ cR) D [.ref b0, .int p1] (wBd cI b0 b1 b2 b3 b4 b5 T S L J E cp su) (some (.int r)) (wBd cI b0 b1 b2 b3 b4 b5 T S L J E cp su) := by
  intro X C Z
  show xb_G X 0 0 (wBd cI b0 b1 b2 b3 b4 b5 T S L J E cp su) [(0, .ref b0), (1, .int p1)] 0 []
  unfold f_X0_heldBy at h
  refine xi_iload_n C dX0_heldBy_0 rfl 1 rfl ?_
  refine xi_if_lt (tgt := 19) C dX0_heldBy_1 (by decide) (fun c1 => ?_) (fun c1 => ?_)
  · have h := it_i c1 h
    refine xi_iconst (v := 0) C dX0_heldBy_19 (by decide) ?_
    have w0 := Option.some.inj h
    subst w0
    exact xi_iret C Z dX0_heldBy_20
  · have h := ie_i c1 h
    refine xi_iload_n C dX0_heldBy_4 rfl 1 rfl ?_
    refine xi_bipush (v := 48) C dX0_heldBy_5 (by decide) ?_
    refine xi_icmp_ge (tgt := 19) C dX0_heldBy_7 (by decide) (fun c2 => ?_) (fun c2 => ?_)
    · have h := it_i c2 h
      refine xi_iconst (v := 0) C dX0_heldBy_19 (by decide) ?_
      have w0 := Option.some.inj h
      subst w0
      exact xi_iret C Z dX0_heldBy_20
    · have h := ie_i c2 h
      refine xi_aload_n C dX0_heldBy_10 rfl 0 rfl ?_
      refine xi_get C dX0_heldBy_11 iw_X0_heldBy_0 0 rfl rfl 4 (by decide) fl_X0_heldBy_24 rfl ?_
      refine xi_iload_n C dX0_heldBy_14 rfl 1 rfl ?_
      obtain ⟨v3, e4, h⟩ := ob_i h
      refine xi_iald C dX0_heldBy_15 5 0 rfl rfl e4 ?_
      refine xi_goto (tgt := 20) C dX0_heldBy_16 (by decide) ?_
      have w0 := Option.some.inj h
      subst w0
      exact xi_iret C Z dX0_heldBy_20
def f_X0_priceOf (E : Nat → Int32) (cp : Int32) (su : Int32) (p1 : Int32) : Option (Int32) :=
  if p1 < 0 then
    some 1000000
  else
    if 48 ≤ p1 then
      some 1000000
    else
      (xr_d E 48 p1).bind fun v3 =>
      if v3 < cp then
        (xr_d E 48 p1).bind fun v6 =>
        some (1 + (su * v6))
      else
        some 1000000
theorem k_X0_priceOf : xb_Y yX0_priceOf cX0_priceOf wsX0_priceOf 2 (some .int) { frames := 0, cells := 0, slots := 0, locals := 0 } 1 := ⟨⟨_, rfl⟩, by decide, ⟨by decide, by decide, by decide +kernel⟩, rfl, rfl⟩
theorem fl_X0_priceOf_24 : Cond.fieldLink RX0 24 "LookupBoard$Board" "wiresHeld" "[I" ∈ wsX0_priceOf := List.mem_of_getElem? (i := 1) rfl
theorem fl_X0_priceOf_27 : Cond.fieldLink RX0 27 "LookupBoard$Board" "capacity" "I" ∈ wsX0_priceOf := List.mem_of_getElem? (i := 2) rfl
theorem fl_X0_priceOf_31 : Cond.fieldLink RX0 31 "LookupBoard$Board" "surcharge" "I" ∈ wsX0_priceOf := List.mem_of_getElem? (i := 4) rfl
theorem iw_X0_priceOf_0 : ∀ w ∈ wsX00, w ∈ wsX0_priceOf := fun w h => List.mem_cons_of_mem _ (List.mem_append_right _ h)
set_option maxHeartbeats 4000000 in
set_option maxRecDepth 100000 in
theorem m_X0_priceOf (D : va_G) (cI cC cZ cR : ClassId) (b0 b1 b2 b3 b4 b5 : Nat) (T : Nat → Int32) (S : Nat → Int32) (L : Nat → Int32) (J : Nat → Int32) (E : Nat → Int32) (cp : Int32) (su : Int32) (p1 : Int32) (r : Int32) (h : f_X0_priceOf E cp su p1 = some r) : xb_M cX0_priceOf wsX0_priceOf RX0 { frames := 0, cells := 0, slots := 0, locals := 0 } (some .int) 2 (xb_ty cI cC cZ cR) D [.ref b0, .int p1] (wBd cI b0 b1 b2 b3 b4 b5 T S L J E cp su) (some (.int r)) (wBd cI b0 b1 b2 b3 b4 b5 T S L J E cp su) := by
  intro X C Z
  show xb_G X 0 0 (wBd cI b0 b1 b2 b3 b4 b5 T S L J E cp su) [(0, .ref b0), (1, .int p1)] 0 []
  unfold f_X0_priceOf at h
  refine xi_iload_n C dX0_priceOf_0 rfl 1 rfl ?_
  refine xi_if_lt (tgt := 23) C dX0_priceOf_1 (by decide) (fun c1 => ?_) (fun c1 => ?_)
  · have h := it_i c1 h
    refine xi_ldc (v := 1000000) C dX0_priceOf_23 (List.mem_of_getElem? (i := 3) rfl) ?_
    have w0 := Option.some.inj h
    subst w0
    exact xi_iret C Z dX0_priceOf_25
  · have h := ie_i c1 h
    refine xi_iload_n C dX0_priceOf_4 rfl 1 rfl ?_
    refine xi_bipush (v := 48) C dX0_priceOf_5 (by decide) ?_
    refine xi_icmp_ge (tgt := 23) C dX0_priceOf_7 (by decide) (fun c2 => ?_) (fun c2 => ?_)
    · have h := it_i c2 h
      refine xi_ldc (v := 1000000) C dX0_priceOf_23 (List.mem_of_getElem? (i := 3) rfl) ?_
      have w0 := Option.some.inj h
      subst w0
      exact xi_iret C Z dX0_priceOf_25
    · have h := ie_i c2 h
      refine xi_aload_n C dX0_priceOf_10 rfl 0 rfl ?_
      refine xi_get C dX0_priceOf_11 iw_X0_priceOf_0 0 rfl rfl 4 (by decide) fl_X0_priceOf_24 rfl ?_
      refine xi_iload_n C dX0_priceOf_14 rfl 1 rfl ?_
      obtain ⟨v3, e4, h⟩ := ob_i h
      refine xi_iald C dX0_priceOf_15 5 0 rfl rfl e4 ?_
      refine xi_aload_n C dX0_priceOf_16 rfl 0 rfl ?_
      refine xi_get C dX0_priceOf_17 iw_X0_priceOf_0 0 rfl rfl 5 (by decide) fl_X0_priceOf_27 rfl ?_
      refine xi_icmp_lt (tgt := 26) C dX0_priceOf_20 (by decide) (fun c5 => ?_) (fun c5 => ?_)
      · have h := it_i c5 h
        refine xi_iconst (v := 1) C dX0_priceOf_26 (by decide) ?_
        refine xi_aload_n C dX0_priceOf_27 rfl 0 rfl ?_
        refine xi_get C dX0_priceOf_28 iw_X0_priceOf_0 0 rfl rfl 6 (by decide) fl_X0_priceOf_31 rfl ?_
        refine xi_aload_n C dX0_priceOf_31 rfl 0 rfl ?_
        refine xi_get C dX0_priceOf_32 iw_X0_priceOf_0 0 rfl rfl 4 (by decide) fl_X0_priceOf_24 rfl ?_
        refine xi_iload_n C dX0_priceOf_35 rfl 1 rfl ?_
        obtain ⟨v6, e7, h⟩ := ob_i h
        refine xi_iald C dX0_priceOf_36 5 0 rfl rfl e7 ?_
        refine xi_imul C dX0_priceOf_37 ?_
        refine xi_iadd C dX0_priceOf_38 ?_
        have w0 := Option.some.inj h
        subst w0
        exact xi_iret C Z dX0_priceOf_39
      · have h := ie_i c5 h
        refine xi_ldc (v := 1000000) C dX0_priceOf_23 (List.mem_of_getElem? (i := 3) rfl) ?_
        have w0 := Option.some.inj h
        subst w0
        exact xi_iret C Z dX0_priceOf_25
def f_X0_fullSegments_4 (E : Nat → Int32) (cp : Int32) (k : Int32 → Option (Int32)) : Nat → Int32 → Int32 → Option (Int32)
  | 0, _, _ => none
  | n + 1, x1_4, x2_4 =>
    if 48 ≤ x2_4 then
      k x1_4
    else
      (xr_d E 48 x2_4).bind fun v2 =>
      if v2 < cp then
        f_X0_fullSegments_4 E cp k n (x1_4 + 0) (x2_4 + 1)
      else
        f_X0_fullSegments_4 E cp k n (x1_4 + 1) (x2_4 + 1)
def f_X0_fullSegments (E : Nat → Int32) (cp : Int32) : Option (Int32) :=
  f_X0_fullSegments_4 E cp (fun x1z5 =>
    some x1z5) xFu 0 0
theorem k_X0_fullSegments : xb_Y yX0_fullSegments cX0_fullSegments wsX0_fullSegments 3 (some .int) { frames := 0, cells := 0, slots := 0, locals := 0 } 0 := ⟨⟨_, rfl⟩, by decide, ⟨by decide, by decide, by decide +kernel⟩, rfl, rfl⟩
theorem fl_X0_fullSegments_24 : Cond.fieldLink RX0 24 "LookupBoard$Board" "wiresHeld" "[I" ∈ wsX0_fullSegments := List.mem_of_getElem? (i := 1) rfl
theorem fl_X0_fullSegments_27 : Cond.fieldLink RX0 27 "LookupBoard$Board" "capacity" "I" ∈ wsX0_fullSegments := List.mem_of_getElem? (i := 2) rfl
theorem iw_X0_fullSegments_0 : ∀ w ∈ wsX00, w ∈ wsX0_fullSegments := fun w h => List.mem_cons_of_mem _ (List.mem_append_right _ h)
set_option maxHeartbeats 4000000 in
set_option maxRecDepth 100000 in
theorem m_X0_fullSegments (D : va_G) (cI cC cZ cR : ClassId) (b0 b1 b2 b3 b4 b5 : Nat) (T : Nat → Int32) (S : Nat → Int32) (L : Nat → Int32) (J : Nat → Int32) (E : Nat → Int32) (cp : Int32) (su : Int32) (r : Int32) (h : f_X0_fullSegments E cp = some r) : xb_M cX0_fullSegments wsX0_fullSegments RX0 { frames := 0, cells := 0, slots := 0, locals := 0 } (some .int) 3 (xb_ty cI cC cZ cR) D [.ref b0] (wBd cI b0 b1 b2 b3 b4 b5 T S L J E cp su) (some (.int r)) (wBd cI b0 b1 b2 b3 b4 b5 T S L J E cp su) := by
  intro X C Z
  show xb_G X 0 0 (wBd cI b0 b1 b2 b3 b4 b5 T S L J E cp su) [(0, .ref b0)] 0 []
  have lp4 : ∀ (k : Int32 → Option (Int32)) (n : Nat) (x1_4 : Int32) (x2_4 : Int32), f_X0_fullSegments_4 E cp k n x1_4 x2_4 = some r → (∀ (x1_4e : Int32), k x1_4e = some r → xb_G X 0 0 (wBd cI b0 b1 b2 b3 b4 b5 T S L J E cp su) [(1, .int x1_4e)] 37 []) → xb_G X 0 0 (wBd cI b0 b1 b2 b3 b4 b5 T S L J E cp su) [(0, .ref b0), (1, .int x1_4), (2, .int x2_4)] 4 [] := by
    intro k n
    induction n with
    | zero => intro x1_4 x2_4 h hk; unfold f_X0_fullSegments_4 at h; cases h
    | succ n ih =>
      intro x1_4 x2_4 h hk
      unfold f_X0_fullSegments_4 at h
      refine xi_iload_n C dX0_fullSegments_4 rfl 2 rfl ?_
      refine xi_bipush (v := 48) C dX0_fullSegments_5 (by decide) ?_
      refine xi_icmp_ge (tgt := 37) C dX0_fullSegments_7 (by decide) (fun c1 => ?_) (fun c1 => ?_)
      · have h := it_i c1 h
        exact xb_lv (hk x1_4 h) [1] rfl
      · have h := ie_i c1 h
        refine xi_iload_n C dX0_fullSegments_10 rfl 1 rfl ?_
        refine xi_aload_n C dX0_fullSegments_11 rfl 0 rfl ?_
        refine xi_get C dX0_fullSegments_12 iw_X0_fullSegments_0 0 rfl rfl 4 (by decide) fl_X0_fullSegments_24 rfl ?_
        refine xi_iload_n C dX0_fullSegments_15 rfl 2 rfl ?_
        obtain ⟨v2, e3, h⟩ := ob_i h
        refine xi_iald C dX0_fullSegments_16 5 0 rfl rfl e3 ?_
        refine xi_aload_n C dX0_fullSegments_17 rfl 0 rfl ?_
        refine xi_get C dX0_fullSegments_18 iw_X0_fullSegments_0 0 rfl rfl 5 (by decide) fl_X0_fullSegments_27 rfl ?_
        refine xi_icmp_lt (tgt := 28) C dX0_fullSegments_21 (by decide) (fun c4 => ?_) (fun c4 => ?_)
        · have h := it_i c4 h
          refine xi_iconst (v := 0) C dX0_fullSegments_28 (by decide) ?_
          refine xi_iadd C dX0_fullSegments_29 ?_
          refine xi_istore_n (lv2 := [(0, .ref b0), (1, .int (x1_4 + 0)), (2, .int x2_4)]) C dX0_fullSegments_30 rfl (by decide) [0, 2] [1, 0, 2] rfl ?_
          refine xi_iinc (v := x2_4 + 1) (lv2 := [(0, .ref b0), (1, .int (x1_4 + 0)), (2, .int (x2_4 + 1))]) C dX0_fullSegments_31 2 rfl (by rfl) (by decide) [0, 1] [1, 2, 0] rfl ?_
          refine xi_goto (tgt := 4) C dX0_fullSegments_34 (by decide) ?_
          exact xb_lv (ih (x1_4 + 0) (x2_4 + 1) h hk) [0, 1, 2] rfl
        · have h := ie_i c4 h
          refine xi_iconst (v := 1) C dX0_fullSegments_24 (by decide) ?_
          refine xi_goto (tgt := 29) C dX0_fullSegments_25 (by decide) ?_
          refine xi_iadd C dX0_fullSegments_29 ?_
          refine xi_istore_n (lv2 := [(0, .ref b0), (1, .int (x1_4 + 1)), (2, .int x2_4)]) C dX0_fullSegments_30 rfl (by decide) [0, 2] [1, 0, 2] rfl ?_
          refine xi_iinc (v := x2_4 + 1) (lv2 := [(0, .ref b0), (1, .int (x1_4 + 1)), (2, .int (x2_4 + 1))]) C dX0_fullSegments_31 2 rfl (by rfl) (by decide) [0, 1] [1, 2, 0] rfl ?_
          refine xi_goto (tgt := 4) C dX0_fullSegments_34 (by decide) ?_
          exact xb_lv (ih (x1_4 + 1) (x2_4 + 1) h hk) [0, 1, 2] rfl
  unfold f_X0_fullSegments at h
  refine xi_iconst (v := 0) C dX0_fullSegments_0 (by decide) ?_
  refine xi_istore_n (lv2 := [(0, .ref b0), (1, .int 0)]) C dX0_fullSegments_1 rfl (by decide) [0] [1, 0] rfl ?_
  refine xi_iconst (v := 0) C dX0_fullSegments_2 (by decide) ?_
  refine xi_istore_n (lv2 := [(0, .ref b0), (1, .int 0), (2, .int 0)]) C dX0_fullSegments_3 rfl (by decide) [0, 1] [1, 2, 0] rfl ?_
  refine xb_lv (lp4 _ xFu 0 0 h (fun x1z5 h => ?_)) [0, 1, 2] rfl
  refine xi_iload_n C dX0_fullSegments_37 rfl 0 rfl ?_
  have w0 := Option.some.inj h
  subst w0
  exact xi_iret C Z dX0_fullSegments_38
def f_X0_mostHeld_4 (E : Nat → Int32) (k : Int32 → Option (Int32)) : Nat → Int32 → Int32 → Option (Int32)
  | 0, _, _ => none
  | n + 1, x1_4, x2_4 =>
    if 48 ≤ x2_4 then
      k x1_4
    else
      (xr_d E 48 x2_4).bind fun v2 =>
      (some (if x1_4 < v2 then v2 else x1_4)).bind fun v4 =>
      f_X0_mostHeld_4 E k n v4 (x2_4 + 1)
def f_X0_mostHeld (E : Nat → Int32) : Option (Int32) :=
  f_X0_mostHeld_4 E (fun x1z6 =>
    some x1z6) xFu 0 0
theorem k_X0_mostHeld : xb_Y yX0_mostHeld cX0_mostHeld wsX0_mostHeld 3 (some .int) { frames := 1, cells := 0, slots := 0, locals := 20 } 0 := ⟨⟨_, rfl⟩, by decide, ⟨by decide, by decide, by decide +kernel⟩, rfl, rfl⟩
theorem fl_X0_mostHeld_24 : Cond.fieldLink RX0 24 "LookupBoard$Board" "wiresHeld" "[I" ∈ wsX0_mostHeld := List.mem_of_getElem? (i := 1) rfl
theorem iw_X0_mostHeld_0 : ∀ w ∈ wsX00, w ∈ wsX0_mostHeld := fun w h => List.mem_cons_of_mem _ (List.mem_append_right _ h)
set_option maxHeartbeats 4000000 in
set_option maxRecDepth 100000 in
theorem m_X0_mostHeld (D : va_G) (cI cC cZ cR : ClassId) (b0 b1 b2 b3 b4 b5 : Nat) (T : Nat → Int32) (S : Nat → Int32) (L : Nat → Int32) (J : Nat → Int32) (E : Nat → Int32) (cp : Int32) (su : Int32) (r : Int32) (h : f_X0_mostHeld E = some r) : xb_M cX0_mostHeld wsX0_mostHeld RX0 { frames := 1, cells := 0, slots := 0, locals := 20 } (some .int) 3 (xb_ty cI cC cZ cR) D [.ref b0] (wBd cI b0 b1 b2 b3 b4 b5 T S L J E cp su) (some (.int r)) (wBd cI b0 b1 b2 b3 b4 b5 T S L J E cp su) := by
  intro X C Z
  show xb_G X 0 0 (wBd cI b0 b1 b2 b3 b4 b5 T S L J E cp su) [(0, .ref b0)] 0 []
  have lp4 : ∀ (k : Int32 → Option (Int32)) (n : Nat) (x1_4 : Int32) (x2_4 : Int32), f_X0_mostHeld_4 E k n x1_4 x2_4 = some r → (∀ (x1_4e : Int32), k x1_4e = some r → xb_G X 0 0 (wBd cI b0 b1 b2 b3 b4 b5 T S L J E cp su) [(1, .int x1_4e)] 27 []) → xb_G X 0 0 (wBd cI b0 b1 b2 b3 b4 b5 T S L J E cp su) [(0, .ref b0), (1, .int x1_4), (2, .int x2_4)] 4 [] := by
    intro k n
    induction n with
    | zero => intro x1_4 x2_4 h hk; unfold f_X0_mostHeld_4 at h; cases h
    | succ n ih =>
      intro x1_4 x2_4 h hk
      unfold f_X0_mostHeld_4 at h
      refine xi_iload_n C dX0_mostHeld_4 rfl 2 rfl ?_
      refine xi_bipush (v := 48) C dX0_mostHeld_5 (by decide) ?_
      refine xi_icmp_ge (tgt := 27) C dX0_mostHeld_7 (by decide) (fun c1 => ?_) (fun c1 => ?_)
      · have h := it_i c1 h
        exact xb_lv (hk x1_4 h) [1] rfl
      · have h := ie_i c1 h
        refine xi_iload_n C dX0_mostHeld_10 rfl 1 rfl ?_
        refine xi_aload_n C dX0_mostHeld_11 rfl 0 rfl ?_
        refine xi_get C dX0_mostHeld_12 iw_X0_mostHeld_0 0 rfl rfl 4 (by decide) fl_X0_mostHeld_24 rfl ?_
        refine xi_iload_n C dX0_mostHeld_15 rfl 2 rfl ?_
        obtain ⟨v2, e3, h⟩ := ob_i h
        refine xi_iald C dX0_mostHeld_16 5 0 rfl rfl e3 ?_
        obtain ⟨v4, e5, h⟩ := ob_i h
        refine xi_mmax C dX0_mostHeld_17 (List.mem_of_getElem? (i := 2) rfl) (List.mem_of_getElem? (i := 3) rfl) (List.mem_of_getElem? (i := 4) rfl) (List.mem_of_getElem? (i := 5) rfl) (Nat.le_of_ble_eq_true rfl) (Nat.le_of_ble_eq_true rfl) ⟨Nat.zero_le _, Nat.zero_le _⟩ e5 ?_
        refine xi_istore_n (lv2 := [(0, .ref b0), (1, .int v4), (2, .int x2_4)]) C dX0_mostHeld_20 rfl (by decide) [0, 2] [1, 0, 2] rfl ?_
        refine xi_iinc (v := x2_4 + 1) (lv2 := [(0, .ref b0), (1, .int v4), (2, .int (x2_4 + 1))]) C dX0_mostHeld_21 2 rfl (by rfl) (by decide) [0, 1] [1, 2, 0] rfl ?_
        refine xi_goto (tgt := 4) C dX0_mostHeld_24 (by decide) ?_
        exact xb_lv (ih v4 (x2_4 + 1) h hk) [0, 1, 2] rfl
  unfold f_X0_mostHeld at h
  refine xi_iconst (v := 0) C dX0_mostHeld_0 (by decide) ?_
  refine xi_istore_n (lv2 := [(0, .ref b0), (1, .int 0)]) C dX0_mostHeld_1 rfl (by decide) [0] [1, 0] rfl ?_
  refine xi_iconst (v := 0) C dX0_mostHeld_2 (by decide) ?_
  refine xi_istore_n (lv2 := [(0, .ref b0), (1, .int 0), (2, .int 0)]) C dX0_mostHeld_3 rfl (by decide) [0, 1] [1, 2, 0] rfl ?_
  refine xb_lv (lp4 _ xFu 0 0 h (fun x1z6 h => ?_)) [0, 1, 2] rfl
  refine xi_iload_n C dX0_mostHeld_27 rfl 0 rfl ?_
  have w0 := Option.some.inj h
  subst w0
  exact xi_iret C Z dX0_mostHeld_28
def f_X0_setting (cp : Int32) (su : Int32) (p1 : Int32) : Option (Int32) :=
  if p1 = 0 then
    some cp
  else
    some su
theorem k_X0_setting : xb_Y yX0_setting cX0_setting wsX0_setting 2 (some .int) { frames := 0, cells := 0, slots := 0, locals := 0 } 1 := ⟨⟨_, rfl⟩, by decide, ⟨by decide, by decide, by decide +kernel⟩, rfl, rfl⟩
theorem fl_X0_setting_27 : Cond.fieldLink RX0 27 "LookupBoard$Board" "capacity" "I" ∈ wsX0_setting := List.mem_of_getElem? (i := 1) rfl
theorem fl_X0_setting_31 : Cond.fieldLink RX0 31 "LookupBoard$Board" "surcharge" "I" ∈ wsX0_setting := List.mem_of_getElem? (i := 2) rfl
theorem iw_X0_setting_0 : ∀ w ∈ wsX00, w ∈ wsX0_setting := fun w h => List.mem_cons_of_mem _ (List.mem_append_right _ h)
set_option maxHeartbeats 4000000 in
set_option maxRecDepth 100000 in
theorem m_X0_setting (D : va_G) (cI cC cZ cR : ClassId) (b0 b1 b2 b3 b4 b5 : Nat) (T : Nat → Int32) (S : Nat → Int32) (L : Nat → Int32) (J : Nat → Int32) (E : Nat → Int32) (cp : Int32) (su : Int32) (p1 : Int32) (r : Int32) (h : f_X0_setting cp su p1 = some r) : xb_M cX0_setting wsX0_setting RX0 { frames := 0, cells := 0, slots := 0, locals := 0 } (some .int) 2 (xb_ty cI cC cZ cR) D [.ref b0, .int p1] (wBd cI b0 b1 b2 b3 b4 b5 T S L J E cp su) (some (.int r)) (wBd cI b0 b1 b2 b3 b4 b5 T S L J E cp su) := by
  intro X C Z
  show xb_G X 0 0 (wBd cI b0 b1 b2 b3 b4 b5 T S L J E cp su) [(0, .ref b0), (1, .int p1)] 0 []
  unfold f_X0_setting at h
  refine xi_iload_n C dX0_setting_0 rfl 1 rfl ?_
  refine xi_if_ne (tgt := 11) C dX0_setting_1 (by decide) (fun c1 => ?_) (fun c1 => ?_)
  · have h := ie_i c1 h
    refine xi_aload_n C dX0_setting_11 rfl 0 rfl ?_
    refine xi_get C dX0_setting_12 iw_X0_setting_0 0 rfl rfl 6 (by decide) fl_X0_setting_31 rfl ?_
    have w0 := Option.some.inj h
    subst w0
    exact xi_iret C Z dX0_setting_15
  · have h := it_i c1 h
    refine xi_aload_n C dX0_setting_4 rfl 0 rfl ?_
    refine xi_get C dX0_setting_5 iw_X0_setting_0 0 rfl rfl 5 (by decide) fl_X0_setting_27 rfl ?_
    refine xi_goto (tgt := 15) C dX0_setting_8 (by decide) ?_
    have w0 := Option.some.inj h
    subst w0
    exact xi_iret C Z dX0_setting_15
def f_X0_changeSetting (cp : Int32) (su : Int32) (p1 : Int32) (p2 : Int32) : Option (Int32 × Int32) :=
  if p1 = 0 then
    some (p2, su)
  else
    some (cp, p2)
theorem k_X0_changeSetting : xb_Y yX0_changeSetting cX0_changeSetting wsX0_changeSetting 3 none { frames := 0, cells := 0, slots := 0, locals := 0 } 2 := ⟨⟨_, rfl⟩, by decide, ⟨by decide, by decide, by decide +kernel⟩, rfl, rfl⟩
theorem fl_X0_changeSetting_27 : Cond.fieldLink RX0 27 "LookupBoard$Board" "capacity" "I" ∈ wsX0_changeSetting := List.mem_of_getElem? (i := 1) rfl
theorem fl_X0_changeSetting_31 : Cond.fieldLink RX0 31 "LookupBoard$Board" "surcharge" "I" ∈ wsX0_changeSetting := List.mem_of_getElem? (i := 2) rfl
theorem iw_X0_changeSetting_0 : ∀ w ∈ wsX00, w ∈ wsX0_changeSetting := fun w h => List.mem_cons_of_mem _ (List.mem_append_right _ h)
set_option maxHeartbeats 4000000 in
set_option maxRecDepth 100000 in
theorem m_X0_changeSetting (D : va_G) (cI cC cZ cR : ClassId) (b0 b1 b2 b3 b4 b5 : Nat) (T : Nat → Int32) (S : Nat → Int32) (L : Nat → Int32) (J : Nat → Int32) (E : Nat → Int32) (cp : Int32) (su : Int32) (p1 : Int32) (p2 : Int32) (cp' : Int32) (su' : Int32) (h : f_X0_changeSetting cp su p1 p2 = some (cp', su')) : xb_M cX0_changeSetting wsX0_changeSetting RX0 { frames := 0, cells := 0, slots := 0, locals := 0 } none 3 (xb_ty cI cC cZ cR) D [.ref b0, .int p1, .int p2] (wBd cI b0 b1 b2 b3 b4 b5 T S L J E cp su) none (wBd cI b0 b1 b2 b3 b4 b5 T S L J E cp' su') := by
  intro X C Z
  show xb_G X 0 0 (wBd cI b0 b1 b2 b3 b4 b5 T S L J E cp su) [(0, .ref b0), (1, .int p1), (2, .int p2)] 0 []
  unfold f_X0_changeSetting at h
  refine xi_iload_n C dX0_changeSetting_0 rfl 1 rfl ?_
  refine xi_if_ne (tgt := 12) C dX0_changeSetting_1 (by decide) (fun c1 => ?_) (fun c1 => ?_)
  · have h := ie_i c1 h
    refine xi_aload_n C dX0_changeSetting_12 rfl 0 rfl ?_
    refine xi_iload_n C dX0_changeSetting_13 rfl 2 rfl ?_
    refine xi_put (ty := .int) (w2 := (wBd cI b0 b1 b2 b3 b4 b5 T S L J E cp p2)) C dX0_changeSetting_14 iw_X0_changeSetting_0 tyX0 tyX0_ok nmX0 0 rfl rfl 6 (by decide) fl_X0_changeSetting_31 rfl (by decide +kernel) (by rfl) (by rfl) (Nat.le_of_ble_eq_true rfl) rfl ?_
    have w0 := Option.some.inj h
    obtain ⟨q0, w1⟩ := Prod.mk.inj w0
    subst q0
    subst w1
    exact xi_ret C Z dX0_changeSetting_17
  · have h := it_i c1 h
    refine xi_aload_n C dX0_changeSetting_4 rfl 0 rfl ?_
    refine xi_iload_n C dX0_changeSetting_5 rfl 2 rfl ?_
    refine xi_put (ty := .int) (w2 := (wBd cI b0 b1 b2 b3 b4 b5 T S L J E p2 su)) C dX0_changeSetting_6 iw_X0_changeSetting_0 tyX0 tyX0_ok nmX0 0 rfl rfl 5 (by decide) fl_X0_changeSetting_27 rfl (by decide +kernel) (by rfl) (by rfl) (Nat.le_of_ble_eq_true rfl) rfl ?_
    refine xi_goto (tgt := 17) C dX0_changeSetting_9 (by decide) ?_
    have w0 := Option.some.inj h
    obtain ⟨q0, w1⟩ := Prod.mk.inj w0
    subst q0
    subst w1
    exact xi_ret C Z dX0_changeSetting_17
def f_X1_size (hn : Int32) : Option (Int32) :=
  some hn
theorem k_X1_size : xb_Y yX1_size cX1_size wsX1_size 1 (some .int) { frames := 0, cells := 0, slots := 0, locals := 0 } 0 := ⟨⟨_, rfl⟩, by decide, ⟨by decide, by decide, by decide +kernel⟩, rfl, rfl⟩
theorem fl_X1_size_17 : Cond.fieldLink RX1 17 "LookupBoard$History" "size" "I" ∈ wsX1_size := List.mem_of_getElem? (i := 1) rfl
theorem iw_X1_size_1 : ∀ w ∈ wsX10, w ∈ wsX1_size := fun w h => List.mem_cons_of_mem _ (List.mem_append_right _ h)
set_option maxHeartbeats 4000000 in
set_option maxRecDepth 100000 in
theorem m_X1_size (D : va_G) (cI cC cZ cR : ClassId) (y0 y1 : Nat) (ha : Nat → Nat → Nat) (hn : Int32) (pm : Nat → Nat) (hb : Nat → xBd) (r : Int32) (h : f_X1_size hn = some r) : xb_M cX1_size wsX1_size RX1 { frames := 0, cells := 0, slots := 0, locals := 0 } (some .int) 1 (xb_ty cI cC cZ cR) D [.ref y0] (wHi cI cR y0 y1 ha hn pm hb) (some (.int r)) (wHi cI cR y0 y1 ha hn pm hb) := by
  intro X C Z
  show xb_G X 0 0 (wHi cI cR y0 y1 ha hn pm hb) [(0, .ref y0)] 0 []
  unfold f_X1_size at h
  refine xi_aload_n C dX1_size_0 rfl 0 rfl ?_
  refine xi_get C dX1_size_1 iw_X1_size_1 0 rfl rfl 1 (by decide) fl_X1_size_17 rfl ?_
  have w0 := Option.some.inj h
  subst w0
  exact xi_iret C Z dX1_size_4
def f_X5_isTable (p0 : Int32) : Option (Int32) :=
  if p0 < 0 then
    some 0
  else
    if 256 ≤ p0 then
      some 0
    else
      some 1
theorem k_X5_isTable : xb_Y yX5_isTable cX5_isTable wsX5_isTable 1 (some .boolean) { frames := 0, cells := 0, slots := 0, locals := 0 } 1 := ⟨⟨_, rfl⟩, by decide, ⟨by decide, by decide, by decide +kernel⟩, rfl, rfl⟩
set_option maxHeartbeats 4000000 in
set_option maxRecDepth 100000 in
theorem m_X5_isTable (D : va_G) (cI cC cZ cR : ClassId) (p0 : Int32) (r : Int32) (h : f_X5_isTable p0 = some r) : xb_M cX5_isTable wsX5_isTable RX5 { frames := 0, cells := 0, slots := 0, locals := 0 } (some .boolean) 1 (xb_ty cI cC cZ cR) D [.int p0] ([] : va_W) (some (.int r)) ([] : va_W) := by
  intro X C Z
  show xb_G X 0 0 ([] : va_W) [(0, .int p0)] 0 []
  unfold f_X5_isTable at h
  refine xi_iload_n C dX5_isTable_0 rfl 0 rfl ?_
  refine xi_if_lt (tgt := 15) C dX5_isTable_1 (by decide) (fun c1 => ?_) (fun c1 => ?_)
  · have h := it_i c1 h
    refine xi_iconst (v := 0) C dX5_isTable_15 (by decide) ?_
    have w0 := Option.some.inj h
    subst w0
    exact xi_zret C Z dX5_isTable_16 xb_nz0
  · have h := ie_i c1 h
    refine xi_iload_n C dX5_isTable_4 rfl 0 rfl ?_
    refine xi_sipush (v := 256) C dX5_isTable_5 (by decide) ?_
    refine xi_icmp_ge (tgt := 15) C dX5_isTable_8 (by decide) (fun c2 => ?_) (fun c2 => ?_)
    · have h := it_i c2 h
      refine xi_iconst (v := 0) C dX5_isTable_15 (by decide) ?_
      have w0 := Option.some.inj h
      subst w0
      exact xi_zret C Z dX5_isTable_16 xb_nz0
    · have h := ie_i c2 h
      refine xi_iconst (v := 1) C dX5_isTable_11 (by decide) ?_
      refine xi_goto (tgt := 16) C dX5_isTable_12 (by decide) ?_
      have w0 := Option.some.inj h
      subst w0
      exact xi_zret C Z dX5_isTable_16 xb_nz1
def f_X5_isInput (p0 : Int32) : Option (Int32) :=
  if p0 < 0 then
    some 0
  else
    if 3 ≤ p0 then
      some 0
    else
      some 1
theorem k_X5_isInput : xb_Y yX5_isInput cX5_isInput wsX5_isInput 1 (some .boolean) { frames := 0, cells := 0, slots := 0, locals := 0 } 1 := ⟨⟨_, rfl⟩, by decide, ⟨by decide, by decide, by decide +kernel⟩, rfl, rfl⟩
set_option maxHeartbeats 4000000 in
set_option maxRecDepth 100000 in
theorem m_X5_isInput (D : va_G) (cI cC cZ cR : ClassId) (p0 : Int32) (r : Int32) (h : f_X5_isInput p0 = some r) : xb_M cX5_isInput wsX5_isInput RX5 { frames := 0, cells := 0, slots := 0, locals := 0 } (some .boolean) 1 (xb_ty cI cC cZ cR) D [.int p0] ([] : va_W) (some (.int r)) ([] : va_W) := by
  intro X C Z
  show xb_G X 0 0 ([] : va_W) [(0, .int p0)] 0 []
  unfold f_X5_isInput at h
  refine xi_iload_n C dX5_isInput_0 rfl 0 rfl ?_
  refine xi_if_lt (tgt := 13) C dX5_isInput_1 (by decide) (fun c1 => ?_) (fun c1 => ?_)
  · have h := it_i c1 h
    refine xi_iconst (v := 0) C dX5_isInput_13 (by decide) ?_
    have w0 := Option.some.inj h
    subst w0
    exact xi_zret C Z dX5_isInput_14 xb_nz0
  · have h := ie_i c1 h
    refine xi_iload_n C dX5_isInput_4 rfl 0 rfl ?_
    refine xi_iconst (v := 3) C dX5_isInput_5 (by decide) ?_
    refine xi_icmp_ge (tgt := 13) C dX5_isInput_6 (by decide) (fun c2 => ?_) (fun c2 => ?_)
    · have h := it_i c2 h
      refine xi_iconst (v := 0) C dX5_isInput_13 (by decide) ?_
      have w0 := Option.some.inj h
      subst w0
      exact xi_zret C Z dX5_isInput_14 xb_nz0
    · have h := ie_i c2 h
      refine xi_iconst (v := 1) C dX5_isInput_9 (by decide) ?_
      refine xi_goto (tgt := 14) C dX5_isInput_10 (by decide) ?_
      have w0 := Option.some.inj h
      subst w0
      exact xi_zret C Z dX5_isInput_14 xb_nz1
