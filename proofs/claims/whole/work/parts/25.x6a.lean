def f_X6_in (p0 : Int32) (p1 : Int32) (p2 : Int32) : Option (Int32) :=
  if p0 < p1 then
    some 0
  else
    if p2 < p0 then
      some 0
    else
      some 1
theorem k_X6_in : xb_Y yX6_in cX6_in wsX6_in 3 (some .boolean) { frames := 0, cells := 0, slots := 0, locals := 0 } 3 := ⟨⟨_, rfl⟩, by decide, ⟨by decide, by decide, by decide +kernel⟩, rfl, rfl⟩
set_option maxHeartbeats 4000000 in
set_option maxRecDepth 100000 in
theorem m_X6_in (D : va_G) (cI cC cZ cR : ClassId) (p0 : Int32) (p1 : Int32) (p2 : Int32) (r : Int32) (h : f_X6_in p0 p1 p2 = some r) : xb_M cX6_in wsX6_in RX6 { frames := 0, cells := 0, slots := 0, locals := 0 } (some .boolean) 3 (xb_ty cI cC cZ cR) D [.int p0, .int p1, .int p2] ([] : va_W) (some (.int r)) ([] : va_W) := by
  intro X C Z
  show xb_G X 0 0 ([] : va_W) [(0, .int p0), (1, .int p1), (2, .int p2)] 0 []
  unfold f_X6_in at h
  refine xi_iload_n C dX6_in_0 rfl 0 rfl ?_
  refine xi_iload_n C dX6_in_1 rfl 1 rfl ?_
  refine xi_icmp_lt (tgt := 14) C dX6_in_2 (by decide) (fun c1 => ?_) (fun c1 => ?_)
  · have h := it_i c1 h
    refine xi_iconst (v := 0) C dX6_in_14 (by decide) ?_
    have w0 := Option.some.inj h
    subst w0
    exact xi_zret C Z dX6_in_15 xb_nz0
  · have h := ie_i c1 h
    refine xi_iload_n C dX6_in_5 rfl 0 rfl ?_
    refine xi_iload_n C dX6_in_6 rfl 2 rfl ?_
    refine xi_icmp_gt (tgt := 14) C dX6_in_7 (by decide) (fun c2 => ?_) (fun c2 => ?_)
    · have h := it_i c2 h
      refine xi_iconst (v := 0) C dX6_in_14 (by decide) ?_
      have w0 := Option.some.inj h
      subst w0
      exact xi_zret C Z dX6_in_15 xb_nz0
    · have h := ie_i c2 h
      refine xi_iconst (v := 1) C dX6_in_10 (by decide) ?_
      refine xi_goto (tgt := 15) C dX6_in_11 (by decide) ?_
      have w0 := Option.some.inj h
      subst w0
      exact xi_zret C Z dX6_in_15 xb_nz1
def f_X6_lays_3 (N : Nat) (M : Nat) (f : Nat → Int32) (x1_3 : Int32) (x3_3 : Int32) (k : (Nat → Int32) → Option ((Nat → Int32))) : Nat → Int32 → (Nat → Int32) → Option ((Nat → Int32))
  | 0, _, _ => none
  | n + 1, x4_3, g_3 =>
    if 1898 ≤ x4_3 then
      k g_3
    else
      (xr_d f N (x1_3 + x4_3)).bind fun v2 =>
      (xr_w g_3 M (x3_3 + x4_3) v2).bind fun g5 =>
      f_X6_lays_3 N M f x1_3 x3_3 k n (x4_3 + 1) g5
def f_X6_lays (N : Nat) (M : Nat) (f : Nat → Int32) (g : Nat → Int32) (p1 : Int32) (p3 : Int32) : Option ((Nat → Int32)) :=
  f_X6_lays_3 N M f p1 p3 (fun gz6 =>
    some gz6) xFu 0 g
theorem k_X6_lays : xb_Y yX6_lays cX6_lays wsX6_lays 5 none { frames := 0, cells := 0, slots := 0, locals := 0 } 4 := ⟨⟨_, rfl⟩, by decide, ⟨by decide, by decide, by decide +kernel⟩, rfl, rfl⟩
set_option maxHeartbeats 4000000 in
set_option maxRecDepth 100000 in
theorem m_X6_lays (D : va_G) (cI cC cZ cR : ClassId) (N : Nat) (M : Nat) (q : Nat) (q1 : Nat) (f : Nat → Int32) (g : Nat → Int32) (p1 : Int32) (p3 : Int32) (g' : Nat → Int32) (h : f_X6_lays N M f g p1 p3 = some g') : xb_M cX6_lays wsX6_lays RX6 { frames := 0, cells := 0, slots := 0, locals := 0 } none 5 (xb_ty cI cC cZ cR) D [.ref q, .int p1, .ref q1, .int p3] (wAr cI q N f ++ wAr cI q1 M g) none (wAr cI q N f ++ wAr cI q1 M g') := by
  intro X C Z
  show xb_G X 0 0 (wAr cI q N f ++ wAr cI q1 M g) [(0, .ref q), (1, .int p1), (2, .ref q1), (3, .int p3)] 0 []
  have lp3 : ∀ (x1_3 : Int32) (x3_3 : Int32) (k : (Nat → Int32) → Option ((Nat → Int32))) (n : Nat) (x4_3 : Int32) (g_3 : Nat → Int32), f_X6_lays_3 N M f x1_3 x3_3 k n x4_3 g_3 = some g' → (∀ (g_3e : Nat → Int32), k g_3e = some g' → xb_G X 0 0 (wAr cI q N f ++ wAr cI q1 M g_3e) [] 29 []) → xb_G X 0 0 (wAr cI q N f ++ wAr cI q1 M g_3) [(0, .ref q), (1, .int x1_3), (2, .ref q1), (3, .int x3_3), (4, .int x4_3)] 3 [] := by
    intro x1_3 x3_3 k n
    induction n with
    | zero => intro x4_3 g_3 h hk; unfold f_X6_lays_3 at h; cases h
    | succ n ih =>
      intro x4_3 g_3 h hk
      unfold f_X6_lays_3 at h
      refine xi_iload C dX6_lays_3 4 rfl ?_
      refine xi_sipush (v := 1898) C dX6_lays_5 (by decide) ?_
      refine xi_icmp_ge (tgt := 29) C dX6_lays_8 (by decide) (fun c1 => ?_) (fun c1 => ?_)
      · have h := it_i c1 h
        exact xb_lv (hk g_3 h) [] rfl
      · have h := ie_i c1 h
        refine xi_aload_n C dX6_lays_11 rfl 2 rfl ?_
        refine xi_iload_n C dX6_lays_12 rfl 3 rfl ?_
        refine xi_iload C dX6_lays_13 4 rfl ?_
        refine xi_iadd C dX6_lays_15 ?_
        refine xi_aload_n C dX6_lays_16 rfl 0 rfl ?_
        refine xi_iload_n C dX6_lays_17 rfl 1 rfl ?_
        refine xi_iload C dX6_lays_18 4 rfl ?_
        refine xi_iadd C dX6_lays_20 ?_
        obtain ⟨v2, e3, h⟩ := ob_i h
        refine xi_iald C dX6_lays_21 0 0 rfl rfl e3 ?_
        obtain ⟨g5, e4, h⟩ := ob_i h
        refine xi_iast (w2 := (wAr cI q N f ++ wAr cI q1 M g5)) C dX6_lays_22 1 0 rfl rfl e4 rfl ?_
        refine xi_iinc (v := x4_3 + 1) (lv2 := [(0, .ref q), (1, .int x1_3), (2, .ref q1), (3, .int x3_3), (4, .int (x4_3 + 1))]) C dX6_lays_23 4 rfl (by rfl) (by decide) [0, 1, 2, 3] [1, 2, 3, 4, 0] rfl ?_
        refine xi_goto (tgt := 3) C dX6_lays_26 (by decide) ?_
        exact xb_lv (ih (x4_3 + 1) g5 h hk) [0, 1, 2, 3, 4] rfl
  unfold f_X6_lays at h
  refine xi_iconst (v := 0) C dX6_lays_0 (by decide) ?_
  refine xi_istore (lv2 := [(0, .ref q), (1, .int p1), (2, .ref q1), (3, .int p3), (4, .int 0)]) C dX6_lays_1 (by decide) [0, 1, 2, 3] [1, 2, 3, 4, 0] rfl ?_
  refine xb_lv (lp3 p1 p3 _ xFu 0 g h (fun gz6 h => ?_)) [0, 1, 2, 3, 4] rfl
  have w0 := Option.some.inj h
  subst w0
  exact xi_ret C Z dX6_lays_29
def f_X6_records_10 (k : (Nat → Int32) → Option (Int32 × (Nat → Int32))) : Nat → Int32 → (Nat → Int32) → Option (Int32 × (Nat → Int32))
  | 0, _, _ => none
  | n + 1, x1_10, pst_10 =>
    if 5694 ≤ x1_10 then
      k pst_10
    else
      (xr_d pst_10 7592 (x1_10 + 1898)).bind fun v5 =>
      (xr_w pst_10 7592 x1_10 v5).bind fun pst8 =>
      f_X6_records_10 k n (x1_10 + 1) pst8
def f_X6_records (st : Int32) (now : Nat → Int32) (pst : Nat → Int32) : Option (Int32 × (Nat → Int32)) :=
  if st = 4 then
    f_X6_records_10 (fun pstz9 =>
      (f_X6_lays 1898 7592 now pstz9 0 (1898 * (st - 1))).bind fun g10 =>
      some ((st - 1) + 1, g10)) xFu 0 pst
  else
    (f_X6_lays 1898 7592 now pst 0 (1898 * st)).bind fun g2 =>
    some (st + 1, g2)
theorem k_X6_records : xb_Y yX6_records cX6_records wsX6_records 2 none { frames := 1, cells := 0, slots := 0, locals := 24 } 0 := ⟨⟨_, rfl⟩, by decide, ⟨by decide, by decide, by decide +kernel⟩, rfl, rfl⟩
theorem fl_X6_records_7 : Cond.fieldLink RX6 7 "LookupBoardModel" "now" "[I" ∈ wsX6_records := List.mem_of_getElem? (i := 3) rfl
theorem fl_X6_records_16 : Cond.fieldLink RX6 16 "LookupBoardModel" "past" "[I" ∈ wsX6_records := List.mem_of_getElem? (i := 2) rfl
theorem fl_X6_records_45 : Cond.fieldLink RX6 45 "LookupBoardModel" "states" "I" ∈ wsX6_records := List.mem_of_getElem? (i := 1) rfl
theorem iw_X6_records_6 : ∀ w ∈ wsX60, w ∈ wsX6_records := fun w h => List.mem_cons_of_mem _ (List.mem_append_right _ h)
set_option maxHeartbeats 4000000 in
set_option maxRecDepth 100000 in
theorem m_X6_records (D : va_G) (cI cC cZ cR : ClassId) (o0 : Nat) (ma : Nat → Nat) (st : Int32) (ik : Int32) (le : Int32) (sp : Int32) (nu : Int32) (now : Nat → Int32) (thn : Nat → Int32) (pst : Nat → Int32) (snp : Nat → Int32) (txt : Nat → Int32) (hld : Nat → Int32) (far : Nat → Int32) (don : Nat → Int32) (tld : Nat → Int32) (dep : Nat → Int32) (bit : Nat → Int32) (st' : Int32) (pst' : Nat → Int32) (h : f_X6_records st now pst = some (st', pst')) : xb_M cX6_records wsX6_records RX6 { frames := 1, cells := 0, slots := 0, locals := 24 } none 2 (xb_ty cI cC cZ cR) D [.ref o0] (wMo o0 ma st ik le sp nu ++ wAr cI (ma 0) 1898 now ++ wAr cI (ma 1) 1898 thn ++ wAr cI (ma 2) 7592 pst ++ wAr cI (ma 3) 1898 snp ++ wAr cC (ma 4) 80 txt ++ wAr cI (ma 5) 48 hld ++ wAr cI (ma 6) 24 far ++ wAr cZ (ma 7) 72 don ++ wAr cI (ma 8) 96 tld ++ wAr cI (ma 9) 24 dep ++ wAr cI (ma 10) 24 bit) none (wMo o0 ma st' ik le sp nu ++ wAr cI (ma 0) 1898 now ++ wAr cI (ma 1) 1898 thn ++ wAr cI (ma 2) 7592 pst' ++ wAr cI (ma 3) 1898 snp ++ wAr cC (ma 4) 80 txt ++ wAr cI (ma 5) 48 hld ++ wAr cI (ma 6) 24 far ++ wAr cZ (ma 7) 72 don ++ wAr cI (ma 8) 96 tld ++ wAr cI (ma 9) 24 dep ++ wAr cI (ma 10) 24 bit) := by
  intro X C Z
  show xb_G X 0 0 (wMo o0 ma st ik le sp nu ++ wAr cI (ma 0) 1898 now ++ wAr cI (ma 1) 1898 thn ++ wAr cI (ma 2) 7592 pst ++ wAr cI (ma 3) 1898 snp ++ wAr cC (ma 4) 80 txt ++ wAr cI (ma 5) 48 hld ++ wAr cI (ma 6) 24 far ++ wAr cZ (ma 7) 72 don ++ wAr cI (ma 8) 96 tld ++ wAr cI (ma 9) 24 dep ++ wAr cI (ma 10) 24 bit) [(0, .ref o0)] 0 []
  have lp10 : ∀ (st_10 : Int32) (k : (Nat → Int32) → Option (Int32 × (Nat → Int32))) (n : Nat) (x1_10 : Int32) (pst_10 : Nat → Int32), f_X6_records_10 k n x1_10 pst_10 = some (st', pst') → (∀ (pst_10e : Nat → Int32), k pst_10e = some (st', pst') → xb_G X 0 0 (wMo o0 ma st_10 ik le sp nu ++ wAr cI (ma 0) 1898 now ++ wAr cI (ma 1) 1898 thn ++ wAr cI (ma 2) 7592 pst_10e ++ wAr cI (ma 3) 1898 snp ++ wAr cC (ma 4) 80 txt ++ wAr cI (ma 5) 48 hld ++ wAr cI (ma 6) 24 far ++ wAr cZ (ma 7) 72 don ++ wAr cI (ma 8) 96 tld ++ wAr cI (ma 9) 24 dep ++ wAr cI (ma 10) 24 bit) [(0, .ref o0)] 39 []) → xb_G X 0 0 (wMo o0 ma st_10 ik le sp nu ++ wAr cI (ma 0) 1898 now ++ wAr cI (ma 1) 1898 thn ++ wAr cI (ma 2) 7592 pst_10 ++ wAr cI (ma 3) 1898 snp ++ wAr cC (ma 4) 80 txt ++ wAr cI (ma 5) 48 hld ++ wAr cI (ma 6) 24 far ++ wAr cZ (ma 7) 72 don ++ wAr cI (ma 8) 96 tld ++ wAr cI (ma 9) 24 dep ++ wAr cI (ma 10) 24 bit) [(0, .ref o0), (1, .int x1_10)] 10 [] := by
    intro st_10 k n
    induction n with
    | zero => intro x1_10 pst_10 h hk; unfold f_X6_records_10 at h; cases h
    | succ n ih =>
      intro x1_10 pst_10 h hk
      unfold f_X6_records_10 at h
      refine xi_iload_n C dX6_records_10 rfl 1 rfl ?_
      refine xi_sipush (v := 5694) C dX6_records_11 (by decide) ?_
      refine xi_icmp_ge (tgt := 39) C dX6_records_14 (by decide) (fun c4 => ?_) (fun c4 => ?_)
      · have h := it_i c4 h
        exact xb_lv (hk pst_10 h) [0] rfl
      · have h := ie_i c4 h
        refine xi_aload_n C dX6_records_17 rfl 0 rfl ?_
        refine xi_get C dX6_records_18 iw_X6_records_6 0 rfl rfl 2 (by decide) fl_X6_records_16 rfl ?_
        refine xi_iload_n C dX6_records_21 rfl 1 rfl ?_
        refine xi_aload_n C dX6_records_22 rfl 0 rfl ?_
        refine xi_get C dX6_records_23 iw_X6_records_6 0 rfl rfl 2 (by decide) fl_X6_records_16 rfl ?_
        refine xi_iload_n C dX6_records_26 rfl 1 rfl ?_
        refine xi_sipush (v := 1898) C dX6_records_27 (by decide) ?_
        refine xi_iadd C dX6_records_30 ?_
        obtain ⟨v5, e6, h⟩ := ob_i h
        refine xi_iald C dX6_records_31 3 0 rfl rfl e6 ?_
        obtain ⟨pst8, e7, h⟩ := ob_i h
        refine xi_iast (w2 := (wMo o0 ma st_10 ik le sp nu ++ wAr cI (ma 0) 1898 now ++ wAr cI (ma 1) 1898 thn ++ wAr cI (ma 2) 7592 pst8 ++ wAr cI (ma 3) 1898 snp ++ wAr cC (ma 4) 80 txt ++ wAr cI (ma 5) 48 hld ++ wAr cI (ma 6) 24 far ++ wAr cZ (ma 7) 72 don ++ wAr cI (ma 8) 96 tld ++ wAr cI (ma 9) 24 dep ++ wAr cI (ma 10) 24 bit)) C dX6_records_32 3 0 rfl rfl e7 rfl ?_
        refine xi_iinc (v := x1_10 + 1) (lv2 := [(0, .ref o0), (1, .int (x1_10 + 1))]) C dX6_records_33 1 rfl (by rfl) (by decide) [0] [1, 0] rfl ?_
        refine xi_goto (tgt := 10) C dX6_records_36 (by decide) ?_
        exact xb_lv (ih (x1_10 + 1) pst8 h hk) [0, 1] rfl
  unfold f_X6_records at h
  refine xi_aload_n C dX6_records_0 rfl 0 rfl ?_
  refine xi_get C dX6_records_1 iw_X6_records_6 0 rfl rfl 3 (by decide) fl_X6_records_45 rfl ?_
  refine xi_iconst (v := 4) C dX6_records_4 (by decide) ?_
  refine xi_icmp_ne (tgt := 49) C dX6_records_5 (by decide) (fun c1 => ?_) (fun c1 => ?_)
  · have h := ie_i c1 h
    refine xi_aload_n C dX6_records_49 rfl 0 rfl ?_
    refine xi_get C dX6_records_50 iw_X6_records_6 0 rfl rfl 0 (by decide) fl_X6_records_7 rfl ?_
    refine xi_iconst (v := 0) C dX6_records_53 (by decide) ?_
    refine xi_aload_n C dX6_records_54 rfl 0 rfl ?_
    refine xi_get C dX6_records_55 iw_X6_records_6 0 rfl rfl 2 (by decide) fl_X6_records_16 rfl ?_
    refine xi_sipush (v := 1898) C dX6_records_58 (by decide) ?_
    refine xi_aload_n C dX6_records_61 rfl 0 rfl ?_
    refine xi_get C dX6_records_62 iw_X6_records_6 0 rfl rfl 3 (by decide) fl_X6_records_45 rfl ?_
    refine xi_imul C dX6_records_65 ?_
    obtain ⟨g2, e3, h⟩ := ob_i h
    refine xi_callS (As := [.ref (ma 0), .int 0, .ref (ma 2), .int (1898 * st)]) (o := none) (rest := []) (w2 := (wMo o0 ma st ik le sp nu ++ wAr cI (ma 0) 1898 now ++ wAr cI (ma 1) 1898 thn ++ wAr cI (ma 2) 7592 g2 ++ wAr cI (ma 3) 1898 snp ++ wAr cC (ma 4) 80 txt ++ wAr cI (ma 5) 48 hld ++ wAr cI (ma 6) 24 far ++ wAr cZ (ma 7) 72 don ++ wAr cI (ma 8) 96 tld ++ wAr cI (ma 9) 24 dep ++ wAr cI (ma 10) 24 bit)) (st2 := []) C k_X6_lays (m_X6_lays D cI cC cZ cR 1898 7592 (ma 0) (ma 2) now pst 0 (1898 * st) g2 e3) gX6_records_X6_lays dX6_records_66 ⟨Nat.le_of_ble_eq_true rfl, Nat.le_of_ble_eq_true rfl, Nat.le_of_ble_eq_true rfl⟩ [1, 3] mxC_X6_1_3 rfl [0, 1, 2, 3] rfl mxF_X6_1_3 mxM_X6_1_3 rfl (Nat.le_of_ble_eq_true rfl) ⟨Nat.zero_le _, Nat.zero_le _⟩ rfl ?_
    refine xi_aload_n C dX6_records_69 rfl 0 rfl ?_
    refine xi_dup C dX6_records_70 rfl ?_
    refine xi_get C dX6_records_71 iw_X6_records_6 0 rfl rfl 3 (by decide) fl_X6_records_45 rfl ?_
    refine xi_iconst (v := 1) C dX6_records_74 (by decide) ?_
    refine xi_iadd C dX6_records_75 ?_
    refine xi_put (ty := .int) (w2 := (wMo o0 ma (st + 1) ik le sp nu ++ wAr cI (ma 0) 1898 now ++ wAr cI (ma 1) 1898 thn ++ wAr cI (ma 2) 7592 g2 ++ wAr cI (ma 3) 1898 snp ++ wAr cC (ma 4) 80 txt ++ wAr cI (ma 5) 48 hld ++ wAr cI (ma 6) 24 far ++ wAr cZ (ma 7) 72 don ++ wAr cI (ma 8) 96 tld ++ wAr cI (ma 9) 24 dep ++ wAr cI (ma 10) 24 bit)) C dX6_records_76 iw_X6_records_6 tyX6 tyX6_ok nmX6 0 rfl rfl 3 (by decide) fl_X6_records_45 rfl (by decide +kernel) (by rfl) (by rfl) (Nat.le_of_ble_eq_true rfl) rfl ?_
    have w0 := Option.some.inj h
    obtain ⟨q0, w1⟩ := Prod.mk.inj w0
    subst q0
    subst w1
    exact xi_ret C Z dX6_records_79
  · have h := it_i c1 h
    refine xi_iconst (v := 0) C dX6_records_8 (by decide) ?_
    refine xi_istore_n (lv2 := [(0, .ref o0), (1, .int 0)]) C dX6_records_9 rfl (by decide) [0] [1, 0] rfl ?_
    refine xb_lv (lp10 st _ xFu 0 pst h (fun pstz9 h => ?_)) [0, 1] rfl
    refine xi_aload_n C dX6_records_39 rfl 0 rfl ?_
    refine xi_dup C dX6_records_40 rfl ?_
    refine xi_get C dX6_records_41 iw_X6_records_6 0 rfl rfl 3 (by decide) fl_X6_records_45 rfl ?_
    refine xi_iconst (v := 1) C dX6_records_44 (by decide) ?_
    refine xi_isub C dX6_records_45 ?_
    refine xi_put (ty := .int) (w2 := (wMo o0 ma (st - 1) ik le sp nu ++ wAr cI (ma 0) 1898 now ++ wAr cI (ma 1) 1898 thn ++ wAr cI (ma 2) 7592 pstz9 ++ wAr cI (ma 3) 1898 snp ++ wAr cC (ma 4) 80 txt ++ wAr cI (ma 5) 48 hld ++ wAr cI (ma 6) 24 far ++ wAr cZ (ma 7) 72 don ++ wAr cI (ma 8) 96 tld ++ wAr cI (ma 9) 24 dep ++ wAr cI (ma 10) 24 bit)) C dX6_records_46 iw_X6_records_6 tyX6 tyX6_ok nmX6 0 rfl rfl 3 (by decide) fl_X6_records_45 rfl (by decide +kernel) (by rfl) (by rfl) (Nat.le_of_ble_eq_true rfl) rfl ?_
    refine xi_aload_n C dX6_records_49 rfl 0 rfl ?_
    refine xi_get C dX6_records_50 iw_X6_records_6 0 rfl rfl 0 (by decide) fl_X6_records_7 rfl ?_
    refine xi_iconst (v := 0) C dX6_records_53 (by decide) ?_
    refine xi_aload_n C dX6_records_54 rfl 0 rfl ?_
    refine xi_get C dX6_records_55 iw_X6_records_6 0 rfl rfl 2 (by decide) fl_X6_records_16 rfl ?_
    refine xi_sipush (v := 1898) C dX6_records_58 (by decide) ?_
    refine xi_aload_n C dX6_records_61 rfl 0 rfl ?_
    refine xi_get C dX6_records_62 iw_X6_records_6 0 rfl rfl 3 (by decide) fl_X6_records_45 rfl ?_
    refine xi_imul C dX6_records_65 ?_
    obtain ⟨g10, e11, h⟩ := ob_i h
    refine xi_callS (As := [.ref (ma 0), .int 0, .ref (ma 2), .int (1898 * (st - 1))]) (o := none) (rest := []) (w2 := (wMo o0 ma (st - 1) ik le sp nu ++ wAr cI (ma 0) 1898 now ++ wAr cI (ma 1) 1898 thn ++ wAr cI (ma 2) 7592 g10 ++ wAr cI (ma 3) 1898 snp ++ wAr cC (ma 4) 80 txt ++ wAr cI (ma 5) 48 hld ++ wAr cI (ma 6) 24 far ++ wAr cZ (ma 7) 72 don ++ wAr cI (ma 8) 96 tld ++ wAr cI (ma 9) 24 dep ++ wAr cI (ma 10) 24 bit)) (st2 := []) C k_X6_lays (m_X6_lays D cI cC cZ cR 1898 7592 (ma 0) (ma 2) now pstz9 0 (1898 * (st - 1)) g10 e11) gX6_records_X6_lays dX6_records_66 ⟨Nat.le_of_ble_eq_true rfl, Nat.le_of_ble_eq_true rfl, Nat.le_of_ble_eq_true rfl⟩ [1, 3] mxC_X6_1_3 rfl [0, 1, 2, 3] rfl mxF_X6_1_3 mxM_X6_1_3 rfl (Nat.le_of_ble_eq_true rfl) ⟨Nat.zero_le _, Nat.zero_le _⟩ rfl ?_
    refine xi_aload_n C dX6_records_69 rfl 0 rfl ?_
    refine xi_dup C dX6_records_70 rfl ?_
    refine xi_get C dX6_records_71 iw_X6_records_6 0 rfl rfl 3 (by decide) fl_X6_records_45 rfl ?_
    refine xi_iconst (v := 1) C dX6_records_74 (by decide) ?_
    refine xi_iadd C dX6_records_75 ?_
    refine xi_put (ty := .int) (w2 := (wMo o0 ma ((st - 1) + 1) ik le sp nu ++ wAr cI (ma 0) 1898 now ++ wAr cI (ma 1) 1898 thn ++ wAr cI (ma 2) 7592 g10 ++ wAr cI (ma 3) 1898 snp ++ wAr cC (ma 4) 80 txt ++ wAr cI (ma 5) 48 hld ++ wAr cI (ma 6) 24 far ++ wAr cZ (ma 7) 72 don ++ wAr cI (ma 8) 96 tld ++ wAr cI (ma 9) 24 dep ++ wAr cI (ma 10) 24 bit)) C dX6_records_76 iw_X6_records_6 tyX6 tyX6_ok nmX6 0 rfl rfl 3 (by decide) fl_X6_records_45 rfl (by decide +kernel) (by rfl) (by rfl) (Nat.le_of_ble_eq_true rfl) rfl ?_
    have w0 := Option.some.inj h
    obtain ⟨q0, w1⟩ := Prod.mk.inj w0
    subst q0
    subst w1
    exact xi_ret C Z dX6_records_79
def f_X6_isPlace (p0 : Int32) : Option (Int32) :=
  (f_X6_in p0 0 23).bind fun v1 =>
  (xr_z v1).bind fun v3 =>
  some v3
theorem k_X6_isPlace : xb_Y yX6_isPlace cX6_isPlace wsX6_isPlace 1 (some .boolean) { frames := 1, cells := 0, slots := 0, locals := 22 } 1 := ⟨⟨_, rfl⟩, by decide, ⟨by decide, by decide, by decide +kernel⟩, rfl, rfl⟩
set_option maxHeartbeats 4000000 in
set_option maxRecDepth 100000 in
theorem m_X6_isPlace (D : va_G) (cI cC cZ cR : ClassId) (p0 : Int32) (r : Int32) (h : f_X6_isPlace p0 = some r) : xb_M cX6_isPlace wsX6_isPlace RX6 { frames := 1, cells := 0, slots := 0, locals := 22 } (some .boolean) 1 (xb_ty cI cC cZ cR) D [.int p0] ([] : va_W) (some (.int r)) ([] : va_W) := by
  intro X C Z
  show xb_G X 0 0 ([] : va_W) [(0, .int p0)] 0 []
  unfold f_X6_isPlace at h
  refine xi_iload_n C dX6_isPlace_0 rfl 0 rfl ?_
  refine xi_iconst (v := 0) C dX6_isPlace_1 (by decide) ?_
  refine xi_bipush (v := 23) C dX6_isPlace_2 (by decide) ?_
  obtain ⟨v1, e2, h⟩ := ob_i h
  refine xi_callS (As := [.int p0, .int 0, .int 23]) (o := some (.int v1)) (rest := []) (w2 := ([] : va_W)) (st2 := [.int v1]) C k_X6_in (m_X6_in D cI cC cZ cR p0 0 23 v1 e2) gX6_isPlace_X6_in dX6_isPlace_4 ⟨Nat.le_of_ble_eq_true rfl, Nat.le_of_ble_eq_true rfl, Nat.le_of_ble_eq_true rfl⟩ [] rfl rfl [0, 1, 2, 3] rfl rfl rfl rfl (Nat.le_of_ble_eq_true rfl) ⟨Nat.zero_le _, Nat.zero_le _⟩ rfl ?_
  obtain ⟨v3, e4, h⟩ := ob_i h
  obtain ⟨e4n, e4q⟩ := xr_z_spec e4
  subst e4q
  have w0 := Option.some.inj h
  subst w0
  exact xi_zret C Z dX6_isPlace_7 e4n
def f_X6_isCell (rr : Nat → Int32) (p1 : Int32) : Option (Int32) :=
  (f_X6_isPlace p1).bind fun v1 =>
  if v1 = 0 then
    some 0
  else
    (xr_d rr 1898 (0 + p1)).bind fun v4 =>
    if v4 = (-5) then
      some 0
    else
      some 1
theorem k_X6_isCell : xb_Y yX6_isCell cX6_isCell wsX6_isCell 2 (some .boolean) { frames := 2, cells := 0, slots := 0, locals := 42 } 2 := ⟨⟨_, rfl⟩, by decide, ⟨by decide, by decide, by decide +kernel⟩, rfl, rfl⟩
set_option maxHeartbeats 4000000 in
set_option maxRecDepth 100000 in
theorem m_X6_isCell (D : va_G) (cI cC cZ cR : ClassId) (q : Nat) (rr : Nat → Int32) (p1 : Int32) (r : Int32) (h : f_X6_isCell rr p1 = some r) : xb_M cX6_isCell wsX6_isCell RX6 { frames := 2, cells := 0, slots := 0, locals := 42 } (some .boolean) 2 (xb_ty cI cC cZ cR) D [.ref q, .int p1] (wAr cI q 1898 rr) (some (.int r)) (wAr cI q 1898 rr) := by
  intro X C Z
  show xb_G X 0 0 (wAr cI q 1898 rr) [(0, .ref q), (1, .int p1)] 0 []
  unfold f_X6_isCell at h
  refine xi_iload_n C dX6_isCell_0 rfl 1 rfl ?_
  obtain ⟨v1, e2, h⟩ := ob_i h
  refine xi_callS (As := [.int p1]) (o := some (.int v1)) (rest := []) (w2 := (wAr cI q 1898 rr)) (st2 := [.int v1]) C k_X6_isPlace (m_X6_isPlace D cI cC cZ cR p1 v1 e2) gX6_isCell_X6_isPlace dX6_isCell_1 ⟨Nat.le_of_ble_eq_true rfl, Nat.le_of_ble_eq_true rfl, Nat.le_of_ble_eq_true rfl⟩ [] rfl rfl [0, 1, 2, 3] rfl rfl rfl rfl (Nat.le_of_ble_eq_true rfl) ⟨Nat.zero_le _, Nat.zero_le _⟩ rfl ?_
  refine xi_if_eq (tgt := 21) C dX6_isCell_4 (by decide) (fun c3 => ?_) (fun c3 => ?_)
  · have h := it_i c3 h
    refine xi_iconst (v := 0) C dX6_isCell_21 (by decide) ?_
    have w0 := Option.some.inj h
    subst w0
    exact xi_zret C Z dX6_isCell_22 xb_nz0
  · have h := ie_i c3 h
    refine xi_aload_n C dX6_isCell_7 rfl 0 rfl ?_
    refine xi_iconst (v := 0) C dX6_isCell_8 (by decide) ?_
    refine xi_iload_n C dX6_isCell_9 rfl 1 rfl ?_
    refine xi_iadd C dX6_isCell_10 ?_
    obtain ⟨v4, e5, h⟩ := ob_i h
    refine xi_iald C dX6_isCell_11 0 0 rfl rfl e5 ?_
    refine xi_bipush (v := (-5)) C dX6_isCell_12 (by decide) ?_
    refine xi_icmp_eq (tgt := 21) C dX6_isCell_14 (by decide) (fun c6 => ?_) (fun c6 => ?_)
    · have h := it_i c6 h
      refine xi_iconst (v := 0) C dX6_isCell_21 (by decide) ?_
      have w0 := Option.some.inj h
      subst w0
      exact xi_zret C Z dX6_isCell_22 xb_nz0
    · have h := ie_i c6 h
      refine xi_iconst (v := 1) C dX6_isCell_17 (by decide) ?_
      refine xi_goto (tgt := 22) C dX6_isCell_18 (by decide) ?_
      have w0 := Option.some.inj h
      subst w0
      exact xi_zret C Z dX6_isCell_22 xb_nz1
def f_X6_cells_4 (rr : Nat → Int32) (k : Int32 → Option (Int32)) : Nat → Int32 → Int32 → Option (Int32)
  | 0, _, _ => none
  | n + 1, x1_4, x2_4 =>
    if 24 ≤ x2_4 then
      k x1_4
    else
      (f_X6_isCell rr x2_4).bind fun v2 =>
      if v2 = 0 then
        f_X6_cells_4 rr k n (x1_4 + 0) (x2_4 + 1)
      else
        f_X6_cells_4 rr k n (x1_4 + 1) (x2_4 + 1)
def f_X6_cells (rr : Nat → Int32) : Option (Int32) :=
  f_X6_cells_4 rr (fun x1z5 =>
    some x1z5) xFu 0 0
theorem k_X6_cells : xb_Y yX6_cells cX6_cells wsX6_cells 3 (some .int) { frames := 3, cells := 0, slots := 0, locals := 63 } 1 := ⟨⟨_, rfl⟩, by decide, ⟨by decide, by decide, by decide +kernel⟩, rfl, rfl⟩
set_option maxHeartbeats 4000000 in
set_option maxRecDepth 100000 in
theorem m_X6_cells (D : va_G) (cI cC cZ cR : ClassId) (q : Nat) (rr : Nat → Int32) (r : Int32) (h : f_X6_cells rr = some r) : xb_M cX6_cells wsX6_cells RX6 { frames := 3, cells := 0, slots := 0, locals := 63 } (some .int) 3 (xb_ty cI cC cZ cR) D [.ref q] (wAr cI q 1898 rr) (some (.int r)) (wAr cI q 1898 rr) := by
  intro X C Z
  show xb_G X 0 0 (wAr cI q 1898 rr) [(0, .ref q)] 0 []
  have lp4 : ∀ (k : Int32 → Option (Int32)) (n : Nat) (x1_4 : Int32) (x2_4 : Int32), f_X6_cells_4 rr k n x1_4 x2_4 = some r → (∀ (x1_4e : Int32), k x1_4e = some r → xb_G X 0 0 (wAr cI q 1898 rr) [(1, .int x1_4e)] 32 []) → xb_G X 0 0 (wAr cI q 1898 rr) [(0, .ref q), (1, .int x1_4), (2, .int x2_4)] 4 [] := by
    intro k n
    induction n with
    | zero => intro x1_4 x2_4 h hk; unfold f_X6_cells_4 at h; cases h
    | succ n ih =>
      intro x1_4 x2_4 h hk
      unfold f_X6_cells_4 at h
      refine xi_iload_n C dX6_cells_4 rfl 2 rfl ?_
      refine xi_bipush (v := 24) C dX6_cells_5 (by decide) ?_
      refine xi_icmp_ge (tgt := 32) C dX6_cells_7 (by decide) (fun c1 => ?_) (fun c1 => ?_)
      · have h := it_i c1 h
        exact xb_lv (hk x1_4 h) [1] rfl
      · have h := ie_i c1 h
        refine xi_iload_n C dX6_cells_10 rfl 1 rfl ?_
        refine xi_aload_n C dX6_cells_11 rfl 0 rfl ?_
        refine xi_iload_n C dX6_cells_12 rfl 2 rfl ?_
        obtain ⟨v2, e3, h⟩ := ob_i h
        refine xi_callS (As := [.ref q, .int x2_4]) (o := some (.int v2)) (rest := [.int x1_4]) (w2 := (wAr cI q 1898 rr)) (st2 := [.int v2, .int x1_4]) C k_X6_isCell (m_X6_isCell D cI cC cZ cR q rr x2_4 v2 e3) gX6_cells_X6_isCell dX6_cells_13 ⟨Nat.le_of_ble_eq_true rfl, Nat.le_of_ble_eq_true rfl, Nat.le_of_ble_eq_true rfl⟩ [0] rfl rfl [0, 1, 2, 3] rfl rfl rfl rfl (Nat.le_of_ble_eq_true rfl) ⟨Nat.zero_le _, Nat.zero_le _⟩ rfl ?_
        refine xi_if_eq (tgt := 23) C dX6_cells_16 (by decide) (fun c4 => ?_) (fun c4 => ?_)
        · have h := it_i c4 h
          refine xi_iconst (v := 0) C dX6_cells_23 (by decide) ?_
          refine xi_iadd C dX6_cells_24 ?_
          refine xi_istore_n (lv2 := [(0, .ref q), (1, .int (x1_4 + 0)), (2, .int x2_4)]) C dX6_cells_25 rfl (by decide) [0, 2] [1, 0, 2] rfl ?_
          refine xi_iinc (v := x2_4 + 1) (lv2 := [(0, .ref q), (1, .int (x1_4 + 0)), (2, .int (x2_4 + 1))]) C dX6_cells_26 2 rfl (by rfl) (by decide) [0, 1] [1, 2, 0] rfl ?_
          refine xi_goto (tgt := 4) C dX6_cells_29 (by decide) ?_
          exact xb_lv (ih (x1_4 + 0) (x2_4 + 1) h hk) [0, 1, 2] rfl
        · have h := ie_i c4 h
          refine xi_iconst (v := 1) C dX6_cells_19 (by decide) ?_
          refine xi_goto (tgt := 24) C dX6_cells_20 (by decide) ?_
          refine xi_iadd C dX6_cells_24 ?_
          refine xi_istore_n (lv2 := [(0, .ref q), (1, .int (x1_4 + 1)), (2, .int x2_4)]) C dX6_cells_25 rfl (by decide) [0, 2] [1, 0, 2] rfl ?_
          refine xi_iinc (v := x2_4 + 1) (lv2 := [(0, .ref q), (1, .int (x1_4 + 1)), (2, .int (x2_4 + 1))]) C dX6_cells_26 2 rfl (by rfl) (by decide) [0, 1] [1, 2, 0] rfl ?_
          refine xi_goto (tgt := 4) C dX6_cells_29 (by decide) ?_
          exact xb_lv (ih (x1_4 + 1) (x2_4 + 1) h hk) [0, 1, 2] rfl
  unfold f_X6_cells at h
  refine xi_iconst (v := 0) C dX6_cells_0 (by decide) ?_
  refine xi_istore_n (lv2 := [(0, .ref q), (1, .int 0)]) C dX6_cells_1 rfl (by decide) [0] [1, 0] rfl ?_
  refine xi_iconst (v := 0) C dX6_cells_2 (by decide) ?_
  refine xi_istore_n (lv2 := [(0, .ref q), (1, .int 0), (2, .int 0)]) C dX6_cells_3 rfl (by decide) [0, 1] [1, 2, 0] rfl ?_
  refine xb_lv (lp4 _ xFu 0 0 h (fun x1z5 h => ?_)) [0, 1, 2] rfl
  refine xi_iload_n C dX6_cells_32 rfl 0 rfl ?_
  have w0 := Option.some.inj h
  subst w0
  exact xi_iret C Z dX6_cells_33
def f_X6_junction (p0 : Int32) : Option (Int32) :=
  if 24 ≤ p0 then
    if p0 < 32 then
      if 28 ≤ p0 then
        some ((6 * (p0 - p0 / 4 * 4)) + 5)
      else
        some ((6 * (p0 - p0 / 4 * 4)) + 0)
    else
      some (-5)
  else
    some p0
theorem k_X6_junction : xb_Y yX6_junction cX6_junction wsX6_junction 1 (some .int) { frames := 0, cells := 0, slots := 0, locals := 0 } 1 := ⟨⟨_, rfl⟩, by decide, ⟨by decide, by decide, by decide +kernel⟩, rfl, rfl⟩
set_option maxHeartbeats 4000000 in
set_option maxRecDepth 100000 in
theorem m_X6_junction (D : va_G) (cI cC cZ cR : ClassId) (p0 : Int32) (r : Int32) (h : f_X6_junction p0 = some r) : xb_M cX6_junction wsX6_junction RX6 { frames := 0, cells := 0, slots := 0, locals := 0 } (some .int) 1 (xb_ty cI cC cZ cR) D [.int p0] ([] : va_W) (some (.int r)) ([] : va_W) := by
  intro X C Z
  show xb_G X 0 0 ([] : va_W) [(0, .int p0)] 0 []
  unfold f_X6_junction at h
  refine xi_iload_n C dX6_junction_0 rfl 0 rfl ?_
  refine xi_bipush (v := 24) C dX6_junction_1 (by decide) ?_
  refine xi_icmp_ge (tgt := 10) C dX6_junction_3 (by decide) (fun c1 => ?_) (fun c1 => ?_)
  · have h := it_i c1 h
    refine xi_iload_n C dX6_junction_10 rfl 0 rfl ?_
    refine xi_bipush (v := 32) C dX6_junction_11 (by decide) ?_
    refine xi_icmp_lt (tgt := 21) C dX6_junction_13 (by decide) (fun c2 => ?_) (fun c2 => ?_)
    · have h := it_i c2 h
      refine xi_bipush (v := 6) C dX6_junction_21 (by decide) ?_
      refine xi_iload_n C dX6_junction_23 rfl 0 rfl ?_
      refine xi_iconst (v := 4) C dX6_junction_24 (by decide) ?_
      refine xi_irem C dX6_junction_25 (by decide) ?_
      refine xi_imul C dX6_junction_26 ?_
      refine xi_iload_n C dX6_junction_27 rfl 0 rfl ?_
      refine xi_bipush (v := 28) C dX6_junction_28 (by decide) ?_
      refine xi_icmp_ge (tgt := 37) C dX6_junction_30 (by decide) (fun c3 => ?_) (fun c3 => ?_)
      · have h := it_i c3 h
        refine xi_iconst (v := 5) C dX6_junction_37 (by decide) ?_
        refine xi_iadd C dX6_junction_38 ?_
        have w0 := Option.some.inj h
        subst w0
        exact xi_iret C Z dX6_junction_39
      · have h := ie_i c3 h
        refine xi_iconst (v := 0) C dX6_junction_33 (by decide) ?_
        refine xi_goto (tgt := 38) C dX6_junction_34 (by decide) ?_
        refine xi_iadd C dX6_junction_38 ?_
        have w0 := Option.some.inj h
        subst w0
        exact xi_iret C Z dX6_junction_39
    · have h := ie_i c2 h
      refine xi_bipush (v := (-5)) C dX6_junction_16 (by decide) ?_
      refine xi_goto (tgt := 39) C dX6_junction_18 (by decide) ?_
      have w0 := Option.some.inj h
      subst w0
      exact xi_iret C Z dX6_junction_39
  · have h := ie_i c1 h
    refine xi_iload_n C dX6_junction_6 rfl 0 rfl ?_
    refine xi_goto (tgt := 39) C dX6_junction_7 (by decide) ?_
    have w0 := Option.some.inj h
    subst w0
    exact xi_iret C Z dX6_junction_39
def f_X6_isWire (rr : Nat → Int32) (p1 : Int32) : Option (Int32) :=
  (f_X6_isCell rr (p1 / 3)).bind fun v1 =>
  if v1 = 0 then
    some 0
  else
    (xr_d rr 1898 (24 + p1)).bind fun v4 =>
    if 32 ≤ v4 then
      some 0
    else
      some 1
theorem k_X6_isWire : xb_Y yX6_isWire cX6_isWire wsX6_isWire 2 (some .boolean) { frames := 3, cells := 0, slots := 0, locals := 63 } 2 := ⟨⟨_, rfl⟩, by decide, ⟨by decide, by decide, by decide +kernel⟩, rfl, rfl⟩
set_option maxHeartbeats 4000000 in
set_option maxRecDepth 100000 in
theorem m_X6_isWire (D : va_G) (cI cC cZ cR : ClassId) (q : Nat) (rr : Nat → Int32) (p1 : Int32) (r : Int32) (h : f_X6_isWire rr p1 = some r) : xb_M cX6_isWire wsX6_isWire RX6 { frames := 3, cells := 0, slots := 0, locals := 63 } (some .boolean) 2 (xb_ty cI cC cZ cR) D [.ref q, .int p1] (wAr cI q 1898 rr) (some (.int r)) (wAr cI q 1898 rr) := by
  intro X C Z
  show xb_G X 0 0 (wAr cI q 1898 rr) [(0, .ref q), (1, .int p1)] 0 []
  unfold f_X6_isWire at h
  refine xi_aload_n C dX6_isWire_0 rfl 0 rfl ?_
  refine xi_iload_n C dX6_isWire_1 rfl 1 rfl ?_
  refine xi_iconst (v := 3) C dX6_isWire_2 (by decide) ?_
  refine xi_idiv C dX6_isWire_3 (by decide) ?_
  obtain ⟨v1, e2, h⟩ := ob_i h
  refine xi_callS (As := [.ref q, .int (p1 / 3)]) (o := some (.int v1)) (rest := []) (w2 := (wAr cI q 1898 rr)) (st2 := [.int v1]) C k_X6_isCell (m_X6_isCell D cI cC cZ cR q rr (p1 / 3) v1 e2) gX6_isWire_X6_isCell dX6_isWire_4 ⟨Nat.le_of_ble_eq_true rfl, Nat.le_of_ble_eq_true rfl, Nat.le_of_ble_eq_true rfl⟩ [0] rfl rfl [0, 1, 2, 3] rfl rfl rfl rfl (Nat.le_of_ble_eq_true rfl) ⟨Nat.zero_le _, Nat.zero_le _⟩ rfl ?_
  refine xi_if_eq (tgt := 25) C dX6_isWire_7 (by decide) (fun c3 => ?_) (fun c3 => ?_)
  · have h := it_i c3 h
    refine xi_iconst (v := 0) C dX6_isWire_25 (by decide) ?_
    have w0 := Option.some.inj h
    subst w0
    exact xi_zret C Z dX6_isWire_26 xb_nz0
  · have h := ie_i c3 h
    refine xi_aload_n C dX6_isWire_10 rfl 0 rfl ?_
    refine xi_bipush (v := 24) C dX6_isWire_11 (by decide) ?_
    refine xi_iload_n C dX6_isWire_13 rfl 1 rfl ?_
    refine xi_iadd C dX6_isWire_14 ?_
    obtain ⟨v4, e5, h⟩ := ob_i h
    refine xi_iald C dX6_isWire_15 0 0 rfl rfl e5 ?_
    refine xi_bipush (v := 32) C dX6_isWire_16 (by decide) ?_
    refine xi_icmp_ge (tgt := 25) C dX6_isWire_18 (by decide) (fun c6 => ?_) (fun c6 => ?_)
    · have h := it_i c6 h
      refine xi_iconst (v := 0) C dX6_isWire_25 (by decide) ?_
      have w0 := Option.some.inj h
      subst w0
      exact xi_zret C Z dX6_isWire_26 xb_nz0
    · have h := ie_i c6 h
      refine xi_iconst (v := 1) C dX6_isWire_21 (by decide) ?_
      refine xi_goto (tgt := 26) C dX6_isWire_22 (by decide) ?_
      have w0 := Option.some.inj h
      subst w0
      exact xi_zret C Z dX6_isWire_26 xb_nz1
