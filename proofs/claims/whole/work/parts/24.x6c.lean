def f_X6_takesWire_2 (x1_2 : Int32) (k : (Nat → Int32) → Option ((Nat → Int32))) : Nat → Int32 → (Nat → Int32) → Option ((Nat → Int32))
  | 0, _, _ => none
  | n + 1, x2_2, rr_2 =>
    if 24 ≤ x2_2 then
      k rr_2
    else
      (xr_w rr_2 1898 ((168 + (24 * x1_2)) + x2_2) 0).bind fun rr3 =>
      f_X6_takesWire_2 x1_2 k n (x2_2 + 1) rr3
def f_X6_takesWire (rr : Nat → Int32) (p1 : Int32) : Option ((Nat → Int32)) :=
  f_X6_takesWire_2 p1 (fun rrz4 =>
    (xr_w rrz4 1898 (96 + p1) 0).bind fun rr6 =>
    some rr6) xFu 0 rr
theorem k_X6_takesWire : xb_Y yX6_takesWire cX6_takesWire wsX6_takesWire 3 none { frames := 0, cells := 0, slots := 0, locals := 0 } 2 := ⟨⟨_, rfl⟩, by decide, ⟨by decide, by decide, by decide +kernel⟩, rfl, rfl⟩
set_option maxHeartbeats 4000000 in
set_option maxRecDepth 100000 in
theorem m_X6_takesWire (D : va_G) (cI cC cZ cR : ClassId) (q : Nat) (rr : Nat → Int32) (p1 : Int32) (rr' : Nat → Int32) (h : f_X6_takesWire rr p1 = some rr') : xb_M cX6_takesWire wsX6_takesWire RX6 { frames := 0, cells := 0, slots := 0, locals := 0 } none 3 (xb_ty cI cC cZ cR) D [.ref q, .int p1] (wAr cI q 1898 rr) none (wAr cI q 1898 rr') := by
  intro X C Z
  show xb_G X 0 0 (wAr cI q 1898 rr) [(0, .ref q), (1, .int p1)] 0 []
  have lp2 : ∀ (x1_2 : Int32) (k : (Nat → Int32) → Option ((Nat → Int32))) (n : Nat) (x2_2 : Int32) (rr_2 : Nat → Int32), f_X6_takesWire_2 x1_2 k n x2_2 rr_2 = some rr' → (∀ (rr_2e : Nat → Int32), k rr_2e = some rr' → xb_G X 0 0 (wAr cI q 1898 rr_2e) [(0, .ref q), (1, .int x1_2)] 27 []) → xb_G X 0 0 (wAr cI q 1898 rr_2) [(0, .ref q), (1, .int x1_2), (2, .int x2_2)] 2 [] := by
    intro x1_2 k n
    induction n with
    | zero => intro x2_2 rr_2 h hk; unfold f_X6_takesWire_2 at h; cases h
    | succ n ih =>
      intro x2_2 rr_2 h hk
      unfold f_X6_takesWire_2 at h
      refine xi_iload_n C dX6_takesWire_2 rfl 2 rfl ?_
      refine xi_bipush (v := 24) C dX6_takesWire_3 (by decide) ?_
      refine xi_icmp_ge (tgt := 27) C dX6_takesWire_5 (by decide) (fun c1 => ?_) (fun c1 => ?_)
      · have h := it_i c1 h
        exact xb_lv (hk rr_2 h) [0, 1] rfl
      · have h := ie_i c1 h
        refine xi_aload_n C dX6_takesWire_8 rfl 0 rfl ?_
        refine xi_sipush (v := 168) C dX6_takesWire_9 (by decide) ?_
        refine xi_bipush (v := 24) C dX6_takesWire_12 (by decide) ?_
        refine xi_iload_n C dX6_takesWire_14 rfl 1 rfl ?_
        refine xi_imul C dX6_takesWire_15 ?_
        refine xi_iadd C dX6_takesWire_16 ?_
        refine xi_iload_n C dX6_takesWire_17 rfl 2 rfl ?_
        refine xi_iadd C dX6_takesWire_18 ?_
        refine xi_iconst (v := 0) C dX6_takesWire_19 (by decide) ?_
        obtain ⟨rr3, e2, h⟩ := ob_i h
        refine xi_iast (w2 := (wAr cI q 1898 rr3)) C dX6_takesWire_20 0 0 rfl rfl e2 rfl ?_
        refine xi_iinc (v := x2_2 + 1) (lv2 := [(0, .ref q), (1, .int x1_2), (2, .int (x2_2 + 1))]) C dX6_takesWire_21 2 rfl (by rfl) (by decide) [0, 1] [1, 2, 0] rfl ?_
        refine xi_goto (tgt := 2) C dX6_takesWire_24 (by decide) ?_
        exact xb_lv (ih (x2_2 + 1) rr3 h hk) [0, 1, 2] rfl
  unfold f_X6_takesWire at h
  refine xi_iconst (v := 0) C dX6_takesWire_0 (by decide) ?_
  refine xi_istore_n (lv2 := [(0, .ref q), (1, .int p1), (2, .int 0)]) C dX6_takesWire_1 rfl (by decide) [0, 1] [1, 2, 0] rfl ?_
  refine xb_lv (lp2 p1 _ xFu 0 rr h (fun rrz4 h => ?_)) [0, 1, 2] rfl
  refine xi_aload_n C dX6_takesWire_27 rfl 0 rfl ?_
  refine xi_bipush (v := 96) C dX6_takesWire_28 (by decide) ?_
  refine xi_iload_n C dX6_takesWire_30 rfl 1 rfl ?_
  refine xi_iadd C dX6_takesWire_31 ?_
  refine xi_iconst (v := 0) C dX6_takesWire_32 (by decide) ?_
  obtain ⟨rr6, e5, h⟩ := ob_i h
  refine xi_iast (w2 := (wAr cI q 1898 rr6)) C dX6_takesWire_33 0 0 rfl rfl e5 rfl ?_
  have w0 := Option.some.inj h
  subst w0
  exact xi_ret C Z dX6_takesWire_34
def f_X6_segments_4 (rr : Nat → Int32) (k : Int32 → Option (Int32)) : Nat → Int32 → Int32 → Option (Int32)
  | 0, _, _ => none
  | n + 1, x1_4, x2_4 =>
    if 72 ≤ x2_4 then
      k x1_4
    else
      (xr_d rr 1898 (96 + x2_4)).bind fun v2 =>
      if v2 ≤ 0 then
        f_X6_segments_4 rr k n (x1_4 + 0) (x2_4 + 1)
      else
        (xr_d rr 1898 (96 + x2_4)).bind fun v5 =>
        f_X6_segments_4 rr k n (x1_4 + (v5 - 1)) (x2_4 + 1)
def f_X6_segments (rr : Nat → Int32) : Option (Int32) :=
  f_X6_segments_4 rr (fun x1z7 =>
    some x1z7) xFu 0 0
theorem k_X6_segments : xb_Y yX6_segments cX6_segments wsX6_segments 3 (some .int) { frames := 0, cells := 0, slots := 0, locals := 0 } 1 := ⟨⟨_, rfl⟩, by decide, ⟨by decide, by decide, by decide +kernel⟩, rfl, rfl⟩
set_option maxHeartbeats 4000000 in
set_option maxRecDepth 100000 in
theorem m_X6_segments (D : va_G) (cI cC cZ cR : ClassId) (q : Nat) (rr : Nat → Int32) (r : Int32) (h : f_X6_segments rr = some r) : xb_M cX6_segments wsX6_segments RX6 { frames := 0, cells := 0, slots := 0, locals := 0 } (some .int) 3 (xb_ty cI cC cZ cR) D [.ref q] (wAr cI q 1898 rr) (some (.int r)) (wAr cI q 1898 rr) := by
  intro X C Z
  show xb_G X 0 0 (wAr cI q 1898 rr) [(0, .ref q)] 0 []
  have lp4 : ∀ (k : Int32 → Option (Int32)) (n : Nat) (x1_4 : Int32) (x2_4 : Int32), f_X6_segments_4 rr k n x1_4 x2_4 = some r → (∀ (x1_4e : Int32), k x1_4e = some r → xb_G X 0 0 (wAr cI q 1898 rr) [(1, .int x1_4e)] 40 []) → xb_G X 0 0 (wAr cI q 1898 rr) [(0, .ref q), (1, .int x1_4), (2, .int x2_4)] 4 [] := by
    intro k n
    induction n with
    | zero => intro x1_4 x2_4 h hk; unfold f_X6_segments_4 at h; cases h
    | succ n ih =>
      intro x1_4 x2_4 h hk
      unfold f_X6_segments_4 at h
      refine xi_iload_n C dX6_segments_4 rfl 2 rfl ?_
      refine xi_bipush (v := 72) C dX6_segments_5 (by decide) ?_
      refine xi_icmp_ge (tgt := 40) C dX6_segments_7 (by decide) (fun c1 => ?_) (fun c1 => ?_)
      · have h := it_i c1 h
        exact xb_lv (hk x1_4 h) [1] rfl
      · have h := ie_i c1 h
        refine xi_iload_n C dX6_segments_10 rfl 1 rfl ?_
        refine xi_aload_n C dX6_segments_11 rfl 0 rfl ?_
        refine xi_bipush (v := 96) C dX6_segments_12 (by decide) ?_
        refine xi_iload_n C dX6_segments_14 rfl 2 rfl ?_
        refine xi_iadd C dX6_segments_15 ?_
        obtain ⟨v2, e3, h⟩ := ob_i h
        refine xi_iald C dX6_segments_16 0 0 rfl rfl e3 ?_
        refine xi_if_le (tgt := 31) C dX6_segments_17 (by decide) (fun c4 => ?_) (fun c4 => ?_)
        · have h := it_i c4 h
          refine xi_iconst (v := 0) C dX6_segments_31 (by decide) ?_
          refine xi_iadd C dX6_segments_32 ?_
          refine xi_istore_n (lv2 := [(0, .ref q), (1, .int (x1_4 + 0)), (2, .int x2_4)]) C dX6_segments_33 rfl (by decide) [0, 2] [1, 0, 2] rfl ?_
          refine xi_iinc (v := x2_4 + 1) (lv2 := [(0, .ref q), (1, .int (x1_4 + 0)), (2, .int (x2_4 + 1))]) C dX6_segments_34 2 rfl (by rfl) (by decide) [0, 1] [1, 2, 0] rfl ?_
          refine xi_goto (tgt := 4) C dX6_segments_37 (by decide) ?_
          exact xb_lv (ih (x1_4 + 0) (x2_4 + 1) h hk) [0, 1, 2] rfl
        · have h := ie_i c4 h
          refine xi_aload_n C dX6_segments_20 rfl 0 rfl ?_
          refine xi_bipush (v := 96) C dX6_segments_21 (by decide) ?_
          refine xi_iload_n C dX6_segments_23 rfl 2 rfl ?_
          refine xi_iadd C dX6_segments_24 ?_
          obtain ⟨v5, e6, h⟩ := ob_i h
          refine xi_iald C dX6_segments_25 0 0 rfl rfl e6 ?_
          refine xi_iconst (v := 1) C dX6_segments_26 (by decide) ?_
          refine xi_isub C dX6_segments_27 ?_
          refine xi_goto (tgt := 32) C dX6_segments_28 (by decide) ?_
          refine xi_iadd C dX6_segments_32 ?_
          refine xi_istore_n (lv2 := [(0, .ref q), (1, .int (x1_4 + (v5 - 1))), (2, .int x2_4)]) C dX6_segments_33 rfl (by decide) [0, 2] [1, 0, 2] rfl ?_
          refine xi_iinc (v := x2_4 + 1) (lv2 := [(0, .ref q), (1, .int (x1_4 + (v5 - 1))), (2, .int (x2_4 + 1))]) C dX6_segments_34 2 rfl (by rfl) (by decide) [0, 1] [1, 2, 0] rfl ?_
          refine xi_goto (tgt := 4) C dX6_segments_37 (by decide) ?_
          exact xb_lv (ih (x1_4 + (v5 - 1)) (x2_4 + 1) h hk) [0, 1, 2] rfl
  unfold f_X6_segments at h
  refine xi_iconst (v := 0) C dX6_segments_0 (by decide) ?_
  refine xi_istore_n (lv2 := [(0, .ref q), (1, .int 0)]) C dX6_segments_1 rfl (by decide) [0] [1, 0] rfl ?_
  refine xi_iconst (v := 0) C dX6_segments_2 (by decide) ?_
  refine xi_istore_n (lv2 := [(0, .ref q), (1, .int 0), (2, .int 0)]) C dX6_segments_3 rfl (by decide) [0, 1] [1, 2, 0] rfl ?_
  refine xb_lv (lp4 _ xFu 0 0 h (fun x1z7 h => ?_)) [0, 1, 2] rfl
  refine xi_iload_n C dX6_segments_40 rfl 0 rfl ?_
  have w0 := Option.some.inj h
  subst w0
  exact xi_iret C Z dX6_segments_41
def f_X6_size (p0 : Int32) : Option (Int32) :=
  if 0 ≤ p0 then
    some p0
  else
    some (-p0)
theorem k_X6_size : xb_Y yX6_size cX6_size wsX6_size 1 (some .int) { frames := 0, cells := 0, slots := 0, locals := 0 } 1 := ⟨⟨_, rfl⟩, by decide, ⟨by decide, by decide, by decide +kernel⟩, rfl, rfl⟩
set_option maxHeartbeats 4000000 in
set_option maxRecDepth 100000 in
theorem m_X6_size (D : va_G) (cI cC cZ cR : ClassId) (p0 : Int32) (r : Int32) (h : f_X6_size p0 = some r) : xb_M cX6_size wsX6_size RX6 { frames := 0, cells := 0, slots := 0, locals := 0 } (some .int) 1 (xb_ty cI cC cZ cR) D [.int p0] ([] : va_W) (some (.int r)) ([] : va_W) := by
  intro X C Z
  show xb_G X 0 0 ([] : va_W) [(0, .int p0)] 0 []
  unfold f_X6_size at h
  refine xi_iload_n C dX6_size_0 rfl 0 rfl ?_
  refine xi_if_ge (tgt := 9) C dX6_size_1 (by decide) (fun c1 => ?_) (fun c1 => ?_)
  · have h := it_i c1 h
    refine xi_iload_n C dX6_size_9 rfl 0 rfl ?_
    have w0 := Option.some.inj h
    subst w0
    exact xi_iret C Z dX6_size_10
  · have h := ie_i c1 h
    refine xi_iload_n C dX6_size_4 rfl 0 rfl ?_
    refine xi_ineg C dX6_size_5 ?_
    refine xi_goto (tgt := 10) C dX6_size_6 (by decide) ?_
    have w0 := Option.some.inj h
    subst w0
    exact xi_iret C Z dX6_size_10
def f_X6_span (rr : Nat → Int32) (p1 : Int32) : Option (Int32) :=
  (xr_d rr 1898 (24 + p1)).bind fun v1 =>
  (f_X6_junction v1).bind fun v3 =>
  (f_X6_size ((v3 - v3 / 6 * 6) - ((p1 / 3) - (p1 / 3) / 6 * 6))).bind fun v5 =>
  (f_X6_size ((v3 / 6) - ((p1 / 3) / 6))).bind fun v7 =>
  some (v5 + v7)
theorem k_X6_span : xb_Y yX6_span cX6_span wsX6_span 4 (some .int) { frames := 1, cells := 0, slots := 0, locals := 20 } 2 := ⟨⟨_, rfl⟩, by decide, ⟨by decide, by decide, by decide +kernel⟩, rfl, rfl⟩
set_option maxHeartbeats 4000000 in
set_option maxRecDepth 100000 in
theorem m_X6_span (D : va_G) (cI cC cZ cR : ClassId) (q : Nat) (rr : Nat → Int32) (p1 : Int32) (r : Int32) (h : f_X6_span rr p1 = some r) : xb_M cX6_span wsX6_span RX6 { frames := 1, cells := 0, slots := 0, locals := 20 } (some .int) 4 (xb_ty cI cC cZ cR) D [.ref q, .int p1] (wAr cI q 1898 rr) (some (.int r)) (wAr cI q 1898 rr) := by
  intro X C Z
  show xb_G X 0 0 (wAr cI q 1898 rr) [(0, .ref q), (1, .int p1)] 0 []
  unfold f_X6_span at h
  refine xi_aload_n C dX6_span_0 rfl 0 rfl ?_
  refine xi_bipush (v := 24) C dX6_span_1 (by decide) ?_
  refine xi_iload_n C dX6_span_3 rfl 1 rfl ?_
  refine xi_iadd C dX6_span_4 ?_
  obtain ⟨v1, e2, h⟩ := ob_i h
  refine xi_iald C dX6_span_5 0 0 rfl rfl e2 ?_
  obtain ⟨v3, e4, h⟩ := ob_i h
  refine xi_callS (As := [.int v1]) (o := some (.int v3)) (rest := []) (w2 := (wAr cI q 1898 rr)) (st2 := [.int v3]) C k_X6_junction (m_X6_junction D cI cC cZ cR v1 v3 e4) gX6_span_X6_junction dX6_span_6 ⟨Nat.le_of_ble_eq_true rfl, Nat.le_of_ble_eq_true rfl, Nat.le_of_ble_eq_true rfl⟩ [] rfl rfl [0, 1, 2, 3] rfl rfl rfl rfl (Nat.le_of_ble_eq_true rfl) ⟨Nat.zero_le _, Nat.zero_le _⟩ rfl ?_
  refine xi_istore_n (lv2 := [(0, .ref q), (1, .int p1), (2, .int v3)]) C dX6_span_9 rfl (by decide) [0, 1] [1, 2, 0] rfl ?_
  refine xi_iload_n C dX6_span_10 rfl 1 rfl ?_
  refine xi_iconst (v := 3) C dX6_span_11 (by decide) ?_
  refine xi_idiv C dX6_span_12 (by decide) ?_
  refine xi_istore_n (lv2 := [(0, .ref q), (1, .int p1), (2, .int v3), (3, .int (p1 / 3))]) C dX6_span_13 rfl (by decide) [0, 1, 2] [1, 2, 3, 0] rfl ?_
  refine xi_iload_n C dX6_span_14 rfl 2 rfl ?_
  refine xi_bipush (v := 6) C dX6_span_15 (by decide) ?_
  refine xi_irem C dX6_span_17 (by decide) ?_
  refine xi_iload_n C dX6_span_18 rfl 3 rfl ?_
  refine xi_bipush (v := 6) C dX6_span_19 (by decide) ?_
  refine xi_irem C dX6_span_21 (by decide) ?_
  refine xi_isub C dX6_span_22 ?_
  obtain ⟨v5, e6, h⟩ := ob_i h
  refine xi_callS (As := [.int ((v3 - v3 / 6 * 6) - ((p1 / 3) - (p1 / 3) / 6 * 6))]) (o := some (.int v5)) (rest := []) (w2 := (wAr cI q 1898 rr)) (st2 := [.int v5]) C k_X6_size (m_X6_size D cI cC cZ cR ((v3 - v3 / 6 * 6) - ((p1 / 3) - (p1 / 3) / 6 * 6)) v5 e6) gX6_span_X6_size dX6_span_23 ⟨Nat.le_of_ble_eq_true rfl, Nat.le_of_ble_eq_true rfl, Nat.le_of_ble_eq_true rfl⟩ [] rfl rfl [0, 1, 2, 3] rfl rfl rfl rfl (Nat.le_of_ble_eq_true rfl) ⟨Nat.zero_le _, Nat.zero_le _⟩ rfl ?_
  refine xi_iload_n C dX6_span_26 rfl 2 rfl ?_
  refine xi_bipush (v := 6) C dX6_span_27 (by decide) ?_
  refine xi_idiv C dX6_span_29 (by decide) ?_
  refine xi_iload_n C dX6_span_30 rfl 3 rfl ?_
  refine xi_bipush (v := 6) C dX6_span_31 (by decide) ?_
  refine xi_idiv C dX6_span_33 (by decide) ?_
  refine xi_isub C dX6_span_34 ?_
  obtain ⟨v7, e8, h⟩ := ob_i h
  refine xi_callS (As := [.int ((v3 / 6) - ((p1 / 3) / 6))]) (o := some (.int v7)) (rest := [.int v5]) (w2 := (wAr cI q 1898 rr)) (st2 := [.int v7, .int v5]) C k_X6_size (m_X6_size D cI cC cZ cR ((v3 / 6) - ((p1 / 3) / 6)) v7 e8) gX6_span_X6_size dX6_span_35 ⟨Nat.le_of_ble_eq_true rfl, Nat.le_of_ble_eq_true rfl, Nat.le_of_ble_eq_true rfl⟩ [] rfl rfl [0, 1, 2, 3] rfl rfl rfl rfl (Nat.le_of_ble_eq_true rfl) ⟨Nat.zero_le _, Nat.zero_le _⟩ rfl ?_
  refine xi_iadd C dX6_span_38 ?_
  have w0 := Option.some.inj h
  subst w0
  exact xi_iret C Z dX6_span_39
