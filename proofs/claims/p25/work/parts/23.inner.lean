def f_X2_costOver (K : Nat → Int32) (E : Nat → Int32) (cp : Int32) (su : Int32) (p2 : Int32) (p3 : Int32) : Option (Int32) :=
  (f_X5_segmentAt p2 p3).bind fun v1 =>
  (xr_d xb_stI 4 p3).bind fun v5 =>
  if v1 = (-1) then
    some 1000000
  else
    (f_X5_isPlace (p2 + v5)).bind fun v8 =>
    if v8 = 0 then
      some 1000000
    else
      (f_X0_priceOf E cp su v1).bind fun v11 =>
      (xr_d K 24 (p2 + v5)).bind fun v13 =>
      some (v11 + v13)
theorem k_X2_costOver : xb_Y yX2_costOver cX2_costOver wsX2_costOver 6 (some .int) { frames := 1, cells := 0, slots := 0, locals := 23 } 3 := ⟨⟨_, rfl⟩, by decide, ⟨by decide, by decide, by decide +kernel⟩, rfl, rfl⟩
theorem fl_X2_costOver_9 : Cond.fieldLink RX2 9 "LookupBoard$Layer" "costs" "[I" ∈ wsX2_costOver := List.mem_of_getElem? (i := 2) rfl
theorem iw_X2_costOver_2 : ∀ w ∈ wsX20, w ∈ wsX2_costOver := fun w h => List.mem_cons_of_mem _ (List.mem_append_left _ (List.mem_append_right _ h))
set_option maxHeartbeats 4000000 in
set_option maxRecDepth 100000 in
theorem m_X2_costOver (D : va_G) (cI cC cZ cR : ClassId) (y0 y1 : Nat) (b0 b1 b2 b3 b4 b5 : Nat) (K : Nat → Int32) (T : Nat → Int32) (S : Nat → Int32) (L : Nat → Int32) (J : Nat → Int32) (E : Nat → Int32) (cp : Int32) (su : Int32) (p2 : Int32) (p3 : Int32) (r : Int32) (h : f_X2_costOver K E cp su p2 p3 = some r) : xb_M cX2_costOver wsX2_costOver RX2 { frames := 1, cells := 0, slots := 0, locals := 23 } (some .int) 6 (xb_ty cI cC cZ cR) D [.ref y0, .ref b0, .int p2, .int p3] (wLa cI y0 y1 K ++ wBd cI b0 b1 b2 b3 b4 b5 T S L J E cp su) (some (.int r)) (wLa cI y0 y1 K ++ wBd cI b0 b1 b2 b3 b4 b5 T S L J E cp su) := by
  intro X C Z
  show xb_G X 0 0 (wLa cI y0 y1 K ++ wBd cI b0 b1 b2 b3 b4 b5 T S L J E cp su) [(0, .ref y0), (1, .ref b0), (2, .int p2), (3, .int p3)] 0 []
  unfold f_X2_costOver at h
  refine xi_iload_n C dX2_costOver_0 rfl 2 rfl ?_
  refine xi_iload_n C dX2_costOver_1 rfl 3 rfl ?_
  obtain ⟨v1, e2, h⟩ := ob_i h
  refine xi_callSN (As := [.int p2, .int p3]) (o := some (.int v1)) (rest := []) (w2 := (wLa cI y0 y1 K ++ wBd cI b0 b1 b2 b3 b4 b5 T S L J E cp su)) (st2 := [.int v1]) C k_X5_segmentAt (m_X5_segmentAt D cI cC cZ cR p2 p3 v1 e2) gX2_costOver_X5_segmentAt_n68 (List.mem_of_getElem? (i := 10) rfl) (List.mem_of_getElem? (i := 4) rfl) (List.mem_of_getElem? (i := 3) rfl) dX2_costOver_2 ⟨Nat.le_of_ble_eq_true rfl, Nat.le_of_ble_eq_true rfl, Nat.le_of_ble_eq_true rfl⟩ [] rfl rfl [0, 1, 2, 3] rfl rfl rfl rfl (Nat.le_of_ble_eq_true rfl) ⟨Nat.zero_le _, Nat.zero_le _⟩ rfl ?_
  refine xi_istore (lv2 := [(0, .ref y0), (1, .ref b0), (2, .int p2), (3, .int p3), (4, .int v1)]) C dX2_costOver_5 (by decide) [0, 1, 2, 3] [1, 2, 3, 4, 0] rfl ?_
  refine xi_iload_n C dX2_costOver_7 rfl 2 rfl ?_
  refine xi_getsN C dX2_costOver_8 (fun t3 ht4 => ?_)
  refine xi_iload_n C dX2_costOver_11 rfl 3 rfl ?_
  obtain ⟨v5, e6, h⟩ := ob_i h
  refine xi_sald C dX2_costOver_12 ht4 e6 ?_
  refine xi_iadd C dX2_costOver_13 ?_
  refine xi_istore (lv2 := [(0, .ref y0), (1, .ref b0), (2, .int p2), (3, .int p3), (4, .int v1), (5, .int (p2 + v5))]) C dX2_costOver_14 (by decide) [0, 1, 2, 3, 4] [1, 2, 3, 4, 5, 0] rfl ?_
  refine xi_iload C dX2_costOver_16 4 rfl ?_
  refine xi_iconst (v := (-1)) C dX2_costOver_18 (by decide) ?_
  refine xi_icmp_eq (tgt := 30) C dX2_costOver_19 (by decide) (fun c7 => ?_) (fun c7 => ?_)
  · have h := it_i c7 h
    refine xi_ldc (v := 1000000) C dX2_costOver_30 (List.mem_of_getElem? (i := 1) rfl) ?_
    refine xi_goto (tgt := 49) C dX2_costOver_32 (by decide) ?_
    have w0 := Option.some.inj h
    subst w0
    exact xi_iret C Z dX2_costOver_49
  · have h := ie_i c7 h
    refine xi_iload C dX2_costOver_22 5 rfl ?_
    obtain ⟨v8, e9, h⟩ := ob_i h
    refine xi_callSN (As := [.int (p2 + v5)]) (o := some (.int v8)) (rest := []) (w2 := (wLa cI y0 y1 K ++ wBd cI b0 b1 b2 b3 b4 b5 T S L J E cp su)) (st2 := [.int v8]) C k_X5_isPlace (m_X5_isPlace D cI cC cZ cR (p2 + v5) v8 e9) gX2_costOver_X5_isPlace_n38 (List.mem_of_getElem? (i := 9) rfl) (List.mem_of_getElem? (i := 4) rfl) (List.mem_of_getElem? (i := 6) rfl) dX2_costOver_24 ⟨Nat.le_of_ble_eq_true rfl, Nat.le_of_ble_eq_true rfl, Nat.le_of_ble_eq_true rfl⟩ [] rfl rfl [0, 1, 2, 3] rfl rfl rfl rfl (Nat.le_of_ble_eq_true rfl) ⟨Nat.zero_le _, Nat.zero_le _⟩ rfl ?_
    refine xi_if_ne (tgt := 35) C dX2_costOver_27 (by decide) (fun c10 => ?_) (fun c10 => ?_)
    · have h := ie_i c10 h
      refine xi_aload_n C dX2_costOver_35 rfl 1 rfl ?_
      refine xi_iload C dX2_costOver_36 4 rfl ?_
      obtain ⟨v11, e12, h⟩ := ob_i h
      refine xi_callV (As := [.int v1]) (o := some (.int v11)) (rest := []) (w2 := (wLa cI y0 y1 K ++ wBd cI b0 b1 b2 b3 b4 b5 T S L J E cp su)) (st2 := [.int v11]) C k_X0_priceOf (m_X0_priceOf D cI cC cZ cR b0 b1 b2 b3 b4 b5 T S L J E cp su v1 v11 e12) gX2_costOver_X0_priceOf dX2_costOver_38 ⟨Nat.le_of_ble_eq_true rfl, Nat.le_of_ble_eq_true rfl, Nat.le_of_ble_eq_true rfl⟩ 2 rfl rfl [2, 3, 4, 5, 6, 7] rfl rfl [0, 1, 2, 3] rfl rfl (xb_mixq [0, 1] 8 rfl rfl rfl rfl (xb_smc rfl rfl (xb_smc rfl rfl xb_smn)) (by decide +kernel) (by decide +kernel)) rfl (Nat.le_of_ble_eq_true rfl) ⟨Nat.zero_le _, Nat.zero_le _⟩ rfl ?_
      refine xi_aload_n C dX2_costOver_41 rfl 0 rfl ?_
      refine xi_get C dX2_costOver_42 iw_X2_costOver_2 0 rfl rfl 0 (by decide) fl_X2_costOver_9 rfl ?_
      refine xi_iload C dX2_costOver_45 5 rfl ?_
      obtain ⟨v13, e14, h⟩ := ob_i h
      refine xi_iald C dX2_costOver_47 1 0 rfl rfl e14 ?_
      refine xi_iadd C dX2_costOver_48 ?_
      have w0 := Option.some.inj h
      subst w0
      exact xi_iret C Z dX2_costOver_49
    · have h := it_i c10 h
      refine xi_ldc (v := 1000000) C dX2_costOver_30 (List.mem_of_getElem? (i := 1) rfl) ?_
      refine xi_goto (tgt := 49) C dX2_costOver_32 (by decide) ?_
      have w0 := Option.some.inj h
      subst w0
      exact xi_iret C Z dX2_costOver_49
def f_X2_measureCosts_54 (E : Nat → Int32) (cp : Int32) (su : Int32) (x5_54 : Int32) (k : Int32 → (Nat → Int32) → Option ((Nat → Int32))) : Nat → Int32 → Int32 → (Nat → Int32) → Option ((Nat → Int32))
  | 0, _, _, _ => none
  | n + 1, x3_54, x6_54, K_54 =>
    if 4 ≤ x6_54 then
      k x3_54 K_54
    else
      (f_X2_costOver K_54 E cp su x5_54 x6_54).bind fun v10 =>
      (xr_d K_54 24 x5_54).bind fun v12 =>
      if v12 ≤ v10 then
        f_X2_measureCosts_54 E cp su x5_54 k n x3_54 (x6_54 + 1) K_54
      else
        (xr_w K_54 24 x5_54 v10).bind fun K16 =>
        f_X2_measureCosts_54 E cp su x5_54 k n 1 (x6_54 + 1) K16
def f_X2_measureCosts_44 (E : Nat → Int32) (cp : Int32) (su : Int32) (k : Int32 → (Nat → Int32) → Option ((Nat → Int32))) : Nat → Int32 → Int32 → (Nat → Int32) → Option ((Nat → Int32))
  | 0, _, _, _ => none
  | n + 1, x3_44, x5_44, K_44 =>
    if 24 ≤ x5_44 then
      k x3_44 K_44
    else
      f_X2_measureCosts_54 E cp su x5_44 (fun x3z17 Kz17 =>
        f_X2_measureCosts_44 E cp su k n x3z17 (x5_44 + 1) Kz17) xFu x3_44 0 K_44
def f_X2_measureCosts_28 (E : Nat → Int32) (cp : Int32) (su : Int32) (k : (Nat → Int32) → Option ((Nat → Int32))) : Nat → Int32 → Int32 → (Nat → Int32) → Option ((Nat → Int32))
  | 0, _, _, _ => none
  | n + 1, x3_28, x4_28, K_28 =>
    if 24 ≤ x4_28 then
      k K_28
    else
      if x3_28 = 0 then
        k K_28
      else
        f_X2_measureCosts_44 E cp su (fun x3z18 Kz18 =>
          f_X2_measureCosts_28 E cp su k n x3z18 (x4_28 + 1) Kz18) xFu 0 0 K_28
def f_X2_measureCosts (K : Nat → Int32) (E : Nat → Int32) (cp : Int32) (su : Int32) (p2 : Int32) : Option ((Nat → Int32)) :=
  (f_J7_fill_53178 24 K 1000000).bind fun f1 =>
  (f_X5_isPlace p2).bind fun v3 =>
  if v3 = 0 then
    f_X2_measureCosts_28 E cp su (fun Kz19 =>
      some Kz19) xFu 1 0 f1
  else
    (xr_w f1 24 p2 0).bind fun K21 =>
    f_X2_measureCosts_28 E cp su (fun Kz22 =>
      some Kz22) xFu 1 0 K21
theorem k_X2_measureCosts : xb_Y yX2_measureCosts cX2_measureCosts wsX2_measureCosts 8 none { frames := 2, cells := 0, slots := 0, locals := 48 } 2 := ⟨⟨_, rfl⟩, by decide, ⟨by decide, by decide, by decide +kernel⟩, rfl, rfl⟩
theorem fl_X2_measureCosts_9 : Cond.fieldLink RX2 9 "LookupBoard$Layer" "costs" "[I" ∈ wsX2_measureCosts := List.mem_of_getElem? (i := 1) rfl
theorem iw_X2_measureCosts_2 : ∀ w ∈ wsX20, w ∈ wsX2_measureCosts := fun w h => List.mem_cons_of_mem _ (List.mem_append_left _ (List.mem_append_right _ h))
set_option maxHeartbeats 4000000 in
set_option maxRecDepth 100000 in
theorem m_X2_measureCosts (D : va_G) (cI cC cZ cR : ClassId) (y0 y1 : Nat) (b0 b1 b2 b3 b4 b5 : Nat) (K : Nat → Int32) (T : Nat → Int32) (S : Nat → Int32) (L : Nat → Int32) (J : Nat → Int32) (E : Nat → Int32) (cp : Int32) (su : Int32) (p2 : Int32) (K' : Nat → Int32) (h : f_X2_measureCosts K E cp su p2 = some K') : xb_M cX2_measureCosts wsX2_measureCosts RX2 { frames := 2, cells := 0, slots := 0, locals := 48 } none 8 (xb_ty cI cC cZ cR) D [.ref y0, .ref b0, .int p2] (wLa cI y0 y1 K ++ wBd cI b0 b1 b2 b3 b4 b5 T S L J E cp su) none (wLa cI y0 y1 K' ++ wBd cI b0 b1 b2 b3 b4 b5 T S L J E cp su) := by
  intro X C Z
  show xb_G X 0 0 (wLa cI y0 y1 K ++ wBd cI b0 b1 b2 b3 b4 b5 T S L J E cp su) [(0, .ref y0), (1, .ref b0), (2, .int p2)] 0 []
  have lp54 : ∀ (x4_54 : Int32) (x5_54 : Int32) (k : Int32 → (Nat → Int32) → Option ((Nat → Int32))) (n : Nat) (x3_54 : Int32) (x6_54 : Int32) (K_54 : Nat → Int32), f_X2_measureCosts_54 E cp su x5_54 k n x3_54 x6_54 K_54 = some K' → (∀ (x3_54e : Int32) (K_54e : Nat → Int32), k x3_54e K_54e = some K' → xb_G X 0 0 (wLa cI y0 y1 K_54e ++ wBd cI b0 b1 b2 b3 b4 b5 T S L J E cp su) [(0, .ref y0), (1, .ref b0), (3, .int x3_54e), (4, .int x4_54), (5, .int x5_54)] 100 []) → xb_G X 0 0 (wLa cI y0 y1 K_54 ++ wBd cI b0 b1 b2 b3 b4 b5 T S L J E cp su) [(0, .ref y0), (1, .ref b0), (3, .int x3_54), (4, .int x4_54), (5, .int x5_54), (6, .int x6_54)] 54 [] := by
    intro x4_54 x5_54 k n
    induction n with
    | zero => intro x3_54 x6_54 K_54 h hk; unfold f_X2_measureCosts_54 at h; cases h
    | succ n ih =>
      intro x3_54 x6_54 K_54 h hk
      unfold f_X2_measureCosts_54 at h
      refine xi_iload C dX2_measureCosts_54 5 rfl ?_
      refine xi_iconst (v := 4) C dX2_measureCosts_56 (by decide) ?_
      refine xi_icmp_ge (tgt := 100) C dX2_measureCosts_57 (by decide) (fun c9 => ?_) (fun c9 => ?_)
      · have h := it_i c9 h
        exact xb_lv (hk x3_54 K_54 h) [0, 1, 2, 3, 4] rfl
      · have h := ie_i c9 h
        refine xi_aload_n C dX2_measureCosts_60 rfl 0 rfl ?_
        refine xi_aload_n C dX2_measureCosts_61 rfl 1 rfl ?_
        refine xi_iload C dX2_measureCosts_62 4 rfl ?_
        refine xi_iload C dX2_measureCosts_64 5 rfl ?_
        obtain ⟨v10, e11, h⟩ := ob_i h
        refine xi_callV (As := [.ref b0, .int x5_54, .int x6_54]) (o := some (.int v10)) (rest := []) (w2 := (wLa cI y0 y1 K_54 ++ wBd cI b0 b1 b2 b3 b4 b5 T S L J E cp su)) (st2 := [.int v10]) C k_X2_costOver (m_X2_costOver D cI cC cZ cR y0 y1 b0 b1 b2 b3 b4 b5 K_54 T S L J E cp su x5_54 x6_54 v10 e11) gX2_measureCosts_X2_costOver dX2_measureCosts_66 ⟨Nat.le_of_ble_eq_true rfl, Nat.le_of_ble_eq_true rfl, Nat.le_of_ble_eq_true rfl⟩ 0 rfl rfl [0, 1, 2, 3, 4, 5, 6, 7] rfl rfl [0, 1, 2, 3] rfl rfl (xb_mixq [] 8 rfl rfl rfl rfl xb_smn (by decide +kernel) (by decide +kernel)) rfl (Nat.le_of_ble_eq_true rfl) ⟨Nat.zero_le _, Nat.zero_le _⟩ rfl ?_
        refine xi_istore (lv2 := [(0, .ref y0), (1, .ref b0), (3, .int x3_54), (4, .int x4_54), (5, .int x5_54), (6, .int x6_54), (7, .int v10)]) C dX2_measureCosts_69 (by decide) [0, 1, 2, 3, 4, 5] [1, 2, 3, 4, 5, 6, 0] rfl ?_
        refine xi_iload C dX2_measureCosts_71 6 rfl ?_
        refine xi_aload_n C dX2_measureCosts_73 rfl 0 rfl ?_
        refine xi_get C dX2_measureCosts_74 iw_X2_measureCosts_2 0 rfl rfl 0 (by decide) fl_X2_measureCosts_9 rfl ?_
        refine xi_iload C dX2_measureCosts_77 4 rfl ?_
        obtain ⟨v12, e13, h⟩ := ob_i h
        refine xi_iald C dX2_measureCosts_79 1 0 rfl rfl e13 ?_
        refine xi_icmp_ge (tgt := 94) C dX2_measureCosts_80 (by decide) (fun c14 => ?_) (fun c14 => ?_)
        · have h := it_i c14 h
          refine xi_iinc (v := x6_54 + 1) (lv2 := [(0, .ref y0), (1, .ref b0), (3, .int x3_54), (4, .int x4_54), (5, .int x5_54), (6, .int (x6_54 + 1)), (7, .int v10)]) C dX2_measureCosts_94 5 rfl (by rfl) (by decide) [0, 1, 2, 3, 4, 6] [1, 2, 3, 4, 5, 0, 6] rfl ?_
          refine xi_goto (tgt := 54) C dX2_measureCosts_97 (by decide) ?_
          exact xb_lv (ih x3_54 (x6_54 + 1) K_54 h hk) [0, 1, 2, 3, 4, 5] rfl
        · have h := ie_i c14 h
          refine xi_aload_n C dX2_measureCosts_83 rfl 0 rfl ?_
          refine xi_get C dX2_measureCosts_84 iw_X2_measureCosts_2 0 rfl rfl 0 (by decide) fl_X2_measureCosts_9 rfl ?_
          refine xi_iload C dX2_measureCosts_87 4 rfl ?_
          refine xi_iload C dX2_measureCosts_89 6 rfl ?_
          obtain ⟨K16, e15, h⟩ := ob_i h
          refine xi_iast (w2 := (wLa cI y0 y1 K16 ++ wBd cI b0 b1 b2 b3 b4 b5 T S L J E cp su)) C dX2_measureCosts_91 1 0 rfl rfl e15 rfl ?_
          refine xi_iconst (v := 1) C dX2_measureCosts_92 (by decide) ?_
          refine xi_istore_n (lv2 := [(0, .ref y0), (1, .ref b0), (3, .int 1), (4, .int x4_54), (5, .int x5_54), (6, .int x6_54), (7, .int v10)]) C dX2_measureCosts_93 rfl (by decide) [0, 1, 3, 4, 5, 6] [1, 2, 0, 3, 4, 5, 6] rfl ?_
          refine xi_iinc (v := x6_54 + 1) (lv2 := [(0, .ref y0), (1, .ref b0), (3, .int 1), (4, .int x4_54), (5, .int x5_54), (6, .int (x6_54 + 1)), (7, .int v10)]) C dX2_measureCosts_94 5 rfl (by rfl) (by decide) [0, 1, 2, 3, 4, 6] [1, 2, 3, 4, 5, 0, 6] rfl ?_
          refine xi_goto (tgt := 54) C dX2_measureCosts_97 (by decide) ?_
          exact xb_lv (ih 1 (x6_54 + 1) K16 h hk) [0, 1, 2, 3, 4, 5] rfl
  have lp44 : ∀ (x4_44 : Int32) (k : Int32 → (Nat → Int32) → Option ((Nat → Int32))) (n : Nat) (x3_44 : Int32) (x5_44 : Int32) (K_44 : Nat → Int32), f_X2_measureCosts_44 E cp su k n x3_44 x5_44 K_44 = some K' → (∀ (x3_44e : Int32) (K_44e : Nat → Int32), k x3_44e K_44e = some K' → xb_G X 0 0 (wLa cI y0 y1 K_44e ++ wBd cI b0 b1 b2 b3 b4 b5 T S L J E cp su) [(0, .ref y0), (1, .ref b0), (3, .int x3_44e), (4, .int x4_44)] 106 []) → xb_G X 0 0 (wLa cI y0 y1 K_44 ++ wBd cI b0 b1 b2 b3 b4 b5 T S L J E cp su) [(0, .ref y0), (1, .ref b0), (3, .int x3_44), (4, .int x4_44), (5, .int x5_44)] 44 [] := by
    intro x4_44 k n
    induction n with
    | zero => intro x3_44 x5_44 K_44 h hk; unfold f_X2_measureCosts_44 at h; cases h
    | succ n ih =>
      intro x3_44 x5_44 K_44 h hk
      unfold f_X2_measureCosts_44 at h
      refine xi_iload C dX2_measureCosts_44 4 rfl ?_
      refine xi_bipush (v := 24) C dX2_measureCosts_46 (by decide) ?_
      refine xi_icmp_ge (tgt := 106) C dX2_measureCosts_48 (by decide) (fun c8 => ?_) (fun c8 => ?_)
      · have h := it_i c8 h
        exact xb_lv (hk x3_44 K_44 h) [0, 1, 2, 3] rfl
      · have h := ie_i c8 h
        refine xi_iconst (v := 0) C dX2_measureCosts_51 (by decide) ?_
        refine xi_istore (lv2 := [(0, .ref y0), (1, .ref b0), (3, .int x3_44), (4, .int x4_44), (5, .int x5_44), (6, .int 0)]) C dX2_measureCosts_52 (by decide) [0, 1, 2, 3, 4] [1, 2, 3, 4, 5, 0] rfl ?_
        refine xb_lv (lp54 x4_44 x5_44 _ xFu x3_44 0 K_44 h (fun x3z17 Kz17 h => ?_)) [0, 1, 2, 3, 4, 5] rfl
        refine xi_iinc (v := x5_44 + 1) (lv2 := [(0, .ref y0), (1, .ref b0), (3, .int x3z17), (4, .int x4_44), (5, .int (x5_44 + 1))]) C dX2_measureCosts_100 4 rfl (by rfl) (by decide) [0, 1, 2, 3] [1, 2, 3, 4, 0] rfl ?_
        refine xi_goto (tgt := 44) C dX2_measureCosts_103 (by decide) ?_
        exact xb_lv (ih x3z17 (x5_44 + 1) Kz17 h hk) [0, 1, 2, 3, 4] rfl
  have lp28 : ∀ (k : (Nat → Int32) → Option ((Nat → Int32))) (n : Nat) (x3_28 : Int32) (x4_28 : Int32) (K_28 : Nat → Int32), f_X2_measureCosts_28 E cp su k n x3_28 x4_28 K_28 = some K' → (∀ (K_28e : Nat → Int32), k K_28e = some K' → xb_G X 0 0 (wLa cI y0 y1 K_28e ++ wBd cI b0 b1 b2 b3 b4 b5 T S L J E cp su) [] 112 []) → xb_G X 0 0 (wLa cI y0 y1 K_28 ++ wBd cI b0 b1 b2 b3 b4 b5 T S L J E cp su) [(0, .ref y0), (1, .ref b0), (3, .int x3_28), (4, .int x4_28)] 28 [] := by
    intro k n
    induction n with
    | zero => intro x3_28 x4_28 K_28 h hk; unfold f_X2_measureCosts_28 at h; cases h
    | succ n ih =>
      intro x3_28 x4_28 K_28 h hk
      unfold f_X2_measureCosts_28 at h
      refine xi_iload C dX2_measureCosts_28 3 rfl ?_
      refine xi_bipush (v := 24) C dX2_measureCosts_30 (by decide) ?_
      refine xi_icmp_ge (tgt := 112) C dX2_measureCosts_32 (by decide) (fun c6 => ?_) (fun c6 => ?_)
      · have h := it_i c6 h
        exact xb_lv (hk K_28 h) [] rfl
      · have h := ie_i c6 h
        refine xi_iload_n C dX2_measureCosts_35 rfl 2 rfl ?_
        refine xi_if_eq (tgt := 112) C dX2_measureCosts_36 (by decide) (fun c7 => ?_) (fun c7 => ?_)
        · have h := it_i c7 h
          exact xb_lv (hk K_28 h) [] rfl
        · have h := ie_i c7 h
          refine xi_iconst (v := 0) C dX2_measureCosts_39 (by decide) ?_
          refine xi_istore_n (lv2 := [(0, .ref y0), (1, .ref b0), (3, .int 0), (4, .int x4_28)]) C dX2_measureCosts_40 rfl (by decide) [0, 1, 3] [1, 2, 0, 3] rfl ?_
          refine xi_iconst (v := 0) C dX2_measureCosts_41 (by decide) ?_
          refine xi_istore (lv2 := [(0, .ref y0), (1, .ref b0), (3, .int 0), (4, .int x4_28), (5, .int 0)]) C dX2_measureCosts_42 (by decide) [0, 1, 2, 3] [1, 2, 3, 4, 0] rfl ?_
          refine xb_lv (lp44 x4_28 _ xFu 0 0 K_28 h (fun x3z18 Kz18 h => ?_)) [0, 1, 2, 3, 4] rfl
          refine xi_iinc (v := x4_28 + 1) (lv2 := [(0, .ref y0), (1, .ref b0), (3, .int x3z18), (4, .int (x4_28 + 1))]) C dX2_measureCosts_106 3 rfl (by rfl) (by decide) [0, 1, 2] [1, 2, 3, 0] rfl ?_
          refine xi_goto (tgt := 28) C dX2_measureCosts_109 (by decide) ?_
          exact xb_lv (ih x3z18 (x4_28 + 1) Kz18 h hk) [0, 1, 2, 3] rfl
  unfold f_X2_measureCosts at h
  refine xi_aload_n C dX2_measureCosts_0 rfl 0 rfl ?_
  refine xi_get C dX2_measureCosts_1 iw_X2_measureCosts_2 0 rfl rfl 0 (by decide) fl_X2_measureCosts_9 rfl ?_
  refine xi_ldc (v := 1000000) C dX2_measureCosts_4 (List.mem_of_getElem? (i := 2) rfl) ?_
  obtain ⟨f1, e2, h⟩ := ob_i h
  refine xi_callS (As := [.ref y1, .int 1000000]) (o := none) (rest := []) (w2 := (wLa cI y0 y1 f1 ++ wBd cI b0 b1 b2 b3 b4 b5 T S L J E cp su)) (st2 := []) C k_J7_fill_53178 (m_J7_fill_53178 D cI 24 y1 K 1000000 f1 e2) gX2_measureCosts_J7_fill_53178 dX2_measureCosts_6 ⟨Nat.le_of_ble_eq_true rfl, Nat.le_of_ble_eq_true rfl, Nat.le_of_ble_eq_true rfl⟩ [1] rfl rfl [0] rfl rfl (xb_mixq [0, 2, 3, 4, 5, 6, 7] 8 rfl rfl rfl rfl (xb_smc rfl rfl (xb_smc rfl rfl (xb_smc rfl rfl (xb_smc rfl rfl (xb_smc rfl rfl (xb_smc rfl rfl (xb_smc rfl rfl xb_smn))))))) (by decide +kernel) (by decide +kernel)) rfl (Nat.le_of_ble_eq_true rfl) ⟨Nat.zero_le _, Nat.zero_le _⟩ rfl ?_
  refine xi_iload_n C dX2_measureCosts_9 rfl 2 rfl ?_
  obtain ⟨v3, e4, h⟩ := ob_i h
  refine xi_callSN (As := [.int p2]) (o := some (.int v3)) (rest := []) (w2 := (wLa cI y0 y1 f1 ++ wBd cI b0 b1 b2 b3 b4 b5 T S L J E cp su)) (st2 := [.int v3]) C k_X5_isPlace (m_X5_isPlace D cI cC cZ cR p2 v3 e4) gX2_measureCosts_X5_isPlace_n38 (List.mem_of_getElem? (i := 9) rfl) (List.mem_of_getElem? (i := 8) rfl) (List.mem_of_getElem? (i := 7) rfl) dX2_measureCosts_10 ⟨Nat.le_of_ble_eq_true rfl, Nat.le_of_ble_eq_true rfl, Nat.le_of_ble_eq_true rfl⟩ [] rfl rfl [0, 1, 2, 3] rfl rfl rfl rfl (Nat.le_of_ble_eq_true rfl) ⟨Nat.zero_le _, Nat.zero_le _⟩ rfl ?_
  refine xi_if_eq (tgt := 23) C dX2_measureCosts_13 (by decide) (fun c5 => ?_) (fun c5 => ?_)
  · have h := it_i c5 h
    refine xi_iconst (v := 1) C dX2_measureCosts_23 (by decide) ?_
    refine xi_istore_n (lv2 := [(0, .ref y0), (1, .ref b0), (2, .int p2), (3, .int 1)]) C dX2_measureCosts_24 rfl (by decide) [0, 1, 2] [1, 2, 3, 0] rfl ?_
    refine xi_iconst (v := 0) C dX2_measureCosts_25 (by decide) ?_
    refine xi_istore (lv2 := [(0, .ref y0), (1, .ref b0), (2, .int p2), (3, .int 1), (4, .int 0)]) C dX2_measureCosts_26 (by decide) [0, 1, 2, 3] [1, 2, 3, 4, 0] rfl ?_
    refine xb_lv (lp28 _ xFu 1 0 f1 h (fun Kz19 h => ?_)) [0, 1, 3, 4] rfl
    have w0 := Option.some.inj h
    subst w0
    exact xi_ret C Z dX2_measureCosts_112
  · have h := ie_i c5 h
    refine xi_aload_n C dX2_measureCosts_16 rfl 0 rfl ?_
    refine xi_get C dX2_measureCosts_17 iw_X2_measureCosts_2 0 rfl rfl 0 (by decide) fl_X2_measureCosts_9 rfl ?_
    refine xi_iload_n C dX2_measureCosts_20 rfl 2 rfl ?_
    refine xi_iconst (v := 0) C dX2_measureCosts_21 (by decide) ?_
    obtain ⟨K21, e20, h⟩ := ob_i h
    refine xi_iast (w2 := (wLa cI y0 y1 K21 ++ wBd cI b0 b1 b2 b3 b4 b5 T S L J E cp su)) C dX2_measureCosts_22 1 0 rfl rfl e20 rfl ?_
    refine xi_iconst (v := 1) C dX2_measureCosts_23 (by decide) ?_
    refine xi_istore_n (lv2 := [(0, .ref y0), (1, .ref b0), (2, .int p2), (3, .int 1)]) C dX2_measureCosts_24 rfl (by decide) [0, 1, 2] [1, 2, 3, 0] rfl ?_
    refine xi_iconst (v := 0) C dX2_measureCosts_25 (by decide) ?_
    refine xi_istore (lv2 := [(0, .ref y0), (1, .ref b0), (2, .int p2), (3, .int 1), (4, .int 0)]) C dX2_measureCosts_26 (by decide) [0, 1, 2, 3] [1, 2, 3, 4, 0] rfl ?_
    refine xb_lv (lp28 _ xFu 1 0 K21 h (fun Kz22 h => ?_)) [0, 1, 3, 4] rfl
    have w0 := Option.some.inj h
    subst w0
    exact xi_ret C Z dX2_measureCosts_112
def f_X2_nextJunction_11 (K : Nat → Int32) (E : Nat → Int32) (cp : Int32) (su : Int32) (x2_11 : Int32) (k : Option (Int32)) : Nat → Int32 → Option (Int32)
  | 0, _ => none
  | n + 1, x3_11 =>
    if 4 ≤ x3_11 then
      k
    else
      (f_X2_costOver K E cp su x2_11 x3_11).bind fun v5 =>
      (xr_d K 24 x2_11).bind fun v7 =>
      if v5 = v7 then
        (xr_d xb_stI 4 x3_11).bind fun v12 =>
        some (x2_11 + v12)
      else
        f_X2_nextJunction_11 K E cp su x2_11 k n (x3_11 + 1)
def f_X2_nextJunction (K : Nat → Int32) (E : Nat → Int32) (cp : Int32) (su : Int32) (p2 : Int32) : Option (Int32) :=
  (f_X5_isPlace p2).bind fun v1 =>
  if v1 = 0 then
    some (-1)
  else
    f_X2_nextJunction_11 K E cp su p2 (
      some (-1)) xFu 0
theorem k_X2_nextJunction : xb_Y yX2_nextJunction cX2_nextJunction wsX2_nextJunction 4 (some .int) { frames := 2, cells := 0, slots := 0, locals := 48 } 2 := ⟨⟨_, rfl⟩, by decide, ⟨by decide, by decide, by decide +kernel⟩, rfl, rfl⟩
theorem fl_X2_nextJunction_9 : Cond.fieldLink RX2 9 "LookupBoard$Layer" "costs" "[I" ∈ wsX2_nextJunction := List.mem_of_getElem? (i := 1) rfl
theorem iw_X2_nextJunction_2 : ∀ w ∈ wsX20, w ∈ wsX2_nextJunction := fun w h => List.mem_cons_of_mem _ (List.mem_append_left _ (List.mem_append_right _ h))
set_option maxHeartbeats 4000000 in
set_option maxRecDepth 100000 in
theorem m_X2_nextJunction (D : va_G) (cI cC cZ cR : ClassId) (y0 y1 : Nat) (b0 b1 b2 b3 b4 b5 : Nat) (K : Nat → Int32) (T : Nat → Int32) (S : Nat → Int32) (L : Nat → Int32) (J : Nat → Int32) (E : Nat → Int32) (cp : Int32) (su : Int32) (p2 : Int32) (r : Int32) (h : f_X2_nextJunction K E cp su p2 = some r) : xb_M cX2_nextJunction wsX2_nextJunction RX2 { frames := 2, cells := 0, slots := 0, locals := 48 } (some .int) 4 (xb_ty cI cC cZ cR) D [.ref y0, .ref b0, .int p2] (wLa cI y0 y1 K ++ wBd cI b0 b1 b2 b3 b4 b5 T S L J E cp su) (some (.int r)) (wLa cI y0 y1 K ++ wBd cI b0 b1 b2 b3 b4 b5 T S L J E cp su) := by
  intro X C Z
  show xb_G X 0 0 (wLa cI y0 y1 K ++ wBd cI b0 b1 b2 b3 b4 b5 T S L J E cp su) [(0, .ref y0), (1, .ref b0), (2, .int p2)] 0 []
  have lp11 : ∀ (x2_11 : Int32) (k : Option (Int32)) (n : Nat) (x3_11 : Int32), f_X2_nextJunction_11 K E cp su x2_11 k n x3_11 = some r → (k = some r → xb_G X 0 0 (wLa cI y0 y1 K ++ wBd cI b0 b1 b2 b3 b4 b5 T S L J E cp su) [] 46 []) → xb_G X 0 0 (wLa cI y0 y1 K ++ wBd cI b0 b1 b2 b3 b4 b5 T S L J E cp su) [(0, .ref y0), (1, .ref b0), (2, .int x2_11), (3, .int x3_11)] 11 [] := by
    intro x2_11 k n
    induction n with
    | zero => intro x3_11 h hk; unfold f_X2_nextJunction_11 at h; cases h
    | succ n ih =>
      intro x3_11 h hk
      unfold f_X2_nextJunction_11 at h
      refine xi_iload_n C dX2_nextJunction_11 rfl 3 rfl ?_
      refine xi_iconst (v := 4) C dX2_nextJunction_12 (by decide) ?_
      refine xi_icmp_ge (tgt := 46) C dX2_nextJunction_13 (by decide) (fun c4 => ?_) (fun c4 => ?_)
      · have h := it_i c4 h
        exact xb_lv (hk h) [] rfl
      · have h := ie_i c4 h
        refine xi_aload_n C dX2_nextJunction_16 rfl 0 rfl ?_
        refine xi_aload_n C dX2_nextJunction_17 rfl 1 rfl ?_
        refine xi_iload_n C dX2_nextJunction_18 rfl 2 rfl ?_
        refine xi_iload_n C dX2_nextJunction_19 rfl 3 rfl ?_
        obtain ⟨v5, e6, h⟩ := ob_i h
        refine xi_callV (As := [.ref b0, .int x2_11, .int x3_11]) (o := some (.int v5)) (rest := []) (w2 := (wLa cI y0 y1 K ++ wBd cI b0 b1 b2 b3 b4 b5 T S L J E cp su)) (st2 := [.int v5]) C k_X2_costOver (m_X2_costOver D cI cC cZ cR y0 y1 b0 b1 b2 b3 b4 b5 K T S L J E cp su x2_11 x3_11 v5 e6) gX2_nextJunction_X2_costOver dX2_nextJunction_20 ⟨Nat.le_of_ble_eq_true rfl, Nat.le_of_ble_eq_true rfl, Nat.le_of_ble_eq_true rfl⟩ 0 rfl rfl [0, 1, 2, 3, 4, 5, 6, 7] rfl rfl [0, 1, 2, 3] rfl rfl (xb_mixq [] 8 rfl rfl rfl rfl xb_smn (by decide +kernel) (by decide +kernel)) rfl (Nat.le_of_ble_eq_true rfl) ⟨Nat.zero_le _, Nat.zero_le _⟩ rfl ?_
        refine xi_aload_n C dX2_nextJunction_23 rfl 0 rfl ?_
        refine xi_get C dX2_nextJunction_24 iw_X2_nextJunction_2 0 rfl rfl 0 (by decide) fl_X2_nextJunction_9 rfl ?_
        refine xi_iload_n C dX2_nextJunction_27 rfl 2 rfl ?_
        obtain ⟨v7, e8, h⟩ := ob_i h
        refine xi_iald C dX2_nextJunction_28 1 0 rfl rfl e8 ?_
        refine xi_icmp_ne (tgt := 40) C dX2_nextJunction_29 (by decide) (fun c9 => ?_) (fun c9 => ?_)
        · have h := ie_i c9 h
          refine xi_iinc (v := x3_11 + 1) (lv2 := [(0, .ref y0), (1, .ref b0), (2, .int x2_11), (3, .int (x3_11 + 1))]) C dX2_nextJunction_40 3 rfl (by rfl) (by decide) [0, 1, 2] [1, 2, 3, 0] rfl ?_
          refine xi_goto (tgt := 11) C dX2_nextJunction_43 (by decide) ?_
          exact xb_lv (ih (x3_11 + 1) h hk) [0, 1, 2, 3] rfl
        · have h := it_i c9 h
          refine xi_iload_n C dX2_nextJunction_32 rfl 2 rfl ?_
          refine xi_getsN C dX2_nextJunction_33 (fun t10 ht11 => ?_)
          refine xi_iload_n C dX2_nextJunction_36 rfl 3 rfl ?_
          obtain ⟨v12, e13, h⟩ := ob_i h
          refine xi_sald C dX2_nextJunction_37 ht11 e13 ?_
          refine xi_iadd C dX2_nextJunction_38 ?_
          have w0 := Option.some.inj h
          subst w0
          exact xi_iret C Z dX2_nextJunction_39
  unfold f_X2_nextJunction at h
  refine xi_iload_n C dX2_nextJunction_0 rfl 2 rfl ?_
  obtain ⟨v1, e2, h⟩ := ob_i h
  refine xi_callSN (As := [.int p2]) (o := some (.int v1)) (rest := []) (w2 := (wLa cI y0 y1 K ++ wBd cI b0 b1 b2 b3 b4 b5 T S L J E cp su)) (st2 := [.int v1]) C k_X5_isPlace (m_X5_isPlace D cI cC cZ cR p2 v1 e2) gX2_nextJunction_X5_isPlace_n38 (List.mem_of_getElem? (i := 9) rfl) (List.mem_of_getElem? (i := 3) rfl) (List.mem_of_getElem? (i := 2) rfl) dX2_nextJunction_1 ⟨Nat.le_of_ble_eq_true rfl, Nat.le_of_ble_eq_true rfl, Nat.le_of_ble_eq_true rfl⟩ [] rfl rfl [0, 1, 2, 3] rfl rfl rfl rfl (Nat.le_of_ble_eq_true rfl) ⟨Nat.zero_le _, Nat.zero_le _⟩ rfl ?_
  refine xi_if_ne (tgt := 9) C dX2_nextJunction_4 (by decide) (fun c3 => ?_) (fun c3 => ?_)
  · have h := ie_i c3 h
    refine xi_iconst (v := 0) C dX2_nextJunction_9 (by decide) ?_
    refine xi_istore_n (lv2 := [(0, .ref y0), (1, .ref b0), (2, .int p2), (3, .int 0)]) C dX2_nextJunction_10 rfl (by decide) [0, 1, 2] [1, 2, 3, 0] rfl ?_
    refine xb_lv (lp11 p2 _ xFu 0 h (fun h => ?_)) [0, 1, 2, 3] rfl
    refine xi_iconst (v := (-1)) C dX2_nextJunction_46 (by decide) ?_
    have w0 := Option.some.inj h
    subst w0
    exact xi_iret C Z dX2_nextJunction_47
  · have h := it_i c3 h
    refine xi_iconst (v := (-1)) C dX2_nextJunction_7 (by decide) ?_
    have w0 := Option.some.inj h
    subst w0
    exact xi_iret C Z dX2_nextJunction_8
def f_X2_layWire_55 (K_55 : Nat → Int32) (cp : Int32) (su : Int32) (x2_55 : Int32) (x4_55 : Int32) (k : (Nat → Int32) → (Nat → Int32) → (Nat → Int32) → Option (Int32 × (Nat → Int32) × (Nat → Int32) × (Nat → Int32) × (Nat → Int32))) : Nat → Int32 → Int32 → (Nat → Int32) → (Nat → Int32) → (Nat → Int32) → Option (Int32 × (Nat → Int32) × (Nat → Int32) × (Nat → Int32) × (Nat → Int32))
  | 0, _, _, _, _, _ => none
  | n + 1, x5_55, x6_55, L_55, J_55, E_55 =>
    if 24 ≤ x6_55 then
      k L_55 J_55 E_55
    else
      if x5_55 = x4_55 then
        k L_55 J_55 E_55
      else
        (f_X2_nextJunction K_55 E_55 cp su x5_55).bind fun v18 =>
        (f_X0_extendWire L_55 J_55 E_55 x2_55 v18).bind fun (L20, J21, E22) =>
        f_X2_layWire_55 K_55 cp su x2_55 x4_55 k n v18 (x6_55 + 1) L20 J21 E22
def f_X2_layWire (K : Nat → Int32) (S : Nat → Int32) (L : Nat → Int32) (J : Nat → Int32) (E : Nat → Int32) (cp : Int32) (su : Int32) (p2 : Int32) : Option (Int32 × (Nat → Int32) × (Nat → Int32) × (Nat → Int32) × (Nat → Int32)) :=
  (f_X0_sourceOf S p2).bind fun v1 =>
  (f_X5_junctionOf v1).bind fun v3 =>
  (f_X5_isPlace v3).bind fun v5 =>
  if v5 = 0 then
    some (1, K, L, J, E)
  else
    (f_X2_measureCosts K E cp su (p2 / 3)).bind fun K8 =>
    (xr_d K8 24 v3).bind fun v10 =>
    if v10 < 1000000 then
      (f_X0_startWire L J p2 v3).bind fun (L13, J14) =>
      f_X2_layWire_55 K8 cp su p2 (p2 / 3) (fun Lz24 Jz24 Ez24 =>
        some (1, K8, Lz24, Jz24, Ez24)) xFu v3 1 L13 J14 E
    else
      some (0, K8, L, J, E)
theorem k_X2_layWire : xb_Y yX2_layWire cX2_layWire wsX2_layWire 7 (some .boolean) { frames := 3, cells := 0, slots := 0, locals := 75 } 2 := ⟨⟨_, rfl⟩, by decide, ⟨by decide, by decide, by decide +kernel⟩, rfl, rfl⟩
theorem fl_X2_layWire_9 : Cond.fieldLink RX2 9 "LookupBoard$Layer" "costs" "[I" ∈ wsX2_layWire := List.mem_of_getElem? (i := 1) rfl
theorem iw_X2_layWire_2 : ∀ w ∈ wsX20, w ∈ wsX2_layWire := fun w h => List.mem_cons_of_mem _ (List.mem_append_left _ (List.mem_append_right _ h))
set_option maxHeartbeats 4000000 in
set_option maxRecDepth 100000 in
theorem m_X2_layWire (D : va_G) (cI cC cZ cR : ClassId) (y0 y1 : Nat) (b0 b1 b2 b3 b4 b5 : Nat) (K : Nat → Int32) (T : Nat → Int32) (S : Nat → Int32) (L : Nat → Int32) (J : Nat → Int32) (E : Nat → Int32) (cp : Int32) (su : Int32) (p2 : Int32) (r : Int32) (K' : Nat → Int32) (L' : Nat → Int32) (J' : Nat → Int32) (E' : Nat → Int32) (h : f_X2_layWire K S L J E cp su p2 = some (r, K', L', J', E')) : xb_M cX2_layWire wsX2_layWire RX2 { frames := 3, cells := 0, slots := 0, locals := 75 } (some .boolean) 7 (xb_ty cI cC cZ cR) D [.ref y0, .ref b0, .int p2] (wLa cI y0 y1 K ++ wBd cI b0 b1 b2 b3 b4 b5 T S L J E cp su) (some (.int r)) (wLa cI y0 y1 K' ++ wBd cI b0 b1 b2 b3 b4 b5 T S L' J' E' cp su) := by
  intro X C Z
  show xb_G X 0 0 (wLa cI y0 y1 K ++ wBd cI b0 b1 b2 b3 b4 b5 T S L J E cp su) [(0, .ref y0), (1, .ref b0), (2, .int p2)] 0 []
  have lp55 : ∀ (K_55 : Nat → Int32) (x2_55 : Int32) (x4_55 : Int32) (k : (Nat → Int32) → (Nat → Int32) → (Nat → Int32) → Option (Int32 × (Nat → Int32) × (Nat → Int32) × (Nat → Int32) × (Nat → Int32))) (n : Nat) (x5_55 : Int32) (x6_55 : Int32) (L_55 : Nat → Int32) (J_55 : Nat → Int32) (E_55 : Nat → Int32), f_X2_layWire_55 K_55 cp su x2_55 x4_55 k n x5_55 x6_55 L_55 J_55 E_55 = some (r, K', L', J', E') → (∀ (L_55e : Nat → Int32) (J_55e : Nat → Int32) (E_55e : Nat → Int32), k L_55e J_55e E_55e = some (r, K', L', J', E') → xb_G X 0 0 (wLa cI y0 y1 K_55 ++ wBd cI b0 b1 b2 b3 b4 b5 T S L_55e J_55e E_55e cp su) [] 91 []) → xb_G X 0 0 (wLa cI y0 y1 K_55 ++ wBd cI b0 b1 b2 b3 b4 b5 T S L_55 J_55 E_55 cp su) [(0, .ref y0), (1, .ref b0), (2, .int x2_55), (4, .int x4_55), (5, .int x5_55), (6, .int x6_55)] 55 [] := by
    intro K_55 x2_55 x4_55 k n
    induction n with
    | zero => intro x5_55 x6_55 L_55 J_55 E_55 h hk; unfold f_X2_layWire_55 at h; cases h
    | succ n ih =>
      intro x5_55 x6_55 L_55 J_55 E_55 h hk
      unfold f_X2_layWire_55 at h
      refine xi_iload C dX2_layWire_55 5 rfl ?_
      refine xi_bipush (v := 24) C dX2_layWire_57 (by decide) ?_
      refine xi_icmp_ge (tgt := 91) C dX2_layWire_59 (by decide) (fun c16 => ?_) (fun c16 => ?_)
      · have h := it_i c16 h
        exact xb_lv (hk L_55 J_55 E_55 h) [] rfl
      · have h := ie_i c16 h
        refine xi_iload C dX2_layWire_62 4 rfl ?_
        refine xi_iload C dX2_layWire_64 3 rfl ?_
        refine xi_icmp_eq (tgt := 91) C dX2_layWire_66 (by decide) (fun c17 => ?_) (fun c17 => ?_)
        · have h := it_i c17 h
          exact xb_lv (hk L_55 J_55 E_55 h) [] rfl
        · have h := ie_i c17 h
          refine xi_aload_n C dX2_layWire_69 rfl 0 rfl ?_
          refine xi_aload_n C dX2_layWire_70 rfl 1 rfl ?_
          refine xi_iload C dX2_layWire_71 4 rfl ?_
          obtain ⟨v18, e19, h⟩ := ob_i h
          refine xi_callV (As := [.ref b0, .int x5_55]) (o := some (.int v18)) (rest := []) (w2 := (wLa cI y0 y1 K_55 ++ wBd cI b0 b1 b2 b3 b4 b5 T S L_55 J_55 E_55 cp su)) (st2 := [.int v18]) C k_X2_nextJunction (m_X2_nextJunction D cI cC cZ cR y0 y1 b0 b1 b2 b3 b4 b5 K_55 T S L_55 J_55 E_55 cp su x5_55 v18 e19) gX2_layWire_X2_nextJunction dX2_layWire_73 ⟨Nat.le_of_ble_eq_true rfl, Nat.le_of_ble_eq_true rfl, Nat.le_of_ble_eq_true rfl⟩ 0 rfl rfl [0, 1, 2, 3, 4, 5, 6, 7] rfl rfl [0, 1, 2, 3] rfl rfl (xb_mixq [] 8 rfl rfl rfl rfl xb_smn (by decide +kernel) (by decide +kernel)) rfl (Nat.le_of_ble_eq_true rfl) ⟨Nat.zero_le _, Nat.zero_le _⟩ rfl ?_
          refine xi_istore (lv2 := [(0, .ref y0), (1, .ref b0), (2, .int x2_55), (4, .int x4_55), (5, .int v18), (6, .int x6_55)]) C dX2_layWire_76 (by decide) [0, 1, 2, 3, 5] [1, 2, 3, 4, 0, 5] rfl ?_
          refine xi_aload_n C dX2_layWire_78 rfl 1 rfl ?_
          refine xi_iload_n C dX2_layWire_79 rfl 2 rfl ?_
          refine xi_iload C dX2_layWire_80 4 rfl ?_
          obtain ⟨⟨L20, J21, E22⟩, e23, h⟩ := ob_i h
          refine xi_callV (As := [.int x2_55, .int v18]) (o := none) (rest := []) (w2 := (wLa cI y0 y1 K_55 ++ wBd cI b0 b1 b2 b3 b4 b5 T S L20 J21 E22 cp su)) (st2 := []) C k_X0_extendWire (m_X0_extendWire D cI cC cZ cR b0 b1 b2 b3 b4 b5 T S L_55 J_55 E_55 cp su x2_55 v18 L20 J21 E22 e23) gX2_layWire_X0_extendWire dX2_layWire_82 ⟨Nat.le_of_ble_eq_true rfl, Nat.le_of_ble_eq_true rfl, Nat.le_of_ble_eq_true rfl⟩ 2 rfl rfl [2, 3, 4, 5, 6, 7] rfl rfl [0, 1, 2, 3] rfl rfl (xb_mixq [0, 1] 8 rfl rfl rfl rfl (xb_smc rfl rfl (xb_smc rfl rfl xb_smn)) (by decide +kernel) (by decide +kernel)) rfl (Nat.le_of_ble_eq_true rfl) ⟨Nat.zero_le _, Nat.zero_le _⟩ rfl ?_
          refine xi_iinc (v := x6_55 + 1) (lv2 := [(0, .ref y0), (1, .ref b0), (2, .int x2_55), (4, .int x4_55), (5, .int v18), (6, .int (x6_55 + 1))]) C dX2_layWire_85 5 rfl (by rfl) (by decide) [0, 1, 2, 3, 4] [1, 2, 3, 4, 5, 0] rfl ?_
          refine xi_goto (tgt := 55) C dX2_layWire_88 (by decide) ?_
          exact xb_lv (ih v18 (x6_55 + 1) L20 J21 E22 h hk) [0, 1, 2, 3, 4, 5] rfl
  unfold f_X2_layWire at h
  refine xi_aload_n C dX2_layWire_0 rfl 1 rfl ?_
  refine xi_iload_n C dX2_layWire_1 rfl 2 rfl ?_
  obtain ⟨v1, e2, h⟩ := ob_i h
  refine xi_callV (As := [.int p2]) (o := some (.int v1)) (rest := []) (w2 := (wLa cI y0 y1 K ++ wBd cI b0 b1 b2 b3 b4 b5 T S L J E cp su)) (st2 := [.int v1]) C k_X0_sourceOf (m_X0_sourceOf D cI cC cZ cR b0 b1 b2 b3 b4 b5 T S L J E cp su p2 v1 e2) gX2_layWire_X0_sourceOf dX2_layWire_2 ⟨Nat.le_of_ble_eq_true rfl, Nat.le_of_ble_eq_true rfl, Nat.le_of_ble_eq_true rfl⟩ 2 rfl rfl [2, 3, 4, 5, 6, 7] rfl rfl [0, 1, 2, 3] rfl rfl (xb_mixq [0, 1] 8 rfl rfl rfl rfl (xb_smc rfl rfl (xb_smc rfl rfl xb_smn)) (by decide +kernel) (by decide +kernel)) rfl (Nat.le_of_ble_eq_true rfl) ⟨Nat.zero_le _, Nat.zero_le _⟩ rfl ?_
  obtain ⟨v3, e4, h⟩ := ob_i h
  refine xi_callSN (As := [.int v1]) (o := some (.int v3)) (rest := []) (w2 := (wLa cI y0 y1 K ++ wBd cI b0 b1 b2 b3 b4 b5 T S L J E cp su)) (st2 := [.int v3]) C k_X5_junctionOf (m_X5_junctionOf D cI cC cZ cR v1 v3 e4) gX2_layWire_X5_junctionOf_n35 (List.mem_of_getElem? (i := 8) rfl) (List.mem_of_getElem? (i := 10) rfl) (List.mem_of_getElem? (i := 12) rfl) dX2_layWire_5 ⟨Nat.le_of_ble_eq_true rfl, Nat.le_of_ble_eq_true rfl, Nat.le_of_ble_eq_true rfl⟩ [] rfl rfl [0, 1, 2, 3] rfl rfl rfl rfl (Nat.le_of_ble_eq_true rfl) ⟨Nat.zero_le _, Nat.zero_le _⟩ rfl ?_
  refine xi_istore_n (lv2 := [(0, .ref y0), (1, .ref b0), (2, .int p2), (3, .int v3)]) C dX2_layWire_8 rfl (by decide) [0, 1, 2] [1, 2, 3, 0] rfl ?_
  refine xi_iload_n C dX2_layWire_9 rfl 3 rfl ?_
  obtain ⟨v5, e6, h⟩ := ob_i h
  refine xi_callSN (As := [.int v3]) (o := some (.int v5)) (rest := []) (w2 := (wLa cI y0 y1 K ++ wBd cI b0 b1 b2 b3 b4 b5 T S L J E cp su)) (st2 := [.int v5]) C k_X5_isPlace (m_X5_isPlace D cI cC cZ cR v3 v5 e6) gX2_layWire_X5_isPlace_n38 (List.mem_of_getElem? (i := 9) rfl) (List.mem_of_getElem? (i := 10) rfl) (List.mem_of_getElem? (i := 14) rfl) dX2_layWire_10 ⟨Nat.le_of_ble_eq_true rfl, Nat.le_of_ble_eq_true rfl, Nat.le_of_ble_eq_true rfl⟩ [] rfl rfl [0, 1, 2, 3] rfl rfl rfl rfl (Nat.le_of_ble_eq_true rfl) ⟨Nat.zero_le _, Nat.zero_le _⟩ rfl ?_
  refine xi_if_ne (tgt := 18) C dX2_layWire_13 (by decide) (fun c7 => ?_) (fun c7 => ?_)
  · have h := ie_i c7 h
    refine xi_iload_n C dX2_layWire_18 rfl 2 rfl ?_
    refine xi_iconst (v := 3) C dX2_layWire_19 (by decide) ?_
    refine xi_idiv C dX2_layWire_20 (by decide) ?_
    refine xi_istore (lv2 := [(0, .ref y0), (1, .ref b0), (2, .int p2), (3, .int v3), (4, .int (p2 / 3))]) C dX2_layWire_21 (by decide) [0, 1, 2, 3] [1, 2, 3, 4, 0] rfl ?_
    refine xi_aload_n C dX2_layWire_23 rfl 0 rfl ?_
    refine xi_aload_n C dX2_layWire_24 rfl 1 rfl ?_
    refine xi_iload C dX2_layWire_25 4 rfl ?_
    obtain ⟨K8, e9, h⟩ := ob_i h
    refine xi_callV (As := [.ref b0, .int (p2 / 3)]) (o := none) (rest := []) (w2 := (wLa cI y0 y1 K8 ++ wBd cI b0 b1 b2 b3 b4 b5 T S L J E cp su)) (st2 := []) C k_X2_measureCosts (m_X2_measureCosts D cI cC cZ cR y0 y1 b0 b1 b2 b3 b4 b5 K T S L J E cp su (p2 / 3) K8 e9) gX2_layWire_X2_measureCosts dX2_layWire_27 ⟨Nat.le_of_ble_eq_true rfl, Nat.le_of_ble_eq_true rfl, Nat.le_of_ble_eq_true rfl⟩ 0 rfl rfl [0, 1, 2, 3, 4, 5, 6, 7] rfl rfl [0, 1, 2, 3] rfl rfl (xb_mixq [] 8 rfl rfl rfl rfl xb_smn (by decide +kernel) (by decide +kernel)) rfl (Nat.le_of_ble_eq_true rfl) ⟨Nat.zero_le _, Nat.zero_le _⟩ rfl ?_
    refine xi_aload_n C dX2_layWire_30 rfl 0 rfl ?_
    refine xi_get C dX2_layWire_31 iw_X2_layWire_2 0 rfl rfl 0 (by decide) fl_X2_layWire_9 rfl ?_
    refine xi_iload_n C dX2_layWire_34 rfl 3 rfl ?_
    obtain ⟨v10, e11, h⟩ := ob_i h
    refine xi_iald C dX2_layWire_35 1 0 rfl rfl e11 ?_
    refine xi_ldc (v := 1000000) C dX2_layWire_36 (List.mem_of_getElem? (i := 2) rfl) ?_
    refine xi_icmp_lt (tgt := 43) C dX2_layWire_38 (by decide) (fun c12 => ?_) (fun c12 => ?_)
    · have h := it_i c12 h
      refine xi_aload_n C dX2_layWire_43 rfl 1 rfl ?_
      refine xi_iload_n C dX2_layWire_44 rfl 2 rfl ?_
      refine xi_iload_n C dX2_layWire_45 rfl 3 rfl ?_
      obtain ⟨⟨L13, J14⟩, e15, h⟩ := ob_i h
      refine xi_callV (As := [.int p2, .int v3]) (o := none) (rest := []) (w2 := (wLa cI y0 y1 K8 ++ wBd cI b0 b1 b2 b3 b4 b5 T S L13 J14 E cp su)) (st2 := []) C k_X0_startWire (m_X0_startWire D cI cC cZ cR b0 b1 b2 b3 b4 b5 T S L J E cp su p2 v3 L13 J14 e15) gX2_layWire_X0_startWire dX2_layWire_46 ⟨Nat.le_of_ble_eq_true rfl, Nat.le_of_ble_eq_true rfl, Nat.le_of_ble_eq_true rfl⟩ 2 rfl rfl [2, 3, 4, 5, 6, 7] rfl rfl [0, 1, 2, 3] rfl rfl (xb_mixq [0, 1] 8 rfl rfl rfl rfl (xb_smc rfl rfl (xb_smc rfl rfl xb_smn)) (by decide +kernel) (by decide +kernel)) rfl (Nat.le_of_ble_eq_true rfl) ⟨Nat.zero_le _, Nat.zero_le _⟩ rfl ?_
      refine xi_iload_n C dX2_layWire_49 rfl 3 rfl ?_
      refine xi_istore (lv2 := [(0, .ref y0), (1, .ref b0), (2, .int p2), (3, .int v3), (4, .int (p2 / 3)), (5, .int v3)]) C dX2_layWire_50 (by decide) [0, 1, 2, 3, 4] [1, 2, 3, 4, 5, 0] rfl ?_
      refine xi_iconst (v := 1) C dX2_layWire_52 (by decide) ?_
      refine xi_istore (lv2 := [(0, .ref y0), (1, .ref b0), (2, .int p2), (3, .int v3), (4, .int (p2 / 3)), (5, .int v3), (6, .int 1)]) C dX2_layWire_53 (by decide) [0, 1, 2, 3, 4, 5] [1, 2, 3, 4, 5, 6, 0] rfl ?_
      refine xb_lv (lp55 K8 p2 (p2 / 3) _ xFu v3 1 L13 J14 E h (fun Lz24 Jz24 Ez24 h => ?_)) [0, 1, 2, 4, 5, 6] rfl
      refine xi_iconst (v := 1) C dX2_layWire_91 (by decide) ?_
      have w0 := Option.some.inj h
      obtain ⟨q0, w1⟩ := Prod.mk.inj w0
      obtain ⟨q1, w2⟩ := Prod.mk.inj w1
      obtain ⟨q2, w3⟩ := Prod.mk.inj w2
      obtain ⟨q3, w4⟩ := Prod.mk.inj w3
      subst q0
      subst q1
      subst q2
      subst q3
      subst w4
      exact xi_zret C Z dX2_layWire_92 xb_nz1
    · have h := ie_i c12 h
      refine xi_iconst (v := 0) C dX2_layWire_41 (by decide) ?_
      have w0 := Option.some.inj h
      obtain ⟨q0, w1⟩ := Prod.mk.inj w0
      obtain ⟨q1, w2⟩ := Prod.mk.inj w1
      obtain ⟨q2, w3⟩ := Prod.mk.inj w2
      obtain ⟨q3, w4⟩ := Prod.mk.inj w3
      subst q0
      subst q1
      subst q2
      subst q3
      subst w4
      exact xi_zret C Z dX2_layWire_42 xb_nz0
  · have h := it_i c7 h
    refine xi_iconst (v := 1) C dX2_layWire_16 (by decide) ?_
    have w0 := Option.some.inj h
    obtain ⟨q0, w1⟩ := Prod.mk.inj w0
    obtain ⟨q1, w2⟩ := Prod.mk.inj w1
    obtain ⟨q2, w3⟩ := Prod.mk.inj w2
    obtain ⟨q3, w4⟩ := Prod.mk.inj w3
    subst q0
    subst q1
    subst q2
    subst q3
    subst w4
    exact xi_zret C Z dX2_layWire_17 xb_nz1
def f_X2_layAll_30 (S : Nat → Int32) (cp : Int32) (su : Int32) (x2_30 : Int32) (x3_30 : Int32) (x4_30 : Int32) (k : (Nat → Int32) → (Nat → Int32) → (Nat → Int32) → (Nat → Int32) → Option (Int32 × (Nat → Int32) × (Nat → Int32) × (Nat → Int32) × (Nat → Int32))) : Nat → Int32 → (Nat → Int32) → (Nat → Int32) → (Nat → Int32) → (Nat → Int32) → Option (Int32 × (Nat → Int32) × (Nat → Int32) × (Nat → Int32) × (Nat → Int32))
  | 0, _, _, _, _, _ => none
  | n + 1, x5_30, K_30, L_30, J_30, E_30 =>
    if 72 ≤ x5_30 then
      k K_30 L_30 J_30 E_30
    else
      if x2_30 = 0 then
        if x3_30 = 0 then
          (f_X2_layWire K_30 S L_30 J_30 E_30 cp su x5_30).bind fun (v23, K24, L25, J26, E27) =>
          if v23 = 0 then
            some ((-3), K24, L25, J26, E27)
          else
            f_X2_layAll_30 S cp su x2_30 x3_30 x4_30 k n (x5_30 + 1) K24 L25 J26 E27
        else
          f_X2_layAll_30 S cp su x2_30 x3_30 x4_30 k n (x5_30 + 1) K_30 L_30 J_30 E_30
      else
        (f_X0_distanceOf S x5_30).bind fun v8 =>
        if v8 = x4_30 then
          (f_X2_layWire K_30 S L_30 J_30 E_30 cp su x5_30).bind fun (v13, K14, L15, J16, E17) =>
          if v13 = 0 then
            some ((-3), K14, L15, J16, E17)
          else
            f_X2_layAll_30 S cp su x2_30 x3_30 x4_30 k n (x5_30 + 1) K14 L15 J16 E17
        else
          f_X2_layAll_30 S cp su x2_30 x3_30 x4_30 k n (x5_30 + 1) K_30 L_30 J_30 E_30
def f_X2_layAll_6 (S : Nat → Int32) (cp : Int32) (su : Int32) (x2_6 : Int32) (k : (Nat → Int32) → (Nat → Int32) → (Nat → Int32) → (Nat → Int32) → Option (Int32 × (Nat → Int32) × (Nat → Int32) × (Nat → Int32) × (Nat → Int32))) : Nat → Int32 → (Nat → Int32) → (Nat → Int32) → (Nat → Int32) → (Nat → Int32) → Option (Int32 × (Nat → Int32) × (Nat → Int32) × (Nat → Int32) × (Nat → Int32))
  | 0, _, _, _, _, _ => none
  | n + 1, x3_6, K_6, L_6, J_6, E_6 =>
    if 8 < x3_6 then
      k K_6 L_6 J_6 E_6
    else
      if x2_6 = 1 then
        f_X2_layAll_30 S cp su x2_6 x3_6 (8 - x3_6) (fun Kz31 Lz31 Jz31 Ez31 =>
          f_X2_layAll_6 S cp su x2_6 k n (x3_6 + 1) Kz31 Lz31 Jz31 Ez31) xFu 0 K_6 L_6 J_6 E_6
      else
        f_X2_layAll_30 S cp su x2_6 x3_6 x3_6 (fun Kz30 Lz30 Jz30 Ez30 =>
          f_X2_layAll_6 S cp su x2_6 k n (x3_6 + 1) Kz30 Lz30 Jz30 Ez30) xFu 0 K_6 L_6 J_6 E_6
def f_X2_layAll (K : Nat → Int32) (S : Nat → Int32) (L : Nat → Int32) (J : Nat → Int32) (E : Nat → Int32) (cp : Int32) (su : Int32) (p2 : Int32) : Option (Int32 × (Nat → Int32) × (Nat → Int32) × (Nat → Int32) × (Nat → Int32)) :=
  (f_X0_removeAllWires L E).bind fun (L1, E2) =>
  f_X2_layAll_6 S cp su p2 (fun Kz32 Lz32 Jz32 Ez32 =>
    (f_X0_segmentsOfAll Lz32).bind fun v33 =>
    some (v33, Kz32, Lz32, Jz32, Ez32)) xFu 0 K L1 J E2
theorem k_X2_layAll : xb_Y yX2_layAll cX2_layAll wsX2_layAll 7 (some .int) { frames := 4, cells := 0, slots := 0, locals := 101 } 2 := ⟨⟨_, rfl⟩, by decide, ⟨by decide, by decide, by decide +kernel⟩, rfl, rfl⟩
set_option maxHeartbeats 4000000 in
set_option maxRecDepth 100000 in
theorem m_X2_layAll (D : va_G) (cI cC cZ cR : ClassId) (y0 y1 : Nat) (b0 b1 b2 b3 b4 b5 : Nat) (K : Nat → Int32) (T : Nat → Int32) (S : Nat → Int32) (L : Nat → Int32) (J : Nat → Int32) (E : Nat → Int32) (cp : Int32) (su : Int32) (p2 : Int32) (r : Int32) (K' : Nat → Int32) (L' : Nat → Int32) (J' : Nat → Int32) (E' : Nat → Int32) (h : f_X2_layAll K S L J E cp su p2 = some (r, K', L', J', E')) : xb_M cX2_layAll wsX2_layAll RX2 { frames := 4, cells := 0, slots := 0, locals := 101 } (some .int) 7 (xb_ty cI cC cZ cR) D [.ref y0, .ref b0, .int p2] (wLa cI y0 y1 K ++ wBd cI b0 b1 b2 b3 b4 b5 T S L J E cp su) (some (.int r)) (wLa cI y0 y1 K' ++ wBd cI b0 b1 b2 b3 b4 b5 T S L' J' E' cp su) := by
  intro X C Z
  show xb_G X 0 0 (wLa cI y0 y1 K ++ wBd cI b0 b1 b2 b3 b4 b5 T S L J E cp su) [(0, .ref y0), (1, .ref b0), (2, .int p2)] 0 []
  have lp30 : ∀ (x2_30 : Int32) (x3_30 : Int32) (x4_30 : Int32) (k : (Nat → Int32) → (Nat → Int32) → (Nat → Int32) → (Nat → Int32) → Option (Int32 × (Nat → Int32) × (Nat → Int32) × (Nat → Int32) × (Nat → Int32))) (n : Nat) (x5_30 : Int32) (K_30 : Nat → Int32) (L_30 : Nat → Int32) (J_30 : Nat → Int32) (E_30 : Nat → Int32), f_X2_layAll_30 S cp su x2_30 x3_30 x4_30 k n x5_30 K_30 L_30 J_30 E_30 = some (r, K', L', J', E') → (∀ (K_30e : Nat → Int32) (L_30e : Nat → Int32) (J_30e : Nat → Int32) (E_30e : Nat → Int32), k K_30e L_30e J_30e E_30e = some (r, K', L', J', E') → xb_G X 0 0 (wLa cI y0 y1 K_30e ++ wBd cI b0 b1 b2 b3 b4 b5 T S L_30e J_30e E_30e cp su) [(0, .ref y0), (1, .ref b0), (2, .int x2_30), (3, .int x3_30)] 95 []) → xb_G X 0 0 (wLa cI y0 y1 K_30 ++ wBd cI b0 b1 b2 b3 b4 b5 T S L_30 J_30 E_30 cp su) [(0, .ref y0), (1, .ref b0), (2, .int x2_30), (3, .int x3_30), (4, .int x4_30), (5, .int x5_30)] 30 [] := by
    intro x2_30 x3_30 x4_30 k n
    induction n with
    | zero => intro x5_30 K_30 L_30 J_30 E_30 h hk; unfold f_X2_layAll_30 at h; cases h
    | succ n ih =>
      intro x5_30 K_30 L_30 J_30 E_30 h hk
      unfold f_X2_layAll_30 at h
      refine xi_iload C dX2_layAll_30 5 rfl ?_
      refine xi_bipush (v := 72) C dX2_layAll_32 (by decide) ?_
      refine xi_icmp_ge (tgt := 95) C dX2_layAll_34 (by decide) (fun c6 => ?_) (fun c6 => ?_)
      · have h := it_i c6 h
        exact xb_lv (hk K_30 L_30 J_30 E_30 h) [0, 1, 2, 3] rfl
      · have h := ie_i c6 h
        refine xi_iload_n C dX2_layAll_37 rfl 2 rfl ?_
        refine xi_if_ne (tgt := 53) C dX2_layAll_38 (by decide) (fun c7 => ?_) (fun c7 => ?_)
        · have h := ie_i c7 h
          refine xi_aload_n C dX2_layAll_53 rfl 1 rfl ?_
          refine xi_iload C dX2_layAll_54 5 rfl ?_
          obtain ⟨v8, e9, h⟩ := ob_i h
          refine xi_callV (As := [.int x5_30]) (o := some (.int v8)) (rest := []) (w2 := (wLa cI y0 y1 K_30 ++ wBd cI b0 b1 b2 b3 b4 b5 T S L_30 J_30 E_30 cp su)) (st2 := [.int v8]) C k_X0_distanceOf (m_X0_distanceOf D cI cC cZ cR b0 b1 b2 b3 b4 b5 T S L_30 J_30 E_30 cp su x5_30 v8 e9) gX2_layAll_X0_distanceOf dX2_layAll_56 ⟨Nat.le_of_ble_eq_true rfl, Nat.le_of_ble_eq_true rfl, Nat.le_of_ble_eq_true rfl⟩ 2 rfl rfl [2, 3, 4, 5, 6, 7] rfl rfl [0, 1, 2, 3] rfl rfl (xb_mixq [0, 1] 8 rfl rfl rfl rfl (xb_smc rfl rfl (xb_smc rfl rfl xb_smn)) (by decide +kernel) (by decide +kernel)) rfl (Nat.le_of_ble_eq_true rfl) ⟨Nat.zero_le _, Nat.zero_le _⟩ rfl ?_
          refine xi_iload C dX2_layAll_59 4 rfl ?_
          refine xi_icmp_ne (tgt := 68) C dX2_layAll_61 (by decide) (fun c10 => ?_) (fun c10 => ?_)
          · have h := ie_i c10 h
            refine xi_iconst (v := 0) C dX2_layAll_68 (by decide) ?_
            refine xi_istore (lv2 := [(0, .ref y0), (1, .ref b0), (2, .int x2_30), (3, .int x3_30), (4, .int x4_30), (5, .int x5_30), (6, .int 0)]) C dX2_layAll_69 (by decide) [0, 1, 2, 3, 4, 5] [1, 2, 3, 4, 5, 6, 0] rfl ?_
            refine xi_iload C dX2_layAll_71 6 rfl ?_
            refine xi_if_eq (tgt := 89) C dX2_layAll_73 (by decide) (fun c11 => ?_) (fun c11 => ?_)
            rotate_left
            · first | exact absurd c11 (by decide) | exact absurd (by decide) c11
            refine xi_iinc (v := x5_30 + 1) (lv2 := [(0, .ref y0), (1, .ref b0), (2, .int x2_30), (3, .int x3_30), (4, .int x4_30), (5, .int (x5_30 + 1)), (6, .int 0)]) C dX2_layAll_89 5 rfl (by rfl) (by decide) [0, 1, 2, 3, 4, 6] [1, 2, 3, 4, 5, 0, 6] rfl ?_
            refine xi_goto (tgt := 30) C dX2_layAll_92 (by decide) ?_
            exact xb_lv (ih (x5_30 + 1) K_30 L_30 J_30 E_30 h hk) [0, 1, 2, 3, 4, 5] rfl
          · have h := it_i c10 h
            refine xi_iconst (v := 1) C dX2_layAll_64 (by decide) ?_
            refine xi_goto (tgt := 69) C dX2_layAll_65 (by decide) ?_
            refine xi_istore (lv2 := [(0, .ref y0), (1, .ref b0), (2, .int x2_30), (3, .int x3_30), (4, .int x4_30), (5, .int x5_30), (6, .int 1)]) C dX2_layAll_69 (by decide) [0, 1, 2, 3, 4, 5] [1, 2, 3, 4, 5, 6, 0] rfl ?_
            refine xi_iload C dX2_layAll_71 6 rfl ?_
            refine xi_if_eq (tgt := 89) C dX2_layAll_73 (by decide) (fun c12 => ?_) (fun c12 => ?_)
            · first | exact absurd c12 (by decide) | exact absurd (by decide) c12
            refine xi_aload_n C dX2_layAll_76 rfl 0 rfl ?_
            refine xi_aload_n C dX2_layAll_77 rfl 1 rfl ?_
            refine xi_iload C dX2_layAll_78 5 rfl ?_
            obtain ⟨⟨v13, K14, L15, J16, E17⟩, e18, h⟩ := ob_i h
            refine xi_callV (As := [.ref b0, .int x5_30]) (o := some (.int v13)) (rest := []) (w2 := (wLa cI y0 y1 K14 ++ wBd cI b0 b1 b2 b3 b4 b5 T S L15 J16 E17 cp su)) (st2 := [.int v13]) C k_X2_layWire (m_X2_layWire D cI cC cZ cR y0 y1 b0 b1 b2 b3 b4 b5 K_30 T S L_30 J_30 E_30 cp su x5_30 v13 K14 L15 J16 E17 e18) gX2_layAll_X2_layWire dX2_layAll_80 ⟨Nat.le_of_ble_eq_true rfl, Nat.le_of_ble_eq_true rfl, Nat.le_of_ble_eq_true rfl⟩ 0 rfl rfl [0, 1, 2, 3, 4, 5, 6, 7] rfl rfl [0, 1, 2, 3] rfl rfl (xb_mixq [] 8 rfl rfl rfl rfl xb_smn (by decide +kernel) (by decide +kernel)) rfl (Nat.le_of_ble_eq_true rfl) ⟨Nat.zero_le _, Nat.zero_le _⟩ rfl ?_
            refine xi_if_ne (tgt := 89) C dX2_layAll_83 (by decide) (fun c19 => ?_) (fun c19 => ?_)
            · have h := ie_i c19 h
              refine xi_iinc (v := x5_30 + 1) (lv2 := [(0, .ref y0), (1, .ref b0), (2, .int x2_30), (3, .int x3_30), (4, .int x4_30), (5, .int (x5_30 + 1)), (6, .int 1)]) C dX2_layAll_89 5 rfl (by rfl) (by decide) [0, 1, 2, 3, 4, 6] [1, 2, 3, 4, 5, 0, 6] rfl ?_
              refine xi_goto (tgt := 30) C dX2_layAll_92 (by decide) ?_
              exact xb_lv (ih (x5_30 + 1) K14 L15 J16 E17 h hk) [0, 1, 2, 3, 4, 5] rfl
            · have h := it_i c19 h
              refine xi_bipush (v := (-3)) C dX2_layAll_86 (by decide) ?_
              have w0 := Option.some.inj h
              obtain ⟨q0, w1⟩ := Prod.mk.inj w0
              obtain ⟨q1, w2⟩ := Prod.mk.inj w1
              obtain ⟨q2, w3⟩ := Prod.mk.inj w2
              obtain ⟨q3, w4⟩ := Prod.mk.inj w3
              subst q0
              subst q1
              subst q2
              subst q3
              subst w4
              exact xi_iret C Z dX2_layAll_88
        · have h := it_i c7 h
          refine xi_iload_n C dX2_layAll_41 rfl 3 rfl ?_
          refine xi_if_ne (tgt := 49) C dX2_layAll_42 (by decide) (fun c20 => ?_) (fun c20 => ?_)
          · have h := ie_i c20 h
            refine xi_iconst (v := 0) C dX2_layAll_49 (by decide) ?_
            refine xi_goto (tgt := 69) C dX2_layAll_50 (by decide) ?_
            refine xi_istore (lv2 := [(0, .ref y0), (1, .ref b0), (2, .int x2_30), (3, .int x3_30), (4, .int x4_30), (5, .int x5_30), (6, .int 0)]) C dX2_layAll_69 (by decide) [0, 1, 2, 3, 4, 5] [1, 2, 3, 4, 5, 6, 0] rfl ?_
            refine xi_iload C dX2_layAll_71 6 rfl ?_
            refine xi_if_eq (tgt := 89) C dX2_layAll_73 (by decide) (fun c21 => ?_) (fun c21 => ?_)
            rotate_left
            · first | exact absurd c21 (by decide) | exact absurd (by decide) c21
            refine xi_iinc (v := x5_30 + 1) (lv2 := [(0, .ref y0), (1, .ref b0), (2, .int x2_30), (3, .int x3_30), (4, .int x4_30), (5, .int (x5_30 + 1)), (6, .int 0)]) C dX2_layAll_89 5 rfl (by rfl) (by decide) [0, 1, 2, 3, 4, 6] [1, 2, 3, 4, 5, 0, 6] rfl ?_
            refine xi_goto (tgt := 30) C dX2_layAll_92 (by decide) ?_
            exact xb_lv (ih (x5_30 + 1) K_30 L_30 J_30 E_30 h hk) [0, 1, 2, 3, 4, 5] rfl
          · have h := it_i c20 h
            refine xi_iconst (v := 1) C dX2_layAll_45 (by decide) ?_
            refine xi_goto (tgt := 69) C dX2_layAll_46 (by decide) ?_
            refine xi_istore (lv2 := [(0, .ref y0), (1, .ref b0), (2, .int x2_30), (3, .int x3_30), (4, .int x4_30), (5, .int x5_30), (6, .int 1)]) C dX2_layAll_69 (by decide) [0, 1, 2, 3, 4, 5] [1, 2, 3, 4, 5, 6, 0] rfl ?_
            refine xi_iload C dX2_layAll_71 6 rfl ?_
            refine xi_if_eq (tgt := 89) C dX2_layAll_73 (by decide) (fun c22 => ?_) (fun c22 => ?_)
            · first | exact absurd c22 (by decide) | exact absurd (by decide) c22
            refine xi_aload_n C dX2_layAll_76 rfl 0 rfl ?_
            refine xi_aload_n C dX2_layAll_77 rfl 1 rfl ?_
            refine xi_iload C dX2_layAll_78 5 rfl ?_
            obtain ⟨⟨v23, K24, L25, J26, E27⟩, e28, h⟩ := ob_i h
            refine xi_callV (As := [.ref b0, .int x5_30]) (o := some (.int v23)) (rest := []) (w2 := (wLa cI y0 y1 K24 ++ wBd cI b0 b1 b2 b3 b4 b5 T S L25 J26 E27 cp su)) (st2 := [.int v23]) C k_X2_layWire (m_X2_layWire D cI cC cZ cR y0 y1 b0 b1 b2 b3 b4 b5 K_30 T S L_30 J_30 E_30 cp su x5_30 v23 K24 L25 J26 E27 e28) gX2_layAll_X2_layWire dX2_layAll_80 ⟨Nat.le_of_ble_eq_true rfl, Nat.le_of_ble_eq_true rfl, Nat.le_of_ble_eq_true rfl⟩ 0 rfl rfl [0, 1, 2, 3, 4, 5, 6, 7] rfl rfl [0, 1, 2, 3] rfl rfl (xb_mixq [] 8 rfl rfl rfl rfl xb_smn (by decide +kernel) (by decide +kernel)) rfl (Nat.le_of_ble_eq_true rfl) ⟨Nat.zero_le _, Nat.zero_le _⟩ rfl ?_
            refine xi_if_ne (tgt := 89) C dX2_layAll_83 (by decide) (fun c29 => ?_) (fun c29 => ?_)
            · have h := ie_i c29 h
              refine xi_iinc (v := x5_30 + 1) (lv2 := [(0, .ref y0), (1, .ref b0), (2, .int x2_30), (3, .int x3_30), (4, .int x4_30), (5, .int (x5_30 + 1)), (6, .int 1)]) C dX2_layAll_89 5 rfl (by rfl) (by decide) [0, 1, 2, 3, 4, 6] [1, 2, 3, 4, 5, 0, 6] rfl ?_
              refine xi_goto (tgt := 30) C dX2_layAll_92 (by decide) ?_
              exact xb_lv (ih (x5_30 + 1) K24 L25 J26 E27 h hk) [0, 1, 2, 3, 4, 5] rfl
            · have h := it_i c29 h
              refine xi_bipush (v := (-3)) C dX2_layAll_86 (by decide) ?_
              have w0 := Option.some.inj h
              obtain ⟨q0, w1⟩ := Prod.mk.inj w0
              obtain ⟨q1, w2⟩ := Prod.mk.inj w1
              obtain ⟨q2, w3⟩ := Prod.mk.inj w2
              obtain ⟨q3, w4⟩ := Prod.mk.inj w3
              subst q0
              subst q1
              subst q2
              subst q3
              subst w4
              exact xi_iret C Z dX2_layAll_88
  have lp6 : ∀ (x2_6 : Int32) (k : (Nat → Int32) → (Nat → Int32) → (Nat → Int32) → (Nat → Int32) → Option (Int32 × (Nat → Int32) × (Nat → Int32) × (Nat → Int32) × (Nat → Int32))) (n : Nat) (x3_6 : Int32) (K_6 : Nat → Int32) (L_6 : Nat → Int32) (J_6 : Nat → Int32) (E_6 : Nat → Int32), f_X2_layAll_6 S cp su x2_6 k n x3_6 K_6 L_6 J_6 E_6 = some (r, K', L', J', E') → (∀ (K_6e : Nat → Int32) (L_6e : Nat → Int32) (J_6e : Nat → Int32) (E_6e : Nat → Int32), k K_6e L_6e J_6e E_6e = some (r, K', L', J', E') → xb_G X 0 0 (wLa cI y0 y1 K_6e ++ wBd cI b0 b1 b2 b3 b4 b5 T S L_6e J_6e E_6e cp su) [(1, .ref b0)] 101 []) → xb_G X 0 0 (wLa cI y0 y1 K_6 ++ wBd cI b0 b1 b2 b3 b4 b5 T S L_6 J_6 E_6 cp su) [(0, .ref y0), (1, .ref b0), (2, .int x2_6), (3, .int x3_6)] 6 [] := by
    intro x2_6 k n
    induction n with
    | zero => intro x3_6 K_6 L_6 J_6 E_6 h hk; unfold f_X2_layAll_6 at h; cases h
    | succ n ih =>
      intro x3_6 K_6 L_6 J_6 E_6 h hk
      unfold f_X2_layAll_6 at h
      refine xi_iload_n C dX2_layAll_6 rfl 3 rfl ?_
      refine xi_bipush (v := 8) C dX2_layAll_7 (by decide) ?_
      refine xi_icmp_gt (tgt := 101) C dX2_layAll_9 (by decide) (fun c4 => ?_) (fun c4 => ?_)
      · have h := it_i c4 h
        exact xb_lv (hk K_6 L_6 J_6 E_6 h) [1] rfl
      · have h := ie_i c4 h
        refine xi_iload_n C dX2_layAll_12 rfl 2 rfl ?_
        refine xi_iconst (v := 1) C dX2_layAll_13 (by decide) ?_
        refine xi_icmp_ne (tgt := 24) C dX2_layAll_14 (by decide) (fun c5 => ?_) (fun c5 => ?_)
        · have h := ie_i c5 h
          refine xi_iload_n C dX2_layAll_24 rfl 3 rfl ?_
          refine xi_istore (lv2 := [(0, .ref y0), (1, .ref b0), (2, .int x2_6), (3, .int x3_6), (4, .int x3_6)]) C dX2_layAll_25 (by decide) [0, 1, 2, 3] [1, 2, 3, 4, 0] rfl ?_
          refine xi_iconst (v := 0) C dX2_layAll_27 (by decide) ?_
          refine xi_istore (lv2 := [(0, .ref y0), (1, .ref b0), (2, .int x2_6), (3, .int x3_6), (4, .int x3_6), (5, .int 0)]) C dX2_layAll_28 (by decide) [0, 1, 2, 3, 4] [1, 2, 3, 4, 5, 0] rfl ?_
          refine xb_lv (lp30 x2_6 x3_6 x3_6 _ xFu 0 K_6 L_6 J_6 E_6 h (fun Kz30 Lz30 Jz30 Ez30 h => ?_)) [0, 1, 2, 3, 4, 5] rfl
          refine xi_iinc (v := x3_6 + 1) (lv2 := [(0, .ref y0), (1, .ref b0), (2, .int x2_6), (3, .int (x3_6 + 1))]) C dX2_layAll_95 3 rfl (by rfl) (by decide) [0, 1, 2] [1, 2, 3, 0] rfl ?_
          refine xi_goto (tgt := 6) C dX2_layAll_98 (by decide) ?_
          exact xb_lv (ih (x3_6 + 1) Kz30 Lz30 Jz30 Ez30 h hk) [0, 1, 2, 3] rfl
        · have h := it_i c5 h
          refine xi_bipush (v := 8) C dX2_layAll_17 (by decide) ?_
          refine xi_iload_n C dX2_layAll_19 rfl 3 rfl ?_
          refine xi_isub C dX2_layAll_20 ?_
          refine xi_goto (tgt := 25) C dX2_layAll_21 (by decide) ?_
          refine xi_istore (lv2 := [(0, .ref y0), (1, .ref b0), (2, .int x2_6), (3, .int x3_6), (4, .int (8 - x3_6))]) C dX2_layAll_25 (by decide) [0, 1, 2, 3] [1, 2, 3, 4, 0] rfl ?_
          refine xi_iconst (v := 0) C dX2_layAll_27 (by decide) ?_
          refine xi_istore (lv2 := [(0, .ref y0), (1, .ref b0), (2, .int x2_6), (3, .int x3_6), (4, .int (8 - x3_6)), (5, .int 0)]) C dX2_layAll_28 (by decide) [0, 1, 2, 3, 4] [1, 2, 3, 4, 5, 0] rfl ?_
          refine xb_lv (lp30 x2_6 x3_6 (8 - x3_6) _ xFu 0 K_6 L_6 J_6 E_6 h (fun Kz31 Lz31 Jz31 Ez31 h => ?_)) [0, 1, 2, 3, 4, 5] rfl
          refine xi_iinc (v := x3_6 + 1) (lv2 := [(0, .ref y0), (1, .ref b0), (2, .int x2_6), (3, .int (x3_6 + 1))]) C dX2_layAll_95 3 rfl (by rfl) (by decide) [0, 1, 2] [1, 2, 3, 0] rfl ?_
          refine xi_goto (tgt := 6) C dX2_layAll_98 (by decide) ?_
          exact xb_lv (ih (x3_6 + 1) Kz31 Lz31 Jz31 Ez31 h hk) [0, 1, 2, 3] rfl
  unfold f_X2_layAll at h
  refine xi_aload_n C dX2_layAll_0 rfl 1 rfl ?_
  obtain ⟨⟨L1, E2⟩, e3, h⟩ := ob_i h
  refine xi_callV (As := []) (o := none) (rest := []) (w2 := (wLa cI y0 y1 K ++ wBd cI b0 b1 b2 b3 b4 b5 T S L1 J E2 cp su)) (st2 := []) C k_X0_removeAllWires (m_X0_removeAllWires D cI cC cZ cR b0 b1 b2 b3 b4 b5 T S L J E cp su L1 E2 e3) gX2_layAll_X0_removeAllWires dX2_layAll_1 ⟨Nat.le_of_ble_eq_true rfl, Nat.le_of_ble_eq_true rfl, Nat.le_of_ble_eq_true rfl⟩ 2 rfl rfl [2, 3, 4, 5, 6, 7] rfl rfl [0, 1, 2, 3] rfl rfl (xb_mixq [0, 1] 8 rfl rfl rfl rfl (xb_smc rfl rfl (xb_smc rfl rfl xb_smn)) (by decide +kernel) (by decide +kernel)) rfl (Nat.le_of_ble_eq_true rfl) ⟨Nat.zero_le _, Nat.zero_le _⟩ rfl ?_
  refine xi_iconst (v := 0) C dX2_layAll_4 (by decide) ?_
  refine xi_istore_n (lv2 := [(0, .ref y0), (1, .ref b0), (2, .int p2), (3, .int 0)]) C dX2_layAll_5 rfl (by decide) [0, 1, 2] [1, 2, 3, 0] rfl ?_
  refine xb_lv (lp6 p2 _ xFu 0 K L1 J E2 h (fun Kz32 Lz32 Jz32 Ez32 h => ?_)) [0, 1, 2, 3] rfl
  refine xi_aload_n C dX2_layAll_101 rfl 0 rfl ?_
  obtain ⟨v33, e34, h⟩ := ob_i h
  refine xi_callV (As := []) (o := some (.int v33)) (rest := []) (w2 := (wLa cI y0 y1 Kz32 ++ wBd cI b0 b1 b2 b3 b4 b5 T S Lz32 Jz32 Ez32 cp su)) (st2 := [.int v33]) C k_X0_segmentsOfAll (m_X0_segmentsOfAll D cI cC cZ cR b0 b1 b2 b3 b4 b5 T S Lz32 Jz32 Ez32 cp su v33 e34) gX2_layAll_X0_segmentsOfAll dX2_layAll_102 ⟨Nat.le_of_ble_eq_true rfl, Nat.le_of_ble_eq_true rfl, Nat.le_of_ble_eq_true rfl⟩ 2 rfl rfl [2, 3, 4, 5, 6, 7] rfl rfl [0, 1, 2, 3] rfl rfl (xb_mixq [0, 1] 8 rfl rfl rfl rfl (xb_smc rfl rfl (xb_smc rfl rfl xb_smn)) (by decide +kernel) (by decide +kernel)) rfl (Nat.le_of_ble_eq_true rfl) ⟨Nat.zero_le _, Nat.zero_le _⟩ rfl ?_
  have w0 := Option.some.inj h
  obtain ⟨q0, w1⟩ := Prod.mk.inj w0
  obtain ⟨q1, w2⟩ := Prod.mk.inj w1
  obtain ⟨q2, w3⟩ := Prod.mk.inj w2
  obtain ⟨q3, w4⟩ := Prod.mk.inj w3
  subst q0
  subst q1
  subst q2
  subst q3
  subst w4
  exact xi_iret C Z dX2_layAll_105
def f_X3_depthBySources_5 (Dp : Nat → Int32) (S : Nat → Int32) (x2_5 : Int32) (k : Int32 → Option (Int32)) : Nat → Int32 → Int32 → Option (Int32)
  | 0, _, _ => none
  | n + 1, x3_5, x4_5 =>
    if 3 ≤ x4_5 then
      k x3_5
    else
      (f_X0_sourceOf S ((x2_5 * 3) + x4_5)).bind fun v2 =>
      (f_X5_isPlace v2).bind fun v4 =>
      if v4 = 0 then
        f_X3_depthBySources_5 Dp S x2_5 k n x3_5 (x4_5 + 1)
      else
        (xr_d Dp 24 v2).bind fun v7 =>
        if v7 = 0 then
          some 0
        else
          (xr_d Dp 24 v2).bind fun v10 =>
          (some (if x3_5 < (v10 + 1) then (v10 + 1) else x3_5)).bind fun v12 =>
          f_X3_depthBySources_5 Dp S x2_5 k n v12 (x4_5 + 1)
def f_X3_depthBySources (Dp : Nat → Int32) (S : Nat → Int32) (p2 : Int32) : Option (Int32) :=
  f_X3_depthBySources_5 Dp S p2 (fun x3z14 =>
    some x3z14) xFu 1 0
theorem k_X3_depthBySources : xb_Y yX3_depthBySources cX3_depthBySources wsX3_depthBySources 6 (some .int) { frames := 2, cells := 0, slots := 0, locals := 41 } 2 := ⟨⟨_, rfl⟩, by decide, ⟨by decide, by decide, by decide +kernel⟩, rfl, rfl⟩
theorem fl_X3_depthBySources_9 : Cond.fieldLink RX3 9 "LookupBoard$Logic" "depths" "[I" ∈ wsX3_depthBySources := List.mem_of_getElem? (i := 1) rfl
theorem iw_X3_depthBySources_3 : ∀ w ∈ wsX30, w ∈ wsX3_depthBySources := fun w h => List.mem_cons_of_mem _ (List.mem_append_left _ (List.mem_append_right _ h))
set_option maxHeartbeats 4000000 in
set_option maxRecDepth 100000 in
theorem m_X3_depthBySources (D : va_G) (cI cC cZ cR : ClassId) (y0 y1 y2 y3 : Nat) (b0 b1 b2 b3 b4 b5 : Nat) (Dp : Nat → Int32) (Bt : Nat → Int32) (Sq : Nat → Int32) (se : Int32) (T : Nat → Int32) (S : Nat → Int32) (L : Nat → Int32) (J : Nat → Int32) (E : Nat → Int32) (cp : Int32) (su : Int32) (p2 : Int32) (r : Int32) (h : f_X3_depthBySources Dp S p2 = some r) : xb_M cX3_depthBySources wsX3_depthBySources RX3 { frames := 2, cells := 0, slots := 0, locals := 41 } (some .int) 6 (xb_ty cI cC cZ cR) D [.ref y0, .ref b0, .int p2] (wLo cI y0 y1 y2 y3 Dp Bt Sq se ++ wBd cI b0 b1 b2 b3 b4 b5 T S L J E cp su) (some (.int r)) (wLo cI y0 y1 y2 y3 Dp Bt Sq se ++ wBd cI b0 b1 b2 b3 b4 b5 T S L J E cp su) := by
  intro X C Z
  show xb_G X 0 0 (wLo cI y0 y1 y2 y3 Dp Bt Sq se ++ wBd cI b0 b1 b2 b3 b4 b5 T S L J E cp su) [(0, .ref y0), (1, .ref b0), (2, .int p2)] 0 []
  have lp5 : ∀ (x2_5 : Int32) (k : Int32 → Option (Int32)) (n : Nat) (x3_5 : Int32) (x4_5 : Int32), f_X3_depthBySources_5 Dp S x2_5 k n x3_5 x4_5 = some r → (∀ (x3_5e : Int32), k x3_5e = some r → xb_G X 0 0 (wLo cI y0 y1 y2 y3 Dp Bt Sq se ++ wBd cI b0 b1 b2 b3 b4 b5 T S L J E cp su) [(3, .int x3_5e)] 63 []) → xb_G X 0 0 (wLo cI y0 y1 y2 y3 Dp Bt Sq se ++ wBd cI b0 b1 b2 b3 b4 b5 T S L J E cp su) [(0, .ref y0), (1, .ref b0), (2, .int x2_5), (3, .int x3_5), (4, .int x4_5)] 5 [] := by
    intro x2_5 k n
    induction n with
    | zero => intro x3_5 x4_5 h hk; unfold f_X3_depthBySources_5 at h; cases h
    | succ n ih =>
      intro x3_5 x4_5 h hk
      unfold f_X3_depthBySources_5 at h
      refine xi_iload C dX3_depthBySources_5 4 rfl ?_
      refine xi_iconst (v := 3) C dX3_depthBySources_7 (by decide) ?_
      refine xi_icmp_ge (tgt := 63) C dX3_depthBySources_8 (by decide) (fun c1 => ?_) (fun c1 => ?_)
      · have h := it_i c1 h
        exact xb_lv (hk x3_5 h) [3] rfl
      · have h := ie_i c1 h
        refine xi_aload_n C dX3_depthBySources_11 rfl 1 rfl ?_
        refine xi_iload_n C dX3_depthBySources_12 rfl 2 rfl ?_
        refine xi_iconst (v := 3) C dX3_depthBySources_13 (by decide) ?_
        refine xi_imul C dX3_depthBySources_14 ?_
        refine xi_iload C dX3_depthBySources_15 4 rfl ?_
        refine xi_iadd C dX3_depthBySources_17 ?_
        obtain ⟨v2, e3, h⟩ := ob_i h
        refine xi_callV (As := [.int ((x2_5 * 3) + x4_5)]) (o := some (.int v2)) (rest := []) (w2 := (wLo cI y0 y1 y2 y3 Dp Bt Sq se ++ wBd cI b0 b1 b2 b3 b4 b5 T S L J E cp su)) (st2 := [.int v2]) C k_X0_sourceOf (m_X0_sourceOf D cI cC cZ cR b0 b1 b2 b3 b4 b5 T S L J E cp su ((x2_5 * 3) + x4_5) v2 e3) gX3_depthBySources_X0_sourceOf dX3_depthBySources_18 ⟨Nat.le_of_ble_eq_true rfl, Nat.le_of_ble_eq_true rfl, Nat.le_of_ble_eq_true rfl⟩ 4 rfl rfl [4, 5, 6, 7, 8, 9] rfl rfl [0, 1, 2, 3] rfl rfl (xb_mixq [0, 1, 2, 3] 10 rfl rfl rfl rfl (xb_smc rfl rfl (xb_smc rfl rfl (xb_smc rfl rfl (xb_smc rfl rfl xb_smn)))) (by decide +kernel) (by decide +kernel)) rfl (Nat.le_of_ble_eq_true rfl) ⟨Nat.zero_le _, Nat.zero_le _⟩ rfl ?_
        refine xi_istore (lv2 := [(0, .ref y0), (1, .ref b0), (2, .int x2_5), (3, .int x3_5), (4, .int x4_5), (5, .int v2)]) C dX3_depthBySources_21 (by decide) [0, 1, 2, 3, 4] [1, 2, 3, 4, 5, 0] rfl ?_
        refine xi_iload C dX3_depthBySources_23 5 rfl ?_
        obtain ⟨v4, e5, h⟩ := ob_i h
        refine xi_callSN (As := [.int v2]) (o := some (.int v4)) (rest := []) (w2 := (wLo cI y0 y1 y2 y3 Dp Bt Sq se ++ wBd cI b0 b1 b2 b3 b4 b5 T S L J E cp su)) (st2 := [.int v4]) C k_X5_isPlace (m_X5_isPlace D cI cC cZ cR v2 v4 e5) gX3_depthBySources_X5_isPlace_n49 (List.mem_of_getElem? (i := 11) rfl) (List.mem_of_getElem? (i := 13) rfl) (List.mem_of_getElem? (i := 15) rfl) dX3_depthBySources_25 ⟨Nat.le_of_ble_eq_true rfl, Nat.le_of_ble_eq_true rfl, Nat.le_of_ble_eq_true rfl⟩ [] rfl rfl [0, 1, 2, 3] rfl rfl rfl rfl (Nat.le_of_ble_eq_true rfl) ⟨Nat.zero_le _, Nat.zero_le _⟩ rfl ?_
        refine xi_if_eq (tgt := 57) C dX3_depthBySources_28 (by decide) (fun c6 => ?_) (fun c6 => ?_)
        · have h := it_i c6 h
          refine xi_iinc (v := x4_5 + 1) (lv2 := [(0, .ref y0), (1, .ref b0), (2, .int x2_5), (3, .int x3_5), (4, .int (x4_5 + 1)), (5, .int v2)]) C dX3_depthBySources_57 4 rfl (by rfl) (by decide) [0, 1, 2, 3, 5] [1, 2, 3, 4, 0, 5] rfl ?_
          refine xi_goto (tgt := 5) C dX3_depthBySources_60 (by decide) ?_
          exact xb_lv (ih x3_5 (x4_5 + 1) h hk) [0, 1, 2, 3, 4] rfl
        · have h := ie_i c6 h
          refine xi_aload_n C dX3_depthBySources_31 rfl 0 rfl ?_
          refine xi_get C dX3_depthBySources_32 iw_X3_depthBySources_3 0 rfl rfl 0 (by decide) fl_X3_depthBySources_9 rfl ?_
          refine xi_iload C dX3_depthBySources_35 5 rfl ?_
          obtain ⟨v7, e8, h⟩ := ob_i h
          refine xi_iald C dX3_depthBySources_37 1 0 rfl rfl e8 ?_
          refine xi_if_ne (tgt := 43) C dX3_depthBySources_38 (by decide) (fun c9 => ?_) (fun c9 => ?_)
          · have h := ie_i c9 h
            refine xi_iload_n C dX3_depthBySources_43 rfl 3 rfl ?_
            refine xi_aload_n C dX3_depthBySources_44 rfl 0 rfl ?_
            refine xi_get C dX3_depthBySources_45 iw_X3_depthBySources_3 0 rfl rfl 0 (by decide) fl_X3_depthBySources_9 rfl ?_
            refine xi_iload C dX3_depthBySources_48 5 rfl ?_
            obtain ⟨v10, e11, h⟩ := ob_i h
            refine xi_iald C dX3_depthBySources_50 1 0 rfl rfl e11 ?_
            refine xi_iconst (v := 1) C dX3_depthBySources_51 (by decide) ?_
            refine xi_iadd C dX3_depthBySources_52 ?_
            obtain ⟨v12, e13, h⟩ := ob_i h
            refine xi_mmax C dX3_depthBySources_53 (List.mem_of_getElem? (i := 2) rfl) (List.mem_of_getElem? (i := 3) rfl) (List.mem_of_getElem? (i := 4) rfl) (List.mem_of_getElem? (i := 5) rfl) (Nat.le_of_ble_eq_true rfl) (Nat.le_of_ble_eq_true rfl) ⟨Nat.zero_le _, Nat.zero_le _⟩ e13 ?_
            refine xi_istore_n (lv2 := [(0, .ref y0), (1, .ref b0), (2, .int x2_5), (3, .int v12), (4, .int x4_5), (5, .int v2)]) C dX3_depthBySources_56 rfl (by decide) [0, 1, 2, 4, 5] [1, 2, 3, 0, 4, 5] rfl ?_
            refine xi_iinc (v := x4_5 + 1) (lv2 := [(0, .ref y0), (1, .ref b0), (2, .int x2_5), (3, .int v12), (4, .int (x4_5 + 1)), (5, .int v2)]) C dX3_depthBySources_57 4 rfl (by rfl) (by decide) [0, 1, 2, 3, 5] [1, 2, 3, 4, 0, 5] rfl ?_
            refine xi_goto (tgt := 5) C dX3_depthBySources_60 (by decide) ?_
            exact xb_lv (ih v12 (x4_5 + 1) h hk) [0, 1, 2, 3, 4] rfl
          · have h := it_i c9 h
            refine xi_iconst (v := 0) C dX3_depthBySources_41 (by decide) ?_
            have w0 := Option.some.inj h
            subst w0
            exact xi_iret C Z dX3_depthBySources_42
  unfold f_X3_depthBySources at h
  refine xi_iconst (v := 1) C dX3_depthBySources_0 (by decide) ?_
  refine xi_istore_n (lv2 := [(0, .ref y0), (1, .ref b0), (2, .int p2), (3, .int 1)]) C dX3_depthBySources_1 rfl (by decide) [0, 1, 2] [1, 2, 3, 0] rfl ?_
  refine xi_iconst (v := 0) C dX3_depthBySources_2 (by decide) ?_
  refine xi_istore (lv2 := [(0, .ref y0), (1, .ref b0), (2, .int p2), (3, .int 1), (4, .int 0)]) C dX3_depthBySources_3 (by decide) [0, 1, 2, 3] [1, 2, 3, 4, 0] rfl ?_
  refine xb_lv (lp5 p2 _ xFu 1 0 h (fun x3z14 h => ?_)) [0, 1, 2, 3, 4] rfl
  refine xi_iload_n C dX3_depthBySources_63 rfl 0 rfl ?_
  have w0 := Option.some.inj h
  subst w0
  exact xi_iret C Z dX3_depthBySources_64
def f_X3_settleSome_7 (T : Nat → Int32) (S : Nat → Int32) (k : (Nat → Int32) → (Nat → Int32) → Int32 → Option (Int32 × (Nat → Int32) × (Nat → Int32) × Int32)) : Nat → Int32 → (Nat → Int32) → (Nat → Int32) → Int32 → Option (Int32 × (Nat → Int32) × (Nat → Int32) × Int32)
  | 0, _, _, _, _ => none
  | n + 1, x3_7, Dp_7, Sq_7, se_7 =>
    if 24 ≤ x3_7 then
      k Dp_7 Sq_7 se_7
    else
      (f_X0_hasCell T x3_7).bind fun v2 =>
      if v2 = 0 then
        f_X3_settleSome_7 T S k n (x3_7 + 1) Dp_7 Sq_7 se_7
      else
        (xr_d Dp_7 24 x3_7).bind fun v6 =>
        if v6 = 0 then
          (f_X3_depthBySources Dp_7 S x3_7).bind fun v10 =>
          if v10 ≤ 0 then
            f_X3_settleSome_7 T S k n (x3_7 + 1) Dp_7 Sq_7 se_7
          else
            if 24 ≤ se_7 then
              f_X3_settleSome_7 T S k n (x3_7 + 1) Dp_7 Sq_7 se_7
            else
              (xr_w Dp_7 24 x3_7 v10).bind fun Dp15 =>
              (xr_w Sq_7 24 se_7 x3_7).bind fun Sq17 =>
              f_X3_settleSome_7 T S k n (x3_7 + 1) Dp15 Sq17 (se_7 + 1)
        else
          f_X3_settleSome_7 T S k n (x3_7 + 1) Dp_7 Sq_7 se_7
def f_X3_settleSome (Dp : Nat → Int32) (Sq : Nat → Int32) (se : Int32) (T : Nat → Int32) (S : Nat → Int32) : Option (Int32 × (Nat → Int32) × (Nat → Int32) × Int32) :=
  f_X3_settleSome_7 T S (fun Dpz18 Sqz18 sez18 =>
    if sez18 ≤ se then
      some (0, Dpz18, Sqz18, sez18)
    else
      some (1, Dpz18, Sqz18, sez18)) xFu 0 Dp Sq se
theorem k_X3_settleSome : xb_Y yX3_settleSome cX3_settleSome wsX3_settleSome 5 (some .boolean) { frames := 3, cells := 0, slots := 0, locals := 66 } 1 := ⟨⟨_, rfl⟩, by decide, ⟨by decide, by decide, by decide +kernel⟩, rfl, rfl⟩
theorem fl_X3_settleSome_9 : Cond.fieldLink RX3 9 "LookupBoard$Logic" "depths" "[I" ∈ wsX3_settleSome := List.mem_of_getElem? (i := 2) rfl
theorem fl_X3_settleSome_18 : Cond.fieldLink RX3 18 "LookupBoard$Logic" "sequence" "[I" ∈ wsX3_settleSome := List.mem_of_getElem? (i := 3) rfl
theorem fl_X3_settleSome_21 : Cond.fieldLink RX3 21 "LookupBoard$Logic" "settled" "I" ∈ wsX3_settleSome := List.mem_of_getElem? (i := 1) rfl
theorem iw_X3_settleSome_3 : ∀ w ∈ wsX30, w ∈ wsX3_settleSome := fun w h => List.mem_cons_of_mem _ (List.mem_append_left _ (List.mem_append_right _ h))
set_option maxHeartbeats 4000000 in
set_option maxRecDepth 100000 in
theorem m_X3_settleSome (D : va_G) (cI cC cZ cR : ClassId) (y0 y1 y2 y3 : Nat) (b0 b1 b2 b3 b4 b5 : Nat) (Dp : Nat → Int32) (Bt : Nat → Int32) (Sq : Nat → Int32) (se : Int32) (T : Nat → Int32) (S : Nat → Int32) (L : Nat → Int32) (J : Nat → Int32) (E : Nat → Int32) (cp : Int32) (su : Int32) (r : Int32) (Dp' : Nat → Int32) (Sq' : Nat → Int32) (se' : Int32) (h : f_X3_settleSome Dp Sq se T S = some (r, Dp', Sq', se')) : xb_M cX3_settleSome wsX3_settleSome RX3 { frames := 3, cells := 0, slots := 0, locals := 66 } (some .boolean) 5 (xb_ty cI cC cZ cR) D [.ref y0, .ref b0] (wLo cI y0 y1 y2 y3 Dp Bt Sq se ++ wBd cI b0 b1 b2 b3 b4 b5 T S L J E cp su) (some (.int r)) (wLo cI y0 y1 y2 y3 Dp' Bt Sq' se' ++ wBd cI b0 b1 b2 b3 b4 b5 T S L J E cp su) := by
  intro X C Z
  show xb_G X 0 0 (wLo cI y0 y1 y2 y3 Dp Bt Sq se ++ wBd cI b0 b1 b2 b3 b4 b5 T S L J E cp su) [(0, .ref y0), (1, .ref b0)] 0 []
  have lp7 : ∀ (x2_7 : Int32) (k : (Nat → Int32) → (Nat → Int32) → Int32 → Option (Int32 × (Nat → Int32) × (Nat → Int32) × Int32)) (n : Nat) (x3_7 : Int32) (Dp_7 : Nat → Int32) (Sq_7 : Nat → Int32) (se_7 : Int32), f_X3_settleSome_7 T S k n x3_7 Dp_7 Sq_7 se_7 = some (r, Dp', Sq', se') → (∀ (Dp_7e : Nat → Int32) (Sq_7e : Nat → Int32) (se_7e : Int32), k Dp_7e Sq_7e se_7e = some (r, Dp', Sq', se') → xb_G X 0 0 (wLo cI y0 y1 y2 y3 Dp_7e Bt Sq_7e se_7e ++ wBd cI b0 b1 b2 b3 b4 b5 T S L J E cp su) [(0, .ref y0), (2, .int x2_7)] 93 []) → xb_G X 0 0 (wLo cI y0 y1 y2 y3 Dp_7 Bt Sq_7 se_7 ++ wBd cI b0 b1 b2 b3 b4 b5 T S L J E cp su) [(0, .ref y0), (1, .ref b0), (2, .int x2_7), (3, .int x3_7)] 7 [] := by
    intro x2_7 k n
    induction n with
    | zero => intro x3_7 Dp_7 Sq_7 se_7 h hk; unfold f_X3_settleSome_7 at h; cases h
    | succ n ih =>
      intro x3_7 Dp_7 Sq_7 se_7 h hk
      unfold f_X3_settleSome_7 at h
      refine xi_iload_n C dX3_settleSome_7 rfl 3 rfl ?_
      refine xi_bipush (v := 24) C dX3_settleSome_8 (by decide) ?_
      refine xi_icmp_ge (tgt := 93) C dX3_settleSome_10 (by decide) (fun c1 => ?_) (fun c1 => ?_)
      · have h := it_i c1 h
        exact xb_lv (hk Dp_7 Sq_7 se_7 h) [0, 2] rfl
      · have h := ie_i c1 h
        refine xi_aload_n C dX3_settleSome_13 rfl 1 rfl ?_
        refine xi_iload_n C dX3_settleSome_14 rfl 3 rfl ?_
        obtain ⟨v2, e3, h⟩ := ob_i h
        refine xi_callV (As := [.int x3_7]) (o := some (.int v2)) (rest := []) (w2 := (wLo cI y0 y1 y2 y3 Dp_7 Bt Sq_7 se_7 ++ wBd cI b0 b1 b2 b3 b4 b5 T S L J E cp su)) (st2 := [.int v2]) C k_X0_hasCell (m_X0_hasCell D cI cC cZ cR b0 b1 b2 b3 b4 b5 T S L J E cp su x3_7 v2 e3) gX3_settleSome_X0_hasCell dX3_settleSome_15 ⟨Nat.le_of_ble_eq_true rfl, Nat.le_of_ble_eq_true rfl, Nat.le_of_ble_eq_true rfl⟩ 4 rfl rfl [4, 5, 6, 7, 8, 9] rfl rfl [0, 1, 2, 3] rfl rfl (xb_mixq [0, 1, 2, 3] 10 rfl rfl rfl rfl (xb_smc rfl rfl (xb_smc rfl rfl (xb_smc rfl rfl (xb_smc rfl rfl xb_smn)))) (by decide +kernel) (by decide +kernel)) rfl (Nat.le_of_ble_eq_true rfl) ⟨Nat.zero_le _, Nat.zero_le _⟩ rfl ?_
        refine xi_if_eq (tgt := 39) C dX3_settleSome_18 (by decide) (fun c4 => ?_) (fun c4 => ?_)
        · have h := it_i c4 h
          refine xi_iconst (v := 0) C dX3_settleSome_39 (by decide) ?_
          refine xi_istore (lv2 := [(0, .ref y0), (1, .ref b0), (2, .int x2_7), (3, .int x3_7), (4, .int 0)]) C dX3_settleSome_40 (by decide) [0, 1, 2, 3] [1, 2, 3, 4, 0] rfl ?_
          refine xi_iload C dX3_settleSome_42 4 rfl ?_
          refine xi_if_le (tgt := 87) C dX3_settleSome_44 (by decide) (fun c5 => ?_) (fun c5 => ?_)
          rotate_left
          · first | exact absurd c5 (by decide) | exact absurd (by decide) c5
          refine xi_iinc (v := x3_7 + 1) (lv2 := [(0, .ref y0), (1, .ref b0), (2, .int x2_7), (3, .int (x3_7 + 1)), (4, .int 0)]) C dX3_settleSome_87 3 rfl (by rfl) (by decide) [0, 1, 2, 4] [1, 2, 3, 0, 4] rfl ?_
          refine xi_goto (tgt := 7) C dX3_settleSome_90 (by decide) ?_
          exact xb_lv (ih (x3_7 + 1) Dp_7 Sq_7 se_7 h hk) [0, 1, 2, 3] rfl
        · have h := ie_i c4 h
          refine xi_aload_n C dX3_settleSome_21 rfl 0 rfl ?_
          refine xi_get C dX3_settleSome_22 iw_X3_settleSome_3 0 rfl rfl 0 (by decide) fl_X3_settleSome_9 rfl ?_
          refine xi_iload_n C dX3_settleSome_25 rfl 3 rfl ?_
          obtain ⟨v6, e7, h⟩ := ob_i h
          refine xi_iald C dX3_settleSome_26 1 0 rfl rfl e7 ?_
          refine xi_if_ne (tgt := 39) C dX3_settleSome_27 (by decide) (fun c8 => ?_) (fun c8 => ?_)
          · have h := ie_i c8 h
            refine xi_iconst (v := 0) C dX3_settleSome_39 (by decide) ?_
            refine xi_istore (lv2 := [(0, .ref y0), (1, .ref b0), (2, .int x2_7), (3, .int x3_7), (4, .int 0)]) C dX3_settleSome_40 (by decide) [0, 1, 2, 3] [1, 2, 3, 4, 0] rfl ?_
            refine xi_iload C dX3_settleSome_42 4 rfl ?_
            refine xi_if_le (tgt := 87) C dX3_settleSome_44 (by decide) (fun c9 => ?_) (fun c9 => ?_)
            rotate_left
            · first | exact absurd c9 (by decide) | exact absurd (by decide) c9
            refine xi_iinc (v := x3_7 + 1) (lv2 := [(0, .ref y0), (1, .ref b0), (2, .int x2_7), (3, .int (x3_7 + 1)), (4, .int 0)]) C dX3_settleSome_87 3 rfl (by rfl) (by decide) [0, 1, 2, 4] [1, 2, 3, 0, 4] rfl ?_
            refine xi_goto (tgt := 7) C dX3_settleSome_90 (by decide) ?_
            exact xb_lv (ih (x3_7 + 1) Dp_7 Sq_7 se_7 h hk) [0, 1, 2, 3] rfl
          · have h := it_i c8 h
            refine xi_aload_n C dX3_settleSome_30 rfl 0 rfl ?_
            refine xi_aload_n C dX3_settleSome_31 rfl 1 rfl ?_
            refine xi_iload_n C dX3_settleSome_32 rfl 3 rfl ?_
            obtain ⟨v10, e11, h⟩ := ob_i h
            refine xi_callV (As := [.ref b0, .int x3_7]) (o := some (.int v10)) (rest := []) (w2 := (wLo cI y0 y1 y2 y3 Dp_7 Bt Sq_7 se_7 ++ wBd cI b0 b1 b2 b3 b4 b5 T S L J E cp su)) (st2 := [.int v10]) C k_X3_depthBySources (m_X3_depthBySources D cI cC cZ cR y0 y1 y2 y3 b0 b1 b2 b3 b4 b5 Dp_7 Bt Sq_7 se_7 T S L J E cp su x3_7 v10 e11) gX3_settleSome_X3_depthBySources dX3_settleSome_33 ⟨Nat.le_of_ble_eq_true rfl, Nat.le_of_ble_eq_true rfl, Nat.le_of_ble_eq_true rfl⟩ 0 rfl rfl [0, 1, 2, 3, 4, 5, 6, 7, 8, 9] rfl rfl [0, 1, 2, 3] rfl rfl (xb_mixq [] 10 rfl rfl rfl rfl xb_smn (by decide +kernel) (by decide +kernel)) rfl (Nat.le_of_ble_eq_true rfl) ⟨Nat.zero_le _, Nat.zero_le _⟩ rfl ?_
            refine xi_goto (tgt := 40) C dX3_settleSome_36 (by decide) ?_
            refine xi_istore (lv2 := [(0, .ref y0), (1, .ref b0), (2, .int x2_7), (3, .int x3_7), (4, .int v10)]) C dX3_settleSome_40 (by decide) [0, 1, 2, 3] [1, 2, 3, 4, 0] rfl ?_
            refine xi_iload C dX3_settleSome_42 4 rfl ?_
            refine xi_if_le (tgt := 87) C dX3_settleSome_44 (by decide) (fun c12 => ?_) (fun c12 => ?_)
            · have h := it_i c12 h
              refine xi_iinc (v := x3_7 + 1) (lv2 := [(0, .ref y0), (1, .ref b0), (2, .int x2_7), (3, .int (x3_7 + 1)), (4, .int v10)]) C dX3_settleSome_87 3 rfl (by rfl) (by decide) [0, 1, 2, 4] [1, 2, 3, 0, 4] rfl ?_
              refine xi_goto (tgt := 7) C dX3_settleSome_90 (by decide) ?_
              exact xb_lv (ih (x3_7 + 1) Dp_7 Sq_7 se_7 h hk) [0, 1, 2, 3] rfl
            · have h := ie_i c12 h
              refine xi_aload_n C dX3_settleSome_47 rfl 0 rfl ?_
              refine xi_get C dX3_settleSome_48 iw_X3_settleSome_3 0 rfl rfl 3 (by decide) fl_X3_settleSome_21 rfl ?_
              refine xi_aload_n C dX3_settleSome_51 rfl 0 rfl ?_
              refine xi_get C dX3_settleSome_52 iw_X3_settleSome_3 0 rfl rfl 2 (by decide) fl_X3_settleSome_18 rfl ?_
              refine xi_alen (v := 24) C dX3_settleSome_55 3 0 rfl rfl rfl ?_
              refine xi_icmp_ge (tgt := 87) C dX3_settleSome_56 (by decide) (fun c13 => ?_) (fun c13 => ?_)
              · have h := it_i c13 h
                refine xi_iinc (v := x3_7 + 1) (lv2 := [(0, .ref y0), (1, .ref b0), (2, .int x2_7), (3, .int (x3_7 + 1)), (4, .int v10)]) C dX3_settleSome_87 3 rfl (by rfl) (by decide) [0, 1, 2, 4] [1, 2, 3, 0, 4] rfl ?_
                refine xi_goto (tgt := 7) C dX3_settleSome_90 (by decide) ?_
                exact xb_lv (ih (x3_7 + 1) Dp_7 Sq_7 se_7 h hk) [0, 1, 2, 3] rfl
              · have h := ie_i c13 h
                refine xi_aload_n C dX3_settleSome_59 rfl 0 rfl ?_
                refine xi_get C dX3_settleSome_60 iw_X3_settleSome_3 0 rfl rfl 0 (by decide) fl_X3_settleSome_9 rfl ?_
                refine xi_iload_n C dX3_settleSome_63 rfl 3 rfl ?_
                refine xi_iload C dX3_settleSome_64 4 rfl ?_
                obtain ⟨Dp15, e14, h⟩ := ob_i h
                refine xi_iast (w2 := (wLo cI y0 y1 y2 y3 Dp15 Bt Sq_7 se_7 ++ wBd cI b0 b1 b2 b3 b4 b5 T S L J E cp su)) C dX3_settleSome_66 1 0 rfl rfl e14 rfl ?_
                refine xi_aload_n C dX3_settleSome_67 rfl 0 rfl ?_
                refine xi_get C dX3_settleSome_68 iw_X3_settleSome_3 0 rfl rfl 2 (by decide) fl_X3_settleSome_18 rfl ?_
                refine xi_aload_n C dX3_settleSome_71 rfl 0 rfl ?_
                refine xi_get C dX3_settleSome_72 iw_X3_settleSome_3 0 rfl rfl 3 (by decide) fl_X3_settleSome_21 rfl ?_
                refine xi_iload_n C dX3_settleSome_75 rfl 3 rfl ?_
                obtain ⟨Sq17, e16, h⟩ := ob_i h
                refine xi_iast (w2 := (wLo cI y0 y1 y2 y3 Dp15 Bt Sq17 se_7 ++ wBd cI b0 b1 b2 b3 b4 b5 T S L J E cp su)) C dX3_settleSome_76 3 0 rfl rfl e16 rfl ?_
                refine xi_aload_n C dX3_settleSome_77 rfl 0 rfl ?_
                refine xi_dup C dX3_settleSome_78 rfl ?_
                refine xi_get C dX3_settleSome_79 iw_X3_settleSome_3 0 rfl rfl 3 (by decide) fl_X3_settleSome_21 rfl ?_
                refine xi_iconst (v := 1) C dX3_settleSome_82 (by decide) ?_
                refine xi_iadd C dX3_settleSome_83 ?_
                refine xi_put (ty := .int) (w2 := (wLo cI y0 y1 y2 y3 Dp15 Bt Sq17 (se_7 + 1) ++ wBd cI b0 b1 b2 b3 b4 b5 T S L J E cp su)) C dX3_settleSome_84 iw_X3_settleSome_3 tyX3 tyX3_ok nmX3 0 rfl rfl 3 (by decide) fl_X3_settleSome_21 rfl (by decide +kernel) (by rfl) (by rfl) (Nat.le_of_ble_eq_true rfl) rfl ?_
                refine xi_iinc (v := x3_7 + 1) (lv2 := [(0, .ref y0), (1, .ref b0), (2, .int x2_7), (3, .int (x3_7 + 1)), (4, .int v10)]) C dX3_settleSome_87 3 rfl (by rfl) (by decide) [0, 1, 2, 4] [1, 2, 3, 0, 4] rfl ?_
                refine xi_goto (tgt := 7) C dX3_settleSome_90 (by decide) ?_
                exact xb_lv (ih (x3_7 + 1) Dp15 Sq17 (se_7 + 1) h hk) [0, 1, 2, 3] rfl
  unfold f_X3_settleSome at h
  refine xi_aload_n C dX3_settleSome_0 rfl 0 rfl ?_
  refine xi_get C dX3_settleSome_1 iw_X3_settleSome_3 0 rfl rfl 3 (by decide) fl_X3_settleSome_21 rfl ?_
  refine xi_istore_n (lv2 := [(0, .ref y0), (1, .ref b0), (2, .int se)]) C dX3_settleSome_4 rfl (by decide) [0, 1] [1, 2, 0] rfl ?_
  refine xi_iconst (v := 0) C dX3_settleSome_5 (by decide) ?_
  refine xi_istore_n (lv2 := [(0, .ref y0), (1, .ref b0), (2, .int se), (3, .int 0)]) C dX3_settleSome_6 rfl (by decide) [0, 1, 2] [1, 2, 3, 0] rfl ?_
  refine xb_lv (lp7 se _ xFu 0 Dp Sq se h (fun Dpz18 Sqz18 sez18 h => ?_)) [0, 1, 2, 3] rfl
  refine xi_aload_n C dX3_settleSome_93 rfl 0 rfl ?_
  refine xi_get C dX3_settleSome_94 iw_X3_settleSome_3 0 rfl rfl 3 (by decide) fl_X3_settleSome_21 rfl ?_
  refine xi_iload_n C dX3_settleSome_97 rfl 1 rfl ?_
  refine xi_icmp_le (tgt := 105) C dX3_settleSome_98 (by decide) (fun c19 => ?_) (fun c19 => ?_)
  · have h := it_i c19 h
    refine xi_iconst (v := 0) C dX3_settleSome_105 (by decide) ?_
    have w0 := Option.some.inj h
    obtain ⟨q0, w1⟩ := Prod.mk.inj w0
    obtain ⟨q1, w2⟩ := Prod.mk.inj w1
    obtain ⟨q2, w3⟩ := Prod.mk.inj w2
    subst q0
    subst q1
    subst q2
    subst w3
    exact xi_zret C Z dX3_settleSome_106 xb_nz0
  · have h := ie_i c19 h
    refine xi_iconst (v := 1) C dX3_settleSome_101 (by decide) ?_
    refine xi_goto (tgt := 106) C dX3_settleSome_102 (by decide) ?_
    have w0 := Option.some.inj h
    obtain ⟨q0, w1⟩ := Prod.mk.inj w0
    obtain ⟨q1, w2⟩ := Prod.mk.inj w1
    obtain ⟨q2, w3⟩ := Prod.mk.inj w2
    subst q0
    subst q1
    subst q2
    subst w3
    exact xi_zret C Z dX3_settleSome_106 xb_nz1
def f_X3_study_17 (T : Nat → Int32) (S : Nat → Int32) (k : (Nat → Int32) → (Nat → Int32) → Int32 → Option ((Nat → Int32) × (Nat → Int32) × Int32)) : Nat → Int32 → Int32 → (Nat → Int32) → (Nat → Int32) → Int32 → Option ((Nat → Int32) × (Nat → Int32) × Int32)
  | 0, _, _, _, _, _ => none
  | n + 1, x2_17, x3_17, Dp_17, Sq_17, se_17 =>
    if 24 ≤ x3_17 then
      k Dp_17 Sq_17 se_17
    else
      if x2_17 = 0 then
        k Dp_17 Sq_17 se_17
      else
        (f_X3_settleSome Dp_17 Sq_17 se_17 T S).bind fun (v5, Dp6, Sq7, se8) =>
        f_X3_study_17 T S k n v5 (x3_17 + 1) Dp6 Sq7 se8
def f_X3_study (Dp : Nat → Int32) (Sq : Nat → Int32) (se : Int32) (T : Nat → Int32) (S : Nat → Int32) : Option ((Nat → Int32) × (Nat → Int32) × Int32) :=
  (f_J7_fill_53178 24 Dp 0).bind fun f1 =>
  f_X3_study_17 T S (fun Dpz10 Sqz10 sez10 =>
    some (Dpz10, Sqz10, sez10)) xFu 1 0 f1 Sq 0
theorem k_X3_study : xb_Y yX3_study cX3_study wsX3_study 4 none { frames := 4, cells := 0, slots := 0, locals := 90 } 1 := ⟨⟨_, rfl⟩, by decide, ⟨by decide, by decide, by decide +kernel⟩, rfl, rfl⟩
theorem fl_X3_study_9 : Cond.fieldLink RX3 9 "LookupBoard$Logic" "depths" "[I" ∈ wsX3_study := List.mem_of_getElem? (i := 1) rfl
theorem fl_X3_study_21 : Cond.fieldLink RX3 21 "LookupBoard$Logic" "settled" "I" ∈ wsX3_study := List.mem_of_getElem? (i := 2) rfl
theorem iw_X3_study_3 : ∀ w ∈ wsX30, w ∈ wsX3_study := fun w h => List.mem_cons_of_mem _ (List.mem_append_left _ (List.mem_append_right _ h))
set_option maxHeartbeats 4000000 in
set_option maxRecDepth 100000 in
theorem m_X3_study (D : va_G) (cI cC cZ cR : ClassId) (y0 y1 y2 y3 : Nat) (b0 b1 b2 b3 b4 b5 : Nat) (Dp : Nat → Int32) (Bt : Nat → Int32) (Sq : Nat → Int32) (se : Int32) (T : Nat → Int32) (S : Nat → Int32) (L : Nat → Int32) (J : Nat → Int32) (E : Nat → Int32) (cp : Int32) (su : Int32) (Dp' : Nat → Int32) (Sq' : Nat → Int32) (se' : Int32) (h : f_X3_study Dp Sq se T S = some (Dp', Sq', se')) : xb_M cX3_study wsX3_study RX3 { frames := 4, cells := 0, slots := 0, locals := 90 } none 4 (xb_ty cI cC cZ cR) D [.ref y0, .ref b0] (wLo cI y0 y1 y2 y3 Dp Bt Sq se ++ wBd cI b0 b1 b2 b3 b4 b5 T S L J E cp su) none (wLo cI y0 y1 y2 y3 Dp' Bt Sq' se' ++ wBd cI b0 b1 b2 b3 b4 b5 T S L J E cp su) := by
  intro X C Z
  show xb_G X 0 0 (wLo cI y0 y1 y2 y3 Dp Bt Sq se ++ wBd cI b0 b1 b2 b3 b4 b5 T S L J E cp su) [(0, .ref y0), (1, .ref b0)] 0 []
  have lp17 : ∀ (k : (Nat → Int32) → (Nat → Int32) → Int32 → Option ((Nat → Int32) × (Nat → Int32) × Int32)) (n : Nat) (x2_17 : Int32) (x3_17 : Int32) (Dp_17 : Nat → Int32) (Sq_17 : Nat → Int32) (se_17 : Int32), f_X3_study_17 T S k n x2_17 x3_17 Dp_17 Sq_17 se_17 = some (Dp', Sq', se') → (∀ (Dp_17e : Nat → Int32) (Sq_17e : Nat → Int32) (se_17e : Int32), k Dp_17e Sq_17e se_17e = some (Dp', Sq', se') → xb_G X 0 0 (wLo cI y0 y1 y2 y3 Dp_17e Bt Sq_17e se_17e ++ wBd cI b0 b1 b2 b3 b4 b5 T S L J E cp su) [] 39 []) → xb_G X 0 0 (wLo cI y0 y1 y2 y3 Dp_17 Bt Sq_17 se_17 ++ wBd cI b0 b1 b2 b3 b4 b5 T S L J E cp su) [(0, .ref y0), (1, .ref b0), (2, .int x2_17), (3, .int x3_17)] 17 [] := by
    intro k n
    induction n with
    | zero => intro x2_17 x3_17 Dp_17 Sq_17 se_17 h hk; unfold f_X3_study_17 at h; cases h
    | succ n ih =>
      intro x2_17 x3_17 Dp_17 Sq_17 se_17 h hk
      unfold f_X3_study_17 at h
      refine xi_iload_n C dX3_study_17 rfl 3 rfl ?_
      refine xi_bipush (v := 24) C dX3_study_18 (by decide) ?_
      refine xi_icmp_ge (tgt := 39) C dX3_study_20 (by decide) (fun c3 => ?_) (fun c3 => ?_)
      · have h := it_i c3 h
        exact xb_lv (hk Dp_17 Sq_17 se_17 h) [] rfl
      · have h := ie_i c3 h
        refine xi_iload_n C dX3_study_23 rfl 2 rfl ?_
        refine xi_if_eq (tgt := 39) C dX3_study_24 (by decide) (fun c4 => ?_) (fun c4 => ?_)
        · have h := it_i c4 h
          exact xb_lv (hk Dp_17 Sq_17 se_17 h) [] rfl
        · have h := ie_i c4 h
          refine xi_aload_n C dX3_study_27 rfl 0 rfl ?_
          refine xi_aload_n C dX3_study_28 rfl 1 rfl ?_
          obtain ⟨⟨v5, Dp6, Sq7, se8⟩, e9, h⟩ := ob_i h
          refine xi_callV (As := [.ref b0]) (o := some (.int v5)) (rest := []) (w2 := (wLo cI y0 y1 y2 y3 Dp6 Bt Sq7 se8 ++ wBd cI b0 b1 b2 b3 b4 b5 T S L J E cp su)) (st2 := [.int v5]) C k_X3_settleSome (m_X3_settleSome D cI cC cZ cR y0 y1 y2 y3 b0 b1 b2 b3 b4 b5 Dp_17 Bt Sq_17 se_17 T S L J E cp su v5 Dp6 Sq7 se8 e9) gX3_study_X3_settleSome dX3_study_29 ⟨Nat.le_of_ble_eq_true rfl, Nat.le_of_ble_eq_true rfl, Nat.le_of_ble_eq_true rfl⟩ 0 rfl rfl [0, 1, 2, 3, 4, 5, 6, 7, 8, 9] rfl rfl [0, 1, 2, 3] rfl rfl (xb_mixq [] 10 rfl rfl rfl rfl xb_smn (by decide +kernel) (by decide +kernel)) rfl (Nat.le_of_ble_eq_true rfl) ⟨Nat.zero_le _, Nat.zero_le _⟩ rfl ?_
          refine xi_istore_n (lv2 := [(0, .ref y0), (1, .ref b0), (2, .int v5), (3, .int x3_17)]) C dX3_study_32 rfl (by decide) [0, 1, 3] [1, 2, 0, 3] rfl ?_
          refine xi_iinc (v := x3_17 + 1) (lv2 := [(0, .ref y0), (1, .ref b0), (2, .int v5), (3, .int (x3_17 + 1))]) C dX3_study_33 3 rfl (by rfl) (by decide) [0, 1, 2] [1, 2, 3, 0] rfl ?_
          refine xi_goto (tgt := 17) C dX3_study_36 (by decide) ?_
          exact xb_lv (ih v5 (x3_17 + 1) Dp6 Sq7 se8 h hk) [0, 1, 2, 3] rfl
  unfold f_X3_study at h
  refine xi_aload_n C dX3_study_0 rfl 0 rfl ?_
  refine xi_get C dX3_study_1 iw_X3_study_3 0 rfl rfl 0 (by decide) fl_X3_study_9 rfl ?_
  refine xi_iconst (v := 0) C dX3_study_4 (by decide) ?_
  obtain ⟨f1, e2, h⟩ := ob_i h
  refine xi_callS (As := [.ref y1, .int 0]) (o := none) (rest := []) (w2 := (wLo cI y0 y1 y2 y3 f1 Bt Sq se ++ wBd cI b0 b1 b2 b3 b4 b5 T S L J E cp su)) (st2 := []) C k_J7_fill_53178 (m_J7_fill_53178 D cI 24 y1 Dp 0 f1 e2) gX3_study_J7_fill_53178 dX3_study_5 ⟨Nat.le_of_ble_eq_true rfl, Nat.le_of_ble_eq_true rfl, Nat.le_of_ble_eq_true rfl⟩ [1] rfl rfl [0] rfl rfl (xb_mixq [0, 2, 3, 4, 5, 6, 7, 8, 9] 10 rfl rfl rfl rfl (xb_smc rfl rfl (xb_smc rfl rfl (xb_smc rfl rfl (xb_smc rfl rfl (xb_smc rfl rfl (xb_smc rfl rfl (xb_smc rfl rfl (xb_smc rfl rfl (xb_smc rfl rfl xb_smn))))))))) (by decide +kernel) (by decide +kernel)) rfl (Nat.le_of_ble_eq_true rfl) ⟨Nat.zero_le _, Nat.zero_le _⟩ rfl ?_
  refine xi_aload_n C dX3_study_8 rfl 0 rfl ?_
  refine xi_iconst (v := 0) C dX3_study_9 (by decide) ?_
  refine xi_put (ty := .int) (w2 := (wLo cI y0 y1 y2 y3 f1 Bt Sq 0 ++ wBd cI b0 b1 b2 b3 b4 b5 T S L J E cp su)) C dX3_study_10 iw_X3_study_3 tyX3 tyX3_ok nmX3 0 rfl rfl 3 (by decide) fl_X3_study_21 rfl (by decide +kernel) (by rfl) (by rfl) (Nat.le_of_ble_eq_true rfl) rfl ?_
  refine xi_iconst (v := 1) C dX3_study_13 (by decide) ?_
  refine xi_istore_n (lv2 := [(0, .ref y0), (1, .ref b0), (2, .int 1)]) C dX3_study_14 rfl (by decide) [0, 1] [1, 2, 0] rfl ?_
  refine xi_iconst (v := 0) C dX3_study_15 (by decide) ?_
  refine xi_istore_n (lv2 := [(0, .ref y0), (1, .ref b0), (2, .int 1), (3, .int 0)]) C dX3_study_16 rfl (by decide) [0, 1, 2] [1, 2, 3, 0] rfl ?_
  refine xb_lv (lp17 _ xFu 1 0 f1 Sq 0 h (fun Dpz10 Sqz10 sez10 h => ?_)) [0, 1, 2, 3] rfl
  have w0 := Option.some.inj h
  obtain ⟨q0, w1⟩ := Prod.mk.inj w0
  obtain ⟨q1, w2⟩ := Prod.mk.inj w1
  subst q0
  subst q1
  subst w2
  exact xi_ret C Z dX3_study_39
def f_X3_sourceBit (Bt : Nat → Int32) (p1 : Int32) (p2 : Int32) : Option (Int32) :=
  (f_X5_isPlace p1).bind fun v1 =>
  if v1 = 0 then
    if p1 < 24 then
      if p1 = 33 then
        some 1
      else
        some 0
    else
      if 32 ≤ p1 then
        if p1 = 33 then
          some 1
        else
          some 0
      else
        some ((p2 >>> ((p1 - 24) &&& 31)) &&& 1)
  else
    (xr_d Bt 24 p1).bind fun v8 =>
    some v8
theorem k_X3_sourceBit : xb_Y yX3_sourceBit cX3_sourceBit wsX3_sourceBit 3 (some .int) { frames := 1, cells := 0, slots := 0, locals := 20 } 2 := ⟨⟨_, rfl⟩, by decide, ⟨by decide, by decide, by decide +kernel⟩, rfl, rfl⟩
theorem fl_X3_sourceBit_15 : Cond.fieldLink RX3 15 "LookupBoard$Logic" "bits" "[I" ∈ wsX3_sourceBit := List.mem_of_getElem? (i := 1) rfl
theorem iw_X3_sourceBit_3 : ∀ w ∈ wsX30, w ∈ wsX3_sourceBit := fun w h => List.mem_cons_of_mem _ (List.mem_append_right _ h)
set_option maxHeartbeats 4000000 in
set_option maxRecDepth 100000 in
theorem m_X3_sourceBit (D : va_G) (cI cC cZ cR : ClassId) (y0 y1 y2 y3 : Nat) (Dp : Nat → Int32) (Bt : Nat → Int32) (Sq : Nat → Int32) (se : Int32) (p1 : Int32) (p2 : Int32) (r : Int32) (h : f_X3_sourceBit Bt p1 p2 = some r) : xb_M cX3_sourceBit wsX3_sourceBit RX3 { frames := 1, cells := 0, slots := 0, locals := 20 } (some .int) 3 (xb_ty cI cC cZ cR) D [.ref y0, .int p1, .int p2] (wLo cI y0 y1 y2 y3 Dp Bt Sq se) (some (.int r)) (wLo cI y0 y1 y2 y3 Dp Bt Sq se) := by
  intro X C Z
  show xb_G X 0 0 (wLo cI y0 y1 y2 y3 Dp Bt Sq se) [(0, .ref y0), (1, .int p1), (2, .int p2)] 0 []
  unfold f_X3_sourceBit at h
  refine xi_iload_n C dX3_sourceBit_0 rfl 1 rfl ?_
  obtain ⟨v1, e2, h⟩ := ob_i h
  refine xi_callSN (As := [.int p1]) (o := some (.int v1)) (rest := []) (w2 := (wLo cI y0 y1 y2 y3 Dp Bt Sq se)) (st2 := [.int v1]) C k_X5_isPlace (m_X5_isPlace D cI cC cZ cR p1 v1 e2) gX3_sourceBit_X5_isPlace_n49 (List.mem_of_getElem? (i := 11) rfl) (List.mem_of_getElem? (i := 3) rfl) (List.mem_of_getElem? (i := 2) rfl) dX3_sourceBit_1 ⟨Nat.le_of_ble_eq_true rfl, Nat.le_of_ble_eq_true rfl, Nat.le_of_ble_eq_true rfl⟩ [] rfl rfl [0, 1, 2, 3] rfl rfl rfl rfl (Nat.le_of_ble_eq_true rfl) ⟨Nat.zero_le _, Nat.zero_le _⟩ rfl ?_
  refine xi_if_eq (tgt := 14) C dX3_sourceBit_4 (by decide) (fun c3 => ?_) (fun c3 => ?_)
  · have h := it_i c3 h
    refine xi_iload_n C dX3_sourceBit_14 rfl 1 rfl ?_
    refine xi_bipush (v := 24) C dX3_sourceBit_15 (by decide) ?_
    refine xi_icmp_lt (tgt := 35) C dX3_sourceBit_17 (by decide) (fun c4 => ?_) (fun c4 => ?_)
    · have h := it_i c4 h
      refine xi_iload_n C dX3_sourceBit_35 rfl 1 rfl ?_
      refine xi_bipush (v := 33) C dX3_sourceBit_36 (by decide) ?_
      refine xi_icmp_ne (tgt := 45) C dX3_sourceBit_38 (by decide) (fun c5 => ?_) (fun c5 => ?_)
      · have h := ie_i c5 h
        refine xi_iconst (v := 0) C dX3_sourceBit_45 (by decide) ?_
        have w0 := Option.some.inj h
        subst w0
        exact xi_iret C Z dX3_sourceBit_46
      · have h := it_i c5 h
        refine xi_iconst (v := 1) C dX3_sourceBit_41 (by decide) ?_
        refine xi_goto (tgt := 46) C dX3_sourceBit_42 (by decide) ?_
        have w0 := Option.some.inj h
        subst w0
        exact xi_iret C Z dX3_sourceBit_46
    · have h := ie_i c4 h
      refine xi_iload_n C dX3_sourceBit_20 rfl 1 rfl ?_
      refine xi_bipush (v := 32) C dX3_sourceBit_21 (by decide) ?_
      refine xi_icmp_ge (tgt := 35) C dX3_sourceBit_23 (by decide) (fun c6 => ?_) (fun c6 => ?_)
      · have h := it_i c6 h
        refine xi_iload_n C dX3_sourceBit_35 rfl 1 rfl ?_
        refine xi_bipush (v := 33) C dX3_sourceBit_36 (by decide) ?_
        refine xi_icmp_ne (tgt := 45) C dX3_sourceBit_38 (by decide) (fun c7 => ?_) (fun c7 => ?_)
        · have h := ie_i c7 h
          refine xi_iconst (v := 0) C dX3_sourceBit_45 (by decide) ?_
          have w0 := Option.some.inj h
          subst w0
          exact xi_iret C Z dX3_sourceBit_46
        · have h := it_i c7 h
          refine xi_iconst (v := 1) C dX3_sourceBit_41 (by decide) ?_
          refine xi_goto (tgt := 46) C dX3_sourceBit_42 (by decide) ?_
          have w0 := Option.some.inj h
          subst w0
          exact xi_iret C Z dX3_sourceBit_46
      · have h := ie_i c6 h
        refine xi_iload_n C dX3_sourceBit_26 rfl 2 rfl ?_
        refine xi_iload_n C dX3_sourceBit_27 rfl 1 rfl ?_
        refine xi_bipush (v := 24) C dX3_sourceBit_28 (by decide) ?_
        refine xi_isub C dX3_sourceBit_30 ?_
        refine xi_ishr C dX3_sourceBit_31 ?_
        refine xi_iconst (v := 1) C dX3_sourceBit_32 (by decide) ?_
        refine xi_iand C dX3_sourceBit_33 ?_
        have w0 := Option.some.inj h
        subst w0
        exact xi_iret C Z dX3_sourceBit_34
  · have h := ie_i c3 h
    refine xi_aload_n C dX3_sourceBit_7 rfl 0 rfl ?_
    refine xi_get C dX3_sourceBit_8 iw_X3_sourceBit_3 0 rfl rfl 1 (by decide) fl_X3_sourceBit_15 rfl ?_
    refine xi_iload_n C dX3_sourceBit_11 rfl 1 rfl ?_
    obtain ⟨v8, e9, h⟩ := ob_i h
    refine xi_iald C dX3_sourceBit_12 2 0 rfl rfl e9 ?_
    have w0 := Option.some.inj h
    subst w0
    exact xi_iret C Z dX3_sourceBit_13
def f_X3_work_33 (Bt_33 : Nat → Int32) (S : Nat → Int32) (x2_33 : Int32) (x4_33 : Int32) (k : Int32 → Option ((Nat → Int32))) : Nat → Int32 → Int32 → Option ((Nat → Int32))
  | 0, _, _ => none
  | n + 1, x5_33, x6_33 =>
    if 3 ≤ x6_33 then
      k x5_33
    else
      (f_X0_sourceOf S ((x4_33 * 3) + x6_33)).bind fun v6 =>
      (f_X3_sourceBit Bt_33 v6 x2_33).bind fun v8 =>
      f_X3_work_33 Bt_33 S x2_33 x4_33 k n (x5_33 ||| (v8 <<< (x6_33 &&& 31))) (x6_33 + 1)
def f_X3_work_2 (Sq : Nat → Int32) (se : Int32) (T : Nat → Int32) (S : Nat → Int32) (x2_2 : Int32) (k : (Nat → Int32) → Option ((Nat → Int32))) : Nat → Int32 → (Nat → Int32) → Option ((Nat → Int32))
  | 0, _, _ => none
  | n + 1, x3_2, Bt_2 =>
    if se ≤ x3_2 then
      k Bt_2
    else
      if 24 ≤ x3_2 then
        k Bt_2
      else
        (xr_d Sq 24 x3_2).bind fun v3 =>
        f_X3_work_33 Bt_2 S x2_2 v3 (fun x5z10 =>
          (f_X5_isPlace v3).bind fun v11 =>
          if v11 = 0 then
            f_X3_work_2 Sq se T S x2_2 k n (x3_2 + 1) Bt_2
          else
            (f_X0_tableOf T v3).bind fun v14 =>
            (xr_w Bt_2 24 v3 ((v14 >>> (x5z10 &&& 31)) &&& 1)).bind fun Bt17 =>
            f_X3_work_2 Sq se T S x2_2 k n (x3_2 + 1) Bt17) xFu 0 0
def f_X3_work (Bt : Nat → Int32) (Sq : Nat → Int32) (se : Int32) (T : Nat → Int32) (S : Nat → Int32) (p2 : Int32) : Option ((Nat → Int32)) :=
  f_X3_work_2 Sq se T S p2 (fun Btz18 =>
    some Btz18) xFu 0 Bt
theorem k_X3_work : xb_Y yX3_work cX3_work wsX3_work 7 none { frames := 2, cells := 0, slots := 0, locals := 42 } 2 := ⟨⟨_, rfl⟩, by decide, ⟨by decide, by decide, by decide +kernel⟩, rfl, rfl⟩
theorem fl_X3_work_15 : Cond.fieldLink RX3 15 "LookupBoard$Logic" "bits" "[I" ∈ wsX3_work := List.mem_of_getElem? (i := 3) rfl
theorem fl_X3_work_18 : Cond.fieldLink RX3 18 "LookupBoard$Logic" "sequence" "[I" ∈ wsX3_work := List.mem_of_getElem? (i := 2) rfl
theorem fl_X3_work_21 : Cond.fieldLink RX3 21 "LookupBoard$Logic" "settled" "I" ∈ wsX3_work := List.mem_of_getElem? (i := 1) rfl
theorem iw_X3_work_3 : ∀ w ∈ wsX30, w ∈ wsX3_work := fun w h => List.mem_cons_of_mem _ (List.mem_append_left _ (List.mem_append_right _ h))
set_option maxHeartbeats 4000000 in
set_option maxRecDepth 100000 in
theorem m_X3_work (D : va_G) (cI cC cZ cR : ClassId) (y0 y1 y2 y3 : Nat) (b0 b1 b2 b3 b4 b5 : Nat) (Dp : Nat → Int32) (Bt : Nat → Int32) (Sq : Nat → Int32) (se : Int32) (T : Nat → Int32) (S : Nat → Int32) (L : Nat → Int32) (J : Nat → Int32) (E : Nat → Int32) (cp : Int32) (su : Int32) (p2 : Int32) (Bt' : Nat → Int32) (h : f_X3_work Bt Sq se T S p2 = some Bt') : xb_M cX3_work wsX3_work RX3 { frames := 2, cells := 0, slots := 0, locals := 42 } none 7 (xb_ty cI cC cZ cR) D [.ref y0, .ref b0, .int p2] (wLo cI y0 y1 y2 y3 Dp Bt Sq se ++ wBd cI b0 b1 b2 b3 b4 b5 T S L J E cp su) none (wLo cI y0 y1 y2 y3 Dp Bt' Sq se ++ wBd cI b0 b1 b2 b3 b4 b5 T S L J E cp su) := by
  intro X C Z
  show xb_G X 0 0 (wLo cI y0 y1 y2 y3 Dp Bt Sq se ++ wBd cI b0 b1 b2 b3 b4 b5 T S L J E cp su) [(0, .ref y0), (1, .ref b0), (2, .int p2)] 0 []
  have lp33 : ∀ (Bt_33 : Nat → Int32) (x2_33 : Int32) (x3_33 : Int32) (x4_33 : Int32) (k : Int32 → Option ((Nat → Int32))) (n : Nat) (x5_33 : Int32) (x6_33 : Int32), f_X3_work_33 Bt_33 S x2_33 x4_33 k n x5_33 x6_33 = some Bt' → (∀ (x5_33e : Int32), k x5_33e = some Bt' → xb_G X 0 0 (wLo cI y0 y1 y2 y3 Dp Bt_33 Sq se ++ wBd cI b0 b1 b2 b3 b4 b5 T S L J E cp su) [(0, .ref y0), (1, .ref b0), (2, .int x2_33), (3, .int x3_33), (4, .int x4_33), (5, .int x5_33e)] 69 []) → xb_G X 0 0 (wLo cI y0 y1 y2 y3 Dp Bt_33 Sq se ++ wBd cI b0 b1 b2 b3 b4 b5 T S L J E cp su) [(0, .ref y0), (1, .ref b0), (2, .int x2_33), (3, .int x3_33), (4, .int x4_33), (5, .int x5_33), (6, .int x6_33)] 33 [] := by
    intro Bt_33 x2_33 x3_33 x4_33 k n
    induction n with
    | zero => intro x5_33 x6_33 h hk; unfold f_X3_work_33 at h; cases h
    | succ n ih =>
      intro x5_33 x6_33 h hk
      unfold f_X3_work_33 at h
      refine xi_iload C dX3_work_33 6 rfl ?_
      refine xi_iconst (v := 3) C dX3_work_35 (by decide) ?_
      refine xi_icmp_ge (tgt := 69) C dX3_work_36 (by decide) (fun c5 => ?_) (fun c5 => ?_)
      · have h := it_i c5 h
        exact xb_lv (hk x5_33 h) [0, 1, 2, 3, 4, 5] rfl
      · have h := ie_i c5 h
        refine xi_iload C dX3_work_39 5 rfl ?_
        refine xi_aload_n C dX3_work_41 rfl 0 rfl ?_
        refine xi_aload_n C dX3_work_42 rfl 1 rfl ?_
        refine xi_iload C dX3_work_43 4 rfl ?_
        refine xi_iconst (v := 3) C dX3_work_45 (by decide) ?_
        refine xi_imul C dX3_work_46 ?_
        refine xi_iload C dX3_work_47 6 rfl ?_
        refine xi_iadd C dX3_work_49 ?_
        obtain ⟨v6, e7, h⟩ := ob_i h
        refine xi_callV (As := [.int ((x4_33 * 3) + x6_33)]) (o := some (.int v6)) (rest := [.ref y0, .int x5_33]) (w2 := (wLo cI y0 y1 y2 y3 Dp Bt_33 Sq se ++ wBd cI b0 b1 b2 b3 b4 b5 T S L J E cp su)) (st2 := [.int v6, .ref y0, .int x5_33]) C k_X0_sourceOf (m_X0_sourceOf D cI cC cZ cR b0 b1 b2 b3 b4 b5 T S L J E cp su ((x4_33 * 3) + x6_33) v6 e7) gX3_work_X0_sourceOf dX3_work_50 ⟨Nat.le_of_ble_eq_true rfl, Nat.le_of_ble_eq_true rfl, Nat.le_of_ble_eq_true rfl⟩ 4 rfl rfl [4, 5, 6, 7, 8, 9] rfl rfl [0, 1, 2, 3] rfl rfl (xb_mixq [0, 1, 2, 3] 10 rfl rfl rfl rfl (xb_smc rfl rfl (xb_smc rfl rfl (xb_smc rfl rfl (xb_smc rfl rfl xb_smn)))) (by decide +kernel) (by decide +kernel)) rfl (Nat.le_of_ble_eq_true rfl) ⟨Nat.zero_le _, Nat.zero_le _⟩ rfl ?_
        refine xi_iload_n C dX3_work_53 rfl 2 rfl ?_
        obtain ⟨v8, e9, h⟩ := ob_i h
        refine xi_callV (As := [.int v6, .int x2_33]) (o := some (.int v8)) (rest := [.int x5_33]) (w2 := (wLo cI y0 y1 y2 y3 Dp Bt_33 Sq se ++ wBd cI b0 b1 b2 b3 b4 b5 T S L J E cp su)) (st2 := [.int v8, .int x5_33]) C k_X3_sourceBit (m_X3_sourceBit D cI cC cZ cR y0 y1 y2 y3 Dp Bt_33 Sq se v6 x2_33 v8 e9) gX3_work_X3_sourceBit dX3_work_54 ⟨Nat.le_of_ble_eq_true rfl, Nat.le_of_ble_eq_true rfl, Nat.le_of_ble_eq_true rfl⟩ 0 rfl rfl [0, 1, 2, 3] rfl rfl [0, 1, 2, 3] rfl rfl (xb_mixq [4, 5, 6, 7, 8, 9] 10 rfl rfl rfl rfl (xb_smc rfl rfl (xb_smc rfl rfl (xb_smc rfl rfl (xb_smc rfl rfl (xb_smc rfl rfl (xb_smc rfl rfl xb_smn)))))) (by decide +kernel) (by decide +kernel)) rfl (Nat.le_of_ble_eq_true rfl) ⟨Nat.zero_le _, Nat.zero_le _⟩ rfl ?_
        refine xi_iload C dX3_work_57 6 rfl ?_
        refine xi_ishl C dX3_work_59 ?_
        refine xi_ior C dX3_work_60 ?_
        refine xi_istore (lv2 := [(0, .ref y0), (1, .ref b0), (2, .int x2_33), (3, .int x3_33), (4, .int x4_33), (5, .int (x5_33 ||| (v8 <<< (x6_33 &&& 31)))), (6, .int x6_33)]) C dX3_work_61 (by decide) [0, 1, 2, 3, 4, 6] [1, 2, 3, 4, 5, 0, 6] rfl ?_
        refine xi_iinc (v := x6_33 + 1) (lv2 := [(0, .ref y0), (1, .ref b0), (2, .int x2_33), (3, .int x3_33), (4, .int x4_33), (5, .int (x5_33 ||| (v8 <<< (x6_33 &&& 31)))), (6, .int (x6_33 + 1))]) C dX3_work_63 6 rfl (by rfl) (by decide) [0, 1, 2, 3, 4, 5] [1, 2, 3, 4, 5, 6, 0] rfl ?_
        refine xi_goto (tgt := 33) C dX3_work_66 (by decide) ?_
        exact xb_lv (ih (x5_33 ||| (v8 <<< (x6_33 &&& 31))) (x6_33 + 1) h hk) [0, 1, 2, 3, 4, 5, 6] rfl
  have lp2 : ∀ (x2_2 : Int32) (k : (Nat → Int32) → Option ((Nat → Int32))) (n : Nat) (x3_2 : Int32) (Bt_2 : Nat → Int32), f_X3_work_2 Sq se T S x2_2 k n x3_2 Bt_2 = some Bt' → (∀ (Bt_2e : Nat → Int32), k Bt_2e = some Bt' → xb_G X 0 0 (wLo cI y0 y1 y2 y3 Dp Bt_2e Sq se ++ wBd cI b0 b1 b2 b3 b4 b5 T S L J E cp su) [] 101 []) → xb_G X 0 0 (wLo cI y0 y1 y2 y3 Dp Bt_2 Sq se ++ wBd cI b0 b1 b2 b3 b4 b5 T S L J E cp su) [(0, .ref y0), (1, .ref b0), (2, .int x2_2), (3, .int x3_2)] 2 [] := by
    intro x2_2 k n
    induction n with
    | zero => intro x3_2 Bt_2 h hk; unfold f_X3_work_2 at h; cases h
    | succ n ih =>
      intro x3_2 Bt_2 h hk
      unfold f_X3_work_2 at h
      refine xi_iload_n C dX3_work_2 rfl 3 rfl ?_
      refine xi_aload_n C dX3_work_3 rfl 0 rfl ?_
      refine xi_get C dX3_work_4 iw_X3_work_3 0 rfl rfl 3 (by decide) fl_X3_work_21 rfl ?_
      refine xi_icmp_ge (tgt := 101) C dX3_work_7 (by decide) (fun c1 => ?_) (fun c1 => ?_)
      · have h := it_i c1 h
        exact xb_lv (hk Bt_2 h) [] rfl
      · have h := ie_i c1 h
        refine xi_iload_n C dX3_work_10 rfl 3 rfl ?_
        refine xi_aload_n C dX3_work_11 rfl 0 rfl ?_
        refine xi_get C dX3_work_12 iw_X3_work_3 0 rfl rfl 2 (by decide) fl_X3_work_18 rfl ?_
        refine xi_alen (v := 24) C dX3_work_15 3 0 rfl rfl rfl ?_
        refine xi_icmp_ge (tgt := 101) C dX3_work_16 (by decide) (fun c2 => ?_) (fun c2 => ?_)
        · have h := it_i c2 h
          exact xb_lv (hk Bt_2 h) [] rfl
        · have h := ie_i c2 h
          refine xi_aload_n C dX3_work_19 rfl 0 rfl ?_
          refine xi_get C dX3_work_20 iw_X3_work_3 0 rfl rfl 2 (by decide) fl_X3_work_18 rfl ?_
          refine xi_iload_n C dX3_work_23 rfl 3 rfl ?_
          obtain ⟨v3, e4, h⟩ := ob_i h
          refine xi_iald C dX3_work_24 3 0 rfl rfl e4 ?_
          refine xi_istore (lv2 := [(0, .ref y0), (1, .ref b0), (2, .int x2_2), (3, .int x3_2), (4, .int v3)]) C dX3_work_25 (by decide) [0, 1, 2, 3] [1, 2, 3, 4, 0] rfl ?_
          refine xi_iconst (v := 0) C dX3_work_27 (by decide) ?_
          refine xi_istore (lv2 := [(0, .ref y0), (1, .ref b0), (2, .int x2_2), (3, .int x3_2), (4, .int v3), (5, .int 0)]) C dX3_work_28 (by decide) [0, 1, 2, 3, 4] [1, 2, 3, 4, 5, 0] rfl ?_
          refine xi_iconst (v := 0) C dX3_work_30 (by decide) ?_
          refine xi_istore (lv2 := [(0, .ref y0), (1, .ref b0), (2, .int x2_2), (3, .int x3_2), (4, .int v3), (5, .int 0), (6, .int 0)]) C dX3_work_31 (by decide) [0, 1, 2, 3, 4, 5] [1, 2, 3, 4, 5, 6, 0] rfl ?_
          refine xb_lv (lp33 Bt_2 x2_2 x3_2 v3 _ xFu 0 0 h (fun x5z10 h => ?_)) [0, 1, 2, 3, 4, 5, 6] rfl
          refine xi_iload C dX3_work_69 4 rfl ?_
          obtain ⟨v11, e12, h⟩ := ob_i h
          refine xi_callSN (As := [.int v3]) (o := some (.int v11)) (rest := []) (w2 := (wLo cI y0 y1 y2 y3 Dp Bt_2 Sq se ++ wBd cI b0 b1 b2 b3 b4 b5 T S L J E cp su)) (st2 := [.int v11]) C k_X5_isPlace (m_X5_isPlace D cI cC cZ cR v3 v11 e12) gX3_work_X5_isPlace_n49 (List.mem_of_getElem? (i := 11) rfl) (List.mem_of_getElem? (i := 11) rfl) (List.mem_of_getElem? (i := 18) rfl) dX3_work_71 ⟨Nat.le_of_ble_eq_true rfl, Nat.le_of_ble_eq_true rfl, Nat.le_of_ble_eq_true rfl⟩ [] rfl rfl [0, 1, 2, 3] rfl rfl rfl rfl (Nat.le_of_ble_eq_true rfl) ⟨Nat.zero_le _, Nat.zero_le _⟩ rfl ?_
          refine xi_if_eq (tgt := 95) C dX3_work_74 (by decide) (fun c13 => ?_) (fun c13 => ?_)
          · have h := it_i c13 h
            refine xi_iinc (v := x3_2 + 1) (lv2 := [(0, .ref y0), (1, .ref b0), (2, .int x2_2), (3, .int (x3_2 + 1)), (4, .int v3), (5, .int x5z10)]) C dX3_work_95 3 rfl (by rfl) (by decide) [0, 1, 2, 4, 5] [1, 2, 3, 0, 4, 5] rfl ?_
            refine xi_goto (tgt := 2) C dX3_work_98 (by decide) ?_
            exact xb_lv (ih (x3_2 + 1) Bt_2 h hk) [0, 1, 2, 3] rfl
          · have h := ie_i c13 h
            refine xi_aload_n C dX3_work_77 rfl 0 rfl ?_
            refine xi_get C dX3_work_78 iw_X3_work_3 0 rfl rfl 1 (by decide) fl_X3_work_15 rfl ?_
            refine xi_iload C dX3_work_81 4 rfl ?_
            refine xi_aload_n C dX3_work_83 rfl 1 rfl ?_
            refine xi_iload C dX3_work_84 4 rfl ?_
            obtain ⟨v14, e15, h⟩ := ob_i h
            refine xi_callV (As := [.int v3]) (o := some (.int v14)) (rest := [.int v3, .ref y2]) (w2 := (wLo cI y0 y1 y2 y3 Dp Bt_2 Sq se ++ wBd cI b0 b1 b2 b3 b4 b5 T S L J E cp su)) (st2 := [.int v14, .int v3, .ref y2]) C k_X0_tableOf (m_X0_tableOf D cI cC cZ cR b0 b1 b2 b3 b4 b5 T S L J E cp su v3 v14 e15) gX3_work_X0_tableOf dX3_work_86 ⟨Nat.le_of_ble_eq_true rfl, Nat.le_of_ble_eq_true rfl, Nat.le_of_ble_eq_true rfl⟩ 4 rfl rfl [4, 5, 6, 7, 8, 9] rfl rfl [0, 1, 2, 3] rfl rfl (xb_mixq [0, 1, 2, 3] 10 rfl rfl rfl rfl (xb_smc rfl rfl (xb_smc rfl rfl (xb_smc rfl rfl (xb_smc rfl rfl xb_smn)))) (by decide +kernel) (by decide +kernel)) rfl (Nat.le_of_ble_eq_true rfl) ⟨Nat.zero_le _, Nat.zero_le _⟩ rfl ?_
            refine xi_iload C dX3_work_89 5 rfl ?_
            refine xi_ishr C dX3_work_91 ?_
            refine xi_iconst (v := 1) C dX3_work_92 (by decide) ?_
            refine xi_iand C dX3_work_93 ?_
            obtain ⟨Bt17, e16, h⟩ := ob_i h
            refine xi_iast (w2 := (wLo cI y0 y1 y2 y3 Dp Bt17 Sq se ++ wBd cI b0 b1 b2 b3 b4 b5 T S L J E cp su)) C dX3_work_94 2 0 rfl rfl e16 rfl ?_
            refine xi_iinc (v := x3_2 + 1) (lv2 := [(0, .ref y0), (1, .ref b0), (2, .int x2_2), (3, .int (x3_2 + 1)), (4, .int v3), (5, .int x5z10)]) C dX3_work_95 3 rfl (by rfl) (by decide) [0, 1, 2, 4, 5] [1, 2, 3, 0, 4, 5] rfl ?_
            refine xi_goto (tgt := 2) C dX3_work_98 (by decide) ?_
            exact xb_lv (ih (x3_2 + 1) Bt17 h hk) [0, 1, 2, 3] rfl
  unfold f_X3_work at h
  refine xi_iconst (v := 0) C dX3_work_0 (by decide) ?_
  refine xi_istore_n (lv2 := [(0, .ref y0), (1, .ref b0), (2, .int p2), (3, .int 0)]) C dX3_work_1 rfl (by decide) [0, 1, 2] [1, 2, 3, 0] rfl ?_
  refine xb_lv (lp2 p2 _ xFu 0 Bt h (fun Btz18 h => ?_)) [0, 1, 2, 3] rfl
  have w0 := Option.some.inj h
  subst w0
  exact xi_ret C Z dX3_work_101
def f_X3_depthOf (Dp : Nat → Int32) (p1 : Int32) : Option (Int32) :=
  (f_X5_isPlace p1).bind fun v1 =>
  if v1 = 0 then
    some 0
  else
    (xr_d Dp 24 p1).bind fun v4 =>
    some v4
theorem k_X3_depthOf : xb_Y yX3_depthOf cX3_depthOf wsX3_depthOf 2 (some .int) { frames := 1, cells := 0, slots := 0, locals := 20 } 1 := ⟨⟨_, rfl⟩, by decide, ⟨by decide, by decide, by decide +kernel⟩, rfl, rfl⟩
theorem fl_X3_depthOf_9 : Cond.fieldLink RX3 9 "LookupBoard$Logic" "depths" "[I" ∈ wsX3_depthOf := List.mem_of_getElem? (i := 1) rfl
theorem iw_X3_depthOf_3 : ∀ w ∈ wsX30, w ∈ wsX3_depthOf := fun w h => List.mem_cons_of_mem _ (List.mem_append_right _ h)
set_option maxHeartbeats 4000000 in
set_option maxRecDepth 100000 in
theorem m_X3_depthOf (D : va_G) (cI cC cZ cR : ClassId) (y0 y1 y2 y3 : Nat) (Dp : Nat → Int32) (Bt : Nat → Int32) (Sq : Nat → Int32) (se : Int32) (p1 : Int32) (r : Int32) (h : f_X3_depthOf Dp p1 = some r) : xb_M cX3_depthOf wsX3_depthOf RX3 { frames := 1, cells := 0, slots := 0, locals := 20 } (some .int) 2 (xb_ty cI cC cZ cR) D [.ref y0, .int p1] (wLo cI y0 y1 y2 y3 Dp Bt Sq se) (some (.int r)) (wLo cI y0 y1 y2 y3 Dp Bt Sq se) := by
  intro X C Z
  show xb_G X 0 0 (wLo cI y0 y1 y2 y3 Dp Bt Sq se) [(0, .ref y0), (1, .int p1)] 0 []
  unfold f_X3_depthOf at h
  refine xi_iload_n C dX3_depthOf_0 rfl 1 rfl ?_
  obtain ⟨v1, e2, h⟩ := ob_i h
  refine xi_callSN (As := [.int p1]) (o := some (.int v1)) (rest := []) (w2 := (wLo cI y0 y1 y2 y3 Dp Bt Sq se)) (st2 := [.int v1]) C k_X5_isPlace (m_X5_isPlace D cI cC cZ cR p1 v1 e2) gX3_depthOf_X5_isPlace_n49 (List.mem_of_getElem? (i := 11) rfl) (List.mem_of_getElem? (i := 3) rfl) (List.mem_of_getElem? (i := 2) rfl) dX3_depthOf_1 ⟨Nat.le_of_ble_eq_true rfl, Nat.le_of_ble_eq_true rfl, Nat.le_of_ble_eq_true rfl⟩ [] rfl rfl [0, 1, 2, 3] rfl rfl rfl rfl (Nat.le_of_ble_eq_true rfl) ⟨Nat.zero_le _, Nat.zero_le _⟩ rfl ?_
  refine xi_if_eq (tgt := 16) C dX3_depthOf_4 (by decide) (fun c3 => ?_) (fun c3 => ?_)
  · have h := it_i c3 h
    refine xi_iconst (v := 0) C dX3_depthOf_16 (by decide) ?_
    have w0 := Option.some.inj h
    subst w0
    exact xi_iret C Z dX3_depthOf_17
  · have h := ie_i c3 h
    refine xi_aload_n C dX3_depthOf_7 rfl 0 rfl ?_
    refine xi_get C dX3_depthOf_8 iw_X3_depthOf_3 0 rfl rfl 0 (by decide) fl_X3_depthOf_9 rfl ?_
    refine xi_iload_n C dX3_depthOf_11 rfl 1 rfl ?_
    obtain ⟨v4, e5, h⟩ := ob_i h
    refine xi_iald C dX3_depthOf_12 1 0 rfl rfl e5 ?_
    refine xi_goto (tgt := 17) C dX3_depthOf_13 (by decide) ?_
    have w0 := Option.some.inj h
    subst w0
    exact xi_iret C Z dX3_depthOf_17
def f_X3_answers (Dp : Nat → Int32) (p1 : Int32) : Option (Int32) :=
  (f_X3_depthOf Dp p1).bind fun v1 =>
  if v1 ≤ 0 then
    some 0
  else
    some 1
theorem k_X3_answers : xb_Y yX3_answers cX3_answers wsX3_answers 2 (some .boolean) { frames := 2, cells := 0, slots := 0, locals := 41 } 1 := ⟨⟨_, rfl⟩, by decide, ⟨by decide, by decide, by decide +kernel⟩, rfl, rfl⟩
set_option maxHeartbeats 4000000 in
set_option maxRecDepth 100000 in
theorem m_X3_answers (D : va_G) (cI cC cZ cR : ClassId) (y0 y1 y2 y3 : Nat) (Dp : Nat → Int32) (Bt : Nat → Int32) (Sq : Nat → Int32) (se : Int32) (p1 : Int32) (r : Int32) (h : f_X3_answers Dp p1 = some r) : xb_M cX3_answers wsX3_answers RX3 { frames := 2, cells := 0, slots := 0, locals := 41 } (some .boolean) 2 (xb_ty cI cC cZ cR) D [.ref y0, .int p1] (wLo cI y0 y1 y2 y3 Dp Bt Sq se) (some (.int r)) (wLo cI y0 y1 y2 y3 Dp Bt Sq se) := by
  intro X C Z
  show xb_G X 0 0 (wLo cI y0 y1 y2 y3 Dp Bt Sq se) [(0, .ref y0), (1, .int p1)] 0 []
  unfold f_X3_answers at h
  refine xi_aload_n C dX3_answers_0 rfl 0 rfl ?_
  refine xi_iload_n C dX3_answers_1 rfl 1 rfl ?_
  obtain ⟨v1, e2, h⟩ := ob_i h
  refine xi_callV (As := [.int p1]) (o := some (.int v1)) (rest := []) (w2 := (wLo cI y0 y1 y2 y3 Dp Bt Sq se)) (st2 := [.int v1]) C k_X3_depthOf (m_X3_depthOf D cI cC cZ cR y0 y1 y2 y3 Dp Bt Sq se p1 v1 e2) gX3_answers_X3_depthOf dX3_answers_2 ⟨Nat.le_of_ble_eq_true rfl, Nat.le_of_ble_eq_true rfl, Nat.le_of_ble_eq_true rfl⟩ 0 rfl rfl [0, 1, 2, 3] rfl rfl [0, 1, 2, 3] rfl rfl rfl rfl (Nat.le_of_ble_eq_true rfl) ⟨Nat.zero_le _, Nat.zero_le _⟩ rfl ?_
  refine xi_if_le (tgt := 12) C dX3_answers_5 (by decide) (fun c3 => ?_) (fun c3 => ?_)
  · have h := it_i c3 h
    refine xi_iconst (v := 0) C dX3_answers_12 (by decide) ?_
    have w0 := Option.some.inj h
    subst w0
    exact xi_zret C Z dX3_answers_13 xb_nz0
  · have h := ie_i c3 h
    refine xi_iconst (v := 1) C dX3_answers_8 (by decide) ?_
    refine xi_goto (tgt := 13) C dX3_answers_9 (by decide) ?_
    have w0 := Option.some.inj h
    subst w0
    exact xi_zret C Z dX3_answers_13 xb_nz1
def f_X3_bitOf (Bt : Nat → Int32) (p1 : Int32) : Option (Int32) :=
  (f_X5_isPlace p1).bind fun v1 =>
  if v1 = 0 then
    some 0
  else
    (xr_d Bt 24 p1).bind fun v4 =>
    some v4
theorem k_X3_bitOf : xb_Y yX3_bitOf cX3_bitOf wsX3_bitOf 2 (some .int) { frames := 1, cells := 0, slots := 0, locals := 20 } 1 := ⟨⟨_, rfl⟩, by decide, ⟨by decide, by decide, by decide +kernel⟩, rfl, rfl⟩
theorem fl_X3_bitOf_15 : Cond.fieldLink RX3 15 "LookupBoard$Logic" "bits" "[I" ∈ wsX3_bitOf := List.mem_of_getElem? (i := 1) rfl
theorem iw_X3_bitOf_3 : ∀ w ∈ wsX30, w ∈ wsX3_bitOf := fun w h => List.mem_cons_of_mem _ (List.mem_append_right _ h)
set_option maxHeartbeats 4000000 in
set_option maxRecDepth 100000 in
theorem m_X3_bitOf (D : va_G) (cI cC cZ cR : ClassId) (y0 y1 y2 y3 : Nat) (Dp : Nat → Int32) (Bt : Nat → Int32) (Sq : Nat → Int32) (se : Int32) (p1 : Int32) (r : Int32) (h : f_X3_bitOf Bt p1 = some r) : xb_M cX3_bitOf wsX3_bitOf RX3 { frames := 1, cells := 0, slots := 0, locals := 20 } (some .int) 2 (xb_ty cI cC cZ cR) D [.ref y0, .int p1] (wLo cI y0 y1 y2 y3 Dp Bt Sq se) (some (.int r)) (wLo cI y0 y1 y2 y3 Dp Bt Sq se) := by
  intro X C Z
  show xb_G X 0 0 (wLo cI y0 y1 y2 y3 Dp Bt Sq se) [(0, .ref y0), (1, .int p1)] 0 []
  unfold f_X3_bitOf at h
  refine xi_iload_n C dX3_bitOf_0 rfl 1 rfl ?_
  obtain ⟨v1, e2, h⟩ := ob_i h
  refine xi_callSN (As := [.int p1]) (o := some (.int v1)) (rest := []) (w2 := (wLo cI y0 y1 y2 y3 Dp Bt Sq se)) (st2 := [.int v1]) C k_X5_isPlace (m_X5_isPlace D cI cC cZ cR p1 v1 e2) gX3_bitOf_X5_isPlace_n49 (List.mem_of_getElem? (i := 11) rfl) (List.mem_of_getElem? (i := 3) rfl) (List.mem_of_getElem? (i := 2) rfl) dX3_bitOf_1 ⟨Nat.le_of_ble_eq_true rfl, Nat.le_of_ble_eq_true rfl, Nat.le_of_ble_eq_true rfl⟩ [] rfl rfl [0, 1, 2, 3] rfl rfl rfl rfl (Nat.le_of_ble_eq_true rfl) ⟨Nat.zero_le _, Nat.zero_le _⟩ rfl ?_
  refine xi_if_eq (tgt := 16) C dX3_bitOf_4 (by decide) (fun c3 => ?_) (fun c3 => ?_)
  · have h := it_i c3 h
    refine xi_iconst (v := 0) C dX3_bitOf_16 (by decide) ?_
    have w0 := Option.some.inj h
    subst w0
    exact xi_iret C Z dX3_bitOf_17
  · have h := ie_i c3 h
    refine xi_aload_n C dX3_bitOf_7 rfl 0 rfl ?_
    refine xi_get C dX3_bitOf_8 iw_X3_bitOf_3 0 rfl rfl 1 (by decide) fl_X3_bitOf_15 rfl ?_
    refine xi_iload_n C dX3_bitOf_11 rfl 1 rfl ?_
    obtain ⟨v4, e5, h⟩ := ob_i h
    refine xi_iald C dX3_bitOf_12 2 0 rfl rfl e5 ?_
    refine xi_goto (tgt := 17) C dX3_bitOf_13 (by decide) ?_
    have w0 := Option.some.inj h
    subst w0
    exact xi_iret C Z dX3_bitOf_17
def f_X3_cellsThatAnswer (se : Int32) : Option (Int32) :=
  some se
theorem k_X3_cellsThatAnswer : xb_Y yX3_cellsThatAnswer cX3_cellsThatAnswer wsX3_cellsThatAnswer 1 (some .int) { frames := 0, cells := 0, slots := 0, locals := 0 } 0 := ⟨⟨_, rfl⟩, by decide, ⟨by decide, by decide, by decide +kernel⟩, rfl, rfl⟩
theorem fl_X3_cellsThatAnswer_21 : Cond.fieldLink RX3 21 "LookupBoard$Logic" "settled" "I" ∈ wsX3_cellsThatAnswer := List.mem_of_getElem? (i := 1) rfl
theorem iw_X3_cellsThatAnswer_3 : ∀ w ∈ wsX30, w ∈ wsX3_cellsThatAnswer := fun w h => List.mem_cons_of_mem _ (List.mem_append_right _ h)
set_option maxHeartbeats 4000000 in
set_option maxRecDepth 100000 in
theorem m_X3_cellsThatAnswer (D : va_G) (cI cC cZ cR : ClassId) (y0 y1 y2 y3 : Nat) (Dp : Nat → Int32) (Bt : Nat → Int32) (Sq : Nat → Int32) (se : Int32) (r : Int32) (h : f_X3_cellsThatAnswer se = some r) : xb_M cX3_cellsThatAnswer wsX3_cellsThatAnswer RX3 { frames := 0, cells := 0, slots := 0, locals := 0 } (some .int) 1 (xb_ty cI cC cZ cR) D [.ref y0] (wLo cI y0 y1 y2 y3 Dp Bt Sq se) (some (.int r)) (wLo cI y0 y1 y2 y3 Dp Bt Sq se) := by
  intro X C Z
  show xb_G X 0 0 (wLo cI y0 y1 y2 y3 Dp Bt Sq se) [(0, .ref y0)] 0 []
  unfold f_X3_cellsThatAnswer at h
  refine xi_aload_n C dX3_cellsThatAnswer_0 rfl 0 rfl ?_
  refine xi_get C dX3_cellsThatAnswer_1 iw_X3_cellsThatAnswer_3 0 rfl rfl 3 (by decide) fl_X3_cellsThatAnswer_21 rfl ?_
  have w0 := Option.some.inj h
  subst w0
  exact xi_iret C Z dX3_cellsThatAnswer_4
def f_X3_greatestDepth_4 (Dp : Nat → Int32) (k : Int32 → Option (Int32)) : Nat → Int32 → Int32 → Option (Int32)
  | 0, _, _ => none
  | n + 1, x1_4, x2_4 =>
    if 24 ≤ x2_4 then
      k x1_4
    else
      (xr_d Dp 24 x2_4).bind fun v2 =>
      (some (if x1_4 < v2 then v2 else x1_4)).bind fun v4 =>
      f_X3_greatestDepth_4 Dp k n v4 (x2_4 + 1)
def f_X3_greatestDepth (Dp : Nat → Int32) : Option (Int32) :=
  f_X3_greatestDepth_4 Dp (fun x1z6 =>
    some x1z6) xFu 0 0
theorem k_X3_greatestDepth : xb_Y yX3_greatestDepth cX3_greatestDepth wsX3_greatestDepth 3 (some .int) { frames := 1, cells := 0, slots := 0, locals := 20 } 0 := ⟨⟨_, rfl⟩, by decide, ⟨by decide, by decide, by decide +kernel⟩, rfl, rfl⟩
theorem fl_X3_greatestDepth_9 : Cond.fieldLink RX3 9 "LookupBoard$Logic" "depths" "[I" ∈ wsX3_greatestDepth := List.mem_of_getElem? (i := 1) rfl
theorem iw_X3_greatestDepth_3 : ∀ w ∈ wsX30, w ∈ wsX3_greatestDepth := fun w h => List.mem_cons_of_mem _ (List.mem_append_right _ h)
set_option maxHeartbeats 4000000 in
set_option maxRecDepth 100000 in
theorem m_X3_greatestDepth (D : va_G) (cI cC cZ cR : ClassId) (y0 y1 y2 y3 : Nat) (Dp : Nat → Int32) (Bt : Nat → Int32) (Sq : Nat → Int32) (se : Int32) (r : Int32) (h : f_X3_greatestDepth Dp = some r) : xb_M cX3_greatestDepth wsX3_greatestDepth RX3 { frames := 1, cells := 0, slots := 0, locals := 20 } (some .int) 3 (xb_ty cI cC cZ cR) D [.ref y0] (wLo cI y0 y1 y2 y3 Dp Bt Sq se) (some (.int r)) (wLo cI y0 y1 y2 y3 Dp Bt Sq se) := by
  intro X C Z
  show xb_G X 0 0 (wLo cI y0 y1 y2 y3 Dp Bt Sq se) [(0, .ref y0)] 0 []
  have lp4 : ∀ (k : Int32 → Option (Int32)) (n : Nat) (x1_4 : Int32) (x2_4 : Int32), f_X3_greatestDepth_4 Dp k n x1_4 x2_4 = some r → (∀ (x1_4e : Int32), k x1_4e = some r → xb_G X 0 0 (wLo cI y0 y1 y2 y3 Dp Bt Sq se) [(1, .int x1_4e)] 27 []) → xb_G X 0 0 (wLo cI y0 y1 y2 y3 Dp Bt Sq se) [(0, .ref y0), (1, .int x1_4), (2, .int x2_4)] 4 [] := by
    intro k n
    induction n with
    | zero => intro x1_4 x2_4 h hk; unfold f_X3_greatestDepth_4 at h; cases h
    | succ n ih =>
      intro x1_4 x2_4 h hk
      unfold f_X3_greatestDepth_4 at h
      refine xi_iload_n C dX3_greatestDepth_4 rfl 2 rfl ?_
      refine xi_bipush (v := 24) C dX3_greatestDepth_5 (by decide) ?_
      refine xi_icmp_ge (tgt := 27) C dX3_greatestDepth_7 (by decide) (fun c1 => ?_) (fun c1 => ?_)
      · have h := it_i c1 h
        exact xb_lv (hk x1_4 h) [1] rfl
      · have h := ie_i c1 h
        refine xi_iload_n C dX3_greatestDepth_10 rfl 1 rfl ?_
        refine xi_aload_n C dX3_greatestDepth_11 rfl 0 rfl ?_
        refine xi_get C dX3_greatestDepth_12 iw_X3_greatestDepth_3 0 rfl rfl 0 (by decide) fl_X3_greatestDepth_9 rfl ?_
        refine xi_iload_n C dX3_greatestDepth_15 rfl 2 rfl ?_
        obtain ⟨v2, e3, h⟩ := ob_i h
        refine xi_iald C dX3_greatestDepth_16 1 0 rfl rfl e3 ?_
        obtain ⟨v4, e5, h⟩ := ob_i h
        refine xi_mmax C dX3_greatestDepth_17 (List.mem_of_getElem? (i := 2) rfl) (List.mem_of_getElem? (i := 3) rfl) (List.mem_of_getElem? (i := 4) rfl) (List.mem_of_getElem? (i := 5) rfl) (Nat.le_of_ble_eq_true rfl) (Nat.le_of_ble_eq_true rfl) ⟨Nat.zero_le _, Nat.zero_le _⟩ e5 ?_
        refine xi_istore_n (lv2 := [(0, .ref y0), (1, .int v4), (2, .int x2_4)]) C dX3_greatestDepth_20 rfl (by decide) [0, 2] [1, 0, 2] rfl ?_
        refine xi_iinc (v := x2_4 + 1) (lv2 := [(0, .ref y0), (1, .int v4), (2, .int (x2_4 + 1))]) C dX3_greatestDepth_21 2 rfl (by rfl) (by decide) [0, 1] [1, 2, 0] rfl ?_
        refine xi_goto (tgt := 4) C dX3_greatestDepth_24 (by decide) ?_
        exact xb_lv (ih v4 (x2_4 + 1) h hk) [0, 1, 2] rfl
  unfold f_X3_greatestDepth at h
  refine xi_iconst (v := 0) C dX3_greatestDepth_0 (by decide) ?_
  refine xi_istore_n (lv2 := [(0, .ref y0), (1, .int 0)]) C dX3_greatestDepth_1 rfl (by decide) [0] [1, 0] rfl ?_
  refine xi_iconst (v := 0) C dX3_greatestDepth_2 (by decide) ?_
  refine xi_istore_n (lv2 := [(0, .ref y0), (1, .int 0), (2, .int 0)]) C dX3_greatestDepth_3 rfl (by decide) [0, 1] [1, 2, 0] rfl ?_
  refine xb_lv (lp4 _ xFu 0 0 h (fun x1z6 h => ?_)) [0, 1, 2] rfl
  refine xi_iload_n C dX3_greatestDepth_27 rfl 0 rfl ?_
  have w0 := Option.some.inj h
  subst w0
  exact xi_iret C Z dX3_greatestDepth_28
def f_X4_length (ln : Int32) : Option (Int32) :=
  some ln
theorem k_X4_length : xb_Y yX4_length cX4_length wsX4_length 1 (some .int) { frames := 0, cells := 0, slots := 0, locals := 0 } 0 := ⟨⟨_, rfl⟩, by decide, ⟨by decide, by decide, by decide +kernel⟩, rfl, rfl⟩
theorem fl_X4_length_15 : Cond.fieldLink RX4 15 "LookupBoard$PlanText" "length" "I" ∈ wsX4_length := List.mem_of_getElem? (i := 1) rfl
theorem iw_X4_length_4 : ∀ w ∈ wsX40, w ∈ wsX4_length := fun w h => List.mem_cons_of_mem _ (List.mem_append_right _ h)
set_option maxHeartbeats 4000000 in
set_option maxRecDepth 100000 in
theorem m_X4_length (D : va_G) (cI cC cZ cR : ClassId) (y0 y1 : Nat) (Sg : Nat → Int32) (ln : Int32) (at_ : Int32) (r : Int32) (h : f_X4_length ln = some r) : xb_M cX4_length wsX4_length RX4 { frames := 0, cells := 0, slots := 0, locals := 0 } (some .int) 1 (xb_ty cI cC cZ cR) D [.ref y0] (wTe cC y0 y1 Sg ln at_) (some (.int r)) (wTe cC y0 y1 Sg ln at_) := by
  intro X C Z
  show xb_G X 0 0 (wTe cC y0 y1 Sg ln at_) [(0, .ref y0)] 0 []
  unfold f_X4_length at h
  refine xi_aload_n C dX4_length_0 rfl 0 rfl ?_
  refine xi_get C dX4_length_1 iw_X4_length_4 0 rfl rfl 1 (by decide) fl_X4_length_15 rfl ?_
  have w0 := Option.some.inj h
  subst w0
  exact xi_iret C Z dX4_length_4
def f_X4_append (Sg : Nat → Int32) (ln : Int32) (p1 : Int32) : Option (Int32 × (Nat → Int32) × Int32) :=
  if ln < 80 then
    (xr_w Sg 80 ln (vp_nar .char p1)).bind fun Sg3 =>
    some (1, Sg3, ln + 1)
  else
    some (0, Sg, ln)
theorem k_X4_append : xb_Y yX4_append cX4_append wsX4_append 2 (some .boolean) { frames := 0, cells := 0, slots := 0, locals := 0 } 1 := ⟨⟨_, rfl⟩, by decide, ⟨by decide, by decide, by decide +kernel⟩, rfl, rfl⟩
theorem fl_X4_append_9 : Cond.fieldLink RX4 9 "LookupBoard$PlanText" "signs" "[C" ∈ wsX4_append := List.mem_of_getElem? (i := 2) rfl
theorem fl_X4_append_15 : Cond.fieldLink RX4 15 "LookupBoard$PlanText" "length" "I" ∈ wsX4_append := List.mem_of_getElem? (i := 1) rfl
theorem iw_X4_append_4 : ∀ w ∈ wsX40, w ∈ wsX4_append := fun w h => List.mem_cons_of_mem _ (List.mem_append_right _ h)
set_option maxHeartbeats 4000000 in
set_option maxRecDepth 100000 in
theorem m_X4_append (D : va_G) (cI cC cZ cR : ClassId) (y0 y1 : Nat) (Sg : Nat → Int32) (ln : Int32) (at_ : Int32) (p1 : Int32) (r : Int32) (Sg' : Nat → Int32) (ln' : Int32) (h : f_X4_append Sg ln p1 = some (r, Sg', ln')) : xb_M cX4_append wsX4_append RX4 { frames := 0, cells := 0, slots := 0, locals := 0 } (some .boolean) 2 (xb_ty cI cC cZ cR) D [.ref y0, .int p1] (wTe cC y0 y1 Sg ln at_) (some (.int r)) (wTe cC y0 y1 Sg' ln' at_) := by
  intro X C Z
  show xb_G X 0 0 (wTe cC y0 y1 Sg ln at_) [(0, .ref y0), (1, .int p1)] 0 []
  unfold f_X4_append at h
  refine xi_aload_n C dX4_append_0 rfl 0 rfl ?_
  refine xi_get C dX4_append_1 iw_X4_append_4 0 rfl rfl 1 (by decide) fl_X4_append_15 rfl ?_
  refine xi_aload_n C dX4_append_4 rfl 0 rfl ?_
  refine xi_get C dX4_append_5 iw_X4_append_4 0 rfl rfl 0 (by decide) fl_X4_append_9 rfl ?_
  refine xi_alen (v := 80) C dX4_append_8 1 1 rfl rfl rfl ?_
  refine xi_icmp_lt (tgt := 14) C dX4_append_9 (by decide) (fun c1 => ?_) (fun c1 => ?_)
  · have h := it_i c1 h
    refine xi_aload_n C dX4_append_14 rfl 0 rfl ?_
    refine xi_get C dX4_append_15 iw_X4_append_4 0 rfl rfl 0 (by decide) fl_X4_append_9 rfl ?_
    refine xi_aload_n C dX4_append_18 rfl 0 rfl ?_
    refine xi_get C dX4_append_19 iw_X4_append_4 0 rfl rfl 1 (by decide) fl_X4_append_15 rfl ?_
    refine xi_iload_n C dX4_append_22 rfl 1 rfl ?_
    obtain ⟨Sg3, e2, h⟩ := ob_i h
    refine xi_cast (w2 := (wTe cC y0 y1 Sg3 ln at_)) C dX4_append_23 1 1 rfl rfl e2 rfl ?_
    refine xi_aload_n C dX4_append_24 rfl 0 rfl ?_
    refine xi_dup C dX4_append_25 rfl ?_
    refine xi_get C dX4_append_26 iw_X4_append_4 0 rfl rfl 1 (by decide) fl_X4_append_15 rfl ?_
    refine xi_iconst (v := 1) C dX4_append_29 (by decide) ?_
    refine xi_iadd C dX4_append_30 ?_
    refine xi_put (ty := .int) (w2 := (wTe cC y0 y1 Sg3 (ln + 1) at_)) C dX4_append_31 iw_X4_append_4 tyX4 tyX4_ok nmX4 0 rfl rfl 1 (by decide) fl_X4_append_15 rfl (by decide +kernel) (by rfl) (by rfl) (Nat.le_of_ble_eq_true rfl) rfl ?_
    refine xi_iconst (v := 1) C dX4_append_34 (by decide) ?_
    have w0 := Option.some.inj h
    obtain ⟨q0, w1⟩ := Prod.mk.inj w0
    obtain ⟨q1, w2⟩ := Prod.mk.inj w1
    subst q0
    subst q1
    subst w2
    exact xi_zret C Z dX4_append_35 xb_nz1
  · have h := ie_i c1 h
    refine xi_iconst (v := 0) C dX4_append_12 (by decide) ?_
    have w0 := Option.some.inj h
    obtain ⟨q0, w1⟩ := Prod.mk.inj w0
    obtain ⟨q1, w2⟩ := Prod.mk.inj w1
    subst q0
    subst q1
    subst w2
    exact xi_zret C Z dX4_append_13 xb_nz0
def f_X4_empty (ln : Int32) : Option (Int32) :=
  some 0
theorem k_X4_empty : xb_Y yX4_empty cX4_empty wsX4_empty 1 none { frames := 0, cells := 0, slots := 0, locals := 0 } 0 := ⟨⟨_, rfl⟩, by decide, ⟨by decide, by decide, by decide +kernel⟩, rfl, rfl⟩
theorem fl_X4_empty_15 : Cond.fieldLink RX4 15 "LookupBoard$PlanText" "length" "I" ∈ wsX4_empty := List.mem_of_getElem? (i := 1) rfl
theorem iw_X4_empty_4 : ∀ w ∈ wsX40, w ∈ wsX4_empty := fun w h => List.mem_cons_of_mem _ (List.mem_append_right _ h)
set_option maxHeartbeats 4000000 in
set_option maxRecDepth 100000 in
theorem m_X4_empty (D : va_G) (cI cC cZ cR : ClassId) (y0 y1 : Nat) (Sg : Nat → Int32) (ln : Int32) (at_ : Int32) (ln' : Int32) (h : f_X4_empty ln = some ln') : xb_M cX4_empty wsX4_empty RX4 { frames := 0, cells := 0, slots := 0, locals := 0 } none 1 (xb_ty cI cC cZ cR) D [.ref y0] (wTe cC y0 y1 Sg ln at_) none (wTe cC y0 y1 Sg ln' at_) := by
  intro X C Z
  show xb_G X 0 0 (wTe cC y0 y1 Sg ln at_) [(0, .ref y0)] 0 []
  unfold f_X4_empty at h
  refine xi_aload_n C dX4_empty_0 rfl 0 rfl ?_
  refine xi_iconst (v := 0) C dX4_empty_1 (by decide) ?_
  refine xi_put (ty := .int) (w2 := (wTe cC y0 y1 Sg 0 at_)) C dX4_empty_2 iw_X4_empty_4 tyX4 tyX4_ok nmX4 0 rfl rfl 1 (by decide) fl_X4_empty_15 rfl (by decide +kernel) (by rfl) (by rfl) (Nat.le_of_ble_eq_true rfl) rfl ?_
  have w0 := Option.some.inj h
  subst w0
  exact xi_ret C Z dX4_empty_5
def f_X4_signHere (Sg : Nat → Int32) (ln : Int32) (at_ : Int32) : Option (Int32) :=
  if at_ < 0 then
    some (-1)
  else
    if ln ≤ at_ then
      some (-1)
    else
      if 80 ≤ at_ then
        some (-1)
      else
        (xr_d Sg 80 at_).bind fun v4 =>
        some v4
theorem k_X4_signHere : xb_Y yX4_signHere cX4_signHere wsX4_signHere 1 (some .int) { frames := 0, cells := 0, slots := 0, locals := 0 } 0 := ⟨⟨_, rfl⟩, by decide, ⟨by decide, by decide, by decide +kernel⟩, rfl, rfl⟩
theorem fl_X4_signHere_9 : Cond.fieldLink RX4 9 "LookupBoard$PlanText" "signs" "[C" ∈ wsX4_signHere := List.mem_of_getElem? (i := 3) rfl
theorem fl_X4_signHere_15 : Cond.fieldLink RX4 15 "LookupBoard$PlanText" "length" "I" ∈ wsX4_signHere := List.mem_of_getElem? (i := 2) rfl
theorem fl_X4_signHere_19 : Cond.fieldLink RX4 19 "LookupBoard$PlanText" "at" "I" ∈ wsX4_signHere := List.mem_of_getElem? (i := 1) rfl
theorem iw_X4_signHere_4 : ∀ w ∈ wsX40, w ∈ wsX4_signHere := fun w h => List.mem_cons_of_mem _ (List.mem_append_right _ h)
set_option maxHeartbeats 4000000 in
set_option maxRecDepth 100000 in
theorem m_X4_signHere (D : va_G) (cI cC cZ cR : ClassId) (y0 y1 : Nat) (Sg : Nat → Int32) (ln : Int32) (at_ : Int32) (r : Int32) (h : f_X4_signHere Sg ln at_ = some r) : xb_M cX4_signHere wsX4_signHere RX4 { frames := 0, cells := 0, slots := 0, locals := 0 } (some .int) 1 (xb_ty cI cC cZ cR) D [.ref y0] (wTe cC y0 y1 Sg ln at_) (some (.int r)) (wTe cC y0 y1 Sg ln at_) := by
  intro X C Z
  show xb_G X 0 0 (wTe cC y0 y1 Sg ln at_) [(0, .ref y0)] 0 []
  unfold f_X4_signHere at h
  refine xi_aload_n C dX4_signHere_0 rfl 0 rfl ?_
  refine xi_get C dX4_signHere_1 iw_X4_signHere_4 0 rfl rfl 2 (by decide) fl_X4_signHere_19 rfl ?_
  refine xi_if_lt (tgt := 42) C dX4_signHere_4 (by decide) (fun c1 => ?_) (fun c1 => ?_)
  · have h := it_i c1 h
    refine xi_iconst (v := (-1)) C dX4_signHere_42 (by decide) ?_
    have w0 := Option.some.inj h
    subst w0
    exact xi_iret C Z dX4_signHere_43
  · have h := ie_i c1 h
    refine xi_aload_n C dX4_signHere_7 rfl 0 rfl ?_
    refine xi_get C dX4_signHere_8 iw_X4_signHere_4 0 rfl rfl 2 (by decide) fl_X4_signHere_19 rfl ?_
    refine xi_aload_n C dX4_signHere_11 rfl 0 rfl ?_
    refine xi_get C dX4_signHere_12 iw_X4_signHere_4 0 rfl rfl 1 (by decide) fl_X4_signHere_15 rfl ?_
    refine xi_icmp_ge (tgt := 42) C dX4_signHere_15 (by decide) (fun c2 => ?_) (fun c2 => ?_)
    · have h := it_i c2 h
      refine xi_iconst (v := (-1)) C dX4_signHere_42 (by decide) ?_
      have w0 := Option.some.inj h
      subst w0
      exact xi_iret C Z dX4_signHere_43
    · have h := ie_i c2 h
      refine xi_aload_n C dX4_signHere_18 rfl 0 rfl ?_
      refine xi_get C dX4_signHere_19 iw_X4_signHere_4 0 rfl rfl 2 (by decide) fl_X4_signHere_19 rfl ?_
      refine xi_aload_n C dX4_signHere_22 rfl 0 rfl ?_
      refine xi_get C dX4_signHere_23 iw_X4_signHere_4 0 rfl rfl 0 (by decide) fl_X4_signHere_9 rfl ?_
      refine xi_alen (v := 80) C dX4_signHere_26 1 1 rfl rfl rfl ?_
      refine xi_icmp_ge (tgt := 42) C dX4_signHere_27 (by decide) (fun c3 => ?_) (fun c3 => ?_)
      · have h := it_i c3 h
        refine xi_iconst (v := (-1)) C dX4_signHere_42 (by decide) ?_
        have w0 := Option.some.inj h
        subst w0
        exact xi_iret C Z dX4_signHere_43
      · have h := ie_i c3 h
        refine xi_aload_n C dX4_signHere_30 rfl 0 rfl ?_
        refine xi_get C dX4_signHere_31 iw_X4_signHere_4 0 rfl rfl 0 (by decide) fl_X4_signHere_9 rfl ?_
        refine xi_aload_n C dX4_signHere_34 rfl 0 rfl ?_
        refine xi_get C dX4_signHere_35 iw_X4_signHere_4 0 rfl rfl 2 (by decide) fl_X4_signHere_19 rfl ?_
        obtain ⟨v4, e5, h⟩ := ob_i h
        refine xi_cald C dX4_signHere_38 1 1 rfl rfl e5 ?_
        refine xi_goto (tgt := 43) C dX4_signHere_39 (by decide) ?_
        have w0 := Option.some.inj h
        subst w0
        exact xi_iret C Z dX4_signHere_43
def f_X4_digitHere (Sg : Nat → Int32) (ln : Int32) (at_ : Int32) : Option (Int32) :=
  (f_X4_signHere Sg ln at_).bind fun v1 =>
  if v1 < 48 then
    some (-1)
  else
    if 57 < v1 then
      some (-1)
    else
      some (v1 - 48)
theorem k_X4_digitHere : xb_Y yX4_digitHere cX4_digitHere wsX4_digitHere 2 (some .int) { frames := 1, cells := 0, slots := 0, locals := 20 } 0 := ⟨⟨_, rfl⟩, by decide, ⟨by decide, by decide, by decide +kernel⟩, rfl, rfl⟩
set_option maxHeartbeats 4000000 in
set_option maxRecDepth 100000 in
theorem m_X4_digitHere (D : va_G) (cI cC cZ cR : ClassId) (y0 y1 : Nat) (Sg : Nat → Int32) (ln : Int32) (at_ : Int32) (r : Int32) (h : f_X4_digitHere Sg ln at_ = some r) : xb_M cX4_digitHere wsX4_digitHere RX4 { frames := 1, cells := 0, slots := 0, locals := 20 } (some .int) 2 (xb_ty cI cC cZ cR) D [.ref y0] (wTe cC y0 y1 Sg ln at_) (some (.int r)) (wTe cC y0 y1 Sg ln at_) := by
  intro X C Z
  show xb_G X 0 0 (wTe cC y0 y1 Sg ln at_) [(0, .ref y0)] 0 []
  unfold f_X4_digitHere at h
  refine xi_aload_n C dX4_digitHere_0 rfl 0 rfl ?_
  obtain ⟨v1, e2, h⟩ := ob_i h
  refine xi_callV (As := []) (o := some (.int v1)) (rest := []) (w2 := (wTe cC y0 y1 Sg ln at_)) (st2 := [.int v1]) C k_X4_signHere (m_X4_signHere D cI cC cZ cR y0 y1 Sg ln at_ v1 e2) gX4_digitHere_X4_signHere dX4_digitHere_1 ⟨Nat.le_of_ble_eq_true rfl, Nat.le_of_ble_eq_true rfl, Nat.le_of_ble_eq_true rfl⟩ 0 rfl rfl [0, 1] rfl rfl [0, 1, 2, 3] rfl rfl rfl rfl (Nat.le_of_ble_eq_true rfl) ⟨Nat.zero_le _, Nat.zero_le _⟩ rfl ?_
  refine xi_istore_n (lv2 := [(0, .ref y0), (1, .int v1)]) C dX4_digitHere_4 rfl (by decide) [0] [1, 0] rfl ?_
  refine xi_iload_n C dX4_digitHere_5 rfl 1 rfl ?_
  refine xi_bipush (v := 48) C dX4_digitHere_6 (by decide) ?_
  refine xi_icmp_lt (tgt := 24) C dX4_digitHere_8 (by decide) (fun c3 => ?_) (fun c3 => ?_)
  · have h := it_i c3 h
    refine xi_iconst (v := (-1)) C dX4_digitHere_24 (by decide) ?_
    have w0 := Option.some.inj h
    subst w0
    exact xi_iret C Z dX4_digitHere_25
  · have h := ie_i c3 h
    refine xi_iload_n C dX4_digitHere_11 rfl 1 rfl ?_
    refine xi_bipush (v := 57) C dX4_digitHere_12 (by decide) ?_
    refine xi_icmp_gt (tgt := 24) C dX4_digitHere_14 (by decide) (fun c4 => ?_) (fun c4 => ?_)
    · have h := it_i c4 h
      refine xi_iconst (v := (-1)) C dX4_digitHere_24 (by decide) ?_
      have w0 := Option.some.inj h
      subst w0
      exact xi_iret C Z dX4_digitHere_25
    · have h := ie_i c4 h
      refine xi_iload_n C dX4_digitHere_17 rfl 1 rfl ?_
      refine xi_bipush (v := 48) C dX4_digitHere_18 (by decide) ?_
      refine xi_isub C dX4_digitHere_20 ?_
      refine xi_goto (tgt := 25) C dX4_digitHere_21 (by decide) ?_
      have w0 := Option.some.inj h
      subst w0
      exact xi_iret C Z dX4_digitHere_25
def f_X4_readNumber (Sg : Nat → Int32) (ln : Int32) (at_ : Int32) (p1 : Int32) : Option (Int32 × Int32) :=
  (f_X4_digitHere Sg ln at_).bind fun v1 =>
  if v1 = (-1) then
    some ((-1), at_)
  else
    if v1 ≤ p1 then
      (f_X4_digitHere Sg ln (at_ + 1)).bind fun v5 =>
      if v1 ≤ 0 then
        some (v1, at_ + 1)
      else
        if v5 = (-1) then
          some (v1, at_ + 1)
        else
          if p1 < ((v1 * 10) + v5) then
            some (v1, at_ + 1)
          else
            some ((v1 * 10) + v5, (at_ + 1) + 1)
    else
      some ((-1), at_)
theorem k_X4_readNumber : xb_Y yX4_readNumber cX4_readNumber wsX4_readNumber 4 (some .int) { frames := 2, cells := 0, slots := 0, locals := 41 } 1 := ⟨⟨_, rfl⟩, by decide, ⟨by decide, by decide, by decide +kernel⟩, rfl, rfl⟩
theorem fl_X4_readNumber_19 : Cond.fieldLink RX4 19 "LookupBoard$PlanText" "at" "I" ∈ wsX4_readNumber := List.mem_of_getElem? (i := 1) rfl
theorem iw_X4_readNumber_4 : ∀ w ∈ wsX40, w ∈ wsX4_readNumber := fun w h => List.mem_cons_of_mem _ (List.mem_append_right _ h)
set_option maxHeartbeats 4000000 in
set_option maxRecDepth 100000 in
theorem m_X4_readNumber (D : va_G) (cI cC cZ cR : ClassId) (y0 y1 : Nat) (Sg : Nat → Int32) (ln : Int32) (at_ : Int32) (p1 : Int32) (r : Int32) (at' : Int32) (h : f_X4_readNumber Sg ln at_ p1 = some (r, at')) : xb_M cX4_readNumber wsX4_readNumber RX4 { frames := 2, cells := 0, slots := 0, locals := 41 } (some .int) 4 (xb_ty cI cC cZ cR) D [.ref y0, .int p1] (wTe cC y0 y1 Sg ln at_) (some (.int r)) (wTe cC y0 y1 Sg ln at') := by
  intro X C Z
  show xb_G X 0 0 (wTe cC y0 y1 Sg ln at_) [(0, .ref y0), (1, .int p1)] 0 []
  unfold f_X4_readNumber at h
  refine xi_aload_n C dX4_readNumber_0 rfl 0 rfl ?_
  obtain ⟨v1, e2, h⟩ := ob_i h
  refine xi_callV (As := []) (o := some (.int v1)) (rest := []) (w2 := (wTe cC y0 y1 Sg ln at_)) (st2 := [.int v1]) C k_X4_digitHere (m_X4_digitHere D cI cC cZ cR y0 y1 Sg ln at_ v1 e2) gX4_readNumber_X4_digitHere dX4_readNumber_1 ⟨Nat.le_of_ble_eq_true rfl, Nat.le_of_ble_eq_true rfl, Nat.le_of_ble_eq_true rfl⟩ 0 rfl rfl [0, 1] rfl rfl [0, 1, 2, 3] rfl rfl rfl rfl (Nat.le_of_ble_eq_true rfl) ⟨Nat.zero_le _, Nat.zero_le _⟩ rfl ?_
  refine xi_istore_n (lv2 := [(0, .ref y0), (1, .int p1), (2, .int v1)]) C dX4_readNumber_4 rfl (by decide) [0, 1] [1, 2, 0] rfl ?_
  refine xi_iload_n C dX4_readNumber_5 rfl 2 rfl ?_
  refine xi_iconst (v := (-1)) C dX4_readNumber_6 (by decide) ?_
  refine xi_icmp_eq (tgt := 15) C dX4_readNumber_7 (by decide) (fun c3 => ?_) (fun c3 => ?_)
  · have h := it_i c3 h
    refine xi_iconst (v := (-1)) C dX4_readNumber_15 (by decide) ?_
    have w0 := Option.some.inj h
    obtain ⟨q0, w1⟩ := Prod.mk.inj w0
    subst q0
    subst w1
    exact xi_iret C Z dX4_readNumber_16
  · have h := ie_i c3 h
    refine xi_iload_n C dX4_readNumber_10 rfl 2 rfl ?_
    refine xi_iload_n C dX4_readNumber_11 rfl 1 rfl ?_
    refine xi_icmp_le (tgt := 17) C dX4_readNumber_12 (by decide) (fun c4 => ?_) (fun c4 => ?_)
    · have h := it_i c4 h
      refine xi_aload_n C dX4_readNumber_17 rfl 0 rfl ?_
      refine xi_dup C dX4_readNumber_18 rfl ?_
      refine xi_get C dX4_readNumber_19 iw_X4_readNumber_4 0 rfl rfl 2 (by decide) fl_X4_readNumber_19 rfl ?_
      refine xi_iconst (v := 1) C dX4_readNumber_22 (by decide) ?_
      refine xi_iadd C dX4_readNumber_23 ?_
      refine xi_put (ty := .int) (w2 := (wTe cC y0 y1 Sg ln (at_ + 1))) C dX4_readNumber_24 iw_X4_readNumber_4 tyX4 tyX4_ok nmX4 0 rfl rfl 2 (by decide) fl_X4_readNumber_19 rfl (by decide +kernel) (by rfl) (by rfl) (Nat.le_of_ble_eq_true rfl) rfl ?_
      refine xi_aload_n C dX4_readNumber_27 rfl 0 rfl ?_
      obtain ⟨v5, e6, h⟩ := ob_i h
      refine xi_callV (As := []) (o := some (.int v5)) (rest := []) (w2 := (wTe cC y0 y1 Sg ln (at_ + 1))) (st2 := [.int v5]) C k_X4_digitHere (m_X4_digitHere D cI cC cZ cR y0 y1 Sg ln (at_ + 1) v5 e6) gX4_readNumber_X4_digitHere dX4_readNumber_28 ⟨Nat.le_of_ble_eq_true rfl, Nat.le_of_ble_eq_true rfl, Nat.le_of_ble_eq_true rfl⟩ 0 rfl rfl [0, 1] rfl rfl [0, 1, 2, 3] rfl rfl rfl rfl (Nat.le_of_ble_eq_true rfl) ⟨Nat.zero_le _, Nat.zero_le _⟩ rfl ?_
      refine xi_istore_n (lv2 := [(0, .ref y0), (1, .int p1), (2, .int v1), (3, .int v5)]) C dX4_readNumber_31 rfl (by decide) [0, 1, 2] [1, 2, 3, 0] rfl ?_
      refine xi_iload_n C dX4_readNumber_32 rfl 2 rfl ?_
      refine xi_if_le (tgt := 68) C dX4_readNumber_33 (by decide) (fun c7 => ?_) (fun c7 => ?_)
      · have h := it_i c7 h
        refine xi_iload_n C dX4_readNumber_68 rfl 2 rfl ?_
        have w0 := Option.some.inj h
        obtain ⟨q0, w1⟩ := Prod.mk.inj w0
        subst q0
        subst w1
        exact xi_iret C Z dX4_readNumber_69
      · have h := ie_i c7 h
        refine xi_iload_n C dX4_readNumber_36 rfl 3 rfl ?_
        refine xi_iconst (v := (-1)) C dX4_readNumber_37 (by decide) ?_
        refine xi_icmp_eq (tgt := 68) C dX4_readNumber_38 (by decide) (fun c8 => ?_) (fun c8 => ?_)
        · have h := it_i c8 h
          refine xi_iload_n C dX4_readNumber_68 rfl 2 rfl ?_
          have w0 := Option.some.inj h
          obtain ⟨q0, w1⟩ := Prod.mk.inj w0
          subst q0
          subst w1
          exact xi_iret C Z dX4_readNumber_69
        · have h := ie_i c8 h
          refine xi_iload_n C dX4_readNumber_41 rfl 2 rfl ?_
          refine xi_bipush (v := 10) C dX4_readNumber_42 (by decide) ?_
          refine xi_imul C dX4_readNumber_44 ?_
          refine xi_iload_n C dX4_readNumber_45 rfl 3 rfl ?_
          refine xi_iadd C dX4_readNumber_46 ?_
          refine xi_iload_n C dX4_readNumber_47 rfl 1 rfl ?_
          refine xi_icmp_gt (tgt := 68) C dX4_readNumber_48 (by decide) (fun c9 => ?_) (fun c9 => ?_)
          · have h := it_i c9 h
            refine xi_iload_n C dX4_readNumber_68 rfl 2 rfl ?_
            have w0 := Option.some.inj h
            obtain ⟨q0, w1⟩ := Prod.mk.inj w0
            subst q0
            subst w1
            exact xi_iret C Z dX4_readNumber_69
          · have h := ie_i c9 h
            refine xi_iload_n C dX4_readNumber_51 rfl 2 rfl ?_
            refine xi_bipush (v := 10) C dX4_readNumber_52 (by decide) ?_
            refine xi_imul C dX4_readNumber_54 ?_
            refine xi_iload_n C dX4_readNumber_55 rfl 3 rfl ?_
            refine xi_iadd C dX4_readNumber_56 ?_
            refine xi_istore_n (lv2 := [(0, .ref y0), (1, .int p1), (2, .int ((v1 * 10) + v5)), (3, .int v5)]) C dX4_readNumber_57 rfl (by decide) [0, 1, 3] [1, 2, 0, 3] rfl ?_
            refine xi_aload_n C dX4_readNumber_58 rfl 0 rfl ?_
            refine xi_dup C dX4_readNumber_59 rfl ?_
            refine xi_get C dX4_readNumber_60 iw_X4_readNumber_4 0 rfl rfl 2 (by decide) fl_X4_readNumber_19 rfl ?_
            refine xi_iconst (v := 1) C dX4_readNumber_63 (by decide) ?_
            refine xi_iadd C dX4_readNumber_64 ?_
            refine xi_put (ty := .int) (w2 := (wTe cC y0 y1 Sg ln ((at_ + 1) + 1))) C dX4_readNumber_65 iw_X4_readNumber_4 tyX4 tyX4_ok nmX4 0 rfl rfl 2 (by decide) fl_X4_readNumber_19 rfl (by decide +kernel) (by rfl) (by rfl) (Nat.le_of_ble_eq_true rfl) rfl ?_
            refine xi_iload_n C dX4_readNumber_68 rfl 2 rfl ?_
            have w0 := Option.some.inj h
            obtain ⟨q0, w1⟩ := Prod.mk.inj w0
            subst q0
            subst w1
            exact xi_iret C Z dX4_readNumber_69
    · have h := ie_i c4 h
      refine xi_iconst (v := (-1)) C dX4_readNumber_15 (by decide) ?_
      have w0 := Option.some.inj h
      obtain ⟨q0, w1⟩ := Prod.mk.inj w0
      subst q0
      subst w1
      exact xi_iret C Z dX4_readNumber_16
def f_X4_pass (Sg : Nat → Int32) (ln : Int32) (at_ : Int32) (p1 : Int32) : Option (Int32 × Int32) :=
  (f_X4_signHere Sg ln at_).bind fun v1 =>
  if v1 = p1 then
    some (1, at_ + 1)
  else
    some (0, at_)
theorem k_X4_pass : xb_Y yX4_pass cX4_pass wsX4_pass 2 (some .boolean) { frames := 1, cells := 0, slots := 0, locals := 20 } 1 := ⟨⟨_, rfl⟩, by decide, ⟨by decide, by decide, by decide +kernel⟩, rfl, rfl⟩
theorem fl_X4_pass_19 : Cond.fieldLink RX4 19 "LookupBoard$PlanText" "at" "I" ∈ wsX4_pass := List.mem_of_getElem? (i := 1) rfl
theorem iw_X4_pass_4 : ∀ w ∈ wsX40, w ∈ wsX4_pass := fun w h => List.mem_cons_of_mem _ (List.mem_append_right _ h)
set_option maxHeartbeats 4000000 in
set_option maxRecDepth 100000 in
theorem m_X4_pass (D : va_G) (cI cC cZ cR : ClassId) (y0 y1 : Nat) (Sg : Nat → Int32) (ln : Int32) (at_ : Int32) (p1 : Int32) (r : Int32) (at' : Int32) (h : f_X4_pass Sg ln at_ p1 = some (r, at')) : xb_M cX4_pass wsX4_pass RX4 { frames := 1, cells := 0, slots := 0, locals := 20 } (some .boolean) 2 (xb_ty cI cC cZ cR) D [.ref y0, .int p1] (wTe cC y0 y1 Sg ln at_) (some (.int r)) (wTe cC y0 y1 Sg ln at') := by
  intro X C Z
  show xb_G X 0 0 (wTe cC y0 y1 Sg ln at_) [(0, .ref y0), (1, .int p1)] 0 []
  unfold f_X4_pass at h
  refine xi_aload_n C dX4_pass_0 rfl 0 rfl ?_
  obtain ⟨v1, e2, h⟩ := ob_i h
  refine xi_callV (As := []) (o := some (.int v1)) (rest := []) (w2 := (wTe cC y0 y1 Sg ln at_)) (st2 := [.int v1]) C k_X4_signHere (m_X4_signHere D cI cC cZ cR y0 y1 Sg ln at_ v1 e2) gX4_pass_X4_signHere dX4_pass_1 ⟨Nat.le_of_ble_eq_true rfl, Nat.le_of_ble_eq_true rfl, Nat.le_of_ble_eq_true rfl⟩ 0 rfl rfl [0, 1] rfl rfl [0, 1, 2, 3] rfl rfl rfl rfl (Nat.le_of_ble_eq_true rfl) ⟨Nat.zero_le _, Nat.zero_le _⟩ rfl ?_
  refine xi_iload_n C dX4_pass_4 rfl 1 rfl ?_
  refine xi_icmp_eq (tgt := 10) C dX4_pass_5 (by decide) (fun c3 => ?_) (fun c3 => ?_)
  · have h := it_i c3 h
    refine xi_aload_n C dX4_pass_10 rfl 0 rfl ?_
    refine xi_dup C dX4_pass_11 rfl ?_
    refine xi_get C dX4_pass_12 iw_X4_pass_4 0 rfl rfl 2 (by decide) fl_X4_pass_19 rfl ?_
    refine xi_iconst (v := 1) C dX4_pass_15 (by decide) ?_
    refine xi_iadd C dX4_pass_16 ?_
    refine xi_put (ty := .int) (w2 := (wTe cC y0 y1 Sg ln (at_ + 1))) C dX4_pass_17 iw_X4_pass_4 tyX4 tyX4_ok nmX4 0 rfl rfl 2 (by decide) fl_X4_pass_19 rfl (by decide +kernel) (by rfl) (by rfl) (Nat.le_of_ble_eq_true rfl) rfl ?_
    refine xi_iconst (v := 1) C dX4_pass_20 (by decide) ?_
    have w0 := Option.some.inj h
    obtain ⟨q0, w1⟩ := Prod.mk.inj w0
    subst q0
    subst w1
    exact xi_zret C Z dX4_pass_21 xb_nz1
  · have h := ie_i c3 h
    refine xi_iconst (v := 0) C dX4_pass_8 (by decide) ?_
    have w0 := Option.some.inj h
    obtain ⟨q0, w1⟩ := Prod.mk.inj w0
    subst q0
    subst w1
    exact xi_zret C Z dX4_pass_9 xb_nz0
def f_X4_readTableSign (Sg : Nat → Int32) (ln : Int32) (at_ : Int32) : Option (Int32 × Int32) :=
  (f_X4_signHere Sg ln at_).bind fun v1 =>
  if v1 < 97 then
    (f_X4_digitHere Sg ln at_).bind fun v4 =>
    if v4 = (-1) then
      some (v4, at_)
    else
      some (v4, at_ + 1)
  else
    if 102 < v1 then
      (f_X4_digitHere Sg ln at_).bind fun v8 =>
      if v8 = (-1) then
        some (v8, at_)
      else
        some (v8, at_ + 1)
    else
      if ((v1 - 97) + 10) = (-1) then
        some ((v1 - 97) + 10, at_)
      else
        some ((v1 - 97) + 10, at_ + 1)
theorem k_X4_readTableSign : xb_Y yX4_readTableSign cX4_readTableSign wsX4_readTableSign 3 (some .int) { frames := 2, cells := 0, slots := 0, locals := 41 } 0 := ⟨⟨_, rfl⟩, by decide, ⟨by decide, by decide, by decide +kernel⟩, rfl, rfl⟩
theorem fl_X4_readTableSign_19 : Cond.fieldLink RX4 19 "LookupBoard$PlanText" "at" "I" ∈ wsX4_readTableSign := List.mem_of_getElem? (i := 1) rfl
theorem iw_X4_readTableSign_4 : ∀ w ∈ wsX40, w ∈ wsX4_readTableSign := fun w h => List.mem_cons_of_mem _ (List.mem_append_right _ h)
set_option maxHeartbeats 4000000 in
set_option maxRecDepth 100000 in
theorem m_X4_readTableSign (D : va_G) (cI cC cZ cR : ClassId) (y0 y1 : Nat) (Sg : Nat → Int32) (ln : Int32) (at_ : Int32) (r : Int32) (at' : Int32) (h : f_X4_readTableSign Sg ln at_ = some (r, at')) : xb_M cX4_readTableSign wsX4_readTableSign RX4 { frames := 2, cells := 0, slots := 0, locals := 41 } (some .int) 3 (xb_ty cI cC cZ cR) D [.ref y0] (wTe cC y0 y1 Sg ln at_) (some (.int r)) (wTe cC y0 y1 Sg ln at') := by
  intro X C Z
  show xb_G X 0 0 (wTe cC y0 y1 Sg ln at_) [(0, .ref y0)] 0 []
  unfold f_X4_readTableSign at h
  refine xi_aload_n C dX4_readTableSign_0 rfl 0 rfl ?_
  obtain ⟨v1, e2, h⟩ := ob_i h
  refine xi_callV (As := []) (o := some (.int v1)) (rest := []) (w2 := (wTe cC y0 y1 Sg ln at_)) (st2 := [.int v1]) C k_X4_signHere (m_X4_signHere D cI cC cZ cR y0 y1 Sg ln at_ v1 e2) gX4_readTableSign_X4_signHere dX4_readTableSign_1 ⟨Nat.le_of_ble_eq_true rfl, Nat.le_of_ble_eq_true rfl, Nat.le_of_ble_eq_true rfl⟩ 0 rfl rfl [0, 1] rfl rfl [0, 1, 2, 3] rfl rfl rfl rfl (Nat.le_of_ble_eq_true rfl) ⟨Nat.zero_le _, Nat.zero_le _⟩ rfl ?_
  refine xi_istore_n (lv2 := [(0, .ref y0), (1, .int v1)]) C dX4_readTableSign_4 rfl (by decide) [0] [1, 0] rfl ?_
  refine xi_iload_n C dX4_readTableSign_5 rfl 1 rfl ?_
  refine xi_bipush (v := 97) C dX4_readTableSign_6 (by decide) ?_
  refine xi_icmp_lt (tgt := 27) C dX4_readTableSign_8 (by decide) (fun c3 => ?_) (fun c3 => ?_)
  · have h := it_i c3 h
    refine xi_aload_n C dX4_readTableSign_27 rfl 0 rfl ?_
    obtain ⟨v4, e5, h⟩ := ob_i h
    refine xi_callV (As := []) (o := some (.int v4)) (rest := []) (w2 := (wTe cC y0 y1 Sg ln at_)) (st2 := [.int v4]) C k_X4_digitHere (m_X4_digitHere D cI cC cZ cR y0 y1 Sg ln at_ v4 e5) gX4_readTableSign_X4_digitHere dX4_readTableSign_28 ⟨Nat.le_of_ble_eq_true rfl, Nat.le_of_ble_eq_true rfl, Nat.le_of_ble_eq_true rfl⟩ 0 rfl rfl [0, 1] rfl rfl [0, 1, 2, 3] rfl rfl rfl rfl (Nat.le_of_ble_eq_true rfl) ⟨Nat.zero_le _, Nat.zero_le _⟩ rfl ?_
    refine xi_istore_n (lv2 := [(0, .ref y0), (1, .int v1), (2, .int v4)]) C dX4_readTableSign_31 rfl (by decide) [0, 1] [1, 2, 0] rfl ?_
    refine xi_iload_n C dX4_readTableSign_32 rfl 2 rfl ?_
    refine xi_iconst (v := (-1)) C dX4_readTableSign_33 (by decide) ?_
    refine xi_icmp_eq (tgt := 47) C dX4_readTableSign_34 (by decide) (fun c6 => ?_) (fun c6 => ?_)
    · have h := it_i c6 h
      refine xi_iload_n C dX4_readTableSign_47 rfl 2 rfl ?_
      have w0 := Option.some.inj h
      obtain ⟨q0, w1⟩ := Prod.mk.inj w0
      subst q0
      subst w1
      exact xi_iret C Z dX4_readTableSign_48
    · have h := ie_i c6 h
      refine xi_aload_n C dX4_readTableSign_37 rfl 0 rfl ?_
      refine xi_dup C dX4_readTableSign_38 rfl ?_
      refine xi_get C dX4_readTableSign_39 iw_X4_readTableSign_4 0 rfl rfl 2 (by decide) fl_X4_readTableSign_19 rfl ?_
      refine xi_iconst (v := 1) C dX4_readTableSign_42 (by decide) ?_
      refine xi_iadd C dX4_readTableSign_43 ?_
      refine xi_put (ty := .int) (w2 := (wTe cC y0 y1 Sg ln (at_ + 1))) C dX4_readTableSign_44 iw_X4_readTableSign_4 tyX4 tyX4_ok nmX4 0 rfl rfl 2 (by decide) fl_X4_readTableSign_19 rfl (by decide +kernel) (by rfl) (by rfl) (Nat.le_of_ble_eq_true rfl) rfl ?_
      refine xi_iload_n C dX4_readTableSign_47 rfl 2 rfl ?_
      have w0 := Option.some.inj h
      obtain ⟨q0, w1⟩ := Prod.mk.inj w0
      subst q0
      subst w1
      exact xi_iret C Z dX4_readTableSign_48
  · have h := ie_i c3 h
    refine xi_iload_n C dX4_readTableSign_11 rfl 1 rfl ?_
    refine xi_bipush (v := 102) C dX4_readTableSign_12 (by decide) ?_
    refine xi_icmp_gt (tgt := 27) C dX4_readTableSign_14 (by decide) (fun c7 => ?_) (fun c7 => ?_)
    · have h := it_i c7 h
      refine xi_aload_n C dX4_readTableSign_27 rfl 0 rfl ?_
      obtain ⟨v8, e9, h⟩ := ob_i h
      refine xi_callV (As := []) (o := some (.int v8)) (rest := []) (w2 := (wTe cC y0 y1 Sg ln at_)) (st2 := [.int v8]) C k_X4_digitHere (m_X4_digitHere D cI cC cZ cR y0 y1 Sg ln at_ v8 e9) gX4_readTableSign_X4_digitHere dX4_readTableSign_28 ⟨Nat.le_of_ble_eq_true rfl, Nat.le_of_ble_eq_true rfl, Nat.le_of_ble_eq_true rfl⟩ 0 rfl rfl [0, 1] rfl rfl [0, 1, 2, 3] rfl rfl rfl rfl (Nat.le_of_ble_eq_true rfl) ⟨Nat.zero_le _, Nat.zero_le _⟩ rfl ?_
      refine xi_istore_n (lv2 := [(0, .ref y0), (1, .int v1), (2, .int v8)]) C dX4_readTableSign_31 rfl (by decide) [0, 1] [1, 2, 0] rfl ?_
      refine xi_iload_n C dX4_readTableSign_32 rfl 2 rfl ?_
      refine xi_iconst (v := (-1)) C dX4_readTableSign_33 (by decide) ?_
      refine xi_icmp_eq (tgt := 47) C dX4_readTableSign_34 (by decide) (fun c10 => ?_) (fun c10 => ?_)
      · have h := it_i c10 h
        refine xi_iload_n C dX4_readTableSign_47 rfl 2 rfl ?_
        have w0 := Option.some.inj h
        obtain ⟨q0, w1⟩ := Prod.mk.inj w0
        subst q0
        subst w1
        exact xi_iret C Z dX4_readTableSign_48
      · have h := ie_i c10 h
        refine xi_aload_n C dX4_readTableSign_37 rfl 0 rfl ?_
        refine xi_dup C dX4_readTableSign_38 rfl ?_
        refine xi_get C dX4_readTableSign_39 iw_X4_readTableSign_4 0 rfl rfl 2 (by decide) fl_X4_readTableSign_19 rfl ?_
        refine xi_iconst (v := 1) C dX4_readTableSign_42 (by decide) ?_
        refine xi_iadd C dX4_readTableSign_43 ?_
        refine xi_put (ty := .int) (w2 := (wTe cC y0 y1 Sg ln (at_ + 1))) C dX4_readTableSign_44 iw_X4_readTableSign_4 tyX4 tyX4_ok nmX4 0 rfl rfl 2 (by decide) fl_X4_readTableSign_19 rfl (by decide +kernel) (by rfl) (by rfl) (Nat.le_of_ble_eq_true rfl) rfl ?_
        refine xi_iload_n C dX4_readTableSign_47 rfl 2 rfl ?_
        have w0 := Option.some.inj h
        obtain ⟨q0, w1⟩ := Prod.mk.inj w0
        subst q0
        subst w1
        exact xi_iret C Z dX4_readTableSign_48
    · have h := ie_i c7 h
      refine xi_iload_n C dX4_readTableSign_17 rfl 1 rfl ?_
      refine xi_bipush (v := 97) C dX4_readTableSign_18 (by decide) ?_
      refine xi_isub C dX4_readTableSign_20 ?_
      refine xi_bipush (v := 10) C dX4_readTableSign_21 (by decide) ?_
      refine xi_iadd C dX4_readTableSign_23 ?_
      refine xi_goto (tgt := 31) C dX4_readTableSign_24 (by decide) ?_
      refine xi_istore_n (lv2 := [(0, .ref y0), (1, .int v1), (2, .int ((v1 - 97) + 10))]) C dX4_readTableSign_31 rfl (by decide) [0, 1] [1, 2, 0] rfl ?_
      refine xi_iload_n C dX4_readTableSign_32 rfl 2 rfl ?_
      refine xi_iconst (v := (-1)) C dX4_readTableSign_33 (by decide) ?_
      refine xi_icmp_eq (tgt := 47) C dX4_readTableSign_34 (by decide) (fun c11 => ?_) (fun c11 => ?_)
      · have h := it_i c11 h
        refine xi_iload_n C dX4_readTableSign_47 rfl 2 rfl ?_
        have w0 := Option.some.inj h
        obtain ⟨q0, w1⟩ := Prod.mk.inj w0
        subst q0
        subst w1
        exact xi_iret C Z dX4_readTableSign_48
      · have h := ie_i c11 h
        refine xi_aload_n C dX4_readTableSign_37 rfl 0 rfl ?_
        refine xi_dup C dX4_readTableSign_38 rfl ?_
        refine xi_get C dX4_readTableSign_39 iw_X4_readTableSign_4 0 rfl rfl 2 (by decide) fl_X4_readTableSign_19 rfl ?_
        refine xi_iconst (v := 1) C dX4_readTableSign_42 (by decide) ?_
        refine xi_iadd C dX4_readTableSign_43 ?_
        refine xi_put (ty := .int) (w2 := (wTe cC y0 y1 Sg ln (at_ + 1))) C dX4_readTableSign_44 iw_X4_readTableSign_4 tyX4 tyX4_ok nmX4 0 rfl rfl 2 (by decide) fl_X4_readTableSign_19 rfl (by decide +kernel) (by rfl) (by rfl) (Nat.le_of_ble_eq_true rfl) rfl ?_
        refine xi_iload_n C dX4_readTableSign_47 rfl 2 rfl ?_
        have w0 := Option.some.inj h
        obtain ⟨q0, w1⟩ := Prod.mk.inj w0
        subst q0
        subst w1
        exact xi_iret C Z dX4_readTableSign_48
def f_X4_readSource (Sg : Nat → Int32) (ln : Int32) (at_ : Int32) : Option (Int32 × Int32) :=
  (f_X4_pass Sg ln at_ 99).bind fun (v1, at2) =>
  if v1 = 0 then
    (f_X4_pass Sg ln at2 112).bind fun (v5, at6) =>
    if v5 = 0 then
      (f_X4_pass Sg ln at6 48).bind fun (v9, at10) =>
      if v9 = 0 then
        (f_X4_pass Sg ln at10 49).bind fun (v13, at14) =>
        if v13 = 0 then
          some ((-1), at14)
        else
          some (33, at14)
      else
        some (32, at10)
    else
      (f_X4_readNumber Sg ln at6 7).bind fun (v17, at18) =>
      if v17 = (-1) then
        some ((-1), at18)
      else
        some (24 + v17, at18)
  else
    (f_X4_readNumber Sg ln at2 23).bind fun (v21, at22) =>
    some (v21, at22)
theorem k_X4_readSource : xb_Y yX4_readSource cX4_readSource wsX4_readSource 2 (some .int) { frames := 3, cells := 0, slots := 0, locals := 64 } 0 := ⟨⟨_, rfl⟩, by decide, ⟨by decide, by decide, by decide +kernel⟩, rfl, rfl⟩
set_option maxHeartbeats 4000000 in
set_option maxRecDepth 100000 in
theorem m_X4_readSource (D : va_G) (cI cC cZ cR : ClassId) (y0 y1 : Nat) (Sg : Nat → Int32) (ln : Int32) (at_ : Int32) (r : Int32) (at' : Int32) (h : f_X4_readSource Sg ln at_ = some (r, at')) : xb_M cX4_readSource wsX4_readSource RX4 { frames := 3, cells := 0, slots := 0, locals := 64 } (some .int) 2 (xb_ty cI cC cZ cR) D [.ref y0] (wTe cC y0 y1 Sg ln at_) (some (.int r)) (wTe cC y0 y1 Sg ln at') := by
  intro X C Z
  show xb_G X 0 0 (wTe cC y0 y1 Sg ln at_) [(0, .ref y0)] 0 []
  unfold f_X4_readSource at h
  refine xi_aload_n C dX4_readSource_0 rfl 0 rfl ?_
  refine xi_bipush (v := 99) C dX4_readSource_1 (by decide) ?_
  obtain ⟨⟨v1, at2⟩, e3, h⟩ := ob_i h
  refine xi_callV (As := [.int 99]) (o := some (.int v1)) (rest := []) (w2 := (wTe cC y0 y1 Sg ln at2)) (st2 := [.int v1]) C k_X4_pass (m_X4_pass D cI cC cZ cR y0 y1 Sg ln at_ 99 v1 at2 e3) gX4_readSource_X4_pass dX4_readSource_3 ⟨Nat.le_of_ble_eq_true rfl, Nat.le_of_ble_eq_true rfl, Nat.le_of_ble_eq_true rfl⟩ 0 rfl rfl [0, 1] rfl rfl [0, 1, 2, 3] rfl rfl rfl rfl (Nat.le_of_ble_eq_true rfl) ⟨Nat.zero_le _, Nat.zero_le _⟩ rfl ?_
  refine xi_if_eq (tgt := 16) C dX4_readSource_6 (by decide) (fun c4 => ?_) (fun c4 => ?_)
  · have h := it_i c4 h
    refine xi_aload_n C dX4_readSource_16 rfl 0 rfl ?_
    refine xi_bipush (v := 112) C dX4_readSource_17 (by decide) ?_
    obtain ⟨⟨v5, at6⟩, e7, h⟩ := ob_i h
    refine xi_callV (As := [.int 112]) (o := some (.int v5)) (rest := []) (w2 := (wTe cC y0 y1 Sg ln at6)) (st2 := [.int v5]) C k_X4_pass (m_X4_pass D cI cC cZ cR y0 y1 Sg ln at2 112 v5 at6 e7) gX4_readSource_X4_pass dX4_readSource_19 ⟨Nat.le_of_ble_eq_true rfl, Nat.le_of_ble_eq_true rfl, Nat.le_of_ble_eq_true rfl⟩ 0 rfl rfl [0, 1] rfl rfl [0, 1, 2, 3] rfl rfl rfl rfl (Nat.le_of_ble_eq_true rfl) ⟨Nat.zero_le _, Nat.zero_le _⟩ rfl ?_
    refine xi_if_eq (tgt := 46) C dX4_readSource_22 (by decide) (fun c8 => ?_) (fun c8 => ?_)
    · have h := it_i c8 h
      refine xi_aload_n C dX4_readSource_46 rfl 0 rfl ?_
      refine xi_bipush (v := 48) C dX4_readSource_47 (by decide) ?_
      obtain ⟨⟨v9, at10⟩, e11, h⟩ := ob_i h
      refine xi_callV (As := [.int 48]) (o := some (.int v9)) (rest := []) (w2 := (wTe cC y0 y1 Sg ln at10)) (st2 := [.int v9]) C k_X4_pass (m_X4_pass D cI cC cZ cR y0 y1 Sg ln at6 48 v9 at10 e11) gX4_readSource_X4_pass dX4_readSource_49 ⟨Nat.le_of_ble_eq_true rfl, Nat.le_of_ble_eq_true rfl, Nat.le_of_ble_eq_true rfl⟩ 0 rfl rfl [0, 1] rfl rfl [0, 1, 2, 3] rfl rfl rfl rfl (Nat.le_of_ble_eq_true rfl) ⟨Nat.zero_le _, Nat.zero_le _⟩ rfl ?_
      refine xi_if_eq (tgt := 58) C dX4_readSource_52 (by decide) (fun c12 => ?_) (fun c12 => ?_)
      · have h := it_i c12 h
        refine xi_aload_n C dX4_readSource_58 rfl 0 rfl ?_
        refine xi_bipush (v := 49) C dX4_readSource_59 (by decide) ?_
        obtain ⟨⟨v13, at14⟩, e15, h⟩ := ob_i h
        refine xi_callV (As := [.int 49]) (o := some (.int v13)) (rest := []) (w2 := (wTe cC y0 y1 Sg ln at14)) (st2 := [.int v13]) C k_X4_pass (m_X4_pass D cI cC cZ cR y0 y1 Sg ln at10 49 v13 at14 e15) gX4_readSource_X4_pass dX4_readSource_61 ⟨Nat.le_of_ble_eq_true rfl, Nat.le_of_ble_eq_true rfl, Nat.le_of_ble_eq_true rfl⟩ 0 rfl rfl [0, 1] rfl rfl [0, 1, 2, 3] rfl rfl rfl rfl (Nat.le_of_ble_eq_true rfl) ⟨Nat.zero_le _, Nat.zero_le _⟩ rfl ?_
        refine xi_if_eq (tgt := 72) C dX4_readSource_64 (by decide) (fun c16 => ?_) (fun c16 => ?_)
        · have h := it_i c16 h
          refine xi_iconst (v := (-1)) C dX4_readSource_72 (by decide) ?_
          have w0 := Option.some.inj h
          obtain ⟨q0, w1⟩ := Prod.mk.inj w0
          subst q0
          subst w1
          exact xi_iret C Z dX4_readSource_73
        · have h := ie_i c16 h
          refine xi_bipush (v := 33) C dX4_readSource_67 (by decide) ?_
          refine xi_goto (tgt := 73) C dX4_readSource_69 (by decide) ?_
          have w0 := Option.some.inj h
          obtain ⟨q0, w1⟩ := Prod.mk.inj w0
          subst q0
          subst w1
          exact xi_iret C Z dX4_readSource_73
      · have h := ie_i c12 h
        refine xi_bipush (v := 32) C dX4_readSource_55 (by decide) ?_
        have w0 := Option.some.inj h
        obtain ⟨q0, w1⟩ := Prod.mk.inj w0
        subst q0
        subst w1
        exact xi_iret C Z dX4_readSource_57
    · have h := ie_i c8 h
      refine xi_aload_n C dX4_readSource_25 rfl 0 rfl ?_
      refine xi_bipush (v := 7) C dX4_readSource_26 (by decide) ?_
      obtain ⟨⟨v17, at18⟩, e19, h⟩ := ob_i h
      refine xi_callV (As := [.int 7]) (o := some (.int v17)) (rest := []) (w2 := (wTe cC y0 y1 Sg ln at18)) (st2 := [.int v17]) C k_X4_readNumber (m_X4_readNumber D cI cC cZ cR y0 y1 Sg ln at6 7 v17 at18 e19) gX4_readSource_X4_readNumber dX4_readSource_28 ⟨Nat.le_of_ble_eq_true rfl, Nat.le_of_ble_eq_true rfl, Nat.le_of_ble_eq_true rfl⟩ 0 rfl rfl [0, 1] rfl rfl [0, 1, 2, 3] rfl rfl rfl rfl (Nat.le_of_ble_eq_true rfl) ⟨Nat.zero_le _, Nat.zero_le _⟩ rfl ?_
      refine xi_istore_n (lv2 := [(0, .ref y0), (1, .int v17)]) C dX4_readSource_31 rfl (by decide) [0] [1, 0] rfl ?_
      refine xi_iload_n C dX4_readSource_32 rfl 1 rfl ?_
      refine xi_iconst (v := (-1)) C dX4_readSource_33 (by decide) ?_
      refine xi_icmp_ne (tgt := 41) C dX4_readSource_34 (by decide) (fun c20 => ?_) (fun c20 => ?_)
      · have h := ie_i c20 h
        refine xi_bipush (v := 24) C dX4_readSource_41 (by decide) ?_
        refine xi_iload_n C dX4_readSource_43 rfl 1 rfl ?_
        refine xi_iadd C dX4_readSource_44 ?_
        have w0 := Option.some.inj h
        obtain ⟨q0, w1⟩ := Prod.mk.inj w0
        subst q0
        subst w1
        exact xi_iret C Z dX4_readSource_45
      · have h := it_i c20 h
        refine xi_iconst (v := (-1)) C dX4_readSource_37 (by decide) ?_
        refine xi_goto (tgt := 45) C dX4_readSource_38 (by decide) ?_
        have w0 := Option.some.inj h
        obtain ⟨q0, w1⟩ := Prod.mk.inj w0
        subst q0
        subst w1
        exact xi_iret C Z dX4_readSource_45
  · have h := ie_i c4 h
    refine xi_aload_n C dX4_readSource_9 rfl 0 rfl ?_
    refine xi_bipush (v := 23) C dX4_readSource_10 (by decide) ?_
    obtain ⟨⟨v21, at22⟩, e23, h⟩ := ob_i h
    refine xi_callV (As := [.int 23]) (o := some (.int v21)) (rest := []) (w2 := (wTe cC y0 y1 Sg ln at22)) (st2 := [.int v21]) C k_X4_readNumber (m_X4_readNumber D cI cC cZ cR y0 y1 Sg ln at2 23 v21 at22 e23) gX4_readSource_X4_readNumber dX4_readSource_12 ⟨Nat.le_of_ble_eq_true rfl, Nat.le_of_ble_eq_true rfl, Nat.le_of_ble_eq_true rfl⟩ 0 rfl rfl [0, 1] rfl rfl [0, 1, 2, 3] rfl rfl rfl rfl (Nat.le_of_ble_eq_true rfl) ⟨Nat.zero_le _, Nat.zero_le _⟩ rfl ?_
    have w0 := Option.some.inj h
    obtain ⟨q0, w1⟩ := Prod.mk.inj w0
    subst q0
    subst w1
    exact xi_iret C Z dX4_readSource_15
def f_X4_readCell_66 (Sg : Nat → Int32) (ln : Int32) (T_66 : Nat → Int32) (x2_66 : Int32) (k : Int32 → (Nat → Int32) → Option (Int32 × Int32 × (Nat → Int32) × (Nat → Int32))) : Nat → Int32 → Int32 → (Nat → Int32) → Option (Int32 × Int32 × (Nat → Int32) × (Nat → Int32))
  | 0, _, _, _ => none
  | n + 1, x5_66, at__66, S_66 =>
    if 3 ≤ x5_66 then
      k at__66 S_66
    else
      (f_X4_pass Sg ln at__66 47).bind fun (v20, at21) =>
      if v20 = 0 then
        (f_X0_changeSource S_66 ((x2_66 * 3) + x5_66) 32).bind fun S25 =>
        f_X4_readCell_66 Sg ln T_66 x2_66 k n (x5_66 + 1) at21 S25
      else
        (f_X4_readSource Sg ln at21).bind fun (v27, at28) =>
        if v27 = (-1) then
          some (0, at28, T_66, S_66)
        else
          (f_X0_changeSource S_66 ((x2_66 * 3) + x5_66) v27).bind fun S31 =>
          f_X4_readCell_66 Sg ln T_66 x2_66 k n (x5_66 + 1) at28 S31
def f_X4_readCell (Sg : Nat → Int32) (ln : Int32) (at_ : Int32) (T : Nat → Int32) (S : Nat → Int32) : Option (Int32 × Int32 × (Nat → Int32) × (Nat → Int32)) :=
  (f_X4_readNumber Sg ln at_ 23).bind fun (v1, at2) =>
  if v1 = (-1) then
    some (0, at2, T, S)
  else
    (f_X4_pass Sg ln at2 61).bind fun (v5, at6) =>
    if v5 = 0 then
      some (0, at6, T, S)
    else
      (f_X4_readTableSign Sg ln at6).bind fun (v9, at10) =>
      if v9 = (-1) then
        some (0, at10, T, S)
      else
        (f_X4_readTableSign Sg ln at10).bind fun (v13, at14) =>
        if v13 = (-1) then
          some (0, at14, T, S)
        else
          (f_X0_changeTable T v1 ((v9 * 16) + v13)).bind fun T17 =>
          f_X4_readCell_66 Sg ln T17 v1 (fun at_z33 Sz33 =>
            some (1, at_z33, T17, Sz33)) xFu 0 at14 S
theorem k_X4_readCell : xb_Y yX4_readCell cX4_readCell wsX4_readCell 7 (some .boolean) { frames := 4, cells := 0, slots := 0, locals := 85 } 1 := ⟨⟨_, rfl⟩, by decide, ⟨by decide, by decide, by decide +kernel⟩, rfl, rfl⟩
set_option maxHeartbeats 4000000 in
set_option maxRecDepth 100000 in
theorem m_X4_readCell (D : va_G) (cI cC cZ cR : ClassId) (y0 y1 : Nat) (b0 b1 b2 b3 b4 b5 : Nat) (Sg : Nat → Int32) (ln : Int32) (at_ : Int32) (T : Nat → Int32) (S : Nat → Int32) (L : Nat → Int32) (J : Nat → Int32) (E : Nat → Int32) (cp : Int32) (su : Int32) (r : Int32) (at' : Int32) (T' : Nat → Int32) (S' : Nat → Int32) (h : f_X4_readCell Sg ln at_ T S = some (r, at', T', S')) : xb_M cX4_readCell wsX4_readCell RX4 { frames := 4, cells := 0, slots := 0, locals := 85 } (some .boolean) 7 (xb_ty cI cC cZ cR) D [.ref y0, .ref b0] (wTe cC y0 y1 Sg ln at_ ++ wBd cI b0 b1 b2 b3 b4 b5 T S L J E cp su) (some (.int r)) (wTe cC y0 y1 Sg ln at' ++ wBd cI b0 b1 b2 b3 b4 b5 T' S' L J E cp su) := by
  intro X C Z
  show xb_G X 0 0 (wTe cC y0 y1 Sg ln at_ ++ wBd cI b0 b1 b2 b3 b4 b5 T S L J E cp su) [(0, .ref y0), (1, .ref b0)] 0 []
  have lp66 : ∀ (T_66 : Nat → Int32) (x2_66 : Int32) (k : Int32 → (Nat → Int32) → Option (Int32 × Int32 × (Nat → Int32) × (Nat → Int32))) (n : Nat) (x5_66 : Int32) (at__66 : Int32) (S_66 : Nat → Int32), f_X4_readCell_66 Sg ln T_66 x2_66 k n x5_66 at__66 S_66 = some (r, at', T', S') → (∀ (at__66e : Int32) (S_66e : Nat → Int32), k at__66e S_66e = some (r, at', T', S') → xb_G X 0 0 (wTe cC y0 y1 Sg ln at__66e ++ wBd cI b0 b1 b2 b3 b4 b5 T_66 S_66e L J E cp su) [] 118 []) → xb_G X 0 0 (wTe cC y0 y1 Sg ln at__66 ++ wBd cI b0 b1 b2 b3 b4 b5 T_66 S_66 L J E cp su) [(0, .ref y0), (1, .ref b0), (2, .int x2_66), (5, .int x5_66)] 66 [] := by
    intro T_66 x2_66 k n
    induction n with
    | zero => intro x5_66 at__66 S_66 h hk; unfold f_X4_readCell_66 at h; cases h
    | succ n ih =>
      intro x5_66 at__66 S_66 h hk
      unfold f_X4_readCell_66 at h
      refine xi_iload C dX4_readCell_66 3 rfl ?_
      refine xi_iconst (v := 3) C dX4_readCell_68 (by decide) ?_
      refine xi_icmp_ge (tgt := 118) C dX4_readCell_69 (by decide) (fun c19 => ?_) (fun c19 => ?_)
      · have h := it_i c19 h
        exact xb_lv (hk at__66 S_66 h) [] rfl
      · have h := ie_i c19 h
        refine xi_aload_n C dX4_readCell_72 rfl 0 rfl ?_
        refine xi_bipush (v := 47) C dX4_readCell_73 (by decide) ?_
        obtain ⟨⟨v20, at21⟩, e22, h⟩ := ob_i h
        refine xi_callV (As := [.int 47]) (o := some (.int v20)) (rest := []) (w2 := (wTe cC y0 y1 Sg ln at21 ++ wBd cI b0 b1 b2 b3 b4 b5 T_66 S_66 L J E cp su)) (st2 := [.int v20]) C k_X4_pass (m_X4_pass D cI cC cZ cR y0 y1 Sg ln at__66 47 v20 at21 e22) gX4_readCell_X4_pass dX4_readCell_75 ⟨Nat.le_of_ble_eq_true rfl, Nat.le_of_ble_eq_true rfl, Nat.le_of_ble_eq_true rfl⟩ 0 rfl rfl [0, 1] rfl rfl [0, 1, 2, 3] rfl rfl (xb_mixq [2, 3, 4, 5, 6, 7] 8 rfl rfl rfl rfl (xb_smc rfl rfl (xb_smc rfl rfl (xb_smc rfl rfl (xb_smc rfl rfl (xb_smc rfl rfl (xb_smc rfl rfl xb_smn)))))) (by decide +kernel) (by decide +kernel)) rfl (Nat.le_of_ble_eq_true rfl) ⟨Nat.zero_le _, Nat.zero_le _⟩ rfl ?_
        refine xi_if_eq (tgt := 88) C dX4_readCell_78 (by decide) (fun c23 => ?_) (fun c23 => ?_)
        · have h := it_i c23 h
          refine xi_bipush (v := 32) C dX4_readCell_88 (by decide) ?_
          refine xi_istore (lv2 := [(0, .ref y0), (1, .ref b0), (2, .int x2_66), (5, .int x5_66), (6, .int 32)]) C dX4_readCell_90 (by decide) [0, 1, 2, 3] [1, 2, 3, 4, 0] rfl ?_
          refine xi_iload C dX4_readCell_92 4 rfl ?_
          refine xi_iconst (v := (-1)) C dX4_readCell_94 (by decide) ?_
          refine xi_icmp_ne (tgt := 100) C dX4_readCell_95 (by decide) (fun c24 => ?_) (fun c24 => ?_)
          rotate_left
          · first | exact absurd c24 (by decide) | exact absurd (by decide) c24
          refine xi_aload_n C dX4_readCell_100 rfl 1 rfl ?_
          refine xi_iload_n C dX4_readCell_101 rfl 2 rfl ?_
          refine xi_iconst (v := 3) C dX4_readCell_102 (by decide) ?_
          refine xi_imul C dX4_readCell_103 ?_
          refine xi_iload C dX4_readCell_104 3 rfl ?_
          refine xi_iadd C dX4_readCell_106 ?_
          refine xi_iload C dX4_readCell_107 4 rfl ?_
          obtain ⟨S25, e26, h⟩ := ob_i h
          refine xi_callV (As := [.int ((x2_66 * 3) + x5_66), .int 32]) (o := none) (rest := []) (w2 := (wTe cC y0 y1 Sg ln at21 ++ wBd cI b0 b1 b2 b3 b4 b5 T_66 S25 L J E cp su)) (st2 := []) C k_X0_changeSource (m_X0_changeSource D cI cC cZ cR b0 b1 b2 b3 b4 b5 T_66 S_66 L J E cp su ((x2_66 * 3) + x5_66) 32 S25 e26) gX4_readCell_X0_changeSource dX4_readCell_109 ⟨Nat.le_of_ble_eq_true rfl, Nat.le_of_ble_eq_true rfl, Nat.le_of_ble_eq_true rfl⟩ 2 rfl rfl [2, 3, 4, 5, 6, 7] rfl rfl [0, 1, 2, 3] rfl rfl (xb_mixq [0, 1] 8 rfl rfl rfl rfl (xb_smc rfl rfl (xb_smc rfl rfl xb_smn)) (by decide +kernel) (by decide +kernel)) rfl (Nat.le_of_ble_eq_true rfl) ⟨Nat.zero_le _, Nat.zero_le _⟩ rfl ?_
          refine xi_iinc (v := x5_66 + 1) (lv2 := [(0, .ref y0), (1, .ref b0), (2, .int x2_66), (5, .int (x5_66 + 1)), (6, .int 32)]) C dX4_readCell_112 3 rfl (by rfl) (by decide) [0, 1, 2, 4] [1, 2, 3, 0, 4] rfl ?_
          refine xi_goto (tgt := 66) C dX4_readCell_115 (by decide) ?_
          exact xb_lv (ih (x5_66 + 1) at21 S25 h hk) [0, 1, 2, 3] rfl
        · have h := ie_i c23 h
          refine xi_aload_n C dX4_readCell_81 rfl 0 rfl ?_
          obtain ⟨⟨v27, at28⟩, e29, h⟩ := ob_i h
          refine xi_callV (As := []) (o := some (.int v27)) (rest := []) (w2 := (wTe cC y0 y1 Sg ln at28 ++ wBd cI b0 b1 b2 b3 b4 b5 T_66 S_66 L J E cp su)) (st2 := [.int v27]) C k_X4_readSource (m_X4_readSource D cI cC cZ cR y0 y1 Sg ln at21 v27 at28 e29) gX4_readCell_X4_readSource dX4_readCell_82 ⟨Nat.le_of_ble_eq_true rfl, Nat.le_of_ble_eq_true rfl, Nat.le_of_ble_eq_true rfl⟩ 0 rfl rfl [0, 1] rfl rfl [0, 1, 2, 3] rfl rfl (xb_mixq [2, 3, 4, 5, 6, 7] 8 rfl rfl rfl rfl (xb_smc rfl rfl (xb_smc rfl rfl (xb_smc rfl rfl (xb_smc rfl rfl (xb_smc rfl rfl (xb_smc rfl rfl xb_smn)))))) (by decide +kernel) (by decide +kernel)) rfl (Nat.le_of_ble_eq_true rfl) ⟨Nat.zero_le _, Nat.zero_le _⟩ rfl ?_
          refine xi_goto (tgt := 90) C dX4_readCell_85 (by decide) ?_
          refine xi_istore (lv2 := [(0, .ref y0), (1, .ref b0), (2, .int x2_66), (5, .int x5_66), (6, .int v27)]) C dX4_readCell_90 (by decide) [0, 1, 2, 3] [1, 2, 3, 4, 0] rfl ?_
          refine xi_iload C dX4_readCell_92 4 rfl ?_
          refine xi_iconst (v := (-1)) C dX4_readCell_94 (by decide) ?_
          refine xi_icmp_ne (tgt := 100) C dX4_readCell_95 (by decide) (fun c30 => ?_) (fun c30 => ?_)
          · have h := ie_i c30 h
            refine xi_aload_n C dX4_readCell_100 rfl 1 rfl ?_
            refine xi_iload_n C dX4_readCell_101 rfl 2 rfl ?_
            refine xi_iconst (v := 3) C dX4_readCell_102 (by decide) ?_
            refine xi_imul C dX4_readCell_103 ?_
            refine xi_iload C dX4_readCell_104 3 rfl ?_
            refine xi_iadd C dX4_readCell_106 ?_
            refine xi_iload C dX4_readCell_107 4 rfl ?_
            obtain ⟨S31, e32, h⟩ := ob_i h
            refine xi_callV (As := [.int ((x2_66 * 3) + x5_66), .int v27]) (o := none) (rest := []) (w2 := (wTe cC y0 y1 Sg ln at28 ++ wBd cI b0 b1 b2 b3 b4 b5 T_66 S31 L J E cp su)) (st2 := []) C k_X0_changeSource (m_X0_changeSource D cI cC cZ cR b0 b1 b2 b3 b4 b5 T_66 S_66 L J E cp su ((x2_66 * 3) + x5_66) v27 S31 e32) gX4_readCell_X0_changeSource dX4_readCell_109 ⟨Nat.le_of_ble_eq_true rfl, Nat.le_of_ble_eq_true rfl, Nat.le_of_ble_eq_true rfl⟩ 2 rfl rfl [2, 3, 4, 5, 6, 7] rfl rfl [0, 1, 2, 3] rfl rfl (xb_mixq [0, 1] 8 rfl rfl rfl rfl (xb_smc rfl rfl (xb_smc rfl rfl xb_smn)) (by decide +kernel) (by decide +kernel)) rfl (Nat.le_of_ble_eq_true rfl) ⟨Nat.zero_le _, Nat.zero_le _⟩ rfl ?_
            refine xi_iinc (v := x5_66 + 1) (lv2 := [(0, .ref y0), (1, .ref b0), (2, .int x2_66), (5, .int (x5_66 + 1)), (6, .int v27)]) C dX4_readCell_112 3 rfl (by rfl) (by decide) [0, 1, 2, 4] [1, 2, 3, 0, 4] rfl ?_
            refine xi_goto (tgt := 66) C dX4_readCell_115 (by decide) ?_
            exact xb_lv (ih (x5_66 + 1) at28 S31 h hk) [0, 1, 2, 3] rfl
          · have h := it_i c30 h
            refine xi_iconst (v := 0) C dX4_readCell_98 (by decide) ?_
            have w0 := Option.some.inj h
            obtain ⟨q0, w1⟩ := Prod.mk.inj w0
            obtain ⟨q1, w2⟩ := Prod.mk.inj w1
            obtain ⟨q2, w3⟩ := Prod.mk.inj w2
            subst q0
            subst q1
            subst q2
            subst w3
            exact xi_zret C Z dX4_readCell_99 xb_nz0
  unfold f_X4_readCell at h
  refine xi_aload_n C dX4_readCell_0 rfl 0 rfl ?_
  refine xi_bipush (v := 23) C dX4_readCell_1 (by decide) ?_
  obtain ⟨⟨v1, at2⟩, e3, h⟩ := ob_i h
  refine xi_callV (As := [.int 23]) (o := some (.int v1)) (rest := []) (w2 := (wTe cC y0 y1 Sg ln at2 ++ wBd cI b0 b1 b2 b3 b4 b5 T S L J E cp su)) (st2 := [.int v1]) C k_X4_readNumber (m_X4_readNumber D cI cC cZ cR y0 y1 Sg ln at_ 23 v1 at2 e3) gX4_readCell_X4_readNumber dX4_readCell_3 ⟨Nat.le_of_ble_eq_true rfl, Nat.le_of_ble_eq_true rfl, Nat.le_of_ble_eq_true rfl⟩ 0 rfl rfl [0, 1] rfl rfl [0, 1, 2, 3] rfl rfl (xb_mixq [2, 3, 4, 5, 6, 7] 8 rfl rfl rfl rfl (xb_smc rfl rfl (xb_smc rfl rfl (xb_smc rfl rfl (xb_smc rfl rfl (xb_smc rfl rfl (xb_smc rfl rfl xb_smn)))))) (by decide +kernel) (by decide +kernel)) rfl (Nat.le_of_ble_eq_true rfl) ⟨Nat.zero_le _, Nat.zero_le _⟩ rfl ?_
  refine xi_istore_n (lv2 := [(0, .ref y0), (1, .ref b0), (2, .int v1)]) C dX4_readCell_6 rfl (by decide) [0, 1] [1, 2, 0] rfl ?_
  refine xi_iload_n C dX4_readCell_7 rfl 2 rfl ?_
  refine xi_iconst (v := (-1)) C dX4_readCell_8 (by decide) ?_
  refine xi_icmp_eq (tgt := 21) C dX4_readCell_9 (by decide) (fun c4 => ?_) (fun c4 => ?_)
  · have h := it_i c4 h
    refine xi_iconst (v := 0) C dX4_readCell_21 (by decide) ?_
    have w0 := Option.some.inj h
    obtain ⟨q0, w1⟩ := Prod.mk.inj w0
    obtain ⟨q1, w2⟩ := Prod.mk.inj w1
    obtain ⟨q2, w3⟩ := Prod.mk.inj w2
    subst q0
    subst q1
    subst q2
    subst w3
    exact xi_zret C Z dX4_readCell_22 xb_nz0
  · have h := ie_i c4 h
    refine xi_aload_n C dX4_readCell_12 rfl 0 rfl ?_
    refine xi_bipush (v := 61) C dX4_readCell_13 (by decide) ?_
    obtain ⟨⟨v5, at6⟩, e7, h⟩ := ob_i h
    refine xi_callV (As := [.int 61]) (o := some (.int v5)) (rest := []) (w2 := (wTe cC y0 y1 Sg ln at6 ++ wBd cI b0 b1 b2 b3 b4 b5 T S L J E cp su)) (st2 := [.int v5]) C k_X4_pass (m_X4_pass D cI cC cZ cR y0 y1 Sg ln at2 61 v5 at6 e7) gX4_readCell_X4_pass dX4_readCell_15 ⟨Nat.le_of_ble_eq_true rfl, Nat.le_of_ble_eq_true rfl, Nat.le_of_ble_eq_true rfl⟩ 0 rfl rfl [0, 1] rfl rfl [0, 1, 2, 3] rfl rfl (xb_mixq [2, 3, 4, 5, 6, 7] 8 rfl rfl rfl rfl (xb_smc rfl rfl (xb_smc rfl rfl (xb_smc rfl rfl (xb_smc rfl rfl (xb_smc rfl rfl (xb_smc rfl rfl xb_smn)))))) (by decide +kernel) (by decide +kernel)) rfl (Nat.le_of_ble_eq_true rfl) ⟨Nat.zero_le _, Nat.zero_le _⟩ rfl ?_
    refine xi_if_ne (tgt := 23) C dX4_readCell_18 (by decide) (fun c8 => ?_) (fun c8 => ?_)
    · have h := ie_i c8 h
      refine xi_aload_n C dX4_readCell_23 rfl 0 rfl ?_
      obtain ⟨⟨v9, at10⟩, e11, h⟩ := ob_i h
      refine xi_callV (As := []) (o := some (.int v9)) (rest := []) (w2 := (wTe cC y0 y1 Sg ln at10 ++ wBd cI b0 b1 b2 b3 b4 b5 T S L J E cp su)) (st2 := [.int v9]) C k_X4_readTableSign (m_X4_readTableSign D cI cC cZ cR y0 y1 Sg ln at6 v9 at10 e11) gX4_readCell_X4_readTableSign dX4_readCell_24 ⟨Nat.le_of_ble_eq_true rfl, Nat.le_of_ble_eq_true rfl, Nat.le_of_ble_eq_true rfl⟩ 0 rfl rfl [0, 1] rfl rfl [0, 1, 2, 3] rfl rfl (xb_mixq [2, 3, 4, 5, 6, 7] 8 rfl rfl rfl rfl (xb_smc rfl rfl (xb_smc rfl rfl (xb_smc rfl rfl (xb_smc rfl rfl (xb_smc rfl rfl (xb_smc rfl rfl xb_smn)))))) (by decide +kernel) (by decide +kernel)) rfl (Nat.le_of_ble_eq_true rfl) ⟨Nat.zero_le _, Nat.zero_le _⟩ rfl ?_
      refine xi_istore_n (lv2 := [(0, .ref y0), (1, .ref b0), (2, .int v1), (3, .int v9)]) C dX4_readCell_27 rfl (by decide) [0, 1, 2] [1, 2, 3, 0] rfl ?_
      refine xi_iload_n C dX4_readCell_28 rfl 3 rfl ?_
      refine xi_iconst (v := (-1)) C dX4_readCell_29 (by decide) ?_
      refine xi_icmp_ne (tgt := 37) C dX4_readCell_30 (by decide) (fun c12 => ?_) (fun c12 => ?_)
      · have h := ie_i c12 h
        refine xi_aload_n C dX4_readCell_37 rfl 0 rfl ?_
        obtain ⟨⟨v13, at14⟩, e15, h⟩ := ob_i h
        refine xi_callV (As := []) (o := some (.int v13)) (rest := []) (w2 := (wTe cC y0 y1 Sg ln at14 ++ wBd cI b0 b1 b2 b3 b4 b5 T S L J E cp su)) (st2 := [.int v13]) C k_X4_readTableSign (m_X4_readTableSign D cI cC cZ cR y0 y1 Sg ln at10 v13 at14 e15) gX4_readCell_X4_readTableSign dX4_readCell_38 ⟨Nat.le_of_ble_eq_true rfl, Nat.le_of_ble_eq_true rfl, Nat.le_of_ble_eq_true rfl⟩ 0 rfl rfl [0, 1] rfl rfl [0, 1, 2, 3] rfl rfl (xb_mixq [2, 3, 4, 5, 6, 7] 8 rfl rfl rfl rfl (xb_smc rfl rfl (xb_smc rfl rfl (xb_smc rfl rfl (xb_smc rfl rfl (xb_smc rfl rfl (xb_smc rfl rfl xb_smn)))))) (by decide +kernel) (by decide +kernel)) rfl (Nat.le_of_ble_eq_true rfl) ⟨Nat.zero_le _, Nat.zero_le _⟩ rfl ?_
        refine xi_istore (lv2 := [(0, .ref y0), (1, .ref b0), (2, .int v1), (3, .int v9), (4, .int v13)]) C dX4_readCell_41 (by decide) [0, 1, 2, 3] [1, 2, 3, 4, 0] rfl ?_
        refine xi_iload C dX4_readCell_43 4 rfl ?_
        refine xi_iconst (v := (-1)) C dX4_readCell_45 (by decide) ?_
        refine xi_icmp_ne (tgt := 51) C dX4_readCell_46 (by decide) (fun c16 => ?_) (fun c16 => ?_)
        · have h := ie_i c16 h
          refine xi_aload_n C dX4_readCell_51 rfl 1 rfl ?_
          refine xi_iload_n C dX4_readCell_52 rfl 2 rfl ?_
          refine xi_iload_n C dX4_readCell_53 rfl 3 rfl ?_
          refine xi_bipush (v := 16) C dX4_readCell_54 (by decide) ?_
          refine xi_imul C dX4_readCell_56 ?_
          refine xi_iload C dX4_readCell_57 4 rfl ?_
          refine xi_iadd C dX4_readCell_59 ?_
          obtain ⟨T17, e18, h⟩ := ob_i h
          refine xi_callV (As := [.int v1, .int ((v9 * 16) + v13)]) (o := none) (rest := []) (w2 := (wTe cC y0 y1 Sg ln at14 ++ wBd cI b0 b1 b2 b3 b4 b5 T17 S L J E cp su)) (st2 := []) C k_X0_changeTable (m_X0_changeTable D cI cC cZ cR b0 b1 b2 b3 b4 b5 T S L J E cp su v1 ((v9 * 16) + v13) T17 e18) gX4_readCell_X0_changeTable dX4_readCell_60 ⟨Nat.le_of_ble_eq_true rfl, Nat.le_of_ble_eq_true rfl, Nat.le_of_ble_eq_true rfl⟩ 2 rfl rfl [2, 3, 4, 5, 6, 7] rfl rfl [0, 1, 2, 3] rfl rfl (xb_mixq [0, 1] 8 rfl rfl rfl rfl (xb_smc rfl rfl (xb_smc rfl rfl xb_smn)) (by decide +kernel) (by decide +kernel)) rfl (Nat.le_of_ble_eq_true rfl) ⟨Nat.zero_le _, Nat.zero_le _⟩ rfl ?_
          refine xi_iconst (v := 0) C dX4_readCell_63 (by decide) ?_
          refine xi_istore (lv2 := [(0, .ref y0), (1, .ref b0), (2, .int v1), (3, .int v9), (4, .int v13), (5, .int 0)]) C dX4_readCell_64 (by decide) [0, 1, 2, 3, 4] [1, 2, 3, 4, 5, 0] rfl ?_
          refine xb_lv (lp66 T17 v1 _ xFu 0 at14 S h (fun at_z33 Sz33 h => ?_)) [0, 1, 2, 5] rfl
          refine xi_iconst (v := 1) C dX4_readCell_118 (by decide) ?_
          have w0 := Option.some.inj h
          obtain ⟨q0, w1⟩ := Prod.mk.inj w0
          obtain ⟨q1, w2⟩ := Prod.mk.inj w1
          obtain ⟨q2, w3⟩ := Prod.mk.inj w2
          subst q0
          subst q1
          subst q2
          subst w3
          exact xi_zret C Z dX4_readCell_119 xb_nz1
        · have h := it_i c16 h
          refine xi_iconst (v := 0) C dX4_readCell_49 (by decide) ?_
          have w0 := Option.some.inj h
          obtain ⟨q0, w1⟩ := Prod.mk.inj w0
          obtain ⟨q1, w2⟩ := Prod.mk.inj w1
          obtain ⟨q2, w3⟩ := Prod.mk.inj w2
          subst q0
          subst q1
          subst q2
          subst w3
          exact xi_zret C Z dX4_readCell_50 xb_nz0
      · have h := it_i c12 h
        refine xi_iconst (v := (-1)) C dX4_readCell_33 (by decide) ?_
        refine xi_goto (tgt := 41) C dX4_readCell_34 (by decide) ?_
        refine xi_istore (lv2 := [(0, .ref y0), (1, .ref b0), (2, .int v1), (3, .int v9), (4, .int (-1))]) C dX4_readCell_41 (by decide) [0, 1, 2, 3] [1, 2, 3, 4, 0] rfl ?_
        refine xi_iload C dX4_readCell_43 4 rfl ?_
        refine xi_iconst (v := (-1)) C dX4_readCell_45 (by decide) ?_
        refine xi_icmp_ne (tgt := 51) C dX4_readCell_46 (by decide) (fun c34 => ?_) (fun c34 => ?_)
        · first | exact absurd c34 (by decide) | exact absurd (by decide) c34
        refine xi_iconst (v := 0) C dX4_readCell_49 (by decide) ?_
        have w0 := Option.some.inj h
        obtain ⟨q0, w1⟩ := Prod.mk.inj w0
        obtain ⟨q1, w2⟩ := Prod.mk.inj w1
        obtain ⟨q2, w3⟩ := Prod.mk.inj w2
        subst q0
        subst q1
        subst q2
        subst w3
        exact xi_zret C Z dX4_readCell_50 xb_nz0
    · have h := it_i c8 h
      refine xi_iconst (v := 0) C dX4_readCell_21 (by decide) ?_
      have w0 := Option.some.inj h
      obtain ⟨q0, w1⟩ := Prod.mk.inj w0
      obtain ⟨q1, w2⟩ := Prod.mk.inj w1
      obtain ⟨q2, w3⟩ := Prod.mk.inj w2
      subst q0
      subst q1
      subst q2
      subst w3
      exact xi_zret C Z dX4_readCell_22 xb_nz0
def f_X4_readInto_7 (Sg : Nat → Int32) (ln : Int32) (k : Int32 → (Nat → Int32) → (Nat → Int32) → Option (Int32 × Int32 × (Nat → Int32) × (Nat → Int32))) : Nat → Int32 → Int32 → (Nat → Int32) → (Nat → Int32) → Option (Int32 × Int32 × (Nat → Int32) × (Nat → Int32))
  | 0, _, _, _, _ => none
  | n + 1, x2_7, at__7, T_7, S_7 =>
    if 80 ≤ x2_7 then
      k at__7 T_7 S_7
    else
      (f_X4_readCell Sg ln at__7 T_7 S_7).bind fun (v2, at3, T4, S5) =>
      if v2 = 0 then
        some (at3, at3, T4, S5)
      else
        if at3 = ln then
          some ((-1), at3, T4, S5)
        else
          (f_X4_pass Sg ln at3 59).bind fun (v9, at10) =>
          if v9 = 0 then
            some (at10, at10, T4, S5)
          else
            f_X4_readInto_7 Sg ln k n (x2_7 + 1) at10 T4 S5
def f_X4_readInto (Sg : Nat → Int32) (ln : Int32) (at_ : Int32) (T : Nat → Int32) (S : Nat → Int32) : Option (Int32 × Int32 × (Nat → Int32) × (Nat → Int32)) :=
  f_X4_readInto_7 Sg ln (fun at_z13 Tz13 Sz13 =>
    some (at_z13, at_z13, Tz13, Sz13)) xFu 0 0 T S
theorem k_X4_readInto : xb_Y yX4_readInto cX4_readInto wsX4_readInto 3 (some .int) { frames := 5, cells := 0, slots := 0, locals := 111 } 1 := ⟨⟨_, rfl⟩, by decide, ⟨by decide, by decide, by decide +kernel⟩, rfl, rfl⟩
theorem fl_X4_readInto_15 : Cond.fieldLink RX4 15 "LookupBoard$PlanText" "length" "I" ∈ wsX4_readInto := List.mem_of_getElem? (i := 2) rfl
theorem fl_X4_readInto_19 : Cond.fieldLink RX4 19 "LookupBoard$PlanText" "at" "I" ∈ wsX4_readInto := List.mem_of_getElem? (i := 1) rfl
theorem iw_X4_readInto_4 : ∀ w ∈ wsX40, w ∈ wsX4_readInto := fun w h => List.mem_cons_of_mem _ (List.mem_append_left _ (List.mem_append_right _ h))
set_option maxHeartbeats 4000000 in
set_option maxRecDepth 100000 in
theorem m_X4_readInto (D : va_G) (cI cC cZ cR : ClassId) (y0 y1 : Nat) (b0 b1 b2 b3 b4 b5 : Nat) (Sg : Nat → Int32) (ln : Int32) (at_ : Int32) (T : Nat → Int32) (S : Nat → Int32) (L : Nat → Int32) (J : Nat → Int32) (E : Nat → Int32) (cp : Int32) (su : Int32) (r : Int32) (at' : Int32) (T' : Nat → Int32) (S' : Nat → Int32) (h : f_X4_readInto Sg ln at_ T S = some (r, at', T', S')) : xb_M cX4_readInto wsX4_readInto RX4 { frames := 5, cells := 0, slots := 0, locals := 111 } (some .int) 3 (xb_ty cI cC cZ cR) D [.ref y0, .ref b0] (wTe cC y0 y1 Sg ln at_ ++ wBd cI b0 b1 b2 b3 b4 b5 T S L J E cp su) (some (.int r)) (wTe cC y0 y1 Sg ln at' ++ wBd cI b0 b1 b2 b3 b4 b5 T' S' L J E cp su) := by
  intro X C Z
  show xb_G X 0 0 (wTe cC y0 y1 Sg ln at_ ++ wBd cI b0 b1 b2 b3 b4 b5 T S L J E cp su) [(0, .ref y0), (1, .ref b0)] 0 []
  have lp7 : ∀ (k : Int32 → (Nat → Int32) → (Nat → Int32) → Option (Int32 × Int32 × (Nat → Int32) × (Nat → Int32))) (n : Nat) (x2_7 : Int32) (at__7 : Int32) (T_7 : Nat → Int32) (S_7 : Nat → Int32), f_X4_readInto_7 Sg ln k n x2_7 at__7 T_7 S_7 = some (r, at', T', S') → (∀ (at__7e : Int32) (T_7e : Nat → Int32) (S_7e : Nat → Int32), k at__7e T_7e S_7e = some (r, at', T', S') → xb_G X 0 0 (wTe cC y0 y1 Sg ln at__7e ++ wBd cI b0 b1 b2 b3 b4 b5 T_7e S_7e L J E cp su) [(0, .ref y0)] 59 []) → xb_G X 0 0 (wTe cC y0 y1 Sg ln at__7 ++ wBd cI b0 b1 b2 b3 b4 b5 T_7 S_7 L J E cp su) [(0, .ref y0), (1, .ref b0), (2, .int x2_7)] 7 [] := by
    intro k n
    induction n with
    | zero => intro x2_7 at__7 T_7 S_7 h hk; unfold f_X4_readInto_7 at h; cases h
    | succ n ih =>
      intro x2_7 at__7 T_7 S_7 h hk
      unfold f_X4_readInto_7 at h
      refine xi_iload_n C dX4_readInto_7 rfl 2 rfl ?_
      refine xi_bipush (v := 80) C dX4_readInto_8 (by decide) ?_
      refine xi_icmp_ge (tgt := 59) C dX4_readInto_10 (by decide) (fun c1 => ?_) (fun c1 => ?_)
      · have h := it_i c1 h
        exact xb_lv (hk at__7 T_7 S_7 h) [0] rfl
      · have h := ie_i c1 h
        refine xi_aload_n C dX4_readInto_13 rfl 0 rfl ?_
        refine xi_aload_n C dX4_readInto_14 rfl 1 rfl ?_
        obtain ⟨⟨v2, at3, T4, S5⟩, e6, h⟩ := ob_i h
        refine xi_callV (As := [.ref b0]) (o := some (.int v2)) (rest := []) (w2 := (wTe cC y0 y1 Sg ln at3 ++ wBd cI b0 b1 b2 b3 b4 b5 T4 S5 L J E cp su)) (st2 := [.int v2]) C k_X4_readCell (m_X4_readCell D cI cC cZ cR y0 y1 b0 b1 b2 b3 b4 b5 Sg ln at__7 T_7 S_7 L J E cp su v2 at3 T4 S5 e6) gX4_readInto_X4_readCell dX4_readInto_15 ⟨Nat.le_of_ble_eq_true rfl, Nat.le_of_ble_eq_true rfl, Nat.le_of_ble_eq_true rfl⟩ 0 rfl rfl [0, 1, 2, 3, 4, 5, 6, 7] rfl rfl [0, 1, 2, 3] rfl rfl (xb_mixq [] 8 rfl rfl rfl rfl xb_smn (by decide +kernel) (by decide +kernel)) rfl (Nat.le_of_ble_eq_true rfl) ⟨Nat.zero_le _, Nat.zero_le _⟩ rfl ?_
        refine xi_if_ne (tgt := 26) C dX4_readInto_18 (by decide) (fun c7 => ?_) (fun c7 => ?_)
        · have h := ie_i c7 h
          refine xi_aload_n C dX4_readInto_26 rfl 0 rfl ?_
          refine xi_get C dX4_readInto_27 iw_X4_readInto_4 0 rfl rfl 2 (by decide) fl_X4_readInto_19 rfl ?_
          refine xi_aload_n C dX4_readInto_30 rfl 0 rfl ?_
          refine xi_get C dX4_readInto_31 iw_X4_readInto_4 0 rfl rfl 1 (by decide) fl_X4_readInto_15 rfl ?_
          refine xi_icmp_ne (tgt := 39) C dX4_readInto_34 (by decide) (fun c8 => ?_) (fun c8 => ?_)
          · have h := ie_i c8 h
            refine xi_aload_n C dX4_readInto_39 rfl 0 rfl ?_
            refine xi_bipush (v := 59) C dX4_readInto_40 (by decide) ?_
            obtain ⟨⟨v9, at10⟩, e11, h⟩ := ob_i h
            refine xi_callV (As := [.int 59]) (o := some (.int v9)) (rest := []) (w2 := (wTe cC y0 y1 Sg ln at10 ++ wBd cI b0 b1 b2 b3 b4 b5 T4 S5 L J E cp su)) (st2 := [.int v9]) C k_X4_pass (m_X4_pass D cI cC cZ cR y0 y1 Sg ln at3 59 v9 at10 e11) gX4_readInto_X4_pass dX4_readInto_42 ⟨Nat.le_of_ble_eq_true rfl, Nat.le_of_ble_eq_true rfl, Nat.le_of_ble_eq_true rfl⟩ 0 rfl rfl [0, 1] rfl rfl [0, 1, 2, 3] rfl rfl (xb_mixq [2, 3, 4, 5, 6, 7] 8 rfl rfl rfl rfl (xb_smc rfl rfl (xb_smc rfl rfl (xb_smc rfl rfl (xb_smc rfl rfl (xb_smc rfl rfl (xb_smc rfl rfl xb_smn)))))) (by decide +kernel) (by decide +kernel)) rfl (Nat.le_of_ble_eq_true rfl) ⟨Nat.zero_le _, Nat.zero_le _⟩ rfl ?_
            refine xi_if_ne (tgt := 53) C dX4_readInto_45 (by decide) (fun c12 => ?_) (fun c12 => ?_)
            · have h := ie_i c12 h
              refine xi_iinc (v := x2_7 + 1) (lv2 := [(0, .ref y0), (1, .ref b0), (2, .int (x2_7 + 1))]) C dX4_readInto_53 2 rfl (by rfl) (by decide) [0, 1] [1, 2, 0] rfl ?_
              refine xi_goto (tgt := 7) C dX4_readInto_56 (by decide) ?_
              exact xb_lv (ih (x2_7 + 1) at10 T4 S5 h hk) [0, 1, 2] rfl
            · have h := it_i c12 h
              refine xi_aload_n C dX4_readInto_48 rfl 0 rfl ?_
              refine xi_get C dX4_readInto_49 iw_X4_readInto_4 0 rfl rfl 2 (by decide) fl_X4_readInto_19 rfl ?_
              have w0 := Option.some.inj h
              obtain ⟨q0, w1⟩ := Prod.mk.inj w0
              obtain ⟨q1, w2⟩ := Prod.mk.inj w1
              obtain ⟨q2, w3⟩ := Prod.mk.inj w2
              subst q0
              subst q1
              subst q2
              subst w3
              exact xi_iret C Z dX4_readInto_52
          · have h := it_i c8 h
            refine xi_iconst (v := (-1)) C dX4_readInto_37 (by decide) ?_
            have w0 := Option.some.inj h
            obtain ⟨q0, w1⟩ := Prod.mk.inj w0
            obtain ⟨q1, w2⟩ := Prod.mk.inj w1
            obtain ⟨q2, w3⟩ := Prod.mk.inj w2
            subst q0
            subst q1
            subst q2
            subst w3
            exact xi_iret C Z dX4_readInto_38
        · have h := it_i c7 h
          refine xi_aload_n C dX4_readInto_21 rfl 0 rfl ?_
          refine xi_get C dX4_readInto_22 iw_X4_readInto_4 0 rfl rfl 2 (by decide) fl_X4_readInto_19 rfl ?_
          have w0 := Option.some.inj h
          obtain ⟨q0, w1⟩ := Prod.mk.inj w0
          obtain ⟨q1, w2⟩ := Prod.mk.inj w1
          obtain ⟨q2, w3⟩ := Prod.mk.inj w2
          subst q0
          subst q1
          subst q2
          subst w3
          exact xi_iret C Z dX4_readInto_25
  unfold f_X4_readInto at h
  refine xi_aload_n C dX4_readInto_0 rfl 0 rfl ?_
  refine xi_iconst (v := 0) C dX4_readInto_1 (by decide) ?_
  refine xi_put (ty := .int) (w2 := (wTe cC y0 y1 Sg ln 0 ++ wBd cI b0 b1 b2 b3 b4 b5 T S L J E cp su)) C dX4_readInto_2 iw_X4_readInto_4 tyX4 tyX4_ok nmX4 0 rfl rfl 2 (by decide) fl_X4_readInto_19 rfl (by decide +kernel) (by rfl) (by rfl) (Nat.le_of_ble_eq_true rfl) rfl ?_
  refine xi_iconst (v := 0) C dX4_readInto_5 (by decide) ?_
  refine xi_istore_n (lv2 := [(0, .ref y0), (1, .ref b0), (2, .int 0)]) C dX4_readInto_6 rfl (by decide) [0, 1] [1, 2, 0] rfl ?_
  refine xb_lv (lp7 _ xFu 0 0 T S h (fun at_z13 Tz13 Sz13 h => ?_)) [0, 1, 2] rfl
  refine xi_aload_n C dX4_readInto_59 rfl 0 rfl ?_
  refine xi_get C dX4_readInto_60 iw_X4_readInto_4 0 rfl rfl 2 (by decide) fl_X4_readInto_19 rfl ?_
  have w0 := Option.some.inj h
  obtain ⟨q0, w1⟩ := Prod.mk.inj w0
  obtain ⟨q1, w2⟩ := Prod.mk.inj w1
  obtain ⟨q2, w3⟩ := Prod.mk.inj w2
  subst q0
  subst q1
  subst q2
  subst w3
  exact xi_iret C Z dX4_readInto_63
