/-! the constructors -/
/-- a board at the start -/
def bS0 (b : xBd) : Prop := (∀ i, i < 24 → b.1 i = -1) ∧ (∀ i, i < 72 → b.2.1 i = 32) ∧ b.2.2.1 = z0 ∧ b.2.2.2.1 = z0 ∧ b.2.2.2.2.1 = z0 ∧ b.2.2.2.2.2.1 = 2 ∧ b.2.2.2.2.2.2 = 1
def pBd (cI : ClassId) (h : Nat) : va_W → Prop := fun w1 => ∃ (ad : Nat → Nat) (b : xBd), ad 0 = h ∧ w1 = wHb cI ad b ∧ bS0 b
def pHi (cI cR : ClassId) (h : Nat) : va_W → Prop := fun w1 => ∃ (a : Nat) (ha : Nat → Nat → Nat) (hb : Nat → xBd), w1 = wHi cI cR h a ha 0 id hb ∧ ∀ j, j < 4 → bS0 (hb j)
def pLa (cI : ClassId) (h : Nat) : va_W → Prop := fun w1 => ∃ a : Nat, w1 = wLa cI h a z0
def pLo (cI : ClassId) (h : Nat) : va_W → Prop := fun w1 => ∃ a1 a2 a3 : Nat, w1 = wLo cI h a1 a2 a3 z0 z0 z0 0
def pTe (cC : ClassId) (h : Nat) : va_W → Prop := fun w1 => ∃ a : Nat, w1 = wTe cC h a z0 0 0
theorem xb_AOX {X : xb_C} (I : xb_OI X) : ∀ s : State, (match X with | (_, _, _, _, s', _, _, _, _, _, _, _, _, _) => s' = s) → va_AO RX0 s := by
  intro s h
  obtain ⟨p, l, e, R, s2, m, args, below, meth, c, A, Q, nL, D⟩ := X
  cases h
  exact I.2
theorem xb_arr_eq {cA : ClassId} {N : Nat} {f g : Nat → Option Nat} (h : ∀ j, j < N → f j = g j) : vp_cell cA (N, .inr (.inr (.inr (.inr f)))) = vp_cell cA (N, .inr (.inr (.inr (.inr g)))) := by
  rw [vp_cell_q, vp_cell_q]
  unfold arrV
  congr 1
  apply Array.ext
  · simp
  · intro i h1 h2
    simp at h1
    simp [h i h1]
theorem xb_wq {X : xb_C} {k n : Nat} {w : va_W} {lv : List (Nat × Value)} {pc : Nat} {st : List Value} {x : Nat × va_E} {a N : Nat} {cA : ClassId} {f g : Nat → Option Nat} {r : va_W} (h : ∀ j, j < N → f j = g j) (hw : w = x :: (a, .inl (cA, N, .inr (.inr (.inr (.inr f))))) :: r) (gg : xb_G X k n (x :: (a, .inl (cA, N, .inr (.inr (.inr (.inr g))))) :: r) lv pc st) : xb_G X k n w lv pc st := by
  subst hw
  obtain ⟨p, l, e, R, s, m, args, below, meth, c, A, Q, nL, D⟩ := X
  intro H locs ls hP hD hS hl
  refine gg H locs ls (fun i q hq => ?_) (xb_D_addr (ws := x :: (a, .inl (cA, N, .inr (.inr (.inr (.inr f))))) :: r) (fun i q hq => ?_) hD) hS hl
  · match i, hq with
    | 0, hq => exact hP 0 q hq
    | 1, hq =>
      cases hq
      have := hP 1 _ rfl
      show H[a]? = some (vp_cell cA _)
      rw [← xb_arr_eq h]
      exact this
    | i + 2, hq => exact hP (i + 2) q hq
  · match i, hq with
    | 0, hq => exact ⟨q, hq, rfl⟩
    | 1, hq => cases hq; exact ⟨_, rfl, rfl⟩
    | i + 2, hq => exact ⟨q, hq, rfl⟩
set_option maxHeartbeats 4000000 in
set_option maxRecDepth 100000 in
theorem m_X0_init (D : va_G) (cI cC cZ cR : ClassId) (h : Nat) : xb_MN cX0_init wsX0_init RX0 { frames := 1, cells := 5, slots := 1944, locals := 23 } 1 (xb_ty cI cC cZ cR) D [.ref h] [(h, .inr (0, [.null, .null, .null, .null, .null, .int 0, .int 0]))] (pBd cI h) 5 1944 := by
  intro X C I Z
  show xb_G X 0 0 _ [(0, .ref h)] 0 []
  refine xi_aload_n C dX0_init_0 rfl 0 rfl ?_
  refine xi_obj C dX0_init_1 (by decide +kernel) (by decide +kernel) (List.mem_cons_of_mem _ (by first | exact List.mem_append_left _ (List.mem_of_getElem? (i := 2) rfl) | exact List.mem_of_getElem? (i := 2) rfl)) (by decide) (by decide) ?_
  refine xi_aload_n C dX0_init_4 rfl 0 rfl ?_
  refine xi_bipush (v := 24) C dX0_init_5 (by decide +kernel) ?_
  refine xi_newa (ty := .int) (N := 24) (a0 := (24, .inl z0)) C dX0_init_7 (by decide +kernel) rfl 0 rfl (fun _ => rfl) (by decide +kernel) (by decide +kernel) (by decide) (Nat.le_of_ble_eq_true rfl) (Nat.le_of_ble_eq_true rfl) (fun a7 => ?_)
  refine xi_putF (ty := .array .int) (w2 := [(h, .inr (0, [.ref a7, .null, .null, .null, .null, .int 0, .int 0])), (a7, .inl (cI, 24, .inl z0))]) C I dX0_init_9 (by decide +kernel) tyX0 tyX0_ok nmX0 0 rfl rfl 0 (by decide) (by decide +kernel) rfl rfl (by decide +kernel) (by rfl) (by rfl) (Nat.le_of_ble_eq_true rfl) rfl ?_
  refine xi_aload_n C dX0_init_12 rfl 0 rfl ?_
  refine xi_bipush (v := 72) C dX0_init_13 (by decide +kernel) ?_
  refine xi_newa (ty := .int) (N := 72) (a0 := (72, .inl z0)) C dX0_init_15 (by decide +kernel) rfl 0 rfl (fun _ => rfl) (by decide +kernel) (by decide +kernel) (by decide) (Nat.le_of_ble_eq_true rfl) (Nat.le_of_ble_eq_true rfl) (fun a15 => ?_)
  refine xi_putF (ty := .array .int) (w2 := [(h, .inr (0, [.ref a7, .ref a15, .null, .null, .null, .int 0, .int 0])), (a7, .inl (cI, 24, .inl z0)), (a15, .inl (cI, 72, .inl z0))]) C I dX0_init_17 (by decide +kernel) tyX0 tyX0_ok nmX0 0 rfl rfl 1 (by decide) (by decide +kernel) rfl rfl (by decide +kernel) (by rfl) (by rfl) (Nat.le_of_ble_eq_true rfl) rfl ?_
  refine xi_aload_n C dX0_init_20 rfl 0 rfl ?_
  refine xi_bipush (v := 72) C dX0_init_21 (by decide +kernel) ?_
  refine xi_newa (ty := .int) (N := 72) (a0 := (72, .inl z0)) C dX0_init_23 (by decide +kernel) rfl 0 rfl (fun _ => rfl) (by decide +kernel) (by decide +kernel) (by decide) (Nat.le_of_ble_eq_true rfl) (Nat.le_of_ble_eq_true rfl) (fun a23 => ?_)
  refine xi_putF (ty := .array .int) (w2 := [(h, .inr (0, [.ref a7, .ref a15, .ref a23, .null, .null, .int 0, .int 0])), (a7, .inl (cI, 24, .inl z0)), (a15, .inl (cI, 72, .inl z0)), (a23, .inl (cI, 72, .inl z0))]) C I dX0_init_25 (by decide +kernel) tyX0 tyX0_ok nmX0 0 rfl rfl 2 (by decide) (by decide +kernel) rfl rfl (by decide +kernel) (by rfl) (by rfl) (Nat.le_of_ble_eq_true rfl) rfl ?_
  refine xi_aload_n C dX0_init_28 rfl 0 rfl ?_
  refine xi_sipush (v := 1728) C dX0_init_29 (by decide +kernel) ?_
  refine xi_newa (ty := .int) (N := 1728) (a0 := (1728, .inl z0)) C dX0_init_32 (by decide +kernel) rfl 0 rfl (fun _ => rfl) (by decide +kernel) (by decide +kernel) (by decide) (Nat.le_of_ble_eq_true rfl) (Nat.le_of_ble_eq_true rfl) (fun a32 => ?_)
  refine xi_putF (ty := .array .int) (w2 := [(h, .inr (0, [.ref a7, .ref a15, .ref a23, .ref a32, .null, .int 0, .int 0])), (a7, .inl (cI, 24, .inl z0)), (a15, .inl (cI, 72, .inl z0)), (a23, .inl (cI, 72, .inl z0)), (a32, .inl (cI, 1728, .inl z0))]) C I dX0_init_34 (by decide +kernel) tyX0 tyX0_ok nmX0 0 rfl rfl 3 (by decide) (by decide +kernel) rfl rfl (by decide +kernel) (by rfl) (by rfl) (Nat.le_of_ble_eq_true rfl) rfl ?_
  refine xi_aload_n C dX0_init_37 rfl 0 rfl ?_
  refine xi_bipush (v := 48) C dX0_init_38 (by decide +kernel) ?_
  refine xi_newa (ty := .int) (N := 48) (a0 := (48, .inl z0)) C dX0_init_40 (by decide +kernel) rfl 0 rfl (fun _ => rfl) (by decide +kernel) (by decide +kernel) (by decide) (Nat.le_of_ble_eq_true rfl) (Nat.le_of_ble_eq_true rfl) (fun a40 => ?_)
  refine xi_putF (ty := .array .int) (w2 := [(h, .inr (0, [.ref a7, .ref a15, .ref a23, .ref a32, .ref a40, .int 0, .int 0])), (a7, .inl (cI, 24, .inl z0)), (a15, .inl (cI, 72, .inl z0)), (a23, .inl (cI, 72, .inl z0)), (a32, .inl (cI, 1728, .inl z0)), (a40, .inl (cI, 48, .inl z0))]) C I dX0_init_42 (by decide +kernel) tyX0 tyX0_ok nmX0 0 rfl rfl 4 (by decide) (by decide +kernel) rfl rfl (by decide +kernel) (by rfl) (by rfl) (Nat.le_of_ble_eq_true rfl) rfl ?_
  refine xi_aload_n C dX0_init_45 rfl 0 rfl ?_
  refine xi_iconst (v := 2) C dX0_init_46 (by decide +kernel) ?_
  refine xi_put (ty := .int) (w2 := [(h, .inr (0, [.ref a7, .ref a15, .ref a23, .ref a32, .ref a40, .int 2, .int 0])), (a7, .inl (cI, 24, .inl z0)), (a15, .inl (cI, 72, .inl z0)), (a23, .inl (cI, 72, .inl z0)), (a32, .inl (cI, 1728, .inl z0)), (a40, .inl (cI, 48, .inl z0))]) C dX0_init_47 (by decide +kernel) tyX0 tyX0_ok nmX0 0 rfl rfl 5 (by decide) (by decide +kernel) rfl (by decide +kernel) (by rfl) (by rfl) (Nat.le_of_ble_eq_true rfl) rfl ?_
  refine xi_aload_n C dX0_init_50 rfl 0 rfl ?_
  refine xi_iconst (v := 1) C dX0_init_51 (by decide +kernel) ?_
  refine xi_put (ty := .int) (w2 := [(h, .inr (0, [.ref a7, .ref a15, .ref a23, .ref a32, .ref a40, .int 2, .int 1])), (a7, .inl (cI, 24, .inl z0)), (a15, .inl (cI, 72, .inl z0)), (a23, .inl (cI, 72, .inl z0)), (a32, .inl (cI, 1728, .inl z0)), (a40, .inl (cI, 48, .inl z0))]) C dX0_init_52 (by decide +kernel) tyX0 tyX0_ok nmX0 0 rfl rfl 6 (by decide) (by decide +kernel) rfl (by decide +kernel) (by rfl) (by rfl) (Nat.le_of_ble_eq_true rfl) rfl ?_
  refine xi_aload_n C dX0_init_55 rfl 0 rfl ?_
  refine xi_get C dX0_init_56 (by decide +kernel) 0 rfl rfl 0 (by decide) (by decide +kernel) rfl ?_
  refine xi_iconst (v := (-1)) C dX0_init_59 (by decide +kernel) ?_
  obtain ⟨f1, e1, e1'⟩ := l7_fill (N := 24) (by omega) z0 (-1)
  refine xi_callS (As := [.ref a7, .int (-1)]) (o := none) (rest := []) (w2 := [(h, .inr (0, [.ref a7, .ref a15, .ref a23, .ref a32, .ref a40, .int 2, .int 1])), (a7, .inl (cI, 24, .inl f1)), (a15, .inl (cI, 72, .inl z0)), (a23, .inl (cI, 72, .inl z0)), (a32, .inl (cI, 1728, .inl z0)), (a40, .inl (cI, 48, .inl z0))]) (st2 := []) C k_J7_fill_53178 (m_J7_fill_53178 D cI 24 a7 z0 (-1) f1 e1) gX0_init_J7_fill_53178 dX0_init_60 ⟨Nat.le_of_ble_eq_true rfl, Nat.le_of_ble_eq_true rfl, Nat.le_of_ble_eq_true rfl⟩ [1] rfl rfl [0] rfl rfl rfl rfl (Nat.le_of_ble_eq_true rfl) ⟨Nat.le_of_ble_eq_true rfl, Nat.le_of_ble_eq_true rfl⟩ rfl ?_
  refine xi_aload_n C dX0_init_63 rfl 0 rfl ?_
  refine xi_get C dX0_init_64 (by decide +kernel) 0 rfl rfl 1 (by decide) (by decide +kernel) rfl ?_
  refine xi_bipush (v := 32) C dX0_init_67 (by decide +kernel) ?_
  obtain ⟨f2, e2, e2'⟩ := l7_fill (N := 72) (by omega) z0 (32)
  refine xi_callS (As := [.ref a15, .int (32)]) (o := none) (rest := []) (w2 := [(h, .inr (0, [.ref a7, .ref a15, .ref a23, .ref a32, .ref a40, .int 2, .int 1])), (a7, .inl (cI, 24, .inl f1)), (a15, .inl (cI, 72, .inl f2)), (a23, .inl (cI, 72, .inl z0)), (a32, .inl (cI, 1728, .inl z0)), (a40, .inl (cI, 48, .inl z0))]) (st2 := []) C k_J7_fill_53178 (m_J7_fill_53178 D cI 72 a15 z0 (32) f2 e2) gX0_init_J7_fill_53178 dX0_init_69 ⟨Nat.le_of_ble_eq_true rfl, Nat.le_of_ble_eq_true rfl, Nat.le_of_ble_eq_true rfl⟩ [2] rfl rfl [0] rfl rfl rfl rfl (Nat.le_of_ble_eq_true rfl) ⟨Nat.le_of_ble_eq_true rfl, Nat.le_of_ble_eq_true rfl⟩ rfl ?_
  exact xi_retN C Z ⟨fun k => match k with | 0 => h | 1 => a7 | 2 => a15 | 3 => a23 | 4 => a32 | _ => a40, (f1, f2, z0, z0, z0, 2, 1), rfl, rfl, e1', e2', rfl, rfl, rfl, rfl, rfl⟩ dX0_init_72
set_option maxHeartbeats 4000000 in
set_option maxRecDepth 100000 in
theorem m_X2_init (D : va_G) (cI cC cZ cR : ClassId) (h : Nat) : xb_MN cX2_init wsX2_init RX2 { frames := 1, cells := 1, slots := 24, locals := 20 } 1 (xb_ty cI cC cZ cR) D [.ref h] [(h, .inr (2, [.null]))] (pLa cI h) 1 24 := by
  intro X C I Z
  show xb_G X 0 0 _ [(0, .ref h)] 0 []
  refine xi_aload_n C dX2_init_0 rfl 0 rfl ?_
  refine xi_obj C dX2_init_1 (by decide +kernel) (by decide +kernel) (List.mem_cons_of_mem _ (by first | exact List.mem_append_left _ (List.mem_of_getElem? (i := 2) rfl) | exact List.mem_of_getElem? (i := 2) rfl)) (by decide) (by decide) ?_
  refine xi_aload_n C dX2_init_4 rfl 0 rfl ?_
  refine xi_bipush (v := 24) C dX2_init_5 (by decide +kernel) ?_
  refine xi_newa (ty := .int) (N := 24) (a0 := (24, .inl z0)) C dX2_init_7 (by decide +kernel) rfl 0 rfl (fun _ => rfl) (by decide +kernel) (by decide +kernel) (by decide) (Nat.le_of_ble_eq_true rfl) (Nat.le_of_ble_eq_true rfl) (fun a7 => ?_)
  refine xi_putF (ty := .array .int) (w2 := [(h, .inr (2, [.ref a7])), (a7, .inl (cI, 24, .inl z0))]) C I dX2_init_9 (by decide +kernel) tyX2 tyX2_ok nmX2 0 rfl rfl 0 (by decide) (by decide +kernel) rfl rfl (by decide +kernel) (by rfl) (by rfl) (Nat.le_of_ble_eq_true rfl) rfl ?_
  exact xi_retN C Z ⟨a7, rfl⟩ dX2_init_12
set_option maxHeartbeats 4000000 in
set_option maxRecDepth 100000 in
theorem m_X3_init (D : va_G) (cI cC cZ cR : ClassId) (h : Nat) : xb_MN cX3_init wsX3_init RX3 { frames := 1, cells := 3, slots := 72, locals := 20 } 1 (xb_ty cI cC cZ cR) D [.ref h] [(h, .inr (3, [.null, .null, .null, .int 0]))] (pLo cI h) 3 72 := by
  intro X C I Z
  show xb_G X 0 0 _ [(0, .ref h)] 0 []
  refine xi_aload_n C dX3_init_0 rfl 0 rfl ?_
  refine xi_obj C dX3_init_1 (by decide +kernel) (by decide +kernel) (List.mem_cons_of_mem _ (by first | exact List.mem_append_left _ (List.mem_of_getElem? (i := 2) rfl) | exact List.mem_of_getElem? (i := 2) rfl)) (by decide) (by decide) ?_
  refine xi_aload_n C dX3_init_4 rfl 0 rfl ?_
  refine xi_bipush (v := 24) C dX3_init_5 (by decide +kernel) ?_
  refine xi_newa (ty := .int) (N := 24) (a0 := (24, .inl z0)) C dX3_init_7 (by decide +kernel) rfl 0 rfl (fun _ => rfl) (by decide +kernel) (by decide +kernel) (by decide) (Nat.le_of_ble_eq_true rfl) (Nat.le_of_ble_eq_true rfl) (fun a7 => ?_)
  refine xi_putF (ty := .array .int) (w2 := [(h, .inr (3, [.ref a7, .null, .null, .int 0])), (a7, .inl (cI, 24, .inl z0))]) C I dX3_init_9 (by decide +kernel) tyX3 tyX3_ok nmX3 0 rfl rfl 0 (by decide) (by decide +kernel) rfl rfl (by decide +kernel) (by rfl) (by rfl) (Nat.le_of_ble_eq_true rfl) rfl ?_
  refine xi_aload_n C dX3_init_12 rfl 0 rfl ?_
  refine xi_bipush (v := 24) C dX3_init_13 (by decide +kernel) ?_
  refine xi_newa (ty := .int) (N := 24) (a0 := (24, .inl z0)) C dX3_init_15 (by decide +kernel) rfl 0 rfl (fun _ => rfl) (by decide +kernel) (by decide +kernel) (by decide) (Nat.le_of_ble_eq_true rfl) (Nat.le_of_ble_eq_true rfl) (fun a15 => ?_)
  refine xi_putF (ty := .array .int) (w2 := [(h, .inr (3, [.ref a7, .ref a15, .null, .int 0])), (a7, .inl (cI, 24, .inl z0)), (a15, .inl (cI, 24, .inl z0))]) C I dX3_init_17 (by decide +kernel) tyX3 tyX3_ok nmX3 0 rfl rfl 1 (by decide) (by decide +kernel) rfl rfl (by decide +kernel) (by rfl) (by rfl) (Nat.le_of_ble_eq_true rfl) rfl ?_
  refine xi_aload_n C dX3_init_20 rfl 0 rfl ?_
  refine xi_bipush (v := 24) C dX3_init_21 (by decide +kernel) ?_
  refine xi_newa (ty := .int) (N := 24) (a0 := (24, .inl z0)) C dX3_init_23 (by decide +kernel) rfl 0 rfl (fun _ => rfl) (by decide +kernel) (by decide +kernel) (by decide) (Nat.le_of_ble_eq_true rfl) (Nat.le_of_ble_eq_true rfl) (fun a23 => ?_)
  refine xi_putF (ty := .array .int) (w2 := [(h, .inr (3, [.ref a7, .ref a15, .ref a23, .int 0])), (a7, .inl (cI, 24, .inl z0)), (a15, .inl (cI, 24, .inl z0)), (a23, .inl (cI, 24, .inl z0))]) C I dX3_init_25 (by decide +kernel) tyX3 tyX3_ok nmX3 0 rfl rfl 2 (by decide) (by decide +kernel) rfl rfl (by decide +kernel) (by rfl) (by rfl) (Nat.le_of_ble_eq_true rfl) rfl ?_
  refine xi_aload_n C dX3_init_28 rfl 0 rfl ?_
  refine xi_iconst (v := 0) C dX3_init_29 (by decide +kernel) ?_
  refine xi_put (ty := .int) (w2 := [(h, .inr (3, [.ref a7, .ref a15, .ref a23, .int 0])), (a7, .inl (cI, 24, .inl z0)), (a15, .inl (cI, 24, .inl z0)), (a23, .inl (cI, 24, .inl z0))]) C dX3_init_30 (by decide +kernel) tyX3 tyX3_ok nmX3 0 rfl rfl 3 (by decide) (by decide +kernel) rfl (by decide +kernel) (by rfl) (by rfl) (Nat.le_of_ble_eq_true rfl) rfl ?_
  exact xi_retN C Z ⟨a7, a15, a23, rfl⟩ dX3_init_33
set_option maxHeartbeats 4000000 in
set_option maxRecDepth 100000 in
theorem m_X4_init (D : va_G) (cI cC cZ cR : ClassId) (h : Nat) : xb_MN cX4_init wsX4_init RX4 { frames := 1, cells := 1, slots := 80, locals := 20 } 1 (xb_ty cI cC cZ cR) D [.ref h] [(h, .inr (4, [.null, .int 0, .int 0]))] (pTe cC h) 1 80 := by
  intro X C I Z
  show xb_G X 0 0 _ [(0, .ref h)] 0 []
  refine xi_aload_n C dX4_init_0 rfl 0 rfl ?_
  refine xi_obj C dX4_init_1 (by decide +kernel) (by decide +kernel) (List.mem_cons_of_mem _ (by first | exact List.mem_append_left _ (List.mem_of_getElem? (i := 2) rfl) | exact List.mem_of_getElem? (i := 2) rfl)) (by decide) (by decide) ?_
  refine xi_aload_n C dX4_init_4 rfl 0 rfl ?_
  refine xi_bipush (v := 80) C dX4_init_5 (by decide +kernel) ?_
  refine xi_newa (ty := .char) (N := 80) (a0 := (80, .inl z0)) C dX4_init_7 (by decide +kernel) rfl 1 rfl (fun _ => rfl) (by decide +kernel) (by decide +kernel) (by decide) (Nat.le_of_ble_eq_true rfl) (Nat.le_of_ble_eq_true rfl) (fun a7 => ?_)
  refine xi_putF (ty := .array .char) (w2 := [(h, .inr (4, [.ref a7, .int 0, .int 0])), (a7, .inl (cC, 80, .inl z0))]) C I dX4_init_9 (by decide +kernel) tyX4 tyX4_ok nmX4 0 rfl rfl 0 (by decide) (by decide +kernel) rfl rfl (by decide +kernel) (by rfl) (by rfl) (Nat.le_of_ble_eq_true rfl) rfl ?_
  refine xi_aload_n C dX4_init_12 rfl 0 rfl ?_
  refine xi_iconst (v := 0) C dX4_init_13 (by decide +kernel) ?_
  refine xi_put (ty := .int) (w2 := [(h, .inr (4, [.ref a7, .int 0, .int 0])), (a7, .inl (cC, 80, .inl z0))]) C dX4_init_14 (by decide +kernel) tyX4 tyX4_ok nmX4 0 rfl rfl 1 (by decide) (by decide +kernel) rfl (by decide +kernel) (by rfl) (by rfl) (Nat.le_of_ble_eq_true rfl) rfl ?_
  refine xi_aload_n C dX4_init_17 rfl 0 rfl ?_
  refine xi_iconst (v := 0) C dX4_init_18 (by decide +kernel) ?_
  refine xi_put (ty := .int) (w2 := [(h, .inr (4, [.ref a7, .int 0, .int 0])), (a7, .inl (cC, 80, .inl z0))]) C dX4_init_19 (by decide +kernel) tyX4 tyX4_ok nmX4 0 rfl rfl 2 (by decide) (by decide +kernel) rfl (by decide +kernel) (by rfl) (by rfl) (Nat.le_of_ble_eq_true rfl) rfl ?_
  exact xi_retN C Z ⟨a7, rfl⟩ dX4_init_22
set_option maxHeartbeats 4000000 in
set_option maxRecDepth 100000 in
theorem m_X1_init (D : va_G) (cI cC cZ cR : ClassId) (h : Nat) : xb_MN cX1_init wsX1_init RX1 { frames := 2, cells := 25, slots := 7808, locals := 43 } 2 (xb_ty cI cC cZ cR) D [.ref h] [(h, .inr (1, [.null, .int 0]))] (pHi cI cR h) 25 7808 := by
  intro X C I Z
  show xb_G X 0 0 _ [(0, .ref h)] 0 []
  refine xi_aload_n C dX1_init_0 rfl 0 rfl ?_
  refine xi_obj C dX1_init_1 (by decide +kernel) (by decide +kernel) (List.mem_cons_of_mem _ (List.mem_append_left _ (List.mem_of_getElem? (i := 2) rfl))) (by decide) (by decide) ?_
  refine xi_aload_n C dX1_init_4 rfl 0 rfl ?_
  refine xi_iconst (v := 4) C dX1_init_5 (by decide +kernel) ?_
  refine xi_newq (N := 4) C I dX1_init_6 (by decide +kernel) 3 rfl (by decide +kernel) (by decide +kernel) (by decide) (Nat.le_of_ble_eq_true rfl) (Nat.le_of_ble_eq_true rfl) (fun a => ?_)
  refine xi_putF (ty := .array (.object RX0)) (w2 := ((h, .inr (1, [.ref a, .int 0])) :: (a, .inl (cR, 4, .inr (.inr (.inr (.inr (fun _ => none)))))) :: [])) C I dX1_init_9 (by decide +kernel) tyX1 tyX1_ok nmX1 0 rfl rfl 0 (by decide) (by decide +kernel) rfl rfl (by decide +kernel) (by rfl) (by rfl) (Nat.le_of_ble_eq_true rfl) rfl ?_
  refine xi_aload_n C dX1_init_12 rfl 0 rfl ?_
  refine xi_iconst (v := 0) C dX1_init_13 (by decide +kernel) ?_
  refine xi_put (ty := .int) (w2 := ((h, .inr (1, [.ref a, .int 0])) :: (a, .inl (cR, 4, .inr (.inr (.inr (.inr (fun _ => none)))))) :: [])) C dX1_init_14 (by decide +kernel) tyX1 tyX1_ok nmX1 0 rfl rfl 1 (by decide) (by decide +kernel) rfl (by decide +kernel) (by rfl) (by rfl) (Nat.le_of_ble_eq_true rfl) rfl ?_
  refine xi_iconst (v := 0) C dX1_init_17 (by decide +kernel) ?_
  refine xi_istore_n (lv2 := [(0, .ref h), (1, .int 0)]) C dX1_init_18 rfl (by decide) [0] [1, 0] rfl ?_
  refine xi_iload_n C dX1_init_19 rfl 1 rfl ?_
  refine xi_iconst (v := 4) C dX1_init_20 (by decide +kernel) ?_
  refine xi_icmp_ge (tgt := 43) C dX1_init_21 (by decide) (fun c0 => absurd c0 (by decide)) (fun c0 => ?_)
  refine xi_aload_n C dX1_init_24 rfl 0 rfl ?_
  refine xi_get C dX1_init_25 (by decide +kernel) 0 rfl rfl 0 (by decide) (by decide +kernel) rfl ?_
  refine xi_iload_n C dX1_init_28 rfl 1 rfl ?_
  refine xi_new (fs := [.null, .null, .null, .null, .null, .int 0, .int 0]) (ci := 0) (Cn := RX0) (T := TX0) (N := 7) C dX1_init_29 (by decide +kernel) tyX0 tyX0_ok (by decide +kernel) (by decide +kernel) (by decide +kernel) rfl (fun j hj => match j, hj with | 0, _ => rfl | 1, _ => rfl | 2, _ => rfl | 3, _ => rfl | 4, _ => rfl | 5, _ => rfl | 6, _ => rfl | j + 7, h => absurd h (by omega)) (Nat.le_of_ble_eq_true rfl) (Nat.le_of_ble_eq_true rfl) (fun q0 => ?_)
  refine xi_dup C dX1_init_32 rfl ?_
  refine xi_callI (e0 := .inr (0, [.null, .null, .null, .null, .null, .int 0, .int 0])) (w0 := ((h, .inr (1, [.ref a, .int 0])) :: (a, .inl (cR, 4, .inr (.inr (.inr (.inr (fun _ => none)))))) :: [])) (rest := [.ref q0, .int 0, .ref a]) (P := (pBd cI q0)) C (xb_AOX I) (m_X0_init D cI cC cZ cR q0) (by decide) rfl (show wsX0_init = Cond.code yX0_init cX0_init 1 none :: _ from rfl) ⟨by decide, by decide, by decide +kernel⟩ rfl rfl gX1_init_X0_init (by decide +kernel) (by decide +kernel) (by decide +kernel) dX1_init_33 ⟨Nat.le_of_ble_eq_true rfl, Nat.le_of_ble_eq_true rfl, Nat.le_of_ble_eq_true rfl⟩ [0, 1, 2, 3] rfl rfl (Nat.le_of_ble_eq_true rfl) ⟨Nat.le_of_ble_eq_true rfl, Nat.le_of_ble_eq_true rfl⟩ (fun w0 hw0 => ?_)
  obtain ⟨ad0, b0, hq0, rfl, hb0⟩ := hw0
  subst hq0
  refine xi_astq (w2 := ((h, .inr (1, [.ref a, .int 0])) :: (a, .inl (cR, 4, .inr (.inr (.inr (.inr (va_up (fun _ => none) 0 (some (ad0 0)))))))) :: ([] ++ (wHb cI ad0 b0)))) C dX1_init_36 1 3 2 0 rfl rfl rfl rfl (vp_in_iff.mpr (by decide +kernel)) rfl ?_
  refine xi_iinc (v := 1) (lv2 := [(0, .ref h), (1, .int 1)]) C dX1_init_37 1 rfl (by rfl) (by decide) [0] [1, 0] rfl ?_
  refine xi_goto (tgt := 19) C dX1_init_40 (by decide) ?_
  refine xi_iload_n C dX1_init_19 rfl 1 rfl ?_
  refine xi_iconst (v := 4) C dX1_init_20 (by decide +kernel) ?_
  refine xi_icmp_ge (tgt := 43) C dX1_init_21 (by decide) (fun c1 => absurd c1 (by decide)) (fun c1 => ?_)
  refine xi_aload_n C dX1_init_24 rfl 0 rfl ?_
  refine xi_get C dX1_init_25 (by decide +kernel) 0 rfl rfl 0 (by decide) (by decide +kernel) rfl ?_
  refine xi_iload_n C dX1_init_28 rfl 1 rfl ?_
  refine xi_new (fs := [.null, .null, .null, .null, .null, .int 0, .int 0]) (ci := 0) (Cn := RX0) (T := TX0) (N := 7) C dX1_init_29 (by decide +kernel) tyX0 tyX0_ok (by decide +kernel) (by decide +kernel) (by decide +kernel) rfl (fun j hj => match j, hj with | 0, _ => rfl | 1, _ => rfl | 2, _ => rfl | 3, _ => rfl | 4, _ => rfl | 5, _ => rfl | 6, _ => rfl | j + 7, h => absurd h (by omega)) (Nat.le_of_ble_eq_true rfl) (Nat.le_of_ble_eq_true rfl) (fun q1 => ?_)
  refine xi_dup C dX1_init_32 rfl ?_
  refine xi_callI (e0 := .inr (0, [.null, .null, .null, .null, .null, .int 0, .int 0])) (w0 := ((h, .inr (1, [.ref a, .int 0])) :: (a, .inl (cR, 4, .inr (.inr (.inr (.inr (va_up (fun _ => none) 0 (some (ad0 0)))))))) :: ([] ++ (wHb cI ad0 b0)))) (rest := [.ref q1, .int 1, .ref a]) (P := (pBd cI q1)) C (xb_AOX I) (m_X0_init D cI cC cZ cR q1) (by decide) rfl (show wsX0_init = Cond.code yX0_init cX0_init 1 none :: _ from rfl) ⟨by decide, by decide, by decide +kernel⟩ rfl rfl gX1_init_X0_init (by decide +kernel) (by decide +kernel) (by decide +kernel) dX1_init_33 ⟨Nat.le_of_ble_eq_true rfl, Nat.le_of_ble_eq_true rfl, Nat.le_of_ble_eq_true rfl⟩ [0, 1, 2, 3] rfl rfl (Nat.le_of_ble_eq_true rfl) ⟨Nat.le_of_ble_eq_true rfl, Nat.le_of_ble_eq_true rfl⟩ (fun w1 hw1 => ?_)
  obtain ⟨ad1, b1, hq1, rfl, hb1⟩ := hw1
  subst hq1
  refine xi_astq (w2 := ((h, .inr (1, [.ref a, .int 0])) :: (a, .inl (cR, 4, .inr (.inr (.inr (.inr (va_up (va_up (fun _ => none) 0 (some (ad0 0))) 1 (some (ad1 0)))))))) :: (([] ++ (wHb cI ad0 b0)) ++ (wHb cI ad1 b1)))) C dX1_init_36 1 3 8 0 rfl rfl rfl rfl (vp_in_iff.mpr (by decide +kernel)) rfl ?_
  refine xi_iinc (v := 2) (lv2 := [(0, .ref h), (1, .int 2)]) C dX1_init_37 1 rfl (by rfl) (by decide) [0] [1, 0] rfl ?_
  refine xi_goto (tgt := 19) C dX1_init_40 (by decide) ?_
  refine xi_iload_n C dX1_init_19 rfl 1 rfl ?_
  refine xi_iconst (v := 4) C dX1_init_20 (by decide +kernel) ?_
  refine xi_icmp_ge (tgt := 43) C dX1_init_21 (by decide) (fun c2 => absurd c2 (by decide)) (fun c2 => ?_)
  refine xi_aload_n C dX1_init_24 rfl 0 rfl ?_
  refine xi_get C dX1_init_25 (by decide +kernel) 0 rfl rfl 0 (by decide) (by decide +kernel) rfl ?_
  refine xi_iload_n C dX1_init_28 rfl 1 rfl ?_
  refine xi_new (fs := [.null, .null, .null, .null, .null, .int 0, .int 0]) (ci := 0) (Cn := RX0) (T := TX0) (N := 7) C dX1_init_29 (by decide +kernel) tyX0 tyX0_ok (by decide +kernel) (by decide +kernel) (by decide +kernel) rfl (fun j hj => match j, hj with | 0, _ => rfl | 1, _ => rfl | 2, _ => rfl | 3, _ => rfl | 4, _ => rfl | 5, _ => rfl | 6, _ => rfl | j + 7, h => absurd h (by omega)) (Nat.le_of_ble_eq_true rfl) (Nat.le_of_ble_eq_true rfl) (fun q2 => ?_)
  refine xi_dup C dX1_init_32 rfl ?_
  refine xi_callI (e0 := .inr (0, [.null, .null, .null, .null, .null, .int 0, .int 0])) (w0 := ((h, .inr (1, [.ref a, .int 0])) :: (a, .inl (cR, 4, .inr (.inr (.inr (.inr (va_up (va_up (fun _ => none) 0 (some (ad0 0))) 1 (some (ad1 0)))))))) :: (([] ++ (wHb cI ad0 b0)) ++ (wHb cI ad1 b1)))) (rest := [.ref q2, .int 2, .ref a]) (P := (pBd cI q2)) C (xb_AOX I) (m_X0_init D cI cC cZ cR q2) (by decide) rfl (show wsX0_init = Cond.code yX0_init cX0_init 1 none :: _ from rfl) ⟨by decide, by decide, by decide +kernel⟩ rfl rfl gX1_init_X0_init (by decide +kernel) (by decide +kernel) (by decide +kernel) dX1_init_33 ⟨Nat.le_of_ble_eq_true rfl, Nat.le_of_ble_eq_true rfl, Nat.le_of_ble_eq_true rfl⟩ [0, 1, 2, 3] rfl rfl (Nat.le_of_ble_eq_true rfl) ⟨Nat.le_of_ble_eq_true rfl, Nat.le_of_ble_eq_true rfl⟩ (fun w2 hw2 => ?_)
  obtain ⟨ad2, b2, hq2, rfl, hb2⟩ := hw2
  subst hq2
  refine xi_astq (w2 := ((h, .inr (1, [.ref a, .int 0])) :: (a, .inl (cR, 4, .inr (.inr (.inr (.inr (va_up (va_up (va_up (fun _ => none) 0 (some (ad0 0))) 1 (some (ad1 0))) 2 (some (ad2 0)))))))) :: ((([] ++ (wHb cI ad0 b0)) ++ (wHb cI ad1 b1)) ++ (wHb cI ad2 b2)))) C dX1_init_36 1 3 14 0 rfl rfl rfl rfl (vp_in_iff.mpr (by decide +kernel)) rfl ?_
  refine xi_iinc (v := 3) (lv2 := [(0, .ref h), (1, .int 3)]) C dX1_init_37 1 rfl (by rfl) (by decide) [0] [1, 0] rfl ?_
  refine xi_goto (tgt := 19) C dX1_init_40 (by decide) ?_
  refine xi_iload_n C dX1_init_19 rfl 1 rfl ?_
  refine xi_iconst (v := 4) C dX1_init_20 (by decide +kernel) ?_
  refine xi_icmp_ge (tgt := 43) C dX1_init_21 (by decide) (fun c3 => absurd c3 (by decide)) (fun c3 => ?_)
  refine xi_aload_n C dX1_init_24 rfl 0 rfl ?_
  refine xi_get C dX1_init_25 (by decide +kernel) 0 rfl rfl 0 (by decide) (by decide +kernel) rfl ?_
  refine xi_iload_n C dX1_init_28 rfl 1 rfl ?_
  refine xi_new (fs := [.null, .null, .null, .null, .null, .int 0, .int 0]) (ci := 0) (Cn := RX0) (T := TX0) (N := 7) C dX1_init_29 (by decide +kernel) tyX0 tyX0_ok (by decide +kernel) (by decide +kernel) (by decide +kernel) rfl (fun j hj => match j, hj with | 0, _ => rfl | 1, _ => rfl | 2, _ => rfl | 3, _ => rfl | 4, _ => rfl | 5, _ => rfl | 6, _ => rfl | j + 7, h => absurd h (by omega)) (Nat.le_of_ble_eq_true rfl) (Nat.le_of_ble_eq_true rfl) (fun q3 => ?_)
  refine xi_dup C dX1_init_32 rfl ?_
  refine xi_callI (e0 := .inr (0, [.null, .null, .null, .null, .null, .int 0, .int 0])) (w0 := ((h, .inr (1, [.ref a, .int 0])) :: (a, .inl (cR, 4, .inr (.inr (.inr (.inr (va_up (va_up (va_up (fun _ => none) 0 (some (ad0 0))) 1 (some (ad1 0))) 2 (some (ad2 0)))))))) :: ((([] ++ (wHb cI ad0 b0)) ++ (wHb cI ad1 b1)) ++ (wHb cI ad2 b2)))) (rest := [.ref q3, .int 3, .ref a]) (P := (pBd cI q3)) C (xb_AOX I) (m_X0_init D cI cC cZ cR q3) (by decide) rfl (show wsX0_init = Cond.code yX0_init cX0_init 1 none :: _ from rfl) ⟨by decide, by decide, by decide +kernel⟩ rfl rfl gX1_init_X0_init (by decide +kernel) (by decide +kernel) (by decide +kernel) dX1_init_33 ⟨Nat.le_of_ble_eq_true rfl, Nat.le_of_ble_eq_true rfl, Nat.le_of_ble_eq_true rfl⟩ [0, 1, 2, 3] rfl rfl (Nat.le_of_ble_eq_true rfl) ⟨Nat.le_of_ble_eq_true rfl, Nat.le_of_ble_eq_true rfl⟩ (fun w3 hw3 => ?_)
  obtain ⟨ad3, b3, hq3, rfl, hb3⟩ := hw3
  subst hq3
  refine xi_astq (w2 := ((h, .inr (1, [.ref a, .int 0])) :: (a, .inl (cR, 4, .inr (.inr (.inr (.inr (va_up (va_up (va_up (va_up (fun _ => none) 0 (some (ad0 0))) 1 (some (ad1 0))) 2 (some (ad2 0))) 3 (some (ad3 0)))))))) :: (((([] ++ (wHb cI ad0 b0)) ++ (wHb cI ad1 b1)) ++ (wHb cI ad2 b2)) ++ (wHb cI ad3 b3)))) C dX1_init_36 1 3 20 0 rfl rfl rfl rfl (vp_in_iff.mpr (by decide +kernel)) rfl ?_
  refine xi_iinc (v := 4) (lv2 := [(0, .ref h), (1, .int 4)]) C dX1_init_37 1 rfl (by rfl) (by decide) [0] [1, 0] rfl ?_
  refine xi_goto (tgt := 19) C dX1_init_40 (by decide) ?_
  refine xi_iload_n C dX1_init_19 rfl 1 rfl ?_
  refine xi_iconst (v := 4) C dX1_init_20 (by decide +kernel) ?_
  refine xi_icmp_ge (tgt := 43) C dX1_init_21 (by decide) (fun c4 => ?_) (fun c4 => absurd (by decide) c4)
  refine xb_wq (g := fun j => some ((match id j with | 0 => ad0 | 1 => ad1 | 2 => ad2 | _ => ad3) 0)) (fun j hj => ?_) rfl ?_
  · rcases (show j = 0 ∨ j = 1 ∨ j = 2 ∨ j = 3 by omega) with rfl | rfl | rfl | rfl <;> rfl
  · refine xi_retN C Z ⟨a, fun j => match j with | 0 => ad0 | 1 => ad1 | 2 => ad2 | _ => ad3, fun j => match j with | 0 => b0 | 1 => b1 | 2 => b2 | _ => b3, rfl, fun j hj => ?_⟩ dX1_init_43
    rcases (show j = 0 ∨ j = 1 ∨ j = 2 ∨ j = 3 by omega) with rfl | rfl | rfl | rfl <;> assumption
def pLB (cI cC cR : ClassId) (h : Nat) : va_W → Prop := fun w1 => ∃ (a1 a2 a3 : Nat → Nat) (b t s : xBd) (hi a : Nat) (ha : Nat → Nat → Nat) (hb : Nat → xBd) (la k lo l1 l2 l3 te t1 : Nat), w1 = ((h, .inr (5, [.ref (a1 0), .ref (a2 0), .ref (a3 0), .ref hi, .ref la, .ref lo, .ref te, .int 0])) :: ((((((([] ++ wHb cI a1 b) ++ wHb cI a2 t) ++ wHb cI a3 s) ++ wHi cI cR hi a ha 0 id hb) ++ wLa cI la k z0) ++ wLo cI lo l1 l2 l3 z0 z0 z0 0) ++ wTe cC te t1 z0 0 0)) ∧ bS0 b ∧ bS0 t ∧ bS0 s ∧ ∀ j, j < 4 → bS0 (hb j)
set_option maxHeartbeats 4000000 in
set_option maxRecDepth 100000 in
theorem m_X5_init (D : va_G) (cI cC cZ cR : ClassId) (h : Nat) : xb_MN cX5_init wsX5_init RX5 { frames := 3, cells := 52, slots := 13847, locals := 64 } 1 (xb_ty cI cC cZ cR) D [.ref h] [(h, .inr (5, [.null, .null, .null, .null, .null, .null, .null, .int 0]))] (pLB cI cC cR h) 52 13847 := by
  intro X C I Z
  show xb_G X 0 0 _ [(0, .ref h)] 0 []
  refine xi_aload_n C dX5_init_0 rfl 0 rfl ?_
  refine xi_obj C dX5_init_1 (by decide +kernel) (by decide +kernel) (List.mem_cons_of_mem _ (by first | exact List.mem_append_left _ (List.mem_of_getElem? (i := 2) rfl) | exact List.mem_of_getElem? (i := 2) rfl)) (by decide) (by decide) ?_
  refine xi_aload_n C dX5_init_4 rfl 0 rfl ?_
  refine xi_new (fs := [.null, .null, .null, .null, .null, .int 0, .int 0]) (ci := 0) (Cn := RX0) (T := TX0) (N := 7) C dX5_init_5 (by decide +kernel) tyX0 tyX0_ok (by decide +kernel) (by decide +kernel) (by decide +kernel) rfl (fun j hj => match j, hj with | 0, _ => rfl | 1, _ => rfl | 2, _ => rfl | 3, _ => rfl | 4, _ => rfl | 5, _ => rfl | 6, _ => rfl | j + 7, h => absurd h (by omega)) (Nat.le_of_ble_eq_true rfl) (Nat.le_of_ble_eq_true rfl) (fun q5 => ?_)
  refine xi_dup C dX5_init_8 rfl ?_
  refine xi_callI (e0 := .inr (0, [.null, .null, .null, .null, .null, .int 0, .int 0])) (w0 := ((h, .inr (5, [.null, .null, .null, .null, .null, .null, .null, .int 0])) :: [])) (rest := [.ref q5, .ref h]) (P := (pBd cI q5)) C (xb_AOX I) (m_X0_init D cI cC cZ cR q5) (by decide) rfl (show wsX0_init = Cond.code yX0_init cX0_init 1 none :: _ from rfl) ⟨by decide, by decide, by decide +kernel⟩ rfl rfl gX5_init_X0_init (by decide +kernel) (by decide +kernel) (by decide +kernel) dX5_init_9 ⟨Nat.le_of_ble_eq_true rfl, Nat.le_of_ble_eq_true rfl, Nat.le_of_ble_eq_true rfl⟩ [0, 1, 2, 3] rfl rfl (Nat.le_of_ble_eq_true rfl) ⟨Nat.le_of_ble_eq_true rfl, Nat.le_of_ble_eq_true rfl⟩ (fun w5 hw5 => ?_)
  obtain ⟨ad5, b5, hq5, rfl, hb5⟩ := hw5
  subst hq5
  refine xi_putF (ty := .object "LookupBoard$Board") (w2 := ((h, .inr (5, [.ref (ad5 0), .null, .null, .null, .null, .null, .null, .int 0])) :: ([] ++ (wHb cI ad5 b5)))) C I dX5_init_12 (by decide +kernel) tyX5 tyX5_ok nmX5 0 rfl rfl 0 (by decide) (by decide +kernel) rfl rfl (by decide +kernel) (by rfl) (by rfl) (Nat.le_of_ble_eq_true rfl) rfl ?_
  refine xi_aload_n C dX5_init_15 rfl 0 rfl ?_
  refine xi_new (fs := [.null, .null, .null, .null, .null, .int 0, .int 0]) (ci := 0) (Cn := RX0) (T := TX0) (N := 7) C dX5_init_16 (by decide +kernel) tyX0 tyX0_ok (by decide +kernel) (by decide +kernel) (by decide +kernel) rfl (fun j hj => match j, hj with | 0, _ => rfl | 1, _ => rfl | 2, _ => rfl | 3, _ => rfl | 4, _ => rfl | 5, _ => rfl | 6, _ => rfl | j + 7, h => absurd h (by omega)) (Nat.le_of_ble_eq_true rfl) (Nat.le_of_ble_eq_true rfl) (fun q16 => ?_)
  refine xi_dup C dX5_init_19 rfl ?_
  refine xi_callI (e0 := .inr (0, [.null, .null, .null, .null, .null, .int 0, .int 0])) (w0 := ((h, .inr (5, [.ref (ad5 0), .null, .null, .null, .null, .null, .null, .int 0])) :: ([] ++ (wHb cI ad5 b5)))) (rest := [.ref q16, .ref h]) (P := (pBd cI q16)) C (xb_AOX I) (m_X0_init D cI cC cZ cR q16) (by decide) rfl (show wsX0_init = Cond.code yX0_init cX0_init 1 none :: _ from rfl) ⟨by decide, by decide, by decide +kernel⟩ rfl rfl gX5_init_X0_init (by decide +kernel) (by decide +kernel) (by decide +kernel) dX5_init_20 ⟨Nat.le_of_ble_eq_true rfl, Nat.le_of_ble_eq_true rfl, Nat.le_of_ble_eq_true rfl⟩ [0, 1, 2, 3] rfl rfl (Nat.le_of_ble_eq_true rfl) ⟨Nat.le_of_ble_eq_true rfl, Nat.le_of_ble_eq_true rfl⟩ (fun w16 hw16 => ?_)
  obtain ⟨ad16, b16, hq16, rfl, hb16⟩ := hw16
  subst hq16
  refine xi_putF (ty := .object "LookupBoard$Board") (w2 := ((h, .inr (5, [.ref (ad5 0), .ref (ad16 0), .null, .null, .null, .null, .null, .int 0])) :: (([] ++ (wHb cI ad5 b5)) ++ (wHb cI ad16 b16)))) C I dX5_init_23 (by decide +kernel) tyX5 tyX5_ok nmX5 0 rfl rfl 1 (by decide) (by decide +kernel) rfl rfl (by decide +kernel) (by rfl) (by rfl) (Nat.le_of_ble_eq_true rfl) rfl ?_
  refine xi_aload_n C dX5_init_26 rfl 0 rfl ?_
  refine xi_new (fs := [.null, .null, .null, .null, .null, .int 0, .int 0]) (ci := 0) (Cn := RX0) (T := TX0) (N := 7) C dX5_init_27 (by decide +kernel) tyX0 tyX0_ok (by decide +kernel) (by decide +kernel) (by decide +kernel) rfl (fun j hj => match j, hj with | 0, _ => rfl | 1, _ => rfl | 2, _ => rfl | 3, _ => rfl | 4, _ => rfl | 5, _ => rfl | 6, _ => rfl | j + 7, h => absurd h (by omega)) (Nat.le_of_ble_eq_true rfl) (Nat.le_of_ble_eq_true rfl) (fun q27 => ?_)
  refine xi_dup C dX5_init_30 rfl ?_
  refine xi_callI (e0 := .inr (0, [.null, .null, .null, .null, .null, .int 0, .int 0])) (w0 := ((h, .inr (5, [.ref (ad5 0), .ref (ad16 0), .null, .null, .null, .null, .null, .int 0])) :: (([] ++ (wHb cI ad5 b5)) ++ (wHb cI ad16 b16)))) (rest := [.ref q27, .ref h]) (P := (pBd cI q27)) C (xb_AOX I) (m_X0_init D cI cC cZ cR q27) (by decide) rfl (show wsX0_init = Cond.code yX0_init cX0_init 1 none :: _ from rfl) ⟨by decide, by decide, by decide +kernel⟩ rfl rfl gX5_init_X0_init (by decide +kernel) (by decide +kernel) (by decide +kernel) dX5_init_31 ⟨Nat.le_of_ble_eq_true rfl, Nat.le_of_ble_eq_true rfl, Nat.le_of_ble_eq_true rfl⟩ [0, 1, 2, 3] rfl rfl (Nat.le_of_ble_eq_true rfl) ⟨Nat.le_of_ble_eq_true rfl, Nat.le_of_ble_eq_true rfl⟩ (fun w27 hw27 => ?_)
  obtain ⟨ad27, b27, hq27, rfl, hb27⟩ := hw27
  subst hq27
  refine xi_putF (ty := .object "LookupBoard$Board") (w2 := ((h, .inr (5, [.ref (ad5 0), .ref (ad16 0), .ref (ad27 0), .null, .null, .null, .null, .int 0])) :: ((([] ++ (wHb cI ad5 b5)) ++ (wHb cI ad16 b16)) ++ (wHb cI ad27 b27)))) C I dX5_init_34 (by decide +kernel) tyX5 tyX5_ok nmX5 0 rfl rfl 2 (by decide) (by decide +kernel) rfl rfl (by decide +kernel) (by rfl) (by rfl) (Nat.le_of_ble_eq_true rfl) rfl ?_
  refine xi_aload_n C dX5_init_37 rfl 0 rfl ?_
  refine xi_new (fs := [.null, .int 0]) (ci := 1) (Cn := RX1) (T := TX1) (N := 2) C dX5_init_38 (by decide +kernel) tyX1 tyX1_ok (by decide +kernel) (by decide +kernel) (by decide +kernel) rfl (fun j hj => match j, hj with | 0, _ => rfl | 1, _ => rfl | j + 2, h => absurd h (by omega)) (Nat.le_of_ble_eq_true rfl) (Nat.le_of_ble_eq_true rfl) (fun q38 => ?_)
  refine xi_dup C dX5_init_41 rfl ?_
  refine xi_callI (e0 := .inr (1, [.null, .int 0])) (w0 := ((h, .inr (5, [.ref (ad5 0), .ref (ad16 0), .ref (ad27 0), .null, .null, .null, .null, .int 0])) :: ((([] ++ (wHb cI ad5 b5)) ++ (wHb cI ad16 b16)) ++ (wHb cI ad27 b27)))) (rest := [.ref q38, .ref h]) (P := (pHi cI cR q38)) C (xb_AOX I) (m_X1_init D cI cC cZ cR q38) (by decide) rfl (show wsX1_init = Cond.code yX1_init cX1_init 2 none :: _ from rfl) ⟨by decide, by decide, by decide +kernel⟩ rfl rfl gX5_init_X1_init (by decide +kernel) (by decide +kernel) (by decide +kernel) dX5_init_42 ⟨Nat.le_of_ble_eq_true rfl, Nat.le_of_ble_eq_true rfl, Nat.le_of_ble_eq_true rfl⟩ [0, 1, 2, 3] rfl rfl (Nat.le_of_ble_eq_true rfl) ⟨Nat.le_of_ble_eq_true rfl, Nat.le_of_ble_eq_true rfl⟩ (fun w38 hw38 => ?_)
  obtain ⟨a38, ha38, hb38, rfl, hh38⟩ := hw38
  refine xi_putF (ty := .object "LookupBoard$History") (w2 := ((h, .inr (5, [.ref (ad5 0), .ref (ad16 0), .ref (ad27 0), .ref q38, .null, .null, .null, .int 0])) :: (((([] ++ (wHb cI ad5 b5)) ++ (wHb cI ad16 b16)) ++ (wHb cI ad27 b27)) ++ (wHi cI cR q38 a38 ha38 0 id hb38)))) C I dX5_init_45 (by decide +kernel) tyX5 tyX5_ok nmX5 0 rfl rfl 3 (by decide) (by decide +kernel) rfl rfl (by decide +kernel) (by rfl) (by rfl) (Nat.le_of_ble_eq_true rfl) rfl ?_
  refine xi_aload_n C dX5_init_48 rfl 0 rfl ?_
  refine xi_new (fs := [.null]) (ci := 2) (Cn := RX2) (T := TX2) (N := 1) C dX5_init_49 (by decide +kernel) tyX2 tyX2_ok (by decide +kernel) (by decide +kernel) (by decide +kernel) rfl (fun j hj => match j, hj with | 0, _ => rfl | j + 1, h => absurd h (by omega)) (Nat.le_of_ble_eq_true rfl) (Nat.le_of_ble_eq_true rfl) (fun q49 => ?_)
  refine xi_dup C dX5_init_52 rfl ?_
  refine xi_callIN (e0 := .inr (2, [.null])) (w0 := ((h, .inr (5, [.ref (ad5 0), .ref (ad16 0), .ref (ad27 0), .ref q38, .null, .null, .null, .int 0])) :: (((([] ++ (wHb cI ad5 b5)) ++ (wHb cI ad16 b16)) ++ (wHb cI ad27 b27)) ++ (wHi cI cR q38 a38 ha38 0 id hb38)))) (rest := [.ref q49, .ref h]) (P := (pLa cI q49)) C (xb_AOX I) (m_X2_init D cI cC cZ cR q49) (by decide) rfl (show wsX2_init = Cond.code yX2_init cX2_init 1 none :: _ from rfl) ⟨by decide, by decide, by decide +kernel⟩ rfl rfl gX5_init_X2_init_n31 (by decide +kernel) (by decide +kernel) (by decide +kernel) dX5_init_53 ⟨Nat.le_of_ble_eq_true rfl, Nat.le_of_ble_eq_true rfl, Nat.le_of_ble_eq_true rfl⟩ [0, 1, 2, 3] rfl rfl (Nat.le_of_ble_eq_true rfl) ⟨Nat.le_of_ble_eq_true rfl, Nat.le_of_ble_eq_true rfl⟩ (fun w49 hw49 => ?_)
  obtain ⟨a49, rfl⟩ := hw49
  refine xi_putF (ty := .object "LookupBoard$Layer") (w2 := ((h, .inr (5, [.ref (ad5 0), .ref (ad16 0), .ref (ad27 0), .ref q38, .ref q49, .null, .null, .int 0])) :: ((((([] ++ (wHb cI ad5 b5)) ++ (wHb cI ad16 b16)) ++ (wHb cI ad27 b27)) ++ (wHi cI cR q38 a38 ha38 0 id hb38)) ++ (wLa cI q49 a49 z0)))) C I dX5_init_56 (by decide +kernel) tyX5 tyX5_ok nmX5 0 rfl rfl 4 (by decide) (by decide +kernel) rfl rfl (by decide +kernel) (by rfl) (by rfl) (Nat.le_of_ble_eq_true rfl) rfl ?_
  refine xi_aload_n C dX5_init_59 rfl 0 rfl ?_
  refine xi_new (fs := [.null, .null, .null, .int 0]) (ci := 3) (Cn := RX3) (T := TX3) (N := 4) C dX5_init_60 (by decide +kernel) tyX3 tyX3_ok (by decide +kernel) (by decide +kernel) (by decide +kernel) rfl (fun j hj => match j, hj with | 0, _ => rfl | 1, _ => rfl | 2, _ => rfl | 3, _ => rfl | j + 4, h => absurd h (by omega)) (Nat.le_of_ble_eq_true rfl) (Nat.le_of_ble_eq_true rfl) (fun q60 => ?_)
  refine xi_dup C dX5_init_63 rfl ?_
  refine xi_callIN (e0 := .inr (3, [.null, .null, .null, .int 0])) (w0 := ((h, .inr (5, [.ref (ad5 0), .ref (ad16 0), .ref (ad27 0), .ref q38, .ref q49, .null, .null, .int 0])) :: ((((([] ++ (wHb cI ad5 b5)) ++ (wHb cI ad16 b16)) ++ (wHb cI ad27 b27)) ++ (wHi cI cR q38 a38 ha38 0 id hb38)) ++ (wLa cI q49 a49 z0)))) (rest := [.ref q60, .ref h]) (P := (pLo cI q60)) C (xb_AOX I) (m_X3_init D cI cC cZ cR q60) (by decide) rfl (show wsX3_init = Cond.code yX3_init cX3_init 1 none :: _ from rfl) ⟨by decide, by decide, by decide +kernel⟩ rfl rfl gX5_init_X3_init_n38 (by decide +kernel) (by decide +kernel) (by decide +kernel) dX5_init_64 ⟨Nat.le_of_ble_eq_true rfl, Nat.le_of_ble_eq_true rfl, Nat.le_of_ble_eq_true rfl⟩ [0, 1, 2, 3] rfl rfl (Nat.le_of_ble_eq_true rfl) ⟨Nat.le_of_ble_eq_true rfl, Nat.le_of_ble_eq_true rfl⟩ (fun w60 hw60 => ?_)
  obtain ⟨a60a, a60b, a60c, rfl⟩ := hw60
  refine xi_putF (ty := .object "LookupBoard$Logic") (w2 := ((h, .inr (5, [.ref (ad5 0), .ref (ad16 0), .ref (ad27 0), .ref q38, .ref q49, .ref q60, .null, .int 0])) :: (((((([] ++ (wHb cI ad5 b5)) ++ (wHb cI ad16 b16)) ++ (wHb cI ad27 b27)) ++ (wHi cI cR q38 a38 ha38 0 id hb38)) ++ (wLa cI q49 a49 z0)) ++ (wLo cI q60 a60a a60b a60c z0 z0 z0 0)))) C I dX5_init_67 (by decide +kernel) tyX5 tyX5_ok nmX5 0 rfl rfl 5 (by decide) (by decide +kernel) rfl rfl (by decide +kernel) (by rfl) (by rfl) (Nat.le_of_ble_eq_true rfl) rfl ?_
  refine xi_aload_n C dX5_init_70 rfl 0 rfl ?_
  refine xi_new (fs := [.null, .int 0, .int 0]) (ci := 4) (Cn := RX4) (T := TX4) (N := 3) C dX5_init_71 (by decide +kernel) tyX4 tyX4_ok (by decide +kernel) (by decide +kernel) (by decide +kernel) rfl (fun j hj => match j, hj with | 0, _ => rfl | 1, _ => rfl | 2, _ => rfl | j + 3, h => absurd h (by omega)) (Nat.le_of_ble_eq_true rfl) (Nat.le_of_ble_eq_true rfl) (fun q71 => ?_)
  refine xi_dup C dX5_init_74 rfl ?_
  refine xi_callIN (e0 := .inr (4, [.null, .int 0, .int 0])) (w0 := ((h, .inr (5, [.ref (ad5 0), .ref (ad16 0), .ref (ad27 0), .ref q38, .ref q49, .ref q60, .null, .int 0])) :: (((((([] ++ (wHb cI ad5 b5)) ++ (wHb cI ad16 b16)) ++ (wHb cI ad27 b27)) ++ (wHi cI cR q38 a38 ha38 0 id hb38)) ++ (wLa cI q49 a49 z0)) ++ (wLo cI q60 a60a a60b a60c z0 z0 z0 0)))) (rest := [.ref q71, .ref h]) (P := (pTe cC q71)) C (xb_AOX I) (m_X4_init D cI cC cZ cR q71) (by decide) rfl (show wsX4_init = Cond.code yX4_init cX4_init 1 none :: _ from rfl) ⟨by decide, by decide, by decide +kernel⟩ rfl rfl gX5_init_X4_init_n45 (by decide +kernel) (by decide +kernel) (by decide +kernel) dX5_init_75 ⟨Nat.le_of_ble_eq_true rfl, Nat.le_of_ble_eq_true rfl, Nat.le_of_ble_eq_true rfl⟩ [0, 1, 2, 3] rfl rfl (Nat.le_of_ble_eq_true rfl) ⟨Nat.le_of_ble_eq_true rfl, Nat.le_of_ble_eq_true rfl⟩ (fun w71 hw71 => ?_)
  obtain ⟨a71, rfl⟩ := hw71
  refine xi_putF (ty := .object "LookupBoard$PlanText") (w2 := ((h, .inr (5, [.ref (ad5 0), .ref (ad16 0), .ref (ad27 0), .ref q38, .ref q49, .ref q60, .ref q71, .int 0])) :: ((((((([] ++ (wHb cI ad5 b5)) ++ (wHb cI ad16 b16)) ++ (wHb cI ad27 b27)) ++ (wHi cI cR q38 a38 ha38 0 id hb38)) ++ (wLa cI q49 a49 z0)) ++ (wLo cI q60 a60a a60b a60c z0 z0 z0 0)) ++ (wTe cC q71 a71 z0 0 0)))) C I dX5_init_78 (by decide +kernel) tyX5 tyX5_ok nmX5 0 rfl rfl 6 (by decide) (by decide +kernel) rfl rfl (by decide +kernel) (by rfl) (by rfl) (Nat.le_of_ble_eq_true rfl) rfl ?_
  refine xi_aload_n C dX5_init_81 rfl 0 rfl ?_
  refine xi_iconst (v := 0) C dX5_init_82 (by decide +kernel) ?_
  refine xi_put (ty := .boolean) (w2 := ((h, .inr (5, [.ref (ad5 0), .ref (ad16 0), .ref (ad27 0), .ref q38, .ref q49, .ref q60, .ref q71, .int 0])) :: ((((((([] ++ (wHb cI ad5 b5)) ++ (wHb cI ad16 b16)) ++ (wHb cI ad27 b27)) ++ (wHi cI cR q38 a38 ha38 0 id hb38)) ++ (wLa cI q49 a49 z0)) ++ (wLo cI q60 a60a a60b a60c z0 z0 z0 0)) ++ (wTe cC q71 a71 z0 0 0)))) C dX5_init_83 (by decide +kernel) tyX5 tyX5_ok nmX5 0 rfl rfl 7 (by decide) (by decide +kernel) rfl (by decide +kernel) (by rfl) (by rfl) (Nat.le_of_ble_eq_true rfl) rfl ?_
  exact xi_retN C Z ⟨_, _, _, _, _, _, _, _, _, _, _, _, _, _, _, _, _, _, rfl, hb5, hb16, hb27, hh38⟩ dX5_init_86
