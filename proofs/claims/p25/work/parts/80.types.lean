/-! characters typed, eight at most out of a long; what load() tells of a text -/
def tS (w : Int64) (x : Int32) : Int32 := ((w >>> (x.toInt64 &&& 63)) &&& 255).toInt32
def tStep (w : Int64) (x : Int32) (m m2 : xMu) : Prop := (tS w x = 0 ∧ m2 = m) ∨ ∃ (c : Nat) (v : Int32), ¬ tS w x = 0 ∧ ((tS w x).toUInt32 % 65536).toInt32 = nI c ∧ qf 8 c 0 0 m = some (v, m2) ∧ 0 < v
def tRun (w : Int64) : List Int32 → xMu → xMu → Prop
  | [], m, m' => m = m'
  | x :: xs, m, m' => ∃ m2, tStep w x m m2 ∧ tRun w xs m2 m'
def tX : List Int32 := [nI 56, nI 48, nI 40, nI 32, nI 24, nI 16, nI 8, nI 0]
theorem tStep_J {w : Int64} {x : Int32} {m m2 : xMu} (J : GG m) (h : tStep w x m m2) : GG m2 := by
  rcases h with ⟨-, rfl⟩ | ⟨c, v, -, -, e, -⟩
  · exact J
  · exact gg_q (by decide) J e
theorem tRun_J {w : Int64} : ∀ {xs : List Int32} {m m' : xMu}, GG m → tRun w xs m m' → GG m'
  | [], _, _, J, h => by cases h; exact J
  | _ :: _, _, _, J, ⟨_, h1, h2⟩ => tRun_J (tStep_J J h1) h2
section OC2
variable {X : xb_C} {k n : Nat} {lv : List (Nat × Value)} {pc : Nat} {st : List Value} {cc : ByteArray} {ws : List Cond} {rm : Room} {ret : Option FieldType} {nL : Nat} {tys : List (ClassId × FieldType)} {D : va_G} {cI cC cZ cR : ClassId} {ad : Nat → Nat} {ha : Nat → Nat → Nat} {m m' : xMu} {B : va_W}
theorem oc_Q (C : xb_LW X cc ws rm ret nL tys D cI cC cZ cR) {y : MethodName} {bytes : ByteArray} {wsy : List Cond} {maxL index : Nat} {rety : Option FieldType} {rmy : Room} {As rest : List Value} {v : Value} (Y : xb_YP y bytes wsy maxL rety rmy (Value.ref (ad 0) :: As).length 0 0) (M : ∀ (Dp Bt Sq : Nat → Int32) (se : Int32), xb_MP bytes wsy y.cls rmy rety maxL (xb_ty cI cC cZ cR) D (fun _ => True) (.ref (ad 0) :: As) (W5m cI cC cR ad ha m Dp Bt Sq se) (oP cI cC cR ad ha m' v) 0 0) (hT : GoodIn wsL_law (va_wsS RL index y wsy)) (hd : decode cc pc = .ok (.invokestatic index, 3)) (hR : rmy.frames + 1 ≤ rm.frames ∧ 8 + (maxL + 11) + rmy.locals ≤ rm.locals ∧ (lg_sl (.ref (ad 0) :: As)).length ≤ maxL) (hst : st = (Value.ref (ad 0) :: As).reverse ++ rest) (hcat : (rest.map fun v => v.category).sum ≤ 8) (hk : k ≤ rm.cells ∧ n ≤ rm.slots) (g : oG X k n cI cC cR ad ha m' B lv (pc + 3) (v :: rest)) : oG X k n cI cC cR ad ha m B lv pc st := by
  intro Dp Bt Sq se
  refine xi_callP (P := oP cI cC cR ad ha m' v) (E := fun _ => True) C.1 Y (M Dp Bt Sq se) (fun _ _ _ _ h => h) (hE_true X) (gMono C.2.1 hT) hd hR (List.range 53) (xb_rgP _ _ 53 W5_len) (xb_nd_of _ List.nodup_range) [0, 1, 2, 3] C.2.2.1 (fun o w1 hP => ?_) hst hcat hk (fun o w1 hP => ?_)
  · obtain ⟨-, Dp2, Bt2, Sq2, se2, rfl⟩ := hP
    exact W5_fst.trans W5_fst.symm
  · obtain ⟨rfl, Dp2, Bt2, Sq2, se2, rfl⟩ := hP
    rw [show xb_mix (W5m cI cC cR ad ha m Dp Bt Sq se ++ B) (List.range 53) (W5m cI cC cR ad ha m' Dp2 Bt2 Sq2 se2) = W5m cI cC cR ad ha m' Dp2 Bt2 Sq2 se2 ++ B from xb_mixP 53 W5_len W5_len]
    exact g Dp2 Bt2 Sq2 se2
/-- a call that takes no object and leaves none -/
theorem oc_N (C : xb_LW X cc ws rm ret nL tys D cI cC cZ cR) {w : va_W} {y : MethodName} {bytes : ByteArray} {wsy : List Cond} {maxL index mc ms : Nat} {rety : Option FieldType} {rmy : Room} {As rest : List Value} {v : Value} (Y : xb_YP y bytes wsy maxL rety rmy As.length mc ms) (hO : xb_EE X (va_AO RX0)) (M : xb_MP bytes wsy y.cls rmy rety maxL (xb_ty cI cC cZ cR) D (va_AO RX0) As [] (fun o w1 => o = some v ∧ w1 = []) mc ms) (hT : GoodIn wsL_law (va_wsS RL index y wsy)) (hd : decode cc pc = .ok (.invokestatic index, 3)) (hR : rmy.frames + 1 ≤ rm.frames ∧ 8 + (maxL + 11) + rmy.locals ≤ rm.locals ∧ (lg_sl As).length ≤ maxL) (hst : st = As.reverse ++ rest) (hcat : (rest.map fun v => v.category).sum ≤ 8) (hk : k + mc ≤ rm.cells ∧ n + ms ≤ rm.slots) (g : xb_G X (k + mc) (n + ms) w lv (pc + 3) (v :: rest)) : xb_G X k n w lv pc st := by
  refine xi_callP (P := fun o w1 => o = some v ∧ w1 = []) (E := va_AO RX0) C.1 Y M (fun U g mk a h => va_AO.moved (u := U) (U := U.calling g mk a) (Vm.Alike.refl U.vm) h) ?_ (gMono C.2.1 hT) hd hR [] rfl rfl [0, 1, 2, 3] C.2.2.1 (fun o w1 hP => by obtain ⟨-, rfl⟩ := hP; rfl) hst hcat hk (fun o w1 hP => ?_)
  · obtain ⟨p, l, e, R, s, m, args, below, meth, c, A, Q, nL', D'⟩ := X
    exact fun H locs U hS hU hW => va_AO.moved hW.alike hO
  · obtain ⟨rfl, rfl⟩ := hP
    exact g
end OC2
set_option maxHeartbeats 4000000 in
set_option maxRecDepth 100000 in
theorem m_types (D : va_G) (cI cC cZ cR : ClassId) (ad : Nat → Nat) (ha : Nat → Nat → Nat) {m m' : xMu} (J : GG m) {wd : Int64} (hr : tRun wd tX m m') (Dp Bt Sq : Nat → Int32) (se : Int32) : xb_MP cL_types wsB_types RL rm_types (some .boolean) 6 (xb_ty cI cC cZ cR) D (fun _ => True) [.ref (ad 0), .long wd] (W5m cI cC cR ad ha m Dp Bt Sq se) (oP cI cC cR ad ha m' (.int 1)) 0 0 := by
  intro X C0 E0 Z hfr
  have C : xb_LW X cL_types wsB_types rm_types (some .boolean) 6 (xb_ty cI cC cZ cR) D cI cC cZ cR := ⟨C0, su_types, rfl, by decide, by decide⟩
  have body : ∀ (x y : Int32) (m m2 : xMu), ¬ x < 0 → x + Int32.ofInt (-8) = y → GG m → tStep wd x m m2 → oG X 0 0 cI cC cR ad ha m2 [] [(0, .ref (ad 0)), (1, .long wd), (3, .int (nI 1)), (4, .int y)] 6 [] → oG X 0 0 cI cC cR ad ha m [] [(0, .ref (ad 0)), (1, .long wd), (3, .int (nI 1)), (4, .int x)] 6 [] := by
    intro x y m m2 hx hy J hs g Dp Bt Sq se
    refine xi_iload C.1 dL_types_6 3 rfl ?_
    refine xi_if_lt (tgt := 53) C.1 dL_types_8 (by decide) (fun c => absurd c hx) (fun _ => ?_)
    refine xi_lload_n C.1 dL_types_11 rfl 1 rfl ?_
    refine xi_iload C.1 dL_types_12 3 rfl ?_
    refine xi_lshr C.1 dL_types_14 ?_
    refine xi_ldc2 (v := 255) C.1 dL_types_15 (su_types _ wc_90) ?_
    refine xi_land C.1 dL_types_18 ?_
    refine xi_l2i C.1 dL_types_19 ?_
    refine xb_top (b := tS wd x) rfl ?_
    refine xj_istore (lv2 := [(0, .ref (ad 0)), (1, .long wd), (3, .int (nI 1)), (4, .int x), (5, .int (tS wd x))]) C.1 dL_types_20 (by decide) [0, 1, 2, 3] [1, 2, 3, 4, 0] rfl ?_
    refine xi_iload_n C.1 dL_types_22 rfl 2 rfl ?_
    refine xi_if_eq (tgt := 45) C.1 dL_types_23 (by decide) (fun c => absurd c (by decide +kernel)) (fun _ => ?_)
    refine xi_iload C.1 dL_types_26 4 rfl ?_
    rcases hs with ⟨h0, rfl⟩ | ⟨c, v, h0, hc, e, hv⟩
    · refine xi_if_eq (tgt := 41) C.1 dL_types_28 (by decide) (fun _ => ?_) (fun c => absurd h0 c)
      refine xi_iconst (v := nI 1) C.1 dL_types_41 (by decide +kernel) ?_
      refine xi_goto (tgt := 46) C.1 dL_types_42 (by decide) ?_
      refine xj_istore_n (lv2 := [(0, .ref (ad 0)), (1, .long wd), (3, .int (nI 1)), (4, .int x), (5, .int (tS wd x))]) C.1 dL_types_46 rfl (by decide) [0, 1, 3, 4] [1, 2, 0, 3, 4] rfl ?_
      refine xj_iinc (v := y) (lv2 := [(0, .ref (ad 0)), (1, .long wd), (3, .int (nI 1)), (4, .int y), (5, .int (tS wd x))]) C.1 dL_types_47 3 rfl hy (by decide) [0, 1, 2, 4] [1, 2, 3, 0, 4] rfl ?_
      refine xi_goto (tgt := 6) C.1 dL_types_50 (by decide) ?_
      exact xb_lv (g Dp Bt Sq se) [0, 1, 2, 3] rfl
    · refine xi_if_eq (tgt := 41) C.1 dL_types_28 (by decide) (fun c => absurd c h0) (fun _ => ?_)
      refine xi_aload_n C.1 dL_types_31 rfl 0 rfl ?_
      refine xi_iload C.1 dL_types_32 4 rfl ?_
      refine xi_i2c C.1 dL_types_34 ?_
      refine xb_top hc ?_
      refine ow_8 (a1 := c) (a2 := 0) (a3 := 0) C J e dL_types_35 (Nat.le_of_ble_eq_true rfl) ⟨Nat.zero_le _, Nat.zero_le _⟩ ?_ Dp Bt Sq se
      intro Dp Bt Sq se
      refine xi_if_le (tgt := 45) C.1 dL_types_38 (by decide) (fun q => absurd hv (by rw [Int32.not_lt]; exact q)) (fun _ => ?_)
      refine xi_iconst (v := nI 1) C.1 dL_types_41 (by decide +kernel) ?_
      refine xi_goto (tgt := 46) C.1 dL_types_42 (by decide) ?_
      refine xj_istore_n (lv2 := [(0, .ref (ad 0)), (1, .long wd), (3, .int (nI 1)), (4, .int x), (5, .int (tS wd x))]) C.1 dL_types_46 rfl (by decide) [0, 1, 3, 4] [1, 2, 0, 3, 4] rfl ?_
      refine xj_iinc (v := y) (lv2 := [(0, .ref (ad 0)), (1, .long wd), (3, .int (nI 1)), (4, .int y), (5, .int (tS wd x))]) C.1 dL_types_47 3 rfl hy (by decide) [0, 1, 2, 4] [1, 2, 3, 0, 4] rfl ?_
      refine xi_goto (tgt := 6) C.1 dL_types_50 (by decide) ?_
      exact xb_lv (g Dp Bt Sq se) [0, 1, 2, 3] rfl
  refine xb_w (w' := W5m cI cC cR ad ha m Dp Bt Sq se ++ []) (List.append_nil _).symm ?_
  show xb_G X 0 0 (W5m cI cC cR ad ha m Dp Bt Sq se ++ []) [(0, .ref (ad 0)), (1, .long wd)] 0 []
  obtain ⟨m1, t1, m2, t2, m3, t3, m4, t4, m5, t5, m6, t6, m7, t7, m8, t8, rfl⟩ := hr
  have J1 := tStep_J J t1
  have J2 := tStep_J J1 t2
  have J3 := tStep_J J2 t3
  have J4 := tStep_J J3 t4
  have J5 := tStep_J J4 t5
  have J6 := tStep_J J5 t6
  have J7 := tStep_J J6 t7
  have J8 := tStep_J J7 t8
  refine xi_iconst (v := nI 1) C.1 dL_types_0 (by decide +kernel) ?_
  refine xj_istore_n (lv2 := [(0, .ref (ad 0)), (1, .long wd), (3, .int (nI 1))]) C.1 dL_types_1 rfl (by decide) [0, 1] [1, 2, 0] rfl ?_
  refine xi_bipush (v := nI 56) C.1 dL_types_2 (by decide +kernel) ?_
  refine xj_istore (lv2 := [(0, .ref (ad 0)), (1, .long wd), (3, .int (nI 1)), (4, .int (nI 56))]) C.1 dL_types_4 (by decide) [0, 1, 2] [1, 2, 3, 0] rfl ?_
  refine body (nI 56) (nI 48) m m1 (by decide +kernel) (by decide +kernel) J t1 ?_ Dp Bt Sq se
  intro Dp Bt Sq se
  refine body (nI 48) (nI 40) m1 m2 (by decide +kernel) (by decide +kernel) J1 t2 ?_ Dp Bt Sq se
  intro Dp Bt Sq se
  refine body (nI 40) (nI 32) m2 m3 (by decide +kernel) (by decide +kernel) J2 t3 ?_ Dp Bt Sq se
  intro Dp Bt Sq se
  refine body (nI 32) (nI 24) m3 m4 (by decide +kernel) (by decide +kernel) J3 t4 ?_ Dp Bt Sq se
  intro Dp Bt Sq se
  refine body (nI 24) (nI 16) m4 m5 (by decide +kernel) (by decide +kernel) J4 t5 ?_ Dp Bt Sq se
  intro Dp Bt Sq se
  refine body (nI 16) (nI 8) m5 m6 (by decide +kernel) (by decide +kernel) J5 t6 ?_ Dp Bt Sq se
  intro Dp Bt Sq se
  refine body (nI 8) (nI 0) m6 m7 (by decide +kernel) (by decide +kernel) J6 t7 ?_ Dp Bt Sq se
  intro Dp Bt Sq se
  refine body (nI 0) (nI 4294967288) m7 m8 (by decide +kernel) (by decide +kernel) J7 t8 ?_ Dp Bt Sq se
  intro Dp Bt Sq se
  refine xi_iload C.1 dL_types_6 3 rfl ?_
  refine xi_if_lt (tgt := 53) C.1 dL_types_8 (by decide) (fun _ => ?_) (fun c => absurd (by decide +kernel) c)
  refine xi_iload_n C.1 dL_types_53 rfl 2 rfl ?_
  exact xi_zretP C.1 Z (Nat.le_refl _) (Nat.le_refl _) oW_nil ⟨rfl, Dp, Bt, Sq, se, rfl⟩ dL_types_54 (by decide +kernel)
set_option maxHeartbeats 4000000 in
set_option maxRecDepth 100000 in
theorem m_told (D : va_G) (cI cC cZ cR : ClassId) {one other : Int64} {v c9 c0 : Int32} {m1 m2 m3 m4 m5 : xMu} (h1 : tRun one tX (dM gM0) m1) (h2 : tRun other tX m1 m2) (h3 : qf 7 0 0 0 m2 = some (v, m3)) (h4 : qf 21 9 0 0 m3 = some (c9, m4)) (h5 : qf 21 0 0 0 m4 = some (c0, m5)) (hv : (0 < v ∧ c9 = nI 1 ∧ c0 = v) ∨ (¬ 0 < v ∧ c9 = nI 0 ∧ c0 = nI 0)) : xb_MP cL_told wsB_told RL rm_told (some .int) 6 (xb_ty cI cC cZ cR) D (va_AO RX0) [.long one, .long other] [] (fun o w1 => o = some (.int v) ∧ w1 = []) 53 13855 := by
  intro X C0 E0 Z hfr
  have C : xb_LW X cL_told wsB_told rm_told (some .int) 6 (xb_ty cI cC cZ cR) D cI cC cZ cR := ⟨C0, su_told, rfl, by decide, by decide⟩
  show xb_G X 0 0 [] [(0, .long one), (2, .long other)] 0 []
  have J1 := tRun_J GG_0 h1
  have J2 := tRun_J J1 h2
  have J3 := gg_q (by decide) J2 h3
  have J4 := gg_q (by decide) J3 h4
  refine on_new C E0 ⟨Nat.le_of_ble_eq_true rfl, Nat.le_of_ble_eq_true rfl⟩ dL_told_0 dL_told_3 dL_told_4 (Nat.le_of_ble_eq_true rfl) (fun ad ha => ?_)
  intro Dp Bt Sq se
  refine xj_astore (lv2 := [(0, .long one), (2, .long other), (4, .ref (ad 0))]) C.1 dL_told_7 (by decide) [0, 1] [1, 2, 0] rfl ?_
  refine xi_aload C.1 dL_told_9 2 rfl ?_
  refine xi_lload_n C.1 dL_told_11 rfl 0 rfl ?_
  refine oc_Q (As := [.long one]) (rest := []) C kL_types (fun Dp Bt Sq se => m_types D cI cC cZ cR ad ha GG_0 h1 Dp Bt Sq se) gB_types dL_told_12 ⟨by decide, by decide, Nat.le_of_ble_eq_true rfl⟩ rfl (Nat.le_of_ble_eq_true rfl) ⟨Nat.le_of_ble_eq_true rfl, Nat.le_of_ble_eq_true rfl⟩ ?_ Dp Bt Sq se
  intro Dp Bt Sq se
  refine xi_if_eq (tgt := 35) C.1 dL_told_15 (by decide) (fun c => absurd c (by decide +kernel)) (fun _ => ?_)
  refine xi_aload C.1 dL_told_18 2 rfl ?_
  refine xi_lload_n C.1 dL_told_20 rfl 1 rfl ?_
  refine oc_Q (As := [.long other]) (rest := []) C kL_types (fun Dp Bt Sq se => m_types D cI cC cZ cR ad ha J1 h2 Dp Bt Sq se) gB_types dL_told_21 ⟨by decide, by decide, Nat.le_of_ble_eq_true rfl⟩ rfl (Nat.le_of_ble_eq_true rfl) ⟨Nat.le_of_ble_eq_true rfl, Nat.le_of_ble_eq_true rfl⟩ ?_ Dp Bt Sq se
  intro Dp Bt Sq se
  refine xi_if_eq (tgt := 35) C.1 dL_told_24 (by decide) (fun c => absurd c (by decide +kernel)) (fun _ => ?_)
  refine xi_aload C.1 dL_told_27 2 rfl ?_
  refine ow_7 (a1 := 0) (a2 := 0) (a3 := 0) C J2 h3 dL_told_29 (Nat.le_of_ble_eq_true rfl) ⟨Nat.le_of_ble_eq_true rfl, Nat.le_of_ble_eq_true rfl⟩ ?_ Dp Bt Sq se
  intro Dp Bt Sq se
  refine xi_goto (tgt := 37) C.1 dL_told_32 (by decide) ?_
  refine xj_istore (lv2 := [(0, .long one), (2, .long other), (4, .ref (ad 0)), (5, .int v)]) C.1 dL_told_37 (by decide) [0, 1, 2] [1, 2, 3, 0] rfl ?_
  refine xi_aload C.1 dL_told_39 2 rfl ?_
  refine xi_bipush (v := nI 9) C.1 dL_told_41 (by decide +kernel) ?_
  refine ow_21 (a1 := 9) (a2 := 0) (a3 := 0) C J3 h4 dL_told_43 (Nat.le_of_ble_eq_true rfl) ⟨Nat.le_of_ble_eq_true rfl, Nat.le_of_ble_eq_true rfl⟩ ?_ Dp Bt Sq se
  intro Dp Bt Sq se
  refine xi_iload C.1 dL_told_46 3 rfl ?_
  rcases hv with ⟨hv, rfl, rfl⟩ | ⟨hv, rfl, rfl⟩
  · refine xi_if_le (tgt := 55) C.1 dL_told_48 (by decide) (fun q => absurd hv (by rw [Int32.not_lt]; exact q)) (fun _ => ?_)
    refine xi_iconst (v := nI 1) C.1 dL_told_51 (by decide +kernel) ?_
    refine xi_goto (tgt := 56) C.1 dL_told_52 (by decide) ?_
    refine xi_icmp_ne (tgt := 84) C.1 dL_told_56 (by decide) (fun c => absurd rfl c) (fun _ => ?_)
    refine xi_aload C.1 dL_told_59 2 rfl ?_
    refine xi_iconst (v := nI 0) C.1 dL_told_61 (by decide +kernel) ?_
    refine ow_21 (a1 := 0) (a2 := 0) (a3 := 0) C J4 h5 dL_told_62 (Nat.le_of_ble_eq_true rfl) ⟨Nat.le_of_ble_eq_true rfl, Nat.le_of_ble_eq_true rfl⟩ ?_ Dp Bt Sq se
    intro Dp Bt Sq se
    refine xi_iload C.1 dL_told_65 3 rfl ?_
    refine xi_if_le (tgt := 75) C.1 dL_told_67 (by decide) (fun q => absurd hv (by rw [Int32.not_lt]; exact q)) (fun _ => ?_)
    refine xi_iload C.1 dL_told_70 3 rfl ?_
    refine xi_goto (tgt := 76) C.1 dL_told_72 (by decide) ?_
    refine xi_icmp_ne (tgt := 84) C.1 dL_told_76 (by decide) (fun c => absurd rfl c) (fun _ => ?_)
    refine xi_iload C.1 dL_told_79 3 rfl ?_
    refine xi_goto (tgt := 86) C.1 dL_told_81 (by decide) ?_
    exact xi_iretP C.1 Z (Nat.le_of_ble_eq_true rfl) (Nat.le_of_ble_eq_true rfl) oN_nil ⟨rfl, rfl⟩ dL_told_86
  · refine xi_if_le (tgt := 55) C.1 dL_told_48 (by decide) (fun _ => ?_) (fun q => absurd (Int32.not_lt.mp hv) q)
    refine xi_iconst (v := nI 0) C.1 dL_told_55 (by decide +kernel) ?_
    refine xi_icmp_ne (tgt := 84) C.1 dL_told_56 (by decide) (fun c => absurd rfl c) (fun _ => ?_)
    refine xi_aload C.1 dL_told_59 2 rfl ?_
    refine xi_iconst (v := nI 0) C.1 dL_told_61 (by decide +kernel) ?_
    refine ow_21 (a1 := 0) (a2 := 0) (a3 := 0) C J4 h5 dL_told_62 (Nat.le_of_ble_eq_true rfl) ⟨Nat.le_of_ble_eq_true rfl, Nat.le_of_ble_eq_true rfl⟩ ?_ Dp Bt Sq se
    intro Dp Bt Sq se
    refine xi_iload C.1 dL_told_65 3 rfl ?_
    refine xi_if_le (tgt := 75) C.1 dL_told_67 (by decide) (fun _ => ?_) (fun q => absurd (Int32.not_lt.mp hv) q)
    refine xi_iconst (v := nI 0) C.1 dL_told_75 (by decide +kernel) ?_
    refine xi_icmp_ne (tgt := 84) C.1 dL_told_76 (by decide) (fun c => absurd rfl c) (fun _ => ?_)
    refine xi_iload C.1 dL_told_79 3 rfl ?_
    refine xi_goto (tgt := 86) C.1 dL_told_81 (by decide) ?_
    exact xi_iretP C.1 Z (Nat.le_of_ble_eq_true rfl) (Nat.le_of_ble_eq_true rfl) oN_nil ⟨rfl, rfl⟩ dL_told_86
