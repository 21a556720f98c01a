/-! what is refused with any board -/
set_option maxHeartbeats 4000000 in
set_option maxRecDepth 100000 in
theorem m_any0 (D : va_G) (cI cC cZ cR : ClassId) (ad : Nat → Nat) (ha : Nat → Nat → Nat) {m : xMu} (J : GG m) (Dp Bt Sq : Nat → Int32) (se : Int32) : xb_MP cL_refusesAny wsB_refusesAny RL rm_refusesAny (some .boolean) 3 (xb_ty cI cC cZ cR) D (fun _ => True) [.ref (ad 0), .int (nI 0)] (W5m cI cC cR ad ha m Dp Bt Sq se) (oP cI cC cR ad ha m (.int 1)) 0 0 := by
  intro X C0 E0 Z hfr
  have C : xb_LW X cL_refusesAny wsB_refusesAny rm_refusesAny (some .boolean) 3 (xb_ty cI cC cZ cR) D cI cC cZ cR := ⟨C0, su_refusesAny, rfl, by decide, by decide⟩
  refine xb_w (w' := W5m cI cC cR ad ha m Dp Bt Sq se ++ []) (List.append_nil _).symm ?_
  show xb_G X 0 0 (W5m cI cC cR ad ha m Dp Bt Sq se ++ []) [(0, .ref (ad 0)), (1, .int (nI 0))] 0 []
  refine xi_iload_n C.1 dL_refusesAny_0 rfl 1 rfl ?_
  refine xi_if_ne (tgt := 8) C.1 dL_refusesAny_1 (by decide) (fun c => absurd c (by decide +kernel)) (fun _ => ?_)
  refine xi_iconst (v := nI 4294967295) C.1 dL_refusesAny_4 (by decide +kernel) ?_
  refine xi_goto (tgt := 10) C.1 dL_refusesAny_5 (by decide) ?_
  refine xj_istore_n (lv2 := [(0, .ref (ad 0)), (1, .int (nI 0)), (2, .int (nI 4294967295))]) C.1 dL_refusesAny_10 rfl (by decide) [0, 1] [1, 2, 0] rfl ?_
  refine xi_aload_n C.1 dL_refusesAny_11 rfl 0 rfl ?_
  refine xi_iload_n C.1 dL_refusesAny_12 rfl 2 rfl ?_
  refine xi_sipush (v := nI 999) C.1 dL_refusesAny_13 (by decide +kernel) ?_
  refine ow_0 (a1 := 4294967295) (a2 := 999) (a3 := 0) C J (rf_0_4294967295_999_0 m) dL_refusesAny_16 (Nat.le_of_ble_eq_true rfl) ⟨Nat.zero_le _, Nat.zero_le _⟩ ?_ Dp Bt Sq se
  intro Dp Bt Sq se
  refine xi_iconst (v := nI 4294967295) C.1 dL_refusesAny_19 (by decide +kernel) ?_
  refine xi_icmp_ne (tgt := 185) C.1 dL_refusesAny_20 (by decide) (fun c => absurd c (by decide +kernel)) (fun _ => ?_)
  refine xi_aload_n C.1 dL_refusesAny_23 rfl 0 rfl ?_
  refine xi_bipush (v := nI 23) C.1 dL_refusesAny_24 (by decide +kernel) ?_
  refine xi_iload_n C.1 dL_refusesAny_26 rfl 1 rfl ?_
  refine xi_if_ne (tgt := 34) C.1 dL_refusesAny_27 (by decide) (fun c => absurd c (by decide +kernel)) (fun _ => ?_)
  refine xi_iconst (v := nI 4294967295) C.1 dL_refusesAny_30 (by decide +kernel) ?_
  refine xi_goto (tgt := 37) C.1 dL_refusesAny_31 (by decide) ?_
  refine ow_0 (a1 := 23) (a2 := 4294967295) (a3 := 0) C J (rf_0_23_4294967295_0 m) dL_refusesAny_37 (Nat.le_of_ble_eq_true rfl) ⟨Nat.zero_le _, Nat.zero_le _⟩ ?_ Dp Bt Sq se
  intro Dp Bt Sq se
  refine xi_bipush (v := nI 4294967294) C.1 dL_refusesAny_40 (by decide +kernel) ?_
  refine xi_icmp_ne (tgt := 185) C.1 dL_refusesAny_42 (by decide) (fun c => absurd c (by decide +kernel)) (fun _ => ?_)
  refine xi_aload_n C.1 dL_refusesAny_45 rfl 0 rfl ?_
  refine xi_iload_n C.1 dL_refusesAny_46 rfl 2 rfl ?_
  refine ow_1 (a1 := 4294967295) (a2 := 0) (a3 := 0) C J (rf_1_4294967295_0_0 m) dL_refusesAny_47 (Nat.le_of_ble_eq_true rfl) ⟨Nat.zero_le _, Nat.zero_le _⟩ ?_ Dp Bt Sq se
  intro Dp Bt Sq se
  refine xi_iconst (v := nI 4294967295) C.1 dL_refusesAny_50 (by decide +kernel) ?_
  refine xi_icmp_ne (tgt := 185) C.1 dL_refusesAny_51 (by decide) (fun c => absurd c (by decide +kernel)) (fun _ => ?_)
  refine xi_aload_n C.1 dL_refusesAny_54 rfl 0 rfl ?_
  refine xi_iload_n C.1 dL_refusesAny_55 rfl 2 rfl ?_
  refine xi_sipush (v := nI 999) C.1 dL_refusesAny_56 (by decide +kernel) ?_
  refine ow_2 (a1 := 4294967295) (a2 := 999) (a3 := 0) C J (rf_2_4294967295_999_0 m) dL_refusesAny_59 (Nat.le_of_ble_eq_true rfl) ⟨Nat.zero_le _, Nat.zero_le _⟩ ?_ Dp Bt Sq se
  intro Dp Bt Sq se
  refine xi_iconst (v := nI 4294967295) C.1 dL_refusesAny_62 (by decide +kernel) ?_
  refine xi_icmp_ne (tgt := 185) C.1 dL_refusesAny_63 (by decide) (fun c => absurd c (by decide +kernel)) (fun _ => ?_)
  refine xi_aload_n C.1 dL_refusesAny_66 rfl 0 rfl ?_
  refine xi_iload_n C.1 dL_refusesAny_67 rfl 2 rfl ?_
  refine xi_iconst (v := nI 0) C.1 dL_refusesAny_68 (by decide +kernel) ?_
  refine xi_bipush (v := nI 33) C.1 dL_refusesAny_69 (by decide +kernel) ?_
  refine ow_3 (a1 := 4294967295) (a2 := 0) (a3 := 33) C J (rf_3_4294967295_0_33 m) dL_refusesAny_71 (Nat.le_of_ble_eq_true rfl) ⟨Nat.zero_le _, Nat.zero_le _⟩ ?_ Dp Bt Sq se
  intro Dp Bt Sq se
  refine xi_iconst (v := nI 4294967295) C.1 dL_refusesAny_74 (by decide +kernel) ?_
  refine xi_icmp_ne (tgt := 185) C.1 dL_refusesAny_75 (by decide) (fun c => absurd c (by decide +kernel)) (fun _ => ?_)
  refine xi_aload_n C.1 dL_refusesAny_78 rfl 0 rfl ?_
  refine xi_iload_n C.1 dL_refusesAny_79 rfl 2 rfl ?_
  refine xi_iconst (v := nI 0) C.1 dL_refusesAny_80 (by decide +kernel) ?_
  refine ow_4 (a1 := 4294967295) (a2 := 0) (a3 := 0) C J (rf_4_4294967295_0_0 m) dL_refusesAny_81 (Nat.le_of_ble_eq_true rfl) ⟨Nat.zero_le _, Nat.zero_le _⟩ ?_ Dp Bt Sq se
  intro Dp Bt Sq se
  refine xi_iconst (v := nI 4294967295) C.1 dL_refusesAny_84 (by decide +kernel) ?_
  refine xi_icmp_ne (tgt := 185) C.1 dL_refusesAny_85 (by decide) (fun c => absurd c (by decide +kernel)) (fun _ => ?_)
  refine xi_aload_n C.1 dL_refusesAny_88 rfl 0 rfl ?_
  refine xi_iconst (v := nI 0) C.1 dL_refusesAny_89 (by decide +kernel) ?_
  refine xi_iload_n C.1 dL_refusesAny_90 rfl 2 rfl ?_
  refine ow_4 (a1 := 0) (a2 := 4294967295) (a3 := 0) C J (rf_4_0_4294967295_0 m) dL_refusesAny_91 (Nat.le_of_ble_eq_true rfl) ⟨Nat.zero_le _, Nat.zero_le _⟩ ?_ Dp Bt Sq se
  intro Dp Bt Sq se
  refine xi_iconst (v := nI 4294967295) C.1 dL_refusesAny_94 (by decide +kernel) ?_
  refine xi_icmp_ne (tgt := 185) C.1 dL_refusesAny_95 (by decide) (fun c => absurd c (by decide +kernel)) (fun _ => ?_)
  refine xi_aload_n C.1 dL_refusesAny_98 rfl 0 rfl ?_
  refine xi_iload_n C.1 dL_refusesAny_99 rfl 1 rfl ?_
  refine xi_iload_n C.1 dL_refusesAny_100 rfl 1 rfl ?_
  refine ow_4 (a1 := 0) (a2 := 0) (a3 := 0) C J (rf_4_0_0_0 m) dL_refusesAny_101 (Nat.le_of_ble_eq_true rfl) ⟨Nat.zero_le _, Nat.zero_le _⟩ ?_ Dp Bt Sq se
  intro Dp Bt Sq se
  refine xi_bipush (v := nI 4294967291) C.1 dL_refusesAny_104 (by decide +kernel) ?_
  refine xi_icmp_ne (tgt := 185) C.1 dL_refusesAny_106 (by decide) (fun c => absurd c (by decide +kernel)) (fun _ => ?_)
  refine xi_aload_n C.1 dL_refusesAny_109 rfl 0 rfl ?_
  refine xi_iload_n C.1 dL_refusesAny_110 rfl 1 rfl ?_
  refine xi_if_ne (tgt := 118) C.1 dL_refusesAny_111 (by decide) (fun c => absurd c (by decide +kernel)) (fun _ => ?_)
  refine xi_iconst (v := nI 4294967295) C.1 dL_refusesAny_114 (by decide +kernel) ?_
  refine xi_goto (tgt := 119) C.1 dL_refusesAny_115 (by decide) ?_
  refine ow_5 (a1 := 4294967295) (a2 := 0) (a3 := 0) C J (rf_5_4294967295_0_0 m) dL_refusesAny_119 (Nat.le_of_ble_eq_true rfl) ⟨Nat.zero_le _, Nat.zero_le _⟩ ?_ Dp Bt Sq se
  intro Dp Bt Sq se
  refine xi_bipush (v := nI 4294967294) C.1 dL_refusesAny_122 (by decide +kernel) ?_
  refine xi_icmp_ne (tgt := 185) C.1 dL_refusesAny_124 (by decide) (fun c => absurd c (by decide +kernel)) (fun _ => ?_)
  refine xi_aload_n C.1 dL_refusesAny_127 rfl 0 rfl ?_
  refine xi_iload_n C.1 dL_refusesAny_128 rfl 1 rfl ?_
  refine xi_if_ne (tgt := 136) C.1 dL_refusesAny_129 (by decide) (fun c => absurd c (by decide +kernel)) (fun _ => ?_)
  refine xi_iconst (v := nI 4294967295) C.1 dL_refusesAny_132 (by decide +kernel) ?_
  refine xi_goto (tgt := 137) C.1 dL_refusesAny_133 (by decide) ?_
  refine xi_bipush (v := nI 99) C.1 dL_refusesAny_137 (by decide +kernel) ?_
  refine ow_6 (a1 := 4294967295) (a2 := 99) (a3 := 0) C J (rf_6_4294967295_99_0 m) dL_refusesAny_139 (Nat.le_of_ble_eq_true rfl) ⟨Nat.zero_le _, Nat.zero_le _⟩ ?_ Dp Bt Sq se
  intro Dp Bt Sq se
  refine xi_iconst (v := nI 4294967295) C.1 dL_refusesAny_142 (by decide +kernel) ?_
  refine xi_icmp_ne (tgt := 185) C.1 dL_refusesAny_143 (by decide) (fun c => absurd c (by decide +kernel)) (fun _ => ?_)
  refine xi_aload_n C.1 dL_refusesAny_146 rfl 0 rfl ?_
  refine xi_iconst (v := nI 0) C.1 dL_refusesAny_147 (by decide +kernel) ?_
  refine xi_iload_n C.1 dL_refusesAny_148 rfl 1 rfl ?_
  refine xi_if_ne (tgt := 156) C.1 dL_refusesAny_149 (by decide) (fun c => absurd c (by decide +kernel)) (fun _ => ?_)
  refine xi_iconst (v := nI 0) C.1 dL_refusesAny_152 (by decide +kernel) ?_
  refine xi_goto (tgt := 157) C.1 dL_refusesAny_153 (by decide) ?_
  refine ow_6 (a1 := 0) (a2 := 0) (a3 := 0) C J (rf_6_0_0_0 m) dL_refusesAny_157 (Nat.le_of_ble_eq_true rfl) ⟨Nat.zero_le _, Nat.zero_le _⟩ ?_ Dp Bt Sq se
  intro Dp Bt Sq se
  refine xi_bipush (v := nI 4294967294) C.1 dL_refusesAny_160 (by decide +kernel) ?_
  refine xi_icmp_ne (tgt := 185) C.1 dL_refusesAny_162 (by decide) (fun c => absurd c (by decide +kernel)) (fun _ => ?_)
  refine xi_aload_n C.1 dL_refusesAny_165 rfl 0 rfl ?_
  refine xi_iconst (v := nI 1) C.1 dL_refusesAny_166 (by decide +kernel) ?_
  refine xi_iload_n C.1 dL_refusesAny_167 rfl 1 rfl ?_
  refine xi_if_ne (tgt := 175) C.1 dL_refusesAny_168 (by decide) (fun c => absurd c (by decide +kernel)) (fun _ => ?_)
  refine xi_iconst (v := nI 4294967295) C.1 dL_refusesAny_171 (by decide +kernel) ?_
  refine xi_goto (tgt := 177) C.1 dL_refusesAny_172 (by decide) ?_
  refine ow_6 (a1 := 1) (a2 := 4294967295) (a3 := 0) C J (rf_6_1_4294967295_0 m) dL_refusesAny_177 (Nat.le_of_ble_eq_true rfl) ⟨Nat.zero_le _, Nat.zero_le _⟩ ?_ Dp Bt Sq se
  intro Dp Bt Sq se
  refine xi_bipush (v := nI 4294967294) C.1 dL_refusesAny_180 (by decide +kernel) ?_
  refine xi_icmp_eq (tgt := 187) C.1 dL_refusesAny_182 (by decide) (fun _ => ?_) (fun c => absurd (by decide +kernel) c)
  refine xi_aload_n C.1 dL_refusesAny_187 rfl 0 rfl ?_
  refine xi_iload_n C.1 dL_refusesAny_188 rfl 2 rfl ?_
  refine xi_bipush (v := nI 9) C.1 dL_refusesAny_189 (by decide +kernel) ?_
  refine ow_13 (a1 := 4294967295) (a2 := 9) (a3 := 0) C J (rf_13_4294967295_9_0 m) dL_refusesAny_191 (Nat.le_of_ble_eq_true rfl) ⟨Nat.zero_le _, Nat.zero_le _⟩ ?_ Dp Bt Sq se
  intro Dp Bt Sq se
  refine xi_iconst (v := nI 4294967295) C.1 dL_refusesAny_194 (by decide +kernel) ?_
  refine xi_icmp_ne (tgt := 356) C.1 dL_refusesAny_195 (by decide) (fun c => absurd c (by decide +kernel)) (fun _ => ?_)
  refine xi_aload_n C.1 dL_refusesAny_198 rfl 0 rfl ?_
  refine xi_iload_n C.1 dL_refusesAny_199 rfl 2 rfl ?_
  refine xi_iconst (v := nI 0) C.1 dL_refusesAny_200 (by decide +kernel) ?_
  refine xi_iconst (v := nI 4294967295) C.1 dL_refusesAny_201 (by decide +kernel) ?_
  refine ow_14 (a1 := 4294967295) (a2 := 0) (a3 := 4294967295) C J (rf_14_4294967295_0_4294967295 m) dL_refusesAny_202 (Nat.le_of_ble_eq_true rfl) ⟨Nat.zero_le _, Nat.zero_le _⟩ ?_ Dp Bt Sq se
  intro Dp Bt Sq se
  refine xi_iconst (v := nI 4294967295) C.1 dL_refusesAny_205 (by decide +kernel) ?_
  refine xi_icmp_ne (tgt := 356) C.1 dL_refusesAny_206 (by decide) (fun c => absurd c (by decide +kernel)) (fun _ => ?_)
  refine xi_aload_n C.1 dL_refusesAny_209 rfl 0 rfl ?_
  refine xi_iload_n C.1 dL_refusesAny_210 rfl 2 rfl ?_
  refine xi_iconst (v := nI 0) C.1 dL_refusesAny_211 (by decide +kernel) ?_
  refine ow_15 (a1 := 4294967295) (a2 := 0) (a3 := 0) C J (rf_15_4294967295_0_0 m) dL_refusesAny_212 (Nat.le_of_ble_eq_true rfl) ⟨Nat.zero_le _, Nat.zero_le _⟩ ?_ Dp Bt Sq se
  intro Dp Bt Sq se
  refine xi_iconst (v := nI 4294967295) C.1 dL_refusesAny_215 (by decide +kernel) ?_
  refine xi_icmp_ne (tgt := 356) C.1 dL_refusesAny_216 (by decide) (fun c => absurd c (by decide +kernel)) (fun _ => ?_)
  refine xi_aload_n C.1 dL_refusesAny_219 rfl 0 rfl ?_
  refine xi_iconst (v := nI 0) C.1 dL_refusesAny_220 (by decide +kernel) ?_
  refine xi_iload_n C.1 dL_refusesAny_221 rfl 2 rfl ?_
  refine ow_15 (a1 := 0) (a2 := 4294967295) (a3 := 0) C J (rf_15_0_4294967295_0 m) dL_refusesAny_222 (Nat.le_of_ble_eq_true rfl) ⟨Nat.zero_le _, Nat.zero_le _⟩ ?_ Dp Bt Sq se
  intro Dp Bt Sq se
  refine xi_iconst (v := nI 4294967295) C.1 dL_refusesAny_225 (by decide +kernel) ?_
  refine xi_icmp_ne (tgt := 356) C.1 dL_refusesAny_226 (by decide) (fun c => absurd c (by decide +kernel)) (fun _ => ?_)
  refine xi_aload_n C.1 dL_refusesAny_229 rfl 0 rfl ?_
  refine xi_iconst (v := nI 5) C.1 dL_refusesAny_230 (by decide +kernel) ?_
  refine xi_bipush (v := nI 6) C.1 dL_refusesAny_231 (by decide +kernel) ?_
  refine ow_15 (a1 := 5) (a2 := 6) (a3 := 0) C J (rf_15_5_6_0 m) dL_refusesAny_233 (Nat.le_of_ble_eq_true rfl) ⟨Nat.zero_le _, Nat.zero_le _⟩ ?_ Dp Bt Sq se
  intro Dp Bt Sq se
  refine xi_iconst (v := nI 4294967295) C.1 dL_refusesAny_236 (by decide +kernel) ?_
  refine xi_icmp_ne (tgt := 356) C.1 dL_refusesAny_237 (by decide) (fun c => absurd c (by decide +kernel)) (fun _ => ?_)
  refine xi_aload_n C.1 dL_refusesAny_240 rfl 0 rfl ?_
  refine xi_iconst (v := nI 0) C.1 dL_refusesAny_241 (by decide +kernel) ?_
  refine xi_iconst (v := nI 0) C.1 dL_refusesAny_242 (by decide +kernel) ?_
  refine ow_15 (a1 := 0) (a2 := 0) (a3 := 0) C J (rf_15_0_0_0 m) dL_refusesAny_243 (Nat.le_of_ble_eq_true rfl) ⟨Nat.zero_le _, Nat.zero_le _⟩ ?_ Dp Bt Sq se
  intro Dp Bt Sq se
  refine xi_iconst (v := nI 4294967295) C.1 dL_refusesAny_246 (by decide +kernel) ?_
  refine xi_icmp_ne (tgt := 356) C.1 dL_refusesAny_247 (by decide) (fun c => absurd c (by decide +kernel)) (fun _ => ?_)
  refine xi_aload_n C.1 dL_refusesAny_250 rfl 0 rfl ?_
  refine xi_iconst (v := nI 0) C.1 dL_refusesAny_251 (by decide +kernel) ?_
  refine xi_iload_n C.1 dL_refusesAny_252 rfl 1 rfl ?_
  refine xi_if_ne (tgt := 261) C.1 dL_refusesAny_253 (by decide) (fun c => absurd c (by decide +kernel)) (fun _ => ?_)
  refine xi_bipush (v := nI 7) C.1 dL_refusesAny_256 (by decide +kernel) ?_
  refine xi_goto (tgt := 263) C.1 dL_refusesAny_258 (by decide) ?_
  refine ow_15 (a1 := 0) (a2 := 7) (a3 := 0) C J (rf_15_0_7_0 m) dL_refusesAny_263 (Nat.le_of_ble_eq_true rfl) ⟨Nat.zero_le _, Nat.zero_le _⟩ ?_ Dp Bt Sq se
  intro Dp Bt Sq se
  refine xi_iconst (v := nI 4294967295) C.1 dL_refusesAny_266 (by decide +kernel) ?_
  refine xi_icmp_ne (tgt := 356) C.1 dL_refusesAny_267 (by decide) (fun c => absurd c (by decide +kernel)) (fun _ => ?_)
  refine xi_aload_n C.1 dL_refusesAny_270 rfl 0 rfl ?_
  refine xi_iload_n C.1 dL_refusesAny_271 rfl 2 rfl ?_
  refine xi_sipush (v := nI 999) C.1 dL_refusesAny_272 (by decide +kernel) ?_
  refine ow_16 (a1 := 4294967295) (a2 := 999) (a3 := 0) C J (rf_16_4294967295_999_0 m) dL_refusesAny_275 (Nat.le_of_ble_eq_true rfl) ⟨Nat.zero_le _, Nat.zero_le _⟩ ?_ Dp Bt Sq se
  intro Dp Bt Sq se
  refine xi_iconst (v := nI 4294967295) C.1 dL_refusesAny_278 (by decide +kernel) ?_
  refine xi_icmp_ne (tgt := 356) C.1 dL_refusesAny_279 (by decide) (fun c => absurd c (by decide +kernel)) (fun _ => ?_)
  refine xi_aload_n C.1 dL_refusesAny_282 rfl 0 rfl ?_
  refine xi_iload_n C.1 dL_refusesAny_283 rfl 2 rfl ?_
  refine ow_17 (a1 := 4294967295) (a2 := 0) (a3 := 0) C J (rf_17_4294967295_0_0 m) dL_refusesAny_284 (Nat.le_of_ble_eq_true rfl) ⟨Nat.zero_le _, Nat.zero_le _⟩ ?_ Dp Bt Sq se
  intro Dp Bt Sq se
  refine xi_iconst (v := nI 4294967295) C.1 dL_refusesAny_287 (by decide +kernel) ?_
  refine xi_icmp_ne (tgt := 356) C.1 dL_refusesAny_288 (by decide) (fun c => absurd c (by decide +kernel)) (fun _ => ?_)
  refine xi_aload_n C.1 dL_refusesAny_291 rfl 0 rfl ?_
  refine xi_iload_n C.1 dL_refusesAny_292 rfl 2 rfl ?_
  refine xi_iconst (v := nI 0) C.1 dL_refusesAny_293 (by decide +kernel) ?_
  refine ow_18 (a1 := 4294967295) (a2 := 0) (a3 := 0) C J (rf_18_4294967295_0_0 m) dL_refusesAny_294 (Nat.le_of_ble_eq_true rfl) ⟨Nat.zero_le _, Nat.zero_le _⟩ ?_ Dp Bt Sq se
  intro Dp Bt Sq se
  refine xi_iconst (v := nI 4294967295) C.1 dL_refusesAny_297 (by decide +kernel) ?_
  refine xi_icmp_ne (tgt := 356) C.1 dL_refusesAny_298 (by decide) (fun c => absurd c (by decide +kernel)) (fun _ => ?_)
  refine xi_aload_n C.1 dL_refusesAny_301 rfl 0 rfl ?_
  refine xi_iconst (v := nI 0) C.1 dL_refusesAny_302 (by decide +kernel) ?_
  refine xi_iload_n C.1 dL_refusesAny_303 rfl 2 rfl ?_
  refine ow_18 (a1 := 0) (a2 := 4294967295) (a3 := 0) C J (rf_18_0_4294967295_0 m) dL_refusesAny_304 (Nat.le_of_ble_eq_true rfl) ⟨Nat.zero_le _, Nat.zero_le _⟩ ?_ Dp Bt Sq se
  intro Dp Bt Sq se
  refine xi_iconst (v := nI 4294967295) C.1 dL_refusesAny_307 (by decide +kernel) ?_
  refine xi_icmp_ne (tgt := 356) C.1 dL_refusesAny_308 (by decide) (fun c => absurd c (by decide +kernel)) (fun _ => ?_)
  refine xi_aload_n C.1 dL_refusesAny_311 rfl 0 rfl ?_
  refine xi_bipush (v := nI 9) C.1 dL_refusesAny_312 (by decide +kernel) ?_
  refine xi_bipush (v := nI 9) C.1 dL_refusesAny_314 (by decide +kernel) ?_
  refine ow_18 (a1 := 9) (a2 := 9) (a3 := 0) C J (rf_18_9_9_0 m) dL_refusesAny_316 (Nat.le_of_ble_eq_true rfl) ⟨Nat.zero_le _, Nat.zero_le _⟩ ?_ Dp Bt Sq se
  intro Dp Bt Sq se
  refine xi_bipush (v := nI 4294967291) C.1 dL_refusesAny_319 (by decide +kernel) ?_
  refine xi_icmp_ne (tgt := 356) C.1 dL_refusesAny_321 (by decide) (fun c => absurd c (by decide +kernel)) (fun _ => ?_)
  refine xi_aload_n C.1 dL_refusesAny_324 rfl 0 rfl ?_
  refine xi_iload_n C.1 dL_refusesAny_325 rfl 2 rfl ?_
  refine ow_19 (a1 := 4294967295) (a2 := 0) (a3 := 0) C J (rf_19_4294967295_0_0 m) dL_refusesAny_326 (Nat.le_of_ble_eq_true rfl) ⟨Nat.zero_le _, Nat.zero_le _⟩ ?_ Dp Bt Sq se
  intro Dp Bt Sq se
  refine xi_iconst (v := nI 4294967295) C.1 dL_refusesAny_329 (by decide +kernel) ?_
  refine xi_icmp_ne (tgt := 356) C.1 dL_refusesAny_330 (by decide) (fun c => absurd c (by decide +kernel)) (fun _ => ?_)
  refine xi_aload_n C.1 dL_refusesAny_333 rfl 0 rfl ?_
  refine xi_iload_n C.1 dL_refusesAny_334 rfl 1 rfl ?_
  refine xi_if_ne (tgt := 342) C.1 dL_refusesAny_335 (by decide) (fun c => absurd c (by decide +kernel)) (fun _ => ?_)
  refine xi_iconst (v := nI 4294967295) C.1 dL_refusesAny_338 (by decide +kernel) ?_
  refine xi_goto (tgt := 344) C.1 dL_refusesAny_339 (by decide) ?_
  refine ow_21 (a1 := 4294967295) (a2 := 0) (a3 := 0) C J (rf_21_4294967295_0_0 m) dL_refusesAny_344 (Nat.le_of_ble_eq_true rfl) ⟨Nat.zero_le _, Nat.zero_le _⟩ ?_ Dp Bt Sq se
  intro Dp Bt Sq se
  refine xi_bipush (v := nI 4294967294) C.1 dL_refusesAny_347 (by decide +kernel) ?_
  refine xi_icmp_ne (tgt := 356) C.1 dL_refusesAny_349 (by decide) (fun c => absurd c (by decide +kernel)) (fun _ => ?_)
  refine xi_iconst (v := nI 1) C.1 dL_refusesAny_352 (by decide +kernel) ?_
  refine xi_goto (tgt := 357) C.1 dL_refusesAny_353 (by decide) ?_
  exact xi_zretP C.1 Z (Nat.le_refl _) (Nat.le_refl _) oW_nil ⟨rfl, Dp, Bt, Sq, se, rfl⟩ dL_refusesAny_357 (by decide +kernel)
set_option maxHeartbeats 4000000 in
set_option maxRecDepth 100000 in
theorem m_any1 (D : va_G) (cI cC cZ cR : ClassId) (ad : Nat → Nat) (ha : Nat → Nat → Nat) {m : xMu} (J : GG m) (Dp Bt Sq : Nat → Int32) (se : Int32) : xb_MP cL_refusesAny wsB_refusesAny RL rm_refusesAny (some .boolean) 3 (xb_ty cI cC cZ cR) D (fun _ => True) [.ref (ad 0), .int (nI 1)] (W5m cI cC cR ad ha m Dp Bt Sq se) (oP cI cC cR ad ha m (.int 1)) 0 0 := by
  intro X C0 E0 Z hfr
  have C : xb_LW X cL_refusesAny wsB_refusesAny rm_refusesAny (some .boolean) 3 (xb_ty cI cC cZ cR) D cI cC cZ cR := ⟨C0, su_refusesAny, rfl, by decide, by decide⟩
  refine xb_w (w' := W5m cI cC cR ad ha m Dp Bt Sq se ++ []) (List.append_nil _).symm ?_
  show xb_G X 0 0 (W5m cI cC cR ad ha m Dp Bt Sq se ++ []) [(0, .ref (ad 0)), (1, .int (nI 1))] 0 []
  refine xi_iload_n C.1 dL_refusesAny_0 rfl 1 rfl ?_
  refine xi_if_ne (tgt := 8) C.1 dL_refusesAny_1 (by decide) (fun _ => ?_) (fun c => absurd c (by decide +kernel))
  refine xi_bipush (v := nI 24) C.1 dL_refusesAny_8 (by decide +kernel) ?_
  refine xj_istore_n (lv2 := [(0, .ref (ad 0)), (1, .int (nI 1)), (2, .int (nI 24))]) C.1 dL_refusesAny_10 rfl (by decide) [0, 1] [1, 2, 0] rfl ?_
  refine xi_aload_n C.1 dL_refusesAny_11 rfl 0 rfl ?_
  refine xi_iload_n C.1 dL_refusesAny_12 rfl 2 rfl ?_
  refine xi_sipush (v := nI 999) C.1 dL_refusesAny_13 (by decide +kernel) ?_
  refine ow_0 (a1 := 24) (a2 := 999) (a3 := 0) C J (rf_0_24_999_0 m) dL_refusesAny_16 (Nat.le_of_ble_eq_true rfl) ⟨Nat.zero_le _, Nat.zero_le _⟩ ?_ Dp Bt Sq se
  intro Dp Bt Sq se
  refine xi_iconst (v := nI 4294967295) C.1 dL_refusesAny_19 (by decide +kernel) ?_
  refine xi_icmp_ne (tgt := 185) C.1 dL_refusesAny_20 (by decide) (fun c => absurd c (by decide +kernel)) (fun _ => ?_)
  refine xi_aload_n C.1 dL_refusesAny_23 rfl 0 rfl ?_
  refine xi_bipush (v := nI 23) C.1 dL_refusesAny_24 (by decide +kernel) ?_
  refine xi_iload_n C.1 dL_refusesAny_26 rfl 1 rfl ?_
  refine xi_if_ne (tgt := 34) C.1 dL_refusesAny_27 (by decide) (fun _ => ?_) (fun c => absurd c (by decide +kernel))
  refine xi_sipush (v := nI 256) C.1 dL_refusesAny_34 (by decide +kernel) ?_
  refine ow_0 (a1 := 23) (a2 := 256) (a3 := 0) C J (rf_0_23_256_0 m) dL_refusesAny_37 (Nat.le_of_ble_eq_true rfl) ⟨Nat.zero_le _, Nat.zero_le _⟩ ?_ Dp Bt Sq se
  intro Dp Bt Sq se
  refine xi_bipush (v := nI 4294967294) C.1 dL_refusesAny_40 (by decide +kernel) ?_
  refine xi_icmp_ne (tgt := 185) C.1 dL_refusesAny_42 (by decide) (fun c => absurd c (by decide +kernel)) (fun _ => ?_)
  refine xi_aload_n C.1 dL_refusesAny_45 rfl 0 rfl ?_
  refine xi_iload_n C.1 dL_refusesAny_46 rfl 2 rfl ?_
  refine ow_1 (a1 := 24) (a2 := 0) (a3 := 0) C J (rf_1_24_0_0 m) dL_refusesAny_47 (Nat.le_of_ble_eq_true rfl) ⟨Nat.zero_le _, Nat.zero_le _⟩ ?_ Dp Bt Sq se
  intro Dp Bt Sq se
  refine xi_iconst (v := nI 4294967295) C.1 dL_refusesAny_50 (by decide +kernel) ?_
  refine xi_icmp_ne (tgt := 185) C.1 dL_refusesAny_51 (by decide) (fun c => absurd c (by decide +kernel)) (fun _ => ?_)
  refine xi_aload_n C.1 dL_refusesAny_54 rfl 0 rfl ?_
  refine xi_iload_n C.1 dL_refusesAny_55 rfl 2 rfl ?_
  refine xi_sipush (v := nI 999) C.1 dL_refusesAny_56 (by decide +kernel) ?_
  refine ow_2 (a1 := 24) (a2 := 999) (a3 := 0) C J (rf_2_24_999_0 m) dL_refusesAny_59 (Nat.le_of_ble_eq_true rfl) ⟨Nat.zero_le _, Nat.zero_le _⟩ ?_ Dp Bt Sq se
  intro Dp Bt Sq se
  refine xi_iconst (v := nI 4294967295) C.1 dL_refusesAny_62 (by decide +kernel) ?_
  refine xi_icmp_ne (tgt := 185) C.1 dL_refusesAny_63 (by decide) (fun c => absurd c (by decide +kernel)) (fun _ => ?_)
  refine xi_aload_n C.1 dL_refusesAny_66 rfl 0 rfl ?_
  refine xi_iload_n C.1 dL_refusesAny_67 rfl 2 rfl ?_
  refine xi_iconst (v := nI 0) C.1 dL_refusesAny_68 (by decide +kernel) ?_
  refine xi_bipush (v := nI 33) C.1 dL_refusesAny_69 (by decide +kernel) ?_
  refine ow_3 (a1 := 24) (a2 := 0) (a3 := 33) C J (rf_3_24_0_33 m) dL_refusesAny_71 (Nat.le_of_ble_eq_true rfl) ⟨Nat.zero_le _, Nat.zero_le _⟩ ?_ Dp Bt Sq se
  intro Dp Bt Sq se
  refine xi_iconst (v := nI 4294967295) C.1 dL_refusesAny_74 (by decide +kernel) ?_
  refine xi_icmp_ne (tgt := 185) C.1 dL_refusesAny_75 (by decide) (fun c => absurd c (by decide +kernel)) (fun _ => ?_)
  refine xi_aload_n C.1 dL_refusesAny_78 rfl 0 rfl ?_
  refine xi_iload_n C.1 dL_refusesAny_79 rfl 2 rfl ?_
  refine xi_iconst (v := nI 0) C.1 dL_refusesAny_80 (by decide +kernel) ?_
  refine ow_4 (a1 := 24) (a2 := 0) (a3 := 0) C J (rf_4_24_0_0 m) dL_refusesAny_81 (Nat.le_of_ble_eq_true rfl) ⟨Nat.zero_le _, Nat.zero_le _⟩ ?_ Dp Bt Sq se
  intro Dp Bt Sq se
  refine xi_iconst (v := nI 4294967295) C.1 dL_refusesAny_84 (by decide +kernel) ?_
  refine xi_icmp_ne (tgt := 185) C.1 dL_refusesAny_85 (by decide) (fun c => absurd c (by decide +kernel)) (fun _ => ?_)
  refine xi_aload_n C.1 dL_refusesAny_88 rfl 0 rfl ?_
  refine xi_iconst (v := nI 0) C.1 dL_refusesAny_89 (by decide +kernel) ?_
  refine xi_iload_n C.1 dL_refusesAny_90 rfl 2 rfl ?_
  refine ow_4 (a1 := 0) (a2 := 24) (a3 := 0) C J (rf_4_0_24_0 m) dL_refusesAny_91 (Nat.le_of_ble_eq_true rfl) ⟨Nat.zero_le _, Nat.zero_le _⟩ ?_ Dp Bt Sq se
  intro Dp Bt Sq se
  refine xi_iconst (v := nI 4294967295) C.1 dL_refusesAny_94 (by decide +kernel) ?_
  refine xi_icmp_ne (tgt := 185) C.1 dL_refusesAny_95 (by decide) (fun c => absurd c (by decide +kernel)) (fun _ => ?_)
  refine xi_aload_n C.1 dL_refusesAny_98 rfl 0 rfl ?_
  refine xi_iload_n C.1 dL_refusesAny_99 rfl 1 rfl ?_
  refine xi_iload_n C.1 dL_refusesAny_100 rfl 1 rfl ?_
  refine ow_4 (a1 := 1) (a2 := 1) (a3 := 0) C J (rf_4_1_1_0 m) dL_refusesAny_101 (Nat.le_of_ble_eq_true rfl) ⟨Nat.zero_le _, Nat.zero_le _⟩ ?_ Dp Bt Sq se
  intro Dp Bt Sq se
  refine xi_bipush (v := nI 4294967291) C.1 dL_refusesAny_104 (by decide +kernel) ?_
  refine xi_icmp_ne (tgt := 185) C.1 dL_refusesAny_106 (by decide) (fun c => absurd c (by decide +kernel)) (fun _ => ?_)
  refine xi_aload_n C.1 dL_refusesAny_109 rfl 0 rfl ?_
  refine xi_iload_n C.1 dL_refusesAny_110 rfl 1 rfl ?_
  refine xi_if_ne (tgt := 118) C.1 dL_refusesAny_111 (by decide) (fun _ => ?_) (fun c => absurd c (by decide +kernel))
  refine xi_iconst (v := nI 3) C.1 dL_refusesAny_118 (by decide +kernel) ?_
  refine ow_5 (a1 := 3) (a2 := 0) (a3 := 0) C J (rf_5_3_0_0 m) dL_refusesAny_119 (Nat.le_of_ble_eq_true rfl) ⟨Nat.zero_le _, Nat.zero_le _⟩ ?_ Dp Bt Sq se
  intro Dp Bt Sq se
  refine xi_bipush (v := nI 4294967294) C.1 dL_refusesAny_122 (by decide +kernel) ?_
  refine xi_icmp_ne (tgt := 185) C.1 dL_refusesAny_124 (by decide) (fun c => absurd c (by decide +kernel)) (fun _ => ?_)
  refine xi_aload_n C.1 dL_refusesAny_127 rfl 0 rfl ?_
  refine xi_iload_n C.1 dL_refusesAny_128 rfl 1 rfl ?_
  refine xi_if_ne (tgt := 136) C.1 dL_refusesAny_129 (by decide) (fun _ => ?_) (fun c => absurd c (by decide +kernel))
  refine xi_iconst (v := nI 2) C.1 dL_refusesAny_136 (by decide +kernel) ?_
  refine xi_bipush (v := nI 99) C.1 dL_refusesAny_137 (by decide +kernel) ?_
  refine ow_6 (a1 := 2) (a2 := 99) (a3 := 0) C J (rf_6_2_99_0 m) dL_refusesAny_139 (Nat.le_of_ble_eq_true rfl) ⟨Nat.zero_le _, Nat.zero_le _⟩ ?_ Dp Bt Sq se
  intro Dp Bt Sq se
  refine xi_iconst (v := nI 4294967295) C.1 dL_refusesAny_142 (by decide +kernel) ?_
  refine xi_icmp_ne (tgt := 185) C.1 dL_refusesAny_143 (by decide) (fun c => absurd c (by decide +kernel)) (fun _ => ?_)
  refine xi_aload_n C.1 dL_refusesAny_146 rfl 0 rfl ?_
  refine xi_iconst (v := nI 0) C.1 dL_refusesAny_147 (by decide +kernel) ?_
  refine xi_iload_n C.1 dL_refusesAny_148 rfl 1 rfl ?_
  refine xi_if_ne (tgt := 156) C.1 dL_refusesAny_149 (by decide) (fun _ => ?_) (fun c => absurd c (by decide +kernel))
  refine xi_iconst (v := nI 5) C.1 dL_refusesAny_156 (by decide +kernel) ?_
  refine ow_6 (a1 := 0) (a2 := 5) (a3 := 0) C J (rf_6_0_5_0 m) dL_refusesAny_157 (Nat.le_of_ble_eq_true rfl) ⟨Nat.zero_le _, Nat.zero_le _⟩ ?_ Dp Bt Sq se
  intro Dp Bt Sq se
  refine xi_bipush (v := nI 4294967294) C.1 dL_refusesAny_160 (by decide +kernel) ?_
  refine xi_icmp_ne (tgt := 185) C.1 dL_refusesAny_162 (by decide) (fun c => absurd c (by decide +kernel)) (fun _ => ?_)
  refine xi_aload_n C.1 dL_refusesAny_165 rfl 0 rfl ?_
  refine xi_iconst (v := nI 1) C.1 dL_refusesAny_166 (by decide +kernel) ?_
  refine xi_iload_n C.1 dL_refusesAny_167 rfl 1 rfl ?_
  refine xi_if_ne (tgt := 175) C.1 dL_refusesAny_168 (by decide) (fun _ => ?_) (fun c => absurd c (by decide +kernel))
  refine xi_bipush (v := nI 10) C.1 dL_refusesAny_175 (by decide +kernel) ?_
  refine ow_6 (a1 := 1) (a2 := 10) (a3 := 0) C J (rf_6_1_10_0 m) dL_refusesAny_177 (Nat.le_of_ble_eq_true rfl) ⟨Nat.zero_le _, Nat.zero_le _⟩ ?_ Dp Bt Sq se
  intro Dp Bt Sq se
  refine xi_bipush (v := nI 4294967294) C.1 dL_refusesAny_180 (by decide +kernel) ?_
  refine xi_icmp_eq (tgt := 187) C.1 dL_refusesAny_182 (by decide) (fun _ => ?_) (fun c => absurd (by decide +kernel) c)
  refine xi_aload_n C.1 dL_refusesAny_187 rfl 0 rfl ?_
  refine xi_iload_n C.1 dL_refusesAny_188 rfl 2 rfl ?_
  refine xi_bipush (v := nI 9) C.1 dL_refusesAny_189 (by decide +kernel) ?_
  refine ow_13 (a1 := 24) (a2 := 9) (a3 := 0) C J (rf_13_24_9_0 m) dL_refusesAny_191 (Nat.le_of_ble_eq_true rfl) ⟨Nat.zero_le _, Nat.zero_le _⟩ ?_ Dp Bt Sq se
  intro Dp Bt Sq se
  refine xi_iconst (v := nI 4294967295) C.1 dL_refusesAny_194 (by decide +kernel) ?_
  refine xi_icmp_ne (tgt := 356) C.1 dL_refusesAny_195 (by decide) (fun c => absurd c (by decide +kernel)) (fun _ => ?_)
  refine xi_aload_n C.1 dL_refusesAny_198 rfl 0 rfl ?_
  refine xi_iload_n C.1 dL_refusesAny_199 rfl 2 rfl ?_
  refine xi_iconst (v := nI 0) C.1 dL_refusesAny_200 (by decide +kernel) ?_
  refine xi_iconst (v := nI 4294967295) C.1 dL_refusesAny_201 (by decide +kernel) ?_
  refine ow_14 (a1 := 24) (a2 := 0) (a3 := 4294967295) C J (rf_14_24_0_4294967295 m) dL_refusesAny_202 (Nat.le_of_ble_eq_true rfl) ⟨Nat.zero_le _, Nat.zero_le _⟩ ?_ Dp Bt Sq se
  intro Dp Bt Sq se
  refine xi_iconst (v := nI 4294967295) C.1 dL_refusesAny_205 (by decide +kernel) ?_
  refine xi_icmp_ne (tgt := 356) C.1 dL_refusesAny_206 (by decide) (fun c => absurd c (by decide +kernel)) (fun _ => ?_)
  refine xi_aload_n C.1 dL_refusesAny_209 rfl 0 rfl ?_
  refine xi_iload_n C.1 dL_refusesAny_210 rfl 2 rfl ?_
  refine xi_iconst (v := nI 0) C.1 dL_refusesAny_211 (by decide +kernel) ?_
  refine ow_15 (a1 := 24) (a2 := 0) (a3 := 0) C J (rf_15_24_0_0 m) dL_refusesAny_212 (Nat.le_of_ble_eq_true rfl) ⟨Nat.zero_le _, Nat.zero_le _⟩ ?_ Dp Bt Sq se
  intro Dp Bt Sq se
  refine xi_iconst (v := nI 4294967295) C.1 dL_refusesAny_215 (by decide +kernel) ?_
  refine xi_icmp_ne (tgt := 356) C.1 dL_refusesAny_216 (by decide) (fun c => absurd c (by decide +kernel)) (fun _ => ?_)
  refine xi_aload_n C.1 dL_refusesAny_219 rfl 0 rfl ?_
  refine xi_iconst (v := nI 0) C.1 dL_refusesAny_220 (by decide +kernel) ?_
  refine xi_iload_n C.1 dL_refusesAny_221 rfl 2 rfl ?_
  refine ow_15 (a1 := 0) (a2 := 24) (a3 := 0) C J (rf_15_0_24_0 m) dL_refusesAny_222 (Nat.le_of_ble_eq_true rfl) ⟨Nat.zero_le _, Nat.zero_le _⟩ ?_ Dp Bt Sq se
  intro Dp Bt Sq se
  refine xi_iconst (v := nI 4294967295) C.1 dL_refusesAny_225 (by decide +kernel) ?_
  refine xi_icmp_ne (tgt := 356) C.1 dL_refusesAny_226 (by decide) (fun c => absurd c (by decide +kernel)) (fun _ => ?_)
  refine xi_aload_n C.1 dL_refusesAny_229 rfl 0 rfl ?_
  refine xi_iconst (v := nI 5) C.1 dL_refusesAny_230 (by decide +kernel) ?_
  refine xi_bipush (v := nI 6) C.1 dL_refusesAny_231 (by decide +kernel) ?_
  refine ow_15 (a1 := 5) (a2 := 6) (a3 := 0) C J (rf_15_5_6_0 m) dL_refusesAny_233 (Nat.le_of_ble_eq_true rfl) ⟨Nat.zero_le _, Nat.zero_le _⟩ ?_ Dp Bt Sq se
  intro Dp Bt Sq se
  refine xi_iconst (v := nI 4294967295) C.1 dL_refusesAny_236 (by decide +kernel) ?_
  refine xi_icmp_ne (tgt := 356) C.1 dL_refusesAny_237 (by decide) (fun c => absurd c (by decide +kernel)) (fun _ => ?_)
  refine xi_aload_n C.1 dL_refusesAny_240 rfl 0 rfl ?_
  refine xi_iconst (v := nI 0) C.1 dL_refusesAny_241 (by decide +kernel) ?_
  refine xi_iconst (v := nI 0) C.1 dL_refusesAny_242 (by decide +kernel) ?_
  refine ow_15 (a1 := 0) (a2 := 0) (a3 := 0) C J (rf_15_0_0_0 m) dL_refusesAny_243 (Nat.le_of_ble_eq_true rfl) ⟨Nat.zero_le _, Nat.zero_le _⟩ ?_ Dp Bt Sq se
  intro Dp Bt Sq se
  refine xi_iconst (v := nI 4294967295) C.1 dL_refusesAny_246 (by decide +kernel) ?_
  refine xi_icmp_ne (tgt := 356) C.1 dL_refusesAny_247 (by decide) (fun c => absurd c (by decide +kernel)) (fun _ => ?_)
  refine xi_aload_n C.1 dL_refusesAny_250 rfl 0 rfl ?_
  refine xi_iconst (v := nI 0) C.1 dL_refusesAny_251 (by decide +kernel) ?_
  refine xi_iload_n C.1 dL_refusesAny_252 rfl 1 rfl ?_
  refine xi_if_ne (tgt := 261) C.1 dL_refusesAny_253 (by decide) (fun _ => ?_) (fun c => absurd c (by decide +kernel))
  refine xi_bipush (v := nI 12) C.1 dL_refusesAny_261 (by decide +kernel) ?_
  refine ow_15 (a1 := 0) (a2 := 12) (a3 := 0) C J (rf_15_0_12_0 m) dL_refusesAny_263 (Nat.le_of_ble_eq_true rfl) ⟨Nat.zero_le _, Nat.zero_le _⟩ ?_ Dp Bt Sq se
  intro Dp Bt Sq se
  refine xi_iconst (v := nI 4294967295) C.1 dL_refusesAny_266 (by decide +kernel) ?_
  refine xi_icmp_ne (tgt := 356) C.1 dL_refusesAny_267 (by decide) (fun c => absurd c (by decide +kernel)) (fun _ => ?_)
  refine xi_aload_n C.1 dL_refusesAny_270 rfl 0 rfl ?_
  refine xi_iload_n C.1 dL_refusesAny_271 rfl 2 rfl ?_
  refine xi_sipush (v := nI 999) C.1 dL_refusesAny_272 (by decide +kernel) ?_
  refine ow_16 (a1 := 24) (a2 := 999) (a3 := 0) C J (rf_16_24_999_0 m) dL_refusesAny_275 (Nat.le_of_ble_eq_true rfl) ⟨Nat.zero_le _, Nat.zero_le _⟩ ?_ Dp Bt Sq se
  intro Dp Bt Sq se
  refine xi_iconst (v := nI 4294967295) C.1 dL_refusesAny_278 (by decide +kernel) ?_
  refine xi_icmp_ne (tgt := 356) C.1 dL_refusesAny_279 (by decide) (fun c => absurd c (by decide +kernel)) (fun _ => ?_)
  refine xi_aload_n C.1 dL_refusesAny_282 rfl 0 rfl ?_
  refine xi_iload_n C.1 dL_refusesAny_283 rfl 2 rfl ?_
  refine ow_17 (a1 := 24) (a2 := 0) (a3 := 0) C J (rf_17_24_0_0 m) dL_refusesAny_284 (Nat.le_of_ble_eq_true rfl) ⟨Nat.zero_le _, Nat.zero_le _⟩ ?_ Dp Bt Sq se
  intro Dp Bt Sq se
  refine xi_iconst (v := nI 4294967295) C.1 dL_refusesAny_287 (by decide +kernel) ?_
  refine xi_icmp_ne (tgt := 356) C.1 dL_refusesAny_288 (by decide) (fun c => absurd c (by decide +kernel)) (fun _ => ?_)
  refine xi_aload_n C.1 dL_refusesAny_291 rfl 0 rfl ?_
  refine xi_iload_n C.1 dL_refusesAny_292 rfl 2 rfl ?_
  refine xi_iconst (v := nI 0) C.1 dL_refusesAny_293 (by decide +kernel) ?_
  refine ow_18 (a1 := 24) (a2 := 0) (a3 := 0) C J (rf_18_24_0_0 m) dL_refusesAny_294 (Nat.le_of_ble_eq_true rfl) ⟨Nat.zero_le _, Nat.zero_le _⟩ ?_ Dp Bt Sq se
  intro Dp Bt Sq se
  refine xi_iconst (v := nI 4294967295) C.1 dL_refusesAny_297 (by decide +kernel) ?_
  refine xi_icmp_ne (tgt := 356) C.1 dL_refusesAny_298 (by decide) (fun c => absurd c (by decide +kernel)) (fun _ => ?_)
  refine xi_aload_n C.1 dL_refusesAny_301 rfl 0 rfl ?_
  refine xi_iconst (v := nI 0) C.1 dL_refusesAny_302 (by decide +kernel) ?_
  refine xi_iload_n C.1 dL_refusesAny_303 rfl 2 rfl ?_
  refine ow_18 (a1 := 0) (a2 := 24) (a3 := 0) C J (rf_18_0_24_0 m) dL_refusesAny_304 (Nat.le_of_ble_eq_true rfl) ⟨Nat.zero_le _, Nat.zero_le _⟩ ?_ Dp Bt Sq se
  intro Dp Bt Sq se
  refine xi_iconst (v := nI 4294967295) C.1 dL_refusesAny_307 (by decide +kernel) ?_
  refine xi_icmp_ne (tgt := 356) C.1 dL_refusesAny_308 (by decide) (fun c => absurd c (by decide +kernel)) (fun _ => ?_)
  refine xi_aload_n C.1 dL_refusesAny_311 rfl 0 rfl ?_
  refine xi_bipush (v := nI 9) C.1 dL_refusesAny_312 (by decide +kernel) ?_
  refine xi_bipush (v := nI 9) C.1 dL_refusesAny_314 (by decide +kernel) ?_
  refine ow_18 (a1 := 9) (a2 := 9) (a3 := 0) C J (rf_18_9_9_0 m) dL_refusesAny_316 (Nat.le_of_ble_eq_true rfl) ⟨Nat.zero_le _, Nat.zero_le _⟩ ?_ Dp Bt Sq se
  intro Dp Bt Sq se
  refine xi_bipush (v := nI 4294967291) C.1 dL_refusesAny_319 (by decide +kernel) ?_
  refine xi_icmp_ne (tgt := 356) C.1 dL_refusesAny_321 (by decide) (fun c => absurd c (by decide +kernel)) (fun _ => ?_)
  refine xi_aload_n C.1 dL_refusesAny_324 rfl 0 rfl ?_
  refine xi_iload_n C.1 dL_refusesAny_325 rfl 2 rfl ?_
  refine ow_19 (a1 := 24) (a2 := 0) (a3 := 0) C J (rf_19_24_0_0 m) dL_refusesAny_326 (Nat.le_of_ble_eq_true rfl) ⟨Nat.zero_le _, Nat.zero_le _⟩ ?_ Dp Bt Sq se
  intro Dp Bt Sq se
  refine xi_iconst (v := nI 4294967295) C.1 dL_refusesAny_329 (by decide +kernel) ?_
  refine xi_icmp_ne (tgt := 356) C.1 dL_refusesAny_330 (by decide) (fun c => absurd c (by decide +kernel)) (fun _ => ?_)
  refine xi_aload_n C.1 dL_refusesAny_333 rfl 0 rfl ?_
  refine xi_iload_n C.1 dL_refusesAny_334 rfl 1 rfl ?_
  refine xi_if_ne (tgt := 342) C.1 dL_refusesAny_335 (by decide) (fun _ => ?_) (fun c => absurd c (by decide +kernel))
  refine xi_bipush (v := nI 11) C.1 dL_refusesAny_342 (by decide +kernel) ?_
  refine ow_21 (a1 := 11) (a2 := 0) (a3 := 0) C J (rf_21_11_0_0 m) dL_refusesAny_344 (Nat.le_of_ble_eq_true rfl) ⟨Nat.zero_le _, Nat.zero_le _⟩ ?_ Dp Bt Sq se
  intro Dp Bt Sq se
  refine xi_bipush (v := nI 4294967294) C.1 dL_refusesAny_347 (by decide +kernel) ?_
  refine xi_icmp_ne (tgt := 356) C.1 dL_refusesAny_349 (by decide) (fun c => absurd c (by decide +kernel)) (fun _ => ?_)
  refine xi_iconst (v := nI 1) C.1 dL_refusesAny_352 (by decide +kernel) ?_
  refine xi_goto (tgt := 357) C.1 dL_refusesAny_353 (by decide) ?_
  exact xi_zretP C.1 Z (Nat.le_refl _) (Nat.le_refl _) oW_nil ⟨rfl, Dp, Bt, Sq, se, rfl⟩ dL_refusesAny_357 (by decide +kernel)
