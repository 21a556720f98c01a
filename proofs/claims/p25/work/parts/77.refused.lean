/-! errors with a cell: nothing is recorded, nothing changes -/
set_option maxHeartbeats 4000000 in
set_option maxRecDepth 100000 in
theorem m_refused (D : va_G) (cI cC cZ cR : ClassId) (ad : Nat → Nat) (ha : Nat → Nat → Nat) {m : xMu} (J : GG m) {p : Nat} (hp : p < 24) (hS : ∀ s, f_X0_sourceOf m.1.2.1 (nI p * 3 + nI 0) = some (nI s) → f_X0_isSource m.1.1 (nI s) = some (nI 1)) (Dp Bt Sq : Nat → Int32) (se : Int32) : xb_MP cL_refused wsB_refused RL rm_refused (some .boolean) 6 (xb_ty cI cC cZ cR) D (fun _ => True) [.ref (ad 0), .int (nI p)] (W5m cI cC cR ad ha m Dp Bt Sq se) (oP cI cC cR ad ha m (.int 1)) 0 0 := by
  intro X C0 E0 Z hfr
  have C : xb_LW X cL_refused wsB_refused rm_refused (some .boolean) 6 (xb_ty cI cC cZ cR) D cI cC cZ cR := ⟨C0, su_refused, rfl, by decide, by decide⟩
  have tl : oG X 0 0 cI cC cR ad ha m [] [(0, .ref (ad 0)), (1, .int (nI p)), (2, .long (sv m.1)), (4, .int m.2.2.2.2.1)] 238 [] := by
    intro Dp Bt Sq se
    refine xi_aload_n C.1 dL_refused_238 rfl 0 rfl ?_
    refine xi_iconst (v := nI 0) C.1 dL_refused_239 (by decide +kernel) ?_
    refine oc_P (As := [.int (nI 0)]) (rest := []) C kL_refusesAny (fun Dp Bt Sq se => m_any0 D cI cC cZ cR ad ha J Dp Bt Sq se) gB_refusesAny dL_refused_240 ⟨by decide, by decide, Nat.le_of_ble_eq_true rfl⟩ rfl (Nat.le_of_ble_eq_true rfl) ⟨Nat.zero_le _, Nat.zero_le _⟩ ?_ Dp Bt Sq se
    intro Dp Bt Sq se
    refine xi_if_eq (tgt := 278) C.1 dL_refused_243 (by decide) (fun c => absurd c (by decide +kernel)) (fun _ => ?_)
    refine xi_aload_n C.1 dL_refused_246 rfl 0 rfl ?_
    refine xi_iconst (v := nI 1) C.1 dL_refused_247 (by decide +kernel) ?_
    refine oc_P (As := [.int (nI 1)]) (rest := []) C kL_refusesAny (fun Dp Bt Sq se => m_any1 D cI cC cZ cR ad ha J Dp Bt Sq se) gB_refusesAny dL_refused_248 ⟨by decide, by decide, Nat.le_of_ble_eq_true rfl⟩ rfl (Nat.le_of_ble_eq_true rfl) ⟨Nat.zero_le _, Nat.zero_le _⟩ ?_ Dp Bt Sq se
    intro Dp Bt Sq se
    refine xi_if_eq (tgt := 278) C.1 dL_refused_251 (by decide) (fun c => absurd c (by decide +kernel)) (fun _ => ?_)
    refine xi_aload_n C.1 dL_refused_254 rfl 0 rfl ?_
    refine oc_P (As := []) (rest := []) C kL_seen (fun Dp Bt Sq se => m_seen D cI cC cZ cR ad ha J Dp Bt Sq se) gB_seen dL_refused_255 ⟨by decide, by decide, Nat.le_of_ble_eq_true rfl⟩ rfl (Nat.le_of_ble_eq_true rfl) ⟨Nat.zero_le _, Nat.zero_le _⟩ ?_ Dp Bt Sq se
    intro Dp Bt Sq se
    refine xi_lload_n C.1 dL_refused_258 rfl 2 rfl ?_
    refine xi_lcmp C.1 dL_refused_259 ?_
    refine xb_top (b := 0) (lg_cmp_self _) ?_
    refine xi_if_ne (tgt := 278) C.1 dL_refused_260 (by decide) (fun c => absurd c (by decide +kernel)) (fun _ => ?_)
    refine xi_aload_n C.1 dL_refused_263 rfl 0 rfl ?_
    refine xi_bipush (v := nI 9) C.1 dL_refused_264 (by decide +kernel) ?_
    refine ow_21 (a1 := 9) (a2 := 0) (a3 := 0) C J (tq_c9 m) dL_refused_266 (Nat.le_of_ble_eq_true rfl) ⟨Nat.zero_le _, Nat.zero_le _⟩ ?_ Dp Bt Sq se
    intro Dp Bt Sq se
    refine xi_iload C.1 dL_refused_269 3 rfl ?_
    refine xi_icmp_ne (tgt := 278) C.1 dL_refused_271 (by decide) (fun c => absurd rfl c) (fun _ => ?_)
    refine xi_iconst (v := nI 1) C.1 dL_refused_274 (by decide +kernel) ?_
    refine xi_goto (tgt := 279) C.1 dL_refused_275 (by decide) ?_
    exact xi_zretP C.1 Z (Nat.le_refl _) (Nat.le_refl _) oW_nil ⟨rfl, Dp, Bt, Sq, se, rfl⟩ dL_refused_279 (by decide +kernel)
  refine xb_w (w' := W5m cI cC cR ad ha m Dp Bt Sq se ++ []) (List.append_nil _).symm ?_
  show xb_G X 0 0 (W5m cI cC cR ad ha m Dp Bt Sq se ++ []) [(0, .ref (ad 0)), (1, .int (nI p))] 0 []
  refine xi_aload_n C.1 dL_refused_0 rfl 0 rfl ?_
  refine oc_P (As := []) (rest := []) C kL_seen (fun Dp Bt Sq se => m_seen D cI cC cZ cR ad ha J Dp Bt Sq se) gB_seen dL_refused_1 ⟨by decide, by decide, Nat.le_of_ble_eq_true rfl⟩ rfl (Nat.le_of_ble_eq_true rfl) ⟨Nat.zero_le _, Nat.zero_le _⟩ ?_ Dp Bt Sq se
  intro Dp Bt Sq se
  refine xj_lstore_n (lv2 := [(0, .ref (ad 0)), (1, .int (nI p)), (2, .long (sv m.1))]) C.1 dL_refused_4 rfl (by decide) [0, 1] [1, 2, 0] rfl ?_
  refine xi_aload_n C.1 dL_refused_5 rfl 0 rfl ?_
  refine xi_bipush (v := nI 9) C.1 dL_refused_6 (by decide +kernel) ?_
  refine ow_21 (a1 := 9) (a2 := 0) (a3 := 0) C J (tq_c9 m) dL_refused_8 (Nat.le_of_ble_eq_true rfl) ⟨Nat.zero_le _, Nat.zero_le _⟩ ?_ Dp Bt Sq se
  intro Dp Bt Sq se
  refine xj_istore (lv2 := [(0, .ref (ad 0)), (1, .int (nI p)), (2, .long (sv m.1)), (4, .int m.2.2.2.2.1)]) C.1 dL_refused_11 (by decide) [0, 1, 2] [1, 2, 3, 0] rfl ?_
  refine xi_iconst (v := nI 0) C.1 dL_refused_13 (by decide +kernel) ?_
  refine xj_istore (lv2 := [(0, .ref (ad 0)), (1, .int (nI p)), (2, .long (sv m.1)), (4, .int m.2.2.2.2.1), (5, .int (nI 0))]) C.1 dL_refused_14 (by decide) [0, 1, 2, 3] [1, 2, 3, 4, 0] rfl ?_
  refine xi_iload C.1 dL_refused_16 4 rfl ?_
  refine xi_iconst (v := nI 2) C.1 dL_refused_18 (by decide +kernel) ?_
  refine xi_icmp_ge (tgt := 238) C.1 dL_refused_19 (by decide) (fun c => absurd c (by decide +kernel)) (fun _ => ?_)
  refine xi_aload_n C.1 dL_refused_22 rfl 0 rfl ?_
  refine xi_iload_n C.1 dL_refused_23 rfl 1 rfl ?_
  refine xi_iconst (v := nI 0) C.1 dL_refused_24 (by decide +kernel) ?_
  refine ow_13 (a1 := p) (a2 := 0) (a3 := 0) C J (tq_cell J p 0) dL_refused_25 (Nat.le_of_ble_eq_true rfl) ⟨Nat.zero_le _, Nat.zero_le _⟩ ?_ Dp Bt Sq se
  intro Dp Bt Sq se
  refine xi_if_lt (tgt := 238) C.1 dL_refused_28 (by decide) (fun _ => ?_) (fun c => ?_)
  · exact xb_lv (tl Dp Bt Sq se) [0, 1, 2, 3] rfl
  obtain ⟨t, s, h⟩ := rc_ex J hp c
  have hs := hS s h.2.2.2.2.2.2
  refine xi_aload_n C.1 dL_refused_31 rfl 0 rfl ?_
  refine xi_iload_n C.1 dL_refused_32 rfl 1 rfl ?_
  refine xi_iconst (v := nI 1) C.1 dL_refused_33 (by decide +kernel) ?_
  refine ow_0 (a1 := p) (a2 := 1) (a3 := 0) C J (rq_put hp h) dL_refused_34 (Nat.le_of_ble_eq_true rfl) ⟨Nat.zero_le _, Nat.zero_le _⟩ ?_ Dp Bt Sq se
  intro Dp Bt Sq se
  refine xi_bipush (v := nI 4294967292) C.1 dL_refused_37 (by decide +kernel) ?_
  refine xi_icmp_ne (tgt := 230) C.1 dL_refused_39 (by decide) (fun c => absurd c (by decide +kernel)) (fun _ => ?_)
  refine xi_aload_n C.1 dL_refused_42 rfl 0 rfl ?_
  refine xi_iload_n C.1 dL_refused_43 rfl 1 rfl ?_
  refine xi_sipush (v := nI 256) C.1 dL_refused_44 (by decide +kernel) ?_
  refine ow_0 (a1 := p) (a2 := 256) (a3 := 0) C J (rq_putv hp) dL_refused_47 (Nat.le_of_ble_eq_true rfl) ⟨Nat.zero_le _, Nat.zero_le _⟩ ?_ Dp Bt Sq se
  intro Dp Bt Sq se
  refine xi_bipush (v := nI 4294967294) C.1 dL_refused_50 (by decide +kernel) ?_
  refine xi_icmp_ne (tgt := 230) C.1 dL_refused_52 (by decide) (fun c => absurd c (by decide +kernel)) (fun _ => ?_)
  refine xi_aload_n C.1 dL_refused_55 rfl 0 rfl ?_
  refine xi_iload_n C.1 dL_refused_56 rfl 1 rfl ?_
  refine xi_iload C.1 dL_refused_57 4 rfl ?_
  refine xi_if_ne (tgt := 66) C.1 dL_refused_59 (by decide) (fun c => absurd c (by decide +kernel)) (fun _ => ?_)
  refine xi_iconst (v := nI 4294967295) C.1 dL_refused_62 (by decide +kernel) ?_
  refine xi_goto (tgt := 69) C.1 dL_refused_63 (by decide) ?_
  refine ow_2 (a1 := p) (a2 := 4294967295) (a3 := 0) C J (rq_stv h (by decide +kernel)) dL_refused_69 (Nat.le_of_ble_eq_true rfl) ⟨Nat.zero_le _, Nat.zero_le _⟩ ?_ Dp Bt Sq se
  intro Dp Bt Sq se
  refine xi_bipush (v := nI 4294967294) C.1 dL_refused_72 (by decide +kernel) ?_
  refine xi_icmp_ne (tgt := 230) C.1 dL_refused_74 (by decide) (fun c => absurd c (by decide +kernel)) (fun _ => ?_)
  refine xi_aload_n C.1 dL_refused_77 rfl 0 rfl ?_
  refine xi_iload_n C.1 dL_refused_78 rfl 1 rfl ?_
  refine xi_aload_n C.1 dL_refused_79 rfl 0 rfl ?_
  refine xi_iload_n C.1 dL_refused_80 rfl 1 rfl ?_
  refine xi_iconst (v := nI 0) C.1 dL_refused_81 (by decide +kernel) ?_
  refine ow_13 (a1 := p) (a2 := 0) (a3 := 0) C J (tq_cell J p 0) dL_refused_82 (Nat.le_of_ble_eq_true rfl) ⟨Nat.zero_le _, Nat.zero_le _⟩ ?_ Dp Bt Sq se
  intro Dp Bt Sq se
  refine xb_top (b := nI t) h.2.2.2.2.1 ?_
  refine ow_2 (a1 := p) (a2 := t) (a3 := 0) C J (rq_st h) dL_refused_85 (Nat.le_of_ble_eq_true rfl) ⟨Nat.zero_le _, Nat.zero_le _⟩ ?_ Dp Bt Sq se
  intro Dp Bt Sq se
  refine xi_bipush (v := nI 4294967291) C.1 dL_refused_88 (by decide +kernel) ?_
  refine xi_icmp_ne (tgt := 230) C.1 dL_refused_90 (by decide) (fun c => absurd c (by decide +kernel)) (fun _ => ?_)
  refine xi_aload_n C.1 dL_refused_93 rfl 0 rfl ?_
  refine xi_iload_n C.1 dL_refused_94 rfl 1 rfl ?_
  refine xi_iload C.1 dL_refused_95 4 rfl ?_
  refine xi_if_ne (tgt := 104) C.1 dL_refused_97 (by decide) (fun c => absurd c (by decide +kernel)) (fun _ => ?_)
  refine xi_iconst (v := nI 4294967295) C.1 dL_refused_100 (by decide +kernel) ?_
  refine xi_goto (tgt := 105) C.1 dL_refused_101 (by decide) ?_
  refine xi_bipush (v := nI 33) C.1 dL_refused_105 (by decide +kernel) ?_
  refine ow_3 (a1 := p) (a2 := 4294967295) (a3 := 33) C J (rq_coi h (by decide +kernel)) dL_refused_107 (Nat.le_of_ble_eq_true rfl) ⟨Nat.zero_le _, Nat.zero_le _⟩ ?_ Dp Bt Sq se
  intro Dp Bt Sq se
  refine xi_iconst (v := nI 4294967295) C.1 dL_refused_110 (by decide +kernel) ?_
  refine xi_icmp_ne (tgt := 230) C.1 dL_refused_111 (by decide) (fun c => absurd c (by decide +kernel)) (fun _ => ?_)
  refine xi_aload_n C.1 dL_refused_114 rfl 0 rfl ?_
  refine xi_iload_n C.1 dL_refused_115 rfl 1 rfl ?_
  refine xi_iconst (v := nI 0) C.1 dL_refused_116 (by decide +kernel) ?_
  refine xi_iload C.1 dL_refused_117 4 rfl ?_
  refine xi_if_ne (tgt := 126) C.1 dL_refused_119 (by decide) (fun c => absurd c (by decide +kernel)) (fun _ => ?_)
  refine xi_iconst (v := nI 4294967295) C.1 dL_refused_122 (by decide +kernel) ?_
  refine xi_goto (tgt := 128) C.1 dL_refused_123 (by decide) ?_
  refine ow_3 (a1 := p) (a2 := 0) (a3 := 4294967295) C J (rq_cos h (l0_isSource_no (by decide +kernel))) dL_refused_128 (Nat.le_of_ble_eq_true rfl) ⟨Nat.zero_le _, Nat.zero_le _⟩ ?_ Dp Bt Sq se
  intro Dp Bt Sq se
  refine xi_iconst (v := nI 4294967295) C.1 dL_refused_131 (by decide +kernel) ?_
  refine xi_icmp_ne (tgt := 230) C.1 dL_refused_132 (by decide) (fun c => absurd c (by decide +kernel)) (fun _ => ?_)
  refine xi_aload_n C.1 dL_refused_135 rfl 0 rfl ?_
  refine xi_iload_n C.1 dL_refused_136 rfl 1 rfl ?_
  refine xi_iconst (v := nI 0) C.1 dL_refused_137 (by decide +kernel) ?_
  refine xi_aload_n C.1 dL_refused_138 rfl 0 rfl ?_
  refine xi_iload_n C.1 dL_refused_139 rfl 1 rfl ?_
  refine xi_iconst (v := nI 1) C.1 dL_refused_140 (by decide +kernel) ?_
  refine ow_13 (a1 := p) (a2 := 1) (a3 := 0) C J (tq_cell J p 1) dL_refused_141 (Nat.le_of_ble_eq_true rfl) ⟨Nat.zero_le _, Nat.zero_le _⟩ ?_ Dp Bt Sq se
  intro Dp Bt Sq se
  refine xb_top (b := nI s) h.2.2.2.2.2.1 ?_
  refine ow_3 (a1 := p) (a2 := 0) (a3 := s) C J (rq_co h hs) dL_refused_144 (Nat.le_of_ble_eq_true rfl) ⟨Nat.zero_le _, Nat.zero_le _⟩ ?_ Dp Bt Sq se
  intro Dp Bt Sq se
  refine xi_bipush (v := nI 4294967291) C.1 dL_refused_147 (by decide +kernel) ?_
  refine xi_icmp_ne (tgt := 230) C.1 dL_refused_149 (by decide) (fun c => absurd c (by decide +kernel)) (fun _ => ?_)
  refine xi_aload_n C.1 dL_refused_152 rfl 0 rfl ?_
  refine xi_iload_n C.1 dL_refused_153 rfl 1 rfl ?_
  refine xi_iload C.1 dL_refused_154 4 rfl ?_
  refine xi_if_ne (tgt := 163) C.1 dL_refused_156 (by decide) (fun c => absurd c (by decide +kernel)) (fun _ => ?_)
  refine xi_iconst (v := nI 4294967295) C.1 dL_refused_159 (by decide +kernel) ?_
  refine xi_goto (tgt := 165) C.1 dL_refused_160 (by decide) ?_
  refine ow_13 (a1 := p) (a2 := 4294967295) (a3 := 0) C J (rq_ce h (by decide +kernel)) dL_refused_165 (Nat.le_of_ble_eq_true rfl) ⟨Nat.zero_le _, Nat.zero_le _⟩ ?_ Dp Bt Sq se
  intro Dp Bt Sq se
  refine xi_bipush (v := nI 4294967294) C.1 dL_refused_168 (by decide +kernel) ?_
  refine xi_icmp_ne (tgt := 230) C.1 dL_refused_170 (by decide) (fun c => absurd c (by decide +kernel)) (fun _ => ?_)
  refine xi_aload_n C.1 dL_refused_173 rfl 0 rfl ?_
  refine xi_iload_n C.1 dL_refused_174 rfl 1 rfl ?_
  refine xi_iload C.1 dL_refused_175 4 rfl ?_
  refine xi_if_ne (tgt := 184) C.1 dL_refused_177 (by decide) (fun c => absurd c (by decide +kernel)) (fun _ => ?_)
  refine xi_iconst (v := nI 4294967295) C.1 dL_refused_180 (by decide +kernel) ?_
  refine xi_goto (tgt := 185) C.1 dL_refused_181 (by decide) ?_
  refine xi_iconst (v := nI 4294967295) C.1 dL_refused_185 (by decide +kernel) ?_
  refine ow_14 (a1 := p) (a2 := 4294967295) (a3 := 4294967295) C J (rq_pai h (by decide +kernel)) dL_refused_186 (Nat.le_of_ble_eq_true rfl) ⟨Nat.zero_le _, Nat.zero_le _⟩ ?_ Dp Bt Sq se
  intro Dp Bt Sq se
  refine xi_iconst (v := nI 4294967295) C.1 dL_refused_189 (by decide +kernel) ?_
  refine xi_icmp_ne (tgt := 230) C.1 dL_refused_190 (by decide) (fun c => absurd c (by decide +kernel)) (fun _ => ?_)
  refine xi_aload_n C.1 dL_refused_193 rfl 0 rfl ?_
  refine xi_iload_n C.1 dL_refused_194 rfl 1 rfl ?_
  refine xi_iconst (v := nI 0) C.1 dL_refused_195 (by decide +kernel) ?_
  refine xi_iconst (v := nI 4294967295) C.1 dL_refused_196 (by decide +kernel) ?_
  refine xi_iload C.1 dL_refused_197 4 rfl ?_
  refine xi_isub C.1 dL_refused_199 ?_
  refine xb_top (b := nI 4294967295) (by decide +kernel) ?_
  refine ow_14 (a1 := p) (a2 := 0) (a3 := 4294967295) C J (rq_pas h (by decide +kernel)) dL_refused_200 (Nat.le_of_ble_eq_true rfl) ⟨Nat.zero_le _, Nat.zero_le _⟩ ?_ Dp Bt Sq se
  intro Dp Bt Sq se
  refine xi_bipush (v := nI 4294967294) C.1 dL_refused_203 (by decide +kernel) ?_
  refine xi_icmp_ne (tgt := 230) C.1 dL_refused_205 (by decide) (fun c => absurd c (by decide +kernel)) (fun _ => ?_)
  refine xi_aload_n C.1 dL_refused_208 rfl 0 rfl ?_
  refine xi_iload_n C.1 dL_refused_209 rfl 1 rfl ?_
  refine xi_iload C.1 dL_refused_210 4 rfl ?_
  refine xi_if_ne (tgt := 219) C.1 dL_refused_212 (by decide) (fun c => absurd c (by decide +kernel)) (fun _ => ?_)
  refine xi_iconst (v := nI 4294967295) C.1 dL_refused_215 (by decide +kernel) ?_
  refine xi_goto (tgt := 222) C.1 dL_refused_216 (by decide) ?_
  refine ow_16 (a1 := p) (a2 := 4294967295) (a3 := 0) C J (rq_an h (by decide +kernel)) dL_refused_222 (Nat.le_of_ble_eq_true rfl) ⟨Nat.zero_le _, Nat.zero_le _⟩ ?_ Dp Bt Sq se
  intro Dp Bt Sq se
  refine xi_bipush (v := nI 4294967294) C.1 dL_refused_225 (by decide +kernel) ?_
  refine xi_icmp_eq (tgt := 232) C.1 dL_refused_227 (by decide) (fun _ => ?_) (fun c => absurd (by decide +kernel) c)
  refine xj_iinc (v := nI 1) (lv2 := [(0, .ref (ad 0)), (1, .int (nI p)), (2, .long (sv m.1)), (4, .int m.2.2.2.2.1), (5, .int (nI 1))]) C.1 dL_refused_232 4 rfl (by decide +kernel) (by decide) [0, 1, 2, 3] [1, 2, 3, 4, 0] rfl ?_
  refine xi_goto (tgt := 16) C.1 dL_refused_235 (by decide) ?_
  refine xi_iload C.1 dL_refused_16 4 rfl ?_
  refine xi_iconst (v := nI 2) C.1 dL_refused_18 (by decide +kernel) ?_
  refine xi_icmp_ge (tgt := 238) C.1 dL_refused_19 (by decide) (fun c => absurd c (by decide +kernel)) (fun _ => ?_)
  refine xi_aload_n C.1 dL_refused_22 rfl 0 rfl ?_
  refine xi_iload_n C.1 dL_refused_23 rfl 1 rfl ?_
  refine xi_iconst (v := nI 0) C.1 dL_refused_24 (by decide +kernel) ?_
  refine ow_13 (a1 := p) (a2 := 0) (a3 := 0) C J (tq_cell J p 0) dL_refused_25 (Nat.le_of_ble_eq_true rfl) ⟨Nat.zero_le _, Nat.zero_le _⟩ ?_ Dp Bt Sq se
  intro Dp Bt Sq se
  refine xi_if_lt (tgt := 238) C.1 dL_refused_28 (by decide) (fun _ => ?_) (fun c => ?_)
  · exact xb_lv (tl Dp Bt Sq se) [0, 1, 2, 3] rfl
  obtain ⟨t, s, h⟩ := rc_ex J hp c
  have hs := hS s h.2.2.2.2.2.2
  refine xi_aload_n C.1 dL_refused_31 rfl 0 rfl ?_
  refine xi_iload_n C.1 dL_refused_32 rfl 1 rfl ?_
  refine xi_iconst (v := nI 1) C.1 dL_refused_33 (by decide +kernel) ?_
  refine ow_0 (a1 := p) (a2 := 1) (a3 := 0) C J (rq_put hp h) dL_refused_34 (Nat.le_of_ble_eq_true rfl) ⟨Nat.zero_le _, Nat.zero_le _⟩ ?_ Dp Bt Sq se
  intro Dp Bt Sq se
  refine xi_bipush (v := nI 4294967292) C.1 dL_refused_37 (by decide +kernel) ?_
  refine xi_icmp_ne (tgt := 230) C.1 dL_refused_39 (by decide) (fun c => absurd c (by decide +kernel)) (fun _ => ?_)
  refine xi_aload_n C.1 dL_refused_42 rfl 0 rfl ?_
  refine xi_iload_n C.1 dL_refused_43 rfl 1 rfl ?_
  refine xi_sipush (v := nI 256) C.1 dL_refused_44 (by decide +kernel) ?_
  refine ow_0 (a1 := p) (a2 := 256) (a3 := 0) C J (rq_putv hp) dL_refused_47 (Nat.le_of_ble_eq_true rfl) ⟨Nat.zero_le _, Nat.zero_le _⟩ ?_ Dp Bt Sq se
  intro Dp Bt Sq se
  refine xi_bipush (v := nI 4294967294) C.1 dL_refused_50 (by decide +kernel) ?_
  refine xi_icmp_ne (tgt := 230) C.1 dL_refused_52 (by decide) (fun c => absurd c (by decide +kernel)) (fun _ => ?_)
  refine xi_aload_n C.1 dL_refused_55 rfl 0 rfl ?_
  refine xi_iload_n C.1 dL_refused_56 rfl 1 rfl ?_
  refine xi_iload C.1 dL_refused_57 4 rfl ?_
  refine xi_if_ne (tgt := 66) C.1 dL_refused_59 (by decide) (fun _ => ?_) (fun c => absurd c (by decide +kernel))
  refine xi_sipush (v := nI 256) C.1 dL_refused_66 (by decide +kernel) ?_
  refine ow_2 (a1 := p) (a2 := 256) (a3 := 0) C J (rq_stv h (by decide +kernel)) dL_refused_69 (Nat.le_of_ble_eq_true rfl) ⟨Nat.zero_le _, Nat.zero_le _⟩ ?_ Dp Bt Sq se
  intro Dp Bt Sq se
  refine xi_bipush (v := nI 4294967294) C.1 dL_refused_72 (by decide +kernel) ?_
  refine xi_icmp_ne (tgt := 230) C.1 dL_refused_74 (by decide) (fun c => absurd c (by decide +kernel)) (fun _ => ?_)
  refine xi_aload_n C.1 dL_refused_77 rfl 0 rfl ?_
  refine xi_iload_n C.1 dL_refused_78 rfl 1 rfl ?_
  refine xi_aload_n C.1 dL_refused_79 rfl 0 rfl ?_
  refine xi_iload_n C.1 dL_refused_80 rfl 1 rfl ?_
  refine xi_iconst (v := nI 0) C.1 dL_refused_81 (by decide +kernel) ?_
  refine ow_13 (a1 := p) (a2 := 0) (a3 := 0) C J (tq_cell J p 0) dL_refused_82 (Nat.le_of_ble_eq_true rfl) ⟨Nat.zero_le _, Nat.zero_le _⟩ ?_ Dp Bt Sq se
  intro Dp Bt Sq se
  refine xb_top (b := nI t) h.2.2.2.2.1 ?_
  refine ow_2 (a1 := p) (a2 := t) (a3 := 0) C J (rq_st h) dL_refused_85 (Nat.le_of_ble_eq_true rfl) ⟨Nat.zero_le _, Nat.zero_le _⟩ ?_ Dp Bt Sq se
  intro Dp Bt Sq se
  refine xi_bipush (v := nI 4294967291) C.1 dL_refused_88 (by decide +kernel) ?_
  refine xi_icmp_ne (tgt := 230) C.1 dL_refused_90 (by decide) (fun c => absurd c (by decide +kernel)) (fun _ => ?_)
  refine xi_aload_n C.1 dL_refused_93 rfl 0 rfl ?_
  refine xi_iload_n C.1 dL_refused_94 rfl 1 rfl ?_
  refine xi_iload C.1 dL_refused_95 4 rfl ?_
  refine xi_if_ne (tgt := 104) C.1 dL_refused_97 (by decide) (fun _ => ?_) (fun c => absurd c (by decide +kernel))
  refine xi_iconst (v := nI 3) C.1 dL_refused_104 (by decide +kernel) ?_
  refine xi_bipush (v := nI 33) C.1 dL_refused_105 (by decide +kernel) ?_
  refine ow_3 (a1 := p) (a2 := 3) (a3 := 33) C J (rq_coi h (by decide +kernel)) dL_refused_107 (Nat.le_of_ble_eq_true rfl) ⟨Nat.zero_le _, Nat.zero_le _⟩ ?_ Dp Bt Sq se
  intro Dp Bt Sq se
  refine xi_iconst (v := nI 4294967295) C.1 dL_refused_110 (by decide +kernel) ?_
  refine xi_icmp_ne (tgt := 230) C.1 dL_refused_111 (by decide) (fun c => absurd c (by decide +kernel)) (fun _ => ?_)
  refine xi_aload_n C.1 dL_refused_114 rfl 0 rfl ?_
  refine xi_iload_n C.1 dL_refused_115 rfl 1 rfl ?_
  refine xi_iconst (v := nI 0) C.1 dL_refused_116 (by decide +kernel) ?_
  refine xi_iload C.1 dL_refused_117 4 rfl ?_
  refine xi_if_ne (tgt := 126) C.1 dL_refused_119 (by decide) (fun _ => ?_) (fun c => absurd c (by decide +kernel))
  refine xi_bipush (v := nI 34) C.1 dL_refused_126 (by decide +kernel) ?_
  refine ow_3 (a1 := p) (a2 := 0) (a3 := 34) C J (rq_cos h (l0_isSource_no (by decide +kernel))) dL_refused_128 (Nat.le_of_ble_eq_true rfl) ⟨Nat.zero_le _, Nat.zero_le _⟩ ?_ Dp Bt Sq se
  intro Dp Bt Sq se
  refine xi_iconst (v := nI 4294967295) C.1 dL_refused_131 (by decide +kernel) ?_
  refine xi_icmp_ne (tgt := 230) C.1 dL_refused_132 (by decide) (fun c => absurd c (by decide +kernel)) (fun _ => ?_)
  refine xi_aload_n C.1 dL_refused_135 rfl 0 rfl ?_
  refine xi_iload_n C.1 dL_refused_136 rfl 1 rfl ?_
  refine xi_iconst (v := nI 0) C.1 dL_refused_137 (by decide +kernel) ?_
  refine xi_aload_n C.1 dL_refused_138 rfl 0 rfl ?_
  refine xi_iload_n C.1 dL_refused_139 rfl 1 rfl ?_
  refine xi_iconst (v := nI 1) C.1 dL_refused_140 (by decide +kernel) ?_
  refine ow_13 (a1 := p) (a2 := 1) (a3 := 0) C J (tq_cell J p 1) dL_refused_141 (Nat.le_of_ble_eq_true rfl) ⟨Nat.zero_le _, Nat.zero_le _⟩ ?_ Dp Bt Sq se
  intro Dp Bt Sq se
  refine xb_top (b := nI s) h.2.2.2.2.2.1 ?_
  refine ow_3 (a1 := p) (a2 := 0) (a3 := s) C J (rq_co h hs) dL_refused_144 (Nat.le_of_ble_eq_true rfl) ⟨Nat.zero_le _, Nat.zero_le _⟩ ?_ Dp Bt Sq se
  intro Dp Bt Sq se
  refine xi_bipush (v := nI 4294967291) C.1 dL_refused_147 (by decide +kernel) ?_
  refine xi_icmp_ne (tgt := 230) C.1 dL_refused_149 (by decide) (fun c => absurd c (by decide +kernel)) (fun _ => ?_)
  refine xi_aload_n C.1 dL_refused_152 rfl 0 rfl ?_
  refine xi_iload_n C.1 dL_refused_153 rfl 1 rfl ?_
  refine xi_iload C.1 dL_refused_154 4 rfl ?_
  refine xi_if_ne (tgt := 163) C.1 dL_refused_156 (by decide) (fun _ => ?_) (fun c => absurd c (by decide +kernel))
  refine xi_bipush (v := nI 7) C.1 dL_refused_163 (by decide +kernel) ?_
  refine ow_13 (a1 := p) (a2 := 7) (a3 := 0) C J (rq_ce h (by decide +kernel)) dL_refused_165 (Nat.le_of_ble_eq_true rfl) ⟨Nat.zero_le _, Nat.zero_le _⟩ ?_ Dp Bt Sq se
  intro Dp Bt Sq se
  refine xi_bipush (v := nI 4294967294) C.1 dL_refused_168 (by decide +kernel) ?_
  refine xi_icmp_ne (tgt := 230) C.1 dL_refused_170 (by decide) (fun c => absurd c (by decide +kernel)) (fun _ => ?_)
  refine xi_aload_n C.1 dL_refused_173 rfl 0 rfl ?_
  refine xi_iload_n C.1 dL_refused_174 rfl 1 rfl ?_
  refine xi_iload C.1 dL_refused_175 4 rfl ?_
  refine xi_if_ne (tgt := 184) C.1 dL_refused_177 (by decide) (fun _ => ?_) (fun c => absurd c (by decide +kernel))
  refine xi_iconst (v := nI 3) C.1 dL_refused_184 (by decide +kernel) ?_
  refine xi_iconst (v := nI 4294967295) C.1 dL_refused_185 (by decide +kernel) ?_
  refine ow_14 (a1 := p) (a2 := 3) (a3 := 4294967295) C J (rq_pai h (by decide +kernel)) dL_refused_186 (Nat.le_of_ble_eq_true rfl) ⟨Nat.zero_le _, Nat.zero_le _⟩ ?_ Dp Bt Sq se
  intro Dp Bt Sq se
  refine xi_iconst (v := nI 4294967295) C.1 dL_refused_189 (by decide +kernel) ?_
  refine xi_icmp_ne (tgt := 230) C.1 dL_refused_190 (by decide) (fun c => absurd c (by decide +kernel)) (fun _ => ?_)
  refine xi_aload_n C.1 dL_refused_193 rfl 0 rfl ?_
  refine xi_iload_n C.1 dL_refused_194 rfl 1 rfl ?_
  refine xi_iconst (v := nI 0) C.1 dL_refused_195 (by decide +kernel) ?_
  refine xi_iconst (v := nI 4294967295) C.1 dL_refused_196 (by decide +kernel) ?_
  refine xi_iload C.1 dL_refused_197 4 rfl ?_
  refine xi_isub C.1 dL_refused_199 ?_
  refine xb_top (b := nI 4294967294) (by decide +kernel) ?_
  refine ow_14 (a1 := p) (a2 := 0) (a3 := 4294967294) C J (rq_pas h (by decide +kernel)) dL_refused_200 (Nat.le_of_ble_eq_true rfl) ⟨Nat.zero_le _, Nat.zero_le _⟩ ?_ Dp Bt Sq se
  intro Dp Bt Sq se
  refine xi_bipush (v := nI 4294967294) C.1 dL_refused_203 (by decide +kernel) ?_
  refine xi_icmp_ne (tgt := 230) C.1 dL_refused_205 (by decide) (fun c => absurd c (by decide +kernel)) (fun _ => ?_)
  refine xi_aload_n C.1 dL_refused_208 rfl 0 rfl ?_
  refine xi_iload_n C.1 dL_refused_209 rfl 1 rfl ?_
  refine xi_iload C.1 dL_refused_210 4 rfl ?_
  refine xi_if_ne (tgt := 219) C.1 dL_refused_212 (by decide) (fun _ => ?_) (fun c => absurd c (by decide +kernel))
  refine xi_sipush (v := nI 256) C.1 dL_refused_219 (by decide +kernel) ?_
  refine ow_16 (a1 := p) (a2 := 256) (a3 := 0) C J (rq_an h (by decide +kernel)) dL_refused_222 (Nat.le_of_ble_eq_true rfl) ⟨Nat.zero_le _, Nat.zero_le _⟩ ?_ Dp Bt Sq se
  intro Dp Bt Sq se
  refine xi_bipush (v := nI 4294967294) C.1 dL_refused_225 (by decide +kernel) ?_
  refine xi_icmp_eq (tgt := 232) C.1 dL_refused_227 (by decide) (fun _ => ?_) (fun c => absurd (by decide +kernel) c)
  refine xj_iinc (v := nI 2) (lv2 := [(0, .ref (ad 0)), (1, .int (nI p)), (2, .long (sv m.1)), (4, .int m.2.2.2.2.1), (5, .int (nI 2))]) C.1 dL_refused_232 4 rfl (by decide +kernel) (by decide) [0, 1, 2, 3] [1, 2, 3, 4, 0] rfl ?_
  refine xi_goto (tgt := 16) C.1 dL_refused_235 (by decide) ?_
  refine xi_iload C.1 dL_refused_16 4 rfl ?_
  refine xi_iconst (v := nI 2) C.1 dL_refused_18 (by decide +kernel) ?_
  refine xi_icmp_ge (tgt := 238) C.1 dL_refused_19 (by decide) (fun _ => ?_) (fun c => absurd (by decide +kernel) c)
  exact xb_lv (tl Dp Bt Sq se) [0, 1, 2, 3] rfl
