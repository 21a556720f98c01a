/-! the law's own rules -/
def xb_X (X : xb_C) (b L : Nat) (xs : Nat → Int32) : Prop := match X with
  | (_, _, _, _, s, _, _, _, _, _, A, _, _, _) => va_X b L xs s s.heap ∧ b < s.heap.size ∧ ¬ A b
def xb_Law (X : xb_C) (b : Nat) : Prop := match X with
  | (_, _, _, R, s, _, args, below, _, _, A, Q, _, _) => R = room_1 ∧ args = #[Value.ref b] ∧ Q = lw_Z below #[Value.ref b] s ∧ A = (fun q : Nat => s.heap.size ≤ q)
section XL
variable {X : xb_C} {k n : Nat} {w : va_W} {lv : List (Nat × Value)} {pc : Nat} {st : List Value} {cc : ByteArray} {ws : List Cond} {own : String} {rm : Room} {rt : Option FieldType} {nL : Nat} {tys : List (ClassId × FieldType)} {D : va_G}
theorem xi_sld (C : xb_OK X cc ws own rm rt nL tys D) {b L : Nat} {xs : Nat → Int32} (hX : xb_X X b L xs) {i : Int32} (j : Nat) (hi : i = nI j) (hj : j < L) (hj2 : L < 2 ^ 31) (hd : decode cc pc = .ok (.iaload, 1)) (g : xb_G X k n w lv (pc + 1) (.int (xs j) :: st)) : xb_G X k n w lv pc (.int i :: .ref b :: st) := by
  subst hi
  obtain ⟨p, l, e, R, s, m, args, below, meth, c, A, Q, nL', D'⟩ := X
  obtain ⟨hx, hb, hr, hml, hown, hts, hlk, hK, hE, hA, rfl, rfl, rfl⟩ := C
  obtain ⟨h1, h2, h3⟩ := hX
  intro H locs ls hP hD hS hl
  refine va_sld hx hb h1 h2 h3 hS (vp_in_nI hj hj2) hd ?_
  rw [nI_clamp (Nat.lt_trans hj hj2)]
  exact g H locs ls hP hD hS hl
theorem xi_slen (C : xb_OK X cc ws own rm rt nL tys D) {b L : Nat} {xs : Nat → Int32} (hX : xb_X X b L xs) (hd : decode cc pc = .ok (.arraylength, 1)) (g : xb_G X k n w lv (pc + 1) (.int (nI L) :: st)) : xb_G X k n w lv pc (.ref b :: st) := by
  obtain ⟨p, l, e, R, s, m, args, below, meth, c, A, Q, nL', D'⟩ := X
  obtain ⟨hx, hb, hr, hml, hown, hts, hlk, hK, hE, hA, rfl, rfl, rfl⟩ := C
  obtain ⟨h1, h2, h3⟩ := hX
  intro H locs ls hP hD hS hl
  exact va_slen hx hb h1 h2 h3 hS hd (g H locs ls hP hD hS hl)
theorem xi_lawret (C : xb_OK X code ws own rm ret nL tys D) {b : Nat} (Z : xb_Law X b) (hk : k ≤ 600000) (hn : n ≤ 7302250) (hd : decode code pc = .ok (.ireturn, 1)) : xb_G X k n w lv pc [.int 1] := by
  obtain ⟨p, l, e, R, s, m, args, below, meth, c, A, Q, nL', D'⟩ := X
  obtain ⟨hx, hb, hr, hml, hown, hts, hlk, hK, hE, hA, hR, hn4, hD4⟩ := C
  obtain ⟨z1, z2, z3, z4⟩ := Z
  subst z1
  subst z2
  subst z3
  subst z4
  intro H locs ls hP hD hS hl
  exact va_forget hS.2.2 (W.widen hk hn (lw_ret hx hb hr hlk hd))
end XL
theorem W5_h0 {cI cC cR : ClassId} {ad : Nat → Nat} {ha : Nat → Nat → Nat} {hs : Int32} {b t s : xBd} {hn : Int32} {pm : Nat → Nat} {hb : Nat → xBd} {K Dp Bt Sq : Nat → Int32} {se : Int32} {Sg : Nat → Int32} {ln at_ : Int32} {B : va_W} : (W5 cI cC cR ad ha hs b t s hn pm hb K Dp Bt Sq se Sg ln at_ ++ B)[0]? = some (ad 0, .inr (5, [.ref (ad 1), .ref (ad 7), .ref (ad 13), .ref (ad 19), .ref (ad 21), .ref (ad 23), .ref (ad 27), .int hs])) := (List.getElem?_append_left (by rw [W5_len]; omega)).trans W5_0
theorem W6_h {cI cC cZ : ClassId} {o0 : Nat} {ma : Nat → Nat} {st ik le sp nu : Int32} {now thn pst snp txt hld far don tld dep bit : Nat → Int32} {A : va_W} (h : A.length = 53) : (A ++ W6 cI cC cZ o0 ma st ik le sp nu now thn pst snp txt hld far don tld dep bit)[53]? = some (o0, .inr (6, [.ref (ma 0), .ref (ma 1), .ref (ma 2), .int st, .ref (ma 3), .int ik, .ref (ma 4), .int le, .ref (ma 5), .ref (ma 6), .ref (ma 7), .int sp, .ref (ma 8), .int nu, .ref (ma 9), .ref (ma 10)])) := by
  rw [List.getElem?_append_right (by omega), h]
  exact W6_0
/-- at this pc, whatever both hold in common, the law goes on -/
def lwC (X : xb_C) (cI cC cZ cR : ClassId) (ad : Nat → Nat) (ha : Nat → Nat → Nat) (o0 : Nat) (ma : Nat → Nat) (lv : List (Nat × Value)) (pc : Nat) : Prop := ∀ (hs : Int32) (b : xBd) (t : xBd) (s : xBd) (hn : Int32) (pm : Nat → Nat) (hb : Nat → xBd) (K : Nat → Int32) (Dp : Nat → Int32) (Bt : Nat → Int32) (Sq : Nat → Int32) (se : Int32) (Sg : Nat → Int32) (ln : Int32) (at_ : Int32) (st : Int32) (ik : Int32) (le : Int32) (sp : Int32) (nu : Int32) (now : Nat → Int32) (thn : Nat → Int32) (pst : Nat → Int32) (snp : Nat → Int32) (txt : Nat → Int32) (hld : Nat → Int32) (far : Nat → Int32) (don : Nat → Int32) (tld : Nat → Int32) (dep : Nat → Int32) (bit : Nat → Int32), RR b s hs hn pm hb Sg ln st ik le now pst snp txt → xb_G X 65 27525 ((W5 cI cC cR ad ha hs b t s hn pm hb K Dp Bt Sq se Sg ln at_) ++ (W6 cI cC cZ o0 ma st ik le sp nu now thn pst snp txt hld far don tld dep bit)) lv pc []
set_option maxHeartbeats 4000000 in
set_option maxRecDepth 100000 in
theorem arm_put {X : xb_C} {D : va_G} {cI cC cZ cR : ClassId} {ad : Nat → Nat} {ha : Nat → Nat → Nat} {o0 : Nat} {ma : Nat → Nat} {sc L i : Nat} {xs : Nat → Int32} (C : xb_OK X cL_law wsL_law RL room_1 ret 4 (xb_ty cI cC cZ cR) D) (hX : xb_X X sc L xs) (hi : i + 4 ≤ L) (hL : L ≤ 2048) (G : lwC X cI cC cZ cR ad ha o0 ma [(0, .ref sc), (1, .ref (ad 0)), (2, .ref o0), (3, .int (nI i))] 704) : lwC X cI cC cZ cR ad ha o0 ma [(0, .ref sc), (1, .ref (ad 0)), (2, .ref o0), (3, .int (nI i))] 136 := by
  intro hs b t s hn pm hb K Dp Bt Sq se Sg ln at_ st ik le sp nu now thn pst snp txt hld far don tld dep bit R
  obtain ⟨v, b', hn', pm', hb', st', now', pst', e5, e6, R'⟩ := o_put R (xs (i + 1)) (xs (i + 2))
  refine xi_aload_n C dL_law_136 rfl 1 rfl ?_
  refine xi_aload_n C dL_law_137 rfl 0 rfl ?_
  refine xi_iload_n C dL_law_138 rfl 3 rfl ?_
  refine xi_iconst (v := nI 1) C dL_law_139 (by decide +kernel) ?_
  refine xi_iadd C dL_law_140 ?_
  refine xi_sld C hX (i + 1) (nI_add i 1) (by omega) (by omega) dL_law_141 ?_
  refine xi_aload_n C dL_law_142 rfl 0 rfl ?_
  refine xi_iload_n C dL_law_143 rfl 3 rfl ?_
  refine xi_iconst (v := nI 2) C dL_law_144 (by decide +kernel) ?_
  refine xi_iadd C dL_law_145 ?_
  refine xi_sld C hX (i + 2) (nI_add i 2) (by omega) (by omega) dL_law_146 ?_
  refine xi_callV (As := [.int (xs (i + 1)), .int (xs (i + 2))]) (o := some (.int v)) (rest := []) (wc := (W5 cI cC cR ad ha hs b t s hn pm hb K Dp Bt Sq se Sg ln at_)) (w1 := (W5 cI cC cR ad ha hs b' t s hn' pm' hb' K Dp Bt Sq se Sg ln at_)) (w2 := (W5 cI cC cR ad ha hs b' t s hn' pm' hb' K Dp Bt Sq se Sg ln at_) ++ (W6 cI cC cZ o0 ma st ik le sp nu now thn pst snp txt hld far don tld dep bit)) (st2 := [.int v]) C k_X5_put (m_X5_put D cI cC cZ cR ad ha hs b t s hn pm hb K Dp Bt Sq se Sg ln at_ (xs (i + 1)) (xs (i + 2)) v b' hn' pm' hb' e5) gL_law_X5_put dL_law_147 ⟨Nat.le_of_ble_eq_true rfl, Nat.le_of_ble_eq_true rfl, Nat.le_of_ble_eq_true rfl⟩ 0 W5_h0 rfl (List.range 53) (xb_rgP _ _ 53 W5_len) (xb_nd_of _ List.nodup_range) [0, 1, 2, 3] rfl (W5_fst.trans W5_fst.symm) (xb_mixP 53 W5_len W5_len) rfl (Nat.le_of_ble_eq_true rfl) ⟨Nat.le_of_ble_eq_true rfl, Nat.le_of_ble_eq_true rfl⟩ rfl ?_
  refine xi_aload_n C dL_law_150 rfl 2 rfl ?_
  refine xi_aload_n C dL_law_151 rfl 0 rfl ?_
  refine xi_iload_n C dL_law_152 rfl 3 rfl ?_
  refine xi_iconst (v := nI 1) C dL_law_153 (by decide +kernel) ?_
  refine xi_iadd C dL_law_154 ?_
  refine xi_sld C hX (i + 1) (nI_add i 1) (by omega) (by omega) dL_law_155 ?_
  refine xi_aload_n C dL_law_156 rfl 0 rfl ?_
  refine xi_iload_n C dL_law_157 rfl 3 rfl ?_
  refine xi_iconst (v := nI 2) C dL_law_158 (by decide +kernel) ?_
  refine xi_iadd C dL_law_159 ?_
  refine xi_sld C hX (i + 2) (nI_add i 2) (by omega) (by omega) dL_law_160 ?_
  refine xi_callV (As := [.int (xs (i + 1)), .int (xs (i + 2))]) (o := some (.int v)) (rest := [.int v]) (wc := (W6 cI cC cZ o0 ma st ik le sp nu now thn pst snp txt hld far don tld dep bit)) (w1 := (W6 cI cC cZ o0 ma st' ik le sp nu now' thn pst' snp txt hld far don tld dep bit)) (w2 := (W5 cI cC cR ad ha hs b' t s hn' pm' hb' K Dp Bt Sq se Sg ln at_) ++ (W6 cI cC cZ o0 ma st' ik le sp nu now' thn pst' snp txt hld far don tld dep bit)) (st2 := [.int v, .int v]) C k_X6_put (m_X6_put D cI cC cZ cR o0 ma st ik le sp nu now thn pst snp txt hld far don tld dep bit (xs (i + 1)) (xs (i + 2)) v st' now' pst' e6) gL_law_X6_put dL_law_161 ⟨Nat.le_of_ble_eq_true rfl, Nat.le_of_ble_eq_true rfl, Nat.le_of_ble_eq_true rfl⟩ 53 (W6_h W5_len) rfl (List.range' 53 12) (xb_rgS _ _ 53 12 W5_len W6_len) (xb_nd_of _ List.nodup_range') [0, 1, 2, 3] rfl (W6_fst.trans W6_fst.symm) (xb_mixS 53 12 W5_len W6_len W6_len) rfl (Nat.le_of_ble_eq_true rfl) ⟨Nat.le_of_ble_eq_true rfl, Nat.le_of_ble_eq_true rfl⟩ rfl ?_
  exact xi_icmp_eq (tgt := 704) C dL_law_164 (by decide) (fun _ => G hs b' t s hn' pm' hb' K Dp Bt Sq se Sg ln at_ st' ik le sp nu now' thn pst' snp txt hld far don tld dep bit R') (fun c => absurd rfl c)
set_option maxHeartbeats 4000000 in
set_option maxRecDepth 100000 in
theorem arm_take {X : xb_C} {D : va_G} {cI cC cZ cR : ClassId} {ad : Nat → Nat} {ha : Nat → Nat → Nat} {o0 : Nat} {ma : Nat → Nat} {sc L i : Nat} {xs : Nat → Int32} (C : xb_OK X cL_law wsL_law RL room_1 ret 4 (xb_ty cI cC cZ cR) D) (hX : xb_X X sc L xs) (hi : i + 4 ≤ L) (hL : L ≤ 2048) (G : lwC X cI cC cZ cR ad ha o0 ma [(0, .ref sc), (1, .ref (ad 0)), (2, .ref o0), (3, .int (nI i))] 704) : lwC X cI cC cZ cR ad ha o0 ma [(0, .ref sc), (1, .ref (ad 0)), (2, .ref o0), (3, .int (nI i))] 169 := by
  intro hs b t s hn pm hb K Dp Bt Sq se Sg ln at_ st ik le sp nu now thn pst snp txt hld far don tld dep bit R
  obtain ⟨v, b', hn', pm', hb', st', now', pst', e5, e6, R'⟩ := o_take R (xs (i + 1))
  refine xi_aload_n C dL_law_169 rfl 1 rfl ?_
  refine xi_aload_n C dL_law_170 rfl 0 rfl ?_
  refine xi_iload_n C dL_law_171 rfl 3 rfl ?_
  refine xi_iconst (v := nI 1) C dL_law_172 (by decide +kernel) ?_
  refine xi_iadd C dL_law_173 ?_
  refine xi_sld C hX (i + 1) (nI_add i 1) (by omega) (by omega) dL_law_174 ?_
  refine xi_callV (As := [.int (xs (i + 1))]) (o := some (.int v)) (rest := []) (wc := (W5 cI cC cR ad ha hs b t s hn pm hb K Dp Bt Sq se Sg ln at_)) (w1 := (W5 cI cC cR ad ha hs b' t s hn' pm' hb' K Dp Bt Sq se Sg ln at_)) (w2 := (W5 cI cC cR ad ha hs b' t s hn' pm' hb' K Dp Bt Sq se Sg ln at_) ++ (W6 cI cC cZ o0 ma st ik le sp nu now thn pst snp txt hld far don tld dep bit)) (st2 := [.int v]) C k_X5_take (m_X5_take D cI cC cZ cR ad ha hs b t s hn pm hb K Dp Bt Sq se Sg ln at_ (xs (i + 1)) v b' hn' pm' hb' e5) gL_law_X5_take dL_law_175 ⟨Nat.le_of_ble_eq_true rfl, Nat.le_of_ble_eq_true rfl, Nat.le_of_ble_eq_true rfl⟩ 0 W5_h0 rfl (List.range 53) (xb_rgP _ _ 53 W5_len) (xb_nd_of _ List.nodup_range) [0, 1, 2, 3] rfl (W5_fst.trans W5_fst.symm) (xb_mixP 53 W5_len W5_len) rfl (Nat.le_of_ble_eq_true rfl) ⟨Nat.le_of_ble_eq_true rfl, Nat.le_of_ble_eq_true rfl⟩ rfl ?_
  refine xi_aload_n C dL_law_178 rfl 2 rfl ?_
  refine xi_aload_n C dL_law_179 rfl 0 rfl ?_
  refine xi_iload_n C dL_law_180 rfl 3 rfl ?_
  refine xi_iconst (v := nI 1) C dL_law_181 (by decide +kernel) ?_
  refine xi_iadd C dL_law_182 ?_
  refine xi_sld C hX (i + 1) (nI_add i 1) (by omega) (by omega) dL_law_183 ?_
  refine xi_callV (As := [.int (xs (i + 1))]) (o := some (.int v)) (rest := [.int v]) (wc := (W6 cI cC cZ o0 ma st ik le sp nu now thn pst snp txt hld far don tld dep bit)) (w1 := (W6 cI cC cZ o0 ma st' ik le sp nu now' thn pst' snp txt hld far don tld dep bit)) (w2 := (W5 cI cC cR ad ha hs b' t s hn' pm' hb' K Dp Bt Sq se Sg ln at_) ++ (W6 cI cC cZ o0 ma st' ik le sp nu now' thn pst' snp txt hld far don tld dep bit)) (st2 := [.int v, .int v]) C k_X6_take (m_X6_take D cI cC cZ cR o0 ma st ik le sp nu now thn pst snp txt hld far don tld dep bit (xs (i + 1)) v st' now' pst' e6) gL_law_X6_take dL_law_184 ⟨Nat.le_of_ble_eq_true rfl, Nat.le_of_ble_eq_true rfl, Nat.le_of_ble_eq_true rfl⟩ 53 (W6_h W5_len) rfl (List.range' 53 12) (xb_rgS _ _ 53 12 W5_len W6_len) (xb_nd_of _ List.nodup_range') [0, 1, 2, 3] rfl (W6_fst.trans W6_fst.symm) (xb_mixS 53 12 W5_len W6_len W6_len) rfl (Nat.le_of_ble_eq_true rfl) ⟨Nat.le_of_ble_eq_true rfl, Nat.le_of_ble_eq_true rfl⟩ rfl ?_
  exact xi_icmp_eq (tgt := 704) C dL_law_187 (by decide) (fun _ => G hs b' t s hn' pm' hb' K Dp Bt Sq se Sg ln at_ st' ik le sp nu now' thn pst' snp txt hld far don tld dep bit R') (fun c => absurd rfl c)
set_option maxHeartbeats 4000000 in
set_option maxRecDepth 100000 in
theorem arm_setTable {X : xb_C} {D : va_G} {cI cC cZ cR : ClassId} {ad : Nat → Nat} {ha : Nat → Nat → Nat} {o0 : Nat} {ma : Nat → Nat} {sc L i : Nat} {xs : Nat → Int32} (C : xb_OK X cL_law wsL_law RL room_1 ret 4 (xb_ty cI cC cZ cR) D) (hX : xb_X X sc L xs) (hi : i + 4 ≤ L) (hL : L ≤ 2048) (G : lwC X cI cC cZ cR ad ha o0 ma [(0, .ref sc), (1, .ref (ad 0)), (2, .ref o0), (3, .int (nI i))] 704) : lwC X cI cC cZ cR ad ha o0 ma [(0, .ref sc), (1, .ref (ad 0)), (2, .ref o0), (3, .int (nI i))] 192 := by
  intro hs b t s hn pm hb K Dp Bt Sq se Sg ln at_ st ik le sp nu now thn pst snp txt hld far don tld dep bit R
  obtain ⟨v, b', hn', pm', hb', st', now', pst', e5, e6, R'⟩ := o_setTable R (xs (i + 1)) (xs (i + 2))
  refine xi_aload_n C dL_law_192 rfl 1 rfl ?_
  refine xi_aload_n C dL_law_193 rfl 0 rfl ?_
  refine xi_iload_n C dL_law_194 rfl 3 rfl ?_
  refine xi_iconst (v := nI 1) C dL_law_195 (by decide +kernel) ?_
  refine xi_iadd C dL_law_196 ?_
  refine xi_sld C hX (i + 1) (nI_add i 1) (by omega) (by omega) dL_law_197 ?_
  refine xi_aload_n C dL_law_198 rfl 0 rfl ?_
  refine xi_iload_n C dL_law_199 rfl 3 rfl ?_
  refine xi_iconst (v := nI 2) C dL_law_200 (by decide +kernel) ?_
  refine xi_iadd C dL_law_201 ?_
  refine xi_sld C hX (i + 2) (nI_add i 2) (by omega) (by omega) dL_law_202 ?_
  refine xi_callV (As := [.int (xs (i + 1)), .int (xs (i + 2))]) (o := some (.int v)) (rest := []) (wc := (W5 cI cC cR ad ha hs b t s hn pm hb K Dp Bt Sq se Sg ln at_)) (w1 := (W5 cI cC cR ad ha hs b' t s hn' pm' hb' K Dp Bt Sq se Sg ln at_)) (w2 := (W5 cI cC cR ad ha hs b' t s hn' pm' hb' K Dp Bt Sq se Sg ln at_) ++ (W6 cI cC cZ o0 ma st ik le sp nu now thn pst snp txt hld far don tld dep bit)) (st2 := [.int v]) C k_X5_setTable (m_X5_setTable D cI cC cZ cR ad ha hs b t s hn pm hb K Dp Bt Sq se Sg ln at_ (xs (i + 1)) (xs (i + 2)) v b' hn' pm' hb' e5) gL_law_X5_setTable dL_law_203 ⟨Nat.le_of_ble_eq_true rfl, Nat.le_of_ble_eq_true rfl, Nat.le_of_ble_eq_true rfl⟩ 0 W5_h0 rfl (List.range 53) (xb_rgP _ _ 53 W5_len) (xb_nd_of _ List.nodup_range) [0, 1, 2, 3] rfl (W5_fst.trans W5_fst.symm) (xb_mixP 53 W5_len W5_len) rfl (Nat.le_of_ble_eq_true rfl) ⟨Nat.le_of_ble_eq_true rfl, Nat.le_of_ble_eq_true rfl⟩ rfl ?_
  refine xi_aload_n C dL_law_206 rfl 2 rfl ?_
  refine xi_aload_n C dL_law_207 rfl 0 rfl ?_
  refine xi_iload_n C dL_law_208 rfl 3 rfl ?_
  refine xi_iconst (v := nI 1) C dL_law_209 (by decide +kernel) ?_
  refine xi_iadd C dL_law_210 ?_
  refine xi_sld C hX (i + 1) (nI_add i 1) (by omega) (by omega) dL_law_211 ?_
  refine xi_aload_n C dL_law_212 rfl 0 rfl ?_
  refine xi_iload_n C dL_law_213 rfl 3 rfl ?_
  refine xi_iconst (v := nI 2) C dL_law_214 (by decide +kernel) ?_
  refine xi_iadd C dL_law_215 ?_
  refine xi_sld C hX (i + 2) (nI_add i 2) (by omega) (by omega) dL_law_216 ?_
  refine xi_callV (As := [.int (xs (i + 1)), .int (xs (i + 2))]) (o := some (.int v)) (rest := [.int v]) (wc := (W6 cI cC cZ o0 ma st ik le sp nu now thn pst snp txt hld far don tld dep bit)) (w1 := (W6 cI cC cZ o0 ma st' ik le sp nu now' thn pst' snp txt hld far don tld dep bit)) (w2 := (W5 cI cC cR ad ha hs b' t s hn' pm' hb' K Dp Bt Sq se Sg ln at_) ++ (W6 cI cC cZ o0 ma st' ik le sp nu now' thn pst' snp txt hld far don tld dep bit)) (st2 := [.int v, .int v]) C k_X6_setTable (m_X6_setTable D cI cC cZ cR o0 ma st ik le sp nu now thn pst snp txt hld far don tld dep bit (xs (i + 1)) (xs (i + 2)) v st' now' pst' e6) gL_law_X6_setTable dL_law_217 ⟨Nat.le_of_ble_eq_true rfl, Nat.le_of_ble_eq_true rfl, Nat.le_of_ble_eq_true rfl⟩ 53 (W6_h W5_len) rfl (List.range' 53 12) (xb_rgS _ _ 53 12 W5_len W6_len) (xb_nd_of _ List.nodup_range') [0, 1, 2, 3] rfl (W6_fst.trans W6_fst.symm) (xb_mixS 53 12 W5_len W6_len W6_len) rfl (Nat.le_of_ble_eq_true rfl) ⟨Nat.le_of_ble_eq_true rfl, Nat.le_of_ble_eq_true rfl⟩ rfl ?_
  exact xi_icmp_eq (tgt := 704) C dL_law_220 (by decide) (fun _ => G hs b' t s hn' pm' hb' K Dp Bt Sq se Sg ln at_ st' ik le sp nu now' thn pst' snp txt hld far don tld dep bit R') (fun c => absurd rfl c)
set_option maxHeartbeats 4000000 in
set_option maxRecDepth 100000 in
theorem arm_connect {X : xb_C} {D : va_G} {cI cC cZ cR : ClassId} {ad : Nat → Nat} {ha : Nat → Nat → Nat} {o0 : Nat} {ma : Nat → Nat} {sc L i : Nat} {xs : Nat → Int32} (C : xb_OK X cL_law wsL_law RL room_1 ret 4 (xb_ty cI cC cZ cR) D) (hX : xb_X X sc L xs) (hi : i + 4 ≤ L) (hL : L ≤ 2048) (G : lwC X cI cC cZ cR ad ha o0 ma [(0, .ref sc), (1, .ref (ad 0)), (2, .ref o0), (3, .int (nI i))] 704) : lwC X cI cC cZ cR ad ha o0 ma [(0, .ref sc), (1, .ref (ad 0)), (2, .ref o0), (3, .int (nI i))] 225 := by
  intro hs b t s hn pm hb K Dp Bt Sq se Sg ln at_ st ik le sp nu now thn pst snp txt hld far don tld dep bit R
  obtain ⟨v, b', t', hn', pm', hb', K', st', now', thn', pst', hld', far', e5, e6, R'⟩ := o_connect R t K thn hld far (xs (i + 1)) (xs (i + 2)) (xs (i + 3))
  refine xi_aload_n C dL_law_225 rfl 1 rfl ?_
  refine xi_aload_n C dL_law_226 rfl 0 rfl ?_
  refine xi_iload_n C dL_law_227 rfl 3 rfl ?_
  refine xi_iconst (v := nI 1) C dL_law_228 (by decide +kernel) ?_
  refine xi_iadd C dL_law_229 ?_
  refine xi_sld C hX (i + 1) (nI_add i 1) (by omega) (by omega) dL_law_230 ?_
  refine xi_aload_n C dL_law_231 rfl 0 rfl ?_
  refine xi_iload_n C dL_law_232 rfl 3 rfl ?_
  refine xi_iconst (v := nI 2) C dL_law_233 (by decide +kernel) ?_
  refine xi_iadd C dL_law_234 ?_
  refine xi_sld C hX (i + 2) (nI_add i 2) (by omega) (by omega) dL_law_235 ?_
  refine xi_aload_n C dL_law_236 rfl 0 rfl ?_
  refine xi_iload_n C dL_law_237 rfl 3 rfl ?_
  refine xi_iconst (v := nI 3) C dL_law_238 (by decide +kernel) ?_
  refine xi_iadd C dL_law_239 ?_
  refine xi_sld C hX (i + 3) (nI_add i 3) (by omega) (by omega) dL_law_240 ?_
  refine xi_callV (As := [.int (xs (i + 1)), .int (xs (i + 2)), .int (xs (i + 3))]) (o := some (.int v)) (rest := []) (wc := (W5 cI cC cR ad ha hs b t s hn pm hb K Dp Bt Sq se Sg ln at_)) (w1 := (W5 cI cC cR ad ha hs b' t' s hn' pm' hb' K' Dp Bt Sq se Sg ln at_)) (w2 := (W5 cI cC cR ad ha hs b' t' s hn' pm' hb' K' Dp Bt Sq se Sg ln at_) ++ (W6 cI cC cZ o0 ma st ik le sp nu now thn pst snp txt hld far don tld dep bit)) (st2 := [.int v]) C k_X5_connect (m_X5_connect D cI cC cZ cR ad ha hs b t s hn pm hb K Dp Bt Sq se Sg ln at_ (xs (i + 1)) (xs (i + 2)) (xs (i + 3)) v b' t' hn' pm' hb' K' e5) gL_law_X5_connect dL_law_241 ⟨Nat.le_of_ble_eq_true rfl, Nat.le_of_ble_eq_true rfl, Nat.le_of_ble_eq_true rfl⟩ 0 W5_h0 rfl (List.range 53) (xb_rgP _ _ 53 W5_len) (xb_nd_of _ List.nodup_range) [0, 1, 2, 3] rfl (W5_fst.trans W5_fst.symm) (xb_mixP 53 W5_len W5_len) rfl (Nat.le_of_ble_eq_true rfl) ⟨Nat.le_of_ble_eq_true rfl, Nat.le_of_ble_eq_true rfl⟩ rfl ?_
  refine xi_aload_n C dL_law_244 rfl 2 rfl ?_
  refine xi_aload_n C dL_law_245 rfl 0 rfl ?_
  refine xi_iload_n C dL_law_246 rfl 3 rfl ?_
  refine xi_iconst (v := nI 1) C dL_law_247 (by decide +kernel) ?_
  refine xi_iadd C dL_law_248 ?_
  refine xi_sld C hX (i + 1) (nI_add i 1) (by omega) (by omega) dL_law_249 ?_
  refine xi_aload_n C dL_law_250 rfl 0 rfl ?_
  refine xi_iload_n C dL_law_251 rfl 3 rfl ?_
  refine xi_iconst (v := nI 2) C dL_law_252 (by decide +kernel) ?_
  refine xi_iadd C dL_law_253 ?_
  refine xi_sld C hX (i + 2) (nI_add i 2) (by omega) (by omega) dL_law_254 ?_
  refine xi_aload_n C dL_law_255 rfl 0 rfl ?_
  refine xi_iload_n C dL_law_256 rfl 3 rfl ?_
  refine xi_iconst (v := nI 3) C dL_law_257 (by decide +kernel) ?_
  refine xi_iadd C dL_law_258 ?_
  refine xi_sld C hX (i + 3) (nI_add i 3) (by omega) (by omega) dL_law_259 ?_
  refine xi_callV (As := [.int (xs (i + 1)), .int (xs (i + 2)), .int (xs (i + 3))]) (o := some (.int v)) (rest := [.int v]) (wc := (W6 cI cC cZ o0 ma st ik le sp nu now thn pst snp txt hld far don tld dep bit)) (w1 := (W6 cI cC cZ o0 ma st' ik le sp nu now' thn' pst' snp txt hld' far' don tld dep bit)) (w2 := (W5 cI cC cR ad ha hs b' t' s hn' pm' hb' K' Dp Bt Sq se Sg ln at_) ++ (W6 cI cC cZ o0 ma st' ik le sp nu now' thn' pst' snp txt hld' far' don tld dep bit)) (st2 := [.int v, .int v]) C k_X6_connect (m_X6_connect D cI cC cZ cR o0 ma st ik le sp nu now thn pst snp txt hld far don tld dep bit (xs (i + 1)) (xs (i + 2)) (xs (i + 3)) v st' now' thn' pst' hld' far' e6) gL_law_X6_connect dL_law_260 ⟨Nat.le_of_ble_eq_true rfl, Nat.le_of_ble_eq_true rfl, Nat.le_of_ble_eq_true rfl⟩ 53 (W6_h W5_len) rfl (List.range' 53 12) (xb_rgS _ _ 53 12 W5_len W6_len) (xb_nd_of _ List.nodup_range') [0, 1, 2, 3] rfl (W6_fst.trans W6_fst.symm) (xb_mixS 53 12 W5_len W6_len W6_len) rfl (Nat.le_of_ble_eq_true rfl) ⟨Nat.le_of_ble_eq_true rfl, Nat.le_of_ble_eq_true rfl⟩ rfl ?_
  exact xi_icmp_eq (tgt := 704) C dL_law_263 (by decide) (fun _ => G hs b' t' s hn' pm' hb' K' Dp Bt Sq se Sg ln at_ st' ik le sp nu now' thn' pst' snp txt hld' far' don tld dep bit R') (fun c => absurd rfl c)
set_option maxHeartbeats 4000000 in
set_option maxRecDepth 100000 in
theorem arm_swap {X : xb_C} {D : va_G} {cI cC cZ cR : ClassId} {ad : Nat → Nat} {ha : Nat → Nat → Nat} {o0 : Nat} {ma : Nat → Nat} {sc L i : Nat} {xs : Nat → Int32} (C : xb_OK X cL_law wsL_law RL room_1 ret 4 (xb_ty cI cC cZ cR) D) (hX : xb_X X sc L xs) (hi : i + 4 ≤ L) (hL : L ≤ 2048) (G : lwC X cI cC cZ cR ad ha o0 ma [(0, .ref sc), (1, .ref (ad 0)), (2, .ref o0), (3, .int (nI i))] 704) : lwC X cI cC cZ cR ad ha o0 ma [(0, .ref sc), (1, .ref (ad 0)), (2, .ref o0), (3, .int (nI i))] 268 := by
  intro hs b t s hn pm hb K Dp Bt Sq se Sg ln at_ st ik le sp nu now thn pst snp txt hld far don tld dep bit R
  obtain ⟨v, b', t', hn', pm', hb', K', st', now', thn', pst', hld', far', don', e5, e6, R'⟩ := o_swap R t K thn hld far don (xs (i + 1)) (xs (i + 2))
  refine xi_aload_n C dL_law_268 rfl 1 rfl ?_
  refine xi_aload_n C dL_law_269 rfl 0 rfl ?_
  refine xi_iload_n C dL_law_270 rfl 3 rfl ?_
  refine xi_iconst (v := nI 1) C dL_law_271 (by decide +kernel) ?_
  refine xi_iadd C dL_law_272 ?_
  refine xi_sld C hX (i + 1) (nI_add i 1) (by omega) (by omega) dL_law_273 ?_
  refine xi_aload_n C dL_law_274 rfl 0 rfl ?_
  refine xi_iload_n C dL_law_275 rfl 3 rfl ?_
  refine xi_iconst (v := nI 2) C dL_law_276 (by decide +kernel) ?_
  refine xi_iadd C dL_law_277 ?_
  refine xi_sld C hX (i + 2) (nI_add i 2) (by omega) (by omega) dL_law_278 ?_
  refine xi_callV (As := [.int (xs (i + 1)), .int (xs (i + 2))]) (o := some (.int v)) (rest := []) (wc := (W5 cI cC cR ad ha hs b t s hn pm hb K Dp Bt Sq se Sg ln at_)) (w1 := (W5 cI cC cR ad ha hs b' t' s hn' pm' hb' K' Dp Bt Sq se Sg ln at_)) (w2 := (W5 cI cC cR ad ha hs b' t' s hn' pm' hb' K' Dp Bt Sq se Sg ln at_) ++ (W6 cI cC cZ o0 ma st ik le sp nu now thn pst snp txt hld far don tld dep bit)) (st2 := [.int v]) C k_X5_swap (m_X5_swap D cI cC cZ cR ad ha hs b t s hn pm hb K Dp Bt Sq se Sg ln at_ (xs (i + 1)) (xs (i + 2)) v b' t' hn' pm' hb' K' e5) gL_law_X5_swap dL_law_279 ⟨Nat.le_of_ble_eq_true rfl, Nat.le_of_ble_eq_true rfl, Nat.le_of_ble_eq_true rfl⟩ 0 W5_h0 rfl (List.range 53) (xb_rgP _ _ 53 W5_len) (xb_nd_of _ List.nodup_range) [0, 1, 2, 3] rfl (W5_fst.trans W5_fst.symm) (xb_mixP 53 W5_len W5_len) rfl (Nat.le_of_ble_eq_true rfl) ⟨Nat.le_of_ble_eq_true rfl, Nat.le_of_ble_eq_true rfl⟩ rfl ?_
  refine xi_aload_n C dL_law_282 rfl 2 rfl ?_
  refine xi_aload_n C dL_law_283 rfl 0 rfl ?_
  refine xi_iload_n C dL_law_284 rfl 3 rfl ?_
  refine xi_iconst (v := nI 1) C dL_law_285 (by decide +kernel) ?_
  refine xi_iadd C dL_law_286 ?_
  refine xi_sld C hX (i + 1) (nI_add i 1) (by omega) (by omega) dL_law_287 ?_
  refine xi_aload_n C dL_law_288 rfl 0 rfl ?_
  refine xi_iload_n C dL_law_289 rfl 3 rfl ?_
  refine xi_iconst (v := nI 2) C dL_law_290 (by decide +kernel) ?_
  refine xi_iadd C dL_law_291 ?_
  refine xi_sld C hX (i + 2) (nI_add i 2) (by omega) (by omega) dL_law_292 ?_
  refine xi_callV (As := [.int (xs (i + 1)), .int (xs (i + 2))]) (o := some (.int v)) (rest := [.int v]) (wc := (W6 cI cC cZ o0 ma st ik le sp nu now thn pst snp txt hld far don tld dep bit)) (w1 := (W6 cI cC cZ o0 ma st' ik le sp nu now' thn' pst' snp txt hld' far' don' tld dep bit)) (w2 := (W5 cI cC cR ad ha hs b' t' s hn' pm' hb' K' Dp Bt Sq se Sg ln at_) ++ (W6 cI cC cZ o0 ma st' ik le sp nu now' thn' pst' snp txt hld' far' don' tld dep bit)) (st2 := [.int v, .int v]) C k_X6_swap (m_X6_swap D cI cC cZ cR o0 ma st ik le sp nu now thn pst snp txt hld far don tld dep bit (xs (i + 1)) (xs (i + 2)) v st' now' thn' pst' hld' far' don' e6) gL_law_X6_swap dL_law_293 ⟨Nat.le_of_ble_eq_true rfl, Nat.le_of_ble_eq_true rfl, Nat.le_of_ble_eq_true rfl⟩ 53 (W6_h W5_len) rfl (List.range' 53 12) (xb_rgS _ _ 53 12 W5_len W6_len) (xb_nd_of _ List.nodup_range') [0, 1, 2, 3] rfl (W6_fst.trans W6_fst.symm) (xb_mixS 53 12 W5_len W6_len W6_len) rfl (Nat.le_of_ble_eq_true rfl) ⟨Nat.le_of_ble_eq_true rfl, Nat.le_of_ble_eq_true rfl⟩ rfl ?_
  exact xi_icmp_eq (tgt := 704) C dL_law_296 (by decide) (fun _ => G hs b' t' s hn' pm' hb' K' Dp Bt Sq se Sg ln at_ st' ik le sp nu now' thn' pst' snp txt hld' far' don' tld dep bit R') (fun c => absurd rfl c)
set_option maxHeartbeats 4000000 in
set_option maxRecDepth 100000 in
theorem arm_layAnew {X : xb_C} {D : va_G} {cI cC cZ cR : ClassId} {ad : Nat → Nat} {ha : Nat → Nat → Nat} {o0 : Nat} {ma : Nat → Nat} {sc L i : Nat} {xs : Nat → Int32} (C : xb_OK X cL_law wsL_law RL room_1 ret 4 (xb_ty cI cC cZ cR) D) (hX : xb_X X sc L xs) (hi : i + 4 ≤ L) (hL : L ≤ 2048) (G : lwC X cI cC cZ cR ad ha o0 ma [(0, .ref sc), (1, .ref (ad 0)), (2, .ref o0), (3, .int (nI i))] 704) : lwC X cI cC cZ cR ad ha o0 ma [(0, .ref sc), (1, .ref (ad 0)), (2, .ref o0), (3, .int (nI i))] 301 := by
  intro hs b t s hn pm hb K Dp Bt Sq se Sg ln at_ st ik le sp nu now thn pst snp txt hld far don tld dep bit R
  obtain ⟨v, b', t', hn', pm', hb', K', st', now', thn', pst', hld', far', don', e5, e6, R'⟩ := o_layAnew R t K thn hld far don (xs (i + 1))
  refine xi_aload_n C dL_law_301 rfl 1 rfl ?_
  refine xi_aload_n C dL_law_302 rfl 0 rfl ?_
  refine xi_iload_n C dL_law_303 rfl 3 rfl ?_
  refine xi_iconst (v := nI 1) C dL_law_304 (by decide +kernel) ?_
  refine xi_iadd C dL_law_305 ?_
  refine xi_sld C hX (i + 1) (nI_add i 1) (by omega) (by omega) dL_law_306 ?_
  refine xi_callV (As := [.int (xs (i + 1))]) (o := some (.int v)) (rest := []) (wc := (W5 cI cC cR ad ha hs b t s hn pm hb K Dp Bt Sq se Sg ln at_)) (w1 := (W5 cI cC cR ad ha hs b' t' s hn' pm' hb' K' Dp Bt Sq se Sg ln at_)) (w2 := (W5 cI cC cR ad ha hs b' t' s hn' pm' hb' K' Dp Bt Sq se Sg ln at_) ++ (W6 cI cC cZ o0 ma st ik le sp nu now thn pst snp txt hld far don tld dep bit)) (st2 := [.int v]) C k_X5_layAnew (m_X5_layAnew D cI cC cZ cR ad ha hs b t s hn pm hb K Dp Bt Sq se Sg ln at_ (xs (i + 1)) v b' t' hn' pm' hb' K' e5) gL_law_X5_layAnew dL_law_307 ⟨Nat.le_of_ble_eq_true rfl, Nat.le_of_ble_eq_true rfl, Nat.le_of_ble_eq_true rfl⟩ 0 W5_h0 rfl (List.range 53) (xb_rgP _ _ 53 W5_len) (xb_nd_of _ List.nodup_range) [0, 1, 2, 3] rfl (W5_fst.trans W5_fst.symm) (xb_mixP 53 W5_len W5_len) rfl (Nat.le_of_ble_eq_true rfl) ⟨Nat.le_of_ble_eq_true rfl, Nat.le_of_ble_eq_true rfl⟩ rfl ?_
  refine xi_aload_n C dL_law_310 rfl 2 rfl ?_
  refine xi_aload_n C dL_law_311 rfl 0 rfl ?_
  refine xi_iload_n C dL_law_312 rfl 3 rfl ?_
  refine xi_iconst (v := nI 1) C dL_law_313 (by decide +kernel) ?_
  refine xi_iadd C dL_law_314 ?_
  refine xi_sld C hX (i + 1) (nI_add i 1) (by omega) (by omega) dL_law_315 ?_
  refine xi_callV (As := [.int (xs (i + 1))]) (o := some (.int v)) (rest := [.int v]) (wc := (W6 cI cC cZ o0 ma st ik le sp nu now thn pst snp txt hld far don tld dep bit)) (w1 := (W6 cI cC cZ o0 ma st' ik le sp nu now' thn' pst' snp txt hld' far' don' tld dep bit)) (w2 := (W5 cI cC cR ad ha hs b' t' s hn' pm' hb' K' Dp Bt Sq se Sg ln at_) ++ (W6 cI cC cZ o0 ma st' ik le sp nu now' thn' pst' snp txt hld' far' don' tld dep bit)) (st2 := [.int v, .int v]) C k_X6_layAnew (m_X6_layAnew D cI cC cZ cR o0 ma st ik le sp nu now thn pst snp txt hld far don tld dep bit (xs (i + 1)) v st' now' thn' pst' hld' far' don' e6) gL_law_X6_layAnew dL_law_316 ⟨Nat.le_of_ble_eq_true rfl, Nat.le_of_ble_eq_true rfl, Nat.le_of_ble_eq_true rfl⟩ 53 (W6_h W5_len) rfl (List.range' 53 12) (xb_rgS _ _ 53 12 W5_len W6_len) (xb_nd_of _ List.nodup_range') [0, 1, 2, 3] rfl (W6_fst.trans W6_fst.symm) (xb_mixS 53 12 W5_len W6_len W6_len) rfl (Nat.le_of_ble_eq_true rfl) ⟨Nat.le_of_ble_eq_true rfl, Nat.le_of_ble_eq_true rfl⟩ rfl ?_
  exact xi_icmp_eq (tgt := 704) C dL_law_319 (by decide) (fun _ => G hs b' t' s hn' pm' hb' K' Dp Bt Sq se Sg ln at_ st' ik le sp nu now' thn' pst' snp txt hld' far' don' tld dep bit R') (fun c => absurd rfl c)
set_option maxHeartbeats 4000000 in
set_option maxRecDepth 100000 in
theorem arm_set {X : xb_C} {D : va_G} {cI cC cZ cR : ClassId} {ad : Nat → Nat} {ha : Nat → Nat → Nat} {o0 : Nat} {ma : Nat → Nat} {sc L i : Nat} {xs : Nat → Int32} (C : xb_OK X cL_law wsL_law RL room_1 ret 4 (xb_ty cI cC cZ cR) D) (hX : xb_X X sc L xs) (hi : i + 4 ≤ L) (hL : L ≤ 2048) (G : lwC X cI cC cZ cR ad ha o0 ma [(0, .ref sc), (1, .ref (ad 0)), (2, .ref o0), (3, .int (nI i))] 704) : lwC X cI cC cZ cR ad ha o0 ma [(0, .ref sc), (1, .ref (ad 0)), (2, .ref o0), (3, .int (nI i))] 324 := by
  intro hs b t s hn pm hb K Dp Bt Sq se Sg ln at_ st ik le sp nu now thn pst snp txt hld far don tld dep bit R
  obtain ⟨v, b', hn', pm', hb', st', now', pst', hld', e5, e6, R'⟩ := o_set R hld (xs (i + 1)) (xs (i + 2))
  refine xi_aload_n C dL_law_324 rfl 1 rfl ?_
  refine xi_aload_n C dL_law_325 rfl 0 rfl ?_
  refine xi_iload_n C dL_law_326 rfl 3 rfl ?_
  refine xi_iconst (v := nI 1) C dL_law_327 (by decide +kernel) ?_
  refine xi_iadd C dL_law_328 ?_
  refine xi_sld C hX (i + 1) (nI_add i 1) (by omega) (by omega) dL_law_329 ?_
  refine xi_aload_n C dL_law_330 rfl 0 rfl ?_
  refine xi_iload_n C dL_law_331 rfl 3 rfl ?_
  refine xi_iconst (v := nI 2) C dL_law_332 (by decide +kernel) ?_
  refine xi_iadd C dL_law_333 ?_
  refine xi_sld C hX (i + 2) (nI_add i 2) (by omega) (by omega) dL_law_334 ?_
  refine xi_callV (As := [.int (xs (i + 1)), .int (xs (i + 2))]) (o := some (.int v)) (rest := []) (wc := (W5 cI cC cR ad ha hs b t s hn pm hb K Dp Bt Sq se Sg ln at_)) (w1 := (W5 cI cC cR ad ha hs b' t s hn' pm' hb' K Dp Bt Sq se Sg ln at_)) (w2 := (W5 cI cC cR ad ha hs b' t s hn' pm' hb' K Dp Bt Sq se Sg ln at_) ++ (W6 cI cC cZ o0 ma st ik le sp nu now thn pst snp txt hld far don tld dep bit)) (st2 := [.int v]) C k_X5_set (m_X5_set D cI cC cZ cR ad ha hs b t s hn pm hb K Dp Bt Sq se Sg ln at_ (xs (i + 1)) (xs (i + 2)) v b' hn' pm' hb' e5) gL_law_X5_set dL_law_335 ⟨Nat.le_of_ble_eq_true rfl, Nat.le_of_ble_eq_true rfl, Nat.le_of_ble_eq_true rfl⟩ 0 W5_h0 rfl (List.range 53) (xb_rgP _ _ 53 W5_len) (xb_nd_of _ List.nodup_range) [0, 1, 2, 3] rfl (W5_fst.trans W5_fst.symm) (xb_mixP 53 W5_len W5_len) rfl (Nat.le_of_ble_eq_true rfl) ⟨Nat.le_of_ble_eq_true rfl, Nat.le_of_ble_eq_true rfl⟩ rfl ?_
  refine xi_aload_n C dL_law_338 rfl 2 rfl ?_
  refine xi_aload_n C dL_law_339 rfl 0 rfl ?_
  refine xi_iload_n C dL_law_340 rfl 3 rfl ?_
  refine xi_iconst (v := nI 1) C dL_law_341 (by decide +kernel) ?_
  refine xi_iadd C dL_law_342 ?_
  refine xi_sld C hX (i + 1) (nI_add i 1) (by omega) (by omega) dL_law_343 ?_
  refine xi_aload_n C dL_law_344 rfl 0 rfl ?_
  refine xi_iload_n C dL_law_345 rfl 3 rfl ?_
  refine xi_iconst (v := nI 2) C dL_law_346 (by decide +kernel) ?_
  refine xi_iadd C dL_law_347 ?_
  refine xi_sld C hX (i + 2) (nI_add i 2) (by omega) (by omega) dL_law_348 ?_
  refine xi_callV (As := [.int (xs (i + 1)), .int (xs (i + 2))]) (o := some (.int v)) (rest := [.int v]) (wc := (W6 cI cC cZ o0 ma st ik le sp nu now thn pst snp txt hld far don tld dep bit)) (w1 := (W6 cI cC cZ o0 ma st' ik le sp nu now' thn pst' snp txt hld' far don tld dep bit)) (w2 := (W5 cI cC cR ad ha hs b' t s hn' pm' hb' K Dp Bt Sq se Sg ln at_) ++ (W6 cI cC cZ o0 ma st' ik le sp nu now' thn pst' snp txt hld' far don tld dep bit)) (st2 := [.int v, .int v]) C k_X6_set (m_X6_set D cI cC cZ cR o0 ma st ik le sp nu now thn pst snp txt hld far don tld dep bit (xs (i + 1)) (xs (i + 2)) v st' now' pst' hld' e6) gL_law_X6_set dL_law_349 ⟨Nat.le_of_ble_eq_true rfl, Nat.le_of_ble_eq_true rfl, Nat.le_of_ble_eq_true rfl⟩ 53 (W6_h W5_len) rfl (List.range' 53 12) (xb_rgS _ _ 53 12 W5_len W6_len) (xb_nd_of _ List.nodup_range') [0, 1, 2, 3] rfl (W6_fst.trans W6_fst.symm) (xb_mixS 53 12 W5_len W6_len W6_len) rfl (Nat.le_of_ble_eq_true rfl) ⟨Nat.le_of_ble_eq_true rfl, Nat.le_of_ble_eq_true rfl⟩ rfl ?_
  exact xi_icmp_eq (tgt := 704) C dL_law_352 (by decide) (fun _ => G hs b' t s hn' pm' hb' K Dp Bt Sq se Sg ln at_ st' ik le sp nu now' thn pst' snp txt hld' far don tld dep bit R') (fun c => absurd rfl c)
set_option maxHeartbeats 4000000 in
set_option maxRecDepth 100000 in
theorem arm_load {X : xb_C} {D : va_G} {cI cC cZ cR : ClassId} {ad : Nat → Nat} {ha : Nat → Nat → Nat} {o0 : Nat} {ma : Nat → Nat} {sc L i : Nat} {xs : Nat → Int32} (C : xb_OK X cL_law wsL_law RL room_1 ret 4 (xb_ty cI cC cZ cR) D) (hX : xb_X X sc L xs) (hi : i + 4 ≤ L) (hL : L ≤ 2048) (G : lwC X cI cC cZ cR ad ha o0 ma [(0, .ref sc), (1, .ref (ad 0)), (2, .ref o0), (3, .int (nI i))] 704) : lwC X cI cC cZ cR ad ha o0 ma [(0, .ref sc), (1, .ref (ad 0)), (2, .ref o0), (3, .int (nI i))] 357 := by
  intro hs b t s hn pm hb K Dp Bt Sq se Sg ln at_ st ik le sp nu now thn pst snp txt hld far don tld dep bit R
  obtain ⟨v, b', t', hn', pm', hb', K', at', st', sp', nu', now', thn', pst', hld', far', don', tld', e5, e6, R'⟩ := o_load R t K thn hld far don tld at_ sp nu
  refine xi_aload_n C dL_law_357 rfl 1 rfl ?_
  refine xi_callV (As := []) (o := some (.int v)) (rest := []) (wc := (W5 cI cC cR ad ha hs b t s hn pm hb K Dp Bt Sq se Sg ln at_)) (w1 := (W5 cI cC cR ad ha hs b' t' s hn' pm' hb' K' Dp Bt Sq se Sg ln at')) (w2 := (W5 cI cC cR ad ha hs b' t' s hn' pm' hb' K' Dp Bt Sq se Sg ln at') ++ (W6 cI cC cZ o0 ma st ik le sp nu now thn pst snp txt hld far don tld dep bit)) (st2 := [.int v]) C k_X5_load (m_X5_load D cI cC cZ cR ad ha hs b t s hn pm hb K Dp Bt Sq se Sg ln at_ v b' t' hn' pm' hb' K' at' e5) gL_law_X5_load dL_law_358 ⟨Nat.le_of_ble_eq_true rfl, Nat.le_of_ble_eq_true rfl, Nat.le_of_ble_eq_true rfl⟩ 0 W5_h0 rfl (List.range 53) (xb_rgP _ _ 53 W5_len) (xb_nd_of _ List.nodup_range) [0, 1, 2, 3] rfl (W5_fst.trans W5_fst.symm) (xb_mixP 53 W5_len W5_len) rfl (Nat.le_of_ble_eq_true rfl) ⟨Nat.le_of_ble_eq_true rfl, Nat.le_of_ble_eq_true rfl⟩ rfl ?_
  refine xi_aload_n C dL_law_361 rfl 2 rfl ?_
  refine xi_callV (As := []) (o := some (.int v)) (rest := [.int v]) (wc := (W6 cI cC cZ o0 ma st ik le sp nu now thn pst snp txt hld far don tld dep bit)) (w1 := (W6 cI cC cZ o0 ma st' ik le sp' nu' now' thn' pst' snp txt hld' far' don' tld' dep bit)) (w2 := (W5 cI cC cR ad ha hs b' t' s hn' pm' hb' K' Dp Bt Sq se Sg ln at') ++ (W6 cI cC cZ o0 ma st' ik le sp' nu' now' thn' pst' snp txt hld' far' don' tld' dep bit)) (st2 := [.int v, .int v]) C k_X6_load (m_X6_load D cI cC cZ cR o0 ma st ik le sp nu now thn pst snp txt hld far don tld dep bit v st' sp' nu' now' thn' pst' hld' far' don' tld' e6) gL_law_X6_load dL_law_362 ⟨Nat.le_of_ble_eq_true rfl, Nat.le_of_ble_eq_true rfl, Nat.le_of_ble_eq_true rfl⟩ 53 (W6_h W5_len) rfl (List.range' 53 12) (xb_rgS _ _ 53 12 W5_len W6_len) (xb_nd_of _ List.nodup_range') [0, 1, 2, 3] rfl (W6_fst.trans W6_fst.symm) (xb_mixS 53 12 W5_len W6_len W6_len) rfl (Nat.le_of_ble_eq_true rfl) ⟨Nat.le_of_ble_eq_true rfl, Nat.le_of_ble_eq_true rfl⟩ rfl ?_
  exact xi_icmp_eq (tgt := 704) C dL_law_365 (by decide) (fun _ => G hs b' t' s hn' pm' hb' K' Dp Bt Sq se Sg ln at' st' ik le sp' nu' now' thn' pst' snp txt hld' far' don' tld' dep bit R') (fun c => absurd rfl c)
set_option maxHeartbeats 4000000 in
set_option maxRecDepth 100000 in
theorem arm_type {X : xb_C} {D : va_G} {cI cC cZ cR : ClassId} {ad : Nat → Nat} {ha : Nat → Nat → Nat} {o0 : Nat} {ma : Nat → Nat} {sc L i : Nat} {xs : Nat → Int32} (C : xb_OK X cL_law wsL_law RL room_1 ret 4 (xb_ty cI cC cZ cR) D) (hX : xb_X X sc L xs) (hi : i + 4 ≤ L) (hL : L ≤ 2048) (G : lwC X cI cC cZ cR ad ha o0 ma [(0, .ref sc), (1, .ref (ad 0)), (2, .ref o0), (3, .int (nI i))] 704) : lwC X cI cC cZ cR ad ha o0 ma [(0, .ref sc), (1, .ref (ad 0)), (2, .ref o0), (3, .int (nI i))] 370 := by
  intro hs b t s hn pm hb K Dp Bt Sq se Sg ln at_ st ik le sp nu now thn pst snp txt hld far don tld dep bit R
  obtain ⟨v, Sg', ln', le', txt', e5, e6, R'⟩ := o_type R (((xs (i + 1)).toUInt32 % 65536).toInt32)
  refine xi_aload_n C dL_law_370 rfl 1 rfl ?_
  refine xi_aload_n C dL_law_371 rfl 0 rfl ?_
  refine xi_iload_n C dL_law_372 rfl 3 rfl ?_
  refine xi_iconst (v := nI 1) C dL_law_373 (by decide +kernel) ?_
  refine xi_iadd C dL_law_374 ?_
  refine xi_sld C hX (i + 1) (nI_add i 1) (by omega) (by omega) dL_law_375 ?_
  refine xi_i2c C dL_law_376 ?_
  refine xi_callV (As := [.int (((xs (i + 1)).toUInt32 % 65536).toInt32)]) (o := some (.int v)) (rest := []) (wc := (W5 cI cC cR ad ha hs b t s hn pm hb K Dp Bt Sq se Sg ln at_)) (w1 := (W5 cI cC cR ad ha hs b t s hn pm hb K Dp Bt Sq se Sg' ln' at_)) (w2 := (W5 cI cC cR ad ha hs b t s hn pm hb K Dp Bt Sq se Sg' ln' at_) ++ (W6 cI cC cZ o0 ma st ik le sp nu now thn pst snp txt hld far don tld dep bit)) (st2 := [.int v]) C k_X5_type (m_X5_type D cI cC cZ cR ad ha hs b t s hn pm hb K Dp Bt Sq se Sg ln at_ (((xs (i + 1)).toUInt32 % 65536).toInt32) v Sg' ln' e5) gL_law_X5_type dL_law_377 ⟨Nat.le_of_ble_eq_true rfl, Nat.le_of_ble_eq_true rfl, Nat.le_of_ble_eq_true rfl⟩ 0 W5_h0 rfl (List.range 53) (xb_rgP _ _ 53 W5_len) (xb_nd_of _ List.nodup_range) [0, 1, 2, 3] rfl (W5_fst.trans W5_fst.symm) (xb_mixP 53 W5_len W5_len) rfl (Nat.le_of_ble_eq_true rfl) ⟨Nat.le_of_ble_eq_true rfl, Nat.le_of_ble_eq_true rfl⟩ rfl ?_
  refine xi_aload_n C dL_law_380 rfl 2 rfl ?_
  refine xi_aload_n C dL_law_381 rfl 0 rfl ?_
  refine xi_iload_n C dL_law_382 rfl 3 rfl ?_
  refine xi_iconst (v := nI 1) C dL_law_383 (by decide +kernel) ?_
  refine xi_iadd C dL_law_384 ?_
  refine xi_sld C hX (i + 1) (nI_add i 1) (by omega) (by omega) dL_law_385 ?_
  refine xi_i2c C dL_law_386 ?_
  refine xi_callV (As := [.int (((xs (i + 1)).toUInt32 % 65536).toInt32)]) (o := some (.int v)) (rest := [.int v]) (wc := (W6 cI cC cZ o0 ma st ik le sp nu now thn pst snp txt hld far don tld dep bit)) (w1 := (W6 cI cC cZ o0 ma st ik le' sp nu now thn pst snp txt' hld far don tld dep bit)) (w2 := (W5 cI cC cR ad ha hs b t s hn pm hb K Dp Bt Sq se Sg' ln' at_) ++ (W6 cI cC cZ o0 ma st ik le' sp nu now thn pst snp txt' hld far don tld dep bit)) (st2 := [.int v, .int v]) C k_X6_type (m_X6_type D cI cC cZ cR o0 ma st ik le sp nu now thn pst snp txt hld far don tld dep bit (((xs (i + 1)).toUInt32 % 65536).toInt32) v le' txt' e6) gL_law_X6_type dL_law_387 ⟨Nat.le_of_ble_eq_true rfl, Nat.le_of_ble_eq_true rfl, Nat.le_of_ble_eq_true rfl⟩ 53 (W6_h W5_len) rfl (List.range' 53 12) (xb_rgS _ _ 53 12 W5_len W6_len) (xb_nd_of _ List.nodup_range') [0, 1, 2, 3] rfl (W6_fst.trans W6_fst.symm) (xb_mixS 53 12 W5_len W6_len W6_len) rfl (Nat.le_of_ble_eq_true rfl) ⟨Nat.le_of_ble_eq_true rfl, Nat.le_of_ble_eq_true rfl⟩ rfl ?_
  exact xi_icmp_eq (tgt := 704) C dL_law_390 (by decide) (fun _ => G hs b t s hn pm hb K Dp Bt Sq se Sg' ln' at_ st ik le' sp nu now thn pst snp txt' hld far don tld dep bit R') (fun c => absurd rfl c)
set_option maxHeartbeats 4000000 in
set_option maxRecDepth 100000 in
theorem arm_clearText {X : xb_C} {D : va_G} {cI cC cZ cR : ClassId} {ad : Nat → Nat} {ha : Nat → Nat → Nat} {o0 : Nat} {ma : Nat → Nat} {sc L i : Nat} {xs : Nat → Int32} (C : xb_OK X cL_law wsL_law RL room_1 ret 4 (xb_ty cI cC cZ cR) D) (hX : xb_X X sc L xs) (hi : i + 4 ≤ L) (hL : L ≤ 2048) (G : lwC X cI cC cZ cR ad ha o0 ma [(0, .ref sc), (1, .ref (ad 0)), (2, .ref o0), (3, .int (nI i))] 704) : lwC X cI cC cZ cR ad ha o0 ma [(0, .ref sc), (1, .ref (ad 0)), (2, .ref o0), (3, .int (nI i))] 395 := by
  intro hs b t s hn pm hb K Dp Bt Sq se Sg ln at_ st ik le sp nu now thn pst snp txt hld far don tld dep bit R
  obtain ⟨v, ln', le', e5, e6, R'⟩ := o_clearText R 
  refine xi_aload_n C dL_law_395 rfl 1 rfl ?_
  refine xi_callV (As := []) (o := some (.int v)) (rest := []) (wc := (W5 cI cC cR ad ha hs b t s hn pm hb K Dp Bt Sq se Sg ln at_)) (w1 := (W5 cI cC cR ad ha hs b t s hn pm hb K Dp Bt Sq se Sg ln' at_)) (w2 := (W5 cI cC cR ad ha hs b t s hn pm hb K Dp Bt Sq se Sg ln' at_) ++ (W6 cI cC cZ o0 ma st ik le sp nu now thn pst snp txt hld far don tld dep bit)) (st2 := [.int v]) C k_X5_clearText (m_X5_clearText D cI cC cZ cR ad ha hs b t s hn pm hb K Dp Bt Sq se Sg ln at_ v ln' e5) gL_law_X5_clearText dL_law_396 ⟨Nat.le_of_ble_eq_true rfl, Nat.le_of_ble_eq_true rfl, Nat.le_of_ble_eq_true rfl⟩ 0 W5_h0 rfl (List.range 53) (xb_rgP _ _ 53 W5_len) (xb_nd_of _ List.nodup_range) [0, 1, 2, 3] rfl (W5_fst.trans W5_fst.symm) (xb_mixP 53 W5_len W5_len) rfl (Nat.le_of_ble_eq_true rfl) ⟨Nat.le_of_ble_eq_true rfl, Nat.le_of_ble_eq_true rfl⟩ rfl ?_
  refine xi_aload_n C dL_law_399 rfl 2 rfl ?_
  refine xi_callV (As := []) (o := some (.int v)) (rest := [.int v]) (wc := (W6 cI cC cZ o0 ma st ik le sp nu now thn pst snp txt hld far don tld dep bit)) (w1 := (W6 cI cC cZ o0 ma st ik le' sp nu now thn pst snp txt hld far don tld dep bit)) (w2 := (W5 cI cC cR ad ha hs b t s hn pm hb K Dp Bt Sq se Sg ln' at_) ++ (W6 cI cC cZ o0 ma st ik le' sp nu now thn pst snp txt hld far don tld dep bit)) (st2 := [.int v, .int v]) C k_X6_clearText (m_X6_clearText D cI cC cZ cR o0 ma st ik le sp nu now thn pst snp txt hld far don tld dep bit v le' e6) gL_law_X6_clearText dL_law_400 ⟨Nat.le_of_ble_eq_true rfl, Nat.le_of_ble_eq_true rfl, Nat.le_of_ble_eq_true rfl⟩ 53 (W6_h W5_len) rfl (List.range' 53 12) (xb_rgS _ _ 53 12 W5_len W6_len) (xb_nd_of _ List.nodup_range') [0, 1, 2, 3] rfl (W6_fst.trans W6_fst.symm) (xb_mixS 53 12 W5_len W6_len W6_len) rfl (Nat.le_of_ble_eq_true rfl) ⟨Nat.le_of_ble_eq_true rfl, Nat.le_of_ble_eq_true rfl⟩ rfl ?_
  exact xi_icmp_eq (tgt := 704) C dL_law_403 (by decide) (fun _ => G hs b t s hn pm hb K Dp Bt Sq se Sg ln' at_ st ik le' sp nu now thn pst snp txt hld far don tld dep bit R') (fun c => absurd rfl c)
set_option maxHeartbeats 4000000 in
set_option maxRecDepth 100000 in
theorem arm_undo {X : xb_C} {D : va_G} {cI cC cZ cR : ClassId} {ad : Nat → Nat} {ha : Nat → Nat → Nat} {o0 : Nat} {ma : Nat → Nat} {sc L i : Nat} {xs : Nat → Int32} (C : xb_OK X cL_law wsL_law RL room_1 ret 4 (xb_ty cI cC cZ cR) D) (hX : xb_X X sc L xs) (hi : i + 4 ≤ L) (hL : L ≤ 2048) (G : lwC X cI cC cZ cR ad ha o0 ma [(0, .ref sc), (1, .ref (ad 0)), (2, .ref o0), (3, .int (nI i))] 704) : lwC X cI cC cZ cR ad ha o0 ma [(0, .ref sc), (1, .ref (ad 0)), (2, .ref o0), (3, .int (nI i))] 408 := by
  intro hs b t s hn pm hb K Dp Bt Sq se Sg ln at_ st ik le sp nu now thn pst snp txt hld far don tld dep bit R
  obtain ⟨v, b', hn', st', now', e5, e6, R'⟩ := o_undo R 
  refine xi_aload_n C dL_law_408 rfl 1 rfl ?_
  refine xi_callV (As := []) (o := some (.int v)) (rest := []) (wc := (W5 cI cC cR ad ha hs b t s hn pm hb K Dp Bt Sq se Sg ln at_)) (w1 := (W5 cI cC cR ad ha hs b' t s hn' pm hb K Dp Bt Sq se Sg ln at_)) (w2 := (W5 cI cC cR ad ha hs b' t s hn' pm hb K Dp Bt Sq se Sg ln at_) ++ (W6 cI cC cZ o0 ma st ik le sp nu now thn pst snp txt hld far don tld dep bit)) (st2 := [.int v]) C k_X5_undo (m_X5_undo D cI cC cZ cR ad ha hs b t s hn pm hb K Dp Bt Sq se Sg ln at_ v b' hn' e5) gL_law_X5_undo dL_law_409 ⟨Nat.le_of_ble_eq_true rfl, Nat.le_of_ble_eq_true rfl, Nat.le_of_ble_eq_true rfl⟩ 0 W5_h0 rfl (List.range 53) (xb_rgP _ _ 53 W5_len) (xb_nd_of _ List.nodup_range) [0, 1, 2, 3] rfl (W5_fst.trans W5_fst.symm) (xb_mixP 53 W5_len W5_len) rfl (Nat.le_of_ble_eq_true rfl) ⟨Nat.le_of_ble_eq_true rfl, Nat.le_of_ble_eq_true rfl⟩ rfl ?_
  refine xi_aload_n C dL_law_412 rfl 2 rfl ?_
  refine xi_callV (As := []) (o := some (.int v)) (rest := [.int v]) (wc := (W6 cI cC cZ o0 ma st ik le sp nu now thn pst snp txt hld far don tld dep bit)) (w1 := (W6 cI cC cZ o0 ma st' ik le sp nu now' thn pst snp txt hld far don tld dep bit)) (w2 := (W5 cI cC cR ad ha hs b' t s hn' pm hb K Dp Bt Sq se Sg ln at_) ++ (W6 cI cC cZ o0 ma st' ik le sp nu now' thn pst snp txt hld far don tld dep bit)) (st2 := [.int v, .int v]) C k_X6_undo (m_X6_undo D cI cC cZ cR o0 ma st ik le sp nu now thn pst snp txt hld far don tld dep bit v st' now' e6) gL_law_X6_undo dL_law_413 ⟨Nat.le_of_ble_eq_true rfl, Nat.le_of_ble_eq_true rfl, Nat.le_of_ble_eq_true rfl⟩ 53 (W6_h W5_len) rfl (List.range' 53 12) (xb_rgS _ _ 53 12 W5_len W6_len) (xb_nd_of _ List.nodup_range') [0, 1, 2, 3] rfl (W6_fst.trans W6_fst.symm) (xb_mixS 53 12 W5_len W6_len W6_len) rfl (Nat.le_of_ble_eq_true rfl) ⟨Nat.le_of_ble_eq_true rfl, Nat.le_of_ble_eq_true rfl⟩ rfl ?_
  exact xi_icmp_eq (tgt := 704) C dL_law_416 (by decide) (fun _ => G hs b' t s hn' pm hb K Dp Bt Sq se Sg ln at_ st' ik le sp nu now' thn pst snp txt hld far don tld dep bit R') (fun c => absurd rfl c)
set_option maxHeartbeats 4000000 in
set_option maxRecDepth 100000 in
theorem arm_keep {X : xb_C} {D : va_G} {cI cC cZ cR : ClassId} {ad : Nat → Nat} {ha : Nat → Nat → Nat} {o0 : Nat} {ma : Nat → Nat} {sc L i : Nat} {xs : Nat → Int32} (C : xb_OK X cL_law wsL_law RL room_1 ret 4 (xb_ty cI cC cZ cR) D) (hX : xb_X X sc L xs) (hi : i + 4 ≤ L) (hL : L ≤ 2048) (G : lwC X cI cC cZ cR ad ha o0 ma [(0, .ref sc), (1, .ref (ad 0)), (2, .ref o0), (3, .int (nI i))] 704) : lwC X cI cC cZ cR ad ha o0 ma [(0, .ref sc), (1, .ref (ad 0)), (2, .ref o0), (3, .int (nI i))] 421 := by
  intro hs b t s hn pm hb K Dp Bt Sq se Sg ln at_ st ik le sp nu now thn pst snp txt hld far don tld dep bit R
  obtain ⟨v, hs', s', ik', snp', e5, e6, R'⟩ := o_keep R 
  refine xi_aload_n C dL_law_421 rfl 1 rfl ?_
  refine xi_callV (As := []) (o := some (.int v)) (rest := []) (wc := (W5 cI cC cR ad ha hs b t s hn pm hb K Dp Bt Sq se Sg ln at_)) (w1 := (W5 cI cC cR ad ha hs' b t s' hn pm hb K Dp Bt Sq se Sg ln at_)) (w2 := (W5 cI cC cR ad ha hs' b t s' hn pm hb K Dp Bt Sq se Sg ln at_) ++ (W6 cI cC cZ o0 ma st ik le sp nu now thn pst snp txt hld far don tld dep bit)) (st2 := [.int v]) C k_X5_keep (m_X5_keep D cI cC cZ cR ad ha hs b t s hn pm hb K Dp Bt Sq se Sg ln at_ v hs' s' e5) gL_law_X5_keep dL_law_422 ⟨Nat.le_of_ble_eq_true rfl, Nat.le_of_ble_eq_true rfl, Nat.le_of_ble_eq_true rfl⟩ 0 W5_h0 rfl (List.range 53) (xb_rgP _ _ 53 W5_len) (xb_nd_of _ List.nodup_range) [0, 1, 2, 3] rfl (W5_fst.trans W5_fst.symm) (xb_mixP 53 W5_len W5_len) rfl (Nat.le_of_ble_eq_true rfl) ⟨Nat.le_of_ble_eq_true rfl, Nat.le_of_ble_eq_true rfl⟩ rfl ?_
  refine xi_aload_n C dL_law_425 rfl 2 rfl ?_
  refine xi_callV (As := []) (o := some (.int v)) (rest := [.int v]) (wc := (W6 cI cC cZ o0 ma st ik le sp nu now thn pst snp txt hld far don tld dep bit)) (w1 := (W6 cI cC cZ o0 ma st ik' le sp nu now thn pst snp' txt hld far don tld dep bit)) (w2 := (W5 cI cC cR ad ha hs' b t s' hn pm hb K Dp Bt Sq se Sg ln at_) ++ (W6 cI cC cZ o0 ma st ik' le sp nu now thn pst snp' txt hld far don tld dep bit)) (st2 := [.int v, .int v]) C k_X6_keep (m_X6_keep D cI cC cZ cR o0 ma st ik le sp nu now thn pst snp txt hld far don tld dep bit v ik' snp' e6) gL_law_X6_keep dL_law_426 ⟨Nat.le_of_ble_eq_true rfl, Nat.le_of_ble_eq_true rfl, Nat.le_of_ble_eq_true rfl⟩ 53 (W6_h W5_len) rfl (List.range' 53 12) (xb_rgS _ _ 53 12 W5_len W6_len) (xb_nd_of _ List.nodup_range') [0, 1, 2, 3] rfl (W6_fst.trans W6_fst.symm) (xb_mixS 53 12 W5_len W6_len W6_len) rfl (Nat.le_of_ble_eq_true rfl) ⟨Nat.le_of_ble_eq_true rfl, Nat.le_of_ble_eq_true rfl⟩ rfl ?_
  exact xi_icmp_eq (tgt := 704) C dL_law_429 (by decide) (fun _ => G hs' b t s' hn pm hb K Dp Bt Sq se Sg ln at_ st ik' le sp nu now thn pst snp' txt hld far don tld dep bit R') (fun c => absurd rfl c)
set_option maxHeartbeats 4000000 in
set_option maxRecDepth 100000 in
theorem arm_restore {X : xb_C} {D : va_G} {cI cC cZ cR : ClassId} {ad : Nat → Nat} {ha : Nat → Nat → Nat} {o0 : Nat} {ma : Nat → Nat} {sc L i : Nat} {xs : Nat → Int32} (C : xb_OK X cL_law wsL_law RL room_1 ret 4 (xb_ty cI cC cZ cR) D) (hX : xb_X X sc L xs) (hi : i + 4 ≤ L) (hL : L ≤ 2048) (G : lwC X cI cC cZ cR ad ha o0 ma [(0, .ref sc), (1, .ref (ad 0)), (2, .ref o0), (3, .int (nI i))] 704) : lwC X cI cC cZ cR ad ha o0 ma [(0, .ref sc), (1, .ref (ad 0)), (2, .ref o0), (3, .int (nI i))] 434 := by
  intro hs b t s hn pm hb K Dp Bt Sq se Sg ln at_ st ik le sp nu now thn pst snp txt hld far don tld dep bit R
  obtain ⟨v, b', hn', pm', hb', st', now', pst', e5, e6, R'⟩ := o_restore R 
  refine xi_aload_n C dL_law_434 rfl 1 rfl ?_
  refine xi_callV (As := []) (o := some (.int v)) (rest := []) (wc := (W5 cI cC cR ad ha hs b t s hn pm hb K Dp Bt Sq se Sg ln at_)) (w1 := (W5 cI cC cR ad ha hs b' t s hn' pm' hb' K Dp Bt Sq se Sg ln at_)) (w2 := (W5 cI cC cR ad ha hs b' t s hn' pm' hb' K Dp Bt Sq se Sg ln at_) ++ (W6 cI cC cZ o0 ma st ik le sp nu now thn pst snp txt hld far don tld dep bit)) (st2 := [.int v]) C k_X5_restore (m_X5_restore D cI cC cZ cR ad ha hs b t s hn pm hb K Dp Bt Sq se Sg ln at_ v b' hn' pm' hb' e5) gL_law_X5_restore dL_law_435 ⟨Nat.le_of_ble_eq_true rfl, Nat.le_of_ble_eq_true rfl, Nat.le_of_ble_eq_true rfl⟩ 0 W5_h0 rfl (List.range 53) (xb_rgP _ _ 53 W5_len) (xb_nd_of _ List.nodup_range) [0, 1, 2, 3] rfl (W5_fst.trans W5_fst.symm) (xb_mixP 53 W5_len W5_len) rfl (Nat.le_of_ble_eq_true rfl) ⟨Nat.le_of_ble_eq_true rfl, Nat.le_of_ble_eq_true rfl⟩ rfl ?_
  refine xi_aload_n C dL_law_438 rfl 2 rfl ?_
  refine xi_callV (As := []) (o := some (.int v)) (rest := [.int v]) (wc := (W6 cI cC cZ o0 ma st ik le sp nu now thn pst snp txt hld far don tld dep bit)) (w1 := (W6 cI cC cZ o0 ma st' ik le sp nu now' thn pst' snp txt hld far don tld dep bit)) (w2 := (W5 cI cC cR ad ha hs b' t s hn' pm' hb' K Dp Bt Sq se Sg ln at_) ++ (W6 cI cC cZ o0 ma st' ik le sp nu now' thn pst' snp txt hld far don tld dep bit)) (st2 := [.int v, .int v]) C k_X6_restore (m_X6_restore D cI cC cZ cR o0 ma st ik le sp nu now thn pst snp txt hld far don tld dep bit v st' now' pst' e6) gL_law_X6_restore dL_law_439 ⟨Nat.le_of_ble_eq_true rfl, Nat.le_of_ble_eq_true rfl, Nat.le_of_ble_eq_true rfl⟩ 53 (W6_h W5_len) rfl (List.range' 53 12) (xb_rgS _ _ 53 12 W5_len W6_len) (xb_nd_of _ List.nodup_range') [0, 1, 2, 3] rfl (W6_fst.trans W6_fst.symm) (xb_mixS 53 12 W5_len W6_len W6_len) rfl (Nat.le_of_ble_eq_true rfl) ⟨Nat.le_of_ble_eq_true rfl, Nat.le_of_ble_eq_true rfl⟩ rfl ?_
  exact xi_icmp_eq (tgt := 704) C dL_law_442 (by decide) (fun _ => G hs b' t s hn' pm' hb' K Dp Bt Sq se Sg ln at_ st' ik le sp nu now' thn pst' snp txt hld far don tld dep bit R') (fun c => absurd rfl c)
set_option maxHeartbeats 4000000 in
set_option maxRecDepth 100000 in
theorem arm_cell {X : xb_C} {D : va_G} {cI cC cZ cR : ClassId} {ad : Nat → Nat} {ha : Nat → Nat → Nat} {o0 : Nat} {ma : Nat → Nat} {sc L i : Nat} {xs : Nat → Int32} (C : xb_OK X cL_law wsL_law RL room_1 ret 4 (xb_ty cI cC cZ cR) D) (hX : xb_X X sc L xs) (hi : i + 4 ≤ L) (hL : L ≤ 2048) (G : lwC X cI cC cZ cR ad ha o0 ma [(0, .ref sc), (1, .ref (ad 0)), (2, .ref o0), (3, .int (nI i))] 704) : lwC X cI cC cZ cR ad ha o0 ma [(0, .ref sc), (1, .ref (ad 0)), (2, .ref o0), (3, .int (nI i))] 447 := by
  intro hs b t s hn pm hb K Dp Bt Sq se Sg ln at_ st ik le sp nu now thn pst snp txt hld far don tld dep bit R
  obtain ⟨v, Dp', Sq', se', dep', bit', e5, e6⟩ := o_cell R Dp Sq dep bit se (xs (i + 1)) (xs (i + 2))
  refine xi_aload_n C dL_law_447 rfl 1 rfl ?_
  refine xi_aload_n C dL_law_448 rfl 0 rfl ?_
  refine xi_iload_n C dL_law_449 rfl 3 rfl ?_
  refine xi_iconst (v := nI 1) C dL_law_450 (by decide +kernel) ?_
  refine xi_iadd C dL_law_451 ?_
  refine xi_sld C hX (i + 1) (nI_add i 1) (by omega) (by omega) dL_law_452 ?_
  refine xi_aload_n C dL_law_453 rfl 0 rfl ?_
  refine xi_iload_n C dL_law_454 rfl 3 rfl ?_
  refine xi_iconst (v := nI 2) C dL_law_455 (by decide +kernel) ?_
  refine xi_iadd C dL_law_456 ?_
  refine xi_sld C hX (i + 2) (nI_add i 2) (by omega) (by omega) dL_law_457 ?_
  refine xi_callV (As := [.int (xs (i + 1)), .int (xs (i + 2))]) (o := some (.int v)) (rest := []) (wc := (W5 cI cC cR ad ha hs b t s hn pm hb K Dp Bt Sq se Sg ln at_)) (w1 := (W5 cI cC cR ad ha hs b t s hn pm hb K Dp' Bt Sq' se' Sg ln at_)) (w2 := (W5 cI cC cR ad ha hs b t s hn pm hb K Dp' Bt Sq' se' Sg ln at_) ++ (W6 cI cC cZ o0 ma st ik le sp nu now thn pst snp txt hld far don tld dep bit)) (st2 := [.int v]) C k_X5_cell (m_X5_cell D cI cC cZ cR ad ha hs b t s hn pm hb K Dp Bt Sq se Sg ln at_ (xs (i + 1)) (xs (i + 2)) v Dp' Sq' se' e5) gL_law_X5_cell dL_law_458 ⟨Nat.le_of_ble_eq_true rfl, Nat.le_of_ble_eq_true rfl, Nat.le_of_ble_eq_true rfl⟩ 0 W5_h0 rfl (List.range 53) (xb_rgP _ _ 53 W5_len) (xb_nd_of _ List.nodup_range) [0, 1, 2, 3] rfl (W5_fst.trans W5_fst.symm) (xb_mixP 53 W5_len W5_len) rfl (Nat.le_of_ble_eq_true rfl) ⟨Nat.le_of_ble_eq_true rfl, Nat.le_of_ble_eq_true rfl⟩ rfl ?_
  refine xi_aload_n C dL_law_461 rfl 2 rfl ?_
  refine xi_aload_n C dL_law_462 rfl 0 rfl ?_
  refine xi_iload_n C dL_law_463 rfl 3 rfl ?_
  refine xi_iconst (v := nI 1) C dL_law_464 (by decide +kernel) ?_
  refine xi_iadd C dL_law_465 ?_
  refine xi_sld C hX (i + 1) (nI_add i 1) (by omega) (by omega) dL_law_466 ?_
  refine xi_aload_n C dL_law_467 rfl 0 rfl ?_
  refine xi_iload_n C dL_law_468 rfl 3 rfl ?_
  refine xi_iconst (v := nI 2) C dL_law_469 (by decide +kernel) ?_
  refine xi_iadd C dL_law_470 ?_
  refine xi_sld C hX (i + 2) (nI_add i 2) (by omega) (by omega) dL_law_471 ?_
  refine xi_callV (As := [.int (xs (i + 1)), .int (xs (i + 2))]) (o := some (.int v)) (rest := [.int v]) (wc := (W6 cI cC cZ o0 ma st ik le sp nu now thn pst snp txt hld far don tld dep bit)) (w1 := (W6 cI cC cZ o0 ma st ik le sp nu now thn pst snp txt hld far don tld dep' bit')) (w2 := (W5 cI cC cR ad ha hs b t s hn pm hb K Dp' Bt Sq' se' Sg ln at_) ++ (W6 cI cC cZ o0 ma st ik le sp nu now thn pst snp txt hld far don tld dep' bit')) (st2 := [.int v, .int v]) C k_X6_cell (m_X6_cell D cI cC cZ cR o0 ma st ik le sp nu now thn pst snp txt hld far don tld dep bit (xs (i + 1)) (xs (i + 2)) v dep' bit' e6) gL_law_X6_cell dL_law_472 ⟨Nat.le_of_ble_eq_true rfl, Nat.le_of_ble_eq_true rfl, Nat.le_of_ble_eq_true rfl⟩ 53 (W6_h W5_len) rfl (List.range' 53 12) (xb_rgS _ _ 53 12 W5_len W6_len) (xb_nd_of _ List.nodup_range') [0, 1, 2, 3] rfl (W6_fst.trans W6_fst.symm) (xb_mixS 53 12 W5_len W6_len W6_len) rfl (Nat.le_of_ble_eq_true rfl) ⟨Nat.le_of_ble_eq_true rfl, Nat.le_of_ble_eq_true rfl⟩ rfl ?_
  exact xi_icmp_eq (tgt := 704) C dL_law_475 (by decide) (fun _ => G hs b t s hn pm hb K Dp' Bt Sq' se' Sg ln at_ st ik le sp nu now thn pst snp txt hld far don tld dep' bit' R) (fun c => absurd rfl c)
set_option maxHeartbeats 4000000 in
set_option maxRecDepth 100000 in
theorem arm_path {X : xb_C} {D : va_G} {cI cC cZ cR : ClassId} {ad : Nat → Nat} {ha : Nat → Nat → Nat} {o0 : Nat} {ma : Nat → Nat} {sc L i : Nat} {xs : Nat → Int32} (C : xb_OK X cL_law wsL_law RL room_1 ret 4 (xb_ty cI cC cZ cR) D) (hX : xb_X X sc L xs) (hi : i + 4 ≤ L) (hL : L ≤ 2048) (G : lwC X cI cC cZ cR ad ha o0 ma [(0, .ref sc), (1, .ref (ad 0)), (2, .ref o0), (3, .int (nI i))] 704) : lwC X cI cC cZ cR ad ha o0 ma [(0, .ref sc), (1, .ref (ad 0)), (2, .ref o0), (3, .int (nI i))] 480 := by
  intro hs b t s hn pm hb K Dp Bt Sq se Sg ln at_ st ik le sp nu now thn pst snp txt hld far don tld dep bit R
  obtain ⟨v, e5, e6⟩ := o_path R (xs (i + 1)) (xs (i + 2)) (xs (i + 3))
  refine xi_aload_n C dL_law_480 rfl 1 rfl ?_
  refine xi_aload_n C dL_law_481 rfl 0 rfl ?_
  refine xi_iload_n C dL_law_482 rfl 3 rfl ?_
  refine xi_iconst (v := nI 1) C dL_law_483 (by decide +kernel) ?_
  refine xi_iadd C dL_law_484 ?_
  refine xi_sld C hX (i + 1) (nI_add i 1) (by omega) (by omega) dL_law_485 ?_
  refine xi_aload_n C dL_law_486 rfl 0 rfl ?_
  refine xi_iload_n C dL_law_487 rfl 3 rfl ?_
  refine xi_iconst (v := nI 2) C dL_law_488 (by decide +kernel) ?_
  refine xi_iadd C dL_law_489 ?_
  refine xi_sld C hX (i + 2) (nI_add i 2) (by omega) (by omega) dL_law_490 ?_
  refine xi_aload_n C dL_law_491 rfl 0 rfl ?_
  refine xi_iload_n C dL_law_492 rfl 3 rfl ?_
  refine xi_iconst (v := nI 3) C dL_law_493 (by decide +kernel) ?_
  refine xi_iadd C dL_law_494 ?_
  refine xi_sld C hX (i + 3) (nI_add i 3) (by omega) (by omega) dL_law_495 ?_
  refine xi_callV (As := [.int (xs (i + 1)), .int (xs (i + 2)), .int (xs (i + 3))]) (o := some (.int v)) (rest := []) (wc := (W5 cI cC cR ad ha hs b t s hn pm hb K Dp Bt Sq se Sg ln at_)) (w1 := (W5 cI cC cR ad ha hs b t s hn pm hb K Dp Bt Sq se Sg ln at_)) (w2 := (W5 cI cC cR ad ha hs b t s hn pm hb K Dp Bt Sq se Sg ln at_) ++ (W6 cI cC cZ o0 ma st ik le sp nu now thn pst snp txt hld far don tld dep bit)) (st2 := [.int v]) C k_X5_path (m_X5_path D cI cC cZ cR ad ha hs b t s hn pm hb K Dp Bt Sq se Sg ln at_ (xs (i + 1)) (xs (i + 2)) (xs (i + 3)) v e5) gL_law_X5_path dL_law_496 ⟨Nat.le_of_ble_eq_true rfl, Nat.le_of_ble_eq_true rfl, Nat.le_of_ble_eq_true rfl⟩ 0 W5_h0 rfl (List.range 53) (xb_rgP _ _ 53 W5_len) (xb_nd_of _ List.nodup_range) [0, 1, 2, 3] rfl (W5_fst.trans W5_fst.symm) (xb_mixP 53 W5_len W5_len) rfl (Nat.le_of_ble_eq_true rfl) ⟨Nat.le_of_ble_eq_true rfl, Nat.le_of_ble_eq_true rfl⟩ rfl ?_
  refine xi_aload_n C dL_law_499 rfl 2 rfl ?_
  refine xi_aload_n C dL_law_500 rfl 0 rfl ?_
  refine xi_iload_n C dL_law_501 rfl 3 rfl ?_
  refine xi_iconst (v := nI 1) C dL_law_502 (by decide +kernel) ?_
  refine xi_iadd C dL_law_503 ?_
  refine xi_sld C hX (i + 1) (nI_add i 1) (by omega) (by omega) dL_law_504 ?_
  refine xi_aload_n C dL_law_505 rfl 0 rfl ?_
  refine xi_iload_n C dL_law_506 rfl 3 rfl ?_
  refine xi_iconst (v := nI 2) C dL_law_507 (by decide +kernel) ?_
  refine xi_iadd C dL_law_508 ?_
  refine xi_sld C hX (i + 2) (nI_add i 2) (by omega) (by omega) dL_law_509 ?_
  refine xi_aload_n C dL_law_510 rfl 0 rfl ?_
  refine xi_iload_n C dL_law_511 rfl 3 rfl ?_
  refine xi_iconst (v := nI 3) C dL_law_512 (by decide +kernel) ?_
  refine xi_iadd C dL_law_513 ?_
  refine xi_sld C hX (i + 3) (nI_add i 3) (by omega) (by omega) dL_law_514 ?_
  refine xi_callV (As := [.int (xs (i + 1)), .int (xs (i + 2)), .int (xs (i + 3))]) (o := some (.int v)) (rest := [.int v]) (wc := (W6 cI cC cZ o0 ma st ik le sp nu now thn pst snp txt hld far don tld dep bit)) (w1 := (W6 cI cC cZ o0 ma st ik le sp nu now thn pst snp txt hld far don tld dep bit)) (w2 := (W5 cI cC cR ad ha hs b t s hn pm hb K Dp Bt Sq se Sg ln at_) ++ (W6 cI cC cZ o0 ma st ik le sp nu now thn pst snp txt hld far don tld dep bit)) (st2 := [.int v, .int v]) C k_X6_path (m_X6_path D cI cC cZ cR o0 ma st ik le sp nu now thn pst snp txt hld far don tld dep bit (xs (i + 1)) (xs (i + 2)) (xs (i + 3)) v e6) gL_law_X6_path dL_law_515 ⟨Nat.le_of_ble_eq_true rfl, Nat.le_of_ble_eq_true rfl, Nat.le_of_ble_eq_true rfl⟩ 53 (W6_h W5_len) rfl (List.range' 53 12) (xb_rgS _ _ 53 12 W5_len W6_len) (xb_nd_of _ List.nodup_range') [0, 1, 2, 3] rfl (W6_fst.trans W6_fst.symm) (xb_mixS 53 12 W5_len W6_len W6_len) rfl (Nat.le_of_ble_eq_true rfl) ⟨Nat.le_of_ble_eq_true rfl, Nat.le_of_ble_eq_true rfl⟩ rfl ?_
  exact xi_icmp_eq (tgt := 704) C dL_law_518 (by decide) (fun _ => G hs b t s hn pm hb K Dp Bt Sq se Sg ln at_ st ik le sp nu now thn pst snp txt hld far don tld dep bit R) (fun c => absurd rfl c)
set_option maxHeartbeats 4000000 in
set_option maxRecDepth 100000 in
theorem arm_held {X : xb_C} {D : va_G} {cI cC cZ cR : ClassId} {ad : Nat → Nat} {ha : Nat → Nat → Nat} {o0 : Nat} {ma : Nat → Nat} {sc L i : Nat} {xs : Nat → Int32} (C : xb_OK X cL_law wsL_law RL room_1 ret 4 (xb_ty cI cC cZ cR) D) (hX : xb_X X sc L xs) (hi : i + 4 ≤ L) (hL : L ≤ 2048) (G : lwC X cI cC cZ cR ad ha o0 ma [(0, .ref sc), (1, .ref (ad 0)), (2, .ref o0), (3, .int (nI i))] 704) : lwC X cI cC cZ cR ad ha o0 ma [(0, .ref sc), (1, .ref (ad 0)), (2, .ref o0), (3, .int (nI i))] 523 := by
  intro hs b t s hn pm hb K Dp Bt Sq se Sg ln at_ st ik le sp nu now thn pst snp txt hld far don tld dep bit R
  obtain ⟨v, hld', e5, e6⟩ := o_held R hld (xs (i + 1)) (xs (i + 2))
  refine xi_aload_n C dL_law_523 rfl 1 rfl ?_
  refine xi_aload_n C dL_law_524 rfl 0 rfl ?_
  refine xi_iload_n C dL_law_525 rfl 3 rfl ?_
  refine xi_iconst (v := nI 1) C dL_law_526 (by decide +kernel) ?_
  refine xi_iadd C dL_law_527 ?_
  refine xi_sld C hX (i + 1) (nI_add i 1) (by omega) (by omega) dL_law_528 ?_
  refine xi_aload_n C dL_law_529 rfl 0 rfl ?_
  refine xi_iload_n C dL_law_530 rfl 3 rfl ?_
  refine xi_iconst (v := nI 2) C dL_law_531 (by decide +kernel) ?_
  refine xi_iadd C dL_law_532 ?_
  refine xi_sld C hX (i + 2) (nI_add i 2) (by omega) (by omega) dL_law_533 ?_
  refine xi_callV (As := [.int (xs (i + 1)), .int (xs (i + 2))]) (o := some (.int v)) (rest := []) (wc := (W5 cI cC cR ad ha hs b t s hn pm hb K Dp Bt Sq se Sg ln at_)) (w1 := (W5 cI cC cR ad ha hs b t s hn pm hb K Dp Bt Sq se Sg ln at_)) (w2 := (W5 cI cC cR ad ha hs b t s hn pm hb K Dp Bt Sq se Sg ln at_) ++ (W6 cI cC cZ o0 ma st ik le sp nu now thn pst snp txt hld far don tld dep bit)) (st2 := [.int v]) C k_X5_held (m_X5_held D cI cC cZ cR ad ha hs b t s hn pm hb K Dp Bt Sq se Sg ln at_ (xs (i + 1)) (xs (i + 2)) v e5) gL_law_X5_held dL_law_534 ⟨Nat.le_of_ble_eq_true rfl, Nat.le_of_ble_eq_true rfl, Nat.le_of_ble_eq_true rfl⟩ 0 W5_h0 rfl (List.range 53) (xb_rgP _ _ 53 W5_len) (xb_nd_of _ List.nodup_range) [0, 1, 2, 3] rfl (W5_fst.trans W5_fst.symm) (xb_mixP 53 W5_len W5_len) rfl (Nat.le_of_ble_eq_true rfl) ⟨Nat.le_of_ble_eq_true rfl, Nat.le_of_ble_eq_true rfl⟩ rfl ?_
  refine xi_aload_n C dL_law_537 rfl 2 rfl ?_
  refine xi_aload_n C dL_law_538 rfl 0 rfl ?_
  refine xi_iload_n C dL_law_539 rfl 3 rfl ?_
  refine xi_iconst (v := nI 1) C dL_law_540 (by decide +kernel) ?_
  refine xi_iadd C dL_law_541 ?_
  refine xi_sld C hX (i + 1) (nI_add i 1) (by omega) (by omega) dL_law_542 ?_
  refine xi_aload_n C dL_law_543 rfl 0 rfl ?_
  refine xi_iload_n C dL_law_544 rfl 3 rfl ?_
  refine xi_iconst (v := nI 2) C dL_law_545 (by decide +kernel) ?_
  refine xi_iadd C dL_law_546 ?_
  refine xi_sld C hX (i + 2) (nI_add i 2) (by omega) (by omega) dL_law_547 ?_
  refine xi_callV (As := [.int (xs (i + 1)), .int (xs (i + 2))]) (o := some (.int v)) (rest := [.int v]) (wc := (W6 cI cC cZ o0 ma st ik le sp nu now thn pst snp txt hld far don tld dep bit)) (w1 := (W6 cI cC cZ o0 ma st ik le sp nu now thn pst snp txt hld' far don tld dep bit)) (w2 := (W5 cI cC cR ad ha hs b t s hn pm hb K Dp Bt Sq se Sg ln at_) ++ (W6 cI cC cZ o0 ma st ik le sp nu now thn pst snp txt hld' far don tld dep bit)) (st2 := [.int v, .int v]) C k_X6_held (m_X6_held D cI cC cZ cR o0 ma st ik le sp nu now thn pst snp txt hld far don tld dep bit (xs (i + 1)) (xs (i + 2)) v hld' e6) gL_law_X6_held dL_law_548 ⟨Nat.le_of_ble_eq_true rfl, Nat.le_of_ble_eq_true rfl, Nat.le_of_ble_eq_true rfl⟩ 53 (W6_h W5_len) rfl (List.range' 53 12) (xb_rgS _ _ 53 12 W5_len W6_len) (xb_nd_of _ List.nodup_range') [0, 1, 2, 3] rfl (W6_fst.trans W6_fst.symm) (xb_mixS 53 12 W5_len W6_len W6_len) rfl (Nat.le_of_ble_eq_true rfl) ⟨Nat.le_of_ble_eq_true rfl, Nat.le_of_ble_eq_true rfl⟩ rfl ?_
  exact xi_icmp_eq (tgt := 704) C dL_law_551 (by decide) (fun _ => G hs b t s hn pm hb K Dp Bt Sq se Sg ln at_ st ik le sp nu now thn pst snp txt hld' far don tld dep bit R) (fun c => absurd rfl c)
set_option maxHeartbeats 4000000 in
set_option maxRecDepth 100000 in
theorem arm_answer {X : xb_C} {D : va_G} {cI cC cZ cR : ClassId} {ad : Nat → Nat} {ha : Nat → Nat → Nat} {o0 : Nat} {ma : Nat → Nat} {sc L i : Nat} {xs : Nat → Int32} (C : xb_OK X cL_law wsL_law RL room_1 ret 4 (xb_ty cI cC cZ cR) D) (hX : xb_X X sc L xs) (hi : i + 4 ≤ L) (hL : L ≤ 2048) (G : lwC X cI cC cZ cR ad ha o0 ma [(0, .ref sc), (1, .ref (ad 0)), (2, .ref o0), (3, .int (nI i))] 704) : lwC X cI cC cZ cR ad ha o0 ma [(0, .ref sc), (1, .ref (ad 0)), (2, .ref o0), (3, .int (nI i))] 556 := by
  intro hs b t s hn pm hb K Dp Bt Sq se Sg ln at_ st ik le sp nu now thn pst snp txt hld far don tld dep bit R
  obtain ⟨v, Dp', Bt', Sq', se', dep', bit', e5, e6⟩ := o_answer R Dp Bt Sq dep bit se (xs (i + 1)) (xs (i + 2))
  refine xi_aload_n C dL_law_556 rfl 1 rfl ?_
  refine xi_aload_n C dL_law_557 rfl 0 rfl ?_
  refine xi_iload_n C dL_law_558 rfl 3 rfl ?_
  refine xi_iconst (v := nI 1) C dL_law_559 (by decide +kernel) ?_
  refine xi_iadd C dL_law_560 ?_
  refine xi_sld C hX (i + 1) (nI_add i 1) (by omega) (by omega) dL_law_561 ?_
  refine xi_aload_n C dL_law_562 rfl 0 rfl ?_
  refine xi_iload_n C dL_law_563 rfl 3 rfl ?_
  refine xi_iconst (v := nI 2) C dL_law_564 (by decide +kernel) ?_
  refine xi_iadd C dL_law_565 ?_
  refine xi_sld C hX (i + 2) (nI_add i 2) (by omega) (by omega) dL_law_566 ?_
  refine xi_callV (As := [.int (xs (i + 1)), .int (xs (i + 2))]) (o := some (.int v)) (rest := []) (wc := (W5 cI cC cR ad ha hs b t s hn pm hb K Dp Bt Sq se Sg ln at_)) (w1 := (W5 cI cC cR ad ha hs b t s hn pm hb K Dp' Bt' Sq' se' Sg ln at_)) (w2 := (W5 cI cC cR ad ha hs b t s hn pm hb K Dp' Bt' Sq' se' Sg ln at_) ++ (W6 cI cC cZ o0 ma st ik le sp nu now thn pst snp txt hld far don tld dep bit)) (st2 := [.int v]) C k_X5_answer (m_X5_answer D cI cC cZ cR ad ha hs b t s hn pm hb K Dp Bt Sq se Sg ln at_ (xs (i + 1)) (xs (i + 2)) v Dp' Bt' Sq' se' e5) gL_law_X5_answer dL_law_567 ⟨Nat.le_of_ble_eq_true rfl, Nat.le_of_ble_eq_true rfl, Nat.le_of_ble_eq_true rfl⟩ 0 W5_h0 rfl (List.range 53) (xb_rgP _ _ 53 W5_len) (xb_nd_of _ List.nodup_range) [0, 1, 2, 3] rfl (W5_fst.trans W5_fst.symm) (xb_mixP 53 W5_len W5_len) rfl (Nat.le_of_ble_eq_true rfl) ⟨Nat.le_of_ble_eq_true rfl, Nat.le_of_ble_eq_true rfl⟩ rfl ?_
  refine xi_aload_n C dL_law_570 rfl 2 rfl ?_
  refine xi_aload_n C dL_law_571 rfl 0 rfl ?_
  refine xi_iload_n C dL_law_572 rfl 3 rfl ?_
  refine xi_iconst (v := nI 1) C dL_law_573 (by decide +kernel) ?_
  refine xi_iadd C dL_law_574 ?_
  refine xi_sld C hX (i + 1) (nI_add i 1) (by omega) (by omega) dL_law_575 ?_
  refine xi_aload_n C dL_law_576 rfl 0 rfl ?_
  refine xi_iload_n C dL_law_577 rfl 3 rfl ?_
  refine xi_iconst (v := nI 2) C dL_law_578 (by decide +kernel) ?_
  refine xi_iadd C dL_law_579 ?_
  refine xi_sld C hX (i + 2) (nI_add i 2) (by omega) (by omega) dL_law_580 ?_
  refine xi_callV (As := [.int (xs (i + 1)), .int (xs (i + 2))]) (o := some (.int v)) (rest := [.int v]) (wc := (W6 cI cC cZ o0 ma st ik le sp nu now thn pst snp txt hld far don tld dep bit)) (w1 := (W6 cI cC cZ o0 ma st ik le sp nu now thn pst snp txt hld far don tld dep' bit')) (w2 := (W5 cI cC cR ad ha hs b t s hn pm hb K Dp' Bt' Sq' se' Sg ln at_) ++ (W6 cI cC cZ o0 ma st ik le sp nu now thn pst snp txt hld far don tld dep' bit')) (st2 := [.int v, .int v]) C k_X6_answer (m_X6_answer D cI cC cZ cR o0 ma st ik le sp nu now thn pst snp txt hld far don tld dep bit (xs (i + 1)) (xs (i + 2)) v dep' bit' e6) gL_law_X6_answer dL_law_581 ⟨Nat.le_of_ble_eq_true rfl, Nat.le_of_ble_eq_true rfl, Nat.le_of_ble_eq_true rfl⟩ 53 (W6_h W5_len) rfl (List.range' 53 12) (xb_rgS _ _ 53 12 W5_len W6_len) (xb_nd_of _ List.nodup_range') [0, 1, 2, 3] rfl (W6_fst.trans W6_fst.symm) (xb_mixS 53 12 W5_len W6_len W6_len) rfl (Nat.le_of_ble_eq_true rfl) ⟨Nat.le_of_ble_eq_true rfl, Nat.le_of_ble_eq_true rfl⟩ rfl ?_
  exact xi_icmp_eq (tgt := 704) C dL_law_584 (by decide) (fun _ => G hs b t s hn pm hb K Dp' Bt' Sq' se' Sg ln at_ st ik le sp nu now thn pst snp txt hld far don tld dep' bit' R) (fun c => absurd rfl c)
set_option maxHeartbeats 4000000 in
set_option maxRecDepth 100000 in
theorem arm_ones {X : xb_C} {D : va_G} {cI cC cZ cR : ClassId} {ad : Nat → Nat} {ha : Nat → Nat → Nat} {o0 : Nat} {ma : Nat → Nat} {sc L i : Nat} {xs : Nat → Int32} (C : xb_OK X cL_law wsL_law RL room_1 ret 4 (xb_ty cI cC cZ cR) D) (hX : xb_X X sc L xs) (hi : i + 4 ≤ L) (hL : L ≤ 2048) (G : lwC X cI cC cZ cR ad ha o0 ma [(0, .ref sc), (1, .ref (ad 0)), (2, .ref o0), (3, .int (nI i))] 704) : lwC X cI cC cZ cR ad ha o0 ma [(0, .ref sc), (1, .ref (ad 0)), (2, .ref o0), (3, .int (nI i))] 589 := by
  intro hs b t s hn pm hb K Dp Bt Sq se Sg ln at_ st ik le sp nu now thn pst snp txt hld far don tld dep bit R
  obtain ⟨v, Dp', Bt', Sq', se', dep', bit', e5, e6⟩ := o_ones R Dp Bt Sq dep bit se (xs (i + 1))
  refine xi_aload_n C dL_law_589 rfl 1 rfl ?_
  refine xi_aload_n C dL_law_590 rfl 0 rfl ?_
  refine xi_iload_n C dL_law_591 rfl 3 rfl ?_
  refine xi_iconst (v := nI 1) C dL_law_592 (by decide +kernel) ?_
  refine xi_iadd C dL_law_593 ?_
  refine xi_sld C hX (i + 1) (nI_add i 1) (by omega) (by omega) dL_law_594 ?_
  refine xi_callV (As := [.int (xs (i + 1))]) (o := some (.int v)) (rest := []) (wc := (W5 cI cC cR ad ha hs b t s hn pm hb K Dp Bt Sq se Sg ln at_)) (w1 := (W5 cI cC cR ad ha hs b t s hn pm hb K Dp' Bt' Sq' se' Sg ln at_)) (w2 := (W5 cI cC cR ad ha hs b t s hn pm hb K Dp' Bt' Sq' se' Sg ln at_) ++ (W6 cI cC cZ o0 ma st ik le sp nu now thn pst snp txt hld far don tld dep bit)) (st2 := [.int v]) C k_X5_ones (m_X5_ones D cI cC cZ cR ad ha hs b t s hn pm hb K Dp Bt Sq se Sg ln at_ (xs (i + 1)) v Dp' Bt' Sq' se' e5) gL_law_X5_ones dL_law_595 ⟨Nat.le_of_ble_eq_true rfl, Nat.le_of_ble_eq_true rfl, Nat.le_of_ble_eq_true rfl⟩ 0 W5_h0 rfl (List.range 53) (xb_rgP _ _ 53 W5_len) (xb_nd_of _ List.nodup_range) [0, 1, 2, 3] rfl (W5_fst.trans W5_fst.symm) (xb_mixP 53 W5_len W5_len) rfl (Nat.le_of_ble_eq_true rfl) ⟨Nat.le_of_ble_eq_true rfl, Nat.le_of_ble_eq_true rfl⟩ rfl ?_
  refine xi_aload_n C dL_law_598 rfl 2 rfl ?_
  refine xi_aload_n C dL_law_599 rfl 0 rfl ?_
  refine xi_iload_n C dL_law_600 rfl 3 rfl ?_
  refine xi_iconst (v := nI 1) C dL_law_601 (by decide +kernel) ?_
  refine xi_iadd C dL_law_602 ?_
  refine xi_sld C hX (i + 1) (nI_add i 1) (by omega) (by omega) dL_law_603 ?_
  refine xi_callV (As := [.int (xs (i + 1))]) (o := some (.int v)) (rest := [.int v]) (wc := (W6 cI cC cZ o0 ma st ik le sp nu now thn pst snp txt hld far don tld dep bit)) (w1 := (W6 cI cC cZ o0 ma st ik le sp nu now thn pst snp txt hld far don tld dep' bit')) (w2 := (W5 cI cC cR ad ha hs b t s hn pm hb K Dp' Bt' Sq' se' Sg ln at_) ++ (W6 cI cC cZ o0 ma st ik le sp nu now thn pst snp txt hld far don tld dep' bit')) (st2 := [.int v, .int v]) C k_X6_ones (m_X6_ones D cI cC cZ cR o0 ma st ik le sp nu now thn pst snp txt hld far don tld dep bit (xs (i + 1)) v dep' bit' e6) gL_law_X6_ones dL_law_604 ⟨Nat.le_of_ble_eq_true rfl, Nat.le_of_ble_eq_true rfl, Nat.le_of_ble_eq_true rfl⟩ 53 (W6_h W5_len) rfl (List.range' 53 12) (xb_rgS _ _ 53 12 W5_len W6_len) (xb_nd_of _ List.nodup_range') [0, 1, 2, 3] rfl (W6_fst.trans W6_fst.symm) (xb_mixS 53 12 W5_len W6_len W6_len) rfl (Nat.le_of_ble_eq_true rfl) ⟨Nat.le_of_ble_eq_true rfl, Nat.le_of_ble_eq_true rfl⟩ rfl ?_
  exact xi_icmp_eq (tgt := 704) C dL_law_607 (by decide) (fun _ => G hs b t s hn pm hb K Dp' Bt' Sq' se' Sg ln at_ st ik le sp nu now thn pst snp txt hld far don tld dep' bit' R) (fun c => absurd rfl c)
set_option maxHeartbeats 4000000 in
set_option maxRecDepth 100000 in
theorem arm_ifSwap {X : xb_C} {D : va_G} {cI cC cZ cR : ClassId} {ad : Nat → Nat} {ha : Nat → Nat → Nat} {o0 : Nat} {ma : Nat → Nat} {sc L i : Nat} {xs : Nat → Int32} (C : xb_OK X cL_law wsL_law RL room_1 ret 4 (xb_ty cI cC cZ cR) D) (hX : xb_X X sc L xs) (hi : i + 4 ≤ L) (hL : L ≤ 2048) (G : lwC X cI cC cZ cR ad ha o0 ma [(0, .ref sc), (1, .ref (ad 0)), (2, .ref o0), (3, .int (nI i))] 704) : lwC X cI cC cZ cR ad ha o0 ma [(0, .ref sc), (1, .ref (ad 0)), (2, .ref o0), (3, .int (nI i))] 612 := by
  intro hs b t s hn pm hb K Dp Bt Sq se Sg ln at_ st ik le sp nu now thn pst snp txt hld far don tld dep bit R
  obtain ⟨v, t', K', thn', hld', far', don', e5, e6⟩ := o_ifSwap R t K thn hld far don (xs (i + 1)) (xs (i + 2))
  refine xi_aload_n C dL_law_612 rfl 1 rfl ?_
  refine xi_aload_n C dL_law_613 rfl 0 rfl ?_
  refine xi_iload_n C dL_law_614 rfl 3 rfl ?_
  refine xi_iconst (v := nI 1) C dL_law_615 (by decide +kernel) ?_
  refine xi_iadd C dL_law_616 ?_
  refine xi_sld C hX (i + 1) (nI_add i 1) (by omega) (by omega) dL_law_617 ?_
  refine xi_aload_n C dL_law_618 rfl 0 rfl ?_
  refine xi_iload_n C dL_law_619 rfl 3 rfl ?_
  refine xi_iconst (v := nI 2) C dL_law_620 (by decide +kernel) ?_
  refine xi_iadd C dL_law_621 ?_
  refine xi_sld C hX (i + 2) (nI_add i 2) (by omega) (by omega) dL_law_622 ?_
  refine xi_callV (As := [.int (xs (i + 1)), .int (xs (i + 2))]) (o := some (.int v)) (rest := []) (wc := (W5 cI cC cR ad ha hs b t s hn pm hb K Dp Bt Sq se Sg ln at_)) (w1 := (W5 cI cC cR ad ha hs b t' s hn pm hb K' Dp Bt Sq se Sg ln at_)) (w2 := (W5 cI cC cR ad ha hs b t' s hn pm hb K' Dp Bt Sq se Sg ln at_) ++ (W6 cI cC cZ o0 ma st ik le sp nu now thn pst snp txt hld far don tld dep bit)) (st2 := [.int v]) C k_X5_ifSwap (m_X5_ifSwap D cI cC cZ cR ad ha hs b t s hn pm hb K Dp Bt Sq se Sg ln at_ (xs (i + 1)) (xs (i + 2)) v t' K' e5) gL_law_X5_ifSwap dL_law_623 ⟨Nat.le_of_ble_eq_true rfl, Nat.le_of_ble_eq_true rfl, Nat.le_of_ble_eq_true rfl⟩ 0 W5_h0 rfl (List.range 53) (xb_rgP _ _ 53 W5_len) (xb_nd_of _ List.nodup_range) [0, 1, 2, 3] rfl (W5_fst.trans W5_fst.symm) (xb_mixP 53 W5_len W5_len) rfl (Nat.le_of_ble_eq_true rfl) ⟨Nat.le_of_ble_eq_true rfl, Nat.le_of_ble_eq_true rfl⟩ rfl ?_
  refine xi_aload_n C dL_law_626 rfl 2 rfl ?_
  refine xi_aload_n C dL_law_627 rfl 0 rfl ?_
  refine xi_iload_n C dL_law_628 rfl 3 rfl ?_
  refine xi_iconst (v := nI 1) C dL_law_629 (by decide +kernel) ?_
  refine xi_iadd C dL_law_630 ?_
  refine xi_sld C hX (i + 1) (nI_add i 1) (by omega) (by omega) dL_law_631 ?_
  refine xi_aload_n C dL_law_632 rfl 0 rfl ?_
  refine xi_iload_n C dL_law_633 rfl 3 rfl ?_
  refine xi_iconst (v := nI 2) C dL_law_634 (by decide +kernel) ?_
  refine xi_iadd C dL_law_635 ?_
  refine xi_sld C hX (i + 2) (nI_add i 2) (by omega) (by omega) dL_law_636 ?_
  refine xi_callV (As := [.int (xs (i + 1)), .int (xs (i + 2))]) (o := some (.int v)) (rest := [.int v]) (wc := (W6 cI cC cZ o0 ma st ik le sp nu now thn pst snp txt hld far don tld dep bit)) (w1 := (W6 cI cC cZ o0 ma st ik le sp nu now thn' pst snp txt hld' far' don' tld dep bit)) (w2 := (W5 cI cC cR ad ha hs b t' s hn pm hb K' Dp Bt Sq se Sg ln at_) ++ (W6 cI cC cZ o0 ma st ik le sp nu now thn' pst snp txt hld' far' don' tld dep bit)) (st2 := [.int v, .int v]) C k_X6_ifSwap (m_X6_ifSwap D cI cC cZ cR o0 ma st ik le sp nu now thn pst snp txt hld far don tld dep bit (xs (i + 1)) (xs (i + 2)) v thn' hld' far' don' e6) gL_law_X6_ifSwap dL_law_637 ⟨Nat.le_of_ble_eq_true rfl, Nat.le_of_ble_eq_true rfl, Nat.le_of_ble_eq_true rfl⟩ 53 (W6_h W5_len) rfl (List.range' 53 12) (xb_rgS _ _ 53 12 W5_len W6_len) (xb_nd_of _ List.nodup_range') [0, 1, 2, 3] rfl (W6_fst.trans W6_fst.symm) (xb_mixS 53 12 W5_len W6_len W6_len) rfl (Nat.le_of_ble_eq_true rfl) ⟨Nat.le_of_ble_eq_true rfl, Nat.le_of_ble_eq_true rfl⟩ rfl ?_
  exact xi_icmp_eq (tgt := 704) C dL_law_640 (by decide) (fun _ => G hs b t' s hn pm hb K' Dp Bt Sq se Sg ln at_ st ik le sp nu now thn' pst snp txt hld' far' don' tld dep bit R) (fun c => absurd rfl c)
set_option maxHeartbeats 4000000 in
set_option maxRecDepth 100000 in
theorem arm_bestSwap {X : xb_C} {D : va_G} {cI cC cZ cR : ClassId} {ad : Nat → Nat} {ha : Nat → Nat → Nat} {o0 : Nat} {ma : Nat → Nat} {sc L i : Nat} {xs : Nat → Int32} (C : xb_OK X cL_law wsL_law RL room_1 ret 4 (xb_ty cI cC cZ cR) D) (hX : xb_X X sc L xs) (hi : i + 4 ≤ L) (hL : L ≤ 2048) (G : lwC X cI cC cZ cR ad ha o0 ma [(0, .ref sc), (1, .ref (ad 0)), (2, .ref o0), (3, .int (nI i))] 704) : lwC X cI cC cZ cR ad ha o0 ma [(0, .ref sc), (1, .ref (ad 0)), (2, .ref o0), (3, .int (nI i))] 645 := by
  intro hs b t s hn pm hb K Dp Bt Sq se Sg ln at_ st ik le sp nu now thn pst snp txt hld far don tld dep bit R
  obtain ⟨v, t', K', thn', hld', far', don', e5, e6⟩ := o_bestSwap R t K thn hld far don (xs (i + 1))
  refine xi_aload_n C dL_law_645 rfl 1 rfl ?_
  refine xi_aload_n C dL_law_646 rfl 0 rfl ?_
  refine xi_iload_n C dL_law_647 rfl 3 rfl ?_
  refine xi_iconst (v := nI 1) C dL_law_648 (by decide +kernel) ?_
  refine xi_iadd C dL_law_649 ?_
  refine xi_sld C hX (i + 1) (nI_add i 1) (by omega) (by omega) dL_law_650 ?_
  refine xi_callV (As := [.int (xs (i + 1))]) (o := some (.int v)) (rest := []) (wc := (W5 cI cC cR ad ha hs b t s hn pm hb K Dp Bt Sq se Sg ln at_)) (w1 := (W5 cI cC cR ad ha hs b t' s hn pm hb K' Dp Bt Sq se Sg ln at_)) (w2 := (W5 cI cC cR ad ha hs b t' s hn pm hb K' Dp Bt Sq se Sg ln at_) ++ (W6 cI cC cZ o0 ma st ik le sp nu now thn pst snp txt hld far don tld dep bit)) (st2 := [.int v]) C k_X5_bestSwap (m_X5_bestSwap D cI cC cZ cR ad ha hs b t s hn pm hb K Dp Bt Sq se Sg ln at_ (xs (i + 1)) v t' K' e5) gL_law_X5_bestSwap dL_law_651 ⟨Nat.le_of_ble_eq_true rfl, Nat.le_of_ble_eq_true rfl, Nat.le_of_ble_eq_true rfl⟩ 0 W5_h0 rfl (List.range 53) (xb_rgP _ _ 53 W5_len) (xb_nd_of _ List.nodup_range) [0, 1, 2, 3] rfl (W5_fst.trans W5_fst.symm) (xb_mixP 53 W5_len W5_len) rfl (Nat.le_of_ble_eq_true rfl) ⟨Nat.le_of_ble_eq_true rfl, Nat.le_of_ble_eq_true rfl⟩ rfl ?_
  refine xi_aload_n C dL_law_654 rfl 2 rfl ?_
  refine xi_aload_n C dL_law_655 rfl 0 rfl ?_
  refine xi_iload_n C dL_law_656 rfl 3 rfl ?_
  refine xi_iconst (v := nI 1) C dL_law_657 (by decide +kernel) ?_
  refine xi_iadd C dL_law_658 ?_
  refine xi_sld C hX (i + 1) (nI_add i 1) (by omega) (by omega) dL_law_659 ?_
  refine xi_callV (As := [.int (xs (i + 1))]) (o := some (.int v)) (rest := [.int v]) (wc := (W6 cI cC cZ o0 ma st ik le sp nu now thn pst snp txt hld far don tld dep bit)) (w1 := (W6 cI cC cZ o0 ma st ik le sp nu now thn' pst snp txt hld' far' don' tld dep bit)) (w2 := (W5 cI cC cR ad ha hs b t' s hn pm hb K' Dp Bt Sq se Sg ln at_) ++ (W6 cI cC cZ o0 ma st ik le sp nu now thn' pst snp txt hld' far' don' tld dep bit)) (st2 := [.int v, .int v]) C k_X6_bestSwap (m_X6_bestSwap D cI cC cZ cR o0 ma st ik le sp nu now thn pst snp txt hld far don tld dep bit (xs (i + 1)) v thn' hld' far' don' e6) gL_law_X6_bestSwap dL_law_660 ⟨Nat.le_of_ble_eq_true rfl, Nat.le_of_ble_eq_true rfl, Nat.le_of_ble_eq_true rfl⟩ 53 (W6_h W5_len) rfl (List.range' 53 12) (xb_rgS _ _ 53 12 W5_len W6_len) (xb_nd_of _ List.nodup_range') [0, 1, 2, 3] rfl (W6_fst.trans W6_fst.symm) (xb_mixS 53 12 W5_len W6_len W6_len) rfl (Nat.le_of_ble_eq_true rfl) ⟨Nat.le_of_ble_eq_true rfl, Nat.le_of_ble_eq_true rfl⟩ rfl ?_
  exact xi_icmp_eq (tgt := 704) C dL_law_663 (by decide) (fun _ => G hs b t' s hn pm hb K' Dp Bt Sq se Sg ln at_ st ik le sp nu now thn' pst snp txt hld' far' don' tld dep bit R) (fun c => absurd rfl c)
set_option maxHeartbeats 4000000 in
set_option maxRecDepth 100000 in
theorem arm_bestOrder {X : xb_C} {D : va_G} {cI cC cZ cR : ClassId} {ad : Nat → Nat} {ha : Nat → Nat → Nat} {o0 : Nat} {ma : Nat → Nat} {sc L i : Nat} {xs : Nat → Int32} (C : xb_OK X cL_law wsL_law RL room_1 ret 4 (xb_ty cI cC cZ cR) D) (hX : xb_X X sc L xs) (hi : i + 4 ≤ L) (hL : L ≤ 2048) (G : lwC X cI cC cZ cR ad ha o0 ma [(0, .ref sc), (1, .ref (ad 0)), (2, .ref o0), (3, .int (nI i))] 704) : lwC X cI cC cZ cR ad ha o0 ma [(0, .ref sc), (1, .ref (ad 0)), (2, .ref o0), (3, .int (nI i))] 668 := by
  intro hs b t s hn pm hb K Dp Bt Sq se Sg ln at_ st ik le sp nu now thn pst snp txt hld far don tld dep bit R
  obtain ⟨v, t', K', thn', hld', far', don', e5, e6⟩ := o_bestOrder R t K thn hld far don
  refine xi_aload_n C dL_law_668 rfl 1 rfl ?_
  refine xi_callV (As := []) (o := some (.int v)) (rest := []) (wc := (W5 cI cC cR ad ha hs b t s hn pm hb K Dp Bt Sq se Sg ln at_)) (w1 := (W5 cI cC cR ad ha hs b t' s hn pm hb K' Dp Bt Sq se Sg ln at_)) (w2 := (W5 cI cC cR ad ha hs b t' s hn pm hb K' Dp Bt Sq se Sg ln at_) ++ (W6 cI cC cZ o0 ma st ik le sp nu now thn pst snp txt hld far don tld dep bit)) (st2 := [.int v]) C k_X5_bestOrder (m_X5_bestOrder D cI cC cZ cR ad ha hs b t s hn pm hb K Dp Bt Sq se Sg ln at_ v t' K' e5) gL_law_X5_bestOrder dL_law_669 ⟨Nat.le_of_ble_eq_true rfl, Nat.le_of_ble_eq_true rfl, Nat.le_of_ble_eq_true rfl⟩ 0 W5_h0 rfl (List.range 53) (xb_rgP _ _ 53 W5_len) (xb_nd_of _ List.nodup_range) [0, 1, 2, 3] rfl (W5_fst.trans W5_fst.symm) (xb_mixP 53 W5_len W5_len) rfl (Nat.le_of_ble_eq_true rfl) ⟨Nat.le_of_ble_eq_true rfl, Nat.le_of_ble_eq_true rfl⟩ rfl ?_
  refine xi_aload_n C dL_law_672 rfl 2 rfl ?_
  refine xi_callV (As := []) (o := some (.int v)) (rest := [.int v]) (wc := (W6 cI cC cZ o0 ma st ik le sp nu now thn pst snp txt hld far don tld dep bit)) (w1 := (W6 cI cC cZ o0 ma st ik le sp nu now thn' pst snp txt hld' far' don' tld dep bit)) (w2 := (W5 cI cC cR ad ha hs b t' s hn pm hb K' Dp Bt Sq se Sg ln at_) ++ (W6 cI cC cZ o0 ma st ik le sp nu now thn' pst snp txt hld' far' don' tld dep bit)) (st2 := [.int v, .int v]) C k_X6_bestOrder (m_X6_bestOrder D cI cC cZ cR o0 ma st ik le sp nu now thn pst snp txt hld far don tld dep bit v thn' hld' far' don' e6) gL_law_X6_bestOrder dL_law_673 ⟨Nat.le_of_ble_eq_true rfl, Nat.le_of_ble_eq_true rfl, Nat.le_of_ble_eq_true rfl⟩ 53 (W6_h W5_len) rfl (List.range' 53 12) (xb_rgS _ _ 53 12 W5_len W6_len) (xb_nd_of _ List.nodup_range') [0, 1, 2, 3] rfl (W6_fst.trans W6_fst.symm) (xb_mixS 53 12 W5_len W6_len W6_len) rfl (Nat.le_of_ble_eq_true rfl) ⟨Nat.le_of_ble_eq_true rfl, Nat.le_of_ble_eq_true rfl⟩ rfl ?_
  exact xi_icmp_eq (tgt := 704) C dL_law_676 (by decide) (fun _ => G hs b t' s hn pm hb K' Dp Bt Sq se Sg ln at_ st ik le sp nu now thn' pst snp txt hld' far' don' tld dep bit R) (fun c => absurd rfl c)
set_option maxHeartbeats 4000000 in
set_option maxRecDepth 100000 in
theorem arm_count {X : xb_C} {D : va_G} {cI cC cZ cR : ClassId} {ad : Nat → Nat} {ha : Nat → Nat → Nat} {o0 : Nat} {ma : Nat → Nat} {sc L i : Nat} {xs : Nat → Int32} (C : xb_OK X cL_law wsL_law RL room_1 ret 4 (xb_ty cI cC cZ cR) D) (hX : xb_X X sc L xs) (hi : i + 4 ≤ L) (hL : L ≤ 2048) (G : lwC X cI cC cZ cR ad ha o0 ma [(0, .ref sc), (1, .ref (ad 0)), (2, .ref o0), (3, .int (nI i))] 704) : lwC X cI cC cZ cR ad ha o0 ma [(0, .ref sc), (1, .ref (ad 0)), (2, .ref o0), (3, .int (nI i))] 681 := by
  intro hs b t s hn pm hb K Dp Bt Sq se Sg ln at_ st ik le sp nu now thn pst snp txt hld far don tld dep bit R
  obtain ⟨v, Dp', Sq', se', hld', dep', bit', e5, e6⟩ := o_count R Dp Sq dep bit hld se (xs (i + 1))
  refine xi_aload_n C dL_law_681 rfl 1 rfl ?_
  refine xi_aload_n C dL_law_682 rfl 0 rfl ?_
  refine xi_iload_n C dL_law_683 rfl 3 rfl ?_
  refine xi_iconst (v := nI 1) C dL_law_684 (by decide +kernel) ?_
  refine xi_iadd C dL_law_685 ?_
  refine xi_sld C hX (i + 1) (nI_add i 1) (by omega) (by omega) dL_law_686 ?_
  refine xi_callV (As := [.int (xs (i + 1))]) (o := some (.int v)) (rest := []) (wc := (W5 cI cC cR ad ha hs b t s hn pm hb K Dp Bt Sq se Sg ln at_)) (w1 := (W5 cI cC cR ad ha hs b t s hn pm hb K Dp' Bt Sq' se' Sg ln at_)) (w2 := (W5 cI cC cR ad ha hs b t s hn pm hb K Dp' Bt Sq' se' Sg ln at_) ++ (W6 cI cC cZ o0 ma st ik le sp nu now thn pst snp txt hld far don tld dep bit)) (st2 := [.int v]) C k_X5_count (m_X5_count D cI cC cZ cR ad ha hs b t s hn pm hb K Dp Bt Sq se Sg ln at_ (xs (i + 1)) v Dp' Sq' se' e5) gL_law_X5_count dL_law_687 ⟨Nat.le_of_ble_eq_true rfl, Nat.le_of_ble_eq_true rfl, Nat.le_of_ble_eq_true rfl⟩ 0 W5_h0 rfl (List.range 53) (xb_rgP _ _ 53 W5_len) (xb_nd_of _ List.nodup_range) [0, 1, 2, 3] rfl (W5_fst.trans W5_fst.symm) (xb_mixP 53 W5_len W5_len) rfl (Nat.le_of_ble_eq_true rfl) ⟨Nat.le_of_ble_eq_true rfl, Nat.le_of_ble_eq_true rfl⟩ rfl ?_
  refine xi_aload_n C dL_law_690 rfl 2 rfl ?_
  refine xi_aload_n C dL_law_691 rfl 0 rfl ?_
  refine xi_iload_n C dL_law_692 rfl 3 rfl ?_
  refine xi_iconst (v := nI 1) C dL_law_693 (by decide +kernel) ?_
  refine xi_iadd C dL_law_694 ?_
  refine xi_sld C hX (i + 1) (nI_add i 1) (by omega) (by omega) dL_law_695 ?_
  refine xi_callV (As := [.int (xs (i + 1))]) (o := some (.int v)) (rest := [.int v]) (wc := (W6 cI cC cZ o0 ma st ik le sp nu now thn pst snp txt hld far don tld dep bit)) (w1 := (W6 cI cC cZ o0 ma st ik le sp nu now thn pst snp txt hld' far don tld dep' bit')) (w2 := (W5 cI cC cR ad ha hs b t s hn pm hb K Dp' Bt Sq' se' Sg ln at_) ++ (W6 cI cC cZ o0 ma st ik le sp nu now thn pst snp txt hld' far don tld dep' bit')) (st2 := [.int v, .int v]) C k_X6_count (m_X6_count D cI cC cZ cR o0 ma st ik le sp nu now thn pst snp txt hld far don tld dep bit (xs (i + 1)) v hld' dep' bit' e6) gL_law_X6_count dL_law_696 ⟨Nat.le_of_ble_eq_true rfl, Nat.le_of_ble_eq_true rfl, Nat.le_of_ble_eq_true rfl⟩ 53 (W6_h W5_len) rfl (List.range' 53 12) (xb_rgS _ _ 53 12 W5_len W6_len) (xb_nd_of _ List.nodup_range') [0, 1, 2, 3] rfl (W6_fst.trans W6_fst.symm) (xb_mixS 53 12 W5_len W6_len W6_len) rfl (Nat.le_of_ble_eq_true rfl) ⟨Nat.le_of_ble_eq_true rfl, Nat.le_of_ble_eq_true rfl⟩ rfl ?_
  exact xi_icmp_eq (tgt := 704) C dL_law_699 (by decide) (fun _ => G hs b t s hn pm hb K Dp' Bt Sq' se' Sg ln at_ st ik le sp nu now thn pst snp txt hld' far don tld dep' bit' R) (fun c => absurd rfl c)
theorem lw_sub {i L : Nat} (hi : i < 2 ^ 31) (hL : L ≤ 2048) (h : ¬ nI L - nI 4 < nI i) : i + 4 ≤ L := by
  have h1 : (nI i).toInt ≤ (nI L - nI 4).toInt := Int32.le_iff_toInt_le.mp (Int32.not_lt.mp h)
  rw [nI_toInt hi, Int32.toInt_sub, nI_toInt (by omega), nI_toInt (by omega)] at h1
  have h2 : (((L : Int) - (4 : Nat)).bmod (2 ^ 32)) = (L : Int) - 4 := by
    rw [Int.bmod_def]
    omega
  omega
set_option maxHeartbeats 4000000 in
set_option maxRecDepth 100000 in
theorem law_loop {X : xb_C} {D : va_G} {cI cC cZ cR : ClassId} {ad : Nat → Nat} {ha : Nat → Nat → Nat} {o0 : Nat} {ma : Nat → Nat} {sc L : Nat} {xs : Nat → Int32} (C : xb_OK X cL_law wsL_law RL room_1 ret 4 (xb_ty cI cC cZ cR) D) (hX : xb_X X sc L xs) (Z : xb_Law X sc) (hL : L ≤ 2048) : ∀ (n i : Nat), L < i + n → i ≤ 4096 → lwC X cI cC cZ cR ad ha o0 ma [(0, .ref sc), (1, .ref (ad 0)), (2, .ref o0), (3, .int (nI i))] 18 := by
  intro n
  induction n with
  | zero =>
    intro i
    intro h1 h2 hs b t s hn pm hb K Dp Bt Sq se Sg ln at_ st ik le sp nu now thn pst snp txt hld far don tld dep bit R
    refine xi_iload_n C dL_law_18 rfl 3 rfl ?_
    refine xi_aload_n C dL_law_19 rfl 0 rfl ?_
    refine xi_slen C hX dL_law_20 ?_
    refine xi_iconst (v := nI 4) C dL_law_21 (by decide +kernel) ?_
    refine xi_isub C dL_law_22 ?_
    refine xi_icmp_gt (tgt := 710) C dL_law_23 (by decide) (fun _ => ?_) (fun c => ?_)
    · refine xi_iconst (v := 1) C dL_law_710 (by decide +kernel) ?_
      exact xi_lawret C Z (Nat.le_of_ble_eq_true rfl) (Nat.le_of_ble_eq_true rfl) dL_law_711
    · exact absurd (lw_sub (by omega) hL c) (by omega)
  | succ n ih =>
    intro i
    intro h1 h2 hs b t s hn pm hb K Dp Bt Sq se Sg ln at_ st ik le sp nu now thn pst snp txt hld far don tld dep bit R
    refine xi_iload_n C dL_law_18 rfl 3 rfl ?_
    refine xi_aload_n C dL_law_19 rfl 0 rfl ?_
    refine xi_slen C hX dL_law_20 ?_
    refine xi_iconst (v := nI 4) C dL_law_21 (by decide +kernel) ?_
    refine xi_isub C dL_law_22 ?_
    refine xi_icmp_gt (tgt := 710) C dL_law_23 (by decide) (fun _ => ?_) (fun c => ?_)
    · refine xi_iconst (v := 1) C dL_law_710 (by decide +kernel) ?_
      exact xi_lawret C Z (Nat.le_of_ble_eq_true rfl) (Nat.le_of_ble_eq_true rfl) dL_law_711
    · have hi : i + 4 ≤ L := lw_sub (by omega) hL c
      have G : lwC X cI cC cZ cR ad ha o0 ma [(0, .ref sc), (1, .ref (ad 0)), (2, .ref o0), (3, .int (nI i))] 704 := by
        intro hs b t s hn pm hb K Dp Bt Sq se Sg ln at_ st ik le sp nu now thn pst snp txt hld far don tld dep bit R
        refine xi_iinc (v := nI (i + 4)) (lv2 := [(0, .ref sc), (1, .ref (ad 0)), (2, .ref o0), (3, .int (nI (i + 4)))]) C dL_law_704 3 rfl (nI_add i 4) (by decide) [0, 1, 2] [1, 2, 3, 0] rfl ?_
        refine xi_goto (tgt := 18) C dL_law_707 (by decide) ?_
        exact ih (i + 4) (by omega) (by omega) hs b t s hn pm hb K Dp Bt Sq se Sg ln at_ st ik le sp nu now thn pst snp txt hld far don tld dep bit R
      refine xi_aload_n C dL_law_26 rfl 0 rfl ?_
      refine xi_iload_n C dL_law_27 rfl 3 rfl ?_
      refine xi_sld C hX i rfl (by omega) (by omega) dL_law_28 ?_
      refine xi_bipush (v := 31) C dL_law_29 (by decide +kernel) ?_
      refine xi_iand C dL_law_31 ?_
      generalize (xs i &&& 31) = y
      by_cases c0 : y = nI 0
      · refine xi_tabIn (off := 104) (tgt := 136) C (nI 0) c0 dL_law_32 (by decide +kernel) (by decide +kernel) (by decide +kernel) (by decide) ?_
        exact arm_put C hX hi hL G hs b t s hn pm hb K Dp Bt Sq se Sg ln at_ st ik le sp nu now thn pst snp txt hld far don tld dep bit R
      by_cases c1 : y = nI 1
      · refine xi_tabIn (off := 137) (tgt := 169) C (nI 1) c1 dL_law_32 (by decide +kernel) (by decide +kernel) (by decide +kernel) (by decide) ?_
        exact arm_take C hX hi hL G hs b t s hn pm hb K Dp Bt Sq se Sg ln at_ st ik le sp nu now thn pst snp txt hld far don tld dep bit R
      by_cases c2 : y = nI 2
      · refine xi_tabIn (off := 160) (tgt := 192) C (nI 2) c2 dL_law_32 (by decide +kernel) (by decide +kernel) (by decide +kernel) (by decide) ?_
        exact arm_setTable C hX hi hL G hs b t s hn pm hb K Dp Bt Sq se Sg ln at_ st ik le sp nu now thn pst snp txt hld far don tld dep bit R
      by_cases c3 : y = nI 3
      · refine xi_tabIn (off := 193) (tgt := 225) C (nI 3) c3 dL_law_32 (by decide +kernel) (by decide +kernel) (by decide +kernel) (by decide) ?_
        exact arm_connect C hX hi hL G hs b t s hn pm hb K Dp Bt Sq se Sg ln at_ st ik le sp nu now thn pst snp txt hld far don tld dep bit R
      by_cases c4 : y = nI 4
      · refine xi_tabIn (off := 236) (tgt := 268) C (nI 4) c4 dL_law_32 (by decide +kernel) (by decide +kernel) (by decide +kernel) (by decide) ?_
        exact arm_swap C hX hi hL G hs b t s hn pm hb K Dp Bt Sq se Sg ln at_ st ik le sp nu now thn pst snp txt hld far don tld dep bit R
      by_cases c5 : y = nI 5
      · refine xi_tabIn (off := 269) (tgt := 301) C (nI 5) c5 dL_law_32 (by decide +kernel) (by decide +kernel) (by decide +kernel) (by decide) ?_
        exact arm_layAnew C hX hi hL G hs b t s hn pm hb K Dp Bt Sq se Sg ln at_ st ik le sp nu now thn pst snp txt hld far don tld dep bit R
      by_cases c6 : y = nI 6
      · refine xi_tabIn (off := 292) (tgt := 324) C (nI 6) c6 dL_law_32 (by decide +kernel) (by decide +kernel) (by decide +kernel) (by decide) ?_
        exact arm_set C hX hi hL G hs b t s hn pm hb K Dp Bt Sq se Sg ln at_ st ik le sp nu now thn pst snp txt hld far don tld dep bit R
      by_cases c7 : y = nI 7
      · refine xi_tabIn (off := 325) (tgt := 357) C (nI 7) c7 dL_law_32 (by decide +kernel) (by decide +kernel) (by decide +kernel) (by decide) ?_
        exact arm_load C hX hi hL G hs b t s hn pm hb K Dp Bt Sq se Sg ln at_ st ik le sp nu now thn pst snp txt hld far don tld dep bit R
      by_cases c8 : y = nI 8
      · refine xi_tabIn (off := 338) (tgt := 370) C (nI 8) c8 dL_law_32 (by decide +kernel) (by decide +kernel) (by decide +kernel) (by decide) ?_
        exact arm_type C hX hi hL G hs b t s hn pm hb K Dp Bt Sq se Sg ln at_ st ik le sp nu now thn pst snp txt hld far don tld dep bit R
      by_cases c9 : y = nI 9
      · refine xi_tabIn (off := 363) (tgt := 395) C (nI 9) c9 dL_law_32 (by decide +kernel) (by decide +kernel) (by decide +kernel) (by decide) ?_
        exact arm_clearText C hX hi hL G hs b t s hn pm hb K Dp Bt Sq se Sg ln at_ st ik le sp nu now thn pst snp txt hld far don tld dep bit R
      by_cases c10 : y = nI 10
      · refine xi_tabIn (off := 376) (tgt := 408) C (nI 10) c10 dL_law_32 (by decide +kernel) (by decide +kernel) (by decide +kernel) (by decide) ?_
        exact arm_undo C hX hi hL G hs b t s hn pm hb K Dp Bt Sq se Sg ln at_ st ik le sp nu now thn pst snp txt hld far don tld dep bit R
      by_cases c11 : y = nI 11
      · refine xi_tabIn (off := 389) (tgt := 421) C (nI 11) c11 dL_law_32 (by decide +kernel) (by decide +kernel) (by decide +kernel) (by decide) ?_
        exact arm_keep C hX hi hL G hs b t s hn pm hb K Dp Bt Sq se Sg ln at_ st ik le sp nu now thn pst snp txt hld far don tld dep bit R
      by_cases c12 : y = nI 12
      · refine xi_tabIn (off := 402) (tgt := 434) C (nI 12) c12 dL_law_32 (by decide +kernel) (by decide +kernel) (by decide +kernel) (by decide) ?_
        exact arm_restore C hX hi hL G hs b t s hn pm hb K Dp Bt Sq se Sg ln at_ st ik le sp nu now thn pst snp txt hld far don tld dep bit R
      by_cases c13 : y = nI 13
      · refine xi_tabIn (off := 415) (tgt := 447) C (nI 13) c13 dL_law_32 (by decide +kernel) (by decide +kernel) (by decide +kernel) (by decide) ?_
        exact arm_cell C hX hi hL G hs b t s hn pm hb K Dp Bt Sq se Sg ln at_ st ik le sp nu now thn pst snp txt hld far don tld dep bit R
      by_cases c14 : y = nI 14
      · refine xi_tabIn (off := 448) (tgt := 480) C (nI 14) c14 dL_law_32 (by decide +kernel) (by decide +kernel) (by decide +kernel) (by decide) ?_
        exact arm_path C hX hi hL G hs b t s hn pm hb K Dp Bt Sq se Sg ln at_ st ik le sp nu now thn pst snp txt hld far don tld dep bit R
      by_cases c15 : y = nI 15
      · refine xi_tabIn (off := 491) (tgt := 523) C (nI 15) c15 dL_law_32 (by decide +kernel) (by decide +kernel) (by decide +kernel) (by decide) ?_
        exact arm_held C hX hi hL G hs b t s hn pm hb K Dp Bt Sq se Sg ln at_ st ik le sp nu now thn pst snp txt hld far don tld dep bit R
      by_cases c16 : y = nI 16
      · refine xi_tabIn (off := 524) (tgt := 556) C (nI 16) c16 dL_law_32 (by decide +kernel) (by decide +kernel) (by decide +kernel) (by decide) ?_
        exact arm_answer C hX hi hL G hs b t s hn pm hb K Dp Bt Sq se Sg ln at_ st ik le sp nu now thn pst snp txt hld far don tld dep bit R
      by_cases c17 : y = nI 17
      · refine xi_tabIn (off := 557) (tgt := 589) C (nI 17) c17 dL_law_32 (by decide +kernel) (by decide +kernel) (by decide +kernel) (by decide) ?_
        exact arm_ones C hX hi hL G hs b t s hn pm hb K Dp Bt Sq se Sg ln at_ st ik le sp nu now thn pst snp txt hld far don tld dep bit R
      by_cases c18 : y = nI 18
      · refine xi_tabIn (off := 580) (tgt := 612) C (nI 18) c18 dL_law_32 (by decide +kernel) (by decide +kernel) (by decide +kernel) (by decide) ?_
        exact arm_ifSwap C hX hi hL G hs b t s hn pm hb K Dp Bt Sq se Sg ln at_ st ik le sp nu now thn pst snp txt hld far don tld dep bit R
      by_cases c19 : y = nI 19
      · refine xi_tabIn (off := 613) (tgt := 645) C (nI 19) c19 dL_law_32 (by decide +kernel) (by decide +kernel) (by decide +kernel) (by decide) ?_
        exact arm_bestSwap C hX hi hL G hs b t s hn pm hb K Dp Bt Sq se Sg ln at_ st ik le sp nu now thn pst snp txt hld far don tld dep bit R
      by_cases c20 : y = nI 20
      · refine xi_tabIn (off := 636) (tgt := 668) C (nI 20) c20 dL_law_32 (by decide +kernel) (by decide +kernel) (by decide +kernel) (by decide) ?_
        exact arm_bestOrder C hX hi hL G hs b t s hn pm hb K Dp Bt Sq se Sg ln at_ st ik le sp nu now thn pst snp txt hld far don tld dep bit R
      by_cases c21 : y = nI 21
      · refine xi_tabIn (off := 649) (tgt := 681) C (nI 21) c21 dL_law_32 (by decide +kernel) (by decide +kernel) (by decide +kernel) (by decide) ?_
        exact arm_count C hX hi hL G hs b t s hn pm hb K Dp Bt Sq se Sg ln at_ st ik le sp nu now thn pst snp txt hld far don tld dep bit R
      refine xi_tabOut (tgt := 704) C dL_law_32 (xb_tab (N := 22) (by omega) (fun j hj => ?_)) (by decide) (G hs b t s hn pm hb K Dp Bt Sq se Sg ln at_ st ik le sp nu now thn pst snp txt hld far don tld dep bit R)
      match j, hj with
      | 0, _ => exact c0
      | 1, _ => exact c1
      | 2, _ => exact c2
      | 3, _ => exact c3
      | 4, _ => exact c4
      | 5, _ => exact c5
      | 6, _ => exact c6
      | 7, _ => exact c7
      | 8, _ => exact c8
      | 9, _ => exact c9
      | 10, _ => exact c10
      | 11, _ => exact c11
      | 12, _ => exact c12
      | 13, _ => exact c13
      | 14, _ => exact c14
      | 15, _ => exact c15
      | 16, _ => exact c16
      | 17, _ => exact c17
      | 18, _ => exact c18
      | 19, _ => exact c19
      | 20, _ => exact c20
      | 21, _ => exact c21
      | j + 22, h => exact absurd h (by omega)
