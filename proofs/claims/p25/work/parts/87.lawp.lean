/-! the law's own rules; part(), drawn() -/
def xb_X (X : xb_C) (b L : Nat) (xs : Nat → Int32) : Prop := match X with
  | (_, _, _, _, s, _, _, _, _, _, A, _, _, _) => va_X b L xs s s.heap ∧ b < s.heap.size ∧ ¬ A b
def xb_Law (X : xb_C) (b : Nat) : Prop := match X with
  | (_, _, _, R, s, _, args, below, _, _, A, Q, _, _) => R = room_1 ∧ args = #[Value.ref b] ∧ Q = lw_Z below #[Value.ref b] s ∧ A = (fun q : Nat => s.heap.size ≤ q)
section XL
variable {X : xb_C} {k n : Nat} {w : va_W} {lv : List (Nat × Value)} {pc : Nat} {st : List Value} {cc : ByteArray} {ws : List Cond} {own : String} {rm : Room} {rt : Option FieldType} {nL : Nat} {tys : List (ClassId × FieldType)} {D : va_G}
theorem xi_sld (C : xb_OK X cc ws own rm rt nL tys D) {b L : Nat} {xs : Nat → Int32} (hX : xb_X X b L xs) {i : Int32} (j : Nat) (hi : i = nI j) (hj : j < L) (hj2 : L < 2 ^ 31) (hd : decode cc pc = .ok (.iaload, 1)) (g : xb_G X k n w lv (pc + 1) (.int (xs j) :: st)) : xb_G X k n w lv pc (.int i :: .ref b :: st) := by
  subst hi
  obtain ⟨p, l, e, R, s, m, args, below, meth, c, A, Q, nL', D'⟩ := X
  obtain ⟨hx, hb, hr, hml, hown, hts, hlk, hK, hE, hA, rfl, rfl, rfl⟩ := C
  obtain ⟨h1, h2, h3⟩ := hX
  intro H locs ls hP hD hS hl
  refine va_sld hx hb h1 h2 h3 hS (vp_in_nI hj hj2) hd ?_
  rw [nI_clamp (Nat.lt_trans hj hj2)]
  exact g H locs ls hP hD hS hl
theorem xi_slen (C : xb_OK X cc ws own rm rt nL tys D) {b L : Nat} {xs : Nat → Int32} (hX : xb_X X b L xs) (hd : decode cc pc = .ok (.arraylength, 1)) (g : xb_G X k n w lv (pc + 1) (.int (nI L) :: st)) : xb_G X k n w lv pc (.ref b :: st) := by
  obtain ⟨p, l, e, R, s, m, args, below, meth, c, A, Q, nL', D'⟩ := X
  obtain ⟨hx, hb, hr, hml, hown, hts, hlk, hK, hE, hA, rfl, rfl, rfl⟩ := C
  obtain ⟨h1, h2, h3⟩ := hX
  intro H locs ls hP hD hS hl
  exact va_slen hx hb h1 h2 h3 hS hd (g H locs ls hP hD hS hl)
theorem xi_lawret (C : xb_OK X code ws own rm ret nL tys D) {b : Nat} (Z : xb_Law X b) (hk : k ≤ 600000) (hn : n ≤ 7302250) (hd : decode code pc = .ok (.ireturn, 1)) : xb_G X k n w lv pc [.int 1] := by
  obtain ⟨p, l, e, R, s, m, args, below, meth, c, A, Q, nL', D'⟩ := X
  obtain ⟨hx, hb, hr, hml, hown, hts, hlk, hK, hE, hA, hR, hn4, hD4⟩ := C
  obtain ⟨z1, z2, z3, z4⟩ := Z
  subst z1
  subst z2
  subst z3
  subst z4
  intro H locs ls hP hD hS hl
  exact va_forget hS.2.2 (W.widen hk hn (lw_ret hx hb hr hlk hd))
end XL
def pt_n (x y : Int32) : Int32 := (x &&& 2147483647) - (x &&& 2147483647) / y * y
theorem pt_lt (x : Int32) {n : Nat} (h0 : 0 < n) (hn : n < 2 ^ 31) : ∃ r, r < n ∧ pt_n x (nI n) = nI r := by
  have hx : x = nI x.toBitVec.toNat := by
    apply Int32.toBitVec_inj.mp
    show x.toBitVec = BitVec.ofNat 32 x.toBitVec.toNat
    rw [BitVec.ofNat_toNat, BitVec.setWidth_eq]
  have ha : x &&& 2147483647 = nI (x.toBitVec.toNat % 2 ^ 31) := by
    rw [s_and hx (show (2147483647 : Int32) = nI (2 ^ 31 - 1) from rfl)]
    show nI (x.toBitVec.toNat &&& (2 ^ 31 - 1)) = _
    rw [Nat.and_two_pow_sub_one_eq_mod]
  have hb : x.toBitVec.toNat % 2 ^ 31 < 2 ^ 31 := Nat.mod_lt _ (by decide)
  refine ⟨x.toBitVec.toNat % 2 ^ 31 % n, Nat.mod_lt _ h0, ?_⟩
  unfold pt_n
  rw [ha, pk_div hb h0 hn, pk_mul, pk_sub (Nat.div_mul_le_self _ _)]
  congr 1
  have := Nat.div_add_mod (x.toBitVec.toNat % 2 ^ 31) n
  rw [Nat.mul_comm] at this
  omega
theorem m_part (D : va_G) (cI cC cZ cR : ClassId) (x y : Int32) (hy : ¬ y = 0) : xb_MP cL_part wsB_part RL rm_part (some .int) 2 (xb_ty cI cC cZ cR) D (va_AO RX0) [.int x, .int y] [] (fun o w1 => o = some (.int (pt_n x y)) ∧ w1 = []) 0 0 := by
  intro X C E0 Z hfr
  show xb_G X 0 0 [] [(0, .int x), (1, .int y)] 0 []
  refine xi_iload_n C dL_part_0 rfl 0 rfl ?_
  refine xi_ldc (v := 2147483647) C dL_part_1 (su_part _ wc_7) ?_
  refine xi_iand C dL_part_3 ?_
  refine xi_iload_n C dL_part_4 rfl 1 rfl ?_
  refine xi_irem C dL_part_5 hy ?_
  exact xi_iretP C Z (Nat.le_refl _) (Nat.le_refl _) (fun _ h => h) ⟨rfl, rfl⟩ dL_part_6
/-- what drawn() stands on: the script -/
def dE (sc L : Nat) (xs : Nat → Int32) (U : State) : Prop := va_AO RX0 U ∧ va_X sc L xs U U.heap ∧ sc < U.heap.size
theorem rm_n {k L : Nat} (hk : k < 2 ^ 31) (h0 : 0 < L) (hL : L < 2 ^ 31) : nI k - nI k / nI L * nI L = nI (k % L) := by
  rw [pk_div hk h0 hL, pk_mul, pk_sub (Nat.div_mul_le_self _ _)]
  congr 1
  have := Nat.div_add_mod k L
  rw [Nat.mul_comm] at this
  omega
theorem m_drawn (D : va_G) (cI cC cZ cR : ClassId) {sc L : Nat} {xs : Nat → Int32} (hL : L ≤ 260) (k : Nat) (hk : k < 1000) : xb_MP cL_drawn wsB_drawn RL rm_drawn (some .int) 2 (xb_ty cI cC cZ cR) D (dE sc L xs) [.ref sc, .int (nI k)] [] (fun o w1 => (∃ v : Int32, o = some (.int v)) ∧ w1 = []) 0 0 := by
  intro X C E0 Z hfr
  have hX : xb_X X sc L xs := by
    obtain ⟨p, l, e, R, s, m, args, below, meth, c, A, Q, nL', D'⟩ := X
    exact ⟨E0.2.1, E0.2.2, hfr sc (fun k e h => by simp at h) E0.2.2⟩
  show xb_G X 0 0 [] [(0, .ref sc), (1, .int (nI k))] 0 []
  refine xi_aload_n C dL_drawn_0 rfl 0 rfl ?_
  refine xi_slen C hX dL_drawn_1 ?_
  refine xi_if_ne (tgt := 15) C dL_drawn_2 (by decide) (fun c => ?_) (fun _ => ?_)
  · have h0 : 0 < L := by
      rcases Nat.eq_zero_or_pos L with z | z
      · exact absurd (by rw [z]; rfl) c
      · exact z
    refine xi_aload_n C dL_drawn_15 rfl 0 rfl ?_
    refine xi_iload_n C dL_drawn_16 rfl 1 rfl ?_
    refine xi_aload_n C dL_drawn_17 rfl 0 rfl ?_
    refine xi_slen C hX dL_drawn_18 ?_
    refine xi_irem C dL_drawn_19 c ?_
    refine xi_sld C hX (k % L) (rm_n (by omega) h0 (by omega)) (Nat.mod_lt _ h0) (by omega) dL_drawn_20 ?_
    refine xi_iload_n C dL_drawn_21 rfl 1 rfl ?_
    refine xi_bipush (v := nI 7) C dL_drawn_22 (by decide +kernel) ?_
    refine xi_irem C dL_drawn_24 (by decide +kernel) ?_
    refine xi_ishr C dL_drawn_25 ?_
    refine xi_iload_n C dL_drawn_26 rfl 1 rfl ?_
    refine xi_aload_n C dL_drawn_27 rfl 0 rfl ?_
    refine xi_slen C hX dL_drawn_28 ?_
    refine xi_idiv C dL_drawn_29 c ?_
    refine xi_bipush (v := nI 31) C dL_drawn_30 (by decide +kernel) ?_
    refine xi_imul C dL_drawn_32 ?_
    refine xi_ixor C dL_drawn_33 ?_
    refine xi_iload_n C dL_drawn_34 rfl 1 rfl ?_
    refine xi_ldc (v := 2654435) C dL_drawn_35 (su_drawn _ wc_8) ?_
    refine xi_imul C dL_drawn_37 ?_
    refine xi_ixor C dL_drawn_38 ?_
    exact xi_iretP C Z (Nat.le_refl _) (Nat.le_refl _) (fun _ h => h) ⟨⟨_, rfl⟩, rfl⟩ dL_drawn_39
  · refine xi_sipush (v := nI 7919) C dL_drawn_5 (by decide +kernel) ?_
    refine xi_iload_n C dL_drawn_8 rfl 1 rfl ?_
    refine xi_imul C dL_drawn_9 ?_
    refine xi_iconst (v := nI 3) C dL_drawn_10 (by decide +kernel) ?_
    refine xi_iadd C dL_drawn_11 ?_
    refine xi_goto (tgt := 39) C dL_drawn_12 (by decide) ?_
    exact xi_iretP C Z (Nat.le_refl _) (Nat.le_refl _) (fun _ h => h) ⟨⟨_, rfl⟩, rfl⟩ dL_drawn_39
theorem wV_so {b : xBd} (V : wV b) {p : Nat} (hp : p < 24) : ∀ s, f_X0_sourceOf b.2.1 (nI p * 3 + nI 0) = some (nI s) → f_X0_isSource b.1 (nI s) = some (nI 1) := by
  intro s h
  have a0 : nI p * 3 + nI 0 = nI (3 * p) := by
    rw [show (3 : Int32) = nI 3 from rfl, pk_mul, nI_add]
    congr 1
    omega
  rw [a0] at h
  unfold f_X0_sourceOf at h
  rw [l5_isWire (by omega), if_pos (by omega), Option.bind_some, if_neg (by decide), pz_d (by omega) (by omega), Option.bind_some] at h
  rw [← Option.some.inj h]
  exact iS_to (V _ (by omega))
/-- the law's row of digests behind the object -/
def wLg (cL : ClassId) (q : Nat) (f : Nat → Int64) : va_W := [(q, .inl (cL, 64, .inr (.inl f)))]
theorem wLg_at {cI cC cR cL : ClassId} {ad : Nat → Nat} {ha : Nat → Nat → Nat} {m : xMu} {Dp Bt Sq : Nat → Int32} {se : Int32} {q : Nat} {f : Nat → Int64} : (W5m cI cC cR ad ha m Dp Bt Sq se ++ wLg cL q f)[53]? = some (q, .inl (cL, 64, .inr (.inl f))) := by
  have hl : (W5m cI cC cR ad ha m Dp Bt Sq se).length = 53 := W5_len
  rw [List.getElem?_append_right (by omega), hl]
  rfl
theorem wLg_set {cI cC cR cL : ClassId} {ad : Nat → Nat} {ha : Nat → Nat → Nat} {m : xMu} {Dp Bt Sq : Nat → Int32} {se : Int32} {q : Nat} {f g : Nat → Int64} : (W5m cI cC cR ad ha m Dp Bt Sq se ++ wLg cL q f).set 53 (q, .inl (cL, 64, .inr (.inl g))) = W5m cI cC cR ad ha m Dp Bt Sq se ++ wLg cL q g := by
  have hl : (W5m cI cC cR ad ha m Dp Bt Sq se).length = 53 := W5_len
  rw [List.set_append_right _ _ (by omega), hl]
  rfl
/-- what stands at the law's loop -/
def LI (B0 : xBd) (k A : Nat) (m : xMu) (f : Nat → Int64) : Prop := GG m ∧ wV m.1 ∧ m.2.2.1 = B0 ∧ m.2.2.2.1 = 1 ∧ A ≤ k ∧ ∃ (L : List xBd) (h : Nat), Hs m.2.2.2.2.1 m.2.2.2.2.2.1 m.2.2.2.2.2.2.1 L h ∧ ∀ j, j < A → ∃ b, L[A - 1 - j]? = some b ∧ f j = sv b
def aXX (m m' : xMu) (v : Int32) : Prop := (v < 0 ∧ aE m m') ∨ (¬ v < 0 ∧ aR m m' ∧ wV m'.1)
theorem aXX_of {m m' : xMu} {v : Int32} (V : wV m.1) (h : aX m m' v) : aXX m m' v := by
  rcases h with h | ⟨h1, h2, h3⟩
  · exact Or.inl h
  · exact Or.inr ⟨h1, h2, h3 V⟩
theorem LI_n {B0 : xBd} {k A : Nat} {m m' : xMu} {f g : Nat → Int64} (I : LI B0 k A m f) (hg : ∀ j, j < A → g j = f j) (J' : GG m') (h : aE m m') : LI B0 (k + 1) A m' g := by
  obtain ⟨J, V, e1, e2, hA, L, hh, H, hL⟩ := I
  obtain ⟨a1, a2, a3, a4, a5, a6⟩ := h
  refine ⟨J', by rw [a1]; exact V, a2.trans e1, a3.trans e2, by omega, L, hh, by rw [a4, a5, a6]; exact H, fun j hj => ?_⟩
  obtain ⟨b, b1, b2⟩ := hL j hj
  exact ⟨b, b1, by rw [hg j hj]; exact b2⟩
theorem LI_s {B0 : xBd} {k A : Nat} {m m' : xMu} {f g : Nat → Int64} (I : LI B0 k A m f) (hg : ∀ j, j < A → g j = f j) (hg0 : g A = sv m.1) (J' : GG m') (h : aR m m') (V' : wV m'.1) : LI B0 (k + 1) (A + 1) m' g := by
  obtain ⟨J, V, e1, e2, hA, L, hh, H, hL⟩ := I
  obtain ⟨a1, a2, a3⟩ := h
  obtain ⟨h', H'⟩ := Hs_rem H a1
  refine ⟨J', V', a2.trans e1, a3.trans e2, by omega, m.1 :: L, h', H', fun j hj => ?_⟩
  by_cases c : j = A
  · subst c
    rw [show j + 1 - 1 - j = 0 by omega]
    exact ⟨m.1, rfl, hg0⟩
  · obtain ⟨b, b1, b2⟩ := hL j (by omega)
    refine ⟨b, ?_, by rw [hg j (by omega)]; exact b2⟩
    rw [show A + 1 - 1 - j = (A - 1 - j) + 1 by omega]
    exact b1
theorem up_at {f : Nat → Int64} {k : Nat} {x : Int64} : vp_updL f k x k = x := by
  unfold vp_updL
  rw [if_pos rfl]
theorem up_ne {f : Nat → Int64} {k j : Nat} {x : Int64} (h : j < k) : vp_updL f k x j = f j := by
  unfold vp_updL
  rw [if_neg (by omega)]
