def g_X5_put (b : gBd) (hn : Nat) (pm : gP) (hb : gH) (p1 : Nat) (p2 : Nat) : Option (Nat × gBd × Nat × gP × gH) :=
  (g_X5_isPlace p1).bind fun v1 =>
  bif geq v1 0 then
    some (4294967295, b, hn, pm, hb)
  else
    (g_X5_isTable p2).bind fun v4 =>
    bif geq v4 0 then
      some (4294967294, b, hn, pm, hb)
    else
      (g_X0_hasCell b.1 p1).bind fun v7 =>
      bif geq v7 0 then
        (g_X1_remember hn pm hb b).bind fun (hn10, pm11, hb12) =>
        (g_X0_changeTable b.1 p1 p2).bind fun T14 =>
        (g_X0_cells T14).bind fun v16 =>
        some (v16, (T14, b.2.1, b.2.2.1, b.2.2.2.1, b.2.2.2.2.1, b.2.2.2.2.2.1, b.2.2.2.2.2.2), hn10, pm11, hb12)
      else
        some (4294967292, b, hn, pm, hb)
theorem s_X5_put {b : gBd} {hn : Nat} {pm : gP} {hb : gH} {p1 : Nat} {p2 : Nat} {Xb : xBd} {Xhn : Int32} {Xpm : Nat → Nat} {Xhb : Nat → xBd} {Xp1 : Int32} {Xp2 : Int32} {r0 : Nat} {r1 : gBd} {r2 : Nat} {r3 : gP} {r4 : gH} (h : g_X5_put b hn pm hb p1 p2 = some (r0, r1, r2, r3, r4)) (eb : Xb = dB b) (ehn : Xhn = nI hn) (epm : Xpm = dP pm) (ehb : Xhb = dH hb) (ep1 : Xp1 = nI p1) (ep2 : Xp2 = nI p2) : f_X5_put Xb Xhn Xpm Xhb Xp1 Xp2 = some (nI r0, dB r1, nI r2, dP r3, dH r4) := by
  subst eb ehn epm ehb ep1 ep2
  unfold g_X5_put at h
  unfold f_X5_put
  obtain ⟨v1, e9, h⟩ := ob_i h
  refine ob_s (s_X5_isPlace e9 rfl) ?_
  rcases g_if h with ⟨c8, h⟩ | ⟨c8, h⟩
  · refine (if_pos (seq_t rfl rfl c8)).trans ?_
    have w0 := Option.some.inj h
    obtain ⟨q0, w1⟩ := Prod.mk.inj w0
    obtain ⟨q1, w2⟩ := Prod.mk.inj w1
    obtain ⟨q2, w3⟩ := Prod.mk.inj w2
    obtain ⟨q3, w4⟩ := Prod.mk.inj w3
    subst q0
    subst q1
    subst q2
    subst q3
    subst w4
    exact congrArg some (tup5 n_m1 rfl rfl rfl rfl)
  · refine (if_neg (seq_f rfl rfl c8)).trans ?_
    obtain ⟨v4, e7, h⟩ := ob_i h
    refine ob_s (s_X5_isTable e7 rfl) ?_
    rcases g_if h with ⟨c6, h⟩ | ⟨c6, h⟩
    · refine (if_pos (seq_t rfl rfl c6)).trans ?_
      have w0 := Option.some.inj h
      obtain ⟨q0, w1⟩ := Prod.mk.inj w0
      obtain ⟨q1, w2⟩ := Prod.mk.inj w1
      obtain ⟨q2, w3⟩ := Prod.mk.inj w2
      obtain ⟨q3, w4⟩ := Prod.mk.inj w3
      subst q0
      subst q1
      subst q2
      subst q3
      subst w4
      exact congrArg some (tup5 n_m2 rfl rfl rfl rfl)
    · refine (if_neg (seq_f rfl rfl c6)).trans ?_
      obtain ⟨v7, e5, h⟩ := ob_i h
      refine ob_s (s_X0_hasCell e5 rfl rfl) ?_
      rcases g_if h with ⟨c4, h⟩ | ⟨c4, h⟩
      · refine (if_pos (seq_t rfl rfl c4)).trans ?_
        obtain ⟨⟨hn10, pm11, hb12⟩, e3, h⟩ := ob_i h
        refine ob_s (s_X1_remember e3 rfl rfl rfl rfl) ?_
        obtain ⟨T14, e2, h⟩ := ob_i h
        refine ob_s (s_X0_changeTable e2 rfl rfl rfl) ?_
        obtain ⟨v16, e1, h⟩ := ob_i h
        refine ob_s (s_X0_cells e1 rfl) ?_
        have w0 := Option.some.inj h
        obtain ⟨q0, w1⟩ := Prod.mk.inj w0
        obtain ⟨q1, w2⟩ := Prod.mk.inj w1
        obtain ⟨q2, w3⟩ := Prod.mk.inj w2
        obtain ⟨q3, w4⟩ := Prod.mk.inj w3
        subst q0
        subst q1
        subst q2
        subst q3
        subst w4
        exact congrArg some (tup5 rfl (tup7 rfl rfl rfl rfl rfl rfl rfl) rfl rfl rfl)
      · refine (if_neg (seq_f rfl rfl c4)).trans ?_
        have w0 := Option.some.inj h
        obtain ⟨q0, w1⟩ := Prod.mk.inj w0
        obtain ⟨q1, w2⟩ := Prod.mk.inj w1
        obtain ⟨q2, w3⟩ := Prod.mk.inj w2
        obtain ⟨q3, w4⟩ := Prod.mk.inj w3
        subst q0
        subst q1
        subst q2
        subst q3
        subst w4
        exact congrArg some (tup5 n_m4 rfl rfl rfl rfl)
def g_X5_take (b : gBd) (hn : Nat) (pm : gP) (hb : gH) (p1 : Nat) : Option (Nat × gBd × Nat × gP × gH) :=
  (g_X0_hasCell b.1 p1).bind fun v1 =>
  bif geq v1 0 then
    some (4294967295, b, hn, pm, hb)
  else
    (g_X0_usesByOthers b.2.1 p1).bind fun v4 =>
    bif gle v4 0 then
      (g_X1_remember hn pm hb b).bind fun (hn7, pm8, hb9) =>
      (g_X0_removeCell b.1 b.2.1 b.2.2.1 b.2.2.2.1 b.2.2.2.2.1 p1).bind fun (T11, S12, L13, E14) =>
      (g_X0_cells T11).bind fun v16 =>
      some (v16, (T11, S12, L13, b.2.2.2.1, E14, b.2.2.2.2.2.1, b.2.2.2.2.2.2), hn7, pm8, hb9)
    else
      some (4294967292, b, hn, pm, hb)
theorem s_X5_take {b : gBd} {hn : Nat} {pm : gP} {hb : gH} {p1 : Nat} {Xb : xBd} {Xhn : Int32} {Xpm : Nat → Nat} {Xhb : Nat → xBd} {Xp1 : Int32} {r0 : Nat} {r1 : gBd} {r2 : Nat} {r3 : gP} {r4 : gH} (h : g_X5_take b hn pm hb p1 = some (r0, r1, r2, r3, r4)) (eb : Xb = dB b) (ehn : Xhn = nI hn) (epm : Xpm = dP pm) (ehb : Xhb = dH hb) (ep1 : Xp1 = nI p1) : f_X5_take Xb Xhn Xpm Xhb Xp1 = some (nI r0, dB r1, nI r2, dP r3, dH r4) := by
  subst eb ehn epm ehb ep1
  unfold g_X5_take at h
  unfold f_X5_take
  obtain ⟨v1, e7, h⟩ := ob_i h
  refine ob_s (s_X0_hasCell e7 rfl rfl) ?_
  rcases g_if h with ⟨c6, h⟩ | ⟨c6, h⟩
  · refine (if_pos (seq_t rfl rfl c6)).trans ?_
    have w0 := Option.some.inj h
    obtain ⟨q0, w1⟩ := Prod.mk.inj w0
    obtain ⟨q1, w2⟩ := Prod.mk.inj w1
    obtain ⟨q2, w3⟩ := Prod.mk.inj w2
    obtain ⟨q3, w4⟩ := Prod.mk.inj w3
    subst q0
    subst q1
    subst q2
    subst q3
    subst w4
    exact congrArg some (tup5 n_m1 rfl rfl rfl rfl)
  · refine (if_neg (seq_f rfl rfl c6)).trans ?_
    obtain ⟨v4, e5, h⟩ := ob_i h
    refine ob_s (s_X0_usesByOthers e5 rfl rfl) ?_
    rcases g_if h with ⟨c4, h⟩ | ⟨c4, h⟩
    · refine (if_pos (sle_t rfl rfl c4)).trans ?_
      obtain ⟨⟨hn7, pm8, hb9⟩, e3, h⟩ := ob_i h
      refine ob_s (s_X1_remember e3 rfl rfl rfl rfl) ?_
      obtain ⟨⟨T11, S12, L13, E14⟩, e2, h⟩ := ob_i h
      refine ob_s (s_X0_removeCell e2 rfl rfl rfl rfl rfl rfl) ?_
      obtain ⟨v16, e1, h⟩ := ob_i h
      refine ob_s (s_X0_cells e1 rfl) ?_
      have w0 := Option.some.inj h
      obtain ⟨q0, w1⟩ := Prod.mk.inj w0
      obtain ⟨q1, w2⟩ := Prod.mk.inj w1
      obtain ⟨q2, w3⟩ := Prod.mk.inj w2
      obtain ⟨q3, w4⟩ := Prod.mk.inj w3
      subst q0
      subst q1
      subst q2
      subst q3
      subst w4
      exact congrArg some (tup5 rfl (tup7 rfl rfl rfl rfl rfl rfl rfl) rfl rfl rfl)
    · refine (if_neg (sle_f rfl rfl c4)).trans ?_
      have w0 := Option.some.inj h
      obtain ⟨q0, w1⟩ := Prod.mk.inj w0
      obtain ⟨q1, w2⟩ := Prod.mk.inj w1
      obtain ⟨q2, w3⟩ := Prod.mk.inj w2
      obtain ⟨q3, w4⟩ := Prod.mk.inj w3
      subst q0
      subst q1
      subst q2
      subst q3
      subst w4
      exact congrArg some (tup5 n_m4 rfl rfl rfl rfl)
def g_X5_setTable (b : gBd) (hn : Nat) (pm : gP) (hb : gH) (p1 : Nat) (p2 : Nat) : Option (Nat × gBd × Nat × gP × gH) :=
  (g_X0_hasCell b.1 p1).bind fun v1 =>
  bif geq v1 0 then
    some (4294967295, b, hn, pm, hb)
  else
    (g_X5_isTable p2).bind fun v4 =>
    bif geq v4 0 then
      some (4294967294, b, hn, pm, hb)
    else
      (g_X0_tableOf b.1 p1).bind fun v7 =>
      bif geq v7 p2 then
        some (4294967291, b, hn, pm, hb)
      else
        (g_X1_remember hn pm hb b).bind fun (hn10, pm11, hb12) =>
        (g_X0_changeTable b.1 p1 p2).bind fun T14 =>
        some (v7, (T14, b.2.1, b.2.2.1, b.2.2.2.1, b.2.2.2.2.1, b.2.2.2.2.2.1, b.2.2.2.2.2.2), hn10, pm11, hb12)
theorem s_X5_setTable {b : gBd} {hn : Nat} {pm : gP} {hb : gH} {p1 : Nat} {p2 : Nat} {Xb : xBd} {Xhn : Int32} {Xpm : Nat → Nat} {Xhb : Nat → xBd} {Xp1 : Int32} {Xp2 : Int32} {r0 : Nat} {r1 : gBd} {r2 : Nat} {r3 : gP} {r4 : gH} (h : g_X5_setTable b hn pm hb p1 p2 = some (r0, r1, r2, r3, r4)) (eb : Xb = dB b) (ehn : Xhn = nI hn) (epm : Xpm = dP pm) (ehb : Xhb = dH hb) (ep1 : Xp1 = nI p1) (ep2 : Xp2 = nI p2) : f_X5_setTable Xb Xhn Xpm Xhb Xp1 Xp2 = some (nI r0, dB r1, nI r2, dP r3, dH r4) := by
  subst eb ehn epm ehb ep1 ep2
  unfold g_X5_setTable at h
  unfold f_X5_setTable
  obtain ⟨v1, e8, h⟩ := ob_i h
  refine ob_s (s_X0_hasCell e8 rfl rfl) ?_
  rcases g_if h with ⟨c7, h⟩ | ⟨c7, h⟩
  · refine (if_pos (seq_t rfl rfl c7)).trans ?_
    have w0 := Option.some.inj h
    obtain ⟨q0, w1⟩ := Prod.mk.inj w0
    obtain ⟨q1, w2⟩ := Prod.mk.inj w1
    obtain ⟨q2, w3⟩ := Prod.mk.inj w2
    obtain ⟨q3, w4⟩ := Prod.mk.inj w3
    subst q0
    subst q1
    subst q2
    subst q3
    subst w4
    exact congrArg some (tup5 n_m1 rfl rfl rfl rfl)
  · refine (if_neg (seq_f rfl rfl c7)).trans ?_
    obtain ⟨v4, e6, h⟩ := ob_i h
    refine ob_s (s_X5_isTable e6 rfl) ?_
    rcases g_if h with ⟨c5, h⟩ | ⟨c5, h⟩
    · refine (if_pos (seq_t rfl rfl c5)).trans ?_
      have w0 := Option.some.inj h
      obtain ⟨q0, w1⟩ := Prod.mk.inj w0
      obtain ⟨q1, w2⟩ := Prod.mk.inj w1
      obtain ⟨q2, w3⟩ := Prod.mk.inj w2
      obtain ⟨q3, w4⟩ := Prod.mk.inj w3
      subst q0
      subst q1
      subst q2
      subst q3
      subst w4
      exact congrArg some (tup5 n_m2 rfl rfl rfl rfl)
    · refine (if_neg (seq_f rfl rfl c5)).trans ?_
      obtain ⟨v7, e4, h⟩ := ob_i h
      refine ob_s (s_X0_tableOf e4 rfl rfl) ?_
      rcases g_if h with ⟨c3, h⟩ | ⟨c3, h⟩
      · refine (if_pos (seq_t rfl rfl c3)).trans ?_
        have w0 := Option.some.inj h
        obtain ⟨q0, w1⟩ := Prod.mk.inj w0
        obtain ⟨q1, w2⟩ := Prod.mk.inj w1
        obtain ⟨q2, w3⟩ := Prod.mk.inj w2
        obtain ⟨q3, w4⟩ := Prod.mk.inj w3
        subst q0
        subst q1
        subst q2
        subst q3
        subst w4
        exact congrArg some (tup5 n_m5 rfl rfl rfl rfl)
      · refine (if_neg (seq_f rfl rfl c3)).trans ?_
        obtain ⟨⟨hn10, pm11, hb12⟩, e2, h⟩ := ob_i h
        refine ob_s (s_X1_remember e2 rfl rfl rfl rfl) ?_
        obtain ⟨T14, e1, h⟩ := ob_i h
        refine ob_s (s_X0_changeTable e1 rfl rfl rfl) ?_
        have w0 := Option.some.inj h
        obtain ⟨q0, w1⟩ := Prod.mk.inj w0
        obtain ⟨q1, w2⟩ := Prod.mk.inj w1
        obtain ⟨q2, w3⟩ := Prod.mk.inj w2
        obtain ⟨q3, w4⟩ := Prod.mk.inj w3
        subst q0
        subst q1
        subst q2
        subst q3
        subst w4
        exact congrArg some (tup5 rfl (tup7 rfl rfl rfl rfl rfl rfl rfl) rfl rfl rfl)
def g_X5_acceptTrial (b : gBd) (t : gBd) (hn : Nat) (pm : gP) (hb : gH) : Option (gBd × Nat × gP × gH) :=
  (g_X1_remember hn pm hb b).bind fun (hn1, pm2, hb3) =>
  (g_X0_copyFrom b.1 b.2.1 b.2.2.1 b.2.2.2.1 b.2.2.2.2.1 b.2.2.2.2.2.1 b.2.2.2.2.2.2 t.1 t.2.1 t.2.2.1 t.2.2.2.1 t.2.2.2.2.1 t.2.2.2.2.2.1 t.2.2.2.2.2.2).bind fun (T5, S6, L7, J8, E9, cp10, su11) =>
  some ((T5, S6, L7, J8, E9, cp10, su11), hn1, pm2, hb3)
theorem s_X5_acceptTrial {b : gBd} {t : gBd} {hn : Nat} {pm : gP} {hb : gH} {Xb : xBd} {Xt : xBd} {Xhn : Int32} {Xpm : Nat → Nat} {Xhb : Nat → xBd} {r0 : gBd} {r1 : Nat} {r2 : gP} {r3 : gH} (h : g_X5_acceptTrial b t hn pm hb = some (r0, r1, r2, r3)) (eb : Xb = dB b) (et : Xt = dB t) (ehn : Xhn = nI hn) (epm : Xpm = dP pm) (ehb : Xhb = dH hb) : f_X5_acceptTrial Xb Xt Xhn Xpm Xhb = some (dB r0, nI r1, dP r2, dH r3) := by
  subst eb et ehn epm ehb
  unfold g_X5_acceptTrial at h
  unfold f_X5_acceptTrial
  obtain ⟨⟨hn1, pm2, hb3⟩, e2, h⟩ := ob_i h
  refine ob_s (s_X1_remember e2 rfl rfl rfl rfl) ?_
  obtain ⟨⟨T5, S6, L7, J8, E9, cp10, su11⟩, e1, h⟩ := ob_i h
  refine ob_s (s_X0_copyFrom e1 rfl rfl rfl rfl rfl rfl rfl rfl rfl rfl rfl rfl rfl rfl) ?_
  have w0 := Option.some.inj h
  obtain ⟨q0, w1⟩ := Prod.mk.inj w0
  obtain ⟨q1, w2⟩ := Prod.mk.inj w1
  obtain ⟨q2, w3⟩ := Prod.mk.inj w2
  subst q0
  subst q1
  subst q2
  subst w3
  exact congrArg some (tup4 (tup7 rfl rfl rfl rfl rfl rfl rfl) rfl rfl rfl)
def g_X5_connect (b : gBd) (t : gBd) (hn : Nat) (pm : gP) (hb : gH) (K : Nat) (p1 : Nat) (p2 : Nat) (p3 : Nat) : Option (Nat × gBd × gBd × Nat × gP × gH × Nat) :=
  (g_X0_hasCell b.1 p1).bind fun v1 =>
  bif geq v1 0 then
    some (4294967295, b, t, hn, pm, hb, K)
  else
    (g_X5_isInput p2).bind fun v4 =>
    bif geq v4 0 then
      some (4294967295, b, t, hn, pm, hb, K)
    else
      (g_X0_isSource b.1 p3).bind fun v7 =>
      bif geq v7 0 then
        some (4294967295, b, t, hn, pm, hb, K)
      else
        (g_X0_sourceOf b.2.1 (ga (gm p1 3) p2)).bind fun v10 =>
        bif geq v10 p3 then
          some (4294967291, b, t, hn, pm, hb, K)
        else
          (g_X0_copyFrom t.1 t.2.1 t.2.2.1 t.2.2.2.1 t.2.2.2.2.1 t.2.2.2.2.2.1 t.2.2.2.2.2.2 b.1 b.2.1 b.2.2.1 b.2.2.2.1 b.2.2.2.2.1 b.2.2.2.2.2.1 b.2.2.2.2.2.2).bind fun (T13, S14, L15, J16, E17, cp18, su19) =>
          (g_X0_removeWire S14 L15 J16 E17 (ga (gm p1 3) p2)).bind fun (L21, E22) =>
          (g_X0_changeSource S14 (ga (gm p1 3) p2) p3).bind fun S24 =>
          (g_X2_layWire K S24 L21 J16 E22 cp18 su19 (ga (gm p1 3) p2)).bind fun (v26, K27, L28, J29, E30) =>
          bif geq v26 0 then
            some (4294967293, b, (T13, S24, L28, J29, E30, cp18, su19), hn, pm, hb, K27)
          else
            (g_X5_acceptTrial b (T13, S24, L28, J29, E30, cp18, su19) hn pm hb).bind fun (b33, hn34, pm35, hb36) =>
            (g_X0_lengthOf b33.2.2.1 (ga (gm p1 3) p2)).bind fun v38 =>
            some (v38, b33, (T13, S24, L28, J29, E30, cp18, su19), hn34, pm35, hb36, K27)
theorem s_X5_connect {b : gBd} {t : gBd} {hn : Nat} {pm : gP} {hb : gH} {K : Nat} {p1 : Nat} {p2 : Nat} {p3 : Nat} {Xb : xBd} {Xt : xBd} {Xhn : Int32} {Xpm : Nat → Nat} {Xhb : Nat → xBd} {XK : Nat → Int32} {Xp1 : Int32} {Xp2 : Int32} {Xp3 : Int32} {r0 : Nat} {r1 : gBd} {r2 : gBd} {r3 : Nat} {r4 : gP} {r5 : gH} {r6 : Nat} (h : g_X5_connect b t hn pm hb K p1 p2 p3 = some (r0, r1, r2, r3, r4, r5, r6)) (eb : Xb = dB b) (et : Xt = dB t) (ehn : Xhn = nI hn) (epm : Xpm = dP pm) (ehb : Xhb = dH hb) (eK : XK = dA K) (ep1 : Xp1 = nI p1) (ep2 : Xp2 = nI p2) (ep3 : Xp3 = nI p3) : f_X5_connect Xb Xt Xhn Xpm Xhb XK Xp1 Xp2 Xp3 = some (nI r0, dB r1, dB r2, nI r3, dP r4, dH r5, dA r6) := by
  subst eb et ehn epm ehb eK ep1 ep2 ep3
  unfold g_X5_connect at h
  unfold f_X5_connect
  obtain ⟨v1, e15, h⟩ := ob_i h
  refine ob_s (s_X0_hasCell e15 rfl rfl) ?_
  rcases g_if h with ⟨c14, h⟩ | ⟨c14, h⟩
  · refine (if_pos (seq_t rfl rfl c14)).trans ?_
    have w0 := Option.some.inj h
    obtain ⟨q0, w1⟩ := Prod.mk.inj w0
    obtain ⟨q1, w2⟩ := Prod.mk.inj w1
    obtain ⟨q2, w3⟩ := Prod.mk.inj w2
    obtain ⟨q3, w4⟩ := Prod.mk.inj w3
    obtain ⟨q4, w5⟩ := Prod.mk.inj w4
    obtain ⟨q5, w6⟩ := Prod.mk.inj w5
    subst q0
    subst q1
    subst q2
    subst q3
    subst q4
    subst q5
    subst w6
    exact congrArg some (tup7 n_m1 rfl rfl rfl rfl rfl rfl)
  · refine (if_neg (seq_f rfl rfl c14)).trans ?_
    obtain ⟨v4, e13, h⟩ := ob_i h
    refine ob_s (s_X5_isInput e13 rfl) ?_
    rcases g_if h with ⟨c12, h⟩ | ⟨c12, h⟩
    · refine (if_pos (seq_t rfl rfl c12)).trans ?_
      have w0 := Option.some.inj h
      obtain ⟨q0, w1⟩ := Prod.mk.inj w0
      obtain ⟨q1, w2⟩ := Prod.mk.inj w1
      obtain ⟨q2, w3⟩ := Prod.mk.inj w2
      obtain ⟨q3, w4⟩ := Prod.mk.inj w3
      obtain ⟨q4, w5⟩ := Prod.mk.inj w4
      obtain ⟨q5, w6⟩ := Prod.mk.inj w5
      subst q0
      subst q1
      subst q2
      subst q3
      subst q4
      subst q5
      subst w6
      exact congrArg some (tup7 n_m1 rfl rfl rfl rfl rfl rfl)
    · refine (if_neg (seq_f rfl rfl c12)).trans ?_
      obtain ⟨v7, e11, h⟩ := ob_i h
      refine ob_s (s_X0_isSource e11 rfl rfl) ?_
      rcases g_if h with ⟨c10, h⟩ | ⟨c10, h⟩
      · refine (if_pos (seq_t rfl rfl c10)).trans ?_
        have w0 := Option.some.inj h
        obtain ⟨q0, w1⟩ := Prod.mk.inj w0
        obtain ⟨q1, w2⟩ := Prod.mk.inj w1
        obtain ⟨q2, w3⟩ := Prod.mk.inj w2
        obtain ⟨q3, w4⟩ := Prod.mk.inj w3
        obtain ⟨q4, w5⟩ := Prod.mk.inj w4
        obtain ⟨q5, w6⟩ := Prod.mk.inj w5
        subst q0
        subst q1
        subst q2
        subst q3
        subst q4
        subst q5
        subst w6
        exact congrArg some (tup7 n_m1 rfl rfl rfl rfl rfl rfl)
      · refine (if_neg (seq_f rfl rfl c10)).trans ?_
        obtain ⟨v10, e9, h⟩ := ob_i h
        refine ob_s (s_X0_sourceOf e9 rfl (s_add (s_mul rfl rfl) rfl)) ?_
        rcases g_if h with ⟨c8, h⟩ | ⟨c8, h⟩
        · refine (if_pos (seq_t rfl rfl c8)).trans ?_
          have w0 := Option.some.inj h
          obtain ⟨q0, w1⟩ := Prod.mk.inj w0
          obtain ⟨q1, w2⟩ := Prod.mk.inj w1
          obtain ⟨q2, w3⟩ := Prod.mk.inj w2
          obtain ⟨q3, w4⟩ := Prod.mk.inj w3
          obtain ⟨q4, w5⟩ := Prod.mk.inj w4
          obtain ⟨q5, w6⟩ := Prod.mk.inj w5
          subst q0
          subst q1
          subst q2
          subst q3
          subst q4
          subst q5
          subst w6
          exact congrArg some (tup7 n_m5 rfl rfl rfl rfl rfl rfl)
        · refine (if_neg (seq_f rfl rfl c8)).trans ?_
          obtain ⟨⟨T13, S14, L15, J16, E17, cp18, su19⟩, e7, h⟩ := ob_i h
          refine ob_s (s_X0_copyFrom e7 rfl rfl rfl rfl rfl rfl rfl rfl rfl rfl rfl rfl rfl rfl) ?_
          obtain ⟨⟨L21, E22⟩, e6, h⟩ := ob_i h
          refine ob_s (s_X0_removeWire e6 rfl rfl rfl rfl (s_add (s_mul rfl rfl) rfl)) ?_
          obtain ⟨S24, e5, h⟩ := ob_i h
          refine ob_s (s_X0_changeSource e5 rfl (s_add (s_mul rfl rfl) rfl) rfl) ?_
          obtain ⟨⟨v26, K27, L28, J29, E30⟩, e4, h⟩ := ob_i h
          refine ob_s (s_X2_layWire e4 rfl rfl rfl rfl rfl rfl rfl (s_add (s_mul rfl rfl) rfl)) ?_
          rcases g_if h with ⟨c3, h⟩ | ⟨c3, h⟩
          · refine (if_pos (seq_t rfl rfl c3)).trans ?_
            have w0 := Option.some.inj h
            obtain ⟨q0, w1⟩ := Prod.mk.inj w0
            obtain ⟨q1, w2⟩ := Prod.mk.inj w1
            obtain ⟨q2, w3⟩ := Prod.mk.inj w2
            obtain ⟨q3, w4⟩ := Prod.mk.inj w3
            obtain ⟨q4, w5⟩ := Prod.mk.inj w4
            obtain ⟨q5, w6⟩ := Prod.mk.inj w5
            subst q0
            subst q1
            subst q2
            subst q3
            subst q4
            subst q5
            subst w6
            exact congrArg some (tup7 n_m3 rfl (tup7 rfl rfl rfl rfl rfl rfl rfl) rfl rfl rfl rfl)
          · refine (if_neg (seq_f rfl rfl c3)).trans ?_
            obtain ⟨⟨b33, hn34, pm35, hb36⟩, e2, h⟩ := ob_i h
            refine ob_s (s_X5_acceptTrial e2 rfl (tup7 rfl rfl rfl rfl rfl rfl rfl) rfl rfl rfl) ?_
            obtain ⟨v38, e1, h⟩ := ob_i h
            refine ob_s (s_X0_lengthOf e1 rfl (s_add (s_mul rfl rfl) rfl)) ?_
            have w0 := Option.some.inj h
            obtain ⟨q0, w1⟩ := Prod.mk.inj w0
            obtain ⟨q1, w2⟩ := Prod.mk.inj w1
            obtain ⟨q2, w3⟩ := Prod.mk.inj w2
            obtain ⟨q3, w4⟩ := Prod.mk.inj w3
            obtain ⟨q4, w5⟩ := Prod.mk.inj w4
            obtain ⟨q5, w6⟩ := Prod.mk.inj w5
            subst q0
            subst q1
            subst q2
            subst q3
            subst q4
            subst q5
            subst w6
            exact congrArg some (tup7 rfl rfl (tup7 rfl rfl rfl rfl rfl rfl rfl) rfl rfl rfl rfl)
def g_X5_trySwap (b : gBd) (t : gBd) (K : Nat) (p1 : Nat) (p2 : Nat) : Option (Nat × gBd × Nat) :=
  (g_X5_isPlace p1).bind fun v1 =>
  bif geq v1 0 then
    some (4294967295, t, K)
  else
    (g_X5_isPlace p2).bind fun v4 =>
    bif geq v4 0 then
      some (4294967295, t, K)
    else
      bif geq p1 p2 then
        some (4294967291, t, K)
      else
        (g_X0_hasCell b.1 p1).bind fun v8 =>
        bif geq v8 0 then
          (g_X0_hasCell b.1 p2).bind fun v28 =>
          bif geq v28 0 then
            some (4294967291, t, K)
          else
            (g_X0_copyFrom t.1 t.2.1 t.2.2.1 t.2.2.2.1 t.2.2.2.2.1 t.2.2.2.2.2.1 t.2.2.2.2.2.2 b.1 b.2.1 b.2.2.1 b.2.2.2.1 b.2.2.2.2.1 b.2.2.2.2.2.1 b.2.2.2.2.2.2).bind fun (T31, S32, L33, J34, E35, cp36, su37) =>
            (g_X0_exchange T31 S32 p1 p2).bind fun (T39, S40) =>
            (g_X2_layAll K S40 L33 J34 E35 cp36 su37 0).bind fun (v42, K43, L44, J45, E46) =>
            some (v42, (T39, S40, L44, J45, E46, cp36, su37), K43)
        else
          (g_X0_copyFrom t.1 t.2.1 t.2.2.1 t.2.2.2.1 t.2.2.2.2.1 t.2.2.2.2.2.1 t.2.2.2.2.2.2 b.1 b.2.1 b.2.2.1 b.2.2.2.1 b.2.2.2.2.1 b.2.2.2.2.2.1 b.2.2.2.2.2.2).bind fun (T11, S12, L13, J14, E15, cp16, su17) =>
          (g_X0_exchange T11 S12 p1 p2).bind fun (T19, S20) =>
          (g_X2_layAll K S20 L13 J14 E15 cp16 su17 0).bind fun (v22, K23, L24, J25, E26) =>
          some (v22, (T19, S20, L24, J25, E26, cp16, su17), K23)
theorem s_X5_trySwap {b : gBd} {t : gBd} {K : Nat} {p1 : Nat} {p2 : Nat} {Xb : xBd} {Xt : xBd} {XK : Nat → Int32} {Xp1 : Int32} {Xp2 : Int32} {r0 : Nat} {r1 : gBd} {r2 : Nat} (h : g_X5_trySwap b t K p1 p2 = some (r0, r1, r2)) (eb : Xb = dB b) (et : Xt = dB t) (eK : XK = dA K) (ep1 : Xp1 = nI p1) (ep2 : Xp2 = nI p2) : f_X5_trySwap Xb Xt XK Xp1 Xp2 = some (nI r0, dB r1, dA r2) := by
  subst eb et eK ep1 ep2
  unfold g_X5_trySwap at h
  unfold f_X5_trySwap
  obtain ⟨v1, e15, h⟩ := ob_i h
  refine ob_s (s_X5_isPlace e15 rfl) ?_
  rcases g_if h with ⟨c14, h⟩ | ⟨c14, h⟩
  · refine (if_pos (seq_t rfl rfl c14)).trans ?_
    have w0 := Option.some.inj h
    obtain ⟨q0, w1⟩ := Prod.mk.inj w0
    obtain ⟨q1, w2⟩ := Prod.mk.inj w1
    subst q0
    subst q1
    subst w2
    exact congrArg some (tup3 n_m1 rfl rfl)
  · refine (if_neg (seq_f rfl rfl c14)).trans ?_
    obtain ⟨v4, e13, h⟩ := ob_i h
    refine ob_s (s_X5_isPlace e13 rfl) ?_
    rcases g_if h with ⟨c12, h⟩ | ⟨c12, h⟩
    · refine (if_pos (seq_t rfl rfl c12)).trans ?_
      have w0 := Option.some.inj h
      obtain ⟨q0, w1⟩ := Prod.mk.inj w0
      obtain ⟨q1, w2⟩ := Prod.mk.inj w1
      subst q0
      subst q1
      subst w2
      exact congrArg some (tup3 n_m1 rfl rfl)
    · refine (if_neg (seq_f rfl rfl c12)).trans ?_
      rcases g_if h with ⟨c11, h⟩ | ⟨c11, h⟩
      · refine (if_pos (seq_t rfl rfl c11)).trans ?_
        have w0 := Option.some.inj h
        obtain ⟨q0, w1⟩ := Prod.mk.inj w0
        obtain ⟨q1, w2⟩ := Prod.mk.inj w1
        subst q0
        subst q1
        subst w2
        exact congrArg some (tup3 n_m5 rfl rfl)
      · refine (if_neg (seq_f rfl rfl c11)).trans ?_
        obtain ⟨v8, e10, h⟩ := ob_i h
        refine ob_s (s_X0_hasCell e10 rfl rfl) ?_
        rcases g_if h with ⟨c9, h⟩ | ⟨c9, h⟩
        · refine (if_pos (seq_t rfl rfl c9)).trans ?_
          obtain ⟨v28, e5, h⟩ := ob_i h
          refine ob_s (s_X0_hasCell e5 rfl rfl) ?_
          rcases g_if h with ⟨c4, h⟩ | ⟨c4, h⟩
          · refine (if_pos (seq_t rfl rfl c4)).trans ?_
            have w0 := Option.some.inj h
            obtain ⟨q0, w1⟩ := Prod.mk.inj w0
            obtain ⟨q1, w2⟩ := Prod.mk.inj w1
            subst q0
            subst q1
            subst w2
            exact congrArg some (tup3 n_m5 rfl rfl)
          · refine (if_neg (seq_f rfl rfl c4)).trans ?_
            obtain ⟨⟨T31, S32, L33, J34, E35, cp36, su37⟩, e3, h⟩ := ob_i h
            refine ob_s (s_X0_copyFrom e3 rfl rfl rfl rfl rfl rfl rfl rfl rfl rfl rfl rfl rfl rfl) ?_
            obtain ⟨⟨T39, S40⟩, e2, h⟩ := ob_i h
            refine ob_s (s_X0_exchange e2 rfl rfl rfl rfl) ?_
            obtain ⟨⟨v42, K43, L44, J45, E46⟩, e1, h⟩ := ob_i h
            refine ob_s (s_X2_layAll e1 rfl rfl rfl rfl rfl rfl rfl rfl) ?_
            have w0 := Option.some.inj h
            obtain ⟨q0, w1⟩ := Prod.mk.inj w0
            obtain ⟨q1, w2⟩ := Prod.mk.inj w1
            subst q0
            subst q1
            subst w2
            exact congrArg some (tup3 rfl (tup7 rfl rfl rfl rfl rfl rfl rfl) rfl)
        · refine (if_neg (seq_f rfl rfl c9)).trans ?_
          obtain ⟨⟨T11, S12, L13, J14, E15, cp16, su17⟩, e8, h⟩ := ob_i h
          refine ob_s (s_X0_copyFrom e8 rfl rfl rfl rfl rfl rfl rfl rfl rfl rfl rfl rfl rfl rfl) ?_
          obtain ⟨⟨T19, S20⟩, e7, h⟩ := ob_i h
          refine ob_s (s_X0_exchange e7 rfl rfl rfl rfl) ?_
          obtain ⟨⟨v22, K23, L24, J25, E26⟩, e6, h⟩ := ob_i h
          refine ob_s (s_X2_layAll e6 rfl rfl rfl rfl rfl rfl rfl rfl) ?_
          have w0 := Option.some.inj h
          obtain ⟨q0, w1⟩ := Prod.mk.inj w0
          obtain ⟨q1, w2⟩ := Prod.mk.inj w1
          subst q0
          subst q1
          subst w2
          exact congrArg some (tup3 rfl (tup7 rfl rfl rfl rfl rfl rfl rfl) rfl)
def g_X5_swap (b : gBd) (t : gBd) (hn : Nat) (pm : gP) (hb : gH) (K : Nat) (p1 : Nat) (p2 : Nat) : Option (Nat × gBd × gBd × Nat × gP × gH × Nat) :=
  (g_X5_trySwap b t K p1 p2).bind fun (v1, t2, K3) =>
  bif glt v1 0 then
    some (v1, b, t2, hn, pm, hb, K3)
  else
    (g_X5_acceptTrial b t2 hn pm hb).bind fun (b6, hn7, pm8, hb9) =>
    some (v1, b6, t2, hn7, pm8, hb9, K3)
theorem s_X5_swap {b : gBd} {t : gBd} {hn : Nat} {pm : gP} {hb : gH} {K : Nat} {p1 : Nat} {p2 : Nat} {Xb : xBd} {Xt : xBd} {Xhn : Int32} {Xpm : Nat → Nat} {Xhb : Nat → xBd} {XK : Nat → Int32} {Xp1 : Int32} {Xp2 : Int32} {r0 : Nat} {r1 : gBd} {r2 : gBd} {r3 : Nat} {r4 : gP} {r5 : gH} {r6 : Nat} (h : g_X5_swap b t hn pm hb K p1 p2 = some (r0, r1, r2, r3, r4, r5, r6)) (eb : Xb = dB b) (et : Xt = dB t) (ehn : Xhn = nI hn) (epm : Xpm = dP pm) (ehb : Xhb = dH hb) (eK : XK = dA K) (ep1 : Xp1 = nI p1) (ep2 : Xp2 = nI p2) : f_X5_swap Xb Xt Xhn Xpm Xhb XK Xp1 Xp2 = some (nI r0, dB r1, dB r2, nI r3, dP r4, dH r5, dA r6) := by
  subst eb et ehn epm ehb eK ep1 ep2
  unfold g_X5_swap at h
  unfold f_X5_swap
  obtain ⟨⟨v1, t2, K3⟩, e3, h⟩ := ob_i h
  refine ob_s (s_X5_trySwap e3 rfl rfl rfl rfl rfl) ?_
  rcases g_if h with ⟨c2, h⟩ | ⟨c2, h⟩
  · refine (if_pos (slt_t rfl rfl c2)).trans ?_
    have w0 := Option.some.inj h
    obtain ⟨q0, w1⟩ := Prod.mk.inj w0
    obtain ⟨q1, w2⟩ := Prod.mk.inj w1
    obtain ⟨q2, w3⟩ := Prod.mk.inj w2
    obtain ⟨q3, w4⟩ := Prod.mk.inj w3
    obtain ⟨q4, w5⟩ := Prod.mk.inj w4
    obtain ⟨q5, w6⟩ := Prod.mk.inj w5
    subst q0
    subst q1
    subst q2
    subst q3
    subst q4
    subst q5
    subst w6
    exact congrArg some (tup7 rfl rfl rfl rfl rfl rfl rfl)
  · refine (if_neg (slt_f rfl rfl c2)).trans ?_
    obtain ⟨⟨b6, hn7, pm8, hb9⟩, e1, h⟩ := ob_i h
    refine ob_s (s_X5_acceptTrial e1 rfl rfl rfl rfl rfl) ?_
    have w0 := Option.some.inj h
    obtain ⟨q0, w1⟩ := Prod.mk.inj w0
    obtain ⟨q1, w2⟩ := Prod.mk.inj w1
    obtain ⟨q2, w3⟩ := Prod.mk.inj w2
    obtain ⟨q3, w4⟩ := Prod.mk.inj w3
    obtain ⟨q4, w5⟩ := Prod.mk.inj w4
    obtain ⟨q5, w6⟩ := Prod.mk.inj w5
    subst q0
    subst q1
    subst q2
    subst q3
    subst q4
    subst q5
    subst w6
    exact congrArg some (tup7 rfl rfl rfl rfl rfl rfl rfl)
def g_X5_tryOrder (b : gBd) (t : gBd) (K : Nat) (p1 : Nat) : Option (Nat × gBd × Nat) :=
  (g_X0_copyFrom t.1 t.2.1 t.2.2.1 t.2.2.2.1 t.2.2.2.2.1 t.2.2.2.2.2.1 t.2.2.2.2.2.2 b.1 b.2.1 b.2.2.1 b.2.2.2.1 b.2.2.2.2.1 b.2.2.2.2.2.1 b.2.2.2.2.2.2).bind fun (T1, S2, L3, J4, E5, cp6, su7) =>
  (g_X2_layAll K S2 L3 J4 E5 cp6 su7 p1).bind fun (v9, K10, L11, J12, E13) =>
  some (v9, (T1, S2, L11, J12, E13, cp6, su7), K10)
theorem s_X5_tryOrder {b : gBd} {t : gBd} {K : Nat} {p1 : Nat} {Xb : xBd} {Xt : xBd} {XK : Nat → Int32} {Xp1 : Int32} {r0 : Nat} {r1 : gBd} {r2 : Nat} (h : g_X5_tryOrder b t K p1 = some (r0, r1, r2)) (eb : Xb = dB b) (et : Xt = dB t) (eK : XK = dA K) (ep1 : Xp1 = nI p1) : f_X5_tryOrder Xb Xt XK Xp1 = some (nI r0, dB r1, dA r2) := by
  subst eb et eK ep1
  unfold g_X5_tryOrder at h
  unfold f_X5_tryOrder
  obtain ⟨⟨T1, S2, L3, J4, E5, cp6, su7⟩, e2, h⟩ := ob_i h
  refine ob_s (s_X0_copyFrom e2 rfl rfl rfl rfl rfl rfl rfl rfl rfl rfl rfl rfl rfl rfl) ?_
  obtain ⟨⟨v9, K10, L11, J12, E13⟩, e1, h⟩ := ob_i h
  refine ob_s (s_X2_layAll e1 rfl rfl rfl rfl rfl rfl rfl rfl) ?_
  have w0 := Option.some.inj h
  obtain ⟨q0, w1⟩ := Prod.mk.inj w0
  obtain ⟨q1, w2⟩ := Prod.mk.inj w1
  subst q0
  subst q1
  subst w2
  exact congrArg some (tup3 rfl (tup7 rfl rfl rfl rfl rfl rfl rfl) rfl)
def g_X5_layAnew (b : gBd) (t : gBd) (hn : Nat) (pm : gP) (hb : gH) (K : Nat) (p1 : Nat) : Option (Nat × gBd × gBd × Nat × gP × gH × Nat) :=
  bif glt p1 0 then
    some (4294967294, b, t, hn, pm, hb, K)
  else
    bif glt p1 3 then
      (g_X5_tryOrder b t K p1).bind fun (v3, t4, K5) =>
      bif glt v3 0 then
        some (v3, b, t4, hn, pm, hb, K5)
      else
        (g_X5_acceptTrial b t4 hn pm hb).bind fun (b8, hn9, pm10, hb11) =>
        some (v3, b8, t4, hn9, pm10, hb11, K5)
    else
      some (4294967294, b, t, hn, pm, hb, K)
theorem s_X5_layAnew {b : gBd} {t : gBd} {hn : Nat} {pm : gP} {hb : gH} {K : Nat} {p1 : Nat} {Xb : xBd} {Xt : xBd} {Xhn : Int32} {Xpm : Nat → Nat} {Xhb : Nat → xBd} {XK : Nat → Int32} {Xp1 : Int32} {r0 : Nat} {r1 : gBd} {r2 : gBd} {r3 : Nat} {r4 : gP} {r5 : gH} {r6 : Nat} (h : g_X5_layAnew b t hn pm hb K p1 = some (r0, r1, r2, r3, r4, r5, r6)) (eb : Xb = dB b) (et : Xt = dB t) (ehn : Xhn = nI hn) (epm : Xpm = dP pm) (ehb : Xhb = dH hb) (eK : XK = dA K) (ep1 : Xp1 = nI p1) : f_X5_layAnew Xb Xt Xhn Xpm Xhb XK Xp1 = some (nI r0, dB r1, dB r2, nI r3, dP r4, dH r5, dA r6) := by
  subst eb et ehn epm ehb eK ep1
  unfold g_X5_layAnew at h
  unfold f_X5_layAnew
  rcases g_if h with ⟨c5, h⟩ | ⟨c5, h⟩
  · refine (if_pos (slt_t rfl rfl c5)).trans ?_
    have w0 := Option.some.inj h
    obtain ⟨q0, w1⟩ := Prod.mk.inj w0
    obtain ⟨q1, w2⟩ := Prod.mk.inj w1
    obtain ⟨q2, w3⟩ := Prod.mk.inj w2
    obtain ⟨q3, w4⟩ := Prod.mk.inj w3
    obtain ⟨q4, w5⟩ := Prod.mk.inj w4
    obtain ⟨q5, w6⟩ := Prod.mk.inj w5
    subst q0
    subst q1
    subst q2
    subst q3
    subst q4
    subst q5
    subst w6
    exact congrArg some (tup7 n_m2 rfl rfl rfl rfl rfl rfl)
  · refine (if_neg (slt_f rfl rfl c5)).trans ?_
    rcases g_if h with ⟨c4, h⟩ | ⟨c4, h⟩
    · refine (if_pos (slt_t rfl rfl c4)).trans ?_
      obtain ⟨⟨v3, t4, K5⟩, e3, h⟩ := ob_i h
      refine ob_s (s_X5_tryOrder e3 rfl rfl rfl rfl) ?_
      rcases g_if h with ⟨c2, h⟩ | ⟨c2, h⟩
      · refine (if_pos (slt_t rfl rfl c2)).trans ?_
        have w0 := Option.some.inj h
        obtain ⟨q0, w1⟩ := Prod.mk.inj w0
        obtain ⟨q1, w2⟩ := Prod.mk.inj w1
        obtain ⟨q2, w3⟩ := Prod.mk.inj w2
        obtain ⟨q3, w4⟩ := Prod.mk.inj w3
        obtain ⟨q4, w5⟩ := Prod.mk.inj w4
        obtain ⟨q5, w6⟩ := Prod.mk.inj w5
        subst q0
        subst q1
        subst q2
        subst q3
        subst q4
        subst q5
        subst w6
        exact congrArg some (tup7 rfl rfl rfl rfl rfl rfl rfl)
      · refine (if_neg (slt_f rfl rfl c2)).trans ?_
        obtain ⟨⟨b8, hn9, pm10, hb11⟩, e1, h⟩ := ob_i h
        refine ob_s (s_X5_acceptTrial e1 rfl rfl rfl rfl rfl) ?_
        have w0 := Option.some.inj h
        obtain ⟨q0, w1⟩ := Prod.mk.inj w0
        obtain ⟨q1, w2⟩ := Prod.mk.inj w1
        obtain ⟨q2, w3⟩ := Prod.mk.inj w2
        obtain ⟨q3, w4⟩ := Prod.mk.inj w3
        obtain ⟨q4, w5⟩ := Prod.mk.inj w4
        obtain ⟨q5, w6⟩ := Prod.mk.inj w5
        subst q0
        subst q1
        subst q2
        subst q3
        subst q4
        subst q5
        subst w6
        exact congrArg some (tup7 rfl rfl rfl rfl rfl rfl rfl)
    · refine (if_neg (slt_f rfl rfl c4)).trans ?_
      have w0 := Option.some.inj h
      obtain ⟨q0, w1⟩ := Prod.mk.inj w0
      obtain ⟨q1, w2⟩ := Prod.mk.inj w1
      obtain ⟨q2, w3⟩ := Prod.mk.inj w2
      obtain ⟨q3, w4⟩ := Prod.mk.inj w3
      obtain ⟨q4, w5⟩ := Prod.mk.inj w4
      obtain ⟨q5, w6⟩ := Prod.mk.inj w5
      subst q0
      subst q1
      subst q2
      subst q3
      subst q4
      subst q5
      subst w6
      exact congrArg some (tup7 n_m2 rfl rfl rfl rfl rfl rfl)
def g_X5_set (b : gBd) (hn : Nat) (pm : gP) (hb : gH) (p1 : Nat) (p2 : Nat) : Option (Nat × gBd × Nat × gP × gH) :=
  bif geq p1 0 then
    bif geq p1 0 then
      bif glt p2 1 then
        some (4294967294, b, hn, pm, hb)
      else
        bif glt 4 p2 then
          some (4294967294, b, hn, pm, hb)
        else
          bif geq p1 0 then
            (g_X0_mostHeld b.2.2.2.2.1).bind fun v48 =>
            bif gle v48 p2 then
              (g_X0_setting b.2.2.2.2.2.1 b.2.2.2.2.2.2 p1).bind fun v51 =>
              bif geq v51 p2 then
                some (4294967291, b, hn, pm, hb)
              else
                (g_X1_remember hn pm hb b).bind fun (hn54, pm55, hb56) =>
                (g_X0_changeSetting b.2.2.2.2.2.1 b.2.2.2.2.2.2 p1 p2).bind fun (cp58, su59) =>
                some (v51, (b.1, b.2.1, b.2.2.1, b.2.2.2.1, b.2.2.2.2.1, cp58, su59), hn54, pm55, hb56)
            else
              some (4294967292, b, hn, pm, hb)
          else
            (g_X0_setting b.2.2.2.2.2.1 b.2.2.2.2.2.2 p1).bind fun v38 =>
            bif geq v38 p2 then
              some (4294967291, b, hn, pm, hb)
            else
              (g_X1_remember hn pm hb b).bind fun (hn41, pm42, hb43) =>
              (g_X0_changeSetting b.2.2.2.2.2.1 b.2.2.2.2.2.2 p1 p2).bind fun (cp45, su46) =>
              some (v38, (b.1, b.2.1, b.2.2.1, b.2.2.2.1, b.2.2.2.2.1, cp45, su46), hn41, pm42, hb43)
    else
      bif glt p2 0 then
        some (4294967294, b, hn, pm, hb)
      else
        bif glt 9 p2 then
          some (4294967294, b, hn, pm, hb)
        else
          bif geq p1 0 then
            (g_X0_mostHeld b.2.2.2.2.1).bind fun v19 =>
            bif gle v19 p2 then
              (g_X0_setting b.2.2.2.2.2.1 b.2.2.2.2.2.2 p1).bind fun v22 =>
              bif geq v22 p2 then
                some (4294967291, b, hn, pm, hb)
              else
                (g_X1_remember hn pm hb b).bind fun (hn25, pm26, hb27) =>
                (g_X0_changeSetting b.2.2.2.2.2.1 b.2.2.2.2.2.2 p1 p2).bind fun (cp29, su30) =>
                some (v22, (b.1, b.2.1, b.2.2.1, b.2.2.2.1, b.2.2.2.2.1, cp29, su30), hn25, pm26, hb27)
            else
              some (4294967292, b, hn, pm, hb)
          else
            (g_X0_setting b.2.2.2.2.2.1 b.2.2.2.2.2.2 p1).bind fun v9 =>
            bif geq v9 p2 then
              some (4294967291, b, hn, pm, hb)
            else
              (g_X1_remember hn pm hb b).bind fun (hn12, pm13, hb14) =>
              (g_X0_changeSetting b.2.2.2.2.2.1 b.2.2.2.2.2.2 p1 p2).bind fun (cp16, su17) =>
              some (v9, (b.1, b.2.1, b.2.2.1, b.2.2.2.1, b.2.2.2.2.1, cp16, su17), hn12, pm13, hb14)
  else
    bif geq p1 1 then
      bif geq p1 0 then
        bif glt p2 1 then
          some (4294967294, b, hn, pm, hb)
        else
          bif glt 4 p2 then
            some (4294967294, b, hn, pm, hb)
          else
            bif geq p1 0 then
              (g_X0_mostHeld b.2.2.2.2.1).bind fun v108 =>
              bif gle v108 p2 then
                (g_X0_setting b.2.2.2.2.2.1 b.2.2.2.2.2.2 p1).bind fun v111 =>
                bif geq v111 p2 then
                  some (4294967291, b, hn, pm, hb)
                else
                  (g_X1_remember hn pm hb b).bind fun (hn114, pm115, hb116) =>
                  (g_X0_changeSetting b.2.2.2.2.2.1 b.2.2.2.2.2.2 p1 p2).bind fun (cp118, su119) =>
                  some (v111, (b.1, b.2.1, b.2.2.1, b.2.2.2.1, b.2.2.2.2.1, cp118, su119), hn114, pm115, hb116)
              else
                some (4294967292, b, hn, pm, hb)
            else
              (g_X0_setting b.2.2.2.2.2.1 b.2.2.2.2.2.2 p1).bind fun v98 =>
              bif geq v98 p2 then
                some (4294967291, b, hn, pm, hb)
              else
                (g_X1_remember hn pm hb b).bind fun (hn101, pm102, hb103) =>
                (g_X0_changeSetting b.2.2.2.2.2.1 b.2.2.2.2.2.2 p1 p2).bind fun (cp105, su106) =>
                some (v98, (b.1, b.2.1, b.2.2.1, b.2.2.2.1, b.2.2.2.2.1, cp105, su106), hn101, pm102, hb103)
      else
        bif glt p2 0 then
          some (4294967294, b, hn, pm, hb)
        else
          bif glt 9 p2 then
            some (4294967294, b, hn, pm, hb)
          else
            bif geq p1 0 then
              (g_X0_mostHeld b.2.2.2.2.1).bind fun v79 =>
              bif gle v79 p2 then
                (g_X0_setting b.2.2.2.2.2.1 b.2.2.2.2.2.2 p1).bind fun v82 =>
                bif geq v82 p2 then
                  some (4294967291, b, hn, pm, hb)
                else
                  (g_X1_remember hn pm hb b).bind fun (hn85, pm86, hb87) =>
                  (g_X0_changeSetting b.2.2.2.2.2.1 b.2.2.2.2.2.2 p1 p2).bind fun (cp89, su90) =>
                  some (v82, (b.1, b.2.1, b.2.2.1, b.2.2.2.1, b.2.2.2.2.1, cp89, su90), hn85, pm86, hb87)
              else
                some (4294967292, b, hn, pm, hb)
            else
              (g_X0_setting b.2.2.2.2.2.1 b.2.2.2.2.2.2 p1).bind fun v69 =>
              bif geq v69 p2 then
                some (4294967291, b, hn, pm, hb)
              else
                (g_X1_remember hn pm hb b).bind fun (hn72, pm73, hb74) =>
                (g_X0_changeSetting b.2.2.2.2.2.1 b.2.2.2.2.2.2 p1 p2).bind fun (cp76, su77) =>
                some (v69, (b.1, b.2.1, b.2.2.1, b.2.2.2.1, b.2.2.2.2.1, cp76, su77), hn72, pm73, hb74)
    else
      some (4294967295, b, hn, pm, hb)
theorem s_X5_set {b : gBd} {hn : Nat} {pm : gP} {hb : gH} {p1 : Nat} {p2 : Nat} {Xb : xBd} {Xhn : Int32} {Xpm : Nat → Nat} {Xhb : Nat → xBd} {Xp1 : Int32} {Xp2 : Int32} {r0 : Nat} {r1 : gBd} {r2 : Nat} {r3 : gP} {r4 : gH} (h : g_X5_set b hn pm hb p1 p2 = some (r0, r1, r2, r3, r4)) (eb : Xb = dB b) (ehn : Xhn = nI hn) (epm : Xpm = dP pm) (ehb : Xhb = dH hb) (ep1 : Xp1 = nI p1) (ep2 : Xp2 = nI p2) : f_X5_set Xb Xhn Xpm Xhb Xp1 Xp2 = some (nI r0, dB r1, nI r2, dP r3, dH r4) := by
  subst eb ehn epm ehb ep1 ep2
  unfold g_X5_set at h
  unfold f_X5_set
  rcases g_if h with ⟨c56, h⟩ | ⟨c56, h⟩
  · refine (if_pos (seq_t rfl rfl c56)).trans ?_
    rcases g_if h with ⟨c27, h⟩ | ⟨c27, h⟩
    · refine (if_pos (seq_t rfl rfl c27)).trans ?_
      rcases g_if h with ⟨c13, h⟩ | ⟨c13, h⟩
      · refine (if_pos (slt_t rfl rfl c13)).trans ?_
        have w0 := Option.some.inj h
        obtain ⟨q0, w1⟩ := Prod.mk.inj w0
        obtain ⟨q1, w2⟩ := Prod.mk.inj w1
        obtain ⟨q2, w3⟩ := Prod.mk.inj w2
        obtain ⟨q3, w4⟩ := Prod.mk.inj w3
        subst q0
        subst q1
        subst q2
        subst q3
        subst w4
        exact congrArg some (tup5 n_m2 rfl rfl rfl rfl)
      · refine (if_neg (slt_f rfl rfl c13)).trans ?_
        rcases g_if h with ⟨c12, h⟩ | ⟨c12, h⟩
        · refine (if_pos (slt_t rfl rfl c12)).trans ?_
          have w0 := Option.some.inj h
          obtain ⟨q0, w1⟩ := Prod.mk.inj w0
          obtain ⟨q1, w2⟩ := Prod.mk.inj w1
          obtain ⟨q2, w3⟩ := Prod.mk.inj w2
          obtain ⟨q3, w4⟩ := Prod.mk.inj w3
          subst q0
          subst q1
          subst q2
          subst q3
          subst w4
          exact congrArg some (tup5 n_m2 rfl rfl rfl rfl)
        · refine (if_neg (slt_f rfl rfl c12)).trans ?_
          rcases g_if h with ⟨c11, h⟩ | ⟨c11, h⟩
          · refine (if_pos (seq_t rfl rfl c11)).trans ?_
            obtain ⟨v48, e6, h⟩ := ob_i h
            refine ob_s (s_X0_mostHeld e6 rfl) ?_
            rcases g_if h with ⟨c5, h⟩ | ⟨c5, h⟩
            · refine (if_pos (sle_t rfl rfl c5)).trans ?_
              obtain ⟨v51, e4, h⟩ := ob_i h
              refine ob_s (s_X0_setting e4 rfl rfl rfl) ?_
              rcases g_if h with ⟨c3, h⟩ | ⟨c3, h⟩
              · refine (if_pos (seq_t rfl rfl c3)).trans ?_
                have w0 := Option.some.inj h
                obtain ⟨q0, w1⟩ := Prod.mk.inj w0
                obtain ⟨q1, w2⟩ := Prod.mk.inj w1
                obtain ⟨q2, w3⟩ := Prod.mk.inj w2
                obtain ⟨q3, w4⟩ := Prod.mk.inj w3
                subst q0
                subst q1
                subst q2
                subst q3
                subst w4
                exact congrArg some (tup5 n_m5 rfl rfl rfl rfl)
              · refine (if_neg (seq_f rfl rfl c3)).trans ?_
                obtain ⟨⟨hn54, pm55, hb56⟩, e2, h⟩ := ob_i h
                refine ob_s (s_X1_remember e2 rfl rfl rfl rfl) ?_
                obtain ⟨⟨cp58, su59⟩, e1, h⟩ := ob_i h
                refine ob_s (s_X0_changeSetting e1 rfl rfl rfl rfl) ?_
                have w0 := Option.some.inj h
                obtain ⟨q0, w1⟩ := Prod.mk.inj w0
                obtain ⟨q1, w2⟩ := Prod.mk.inj w1
                obtain ⟨q2, w3⟩ := Prod.mk.inj w2
                obtain ⟨q3, w4⟩ := Prod.mk.inj w3
                subst q0
                subst q1
                subst q2
                subst q3
                subst w4
                exact congrArg some (tup5 rfl (tup7 rfl rfl rfl rfl rfl rfl rfl) rfl rfl rfl)
            · refine (if_neg (sle_f rfl rfl c5)).trans ?_
              have w0 := Option.some.inj h
              obtain ⟨q0, w1⟩ := Prod.mk.inj w0
              obtain ⟨q1, w2⟩ := Prod.mk.inj w1
              obtain ⟨q2, w3⟩ := Prod.mk.inj w2
              obtain ⟨q3, w4⟩ := Prod.mk.inj w3
              subst q0
              subst q1
              subst q2
              subst q3
              subst w4
              exact congrArg some (tup5 n_m4 rfl rfl rfl rfl)
          · refine (if_neg (seq_f rfl rfl c11)).trans ?_
            obtain ⟨v38, e10, h⟩ := ob_i h
            refine ob_s (s_X0_setting e10 rfl rfl rfl) ?_
            rcases g_if h with ⟨c9, h⟩ | ⟨c9, h⟩
            · refine (if_pos (seq_t rfl rfl c9)).trans ?_
              have w0 := Option.some.inj h
              obtain ⟨q0, w1⟩ := Prod.mk.inj w0
              obtain ⟨q1, w2⟩ := Prod.mk.inj w1
              obtain ⟨q2, w3⟩ := Prod.mk.inj w2
              obtain ⟨q3, w4⟩ := Prod.mk.inj w3
              subst q0
              subst q1
              subst q2
              subst q3
              subst w4
              exact congrArg some (tup5 n_m5 rfl rfl rfl rfl)
            · refine (if_neg (seq_f rfl rfl c9)).trans ?_
              obtain ⟨⟨hn41, pm42, hb43⟩, e8, h⟩ := ob_i h
              refine ob_s (s_X1_remember e8 rfl rfl rfl rfl) ?_
              obtain ⟨⟨cp45, su46⟩, e7, h⟩ := ob_i h
              refine ob_s (s_X0_changeSetting e7 rfl rfl rfl rfl) ?_
              have w0 := Option.some.inj h
              obtain ⟨q0, w1⟩ := Prod.mk.inj w0
              obtain ⟨q1, w2⟩ := Prod.mk.inj w1
              obtain ⟨q2, w3⟩ := Prod.mk.inj w2
              obtain ⟨q3, w4⟩ := Prod.mk.inj w3
              subst q0
              subst q1
              subst q2
              subst q3
              subst w4
              exact congrArg some (tup5 rfl (tup7 rfl rfl rfl rfl rfl rfl rfl) rfl rfl rfl)
    · refine (if_neg (seq_f rfl rfl c27)).trans ?_
      rcases g_if h with ⟨c26, h⟩ | ⟨c26, h⟩
      · refine (if_pos (slt_t rfl rfl c26)).trans ?_
        have w0 := Option.some.inj h
        obtain ⟨q0, w1⟩ := Prod.mk.inj w0
        obtain ⟨q1, w2⟩ := Prod.mk.inj w1
        obtain ⟨q2, w3⟩ := Prod.mk.inj w2
        obtain ⟨q3, w4⟩ := Prod.mk.inj w3
        subst q0
        subst q1
        subst q2
        subst q3
        subst w4
        exact congrArg some (tup5 n_m2 rfl rfl rfl rfl)
      · refine (if_neg (slt_f rfl rfl c26)).trans ?_
        rcases g_if h with ⟨c25, h⟩ | ⟨c25, h⟩
        · refine (if_pos (slt_t rfl rfl c25)).trans ?_
          have w0 := Option.some.inj h
          obtain ⟨q0, w1⟩ := Prod.mk.inj w0
          obtain ⟨q1, w2⟩ := Prod.mk.inj w1
          obtain ⟨q2, w3⟩ := Prod.mk.inj w2
          obtain ⟨q3, w4⟩ := Prod.mk.inj w3
          subst q0
          subst q1
          subst q2
          subst q3
          subst w4
          exact congrArg some (tup5 n_m2 rfl rfl rfl rfl)
        · refine (if_neg (slt_f rfl rfl c25)).trans ?_
          rcases g_if h with ⟨c24, h⟩ | ⟨c24, h⟩
          · refine (if_pos (seq_t rfl rfl c24)).trans ?_
            obtain ⟨v19, e19, h⟩ := ob_i h
            refine ob_s (s_X0_mostHeld e19 rfl) ?_
            rcases g_if h with ⟨c18, h⟩ | ⟨c18, h⟩
            · refine (if_pos (sle_t rfl rfl c18)).trans ?_
              obtain ⟨v22, e17, h⟩ := ob_i h
              refine ob_s (s_X0_setting e17 rfl rfl rfl) ?_
              rcases g_if h with ⟨c16, h⟩ | ⟨c16, h⟩
              · refine (if_pos (seq_t rfl rfl c16)).trans ?_
                have w0 := Option.some.inj h
                obtain ⟨q0, w1⟩ := Prod.mk.inj w0
                obtain ⟨q1, w2⟩ := Prod.mk.inj w1
                obtain ⟨q2, w3⟩ := Prod.mk.inj w2
                obtain ⟨q3, w4⟩ := Prod.mk.inj w3
                subst q0
                subst q1
                subst q2
                subst q3
                subst w4
                exact congrArg some (tup5 n_m5 rfl rfl rfl rfl)
              · refine (if_neg (seq_f rfl rfl c16)).trans ?_
                obtain ⟨⟨hn25, pm26, hb27⟩, e15, h⟩ := ob_i h
                refine ob_s (s_X1_remember e15 rfl rfl rfl rfl) ?_
                obtain ⟨⟨cp29, su30⟩, e14, h⟩ := ob_i h
                refine ob_s (s_X0_changeSetting e14 rfl rfl rfl rfl) ?_
                have w0 := Option.some.inj h
                obtain ⟨q0, w1⟩ := Prod.mk.inj w0
                obtain ⟨q1, w2⟩ := Prod.mk.inj w1
                obtain ⟨q2, w3⟩ := Prod.mk.inj w2
                obtain ⟨q3, w4⟩ := Prod.mk.inj w3
                subst q0
                subst q1
                subst q2
                subst q3
                subst w4
                exact congrArg some (tup5 rfl (tup7 rfl rfl rfl rfl rfl rfl rfl) rfl rfl rfl)
            · refine (if_neg (sle_f rfl rfl c18)).trans ?_
              have w0 := Option.some.inj h
              obtain ⟨q0, w1⟩ := Prod.mk.inj w0
              obtain ⟨q1, w2⟩ := Prod.mk.inj w1
              obtain ⟨q2, w3⟩ := Prod.mk.inj w2
              obtain ⟨q3, w4⟩ := Prod.mk.inj w3
              subst q0
              subst q1
              subst q2
              subst q3
              subst w4
              exact congrArg some (tup5 n_m4 rfl rfl rfl rfl)
          · refine (if_neg (seq_f rfl rfl c24)).trans ?_
            obtain ⟨v9, e23, h⟩ := ob_i h
            refine ob_s (s_X0_setting e23 rfl rfl rfl) ?_
            rcases g_if h with ⟨c22, h⟩ | ⟨c22, h⟩
            · refine (if_pos (seq_t rfl rfl c22)).trans ?_
              have w0 := Option.some.inj h
              obtain ⟨q0, w1⟩ := Prod.mk.inj w0
              obtain ⟨q1, w2⟩ := Prod.mk.inj w1
              obtain ⟨q2, w3⟩ := Prod.mk.inj w2
              obtain ⟨q3, w4⟩ := Prod.mk.inj w3
              subst q0
              subst q1
              subst q2
              subst q3
              subst w4
              exact congrArg some (tup5 n_m5 rfl rfl rfl rfl)
            · refine (if_neg (seq_f rfl rfl c22)).trans ?_
              obtain ⟨⟨hn12, pm13, hb14⟩, e21, h⟩ := ob_i h
              refine ob_s (s_X1_remember e21 rfl rfl rfl rfl) ?_
              obtain ⟨⟨cp16, su17⟩, e20, h⟩ := ob_i h
              refine ob_s (s_X0_changeSetting e20 rfl rfl rfl rfl) ?_
              have w0 := Option.some.inj h
              obtain ⟨q0, w1⟩ := Prod.mk.inj w0
              obtain ⟨q1, w2⟩ := Prod.mk.inj w1
              obtain ⟨q2, w3⟩ := Prod.mk.inj w2
              obtain ⟨q3, w4⟩ := Prod.mk.inj w3
              subst q0
              subst q1
              subst q2
              subst q3
              subst w4
              exact congrArg some (tup5 rfl (tup7 rfl rfl rfl rfl rfl rfl rfl) rfl rfl rfl)
  · refine (if_neg (seq_f rfl rfl c56)).trans ?_
    rcases g_if h with ⟨c55, h⟩ | ⟨c55, h⟩
    · refine (if_pos (seq_t rfl rfl c55)).trans ?_
      rcases g_if h with ⟨c54, h⟩ | ⟨c54, h⟩
      · refine (if_pos (seq_t rfl rfl c54)).trans ?_
        rcases g_if h with ⟨c40, h⟩ | ⟨c40, h⟩
        · refine (if_pos (slt_t rfl rfl c40)).trans ?_
          have w0 := Option.some.inj h
          obtain ⟨q0, w1⟩ := Prod.mk.inj w0
          obtain ⟨q1, w2⟩ := Prod.mk.inj w1
          obtain ⟨q2, w3⟩ := Prod.mk.inj w2
          obtain ⟨q3, w4⟩ := Prod.mk.inj w3
          subst q0
          subst q1
          subst q2
          subst q3
          subst w4
          exact congrArg some (tup5 n_m2 rfl rfl rfl rfl)
        · refine (if_neg (slt_f rfl rfl c40)).trans ?_
          rcases g_if h with ⟨c39, h⟩ | ⟨c39, h⟩
          · refine (if_pos (slt_t rfl rfl c39)).trans ?_
            have w0 := Option.some.inj h
            obtain ⟨q0, w1⟩ := Prod.mk.inj w0
            obtain ⟨q1, w2⟩ := Prod.mk.inj w1
            obtain ⟨q2, w3⟩ := Prod.mk.inj w2
            obtain ⟨q3, w4⟩ := Prod.mk.inj w3
            subst q0
            subst q1
            subst q2
            subst q3
            subst w4
            exact congrArg some (tup5 n_m2 rfl rfl rfl rfl)
          · refine (if_neg (slt_f rfl rfl c39)).trans ?_
            rcases g_if h with ⟨c38, h⟩ | ⟨c38, h⟩
            · refine (if_pos (seq_t rfl rfl c38)).trans ?_
              obtain ⟨v108, e33, h⟩ := ob_i h
              refine ob_s (s_X0_mostHeld e33 rfl) ?_
              rcases g_if h with ⟨c32, h⟩ | ⟨c32, h⟩
              · refine (if_pos (sle_t rfl rfl c32)).trans ?_
                obtain ⟨v111, e31, h⟩ := ob_i h
                refine ob_s (s_X0_setting e31 rfl rfl rfl) ?_
                rcases g_if h with ⟨c30, h⟩ | ⟨c30, h⟩
                · refine (if_pos (seq_t rfl rfl c30)).trans ?_
                  have w0 := Option.some.inj h
                  obtain ⟨q0, w1⟩ := Prod.mk.inj w0
                  obtain ⟨q1, w2⟩ := Prod.mk.inj w1
                  obtain ⟨q2, w3⟩ := Prod.mk.inj w2
                  obtain ⟨q3, w4⟩ := Prod.mk.inj w3
                  subst q0
                  subst q1
                  subst q2
                  subst q3
                  subst w4
                  exact congrArg some (tup5 n_m5 rfl rfl rfl rfl)
                · refine (if_neg (seq_f rfl rfl c30)).trans ?_
                  obtain ⟨⟨hn114, pm115, hb116⟩, e29, h⟩ := ob_i h
                  refine ob_s (s_X1_remember e29 rfl rfl rfl rfl) ?_
                  obtain ⟨⟨cp118, su119⟩, e28, h⟩ := ob_i h
                  refine ob_s (s_X0_changeSetting e28 rfl rfl rfl rfl) ?_
                  have w0 := Option.some.inj h
                  obtain ⟨q0, w1⟩ := Prod.mk.inj w0
                  obtain ⟨q1, w2⟩ := Prod.mk.inj w1
                  obtain ⟨q2, w3⟩ := Prod.mk.inj w2
                  obtain ⟨q3, w4⟩ := Prod.mk.inj w3
                  subst q0
                  subst q1
                  subst q2
                  subst q3
                  subst w4
                  exact congrArg some (tup5 rfl (tup7 rfl rfl rfl rfl rfl rfl rfl) rfl rfl rfl)
              · refine (if_neg (sle_f rfl rfl c32)).trans ?_
                have w0 := Option.some.inj h
                obtain ⟨q0, w1⟩ := Prod.mk.inj w0
                obtain ⟨q1, w2⟩ := Prod.mk.inj w1
                obtain ⟨q2, w3⟩ := Prod.mk.inj w2
                obtain ⟨q3, w4⟩ := Prod.mk.inj w3
                subst q0
                subst q1
                subst q2
                subst q3
                subst w4
                exact congrArg some (tup5 n_m4 rfl rfl rfl rfl)
            · refine (if_neg (seq_f rfl rfl c38)).trans ?_
              obtain ⟨v98, e37, h⟩ := ob_i h
              refine ob_s (s_X0_setting e37 rfl rfl rfl) ?_
              rcases g_if h with ⟨c36, h⟩ | ⟨c36, h⟩
              · refine (if_pos (seq_t rfl rfl c36)).trans ?_
                have w0 := Option.some.inj h
                obtain ⟨q0, w1⟩ := Prod.mk.inj w0
                obtain ⟨q1, w2⟩ := Prod.mk.inj w1
                obtain ⟨q2, w3⟩ := Prod.mk.inj w2
                obtain ⟨q3, w4⟩ := Prod.mk.inj w3
                subst q0
                subst q1
                subst q2
                subst q3
                subst w4
                exact congrArg some (tup5 n_m5 rfl rfl rfl rfl)
              · refine (if_neg (seq_f rfl rfl c36)).trans ?_
                obtain ⟨⟨hn101, pm102, hb103⟩, e35, h⟩ := ob_i h
                refine ob_s (s_X1_remember e35 rfl rfl rfl rfl) ?_
                obtain ⟨⟨cp105, su106⟩, e34, h⟩ := ob_i h
                refine ob_s (s_X0_changeSetting e34 rfl rfl rfl rfl) ?_
                have w0 := Option.some.inj h
                obtain ⟨q0, w1⟩ := Prod.mk.inj w0
                obtain ⟨q1, w2⟩ := Prod.mk.inj w1
                obtain ⟨q2, w3⟩ := Prod.mk.inj w2
                obtain ⟨q3, w4⟩ := Prod.mk.inj w3
                subst q0
                subst q1
                subst q2
                subst q3
                subst w4
                exact congrArg some (tup5 rfl (tup7 rfl rfl rfl rfl rfl rfl rfl) rfl rfl rfl)
      · refine (if_neg (seq_f rfl rfl c54)).trans ?_
        rcases g_if h with ⟨c53, h⟩ | ⟨c53, h⟩
        · refine (if_pos (slt_t rfl rfl c53)).trans ?_
          have w0 := Option.some.inj h
          obtain ⟨q0, w1⟩ := Prod.mk.inj w0
          obtain ⟨q1, w2⟩ := Prod.mk.inj w1
          obtain ⟨q2, w3⟩ := Prod.mk.inj w2
          obtain ⟨q3, w4⟩ := Prod.mk.inj w3
          subst q0
          subst q1
          subst q2
          subst q3
          subst w4
          exact congrArg some (tup5 n_m2 rfl rfl rfl rfl)
        · refine (if_neg (slt_f rfl rfl c53)).trans ?_
          rcases g_if h with ⟨c52, h⟩ | ⟨c52, h⟩
          · refine (if_pos (slt_t rfl rfl c52)).trans ?_
            have w0 := Option.some.inj h
            obtain ⟨q0, w1⟩ := Prod.mk.inj w0
            obtain ⟨q1, w2⟩ := Prod.mk.inj w1
            obtain ⟨q2, w3⟩ := Prod.mk.inj w2
            obtain ⟨q3, w4⟩ := Prod.mk.inj w3
            subst q0
            subst q1
            subst q2
            subst q3
            subst w4
            exact congrArg some (tup5 n_m2 rfl rfl rfl rfl)
          · refine (if_neg (slt_f rfl rfl c52)).trans ?_
            rcases g_if h with ⟨c51, h⟩ | ⟨c51, h⟩
            · refine (if_pos (seq_t rfl rfl c51)).trans ?_
              obtain ⟨v79, e46, h⟩ := ob_i h
              refine ob_s (s_X0_mostHeld e46 rfl) ?_
              rcases g_if h with ⟨c45, h⟩ | ⟨c45, h⟩
              · refine (if_pos (sle_t rfl rfl c45)).trans ?_
                obtain ⟨v82, e44, h⟩ := ob_i h
                refine ob_s (s_X0_setting e44 rfl rfl rfl) ?_
                rcases g_if h with ⟨c43, h⟩ | ⟨c43, h⟩
                · refine (if_pos (seq_t rfl rfl c43)).trans ?_
                  have w0 := Option.some.inj h
                  obtain ⟨q0, w1⟩ := Prod.mk.inj w0
                  obtain ⟨q1, w2⟩ := Prod.mk.inj w1
                  obtain ⟨q2, w3⟩ := Prod.mk.inj w2
                  obtain ⟨q3, w4⟩ := Prod.mk.inj w3
                  subst q0
                  subst q1
                  subst q2
                  subst q3
                  subst w4
                  exact congrArg some (tup5 n_m5 rfl rfl rfl rfl)
                · refine (if_neg (seq_f rfl rfl c43)).trans ?_
                  obtain ⟨⟨hn85, pm86, hb87⟩, e42, h⟩ := ob_i h
                  refine ob_s (s_X1_remember e42 rfl rfl rfl rfl) ?_
                  obtain ⟨⟨cp89, su90⟩, e41, h⟩ := ob_i h
                  refine ob_s (s_X0_changeSetting e41 rfl rfl rfl rfl) ?_
                  have w0 := Option.some.inj h
                  obtain ⟨q0, w1⟩ := Prod.mk.inj w0
                  obtain ⟨q1, w2⟩ := Prod.mk.inj w1
                  obtain ⟨q2, w3⟩ := Prod.mk.inj w2
                  obtain ⟨q3, w4⟩ := Prod.mk.inj w3
                  subst q0
                  subst q1
                  subst q2
                  subst q3
                  subst w4
                  exact congrArg some (tup5 rfl (tup7 rfl rfl rfl rfl rfl rfl rfl) rfl rfl rfl)
              · refine (if_neg (sle_f rfl rfl c45)).trans ?_
                have w0 := Option.some.inj h
                obtain ⟨q0, w1⟩ := Prod.mk.inj w0
                obtain ⟨q1, w2⟩ := Prod.mk.inj w1
                obtain ⟨q2, w3⟩ := Prod.mk.inj w2
                obtain ⟨q3, w4⟩ := Prod.mk.inj w3
                subst q0
                subst q1
                subst q2
                subst q3
                subst w4
                exact congrArg some (tup5 n_m4 rfl rfl rfl rfl)
            · refine (if_neg (seq_f rfl rfl c51)).trans ?_
              obtain ⟨v69, e50, h⟩ := ob_i h
              refine ob_s (s_X0_setting e50 rfl rfl rfl) ?_
              rcases g_if h with ⟨c49, h⟩ | ⟨c49, h⟩
              · refine (if_pos (seq_t rfl rfl c49)).trans ?_
                have w0 := Option.some.inj h
                obtain ⟨q0, w1⟩ := Prod.mk.inj w0
                obtain ⟨q1, w2⟩ := Prod.mk.inj w1
                obtain ⟨q2, w3⟩ := Prod.mk.inj w2
                obtain ⟨q3, w4⟩ := Prod.mk.inj w3
                subst q0
                subst q1
                subst q2
                subst q3
                subst w4
                exact congrArg some (tup5 n_m5 rfl rfl rfl rfl)
              · refine (if_neg (seq_f rfl rfl c49)).trans ?_
                obtain ⟨⟨hn72, pm73, hb74⟩, e48, h⟩ := ob_i h
                refine ob_s (s_X1_remember e48 rfl rfl rfl rfl) ?_
                obtain ⟨⟨cp76, su77⟩, e47, h⟩ := ob_i h
                refine ob_s (s_X0_changeSetting e47 rfl rfl rfl rfl) ?_
                have w0 := Option.some.inj h
                obtain ⟨q0, w1⟩ := Prod.mk.inj w0
                obtain ⟨q1, w2⟩ := Prod.mk.inj w1
                obtain ⟨q2, w3⟩ := Prod.mk.inj w2
                obtain ⟨q3, w4⟩ := Prod.mk.inj w3
                subst q0
                subst q1
                subst q2
                subst q3
                subst w4
                exact congrArg some (tup5 rfl (tup7 rfl rfl rfl rfl rfl rfl rfl) rfl rfl rfl)
    · refine (if_neg (seq_f rfl rfl c55)).trans ?_
      have w0 := Option.some.inj h
      obtain ⟨q0, w1⟩ := Prod.mk.inj w0
      obtain ⟨q1, w2⟩ := Prod.mk.inj w1
      obtain ⟨q2, w3⟩ := Prod.mk.inj w2
      obtain ⟨q3, w4⟩ := Prod.mk.inj w3
      subst q0
      subst q1
      subst q2
      subst q3
      subst w4
      exact congrArg some (tup5 n_m1 rfl rfl rfl rfl)
def g_X5_load (b : gBd) (t : gBd) (hn : Nat) (pm : gP) (hb : gH) (K : Nat) (Sg : Nat) (ln : Nat) (at_ : Nat) : Option (Nat × gBd × gBd × Nat × gP × gH × Nat × Nat) :=
  (g_X0_copyFrom t.1 t.2.1 t.2.2.1 t.2.2.2.1 t.2.2.2.2.1 t.2.2.2.2.2.1 t.2.2.2.2.2.2 b.1 b.2.1 b.2.2.1 b.2.2.2.1 b.2.2.2.2.1 b.2.2.2.2.2.1 b.2.2.2.2.2.2).bind fun (T1, S2, L3, J4, E5, cp6, su7) =>
  (g_X0_removeAllCells T1 S2 L3 E5).bind fun (T9, S10, L11, E12) =>
  (g_X4_readInto Sg ln at_ T9 S10).bind fun (v14, at15, T16, S17) =>
  bif geq v14 4294967295 then
    (g_X0_hasAllSources T16 S17).bind fun v20 =>
    bif geq v20 0 then
      some (4294967292, b, (T16, S17, L11, J4, E12, cp6, su7), hn, pm, hb, K, at15)
    else
      (g_X2_layAll K S17 L11 J4 E12 cp6 su7 0).bind fun (v23, K24, L25, J26, E27) =>
      bif gle 0 v23 then
        (g_X5_acceptTrial b (T16, S17, L25, J26, E27, cp6, su7) hn pm hb).bind fun (b30, hn31, pm32, hb33) =>
        (g_X0_cells b30.1).bind fun v35 =>
        some (v35, b30, (T16, S17, L25, J26, E27, cp6, su7), hn31, pm32, hb33, K24, at15)
      else
        some (4294967293, b, (T16, S17, L25, J26, E27, cp6, su7), hn, pm, hb, K24, at15)
  else
    some ((gs 4294967196 v14), b, (T16, S17, L11, J4, E12, cp6, su7), hn, pm, hb, K, at15)
theorem s_X5_load {b : gBd} {t : gBd} {hn : Nat} {pm : gP} {hb : gH} {K : Nat} {Sg : Nat} {ln : Nat} {at_ : Nat} {Xb : xBd} {Xt : xBd} {Xhn : Int32} {Xpm : Nat → Nat} {Xhb : Nat → xBd} {XK : Nat → Int32} {XSg : Nat → Int32} {Xln : Int32} {Xat_ : Int32} {r0 : Nat} {r1 : gBd} {r2 : gBd} {r3 : Nat} {r4 : gP} {r5 : gH} {r6 : Nat} {r7 : Nat} (h : g_X5_load b t hn pm hb K Sg ln at_ = some (r0, r1, r2, r3, r4, r5, r6, r7)) (eb : Xb = dB b) (et : Xt = dB t) (ehn : Xhn = nI hn) (epm : Xpm = dP pm) (ehb : Xhb = dH hb) (eK : XK = dA K) (eSg : XSg = dA Sg) (eln : Xln = nI ln) (eat_ : Xat_ = nI at_) : f_X5_load Xb Xt Xhn Xpm Xhb XK XSg Xln Xat_ = some (nI r0, dB r1, dB r2, nI r3, dP r4, dH r5, dA r6, nI r7) := by
  subst eb et ehn epm ehb eK eSg eln eat_
  unfold g_X5_load at h
  unfold f_X5_load
  obtain ⟨⟨T1, S2, L3, J4, E5, cp6, su7⟩, e10, h⟩ := ob_i h
  refine ob_s (s_X0_copyFrom e10 rfl rfl rfl rfl rfl rfl rfl rfl rfl rfl rfl rfl rfl rfl) ?_
  obtain ⟨⟨T9, S10, L11, E12⟩, e9, h⟩ := ob_i h
  refine ob_s (s_X0_removeAllCells e9 rfl rfl rfl rfl) ?_
  obtain ⟨⟨v14, at15, T16, S17⟩, e8, h⟩ := ob_i h
  refine ob_s (s_X4_readInto e8 rfl rfl rfl rfl rfl) ?_
  rcases g_if h with ⟨c7, h⟩ | ⟨c7, h⟩
  · refine (if_pos (seq_t rfl n_m1 c7)).trans ?_
    obtain ⟨v20, e6, h⟩ := ob_i h
    refine ob_s (s_X0_hasAllSources e6 rfl rfl) ?_
    rcases g_if h with ⟨c5, h⟩ | ⟨c5, h⟩
    · refine (if_pos (seq_t rfl rfl c5)).trans ?_
      have w0 := Option.some.inj h
      obtain ⟨q0, w1⟩ := Prod.mk.inj w0
      obtain ⟨q1, w2⟩ := Prod.mk.inj w1
      obtain ⟨q2, w3⟩ := Prod.mk.inj w2
      obtain ⟨q3, w4⟩ := Prod.mk.inj w3
      obtain ⟨q4, w5⟩ := Prod.mk.inj w4
      obtain ⟨q5, w6⟩ := Prod.mk.inj w5
      obtain ⟨q6, w7⟩ := Prod.mk.inj w6
      subst q0
      subst q1
      subst q2
      subst q3
      subst q4
      subst q5
      subst q6
      subst w7
      exact congrArg some (tup8 n_m4 rfl (tup7 rfl rfl rfl rfl rfl rfl rfl) rfl rfl rfl rfl rfl)
    · refine (if_neg (seq_f rfl rfl c5)).trans ?_
      obtain ⟨⟨v23, K24, L25, J26, E27⟩, e4, h⟩ := ob_i h
      refine ob_s (s_X2_layAll e4 rfl rfl rfl rfl rfl rfl rfl rfl) ?_
      rcases g_if h with ⟨c3, h⟩ | ⟨c3, h⟩
      · refine (if_pos (sle_t rfl rfl c3)).trans ?_
        obtain ⟨⟨b30, hn31, pm32, hb33⟩, e2, h⟩ := ob_i h
        refine ob_s (s_X5_acceptTrial e2 rfl (tup7 rfl rfl rfl rfl rfl rfl rfl) rfl rfl rfl) ?_
        obtain ⟨v35, e1, h⟩ := ob_i h
        refine ob_s (s_X0_cells e1 rfl) ?_
        have w0 := Option.some.inj h
        obtain ⟨q0, w1⟩ := Prod.mk.inj w0
        obtain ⟨q1, w2⟩ := Prod.mk.inj w1
        obtain ⟨q2, w3⟩ := Prod.mk.inj w2
        obtain ⟨q3, w4⟩ := Prod.mk.inj w3
        obtain ⟨q4, w5⟩ := Prod.mk.inj w4
        obtain ⟨q5, w6⟩ := Prod.mk.inj w5
        obtain ⟨q6, w7⟩ := Prod.mk.inj w6
        subst q0
        subst q1
        subst q2
        subst q3
        subst q4
        subst q5
        subst q6
        subst w7
        exact congrArg some (tup8 rfl rfl (tup7 rfl rfl rfl rfl rfl rfl rfl) rfl rfl rfl rfl rfl)
      · refine (if_neg (sle_f rfl rfl c3)).trans ?_
        have w0 := Option.some.inj h
        obtain ⟨q0, w1⟩ := Prod.mk.inj w0
        obtain ⟨q1, w2⟩ := Prod.mk.inj w1
        obtain ⟨q2, w3⟩ := Prod.mk.inj w2
        obtain ⟨q3, w4⟩ := Prod.mk.inj w3
        obtain ⟨q4, w5⟩ := Prod.mk.inj w4
        obtain ⟨q5, w6⟩ := Prod.mk.inj w5
        obtain ⟨q6, w7⟩ := Prod.mk.inj w6
        subst q0
        subst q1
        subst q2
        subst q3
        subst q4
        subst q5
        subst q6
        subst w7
        exact congrArg some (tup8 n_m3 rfl (tup7 rfl rfl rfl rfl rfl rfl rfl) rfl rfl rfl rfl rfl)
  · refine (if_neg (seq_f rfl n_m1 c7)).trans ?_
    have w0 := Option.some.inj h
    obtain ⟨q0, w1⟩ := Prod.mk.inj w0
    obtain ⟨q1, w2⟩ := Prod.mk.inj w1
    obtain ⟨q2, w3⟩ := Prod.mk.inj w2
    obtain ⟨q3, w4⟩ := Prod.mk.inj w3
    obtain ⟨q4, w5⟩ := Prod.mk.inj w4
    obtain ⟨q5, w6⟩ := Prod.mk.inj w5
    obtain ⟨q6, w7⟩ := Prod.mk.inj w6
    subst q0
    subst q1
    subst q2
    subst q3
    subst q4
    subst q5
    subst q6
    subst w7
    exact congrArg some (tup8 (s_sub n_m100 rfl) rfl (tup7 rfl rfl rfl rfl rfl rfl rfl) rfl rfl rfl rfl rfl)
def g_X5_type (Sg : Nat) (ln : Nat) (p1 : Nat) : Option (Nat × Nat × Nat) :=
  (g_X4_append Sg ln p1).bind fun (v1, Sg2, ln3) =>
  bif geq v1 0 then
    some (4294967290, Sg2, ln3)
  else
    (g_X4_length ln3).bind fun v6 =>
    some (v6, Sg2, ln3)
theorem s_X5_type {Sg : Nat} {ln : Nat} {p1 : Nat} {XSg : Nat → Int32} {Xln : Int32} {Xp1 : Int32} {r0 : Nat} {r1 : Nat} {r2 : Nat} (h : g_X5_type Sg ln p1 = some (r0, r1, r2)) (eSg : XSg = dA Sg) (eln : Xln = nI ln) (ep1 : Xp1 = nI p1) : f_X5_type XSg Xln Xp1 = some (nI r0, dA r1, nI r2) := by
  subst eSg eln ep1
  unfold g_X5_type at h
  unfold f_X5_type
  obtain ⟨⟨v1, Sg2, ln3⟩, e3, h⟩ := ob_i h
  refine ob_s (s_X4_append e3 rfl rfl rfl) ?_
  rcases g_if h with ⟨c2, h⟩ | ⟨c2, h⟩
  · refine (if_pos (seq_t rfl rfl c2)).trans ?_
    have w0 := Option.some.inj h
    obtain ⟨q0, w1⟩ := Prod.mk.inj w0
    obtain ⟨q1, w2⟩ := Prod.mk.inj w1
    subst q0
    subst q1
    subst w2
    exact congrArg some (tup3 n_m6 rfl rfl)
  · refine (if_neg (seq_f rfl rfl c2)).trans ?_
    obtain ⟨v6, e1, h⟩ := ob_i h
    refine ob_s (s_X4_length e1 rfl) ?_
    have w0 := Option.some.inj h
    obtain ⟨q0, w1⟩ := Prod.mk.inj w0
    obtain ⟨q1, w2⟩ := Prod.mk.inj w1
    subst q0
    subst q1
    subst w2
    exact congrArg some (tup3 rfl rfl rfl)
def g_X5_clearText (ln : Nat) : Option (Nat × Nat) :=
  (g_X4_length ln).bind fun v1 =>
  (g_X4_empty ln).bind fun ln3 =>
  some (v1, ln3)
theorem s_X5_clearText {ln : Nat} {Xln : Int32} {r0 : Nat} {r1 : Nat} (h : g_X5_clearText ln = some (r0, r1)) (eln : Xln = nI ln) : f_X5_clearText Xln = some (nI r0, nI r1) := by
  subst eln
  unfold g_X5_clearText at h
  unfold f_X5_clearText
  obtain ⟨v1, e2, h⟩ := ob_i h
  refine ob_s (s_X4_length e2 rfl) ?_
  obtain ⟨ln3, e1, h⟩ := ob_i h
  refine ob_s (s_X4_empty e1 rfl) ?_
  have w0 := Option.some.inj h
  obtain ⟨q0, w1⟩ := Prod.mk.inj w0
  subst q0
  subst w1
  exact congrArg some (tup2 rfl rfl)
def g_X5_undo (b : gBd) (hn : Nat) (pm : gP) (hb : gH) : Option (Nat × gBd × Nat) :=
  (g_X1_bringBack hn pm hb b).bind fun (v1, hn2, b3) =>
  bif geq v1 0 then
    some (4294967291, b3, hn2)
  else
    (g_X1_size hn2).bind fun v6 =>
    some (v6, b3, hn2)
theorem s_X5_undo {b : gBd} {hn : Nat} {pm : gP} {hb : gH} {Xb : xBd} {Xhn : Int32} {Xpm : Nat → Nat} {Xhb : Nat → xBd} {r0 : Nat} {r1 : gBd} {r2 : Nat} (h : g_X5_undo b hn pm hb = some (r0, r1, r2)) (eb : Xb = dB b) (ehn : Xhn = nI hn) (epm : Xpm = dP pm) (ehb : Xhb = dH hb) : f_X5_undo Xb Xhn Xpm Xhb = some (nI r0, dB r1, nI r2) := by
  subst eb ehn epm ehb
  unfold g_X5_undo at h
  unfold f_X5_undo
  obtain ⟨⟨v1, hn2, b3⟩, e3, h⟩ := ob_i h
  refine ob_s (s_X1_bringBack e3 rfl rfl rfl rfl) ?_
  rcases g_if h with ⟨c2, h⟩ | ⟨c2, h⟩
  · refine (if_pos (seq_t rfl rfl c2)).trans ?_
    have w0 := Option.some.inj h
    obtain ⟨q0, w1⟩ := Prod.mk.inj w0
    obtain ⟨q1, w2⟩ := Prod.mk.inj w1
    subst q0
    subst q1
    subst w2
    exact congrArg some (tup3 n_m5 rfl rfl)
  · refine (if_neg (seq_f rfl rfl c2)).trans ?_
    obtain ⟨v6, e1, h⟩ := ob_i h
    refine ob_s (s_X1_size e1 rfl) ?_
    have w0 := Option.some.inj h
    obtain ⟨q0, w1⟩ := Prod.mk.inj w0
    obtain ⟨q1, w2⟩ := Prod.mk.inj w1
    subst q0
    subst q1
    subst w2
    exact congrArg some (tup3 rfl rfl rfl)
def g_X5_keep (hs : Nat) (b : gBd) (s : gBd) : Option (Nat × Nat × gBd) :=
  (g_X0_copyFrom s.1 s.2.1 s.2.2.1 s.2.2.2.1 s.2.2.2.2.1 s.2.2.2.2.2.1 s.2.2.2.2.2.2 b.1 b.2.1 b.2.2.1 b.2.2.2.1 b.2.2.2.2.1 b.2.2.2.2.2.1 b.2.2.2.2.2.2).bind fun (T1, S2, L3, J4, E5, cp6, su7) =>
  (g_X0_cells b.1).bind fun v9 =>
  some (v9, 1, (T1, S2, L3, J4, E5, cp6, su7))
theorem s_X5_keep {hs : Nat} {b : gBd} {s : gBd} {Xhs : Int32} {Xb : xBd} {Xs : xBd} {r0 : Nat} {r1 : Nat} {r2 : gBd} (h : g_X5_keep hs b s = some (r0, r1, r2)) (ehs : Xhs = nI hs) (eb : Xb = dB b) (es : Xs = dB s) : f_X5_keep Xhs Xb Xs = some (nI r0, nI r1, dB r2) := by
  subst ehs eb es
  unfold g_X5_keep at h
  unfold f_X5_keep
  obtain ⟨⟨T1, S2, L3, J4, E5, cp6, su7⟩, e2, h⟩ := ob_i h
  refine ob_s (s_X0_copyFrom e2 rfl rfl rfl rfl rfl rfl rfl rfl rfl rfl rfl rfl rfl rfl) ?_
  obtain ⟨v9, e1, h⟩ := ob_i h
  refine ob_s (s_X0_cells e1 rfl) ?_
  have w0 := Option.some.inj h
  obtain ⟨q0, w1⟩ := Prod.mk.inj w0
  obtain ⟨q1, w2⟩ := Prod.mk.inj w1
  subst q0
  subst q1
  subst w2
  exact congrArg some (tup3 rfl rfl (tup7 rfl rfl rfl rfl rfl rfl rfl))
def g_X5_restore (hs : Nat) (b : gBd) (s : gBd) (hn : Nat) (pm : gP) (hb : gH) : Option (Nat × gBd × Nat × gP × gH) :=
  bif geq hs 0 then
    some (4294967291, b, hn, pm, hb)
  else
    (g_X1_remember hn pm hb b).bind fun (hn2, pm3, hb4) =>
    (g_X0_copyFrom b.1 b.2.1 b.2.2.1 b.2.2.2.1 b.2.2.2.2.1 b.2.2.2.2.2.1 b.2.2.2.2.2.2 s.1 s.2.1 s.2.2.1 s.2.2.2.1 s.2.2.2.2.1 s.2.2.2.2.2.1 s.2.2.2.2.2.2).bind fun (T6, S7, L8, J9, E10, cp11, su12) =>
    (g_X0_cells T6).bind fun v14 =>
    some (v14, (T6, S7, L8, J9, E10, cp11, su12), hn2, pm3, hb4)
theorem s_X5_restore {hs : Nat} {b : gBd} {s : gBd} {hn : Nat} {pm : gP} {hb : gH} {Xhs : Int32} {Xb : xBd} {Xs : xBd} {Xhn : Int32} {Xpm : Nat → Nat} {Xhb : Nat → xBd} {r0 : Nat} {r1 : gBd} {r2 : Nat} {r3 : gP} {r4 : gH} (h : g_X5_restore hs b s hn pm hb = some (r0, r1, r2, r3, r4)) (ehs : Xhs = nI hs) (eb : Xb = dB b) (es : Xs = dB s) (ehn : Xhn = nI hn) (epm : Xpm = dP pm) (ehb : Xhb = dH hb) : f_X5_restore Xhs Xb Xs Xhn Xpm Xhb = some (nI r0, dB r1, nI r2, dP r3, dH r4) := by
  subst ehs eb es ehn epm ehb
  unfold g_X5_restore at h
  unfold f_X5_restore
  rcases g_if h with ⟨c4, h⟩ | ⟨c4, h⟩
  · refine (if_pos (seq_t rfl rfl c4)).trans ?_
    have w0 := Option.some.inj h
    obtain ⟨q0, w1⟩ := Prod.mk.inj w0
    obtain ⟨q1, w2⟩ := Prod.mk.inj w1
    obtain ⟨q2, w3⟩ := Prod.mk.inj w2
    obtain ⟨q3, w4⟩ := Prod.mk.inj w3
    subst q0
    subst q1
    subst q2
    subst q3
    subst w4
    exact congrArg some (tup5 n_m5 rfl rfl rfl rfl)
  · refine (if_neg (seq_f rfl rfl c4)).trans ?_
    obtain ⟨⟨hn2, pm3, hb4⟩, e3, h⟩ := ob_i h
    refine ob_s (s_X1_remember e3 rfl rfl rfl rfl) ?_
    obtain ⟨⟨T6, S7, L8, J9, E10, cp11, su12⟩, e2, h⟩ := ob_i h
    refine ob_s (s_X0_copyFrom e2 rfl rfl rfl rfl rfl rfl rfl rfl rfl rfl rfl rfl rfl rfl) ?_
    obtain ⟨v14, e1, h⟩ := ob_i h
    refine ob_s (s_X0_cells e1 rfl) ?_
    have w0 := Option.some.inj h
    obtain ⟨q0, w1⟩ := Prod.mk.inj w0
    obtain ⟨q1, w2⟩ := Prod.mk.inj w1
    obtain ⟨q2, w3⟩ := Prod.mk.inj w2
    obtain ⟨q3, w4⟩ := Prod.mk.inj w3
    subst q0
    subst q1
    subst q2
    subst q3
    subst w4
    exact congrArg some (tup5 rfl (tup7 rfl rfl rfl rfl rfl rfl rfl) rfl rfl rfl)
def g_X5_cell (b : gBd) (Dp : Nat) (Sq : Nat) (se : Nat) (p1 : Nat) (p2 : Nat) : Option (Nat × Nat × Nat × Nat) :=
  (g_X0_hasCell b.1 p1).bind fun v1 =>
  bif geq v1 0 then
    some (4294967295, Dp, Sq, se)
  else
    bif geq p2 0 then
      (g_X0_tableOf b.1 p1).bind fun v4 =>
      some (v4, Dp, Sq, se)
    else
      bif geq p2 1 then
        (g_X0_sourceOf b.2.1 (gs (ga (gm p1 3) p2) 1)).bind fun v6 =>
        some (v6, Dp, Sq, se)
      else
        bif geq p2 2 then
          (g_X0_sourceOf b.2.1 (gs (ga (gm p1 3) p2) 1)).bind fun v8 =>
          some (v8, Dp, Sq, se)
        else
          bif geq p2 3 then
            (g_X0_sourceOf b.2.1 (gs (ga (gm p1 3) p2) 1)).bind fun v10 =>
            some (v10, Dp, Sq, se)
          else
            bif geq p2 4 then
              (g_X3_study Dp Sq se b.1 b.2.1).bind fun (Dp12, Sq13, se14) =>
              (g_X3_answers Dp12 p1).bind fun v16 =>
              bif geq v16 0 then
                some (4294967291, Dp12, Sq13, se14)
              else
                (g_X3_depthOf Dp12 p1).bind fun v19 =>
                some (v19, Dp12, Sq13, se14)
            else
              bif geq p2 5 then
                (g_X0_uses b.2.1 p1).bind fun v21 =>
                some (v21, Dp, Sq, se)
              else
                bif geq p2 6 then
                  (g_X0_segmentsOfCell b.2.2.1 p1).bind fun v23 =>
                  some (v23, Dp, Sq, se)
                else
                  some (4294967294, Dp, Sq, se)
theorem s_X5_cell {b : gBd} {Dp : Nat} {Sq : Nat} {se : Nat} {p1 : Nat} {p2 : Nat} {Xb : xBd} {XDp : Nat → Int32} {XSq : Nat → Int32} {Xse : Int32} {Xp1 : Int32} {Xp2 : Int32} {r0 : Nat} {r1 : Nat} {r2 : Nat} {r3 : Nat} (h : g_X5_cell b Dp Sq se p1 p2 = some (r0, r1, r2, r3)) (eb : Xb = dB b) (eDp : XDp = dA Dp) (eSq : XSq = dA Sq) (ese : Xse = nI se) (ep1 : Xp1 = nI p1) (ep2 : Xp2 = nI p2) : f_X5_cell Xb XDp XSq Xse Xp1 Xp2 = some (nI r0, dA r1, dA r2, nI r3) := by
  subst eb eDp eSq ese ep1 ep2
  unfold g_X5_cell at h
  unfold f_X5_cell
  obtain ⟨v1, e19, h⟩ := ob_i h
  refine ob_s (s_X0_hasCell e19 rfl rfl) ?_
  rcases g_if h with ⟨c18, h⟩ | ⟨c18, h⟩
  · refine (if_pos (seq_t rfl rfl c18)).trans ?_
    have w0 := Option.some.inj h
    obtain ⟨q0, w1⟩ := Prod.mk.inj w0
    obtain ⟨q1, w2⟩ := Prod.mk.inj w1
    obtain ⟨q2, w3⟩ := Prod.mk.inj w2
    subst q0
    subst q1
    subst q2
    subst w3
    exact congrArg some (tup4 n_m1 rfl rfl rfl)
  · refine (if_neg (seq_f rfl rfl c18)).trans ?_
    rcases g_if h with ⟨c17, h⟩ | ⟨c17, h⟩
    · refine (if_pos (seq_t rfl rfl c17)).trans ?_
      obtain ⟨v4, e1, h⟩ := ob_i h
      refine ob_s (s_X0_tableOf e1 rfl rfl) ?_
      have w0 := Option.some.inj h
      obtain ⟨q0, w1⟩ := Prod.mk.inj w0
      obtain ⟨q1, w2⟩ := Prod.mk.inj w1
      obtain ⟨q2, w3⟩ := Prod.mk.inj w2
      subst q0
      subst q1
      subst q2
      subst w3
      exact congrArg some (tup4 rfl rfl rfl rfl)
    · refine (if_neg (seq_f rfl rfl c17)).trans ?_
      rcases g_if h with ⟨c16, h⟩ | ⟨c16, h⟩
      · refine (if_pos (seq_t rfl rfl c16)).trans ?_
        obtain ⟨v6, e2, h⟩ := ob_i h
        refine ob_s (s_X0_sourceOf e2 rfl (s_sub (s_add (s_mul rfl rfl) rfl) rfl)) ?_
        have w0 := Option.some.inj h
        obtain ⟨q0, w1⟩ := Prod.mk.inj w0
        obtain ⟨q1, w2⟩ := Prod.mk.inj w1
        obtain ⟨q2, w3⟩ := Prod.mk.inj w2
        subst q0
        subst q1
        subst q2
        subst w3
        exact congrArg some (tup4 rfl rfl rfl rfl)
      · refine (if_neg (seq_f rfl rfl c16)).trans ?_
        rcases g_if h with ⟨c15, h⟩ | ⟨c15, h⟩
        · refine (if_pos (seq_t rfl rfl c15)).trans ?_
          obtain ⟨v8, e3, h⟩ := ob_i h
          refine ob_s (s_X0_sourceOf e3 rfl (s_sub (s_add (s_mul rfl rfl) rfl) rfl)) ?_
          have w0 := Option.some.inj h
          obtain ⟨q0, w1⟩ := Prod.mk.inj w0
          obtain ⟨q1, w2⟩ := Prod.mk.inj w1
          obtain ⟨q2, w3⟩ := Prod.mk.inj w2
          subst q0
          subst q1
          subst q2
          subst w3
          exact congrArg some (tup4 rfl rfl rfl rfl)
        · refine (if_neg (seq_f rfl rfl c15)).trans ?_
          rcases g_if h with ⟨c14, h⟩ | ⟨c14, h⟩
          · refine (if_pos (seq_t rfl rfl c14)).trans ?_
            obtain ⟨v10, e4, h⟩ := ob_i h
            refine ob_s (s_X0_sourceOf e4 rfl (s_sub (s_add (s_mul rfl rfl) rfl) rfl)) ?_
            have w0 := Option.some.inj h
            obtain ⟨q0, w1⟩ := Prod.mk.inj w0
            obtain ⟨q1, w2⟩ := Prod.mk.inj w1
            obtain ⟨q2, w3⟩ := Prod.mk.inj w2
            subst q0
            subst q1
            subst q2
            subst w3
            exact congrArg some (tup4 rfl rfl rfl rfl)
          · refine (if_neg (seq_f rfl rfl c14)).trans ?_
            rcases g_if h with ⟨c13, h⟩ | ⟨c13, h⟩
            · refine (if_pos (seq_t rfl rfl c13)).trans ?_
              obtain ⟨⟨Dp12, Sq13, se14⟩, e8, h⟩ := ob_i h
              refine ob_s (s_X3_study e8 rfl rfl rfl rfl rfl) ?_
              obtain ⟨v16, e7, h⟩ := ob_i h
              refine ob_s (s_X3_answers e7 rfl rfl) ?_
              rcases g_if h with ⟨c6, h⟩ | ⟨c6, h⟩
              · refine (if_pos (seq_t rfl rfl c6)).trans ?_
                have w0 := Option.some.inj h
                obtain ⟨q0, w1⟩ := Prod.mk.inj w0
                obtain ⟨q1, w2⟩ := Prod.mk.inj w1
                obtain ⟨q2, w3⟩ := Prod.mk.inj w2
                subst q0
                subst q1
                subst q2
                subst w3
                exact congrArg some (tup4 n_m5 rfl rfl rfl)
              · refine (if_neg (seq_f rfl rfl c6)).trans ?_
                obtain ⟨v19, e5, h⟩ := ob_i h
                refine ob_s (s_X3_depthOf e5 rfl rfl) ?_
                have w0 := Option.some.inj h
                obtain ⟨q0, w1⟩ := Prod.mk.inj w0
                obtain ⟨q1, w2⟩ := Prod.mk.inj w1
                obtain ⟨q2, w3⟩ := Prod.mk.inj w2
                subst q0
                subst q1
                subst q2
                subst w3
                exact congrArg some (tup4 rfl rfl rfl rfl)
            · refine (if_neg (seq_f rfl rfl c13)).trans ?_
              rcases g_if h with ⟨c12, h⟩ | ⟨c12, h⟩
              · refine (if_pos (seq_t rfl rfl c12)).trans ?_
                obtain ⟨v21, e9, h⟩ := ob_i h
                refine ob_s (s_X0_uses e9 rfl rfl) ?_
                have w0 := Option.some.inj h
                obtain ⟨q0, w1⟩ := Prod.mk.inj w0
                obtain ⟨q1, w2⟩ := Prod.mk.inj w1
                obtain ⟨q2, w3⟩ := Prod.mk.inj w2
                subst q0
                subst q1
                subst q2
                subst w3
                exact congrArg some (tup4 rfl rfl rfl rfl)
              · refine (if_neg (seq_f rfl rfl c12)).trans ?_
                rcases g_if h with ⟨c11, h⟩ | ⟨c11, h⟩
                · refine (if_pos (seq_t rfl rfl c11)).trans ?_
                  obtain ⟨v23, e10, h⟩ := ob_i h
                  refine ob_s (s_X0_segmentsOfCell e10 rfl rfl) ?_
                  have w0 := Option.some.inj h
                  obtain ⟨q0, w1⟩ := Prod.mk.inj w0
                  obtain ⟨q1, w2⟩ := Prod.mk.inj w1
                  obtain ⟨q2, w3⟩ := Prod.mk.inj w2
                  subst q0
                  subst q1
                  subst q2
                  subst w3
                  exact congrArg some (tup4 rfl rfl rfl rfl)
                · refine (if_neg (seq_f rfl rfl c11)).trans ?_
                  have w0 := Option.some.inj h
                  obtain ⟨q0, w1⟩ := Prod.mk.inj w0
                  obtain ⟨q1, w2⟩ := Prod.mk.inj w1
                  obtain ⟨q2, w3⟩ := Prod.mk.inj w2
                  subst q0
                  subst q1
                  subst q2
                  subst w3
                  exact congrArg some (tup4 n_m2 rfl rfl rfl)
def g_X5_path (b : gBd) (p1 : Nat) (p2 : Nat) (p3 : Nat) : Option (Nat) :=
  (g_X0_hasCell b.1 p1).bind fun v1 =>
  bif geq v1 0 then
    some 4294967295
  else
    (g_X5_isInput p2).bind fun v4 =>
    bif geq v4 0 then
      some 4294967295
    else
      bif gle 0 p3 then
        (g_X0_junctionAt b.2.1 b.2.2.1 b.2.2.2.1 (ga (gm p1 3) p2) p3).bind fun v8 =>
        bif geq v8 4294967295 then
          some 4294967291
        else
          some v8
      else
        some 4294967294
theorem s_X5_path {b : gBd} {p1 : Nat} {p2 : Nat} {p3 : Nat} {Xb : xBd} {Xp1 : Int32} {Xp2 : Int32} {Xp3 : Int32} {r0 : Nat} (h : g_X5_path b p1 p2 p3 = some r0) (eb : Xb = dB b) (ep1 : Xp1 = nI p1) (ep2 : Xp2 = nI p2) (ep3 : Xp3 = nI p3) : f_X5_path Xb Xp1 Xp2 Xp3 = some (nI r0) := by
  subst eb ep1 ep2 ep3
  unfold g_X5_path at h
  unfold f_X5_path
  obtain ⟨v1, e7, h⟩ := ob_i h
  refine ob_s (s_X0_hasCell e7 rfl rfl) ?_
  rcases g_if h with ⟨c6, h⟩ | ⟨c6, h⟩
  · refine (if_pos (seq_t rfl rfl c6)).trans ?_
    have w0 := Option.some.inj h
    subst w0
    exact congrArg some n_m1
  · refine (if_neg (seq_f rfl rfl c6)).trans ?_
    obtain ⟨v4, e5, h⟩ := ob_i h
    refine ob_s (s_X5_isInput e5 rfl) ?_
    rcases g_if h with ⟨c4, h⟩ | ⟨c4, h⟩
    · refine (if_pos (seq_t rfl rfl c4)).trans ?_
      have w0 := Option.some.inj h
      subst w0
      exact congrArg some n_m1
    · refine (if_neg (seq_f rfl rfl c4)).trans ?_
      rcases g_if h with ⟨c3, h⟩ | ⟨c3, h⟩
      · refine (if_pos (sle_t rfl rfl c3)).trans ?_
        obtain ⟨v8, e2, h⟩ := ob_i h
        refine ob_s (s_X0_junctionAt e2 rfl rfl rfl (s_add (s_mul rfl rfl) rfl) rfl) ?_
        rcases g_if h with ⟨c1, h⟩ | ⟨c1, h⟩
        · refine (if_pos (seq_t rfl n_m1 c1)).trans ?_
          have w0 := Option.some.inj h
          subst w0
          exact congrArg some n_m5
        · refine (if_neg (seq_f rfl n_m1 c1)).trans ?_
          have w0 := Option.some.inj h
          subst w0
          exact congrArg some rfl
      · refine (if_neg (sle_f rfl rfl c3)).trans ?_
        have w0 := Option.some.inj h
        subst w0
        exact congrArg some n_m2
def g_X5_held (b : gBd) (p1 : Nat) (p2 : Nat) : Option (Nat) :=
  (g_X5_segmentBetween p1 p2).bind fun v1 =>
  bif geq v1 4294967295 then
    some 4294967295
  else
    (g_X0_heldBy b.2.2.2.2.1 v1).bind fun v4 =>
    some v4
theorem s_X5_held {b : gBd} {p1 : Nat} {p2 : Nat} {Xb : xBd} {Xp1 : Int32} {Xp2 : Int32} {r0 : Nat} (h : g_X5_held b p1 p2 = some r0) (eb : Xb = dB b) (ep1 : Xp1 = nI p1) (ep2 : Xp2 = nI p2) : f_X5_held Xb Xp1 Xp2 = some (nI r0) := by
  subst eb ep1 ep2
  unfold g_X5_held at h
  unfold f_X5_held
  obtain ⟨v1, e3, h⟩ := ob_i h
  refine ob_s (s_X5_segmentBetween e3 rfl rfl) ?_
  rcases g_if h with ⟨c2, h⟩ | ⟨c2, h⟩
  · refine (if_pos (seq_t rfl n_m1 c2)).trans ?_
    have w0 := Option.some.inj h
    subst w0
    exact congrArg some n_m1
  · refine (if_neg (seq_f rfl n_m1 c2)).trans ?_
    obtain ⟨v4, e1, h⟩ := ob_i h
    refine ob_s (s_X0_heldBy e1 rfl rfl) ?_
    have w0 := Option.some.inj h
    subst w0
    exact congrArg some rfl
def g_X5_answer (b : gBd) (Dp : Nat) (Bt : Nat) (Sq : Nat) (se : Nat) (p1 : Nat) (p2 : Nat) : Option (Nat × Nat × Nat × Nat × Nat) :=
  (g_X0_hasCell b.1 p1).bind fun v1 =>
  bif geq v1 0 then
    some (4294967295, Dp, Bt, Sq, se)
  else
    bif glt p2 0 then
      some (4294967294, Dp, Bt, Sq, se)
    else
      bif glt p2 256 then
        (g_X3_study Dp Sq se b.1 b.2.1).bind fun (Dp6, Sq7, se8) =>
        (g_X3_answers Dp6 p1).bind fun v10 =>
        bif geq v10 0 then
          some (4294967291, Dp6, Bt, Sq7, se8)
        else
          (g_X3_work Bt Sq7 se8 b.1 b.2.1 p2).bind fun Bt13 =>
          (g_X3_bitOf Bt13 p1).bind fun v15 =>
          some (v15, Dp6, Bt13, Sq7, se8)
      else
        some (4294967294, Dp, Bt, Sq, se)
theorem s_X5_answer {b : gBd} {Dp : Nat} {Bt : Nat} {Sq : Nat} {se : Nat} {p1 : Nat} {p2 : Nat} {Xb : xBd} {XDp : Nat → Int32} {XBt : Nat → Int32} {XSq : Nat → Int32} {Xse : Int32} {Xp1 : Int32} {Xp2 : Int32} {r0 : Nat} {r1 : Nat} {r2 : Nat} {r3 : Nat} {r4 : Nat} (h : g_X5_answer b Dp Bt Sq se p1 p2 = some (r0, r1, r2, r3, r4)) (eb : Xb = dB b) (eDp : XDp = dA Dp) (eBt : XBt = dA Bt) (eSq : XSq = dA Sq) (ese : Xse = nI se) (ep1 : Xp1 = nI p1) (ep2 : Xp2 = nI p2) : f_X5_answer Xb XDp XBt XSq Xse Xp1 Xp2 = some (nI r0, dA r1, dA r2, dA r3, nI r4) := by
  subst eb eDp eBt eSq ese ep1 ep2
  unfold g_X5_answer at h
  unfold f_X5_answer
  obtain ⟨v1, e9, h⟩ := ob_i h
  refine ob_s (s_X0_hasCell e9 rfl rfl) ?_
  rcases g_if h with ⟨c8, h⟩ | ⟨c8, h⟩
  · refine (if_pos (seq_t rfl rfl c8)).trans ?_
    have w0 := Option.some.inj h
    obtain ⟨q0, w1⟩ := Prod.mk.inj w0
    obtain ⟨q1, w2⟩ := Prod.mk.inj w1
    obtain ⟨q2, w3⟩ := Prod.mk.inj w2
    obtain ⟨q3, w4⟩ := Prod.mk.inj w3
    subst q0
    subst q1
    subst q2
    subst q3
    subst w4
    exact congrArg some (tup5 n_m1 rfl rfl rfl rfl)
  · refine (if_neg (seq_f rfl rfl c8)).trans ?_
    rcases g_if h with ⟨c7, h⟩ | ⟨c7, h⟩
    · refine (if_pos (slt_t rfl rfl c7)).trans ?_
      have w0 := Option.some.inj h
      obtain ⟨q0, w1⟩ := Prod.mk.inj w0
      obtain ⟨q1, w2⟩ := Prod.mk.inj w1
      obtain ⟨q2, w3⟩ := Prod.mk.inj w2
      obtain ⟨q3, w4⟩ := Prod.mk.inj w3
      subst q0
      subst q1
      subst q2
      subst q3
      subst w4
      exact congrArg some (tup5 n_m2 rfl rfl rfl rfl)
    · refine (if_neg (slt_f rfl rfl c7)).trans ?_
      rcases g_if h with ⟨c6, h⟩ | ⟨c6, h⟩
      · refine (if_pos (slt_t rfl rfl c6)).trans ?_
        obtain ⟨⟨Dp6, Sq7, se8⟩, e5, h⟩ := ob_i h
        refine ob_s (s_X3_study e5 rfl rfl rfl rfl rfl) ?_
        obtain ⟨v10, e4, h⟩ := ob_i h
        refine ob_s (s_X3_answers e4 rfl rfl) ?_
        rcases g_if h with ⟨c3, h⟩ | ⟨c3, h⟩
        · refine (if_pos (seq_t rfl rfl c3)).trans ?_
          have w0 := Option.some.inj h
          obtain ⟨q0, w1⟩ := Prod.mk.inj w0
          obtain ⟨q1, w2⟩ := Prod.mk.inj w1
          obtain ⟨q2, w3⟩ := Prod.mk.inj w2
          obtain ⟨q3, w4⟩ := Prod.mk.inj w3
          subst q0
          subst q1
          subst q2
          subst q3
          subst w4
          exact congrArg some (tup5 n_m5 rfl rfl rfl rfl)
        · refine (if_neg (seq_f rfl rfl c3)).trans ?_
          obtain ⟨Bt13, e2, h⟩ := ob_i h
          refine ob_s (s_X3_work e2 rfl rfl rfl rfl rfl rfl) ?_
          obtain ⟨v15, e1, h⟩ := ob_i h
          refine ob_s (s_X3_bitOf e1 rfl rfl) ?_
          have w0 := Option.some.inj h
          obtain ⟨q0, w1⟩ := Prod.mk.inj w0
          obtain ⟨q1, w2⟩ := Prod.mk.inj w1
          obtain ⟨q2, w3⟩ := Prod.mk.inj w2
          obtain ⟨q3, w4⟩ := Prod.mk.inj w3
          subst q0
          subst q1
          subst q2
          subst q3
          subst w4
          exact congrArg some (tup5 rfl rfl rfl rfl rfl)
      · refine (if_neg (slt_f rfl rfl c6)).trans ?_
        have w0 := Option.some.inj h
        obtain ⟨q0, w1⟩ := Prod.mk.inj w0
        obtain ⟨q1, w2⟩ := Prod.mk.inj w1
        obtain ⟨q2, w3⟩ := Prod.mk.inj w2
        obtain ⟨q3, w4⟩ := Prod.mk.inj w3
        subst q0
        subst q1
        subst q2
        subst q3
        subst w4
        exact congrArg some (tup5 n_m2 rfl rfl rfl rfl)
def g_X5_ones_42 (b : gBd) (Sq_42 : Nat) (se_42 : Nat) (x1_42 : Nat) (k : Nat → Nat → Option (Nat × Nat × Nat × Nat × Nat)) : Nat → Nat → Nat → Nat → Option (Nat × Nat × Nat × Nat × Nat)
  | 0, _, _, _ => none
  | n + 1, x2_42, x3_42, Bt_42 =>
    bif gle 256 x3_42 then
      k x2_42 Bt_42
    else
      (g_X3_work Bt_42 Sq_42 se_42 b.1 b.2.1 x3_42).bind fun Bt12 =>
      (g_X3_bitOf Bt12 x1_42).bind fun v14 =>
      g_X5_ones_42 b Sq_42 se_42 x1_42 k n (ga x2_42 v14) (ga x3_42 1) Bt12
theorem s_X5_ones_42 {b : gBd} {Sq_42 : Nat} {se_42 : Nat} {x1_42 : Nat} {Xb : xBd} {XSq_42 : Nat → Int32} {Xse_42 : Int32} {Xx1_42 : Int32} {k : Nat → Nat → Option (Nat × Nat × Nat × Nat × Nat)} {Xk : Int32 → (Nat → Int32) → Option (Int32 × (Nat → Int32) × (Nat → Int32) × (Nat → Int32) × Int32)} {r0 : Nat} {r1 : Nat} {r2 : Nat} {r3 : Nat} {r4 : Nat} (eb : Xb = dB b) (eSq_42 : XSq_42 = dA Sq_42) (ese_42 : Xse_42 = nI se_42) (ex1_42 : Xx1_42 = nI x1_42) (hk : ∀ (Xz0 : Int32) (z0 : Nat), Xz0 = nI z0 → ∀ (Xz1 : Nat → Int32) (z1 : Nat), Xz1 = dA z1 → k z0 z1 = some (r0, r1, r2, r3, r4) → Xk Xz0 Xz1 = some (nI r0, dA r1, dA r2, dA r3, nI r4)) : ∀ (n : Nat) (Xx2_42 : Int32) (x2_42 : Nat), Xx2_42 = nI x2_42 → ∀ (Xx3_42 : Int32) (x3_42 : Nat), Xx3_42 = nI x3_42 → ∀ (XBt_42 : Nat → Int32) (Bt_42 : Nat), XBt_42 = dA Bt_42 → g_X5_ones_42 b Sq_42 se_42 x1_42 k n x2_42 x3_42 Bt_42 = some (r0, r1, r2, r3, r4) → f_X5_ones_42 Xb XSq_42 Xse_42 Xx1_42 Xk n Xx2_42 Xx3_42 XBt_42 = some (nI r0, dA r1, dA r2, dA r3, nI r4) := by
  subst eb eSq_42 ese_42 ex1_42
  intro n
  induction n with
  | zero => intro Xx2_42 x2_42 ex2_42 Xx3_42 x3_42 ex3_42 XBt_42 Bt_42 eBt_42 h; unfold g_X5_ones_42 at h; cases h
  | succ n ih =>
    intro Xx2_42 x2_42 ex2_42 Xx3_42 x3_42 ex3_42 XBt_42 Bt_42 eBt_42 h
    subst ex2_42 ex3_42 eBt_42
    unfold g_X5_ones_42 at h
    unfold f_X5_ones_42
    rcases g_if h with ⟨c3, h⟩ | ⟨c3, h⟩
    · refine (if_pos (sle_t rfl rfl c3)).trans ?_
      exact hk _ _ rfl _ _ rfl h
    · refine (if_neg (sle_f rfl rfl c3)).trans ?_
      obtain ⟨Bt12, e2, h⟩ := ob_i h
      refine ob_s (s_X3_work e2 rfl rfl rfl rfl rfl rfl) ?_
      obtain ⟨v14, e1, h⟩ := ob_i h
      refine ob_s (s_X3_bitOf e1 rfl rfl) ?_
      exact ih _ _ (s_add rfl rfl) _ _ (s_add rfl rfl) _ _ rfl h
def g_X5_ones (b : gBd) (Dp : Nat) (Bt : Nat) (Sq : Nat) (se : Nat) (p1 : Nat) : Option (Nat × Nat × Nat × Nat × Nat) :=
  (g_X0_hasCell b.1 p1).bind fun v1 =>
  bif geq v1 0 then
    some (4294967295, Dp, Bt, Sq, se)
  else
    (g_X3_study Dp Sq se b.1 b.2.1).bind fun (Dp4, Sq5, se6) =>
    (g_X3_answers Dp4 p1).bind fun v8 =>
    bif geq v8 0 then
      some (4294967291, Dp4, Bt, Sq5, se6)
    else
      g_X5_ones_42 b Sq5 se6 p1 (fun x2z16 Btz16 =>
        some (x2z16, Dp4, Btz16, Sq5, se6)) xFu 0 0 Bt
theorem s_X5_ones {b : gBd} {Dp : Nat} {Bt : Nat} {Sq : Nat} {se : Nat} {p1 : Nat} {Xb : xBd} {XDp : Nat → Int32} {XBt : Nat → Int32} {XSq : Nat → Int32} {Xse : Int32} {Xp1 : Int32} {r0 : Nat} {r1 : Nat} {r2 : Nat} {r3 : Nat} {r4 : Nat} (h : g_X5_ones b Dp Bt Sq se p1 = some (r0, r1, r2, r3, r4)) (eb : Xb = dB b) (eDp : XDp = dA Dp) (eBt : XBt = dA Bt) (eSq : XSq = dA Sq) (ese : Xse = nI se) (ep1 : Xp1 = nI p1) : f_X5_ones Xb XDp XBt XSq Xse Xp1 = some (nI r0, dA r1, dA r2, dA r3, nI r4) := by
  subst eb eDp eBt eSq ese ep1
  unfold g_X5_ones at h
  unfold f_X5_ones
  obtain ⟨v1, e5, h⟩ := ob_i h
  refine ob_s (s_X0_hasCell e5 rfl rfl) ?_
  rcases g_if h with ⟨c4, h⟩ | ⟨c4, h⟩
  · refine (if_pos (seq_t rfl rfl c4)).trans ?_
    have w0 := Option.some.inj h
    obtain ⟨q0, w1⟩ := Prod.mk.inj w0
    obtain ⟨q1, w2⟩ := Prod.mk.inj w1
    obtain ⟨q2, w3⟩ := Prod.mk.inj w2
    obtain ⟨q3, w4⟩ := Prod.mk.inj w3
    subst q0
    subst q1
    subst q2
    subst q3
    subst w4
    exact congrArg some (tup5 n_m1 rfl rfl rfl rfl)
  · refine (if_neg (seq_f rfl rfl c4)).trans ?_
    obtain ⟨⟨Dp4, Sq5, se6⟩, e3, h⟩ := ob_i h
    refine ob_s (s_X3_study e3 rfl rfl rfl rfl rfl) ?_
    obtain ⟨v8, e2, h⟩ := ob_i h
    refine ob_s (s_X3_answers e2 rfl rfl) ?_
    rcases g_if h with ⟨c1, h⟩ | ⟨c1, h⟩
    · refine (if_pos (seq_t rfl rfl c1)).trans ?_
      have w0 := Option.some.inj h
      obtain ⟨q0, w1⟩ := Prod.mk.inj w0
      obtain ⟨q1, w2⟩ := Prod.mk.inj w1
      obtain ⟨q2, w3⟩ := Prod.mk.inj w2
      obtain ⟨q3, w4⟩ := Prod.mk.inj w3
      subst q0
      subst q1
      subst q2
      subst q3
      subst w4
      exact congrArg some (tup5 n_m5 rfl rfl rfl rfl)
    · refine (if_neg (seq_f rfl rfl c1)).trans ?_
      refine s_X5_ones_42 rfl rfl rfl rfl (fun Xx2z16 x2z16 ex2z16 XBtz16 Btz16 eBtz16 h => ?_) _ _ _ rfl _ _ rfl _ _ rfl h
      subst ex2z16 eBtz16
      have w0 := Option.some.inj h
      obtain ⟨q0, w1⟩ := Prod.mk.inj w0
      obtain ⟨q1, w2⟩ := Prod.mk.inj w1
      obtain ⟨q2, w3⟩ := Prod.mk.inj w2
      obtain ⟨q3, w4⟩ := Prod.mk.inj w3
      subst q0
      subst q1
      subst q2
      subst q3
      subst w4
      exact congrArg some (tup5 rfl rfl rfl rfl rfl)
def g_X5_ifSwap (b : gBd) (t : gBd) (K : Nat) (p1 : Nat) (p2 : Nat) : Option (Nat × gBd × Nat) :=
  (g_X5_trySwap b t K p1 p2).bind fun (v1, t2, K3) =>
  some (v1, t2, K3)
theorem s_X5_ifSwap {b : gBd} {t : gBd} {K : Nat} {p1 : Nat} {p2 : Nat} {Xb : xBd} {Xt : xBd} {XK : Nat → Int32} {Xp1 : Int32} {Xp2 : Int32} {r0 : Nat} {r1 : gBd} {r2 : Nat} (h : g_X5_ifSwap b t K p1 p2 = some (r0, r1, r2)) (eb : Xb = dB b) (et : Xt = dB t) (eK : XK = dA K) (ep1 : Xp1 = nI p1) (ep2 : Xp2 = nI p2) : f_X5_ifSwap Xb Xt XK Xp1 Xp2 = some (nI r0, dB r1, dA r2) := by
  subst eb et eK ep1 ep2
  unfold g_X5_ifSwap at h
  unfold f_X5_ifSwap
  obtain ⟨⟨v1, t2, K3⟩, e1, h⟩ := ob_i h
  refine ob_s (s_X5_trySwap e1 rfl rfl rfl rfl rfl) ?_
  have w0 := Option.some.inj h
  obtain ⟨q0, w1⟩ := Prod.mk.inj w0
  obtain ⟨q1, w2⟩ := Prod.mk.inj w1
  subst q0
  subst q1
  subst w2
  exact congrArg some (tup3 rfl rfl rfl)
def g_X5_bestSwap_27 (b : gBd) (x1_27 : Nat) (k : Nat → gBd → Nat → Option (Nat × gBd × Nat)) : Nat → Nat → Nat → Nat → gBd → Nat → Option (Nat × gBd × Nat)
  | 0, _, _, _, _, _ => none
  | n + 1, x2_27, x3_27, x4_27, t_27, K_27 =>
    bif gle 24 x4_27 then
      k x3_27 t_27 K_27
    else
      (g_X5_trySwap b t_27 K_27 x1_27 x4_27).bind fun (v7, t8, K9) =>
      bif glt v7 0 then
        g_X5_bestSwap_27 b x1_27 k n x2_27 x3_27 (ga x4_27 1) t8 K9
      else
        bif gle x2_27 v7 then
          g_X5_bestSwap_27 b x1_27 k n x2_27 x3_27 (ga x4_27 1) t8 K9
        else
          g_X5_bestSwap_27 b x1_27 k n v7 x4_27 (ga x4_27 1) t8 K9
theorem s_X5_bestSwap_27 {b : gBd} {x1_27 : Nat} {Xb : xBd} {Xx1_27 : Int32} {k : Nat → gBd → Nat → Option (Nat × gBd × Nat)} {Xk : Int32 → xBd → (Nat → Int32) → Option (Int32 × xBd × (Nat → Int32))} {r0 : Nat} {r1 : gBd} {r2 : Nat} (eb : Xb = dB b) (ex1_27 : Xx1_27 = nI x1_27) (hk : ∀ (Xz0 : Int32) (z0 : Nat), Xz0 = nI z0 → ∀ (Xz1 : xBd) (z1 : gBd), Xz1 = dB z1 → ∀ (Xz2 : Nat → Int32) (z2 : Nat), Xz2 = dA z2 → k z0 z1 z2 = some (r0, r1, r2) → Xk Xz0 Xz1 Xz2 = some (nI r0, dB r1, dA r2)) : ∀ (n : Nat) (Xx2_27 : Int32) (x2_27 : Nat), Xx2_27 = nI x2_27 → ∀ (Xx3_27 : Int32) (x3_27 : Nat), Xx3_27 = nI x3_27 → ∀ (Xx4_27 : Int32) (x4_27 : Nat), Xx4_27 = nI x4_27 → ∀ (Xt_27 : xBd) (t_27 : gBd), Xt_27 = dB t_27 → ∀ (XK_27 : Nat → Int32) (K_27 : Nat), XK_27 = dA K_27 → g_X5_bestSwap_27 b x1_27 k n x2_27 x3_27 x4_27 t_27 K_27 = some (r0, r1, r2) → f_X5_bestSwap_27 Xb Xx1_27 Xk n Xx2_27 Xx3_27 Xx4_27 Xt_27 XK_27 = some (nI r0, dB r1, dA r2) := by
  subst eb ex1_27
  intro n
  induction n with
  | zero => intro Xx2_27 x2_27 ex2_27 Xx3_27 x3_27 ex3_27 Xx4_27 x4_27 ex4_27 Xt_27 t_27 et_27 XK_27 K_27 eK_27 h; unfold g_X5_bestSwap_27 at h; cases h
  | succ n ih =>
    intro Xx2_27 x2_27 ex2_27 Xx3_27 x3_27 ex3_27 Xx4_27 x4_27 ex4_27 Xt_27 t_27 et_27 XK_27 K_27 eK_27 h
    subst ex2_27 ex3_27 ex4_27 et_27 eK_27
    unfold g_X5_bestSwap_27 at h
    unfold f_X5_bestSwap_27
    rcases g_if h with ⟨c4, h⟩ | ⟨c4, h⟩
    · refine (if_pos (sle_t rfl rfl c4)).trans ?_
      exact hk _ _ rfl _ _ rfl _ _ rfl h
    · refine (if_neg (sle_f rfl rfl c4)).trans ?_
      obtain ⟨⟨v7, t8, K9⟩, e3, h⟩ := ob_i h
      refine ob_s (s_X5_trySwap e3 rfl rfl rfl rfl rfl) ?_
      rcases g_if h with ⟨c2, h⟩ | ⟨c2, h⟩
      · refine (if_pos (slt_t rfl rfl c2)).trans ?_
        exact ih _ _ rfl _ _ rfl _ _ (s_add rfl rfl) _ _ rfl _ _ rfl h
      · refine (if_neg (slt_f rfl rfl c2)).trans ?_
        rcases g_if h with ⟨c1, h⟩ | ⟨c1, h⟩
        · refine (if_pos (sle_t rfl rfl c1)).trans ?_
          exact ih _ _ rfl _ _ rfl _ _ (s_add rfl rfl) _ _ rfl _ _ rfl h
        · refine (if_neg (sle_f rfl rfl c1)).trans ?_
          exact ih _ _ rfl _ _ rfl _ _ (s_add rfl rfl) _ _ rfl _ _ rfl h
def g_X5_bestSwap (b : gBd) (t : gBd) (K : Nat) (p1 : Nat) : Option (Nat × gBd × Nat) :=
  (g_X0_hasCell b.1 p1).bind fun v1 =>
  bif geq v1 0 then
    some (4294967295, t, K)
  else
    (g_X0_segmentsOfAll b.2.2.1).bind fun v4 =>
    g_X5_bestSwap_27 b p1 (fun x3z13 tz13 Kz13 =>
      some (x3z13, tz13, Kz13)) xFu v4 4294967291 0 t K
theorem s_X5_bestSwap {b : gBd} {t : gBd} {K : Nat} {p1 : Nat} {Xb : xBd} {Xt : xBd} {XK : Nat → Int32} {Xp1 : Int32} {r0 : Nat} {r1 : gBd} {r2 : Nat} (h : g_X5_bestSwap b t K p1 = some (r0, r1, r2)) (eb : Xb = dB b) (et : Xt = dB t) (eK : XK = dA K) (ep1 : Xp1 = nI p1) : f_X5_bestSwap Xb Xt XK Xp1 = some (nI r0, dB r1, dA r2) := by
  subst eb et eK ep1
  unfold g_X5_bestSwap at h
  unfold f_X5_bestSwap
  obtain ⟨v1, e3, h⟩ := ob_i h
  refine ob_s (s_X0_hasCell e3 rfl rfl) ?_
  rcases g_if h with ⟨c2, h⟩ | ⟨c2, h⟩
  · refine (if_pos (seq_t rfl rfl c2)).trans ?_
    have w0 := Option.some.inj h
    obtain ⟨q0, w1⟩ := Prod.mk.inj w0
    obtain ⟨q1, w2⟩ := Prod.mk.inj w1
    subst q0
    subst q1
    subst w2
    exact congrArg some (tup3 n_m1 rfl rfl)
  · refine (if_neg (seq_f rfl rfl c2)).trans ?_
    obtain ⟨v4, e1, h⟩ := ob_i h
    refine ob_s (s_X0_segmentsOfAll e1 rfl) ?_
    refine s_X5_bestSwap_27 rfl rfl (fun Xx3z13 x3z13 ex3z13 Xtz13 tz13 etz13 XKz13 Kz13 eKz13 h => ?_) _ _ _ rfl _ _ n_m5 _ _ rfl _ _ rfl _ _ rfl h
    subst ex3z13 etz13 eKz13
    have w0 := Option.some.inj h
    obtain ⟨q0, w1⟩ := Prod.mk.inj w0
    obtain ⟨q1, w2⟩ := Prod.mk.inj w1
    subst q0
    subst q1
    subst w2
    exact congrArg some (tup3 rfl rfl rfl)
def g_X5_bestOrder_8 (b : gBd) (k : Nat → gBd → Nat → Option (Nat × gBd × Nat)) : Nat → Nat → Nat → Nat → gBd → Nat → Option (Nat × gBd × Nat)
  | 0, _, _, _, _, _ => none
  | n + 1, x1_8, x2_8, x3_8, t_8, K_8 =>
    bif gle 3 x3_8 then
      k x2_8 t_8 K_8
    else
      (g_X5_tryOrder b t_8 K_8 x3_8).bind fun (v2, t3, K4) =>
      bif glt v2 0 then
        g_X5_bestOrder_8 b k n x1_8 x2_8 (ga x3_8 1) t3 K4
      else
        bif gle x1_8 v2 then
          g_X5_bestOrder_8 b k n x1_8 x2_8 (ga x3_8 1) t3 K4
        else
          g_X5_bestOrder_8 b k n v2 x3_8 (ga x3_8 1) t3 K4
theorem s_X5_bestOrder_8 {b : gBd} {Xb : xBd} {k : Nat → gBd → Nat → Option (Nat × gBd × Nat)} {Xk : Int32 → xBd → (Nat → Int32) → Option (Int32 × xBd × (Nat → Int32))} {r0 : Nat} {r1 : gBd} {r2 : Nat} (eb : Xb = dB b) (hk : ∀ (Xz0 : Int32) (z0 : Nat), Xz0 = nI z0 → ∀ (Xz1 : xBd) (z1 : gBd), Xz1 = dB z1 → ∀ (Xz2 : Nat → Int32) (z2 : Nat), Xz2 = dA z2 → k z0 z1 z2 = some (r0, r1, r2) → Xk Xz0 Xz1 Xz2 = some (nI r0, dB r1, dA r2)) : ∀ (n : Nat) (Xx1_8 : Int32) (x1_8 : Nat), Xx1_8 = nI x1_8 → ∀ (Xx2_8 : Int32) (x2_8 : Nat), Xx2_8 = nI x2_8 → ∀ (Xx3_8 : Int32) (x3_8 : Nat), Xx3_8 = nI x3_8 → ∀ (Xt_8 : xBd) (t_8 : gBd), Xt_8 = dB t_8 → ∀ (XK_8 : Nat → Int32) (K_8 : Nat), XK_8 = dA K_8 → g_X5_bestOrder_8 b k n x1_8 x2_8 x3_8 t_8 K_8 = some (r0, r1, r2) → f_X5_bestOrder_8 Xb Xk n Xx1_8 Xx2_8 Xx3_8 Xt_8 XK_8 = some (nI r0, dB r1, dA r2) := by
  subst eb
  intro n
  induction n with
  | zero => intro Xx1_8 x1_8 ex1_8 Xx2_8 x2_8 ex2_8 Xx3_8 x3_8 ex3_8 Xt_8 t_8 et_8 XK_8 K_8 eK_8 h; unfold g_X5_bestOrder_8 at h; cases h
  | succ n ih =>
    intro Xx1_8 x1_8 ex1_8 Xx2_8 x2_8 ex2_8 Xx3_8 x3_8 ex3_8 Xt_8 t_8 et_8 XK_8 K_8 eK_8 h
    subst ex1_8 ex2_8 ex3_8 et_8 eK_8
    unfold g_X5_bestOrder_8 at h
    unfold f_X5_bestOrder_8
    rcases g_if h with ⟨c4, h⟩ | ⟨c4, h⟩
    · refine (if_pos (sle_t rfl rfl c4)).trans ?_
      exact hk _ _ rfl _ _ rfl _ _ rfl h
    · refine (if_neg (sle_f rfl rfl c4)).trans ?_
      obtain ⟨⟨v2, t3, K4⟩, e3, h⟩ := ob_i h
      refine ob_s (s_X5_tryOrder e3 rfl rfl rfl rfl) ?_
      rcases g_if h with ⟨c2, h⟩ | ⟨c2, h⟩
      · refine (if_pos (slt_t rfl rfl c2)).trans ?_
        exact ih _ _ rfl _ _ rfl _ _ (s_add rfl rfl) _ _ rfl _ _ rfl h
      · refine (if_neg (slt_f rfl rfl c2)).trans ?_
        rcases g_if h with ⟨c1, h⟩ | ⟨c1, h⟩
        · refine (if_pos (sle_t rfl rfl c1)).trans ?_
          exact ih _ _ rfl _ _ rfl _ _ (s_add rfl rfl) _ _ rfl _ _ rfl h
        · refine (if_neg (sle_f rfl rfl c1)).trans ?_
          exact ih _ _ rfl _ _ rfl _ _ (s_add rfl rfl) _ _ rfl _ _ rfl h
def g_X5_bestOrder (b : gBd) (t : gBd) (K : Nat) : Option (Nat × gBd × Nat) :=
  g_X5_bestOrder_8 b (fun x2z8 tz8 Kz8 =>
    some (x2z8, tz8, Kz8)) xFu 1000000 4294967291 0 t K
theorem s_X5_bestOrder {b : gBd} {t : gBd} {K : Nat} {Xb : xBd} {Xt : xBd} {XK : Nat → Int32} {r0 : Nat} {r1 : gBd} {r2 : Nat} (h : g_X5_bestOrder b t K = some (r0, r1, r2)) (eb : Xb = dB b) (et : Xt = dB t) (eK : XK = dA K) : f_X5_bestOrder Xb Xt XK = some (nI r0, dB r1, dA r2) := by
  subst eb et eK
  unfold g_X5_bestOrder at h
  unfold f_X5_bestOrder
  refine s_X5_bestOrder_8 rfl (fun Xx2z8 x2z8 ex2z8 Xtz8 tz8 etz8 XKz8 Kz8 eKz8 h => ?_) _ _ _ rfl _ _ n_m5 _ _ rfl _ _ rfl _ _ rfl h
  subst ex2z8 etz8 eKz8
  have w0 := Option.some.inj h
  obtain ⟨q0, w1⟩ := Prod.mk.inj w0
  obtain ⟨q1, w2⟩ := Prod.mk.inj w1
  subst q0
  subst q1
  subst w2
  exact congrArg some (tup3 rfl rfl rfl)
def g_X5_count (b : gBd) (hn : Nat) (Dp : Nat) (Sq : Nat) (se : Nat) (ln : Nat) (p1 : Nat) : Option (Nat × Nat × Nat × Nat) :=
  bif geq p1 0 then
    (g_X0_cells b.1).bind fun v1 =>
    some (v1, Dp, Sq, se)
  else
    bif geq p1 1 then
      (g_X0_wires b.2.1).bind fun v3 =>
      some (v3, Dp, Sq, se)
    else
      bif geq p1 2 then
        (g_X0_segmentsOfAll b.2.2.1).bind fun v5 =>
        some (v5, Dp, Sq, se)
      else
        bif geq p1 3 then
          (g_X0_fullSegments b.2.2.2.2.1 b.2.2.2.2.2.1).bind fun v7 =>
          some (v7, Dp, Sq, se)
        else
          bif geq p1 4 then
            (g_X0_mostHeld b.2.2.2.2.1).bind fun v9 =>
            some (v9, Dp, Sq, se)
          else
            bif geq p1 5 then
              (g_X3_study Dp Sq se b.1 b.2.1).bind fun (Dp11, Sq12, se13) =>
              (g_X0_cells b.1).bind fun v15 =>
              (g_X3_cellsThatAnswer se13).bind fun v17 =>
              some ((gs v15 v17), Dp11, Sq12, se13)
            else
              bif geq p1 6 then
                (g_X3_study Dp Sq se b.1 b.2.1).bind fun (Dp19, Sq20, se21) =>
                (g_X3_greatestDepth Dp19).bind fun v23 =>
                some (v23, Dp19, Sq20, se21)
              else
                bif geq p1 7 then
                  (g_X0_setting b.2.2.2.2.2.1 b.2.2.2.2.2.2 0).bind fun v25 =>
                  some (v25, Dp, Sq, se)
                else
                  bif geq p1 8 then
                    (g_X0_setting b.2.2.2.2.2.1 b.2.2.2.2.2.2 1).bind fun v27 =>
                    some (v27, Dp, Sq, se)
                  else
                    bif geq p1 9 then
                      (g_X1_size hn).bind fun v29 =>
                      some (v29, Dp, Sq, se)
                    else
                      bif geq p1 10 then
                        (g_X4_length ln).bind fun v31 =>
                        some (v31, Dp, Sq, se)
                      else
                        some (4294967294, Dp, Sq, se)
theorem s_X5_count {b : gBd} {hn : Nat} {Dp : Nat} {Sq : Nat} {se : Nat} {ln : Nat} {p1 : Nat} {Xb : xBd} {Xhn : Int32} {XDp : Nat → Int32} {XSq : Nat → Int32} {Xse : Int32} {Xln : Int32} {Xp1 : Int32} {r0 : Nat} {r1 : Nat} {r2 : Nat} {r3 : Nat} (h : g_X5_count b hn Dp Sq se ln p1 = some (r0, r1, r2, r3)) (eb : Xb = dB b) (ehn : Xhn = nI hn) (eDp : XDp = dA Dp) (eSq : XSq = dA Sq) (ese : Xse = nI se) (eln : Xln = nI ln) (ep1 : Xp1 = nI p1) : f_X5_count Xb Xhn XDp XSq Xse Xln Xp1 = some (nI r0, dA r1, dA r2, nI r3) := by
  subst eb ehn eDp eSq ese eln ep1
  unfold g_X5_count at h
  unfold f_X5_count
  rcases g_if h with ⟨c25, h⟩ | ⟨c25, h⟩
  · refine (if_pos (seq_t rfl rfl c25)).trans ?_
    obtain ⟨v1, e1, h⟩ := ob_i h
    refine ob_s (s_X0_cells e1 rfl) ?_
    have w0 := Option.some.inj h
    obtain ⟨q0, w1⟩ := Prod.mk.inj w0
    obtain ⟨q1, w2⟩ := Prod.mk.inj w1
    obtain ⟨q2, w3⟩ := Prod.mk.inj w2
    subst q0
    subst q1
    subst q2
    subst w3
    exact congrArg some (tup4 rfl rfl rfl rfl)
  · refine (if_neg (seq_f rfl rfl c25)).trans ?_
    rcases g_if h with ⟨c24, h⟩ | ⟨c24, h⟩
    · refine (if_pos (seq_t rfl rfl c24)).trans ?_
      obtain ⟨v3, e2, h⟩ := ob_i h
      refine ob_s (s_X0_wires e2 rfl) ?_
      have w0 := Option.some.inj h
      obtain ⟨q0, w1⟩ := Prod.mk.inj w0
      obtain ⟨q1, w2⟩ := Prod.mk.inj w1
      obtain ⟨q2, w3⟩ := Prod.mk.inj w2
      subst q0
      subst q1
      subst q2
      subst w3
      exact congrArg some (tup4 rfl rfl rfl rfl)
    · refine (if_neg (seq_f rfl rfl c24)).trans ?_
      rcases g_if h with ⟨c23, h⟩ | ⟨c23, h⟩
      · refine (if_pos (seq_t rfl rfl c23)).trans ?_
        obtain ⟨v5, e3, h⟩ := ob_i h
        refine ob_s (s_X0_segmentsOfAll e3 rfl) ?_
        have w0 := Option.some.inj h
        obtain ⟨q0, w1⟩ := Prod.mk.inj w0
        obtain ⟨q1, w2⟩ := Prod.mk.inj w1
        obtain ⟨q2, w3⟩ := Prod.mk.inj w2
        subst q0
        subst q1
        subst q2
        subst w3
        exact congrArg some (tup4 rfl rfl rfl rfl)
      · refine (if_neg (seq_f rfl rfl c23)).trans ?_
        rcases g_if h with ⟨c22, h⟩ | ⟨c22, h⟩
        · refine (if_pos (seq_t rfl rfl c22)).trans ?_
          obtain ⟨v7, e4, h⟩ := ob_i h
          refine ob_s (s_X0_fullSegments e4 rfl rfl) ?_
          have w0 := Option.some.inj h
          obtain ⟨q0, w1⟩ := Prod.mk.inj w0
          obtain ⟨q1, w2⟩ := Prod.mk.inj w1
          obtain ⟨q2, w3⟩ := Prod.mk.inj w2
          subst q0
          subst q1
          subst q2
          subst w3
          exact congrArg some (tup4 rfl rfl rfl rfl)
        · refine (if_neg (seq_f rfl rfl c22)).trans ?_
          rcases g_if h with ⟨c21, h⟩ | ⟨c21, h⟩
          · refine (if_pos (seq_t rfl rfl c21)).trans ?_
            obtain ⟨v9, e5, h⟩ := ob_i h
            refine ob_s (s_X0_mostHeld e5 rfl) ?_
            have w0 := Option.some.inj h
            obtain ⟨q0, w1⟩ := Prod.mk.inj w0
            obtain ⟨q1, w2⟩ := Prod.mk.inj w1
            obtain ⟨q2, w3⟩ := Prod.mk.inj w2
            subst q0
            subst q1
            subst q2
            subst w3
            exact congrArg some (tup4 rfl rfl rfl rfl)
          · refine (if_neg (seq_f rfl rfl c21)).trans ?_
            rcases g_if h with ⟨c20, h⟩ | ⟨c20, h⟩
            · refine (if_pos (seq_t rfl rfl c20)).trans ?_
              obtain ⟨⟨Dp11, Sq12, se13⟩, e8, h⟩ := ob_i h
              refine ob_s (s_X3_study e8 rfl rfl rfl rfl rfl) ?_
              obtain ⟨v15, e7, h⟩ := ob_i h
              refine ob_s (s_X0_cells e7 rfl) ?_
              obtain ⟨v17, e6, h⟩ := ob_i h
              refine ob_s (s_X3_cellsThatAnswer e6 rfl) ?_
              have w0 := Option.some.inj h
              obtain ⟨q0, w1⟩ := Prod.mk.inj w0
              obtain ⟨q1, w2⟩ := Prod.mk.inj w1
              obtain ⟨q2, w3⟩ := Prod.mk.inj w2
              subst q0
              subst q1
              subst q2
              subst w3
              exact congrArg some (tup4 (s_sub rfl rfl) rfl rfl rfl)
            · refine (if_neg (seq_f rfl rfl c20)).trans ?_
              rcases g_if h with ⟨c19, h⟩ | ⟨c19, h⟩
              · refine (if_pos (seq_t rfl rfl c19)).trans ?_
                obtain ⟨⟨Dp19, Sq20, se21⟩, e10, h⟩ := ob_i h
                refine ob_s (s_X3_study e10 rfl rfl rfl rfl rfl) ?_
                obtain ⟨v23, e9, h⟩ := ob_i h
                refine ob_s (s_X3_greatestDepth e9 rfl) ?_
                have w0 := Option.some.inj h
                obtain ⟨q0, w1⟩ := Prod.mk.inj w0
                obtain ⟨q1, w2⟩ := Prod.mk.inj w1
                obtain ⟨q2, w3⟩ := Prod.mk.inj w2
                subst q0
                subst q1
                subst q2
                subst w3
                exact congrArg some (tup4 rfl rfl rfl rfl)
              · refine (if_neg (seq_f rfl rfl c19)).trans ?_
                rcases g_if h with ⟨c18, h⟩ | ⟨c18, h⟩
                · refine (if_pos (seq_t rfl rfl c18)).trans ?_
                  obtain ⟨v25, e11, h⟩ := ob_i h
                  refine ob_s (s_X0_setting e11 rfl rfl rfl) ?_
                  have w0 := Option.some.inj h
                  obtain ⟨q0, w1⟩ := Prod.mk.inj w0
                  obtain ⟨q1, w2⟩ := Prod.mk.inj w1
                  obtain ⟨q2, w3⟩ := Prod.mk.inj w2
                  subst q0
                  subst q1
                  subst q2
                  subst w3
                  exact congrArg some (tup4 rfl rfl rfl rfl)
                · refine (if_neg (seq_f rfl rfl c18)).trans ?_
                  rcases g_if h with ⟨c17, h⟩ | ⟨c17, h⟩
                  · refine (if_pos (seq_t rfl rfl c17)).trans ?_
                    obtain ⟨v27, e12, h⟩ := ob_i h
                    refine ob_s (s_X0_setting e12 rfl rfl rfl) ?_
                    have w0 := Option.some.inj h
                    obtain ⟨q0, w1⟩ := Prod.mk.inj w0
                    obtain ⟨q1, w2⟩ := Prod.mk.inj w1
                    obtain ⟨q2, w3⟩ := Prod.mk.inj w2
                    subst q0
                    subst q1
                    subst q2
                    subst w3
                    exact congrArg some (tup4 rfl rfl rfl rfl)
                  · refine (if_neg (seq_f rfl rfl c17)).trans ?_
                    rcases g_if h with ⟨c16, h⟩ | ⟨c16, h⟩
                    · refine (if_pos (seq_t rfl rfl c16)).trans ?_
                      obtain ⟨v29, e13, h⟩ := ob_i h
                      refine ob_s (s_X1_size e13 rfl) ?_
                      have w0 := Option.some.inj h
                      obtain ⟨q0, w1⟩ := Prod.mk.inj w0
                      obtain ⟨q1, w2⟩ := Prod.mk.inj w1
                      obtain ⟨q2, w3⟩ := Prod.mk.inj w2
                      subst q0
                      subst q1
                      subst q2
                      subst w3
                      exact congrArg some (tup4 rfl rfl rfl rfl)
                    · refine (if_neg (seq_f rfl rfl c16)).trans ?_
                      rcases g_if h with ⟨c15, h⟩ | ⟨c15, h⟩
                      · refine (if_pos (seq_t rfl rfl c15)).trans ?_
                        obtain ⟨v31, e14, h⟩ := ob_i h
                        refine ob_s (s_X4_length e14 rfl) ?_
                        have w0 := Option.some.inj h
                        obtain ⟨q0, w1⟩ := Prod.mk.inj w0
                        obtain ⟨q1, w2⟩ := Prod.mk.inj w1
                        obtain ⟨q2, w3⟩ := Prod.mk.inj w2
                        subst q0
                        subst q1
                        subst q2
                        subst w3
                        exact congrArg some (tup4 rfl rfl rfl rfl)
                      · refine (if_neg (seq_f rfl rfl c15)).trans ?_
                        have w0 := Option.some.inj h
                        obtain ⟨q0, w1⟩ := Prod.mk.inj w0
                        obtain ⟨q1, w2⟩ := Prod.mk.inj w1
                        obtain ⟨q2, w3⟩ := Prod.mk.inj w2
                        subst q0
                        subst q1
                        subst q2
                        subst w3
                        exact congrArg some (tup4 n_m2 rfl rfl rfl)
