/-! a state that calls change, each call a step: by the functions, by the packed ones -/
abbrev xMu : Type := xBd × xBd × xBd × Int32 × Int32 × (Nat → Nat) × (Nat → xBd) × (Nat → Int32) × (Nat → Int32) × Int32 × Int32
abbrev gMu : Type := gBd × gBd × gBd × Nat × Nat × gP × gH × Nat × Nat × Nat × Nat
def z0 : Nat → Int32 := fun _ => 0
def dM (m : gMu) : xMu := (dB m.1, dB m.2.1, dB m.2.2.1, nI m.2.2.2.1, nI m.2.2.2.2.1, dP m.2.2.2.2.2.1, dH m.2.2.2.2.2.2.1, dA m.2.2.2.2.2.2.2.1, dA m.2.2.2.2.2.2.2.2.1, nI m.2.2.2.2.2.2.2.2.2.1, nI m.2.2.2.2.2.2.2.2.2.2)
def qf_0 (a1 a2 a3 : Nat) (m : xMu) : Option (Int32 × xMu) := (f_X5_put m.1 m.2.2.2.2.1 m.2.2.2.2.2.1 m.2.2.2.2.2.2.1 (nI a1) (nI a2)).bind fun (v, b', hn', pm', hb') => some (v, b', m.2.1, m.2.2.1, m.2.2.2.1, hn', pm', hb', m.2.2.2.2.2.2.2.1, m.2.2.2.2.2.2.2.2.1, m.2.2.2.2.2.2.2.2.2.1, m.2.2.2.2.2.2.2.2.2.2)
def qf_1 (a1 a2 a3 : Nat) (m : xMu) : Option (Int32 × xMu) := (f_X5_take m.1 m.2.2.2.2.1 m.2.2.2.2.2.1 m.2.2.2.2.2.2.1 (nI a1)).bind fun (v, b', hn', pm', hb') => some (v, b', m.2.1, m.2.2.1, m.2.2.2.1, hn', pm', hb', m.2.2.2.2.2.2.2.1, m.2.2.2.2.2.2.2.2.1, m.2.2.2.2.2.2.2.2.2.1, m.2.2.2.2.2.2.2.2.2.2)
def qf_2 (a1 a2 a3 : Nat) (m : xMu) : Option (Int32 × xMu) := (f_X5_setTable m.1 m.2.2.2.2.1 m.2.2.2.2.2.1 m.2.2.2.2.2.2.1 (nI a1) (nI a2)).bind fun (v, b', hn', pm', hb') => some (v, b', m.2.1, m.2.2.1, m.2.2.2.1, hn', pm', hb', m.2.2.2.2.2.2.2.1, m.2.2.2.2.2.2.2.2.1, m.2.2.2.2.2.2.2.2.2.1, m.2.2.2.2.2.2.2.2.2.2)
def qf_3 (a1 a2 a3 : Nat) (m : xMu) : Option (Int32 × xMu) := (f_X5_connect m.1 m.2.1 m.2.2.2.2.1 m.2.2.2.2.2.1 m.2.2.2.2.2.2.1 m.2.2.2.2.2.2.2.1 (nI a1) (nI a2) (nI a3)).bind fun (v, b', t', hn', pm', hb', K') => some (v, b', t', m.2.2.1, m.2.2.2.1, hn', pm', hb', K', m.2.2.2.2.2.2.2.2.1, m.2.2.2.2.2.2.2.2.2.1, m.2.2.2.2.2.2.2.2.2.2)
def qf_4 (a1 a2 a3 : Nat) (m : xMu) : Option (Int32 × xMu) := (f_X5_swap m.1 m.2.1 m.2.2.2.2.1 m.2.2.2.2.2.1 m.2.2.2.2.2.2.1 m.2.2.2.2.2.2.2.1 (nI a1) (nI a2)).bind fun (v, b', t', hn', pm', hb', K') => some (v, b', t', m.2.2.1, m.2.2.2.1, hn', pm', hb', K', m.2.2.2.2.2.2.2.2.1, m.2.2.2.2.2.2.2.2.2.1, m.2.2.2.2.2.2.2.2.2.2)
def qf_5 (a1 a2 a3 : Nat) (m : xMu) : Option (Int32 × xMu) := (f_X5_layAnew m.1 m.2.1 m.2.2.2.2.1 m.2.2.2.2.2.1 m.2.2.2.2.2.2.1 m.2.2.2.2.2.2.2.1 (nI a1)).bind fun (v, b', t', hn', pm', hb', K') => some (v, b', t', m.2.2.1, m.2.2.2.1, hn', pm', hb', K', m.2.2.2.2.2.2.2.2.1, m.2.2.2.2.2.2.2.2.2.1, m.2.2.2.2.2.2.2.2.2.2)
def qf_6 (a1 a2 a3 : Nat) (m : xMu) : Option (Int32 × xMu) := (f_X5_set m.1 m.2.2.2.2.1 m.2.2.2.2.2.1 m.2.2.2.2.2.2.1 (nI a1) (nI a2)).bind fun (v, b', hn', pm', hb') => some (v, b', m.2.1, m.2.2.1, m.2.2.2.1, hn', pm', hb', m.2.2.2.2.2.2.2.1, m.2.2.2.2.2.2.2.2.1, m.2.2.2.2.2.2.2.2.2.1, m.2.2.2.2.2.2.2.2.2.2)
def qf_7 (a1 a2 a3 : Nat) (m : xMu) : Option (Int32 × xMu) := (f_X5_load m.1 m.2.1 m.2.2.2.2.1 m.2.2.2.2.2.1 m.2.2.2.2.2.2.1 m.2.2.2.2.2.2.2.1 m.2.2.2.2.2.2.2.2.1 m.2.2.2.2.2.2.2.2.2.1 m.2.2.2.2.2.2.2.2.2.2).bind fun (v, b', t', hn', pm', hb', K', at') => some (v, b', t', m.2.2.1, m.2.2.2.1, hn', pm', hb', K', m.2.2.2.2.2.2.2.2.1, m.2.2.2.2.2.2.2.2.2.1, at')
def qf_8 (a1 a2 a3 : Nat) (m : xMu) : Option (Int32 × xMu) := (f_X5_type m.2.2.2.2.2.2.2.2.1 m.2.2.2.2.2.2.2.2.2.1 (nI a1)).bind fun (v, Sg', ln') => some (v, m.1, m.2.1, m.2.2.1, m.2.2.2.1, m.2.2.2.2.1, m.2.2.2.2.2.1, m.2.2.2.2.2.2.1, m.2.2.2.2.2.2.2.1, Sg', ln', m.2.2.2.2.2.2.2.2.2.2)
def qf_9 (a1 a2 a3 : Nat) (m : xMu) : Option (Int32 × xMu) := (f_X5_clearText m.2.2.2.2.2.2.2.2.2.1).bind fun (v, ln') => some (v, m.1, m.2.1, m.2.2.1, m.2.2.2.1, m.2.2.2.2.1, m.2.2.2.2.2.1, m.2.2.2.2.2.2.1, m.2.2.2.2.2.2.2.1, m.2.2.2.2.2.2.2.2.1, ln', m.2.2.2.2.2.2.2.2.2.2)
def qf_10 (a1 a2 a3 : Nat) (m : xMu) : Option (Int32 × xMu) := (f_X5_undo m.1 m.2.2.2.2.1 m.2.2.2.2.2.1 m.2.2.2.2.2.2.1).bind fun (v, b', hn') => some (v, b', m.2.1, m.2.2.1, m.2.2.2.1, hn', m.2.2.2.2.2.1, m.2.2.2.2.2.2.1, m.2.2.2.2.2.2.2.1, m.2.2.2.2.2.2.2.2.1, m.2.2.2.2.2.2.2.2.2.1, m.2.2.2.2.2.2.2.2.2.2)
def qf_11 (a1 a2 a3 : Nat) (m : xMu) : Option (Int32 × xMu) := (f_X5_keep m.2.2.2.1 m.1 m.2.2.1).bind fun (v, hs', s') => some (v, m.1, m.2.1, s', hs', m.2.2.2.2.1, m.2.2.2.2.2.1, m.2.2.2.2.2.2.1, m.2.2.2.2.2.2.2.1, m.2.2.2.2.2.2.2.2.1, m.2.2.2.2.2.2.2.2.2.1, m.2.2.2.2.2.2.2.2.2.2)
def qf_12 (a1 a2 a3 : Nat) (m : xMu) : Option (Int32 × xMu) := (f_X5_restore m.2.2.2.1 m.1 m.2.2.1 m.2.2.2.2.1 m.2.2.2.2.2.1 m.2.2.2.2.2.2.1).bind fun (v, b', hn', pm', hb') => some (v, b', m.2.1, m.2.2.1, m.2.2.2.1, hn', pm', hb', m.2.2.2.2.2.2.2.1, m.2.2.2.2.2.2.2.2.1, m.2.2.2.2.2.2.2.2.2.1, m.2.2.2.2.2.2.2.2.2.2)
def qf_13 (a1 a2 a3 : Nat) (m : xMu) : Option (Int32 × xMu) := (f_X5_cell m.1 z0 z0 0 (nI a1) (nI a2)).bind fun (v, Dp', Sq', se') => some (v, m.1, m.2.1, m.2.2.1, m.2.2.2.1, m.2.2.2.2.1, m.2.2.2.2.2.1, m.2.2.2.2.2.2.1, m.2.2.2.2.2.2.2.1, m.2.2.2.2.2.2.2.2.1, m.2.2.2.2.2.2.2.2.2.1, m.2.2.2.2.2.2.2.2.2.2)
def qf_14 (a1 a2 a3 : Nat) (m : xMu) : Option (Int32 × xMu) := (f_X5_path m.1 (nI a1) (nI a2) (nI a3)).bind fun v => some (v, m.1, m.2.1, m.2.2.1, m.2.2.2.1, m.2.2.2.2.1, m.2.2.2.2.2.1, m.2.2.2.2.2.2.1, m.2.2.2.2.2.2.2.1, m.2.2.2.2.2.2.2.2.1, m.2.2.2.2.2.2.2.2.2.1, m.2.2.2.2.2.2.2.2.2.2)
def qf_15 (a1 a2 a3 : Nat) (m : xMu) : Option (Int32 × xMu) := (f_X5_held m.1 (nI a1) (nI a2)).bind fun v => some (v, m.1, m.2.1, m.2.2.1, m.2.2.2.1, m.2.2.2.2.1, m.2.2.2.2.2.1, m.2.2.2.2.2.2.1, m.2.2.2.2.2.2.2.1, m.2.2.2.2.2.2.2.2.1, m.2.2.2.2.2.2.2.2.2.1, m.2.2.2.2.2.2.2.2.2.2)
def qf_16 (a1 a2 a3 : Nat) (m : xMu) : Option (Int32 × xMu) := (f_X5_answer m.1 z0 z0 z0 0 (nI a1) (nI a2)).bind fun (v, Dp', Bt', Sq', se') => some (v, m.1, m.2.1, m.2.2.1, m.2.2.2.1, m.2.2.2.2.1, m.2.2.2.2.2.1, m.2.2.2.2.2.2.1, m.2.2.2.2.2.2.2.1, m.2.2.2.2.2.2.2.2.1, m.2.2.2.2.2.2.2.2.2.1, m.2.2.2.2.2.2.2.2.2.2)
def qf_17 (a1 a2 a3 : Nat) (m : xMu) : Option (Int32 × xMu) := (f_X5_ones m.1 z0 z0 z0 0 (nI a1)).bind fun (v, Dp', Bt', Sq', se') => some (v, m.1, m.2.1, m.2.2.1, m.2.2.2.1, m.2.2.2.2.1, m.2.2.2.2.2.1, m.2.2.2.2.2.2.1, m.2.2.2.2.2.2.2.1, m.2.2.2.2.2.2.2.2.1, m.2.2.2.2.2.2.2.2.2.1, m.2.2.2.2.2.2.2.2.2.2)
def qf_18 (a1 a2 a3 : Nat) (m : xMu) : Option (Int32 × xMu) := (f_X5_ifSwap m.1 m.2.1 m.2.2.2.2.2.2.2.1 (nI a1) (nI a2)).bind fun (v, t', K') => some (v, m.1, t', m.2.2.1, m.2.2.2.1, m.2.2.2.2.1, m.2.2.2.2.2.1, m.2.2.2.2.2.2.1, K', m.2.2.2.2.2.2.2.2.1, m.2.2.2.2.2.2.2.2.2.1, m.2.2.2.2.2.2.2.2.2.2)
def qf_19 (a1 a2 a3 : Nat) (m : xMu) : Option (Int32 × xMu) := (f_X5_bestSwap m.1 m.2.1 m.2.2.2.2.2.2.2.1 (nI a1)).bind fun (v, t', K') => some (v, m.1, t', m.2.2.1, m.2.2.2.1, m.2.2.2.2.1, m.2.2.2.2.2.1, m.2.2.2.2.2.2.1, K', m.2.2.2.2.2.2.2.2.1, m.2.2.2.2.2.2.2.2.2.1, m.2.2.2.2.2.2.2.2.2.2)
def qf_20 (a1 a2 a3 : Nat) (m : xMu) : Option (Int32 × xMu) := (f_X5_bestOrder m.1 m.2.1 m.2.2.2.2.2.2.2.1).bind fun (v, t', K') => some (v, m.1, t', m.2.2.1, m.2.2.2.1, m.2.2.2.2.1, m.2.2.2.2.2.1, m.2.2.2.2.2.2.1, K', m.2.2.2.2.2.2.2.2.1, m.2.2.2.2.2.2.2.2.2.1, m.2.2.2.2.2.2.2.2.2.2)
def qf_21 (a1 a2 a3 : Nat) (m : xMu) : Option (Int32 × xMu) := (f_X5_count m.1 m.2.2.2.2.1 z0 z0 0 m.2.2.2.2.2.2.2.2.2.1 (nI a1)).bind fun (v, Dp', Sq', se') => some (v, m.1, m.2.1, m.2.2.1, m.2.2.2.1, m.2.2.2.2.1, m.2.2.2.2.2.1, m.2.2.2.2.2.2.1, m.2.2.2.2.2.2.2.1, m.2.2.2.2.2.2.2.2.1, m.2.2.2.2.2.2.2.2.2.1, m.2.2.2.2.2.2.2.2.2.2)
def qf (op a1 a2 a3 : Nat) (m : xMu) : Option (Int32 × xMu) :=
  match op with
  | 0 => qf_0 a1 a2 a3 m
  | 1 => qf_1 a1 a2 a3 m
  | 2 => qf_2 a1 a2 a3 m
  | 3 => qf_3 a1 a2 a3 m
  | 4 => qf_4 a1 a2 a3 m
  | 5 => qf_5 a1 a2 a3 m
  | 6 => qf_6 a1 a2 a3 m
  | 7 => qf_7 a1 a2 a3 m
  | 8 => qf_8 a1 a2 a3 m
  | 9 => qf_9 a1 a2 a3 m
  | 10 => qf_10 a1 a2 a3 m
  | 11 => qf_11 a1 a2 a3 m
  | 12 => qf_12 a1 a2 a3 m
  | 13 => qf_13 a1 a2 a3 m
  | 14 => qf_14 a1 a2 a3 m
  | 15 => qf_15 a1 a2 a3 m
  | 16 => qf_16 a1 a2 a3 m
  | 17 => qf_17 a1 a2 a3 m
  | 18 => qf_18 a1 a2 a3 m
  | 19 => qf_19 a1 a2 a3 m
  | 20 => qf_20 a1 a2 a3 m
  | 21 => qf_21 a1 a2 a3 m
  | 22 => some (1, m)
  | _ => none
def gf_0 (a1 a2 a3 : Nat) (m : gMu) : Option (Nat × gMu) := (g_X5_put m.1 m.2.2.2.2.1 m.2.2.2.2.2.1 m.2.2.2.2.2.2.1 a1 a2).bind fun (v, b', hn', pm', hb') => some (v, b', m.2.1, m.2.2.1, m.2.2.2.1, hn', pm', hb', m.2.2.2.2.2.2.2.1, m.2.2.2.2.2.2.2.2.1, m.2.2.2.2.2.2.2.2.2.1, m.2.2.2.2.2.2.2.2.2.2)
def gf_1 (a1 a2 a3 : Nat) (m : gMu) : Option (Nat × gMu) := (g_X5_take m.1 m.2.2.2.2.1 m.2.2.2.2.2.1 m.2.2.2.2.2.2.1 a1).bind fun (v, b', hn', pm', hb') => some (v, b', m.2.1, m.2.2.1, m.2.2.2.1, hn', pm', hb', m.2.2.2.2.2.2.2.1, m.2.2.2.2.2.2.2.2.1, m.2.2.2.2.2.2.2.2.2.1, m.2.2.2.2.2.2.2.2.2.2)
def gf_2 (a1 a2 a3 : Nat) (m : gMu) : Option (Nat × gMu) := (g_X5_setTable m.1 m.2.2.2.2.1 m.2.2.2.2.2.1 m.2.2.2.2.2.2.1 a1 a2).bind fun (v, b', hn', pm', hb') => some (v, b', m.2.1, m.2.2.1, m.2.2.2.1, hn', pm', hb', m.2.2.2.2.2.2.2.1, m.2.2.2.2.2.2.2.2.1, m.2.2.2.2.2.2.2.2.2.1, m.2.2.2.2.2.2.2.2.2.2)
def gf_3 (a1 a2 a3 : Nat) (m : gMu) : Option (Nat × gMu) := (g_X5_connect m.1 m.2.1 m.2.2.2.2.1 m.2.2.2.2.2.1 m.2.2.2.2.2.2.1 m.2.2.2.2.2.2.2.1 a1 a2 a3).bind fun (v, b', t', hn', pm', hb', K') => some (v, b', t', m.2.2.1, m.2.2.2.1, hn', pm', hb', K', m.2.2.2.2.2.2.2.2.1, m.2.2.2.2.2.2.2.2.2.1, m.2.2.2.2.2.2.2.2.2.2)
def gf_4 (a1 a2 a3 : Nat) (m : gMu) : Option (Nat × gMu) := (g_X5_swap m.1 m.2.1 m.2.2.2.2.1 m.2.2.2.2.2.1 m.2.2.2.2.2.2.1 m.2.2.2.2.2.2.2.1 a1 a2).bind fun (v, b', t', hn', pm', hb', K') => some (v, b', t', m.2.2.1, m.2.2.2.1, hn', pm', hb', K', m.2.2.2.2.2.2.2.2.1, m.2.2.2.2.2.2.2.2.2.1, m.2.2.2.2.2.2.2.2.2.2)
def gf_5 (a1 a2 a3 : Nat) (m : gMu) : Option (Nat × gMu) := (g_X5_layAnew m.1 m.2.1 m.2.2.2.2.1 m.2.2.2.2.2.1 m.2.2.2.2.2.2.1 m.2.2.2.2.2.2.2.1 a1).bind fun (v, b', t', hn', pm', hb', K') => some (v, b', t', m.2.2.1, m.2.2.2.1, hn', pm', hb', K', m.2.2.2.2.2.2.2.2.1, m.2.2.2.2.2.2.2.2.2.1, m.2.2.2.2.2.2.2.2.2.2)
def gf_6 (a1 a2 a3 : Nat) (m : gMu) : Option (Nat × gMu) := (g_X5_set m.1 m.2.2.2.2.1 m.2.2.2.2.2.1 m.2.2.2.2.2.2.1 a1 a2).bind fun (v, b', hn', pm', hb') => some (v, b', m.2.1, m.2.2.1, m.2.2.2.1, hn', pm', hb', m.2.2.2.2.2.2.2.1, m.2.2.2.2.2.2.2.2.1, m.2.2.2.2.2.2.2.2.2.1, m.2.2.2.2.2.2.2.2.2.2)
def gf_7 (a1 a2 a3 : Nat) (m : gMu) : Option (Nat × gMu) := (g_X5_load m.1 m.2.1 m.2.2.2.2.1 m.2.2.2.2.2.1 m.2.2.2.2.2.2.1 m.2.2.2.2.2.2.2.1 m.2.2.2.2.2.2.2.2.1 m.2.2.2.2.2.2.2.2.2.1 m.2.2.2.2.2.2.2.2.2.2).bind fun (v, b', t', hn', pm', hb', K', at') => some (v, b', t', m.2.2.1, m.2.2.2.1, hn', pm', hb', K', m.2.2.2.2.2.2.2.2.1, m.2.2.2.2.2.2.2.2.2.1, at')
def gf_8 (a1 a2 a3 : Nat) (m : gMu) : Option (Nat × gMu) := (g_X5_type m.2.2.2.2.2.2.2.2.1 m.2.2.2.2.2.2.2.2.2.1 a1).bind fun (v, Sg', ln') => some (v, m.1, m.2.1, m.2.2.1, m.2.2.2.1, m.2.2.2.2.1, m.2.2.2.2.2.1, m.2.2.2.2.2.2.1, m.2.2.2.2.2.2.2.1, Sg', ln', m.2.2.2.2.2.2.2.2.2.2)
def gf_9 (a1 a2 a3 : Nat) (m : gMu) : Option (Nat × gMu) := (g_X5_clearText m.2.2.2.2.2.2.2.2.2.1).bind fun (v, ln') => some (v, m.1, m.2.1, m.2.2.1, m.2.2.2.1, m.2.2.2.2.1, m.2.2.2.2.2.1, m.2.2.2.2.2.2.1, m.2.2.2.2.2.2.2.1, m.2.2.2.2.2.2.2.2.1, ln', m.2.2.2.2.2.2.2.2.2.2)
def gf_10 (a1 a2 a3 : Nat) (m : gMu) : Option (Nat × gMu) := (g_X5_undo m.1 m.2.2.2.2.1 m.2.2.2.2.2.1 m.2.2.2.2.2.2.1).bind fun (v, b', hn') => some (v, b', m.2.1, m.2.2.1, m.2.2.2.1, hn', m.2.2.2.2.2.1, m.2.2.2.2.2.2.1, m.2.2.2.2.2.2.2.1, m.2.2.2.2.2.2.2.2.1, m.2.2.2.2.2.2.2.2.2.1, m.2.2.2.2.2.2.2.2.2.2)
def gf_11 (a1 a2 a3 : Nat) (m : gMu) : Option (Nat × gMu) := (g_X5_keep m.2.2.2.1 m.1 m.2.2.1).bind fun (v, hs', s') => some (v, m.1, m.2.1, s', hs', m.2.2.2.2.1, m.2.2.2.2.2.1, m.2.2.2.2.2.2.1, m.2.2.2.2.2.2.2.1, m.2.2.2.2.2.2.2.2.1, m.2.2.2.2.2.2.2.2.2.1, m.2.2.2.2.2.2.2.2.2.2)
def gf_12 (a1 a2 a3 : Nat) (m : gMu) : Option (Nat × gMu) := (g_X5_restore m.2.2.2.1 m.1 m.2.2.1 m.2.2.2.2.1 m.2.2.2.2.2.1 m.2.2.2.2.2.2.1).bind fun (v, b', hn', pm', hb') => some (v, b', m.2.1, m.2.2.1, m.2.2.2.1, hn', pm', hb', m.2.2.2.2.2.2.2.1, m.2.2.2.2.2.2.2.2.1, m.2.2.2.2.2.2.2.2.2.1, m.2.2.2.2.2.2.2.2.2.2)
def gf_13 (a1 a2 a3 : Nat) (m : gMu) : Option (Nat × gMu) := (g_X5_cell m.1 0 0 0 a1 a2).bind fun (v, Dp', Sq', se') => some (v, m.1, m.2.1, m.2.2.1, m.2.2.2.1, m.2.2.2.2.1, m.2.2.2.2.2.1, m.2.2.2.2.2.2.1, m.2.2.2.2.2.2.2.1, m.2.2.2.2.2.2.2.2.1, m.2.2.2.2.2.2.2.2.2.1, m.2.2.2.2.2.2.2.2.2.2)
def gf_14 (a1 a2 a3 : Nat) (m : gMu) : Option (Nat × gMu) := (g_X5_path m.1 a1 a2 a3).bind fun v => some (v, m.1, m.2.1, m.2.2.1, m.2.2.2.1, m.2.2.2.2.1, m.2.2.2.2.2.1, m.2.2.2.2.2.2.1, m.2.2.2.2.2.2.2.1, m.2.2.2.2.2.2.2.2.1, m.2.2.2.2.2.2.2.2.2.1, m.2.2.2.2.2.2.2.2.2.2)
def gf_15 (a1 a2 a3 : Nat) (m : gMu) : Option (Nat × gMu) := (g_X5_held m.1 a1 a2).bind fun v => some (v, m.1, m.2.1, m.2.2.1, m.2.2.2.1, m.2.2.2.2.1, m.2.2.2.2.2.1, m.2.2.2.2.2.2.1, m.2.2.2.2.2.2.2.1, m.2.2.2.2.2.2.2.2.1, m.2.2.2.2.2.2.2.2.2.1, m.2.2.2.2.2.2.2.2.2.2)
def gf_16 (a1 a2 a3 : Nat) (m : gMu) : Option (Nat × gMu) := (g_X5_answer m.1 0 0 0 0 a1 a2).bind fun (v, Dp', Bt', Sq', se') => some (v, m.1, m.2.1, m.2.2.1, m.2.2.2.1, m.2.2.2.2.1, m.2.2.2.2.2.1, m.2.2.2.2.2.2.1, m.2.2.2.2.2.2.2.1, m.2.2.2.2.2.2.2.2.1, m.2.2.2.2.2.2.2.2.2.1, m.2.2.2.2.2.2.2.2.2.2)
def gf_17 (a1 a2 a3 : Nat) (m : gMu) : Option (Nat × gMu) := (g_X5_ones m.1 0 0 0 0 a1).bind fun (v, Dp', Bt', Sq', se') => some (v, m.1, m.2.1, m.2.2.1, m.2.2.2.1, m.2.2.2.2.1, m.2.2.2.2.2.1, m.2.2.2.2.2.2.1, m.2.2.2.2.2.2.2.1, m.2.2.2.2.2.2.2.2.1, m.2.2.2.2.2.2.2.2.2.1, m.2.2.2.2.2.2.2.2.2.2)
def gf_18 (a1 a2 a3 : Nat) (m : gMu) : Option (Nat × gMu) := (g_X5_ifSwap m.1 m.2.1 m.2.2.2.2.2.2.2.1 a1 a2).bind fun (v, t', K') => some (v, m.1, t', m.2.2.1, m.2.2.2.1, m.2.2.2.2.1, m.2.2.2.2.2.1, m.2.2.2.2.2.2.1, K', m.2.2.2.2.2.2.2.2.1, m.2.2.2.2.2.2.2.2.2.1, m.2.2.2.2.2.2.2.2.2.2)
def gf_19 (a1 a2 a3 : Nat) (m : gMu) : Option (Nat × gMu) := (g_X5_bestSwap m.1 m.2.1 m.2.2.2.2.2.2.2.1 a1).bind fun (v, t', K') => some (v, m.1, t', m.2.2.1, m.2.2.2.1, m.2.2.2.2.1, m.2.2.2.2.2.1, m.2.2.2.2.2.2.1, K', m.2.2.2.2.2.2.2.2.1, m.2.2.2.2.2.2.2.2.2.1, m.2.2.2.2.2.2.2.2.2.2)
def gf_20 (a1 a2 a3 : Nat) (m : gMu) : Option (Nat × gMu) := (g_X5_bestOrder m.1 m.2.1 m.2.2.2.2.2.2.2.1).bind fun (v, t', K') => some (v, m.1, t', m.2.2.1, m.2.2.2.1, m.2.2.2.2.1, m.2.2.2.2.2.1, m.2.2.2.2.2.2.1, K', m.2.2.2.2.2.2.2.2.1, m.2.2.2.2.2.2.2.2.2.1, m.2.2.2.2.2.2.2.2.2.2)
def gf_21 (a1 a2 a3 : Nat) (m : gMu) : Option (Nat × gMu) := (g_X5_count m.1 m.2.2.2.2.1 0 0 0 m.2.2.2.2.2.2.2.2.2.1 a1).bind fun (v, Dp', Sq', se') => some (v, m.1, m.2.1, m.2.2.1, m.2.2.2.1, m.2.2.2.2.1, m.2.2.2.2.2.1, m.2.2.2.2.2.2.1, m.2.2.2.2.2.2.2.1, m.2.2.2.2.2.2.2.2.1, m.2.2.2.2.2.2.2.2.2.1, m.2.2.2.2.2.2.2.2.2.2)
def gf (op a1 a2 a3 : Nat) (m : gMu) : Option (Nat × gMu) :=
  match op with
  | 0 => gf_0 a1 a2 a3 m
  | 1 => gf_1 a1 a2 a3 m
  | 2 => gf_2 a1 a2 a3 m
  | 3 => gf_3 a1 a2 a3 m
  | 4 => gf_4 a1 a2 a3 m
  | 5 => gf_5 a1 a2 a3 m
  | 6 => gf_6 a1 a2 a3 m
  | 7 => gf_7 a1 a2 a3 m
  | 8 => gf_8 a1 a2 a3 m
  | 9 => gf_9 a1 a2 a3 m
  | 10 => gf_10 a1 a2 a3 m
  | 11 => gf_11 a1 a2 a3 m
  | 12 => gf_12 a1 a2 a3 m
  | 13 => gf_13 a1 a2 a3 m
  | 14 => gf_14 a1 a2 a3 m
  | 15 => gf_15 a1 a2 a3 m
  | 16 => gf_16 a1 a2 a3 m
  | 17 => gf_17 a1 a2 a3 m
  | 18 => gf_18 a1 a2 a3 m
  | 19 => gf_19 a1 a2 a3 m
  | 20 => gf_20 a1 a2 a3 m
  | 21 => gf_21 a1 a2 a3 m
  | 22 => some (1, m)
  | _ => none
theorem dA_z : z0 = dA 0 := dA_0.symm
section SQ
theorem s_q0 {a1 a2 a3 v : Nat} {m m' : gMu} (h : gf_0 a1 a2 a3 m = some (v, m')) : qf_0 a1 a2 a3 (dM m) = some (nI v, dM m') := by
  unfold gf_0 at h
  obtain ⟨⟨v0, b', hn', pm', hb'⟩, e, h⟩ := ob_i h
  have w0 := Option.some.inj h
  obtain ⟨q0, w1⟩ := Prod.mk.inj w0
  subst q0
  subst w1
  exact ob_s (s_X5_put e rfl rfl rfl rfl rfl rfl) rfl
theorem s_q1 {a1 a2 a3 v : Nat} {m m' : gMu} (h : gf_1 a1 a2 a3 m = some (v, m')) : qf_1 a1 a2 a3 (dM m) = some (nI v, dM m') := by
  unfold gf_1 at h
  obtain ⟨⟨v0, b', hn', pm', hb'⟩, e, h⟩ := ob_i h
  have w0 := Option.some.inj h
  obtain ⟨q0, w1⟩ := Prod.mk.inj w0
  subst q0
  subst w1
  exact ob_s (s_X5_take e rfl rfl rfl rfl rfl) rfl
theorem s_q2 {a1 a2 a3 v : Nat} {m m' : gMu} (h : gf_2 a1 a2 a3 m = some (v, m')) : qf_2 a1 a2 a3 (dM m) = some (nI v, dM m') := by
  unfold gf_2 at h
  obtain ⟨⟨v0, b', hn', pm', hb'⟩, e, h⟩ := ob_i h
  have w0 := Option.some.inj h
  obtain ⟨q0, w1⟩ := Prod.mk.inj w0
  subst q0
  subst w1
  exact ob_s (s_X5_setTable e rfl rfl rfl rfl rfl rfl) rfl
theorem s_q3 {a1 a2 a3 v : Nat} {m m' : gMu} (h : gf_3 a1 a2 a3 m = some (v, m')) : qf_3 a1 a2 a3 (dM m) = some (nI v, dM m') := by
  unfold gf_3 at h
  obtain ⟨⟨v0, b', t', hn', pm', hb', K'⟩, e, h⟩ := ob_i h
  have w0 := Option.some.inj h
  obtain ⟨q0, w1⟩ := Prod.mk.inj w0
  subst q0
  subst w1
  exact ob_s (s_X5_connect e rfl rfl rfl rfl rfl rfl rfl rfl rfl) rfl
theorem s_q4 {a1 a2 a3 v : Nat} {m m' : gMu} (h : gf_4 a1 a2 a3 m = some (v, m')) : qf_4 a1 a2 a3 (dM m) = some (nI v, dM m') := by
  unfold gf_4 at h
  obtain ⟨⟨v0, b', t', hn', pm', hb', K'⟩, e, h⟩ := ob_i h
  have w0 := Option.some.inj h
  obtain ⟨q0, w1⟩ := Prod.mk.inj w0
  subst q0
  subst w1
  exact ob_s (s_X5_swap e rfl rfl rfl rfl rfl rfl rfl rfl) rfl
theorem s_q5 {a1 a2 a3 v : Nat} {m m' : gMu} (h : gf_5 a1 a2 a3 m = some (v, m')) : qf_5 a1 a2 a3 (dM m) = some (nI v, dM m') := by
  unfold gf_5 at h
  obtain ⟨⟨v0, b', t', hn', pm', hb', K'⟩, e, h⟩ := ob_i h
  have w0 := Option.some.inj h
  obtain ⟨q0, w1⟩ := Prod.mk.inj w0
  subst q0
  subst w1
  exact ob_s (s_X5_layAnew e rfl rfl rfl rfl rfl rfl rfl) rfl
theorem s_q6 {a1 a2 a3 v : Nat} {m m' : gMu} (h : gf_6 a1 a2 a3 m = some (v, m')) : qf_6 a1 a2 a3 (dM m) = some (nI v, dM m') := by
  unfold gf_6 at h
  obtain ⟨⟨v0, b', hn', pm', hb'⟩, e, h⟩ := ob_i h
  have w0 := Option.some.inj h
  obtain ⟨q0, w1⟩ := Prod.mk.inj w0
  subst q0
  subst w1
  exact ob_s (s_X5_set e rfl rfl rfl rfl rfl rfl) rfl
theorem s_q7 {a1 a2 a3 v : Nat} {m m' : gMu} (h : gf_7 a1 a2 a3 m = some (v, m')) : qf_7 a1 a2 a3 (dM m) = some (nI v, dM m') := by
  unfold gf_7 at h
  obtain ⟨⟨v0, b', t', hn', pm', hb', K', at'⟩, e, h⟩ := ob_i h
  have w0 := Option.some.inj h
  obtain ⟨q0, w1⟩ := Prod.mk.inj w0
  subst q0
  subst w1
  exact ob_s (s_X5_load e rfl rfl rfl rfl rfl rfl rfl rfl rfl) rfl
theorem s_q8 {a1 a2 a3 v : Nat} {m m' : gMu} (h : gf_8 a1 a2 a3 m = some (v, m')) : qf_8 a1 a2 a3 (dM m) = some (nI v, dM m') := by
  unfold gf_8 at h
  obtain ⟨⟨v0, Sg', ln'⟩, e, h⟩ := ob_i h
  have w0 := Option.some.inj h
  obtain ⟨q0, w1⟩ := Prod.mk.inj w0
  subst q0
  subst w1
  exact ob_s (s_X5_type e rfl rfl rfl) rfl
theorem s_q9 {a1 a2 a3 v : Nat} {m m' : gMu} (h : gf_9 a1 a2 a3 m = some (v, m')) : qf_9 a1 a2 a3 (dM m) = some (nI v, dM m') := by
  unfold gf_9 at h
  obtain ⟨⟨v0, ln'⟩, e, h⟩ := ob_i h
  have w0 := Option.some.inj h
  obtain ⟨q0, w1⟩ := Prod.mk.inj w0
  subst q0
  subst w1
  exact ob_s (s_X5_clearText e rfl) rfl
theorem s_q10 {a1 a2 a3 v : Nat} {m m' : gMu} (h : gf_10 a1 a2 a3 m = some (v, m')) : qf_10 a1 a2 a3 (dM m) = some (nI v, dM m') := by
  unfold gf_10 at h
  obtain ⟨⟨v0, b', hn'⟩, e, h⟩ := ob_i h
  have w0 := Option.some.inj h
  obtain ⟨q0, w1⟩ := Prod.mk.inj w0
  subst q0
  subst w1
  exact ob_s (s_X5_undo e rfl rfl rfl rfl) rfl
theorem s_q11 {a1 a2 a3 v : Nat} {m m' : gMu} (h : gf_11 a1 a2 a3 m = some (v, m')) : qf_11 a1 a2 a3 (dM m) = some (nI v, dM m') := by
  unfold gf_11 at h
  obtain ⟨⟨v0, hs', s'⟩, e, h⟩ := ob_i h
  have w0 := Option.some.inj h
  obtain ⟨q0, w1⟩ := Prod.mk.inj w0
  subst q0
  subst w1
  exact ob_s (s_X5_keep e rfl rfl rfl) rfl
theorem s_q12 {a1 a2 a3 v : Nat} {m m' : gMu} (h : gf_12 a1 a2 a3 m = some (v, m')) : qf_12 a1 a2 a3 (dM m) = some (nI v, dM m') := by
  unfold gf_12 at h
  obtain ⟨⟨v0, b', hn', pm', hb'⟩, e, h⟩ := ob_i h
  have w0 := Option.some.inj h
  obtain ⟨q0, w1⟩ := Prod.mk.inj w0
  subst q0
  subst w1
  exact ob_s (s_X5_restore e rfl rfl rfl rfl rfl rfl) rfl
theorem s_q13 {a1 a2 a3 v : Nat} {m m' : gMu} (h : gf_13 a1 a2 a3 m = some (v, m')) : qf_13 a1 a2 a3 (dM m) = some (nI v, dM m') := by
  unfold gf_13 at h
  obtain ⟨⟨v0, Dp', Sq', se'⟩, e, h⟩ := ob_i h
  have w0 := Option.some.inj h
  obtain ⟨q0, w1⟩ := Prod.mk.inj w0
  subst q0
  subst w1
  exact ob_s (s_X5_cell e rfl dA_z dA_z rfl rfl rfl) rfl
theorem s_q14 {a1 a2 a3 v : Nat} {m m' : gMu} (h : gf_14 a1 a2 a3 m = some (v, m')) : qf_14 a1 a2 a3 (dM m) = some (nI v, dM m') := by
  unfold gf_14 at h
  obtain ⟨v0, e, h⟩ := ob_i h
  have w0 := Option.some.inj h
  obtain ⟨q0, w1⟩ := Prod.mk.inj w0
  subst q0
  subst w1
  exact ob_s (s_X5_path e rfl rfl rfl rfl) rfl
theorem s_q15 {a1 a2 a3 v : Nat} {m m' : gMu} (h : gf_15 a1 a2 a3 m = some (v, m')) : qf_15 a1 a2 a3 (dM m) = some (nI v, dM m') := by
  unfold gf_15 at h
  obtain ⟨v0, e, h⟩ := ob_i h
  have w0 := Option.some.inj h
  obtain ⟨q0, w1⟩ := Prod.mk.inj w0
  subst q0
  subst w1
  exact ob_s (s_X5_held e rfl rfl rfl) rfl
theorem s_q16 {a1 a2 a3 v : Nat} {m m' : gMu} (h : gf_16 a1 a2 a3 m = some (v, m')) : qf_16 a1 a2 a3 (dM m) = some (nI v, dM m') := by
  unfold gf_16 at h
  obtain ⟨⟨v0, Dp', Bt', Sq', se'⟩, e, h⟩ := ob_i h
  have w0 := Option.some.inj h
  obtain ⟨q0, w1⟩ := Prod.mk.inj w0
  subst q0
  subst w1
  exact ob_s (s_X5_answer e rfl dA_z dA_z dA_z rfl rfl rfl) rfl
theorem s_q17 {a1 a2 a3 v : Nat} {m m' : gMu} (h : gf_17 a1 a2 a3 m = some (v, m')) : qf_17 a1 a2 a3 (dM m) = some (nI v, dM m') := by
  unfold gf_17 at h
  obtain ⟨⟨v0, Dp', Bt', Sq', se'⟩, e, h⟩ := ob_i h
  have w0 := Option.some.inj h
  obtain ⟨q0, w1⟩ := Prod.mk.inj w0
  subst q0
  subst w1
  exact ob_s (s_X5_ones e rfl dA_z dA_z dA_z rfl rfl) rfl
theorem s_q18 {a1 a2 a3 v : Nat} {m m' : gMu} (h : gf_18 a1 a2 a3 m = some (v, m')) : qf_18 a1 a2 a3 (dM m) = some (nI v, dM m') := by
  unfold gf_18 at h
  obtain ⟨⟨v0, t', K'⟩, e, h⟩ := ob_i h
  have w0 := Option.some.inj h
  obtain ⟨q0, w1⟩ := Prod.mk.inj w0
  subst q0
  subst w1
  exact ob_s (s_X5_ifSwap e rfl rfl rfl rfl rfl) rfl
theorem s_q19 {a1 a2 a3 v : Nat} {m m' : gMu} (h : gf_19 a1 a2 a3 m = some (v, m')) : qf_19 a1 a2 a3 (dM m) = some (nI v, dM m') := by
  unfold gf_19 at h
  obtain ⟨⟨v0, t', K'⟩, e, h⟩ := ob_i h
  have w0 := Option.some.inj h
  obtain ⟨q0, w1⟩ := Prod.mk.inj w0
  subst q0
  subst w1
  exact ob_s (s_X5_bestSwap e rfl rfl rfl rfl) rfl
theorem s_q20 {a1 a2 a3 v : Nat} {m m' : gMu} (h : gf_20 a1 a2 a3 m = some (v, m')) : qf_20 a1 a2 a3 (dM m) = some (nI v, dM m') := by
  unfold gf_20 at h
  obtain ⟨⟨v0, t', K'⟩, e, h⟩ := ob_i h
  have w0 := Option.some.inj h
  obtain ⟨q0, w1⟩ := Prod.mk.inj w0
  subst q0
  subst w1
  exact ob_s (s_X5_bestOrder e rfl rfl rfl) rfl
theorem s_q21 {a1 a2 a3 v : Nat} {m m' : gMu} (h : gf_21 a1 a2 a3 m = some (v, m')) : qf_21 a1 a2 a3 (dM m) = some (nI v, dM m') := by
  unfold gf_21 at h
  obtain ⟨⟨v0, Dp', Sq', se'⟩, e, h⟩ := ob_i h
  have w0 := Option.some.inj h
  obtain ⟨q0, w1⟩ := Prod.mk.inj w0
  subst q0
  subst w1
  exact ob_s (s_X5_count e rfl rfl dA_z dA_z rfl rfl rfl) rfl
theorem s_q {op a1 a2 a3 v : Nat} {m m' : gMu} (hop : op ≤ 22) (h : gf op a1 a2 a3 m = some (v, m')) : qf op a1 a2 a3 (dM m) = some (nI v, dM m') := by
  rcases (show op = 0 ∨ op = 1 ∨ op = 2 ∨ op = 3 ∨ op = 4 ∨ op = 5 ∨ op = 6 ∨ op = 7 ∨ op = 8 ∨ op = 9 ∨ op = 10 ∨ op = 11 ∨ op = 12 ∨ op = 13 ∨ op = 14 ∨ op = 15 ∨ op = 16 ∨ op = 17 ∨ op = 18 ∨ op = 19 ∨ op = 20 ∨ op = 21 ∨ op = 22 by omega) with rfl | rfl | rfl | rfl | rfl | rfl | rfl | rfl | rfl | rfl | rfl | rfl | rfl | rfl | rfl | rfl | rfl | rfl | rfl | rfl | rfl | rfl | rfl
  · exact s_q0 (a1 := a1) (a2 := a2) (a3 := a3) h
  · exact s_q1 (a1 := a1) (a2 := a2) (a3 := a3) h
  · exact s_q2 (a1 := a1) (a2 := a2) (a3 := a3) h
  · exact s_q3 (a1 := a1) (a2 := a2) (a3 := a3) h
  · exact s_q4 (a1 := a1) (a2 := a2) (a3 := a3) h
  · exact s_q5 (a1 := a1) (a2 := a2) (a3 := a3) h
  · exact s_q6 (a1 := a1) (a2 := a2) (a3 := a3) h
  · exact s_q7 (a1 := a1) (a2 := a2) (a3 := a3) h
  · exact s_q8 (a1 := a1) (a2 := a2) (a3 := a3) h
  · exact s_q9 (a1 := a1) (a2 := a2) (a3 := a3) h
  · exact s_q10 (a1 := a1) (a2 := a2) (a3 := a3) h
  · exact s_q11 (a1 := a1) (a2 := a2) (a3 := a3) h
  · exact s_q12 (a1 := a1) (a2 := a2) (a3 := a3) h
  · exact s_q13 (a1 := a1) (a2 := a2) (a3 := a3) h
  · exact s_q14 (a1 := a1) (a2 := a2) (a3 := a3) h
  · exact s_q15 (a1 := a1) (a2 := a2) (a3 := a3) h
  · exact s_q16 (a1 := a1) (a2 := a2) (a3 := a3) h
  · exact s_q17 (a1 := a1) (a2 := a2) (a3 := a3) h
  · exact s_q18 (a1 := a1) (a2 := a2) (a3 := a3) h
  · exact s_q19 (a1 := a1) (a2 := a2) (a3 := a3) h
  · exact s_q20 (a1 := a1) (a2 := a2) (a3 := a3) h
  · exact s_q21 (a1 := a1) (a2 := a2) (a3 := a3) h
  · have w0 := Option.some.inj h
    obtain ⟨q0, w1⟩ := Prod.mk.inj w0
    subst q0
    subst w1
    rfl
end SQ
abbrev gScr : Type := List (Nat × Nat × Nat × Nat × Nat)
def xRun : gScr → xMu → Option xMu
  | [], m => some m
  | (op, a1, a2, a3, v) :: l, m => (qf op a1 a2 a3 m).bind fun (x, m') => if x = nI v then xRun l m' else none
def gRun : gScr → gMu → Option gMu
  | [], m => some m
  | (op, a1, a2, a3, v) :: l, m => bif Nat.ble 23 op then none else (gf op a1 a2 a3 m).bind fun (x, m') => bif Nat.beq x v then gRun l m' else none
theorem s_run : ∀ {l : gScr} {m m' : gMu}, gRun l m = some m' → xRun l (dM m) = some (dM m')
  | [], m, m', h => congrArg (fun z => some (dM z)) (Option.some.inj h)
  | (op, a1, a2, a3, v) :: l, m, m', h => by
    obtain ⟨hop, h⟩ := g_gd h
    obtain ⟨⟨x, m2⟩, e, h⟩ := ob_i h
    rcases g_if h with ⟨c, h⟩ | ⟨c, h⟩
    · refine ob_s (s_q (Nat.le_of_lt_succ hop) e) ?_
      exact (if_pos (congrArg nI (Nat.eq_of_beq_eq_true c))).trans (s_run h)
    · cases h
theorem xRun_app : ∀ {l l' : gScr} {m m1 : xMu}, xRun l m = some m1 → xRun (l ++ l') m = xRun l' m1
  | [], l', m, m1, h => by rw [Option.some.inj h]; rfl
  | (op, a1, a2, a3, v) :: l, l', m, m1, h => by
    obtain ⟨⟨x, m2⟩, e, h⟩ := ob_i h
    refine ob_s e ?_
    by_cases c : x = nI v
    · have h := it_i c h
      exact (if_pos c).trans (xRun_app h)
    · have h := ie_i c h
      cases h
/-- one step of a run -/
theorem xRun_c {op a1 a2 a3 v : Nat} {l : gScr} {m m1 : xMu} (h : xRun ((op, a1, a2, a3, v) :: l) m = some m1) : ∃ m2 : xMu, qf op a1 a2 a3 m = some (nI v, m2) ∧ xRun l m2 = some m1 := by
  obtain ⟨⟨x, m2⟩, e, h⟩ := ob_i h
  by_cases c : x = nI v
  · have h := it_i c h
    rw [c] at e
    exact ⟨m2, e, h⟩
  · have h := ie_i c h
    cases h
def gM0 : gMu := (gB0, gB0, gB0, 0, 0, (0, 1, 2, 3), (gB0, gB0, gB0, gB0), 0, 0, 0, 0)
/-- two states of numbers are the same, so that the kernel reckons them out -/
def gBq (a b : gBd) : Bool := Nat.beq a.1 b.1 && (Nat.beq a.2.1 b.2.1 && (Nat.beq a.2.2.1 b.2.2.1 && (Nat.beq a.2.2.2.1 b.2.2.2.1 && (Nat.beq a.2.2.2.2.1 b.2.2.2.2.1 && (Nat.beq a.2.2.2.2.2.1 b.2.2.2.2.2.1 && Nat.beq a.2.2.2.2.2.2 b.2.2.2.2.2.2)))))
def gPq (a b : gP) : Bool := Nat.beq a.1 b.1 && (Nat.beq a.2.1 b.2.1 && (Nat.beq a.2.2.1 b.2.2.1 && Nat.beq a.2.2.2 b.2.2.2))
def gHq (a b : gH) : Bool := gBq a.1 b.1 && (gBq a.2.1 b.2.1 && (gBq a.2.2.1 b.2.2.1 && gBq a.2.2.2 b.2.2.2))
def gMq (a b : gMu) : Bool := gBq a.1 b.1 && (gBq a.2.1 b.2.1 && (gBq a.2.2.1 b.2.2.1 && (Nat.beq a.2.2.2.1 b.2.2.2.1 && (Nat.beq a.2.2.2.2.1 b.2.2.2.2.1 && (gPq a.2.2.2.2.2.1 b.2.2.2.2.2.1 && (gHq a.2.2.2.2.2.2.1 b.2.2.2.2.2.2.1 && (Nat.beq a.2.2.2.2.2.2.2.1 b.2.2.2.2.2.2.2.1 && (Nat.beq a.2.2.2.2.2.2.2.2.1 b.2.2.2.2.2.2.2.2.1 && (Nat.beq a.2.2.2.2.2.2.2.2.2.1 b.2.2.2.2.2.2.2.2.2.1 && (Nat.beq a.2.2.2.2.2.2.2.2.2.2 b.2.2.2.2.2.2.2.2.2.2))))))))))
def gChk (l : gScr) (m : gMu) (m' : gMu) : Bool := match gRun l m with
  | some x => gMq x m'
  | none => false
theorem gBq_eq {a b : gBd} (h : gBq a b = true) : a = b := by
  obtain ⟨a1, a2, a3, a4, a5, a6, a7⟩ := a
  obtain ⟨b1, b2, b3, b4, b5, b6, b7⟩ := b
  simp only [gBq, Bool.and_eq_true, Nat.beq_eq] at h
  obtain ⟨h1, h2, h3, h4, h5, h6, h7⟩ := h
  subst h1 h2 h3 h4 h5 h6 h7
  rfl
theorem gPq_eq {a b : gP} (h : gPq a b = true) : a = b := by
  obtain ⟨a1, a2, a3, a4⟩ := a
  obtain ⟨b1, b2, b3, b4⟩ := b
  simp only [gPq, Bool.and_eq_true, Nat.beq_eq] at h
  obtain ⟨h1, h2, h3, h4⟩ := h
  subst h1 h2 h3 h4
  rfl
theorem gHq_eq {a b : gH} (h : gHq a b = true) : a = b := by
  obtain ⟨a1, a2, a3, a4⟩ := a
  obtain ⟨b1, b2, b3, b4⟩ := b
  simp only [gHq, Bool.and_eq_true] at h
  obtain ⟨h1, h2, h3, h4⟩ := h
  rw [gBq_eq h1, gBq_eq h2, gBq_eq h3, gBq_eq h4]
theorem gMq_eq {a b : gMu} (h : gMq a b = true) : a = b := by
  obtain ⟨a1, a2, a3, a4, a5, a6, a7, a8, a9, a10, a11⟩ := a
  obtain ⟨b1, b2, b3, b4, b5, b6, b7, b8, b9, b10, b11⟩ := b
  simp only [gMq, Bool.and_eq_true, Nat.beq_eq] at h
  obtain ⟨h1, h2, h3, h4, h5, h6, h7, h8, h9, h10, h11⟩ := h
  rw [gBq_eq h1, gBq_eq h2, gBq_eq h3, h4, h5, gPq_eq h6, gHq_eq h7, h8, h9, h10, h11]
theorem gChk_ok {l : gScr} {m m' : gMu} (h : gChk l m m' = true) : xRun l (dM m) = some (dM m') := by
  unfold gChk at h
  cases e : gRun l m with
  | none => rw [e] at h; cases h
  | some x =>
    rw [e] at h
    have hx : x = m' := gMq_eq h
    rw [hx] at e
    exact s_run e
