/-! what the grid says, out of tables -/
def gTa : Nat := 1552496453755598415937188090477611693757282467874960414882840357634170621722528705044438783017304061115032976088976569478267207370757971893136114181386567934120691488575780997159093945733569427888485845588987259317393675880843247615
def gTb : Nat := 13953180812904460109064525001587250045871033749474580093797205525392167976382007642725769969970966619589111793154656031231841432017687910028930031842696895623264569257974052428622148528512968054600237662823893007134761263319881268291805529266062834369097466791570383567272907726935948644762463369208944105948793615181154979538826956031068912659033789635654659854567350742437667268904136002818507749190714133776893199814850580308529153768046704064490862953715397300925008935638350223106599761563305697041291271269520278299974809711200626012510203259388419331043415675160560315569674859567318434423082680308535631352163633547640076070916378375634600813360964227469306530084205674957534484215537713087800878778509483002622894175523177878044786440865789272053519205077027996201557773234656462987692340679971855442883213585732406406738161132873062128756315071100582053486174561561042017859549856262327529077245830265906902622663963476355673710774421332222401207365688646822420792642655493094134407674715011747266001685616705771461556479547036776525575891938923119688493140005738180814555011136943364275508822777306568773224964337269915239597076945833069338561877909661909805534571831832002704825501895478636577242879682256081193835450665086632454602796341374819041563353440550774837655029176539913038628201853306187327005742130541561058340520415599835830259476978277124895983702082916781588735
def gTd : Nat := 215347412934897584966019417155236661162336991960758686619707639256342361615827365845884049417011928387827056007989002887709284881210843871377812882980420521946261488047377315097367319964246547541837641240649542150894275972017041374657790117100866906750784476463459334330748743324317020576152363129195071242815760585017239629366815562798623753406400045333015012745867045230067222648674071077900565382756905655229732113507457963808116523868703035243412011598080608124343158615994600439896106307035906509852450221554344181133434311805716204328269503549577359258210288265313309858309976950844604483802984080504312703169075748631808801648525277278347284796181521678666298086413078048200945100247711430667133521507302028776022409306324094696586527773217756086666782982799877300151745819577692514252874308079251926269282580212596003869628531847884239081520956271528908729339589489377580984137232541286324885189509742145294203864229543045981839903284975198273235864688776524232451449891915059794669717256101773777428606711062238894599684300862959967985146164918276765106432439347320202701460263456198453363883820835691567242100651552875325599673644763794627361344151324114164467793631146941944042580240578453886883755954937399350524389849465876321268321276768191532945396616567772012764061111225248022950188692478427276964844857654014736036883052798681306439531035623341652513671615518736640
def gtv (T i : Nat) : Nat := Nat.mod (Nat.shiftRight T (Nat.mul 8 i)) 256
def gtm (v : Nat) : Nat := bif Nat.beq v 255 then 4294967295 else v
def g_X5_segmentAt (p0 p1 : Nat) : Option Nat := bif Nat.ble 24 p0 then none else bif Nat.ble 4 p1 then none else some (gtm (gtv gTa (Nat.add (Nat.mul 4 p0) p1)))
def g_X5_segmentBetween (p0 p1 : Nat) : Option Nat := bif Nat.ble 24 p0 then none else bif Nat.ble 24 p1 then none else some (gtm (gtv gTb (Nat.add (Nat.mul 24 p0) p1)))
def g_X5_distanceBetween (p0 p1 : Nat) : Option Nat := bif Nat.ble 24 p0 then none else bif Nat.ble 24 p1 then none else some (gtv gTd (Nat.add (Nat.mul 24 p0) p1))
set_option maxRecDepth 100000 in
theorem gTa_ok : ∀ a, a < 24 → ∀ s, s < 4 → f_X5_segmentAt (nI a) (nI s) = some (nI (gtm (gtv gTa (Nat.add (Nat.mul 4 a) s)))) := by decide +kernel
set_option maxRecDepth 100000 in
theorem gTb_ok : ∀ p, p < 24 → ∀ q, q < 24 → f_X5_segmentBetween (nI p) (nI q) = some (nI (gtm (gtv gTb (Nat.add (Nat.mul 24 p) q)))) := by decide +kernel
set_option maxRecDepth 100000 in
theorem gTd_ok : ∀ p, p < 24 → ∀ q, q < 24 → f_X5_distanceBetween (nI p) (nI q) = some (nI (gtv gTd (Nat.add (Nat.mul 24 p) q))) := by decide +kernel
theorem s_X5_segmentAt {p0 p1 : Nat} {X0 X1 : Int32} {r0 : Nat} (h : g_X5_segmentAt p0 p1 = some r0) (e0 : X0 = nI p0) (e1 : X1 = nI p1) : f_X5_segmentAt X0 X1 = some (nI r0) := by
  subst e0 e1
  unfold g_X5_segmentAt at h
  obtain ⟨w1, h⟩ := g_gd h
  obtain ⟨w2, h⟩ := g_gd h
  cases h
  exact gTa_ok p0 w1 p1 w2
theorem s_X5_segmentBetween {p0 p1 : Nat} {X0 X1 : Int32} {r0 : Nat} (h : g_X5_segmentBetween p0 p1 = some r0) (e0 : X0 = nI p0) (e1 : X1 = nI p1) : f_X5_segmentBetween X0 X1 = some (nI r0) := by
  subst e0 e1
  unfold g_X5_segmentBetween at h
  obtain ⟨w1, h⟩ := g_gd h
  obtain ⟨w2, h⟩ := g_gd h
  cases h
  exact gTb_ok p0 w1 p1 w2
theorem s_X5_distanceBetween {p0 p1 : Nat} {X0 X1 : Int32} {r0 : Nat} (h : g_X5_distanceBetween p0 p1 = some r0) (e0 : X0 = nI p0) (e1 : X1 = nI p1) : f_X5_distanceBetween X0 X1 = some (nI r0) := by
  subst e0 e1
  unfold g_X5_distanceBetween at h
  obtain ⟨w1, h⟩ := g_gd h
  obtain ⟨w2, h⟩ := g_gd h
  cases h
  exact gTd_ok p0 w1 p1 w2

def g_X0_copyFrom (T : Nat) (S : Nat) (L : Nat) (J : Nat) (E : Nat) (cp : Nat) (su : Nat) (oT : Nat) (oS : Nat) (oL : Nat) (oJ : Nat) (oE : Nat) (ocp : Nat) (osu : Nat) : Option (Nat × Nat × Nat × Nat × Nat × Nat × Nat) :=
  (gr_c oT 24 0 T 24 0 24).bind fun T1 =>
  (gr_c oS 72 0 S 72 0 72).bind fun S3 =>
  (gr_c oL 72 0 L 72 0 72).bind fun L5 =>
  (gr_c oJ 1728 0 J 1728 0 1728).bind fun J7 =>
  (gr_c oE 48 0 E 48 0 48).bind fun E9 =>
  some (T1, S3, L5, J7, E9, ocp, osu)
theorem s_X0_copyFrom {T : Nat} {S : Nat} {L : Nat} {J : Nat} {E : Nat} {cp : Nat} {su : Nat} {oT : Nat} {oS : Nat} {oL : Nat} {oJ : Nat} {oE : Nat} {ocp : Nat} {osu : Nat} {XT : Nat → Int32} {XS : Nat → Int32} {XL : Nat → Int32} {XJ : Nat → Int32} {XE : Nat → Int32} {Xcp : Int32} {Xsu : Int32} {XoT : Nat → Int32} {XoS : Nat → Int32} {XoL : Nat → Int32} {XoJ : Nat → Int32} {XoE : Nat → Int32} {Xocp : Int32} {Xosu : Int32} {r0 : Nat} {r1 : Nat} {r2 : Nat} {r3 : Nat} {r4 : Nat} {r5 : Nat} {r6 : Nat} (h : g_X0_copyFrom T S L J E cp su oT oS oL oJ oE ocp osu = some (r0, r1, r2, r3, r4, r5, r6)) (eT : XT = dA T) (eS : XS = dA S) (eL : XL = dA L) (eJ : XJ = dA J) (eE : XE = dA E) (ecp : Xcp = nI cp) (esu : Xsu = nI su) (eoT : XoT = dA oT) (eoS : XoS = dA oS) (eoL : XoL = dA oL) (eoJ : XoJ = dA oJ) (eoE : XoE = dA oE) (eocp : Xocp = nI ocp) (eosu : Xosu = nI osu) : f_X0_copyFrom XT XS XL XJ XE Xcp Xsu XoT XoS XoL XoJ XoE Xocp Xosu = some (dA r0, dA r1, dA r2, dA r3, dA r4, nI r5, nI r6) := by
  subst eT eS eL eJ eE ecp esu eoT eoS eoL eoJ eoE eocp eosu
  unfold g_X0_copyFrom at h
  unfold f_X0_copyFrom
  obtain ⟨T1, e5, h⟩ := ob_i h
  refine ob_s (sr_c e5 rfl rfl rfl rfl) ?_
  obtain ⟨S3, e4, h⟩ := ob_i h
  refine ob_s (sr_c e4 rfl rfl rfl rfl) ?_
  obtain ⟨L5, e3, h⟩ := ob_i h
  refine ob_s (sr_c e3 rfl rfl rfl rfl) ?_
  obtain ⟨J7, e2, h⟩ := ob_i h
  refine ob_s (sr_c e2 rfl rfl rfl rfl) ?_
  obtain ⟨E9, e1, h⟩ := ob_i h
  refine ob_s (sr_c e1 rfl rfl rfl rfl) ?_
  have w0 := Option.some.inj h
  obtain ⟨q0, w1⟩ := Prod.mk.inj w0
  obtain ⟨q1, w2⟩ := Prod.mk.inj w1
  obtain ⟨q2, w3⟩ := Prod.mk.inj w2
  obtain ⟨q3, w4⟩ := Prod.mk.inj w3
  obtain ⟨q4, w5⟩ := Prod.mk.inj w4
  obtain ⟨q5, w6⟩ := Prod.mk.inj w5
  subst q0
  subst q1
  subst q2
  subst q3
  subst q4
  subst q5
  subst w6
  exact congrArg some (tup7 rfl rfl rfl rfl rfl rfl rfl)
def g_X5_isPlace (p0 : Nat) : Option (Nat) :=
  bif glt p0 0 then
    some 0
  else
    bif gle 24 p0 then
      some 0
    else
      some 1
theorem s_X5_isPlace {p0 : Nat} {Xp0 : Int32} {r0 : Nat} (h : g_X5_isPlace p0 = some r0) (ep0 : Xp0 = nI p0) : f_X5_isPlace Xp0 = some (nI r0) := by
  subst ep0
  unfold g_X5_isPlace at h
  unfold f_X5_isPlace
  rcases g_if h with ⟨c2, h⟩ | ⟨c2, h⟩
  · refine (if_pos (slt_t rfl rfl c2)).trans ?_
    have w0 := Option.some.inj h
    subst w0
    exact congrArg some rfl
  · refine (if_neg (slt_f rfl rfl c2)).trans ?_
    rcases g_if h with ⟨c1, h⟩ | ⟨c1, h⟩
    · refine (if_pos (sle_t rfl rfl c1)).trans ?_
      have w0 := Option.some.inj h
      subst w0
      exact congrArg some rfl
    · refine (if_neg (sle_f rfl rfl c1)).trans ?_
      have w0 := Option.some.inj h
      subst w0
      exact congrArg some rfl
def g_X0_hasCell (T : Nat) (p1 : Nat) : Option (Nat) :=
  (g_X5_isPlace p1).bind fun v1 =>
  bif geq v1 0 then
    some 0
  else
    (gr_d T 24 p1).bind fun v4 =>
    bif geq v4 4294967295 then
      some 0
    else
      some 1
theorem s_X0_hasCell {T : Nat} {p1 : Nat} {XT : Nat → Int32} {Xp1 : Int32} {r0 : Nat} (h : g_X0_hasCell T p1 = some r0) (eT : XT = dA T) (ep1 : Xp1 = nI p1) : f_X0_hasCell XT Xp1 = some (nI r0) := by
  subst eT ep1
  unfold g_X0_hasCell at h
  unfold f_X0_hasCell
  obtain ⟨v1, e4, h⟩ := ob_i h
  refine ob_s (s_X5_isPlace e4 rfl) ?_
  rcases g_if h with ⟨c3, h⟩ | ⟨c3, h⟩
  · refine (if_pos (seq_t rfl rfl c3)).trans ?_
    have w0 := Option.some.inj h
    subst w0
    exact congrArg some rfl
  · refine (if_neg (seq_f rfl rfl c3)).trans ?_
    obtain ⟨v4, e2, h⟩ := ob_i h
    refine ob_s (sr_d e2 (by decide) rfl rfl) ?_
    rcases g_if h with ⟨c1, h⟩ | ⟨c1, h⟩
    · refine (if_pos (seq_t rfl n_m1 c1)).trans ?_
      have w0 := Option.some.inj h
      subst w0
      exact congrArg some rfl
    · refine (if_neg (seq_f rfl n_m1 c1)).trans ?_
      have w0 := Option.some.inj h
      subst w0
      exact congrArg some rfl
def g_X0_tableOf (T : Nat) (p1 : Nat) : Option (Nat) :=
  (g_X5_isPlace p1).bind fun v1 =>
  bif geq v1 0 then
    some 4294967295
  else
    (gr_d T 24 p1).bind fun v4 =>
    some v4
theorem s_X0_tableOf {T : Nat} {p1 : Nat} {XT : Nat → Int32} {Xp1 : Int32} {r0 : Nat} (h : g_X0_tableOf T p1 = some r0) (eT : XT = dA T) (ep1 : Xp1 = nI p1) : f_X0_tableOf XT Xp1 = some (nI r0) := by
  subst eT ep1
  unfold g_X0_tableOf at h
  unfold f_X0_tableOf
  obtain ⟨v1, e3, h⟩ := ob_i h
  refine ob_s (s_X5_isPlace e3 rfl) ?_
  rcases g_if h with ⟨c2, h⟩ | ⟨c2, h⟩
  · refine (if_pos (seq_t rfl rfl c2)).trans ?_
    have w0 := Option.some.inj h
    subst w0
    exact congrArg some n_m1
  · refine (if_neg (seq_f rfl rfl c2)).trans ?_
    obtain ⟨v4, e1, h⟩ := ob_i h
    refine ob_s (sr_d e1 (by decide) rfl rfl) ?_
    have w0 := Option.some.inj h
    subst w0
    exact congrArg some rfl
def g_X0_changeTable (T : Nat) (p1 : Nat) (p2 : Nat) : Option (Nat) :=
  (g_X5_isPlace p1).bind fun v1 =>
  bif geq v1 0 then
    some T
  else
    (gr_w T 24 p1 p2).bind fun T5 =>
    some T5
theorem s_X0_changeTable {T : Nat} {p1 : Nat} {p2 : Nat} {XT : Nat → Int32} {Xp1 : Int32} {Xp2 : Int32} {r0 : Nat} (h : g_X0_changeTable T p1 p2 = some r0) (eT : XT = dA T) (ep1 : Xp1 = nI p1) (ep2 : Xp2 = nI p2) : f_X0_changeTable XT Xp1 Xp2 = some (dA r0) := by
  subst eT ep1 ep2
  unfold g_X0_changeTable at h
  unfold f_X0_changeTable
  obtain ⟨v1, e3, h⟩ := ob_i h
  refine ob_s (s_X5_isPlace e3 rfl) ?_
  rcases g_if h with ⟨c2, h⟩ | ⟨c2, h⟩
  · refine (if_pos (seq_t rfl rfl c2)).trans ?_
    have w0 := Option.some.inj h
    subst w0
    exact congrArg some rfl
  · refine (if_neg (seq_f rfl rfl c2)).trans ?_
    obtain ⟨T5, e1, h⟩ := ob_i h
    refine ob_s (sr_w e1 (by decide) rfl rfl rfl) ?_
    have w0 := Option.some.inj h
    subst w0
    exact congrArg some rfl
def g_X5_isWire (p0 : Nat) : Option (Nat) :=
  bif glt p0 0 then
    some 0
  else
    bif gle 72 p0 then
      some 0
    else
      some 1
theorem s_X5_isWire {p0 : Nat} {Xp0 : Int32} {r0 : Nat} (h : g_X5_isWire p0 = some r0) (ep0 : Xp0 = nI p0) : f_X5_isWire Xp0 = some (nI r0) := by
  subst ep0
  unfold g_X5_isWire at h
  unfold f_X5_isWire
  rcases g_if h with ⟨c2, h⟩ | ⟨c2, h⟩
  · refine (if_pos (slt_t rfl rfl c2)).trans ?_
    have w0 := Option.some.inj h
    subst w0
    exact congrArg some rfl
  · refine (if_neg (slt_f rfl rfl c2)).trans ?_
    rcases g_if h with ⟨c1, h⟩ | ⟨c1, h⟩
    · refine (if_pos (sle_t rfl rfl c1)).trans ?_
      have w0 := Option.some.inj h
      subst w0
      exact congrArg some rfl
    · refine (if_neg (sle_f rfl rfl c1)).trans ?_
      have w0 := Option.some.inj h
      subst w0
      exact congrArg some rfl
def g_X0_sourceOf (S : Nat) (p1 : Nat) : Option (Nat) :=
  (g_X5_isWire p1).bind fun v1 =>
  bif geq v1 0 then
    some 32
  else
    (gr_d S 72 p1).bind fun v4 =>
    some v4
theorem s_X0_sourceOf {S : Nat} {p1 : Nat} {XS : Nat → Int32} {Xp1 : Int32} {r0 : Nat} (h : g_X0_sourceOf S p1 = some r0) (eS : XS = dA S) (ep1 : Xp1 = nI p1) : f_X0_sourceOf XS Xp1 = some (nI r0) := by
  subst eS ep1
  unfold g_X0_sourceOf at h
  unfold f_X0_sourceOf
  obtain ⟨v1, e3, h⟩ := ob_i h
  refine ob_s (s_X5_isWire e3 rfl) ?_
  rcases g_if h with ⟨c2, h⟩ | ⟨c2, h⟩
  · refine (if_pos (seq_t rfl rfl c2)).trans ?_
    have w0 := Option.some.inj h
    subst w0
    exact congrArg some rfl
  · refine (if_neg (seq_f rfl rfl c2)).trans ?_
    obtain ⟨v4, e1, h⟩ := ob_i h
    refine ob_s (sr_d e1 (by decide) rfl rfl) ?_
    have w0 := Option.some.inj h
    subst w0
    exact congrArg some rfl
def g_X0_changeSource (S : Nat) (p1 : Nat) (p2 : Nat) : Option (Nat) :=
  (g_X5_isWire p1).bind fun v1 =>
  bif geq v1 0 then
    some S
  else
    (gr_w S 72 p1 p2).bind fun S5 =>
    some S5
theorem s_X0_changeSource {S : Nat} {p1 : Nat} {p2 : Nat} {XS : Nat → Int32} {Xp1 : Int32} {Xp2 : Int32} {r0 : Nat} (h : g_X0_changeSource S p1 p2 = some r0) (eS : XS = dA S) (ep1 : Xp1 = nI p1) (ep2 : Xp2 = nI p2) : f_X0_changeSource XS Xp1 Xp2 = some (dA r0) := by
  subst eS ep1 ep2
  unfold g_X0_changeSource at h
  unfold f_X0_changeSource
  obtain ⟨v1, e3, h⟩ := ob_i h
  refine ob_s (s_X5_isWire e3 rfl) ?_
  rcases g_if h with ⟨c2, h⟩ | ⟨c2, h⟩
  · refine (if_pos (seq_t rfl rfl c2)).trans ?_
    have w0 := Option.some.inj h
    subst w0
    exact congrArg some rfl
  · refine (if_neg (seq_f rfl rfl c2)).trans ?_
    obtain ⟨S5, e1, h⟩ := ob_i h
    refine ob_s (sr_w e1 (by decide) rfl rfl rfl) ?_
    have w0 := Option.some.inj h
    subst w0
    exact congrArg some rfl
def g_X0_isSource (T : Nat) (p1 : Nat) : Option (Nat) :=
  (g_X0_hasCell T p1).bind fun v1 =>
  bif geq v1 0 then
    bif glt p1 24 then
      some 0
    else
      bif glt 33 p1 then
        some 0
      else
        some 1
  else
    some 1
theorem s_X0_isSource {T : Nat} {p1 : Nat} {XT : Nat → Int32} {Xp1 : Int32} {r0 : Nat} (h : g_X0_isSource T p1 = some r0) (eT : XT = dA T) (ep1 : Xp1 = nI p1) : f_X0_isSource XT Xp1 = some (nI r0) := by
  subst eT ep1
  unfold g_X0_isSource at h
  unfold f_X0_isSource
  obtain ⟨v1, e4, h⟩ := ob_i h
  refine ob_s (s_X0_hasCell e4 rfl rfl) ?_
  rcases g_if h with ⟨c3, h⟩ | ⟨c3, h⟩
  · refine (if_pos (seq_t rfl rfl c3)).trans ?_
    rcases g_if h with ⟨c2, h⟩ | ⟨c2, h⟩
    · refine (if_pos (slt_t rfl rfl c2)).trans ?_
      have w0 := Option.some.inj h
      subst w0
      exact congrArg some rfl
    · refine (if_neg (slt_f rfl rfl c2)).trans ?_
      rcases g_if h with ⟨c1, h⟩ | ⟨c1, h⟩
      · refine (if_pos (slt_t rfl rfl c1)).trans ?_
        have w0 := Option.some.inj h
        subst w0
        exact congrArg some rfl
      · refine (if_neg (slt_f rfl rfl c1)).trans ?_
        have w0 := Option.some.inj h
        subst w0
        exact congrArg some rfl
  · refine (if_neg (seq_f rfl rfl c3)).trans ?_
    have w0 := Option.some.inj h
    subst w0
    exact congrArg some rfl
def g_X0_hasAllSources_2 (T : Nat) (S : Nat) (k : Option (Nat)) : Nat → Nat → Option (Nat)
  | 0, _ => none
  | n + 1, x1_2 =>
    bif gle 72 x1_2 then
      k
    else
      (gr_d S 72 x1_2).bind fun v2 =>
      (g_X0_isSource T v2).bind fun v4 =>
      bif geq v4 0 then
        some 0
      else
        g_X0_hasAllSources_2 T S k n (ga x1_2 1)
theorem s_X0_hasAllSources_2 {T : Nat} {S : Nat} {XT : Nat → Int32} {XS : Nat → Int32} {k : Option (Nat)} {Xk : Option (Int32)} {r0 : Nat} (eT : XT = dA T) (eS : XS = dA S) (hk : k = some r0 → Xk = some (nI r0)) : ∀ (n : Nat) (Xx1_2 : Int32) (x1_2 : Nat), Xx1_2 = nI x1_2 → g_X0_hasAllSources_2 T S k n x1_2 = some r0 → f_X0_hasAllSources_2 XT XS Xk n Xx1_2 = some (nI r0) := by
  subst eT eS
  intro n
  induction n with
  | zero => intro Xx1_2 x1_2 ex1_2 h; unfold g_X0_hasAllSources_2 at h; cases h
  | succ n ih =>
    intro Xx1_2 x1_2 ex1_2 h
    subst ex1_2
    unfold g_X0_hasAllSources_2 at h
    unfold f_X0_hasAllSources_2
    rcases g_if h with ⟨c4, h⟩ | ⟨c4, h⟩
    · refine (if_pos (sle_t rfl rfl c4)).trans ?_
      exact hk h
    · refine (if_neg (sle_f rfl rfl c4)).trans ?_
      obtain ⟨v2, e3, h⟩ := ob_i h
      refine ob_s (sr_d e3 (by decide) rfl rfl) ?_
      obtain ⟨v4, e2, h⟩ := ob_i h
      refine ob_s (s_X0_isSource e2 rfl rfl) ?_
      rcases g_if h with ⟨c1, h⟩ | ⟨c1, h⟩
      · refine (if_pos (seq_t rfl rfl c1)).trans ?_
        have w0 := Option.some.inj h
        subst w0
        exact congrArg some rfl
      · refine (if_neg (seq_f rfl rfl c1)).trans ?_
        exact ih _ _ (s_add rfl rfl) h
def g_X0_hasAllSources (T : Nat) (S : Nat) : Option (Nat) :=
  g_X0_hasAllSources_2 T S (
    some 1) xFu 0
theorem s_X0_hasAllSources {T : Nat} {S : Nat} {XT : Nat → Int32} {XS : Nat → Int32} {r0 : Nat} (h : g_X0_hasAllSources T S = some r0) (eT : XT = dA T) (eS : XS = dA S) : f_X0_hasAllSources XT XS = some (nI r0) := by
  subst eT eS
  unfold g_X0_hasAllSources at h
  unfold f_X0_hasAllSources
  refine s_X0_hasAllSources_2 rfl rfl (fun h => ?_) _ _ _ rfl h
  have w0 := Option.some.inj h
  subst w0
  exact congrArg some rfl
def g_X0_lengthOf (L : Nat) (p1 : Nat) : Option (Nat) :=
  (g_X5_isWire p1).bind fun v1 =>
  bif geq v1 0 then
    some 0
  else
    (gr_d L 72 p1).bind fun v4 =>
    some v4
theorem s_X0_lengthOf {L : Nat} {p1 : Nat} {XL : Nat → Int32} {Xp1 : Int32} {r0 : Nat} (h : g_X0_lengthOf L p1 = some r0) (eL : XL = dA L) (ep1 : Xp1 = nI p1) : f_X0_lengthOf XL Xp1 = some (nI r0) := by
  subst eL ep1
  unfold g_X0_lengthOf at h
  unfold f_X0_lengthOf
  obtain ⟨v1, e3, h⟩ := ob_i h
  refine ob_s (s_X5_isWire e3 rfl) ?_
  rcases g_if h with ⟨c2, h⟩ | ⟨c2, h⟩
  · refine (if_pos (seq_t rfl rfl c2)).trans ?_
    have w0 := Option.some.inj h
    subst w0
    exact congrArg some rfl
  · refine (if_neg (seq_f rfl rfl c2)).trans ?_
    obtain ⟨v4, e1, h⟩ := ob_i h
    refine ob_s (sr_d e1 (by decide) rfl rfl) ?_
    have w0 := Option.some.inj h
    subst w0
    exact congrArg some rfl
def g_X5_junctionOf (p0 : Nat) : Option (Nat) :=
  bif glt p0 0 then
    some 4294967295
  else
    bif glt p0 32 then
      bif gle 24 p0 then
        bif gle 28 p0 then
          some (gs (ga (gm (gs p0 28) 6) 6) 1)
        else
          some (gm (gs p0 24) 6)
      else
        some p0
    else
      some 4294967295
theorem s_X5_junctionOf {p0 : Nat} {Xp0 : Int32} {r0 : Nat} (h : g_X5_junctionOf p0 = some r0) (ep0 : Xp0 = nI p0) : f_X5_junctionOf Xp0 = some (nI r0) := by
  subst ep0
  unfold g_X5_junctionOf at h
  unfold f_X5_junctionOf
  rcases g_if h with ⟨c4, h⟩ | ⟨c4, h⟩
  · refine (if_pos (slt_t rfl rfl c4)).trans ?_
    have w0 := Option.some.inj h
    subst w0
    exact congrArg some n_m1
  · refine (if_neg (slt_f rfl rfl c4)).trans ?_
    rcases g_if h with ⟨c3, h⟩ | ⟨c3, h⟩
    · refine (if_pos (slt_t rfl rfl c3)).trans ?_
      rcases g_if h with ⟨c2, h⟩ | ⟨c2, h⟩
      · refine (if_pos (sle_t rfl rfl c2)).trans ?_
        rcases g_if h with ⟨c1, h⟩ | ⟨c1, h⟩
        · refine (if_pos (sle_t rfl rfl c1)).trans ?_
          have w0 := Option.some.inj h
          subst w0
          exact congrArg some (s_sub (s_add (s_mul (s_sub rfl rfl) rfl) rfl) rfl)
        · refine (if_neg (sle_f rfl rfl c1)).trans ?_
          have w0 := Option.some.inj h
          subst w0
          exact congrArg some (s_mul (s_sub rfl rfl) rfl)
      · refine (if_neg (sle_f rfl rfl c2)).trans ?_
        have w0 := Option.some.inj h
        subst w0
        exact congrArg some rfl
    · refine (if_neg (slt_f rfl rfl c3)).trans ?_
      have w0 := Option.some.inj h
      subst w0
      exact congrArg some n_m1
def g_X0_junctionAt (S : Nat) (L : Nat) (J : Nat) (p1 : Nat) (p2 : Nat) : Option (Nat) :=
  (g_X0_sourceOf S p1).bind fun v1 =>
  (g_X5_junctionOf v1).bind fun v3 =>
  bif geq v3 4294967295 then
    some 4294967295
  else
    bif glt p2 0 then
      some 4294967295
    else
      (g_X0_lengthOf L p1).bind fun v11 =>
      bif glt v11 p2 then
        some 4294967295
      else
        bif glt (ga (gm p1 24) p2) 0 then
          some 4294967295
        else
          bif gle 1728 (ga (gm p1 24) p2) then
            some 4294967295
          else
            (gr_d J 1728 (ga (gm p1 24) p2)).bind fun v19 =>
            some v19
theorem s_X0_junctionAt {S : Nat} {L : Nat} {J : Nat} {p1 : Nat} {p2 : Nat} {XS : Nat → Int32} {XL : Nat → Int32} {XJ : Nat → Int32} {Xp1 : Int32} {Xp2 : Int32} {r0 : Nat} (h : g_X0_junctionAt S L J p1 p2 = some r0) (eS : XS = dA S) (eL : XL = dA L) (eJ : XJ = dA J) (ep1 : Xp1 = nI p1) (ep2 : Xp2 = nI p2) : f_X0_junctionAt XS XL XJ Xp1 Xp2 = some (nI r0) := by
  subst eS eL eJ ep1 ep2
  unfold g_X0_junctionAt at h
  unfold f_X0_junctionAt
  obtain ⟨v1, e9, h⟩ := ob_i h
  refine ob_s (s_X0_sourceOf e9 rfl rfl) ?_
  obtain ⟨v3, e8, h⟩ := ob_i h
  refine ob_s (s_X5_junctionOf e8 rfl) ?_
  rcases g_if h with ⟨c7, h⟩ | ⟨c7, h⟩
  · refine (if_pos (seq_t rfl n_m1 c7)).trans ?_
    have w0 := Option.some.inj h
    subst w0
    exact congrArg some n_m1
  · refine (if_neg (seq_f rfl n_m1 c7)).trans ?_
    rcases g_if h with ⟨c6, h⟩ | ⟨c6, h⟩
    · refine (if_pos (slt_t rfl rfl c6)).trans ?_
      have w0 := Option.some.inj h
      subst w0
      exact congrArg some n_m1
    · refine (if_neg (slt_f rfl rfl c6)).trans ?_
      obtain ⟨v11, e5, h⟩ := ob_i h
      refine ob_s (s_X0_lengthOf e5 rfl rfl) ?_
      rcases g_if h with ⟨c4, h⟩ | ⟨c4, h⟩
      · refine (if_pos (slt_t rfl rfl c4)).trans ?_
        have w0 := Option.some.inj h
        subst w0
        exact congrArg some n_m1
      · refine (if_neg (slt_f rfl rfl c4)).trans ?_
        rcases g_if h with ⟨c3, h⟩ | ⟨c3, h⟩
        · refine (if_pos (slt_t (s_add (s_mul rfl rfl) rfl) rfl c3)).trans ?_
          have w0 := Option.some.inj h
          subst w0
          exact congrArg some n_m1
        · refine (if_neg (slt_f (s_add (s_mul rfl rfl) rfl) rfl c3)).trans ?_
          rcases g_if h with ⟨c2, h⟩ | ⟨c2, h⟩
          · refine (if_pos (sle_t rfl (s_add (s_mul rfl rfl) rfl) c2)).trans ?_
            have w0 := Option.some.inj h
            subst w0
            exact congrArg some n_m1
          · refine (if_neg (sle_f rfl (s_add (s_mul rfl rfl) rfl) c2)).trans ?_
            obtain ⟨v19, e1, h⟩ := ob_i h
            refine ob_s (sr_d e1 (by decide) rfl (s_add (s_mul rfl rfl) rfl)) ?_
            have w0 := Option.some.inj h
            subst w0
            exact congrArg some rfl
def g_X0_removeWire_6 (S : Nat) (L_6 : Nat) (J : Nat) (x1_6 : Nat) (k : Nat → Option (Nat × Nat)) : Nat → Nat → Nat → Option (Nat × Nat)
  | 0, _, _ => none
  | n + 1, x2_6, E_6 =>
    bif gle x2_6 0 then
      k E_6
    else
      (g_X0_junctionAt S L_6 J x1_6 (gs x2_6 1)).bind fun v4 =>
      (g_X0_junctionAt S L_6 J x1_6 x2_6).bind fun v6 =>
      (g_X5_segmentBetween v4 v6).bind fun v8 =>
      bif geq v8 4294967295 then
        g_X0_removeWire_6 S L_6 J x1_6 k n (ga x2_6 4294967295) E_6
      else
        (gr_d E_6 48 v8).bind fun v11 =>
        (gr_w E_6 48 v8 (gs v11 1)).bind fun E14 =>
        g_X0_removeWire_6 S L_6 J x1_6 k n (ga x2_6 4294967295) E14
theorem s_X0_removeWire_6 {S : Nat} {L_6 : Nat} {J : Nat} {x1_6 : Nat} {XS : Nat → Int32} {XL_6 : Nat → Int32} {XJ : Nat → Int32} {Xx1_6 : Int32} {k : Nat → Option (Nat × Nat)} {Xk : (Nat → Int32) → Option ((Nat → Int32) × (Nat → Int32))} {r0 : Nat} {r1 : Nat} (eS : XS = dA S) (eL_6 : XL_6 = dA L_6) (eJ : XJ = dA J) (ex1_6 : Xx1_6 = nI x1_6) (hk : ∀ (Xz0 : Nat → Int32) (z0 : Nat), Xz0 = dA z0 → k z0 = some (r0, r1) → Xk Xz0 = some (dA r0, dA r1)) : ∀ (n : Nat) (Xx2_6 : Int32) (x2_6 : Nat), Xx2_6 = nI x2_6 → ∀ (XE_6 : Nat → Int32) (E_6 : Nat), XE_6 = dA E_6 → g_X0_removeWire_6 S L_6 J x1_6 k n x2_6 E_6 = some (r0, r1) → f_X0_removeWire_6 XS XL_6 XJ Xx1_6 Xk n Xx2_6 XE_6 = some (dA r0, dA r1) := by
  subst eS eL_6 eJ ex1_6
  intro n
  induction n with
  | zero => intro Xx2_6 x2_6 ex2_6 XE_6 E_6 eE_6 h; unfold g_X0_removeWire_6 at h; cases h
  | succ n ih =>
    intro Xx2_6 x2_6 ex2_6 XE_6 E_6 eE_6 h
    subst ex2_6 eE_6
    unfold g_X0_removeWire_6 at h
    unfold f_X0_removeWire_6
    rcases g_if h with ⟨c7, h⟩ | ⟨c7, h⟩
    · refine (if_pos (sle_t rfl rfl c7)).trans ?_
      exact hk _ _ rfl h
    · refine (if_neg (sle_f rfl rfl c7)).trans ?_
      obtain ⟨v4, e6, h⟩ := ob_i h
      refine ob_s (s_X0_junctionAt e6 rfl rfl rfl rfl (s_sub rfl rfl)) ?_
      obtain ⟨v6, e5, h⟩ := ob_i h
      refine ob_s (s_X0_junctionAt e5 rfl rfl rfl rfl rfl) ?_
      obtain ⟨v8, e4, h⟩ := ob_i h
      refine ob_s (s_X5_segmentBetween e4 rfl rfl) ?_
      rcases g_if h with ⟨c3, h⟩ | ⟨c3, h⟩
      · refine (if_pos (seq_t rfl n_m1 c3)).trans ?_
        exact ih _ _ (s_add rfl n_m1) _ _ rfl h
      · refine (if_neg (seq_f rfl n_m1 c3)).trans ?_
        obtain ⟨v11, e2, h⟩ := ob_i h
        refine ob_s (sr_d e2 (by decide) rfl rfl) ?_
        obtain ⟨E14, e1, h⟩ := ob_i h
        refine ob_s (sr_w e1 (by decide) rfl rfl (s_sub rfl rfl)) ?_
        exact ih _ _ (s_add rfl n_m1) _ _ rfl h
def g_X0_removeWire (S : Nat) (L : Nat) (J : Nat) (E : Nat) (p1 : Nat) : Option (Nat × Nat) :=
  (g_X0_lengthOf L p1).bind fun v1 =>
  g_X0_removeWire_6 S L J p1 (fun Ez15 =>
    (g_X5_isWire p1).bind fun v16 =>
    bif geq v16 0 then
      some (L, Ez15)
    else
      (gr_w L 72 p1 0).bind fun L20 =>
      some (L20, Ez15)) xFu v1 E
theorem s_X0_removeWire {S : Nat} {L : Nat} {J : Nat} {E : Nat} {p1 : Nat} {XS : Nat → Int32} {XL : Nat → Int32} {XJ : Nat → Int32} {XE : Nat → Int32} {Xp1 : Int32} {r0 : Nat} {r1 : Nat} (h : g_X0_removeWire S L J E p1 = some (r0, r1)) (eS : XS = dA S) (eL : XL = dA L) (eJ : XJ = dA J) (eE : XE = dA E) (ep1 : Xp1 = nI p1) : f_X0_removeWire XS XL XJ XE Xp1 = some (dA r0, dA r1) := by
  subst eS eL eJ eE ep1
  unfold g_X0_removeWire at h
  unfold f_X0_removeWire
  obtain ⟨v1, e4, h⟩ := ob_i h
  refine ob_s (s_X0_lengthOf e4 rfl rfl) ?_
  refine s_X0_removeWire_6 rfl rfl rfl rfl (fun XEz15 Ez15 eEz15 h => ?_) _ _ _ rfl _ _ rfl h
  subst eEz15
  obtain ⟨v16, e3, h⟩ := ob_i h
  refine ob_s (s_X5_isWire e3 rfl) ?_
  rcases g_if h with ⟨c2, h⟩ | ⟨c2, h⟩
  · refine (if_pos (seq_t rfl rfl c2)).trans ?_
    have w0 := Option.some.inj h
    obtain ⟨q0, w1⟩ := Prod.mk.inj w0
    subst q0
    subst w1
    exact congrArg some (tup2 rfl rfl)
  · refine (if_neg (seq_f rfl rfl c2)).trans ?_
    obtain ⟨L20, e1, h⟩ := ob_i h
    refine ob_s (sr_w e1 (by decide) rfl rfl rfl) ?_
    have w0 := Option.some.inj h
    obtain ⟨q0, w1⟩ := Prod.mk.inj w0
    subst q0
    subst w1
    exact congrArg some (tup2 rfl rfl)
def g_X0_removeCell_2 (J : Nat) (x1_2 : Nat) (k : Nat → Nat → Nat → Option (Nat × Nat × Nat × Nat)) : Nat → Nat → Nat → Nat → Nat → Option (Nat × Nat × Nat × Nat)
  | 0, _, _, _, _ => none
  | n + 1, x2_2, S_2, L_2, E_2 =>
    bif gle 3 x2_2 then
      k S_2 L_2 E_2
    else
      (g_X0_removeWire S_2 L_2 J E_2 (ga (gm x1_2 3) x2_2)).bind fun (L2, E3) =>
      (g_X0_changeSource S_2 (ga (gm x1_2 3) x2_2) 32).bind fun S5 =>
      g_X0_removeCell_2 J x1_2 k n (ga x2_2 1) S5 L2 E3
theorem s_X0_removeCell_2 {J : Nat} {x1_2 : Nat} {XJ : Nat → Int32} {Xx1_2 : Int32} {k : Nat → Nat → Nat → Option (Nat × Nat × Nat × Nat)} {Xk : (Nat → Int32) → (Nat → Int32) → (Nat → Int32) → Option ((Nat → Int32) × (Nat → Int32) × (Nat → Int32) × (Nat → Int32))} {r0 : Nat} {r1 : Nat} {r2 : Nat} {r3 : Nat} (eJ : XJ = dA J) (ex1_2 : Xx1_2 = nI x1_2) (hk : ∀ (Xz0 : Nat → Int32) (z0 : Nat), Xz0 = dA z0 → ∀ (Xz1 : Nat → Int32) (z1 : Nat), Xz1 = dA z1 → ∀ (Xz2 : Nat → Int32) (z2 : Nat), Xz2 = dA z2 → k z0 z1 z2 = some (r0, r1, r2, r3) → Xk Xz0 Xz1 Xz2 = some (dA r0, dA r1, dA r2, dA r3)) : ∀ (n : Nat) (Xx2_2 : Int32) (x2_2 : Nat), Xx2_2 = nI x2_2 → ∀ (XS_2 : Nat → Int32) (S_2 : Nat), XS_2 = dA S_2 → ∀ (XL_2 : Nat → Int32) (L_2 : Nat), XL_2 = dA L_2 → ∀ (XE_2 : Nat → Int32) (E_2 : Nat), XE_2 = dA E_2 → g_X0_removeCell_2 J x1_2 k n x2_2 S_2 L_2 E_2 = some (r0, r1, r2, r3) → f_X0_removeCell_2 XJ Xx1_2 Xk n Xx2_2 XS_2 XL_2 XE_2 = some (dA r0, dA r1, dA r2, dA r3) := by
  subst eJ ex1_2
  intro n
  induction n with
  | zero => intro Xx2_2 x2_2 ex2_2 XS_2 S_2 eS_2 XL_2 L_2 eL_2 XE_2 E_2 eE_2 h; unfold g_X0_removeCell_2 at h; cases h
  | succ n ih =>
    intro Xx2_2 x2_2 ex2_2 XS_2 S_2 eS_2 XL_2 L_2 eL_2 XE_2 E_2 eE_2 h
    subst ex2_2 eS_2 eL_2 eE_2
    unfold g_X0_removeCell_2 at h
    unfold f_X0_removeCell_2
    rcases g_if h with ⟨c3, h⟩ | ⟨c3, h⟩
    · refine (if_pos (sle_t rfl rfl c3)).trans ?_
      exact hk _ _ rfl _ _ rfl _ _ rfl h
    · refine (if_neg (sle_f rfl rfl c3)).trans ?_
      obtain ⟨⟨L2, E3⟩, e2, h⟩ := ob_i h
      refine ob_s (s_X0_removeWire e2 rfl rfl rfl rfl (s_add (s_mul rfl rfl) rfl)) ?_
      obtain ⟨S5, e1, h⟩ := ob_i h
      refine ob_s (s_X0_changeSource e1 rfl (s_add (s_mul rfl rfl) rfl) rfl) ?_
      exact ih _ _ (s_add rfl rfl) _ _ rfl _ _ rfl _ _ rfl h
def g_X0_removeCell (T : Nat) (S : Nat) (L : Nat) (J : Nat) (E : Nat) (p1 : Nat) : Option (Nat × Nat × Nat × Nat) :=
  g_X0_removeCell_2 J p1 (fun Sz7 Lz7 Ez7 =>
    (g_X0_changeTable T p1 4294967295).bind fun T8 =>
    some (T8, Sz7, Lz7, Ez7)) xFu 0 S L E
theorem s_X0_removeCell {T : Nat} {S : Nat} {L : Nat} {J : Nat} {E : Nat} {p1 : Nat} {XT : Nat → Int32} {XS : Nat → Int32} {XL : Nat → Int32} {XJ : Nat → Int32} {XE : Nat → Int32} {Xp1 : Int32} {r0 : Nat} {r1 : Nat} {r2 : Nat} {r3 : Nat} (h : g_X0_removeCell T S L J E p1 = some (r0, r1, r2, r3)) (eT : XT = dA T) (eS : XS = dA S) (eL : XL = dA L) (eJ : XJ = dA J) (eE : XE = dA E) (ep1 : Xp1 = nI p1) : f_X0_removeCell XT XS XL XJ XE Xp1 = some (dA r0, dA r1, dA r2, dA r3) := by
  subst eT eS eL eJ eE ep1
  unfold g_X0_removeCell at h
  unfold f_X0_removeCell
  refine s_X0_removeCell_2 rfl rfl (fun XSz7 Sz7 eSz7 XLz7 Lz7 eLz7 XEz7 Ez7 eEz7 h => ?_) _ _ _ rfl _ _ rfl _ _ rfl _ _ rfl h
  subst eSz7 eLz7 eEz7
  obtain ⟨T8, e1, h⟩ := ob_i h
  refine ob_s (s_X0_changeTable e1 rfl rfl n_m1) ?_
  have w0 := Option.some.inj h
  obtain ⟨q0, w1⟩ := Prod.mk.inj w0
  obtain ⟨q1, w2⟩ := Prod.mk.inj w1
  obtain ⟨q2, w3⟩ := Prod.mk.inj w2
  subst q0
  subst q1
  subst q2
  subst w3
  exact congrArg some (tup4 rfl rfl rfl rfl)
def g_J7_fill_53178_5 (N : Nat) (x1_5 : Nat) (x3_5 : Nat) (k : Nat → Option (Nat)) : Nat → Nat → Nat → Option (Nat)
  | 0, _, _ => none
  | n + 1, x2_5, f_5 =>
    bif gle x3_5 x2_5 then
      k f_5
    else
      (gr_w f_5 N x2_5 x1_5).bind fun f3 =>
      g_J7_fill_53178_5 N x1_5 x3_5 k n (ga x2_5 1) f3
theorem s_J7_fill_53178_5 {N : Nat} {x1_5 : Nat} {x3_5 : Nat} {Xx1_5 : Int32} {Xx3_5 : Int32} {k : Nat → Option (Nat)} {Xk : (Nat → Int32) → Option ((Nat → Int32))} {r0 : Nat} (hN : N < 100000) (ex1_5 : Xx1_5 = nI x1_5) (ex3_5 : Xx3_5 = nI x3_5) (hk : ∀ (Xz0 : Nat → Int32) (z0 : Nat), Xz0 = dA z0 → k z0 = some r0 → Xk Xz0 = some (dA r0)) : ∀ (n : Nat) (Xx2_5 : Int32) (x2_5 : Nat), Xx2_5 = nI x2_5 → ∀ (Xf_5 : Nat → Int32) (f_5 : Nat), Xf_5 = dA f_5 → g_J7_fill_53178_5 N x1_5 x3_5 k n x2_5 f_5 = some r0 → f_J7_fill_53178_5 N Xx1_5 Xx3_5 Xk n Xx2_5 Xf_5 = some (dA r0) := by
  subst ex1_5 ex3_5
  intro n
  induction n with
  | zero => intro Xx2_5 x2_5 ex2_5 Xf_5 f_5 ef_5 h; unfold g_J7_fill_53178_5 at h; cases h
  | succ n ih =>
    intro Xx2_5 x2_5 ex2_5 Xf_5 f_5 ef_5 h
    subst ex2_5 ef_5
    unfold g_J7_fill_53178_5 at h
    unfold f_J7_fill_53178_5
    rcases g_if h with ⟨c2, h⟩ | ⟨c2, h⟩
    · refine (if_pos (sle_t rfl rfl c2)).trans ?_
      exact hk _ _ rfl h
    · refine (if_neg (sle_f rfl rfl c2)).trans ?_
      obtain ⟨f3, e1, h⟩ := ob_i h
      refine ob_s (sr_w e1 hN rfl rfl rfl) ?_
      exact ih _ _ (s_add rfl rfl) _ _ rfl h
def g_J7_fill_53178 (N : Nat) (f : Nat) (p1 : Nat) : Option (Nat) :=
  g_J7_fill_53178_5 N p1 N (fun fz4 =>
    some fz4) xFu 0 f
theorem s_J7_fill_53178 {N : Nat} {f : Nat} {p1 : Nat} {Xf : Nat → Int32} {Xp1 : Int32} {r0 : Nat} (hN : N < 100000) (h : g_J7_fill_53178 N f p1 = some r0) (ef : Xf = dA f) (ep1 : Xp1 = nI p1) : f_J7_fill_53178 N Xf Xp1 = some (dA r0) := by
  subst ef ep1
  unfold g_J7_fill_53178 at h
  unfold f_J7_fill_53178
  refine s_J7_fill_53178_5 hN rfl rfl (fun Xfz4 fz4 efz4 h => ?_) _ _ _ rfl _ _ rfl h
  subst efz4
  have w0 := Option.some.inj h
  subst w0
  exact congrArg some rfl
def g_X0_removeAllWires (L : Nat) (E : Nat) : Option (Nat × Nat) :=
  (g_J7_fill_53178 72 L 0).bind fun f1 =>
  (g_J7_fill_53178 48 E 0).bind fun f3 =>
  some (f1, f3)
theorem s_X0_removeAllWires {L : Nat} {E : Nat} {XL : Nat → Int32} {XE : Nat → Int32} {r0 : Nat} {r1 : Nat} (h : g_X0_removeAllWires L E = some (r0, r1)) (eL : XL = dA L) (eE : XE = dA E) : f_X0_removeAllWires XL XE = some (dA r0, dA r1) := by
  subst eL eE
  unfold g_X0_removeAllWires at h
  unfold f_X0_removeAllWires
  obtain ⟨f1, e2, h⟩ := ob_i h
  refine ob_s (s_J7_fill_53178 (by decide) e2 rfl rfl) ?_
  obtain ⟨f3, e1, h⟩ := ob_i h
  refine ob_s (s_J7_fill_53178 (by decide) e1 rfl rfl) ?_
  have w0 := Option.some.inj h
  obtain ⟨q0, w1⟩ := Prod.mk.inj w0
  subst q0
  subst w1
  exact congrArg some (tup2 rfl rfl)
def g_X0_removeAllCells (T : Nat) (S : Nat) (L : Nat) (E : Nat) : Option (Nat × Nat × Nat × Nat) :=
  (g_X0_removeAllWires L E).bind fun (L1, E2) =>
  (g_J7_fill_53178 24 T 4294967295).bind fun f4 =>
  (g_J7_fill_53178 72 S 32).bind fun f6 =>
  some (f4, f6, L1, E2)
theorem s_X0_removeAllCells {T : Nat} {S : Nat} {L : Nat} {E : Nat} {XT : Nat → Int32} {XS : Nat → Int32} {XL : Nat → Int32} {XE : Nat → Int32} {r0 : Nat} {r1 : Nat} {r2 : Nat} {r3 : Nat} (h : g_X0_removeAllCells T S L E = some (r0, r1, r2, r3)) (eT : XT = dA T) (eS : XS = dA S) (eL : XL = dA L) (eE : XE = dA E) : f_X0_removeAllCells XT XS XL XE = some (dA r0, dA r1, dA r2, dA r3) := by
  subst eT eS eL eE
  unfold g_X0_removeAllCells at h
  unfold f_X0_removeAllCells
  obtain ⟨⟨L1, E2⟩, e3, h⟩ := ob_i h
  refine ob_s (s_X0_removeAllWires e3 rfl rfl) ?_
  obtain ⟨f4, e2, h⟩ := ob_i h
  refine ob_s (s_J7_fill_53178 (by decide) e2 rfl n_m1) ?_
  obtain ⟨f6, e1, h⟩ := ob_i h
  refine ob_s (s_J7_fill_53178 (by decide) e1 rfl rfl) ?_
  have w0 := Option.some.inj h
  obtain ⟨q0, w1⟩ := Prod.mk.inj w0
  obtain ⟨q1, w2⟩ := Prod.mk.inj w1
  obtain ⟨q2, w3⟩ := Prod.mk.inj w2
  subst q0
  subst q1
  subst q2
  subst w3
  exact congrArg some (tup4 rfl rfl rfl rfl)
def g_X0_cells_4 (T : Nat) (k : Nat → Option (Nat)) : Nat → Nat → Nat → Option (Nat)
  | 0, _, _ => none
  | n + 1, x1_4, x2_4 =>
    bif gle 24 x2_4 then
      k x1_4
    else
      (g_X0_hasCell T x2_4).bind fun v2 =>
      bif geq v2 0 then
        g_X0_cells_4 T k n (ga x1_4 0) (ga x2_4 1)
      else
        g_X0_cells_4 T k n (ga x1_4 1) (ga x2_4 1)
theorem s_X0_cells_4 {T : Nat} {XT : Nat → Int32} {k : Nat → Option (Nat)} {Xk : Int32 → Option (Int32)} {r0 : Nat} (eT : XT = dA T) (hk : ∀ (Xz0 : Int32) (z0 : Nat), Xz0 = nI z0 → k z0 = some r0 → Xk Xz0 = some (nI r0)) : ∀ (n : Nat) (Xx1_4 : Int32) (x1_4 : Nat), Xx1_4 = nI x1_4 → ∀ (Xx2_4 : Int32) (x2_4 : Nat), Xx2_4 = nI x2_4 → g_X0_cells_4 T k n x1_4 x2_4 = some r0 → f_X0_cells_4 XT Xk n Xx1_4 Xx2_4 = some (nI r0) := by
  subst eT
  intro n
  induction n with
  | zero => intro Xx1_4 x1_4 ex1_4 Xx2_4 x2_4 ex2_4 h; unfold g_X0_cells_4 at h; cases h
  | succ n ih =>
    intro Xx1_4 x1_4 ex1_4 Xx2_4 x2_4 ex2_4 h
    subst ex1_4 ex2_4
    unfold g_X0_cells_4 at h
    unfold f_X0_cells_4
    rcases g_if h with ⟨c3, h⟩ | ⟨c3, h⟩
    · refine (if_pos (sle_t rfl rfl c3)).trans ?_
      exact hk _ _ rfl h
    · refine (if_neg (sle_f rfl rfl c3)).trans ?_
      obtain ⟨v2, e2, h⟩ := ob_i h
      refine ob_s (s_X0_hasCell e2 rfl rfl) ?_
      rcases g_if h with ⟨c1, h⟩ | ⟨c1, h⟩
      · refine (if_pos (seq_t rfl rfl c1)).trans ?_
        exact ih _ _ (s_add rfl rfl) _ _ (s_add rfl rfl) h
      · refine (if_neg (seq_f rfl rfl c1)).trans ?_
        exact ih _ _ (s_add rfl rfl) _ _ (s_add rfl rfl) h
def g_X0_cells (T : Nat) : Option (Nat) :=
  g_X0_cells_4 T (fun x1z5 =>
    some x1z5) xFu 0 0
theorem s_X0_cells {T : Nat} {XT : Nat → Int32} {r0 : Nat} (h : g_X0_cells T = some r0) (eT : XT = dA T) : f_X0_cells XT = some (nI r0) := by
  subst eT
  unfold g_X0_cells at h
  unfold f_X0_cells
  refine s_X0_cells_4 rfl (fun Xx1z5 x1z5 ex1z5 h => ?_) _ _ _ rfl _ _ rfl h
  subst ex1z5
  have w0 := Option.some.inj h
  subst w0
  exact congrArg some rfl
def g_X0_uses_4 (S : Nat) (x1_4 : Nat) (k : Nat → Option (Nat)) : Nat → Nat → Nat → Option (Nat)
  | 0, _, _ => none
  | n + 1, x2_4, x3_4 =>
    bif gle 72 x3_4 then
      k x2_4
    else
      (gr_d S 72 x3_4).bind fun v2 =>
      bif geq v2 x1_4 then
        g_X0_uses_4 S x1_4 k n (ga x2_4 1) (ga x3_4 1)
      else
        g_X0_uses_4 S x1_4 k n (ga x2_4 0) (ga x3_4 1)
theorem s_X0_uses_4 {S : Nat} {x1_4 : Nat} {XS : Nat → Int32} {Xx1_4 : Int32} {k : Nat → Option (Nat)} {Xk : Int32 → Option (Int32)} {r0 : Nat} (eS : XS = dA S) (ex1_4 : Xx1_4 = nI x1_4) (hk : ∀ (Xz0 : Int32) (z0 : Nat), Xz0 = nI z0 → k z0 = some r0 → Xk Xz0 = some (nI r0)) : ∀ (n : Nat) (Xx2_4 : Int32) (x2_4 : Nat), Xx2_4 = nI x2_4 → ∀ (Xx3_4 : Int32) (x3_4 : Nat), Xx3_4 = nI x3_4 → g_X0_uses_4 S x1_4 k n x2_4 x3_4 = some r0 → f_X0_uses_4 XS Xx1_4 Xk n Xx2_4 Xx3_4 = some (nI r0) := by
  subst eS ex1_4
  intro n
  induction n with
  | zero => intro Xx2_4 x2_4 ex2_4 Xx3_4 x3_4 ex3_4 h; unfold g_X0_uses_4 at h; cases h
  | succ n ih =>
    intro Xx2_4 x2_4 ex2_4 Xx3_4 x3_4 ex3_4 h
    subst ex2_4 ex3_4
    unfold g_X0_uses_4 at h
    unfold f_X0_uses_4
    rcases g_if h with ⟨c3, h⟩ | ⟨c3, h⟩
    · refine (if_pos (sle_t rfl rfl c3)).trans ?_
      exact hk _ _ rfl h
    · refine (if_neg (sle_f rfl rfl c3)).trans ?_
      obtain ⟨v2, e2, h⟩ := ob_i h
      refine ob_s (sr_d e2 (by decide) rfl rfl) ?_
      rcases g_if h with ⟨c1, h⟩ | ⟨c1, h⟩
      · refine (if_pos (seq_t rfl rfl c1)).trans ?_
        exact ih _ _ (s_add rfl rfl) _ _ (s_add rfl rfl) h
      · refine (if_neg (seq_f rfl rfl c1)).trans ?_
        exact ih _ _ (s_add rfl rfl) _ _ (s_add rfl rfl) h
def g_X0_uses (S : Nat) (p1 : Nat) : Option (Nat) :=
  g_X0_uses_4 S p1 (fun x2z5 =>
    some x2z5) xFu 0 0
theorem s_X0_uses {S : Nat} {p1 : Nat} {XS : Nat → Int32} {Xp1 : Int32} {r0 : Nat} (h : g_X0_uses S p1 = some r0) (eS : XS = dA S) (ep1 : Xp1 = nI p1) : f_X0_uses XS Xp1 = some (nI r0) := by
  subst eS ep1
  unfold g_X0_uses at h
  unfold f_X0_uses
  refine s_X0_uses_4 rfl rfl (fun Xx2z5 x2z5 ex2z5 h => ?_) _ _ _ rfl _ _ rfl h
  subst ex2z5
  have w0 := Option.some.inj h
  subst w0
  exact congrArg some rfl
def g_X0_usesByOthers_8 (S : Nat) (x1_8 : Nat) (k : Nat → Option (Nat)) : Nat → Nat → Nat → Option (Nat)
  | 0, _, _ => none
  | n + 1, x2_8, x3_8 =>
    bif gle 3 x3_8 then
      k x2_8
    else
      (g_X0_sourceOf S (ga (gm x1_8 3) x3_8)).bind fun v4 =>
      bif geq v4 x1_8 then
        g_X0_usesByOthers_8 S x1_8 k n (gs x2_8 1) (ga x3_8 1)
      else
        g_X0_usesByOthers_8 S x1_8 k n (gs x2_8 0) (ga x3_8 1)
theorem s_X0_usesByOthers_8 {S : Nat} {x1_8 : Nat} {XS : Nat → Int32} {Xx1_8 : Int32} {k : Nat → Option (Nat)} {Xk : Int32 → Option (Int32)} {r0 : Nat} (eS : XS = dA S) (ex1_8 : Xx1_8 = nI x1_8) (hk : ∀ (Xz0 : Int32) (z0 : Nat), Xz0 = nI z0 → k z0 = some r0 → Xk Xz0 = some (nI r0)) : ∀ (n : Nat) (Xx2_8 : Int32) (x2_8 : Nat), Xx2_8 = nI x2_8 → ∀ (Xx3_8 : Int32) (x3_8 : Nat), Xx3_8 = nI x3_8 → g_X0_usesByOthers_8 S x1_8 k n x2_8 x3_8 = some r0 → f_X0_usesByOthers_8 XS Xx1_8 Xk n Xx2_8 Xx3_8 = some (nI r0) := by
  subst eS ex1_8
  intro n
  induction n with
  | zero => intro Xx2_8 x2_8 ex2_8 Xx3_8 x3_8 ex3_8 h; unfold g_X0_usesByOthers_8 at h; cases h
  | succ n ih =>
    intro Xx2_8 x2_8 ex2_8 Xx3_8 x3_8 ex3_8 h
    subst ex2_8 ex3_8
    unfold g_X0_usesByOthers_8 at h
    unfold f_X0_usesByOthers_8
    rcases g_if h with ⟨c3, h⟩ | ⟨c3, h⟩
    · refine (if_pos (sle_t rfl rfl c3)).trans ?_
      exact hk _ _ rfl h
    · refine (if_neg (sle_f rfl rfl c3)).trans ?_
      obtain ⟨v4, e2, h⟩ := ob_i h
      refine ob_s (s_X0_sourceOf e2 rfl (s_add (s_mul rfl rfl) rfl)) ?_
      rcases g_if h with ⟨c1, h⟩ | ⟨c1, h⟩
      · refine (if_pos (seq_t rfl rfl c1)).trans ?_
        exact ih _ _ (s_sub rfl rfl) _ _ (s_add rfl rfl) h
      · refine (if_neg (seq_f rfl rfl c1)).trans ?_
        exact ih _ _ (s_sub rfl rfl) _ _ (s_add rfl rfl) h
def g_X0_usesByOthers (S : Nat) (p1 : Nat) : Option (Nat) :=
  (g_X0_uses S p1).bind fun v1 =>
  g_X0_usesByOthers_8 S p1 (fun x2z7 =>
    some x2z7) xFu v1 0
theorem s_X0_usesByOthers {S : Nat} {p1 : Nat} {XS : Nat → Int32} {Xp1 : Int32} {r0 : Nat} (h : g_X0_usesByOthers S p1 = some r0) (eS : XS = dA S) (ep1 : Xp1 = nI p1) : f_X0_usesByOthers XS Xp1 = some (nI r0) := by
  subst eS ep1
  unfold g_X0_usesByOthers at h
  unfold f_X0_usesByOthers
  obtain ⟨v1, e1, h⟩ := ob_i h
  refine ob_s (s_X0_uses e1 rfl rfl) ?_
  refine s_X0_usesByOthers_8 rfl rfl (fun Xx2z7 x2z7 ex2z7 h => ?_) _ _ _ rfl _ _ rfl h
  subst ex2z7
  have w0 := Option.some.inj h
  subst w0
  exact congrArg some rfl
def g_X0_exchange_84 (x1_84 : Nat) (x2_84 : Nat) (k : Nat → Option (Nat × Nat)) : Nat → Nat → Nat → Option (Nat × Nat)
  | 0, _, _ => none
  | n + 1, x4_84, S_84 =>
    bif gle 72 x4_84 then
      k S_84
    else
      (gr_d S_84 72 x4_84).bind fun v20 =>
      bif geq v20 x1_84 then
        (gr_w S_84 72 x4_84 x2_84).bind fun S29 =>
        g_X0_exchange_84 x1_84 x2_84 k n (ga x4_84 1) S29
      else
        (gr_d S_84 72 x4_84).bind fun v23 =>
        bif geq v23 x2_84 then
          (gr_w S_84 72 x4_84 x1_84).bind fun S27 =>
          g_X0_exchange_84 x1_84 x2_84 k n (ga x4_84 1) S27
        else
          g_X0_exchange_84 x1_84 x2_84 k n (ga x4_84 1) S_84
theorem s_X0_exchange_84 {x1_84 : Nat} {x2_84 : Nat} {Xx1_84 : Int32} {Xx2_84 : Int32} {k : Nat → Option (Nat × Nat)} {Xk : (Nat → Int32) → Option ((Nat → Int32) × (Nat → Int32))} {r0 : Nat} {r1 : Nat} (ex1_84 : Xx1_84 = nI x1_84) (ex2_84 : Xx2_84 = nI x2_84) (hk : ∀ (Xz0 : Nat → Int32) (z0 : Nat), Xz0 = dA z0 → k z0 = some (r0, r1) → Xk Xz0 = some (dA r0, dA r1)) : ∀ (n : Nat) (Xx4_84 : Int32) (x4_84 : Nat), Xx4_84 = nI x4_84 → ∀ (XS_84 : Nat → Int32) (S_84 : Nat), XS_84 = dA S_84 → g_X0_exchange_84 x1_84 x2_84 k n x4_84 S_84 = some (r0, r1) → f_X0_exchange_84 Xx1_84 Xx2_84 Xk n Xx4_84 XS_84 = some (dA r0, dA r1) := by
  subst ex1_84 ex2_84
  intro n
  induction n with
  | zero => intro Xx4_84 x4_84 ex4_84 XS_84 S_84 eS_84 h; unfold g_X0_exchange_84 at h; cases h
  | succ n ih =>
    intro Xx4_84 x4_84 ex4_84 XS_84 S_84 eS_84 h
    subst ex4_84 eS_84
    unfold g_X0_exchange_84 at h
    unfold f_X0_exchange_84
    rcases g_if h with ⟨c7, h⟩ | ⟨c7, h⟩
    · refine (if_pos (sle_t rfl rfl c7)).trans ?_
      exact hk _ _ rfl h
    · refine (if_neg (sle_f rfl rfl c7)).trans ?_
      obtain ⟨v20, e6, h⟩ := ob_i h
      refine ob_s (sr_d e6 (by decide) rfl rfl) ?_
      rcases g_if h with ⟨c5, h⟩ | ⟨c5, h⟩
      · refine (if_pos (seq_t rfl rfl c5)).trans ?_
        obtain ⟨S29, e1, h⟩ := ob_i h
        refine ob_s (sr_w e1 (by decide) rfl rfl rfl) ?_
        exact ih _ _ (s_add rfl rfl) _ _ rfl h
      · refine (if_neg (seq_f rfl rfl c5)).trans ?_
        obtain ⟨v23, e4, h⟩ := ob_i h
        refine ob_s (sr_d e4 (by decide) rfl rfl) ?_
        rcases g_if h with ⟨c3, h⟩ | ⟨c3, h⟩
        · refine (if_pos (seq_t rfl rfl c3)).trans ?_
          obtain ⟨S27, e2, h⟩ := ob_i h
          refine ob_s (sr_w e2 (by decide) rfl rfl rfl) ?_
          exact ih _ _ (s_add rfl rfl) _ _ rfl h
        · refine (if_neg (seq_f rfl rfl c3)).trans ?_
          exact ih _ _ (s_add rfl rfl) _ _ rfl h
def g_X0_exchange_25 (x1_25 : Nat) (x2_25 : Nat) (k : Nat → Option (Nat × Nat)) : Nat → Nat → Nat → Option (Nat × Nat)
  | 0, _, _ => none
  | n + 1, x4_25, S_25 =>
    bif gle 3 x4_25 then
      k S_25
    else
      (g_X0_sourceOf S_25 (ga (gm x1_25 3) x4_25)).bind fun v10 =>
      (g_X0_sourceOf S_25 (ga (gm x2_25 3) x4_25)).bind fun v12 =>
      (g_X0_changeSource S_25 (ga (gm x1_25 3) x4_25) v12).bind fun S14 =>
      (g_X0_changeSource S14 (ga (gm x2_25 3) x4_25) v10).bind fun S16 =>
      g_X0_exchange_25 x1_25 x2_25 k n (ga x4_25 1) S16
theorem s_X0_exchange_25 {x1_25 : Nat} {x2_25 : Nat} {Xx1_25 : Int32} {Xx2_25 : Int32} {k : Nat → Option (Nat × Nat)} {Xk : (Nat → Int32) → Option ((Nat → Int32) × (Nat → Int32))} {r0 : Nat} {r1 : Nat} (ex1_25 : Xx1_25 = nI x1_25) (ex2_25 : Xx2_25 = nI x2_25) (hk : ∀ (Xz0 : Nat → Int32) (z0 : Nat), Xz0 = dA z0 → k z0 = some (r0, r1) → Xk Xz0 = some (dA r0, dA r1)) : ∀ (n : Nat) (Xx4_25 : Int32) (x4_25 : Nat), Xx4_25 = nI x4_25 → ∀ (XS_25 : Nat → Int32) (S_25 : Nat), XS_25 = dA S_25 → g_X0_exchange_25 x1_25 x2_25 k n x4_25 S_25 = some (r0, r1) → f_X0_exchange_25 Xx1_25 Xx2_25 Xk n Xx4_25 XS_25 = some (dA r0, dA r1) := by
  subst ex1_25 ex2_25
  intro n
  induction n with
  | zero => intro Xx4_25 x4_25 ex4_25 XS_25 S_25 eS_25 h; unfold g_X0_exchange_25 at h; cases h
  | succ n ih =>
    intro Xx4_25 x4_25 ex4_25 XS_25 S_25 eS_25 h
    subst ex4_25 eS_25
    unfold g_X0_exchange_25 at h
    unfold f_X0_exchange_25
    rcases g_if h with ⟨c5, h⟩ | ⟨c5, h⟩
    · refine (if_pos (sle_t rfl rfl c5)).trans ?_
      exact hk _ _ rfl h
    · refine (if_neg (sle_f rfl rfl c5)).trans ?_
      obtain ⟨v10, e4, h⟩ := ob_i h
      refine ob_s (s_X0_sourceOf e4 rfl (s_add (s_mul rfl rfl) rfl)) ?_
      obtain ⟨v12, e3, h⟩ := ob_i h
      refine ob_s (s_X0_sourceOf e3 rfl (s_add (s_mul rfl rfl) rfl)) ?_
      obtain ⟨S14, e2, h⟩ := ob_i h
      refine ob_s (s_X0_changeSource e2 rfl (s_add (s_mul rfl rfl) rfl) rfl) ?_
      obtain ⟨S16, e1, h⟩ := ob_i h
      refine ob_s (s_X0_changeSource e1 rfl (s_add (s_mul rfl rfl) rfl) rfl) ?_
      exact ih _ _ (s_add rfl rfl) _ _ rfl h
def g_X0_exchange (T : Nat) (S : Nat) (p1 : Nat) (p2 : Nat) : Option (Nat × Nat) :=
  (g_X0_tableOf T p1).bind fun v1 =>
  (g_X0_tableOf T p2).bind fun v3 =>
  (g_X0_changeTable T p1 v3).bind fun T5 =>
  (g_X0_changeTable T5 p2 v1).bind fun T7 =>
  g_X0_exchange_25 p1 p2 (fun Sz18 =>
    g_X0_exchange_84 p1 p2 (fun Sz30 =>
      some (T7, Sz30)) xFu 0 Sz18) xFu 0 S
theorem s_X0_exchange {T : Nat} {S : Nat} {p1 : Nat} {p2 : Nat} {XT : Nat → Int32} {XS : Nat → Int32} {Xp1 : Int32} {Xp2 : Int32} {r0 : Nat} {r1 : Nat} (h : g_X0_exchange T S p1 p2 = some (r0, r1)) (eT : XT = dA T) (eS : XS = dA S) (ep1 : Xp1 = nI p1) (ep2 : Xp2 = nI p2) : f_X0_exchange XT XS Xp1 Xp2 = some (dA r0, dA r1) := by
  subst eT eS ep1 ep2
  unfold g_X0_exchange at h
  unfold f_X0_exchange
  obtain ⟨v1, e4, h⟩ := ob_i h
  refine ob_s (s_X0_tableOf e4 rfl rfl) ?_
  obtain ⟨v3, e3, h⟩ := ob_i h
  refine ob_s (s_X0_tableOf e3 rfl rfl) ?_
  obtain ⟨T5, e2, h⟩ := ob_i h
  refine ob_s (s_X0_changeTable e2 rfl rfl rfl) ?_
  obtain ⟨T7, e1, h⟩ := ob_i h
  refine ob_s (s_X0_changeTable e1 rfl rfl rfl) ?_
  refine s_X0_exchange_25 rfl rfl (fun XSz18 Sz18 eSz18 h => ?_) _ _ _ rfl _ _ rfl h
  subst eSz18
  refine s_X0_exchange_84 rfl rfl (fun XSz30 Sz30 eSz30 h => ?_) _ _ _ rfl _ _ rfl h
  subst eSz30
  have w0 := Option.some.inj h
  obtain ⟨q0, w1⟩ := Prod.mk.inj w0
  subst q0
  subst w1
  exact congrArg some (tup2 rfl rfl)
def g_X0_wires_4 (S : Nat) (k : Nat → Option (Nat)) : Nat → Nat → Nat → Option (Nat)
  | 0, _, _ => none
  | n + 1, x1_4, x2_4 =>
    bif gle 72 x2_4 then
      k x1_4
    else
      (gr_d S 72 x2_4).bind fun v2 =>
      (g_X5_junctionOf v2).bind fun v4 =>
      bif geq v4 4294967295 then
        g_X0_wires_4 S k n (ga x1_4 0) (ga x2_4 1)
      else
        g_X0_wires_4 S k n (ga x1_4 1) (ga x2_4 1)
theorem s_X0_wires_4 {S : Nat} {XS : Nat → Int32} {k : Nat → Option (Nat)} {Xk : Int32 → Option (Int32)} {r0 : Nat} (eS : XS = dA S) (hk : ∀ (Xz0 : Int32) (z0 : Nat), Xz0 = nI z0 → k z0 = some r0 → Xk Xz0 = some (nI r0)) : ∀ (n : Nat) (Xx1_4 : Int32) (x1_4 : Nat), Xx1_4 = nI x1_4 → ∀ (Xx2_4 : Int32) (x2_4 : Nat), Xx2_4 = nI x2_4 → g_X0_wires_4 S k n x1_4 x2_4 = some r0 → f_X0_wires_4 XS Xk n Xx1_4 Xx2_4 = some (nI r0) := by
  subst eS
  intro n
  induction n with
  | zero => intro Xx1_4 x1_4 ex1_4 Xx2_4 x2_4 ex2_4 h; unfold g_X0_wires_4 at h; cases h
  | succ n ih =>
    intro Xx1_4 x1_4 ex1_4 Xx2_4 x2_4 ex2_4 h
    subst ex1_4 ex2_4
    unfold g_X0_wires_4 at h
    unfold f_X0_wires_4
    rcases g_if h with ⟨c4, h⟩ | ⟨c4, h⟩
    · refine (if_pos (sle_t rfl rfl c4)).trans ?_
      exact hk _ _ rfl h
    · refine (if_neg (sle_f rfl rfl c4)).trans ?_
      obtain ⟨v2, e3, h⟩ := ob_i h
      refine ob_s (sr_d e3 (by decide) rfl rfl) ?_
      obtain ⟨v4, e2, h⟩ := ob_i h
      refine ob_s (s_X5_junctionOf e2 rfl) ?_
      rcases g_if h with ⟨c1, h⟩ | ⟨c1, h⟩
      · refine (if_pos (seq_t rfl n_m1 c1)).trans ?_
        exact ih _ _ (s_add rfl rfl) _ _ (s_add rfl rfl) h
      · refine (if_neg (seq_f rfl n_m1 c1)).trans ?_
        exact ih _ _ (s_add rfl rfl) _ _ (s_add rfl rfl) h
def g_X0_wires (S : Nat) : Option (Nat) :=
  g_X0_wires_4 S (fun x1z7 =>
    some x1z7) xFu 0 0
theorem s_X0_wires {S : Nat} {XS : Nat → Int32} {r0 : Nat} (h : g_X0_wires S = some r0) (eS : XS = dA S) : f_X0_wires XS = some (nI r0) := by
  subst eS
  unfold g_X0_wires at h
  unfold f_X0_wires
  refine s_X0_wires_4 rfl (fun Xx1z7 x1z7 ex1z7 h => ?_) _ _ _ rfl _ _ rfl h
  subst ex1z7
  have w0 := Option.some.inj h
  subst w0
  exact congrArg some rfl
def g_X0_segmentsOfCell_4 (L : Nat) (x1_4 : Nat) (k : Nat → Option (Nat)) : Nat → Nat → Nat → Option (Nat)
  | 0, _, _ => none
  | n + 1, x2_4, x3_4 =>
    bif gle 3 x3_4 then
      k x2_4
    else
      (g_X0_lengthOf L (ga (gm x1_4 3) x3_4)).bind fun v2 =>
      g_X0_segmentsOfCell_4 L x1_4 k n (ga x2_4 v2) (ga x3_4 1)
theorem s_X0_segmentsOfCell_4 {L : Nat} {x1_4 : Nat} {XL : Nat → Int32} {Xx1_4 : Int32} {k : Nat → Option (Nat)} {Xk : Int32 → Option (Int32)} {r0 : Nat} (eL : XL = dA L) (ex1_4 : Xx1_4 = nI x1_4) (hk : ∀ (Xz0 : Int32) (z0 : Nat), Xz0 = nI z0 → k z0 = some r0 → Xk Xz0 = some (nI r0)) : ∀ (n : Nat) (Xx2_4 : Int32) (x2_4 : Nat), Xx2_4 = nI x2_4 → ∀ (Xx3_4 : Int32) (x3_4 : Nat), Xx3_4 = nI x3_4 → g_X0_segmentsOfCell_4 L x1_4 k n x2_4 x3_4 = some r0 → f_X0_segmentsOfCell_4 XL Xx1_4 Xk n Xx2_4 Xx3_4 = some (nI r0) := by
  subst eL ex1_4
  intro n
  induction n with
  | zero => intro Xx2_4 x2_4 ex2_4 Xx3_4 x3_4 ex3_4 h; unfold g_X0_segmentsOfCell_4 at h; cases h
  | succ n ih =>
    intro Xx2_4 x2_4 ex2_4 Xx3_4 x3_4 ex3_4 h
    subst ex2_4 ex3_4
    unfold g_X0_segmentsOfCell_4 at h
    unfold f_X0_segmentsOfCell_4
    rcases g_if h with ⟨c2, h⟩ | ⟨c2, h⟩
    · refine (if_pos (sle_t rfl rfl c2)).trans ?_
      exact hk _ _ rfl h
    · refine (if_neg (sle_f rfl rfl c2)).trans ?_
      obtain ⟨v2, e1, h⟩ := ob_i h
      refine ob_s (s_X0_lengthOf e1 rfl (s_add (s_mul rfl rfl) rfl)) ?_
      exact ih _ _ (s_add rfl rfl) _ _ (s_add rfl rfl) h
def g_X0_segmentsOfCell (L : Nat) (p1 : Nat) : Option (Nat) :=
  g_X0_segmentsOfCell_4 L p1 (fun x2z4 =>
    some x2z4) xFu 0 0
theorem s_X0_segmentsOfCell {L : Nat} {p1 : Nat} {XL : Nat → Int32} {Xp1 : Int32} {r0 : Nat} (h : g_X0_segmentsOfCell L p1 = some r0) (eL : XL = dA L) (ep1 : Xp1 = nI p1) : f_X0_segmentsOfCell XL Xp1 = some (nI r0) := by
  subst eL ep1
  unfold g_X0_segmentsOfCell at h
  unfold f_X0_segmentsOfCell
  refine s_X0_segmentsOfCell_4 rfl rfl (fun Xx2z4 x2z4 ex2z4 h => ?_) _ _ _ rfl _ _ rfl h
  subst ex2z4
  have w0 := Option.some.inj h
  subst w0
  exact congrArg some rfl
def g_X0_segmentsOfAll_4 (L : Nat) (k : Nat → Option (Nat)) : Nat → Nat → Nat → Option (Nat)
  | 0, _, _ => none
  | n + 1, x1_4, x2_4 =>
    bif gle 72 x2_4 then
      k x1_4
    else
      (gr_d L 72 x2_4).bind fun v2 =>
      g_X0_segmentsOfAll_4 L k n (ga x1_4 v2) (ga x2_4 1)
theorem s_X0_segmentsOfAll_4 {L : Nat} {XL : Nat → Int32} {k : Nat → Option (Nat)} {Xk : Int32 → Option (Int32)} {r0 : Nat} (eL : XL = dA L) (hk : ∀ (Xz0 : Int32) (z0 : Nat), Xz0 = nI z0 → k z0 = some r0 → Xk Xz0 = some (nI r0)) : ∀ (n : Nat) (Xx1_4 : Int32) (x1_4 : Nat), Xx1_4 = nI x1_4 → ∀ (Xx2_4 : Int32) (x2_4 : Nat), Xx2_4 = nI x2_4 → g_X0_segmentsOfAll_4 L k n x1_4 x2_4 = some r0 → f_X0_segmentsOfAll_4 XL Xk n Xx1_4 Xx2_4 = some (nI r0) := by
  subst eL
  intro n
  induction n with
  | zero => intro Xx1_4 x1_4 ex1_4 Xx2_4 x2_4 ex2_4 h; unfold g_X0_segmentsOfAll_4 at h; cases h
  | succ n ih =>
    intro Xx1_4 x1_4 ex1_4 Xx2_4 x2_4 ex2_4 h
    subst ex1_4 ex2_4
    unfold g_X0_segmentsOfAll_4 at h
    unfold f_X0_segmentsOfAll_4
    rcases g_if h with ⟨c2, h⟩ | ⟨c2, h⟩
    · refine (if_pos (sle_t rfl rfl c2)).trans ?_
      exact hk _ _ rfl h
    · refine (if_neg (sle_f rfl rfl c2)).trans ?_
      obtain ⟨v2, e1, h⟩ := ob_i h
      refine ob_s (sr_d e1 (by decide) rfl rfl) ?_
      exact ih _ _ (s_add rfl rfl) _ _ (s_add rfl rfl) h
def g_X0_segmentsOfAll (L : Nat) : Option (Nat) :=
  g_X0_segmentsOfAll_4 L (fun x1z4 =>
    some x1z4) xFu 0 0
theorem s_X0_segmentsOfAll {L : Nat} {XL : Nat → Int32} {r0 : Nat} (h : g_X0_segmentsOfAll L = some r0) (eL : XL = dA L) : f_X0_segmentsOfAll XL = some (nI r0) := by
  subst eL
  unfold g_X0_segmentsOfAll at h
  unfold f_X0_segmentsOfAll
  refine s_X0_segmentsOfAll_4 rfl (fun Xx1z4 x1z4 ex1z4 h => ?_) _ _ _ rfl _ _ rfl h
  subst ex1z4
  have w0 := Option.some.inj h
  subst w0
  exact congrArg some rfl
def g_X0_distanceOf (S : Nat) (p1 : Nat) : Option (Nat) :=
  (g_X0_sourceOf S p1).bind fun v1 =>
  (g_X5_junctionOf v1).bind fun v3 =>
  bif geq v3 4294967295 then
    some 4294967295
  else
    bif Nat.ble 2147483648 p1 then none else
    (g_X5_distanceBetween v3 (gdv p1 3)).bind fun v6 =>
    some v6
theorem s_X0_distanceOf {S : Nat} {p1 : Nat} {XS : Nat → Int32} {Xp1 : Int32} {r0 : Nat} (h : g_X0_distanceOf S p1 = some r0) (eS : XS = dA S) (ep1 : Xp1 = nI p1) : f_X0_distanceOf XS Xp1 = some (nI r0) := by
  subst eS ep1
  unfold g_X0_distanceOf at h
  unfold f_X0_distanceOf
  obtain ⟨v1, e5, h⟩ := ob_i h
  refine ob_s (s_X0_sourceOf e5 rfl rfl) ?_
  obtain ⟨v3, e4, h⟩ := ob_i h
  refine ob_s (s_X5_junctionOf e4 rfl) ?_
  rcases g_if h with ⟨c3, h⟩ | ⟨c3, h⟩
  · refine (if_pos (seq_t rfl n_m1 c3)).trans ?_
    have w0 := Option.some.inj h
    subst w0
    exact congrArg some n_m1
  · refine (if_neg (seq_f rfl n_m1 c3)).trans ?_
    obtain ⟨w1, h⟩ := g_gd h
    obtain ⟨v6, e2, h⟩ := ob_i h
    refine ob_s (s_X5_distanceBetween e2 rfl (s_div w1 rfl rfl (by decide) (by decide))) ?_
    have w0 := Option.some.inj h
    subst w0
    exact congrArg some rfl
def g_X0_startWire (L : Nat) (J : Nat) (p1 : Nat) (p2 : Nat) : Option (Nat × Nat) :=
  (g_X5_isWire p1).bind fun v1 =>
  bif geq v1 0 then
    some (L, J)
  else
    (gr_w L 72 p1 0).bind fun L5 =>
    (gr_w J 1728 (gm p1 24) p2).bind fun J7 =>
    some (L5, J7)
theorem s_X0_startWire {L : Nat} {J : Nat} {p1 : Nat} {p2 : Nat} {XL : Nat → Int32} {XJ : Nat → Int32} {Xp1 : Int32} {Xp2 : Int32} {r0 : Nat} {r1 : Nat} (h : g_X0_startWire L J p1 p2 = some (r0, r1)) (eL : XL = dA L) (eJ : XJ = dA J) (ep1 : Xp1 = nI p1) (ep2 : Xp2 = nI p2) : f_X0_startWire XL XJ Xp1 Xp2 = some (dA r0, dA r1) := by
  subst eL eJ ep1 ep2
  unfold g_X0_startWire at h
  unfold f_X0_startWire
  obtain ⟨v1, e4, h⟩ := ob_i h
  refine ob_s (s_X5_isWire e4 rfl) ?_
  rcases g_if h with ⟨c3, h⟩ | ⟨c3, h⟩
  · refine (if_pos (seq_t rfl rfl c3)).trans ?_
    have w0 := Option.some.inj h
    obtain ⟨q0, w1⟩ := Prod.mk.inj w0
    subst q0
    subst w1
    exact congrArg some (tup2 rfl rfl)
  · refine (if_neg (seq_f rfl rfl c3)).trans ?_
    obtain ⟨L5, e2, h⟩ := ob_i h
    refine ob_s (sr_w e2 (by decide) rfl rfl rfl) ?_
    obtain ⟨J7, e1, h⟩ := ob_i h
    refine ob_s (sr_w e1 (by decide) rfl (s_mul rfl rfl) rfl) ?_
    have w0 := Option.some.inj h
    obtain ⟨q0, w1⟩ := Prod.mk.inj w0
    subst q0
    subst w1
    exact congrArg some (tup2 rfl rfl)
def g_X0_extendWire (L : Nat) (J : Nat) (E : Nat) (p1 : Nat) (p2 : Nat) : Option (Nat × Nat × Nat) :=
  (g_X5_isWire p1).bind fun v1 =>
  bif geq v1 0 then
    some (L, J, E)
  else
    (gr_d L 72 p1).bind fun v4 =>
    bif glt v4 0 then
      some (L, J, E)
    else
      (gr_d L 72 p1).bind fun v7 =>
      bif glt v7 23 then
        (gr_d L 72 p1).bind fun v10 =>
        (gr_d J 1728 (ga (gm p1 24) v10)).bind fun v12 =>
        (g_X5_segmentBetween v12 p2).bind fun v14 =>
        bif geq v14 4294967295 then
          some (L, J, E)
        else
          (gr_d L 72 p1).bind fun v17 =>
          (gr_w L 72 p1 (ga v17 1)).bind fun L20 =>
          (gr_d L20 72 p1).bind fun v21 =>
          (gr_w J 1728 (ga (gm p1 24) v21) p2).bind fun J24 =>
          (gr_d E 48 v14).bind fun v25 =>
          (gr_w E 48 v14 (ga v25 1)).bind fun E28 =>
          some (L20, J24, E28)
      else
        some (L, J, E)
theorem s_X0_extendWire {L : Nat} {J : Nat} {E : Nat} {p1 : Nat} {p2 : Nat} {XL : Nat → Int32} {XJ : Nat → Int32} {XE : Nat → Int32} {Xp1 : Int32} {Xp2 : Int32} {r0 : Nat} {r1 : Nat} {r2 : Nat} (h : g_X0_extendWire L J E p1 p2 = some (r0, r1, r2)) (eL : XL = dA L) (eJ : XJ = dA J) (eE : XE = dA E) (ep1 : Xp1 = nI p1) (ep2 : Xp2 = nI p2) : f_X0_extendWire XL XJ XE Xp1 Xp2 = some (dA r0, dA r1, dA r2) := by
  subst eL eJ eE ep1 ep2
  unfold g_X0_extendWire at h
  unfold f_X0_extendWire
  obtain ⟨v1, e16, h⟩ := ob_i h
  refine ob_s (s_X5_isWire e16 rfl) ?_
  rcases g_if h with ⟨c15, h⟩ | ⟨c15, h⟩
  · refine (if_pos (seq_t rfl rfl c15)).trans ?_
    have w0 := Option.some.inj h
    obtain ⟨q0, w1⟩ := Prod.mk.inj w0
    obtain ⟨q1, w2⟩ := Prod.mk.inj w1
    subst q0
    subst q1
    subst w2
    exact congrArg some (tup3 rfl rfl rfl)
  · refine (if_neg (seq_f rfl rfl c15)).trans ?_
    obtain ⟨v4, e14, h⟩ := ob_i h
    refine ob_s (sr_d e14 (by decide) rfl rfl) ?_
    rcases g_if h with ⟨c13, h⟩ | ⟨c13, h⟩
    · refine (if_pos (slt_t rfl rfl c13)).trans ?_
      have w0 := Option.some.inj h
      obtain ⟨q0, w1⟩ := Prod.mk.inj w0
      obtain ⟨q1, w2⟩ := Prod.mk.inj w1
      subst q0
      subst q1
      subst w2
      exact congrArg some (tup3 rfl rfl rfl)
    · refine (if_neg (slt_f rfl rfl c13)).trans ?_
      obtain ⟨v7, e12, h⟩ := ob_i h
      refine ob_s (sr_d e12 (by decide) rfl rfl) ?_
      rcases g_if h with ⟨c11, h⟩ | ⟨c11, h⟩
      · refine (if_pos (slt_t rfl rfl c11)).trans ?_
        obtain ⟨v10, e10, h⟩ := ob_i h
        refine ob_s (sr_d e10 (by decide) rfl rfl) ?_
        obtain ⟨v12, e9, h⟩ := ob_i h
        refine ob_s (sr_d e9 (by decide) rfl (s_add (s_mul rfl rfl) rfl)) ?_
        obtain ⟨v14, e8, h⟩ := ob_i h
        refine ob_s (s_X5_segmentBetween e8 rfl rfl) ?_
        rcases g_if h with ⟨c7, h⟩ | ⟨c7, h⟩
        · refine (if_pos (seq_t rfl n_m1 c7)).trans ?_
          have w0 := Option.some.inj h
          obtain ⟨q0, w1⟩ := Prod.mk.inj w0
          obtain ⟨q1, w2⟩ := Prod.mk.inj w1
          subst q0
          subst q1
          subst w2
          exact congrArg some (tup3 rfl rfl rfl)
        · refine (if_neg (seq_f rfl n_m1 c7)).trans ?_
          obtain ⟨v17, e6, h⟩ := ob_i h
          refine ob_s (sr_d e6 (by decide) rfl rfl) ?_
          obtain ⟨L20, e5, h⟩ := ob_i h
          refine ob_s (sr_w e5 (by decide) rfl rfl (s_add rfl rfl)) ?_
          obtain ⟨v21, e4, h⟩ := ob_i h
          refine ob_s (sr_d e4 (by decide) rfl rfl) ?_
          obtain ⟨J24, e3, h⟩ := ob_i h
          refine ob_s (sr_w e3 (by decide) rfl (s_add (s_mul rfl rfl) rfl) rfl) ?_
          obtain ⟨v25, e2, h⟩ := ob_i h
          refine ob_s (sr_d e2 (by decide) rfl rfl) ?_
          obtain ⟨E28, e1, h⟩ := ob_i h
          refine ob_s (sr_w e1 (by decide) rfl rfl (s_add rfl rfl)) ?_
          have w0 := Option.some.inj h
          obtain ⟨q0, w1⟩ := Prod.mk.inj w0
          obtain ⟨q1, w2⟩ := Prod.mk.inj w1
          subst q0
          subst q1
          subst w2
          exact congrArg some (tup3 rfl rfl rfl)
      · refine (if_neg (slt_f rfl rfl c11)).trans ?_
        have w0 := Option.some.inj h
        obtain ⟨q0, w1⟩ := Prod.mk.inj w0
        obtain ⟨q1, w2⟩ := Prod.mk.inj w1
        subst q0
        subst q1
        subst w2
        exact congrArg some (tup3 rfl rfl rfl)
def g_X0_heldBy (E : Nat) (p1 : Nat) : Option (Nat) :=
  bif glt p1 0 then
    some 0
  else
    bif gle 48 p1 then
      some 0
    else
      (gr_d E 48 p1).bind fun v3 =>
      some v3
theorem s_X0_heldBy {E : Nat} {p1 : Nat} {XE : Nat → Int32} {Xp1 : Int32} {r0 : Nat} (h : g_X0_heldBy E p1 = some r0) (eE : XE = dA E) (ep1 : Xp1 = nI p1) : f_X0_heldBy XE Xp1 = some (nI r0) := by
  subst eE ep1
  unfold g_X0_heldBy at h
  unfold f_X0_heldBy
  rcases g_if h with ⟨c3, h⟩ | ⟨c3, h⟩
  · refine (if_pos (slt_t rfl rfl c3)).trans ?_
    have w0 := Option.some.inj h
    subst w0
    exact congrArg some rfl
  · refine (if_neg (slt_f rfl rfl c3)).trans ?_
    rcases g_if h with ⟨c2, h⟩ | ⟨c2, h⟩
    · refine (if_pos (sle_t rfl rfl c2)).trans ?_
      have w0 := Option.some.inj h
      subst w0
      exact congrArg some rfl
    · refine (if_neg (sle_f rfl rfl c2)).trans ?_
      obtain ⟨v3, e1, h⟩ := ob_i h
      refine ob_s (sr_d e1 (by decide) rfl rfl) ?_
      have w0 := Option.some.inj h
      subst w0
      exact congrArg some rfl
def g_X0_priceOf (E : Nat) (cp : Nat) (su : Nat) (p1 : Nat) : Option (Nat) :=
  bif glt p1 0 then
    some 1000000
  else
    bif gle 48 p1 then
      some 1000000
    else
      (gr_d E 48 p1).bind fun v3 =>
      bif glt v3 cp then
        (gr_d E 48 p1).bind fun v6 =>
        some (ga 1 (gm su v6))
      else
        some 1000000
theorem s_X0_priceOf {E : Nat} {cp : Nat} {su : Nat} {p1 : Nat} {XE : Nat → Int32} {Xcp : Int32} {Xsu : Int32} {Xp1 : Int32} {r0 : Nat} (h : g_X0_priceOf E cp su p1 = some r0) (eE : XE = dA E) (ecp : Xcp = nI cp) (esu : Xsu = nI su) (ep1 : Xp1 = nI p1) : f_X0_priceOf XE Xcp Xsu Xp1 = some (nI r0) := by
  subst eE ecp esu ep1
  unfold g_X0_priceOf at h
  unfold f_X0_priceOf
  rcases g_if h with ⟨c5, h⟩ | ⟨c5, h⟩
  · refine (if_pos (slt_t rfl rfl c5)).trans ?_
    have w0 := Option.some.inj h
    subst w0
    exact congrArg some rfl
  · refine (if_neg (slt_f rfl rfl c5)).trans ?_
    rcases g_if h with ⟨c4, h⟩ | ⟨c4, h⟩
    · refine (if_pos (sle_t rfl rfl c4)).trans ?_
      have w0 := Option.some.inj h
      subst w0
      exact congrArg some rfl
    · refine (if_neg (sle_f rfl rfl c4)).trans ?_
      obtain ⟨v3, e3, h⟩ := ob_i h
      refine ob_s (sr_d e3 (by decide) rfl rfl) ?_
      rcases g_if h with ⟨c2, h⟩ | ⟨c2, h⟩
      · refine (if_pos (slt_t rfl rfl c2)).trans ?_
        obtain ⟨v6, e1, h⟩ := ob_i h
        refine ob_s (sr_d e1 (by decide) rfl rfl) ?_
        have w0 := Option.some.inj h
        subst w0
        exact congrArg some (s_add rfl (s_mul rfl rfl))
      · refine (if_neg (slt_f rfl rfl c2)).trans ?_
        have w0 := Option.some.inj h
        subst w0
        exact congrArg some rfl
def g_X0_fullSegments_4 (E : Nat) (cp : Nat) (k : Nat → Option (Nat)) : Nat → Nat → Nat → Option (Nat)
  | 0, _, _ => none
  | n + 1, x1_4, x2_4 =>
    bif gle 48 x2_4 then
      k x1_4
    else
      (gr_d E 48 x2_4).bind fun v2 =>
      bif glt v2 cp then
        g_X0_fullSegments_4 E cp k n (ga x1_4 0) (ga x2_4 1)
      else
        g_X0_fullSegments_4 E cp k n (ga x1_4 1) (ga x2_4 1)
theorem s_X0_fullSegments_4 {E : Nat} {cp : Nat} {XE : Nat → Int32} {Xcp : Int32} {k : Nat → Option (Nat)} {Xk : Int32 → Option (Int32)} {r0 : Nat} (eE : XE = dA E) (ecp : Xcp = nI cp) (hk : ∀ (Xz0 : Int32) (z0 : Nat), Xz0 = nI z0 → k z0 = some r0 → Xk Xz0 = some (nI r0)) : ∀ (n : Nat) (Xx1_4 : Int32) (x1_4 : Nat), Xx1_4 = nI x1_4 → ∀ (Xx2_4 : Int32) (x2_4 : Nat), Xx2_4 = nI x2_4 → g_X0_fullSegments_4 E cp k n x1_4 x2_4 = some r0 → f_X0_fullSegments_4 XE Xcp Xk n Xx1_4 Xx2_4 = some (nI r0) := by
  subst eE ecp
  intro n
  induction n with
  | zero => intro Xx1_4 x1_4 ex1_4 Xx2_4 x2_4 ex2_4 h; unfold g_X0_fullSegments_4 at h; cases h
  | succ n ih =>
    intro Xx1_4 x1_4 ex1_4 Xx2_4 x2_4 ex2_4 h
    subst ex1_4 ex2_4
    unfold g_X0_fullSegments_4 at h
    unfold f_X0_fullSegments_4
    rcases g_if h with ⟨c3, h⟩ | ⟨c3, h⟩
    · refine (if_pos (sle_t rfl rfl c3)).trans ?_
      exact hk _ _ rfl h
    · refine (if_neg (sle_f rfl rfl c3)).trans ?_
      obtain ⟨v2, e2, h⟩ := ob_i h
      refine ob_s (sr_d e2 (by decide) rfl rfl) ?_
      rcases g_if h with ⟨c1, h⟩ | ⟨c1, h⟩
      · refine (if_pos (slt_t rfl rfl c1)).trans ?_
        exact ih _ _ (s_add rfl rfl) _ _ (s_add rfl rfl) h
      · refine (if_neg (slt_f rfl rfl c1)).trans ?_
        exact ih _ _ (s_add rfl rfl) _ _ (s_add rfl rfl) h
def g_X0_fullSegments (E : Nat) (cp : Nat) : Option (Nat) :=
  g_X0_fullSegments_4 E cp (fun x1z5 =>
    some x1z5) xFu 0 0
theorem s_X0_fullSegments {E : Nat} {cp : Nat} {XE : Nat → Int32} {Xcp : Int32} {r0 : Nat} (h : g_X0_fullSegments E cp = some r0) (eE : XE = dA E) (ecp : Xcp = nI cp) : f_X0_fullSegments XE Xcp = some (nI r0) := by
  subst eE ecp
  unfold g_X0_fullSegments at h
  unfold f_X0_fullSegments
  refine s_X0_fullSegments_4 rfl rfl (fun Xx1z5 x1z5 ex1z5 h => ?_) _ _ _ rfl _ _ rfl h
  subst ex1z5
  have w0 := Option.some.inj h
  subst w0
  exact congrArg some rfl
def g_X0_mostHeld_4 (E : Nat) (k : Nat → Option (Nat)) : Nat → Nat → Nat → Option (Nat)
  | 0, _, _ => none
  | n + 1, x1_4, x2_4 =>
    bif gle 48 x2_4 then
      k x1_4
    else
      (gr_d E 48 x2_4).bind fun v2 =>
      (some (bif glt x1_4 v2 then v2 else x1_4)).bind fun v4 =>
      g_X0_mostHeld_4 E k n v4 (ga x2_4 1)
theorem s_X0_mostHeld_4 {E : Nat} {XE : Nat → Int32} {k : Nat → Option (Nat)} {Xk : Int32 → Option (Int32)} {r0 : Nat} (eE : XE = dA E) (hk : ∀ (Xz0 : Int32) (z0 : Nat), Xz0 = nI z0 → k z0 = some r0 → Xk Xz0 = some (nI r0)) : ∀ (n : Nat) (Xx1_4 : Int32) (x1_4 : Nat), Xx1_4 = nI x1_4 → ∀ (Xx2_4 : Int32) (x2_4 : Nat), Xx2_4 = nI x2_4 → g_X0_mostHeld_4 E k n x1_4 x2_4 = some r0 → f_X0_mostHeld_4 XE Xk n Xx1_4 Xx2_4 = some (nI r0) := by
  subst eE
  intro n
  induction n with
  | zero => intro Xx1_4 x1_4 ex1_4 Xx2_4 x2_4 ex2_4 h; unfold g_X0_mostHeld_4 at h; cases h
  | succ n ih =>
    intro Xx1_4 x1_4 ex1_4 Xx2_4 x2_4 ex2_4 h
    subst ex1_4 ex2_4
    unfold g_X0_mostHeld_4 at h
    unfold f_X0_mostHeld_4
    rcases g_if h with ⟨c3, h⟩ | ⟨c3, h⟩
    · refine (if_pos (sle_t rfl rfl c3)).trans ?_
      exact hk _ _ rfl h
    · refine (if_neg (sle_f rfl rfl c3)).trans ?_
      obtain ⟨v2, e2, h⟩ := ob_i h
      refine ob_s (sr_d e2 (by decide) rfl rfl) ?_
      replace h := ob_v h
      refine ob_s (congrArg some (s_itelt rfl rfl rfl rfl)) ?_
      generalize (bif glt x1_4 v2 then v2 else x1_4) = v4 at h ⊢
      exact ih _ _ rfl _ _ (s_add rfl rfl) h
def g_X0_mostHeld (E : Nat) : Option (Nat) :=
  g_X0_mostHeld_4 E (fun x1z6 =>
    some x1z6) xFu 0 0
theorem s_X0_mostHeld {E : Nat} {XE : Nat → Int32} {r0 : Nat} (h : g_X0_mostHeld E = some r0) (eE : XE = dA E) : f_X0_mostHeld XE = some (nI r0) := by
  subst eE
  unfold g_X0_mostHeld at h
  unfold f_X0_mostHeld
  refine s_X0_mostHeld_4 rfl (fun Xx1z6 x1z6 ex1z6 h => ?_) _ _ _ rfl _ _ rfl h
  subst ex1z6
  have w0 := Option.some.inj h
  subst w0
  exact congrArg some rfl
def g_X0_setting (cp : Nat) (su : Nat) (p1 : Nat) : Option (Nat) :=
  bif geq p1 0 then
    some cp
  else
    some su
theorem s_X0_setting {cp : Nat} {su : Nat} {p1 : Nat} {Xcp : Int32} {Xsu : Int32} {Xp1 : Int32} {r0 : Nat} (h : g_X0_setting cp su p1 = some r0) (ecp : Xcp = nI cp) (esu : Xsu = nI su) (ep1 : Xp1 = nI p1) : f_X0_setting Xcp Xsu Xp1 = some (nI r0) := by
  subst ecp esu ep1
  unfold g_X0_setting at h
  unfold f_X0_setting
  rcases g_if h with ⟨c1, h⟩ | ⟨c1, h⟩
  · refine (if_pos (seq_t rfl rfl c1)).trans ?_
    have w0 := Option.some.inj h
    subst w0
    exact congrArg some rfl
  · refine (if_neg (seq_f rfl rfl c1)).trans ?_
    have w0 := Option.some.inj h
    subst w0
    exact congrArg some rfl
def g_X0_changeSetting (cp : Nat) (su : Nat) (p1 : Nat) (p2 : Nat) : Option (Nat × Nat) :=
  bif geq p1 0 then
    some (p2, su)
  else
    some (cp, p2)
theorem s_X0_changeSetting {cp : Nat} {su : Nat} {p1 : Nat} {p2 : Nat} {Xcp : Int32} {Xsu : Int32} {Xp1 : Int32} {Xp2 : Int32} {r0 : Nat} {r1 : Nat} (h : g_X0_changeSetting cp su p1 p2 = some (r0, r1)) (ecp : Xcp = nI cp) (esu : Xsu = nI su) (ep1 : Xp1 = nI p1) (ep2 : Xp2 = nI p2) : f_X0_changeSetting Xcp Xsu Xp1 Xp2 = some (nI r0, nI r1) := by
  subst ecp esu ep1 ep2
  unfold g_X0_changeSetting at h
  unfold f_X0_changeSetting
  rcases g_if h with ⟨c1, h⟩ | ⟨c1, h⟩
  · refine (if_pos (seq_t rfl rfl c1)).trans ?_
    have w0 := Option.some.inj h
    obtain ⟨q0, w1⟩ := Prod.mk.inj w0
    subst q0
    subst w1
    exact congrArg some (tup2 rfl rfl)
  · refine (if_neg (seq_f rfl rfl c1)).trans ?_
    have w0 := Option.some.inj h
    obtain ⟨q0, w1⟩ := Prod.mk.inj w0
    subst q0
    subst w1
    exact congrArg some (tup2 rfl rfl)
def g_X1_size (hn : Nat) : Option (Nat) :=
  some hn
theorem s_X1_size {hn : Nat} {Xhn : Int32} {r0 : Nat} (h : g_X1_size hn = some r0) (ehn : Xhn = nI hn) : f_X1_size Xhn = some (nI r0) := by
  subst ehn
  unfold g_X1_size at h
  unfold f_X1_size
  have w0 := Option.some.inj h
  subst w0
  exact congrArg some rfl
def g_X5_isTable (p0 : Nat) : Option (Nat) :=
  bif glt p0 0 then
    some 0
  else
    bif gle 256 p0 then
      some 0
    else
      some 1
theorem s_X5_isTable {p0 : Nat} {Xp0 : Int32} {r0 : Nat} (h : g_X5_isTable p0 = some r0) (ep0 : Xp0 = nI p0) : f_X5_isTable Xp0 = some (nI r0) := by
  subst ep0
  unfold g_X5_isTable at h
  unfold f_X5_isTable
  rcases g_if h with ⟨c2, h⟩ | ⟨c2, h⟩
  · refine (if_pos (slt_t rfl rfl c2)).trans ?_
    have w0 := Option.some.inj h
    subst w0
    exact congrArg some rfl
  · refine (if_neg (slt_f rfl rfl c2)).trans ?_
    rcases g_if h with ⟨c1, h⟩ | ⟨c1, h⟩
    · refine (if_pos (sle_t rfl rfl c1)).trans ?_
      have w0 := Option.some.inj h
      subst w0
      exact congrArg some rfl
    · refine (if_neg (sle_f rfl rfl c1)).trans ?_
      have w0 := Option.some.inj h
      subst w0
      exact congrArg some rfl
def g_X5_isInput (p0 : Nat) : Option (Nat) :=
  bif glt p0 0 then
    some 0
  else
    bif gle 3 p0 then
      some 0
    else
      some 1
theorem s_X5_isInput {p0 : Nat} {Xp0 : Int32} {r0 : Nat} (h : g_X5_isInput p0 = some r0) (ep0 : Xp0 = nI p0) : f_X5_isInput Xp0 = some (nI r0) := by
  subst ep0
  unfold g_X5_isInput at h
  unfold f_X5_isInput
  rcases g_if h with ⟨c2, h⟩ | ⟨c2, h⟩
  · refine (if_pos (slt_t rfl rfl c2)).trans ?_
    have w0 := Option.some.inj h
    subst w0
    exact congrArg some rfl
  · refine (if_neg (slt_f rfl rfl c2)).trans ?_
    rcases g_if h with ⟨c1, h⟩ | ⟨c1, h⟩
    · refine (if_pos (sle_t rfl rfl c1)).trans ?_
      have w0 := Option.some.inj h
      subst w0
      exact congrArg some rfl
    · refine (if_neg (sle_f rfl rfl c1)).trans ?_
      have w0 := Option.some.inj h
      subst w0
      exact congrArg some rfl
