/-! the words of the law's own methods: each its own code, and behind it the words of the law -/
theorem ga_wsL_law_r1 : ∀ w ∈ wsL_law_r1, goodWord w = true := List.all_eq_true.mp gw_wsL_law_r1
theorem ga_wsL_law_r2 : ∀ w ∈ wsL_law_r2, goodWord w = true := List.all_eq_true.mp gw_wsL_law_r2
theorem ga_wsL_law_r3 : ∀ w ∈ wsL_law_r3, goodWord w = true := List.all_eq_true.mp gw_wsL_law_r3
theorem ga_wsL_law_r4 : ∀ w ∈ wsL_law_r4, goodWord w = true := List.all_eq_true.mp gw_wsL_law_r4
theorem ga_wsL_law_r5 : ∀ w ∈ wsL_law_r5, goodWord w = true := List.all_eq_true.mp gw_wsL_law_r5
theorem ga_wsL_law_r6 : ∀ w ∈ wsL_law_r6, goodWord w = true := List.all_eq_true.mp gw_wsL_law_r6
theorem ga_wsL_law_r7 : ∀ w ∈ wsL_law_r7, goodWord w = true := List.all_eq_true.mp gw_wsL_law_r7
theorem ga_wsL_law_r8 : ∀ w ∈ wsL_law_r8, goodWord w = true := List.all_eq_true.mp gw_wsL_law_r8
theorem ga_wsL_law_r9 : ∀ w ∈ wsL_law_r9, goodWord w = true := List.all_eq_true.mp gw_wsL_law_r9
theorem ga_wsL_law_r10 : ∀ w ∈ wsL_law_r10, goodWord w = true := List.all_eq_true.mp gw_wsL_law_r10
theorem ga_wsL_law_r11 : ∀ w ∈ wsL_law_r11, goodWord w = true := List.all_eq_true.mp gw_wsL_law_r11
theorem ga_wsL_law_r12 : ∀ w ∈ wsL_law_r12, goodWord w = true := List.all_eq_true.mp gw_wsL_law_r12
theorem ga_wsL_law_r13 : ∀ w ∈ wsL_law_r13, goodWord w = true := List.all_eq_true.mp gw_wsL_law_r13
theorem ga_wsL_law_r14 : ∀ w ∈ wsL_law_r14, goodWord w = true := List.all_eq_true.mp gw_wsL_law_r14
theorem ga_wsL_law_r15 : ∀ w ∈ wsL_law_r15, goodWord w = true := List.all_eq_true.mp gw_wsL_law_r15
theorem ga_wsL_law_r16 : ∀ w ∈ wsL_law_r16, goodWord w = true := List.all_eq_true.mp gw_wsL_law_r16
theorem ga_wsL_law_r17 : ∀ w ∈ wsL_law_r17, goodWord w = true := List.all_eq_true.mp gw_wsL_law_r17
theorem ga_wsL_law_r18 : ∀ w ∈ wsL_law_r18, goodWord w = true := List.all_eq_true.mp gw_wsL_law_r18
theorem ga_wsL_law_r19 : ∀ w ∈ wsL_law_r19, goodWord w = true := List.all_eq_true.mp gw_wsL_law_r19
theorem ga_wsL_law_r20 : ∀ w ∈ wsL_law_r20, goodWord w = true := List.all_eq_true.mp gw_wsL_law_r20
theorem ga_wsL_law_r21 : ∀ w ∈ wsL_law_r21, goodWord w = true := List.all_eq_true.mp gw_wsL_law_r21
theorem ga_wsL_law_r22 : ∀ w ∈ wsL_law_r22, goodWord w = true := List.all_eq_true.mp gw_wsL_law_r22
theorem ga_wsL_law_r23 : ∀ w ∈ wsL_law_r23, goodWord w = true := List.all_eq_true.mp gw_wsL_law_r23
theorem ga_wsX50 : ∀ w ∈ wsX50, goodWord w = true := List.all_eq_true.mp gw_wsX50
theorem ga_wsX00 : ∀ w ∈ wsX00, goodWord w = true := List.all_eq_true.mp gw_wsX00
theorem ga_wsX10 : ∀ w ∈ wsX10, goodWord w = true := List.all_eq_true.mp gw_wsX10
theorem ga_wsX20 : ∀ w ∈ wsX20, goodWord w = true := List.all_eq_true.mp gw_wsX20
theorem ga_wsX30 : ∀ w ∈ wsX30, goodWord w = true := List.all_eq_true.mp gw_wsX30
theorem ga_wsX40 : ∀ w ∈ wsX40, goodWord w = true := List.all_eq_true.mp gw_wsX40
theorem gw_law : ∀ w ∈ wsL_law, goodWord w = true := by
  unfold wsL_law
  exact List.forall_mem_append.mpr ⟨List.forall_mem_append.mpr ⟨List.forall_mem_append.mpr ⟨List.forall_mem_append.mpr ⟨List.forall_mem_append.mpr ⟨List.forall_mem_append.mpr ⟨List.forall_mem_append.mpr ⟨List.forall_mem_append.mpr ⟨ga_wsL_law_r1, List.forall_mem_append.mpr ⟨ga_wsL_law_r2, List.forall_mem_append.mpr ⟨ga_wsL_law_r3, List.forall_mem_append.mpr ⟨ga_wsL_law_r4, List.forall_mem_append.mpr ⟨ga_wsL_law_r5, List.forall_mem_append.mpr ⟨ga_wsL_law_r6, List.forall_mem_append.mpr ⟨ga_wsL_law_r7, List.forall_mem_append.mpr ⟨ga_wsL_law_r8, List.forall_mem_append.mpr ⟨ga_wsL_law_r9, List.forall_mem_append.mpr ⟨ga_wsL_law_r10, List.forall_mem_append.mpr ⟨ga_wsL_law_r11, List.forall_mem_append.mpr ⟨ga_wsL_law_r12, List.forall_mem_append.mpr ⟨ga_wsL_law_r13, List.forall_mem_append.mpr ⟨ga_wsL_law_r14, List.forall_mem_append.mpr ⟨ga_wsL_law_r15, List.forall_mem_append.mpr ⟨ga_wsL_law_r16, List.forall_mem_append.mpr ⟨ga_wsL_law_r17, List.forall_mem_append.mpr ⟨ga_wsL_law_r18, List.forall_mem_append.mpr ⟨ga_wsL_law_r19, List.forall_mem_append.mpr ⟨ga_wsL_law_r20, List.forall_mem_append.mpr ⟨ga_wsL_law_r21, List.forall_mem_append.mpr ⟨ga_wsL_law_r22, ga_wsL_law_r23⟩⟩⟩⟩⟩⟩⟩⟩⟩⟩⟩⟩⟩⟩⟩⟩⟩⟩⟩⟩⟩⟩, ga_wsX50⟩, ga_wsX00⟩, ga_wsX10⟩, ga_wsX20⟩, ga_wsX30⟩, ga_wsX40⟩, fun _ h => absurd h List.not_mem_nil⟩
theorem gw_self : GoodIn wsL_law wsL_law := fun w h => ⟨h, good_of_word (gw_law w h)⟩
def wsB_part : List Cond := Cond.code yL_part cL_part 2 (some .int) :: wsL_law
theorem su_part : ∀ w ∈ wsL_law, w ∈ wsB_part := fun w h => List.mem_cons_of_mem _ h
set_option maxRecDepth 20000 in
theorem mc_part : Cond.code yL_part cL_part 2 (some .int) ∈ wsL_law := List.mem_of_getElem? (i := 539) rfl
theorem gc_part : GoodIn wsL_law [Cond.code yL_part cL_part 2 (some .int)] := fun w h => gw_self w (by rw [List.mem_singleton.mp h]; exact mc_part)
set_option maxRecDepth 20000 in
theorem gs_part : GoodIn wsL_law [Cond.methodLink RL 173 yL_part, Cond.static yL_part, Cond.initialized RL] := goodIn_r _ [537, 538, 6] (by decide +kernel) (by decide +kernel)
theorem gB_part : GoodIn wsL_law (va_wsS RL 173 yL_part wsB_part) := goodIn_app gs_part (goodIn_app (a := [Cond.code yL_part cL_part 2 (some .int)]) gc_part gw_self)
abbrev rm_part : Room := { frames := 0, cells := 0, slots := 0, locals := 20 }
theorem kL_part : xb_YP yL_part cL_part wsB_part 2 (some .int) rm_part 2 0 0 := ⟨⟨_, rfl⟩, by decide, ⟨by decide, by decide, by decide +kernel⟩, rfl, rfl⟩
def wsB_drawn : List Cond := Cond.code yL_drawn cL_drawn 2 (some .int) :: wsL_law
theorem su_drawn : ∀ w ∈ wsL_law, w ∈ wsB_drawn := fun w h => List.mem_cons_of_mem _ h
set_option maxRecDepth 20000 in
theorem mc_drawn : Cond.code yL_drawn cL_drawn 2 (some .int) ∈ wsL_law := List.mem_of_getElem? (i := 535) rfl
theorem gc_drawn : GoodIn wsL_law [Cond.code yL_drawn cL_drawn 2 (some .int)] := fun w h => gw_self w (by rw [List.mem_singleton.mp h]; exact mc_drawn)
set_option maxRecDepth 20000 in
theorem gs_drawn : GoodIn wsL_law [Cond.methodLink RL 169 yL_drawn, Cond.static yL_drawn, Cond.initialized RL] := goodIn_r _ [533, 534, 6] (by decide +kernel) (by decide +kernel)
theorem gB_drawn : GoodIn wsL_law (va_wsS RL 169 yL_drawn wsB_drawn) := goodIn_app gs_drawn (goodIn_app (a := [Cond.code yL_drawn cL_drawn 2 (some .int)]) gc_drawn gw_self)
abbrev rm_drawn : Room := { frames := 0, cells := 0, slots := 0, locals := 20 }
theorem kL_drawn : xb_YP yL_drawn cL_drawn wsB_drawn 2 (some .int) rm_drawn 2 0 0 := ⟨⟨_, rfl⟩, by decide, ⟨by decide, by decide, by decide +kernel⟩, rfl, rfl⟩
def wsB_seen : List Cond := Cond.code yL_seen cL_seen 5 (some .long) :: wsL_law
theorem su_seen : ∀ w ∈ wsL_law, w ∈ wsB_seen := fun w h => List.mem_cons_of_mem _ h
set_option maxRecDepth 20000 in
theorem mc_seen : Cond.code yL_seen cL_seen 5 (some .long) ∈ wsL_law := List.mem_of_getElem? (i := 360) rfl
theorem gc_seen : GoodIn wsL_law [Cond.code yL_seen cL_seen 5 (some .long)] := fun w h => gw_self w (by rw [List.mem_singleton.mp h]; exact mc_seen)
set_option maxRecDepth 20000 in
theorem gs_seen : GoodIn wsL_law [Cond.methodLink RL 65 yL_seen, Cond.static yL_seen, Cond.initialized RL] := goodIn_r _ [358, 359, 6] (by decide +kernel) (by decide +kernel)
theorem gB_seen : GoodIn wsL_law (va_wsS RL 65 yL_seen wsB_seen) := goodIn_app gs_seen (goodIn_app (a := [Cond.code yL_seen cL_seen 5 (some .long)]) gc_seen gw_self)
abbrev rm_seen : Room := { frames := 7, cells := 0, slots := 0, locals := 190 }
theorem kL_seen : xb_YP yL_seen cL_seen wsB_seen 5 (some .long) rm_seen 1 0 0 := ⟨⟨_, rfl⟩, by decide, ⟨by decide, by decide, by decide +kernel⟩, rfl, rfl⟩
def wsB_refusesAny : List Cond := Cond.code yL_refusesAny cL_refusesAny 3 (some .boolean) :: wsL_law
theorem su_refusesAny : ∀ w ∈ wsL_law, w ∈ wsB_refusesAny := fun w h => List.mem_cons_of_mem _ h
set_option maxRecDepth 20000 in
theorem mc_refusesAny : Cond.code yL_refusesAny cL_refusesAny 3 (some .boolean) ∈ wsL_law := List.mem_of_getElem? (i := 405) rfl
theorem gc_refusesAny : GoodIn wsL_law [Cond.code yL_refusesAny cL_refusesAny 3 (some .boolean)] := fun w h => gw_self w (by rw [List.mem_singleton.mp h]; exact mc_refusesAny)
set_option maxRecDepth 20000 in
theorem gs_refusesAny : GoodIn wsL_law [Cond.methodLink RL 69 yL_refusesAny, Cond.static yL_refusesAny, Cond.initialized RL] := goodIn_r _ [403, 404, 6] (by decide +kernel) (by decide +kernel)
theorem gB_refusesAny : GoodIn wsL_law (va_wsS RL 69 yL_refusesAny wsB_refusesAny) := goodIn_app gs_refusesAny (goodIn_app (a := [Cond.code yL_refusesAny cL_refusesAny 3 (some .boolean)]) gc_refusesAny gw_self)
abbrev rm_refusesAny : Room := { frames := 7, cells := 0, slots := 0, locals := 190 }
theorem kL_refusesAny : xb_YP yL_refusesAny cL_refusesAny wsB_refusesAny 3 (some .boolean) rm_refusesAny 2 0 0 := ⟨⟨_, rfl⟩, by decide, ⟨by decide, by decide, by decide +kernel⟩, rfl, rfl⟩
def wsB_refused : List Cond := Cond.code yL_refused cL_refused 6 (some .boolean) :: wsL_law
theorem su_refused : ∀ w ∈ wsL_law, w ∈ wsB_refused := fun w h => List.mem_cons_of_mem _ h
set_option maxRecDepth 20000 in
theorem mc_refused : Cond.code yL_refused cL_refused 6 (some .boolean) ∈ wsL_law := List.mem_of_getElem? (i := 357) rfl
theorem gc_refused : GoodIn wsL_law [Cond.code yL_refused cL_refused 6 (some .boolean)] := fun w h => gw_self w (by rw [List.mem_singleton.mp h]; exact mc_refused)
set_option maxRecDepth 20000 in
theorem gs_refused : GoodIn wsL_law [Cond.methodLink RL 84 yL_refused, Cond.static yL_refused, Cond.initialized RL] := goodIn_r _ [355, 356, 6] (by decide +kernel) (by decide +kernel)
theorem gB_refused : GoodIn wsL_law (va_wsS RL 84 yL_refused wsB_refused) := goodIn_app gs_refused (goodIn_app (a := [Cond.code yL_refused cL_refused 6 (some .boolean)]) gc_refused gw_self)
abbrev rm_refused : Room := { frames := 8, cells := 0, slots := 0, locals := 220 }
theorem kL_refused : xb_YP yL_refused cL_refused wsB_refused 6 (some .boolean) rm_refused 2 0 0 := ⟨⟨_, rfl⟩, by decide, ⟨by decide, by decide, by decide +kernel⟩, rfl, rfl⟩
def wsB_two : List Cond := Cond.code yL_two cL_two 1 (some .boolean) :: wsL_law
theorem su_two : ∀ w ∈ wsL_law, w ∈ wsB_two := fun w h => List.mem_cons_of_mem _ h
set_option maxRecDepth 20000 in
theorem mc_two : Cond.code yL_two cL_two 1 (some .boolean) ∈ wsL_law := List.mem_of_getElem? (i := 7) rfl
theorem gc_two : GoodIn wsL_law [Cond.code yL_two cL_two 1 (some .boolean)] := fun w h => gw_self w (by rw [List.mem_singleton.mp h]; exact mc_two)
set_option maxRecDepth 20000 in
theorem gs_two : GoodIn wsL_law [Cond.methodLink RL 156 yL_two, Cond.static yL_two, Cond.initialized RL] := goodIn_r _ [4, 5, 6] (by decide +kernel) (by decide +kernel)
theorem gB_two : GoodIn wsL_law (va_wsS RL 156 yL_two wsB_two) := goodIn_app gs_two (goodIn_app (a := [Cond.code yL_two cL_two 1 (some .boolean)]) gc_two gw_self)
abbrev rm_two : Room := { frames := 9, cells := 53, slots := 13855, locals := 250 }
theorem kL_two : xb_YP yL_two cL_two wsB_two 1 (some .boolean) rm_two 0 53 13855 := ⟨⟨_, rfl⟩, by decide, ⟨by decide, by decide, by decide +kernel⟩, rfl, rfl⟩
def wsB_crowded : List Cond := Cond.code yL_crowded cL_crowded 1 (some .boolean) :: wsL_law
theorem su_crowded : ∀ w ∈ wsL_law, w ∈ wsB_crowded := fun w h => List.mem_cons_of_mem _ h
set_option maxRecDepth 20000 in
theorem mc_crowded : Cond.code yL_crowded cL_crowded 1 (some .boolean) ∈ wsL_law := List.mem_of_getElem? (i := 432) rfl
theorem gc_crowded : GoodIn wsL_law [Cond.code yL_crowded cL_crowded 1 (some .boolean)] := fun w h => gw_self w (by rw [List.mem_singleton.mp h]; exact mc_crowded)
set_option maxRecDepth 20000 in
theorem gs_crowded : GoodIn wsL_law [Cond.methodLink RL 160 yL_crowded, Cond.static yL_crowded, Cond.initialized RL] := goodIn_r _ [430, 431, 6] (by decide +kernel) (by decide +kernel)
theorem gB_crowded : GoodIn wsL_law (va_wsS RL 160 yL_crowded wsB_crowded) := goodIn_app gs_crowded (goodIn_app (a := [Cond.code yL_crowded cL_crowded 1 (some .boolean)]) gc_crowded gw_self)
abbrev rm_crowded : Room := { frames := 9, cells := 53, slots := 13855, locals := 250 }
theorem kL_crowded : xb_YP yL_crowded cL_crowded wsB_crowded 1 (some .boolean) rm_crowded 0 53 13855 := ⟨⟨_, rfl⟩, by decide, ⟨by decide, by decide, by decide +kernel⟩, rfl, rfl⟩
def wsB_types : List Cond := Cond.code yL_types cL_types 6 (some .boolean) :: wsL_law
theorem su_types : ∀ w ∈ wsL_law, w ∈ wsB_types := fun w h => List.mem_cons_of_mem _ h
set_option maxRecDepth 20000 in
theorem mc_types : Cond.code yL_types cL_types 6 (some .boolean) ∈ wsL_law := List.mem_of_getElem? (i := 467) rfl
theorem gc_types : GoodIn wsL_law [Cond.code yL_types cL_types 6 (some .boolean)] := fun w h => gw_self w (by rw [List.mem_singleton.mp h]; exact mc_types)
set_option maxRecDepth 20000 in
theorem gs_types : GoodIn wsL_law [Cond.methodLink RL 96 yL_types, Cond.static yL_types, Cond.initialized RL] := goodIn_r _ [465, 466, 6] (by decide +kernel) (by decide +kernel)
theorem gB_types : GoodIn wsL_law (va_wsS RL 96 yL_types wsB_types) := goodIn_app gs_types (goodIn_app (a := [Cond.code yL_types cL_types 6 (some .boolean)]) gc_types gw_self)
abbrev rm_types : Room := { frames := 7, cells := 0, slots := 0, locals := 190 }
theorem kL_types : xb_YP yL_types cL_types wsB_types 6 (some .boolean) rm_types 2 0 0 := ⟨⟨_, rfl⟩, by decide, ⟨by decide, by decide, by decide +kernel⟩, rfl, rfl⟩
def wsB_told : List Cond := Cond.code yL_told cL_told 6 (some .int) :: wsL_law
theorem su_told : ∀ w ∈ wsL_law, w ∈ wsB_told := fun w h => List.mem_cons_of_mem _ h
set_option maxRecDepth 20000 in
theorem mc_told : Cond.code yL_told cL_told 6 (some .int) ∈ wsL_law := List.mem_of_getElem? (i := 464) rfl
theorem gc_told : GoodIn wsL_law [Cond.code yL_told cL_told 6 (some .int)] := fun w h => gw_self w (by rw [List.mem_singleton.mp h]; exact mc_told)
set_option maxRecDepth 20000 in
theorem gs_told : GoodIn wsL_law [Cond.methodLink RL 105 yL_told, Cond.static yL_told, Cond.initialized RL] := goodIn_r _ [462, 463, 6] (by decide +kernel) (by decide +kernel)
theorem gB_told : GoodIn wsL_law (va_wsS RL 105 yL_told wsB_told) := goodIn_app gs_told (goodIn_app (a := [Cond.code yL_told cL_told 6 (some .int)]) gc_told gw_self)
abbrev rm_told : Room := { frames := 8, cells := 53, slots := 13855, locals := 220 }
theorem kL_told : xb_YP yL_told cL_told wsB_told 6 (some .int) rm_told 2 53 13855 := ⟨⟨_, rfl⟩, by decide, ⟨by decide, by decide, by decide +kernel⟩, rfl, rfl⟩
def wsB_texts : List Cond := Cond.code yL_texts cL_texts 2 (some .boolean) :: wsL_law
theorem su_texts : ∀ w ∈ wsL_law, w ∈ wsB_texts := fun w h => List.mem_cons_of_mem _ h
set_option maxRecDepth 20000 in
theorem mc_texts : Cond.code yL_texts cL_texts 2 (some .boolean) ∈ wsL_law := List.mem_of_getElem? (i := 438) rfl
theorem gc_texts : GoodIn wsL_law [Cond.code yL_texts cL_texts 2 (some .boolean)] := fun w h => gw_self w (by rw [List.mem_singleton.mp h]; exact mc_texts)
set_option maxRecDepth 20000 in
theorem gs_texts : GoodIn wsL_law [Cond.methodLink RL 166 yL_texts, Cond.static yL_texts, Cond.initialized RL] := goodIn_r _ [436, 437, 6] (by decide +kernel) (by decide +kernel)
theorem gB_texts : GoodIn wsL_law (va_wsS RL 166 yL_texts wsB_texts) := goodIn_app gs_texts (goodIn_app (a := [Cond.code yL_texts cL_texts 2 (some .boolean)]) gc_texts gw_self)
abbrev rm_texts : Room := { frames := 9, cells := 1007, slots := 263245, locals := 250 }
theorem kL_texts : xb_YP yL_texts cL_texts wsB_texts 2 (some .boolean) rm_texts 0 1007 263245 := ⟨⟨_, rfl⟩, by decide, ⟨by decide, by decide, by decide +kernel⟩, rfl, rfl⟩
def wsB_whole : List Cond := Cond.code yL_whole cL_whole 3 (some .boolean) :: wsL_law
theorem su_whole : ∀ w ∈ wsL_law, w ∈ wsB_whole := fun w h => List.mem_cons_of_mem _ h
set_option maxRecDepth 20000 in
theorem mc_whole : Cond.code yL_whole cL_whole 3 (some .boolean) ∈ wsL_law := List.mem_of_getElem? (i := 435) rfl
theorem gc_whole : GoodIn wsL_law [Cond.code yL_whole cL_whole 3 (some .boolean)] := fun w h => gw_self w (by rw [List.mem_singleton.mp h]; exact mc_whole)
set_option maxRecDepth 20000 in
theorem gs_whole : GoodIn wsL_law [Cond.methodLink RL 163 yL_whole, Cond.static yL_whole, Cond.initialized RL] := goodIn_r _ [433, 434, 6] (by decide +kernel) (by decide +kernel)
theorem gB_whole : GoodIn wsL_law (va_wsS RL 163 yL_whole wsB_whole) := goodIn_app gs_whole (goodIn_app (a := [Cond.code yL_whole cL_whole 3 (some .boolean)]) gc_whole gw_self)
abbrev rm_whole : Room := { frames := 9, cells := 53, slots := 13855, locals := 250 }
theorem kL_whole : xb_YP yL_whole cL_whole wsB_whole 3 (some .boolean) rm_whole 0 53 13855 := ⟨⟨_, rfl⟩, by decide, ⟨by decide, by decide, by decide +kernel⟩, rfl, rfl⟩
theorem wc_9 : Cond.constantLong RL 9 (103) ∈ wsL_law := List.mem_of_getElem? (i := 361) (by decide +kernel)
theorem wc_11 : Cond.constantLong RL 11 (31) ∈ wsL_law := List.mem_of_getElem? (i := 362) (by decide +kernel)
theorem wc_103 : Cond.constantLong RL 103 (12852) ∈ wsL_law := List.mem_of_getElem? (i := 439) (by decide +kernel)
theorem wc_109 : Cond.constantLong RL 109 (13117) ∈ wsL_law := List.mem_of_getElem? (i := 440) (by decide +kernel)
theorem wc_111 : Cond.constantLong RL 111 (3358000) ∈ wsL_law := List.mem_of_getElem? (i := 441) (by decide +kernel)
theorem wc_113 : Cond.constantLong RL 113 (859648071) ∈ wsL_law := List.mem_of_getElem? (i := 442) (by decide +kernel)
theorem wc_115 : Cond.constantLong RL 115 (220069900335) ∈ wsL_law := List.mem_of_getElem? (i := 443) (by decide +kernel)
theorem wc_117 : Cond.constantLong RL 117 (3692160253025268276) ∈ wsL_law := List.mem_of_getElem? (i := 444) (by decide +kernel)
theorem wc_119 : Cond.constantLong RL 119 (14422500988383288) ∈ wsL_law := List.mem_of_getElem? (i := 445) (by decide +kernel)
theorem wc_121 : Cond.constantLong RL 121 (56337894485810) ∈ wsL_law := List.mem_of_getElem? (i := 446) (by decide +kernel)
theorem wc_123 : Cond.constantLong RL 123 (3692160253021925168) ∈ wsL_law := List.mem_of_getElem? (i := 447) (by decide +kernel)
theorem wc_125 : Cond.constantLong RL 125 (3092527) ∈ wsL_law := List.mem_of_getElem? (i := 448) (by decide +kernel)
theorem wc_127 : Cond.constantLong RL 127 (12339) ∈ wsL_law := List.mem_of_getElem? (i := 449) (by decide +kernel)
theorem wc_129 : Cond.constantLong RL 129 (220069900347) ∈ wsL_law := List.mem_of_getElem? (i := 450) (by decide +kernel)
theorem wc_131 : Cond.constantLong RL 131 (215608026726) ∈ wsL_law := List.mem_of_getElem? (i := 451) (by decide +kernel)
theorem wc_133 : Cond.constantLong RL 133 (3475987471109537073) ∈ wsL_law := List.mem_of_getElem? (i := 452) (by decide +kernel)
theorem wc_135 : Cond.constantLong RL 135 (49) ∈ wsL_law := List.mem_of_getElem? (i := 453) (by decide +kernel)
theorem wc_137 : Cond.constantLong RL 137 (3836275441299438896) ∈ wsL_law := List.mem_of_getElem? (i := 454) (by decide +kernel)
theorem wc_139 : Cond.constantLong RL 139 (14422500988379956) ∈ wsL_law := List.mem_of_getElem? (i := 455) (by decide +kernel)
theorem wc_141 : Cond.constantLong RL 141 (14422500988379955) ∈ wsL_law := List.mem_of_getElem? (i := 456) (by decide +kernel)
theorem wc_143 : Cond.constantLong RL 143 (3548098941019173435) ∈ wsL_law := List.mem_of_getElem? (i := 457) (by decide +kernel)
theorem wc_145 : Cond.constantLong RL 145 (842870882) ∈ wsL_law := List.mem_of_getElem? (i := 458) (by decide +kernel)
theorem wc_147 : Cond.constantLong RL 147 (3475996267005358127) ∈ wsL_law := List.mem_of_getElem? (i := 459) (by decide +kernel)
theorem wc_149 : Cond.constantLong RL 149 (8084294694599802214) ∈ wsL_law := List.mem_of_getElem? (i := 460) (by decide +kernel)
theorem wc_151 : Cond.constantLong RL 151 (28481075704459316) ∈ wsL_law := List.mem_of_getElem? (i := 461) (by decide +kernel)
theorem wc_90 : Cond.constantLong RL 90 (255) ∈ wsL_law := List.mem_of_getElem? (i := 468) (by decide +kernel)
theorem wc_8 : Cond.constant RL 8 (2654435) ∈ wsL_law := List.mem_of_getElem? (i := 536) (by decide +kernel)
theorem wc_7 : Cond.constant RL 7 (2147483647) ∈ wsL_law := List.mem_of_getElem? (i := 540) (by decide +kernel)
theorem wn_link : Cond.classLink RL 14 RX5 ∈ wsL_law := List.mem_of_getElem? (i := 0) (by decide +kernel)
theorem wn_inst : Cond.instantiable RX5 8 ∈ wsL_law := List.mem_of_getElem? (i := 1) (by decide +kernel)
theorem wn_init : Cond.initialized RX5 ∈ wsL_law := List.mem_of_getElem? (i := 2) (by decide +kernel)
theorem wn_ml : Cond.methodLink RL 73 yX5_init ∈ wsL_law := List.mem_of_getElem? (i := 8) (by decide +kernel)
theorem wn_im : Cond.instanceMethod yX5_init ∈ wsL_law := List.mem_of_getElem? (i := 9) (by decide +kernel)
theorem wn_al : Cond.arrayClass .long ∈ wsL_law := List.mem_of_getElem? (i := 3) (by decide +kernel)
