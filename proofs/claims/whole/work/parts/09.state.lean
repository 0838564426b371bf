/-! ===== the cells of both sides, the facts of the start ===== -/
abbrev eAr (A : Nat → Int32) (cr : UInt32) : va_E := .inr (2, [.int (A 0), .int (A 1), .int (A 2), .int (A 3), .float cr, .int (A 5), .int (A 6), .int (A 7), .int (A 8), .int (A 9), .int (A 10), .int (A 11)])
abbrev eFl (h v : UInt64) : va_E := .inr (3, [.double h, .double v])
abbrev eMt (t : Nat → Int32) (la : UInt64) : va_E := .inr (4, [.int (t 0), .int (t 1), .int (t 2), .int (t 3), .int (t 4), .int (t 5), .int (t 6), .int (t 7), .int (t 8), .double la])
abbrev eQu (q : Nat → Int32) (st hh vv : Nat) : va_E := .inr (5, [.int (q 0), .int (q 1), .ref st, .ref hh, .ref vv])
abbrev eMn (m : Nat → Int32) (ar qu cu fl : Nat) : va_E := .inr (6, [.ref ar, .ref qu, .int (m 2), .int (m 3), .int (m 4), .int (m 5), .int (m 6), .int (m 7), .int (m 8), .int (m 9), .int (m 10), .int (m 11), .ref cu, .int (m 13), .int (m 14), .ref fl])
abbrev eXa (A : Nat → Int32) (cr : UInt32) : va_E := .inr (7, [.int (A 0), .int (A 1), .int (A 2), .int (A 3), .float cr, .int (A 5), .int (A 6), .int (A 7), .int (A 8), .int (A 9), .int (A 10), .int (A 11)])
abbrev eXq (q : Nat → Int32) (st hh vv : Nat) : va_E := .inr (8, [.int (q 0), .int (q 1), .ref st, .ref hh, .ref vv])
abbrev eMo (m : Nat → Int32) (ar qu pa po su : Nat) (ne h v : UInt64) (sm : Int64) : va_E := .inr (9, [.int (m 0), .ref ar, .ref qu, .int (m 3), .int (m 4), .int (m 5), .int (m 6), .int (m 7), .int (m 8), .int (m 9), .int (m 10), .int (m 11), .int (m 12), .ref pa, .ref po, .ref su, .double ne, .int (m 17), .int (m 18), .double h, .double v, .long sm])
abbrev eIt (cu la ex : Int32) (li : Nat) : va_E := .inr (0, [.int cu, .int la, .int ex, .ref li])
abbrev eAl (mc : Int32) (el : Nat) (sz : Int32) : va_E := .inr (1, [.int mc, .ref el, .int sz])
/-- the words of nest mates and of casts that the walk asks of the start -/
def nwL : List Cond := [.fieldLinkNest RJx35411 28 "java/util/ArrayList" "size" "I" "java/util/ArrayList", .fieldLinkNest RX7 64 "ArrowFieldModel$Archer" "draw" "I" "ArrowFieldModel", .fieldLinkNest RX7 67 "ArrowFieldModel$Archer" "steady" "I" "ArrowFieldModel", .fieldLinkNest RX7 97 "ArrowFieldModel$Archer" "sight" "I" "ArrowFieldModel", .fieldLinkNest RX7 100 "ArrowFieldModel$Archer" "nock" "I" "ArrowFieldModel", .fieldLinkNest RX7 103 "ArrowFieldModel$Archer" "creep" "F" "ArrowFieldModel", .fieldLinkNest RX7 56 "ArrowFieldModel$Archer" "quiver" "I" "ArrowFieldModel", .fieldLinkNest RX7 217 "ArrowFieldModel$Archer" "shots" "I" "ArrowFieldModel", .fieldLinkNest RX7 220 "ArrowFieldModel$Archer" "scores" "I" "ArrowFieldModel", .fieldLinkNest RX7 247 "ArrowFieldModel$Archer" "wins" "I" "ArrowFieldModel", .fieldLinkNest RX7 223 "ArrowFieldModel$Archer" "end" "I" "ArrowFieldModel", .fieldLinkNest RX7 226 "ArrowFieldModel$Archer" "arrows" "I" "ArrowFieldModel", .fieldLinkNest RX7 229 "ArrowFieldModel$Archer" "tens" "I" "ArrowFieldModel", .fieldLinkNest RX7 77 "ArrowFieldModel$Quiver" "mass" "I" "ArrowFieldModel", .fieldLinkNest RX7 80 "ArrowFieldModel$Quiver" "spine" "I" "ArrowFieldModel", .fieldLinkNest RX7 163 "ArrowFieldModel$Quiver" "where" "[I" "ArrowFieldModel", .fieldLinkNest RX7 166 "ArrowFieldModel$Quiver" "h" "[D" "ArrowFieldModel", .fieldLinkNest RX7 177 "ArrowFieldModel$Quiver" "v" "[D" "ArrowFieldModel", .methodLinkNest RX4 30 yX2_init "ArrowField", .methodLinkNest RX4 40 yX1_init "ArrowField", .methodLinkNest RX4 45 yX0_init "ArrowField", .methodLinkNest RX4 46 yX3_init "ArrowField", .methodLinkNest RX3 27 yX4_size "ArrowField", .methodLinkNest RX7 63 yX5_init "ArrowFieldModel", .methodLinkNest RX7 76 yX6_init "ArrowFieldModel", .castable "java/lang/IndexOutOfBoundsException" "java/lang/IndexOutOfBoundsException", .castable "java/lang/IllegalStateException" "java/lang/IllegalStateException", .castable "java/lang/IllegalArgumentException" "java/lang/IllegalArgumentException", .castable "ArrowFieldModel$Archer" "java/lang/Object", .castable "ArrowFieldModel$Quiver" "java/lang/Object", .castable "ArrowField$Archer" "ArrowField$Archer", .castable "ArrowField$Quiver" "ArrowField$Quiver", .castable "ArrowFieldModel$Archer" "ArrowFieldModel$Archer", .castable "ArrowFieldModel$Quiver" "ArrowFieldModel$Quiver", .castable "java/util/ArrayList$Itr" "java/util/Iterator", .declares (Bundle.initS "java/lang/RuntimeException"), .declares (Bundle.initS "java/lang/Exception"), .declares (Bundle.initS "java/lang/Throwable")]
def stL : List (Nat × String) := [(56, "there are 6 archers"), (70, "there are 6 quivers"), (90, "a match is on"), (113, "an arrow is stuck"), (124, "the field is closed"), (134, "the arrow is not here"), (139, "a match is on, and it is another one's turn"), (178, "nobody shoots a match alone"), (181, "an archer has no quiver"), (190, "no match is on"), (302, "a number is out of its range"), (306, "there is no such archer"), (309, "there is no such quiver"), (311, "there is no such arrow"), (313, "the archer has no quiver")]
/-- what is asked of the start: warm words, the two statics of Throwable, the texts of the class, the arrays' classes, the iterator's face, the empty list's array, the float zero's bits -/
def Base (s0 : State) : Prop := (∀ w ∈ nwL, va_Nw w s0) ∧ TZ s0 ∧ (∀ q ∈ stL, ∃ sa, vk_R RX4 q.1 q.2 sa s0) ∧ (va_AO "ArrowField$Archer" s0 ∧ va_AO "ArrowField$Quiver" s0 ∧ va_AO "java/lang/Object" s0) ∧
  (va_Fw RJx35411 ⟨"java/util/Iterator", "hasNext", "()Z"⟩ yJx35411_hasNext_aae02 s0 ∧ va_Fw RJx35411 ⟨"java/util/Iterator", "next", "()Ljava/lang/Object;"⟩ yJx35411_next_0502b s0)
theorem Base.fnRJx35411_28 {s0 : State} (B : Base s0) : va_Nw (.fieldLinkNest RJx35411 28 "java/util/ArrayList" "size" "I" "java/util/ArrayList") s0 := B.1 _ (List.mem_of_getElem? (i := 0) rfl)
theorem Base.fnRX7_64 {s0 : State} (B : Base s0) : va_Nw (.fieldLinkNest RX7 64 "ArrowFieldModel$Archer" "draw" "I" "ArrowFieldModel") s0 := B.1 _ (List.mem_of_getElem? (i := 1) rfl)
theorem Base.fnRX7_67 {s0 : State} (B : Base s0) : va_Nw (.fieldLinkNest RX7 67 "ArrowFieldModel$Archer" "steady" "I" "ArrowFieldModel") s0 := B.1 _ (List.mem_of_getElem? (i := 2) rfl)
theorem Base.fnRX7_97 {s0 : State} (B : Base s0) : va_Nw (.fieldLinkNest RX7 97 "ArrowFieldModel$Archer" "sight" "I" "ArrowFieldModel") s0 := B.1 _ (List.mem_of_getElem? (i := 3) rfl)
theorem Base.fnRX7_100 {s0 : State} (B : Base s0) : va_Nw (.fieldLinkNest RX7 100 "ArrowFieldModel$Archer" "nock" "I" "ArrowFieldModel") s0 := B.1 _ (List.mem_of_getElem? (i := 4) rfl)
theorem Base.fnRX7_103 {s0 : State} (B : Base s0) : va_Nw (.fieldLinkNest RX7 103 "ArrowFieldModel$Archer" "creep" "F" "ArrowFieldModel") s0 := B.1 _ (List.mem_of_getElem? (i := 5) rfl)
theorem Base.fnRX7_56 {s0 : State} (B : Base s0) : va_Nw (.fieldLinkNest RX7 56 "ArrowFieldModel$Archer" "quiver" "I" "ArrowFieldModel") s0 := B.1 _ (List.mem_of_getElem? (i := 6) rfl)
theorem Base.fnRX7_217 {s0 : State} (B : Base s0) : va_Nw (.fieldLinkNest RX7 217 "ArrowFieldModel$Archer" "shots" "I" "ArrowFieldModel") s0 := B.1 _ (List.mem_of_getElem? (i := 7) rfl)
theorem Base.fnRX7_220 {s0 : State} (B : Base s0) : va_Nw (.fieldLinkNest RX7 220 "ArrowFieldModel$Archer" "scores" "I" "ArrowFieldModel") s0 := B.1 _ (List.mem_of_getElem? (i := 8) rfl)
theorem Base.fnRX7_247 {s0 : State} (B : Base s0) : va_Nw (.fieldLinkNest RX7 247 "ArrowFieldModel$Archer" "wins" "I" "ArrowFieldModel") s0 := B.1 _ (List.mem_of_getElem? (i := 9) rfl)
theorem Base.fnRX7_223 {s0 : State} (B : Base s0) : va_Nw (.fieldLinkNest RX7 223 "ArrowFieldModel$Archer" "end" "I" "ArrowFieldModel") s0 := B.1 _ (List.mem_of_getElem? (i := 10) rfl)
theorem Base.fnRX7_226 {s0 : State} (B : Base s0) : va_Nw (.fieldLinkNest RX7 226 "ArrowFieldModel$Archer" "arrows" "I" "ArrowFieldModel") s0 := B.1 _ (List.mem_of_getElem? (i := 11) rfl)
theorem Base.fnRX7_229 {s0 : State} (B : Base s0) : va_Nw (.fieldLinkNest RX7 229 "ArrowFieldModel$Archer" "tens" "I" "ArrowFieldModel") s0 := B.1 _ (List.mem_of_getElem? (i := 12) rfl)
theorem Base.fnRX7_77 {s0 : State} (B : Base s0) : va_Nw (.fieldLinkNest RX7 77 "ArrowFieldModel$Quiver" "mass" "I" "ArrowFieldModel") s0 := B.1 _ (List.mem_of_getElem? (i := 13) rfl)
theorem Base.fnRX7_80 {s0 : State} (B : Base s0) : va_Nw (.fieldLinkNest RX7 80 "ArrowFieldModel$Quiver" "spine" "I" "ArrowFieldModel") s0 := B.1 _ (List.mem_of_getElem? (i := 14) rfl)
theorem Base.fnRX7_163 {s0 : State} (B : Base s0) : va_Nw (.fieldLinkNest RX7 163 "ArrowFieldModel$Quiver" "where" "[I" "ArrowFieldModel") s0 := B.1 _ (List.mem_of_getElem? (i := 15) rfl)
theorem Base.fnRX7_166 {s0 : State} (B : Base s0) : va_Nw (.fieldLinkNest RX7 166 "ArrowFieldModel$Quiver" "h" "[D" "ArrowFieldModel") s0 := B.1 _ (List.mem_of_getElem? (i := 16) rfl)
theorem Base.fnRX7_177 {s0 : State} (B : Base s0) : va_Nw (.fieldLinkNest RX7 177 "ArrowFieldModel$Quiver" "v" "[D" "ArrowFieldModel") s0 := B.1 _ (List.mem_of_getElem? (i := 17) rfl)
theorem Base.mnRX4_30 {s0 : State} (B : Base s0) : va_Nw (.methodLinkNest RX4 30 yX2_init "ArrowField") s0 := B.1 _ (List.mem_of_getElem? (i := 18) rfl)
theorem Base.mnRX4_40 {s0 : State} (B : Base s0) : va_Nw (.methodLinkNest RX4 40 yX1_init "ArrowField") s0 := B.1 _ (List.mem_of_getElem? (i := 19) rfl)
theorem Base.mnRX4_45 {s0 : State} (B : Base s0) : va_Nw (.methodLinkNest RX4 45 yX0_init "ArrowField") s0 := B.1 _ (List.mem_of_getElem? (i := 20) rfl)
theorem Base.mnRX4_46 {s0 : State} (B : Base s0) : va_Nw (.methodLinkNest RX4 46 yX3_init "ArrowField") s0 := B.1 _ (List.mem_of_getElem? (i := 21) rfl)
theorem Base.mnRX3_27 {s0 : State} (B : Base s0) : va_Nw (.methodLinkNest RX3 27 yX4_size "ArrowField") s0 := B.1 _ (List.mem_of_getElem? (i := 22) rfl)
theorem Base.mnRX7_63 {s0 : State} (B : Base s0) : va_Nw (.methodLinkNest RX7 63 yX5_init "ArrowFieldModel") s0 := B.1 _ (List.mem_of_getElem? (i := 23) rfl)
theorem Base.mnRX7_76 {s0 : State} (B : Base s0) : va_Nw (.methodLinkNest RX7 76 yX6_init "ArrowFieldModel") s0 := B.1 _ (List.mem_of_getElem? (i := 24) rfl)
theorem Base.caIO {s0 : State} (B : Base s0) : va_Nw (.castable "java/lang/IndexOutOfBoundsException" "java/lang/IndexOutOfBoundsException") s0 := B.1 _ (List.mem_of_getElem? (i := 25) rfl)
theorem Base.caIS {s0 : State} (B : Base s0) : va_Nw (.castable "java/lang/IllegalStateException" "java/lang/IllegalStateException") s0 := B.1 _ (List.mem_of_getElem? (i := 26) rfl)
theorem Base.caIA {s0 : State} (B : Base s0) : va_Nw (.castable "java/lang/IllegalArgumentException" "java/lang/IllegalArgumentException") s0 := B.1 _ (List.mem_of_getElem? (i := 27) rfl)
theorem Base.caXaO {s0 : State} (B : Base s0) : va_Nw (.castable "ArrowFieldModel$Archer" "java/lang/Object") s0 := B.1 _ (List.mem_of_getElem? (i := 28) rfl)
theorem Base.caXqO {s0 : State} (B : Base s0) : va_Nw (.castable "ArrowFieldModel$Quiver" "java/lang/Object") s0 := B.1 _ (List.mem_of_getElem? (i := 29) rfl)
theorem Base.caAr {s0 : State} (B : Base s0) : va_Nw (.castable "ArrowField$Archer" "ArrowField$Archer") s0 := B.1 _ (List.mem_of_getElem? (i := 30) rfl)
theorem Base.caQu {s0 : State} (B : Base s0) : va_Nw (.castable "ArrowField$Quiver" "ArrowField$Quiver") s0 := B.1 _ (List.mem_of_getElem? (i := 31) rfl)
theorem Base.caXa {s0 : State} (B : Base s0) : va_Nw (.castable "ArrowFieldModel$Archer" "ArrowFieldModel$Archer") s0 := B.1 _ (List.mem_of_getElem? (i := 32) rfl)
theorem Base.caXq {s0 : State} (B : Base s0) : va_Nw (.castable "ArrowFieldModel$Quiver" "ArrowFieldModel$Quiver") s0 := B.1 _ (List.mem_of_getElem? (i := 33) rfl)
theorem Base.caIt {s0 : State} (B : Base s0) : va_Nw (.castable "java/util/ArrayList$Itr" "java/util/Iterator") s0 := B.1 _ (List.mem_of_getElem? (i := 34) rfl)
theorem Base.deR {s0 : State} (B : Base s0) : va_Nw (.declares (Bundle.initS "java/lang/RuntimeException")) s0 := B.1 _ (List.mem_of_getElem? (i := 35) rfl)
theorem Base.deE {s0 : State} (B : Base s0) : va_Nw (.declares (Bundle.initS "java/lang/Exception")) s0 := B.1 _ (List.mem_of_getElem? (i := 36) rfl)
theorem Base.deT {s0 : State} (B : Base s0) : va_Nw (.declares (Bundle.initS "java/lang/Throwable")) s0 := B.1 _ (List.mem_of_getElem? (i := 37) rfl)
theorem Base.str56 {s0 : State} (B : Base s0) : ∃ sa, vk_R RX4 56 "there are 6 archers" sa s0 := B.2.2.1 _ (List.mem_of_getElem? (i := 0) rfl)
theorem Base.str70 {s0 : State} (B : Base s0) : ∃ sa, vk_R RX4 70 "there are 6 quivers" sa s0 := B.2.2.1 _ (List.mem_of_getElem? (i := 1) rfl)
theorem Base.str90 {s0 : State} (B : Base s0) : ∃ sa, vk_R RX4 90 "a match is on" sa s0 := B.2.2.1 _ (List.mem_of_getElem? (i := 2) rfl)
theorem Base.str113 {s0 : State} (B : Base s0) : ∃ sa, vk_R RX4 113 "an arrow is stuck" sa s0 := B.2.2.1 _ (List.mem_of_getElem? (i := 3) rfl)
theorem Base.str124 {s0 : State} (B : Base s0) : ∃ sa, vk_R RX4 124 "the field is closed" sa s0 := B.2.2.1 _ (List.mem_of_getElem? (i := 4) rfl)
theorem Base.str134 {s0 : State} (B : Base s0) : ∃ sa, vk_R RX4 134 "the arrow is not here" sa s0 := B.2.2.1 _ (List.mem_of_getElem? (i := 5) rfl)
theorem Base.str139 {s0 : State} (B : Base s0) : ∃ sa, vk_R RX4 139 "a match is on, and it is another one's turn" sa s0 := B.2.2.1 _ (List.mem_of_getElem? (i := 6) rfl)
theorem Base.str178 {s0 : State} (B : Base s0) : ∃ sa, vk_R RX4 178 "nobody shoots a match alone" sa s0 := B.2.2.1 _ (List.mem_of_getElem? (i := 7) rfl)
theorem Base.str181 {s0 : State} (B : Base s0) : ∃ sa, vk_R RX4 181 "an archer has no quiver" sa s0 := B.2.2.1 _ (List.mem_of_getElem? (i := 8) rfl)
theorem Base.str190 {s0 : State} (B : Base s0) : ∃ sa, vk_R RX4 190 "no match is on" sa s0 := B.2.2.1 _ (List.mem_of_getElem? (i := 9) rfl)
theorem Base.str302 {s0 : State} (B : Base s0) : ∃ sa, vk_R RX4 302 "a number is out of its range" sa s0 := B.2.2.1 _ (List.mem_of_getElem? (i := 10) rfl)
theorem Base.str306 {s0 : State} (B : Base s0) : ∃ sa, vk_R RX4 306 "there is no such archer" sa s0 := B.2.2.1 _ (List.mem_of_getElem? (i := 11) rfl)
theorem Base.str309 {s0 : State} (B : Base s0) : ∃ sa, vk_R RX4 309 "there is no such quiver" sa s0 := B.2.2.1 _ (List.mem_of_getElem? (i := 12) rfl)
theorem Base.str311 {s0 : State} (B : Base s0) : ∃ sa, vk_R RX4 311 "there is no such arrow" sa s0 := B.2.2.1 _ (List.mem_of_getElem? (i := 13) rfl)
theorem Base.str313 {s0 : State} (B : Base s0) : ∃ sa, vk_R RX4 313 "the archer has no quiver" sa s0 := B.2.2.1 _ (List.mem_of_getElem? (i := 14) rfl)
theorem Base.xIO {s0 : State} (B : Base s0) : ∀ w ∈ xB "java/lang/IndexOutOfBoundsException", va_Nw w s0 := fun w h => by
  simp only [xB, List.mem_cons, List.not_mem_nil, or_false] at h
  rcases h with rfl | rfl | rfl | rfl
  · exact B.caIO
  · exact B.deR
  · exact B.deE
  · exact B.deT
theorem Base.xIS {s0 : State} (B : Base s0) : ∀ w ∈ xB "java/lang/IllegalStateException", va_Nw w s0 := fun w h => by
  simp only [xB, List.mem_cons, List.not_mem_nil, or_false] at h
  rcases h with rfl | rfl | rfl | rfl
  · exact B.caIS
  · exact B.deR
  · exact B.deE
  · exact B.deT
theorem Base.xIA {s0 : State} (B : Base s0) : ∀ w ∈ xB "java/lang/IllegalArgumentException", va_Nw w s0 := fun w h => by
  simp only [xB, List.mem_cons, List.not_mem_nil, or_false] at h
  rcases h with rfl | rfl | rfl | rfl
  · exact B.caIA
  · exact B.deR
  · exact B.deE
  · exact B.deT
theorem Base.tz {s0 : State} (B : Base s0) : TZ s0 := B.2.1
/-! the pure words of the leaves -/
theorem n32_of {x : UInt32} (h : x.toNat % 2 ^ 31 ≤ 2139095040) : vf_n32 x := by
  unfold vf_n32
  rw [UInt32.le_iff_toNat_le, UInt32.toNat_and]
  rw [show ((0x7fffffff : UInt32)).toNat = 2 ^ 31 - 1 from by decide, Nat.and_two_pow_sub_one_eq_mod]
  exact h
def cntA (A : Nat → Int32) (x : Int32) : Nat → Int32 := fun k => if k = 6 then A 6 + 1 else if k = 7 then A 7 + x else if k = 9 then A 9 + x else if k = 10 then A 10 + 1 else if k = 11 then (if x = 10 then A 11 + 1 else A 11) else A k
def cntA_x (A : Nat → Int32) (x t : Int32) : Nat → Int32 := fun k => if k = 6 then A 6 + 1 else if k = 7 then A 7 + x else if k = 9 then A 9 + x else if k = 10 then A 10 + 1 else if k = 11 then t else A k
theorem cntA_t {A : Nat → Int32} {x : Int32} (h : x = 10) : cntA A x = cntA_x A x (A 11 + 1) := by funext k; unfold cntA cntA_x; rw [if_pos h]
theorem cntA_n {A : Nat → Int32} {x : Int32} (h : ¬ x = 10) : cntA A x = cntA_x A x (A 11) := by funext k; unfold cntA cntA_x; rw [if_neg h]
def fgtA (A : Nat → Int32) : Nat → Int32 := fun k => if k = 9 then 0 else if k = 10 then 0 else if k = 11 then 0 else A k
/-- the creep behind one more shot -/
def crNx (c : UInt32) : UInt32 := if FP.fcmp (FP.fadd c f256) f125 = some .gt then f125 else FP.fadd c f256
theorem crNx_n {c : UInt32} (h : CrOk c) : vf_n32 (FP.fadd c f256) := by
  obtain ⟨k, hk, rfl⟩ := h
  exact n32_of (crk_next k hk).2
theorem crNx_ok {c : UInt32} (h : CrOk c) : CrOk (crNx c) := by
  obtain ⟨k, hk, rfl⟩ := h
  unfold crNx
  rcases (crk_next k hk).1 with ⟨h1, h2⟩ | ⟨h1, -, h3⟩
  · rw [if_pos h1]
    exact ⟨32, by decide, crk_32.symm⟩
  · rw [if_neg h1]
    exact ⟨k + 1, by omega, rfl⟩
theorem cl_le0 (r : Option Ordering) : Op.cmpValue r .l ≤ 0 ↔ ¬ r = some .gt := by
  rcases r with _ | (_ | _ | _) <;> simp [Op.cmpValue] <;> decide
theorem crNx_s {c : UInt32} (h : Op.cmpValue (FP.fcmp (FP.fadd c f256) f125) .l ≤ 0) : crNx c = FP.fadd c f256 := if_neg ((cl_le0 _).mp h)
theorem crNx_c {c : UInt32} (h : ¬ Op.cmpValue (FP.fcmp (FP.fadd c f256) f125) .l ≤ 0) : crNx c = f125 := if_pos (Classical.byContradiction fun q => h ((cl_le0 _).mpr q))
def bsT (t : Nat → Int32) : Nat → Int32 := fun i => if i = 5 then 0 else if i = 6 then 0 else if i = 7 then 0 else t i
def bgT (x y : Int32) : Nat → Int32 := fun i => if i = 0 then 1 else if i = 1 then x else if i = 2 then y else 0
def bgP (t : Nat → Int32) (x y : Int32) : Nat → Int32 := fun i => if i = 0 then 1 else if i = 1 then x else if i = 2 then y else if i = 3 then 0 else if i = 4 then 0 else if i = 8 then 0 else t i
def ptF (x y : Int32) : Int32 := if x = y then 1 else if y < x then 2 else 0
def esT_x (t : Nat → Int32) (b : Int32) : Nat → Int32 := fun i => if i = 3 then t 3 + ptF (t 5) (t 6) else if i = 4 then t 4 + ptF (t 6) (t 5) else if i = 5 then 0 else if i = 6 then 0 else if i = 7 then 0 else if i = 8 then b else t i
def esP (t : Nat → Int32) : Nat → Int32 := fun i => if i = 3 then t 3 + ptF (t 5) (t 6) else if i = 4 then t 4 + ptF (t 6) (t 5) else t i
def esT (t : Nat → Int32) : Nat → Int32 := esT_x t (if t 3 + ptF (t 5) (t 6) < 4 then 0 else if t 4 + ptF (t 6) (t 5) < 4 then 0 else 1)
def esR (t : Nat → Int32) : Int32 := if t 3 + ptF (t 5) (t 6) < 4 then (if t 4 + ptF (t 6) (t 5) < 4 then -1 else t 2) else (if t 4 + ptF (t 6) (t 5) < 4 then t 1 else -1)
def clT (t : Nat → Int32) (k : Nat) : Nat → Int32 := fun i => if i = 7 then (if k % 2 = 0 then t 7 + 1 else 0) else t i
def clL (la d : UInt64) (k : Nat) : UInt64 := if k % 2 = 0 then d else la
def clR (t : Nat → Int32) (la d : UInt64) (k : Nat) : Int32 := if k % 2 = 0 then -1 else if dk d = dk la then -1 else if dk la < dk d then t 1 else t 2
def ctS (t : Nat → Int32) (x : Int32) (k : Nat) : Nat → Int32 := fun i => if i = 5 then (if k % 2 = 0 then t 5 + x else t 5) else if i = 6 then (if k % 2 = 0 then t 6 else t 6 + x) else if i = 7 then t 7 + 1 else t i
def ctT (t : Nat → Int32) (x : Int32) (k : Nat) : Nat → Int32 := if t 8 = 0 then (if 4 ≤ t 7 + 1 then esT (ctS t x k) else ctS t x k) else clT t k
def ctL (t : Nat → Int32) (la d : UInt64) (k : Nat) : UInt64 := if t 8 = 0 then la else clL la d k
def ctR (t : Nat → Int32) (la : UInt64) (x : Int32) (d : UInt64) (k : Nat) : Int32 := if t 8 = 0 then (if 4 ≤ t 7 + 1 then esR (ctS t x k) else -1) else clR t la d k
/-- the score of a hit so far off -/
abbrev d0078 : UInt64 := 4575657221408423936
def radF (face : Int32) (s : Int32) : UInt64 := FP.dadd (FP.ddiv (FP.i2d (face * (11 - s))) d64) d0078
def wthN (face : Int32) (far : UInt64) : Nat → Int32
  | 0 => 0
  | k + 1 => if dk far ≤ dk (FP.dmul (radF face (nI (k + 1))) (radF face (nI (k + 1)))) then nI (k + 1) else wthN face far k
theorem wthN_s {face : Int32} {far : UInt64} {k : Nat} : wthN face far (k + 1) = if dk far ≤ dk (FP.dmul (radF face (nI (k + 1))) (radF face (nI (k + 1)))) then nI (k + 1) else wthN face far k := rfl
abbrev wth (face : Int32) (far : UInt64) : Int32 := wthN face far 10
theorem radF_ok (face s : Int32) : vf_n64 (FP.ddiv (FP.i2d (face * (11 - s))) d64) ∧ vf_n64 (radF face s) ∧ Eb 1200 (FP.dmul (radF face s) (radF face s)) := by
  have b1 : Eb 1056 (FP.ddiv (FP.i2d (face * (11 - s))) d64) := (Eb.i2d _).d64 (by decide) (by decide)
  have b2 : Eb 1058 (radF face s) := b1.add (by unfold Eb; decide +kernel) (by decide)
  exact ⟨b1.n (by decide), b2.n (by decide), (b2.mul b2 (by decide) (by decide)).up (by decide)⟩
/-- how far off -/
def farF (h v : UInt64) : UInt64 := FP.dadd (FP.dmul h h) (FP.dmul v v)
theorem farF_ok {h v : UInt64} (hh : Eb 1420 h) (hv : Eb 1420 v) : vf_n64 (FP.dmul h h) ∧ vf_n64 (FP.dmul v v) ∧ vf_n64 (farF h v) ∧ Eb 1900 (farF h v) := by
  have b1 := hh.mul hh (by decide) (by decide)
  have b2 := hv.mul hv (by decide) (by decide)
  have b3 := b1.add b2 (by decide)
  exact ⟨b1.n (by decide), b2.n (by decide), b3.n (by decide), b3.up (by decide)⟩
/-- what SHAKE adds: to H of what is drawn modulo 8, to V of it by 8 -/
abbrev d35 : UInt64 := 4615063718147915776
abbrev d4096 : UInt64 := 4661225614328463360
def shkF (r steady dist : Int32) : UInt64 := FP.ddiv (FP.dmul (FP.dmul (FP.dsub (FP.i2d r) d35) (FP.i2d (9 - steady))) (FP.i2d dist)) d4096
theorem shkF_ok (r steady dist : Int32) : vf_n64 (FP.dsub (FP.i2d r) d35) ∧ vf_n64 (FP.dmul (FP.dsub (FP.i2d r) d35) (FP.i2d (9 - steady))) ∧ vf_n64 (FP.dmul (FP.dmul (FP.dsub (FP.i2d r) d35) (FP.i2d (9 - steady))) (FP.i2d dist)) ∧ vf_n64 (shkF r steady dist) ∧ Eb 1410 (shkF r steady dist) := by
  have b1 : Eb 1058 (FP.dsub (FP.i2d r) d35) := (Eb.i2d r).sub (by unfold Eb; decide +kernel) (by decide)
  have b2 := b1.mul (Eb.i2d (9 - steady)) (by decide) (by decide)
  have b3 := b2.mul (Eb.i2d dist) (by decide) (by decide)
  have b4 := Eb.div (L := 1035) (b := d4096) b3 (by decide +kernel) (by unfold Eb; decide +kernel) (by decide) (by decide)
  exact ⟨b1.n (by decide), b2.n (by decide), b3.n (by decide), b4.n (by decide), b4.up (by decide)⟩
theorem shk_add {h : UInt64} (hh : Eb 1410 h) (r steady dist : Int32) : vf_n64 (FP.dadd h (shkF r steady dist)) ∧ Eb 1412 (FP.dadd h (shkF r steady dist)) :=
  ⟨(hh.add (shkF_ok r steady dist).2.2.2.2 (by decide)).n (by decide), hh.add (shkF_ok r steady dist).2.2.2.2 (by decide)⟩
theorem tk_n {n : Nat} {t : Tk} (h : TkI n t) (hn : n ≤ 146) (w : Int32) : vf_n64 (FP.ddiv t.2.2.2.1 d16) ∧ vf_n64 (FP.ddiv t.2.2.2.2.1 d16) ∧ vf_n64 (FP.ddiv t.2.2.2.2.2 d16) ∧ vf_n64 (FP.ddiv t.2.2.2.1 d256) ∧ vf_n64 (FP.ddiv (FP.i2d w) d64) := by
  obtain ⟨⟨-, -, -, b4, b5, b6⟩, -, -⟩ := h
  exact ⟨(b4.d16 (by omega) (by omega)).n (by omega), (b5.d16 (by omega) (by omega)).n (by omega), (b6.d16 (by omega) (by omega)).n (by omega), (b4.d256 (by omega) (by omega)).n (by omega), ((Eb.i2d w).d64 (by decide) (by decide)).n (by decide)⟩
theorem nI_nle2 {k : Nat} (h : k ≤ 146) : ¬ (10000 : Int32) ≤ nI k := nI_ge (a := k) (b := 10000) (by omega) (by decide)
def eTag (x : va_E) : Nat := match x with
  | .inl a => (match a.2.2 with
    | .inl _ => 0
    | .inr (.inl _) => 1
    | .inr (.inr (.inl _)) => 2
    | .inr (.inr (.inr (.inl _))) => 3
    | .inr (.inr (.inr (.inr _))) => 4)
  | .inr o => 5 + o.1
/-- cells of two kinds are apart -/
theorem tag_ne {μ : mu} {a b : Nat} {x y : va_E} (hx : μ a = some x) (hy : μ b = some y) (h : Nat.beq (eTag x) (eTag y) = false) : a ≠ b := fun q => by
  rw [q, hy] at hx
  rw [Option.some.inj hx, Nat.beq_refl] at h
  cases h
/-- how many bits are set, as Integer.bitCount reckons -/
def bcU (x y : Int32) : Int32 := (x.toUInt32 >>> (y.toUInt32 &&& Int32.toUInt32 31)).toInt32
def bc1 (x : Int32) : Int32 := x - (bcU x 1 &&& 1431655765)
def bc2 (x : Int32) : Int32 := (bc1 x &&& 858993459) + (bcU (bc1 x) 2 &&& 858993459)
def bc3 (x : Int32) : Int32 := (bc2 x + bcU (bc2 x) 4) &&& 252645135
def bc4 (x : Int32) : Int32 := bc3 x + bcU (bc3 x) 8
def bc5 (x : Int32) : Int32 := bc4 x + bcU (bc4 x) 16
def bcF (x : Int32) : Int32 := bc5 x &&& 63
/-- a set of arrows, those of a state brought back, how many -/
def setN (f : Nat → Int32) (x : Int32) : Nat → Int32
  | 0 => 0
  | k + 1 => if f k = x then setN f x k ||| ((1 : Int32) <<< (nI k &&& 31)) else setN f x k
def bbF (f : Nat → Int32) (x : Int32) (n : Nat) : Nat → Int32 := fun k => if k < n ∧ f k = x then 0 else f k
def bbN (f : Nat → Int32) (x : Int32) : Nat → Nat
  | 0 => 0
  | k + 1 => if f k = x then bbN f x k + 1 else bbN f x k
theorem bbN_y {f : Nat → Int32} {x : Int32} {n : Nat} (h : f n = x) : bbN f x (n + 1) = bbN f x n + 1 := if_pos h
theorem bbN_n {f : Nat → Int32} {x : Int32} {n : Nat} (h : ¬ f n = x) : bbN f x (n + 1) = bbN f x n := if_neg h
theorem bbF_0 (f : Nat → Int32) (x : Int32) : bbF f x 0 = f := by
  funext k
  exact if_neg (fun h => Nat.not_lt_zero _ h.1)
theorem bbF_at (f : Nat → Int32) (x : Int32) (n : Nat) : bbF f x n n = f n := if_neg (fun h => Nat.lt_irrefl _ h.1)
theorem bbF_y {f : Nat → Int32} {x : Int32} {n : Nat} (h : f n = x) : upd (bbF f x n) n 0 = bbF f x (n + 1) := by
  funext k
  unfold upd bbF
  by_cases hk : k = n
  · subst hk
    rw [if_pos rfl, if_pos ⟨Nat.lt_succ_self _, h⟩]
  · rw [if_neg hk]
    by_cases h2 : k < n ∧ f k = x
    · rw [if_pos h2, if_pos ⟨by omega, h2.2⟩]
    · rw [if_neg h2, if_neg (fun q => h2 ⟨by omega, q.2⟩)]
theorem bbF_n {f : Nat → Int32} {x : Int32} {n : Nat} (h : ¬ f n = x) : bbF f x n = bbF f x (n + 1) := by
  funext k
  unfold bbF
  by_cases hk : k = n
  · subst hk
    rw [if_neg (fun q => h q.2), if_neg (fun q => h q.2)]
  · by_cases h2 : k < n ∧ f k = x
    · rw [if_pos h2, if_pos ⟨by omega, h2.2⟩]
    · rw [if_neg h2, if_neg (fun q => h2 ⟨by omega, q.2⟩)]
/-- the first of those from i on, k of them -/
def fstN (p : Nat → Bool) : Nat → Nat → Int32
  | 0, _ => -1
  | k + 1, i => if p i = true then nI i else fstN p k (i + 1)
/-- the size of a number, by keys -/
def ab (x : UInt64) : Nat := (dk x).natAbs
abbrev d0156 : UInt64 := 4580160821035794432
def szF (x : UInt64) : UInt64 := if dk x < 0 then FP.dneg x else x
/-- whether (h, v) hits what is stuck at number i -/
def hitP (h v : UInt64) (f : Nat → Int32) (hh vv : Nat → UInt64) (i : Nat) : Bool := decide (f i = 1) && (decide (ab (FP.dsub h (hh i)) < ab d0156) && decide (ab (FP.dsub v (vv i)) < ab d0156))
theorem hitP_y {h v : UInt64} {f : Nat → Int32} {hh vv : Nat → UInt64} {i : Nat} (h1 : f i = 1) (h2 : ab (FP.dsub h (hh i)) < ab d0156) (h3 : ab (FP.dsub v (vv i)) < ab d0156) : hitP h v f hh vv i = true := by simp [hitP, h1, h2, h3]
theorem hitP_n {h v : UInt64} {f : Nat → Int32} {hh vv : Nat → UInt64} {i : Nat} (h1 : ¬ f i = 1 ∨ ¬ ab (FP.dsub h (hh i)) < ab d0156 ∨ ¬ ab (FP.dsub v (vv i)) < ab d0156) : ¬ hitP h v f hh vv i = true := by
  intro q
  simp only [hitP, Bool.and_eq_true, decide_eq_true_eq] at q
  rcases h1 with h1 | h1 | h1
  · exact h1 q.1
  · exact h1 q.2.1
  · exact h1 q.2.2
theorem fstN_y {p : Nat → Bool} {k i : Nat} (h : p i = true) : fstN p (k + 1) i = nI i := if_pos h
theorem fstN_n {p : Nat → Bool} {k i : Nat} (h : ¬ p i = true) : fstN p (k + 1) i = fstN p k (i + 1) := if_neg h
theorem ab_nat (x : UInt64) : (ab x : Int) = ((x.toNat % 2 ^ 63 : Nat) : Int) := by
  have h2 : x.toNat < 2 ^ 64 := x.toNat_lt
  unfold ab dk FP.Core.dkey
  split <;> omega
theorem dneg_eq {x : UInt64} (h : Nn x) : FP.dneg x = FP.Core.dneg x := by
  refine FP.Core.val64_inj ?_ ?_
  · rw [FP.val64_dneg]; exact FP.Core.negate_ne_nan h
  · rw [FP.val64_dneg, FP.Core.val64_dneg]
theorem szF_neg {x : UInt64} (h : Nn x) (h1 : dk x < 0) : FP.dneg x = x &&& 0x7fffffffffffffff := by
  rw [dneg_eq h]
  refine (FP.Core.abs_neg ?_).symm
  refine (FP.Core.dcmp_lt_key h (by decide +kernel)).mpr ?_
  rw [show FP.Core.dkey 0 = 0 from by decide +kernel]
  exact h1
theorem szF_key {x : UInt64} (h : Nn x) : dk (szF x) = (ab x : Int) := by
  unfold szF
  by_cases h1 : dk x < 0
  · rw [if_pos h1, szF_neg h h1]
    exact (FP.Core.mask_key x).trans (ab_nat x).symm
  · rw [if_neg h1]
    unfold ab
    omega
theorem szF_nn {x : UInt64} (h : Nn x) : Nn (szF x) := by
  unfold szF
  by_cases h1 : dk x < 0
  · rw [if_pos h1]
    unfold Nn
    rw [FP.val64_dneg]
    exact FP.Core.negate_ne_nan h
  · rw [if_neg h1]; exact h
theorem d0156_key : dk d0156 = (ab d0156 : Int) := by decide +kernel
theorem d0156_nn : Nn d0156 := by unfold Nn; decide +kernel
theorem d0_nn : Nn FP.dconst0 := by unfold Nn; decide +kernel
theorem d0_key : dk FP.dconst0 = 0 := by decide +kernel
/-- size(x) < 0.015625 -/
theorem near_iff {x : UInt64} (h : Nn x) : 0 ≤ Op.cmpValue (FP.dcmp (szF x) d0156) .g ↔ ¬ ab x < ab d0156 := by
  rw [kv_ge0 (szF_nn h) d0156_nn, szF_key h, d0156_key]
  omega
theorem nI_inc (i : Nat) : nI i + Int32.ofInt 1 = nI (i + 1) := nI_1 i
