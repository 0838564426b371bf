section
-- ===== PART A: goes FIRST, ahead of the names: the tables' words, and 'selects' of the private methods out of them =====
/-- a private method of a class that the tables say can be made, by its rows of tables_1 -/
def lw_okq (q : MethodName × Nat) : Prop := (q.1.cls ≠ "java/lang/invoke/MethodHandle" ∧ q.1.cls ≠ "java/lang/invoke/VarHandle") ∧ Cond.instantiable q.1.cls q.2 ∈ tables_1 ∧ Cond.privateMethod q.1 ∈ tables_1 ∧ Cond.instanceMethod q.1 ∈ tables_1
theorem lw_p0 : lw_okq (⟨"ArrowField", "stuckArrows", "()I"⟩, 16) := ⟨⟨by decide +kernel, by decide +kernel⟩, List.mem_of_getElem? (i := 30) (by decide +kernel), List.mem_of_getElem? (i := 237) (by decide +kernel), List.mem_of_getElem? (i := 238) (by decide +kernel)⟩
theorem lw_p1 : lw_okq (⟨"java/lang/Throwable", "fillInStackTrace", "(I)Ljava/lang/Throwable;"⟩, 6) := ⟨⟨by decide +kernel, by decide +kernel⟩, List.mem_of_getElem? (i := 322) (by decide +kernel), List.mem_of_getElem? (i := 320) (by decide +kernel), List.mem_of_getElem? (i := 321) (by decide +kernel)⟩
theorem lw_p2 : lw_okq (⟨"ArrowField$Match", "isTurnOfOne", "()Z"⟩, 10) := ⟨⟨by decide +kernel, by decide +kernel⟩, List.mem_of_getElem? (i := 42) (by decide +kernel), List.mem_of_getElem? (i := 360) (by decide +kernel), List.mem_of_getElem? (i := 361) (by decide +kernel)⟩
theorem lw_p3 : lw_okq (⟨"ArrowField", "withArcher", "(JI)J"⟩, 16) := ⟨⟨by decide +kernel, by decide +kernel⟩, List.mem_of_getElem? (i := 30) (by decide +kernel), List.mem_of_getElem? (i := 365) (by decide +kernel), List.mem_of_getElem? (i := 366) (by decide +kernel)⟩
theorem lw_p4 : lw_okq (⟨"ArrowField", "archerNumbered", "(I)LArrowField$Archer;"⟩, 16) := ⟨⟨by decide +kernel, by decide +kernel⟩, List.mem_of_getElem? (i := 30) (by decide +kernel), List.mem_of_getElem? (i := 373) (by decide +kernel), List.mem_of_getElem? (i := 374) (by decide +kernel)⟩
theorem lw_p5 : lw_okq (⟨"ArrowField", "holderOf", "(I)I"⟩, 16) := ⟨⟨by decide +kernel, by decide +kernel⟩, List.mem_of_getElem? (i := 30) (by decide +kernel), List.mem_of_getElem? (i := 408) (by decide +kernel), List.mem_of_getElem? (i := 409) (by decide +kernel)⟩
theorem lw_p6 : lw_okq (⟨"ArrowField", "withQuiver", "(JI)J"⟩, 16) := ⟨⟨by decide +kernel, by decide +kernel⟩, List.mem_of_getElem? (i := 30) (by decide +kernel), List.mem_of_getElem? (i := 426) (by decide +kernel), List.mem_of_getElem? (i := 427) (by decide +kernel)⟩
theorem lw_p7 : lw_okq (⟨"ArrowField", "needQuiver", "(I)V"⟩, 16) := ⟨⟨by decide +kernel, by decide +kernel⟩, List.mem_of_getElem? (i := 30) (by decide +kernel), List.mem_of_getElem? (i := 434) (by decide +kernel), List.mem_of_getElem? (i := 435) (by decide +kernel)⟩
theorem lw_p8 : lw_okq (⟨"ArrowField", "quiverOf", "(LArrowField$Archer;)LArrowField$Quiver;"⟩, 16) := ⟨⟨by decide +kernel, by decide +kernel⟩, List.mem_of_getElem? (i := 30) (by decide +kernel), List.mem_of_getElem? (i := 527) (by decide +kernel), List.mem_of_getElem? (i := 528) (by decide +kernel)⟩
theorem lw_p9 : lw_okq (⟨"ArrowField", "splitWhatIsHit", "()V"⟩, 16) := ⟨⟨by decide +kernel, by decide +kernel⟩, List.mem_of_getElem? (i := 30) (by decide +kernel), List.mem_of_getElem? (i := 540) (by decide +kernel), List.mem_of_getElem? (i := 541) (by decide +kernel)⟩
theorem lw_p10 : lw_okq (⟨"ArrowField", "countForMatch", "(I)V"⟩, 16) := ⟨⟨by decide +kernel, by decide +kernel⟩, List.mem_of_getElem? (i := 30) (by decide +kernel), List.mem_of_getElem? (i := 569) (by decide +kernel), List.mem_of_getElem? (i := 570) (by decide +kernel)⟩
theorem lw_p11 : lw_okq (⟨"ArrowField$Match", "countLastArrow", "(D)I"⟩, 10) := ⟨⟨by decide +kernel, by decide +kernel⟩, List.mem_of_getElem? (i := 42) (by decide +kernel), List.mem_of_getElem? (i := 578) (by decide +kernel), List.mem_of_getElem? (i := 579) (by decide +kernel)⟩
theorem lw_p12 : lw_okq (⟨"ArrowField$Match", "endSet", "()I"⟩, 10) := ⟨⟨by decide +kernel, by decide +kernel⟩, List.mem_of_getElem? (i := 42) (by decide +kernel), List.mem_of_getElem? (i := 582) (by decide +kernel), List.mem_of_getElem? (i := 583) (by decide +kernel)⟩
theorem lw_p13 : lw_okq (⟨"ArrowField$Match", "beginSet", "()V"⟩, 10) := ⟨⟨by decide +kernel, by decide +kernel⟩, List.mem_of_getElem? (i := 42) (by decide +kernel), List.mem_of_getElem? (i := 589) (by decide +kernel), List.mem_of_getElem? (i := 590) (by decide +kernel)⟩
theorem lw_p14 : lw_okq (⟨"ArrowFieldModel", "refuse", "(I)I"⟩, 22) := ⟨⟨by decide +kernel, by decide +kernel⟩, List.mem_of_getElem? (i := 677) (by decide +kernel), List.mem_of_getElem? (i := 790) (by decide +kernel), List.mem_of_getElem? (i := 791) (by decide +kernel)⟩
theorem lw_p15 : lw_okq (⟨"java/util/ArrayList", "add", "(Ljava/lang/Object;[Ljava/lang/Object;I)V"⟩, 3) := ⟨⟨by decide +kernel, by decide +kernel⟩, List.mem_of_getElem? (i := 683) (by decide +kernel), List.mem_of_getElem? (i := 846) (by decide +kernel), List.mem_of_getElem? (i := 847) (by decide +kernel)⟩
def lw_privs_1 : List (MethodName × Nat) := [(⟨"ArrowField", "stuckArrows", "()I"⟩, 16), (⟨"java/lang/Throwable", "fillInStackTrace", "(I)Ljava/lang/Throwable;"⟩, 6), (⟨"ArrowField$Match", "isTurnOfOne", "()Z"⟩, 10), (⟨"ArrowField", "withArcher", "(JI)J"⟩, 16), (⟨"ArrowField", "archerNumbered", "(I)LArrowField$Archer;"⟩, 16), (⟨"ArrowField", "holderOf", "(I)I"⟩, 16), (⟨"ArrowField", "withQuiver", "(JI)J"⟩, 16), (⟨"ArrowField", "needQuiver", "(I)V"⟩, 16), (⟨"ArrowField", "quiverOf", "(LArrowField$Archer;)LArrowField$Quiver;"⟩, 16), (⟨"ArrowField", "splitWhatIsHit", "()V"⟩, 16), (⟨"ArrowField", "countForMatch", "(I)V"⟩, 16), (⟨"ArrowField$Match", "countLastArrow", "(D)I"⟩, 10), (⟨"ArrowField$Match", "endSet", "()I"⟩, 10), (⟨"ArrowField$Match", "beginSet", "()V"⟩, 10), (⟨"ArrowFieldModel", "refuse", "(I)I"⟩, 22), (⟨"java/util/ArrayList", "add", "(Ljava/lang/Object;[Ljava/lang/Object;I)V"⟩, 3)]
theorem lw_r1 : ∀ q ∈ lw_privs_1, lw_okq q := List.forall_mem_cons.mpr ⟨lw_p0, List.forall_mem_cons.mpr ⟨lw_p1, List.forall_mem_cons.mpr ⟨lw_p2, List.forall_mem_cons.mpr ⟨lw_p3, List.forall_mem_cons.mpr ⟨lw_p4, List.forall_mem_cons.mpr ⟨lw_p5, List.forall_mem_cons.mpr ⟨lw_p6, List.forall_mem_cons.mpr ⟨lw_p7, List.forall_mem_cons.mpr ⟨lw_p8, List.forall_mem_cons.mpr ⟨lw_p9, List.forall_mem_cons.mpr ⟨lw_p10, List.forall_mem_cons.mpr ⟨lw_p11, List.forall_mem_cons.mpr ⟨lw_p12, List.forall_mem_cons.mpr ⟨lw_p13, List.forall_mem_cons.mpr ⟨lw_p14, List.forall_mem_cons.mpr ⟨lw_p15, fun _ h => absurd h List.not_mem_nil⟩⟩⟩⟩⟩⟩⟩⟩⟩⟩⟩⟩⟩⟩⟩⟩
theorem lw_p16 : lw_okq (⟨"java/util/ArrayList", "grow", "()[Ljava/lang/Object;"⟩, 3) := ⟨⟨by decide +kernel, by decide +kernel⟩, List.mem_of_getElem? (i := 683) (by decide +kernel), List.mem_of_getElem? (i := 850) (by decide +kernel), List.mem_of_getElem? (i := 851) (by decide +kernel)⟩
theorem lw_p17 : lw_okq (⟨"java/util/ArrayList", "grow", "(I)[Ljava/lang/Object;"⟩, 3) := ⟨⟨by decide +kernel, by decide +kernel⟩, List.mem_of_getElem? (i := 683) (by decide +kernel), List.mem_of_getElem? (i := 854) (by decide +kernel), List.mem_of_getElem? (i := 855) (by decide +kernel)⟩
theorem lw_p18 : lw_okq (⟨"ArrowFieldModel", "isArcher", "(I)Z"⟩, 22) := ⟨⟨by decide +kernel, by decide +kernel⟩, List.mem_of_getElem? (i := 677) (by decide +kernel), List.mem_of_getElem? (i := 935) (by decide +kernel), List.mem_of_getElem? (i := 936) (by decide +kernel)⟩
theorem lw_p19 : lw_okq (⟨"ArrowFieldModel", "isQuiver", "(I)Z"⟩, 22) := ⟨⟨by decide +kernel, by decide +kernel⟩, List.mem_of_getElem? (i := 677) (by decide +kernel), List.mem_of_getElem? (i := 939) (by decide +kernel), List.mem_of_getElem? (i := 940) (by decide +kernel)⟩
theorem lw_p20 : lw_okq (⟨"ArrowFieldModel", "isOn", "()Z"⟩, 22) := ⟨⟨by decide +kernel, by decide +kernel⟩, List.mem_of_getElem? (i := 677) (by decide +kernel), List.mem_of_getElem? (i := 943) (by decide +kernel), List.mem_of_getElem? (i := 944) (by decide +kernel)⟩
theorem lw_p21 : lw_okq (⟨"ArrowFieldModel", "holder", "(I)I"⟩, 22) := ⟨⟨by decide +kernel, by decide +kernel⟩, List.mem_of_getElem? (i := 677) (by decide +kernel), List.mem_of_getElem? (i := 947) (by decide +kernel), List.mem_of_getElem? (i := 948) (by decide +kernel)⟩
theorem lw_p22 : lw_okq (⟨"ArrowFieldModel", "stuck", "()I"⟩, 22) := ⟨⟨by decide +kernel, by decide +kernel⟩, List.mem_of_getElem? (i := 677) (by decide +kernel), List.mem_of_getElem? (i := 977) (by decide +kernel), List.mem_of_getElem? (i := 978) (by decide +kernel)⟩
theorem lw_p23 : lw_okq (⟨"ArrowFieldModel", "canShoot", "(II)Z"⟩, 22) := ⟨⟨by decide +kernel, by decide +kernel⟩, List.mem_of_getElem? (i := 677) (by decide +kernel), List.mem_of_getElem? (i := 1040) (by decide +kernel), List.mem_of_getElem? (i := 1041) (by decide +kernel)⟩
theorem lw_p24 : lw_okq (⟨"ArrowFieldModel", "fly", "(LArrowFieldModel$Archer;LArrowFieldModel$Quiver;II)V"⟩, 22) := ⟨⟨by decide +kernel, by decide +kernel⟩, List.mem_of_getElem? (i := 677) (by decide +kernel), List.mem_of_getElem? (i := 1044) (by decide +kernel), List.mem_of_getElem? (i := 1045) (by decide +kernel)⟩
theorem lw_p25 : lw_okq (⟨"ArrowFieldModel", "split", "()V"⟩, 22) := ⟨⟨by decide +kernel, by decide +kernel⟩, List.mem_of_getElem? (i := 677) (by decide +kernel), List.mem_of_getElem? (i := 1061) (by decide +kernel), List.mem_of_getElem? (i := 1062) (by decide +kernel)⟩
theorem lw_p26 : lw_okq (⟨"ArrowFieldModel", "score", "(D)I"⟩, 22) := ⟨⟨by decide +kernel, by decide +kernel⟩, List.mem_of_getElem? (i := 677) (by decide +kernel), List.mem_of_getElem? (i := 1076) (by decide +kernel), List.mem_of_getElem? (i := 1077) (by decide +kernel)⟩
theorem lw_p27 : lw_okq (⟨"ArrowFieldModel", "count", "(ID)V"⟩, 22) := ⟨⟨by decide +kernel, by decide +kernel⟩, List.mem_of_getElem? (i := 677) (by decide +kernel), List.mem_of_getElem? (i := 1091) (by decide +kernel), List.mem_of_getElem? (i := 1092) (by decide +kernel)⟩
theorem lw_p28 : lw_okq (⟨"ArrowFieldModel", "win", "(I)V"⟩, 22) := ⟨⟨by decide +kernel, by decide +kernel⟩, List.mem_of_getElem? (i := 677) (by decide +kernel), List.mem_of_getElem? (i := 1095) (by decide +kernel), List.mem_of_getElem? (i := 1096) (by decide +kernel)⟩
theorem lw_p29 : lw_okq (⟨"ArrowFieldModel", "speedNow", "(LArrowFieldModel$Archer;)D"⟩, 22) := ⟨⟨by decide +kernel, by decide +kernel⟩, List.mem_of_getElem? (i := 677) (by decide +kernel), List.mem_of_getElem? (i := 1134) (by decide +kernel), List.mem_of_getElem? (i := 1135) (by decide +kernel)⟩
theorem lw_p30 : lw_okq (⟨"ArrowFieldModel", "ofQuiverNow", "(II)I"⟩, 22) := ⟨⟨by decide +kernel, by decide +kernel⟩, List.mem_of_getElem? (i := 677) (by decide +kernel), List.mem_of_getElem? (i := 1142) (by decide +kernel), List.mem_of_getElem? (i := 1143) (by decide +kernel)⟩
theorem lw_p31 : lw_okq (⟨"ArrowFieldModel", "manyNow", "(I)I"⟩, 22) := ⟨⟨by decide +kernel, by decide +kernel⟩, List.mem_of_getElem? (i := 677) (by decide +kernel), List.mem_of_getElem? (i := 1154) (by decide +kernel), List.mem_of_getElem? (i := 1155) (by decide +kernel)⟩
def lw_privs_2 : List (MethodName × Nat) := [(⟨"java/util/ArrayList", "grow", "()[Ljava/lang/Object;"⟩, 3), (⟨"java/util/ArrayList", "grow", "(I)[Ljava/lang/Object;"⟩, 3), (⟨"ArrowFieldModel", "isArcher", "(I)Z"⟩, 22), (⟨"ArrowFieldModel", "isQuiver", "(I)Z"⟩, 22), (⟨"ArrowFieldModel", "isOn", "()Z"⟩, 22), (⟨"ArrowFieldModel", "holder", "(I)I"⟩, 22), (⟨"ArrowFieldModel", "stuck", "()I"⟩, 22), (⟨"ArrowFieldModel", "canShoot", "(II)Z"⟩, 22), (⟨"ArrowFieldModel", "fly", "(LArrowFieldModel$Archer;LArrowFieldModel$Quiver;II)V"⟩, 22), (⟨"ArrowFieldModel", "split", "()V"⟩, 22), (⟨"ArrowFieldModel", "score", "(D)I"⟩, 22), (⟨"ArrowFieldModel", "count", "(ID)V"⟩, 22), (⟨"ArrowFieldModel", "win", "(I)V"⟩, 22), (⟨"ArrowFieldModel", "speedNow", "(LArrowFieldModel$Archer;)D"⟩, 22), (⟨"ArrowFieldModel", "ofQuiverNow", "(II)I"⟩, 22), (⟨"ArrowFieldModel", "manyNow", "(I)I"⟩, 22)]
theorem lw_r2 : ∀ q ∈ lw_privs_2, lw_okq q := List.forall_mem_cons.mpr ⟨lw_p16, List.forall_mem_cons.mpr ⟨lw_p17, List.forall_mem_cons.mpr ⟨lw_p18, List.forall_mem_cons.mpr ⟨lw_p19, List.forall_mem_cons.mpr ⟨lw_p20, List.forall_mem_cons.mpr ⟨lw_p21, List.forall_mem_cons.mpr ⟨lw_p22, List.forall_mem_cons.mpr ⟨lw_p23, List.forall_mem_cons.mpr ⟨lw_p24, List.forall_mem_cons.mpr ⟨lw_p25, List.forall_mem_cons.mpr ⟨lw_p26, List.forall_mem_cons.mpr ⟨lw_p27, List.forall_mem_cons.mpr ⟨lw_p28, List.forall_mem_cons.mpr ⟨lw_p29, List.forall_mem_cons.mpr ⟨lw_p30, List.forall_mem_cons.mpr ⟨lw_p31, fun _ h => absurd h List.not_mem_nil⟩⟩⟩⟩⟩⟩⟩⟩⟩⟩⟩⟩⟩⟩⟩⟩
theorem lw_p32 : lw_okq (⟨"ArrowFieldModel", "ofMatchNow", "(I)I"⟩, 22) := ⟨⟨by decide +kernel, by decide +kernel⟩, List.mem_of_getElem? (i := 677) (by decide +kernel), List.mem_of_getElem? (i := 1162) (by decide +kernel), List.mem_of_getElem? (i := 1163) (by decide +kernel)⟩
theorem lw_p33 : lw_okq (⟨"ArrowFieldModel", "isReady", "(I)Z"⟩, 22) := ⟨⟨by decide +kernel, by decide +kernel⟩, List.mem_of_getElem? (i := 677) (by decide +kernel), List.mem_of_getElem? (i := 1174) (by decide +kernel), List.mem_of_getElem? (i := 1175) (by decide +kernel)⟩
theorem lw_p34 : lw_okq (⟨"ArrowFieldModel", "fly", "(III)V"⟩, 22) := ⟨⟨by decide +kernel, by decide +kernel⟩, List.mem_of_getElem? (i := 677) (by decide +kernel), List.mem_of_getElem? (i := 1178) (by decide +kernel), List.mem_of_getElem? (i := 1179) (by decide +kernel)⟩
theorem lw_p35 : lw_okq (⟨"ArrowFieldModel", "bestNow", "(I)I"⟩, 22) := ⟨⟨by decide +kernel, by decide +kernel⟩, List.mem_of_getElem? (i := 677) (by decide +kernel), List.mem_of_getElem? (i := 1190) (by decide +kernel), List.mem_of_getElem? (i := 1191) (by decide +kernel)⟩
theorem lw_p36 : lw_okq (⟨"ArrowFieldModel", "add", "(J)V"⟩, 22) := ⟨⟨by decide +kernel, by decide +kernel⟩, List.mem_of_getElem? (i := 677) (by decide +kernel), List.mem_of_getElem? (i := 1208) (by decide +kernel), List.mem_of_getElem? (i := 1209) (by decide +kernel)⟩
def lw_privs_3 : List (MethodName × Nat) := [(⟨"ArrowFieldModel", "ofMatchNow", "(I)I"⟩, 22), (⟨"ArrowFieldModel", "isReady", "(I)Z"⟩, 22), (⟨"ArrowFieldModel", "fly", "(III)V"⟩, 22), (⟨"ArrowFieldModel", "bestNow", "(I)I"⟩, 22), (⟨"ArrowFieldModel", "add", "(J)V"⟩, 22)]
theorem lw_r3 : ∀ q ∈ lw_privs_3, lw_okq q := List.forall_mem_cons.mpr ⟨lw_p32, List.forall_mem_cons.mpr ⟨lw_p33, List.forall_mem_cons.mpr ⟨lw_p34, List.forall_mem_cons.mpr ⟨lw_p35, List.forall_mem_cons.mpr ⟨lw_p36, fun _ h => absurd h List.not_mem_nil⟩⟩⟩⟩⟩
def lw_privs : List (MethodName × Nat) := lw_privs_1 ++ (lw_privs_2 ++ (lw_privs_3))
def lw_tbl : List Cond := k2_sels lw_privs ++ tables_1
theorem lw_privs_ok : ∀ q ∈ lw_privs, lw_okq q := by
  show ∀ q ∈ lw_privs_1 ++ (lw_privs_2 ++ (lw_privs_3)), lw_okq q
  exact List.forall_mem_append.mpr ⟨lw_r1, List.forall_mem_append.mpr ⟨lw_r2, lw_r3⟩⟩
/-- the streams that the claim lets the run draw from -/
abbrev lw_cs : List Choice := [Jvm.Choice.named "NaN.bits", Jvm.Choice.named "NaN.copy"]
theorem lw_bits : nanBits ∈ lw_cs := by first | decide | exact List.mem_cons_self | simp [lw_cs, nanBits]
-- ===== end of PART A; then your names; then what follows =====
end
section
/-! ===== BEGIN words of one list among another's, by their places ===== -/
theorem goodIn_r {big : List Cond} (ws : List Cond) (ps : List Nat) (hp : ws = ps.filterMap (fun i => big[i]?)) (h : ws.all goodWord = true) : GoodIn big ws := by
  intro w hw
  have h1 := List.all_eq_true.mp h w hw
  rw [hp] at hw
  obtain ⟨i, -, hi⟩ := List.mem_filterMap.mp hw
  have hm : w ∈ big := by first | exact List.mem_of_getElem? hi | exact List.getElem?_mem hi
  exact ⟨hm, good_of_word h1⟩
theorem goodIn_app {big a b : List Cond} (ha : GoodIn big a) (hb : GoodIn big b) : GoodIn big (a ++ b) := fun w h => (List.mem_append.mp h).elim (ha w) (hb w)
theorem goodIn_ca {big a b : List Cond} {c : Cond} (ha : GoodIn big (c :: a)) (hb : GoodIn big b) : GoodIn big (c :: (a ++ b)) := fun w h => (List.mem_cons.mp h).elim (fun e => ha w (List.mem_cons.mpr (Or.inl e))) (fun h => (List.mem_append.mp h).elim (fun h => ha w (List.mem_cons.mpr (Or.inr h))) (hb w))
theorem goodIn_sub {big ws : List Cond} (hm : ∀ w ∈ ws, w ∈ big) (h : ws.all goodWord = true) : GoodIn big ws := fun w hw => ⟨hm w hw, good_of_word (List.all_eq_true.mp h w hw)⟩
/-! ===== END ===== -/

/-! ===== BEGIN exceptions that leave a method, and their catching by the caller (launches without stack traces) ===== -/
section VXA
/-! The laws vx_back, vx_callV, vx_callS, vx_callSW, vx_throw0, vx_throwS follow proofs of the library, with one case more: JvmDerived/Free/Laws.lean (Back.of_free), Shelf42/LK1.lean (callV, callS), Shelf/KitTraced.lean (throwNew0V, throwNewS). -/
/-- where a method has thrown q: the class by its name, the cell, what was written, the world -/
def vx_T (XC : String → State → State → Prop) (st : State) (q : Addr) (t : State) (mc ms : Nat) (free : Addr → Prop) : Prop :=
  ∃ (E : String) (ce : Cell) (L : List Loc), XC E st t ∧ t.heap[q]? = some ce ∧ ce.vm = .none ∧ st.vm.findClass E = some ce.cls ∧ st.WarmedH t.vm ∧ st.sameButNew ({ t with vm := st.vm } : State) L mc ms ∧ ∀ z ∈ L, free z.base
def vx_Q (Qc : Array Value → State → Outcome → State → Prop) (XC : String → State → State → Prop) (mc ms : Nat) (free : Addr → Prop) : Array Value → State → Outcome → State → Prop := fun a st o t =>
  (Qc a st o t ∧ ∃ L, FrameEnd st o t L mc ms ∧ ∀ q ∈ L, free q.base) ∨ ∃ q, o = .threw q ∧ vx_T XC st q t mc ms free
/-- a callee that returns or throws -/
def vx_Met (l : Launch) (y : MethodName) (ws : List Cond) (rm : Room) (Pc : Array Value → State → Prop) (Qc : Array Value → State → Outcome → State → Prop) (XC : String → State → State → Prop) (mc ms : Nat) (free : Addr → Prop) : Prop :=
  MetFree l y (headSpec ws rm) Pc (fun _ _ _ _ _ => True) (vx_Q Qc XC mc ms free)
def vx_Post (XC : String → State → State → Prop) (mc ms : Nat) (free : Addr → Prop) : Pt → Array Value → Addr → Pt → Prop := fun A a q B =>
  ∃ (g : JFrame) (mk : MethodId) (t : State) (L : List Loc) (E : String) (ce : Cell), B.U.heap = t.heap ∧ B.U.vm = t.vm ∧ XC E (A.U.calling g mk a) t ∧ t.heap[q]? = some ce ∧ ce.vm = .none ∧ A.U.vm.findClass E = some ce.cls ∧ B.locs = A.locs ++ L ∧ (∀ z ∈ L, free z.base) ∧ B.cells = A.cells + mc ∧ B.slots = A.slots + ms
def vx_Back (l : Launch) (R : Room) (p : Program) (e : Env) (below : List Frame) (s : State) (sargs : Array Value) (y : MethodName) (len W9 : Nat)
    (Pre : Pt → Array Value → Prop) (Post : Pt → Array Value → Option Value → Pt → Prop) (PostX : Pt → Array Value → Addr → Pt → Prop) : Prop :=
  ∀ (m : MethodId) (meth : Method) (c : Code) (A : Pt) (g : JFrame) (ig : Instr) (mk : MethodId) (a : Array Value),
    Stand p l e R s m sargs below meth c A.U A.locs A.cells A.slots → g.method = m → g.locals.size = c.maxLocals → decode c.code g.pc = .ok (ig, len) →
    2 * g.monitorRoom + (g.stack.map fun v => v.category).sum ≤ W9 → A.U.methodNamed? y = some mk → Pre A a →
    (∃ (v : Option Value) (B : Pt), Stand p l e R s m sargs below meth c B.U B.locs B.cells B.slots ∧ Post A a v B ∧
      Steps p.tables e below (doInvoke e (A.U.setTop g) [] mk a).1 (B.U.setTop { g with pc := g.pc + len, stack := v.toList ++ g.stack })) ∨
    (∃ (q : Addr) (B : Pt), Stand p l e R s m sargs below meth c B.U B.locs B.cells B.slots ∧ PostX A a q B ∧
      Steps p.tables e below (doInvoke e (A.U.setTop g) [] mk a).1 ((B.U.setTop g).pushFrame (.throwing q)))
section Payer
variable {l : Launch} {R : Room} {p : Program} {e : Env} {below : List Frame} {s : State} {sargs : Array Value} {y : MethodName} {len W9 : Nat}
theorem vx_back {ws : List Cond} {rm : Room} {Pc : Array Value → State → Prop} {Qc : Array Value → State → Outcome → State → Prop} {XC : String → State → State → Prop} {mc ms : Nat} {free : Addr → Prop} {bytes : ByteArray} {maxL : Nat} {ret : Option FieldType}
    (hM : vx_Met l y ws rm Pc Qc XC mc ms free) (hblind : FrameBlind Pc) (hrc : rm.cells = mc) (hrs : rm.slots = ms)
    (hframes : rm.frames + 1 ≤ R.frames) (hlocals : W9 + (maxL + 11) + rm.locals ≤ R.locals)
    (hws : ∀ w ∈ ws, ∀ a' U, s.WarmedH U.vm → w.before a' U = true) (hcode : Cond.code y bytes maxL ret ∈ ws) (hinit : ∀ a' U, s.WarmedH U.vm → (Cond.initialized y.cls).before a' U = true) :
    vx_Back l R p e below s sargs y len W9 (PreOf R mc ms Pc) (PostOf Qc mc ms free) (vx_Post XC mc ms free) := by
  intro m meth c A g ig mk a X hg hsize hdg hW hn hp
  have h1 : (headSpec ws rm).pre.before a A.U = true := atoms_intro fun w hw => hws w hw _ _ X.warmed
  have h2 : (Cond.code y bytes maxL ret).before a A.U = true := hws _ hcode _ _ X.warmed
  have h3 : (Cond.initialized y.cls).before a A.U = true := hinit _ _ X.warmed
  have h4 : A.cells + (headSpec ws rm).room.cells ≤ R.cells := by rw [show (headSpec ws rm).room.cells = mc from hrc]; exact hp.1
  have h5 : A.slots + (headSpec ws rm).room.slots ≤ R.slots := by rw [show (headSpec ws rm).room.slots = ms from hrs]; exact hp.2.1
  have hPc : Pc a (A.U.calling g mk a) := hblind _ _ _ _ hp.2.2
  obtain ⟨U, Ls, c0, s0⟩ := A
  dsimp only [Pt.U, Pt.locs, Pt.cells, Pt.slots] at h1 h2 h3 h4 h5 X hn hPc ⊢
  obtain ⟨methY, cY, hmY, hcY, -, hlY, -, -, -, -⟩ := Cond.code_spec hn h2
  obtain ⟨kY, hkY, -⟩ := className_of_methodNamed hn
  have hinitY : kY.init = .initialized := Cond.initialized_spec (findClass_of_methodNamed hn) hkY h3
  have h : At U g.method c below := by rw [hg]; exact X.here
  have hlocals9 : W9 + (maxL + 11) + (headSpec ws rm).room.locals ≤ R.locals := hlocals
  have happ : (headSpec ws rm).appliesLoose y e.platform (U.calling g mk a) = true :=
    Spec.appliesLoose_calling (g := g) h hdg hn hkY hinitY
      (X.room_calling (g := g) (R' := (headSpec ws rm).room) hsize hmY hcY hframes (by rw [hlY]; omega) h4 h5) h1
  obtain ⟨mid, hmid⟩ := h.above
  have hfr : (U.setTop g).frames = (.java g :: mid) ++ below := by rw [State.frames_setTop' g h.top, hmid]; rfl
  obtain ⟨o, s₂, hsteps, -, hend, hq⟩ := Steps.callFree hM p X.admits X.cas X.clock (acts := []) hfr happ hPc trivial
  have hq' : vx_Q Qc XC mc ms free a (U.calling g mk a) o s₂ := hq
  rw [State.frames_setTop' g h.top] at hend
  obtain ⟨g₀, hg0⟩ := Option.isSome_iff_exists.mp h.top
  obtain ⟨r, hr⟩ := State.topJava?_eq_some.mp hg0
  have hr' : (({ U with heap := s₂.heap, slotsUsed := s₂.slotsUsed } : State).setVm s₂.vm).frames = .java g₀ :: r := hr
  rcases hq' with ⟨hqc, L, hfe, hL⟩ | ⟨q, rfl, E, ce, L, hx, hce, hcv, hcl, hW₂, hsm, hL⟩
  · obtain ⟨⟨v, rfl⟩, hW₂, e2, q2, q3, q4, q5, q6⟩ := id hfe
    have e3 : s₂ = ({ (U.calling g mk a).setFrames s₂.frames with heap := s₂.heap, slotsUsed := s₂.slotsUsed } : State).setVm s₂.vm := by
      have : s₂ = ({ s₂ with vm := (U.calling g mk a).vm } : State).setVm s₂.vm := rfl
      rw [e2] at this
      exact this
    obtain ⟨c₂, i₂, len₂, hc₂, hd₂, hf₂⟩ := hend
    have hW' : U.WarmedH s₂.vm := hW₂
    have hcc : c₂ = c := by
      have h1 : s₂.code? g.method = U.code? g.method := by
        rw [State.code?_eq, State.code?_eq, hW'.alike.method?]
      exact Option.some.inj (hc₂.symm.trans (h1.trans h.code))
    subst hcc
    have hlen : len₂ = len := by rw [hdg] at hd₂; cases hd₂; rfl
    subst hlen
    have hs₂ : s₂ = (({ U with heap := s₂.heap, slotsUsed := s₂.slotsUsed } : State).setVm s₂.vm).setTop { g with pc := g.pc + len₂, stack := v.toList ++ g.stack } := by
      refine e3.trans ?_
      rw [hf₂, State.calling_eq h.top, State.setFrames_setFrames, State.setTop_of_frames _ hr', hr]
      rfl
    have hsame : U.sameButNew ({ U with heap := s₂.heap, slotsUsed := s₂.slotsUsed } : State) L mc ms := by
      refine ⟨?_, q2, q3, q4, q5, q6⟩
      obtain ⟨t, ht, -⟩ := State.frames_cons hr
      show ({ U with heap := s₂.heap, slotsUsed := s₂.slotsUsed } : State) = { U.setFrames U.frames with heap := s₂.heap, slotsUsed := s₂.slotsUsed }
      rw [State.setFrames_self ht]
    subst hg
    refine Or.inl ⟨v, ⟨(({ U with heap := s₂.heap, slotsUsed := s₂.slotsUsed } : State).setVm s₂.vm), Ls ++ L, c0 + mc, s0 + ms⟩,
      ⟨X.admits, X.cas, X.clock, X.frames, X.room, X.hears, X.method, X.code, (X.here.setHeapUsed s₂.heap s₂.slotsUsed).setVm hW'.alike, X.tail, State.WarmedH.trans X.warmed hW', X.limits, X.bytes, X.same.trans (hsame.setVm s.vm)⟩,
      ⟨g, mk, s₂, L, rfl, rfl, hqc, rfl, hL, rfl, rfl⟩, ?_⟩
    show Steps p.tables e below _ ((({ U with heap := s₂.heap, slotsUsed := s₂.slotsUsed } : State).setVm s₂.vm).setTop { g with pc := g.pc + len₂, stack := v.toList ++ g.stack })
    rw [← hs₂]
    exact hsteps
  · obtain ⟨e2, q2, q3, q4, q5, q6⟩ := id hsm
    have e3 : s₂ = ({ (U.calling g mk a).setFrames s₂.frames with heap := s₂.heap, slotsUsed := s₂.slotsUsed } : State).setVm s₂.vm := by
      have : s₂ = ({ s₂ with vm := (U.calling g mk a).vm } : State).setVm s₂.vm := rfl
      rw [e2] at this
      exact this
    have hf₂ : s₂.frames = .throwing q :: .java g :: U.frames.tail := hend
    have hW' : U.WarmedH s₂.vm := hW₂
    have hs₂ : s₂ = ((({ U with heap := s₂.heap, slotsUsed := s₂.slotsUsed } : State).setVm s₂.vm).setTop g).pushFrame (.throwing q) := by
      refine e3.trans ?_
      rw [hf₂, State.calling_eq h.top, State.setFrames_setFrames, State.pushFrame, State.frames_setTop _ hr', State.setTop_of_frames _ hr', State.setFrames_setFrames, hr]
      rfl
    have hsame : U.sameButNew ({ U with heap := s₂.heap, slotsUsed := s₂.slotsUsed } : State) L mc ms := by
      refine ⟨?_, q2, q3, q4, q5, q6⟩
      obtain ⟨t, ht, -⟩ := State.frames_cons hr
      show ({ U with heap := s₂.heap, slotsUsed := s₂.slotsUsed } : State) = { U.setFrames U.frames with heap := s₂.heap, slotsUsed := s₂.slotsUsed }
      rw [State.setFrames_self ht]
    subst hg
    refine Or.inr ⟨q, ⟨(({ U with heap := s₂.heap, slotsUsed := s₂.slotsUsed } : State).setVm s₂.vm), Ls ++ L, c0 + mc, s0 + ms⟩,
      ⟨X.admits, X.cas, X.clock, X.frames, X.room, X.hears, X.method, X.code, (X.here.setHeapUsed s₂.heap s₂.slotsUsed).setVm hW'.alike, X.tail, State.WarmedH.trans X.warmed hW', X.limits, X.bytes, X.same.trans (hsame.setVm s.vm)⟩,
      ⟨g, mk, s₂, L, E, ce, rfl, rfl, hx, hce, hcv, hcl, rfl, hL, rfl, rfl⟩, ?_⟩
    show Steps p.tables e below _ (((({ U with heap := s₂.heap, slotsUsed := s₂.slotsUsed } : State).setVm s₂.vm).setTop g).pushFrame (.throwing q))
    rw [← hs₂]
    exact hsteps
end Payer
section Calls
variable {p : Program} {l : Launch} {e : Env} {R : Room} {s : State} {m : MethodId} {args : Array Value} {below : List Frame} {meth : Method} {c : Code} {T : State} {locs : List Loc} {cells slots : Nat}
theorem vx_callV (X : Stand p l e R s m args below meth c T locs cells slots) (hexec : p.tables.exec = Jvm.exec) {own C : String} {index : Nat} {y : MethodName} {bytes : ByteArray} {maxL : Nat} {ret : Option FieldType}
    (hown : s.vm.findClass own = some m.cls) (hlink : (Cond.methodLink own index y).before args s = true) (hinst : (Cond.instanceMethod y).before args s = true) (hsel : (Cond.selects C y y).before args s = true)
    (hcode : (Cond.code y bytes maxL ret).before args s = true) (hy : y.cls ≠ "java/lang/invoke/MethodHandle" ∧ y.cls ≠ "java/lang/invoke/VarHandle")
    {W9 : Nat} {Pre : Pt → Array Value → Prop} {Post : Pt → Array Value → Option Value → Pt → Prop} {PostX : Pt → Array Value → Addr → Pt → Prop} (hK : vx_Back l R p e below s args y 3 W9 Pre Post PostX)
    {b : Addr} {cellB : Cell} (hcell : T.heap[b]? = some cellB) (hobj : cellB.vm.isStatics = false) (hcls : s.vm.findClass C = some cellB.cls)
    {g : JFrame} (hg : g.method = m) (hsize : g.locals.size = c.maxLocals) {argsL rest : List Value} (hlen : ∀ sig, parseMethodDescriptor y.desc = some sig → argsL.length = sig.parameters.length)
    (hstack : g.stack = argsL.reverse ++ .ref b :: rest) (hW : 2 * g.monitorRoom + (rest.map fun v => v.category).sum ≤ W9) (hdg : decode c.code g.pc = .ok (.invokevirtual index, 3))
    (hpre : ∀ vm₁, s.WarmedH vm₁ → Pre ⟨T.setVm vm₁, locs, cells, slots⟩ (Value.ref b :: argsL).toArray) :
    (∃ (v : Option Value) (vm₁ : Vm) (B : Pt), s.WarmedH vm₁ ∧ Stand p l e R s m args below meth c B.U B.locs B.cells B.slots ∧ Post ⟨T.setVm vm₁, locs, cells, slots⟩ (Value.ref b :: argsL).toArray v B ∧
      ∀ target, Steps p.tables e below (B.U.setTop { g with pc := g.pc + 3, stack := v.toList ++ rest }) target → Steps p.tables e below (T.setTop g) target) ∨
    (∃ (q : Addr) (vm₁ : Vm) (B : Pt), s.WarmedH vm₁ ∧ Stand p l e R s m args below meth c B.U B.locs B.cells B.slots ∧ PostX ⟨T.setVm vm₁, locs, cells, slots⟩ (Value.ref b :: argsL).toArray q B ∧
      Steps p.tables e below (T.setTop g) ((B.U.setTop { g with stack := rest }).pushFrame (.throwing q))) := by
  obtain ⟨mk, methM, hnamed, hmethM, hstM, habM⟩ := Cond.instanceMethod_spec hinst
  obtain ⟨methM', cM, hmethM', -, -, -, -, -, -, hsigM⟩ := Cond.code_spec hnamed hcode
  cases hmethM.symm.trans hmethM'
  obtain ⟨c2, r2, m2, q1, q2, q3, q4, kP, hkP, hkPi⟩ := Cond.selects_spec hsel
  cases hcls.symm.trans q1
  cases (State.methodFound?_of_named hnamed hy).symm.trans q2
  cases hnamed.symm.trans q3
  have hselP : selectMethod e.platform s.vm cellB.cls mk = .method mk := by rw [Launch.admits_selectMethod X.admits]; exact q4
  obtain ⟨vm₁, X₁, hstep₁⟩ := X.invokevirtual hexec hown hlink hnamed hmethM hstM hkP hkPi hy (a := b) (cell := cellB) hcell
    (fun z h => by rw [h] at hobj; cases hobj) hselP hmethM habM hkP hkPi (g := g) hg (argsL := argsL) (rest := rest) (hlen _ hsigM) hstack hdg
  rcases hK m meth c ⟨T.setVm vm₁, locs, cells, slots⟩ { g with stack := rest } (.invokevirtual index) mk (Value.ref b :: argsL).toArray X₁ hg hsize hdg hW (X₁.named hnamed) (hpre vm₁ X₁.warmed) with ⟨v, B, X', hpost, hsteps⟩ | ⟨q, B, X', hpost, hsteps⟩
  · exact Or.inl ⟨v, vm₁, B, X₁.warmed, X', hpost, fun target h => hstep₁ _ fun acts => by rw [doInvoke_state]; exact hsteps.trans h⟩
  · exact Or.inr ⟨q, vm₁, B, X₁.warmed, X', hpost, hstep₁ _ fun acts => by rw [doInvoke_state]; exact hsteps⟩
theorem vx_callS (X : Stand p l e R s m args below meth c T locs cells slots) (hexec : p.tables.exec = Jvm.exec) {own : String} {index : Nat} {y : MethodName} {bytes : ByteArray} {maxL : Nat} {ret : Option FieldType}
    (hown : s.vm.findClass own = some m.cls) (hlink : (Cond.methodLink own index y).before args s = true) (hstat : (Cond.static y).before args s = true) (hinit : (Cond.initialized y.cls).before args s = true)
    (hcode : (Cond.code y bytes maxL ret).before args s = true) (hy : y.cls ≠ "java/lang/invoke/MethodHandle" ∧ y.cls ≠ "java/lang/invoke/VarHandle")
    {W9 : Nat} {Pre : Pt → Array Value → Prop} {Post : Pt → Array Value → Option Value → Pt → Prop} {PostX : Pt → Array Value → Addr → Pt → Prop} (hK : vx_Back l R p e below s args y 3 W9 Pre Post PostX)
    {g : JFrame} (hg : g.method = m) (hsize : g.locals.size = c.maxLocals) {argsL rest : List Value} (hlen : ∀ sig, parseMethodDescriptor y.desc = some sig → argsL.length = sig.parameters.length)
    (hstack : g.stack = argsL.reverse ++ rest) (hW : 2 * g.monitorRoom + (rest.map fun v => v.category).sum ≤ W9) (hdg : decode c.code g.pc = .ok (.invokestatic index, 3))
    (hpre : ∀ vm₁, s.WarmedH vm₁ → Pre ⟨T.setVm vm₁, locs, cells, slots⟩ argsL.toArray) :
    (∃ (v : Option Value) (vm₁ : Vm) (B : Pt), s.WarmedH vm₁ ∧ Stand p l e R s m args below meth c B.U B.locs B.cells B.slots ∧ Post ⟨T.setVm vm₁, locs, cells, slots⟩ argsL.toArray v B ∧
      ∀ target, Steps p.tables e below (B.U.setTop { g with pc := g.pc + 3, stack := v.toList ++ rest }) target → Steps p.tables e below (T.setTop g) target) ∨
    (∃ (q : Addr) (vm₁ : Vm) (B : Pt), s.WarmedH vm₁ ∧ Stand p l e R s m args below meth c B.U B.locs B.cells B.slots ∧ PostX ⟨T.setVm vm₁, locs, cells, slots⟩ argsL.toArray q B ∧
      Steps p.tables e below (T.setTop g) ((B.U.setTop { g with stack := rest }).pushFrame (.throwing q))) := by
  obtain ⟨mk, hnamed⟩ := Cond.code_named hcode
  obtain ⟨methM, cM, hmethM, -, -, -, -, -, -, hsigM⟩ := Cond.code_spec hnamed hcode
  have hstatic : methM.isStatic = true := Cond.static_spec hnamed hmethM hstat
  obtain ⟨kP, hkP, -⟩ := className_of_methodNamed hnamed
  have hinitP : kP.init = .initialized := Cond.initialized_spec (findClass_of_methodNamed hnamed) hkP hinit
  obtain ⟨vm₁, X₁, hstep₁⟩ := X.invokestatic hexec hown hlink hnamed hmethM hstatic hkP hinitP hy (g := g) hg (argsL := argsL) (rest := rest) (hlen _ hsigM) hstack hdg
  rcases hK m meth c ⟨T.setVm vm₁, locs, cells, slots⟩ { g with stack := rest } (.invokestatic index) mk argsL.toArray X₁ hg hsize hdg hW (X₁.named hnamed) (hpre vm₁ X₁.warmed) with ⟨v, B, X', hpost, hsteps⟩ | ⟨q, B, X', hpost, hsteps⟩
  · exact Or.inl ⟨v, vm₁, B, X₁.warmed, X', hpost, fun target h => hstep₁ _ fun acts => by rw [doInvoke_state]; exact hsteps.trans h⟩
  · exact Or.inr ⟨q, vm₁, B, X₁.warmed, X', hpost, hstep₁ _ fun acts => by rw [doInvoke_state]; exact hsteps⟩
end Calls
theorem vx_cls {s : State} {T : State} {vm₁ : Vm} {E : String} {k : ClassId} (hW : s.WarmedH vm₁) (h : (T.setVm vm₁).vm.findClass E = some k) : s.vm.findClass E = some k := by
  have h1 : vm₁.findClass E = some k := h
  rw [hW.alike.findClass] at h1
  exact h1
/-- the method's frame g, with q thrown over it -/
def vx_W (p : Program) (l : Launch) (e : Env) (R : Room) (s : State) (m : MethodId) (args : Array Value) (below : List Frame) (meth : Method) (c : Code) (H : Heap) (locs : List Loc) (cells slots : Nat) (Q : State → Prop) (g : JFrame) (q : Addr) : Prop :=
  ∀ T : State, T.heap = H → Stand p l e R s m args below meth c T locs cells slots → ∃ t, Steps p.tables e below ((T.setTop g).pushFrame (.throwing q)) t ∧ Q t
def vx_Run (p : Program) (l : Launch) (e : Env) (R : Room) (s : State) (m : MethodId) (args : Array Value) (below : List Frame) (meth : Method) (c : Code) (H : Heap) (locs : List Loc) (cells slots mc ms : Nat) (g : JFrame) (rest : List Value) (Qa : State → Outcome → State → Prop) (XC : String → State → State → Prop) (free : Addr → Prop) : Prop :=
  ∀ T : State, T.heap = H → Stand p l e R s m args below meth c T locs cells slots →
    (∃ (v : Option Value) (st₀ t T' : State) (L : List Loc), st₀.heap = H ∧ Stand p l e R s m args below meth c T' (locs ++ L) (cells + mc) (slots + ms) ∧ (∀ q ∈ L, free q.base) ∧ T'.heap = t.heap ∧ T'.vm = t.vm ∧ Qa st₀ (.returned v) t ∧
      Goes p e below T g T' { g with pc := g.pc + 3, stack := v.toList ++ rest }) ∨
    (∃ (q : Addr) (st₀ t T' : State) (L : List Loc) (E : String) (ce : Cell), st₀.heap = H ∧ Stand p l e R s m args below meth c T' (locs ++ L) (cells + mc) (slots + ms) ∧ (∀ z ∈ L, free z.base) ∧ T'.heap = t.heap ∧ T'.vm = t.vm ∧ XC E st₀ t ∧ t.heap[q]? = some ce ∧ ce.vm = .none ∧ s.vm.findClass E = some ce.cls ∧
      Steps p.tables e below (T.setTop g) ((T'.setTop { g with stack := rest }).pushFrame (.throwing q)))
def vx_X {S : Type} (px : S → Prop) (B : String → S → State → Prop) (A : Nat → Prop) : String → State → State → Prop := fun E st t => ∃ u : S, px u ∧ B E u t ∧ va_F A st t
section Runs
variable {p : Program} {l : Launch} {e : Env} {R : Room} {s : State} {m : MethodId} {args : Array Value} {below : List Frame} {meth : Method} {c : Code} {H : Heap} {locs : List Loc} {cells slots : Nat}
variable {y : MethodName} {bytes cc : ByteArray} {maxL nL mc ms n index : Nat} {ret : Option FieldType} {ws : List Cond} {rm : Room} {Pc : Array Value → State → Prop} {Qc : Array Value → State → Outcome → State → Prop} {XC : String → State → State → Prop} {free : Addr → Prop} {Ts : List Cond} {own C : String} {b : Addr} {As rest : List Value} {g : JFrame}
theorem vx_callBack (cb : CallB R s args own index y bytes maxL ret ws rm mc ms n) (hM : vx_Met l y ws rm Pc Qc XC mc ms free) (hbl : FrameBlind Pc) : vx_Back l R p e below s args y 3 8 (PreOf R mc ms Pc) (PostOf Qc mc ms free) (vx_Post XC mc ms free) := by
  obtain ⟨hrc, hrs, hfr, hlo, hws, hcw, -, hini, -⟩ := cb
  exact vx_back (bytes := bytes) (maxL := maxL) (ret := ret) hM hbl hrc hrs hfr hlo hws hcw (fun a' U hW => word_at hW (Or.inl (by first | rfl | simp [Cond.onTables, Cond.keeps, Cond.steady])) hini)
theorem vx_runV (S : CallFix p m c cc nL s args Ts own) (hM : vx_Met l y ws rm Pc Qc XC mc ms free) (cw : CallW R s args own C index y bytes maxL ret ws rm mc ms n) (hp : PreV s H C b Pc As)
    (hg : g.method = m) (hn : As.length = n) (hsize : g.locals.size = nL) (hstack : g.stack = As.reverse ++ .ref b :: rest) (hW : 2 * g.monitorRoom + (rest.map fun v => v.category).sum ≤ 8) (hdg : decode cc g.pc = .ok (.invokevirtual index, 3)) (hf : cells + mc ≤ R.cells ∧ slots + ms ≤ R.slots) :
    vx_Run p l e R s m args below meth c H locs cells slots mc ms g rest (Qc (Value.ref b :: As).toArray) XC free := by
  have hK : vx_Back l R p e below s args y 3 8 (PreOf R mc ms Pc) (PostOf Qc mc ms free) (vx_Post XC mc ms free) := vx_callBack cw.1 hM hp.1
  obtain ⟨⟨-, -, -, -, -, -, hcode, -, hy, hlen, hl⟩, hin, hse⟩ := cw
  obtain ⟨hx, hb, hml, ho, -⟩ := S
  obtain ⟨-, ⟨cellB, hcB, hoB, hclB⟩, hPc⟩ := hp
  intro T hT X
  rcases vx_callV X hx (C := C) (bytes := bytes) (maxL := maxL) (ret := ret) ho hl hin hse hcode hy hK (by rw [hT]; exact hcB) hoB hclB hg (hsize.trans hml.symm) (argsL := As) (rest := rest) (fun sig h => hn.trans (hlen sig h)) hstack hW (by rw [hb]; exact hdg)
    (fun vm₁ hW₁ => ⟨hf.1, hf.2, hPc (T.setVm vm₁) hT hW₁⟩) with ⟨v, vm₁, ⟨U', l2, c2, s2⟩, hW₁, X', ⟨g', mk, t, L, e1, e2, hq, h1, hL, h2, h3⟩, st⟩ | ⟨q, vm₁, ⟨U', l2, c2, s2⟩, hW₁, X', ⟨g', mk, t, L, E, ce, e1, e2, hq, hce, hcv, hcl, h1, hL, h2, h3⟩, st⟩
  · dsimp only [Pt.U, Pt.locs, Pt.cells, Pt.slots] at X' e1 e2 h1 h2 h3 st
    subst h1; subst h2; subst h3
    exact Or.inl ⟨v, (T.setVm vm₁).calling g' mk (Value.ref b :: As).toArray, t, U', L, hT, X', hL, e1, e2, hq, st⟩
  · dsimp only [Pt.U, Pt.locs, Pt.cells, Pt.slots] at X' e1 e2 h1 h2 h3 st hcl
    subst h1; subst h2; subst h3
    exact Or.inr ⟨q, (T.setVm vm₁).calling g' mk (Value.ref b :: As).toArray, t, U', L, E, ce, hT, X', hL, e1, e2, hq, hce, hcv, vx_cls hW₁ hcl, st⟩
theorem vx_runS (S : CallFix p m c cc nL s args Ts own) (hM : vx_Met l y ws rm Pc Qc XC mc ms free) (cw : CallB R s args own index y bytes maxL ret ws rm mc ms n ∧ (Cond.static y).before args s = true) (hp : PreS s H Pc As)
    (hg : g.method = m) (hn : As.length = n) (hsize : g.locals.size = nL) (hstack : g.stack = As.reverse ++ rest) (hW : 2 * g.monitorRoom + (rest.map fun v => v.category).sum ≤ 8) (hdg : decode cc g.pc = .ok (.invokestatic index, 3)) (hf : cells + mc ≤ R.cells ∧ slots + ms ≤ R.slots) :
    vx_Run p l e R s m args below meth c H locs cells slots mc ms g rest (Qc As.toArray) XC free := by
  have hK : vx_Back l R p e below s args y 3 8 (PreOf R mc ms Pc) (PostOf Qc mc ms free) (vx_Post XC mc ms free) := vx_callBack cw.1 hM hp.1
  obtain ⟨⟨-, -, -, -, -, -, hcode, hini, hy, hlen, hl⟩, hstt⟩ := cw
  obtain ⟨hx, hb, hml, ho, -⟩ := S
  intro T hT X
  rcases vx_callS X hx (bytes := bytes) (maxL := maxL) (ret := ret) ho hl hstt hini hcode hy hK hg (hsize.trans hml.symm) (argsL := As) (rest := rest) (fun sig h => hn.trans (hlen sig h)) hstack hW (by rw [hb]; exact hdg)
    (fun vm₁ hW₁ => ⟨hf.1, hf.2, hp.2 (T.setVm vm₁) hT hW₁⟩) with ⟨v, vm₁, ⟨U', l2, c2, s2⟩, hW₁, X', ⟨g', mk, t, L, e1, e2, hq, h1, hL, h2, h3⟩, st⟩ | ⟨q, vm₁, ⟨U', l2, c2, s2⟩, hW₁, X', ⟨g', mk, t, L, E, ce, e1, e2, hq, hce, hcv, hcl, h1, hL, h2, h3⟩, st⟩
  · dsimp only [Pt.U, Pt.locs, Pt.cells, Pt.slots] at X' e1 e2 h1 h2 h3 st
    subst h1; subst h2; subst h3
    exact Or.inl ⟨v, (T.setVm vm₁).calling g' mk As.toArray, t, U', L, hT, X', hL, e1, e2, hq, st⟩
  · dsimp only [Pt.U, Pt.locs, Pt.cells, Pt.slots] at X' e1 e2 h1 h2 h3 st hcl
    subst h1; subst h2; subst h3
    exact Or.inr ⟨q, (T.setVm vm₁).calling g' mk As.toArray, t, U', L, E, ce, hT, X', hL, e1, e2, hq, hce, hcv, vx_cls hW₁ hcl, st⟩
end Runs
section Rows
variable {p : Program} {l : Launch} {e : Env} {R : Room} {s : State} {m : MethodId} {args : Array Value} {below : List Frame} {meth : Method} {c : Code} {H : Heap} {locs : List Loc} {cells slots : Nat} {Q : State → Prop}
variable {mc ms : Nat} {free : Addr → Prop} {A0 A1 : Nat → Prop} {H0 : Heap} {a : Array Value} {pc : Nat} {ls : Array Slot} {st0 rest : List Value}
theorem vx_keep {st₀ t T' : State} {L : List Loc} (h0 : st₀.heap = H) (e1 : T'.heap = t.heap) (hS : va_S A0 H0 H locs) (hA : ∀ q, q < H.size → A1 q → A0 q) (hf : ∀ q, free q → A0 q) (hL : ∀ q ∈ L, free q.base) (hF : va_F A1 st₀ t) :
    H.size ≤ T'.heap.size ∧ (∀ q : Nat, q < H.size → ¬ A1 q → T'.heap[q]? = H[q]?) ∧ va_S A0 H0 T'.heap (locs ++ L) := by
  obtain ⟨hz, hk⟩ := hF
  rw [h0] at hz hk
  exact ⟨by rw [e1]; exact hz, fun q h1 h2 => by rw [e1]; exact hk q h1 h2,
    ⟨Nat.le_trans hS.1 (by rw [e1]; exact hz), fun q h1 h2 => by rw [e1, hk q (Nat.lt_of_lt_of_le h1 hS.1) (fun z => h2 (hA q (Nat.lt_of_lt_of_le h1 hS.1) z))]; exact hS.2.1 q h1 h2, fun q hq => by
      rcases List.mem_append.mp hq with h | h
      · exact hS.2.2 q h
      · exact hf _ (hL q h)⟩⟩
theorem vx_calli {S SX : Type} {post : Int32 → S → Prop} {px : SX → Prop} {B : S → State → Prop} {BX : String → SX → State → Prop} {AX : Nat → Prop} (hr : vx_Run p l e R s m args below meth c H locs cells slots mc ms (F0 m pc ls st0) rest (va_Qi post B A1 a) (vx_X px BX AX) free) (hS : va_S A0 H0 H locs) (hA : ∀ q, q < H.size → A1 q → A0 q) (hf : ∀ q, free q → A0 q) (hAX : ∀ q, q < H.size → AX q → A0 q)
    (kx : ∀ (E : String) (ce : Cell) (q9 : Addr) (u : SX) (t : State) (H1 : Heap) (locs1 : List Loc), t.heap = H1 → s.vm.Alike t.vm → px u → BX E u t → H.size ≤ H1.size → (∀ q : Nat, q < H.size → ¬ AX q → H1[q]? = H[q]?) → va_S A0 H0 H1 locs1 → H1[q9]? = some ce → ce.vm = .none → s.vm.findClass E = some ce.cls → vx_W p l e R s m args below meth c H1 locs1 (cells + mc) (slots + ms) Q (F0 m pc ls rest) q9)
    (kk : ∀ (r : Int32) (u : S) (t : State) (H1 : Heap) (locs1 : List Loc), t.heap = H1 → s.vm.Alike t.vm → post r u → B u t → H.size ≤ H1.size → (∀ q : Nat, q < H.size → ¬ A1 q → H1[q]? = H[q]?) → va_S A0 H0 H1 locs1 → W p l e R s m args below meth c H1 locs1 (cells + mc) (slots + ms) Q (F0 m (pc + 3) ls (.int r :: rest))) : W p l e R s m args below meth c H locs cells slots Q (F0 m pc ls st0) := by
  intro T hT X
  rcases hr T hT X with ⟨v, st₀, t, T', L, h0, X', hL, e1, e2, ⟨⟨r, u, hv, hp, hb⟩, hF⟩, st⟩ | ⟨q, st₀, t, T', L, E, ce, h0, X', hL, e1, e2, ⟨u, hp, hb, hF⟩, hce, hcv, hcl, st⟩
  · cases hv
    obtain ⟨k1, k2, k3⟩ := vx_keep h0 e1 hS hA hf hL hF
    obtain ⟨t2, a1, b1⟩ := kk r u t T'.heap (locs ++ L) e1.symm (by rw [← e2]; exact X'.warmed.alike) hp hb k1 k2 k3 T' rfl X'
    exact ⟨t2, st t2 a1, b1⟩
  · obtain ⟨k1, k2, k3⟩ := vx_keep h0 e1 hS hAX hf hL hF
    obtain ⟨t2, a1, b1⟩ := kx E ce q u t T'.heap (locs ++ L) e1.symm (by rw [← e2]; exact X'.warmed.alike) hp hb k1 k2 k3 (by rw [e1]; exact hce) hcv hcl T' rfl X'
    exact ⟨t2, st.trans a1, b1⟩
theorem vx_calll {S SX : Type} {post : Int64 → S → Prop} {px : SX → Prop} {B : S → State → Prop} {BX : String → SX → State → Prop} {AX : Nat → Prop} (hr : vx_Run p l e R s m args below meth c H locs cells slots mc ms (F0 m pc ls st0) rest (va_Ql post B A1 a) (vx_X px BX AX) free) (hS : va_S A0 H0 H locs) (hA : ∀ q, q < H.size → A1 q → A0 q) (hf : ∀ q, free q → A0 q) (hAX : ∀ q, q < H.size → AX q → A0 q)
    (kx : ∀ (E : String) (ce : Cell) (q9 : Addr) (u : SX) (t : State) (H1 : Heap) (locs1 : List Loc), t.heap = H1 → s.vm.Alike t.vm → px u → BX E u t → H.size ≤ H1.size → (∀ q : Nat, q < H.size → ¬ AX q → H1[q]? = H[q]?) → va_S A0 H0 H1 locs1 → H1[q9]? = some ce → ce.vm = .none → s.vm.findClass E = some ce.cls → vx_W p l e R s m args below meth c H1 locs1 (cells + mc) (slots + ms) Q (F0 m pc ls rest) q9)
    (kk : ∀ (r : Int64) (u : S) (t : State) (H1 : Heap) (locs1 : List Loc), t.heap = H1 → s.vm.Alike t.vm → post r u → B u t → H.size ≤ H1.size → (∀ q : Nat, q < H.size → ¬ A1 q → H1[q]? = H[q]?) → va_S A0 H0 H1 locs1 → W p l e R s m args below meth c H1 locs1 (cells + mc) (slots + ms) Q (F0 m (pc + 3) ls (.long r :: rest))) : W p l e R s m args below meth c H locs cells slots Q (F0 m pc ls st0) := by
  intro T hT X
  rcases hr T hT X with ⟨v, st₀, t, T', L, h0, X', hL, e1, e2, ⟨⟨r, u, hv, hp, hb⟩, hF⟩, st⟩ | ⟨q, st₀, t, T', L, E, ce, h0, X', hL, e1, e2, ⟨u, hp, hb, hF⟩, hce, hcv, hcl, st⟩
  · cases hv
    obtain ⟨k1, k2, k3⟩ := vx_keep h0 e1 hS hA hf hL hF
    obtain ⟨t2, a1, b1⟩ := kk r u t T'.heap (locs ++ L) e1.symm (by rw [← e2]; exact X'.warmed.alike) hp hb k1 k2 k3 T' rfl X'
    exact ⟨t2, st t2 a1, b1⟩
  · obtain ⟨k1, k2, k3⟩ := vx_keep h0 e1 hS hAX hf hL hF
    obtain ⟨t2, a1, b1⟩ := kx E ce q u t T'.heap (locs ++ L) e1.symm (by rw [← e2]; exact X'.warmed.alike) hp hb k1 k2 k3 (by rw [e1]; exact hce) hcv hcl T' rfl X'
    exact ⟨t2, st.trans a1, b1⟩
theorem vx_callf {S SX : Type} {post : UInt32 → S → Prop} {px : SX → Prop} {B : S → State → Prop} {BX : String → SX → State → Prop} {AX : Nat → Prop} (hr : vx_Run p l e R s m args below meth c H locs cells slots mc ms (F0 m pc ls st0) rest (va_Qf post B A1 a) (vx_X px BX AX) free) (hS : va_S A0 H0 H locs) (hA : ∀ q, q < H.size → A1 q → A0 q) (hf : ∀ q, free q → A0 q) (hAX : ∀ q, q < H.size → AX q → A0 q)
    (kx : ∀ (E : String) (ce : Cell) (q9 : Addr) (u : SX) (t : State) (H1 : Heap) (locs1 : List Loc), t.heap = H1 → s.vm.Alike t.vm → px u → BX E u t → H.size ≤ H1.size → (∀ q : Nat, q < H.size → ¬ AX q → H1[q]? = H[q]?) → va_S A0 H0 H1 locs1 → H1[q9]? = some ce → ce.vm = .none → s.vm.findClass E = some ce.cls → vx_W p l e R s m args below meth c H1 locs1 (cells + mc) (slots + ms) Q (F0 m pc ls rest) q9)
    (kk : ∀ (r : UInt32) (u : S) (t : State) (H1 : Heap) (locs1 : List Loc), t.heap = H1 → s.vm.Alike t.vm → post r u → B u t → H.size ≤ H1.size → (∀ q : Nat, q < H.size → ¬ A1 q → H1[q]? = H[q]?) → va_S A0 H0 H1 locs1 → W p l e R s m args below meth c H1 locs1 (cells + mc) (slots + ms) Q (F0 m (pc + 3) ls (.float r :: rest))) : W p l e R s m args below meth c H locs cells slots Q (F0 m pc ls st0) := by
  intro T hT X
  rcases hr T hT X with ⟨v, st₀, t, T', L, h0, X', hL, e1, e2, ⟨⟨r, u, hv, hp, hb⟩, hF⟩, st⟩ | ⟨q, st₀, t, T', L, E, ce, h0, X', hL, e1, e2, ⟨u, hp, hb, hF⟩, hce, hcv, hcl, st⟩
  · cases hv
    obtain ⟨k1, k2, k3⟩ := vx_keep h0 e1 hS hA hf hL hF
    obtain ⟨t2, a1, b1⟩ := kk r u t T'.heap (locs ++ L) e1.symm (by rw [← e2]; exact X'.warmed.alike) hp hb k1 k2 k3 T' rfl X'
    exact ⟨t2, st t2 a1, b1⟩
  · obtain ⟨k1, k2, k3⟩ := vx_keep h0 e1 hS hAX hf hL hF
    obtain ⟨t2, a1, b1⟩ := kx E ce q u t T'.heap (locs ++ L) e1.symm (by rw [← e2]; exact X'.warmed.alike) hp hb k1 k2 k3 (by rw [e1]; exact hce) hcv hcl T' rfl X'
    exact ⟨t2, st.trans a1, b1⟩
theorem vx_calld {S SX : Type} {post : UInt64 → S → Prop} {px : SX → Prop} {B : S → State → Prop} {BX : String → SX → State → Prop} {AX : Nat → Prop} (hr : vx_Run p l e R s m args below meth c H locs cells slots mc ms (F0 m pc ls st0) rest (va_Qd post B A1 a) (vx_X px BX AX) free) (hS : va_S A0 H0 H locs) (hA : ∀ q, q < H.size → A1 q → A0 q) (hf : ∀ q, free q → A0 q) (hAX : ∀ q, q < H.size → AX q → A0 q)
    (kx : ∀ (E : String) (ce : Cell) (q9 : Addr) (u : SX) (t : State) (H1 : Heap) (locs1 : List Loc), t.heap = H1 → s.vm.Alike t.vm → px u → BX E u t → H.size ≤ H1.size → (∀ q : Nat, q < H.size → ¬ AX q → H1[q]? = H[q]?) → va_S A0 H0 H1 locs1 → H1[q9]? = some ce → ce.vm = .none → s.vm.findClass E = some ce.cls → vx_W p l e R s m args below meth c H1 locs1 (cells + mc) (slots + ms) Q (F0 m pc ls rest) q9)
    (kk : ∀ (r : UInt64) (u : S) (t : State) (H1 : Heap) (locs1 : List Loc), t.heap = H1 → s.vm.Alike t.vm → post r u → B u t → H.size ≤ H1.size → (∀ q : Nat, q < H.size → ¬ A1 q → H1[q]? = H[q]?) → va_S A0 H0 H1 locs1 → W p l e R s m args below meth c H1 locs1 (cells + mc) (slots + ms) Q (F0 m (pc + 3) ls (.double r :: rest))) : W p l e R s m args below meth c H locs cells slots Q (F0 m pc ls st0) := by
  intro T hT X
  rcases hr T hT X with ⟨v, st₀, t, T', L, h0, X', hL, e1, e2, ⟨⟨r, u, hv, hp, hb⟩, hF⟩, st⟩ | ⟨q, st₀, t, T', L, E, ce, h0, X', hL, e1, e2, ⟨u, hp, hb, hF⟩, hce, hcv, hcl, st⟩
  · cases hv
    obtain ⟨k1, k2, k3⟩ := vx_keep h0 e1 hS hA hf hL hF
    obtain ⟨t2, a1, b1⟩ := kk r u t T'.heap (locs ++ L) e1.symm (by rw [← e2]; exact X'.warmed.alike) hp hb k1 k2 k3 T' rfl X'
    exact ⟨t2, st t2 a1, b1⟩
  · obtain ⟨k1, k2, k3⟩ := vx_keep h0 e1 hS hAX hf hL hF
    obtain ⟨t2, a1, b1⟩ := kx E ce q u t T'.heap (locs ++ L) e1.symm (by rw [← e2]; exact X'.warmed.alike) hp hb k1 k2 k3 (by rw [e1]; exact hce) hcv hcl T' rfl X'
    exact ⟨t2, st.trans a1, b1⟩
theorem vx_callv {S SX : Type} {post : S → Prop} {px : SX → Prop} {B : S → State → Prop} {BX : String → SX → State → Prop} {AX : Nat → Prop} (hr : vx_Run p l e R s m args below meth c H locs cells slots mc ms (F0 m pc ls st0) rest (va_Qv post B A1 a) (vx_X px BX AX) free) (hS : va_S A0 H0 H locs) (hA : ∀ q, q < H.size → A1 q → A0 q) (hf : ∀ q, free q → A0 q) (hAX : ∀ q, q < H.size → AX q → A0 q)
    (kx : ∀ (E : String) (ce : Cell) (q9 : Addr) (u : SX) (t : State) (H1 : Heap) (locs1 : List Loc), t.heap = H1 → s.vm.Alike t.vm → px u → BX E u t → H.size ≤ H1.size → (∀ q : Nat, q < H.size → ¬ AX q → H1[q]? = H[q]?) → va_S A0 H0 H1 locs1 → H1[q9]? = some ce → ce.vm = .none → s.vm.findClass E = some ce.cls → vx_W p l e R s m args below meth c H1 locs1 (cells + mc) (slots + ms) Q (F0 m pc ls rest) q9)
    (kk : ∀ (u : S) (t : State) (H1 : Heap) (locs1 : List Loc), t.heap = H1 → s.vm.Alike t.vm → post u → B u t → H.size ≤ H1.size → (∀ q : Nat, q < H.size → ¬ A1 q → H1[q]? = H[q]?) → va_S A0 H0 H1 locs1 → W p l e R s m args below meth c H1 locs1 (cells + mc) (slots + ms) Q (F0 m (pc + 3) ls (rest))) : W p l e R s m args below meth c H locs cells slots Q (F0 m pc ls st0) := by
  intro T hT X
  rcases hr T hT X with ⟨v, st₀, t, T', L, h0, X', hL, e1, e2, ⟨⟨u, hv, hp, hb⟩, hF⟩, st⟩ | ⟨q, st₀, t, T', L, E, ce, h0, X', hL, e1, e2, ⟨u, hp, hb, hF⟩, hce, hcv, hcl, st⟩
  · cases hv
    obtain ⟨k1, k2, k3⟩ := vx_keep h0 e1 hS hA hf hL hF
    obtain ⟨t2, a1, b1⟩ := kk u t T'.heap (locs ++ L) e1.symm (by rw [← e2]; exact X'.warmed.alike) hp hb k1 k2 k3 T' rfl X'
    exact ⟨t2, st t2 a1, b1⟩
  · obtain ⟨k1, k2, k3⟩ := vx_keep h0 e1 hS hAX hf hL hF
    obtain ⟨t2, a1, b1⟩ := kx E ce q u t T'.heap (locs ++ L) e1.symm (by rw [← e2]; exact X'.warmed.alike) hp hb k1 k2 k3 (by rw [e1]; exact hce) hcv hcl T' rfl X'
    exact ⟨t2, st.trans a1, b1⟩
/-- caught by the row x of this method's table; the rows ahead don't take it -/
theorem vx_catch {own name : String} {E : String} {ce : Cell} {q : Addr} (hown : s.vm.findClass own = some m.cls) (pre : List ExceptionTableEntry) (x : ExceptionTableEntry) (suf : List ExceptionTableEntry) (hsplit : c.exceptionTable.toList = pre ++ x :: suf)
    (hpass : ∀ z ∈ pre, covers z pc = false ∨ (z.catchType ≠ 0 ∧ ∃ nm : String, (Cond.classLink own z.catchType nm).before args s = true ∧ va_Nc E nm s)) (hx : covers x pc = true) (h0 : x.catchType ≠ 0)
    (hlink : (Cond.classLink own x.catchType name).before args s = true) (hcast : (Cond.castable E name).before args s = true) (hcell : H[q]? = some ce) (hv : ce.vm = .none) (hcl : s.vm.findClass E = some ce.cls)
    (kk : W p l e R s m args below meth c H locs cells slots Q (F0 m x.handlerPc ls [.ref q])) : vx_W p l e R s m args below meth c H locs cells slots Q (F0 m pc ls rest) q := by
  intro T hT X
  have hpl : e.platform.magicAccessors = ({} : Platform).magicAccessors := by rw [X.admits.platform]
  obtain ⟨c3, c4, hc3, hc4, hasg⟩ := Cond.castable_spec hcast
  cases Option.some.inj (hc3.symm.trans hcl)
  obtain ⟨c5, hc5, hcl5⟩ := Cond.classLink_spec hown hlink e.platform hpl
  cases Option.some.inj (hc4.symm.trans hc5)
  obtain ⟨vm', X', st⟩ := X.thenCaughtThrough q (g := F0 m pc ls rest) rfl (Steps.refl _) (by rw [hT]; exact hcell) (by rw [hv]; rfl) (by obtain ⟨k9, h9, -⟩ := Vm.findClass_spec hcl; exact ⟨k9, h9⟩) pre x suf hsplit
    (fun z hz => by
      rcases hpass z hz with h | ⟨hz0, nm, hl1, hn1⟩
      · exact Or.inl h
      · obtain ⟨c6, hc6, hcl6⟩ := Cond.classLink_spec hown hl1 e.platform hpl
        obtain ⟨a8, b8, h1, h2, h3⟩ := hn1
        cases Option.some.inj (h1.symm.trans hcl)
        cases Option.some.inj (h2.symm.trans hc6)
        exact Or.inr ⟨hz0, _, hcl6, h3⟩) hx (Or.inr ⟨h0, c4, hcl5, hasg⟩)
  obtain ⟨t, a1, b1⟩ := kk (T.setVm vm') hT X'
  exact ⟨t, st.trans a1, b1⟩
end Rows
section Ends
variable {p : Program} {l : Launch} {e : Env} {R : Room} {s : State} {m : MethodId} {args : Array Value} {below : List Frame} {meth : Method} {c : Code} {H : Heap} {locs : List Loc} {cells slots : Nat} {Q : State → Prop}
variable {mc ms : Nat} {free : Addr → Prop} {A0 A1 : Nat → Prop} {H0 : Heap} {a : Array Value} {ls : Array Slot} {st0 rest : List Value}
variable {Qc : Array Value → State → Outcome → State → Prop} {XC : String → State → State → Prop}
/-- what a body that may throw owes at its end -/
def vx_MQ (below : List Frame) (Qc : Array Value → State → Outcome → State → Prop) (XC : String → State → State → Prop) (a : Array Value) (s : State) (mc ms : Nat) (free : Addr → Prop) : State → Prop := fun t =>
  ∃ o, t.status = .running ∧ Ended t below o ∧ vx_Q Qc XC mc ms free a s o t
theorem vx_ret {g : JFrame} {mc ms : Nat} (k : W p l e R s m args below meth c H locs cells slots (MQ below Qc args s mc ms free) g) : W p l e R s m args below meth c H locs cells slots (vx_MQ below Qc XC args s mc ms free) g := by
  intro T hT X
  obtain ⟨t, a1, o, b1, b2, b3, b4⟩ := k T hT X
  exact ⟨t, a1, o, b1, b2, Or.inl ⟨b3, b4⟩⟩
/-- not caught here: it goes on to the caller -/
theorem vx_widen {g : JFrame} {q : Addr} {k n : Nat} (h1 : cells ≤ k) (h2 : slots ≤ n) (kk : vx_W p l e R s m args below meth c H locs k n Q g q) : vx_W p l e R s m args below meth c H locs cells slots Q g q := fun T hT X => kk T hT (stand_widen X h1 h2)
theorem vx_out {pc : Nat} {E : String} {ce : Cell} {q : Addr} {mc ms : Nat} (hout : ∀ x ∈ c.exceptionTable.toList, covers x pc = false) (hlocks : meth.locks = false) (hcell : H[q]? = some ce) (hv : ce.vm = .none) (hcl : s.vm.findClass E = some ce.cls)
    (hx : ∀ t : State, t.heap = H → s.vm.Alike t.vm → XC E s t) (hf : ∀ z ∈ locs, free z.base) (hc : cells ≤ mc) (hs : slots ≤ ms) :
    vx_W p l e R s m args below meth c H locs cells slots (vx_MQ below Qc XC args s mc ms free) (F0 m pc ls rest) q := by
  intro T hT X
  obtain ⟨st1, hrun, hend, hW, hsm⟩ := X.leaveThrown q (g := F0 m pc ls rest) rfl rfl rfl hout hlocks
  have hcell9 : (T.setFrames (.throwing q :: below)).heap[q]? = some ce := by
    show T.heap[q]? = some ce
    rw [hT]; exact hcell
  exact ⟨_, st1, .threw q, hrun, hend, Or.inr ⟨q, rfl, E, ce, locs, hx _ hT hW.alike, hcell9, hv, hcl, hW, hsm.mono hc hs, hf⟩⟩
theorem vx_frame {U : State} {k n : Nat} (h : s.sameButNew ({ U with vm := s.vm } : State) locs k n) : s.heap.size ≤ U.heap.size ∧ ∀ q : Nat, q < s.heap.size → (∀ z ∈ locs, z.base ≠ q) → U.heap[q]? = s.heap[q]? := by
  obtain ⟨-, h2, -, -, -, h6⟩ := h
  refine ⟨h2, fun q hq hz => ?_⟩
  obtain ⟨c9, e1, e2, e3, e4⟩ := h6 q _ (Array.getElem?_eq_getElem hq)
  have hs : c9.slots = (s.heap[q]).slots := Array.ext_getElem? fun i => e4 i fun hm => hz _ hm rfl
  have h9 : c9 = s.heap[q] := by
    rw [hs] at e2
    exact e2
  have e5 : U.heap[q]? = some c9 := e1
  rw [e5, h9, Array.getElem?_eq_getElem hq]
/-- the words of a throw but the four that speak of the heap -/
def vx_no (w : Cond) : Bool := decide (w ≠ .isRef (.static Bundle.tN "UNASSIGNED_STACK" Bundle.steD)) && decide (w ≠ .isRef (.static Bundle.tN "SUPPRESSED_SENTINEL" Bundle.listD)) && decide (w ≠ .laysStatic Bundle.tN "UNASSIGNED_STACK" Bundle.steD) && decide (w ≠ .laysStatic Bundle.tN "SUPPRESSED_SENTINEL" Bundle.listD)
def vx_at0 (own : String) (ic : Nat) (X : String) (names : List String) : List Cond := (Bundle.ownAtoms0 own ic X names).filter vx_no
def vx_atS (own : String) (ic : Nat) (X : String) (names : List String) : List Cond := (Bundle.ownAtoms own ic X names).filter vx_no
/-- a word that the tables alone decide, or a good one -/
def vx_ot (w : Cond) : Bool := w.onTables || goodWord w
theorem vx_ot_at {args a' : Array Value} {s U : State} {w : Cond} (hW : s.WarmedH U.vm) (hvm : s.vm = U.vm) (hg : vx_ot w = true) (h : w.before args s = true) : w.before a' U = true := by
  simp only [vx_ot, Bool.or_eq_true] at hg
  rcases hg with hg | hg
  · exact va_tabs hg hvm h
  · exact word_at hW (good_of_word hg) h
/-- a list's words: the good ones out of the method's own list, the others by premises of their own -/
theorem vx_hat {args : Array Value} {s : State} {L B : List Cond} (h1 : ∀ w ∈ L.filter goodWord, w.before args s = true) (h2 : ∀ w ∈ L.filter (fun w => !goodWord w), w ∈ B) (h3 : ∀ w ∈ B, w.before args s = true) : ∀ w ∈ L, w.before args s = true := by
  intro w hw
  by_cases g : goodWord w = true
  · exact h1 w (List.mem_filter.mpr ⟨hw, g⟩)
  · refine h3 w (h2 w (List.mem_filter.mpr ⟨hw, ?_⟩))
    show (!goodWord w) = true
    cases hgw : goodWord w
    · rfl
    · exact absurd hgw g
theorem vx_c {args : Array Value} {s : State} {w : Cond} {B : List Cond} (h : w.before args s = true) (t : ∀ w ∈ B, w.before args s = true) : ∀ w' ∈ w :: B, w'.before args s = true := fun w' h' => (List.mem_cons.mp h').elim (fun e => by rw [e]; exact h) (t w')
theorem vx_n {args : Array Value} {s : State} : ∀ w ∈ ([] : List Cond), w.before args s = true := fun _ h => nomatch h
theorem vx_own {args : Array Value} {s : State} {L : List Cond} (h1 : ∀ w ∈ L.filter vx_no, w.before args s = true)
    (hU : (Cond.isRef (.static Bundle.tN "UNASSIGNED_STACK" Bundle.steD)).before args s = true) (hN : (Cond.isRef (.static Bundle.tN "SUPPRESSED_SENTINEL" Bundle.listD)).before args s = true)
    (lU : (Cond.laysStatic Bundle.tN "UNASSIGNED_STACK" Bundle.steD).before args s = true) (lN : (Cond.laysStatic Bundle.tN "SUPPRESSED_SENTINEL" Bundle.listD).before args s = true) : ∀ w ∈ L, w.before args s = true := by
  intro w hw
  by_cases e1 : w = .isRef (.static Bundle.tN "UNASSIGNED_STACK" Bundle.steD)
  · rw [e1]; exact hU
  · by_cases e2 : w = .isRef (.static Bundle.tN "SUPPRESSED_SENTINEL" Bundle.listD)
    · rw [e2]; exact hN
    · by_cases e3 : w = .laysStatic Bundle.tN "UNASSIGNED_STACK" Bundle.steD
      · rw [e3]; exact lU
      · by_cases e4 : w = .laysStatic Bundle.tN "SUPPRESSED_SENTINEL" Bundle.listD
        · rw [e4]; exact lN
        · exact h1 w (List.mem_filter.mpr ⟨hw, by unfold vx_no; rw [decide_eq_true e1, decide_eq_true e2, decide_eq_true e3, decide_eq_true e4]; rfl⟩)
/-- where a static field lies, its class's statics cell in H -/
def vx_L (C n d : String) (A : Nat → Prop) (U : State) (H : Heap) : Prop := ∃ (c : ClassId) (k : Class) (i : Nat) (f : Field) (a : Nat) (cell : Cell), U.vm.findClass C = some c ∧ U.fieldFound? C n d = some (c, k, i, f) ∧ f.isStatic = true ∧ k.statics = some a ∧ H[a]? = some cell ∧ cell.vm.isStatics = true ∧ cell.cls = c ∧ f.slot < cell.slots.size ∧ k.staticTypes[f.slot]? = some f.type ∧ ¬ A a
theorem vx_L.moved {C n d : String} {A : Nat → Prop} {u U : State} {H : Heap} (hvm : u.vm.Alike U.vm) (h : vx_L C n d A u H) : vx_L C n d A U H := by
  obtain ⟨c, k, i, f, a, cell, h1, h2, h3, h4, h5, h6, h7, h8, h9, h10⟩ := h
  obtain ⟨k', hi', he⟩ := State.fieldFound?_setVm hvm h2
  exact ⟨c, k', i, f, a, cell, by rw [hvm.findClass]; exact h1, hi', h3, by rw [he]; exact h4, h5, h6, h7, h8, by rw [he]; exact h9, h10⟩
theorem vx_L.kept {C n d : String} {A : Nat → Prop} {U : State} {H H1 : Heap} (h : vx_L C n d A U H) (hq : ∀ a : Nat, a < H.size → ¬ A a → H1[a]? = H[a]?) : vx_L C n d A U H1 := by
  obtain ⟨c, k, i, f, a, cell, h1, h2, h3, h4, h5, h6, h7, h8, h9, h10⟩ := h
  exact ⟨c, k, i, f, a, cell, h1, h2, h3, h4, by rw [hq a (Array.getElem?_eq_some_iff.mp h5).1 h10]; exact h5, h6, h7, h8, h9, h10⟩
theorem vx_L.narrow {C n d : String} {A B : Nat → Prop} {U : State} {H : Heap} (h : vx_L C n d A U H) (hAB : ∀ q, B q → A q) : vx_L C n d B U H := by
  obtain ⟨c, k, i, f, a, cell, h1, h2, h3, h4, h5, h6, h7, h8, h9, h10⟩ := h
  exact ⟨c, k, i, f, a, cell, h1, h2, h3, h4, h5, h6, h7, h8, h9, fun z => h10 (hAB _ z)⟩
theorem vx_L.word {C n d : String} {A : Nat → Prop} {s : State} {args : Array Value} (h : vx_L C n d A s s.heap) : (Cond.laysStatic C n d).before args s = true := by
  obtain ⟨c, k, i, f, a, cell, h1, h2, h3, h4, h5, h6, h7, h8, h9, -⟩ := h
  show (Cond.laysStatic C n d).holds args s none s [] = true
  exact Cond.laysStatic_of h1 h2 h3 h4 h5 h6 h7 h8 h9
/-- .. and what it holds: null or some reference -/
def vx_Zq (C n d : String) (A : Nat → Prop) (U : State) (H : Heap) : Prop := va_Zq C n d A U H ∧ vx_L C n d A U H
theorem vx_Zq.moved {C n d : String} {A : Nat → Prop} {u U : State} {H : Heap} (hvm : u.vm.Alike U.vm) (h : vx_Zq C n d A u H) : vx_Zq C n d A U H := ⟨va_Zq.moved hvm h.1, vx_L.moved hvm h.2⟩
theorem vx_Zq.kept {C n d : String} {A : Nat → Prop} {U : State} {H H1 : Heap} (h : vx_Zq C n d A U H) (hq : ∀ a : Nat, a < H.size → ¬ A a → H1[a]? = H[a]?) : vx_Zq C n d A U H1 := ⟨va_Zq.kept h.1 hq, vx_L.kept h.2 hq⟩
theorem vx_Zq.narrow {C n d : String} {A B : Nat → Prop} {U : State} {H : Heap} (h : vx_Zq C n d A U H) (hAB : ∀ q, B q → A q) : vx_Zq C n d B U H := ⟨va_Zq.narrow h.1 hAB, vx_L.narrow h.2 hAB⟩
theorem vx_Zqof {args : Array Value} {s : State} {C n d : String} {A : Nat → Prop} (hl : (Cond.laysStatic C n d).before args s = true) (hini : (Cond.initialized C).before args s = true) (h : (Cond.isRef (.static C n d)).before args s = true) (hA : ∀ a : Nat, a < s.heap.size → ¬ A a) : vx_Zq C n d A s s.heap := by
  refine ⟨va_Zqof hl hini h hA, ?_⟩
  obtain ⟨c, k, i, f, a, cell, h1, h2, h3, h4, h5, h6, h7, h8, h9⟩ := Cond.laysStatic_spec hl
  exact ⟨c, k, i, f, a, cell, h1, h2, h3, h4, h5, h6, h7, h8, h9, hA a (Array.getElem?_eq_some_iff.mp h5).1⟩
theorem vx_isRef {C n d : String} {v : Value} {A : Nat → Prop} {s : State} {args : Array Value} (h : va_Z C n d v A s s.heap) (hv : v.isRef = true) : (Cond.isRef (.static C n d)).before args s = true := by
  obtain ⟨cf, kf, fi, f, a, cell, h1, h2, h3, h4, h5, h6, h7, -⟩ := h
  have he : (Term.static C n d).eval args s none [] s = some v := by
    simp [Term.eval, State.fieldNamed?, h1, h2, h4, h5, h6, h7]
  simp only [Cond.before, Cond.holds, Cond.value, he]
  cases v <;> simp_all [Value.isRef]
theorem vx_isRefq {C n d : String} {A : Nat → Prop} {s : State} {args : Array Value} (h : va_Zq C n d A s s.heap) : (Cond.isRef (.static C n d)).before args s = true := by
  rcases h with h | ⟨t, h⟩
  · exact vx_isRef h rfl
  · exact vx_isRef h rfl
/-- the same frame, seen from here: as if the method were called anew in this heap -/
theorem vx_rebase {T : State} (X : Stand p l e R s m args below meth c T locs cells slots) {R' : Room} (hf : R'.frames ≤ R.frames) (hl : R'.locals ≤ R.locals) (hc : cells + R'.cells ≤ R.cells) (hs : slots + R'.slots ≤ R.slots) :
    Stand p l e R' ((T.setVm s.vm).setFrames (.invoking m args :: below)) m args below meth c T [] 0 0 := by
  have htop : (T.setVm s.vm).topJava?.isSome := X.here.top
  have hF : ((T.setVm s.vm).setFrames (.invoking m args :: below)).frames = .invoking m args :: below := State.frames_setFrames _ (State.cur_lt_of_top htop)
  obtain ⟨g₀, hg0⟩ := Option.isSome_iff_exists.mp htop
  obtain ⟨r, hr⟩ := State.topJava?_eq_some.mp hg0
  have hl9 : e.platform.stackLimits (T.setVm s.vm).me = e.platform.stackLimits s.me := X.limits
  have hb9 : (T.setVm s.vm).me.stackBytes = s.me.stackBytes := X.bytes
  refine ⟨X.admits, X.cas, X.clock, hF, ?_, X.hears, X.method, X.code, X.here, X.tail, X.warmed, ?_, ?_, ?_⟩
  · have h := X.room
    have hU : ((T.setVm s.vm).setFrames (.invoking m args :: below)).localsInUse = s.localsInUse := by
      rw [State.localsInUse_invoking hF (meth := meth) (c := c) X.method X.code, State.localsInUse_invoking X.frames X.method X.code]
    simp only [State.hasRoom, Bool.and_eq_true, decide_eq_true_eq] at h ⊢
    obtain ⟨⟨⟨⟨h1, h2, h3, h4, h5, h6⟩, h7⟩, h8⟩, h9⟩ := h
    rw [X.frames, List.length_cons] at h2 h3
    have q1 := X.heapSize
    have q2 := X.used
    simp only [hF, hU, List.length_cons, State.stackLimits_setFrames, State.stackBytes_setFrames, hl9, hb9]
    refine ⟨⟨⟨⟨by omega, by omega, by omega, by omega, by omega, h6⟩, ?_⟩, ?_⟩, X.book⟩
    · show T.heap.size + R'.cells ≤ e.platform.maxCells
      omega
    · show T.slotsUsed + R'.slots ≤ e.platform.maxSlots
      omega
  · rw [State.stackLimits_setFrames]; rfl
  · rw [State.stackBytes_setFrames]; rfl
  · refine ⟨?_, Nat.le_refl _, Nat.le_refl _, ?_, ?_, fun a c9 h9 => ⟨c9, h9, rfl, rfl, fun _ _ => rfl⟩⟩
    · obtain ⟨t, ht, -⟩ := State.frames_cons hr
      show T.setVm s.vm = { ((T.setVm s.vm).setFrames (.invoking m args :: below)).setFrames (T.setVm s.vm).frames with heap := T.heap, slotsUsed := T.slotsUsed }
      rw [State.setFrames_setFrames, State.setFrames_self ht]
      rfl
    · show T.slotsUsed = T.slotsUsed + ((T.heap.toList.drop T.heap.size).map (·.slots.size)).sum
      rw [List.drop_eq_nil_of_le (Nat.le_of_eq Array.length_toList)]
      rfl
    · show ((T.heap.toList.drop T.heap.size).map (·.slots.size)).sum ≤ 0
      rw [List.drop_eq_nil_of_le (Nat.le_of_eq Array.length_toList)]
      exact Nat.le_refl _
/-- 'throw new E()': new; dup; invokespecial; athrow -/
theorem vx_throw0 {cc : ByteArray} {pc : Nat} (hexec : p.tables.exec = Jvm.exec) (hb : c.code = cc) (hl : l.stackTraces = false) {own cls : String} {names : List String} {ik ic mc ms : Nat} {A : Nat → Prop}
    (hown : s.vm.findClass own = some m.cls) (hcls : Bundle.fit cls = true) (hnames : ∀ n ∈ names, Bundle.fit n = true)
    (hk : (Cond.classLink own ik cls).before args s = true) (hini : (Cond.initialized cls).before args s = true) (hat : ∀ w ∈ vx_at0 own ic cls names, w.before args s = true)
    (hgood : ∀ w ∈ Cond.classLink own ik cls :: Cond.initialized cls :: vx_at0 own ic cls names, vx_ot w = true)
    (hU : vx_Zq Bundle.tN "UNASSIGNED_STACK" Bundle.steD A s s.heap) (hN : vx_Zq Bundle.tN "SUPPRESSED_SENTINEL" Bundle.listD A s s.heap) (hS : va_S A s.heap H locs) (hsize : ls.size = c.maxLocals)
    (d0 : decode cc pc = .ok (.new ik, 3)) (d3 : decode cc (pc + 3) = .ok (.dup, 1)) (d4 : decode cc (pc + 4) = .ok (.invokespecial ic, 3)) (d7 : decode cc (pc + 7) = .ok (.athrow, 1))
    (hout : ∀ x ∈ c.exceptionTable.toList, covers x (pc + 7) = false)
    (hRframes : names.length + 3 < R.frames) (hRlocals : (rest.map fun v => v.category).sum + (13 * (names.length + 1) + 42) ≤ R.locals) (hRcells : cells + 1 ≤ R.cells) (hRslots : slots + 6 ≤ R.slots) (hlocks : meth.locks = false)
    (hx : ∀ t : State, s.vm.Alike t.vm → H.size ≤ t.heap.size → (∀ q : Nat, q < H.size → t.heap[q]? = H[q]?) → XC cls s t)
    (hf : ∀ z ∈ locs, free z.base) (hc : cells + 1 ≤ mc) (hs : slots + 6 ≤ ms) :
    W p l e R s m args below meth c H locs cells slots (vx_MQ below Qc XC args s mc ms free) (F0 m pc ls rest) := by
  intro T hT X
  have htr : e.platform.stackTraces = false := (show e.platform.stackTraces = l.stackTraces by rw [X.admits.platform]).trans hl
  have Y := vx_rebase X (R' := { frames := R.frames, locals := R.locals, cells := 1, slots := 6 }) (Nat.le_refl _) (Nat.le_refl _) hRcells hRslots
  obtain ⟨s', hA⟩ : ∃ z, z = (T.setVm s.vm).setFrames (.invoking m args :: below) := ⟨_, rfl⟩
  rw [← hA] at Y
  have hvm : s'.vm = s.vm := by rw [hA]; rfl
  have hhp : s'.heap = H := by rw [hA]; exact hT
  have hW0 : s.WarmedH s'.vm := by rw [hvm]; exact State.WarmedH.refl s
  have hat' : ∀ w ∈ vx_at0 own ic cls names, w.before args s' = true := fun w hw => vx_ot_at hW0 hvm.symm (hgood w (List.mem_cons_of_mem _ (List.mem_cons_of_mem _ hw))) (hat w hw)
  have hk' : (Cond.classLink own ik cls).before args s' = true := vx_ot_at hW0 hvm.symm (hgood _ List.mem_cons_self) hk
  have hini' : (Cond.initialized cls).before args s' = true := vx_ot_at hW0 hvm.symm (hgood _ (List.mem_cons_of_mem _ List.mem_cons_self)) hini
  have hU' : vx_Zq Bundle.tN "UNASSIGNED_STACK" Bundle.steD A s' s'.heap := by rw [hhp]; exact vx_Zq.moved hW0.alike (hU.kept hS.2.1)
  have hN' : vx_Zq Bundle.tN "SUPPRESSED_SENTINEL" Bundle.listD A s' s'.heap := by rw [hhp]; exact vx_Zq.moved hW0.alike (hN.kept hS.2.1)
  have h : ∀ w ∈ Bundle.ownAtoms0 own ic cls names, w.before args s' = true := vx_own hat' (vx_isRefq hU'.1) (vx_isRefq hN'.1) hU'.2.word hN'.2.word
  have hown' : s'.vm.findClass own = some m.cls := by rw [hvm]; exact hown
  have hins : (Cond.instantiable cls 6).before args s' = true := h _ (by simp [Bundle.ownAtoms0])
  obtain ⟨vm₁, cX, kX, hfX, hkX, -, -, X₁, st1⟩ := Y.newCold hexec (own := own) (C := cls) (index := ik) (n := 6) hown' hk' hins hini'
    (g := F0 m pc ls rest) rfl (by rw [hb]; exact d0) (Nat.le_refl _) (Nat.le_refl _)
  generalize hT1 : (T.setVm vm₁).pushCell { cls := cX, slots := kX.instanceTypes.map defaultValue, vm := .none } = T1 at X₁ st1
  have hcat : (Value.ref T.heap.size).category = 1 := rfl
  have hcellA : T1.heap[T.heap.size]? = some (freshCell cX kX) := by rw [← hT1]; exact State.heap_pushCell_size _ _
  have d3' : decode c.code (pc + 3) = .ok (.dup, 1) := by rw [hb]; exact d3
  obtain ⟨U, hsteps, hrun, hend, hW, hsame, ce, hce, hO⟩ := X₁.ctorThrow0 hexec htr (own := own) (cls := cls) (names := names) (ic := ic) hown' hcls hnames h (fun x hx => nomatch hx) hfX hkX hcellA (by rw [hhp, hT]; exact Nat.le_refl _)
    (g := { method := m, pc := pc + 4, locals := ls, stack := .ref T.heap.size :: .ref T.heap.size :: rest, locked := none }) rfl hsize rfl rfl (rest := rest) rfl
    (by rw [hb]; exact d4) (by rw [hb]; exact d7) hout hRframes (by simp only [List.map_cons, List.sum_cons, hcat]; omega) hlocks
  obtain ⟨f1, f2⟩ := vx_frame hsame
  rw [hhp] at f1 f2
  have hWs : s.WarmedH U.vm := State.WarmedH.trans hW0 hW
  have hcl : s.vm.findClass cls = some ce.cls := by
    have h9 := hO.cls
    rw [hvm] at h9
    exact h9
  have hall : s.sameButNew ({ U with vm := s.vm } : State) locs mc ms := by
    subst hA
    obtain ⟨e1, e2⟩ := hsame
    rw [State.setFrames_setFrames] at e1
    have h2 : (T.setVm s.vm).sameButNew ({ U with vm := s.vm } : State) [] (0 + 1) (0 + 6) := ⟨e1, e2⟩
    have h3 := X.same.trans h2
    rw [List.append_nil] at h3
    exact h3.mono hc hs
  refine ⟨U, ?_, .threw T.heap.size, hrun, hend, Or.inr ⟨T.heap.size, rfl, cls, ce, locs, hx U hWs.alike f1 (fun q hq => f2 q hq (fun z hz => nomatch hz)), hce, hO.vm, hcl, hWs, hall, hf⟩⟩
  refine st1 _ ?_
  show Steps p.tables e below (T1.setTop { method := m, pc := pc + 3, locals := ls, stack := .ref T.heap.size :: rest, locked := none }) _
  jvm_step X₁.here [X₁.here.top, hexec, d3', Value.category]
  exact hsteps
/-- 'throw new E("text")': new; dup; ldc; invokespecial; athrow -/
theorem vx_throwS {cc : ByteArray} {pc : Nat} (hexec : p.tables.exec = Jvm.exec) (hb : c.code = cc) (hl : l.stackTraces = false) {own cls text : String} {names : List String} {ik is ic mc ms sa : Nat} {A : Nat → Prop}
    (hown : s.vm.findClass own = some m.cls) (hcls : Bundle.fit cls = true) (hnames : ∀ n ∈ names, Bundle.fit n = true)
    (hk : (Cond.classLink own ik cls).before args s = true) (hini : (Cond.initialized cls).before args s = true) (hstr : vk_R own is text sa s) (hat : ∀ w ∈ vx_atS own ic cls names, w.before args s = true)
    (hgood : ∀ w ∈ Cond.classLink own ik cls :: Cond.initialized cls :: vx_atS own ic cls names, vx_ot w = true)
    (hU : vx_Zq Bundle.tN "UNASSIGNED_STACK" Bundle.steD A s s.heap) (hN : vx_Zq Bundle.tN "SUPPRESSED_SENTINEL" Bundle.listD A s s.heap) (hS : va_S A s.heap H locs) (hsize : ls.size = c.maxLocals)
    (d0 : decode cc pc = .ok (.new ik, 3)) (d3 : decode cc (pc + 3) = .ok (.dup, 1)) (d4 : decode cc (pc + 4) = .ok (.ldc is, 2)) (d6 : decode cc (pc + 6) = .ok (.invokespecial ic, 3)) (d9 : decode cc (pc + 9) = .ok (.athrow, 1))
    (hout : ∀ x ∈ c.exceptionTable.toList, covers x (pc + 9) = false)
    (hRframes : names.length + 3 < R.frames) (hRlocals : (rest.map fun v => v.category).sum + (13 * (names.length + 1) + 43) ≤ R.locals) (hRcells : cells + 1 ≤ R.cells) (hRslots : slots + 6 ≤ R.slots) (hlocks : meth.locks = false)
    (hx : ∀ t : State, s.vm.Alike t.vm → H.size ≤ t.heap.size → (∀ q : Nat, q < H.size → t.heap[q]? = H[q]?) → XC cls s t)
    (hf : ∀ z ∈ locs, free z.base) (hc : cells + 1 ≤ mc) (hs : slots + 6 ≤ ms) :
    W p l e R s m args below meth c H locs cells slots (vx_MQ below Qc XC args s mc ms free) (F0 m pc ls rest) := by
  intro T hT X
  have htr : e.platform.stackTraces = false := (show e.platform.stackTraces = l.stackTraces by rw [X.admits.platform]).trans hl
  have Y := vx_rebase X (R' := { frames := R.frames, locals := R.locals, cells := 1, slots := 6 }) (Nat.le_refl _) (Nat.le_refl _) hRcells hRslots
  obtain ⟨s', hA⟩ : ∃ z, z = (T.setVm s.vm).setFrames (.invoking m args :: below) := ⟨_, rfl⟩
  rw [← hA] at Y
  have hvm : s'.vm = s.vm := by rw [hA]; rfl
  have hhp : s'.heap = H := by rw [hA]; exact hT
  have hW0 : s.WarmedH s'.vm := by rw [hvm]; exact State.WarmedH.refl s
  have hat' : ∀ w ∈ vx_atS own ic cls names, w.before args s' = true := fun w hw => vx_ot_at hW0 hvm.symm (hgood w (List.mem_cons_of_mem _ (List.mem_cons_of_mem _ hw))) (hat w hw)
  have hk' : (Cond.classLink own ik cls).before args s' = true := vx_ot_at hW0 hvm.symm (hgood _ List.mem_cons_self) hk
  have hini' : (Cond.initialized cls).before args s' = true := vx_ot_at hW0 hvm.symm (hgood _ (List.mem_cons_of_mem _ List.mem_cons_self)) hini
  have hU' : vx_Zq Bundle.tN "UNASSIGNED_STACK" Bundle.steD A s' s'.heap := by rw [hhp]; exact vx_Zq.moved hW0.alike (hU.kept hS.2.1)
  have hN' : vx_Zq Bundle.tN "SUPPRESSED_SENTINEL" Bundle.listD A s' s'.heap := by rw [hhp]; exact vx_Zq.moved hW0.alike (hN.kept hS.2.1)
  have h : ∀ w ∈ Bundle.ownAtoms own ic cls names, w.before args s' = true := vx_own hat' (vx_isRefq hU'.1) (vx_isRefq hN'.1) hU'.2.word hN'.2.word
  have hown' : s'.vm.findClass own = some m.cls := by rw [hvm]; exact hown
  have hins : (Cond.instantiable cls 6).before args s' = true := h _ (by simp [Bundle.ownAtoms])
  obtain ⟨vm₁, cX, kX, hfX, hkX, -, -, X₁, st1⟩ := Y.newCold hexec (own := own) (C := cls) (index := ik) (n := 6) hown' hk' hins hini'
    (g := F0 m pc ls rest) rfl (by rw [hb]; exact d0) (Nat.le_refl _) (Nat.le_refl _)
  generalize hT1 : (T.setVm vm₁).pushCell { cls := cX, slots := kX.instanceTypes.map defaultValue, vm := .none } = T1 at X₁ st1
  have hcat : (Value.ref T.heap.size).category = 1 := rfl
  have hcellA : T1.heap[T.heap.size]? = some (freshCell cX kX) := by rw [← hT1]; exact State.heap_pushCell_size _ _
  have d3' : decode c.code (pc + 3) = .ok (.dup, 1) := by rw [hb]; exact d3
  have d4' : decode c.code (pc + 4) = .ok (.ldc is, 2) := by rw [hb]; exact d4
  have hstr' : vk_R own is text sa s' := vk_R.warm hW0 hstr
  obtain ⟨U, hsteps, hrun, hend, hW, hsame, ce, hce, hO⟩ := X₁.ctorThrowS hexec htr (own := own) (cls := cls) (names := names) (ic := ic) hown' hcls hnames h (fun x hx => nomatch hx) hfX hkX hcellA (by rw [hhp, hT]; exact Nat.le_refl _) (msg := .ref sa) rfl
    (g := { method := m, pc := pc + 6, locals := ls, stack := .ref sa :: .ref T.heap.size :: .ref T.heap.size :: rest, locked := none }) rfl hsize rfl rfl (rest := rest) rfl
    (by rw [hb]; exact d6) (by rw [hb]; exact d9) hout hRframes (by simp only [List.map_cons, List.sum_cons, hcat]; omega) hlocks
  obtain ⟨f1, f2⟩ := vx_frame hsame
  rw [hhp] at f1 f2
  have hWs : s.WarmedH U.vm := State.WarmedH.trans hW0 hW
  have hcl : s.vm.findClass cls = some ce.cls := by
    have h9 := hO.cls
    rw [hvm] at h9
    exact h9
  have hall : s.sameButNew ({ U with vm := s.vm } : State) locs mc ms := by
    subst hA
    obtain ⟨e1, e2⟩ := hsame
    rw [State.setFrames_setFrames] at e1
    have h2 : (T.setVm s.vm).sameButNew ({ U with vm := s.vm } : State) [] (0 + 1) (0 + 6) := ⟨e1, e2⟩
    have h3 := X.same.trans h2
    rw [List.append_nil] at h3
    exact h3.mono hc hs
  refine ⟨U, ?_, .threw T.heap.size, hrun, hend, Or.inr ⟨T.heap.size, rfl, cls, ce, locs, hx U hWs.alike f1 (fun q hq => f2 q hq (fun z hz => nomatch hz)), hce, hO.vm, hcl, hWs, hall, hf⟩⟩
  refine st1 _ ?_
  show Steps p.tables e below (T1.setTop { method := m, pc := pc + 3, locals := ls, stack := .ref T.heap.size :: rest, locked := none }) _
  jvm_step X₁.here [X₁.here.top, hexec, d3', Value.category]
  exact X₁.ldcString hexec (own := own) (text := text) (index := is) (a := sa) hown' hstr'.1 hstr'.2
    (g := { method := m, pc := pc + 4, locals := ls, stack := .ref T.heap.size :: .ref T.heap.size :: rest, locked := none }) rfl d4' _ hsteps
/-- 'throw new E("text")', the text by a wide index -/
theorem vx_throwSW {cc : ByteArray} {pc : Nat} (hexec : p.tables.exec = Jvm.exec) (hb : c.code = cc) (hl : l.stackTraces = false) {own cls text : String} {names : List String} {ik is ic mc ms sa : Nat} {A : Nat → Prop}
    (hown : s.vm.findClass own = some m.cls) (hcls : Bundle.fit cls = true) (hnames : ∀ n ∈ names, Bundle.fit n = true)
    (hk : (Cond.classLink own ik cls).before args s = true) (hini : (Cond.initialized cls).before args s = true) (hstr : vk_R own is text sa s) (hat : ∀ w ∈ vx_atS own ic cls names, w.before args s = true)
    (hgood : ∀ w ∈ Cond.classLink own ik cls :: Cond.initialized cls :: vx_atS own ic cls names, vx_ot w = true)
    (hU : vx_Zq Bundle.tN "UNASSIGNED_STACK" Bundle.steD A s s.heap) (hN : vx_Zq Bundle.tN "SUPPRESSED_SENTINEL" Bundle.listD A s s.heap) (hS : va_S A s.heap H locs) (hsize : ls.size = c.maxLocals)
    (d0 : decode cc pc = .ok (.new ik, 3)) (d3 : decode cc (pc + 3) = .ok (.dup, 1)) (d4 : decode cc (pc + 4) = .ok (.ldc_w is, 3)) (d7 : decode cc (pc + 7) = .ok (.invokespecial ic, 3)) (d10 : decode cc (pc + 10) = .ok (.athrow, 1))
    (hout : ∀ x ∈ c.exceptionTable.toList, covers x (pc + 10) = false)
    (hRframes : names.length + 3 < R.frames) (hRlocals : (rest.map fun v => v.category).sum + (13 * (names.length + 1) + 43) ≤ R.locals) (hRcells : cells + 1 ≤ R.cells) (hRslots : slots + 6 ≤ R.slots) (hlocks : meth.locks = false)
    (hx : ∀ t : State, s.vm.Alike t.vm → H.size ≤ t.heap.size → (∀ q : Nat, q < H.size → t.heap[q]? = H[q]?) → XC cls s t)
    (hf : ∀ z ∈ locs, free z.base) (hc : cells + 1 ≤ mc) (hs : slots + 6 ≤ ms) :
    W p l e R s m args below meth c H locs cells slots (vx_MQ below Qc XC args s mc ms free) (F0 m pc ls rest) := by
  intro T hT X
  have htr : e.platform.stackTraces = false := (show e.platform.stackTraces = l.stackTraces by rw [X.admits.platform]).trans hl
  have Y := vx_rebase X (R' := { frames := R.frames, locals := R.locals, cells := 1, slots := 6 }) (Nat.le_refl _) (Nat.le_refl _) hRcells hRslots
  obtain ⟨s', hA⟩ : ∃ z, z = (T.setVm s.vm).setFrames (.invoking m args :: below) := ⟨_, rfl⟩
  rw [← hA] at Y
  have hvm : s'.vm = s.vm := by rw [hA]; rfl
  have hhp : s'.heap = H := by rw [hA]; exact hT
  have hW0 : s.WarmedH s'.vm := by rw [hvm]; exact State.WarmedH.refl s
  have hat' : ∀ w ∈ vx_atS own ic cls names, w.before args s' = true := fun w hw => vx_ot_at hW0 hvm.symm (hgood w (List.mem_cons_of_mem _ (List.mem_cons_of_mem _ hw))) (hat w hw)
  have hk' : (Cond.classLink own ik cls).before args s' = true := vx_ot_at hW0 hvm.symm (hgood _ List.mem_cons_self) hk
  have hini' : (Cond.initialized cls).before args s' = true := vx_ot_at hW0 hvm.symm (hgood _ (List.mem_cons_of_mem _ List.mem_cons_self)) hini
  have hU' : vx_Zq Bundle.tN "UNASSIGNED_STACK" Bundle.steD A s' s'.heap := by rw [hhp]; exact vx_Zq.moved hW0.alike (hU.kept hS.2.1)
  have hN' : vx_Zq Bundle.tN "SUPPRESSED_SENTINEL" Bundle.listD A s' s'.heap := by rw [hhp]; exact vx_Zq.moved hW0.alike (hN.kept hS.2.1)
  have h : ∀ w ∈ Bundle.ownAtoms own ic cls names, w.before args s' = true := vx_own hat' (vx_isRefq hU'.1) (vx_isRefq hN'.1) hU'.2.word hN'.2.word
  have hown' : s'.vm.findClass own = some m.cls := by rw [hvm]; exact hown
  have hins : (Cond.instantiable cls 6).before args s' = true := h _ (by simp [Bundle.ownAtoms])
  obtain ⟨vm₁, cX, kX, hfX, hkX, -, -, X₁, st1⟩ := Y.newCold hexec (own := own) (C := cls) (index := ik) (n := 6) hown' hk' hins hini'
    (g := F0 m pc ls rest) rfl (by rw [hb]; exact d0) (Nat.le_refl _) (Nat.le_refl _)
  generalize hT1 : (T.setVm vm₁).pushCell { cls := cX, slots := kX.instanceTypes.map defaultValue, vm := .none } = T1 at X₁ st1
  have hcat : (Value.ref T.heap.size).category = 1 := rfl
  have hcellA : T1.heap[T.heap.size]? = some (freshCell cX kX) := by rw [← hT1]; exact State.heap_pushCell_size _ _
  have d3' : decode c.code (pc + 3) = .ok (.dup, 1) := by rw [hb]; exact d3
  have d4' : decode c.code (pc + 4) = .ok (.ldc_w is, 3) := by rw [hb]; exact d4
  have hstr' : vk_R own is text sa s' := vk_R.warm hW0 hstr
  obtain ⟨U, hsteps, hrun, hend, hW, hsame, ce, hce, hO⟩ := X₁.ctorThrowS hexec htr (own := own) (cls := cls) (names := names) (ic := ic) hown' hcls hnames h (fun x hx => nomatch hx) hfX hkX hcellA (by rw [hhp, hT]; exact Nat.le_refl _) (msg := .ref sa) rfl
    (g := { method := m, pc := pc + 7, locals := ls, stack := .ref sa :: .ref T.heap.size :: .ref T.heap.size :: rest, locked := none }) rfl hsize rfl rfl (rest := rest) rfl
    (by rw [hb]; exact d7) (by rw [hb]; exact d10) hout hRframes (by simp only [List.map_cons, List.sum_cons, hcat]; omega) hlocks
  obtain ⟨f1, f2⟩ := vx_frame hsame
  rw [hhp] at f1 f2
  have hWs : s.WarmedH U.vm := State.WarmedH.trans hW0 hW
  have hcl : s.vm.findClass cls = some ce.cls := by
    have h9 := hO.cls
    rw [hvm] at h9
    exact h9
  have hall : s.sameButNew ({ U with vm := s.vm } : State) locs mc ms := by
    subst hA
    obtain ⟨e1, e2⟩ := hsame
    rw [State.setFrames_setFrames] at e1
    have h2 : (T.setVm s.vm).sameButNew ({ U with vm := s.vm } : State) [] (0 + 1) (0 + 6) := ⟨e1, e2⟩
    have h3 := X.same.trans h2
    rw [List.append_nil] at h3
    exact h3.mono hc hs
  refine ⟨U, ?_, .threw T.heap.size, hrun, hend, Or.inr ⟨T.heap.size, rfl, cls, ce, locs, hx U hWs.alike f1 (fun q hq => f2 q hq (fun z hz => nomatch hz)), hce, hO.vm, hcl, hWs, hall, hf⟩⟩
  refine st1 _ ?_
  show Steps p.tables e below (T1.setTop { method := m, pc := pc + 3, locals := ls, stack := .ref T.heap.size :: rest, locked := none }) _
  jvm_step X₁.here [X₁.here.top, hexec, d3', Value.category]
  exact X₁.ldcStringW hexec (own := own) (text := text) (index := is) (a := sa) hown' hstr'.1 hstr'.2
    (g := { method := m, pc := pc + 4, locals := ls, stack := .ref T.heap.size :: .ref T.heap.size :: rest, locked := none }) rfl d4' _ hsteps
end Ends
section Bodies
variable {l : Launch}
theorem vx_ofW {y : MethodName} {ws ws' : List Cond} {rm : Room} {Pc : Array Value → State → Prop} {Qc : Array Value → State → Outcome → State → Prop} {XC : String → State → State → Prop} {mc ms : Nat} {free : Addr → Prop} {cc : ByteArray} {maxL : Nat} {ret : Option FieldType}
    (hy : plainName y.cls = true) (hw : ws = Cond.code y cc maxL ret :: ws')
    (body : ∀ p e s m args below meth c s₁, BodyLoose p l y (headSpec ws rm) cc maxL ret e s m args below meth c s₁ → c.maxLocals = maxL → (∀ x ∈ c.exceptionTable.toList, False) → Pc args s →
      W p l e (headSpec ws rm).room s m args below meth c s.heap [] 0 0 (vx_MQ below Qc XC args s mc ms free) (entryFrame m args maxL)) : vx_Met l y ws rm Pc Qc XC mc ms free := by
  refine MetFree.of_bodyS (code := cc) (maxLocals := maxL) (ret := ret) hy ?_ ?_
  · intro args s m h hn
    obtain ⟨meth, c, h1, h2, h3, h4, h5, h6, -, -⟩ := Cond.code_spec hn (atoms_spec (ws := ws) h _ (by rw [hw]; exact List.mem_cons_self))
    exact ⟨meth, c, h1, h2, h3, h4, h5, h6⟩
  · intro p e s m args below meth c s₁ B hml hP _
    have hh0 : s₁.heap = s.heap := by rw [B.state]; rfl
    have ht : ∀ x ∈ c.exceptionTable.toList, False := by
      obtain ⟨meth9, c9, h1, h2, -, -, -, -, h7, -⟩ := Cond.code_spec B.named (atoms_spec (ws := ws) B.pre _ (by rw [hw]; exact List.mem_cons_self))
      cases Option.some.inj (h1.symm.trans B.method)
      cases Option.some.inj (h2.symm.trans (Stand.of_body B).code)
      intro x hx
      rw [Array.isEmpty_iff.mp h7] at hx
      cases hx
    obtain ⟨t, a1, o, b1, b2, b3⟩ := body p e s m args below meth c s₁ B hml ht hP s₁ hh0 (Stand.of_body B)
    exact ⟨t, o, a1, b1, b2, b3⟩
/-- the table of a body with handlers -/
theorem vx_table {p : Program} {x y : MethodName} {S : Spec} {cc bytes : ByteArray} {maxL maxL' : Nat} {ret ret' : Option FieldType} {e : Env} {s s₁ : State} {m : MethodId} {args : Array Value} {below : List Frame} {meth : Method} {c : Code} {hh : List (Nat × Nat × Nat × Nat)}
    (B : BodyLoose p l y S cc maxL ret e s m args below meth c s₁) (h : (Cond.codeWith y bytes maxL' ret' hh).before args s = true) : c.exceptionTable.toList = tableOf hh := by
  obtain ⟨m9, meth9, c9, hn9, h1, h2, -, -, h6, -⟩ := Cond.codeWith_spec h
  cases Option.some.inj (hn9.symm.trans B.named)
  cases Option.some.inj (h1.symm.trans B.method)
  cases Option.some.inj (h2.symm.trans (Stand.of_body B).code)
  rw [← h6, table_eq]
end Bodies
end VXA
/-! ===== END ===== -/
/-! ===== BEGIN a static call of a method with an exception table ===== -/
section VXS
variable {p : Program} {l : Launch} {e : Env} {R : Room} {s : State} {m : MethodId} {args : Array Value} {below : List Frame} {meth : Method} {c : Code} {T : State} {H : Heap} {locs : List Loc} {cells slots : Nat}
abbrev vx_CSW (R : Room) (s : State) (args : Array Value) (own : String) (index : Nat) (y : MethodName) (bytes : ByteArray) (maxL : Nat) (ret : Option FieldType) (hh : List (Nat × Nat × Nat × Nat)) (ws : List Cond) (rm : Room) (mc ms n : Nat) : Prop :=
  (rm.cells = mc ∧ rm.slots = ms ∧ rm.frames + 1 ≤ R.frames ∧ 8 + (maxL + 11) + rm.locals ≤ R.locals ∧ (∀ w ∈ ws, ∀ (a' : Array Value) (U : State), s.WarmedH U.vm → w.before a' U = true) ∧ Cond.codeWith y bytes maxL ret hh ∈ ws) ∧
  (Cond.codeWith y bytes maxL ret hh).before args s = true ∧ (Cond.initialized y.cls).before args s = true ∧ (y.cls ≠ "java/lang/invoke/MethodHandle" ∧ y.cls ≠ "java/lang/invoke/VarHandle") ∧
  (∀ sig, parseMethodDescriptor y.desc = some sig → n = sig.parameters.length) ∧ (Cond.methodLink own index y).before args s = true ∧ (Cond.static y).before args s = true
theorem vx_cwSW {own : String} {index maxL mc ms : Nat} {y : MethodName} {bytes : ByteArray} {ret : Option FieldType} {hh : List (Nat × Nat × Nat × Nat)} {Ts ws ws' : List Cond} {rm : Room} (n : Nat) (ht : ∀ w ∈ Ts, w.before args s = true) (hT : GoodIn Ts (va_wsS own index y ws)) (hw : ws = Cond.codeWith y bytes maxL ret hh :: ws') (hrc : rm.cells = mc) (hrs : rm.slots = ms)
    (hd : y.cls ≠ "java/lang/invoke/MethodHandle" ∧ y.cls ≠ "java/lang/invoke/VarHandle" ∧ (parseMethodDescriptor y.desc).map (fun d => d.parameters.length) = some n) (hR : rm.frames + 1 ≤ R.frames ∧ 8 + (maxL + 11) + rm.locals ≤ R.locals) :
    vx_CSW R s args own index y bytes maxL ret hh ws rm mc ms n := by
  have ok : ∀ w ∈ va_wsS own index y ws, w.before args s = true := fun w h => ht w (hT w h).1
  have hG : GoodIn Ts ws := fun w h => hT w (by unfold va_wsS; exact List.mem_append_right _ h)
  have hc : Cond.codeWith y bytes maxL ret hh ∈ ws := by rw [hw]; exact List.mem_cons_self
  refine ⟨⟨hrc, hrs, hR.1, hR.2, pay_in ht hG, hc⟩, ht _ (hG _ hc).1, ok _ (by simp [va_wsS]), ⟨hd.1, hd.2.1⟩, fun sig h => ?_, ok _ (by simp [va_wsS]), ok _ (by simp [va_wsS])⟩
  have h2 := hd.2.2
  rw [h] at h2
  exact (Option.some.inj h2).symm
theorem vx_callSW (X : Stand p l e R s m args below meth c T locs cells slots) (hexec : p.tables.exec = Jvm.exec) {own : String} {index : Nat} {y : MethodName} {bytes : ByteArray} {maxL : Nat} {ret : Option FieldType} {hh : List (Nat × Nat × Nat × Nat)}
    (hown : s.vm.findClass own = some m.cls) (hlink : (Cond.methodLink own index y).before args s = true) (hstat : (Cond.static y).before args s = true) (hinit : (Cond.initialized y.cls).before args s = true)
    (hcode : (Cond.codeWith y bytes maxL ret hh).before args s = true) (hy : y.cls ≠ "java/lang/invoke/MethodHandle" ∧ y.cls ≠ "java/lang/invoke/VarHandle")
    {W9 : Nat} {Pre : Pt → Array Value → Prop} {Post : Pt → Array Value → Option Value → Pt → Prop} (hK : Back l R p e below s args y 3 W9 Pre Post)
    {g : JFrame} (hg : g.method = m) (hsize : g.locals.size = c.maxLocals) {argsL rest : List Value} (hlen : ∀ sig, parseMethodDescriptor y.desc = some sig → argsL.length = sig.parameters.length)
    (hstack : g.stack = argsL.reverse ++ rest) (hW : 2 * g.monitorRoom + (rest.map fun v => v.category).sum ≤ W9) (hdg : decode c.code g.pc = .ok (.invokestatic index, 3))
    (hpre : ∀ vm₁, s.WarmedH vm₁ → Pre ⟨T.setVm vm₁, locs, cells, slots⟩ argsL.toArray) :
    ∃ (v : Option Value) (vm₁ : Vm) (B : Pt), s.WarmedH vm₁ ∧ Stand p l e R s m args below meth c B.U B.locs B.cells B.slots ∧ Post ⟨T.setVm vm₁, locs, cells, slots⟩ argsL.toArray v B ∧
      ∀ target, Steps p.tables e below (B.U.setTop { g with pc := g.pc + 3, stack := v.toList ++ rest }) target → Steps p.tables e below (T.setTop g) target := by
  obtain ⟨mk, methM, cM, hnamed, hmethM, -, -, -, -, -, -, hsigM⟩ := Cond.codeWith_spec hcode
  have hstatic : methM.isStatic = true := Cond.static_spec hnamed hmethM hstat
  obtain ⟨kP, hkP, -⟩ := className_of_methodNamed hnamed
  have hinitP : kP.init = .initialized := Cond.initialized_spec (findClass_of_methodNamed hnamed) hkP hinit
  obtain ⟨vm₁, X₁, hstep₁⟩ := X.invokestatic hexec hown hlink hnamed hmethM hstatic hkP hinitP hy (g := g) hg (argsL := argsL) (rest := rest) (hlen _ hsigM) hstack hdg
  obtain ⟨v, B, X', hpost, hsteps⟩ := hK m meth c ⟨T.setVm vm₁, locs, cells, slots⟩ { g with stack := rest } (.invokestatic index) mk argsL.toArray X₁ hg hsize hdg hW (X₁.named hnamed) (hpre vm₁ X₁.warmed)
  exact ⟨v, vm₁, B, X₁.warmed, X', hpost, fun target h => hstep₁ _ fun acts => by rw [doInvoke_state]; exact hsteps.trans h⟩
theorem vx_runSW {y : MethodName} {bytes cc : ByteArray} {maxL nL mc ms n index : Nat} {ret : Option FieldType} {hh : List (Nat × Nat × Nat × Nat)} {ws : List Cond} {rm : Room} {Pc : Array Value → State → Prop} {Qc : Array Value → State → Outcome → State → Prop} {free : Addr → Prop} {Ts : List Cond} {own : String} {As rest : List Value} {g : JFrame}
    (S : CallFix p m c cc nL s args Ts own) (hM : Met l y ws rm Pc Qc mc ms free) (cw : vx_CSW R s args own index y bytes maxL ret hh ws rm mc ms n) (hp : PreS s H Pc As)
    (hg : g.method = m) (hn : As.length = n) (hsize : g.locals.size = nL) (hstack : g.stack = As.reverse ++ rest) (hW : 2 * g.monitorRoom + (rest.map fun v => v.category).sum ≤ 8) (hdg : decode cc g.pc = .ok (.invokestatic index, 3)) (hf : cells + mc ≤ R.cells ∧ slots + ms ≤ R.slots) :
    va_Run p l e R s m args below meth c H locs cells slots mc ms g rest (Qc As.toArray) (free) := by
  obtain ⟨⟨hrc, hrs, hfr, hlo, hws, hcw⟩, hcode, hini, hy, hlen, hl, hstt⟩ := cw
  have hK : Back l R p e below s args y 3 8 (PreOf R mc ms Pc) (PostOf Qc mc ms free) := va_backW (hh := hh) (bytes := bytes) (maxL := maxL) (ret := ret) hM hp.1 hrc hrs hfr hlo hws hcw (fun a' U hW => word_at hW (Or.inl (by first | rfl | simp [Cond.onTables, Cond.keeps, Cond.steady])) hini)
  obtain ⟨hx, hb, hml, ho, -⟩ := S
  intro T hT X
  obtain ⟨v, vm₁, ⟨U', l2, c2, s2⟩, hW₁, X', ⟨g', mk, t, L, e1, e2, hq, h1, hL, h2, h3⟩, st⟩ := vx_callSW X hx (hh := hh) (bytes := bytes) (maxL := maxL) (ret := ret) ho hl hstt hini hcode hy hK hg (hsize.trans hml.symm) (argsL := As) (rest := rest) (fun sig h => hn.trans (hlen sig h)) hstack hW (by rw [hb]; exact hdg)
    (fun vm₁ hW₁ => ⟨hf.1, hf.2, hp.2 (T.setVm vm₁) hT hW₁⟩)
  dsimp only [Pt.U, Pt.locs, Pt.cells, Pt.slots] at X' e1 e2 h1 h2 h3 st
  subst h1; subst h2; subst h3
  exact ⟨v, (T.setVm vm₁).calling g' mk As.toArray, t, U', L, hT, X', hL, e1, e2, hq, st⟩
/-- not caught here, past rows that name other classes: it goes on to the caller -/
theorem vx_outP {p : Program} {l : Launch} {e : Env} {R : Room} {s : State} {m : MethodId} {args : Array Value} {below : List Frame} {meth : Method} {c : Code} {H : Heap} {locs : List Loc} {cells slots : Nat} {free : Addr → Prop} {ls : Array Slot} {rest : List Value} {Qc : Array Value → State → Outcome → State → Prop} {XC : String → State → State → Prop}
    {pc : Nat} {own E : String} {ce : Cell} {q : Addr} {mc ms : Nat} (hown : s.vm.findClass own = some m.cls) (hlocks : meth.locks = false)
    (hpass : ∀ z ∈ c.exceptionTable.toList, covers z pc = false ∨ (z.catchType ≠ 0 ∧ ∃ nm : String, (Cond.classLink own z.catchType nm).before args s = true ∧ va_Nc E nm s)) (hcell : H[q]? = some ce) (hv : ce.vm = .none) (hcl : s.vm.findClass E = some ce.cls)
    (hx : ∀ t : State, t.heap = H → s.vm.Alike t.vm → XC E s t) (hf : ∀ z ∈ locs, free z.base) (hc : cells ≤ mc) (hs : slots ≤ ms) :
    vx_W p l e R s m args below meth c H locs cells slots (vx_MQ below Qc XC args s mc ms free) (F0 m pc ls rest) q := by
  intro T hT X
  have hpl : e.platform.magicAccessors = ({} : Platform).magicAccessors := by rw [X.admits.platform]
  obtain ⟨vm', hW', X', st⟩ := X.outThrough hlocks q (g := F0 m pc ls rest) rfl rfl rfl (cell := ce) (by rw [hT]; exact hcell) (by rw [hv]; rfl)
    (by obtain ⟨k9, h9, -⟩ := Vm.findClass_spec hcl; exact ⟨k9, h9⟩) (fun z hz => by
      rcases hpass z hz with h | ⟨hz0, nm, hl1, hn1⟩
      · exact Or.inl h
      · obtain ⟨c6, hc6, hcl6⟩ := Cond.classLink_spec hown hl1 e.platform hpl
        obtain ⟨a8, b8, h1, h2, h3⟩ := hn1
        cases Option.some.inj (h1.symm.trans hcl)
        cases Option.some.inj (h2.symm.trans hc6)
        exact Or.inr ⟨hz0, _, hcl6, h3⟩)
  obtain ⟨g₀, hfr⟩ := X'.frames_eq
  have hcell9 : ((T.setVm vm').setFrames (.throwing q :: below)).heap[q]? = some ce := by
    show T.heap[q]? = some ce
    rw [hT]; exact hcell
  have hend : Ended ((T.setVm vm').setFrames (.throwing q :: below)) below (.threw q) := State.frames_setFrames _ (State.cur_lt_of_frames hfr)
  refine ⟨(T.setVm vm').setFrames (.throwing q :: below), ?_, .threw q, X'.here.running, hend, Or.inr ⟨q, rfl, E, ce, locs, hx _ hT (X'.ends _).1.alike, hcell9, hv, hcl, (X'.ends _).1, (X'.ends _).2.mono hc hs, hf⟩⟩
  rw [X.pushThrowing_eq]
  exact st
/-- a thing of a world lies in the heap -/
theorem vx_lt {D : va_G} {cl : List vw_C} {ws : va_W} {H1 : Heap} (h : va_P D cl ws H1) {k : Nat} {q : Nat × va_E} (hk : ws[k]? = some q) : q.1 < H1.size := (h k q hk).lt
end VXS
/-! ===== END ===== -/
/-! ===== BEGIN methods with a table of their own: called by a name, returning or throwing ===== -/
section VXH
/-! vx_backW, vx_callVX, vx_callSX, vx_callVW, vx_runVW, vx_runVX, vx_runSX, vx_ofWH follow the same proofs as their sisters above (Free/Laws.lean, Shelf42/LK1.lean); vx_outP calls Shelf42/NT130.lean (outThrough). -/
section
variable {l : Launch} {R : Room} {p : Program} {e : Env} {below : List Frame} {s : State} {sargs : Array Value} {y : MethodName} {len W9 : Nat}
theorem vx_backW {ws : List Cond} {rm : Room} {Pc : Array Value → State → Prop} {Qc : Array Value → State → Outcome → State → Prop} {XC : String → State → State → Prop} {mc ms : Nat} {free : Addr → Prop} {bytes : ByteArray} {maxL : Nat} {ret : Option FieldType} {hh : List (Nat × Nat × Nat × Nat)}
    (hM : vx_Met l y ws rm Pc Qc XC mc ms free) (hblind : FrameBlind Pc) (hrc : rm.cells = mc) (hrs : rm.slots = ms)
    (hframes : rm.frames + 1 ≤ R.frames) (hlocals : W9 + (maxL + 11) + rm.locals ≤ R.locals)
    (hws : ∀ w ∈ ws, ∀ a' U, s.WarmedH U.vm → w.before a' U = true) (hcode : Cond.codeWith y bytes maxL ret hh ∈ ws) (hinit : ∀ a' U, s.WarmedH U.vm → (Cond.initialized y.cls).before a' U = true) :
    vx_Back l R p e below s sargs y len W9 (PreOf R mc ms Pc) (PostOf Qc mc ms free) (vx_Post XC mc ms free) := by
  intro m meth c A g ig mk a X hg hsize hdg hW hn hp
  have h1 : (headSpec ws rm).pre.before a A.U = true := atoms_intro fun w hw => hws w hw _ _ X.warmed
  have h2 : (Cond.codeWith y bytes maxL ret hh).before a A.U = true := hws _ hcode _ _ X.warmed
  have h3 : (Cond.initialized y.cls).before a A.U = true := hinit _ _ X.warmed
  have h4 : A.cells + (headSpec ws rm).room.cells ≤ R.cells := by rw [show (headSpec ws rm).room.cells = mc from hrc]; exact hp.1
  have h5 : A.slots + (headSpec ws rm).room.slots ≤ R.slots := by rw [show (headSpec ws rm).room.slots = ms from hrs]; exact hp.2.1
  have hPc : Pc a (A.U.calling g mk a) := hblind _ _ _ _ hp.2.2
  obtain ⟨U, Ls, c0, s0⟩ := A
  dsimp only [Pt.U, Pt.locs, Pt.cells, Pt.slots] at h1 h2 h3 h4 h5 X hn hPc ⊢
  obtain ⟨m9, methY, cY, hn9, hmY, hcY, -, hlY, -⟩ := Cond.codeWith_spec h2
  cases Option.some.inj (hn9.symm.trans hn)
  obtain ⟨kY, hkY, -⟩ := className_of_methodNamed hn
  have hinitY : kY.init = .initialized := Cond.initialized_spec (findClass_of_methodNamed hn) hkY h3
  have h : At U g.method c below := by rw [hg]; exact X.here
  have hlocals9 : W9 + (maxL + 11) + (headSpec ws rm).room.locals ≤ R.locals := hlocals
  have happ : (headSpec ws rm).appliesLoose y e.platform (U.calling g mk a) = true :=
    Spec.appliesLoose_calling (g := g) h hdg hn hkY hinitY
      (X.room_calling (g := g) (R' := (headSpec ws rm).room) hsize hmY hcY hframes (by rw [hlY]; omega) h4 h5) h1
  obtain ⟨mid, hmid⟩ := h.above
  have hfr : (U.setTop g).frames = (.java g :: mid) ++ below := by rw [State.frames_setTop' g h.top, hmid]; rfl
  obtain ⟨o, s₂, hsteps, -, hend, hq⟩ := Steps.callFree hM p X.admits X.cas X.clock (acts := []) hfr happ hPc trivial
  have hq' : vx_Q Qc XC mc ms free a (U.calling g mk a) o s₂ := hq
  rw [State.frames_setTop' g h.top] at hend
  obtain ⟨g₀, hg0⟩ := Option.isSome_iff_exists.mp h.top
  obtain ⟨r, hr⟩ := State.topJava?_eq_some.mp hg0
  have hr' : (({ U with heap := s₂.heap, slotsUsed := s₂.slotsUsed } : State).setVm s₂.vm).frames = .java g₀ :: r := hr
  rcases hq' with ⟨hqc, L, hfe, hL⟩ | ⟨q, rfl, E, ce, L, hx, hce, hcv, hcl, hW₂, hsm, hL⟩
  · obtain ⟨⟨v, rfl⟩, hW₂, e2, q2, q3, q4, q5, q6⟩ := id hfe
    have e3 : s₂ = ({ (U.calling g mk a).setFrames s₂.frames with heap := s₂.heap, slotsUsed := s₂.slotsUsed } : State).setVm s₂.vm := by
      have : s₂ = ({ s₂ with vm := (U.calling g mk a).vm } : State).setVm s₂.vm := rfl
      rw [e2] at this
      exact this
    obtain ⟨c₂, i₂, len₂, hc₂, hd₂, hf₂⟩ := hend
    have hW' : U.WarmedH s₂.vm := hW₂
    have hcc : c₂ = c := by
      have h1 : s₂.code? g.method = U.code? g.method := by
        rw [State.code?_eq, State.code?_eq, hW'.alike.method?]
      exact Option.some.inj (hc₂.symm.trans (h1.trans h.code))
    subst hcc
    have hlen : len₂ = len := by rw [hdg] at hd₂; cases hd₂; rfl
    subst hlen
    have hs₂ : s₂ = (({ U with heap := s₂.heap, slotsUsed := s₂.slotsUsed } : State).setVm s₂.vm).setTop { g with pc := g.pc + len₂, stack := v.toList ++ g.stack } := by
      refine e3.trans ?_
      rw [hf₂, State.calling_eq h.top, State.setFrames_setFrames, State.setTop_of_frames _ hr', hr]
      rfl
    have hsame : U.sameButNew ({ U with heap := s₂.heap, slotsUsed := s₂.slotsUsed } : State) L mc ms := by
      refine ⟨?_, q2, q3, q4, q5, q6⟩
      obtain ⟨t, ht, -⟩ := State.frames_cons hr
      show ({ U with heap := s₂.heap, slotsUsed := s₂.slotsUsed } : State) = { U.setFrames U.frames with heap := s₂.heap, slotsUsed := s₂.slotsUsed }
      rw [State.setFrames_self ht]
    subst hg
    refine Or.inl ⟨v, ⟨(({ U with heap := s₂.heap, slotsUsed := s₂.slotsUsed } : State).setVm s₂.vm), Ls ++ L, c0 + mc, s0 + ms⟩,
      ⟨X.admits, X.cas, X.clock, X.frames, X.room, X.hears, X.method, X.code, (X.here.setHeapUsed s₂.heap s₂.slotsUsed).setVm hW'.alike, X.tail, State.WarmedH.trans X.warmed hW', X.limits, X.bytes, X.same.trans (hsame.setVm s.vm)⟩,
      ⟨g, mk, s₂, L, rfl, rfl, hqc, rfl, hL, rfl, rfl⟩, ?_⟩
    show Steps p.tables e below _ ((({ U with heap := s₂.heap, slotsUsed := s₂.slotsUsed } : State).setVm s₂.vm).setTop { g with pc := g.pc + len₂, stack := v.toList ++ g.stack })
    rw [← hs₂]
    exact hsteps
  · obtain ⟨e2, q2, q3, q4, q5, q6⟩ := id hsm
    have e3 : s₂ = ({ (U.calling g mk a).setFrames s₂.frames with heap := s₂.heap, slotsUsed := s₂.slotsUsed } : State).setVm s₂.vm := by
      have : s₂ = ({ s₂ with vm := (U.calling g mk a).vm } : State).setVm s₂.vm := rfl
      rw [e2] at this
      exact this
    have hf₂ : s₂.frames = .throwing q :: .java g :: U.frames.tail := hend
    have hW' : U.WarmedH s₂.vm := hW₂
    have hs₂ : s₂ = ((({ U with heap := s₂.heap, slotsUsed := s₂.slotsUsed } : State).setVm s₂.vm).setTop g).pushFrame (.throwing q) := by
      refine e3.trans ?_
      rw [hf₂, State.calling_eq h.top, State.setFrames_setFrames, State.pushFrame, State.frames_setTop _ hr', State.setTop_of_frames _ hr', State.setFrames_setFrames, hr]
      rfl
    have hsame : U.sameButNew ({ U with heap := s₂.heap, slotsUsed := s₂.slotsUsed } : State) L mc ms := by
      refine ⟨?_, q2, q3, q4, q5, q6⟩
      obtain ⟨t, ht, -⟩ := State.frames_cons hr
      show ({ U with heap := s₂.heap, slotsUsed := s₂.slotsUsed } : State) = { U.setFrames U.frames with heap := s₂.heap, slotsUsed := s₂.slotsUsed }
      rw [State.setFrames_self ht]
    subst hg
    refine Or.inr ⟨q, ⟨(({ U with heap := s₂.heap, slotsUsed := s₂.slotsUsed } : State).setVm s₂.vm), Ls ++ L, c0 + mc, s0 + ms⟩,
      ⟨X.admits, X.cas, X.clock, X.frames, X.room, X.hears, X.method, X.code, (X.here.setHeapUsed s₂.heap s₂.slotsUsed).setVm hW'.alike, X.tail, State.WarmedH.trans X.warmed hW', X.limits, X.bytes, X.same.trans (hsame.setVm s.vm)⟩,
      ⟨g, mk, s₂, L, E, ce, rfl, rfl, hx, hce, hcv, hcl, rfl, hL, rfl, rfl⟩, ?_⟩
    show Steps p.tables e below _ (((({ U with heap := s₂.heap, slotsUsed := s₂.slotsUsed } : State).setVm s₂.vm).setTop g).pushFrame (.throwing q))
    rw [← hs₂]
    exact hsteps
end
variable {p : Program} {l : Launch} {e : Env} {R : Room} {s : State} {m : MethodId} {args : Array Value} {below : List Frame} {meth : Method} {c : Code} {T : State} {H : Heap} {locs : List Loc} {cells slots : Nat}
theorem vx_callVX (X : Stand p l e R s m args below meth c T locs cells slots) (hexec : p.tables.exec = Jvm.exec) {own C : String} {index : Nat} {y : MethodName} {bytes : ByteArray} {maxL : Nat} {ret : Option FieldType} {hh : List (Nat × Nat × Nat × Nat)}
    (hown : s.vm.findClass own = some m.cls) (hlink : (Cond.methodLink own index y).before args s = true) (hinst : (Cond.instanceMethod y).before args s = true) (hsel : (Cond.selects C y y).before args s = true)
    (hcode : (Cond.codeWith y bytes maxL ret hh).before args s = true) (hy : y.cls ≠ "java/lang/invoke/MethodHandle" ∧ y.cls ≠ "java/lang/invoke/VarHandle")
    {W9 : Nat} {Pre : Pt → Array Value → Prop} {Post : Pt → Array Value → Option Value → Pt → Prop} {PostX : Pt → Array Value → Addr → Pt → Prop} (hK : vx_Back l R p e below s args y 3 W9 Pre Post PostX)
    {b : Addr} {cellB : Cell} (hcell : T.heap[b]? = some cellB) (hobj : cellB.vm.isStatics = false) (hcls : s.vm.findClass C = some cellB.cls)
    {g : JFrame} (hg : g.method = m) (hsize : g.locals.size = c.maxLocals) {argsL rest : List Value} (hlen : ∀ sig, parseMethodDescriptor y.desc = some sig → argsL.length = sig.parameters.length)
    (hstack : g.stack = argsL.reverse ++ .ref b :: rest) (hW : 2 * g.monitorRoom + (rest.map fun v => v.category).sum ≤ W9) (hdg : decode c.code g.pc = .ok (.invokevirtual index, 3))
    (hpre : ∀ vm₁, s.WarmedH vm₁ → Pre ⟨T.setVm vm₁, locs, cells, slots⟩ (Value.ref b :: argsL).toArray) :
    (∃ (v : Option Value) (vm₁ : Vm) (B : Pt), s.WarmedH vm₁ ∧ Stand p l e R s m args below meth c B.U B.locs B.cells B.slots ∧ Post ⟨T.setVm vm₁, locs, cells, slots⟩ (Value.ref b :: argsL).toArray v B ∧
      ∀ target, Steps p.tables e below (B.U.setTop { g with pc := g.pc + 3, stack := v.toList ++ rest }) target → Steps p.tables e below (T.setTop g) target) ∨
    (∃ (q : Addr) (vm₁ : Vm) (B : Pt), s.WarmedH vm₁ ∧ Stand p l e R s m args below meth c B.U B.locs B.cells B.slots ∧ PostX ⟨T.setVm vm₁, locs, cells, slots⟩ (Value.ref b :: argsL).toArray q B ∧
      Steps p.tables e below (T.setTop g) ((B.U.setTop { g with stack := rest }).pushFrame (.throwing q))) := by
  obtain ⟨mk, methM, hnamed, hmethM, hstM, habM⟩ := Cond.instanceMethod_spec hinst
  obtain ⟨m8, methM', cM, hn8, hmethM', -, -, -, -, -, -, hsigM⟩ := Cond.codeWith_spec hcode
  cases Option.some.inj (hn8.symm.trans hnamed)
  cases hmethM.symm.trans hmethM'
  obtain ⟨c2, r2, m2, q1, q2, q3, q4, kP, hkP, hkPi⟩ := Cond.selects_spec hsel
  cases hcls.symm.trans q1
  cases (State.methodFound?_of_named hnamed hy).symm.trans q2
  cases hnamed.symm.trans q3
  have hselP : selectMethod e.platform s.vm cellB.cls mk = .method mk := by rw [Launch.admits_selectMethod X.admits]; exact q4
  obtain ⟨vm₁, X₁, hstep₁⟩ := X.invokevirtual hexec hown hlink hnamed hmethM hstM hkP hkPi hy (a := b) (cell := cellB) hcell
    (fun z h => by rw [h] at hobj; cases hobj) hselP hmethM habM hkP hkPi (g := g) hg (argsL := argsL) (rest := rest) (hlen _ hsigM) hstack hdg
  rcases hK m meth c ⟨T.setVm vm₁, locs, cells, slots⟩ { g with stack := rest } (.invokevirtual index) mk (Value.ref b :: argsL).toArray X₁ hg hsize hdg hW (X₁.named hnamed) (hpre vm₁ X₁.warmed) with ⟨v, B, X', hpost, hsteps⟩ | ⟨q, B, X', hpost, hsteps⟩
  · exact Or.inl ⟨v, vm₁, B, X₁.warmed, X', hpost, fun target h => hstep₁ _ fun acts => by rw [doInvoke_state]; exact hsteps.trans h⟩
  · exact Or.inr ⟨q, vm₁, B, X₁.warmed, X', hpost, hstep₁ _ fun acts => by rw [doInvoke_state]; exact hsteps⟩
theorem vx_callSX (X : Stand p l e R s m args below meth c T locs cells slots) (hexec : p.tables.exec = Jvm.exec) {own : String} {index : Nat} {y : MethodName} {bytes : ByteArray} {maxL : Nat} {ret : Option FieldType} {hh : List (Nat × Nat × Nat × Nat)}
    (hown : s.vm.findClass own = some m.cls) (hlink : (Cond.methodLink own index y).before args s = true) (hstat : (Cond.static y).before args s = true) (hinit : (Cond.initialized y.cls).before args s = true)
    (hcode : (Cond.codeWith y bytes maxL ret hh).before args s = true) (hy : y.cls ≠ "java/lang/invoke/MethodHandle" ∧ y.cls ≠ "java/lang/invoke/VarHandle")
    {W9 : Nat} {Pre : Pt → Array Value → Prop} {Post : Pt → Array Value → Option Value → Pt → Prop} {PostX : Pt → Array Value → Addr → Pt → Prop} (hK : vx_Back l R p e below s args y 3 W9 Pre Post PostX)
    {g : JFrame} (hg : g.method = m) (hsize : g.locals.size = c.maxLocals) {argsL rest : List Value} (hlen : ∀ sig, parseMethodDescriptor y.desc = some sig → argsL.length = sig.parameters.length)
    (hstack : g.stack = argsL.reverse ++ rest) (hW : 2 * g.monitorRoom + (rest.map fun v => v.category).sum ≤ W9) (hdg : decode c.code g.pc = .ok (.invokestatic index, 3))
    (hpre : ∀ vm₁, s.WarmedH vm₁ → Pre ⟨T.setVm vm₁, locs, cells, slots⟩ argsL.toArray) :
    (∃ (v : Option Value) (vm₁ : Vm) (B : Pt), s.WarmedH vm₁ ∧ Stand p l e R s m args below meth c B.U B.locs B.cells B.slots ∧ Post ⟨T.setVm vm₁, locs, cells, slots⟩ argsL.toArray v B ∧
      ∀ target, Steps p.tables e below (B.U.setTop { g with pc := g.pc + 3, stack := v.toList ++ rest }) target → Steps p.tables e below (T.setTop g) target) ∨
    (∃ (q : Addr) (vm₁ : Vm) (B : Pt), s.WarmedH vm₁ ∧ Stand p l e R s m args below meth c B.U B.locs B.cells B.slots ∧ PostX ⟨T.setVm vm₁, locs, cells, slots⟩ argsL.toArray q B ∧
      Steps p.tables e below (T.setTop g) ((B.U.setTop { g with stack := rest }).pushFrame (.throwing q))) := by
  obtain ⟨mk, methM, cM, hnamed, hmethM, -, -, -, -, -, -, hsigM⟩ := Cond.codeWith_spec hcode
  have hstatic : methM.isStatic = true := Cond.static_spec hnamed hmethM hstat
  obtain ⟨kP, hkP, -⟩ := className_of_methodNamed hnamed
  have hinitP : kP.init = .initialized := Cond.initialized_spec (findClass_of_methodNamed hnamed) hkP hinit
  obtain ⟨vm₁, X₁, hstep₁⟩ := X.invokestatic hexec hown hlink hnamed hmethM hstatic hkP hinitP hy (g := g) hg (argsL := argsL) (rest := rest) (hlen _ hsigM) hstack hdg
  rcases hK m meth c ⟨T.setVm vm₁, locs, cells, slots⟩ { g with stack := rest } (.invokestatic index) mk argsL.toArray X₁ hg hsize hdg hW (X₁.named hnamed) (hpre vm₁ X₁.warmed) with ⟨v, B, X', hpost, hsteps⟩ | ⟨q, B, X', hpost, hsteps⟩
  · exact Or.inl ⟨v, vm₁, B, X₁.warmed, X', hpost, fun target h => hstep₁ _ fun acts => by rw [doInvoke_state]; exact hsteps.trans h⟩
  · exact Or.inr ⟨q, vm₁, B, X₁.warmed, X', hpost, hstep₁ _ fun acts => by rw [doInvoke_state]; exact hsteps⟩
theorem vx_callVW (X : Stand p l e R s m args below meth c T locs cells slots) (hexec : p.tables.exec = Jvm.exec) {own C : String} {index : Nat} {y : MethodName} {bytes : ByteArray} {maxL : Nat} {ret : Option FieldType} {hh : List (Nat × Nat × Nat × Nat)}
    (hown : s.vm.findClass own = some m.cls) (hlink : (Cond.methodLink own index y).before args s = true) (hinst : (Cond.instanceMethod y).before args s = true) (hsel : (Cond.selects C y y).before args s = true)
    (hcode : (Cond.codeWith y bytes maxL ret hh).before args s = true) (hy : y.cls ≠ "java/lang/invoke/MethodHandle" ∧ y.cls ≠ "java/lang/invoke/VarHandle")
    {W9 : Nat} {Pre : Pt → Array Value → Prop} {Post : Pt → Array Value → Option Value → Pt → Prop} (hK : Back l R p e below s args y 3 W9 Pre Post)
    {b : Addr} {cellB : Cell} (hcell : T.heap[b]? = some cellB) (hobj : cellB.vm.isStatics = false) (hcls : s.vm.findClass C = some cellB.cls)
    {g : JFrame} (hg : g.method = m) (hsize : g.locals.size = c.maxLocals) {argsL rest : List Value} (hlen : ∀ sig, parseMethodDescriptor y.desc = some sig → argsL.length = sig.parameters.length)
    (hstack : g.stack = argsL.reverse ++ .ref b :: rest) (hW : 2 * g.monitorRoom + (rest.map fun v => v.category).sum ≤ W9) (hdg : decode c.code g.pc = .ok (.invokevirtual index, 3))
    (hpre : ∀ vm₁, s.WarmedH vm₁ → Pre ⟨T.setVm vm₁, locs, cells, slots⟩ (Value.ref b :: argsL).toArray) :
    ∃ (v : Option Value) (vm₁ : Vm) (B : Pt), s.WarmedH vm₁ ∧ Stand p l e R s m args below meth c B.U B.locs B.cells B.slots ∧ Post ⟨T.setVm vm₁, locs, cells, slots⟩ (Value.ref b :: argsL).toArray v B ∧
      ∀ target, Steps p.tables e below (B.U.setTop { g with pc := g.pc + 3, stack := v.toList ++ rest }) target → Steps p.tables e below (T.setTop g) target := by
  obtain ⟨mk, methM, hnamed, hmethM, hstM, habM⟩ := Cond.instanceMethod_spec hinst
  obtain ⟨m8, methM', cM, hn8, hmethM', -, -, -, -, -, -, hsigM⟩ := Cond.codeWith_spec hcode
  cases Option.some.inj (hn8.symm.trans hnamed)
  cases hmethM.symm.trans hmethM'
  obtain ⟨c2, r2, m2, q1, q2, q3, q4, kP, hkP, hkPi⟩ := Cond.selects_spec hsel
  cases hcls.symm.trans q1
  cases (State.methodFound?_of_named hnamed hy).symm.trans q2
  cases hnamed.symm.trans q3
  have hselP : selectMethod e.platform s.vm cellB.cls mk = .method mk := by rw [Launch.admits_selectMethod X.admits]; exact q4
  obtain ⟨vm₁, X₁, hstep₁⟩ := X.invokevirtual hexec hown hlink hnamed hmethM hstM hkP hkPi hy (a := b) (cell := cellB) hcell
    (fun z h => by rw [h] at hobj; cases hobj) hselP hmethM habM hkP hkPi (g := g) hg (argsL := argsL) (rest := rest) (hlen _ hsigM) hstack hdg
  obtain ⟨v, B, X', hpost, hsteps⟩ := hK m meth c ⟨T.setVm vm₁, locs, cells, slots⟩ { g with stack := rest } (.invokevirtual index) mk (Value.ref b :: argsL).toArray X₁ hg hsize hdg hW (X₁.named hnamed) (hpre vm₁ X₁.warmed)
  exact ⟨v, vm₁, B, X₁.warmed, X', hpost, fun target h => hstep₁ _ fun acts => by rw [doInvoke_state]; exact hsteps.trans h⟩
abbrev vx_CVW (R : Room) (s : State) (args : Array Value) (own C : String) (index : Nat) (y : MethodName) (bytes : ByteArray) (maxL : Nat) (ret : Option FieldType) (hh : List (Nat × Nat × Nat × Nat)) (ws : List Cond) (rm : Room) (mc ms n : Nat) : Prop :=
  (rm.cells = mc ∧ rm.slots = ms ∧ rm.frames + 1 ≤ R.frames ∧ 8 + (maxL + 11) + rm.locals ≤ R.locals ∧ (∀ w ∈ ws, ∀ (a' : Array Value) (U : State), s.WarmedH U.vm → w.before a' U = true) ∧ Cond.codeWith y bytes maxL ret hh ∈ ws) ∧
  (Cond.codeWith y bytes maxL ret hh).before args s = true ∧ (Cond.initialized y.cls).before args s = true ∧ (y.cls ≠ "java/lang/invoke/MethodHandle" ∧ y.cls ≠ "java/lang/invoke/VarHandle") ∧
  (∀ sig, parseMethodDescriptor y.desc = some sig → n = sig.parameters.length) ∧ (Cond.methodLink own index y).before args s = true ∧ (Cond.instanceMethod y).before args s = true ∧ (Cond.selects C y y).before args s = true
theorem vx_cwVW {own C : String} {index maxL mc ms : Nat} {y : MethodName} {bytes : ByteArray} {ret : Option FieldType} {hh : List (Nat × Nat × Nat × Nat)} {Ts ws ws' : List Cond} {rm : Room} (n : Nat) (ht : ∀ w ∈ Ts, w.before args s = true) (hT : GoodIn Ts (wsV own index C y ws)) (hw : ws = Cond.codeWith y bytes maxL ret hh :: ws') (hrc : rm.cells = mc) (hrs : rm.slots = ms)
    (hd : y.cls = C ∧ y.cls ≠ "java/lang/invoke/MethodHandle" ∧ y.cls ≠ "java/lang/invoke/VarHandle" ∧ (parseMethodDescriptor y.desc).map (fun d => d.parameters.length) = some n) (hR : rm.frames + 1 ≤ R.frames ∧ 8 + (maxL + 11) + rm.locals ≤ R.locals) :
    vx_CVW R s args own C index y bytes maxL ret hh ws rm mc ms n := by
  obtain ⟨hC, hd⟩ := hd
  subst hC
  have ok : ∀ w ∈ wsV own index y.cls y ws, w.before args s = true := fun w h => ht w (hT w h).1
  have hG : GoodIn Ts ws := fun w h => hT w (by unfold wsV; exact List.mem_append_right _ h)
  have hc : Cond.codeWith y bytes maxL ret hh ∈ ws := by rw [hw]; exact List.mem_cons_self
  refine ⟨⟨hrc, hrs, hR.1, hR.2, pay_in ht hG, hc⟩, ht _ (hG _ hc).1, ok _ (by simp [wsV]), ⟨hd.1, hd.2.1⟩, fun sig h => ?_, ok _ (by simp [wsV]), ok _ (by simp [wsV]), ok _ (by simp [wsV])⟩
  have h2 := hd.2.2
  rw [h] at h2
  exact (Option.some.inj h2).symm
theorem vx_runVW {y : MethodName} {bytes cc : ByteArray} {maxL nL mc ms n index : Nat} {ret : Option FieldType} {hh : List (Nat × Nat × Nat × Nat)} {ws : List Cond} {rm : Room} {Pc : Array Value → State → Prop} {Qc : Array Value → State → Outcome → State → Prop} {free : Addr → Prop} {Ts : List Cond} {own C : String} {b : Addr} {As rest : List Value} {g : JFrame}
    (S : CallFix p m c cc nL s args Ts own) (hM : Met l y ws rm Pc Qc mc ms free) (cw : vx_CVW R s args own C index y bytes maxL ret hh ws rm mc ms n) (hp : PreV s H C b Pc As)
    (hg : g.method = m) (hn : As.length = n) (hsize : g.locals.size = nL) (hstack : g.stack = As.reverse ++ .ref b :: rest) (hW : 2 * g.monitorRoom + (rest.map fun v => v.category).sum ≤ 8) (hdg : decode cc g.pc = .ok (.invokevirtual index, 3)) (hf : cells + mc ≤ R.cells ∧ slots + ms ≤ R.slots) :
    va_Run p l e R s m args below meth c H locs cells slots mc ms g rest (Qc (Value.ref b :: As).toArray) free := by
  obtain ⟨⟨hrc, hrs, hfr, hlo, hws, hcw⟩, hcode, hini, hy, hlen, hl, hin, hse⟩ := cw
  have hK : Back l R p e below s args y 3 8 (PreOf R mc ms Pc) (PostOf Qc mc ms free) := va_backW (hh := hh) (bytes := bytes) (maxL := maxL) (ret := ret) hM hp.1 hrc hrs hfr hlo hws hcw (fun a' U hW => word_at hW (Or.inl (by first | rfl | simp [Cond.onTables, Cond.keeps, Cond.steady])) hini)
  obtain ⟨hx, hb, hml, ho, -⟩ := S
  obtain ⟨-, ⟨cellB, hcB, hoB, hclB⟩, hPc⟩ := hp
  intro T hT X
  obtain ⟨v, vm₁, ⟨U', l2, c2, s2⟩, hW₁, X', ⟨g', mk, t, L, e1, e2, hq, h1, hL, h2, h3⟩, st⟩ := vx_callVW X hx (C := C) (hh := hh) (bytes := bytes) (maxL := maxL) (ret := ret) ho hl hin hse hcode hy hK (by rw [hT]; exact hcB) hoB hclB hg (hsize.trans hml.symm) (argsL := As) (rest := rest) (fun sig h => hn.trans (hlen sig h)) hstack hW (by rw [hb]; exact hdg)
    (fun vm₁ hW₁ => ⟨hf.1, hf.2, hPc (T.setVm vm₁) hT hW₁⟩)
  dsimp only [Pt.U, Pt.locs, Pt.cells, Pt.slots] at X' e1 e2 h1 h2 h3 st
  subst h1; subst h2; subst h3
  exact ⟨v, (T.setVm vm₁).calling g' mk (Value.ref b :: As).toArray, t, U', L, hT, X', hL, e1, e2, hq, st⟩
section
variable {y : MethodName} {bytes cc : ByteArray} {maxL nL mc ms n index : Nat} {ret : Option FieldType} {ws : List Cond} {rm : Room} {Pc : Array Value → State → Prop} {Qc : Array Value → State → Outcome → State → Prop} {XC : String → State → State → Prop} {free : Addr → Prop} {Ts : List Cond} {own C : String} {b : Addr} {As rest : List Value} {g : JFrame}
theorem vx_runVX {hh : List (Nat × Nat × Nat × Nat)} (S : CallFix p m c cc nL s args Ts own) (hM : vx_Met l y ws rm Pc Qc XC mc ms free) (cw : vx_CVW R s args own C index y bytes maxL ret hh ws rm mc ms n) (hp : PreV s H C b Pc As)
    (hg : g.method = m) (hn : As.length = n) (hsize : g.locals.size = nL) (hstack : g.stack = As.reverse ++ .ref b :: rest) (hW : 2 * g.monitorRoom + (rest.map fun v => v.category).sum ≤ 8) (hdg : decode cc g.pc = .ok (.invokevirtual index, 3)) (hf : cells + mc ≤ R.cells ∧ slots + ms ≤ R.slots) :
    vx_Run p l e R s m args below meth c H locs cells slots mc ms g rest (Qc (Value.ref b :: As).toArray) XC free := by
  obtain ⟨⟨hrc, hrs, hfr, hlo, hws, hcw⟩, hcode, hini, hy, hlen, hl, hin, hse⟩ := cw
  have hK : vx_Back l R p e below s args y 3 8 (PreOf R mc ms Pc) (PostOf Qc mc ms free) (vx_Post XC mc ms free) := vx_backW (hh := hh) (bytes := bytes) (maxL := maxL) (ret := ret) hM hp.1 hrc hrs hfr hlo hws hcw (fun a' U hW => word_at hW (Or.inl (by first | rfl | simp [Cond.onTables, Cond.keeps, Cond.steady])) hini)
  obtain ⟨hx, hb, hml, ho, -⟩ := S
  obtain ⟨-, ⟨cellB, hcB, hoB, hclB⟩, hPc⟩ := hp
  intro T hT X
  rcases vx_callVX X hx (C := C) (hh := hh) (bytes := bytes) (maxL := maxL) (ret := ret) ho hl hin hse hcode hy hK (by rw [hT]; exact hcB) hoB hclB hg (hsize.trans hml.symm) (argsL := As) (rest := rest) (fun sig h => hn.trans (hlen sig h)) hstack hW (by rw [hb]; exact hdg)
    (fun vm₁ hW₁ => ⟨hf.1, hf.2, hPc (T.setVm vm₁) hT hW₁⟩) with ⟨v, vm₁, ⟨U', l2, c2, s2⟩, hW₁, X', ⟨g', mk, t, L, e1, e2, hq, h1, hL, h2, h3⟩, st⟩ | ⟨q, vm₁, ⟨U', l2, c2, s2⟩, hW₁, X', ⟨g', mk, t, L, E, ce, e1, e2, hq, hce, hcv, hcl, h1, hL, h2, h3⟩, st⟩
  · dsimp only [Pt.U, Pt.locs, Pt.cells, Pt.slots] at X' e1 e2 h1 h2 h3 st
    subst h1; subst h2; subst h3
    exact Or.inl ⟨v, (T.setVm vm₁).calling g' mk (Value.ref b :: As).toArray, t, U', L, hT, X', hL, e1, e2, hq, st⟩
  · dsimp only [Pt.U, Pt.locs, Pt.cells, Pt.slots] at X' e1 e2 h1 h2 h3 st hcl
    subst h1; subst h2; subst h3
    exact Or.inr ⟨q, (T.setVm vm₁).calling g' mk (Value.ref b :: As).toArray, t, U', L, E, ce, hT, X', hL, e1, e2, hq, hce, hcv, vx_cls hW₁ hcl, st⟩
theorem vx_runSX {hh : List (Nat × Nat × Nat × Nat)} (S : CallFix p m c cc nL s args Ts own) (hM : vx_Met l y ws rm Pc Qc XC mc ms free) (cw : vx_CSW R s args own index y bytes maxL ret hh ws rm mc ms n) (hp : PreS s H Pc As)
    (hg : g.method = m) (hn : As.length = n) (hsize : g.locals.size = nL) (hstack : g.stack = As.reverse ++ rest) (hW : 2 * g.monitorRoom + (rest.map fun v => v.category).sum ≤ 8) (hdg : decode cc g.pc = .ok (.invokestatic index, 3)) (hf : cells + mc ≤ R.cells ∧ slots + ms ≤ R.slots) :
    vx_Run p l e R s m args below meth c H locs cells slots mc ms g rest (Qc As.toArray) XC free := by
  obtain ⟨⟨hrc, hrs, hfr, hlo, hws, hcw⟩, hcode, hini, hy, hlen, hl, hstt⟩ := cw
  have hK : vx_Back l R p e below s args y 3 8 (PreOf R mc ms Pc) (PostOf Qc mc ms free) (vx_Post XC mc ms free) := vx_backW (hh := hh) (bytes := bytes) (maxL := maxL) (ret := ret) hM hp.1 hrc hrs hfr hlo hws hcw (fun a' U hW => word_at hW (Or.inl (by first | rfl | simp [Cond.onTables, Cond.keeps, Cond.steady])) hini)
  obtain ⟨hx, hb, hml, ho, -⟩ := S
  intro T hT X
  rcases vx_callSX X hx (hh := hh) (bytes := bytes) (maxL := maxL) (ret := ret) ho hl hstt hini hcode hy hK hg (hsize.trans hml.symm) (argsL := As) (rest := rest) (fun sig h => hn.trans (hlen sig h)) hstack hW (by rw [hb]; exact hdg)
    (fun vm₁ hW₁ => ⟨hf.1, hf.2, hp.2 (T.setVm vm₁) hT hW₁⟩) with ⟨v, vm₁, ⟨U', l2, c2, s2⟩, hW₁, X', ⟨g', mk, t, L, e1, e2, hq, h1, hL, h2, h3⟩, st⟩ | ⟨q, vm₁, ⟨U', l2, c2, s2⟩, hW₁, X', ⟨g', mk, t, L, E, ce, e1, e2, hq, hce, hcv, hcl, h1, hL, h2, h3⟩, st⟩
  · dsimp only [Pt.U, Pt.locs, Pt.cells, Pt.slots] at X' e1 e2 h1 h2 h3 st
    subst h1; subst h2; subst h3
    exact Or.inl ⟨v, (T.setVm vm₁).calling g' mk As.toArray, t, U', L, hT, X', hL, e1, e2, hq, st⟩
  · dsimp only [Pt.U, Pt.locs, Pt.cells, Pt.slots] at X' e1 e2 h1 h2 h3 st hcl
    subst h1; subst h2; subst h3
    exact Or.inr ⟨q, (T.setVm vm₁).calling g' mk As.toArray, t, U', L, E, ce, hT, X', hL, e1, e2, hq, hce, hcv, vx_cls hW₁ hcl, st⟩
end
end VXH
theorem vx_ofWH {l : Launch} {y : MethodName} {ws ws' : List Cond} {rm : Room} {Pc : Array Value → State → Prop} {Qc : Array Value → State → Outcome → State → Prop} {XC : String → State → State → Prop} {mc ms : Nat} {free : Addr → Prop} {cc : ByteArray} {maxL : Nat} {ret : Option FieldType} {hh : List (Nat × Nat × Nat × Nat)}
    (hy : plainName y.cls = true) (hw : ws = Cond.codeWith y cc maxL ret hh :: ws')
    (body : ∀ p e s m args below meth c s₁, BodyLoose p l y (headSpec ws rm) cc maxL ret e s m args below meth c s₁ → c.maxLocals = maxL → Pc args s →
      W p l e (headSpec ws rm).room s m args below meth c s.heap [] 0 0 (vx_MQ below Qc XC args s mc ms free) (entryFrame m args maxL)) : vx_Met l y ws rm Pc Qc XC mc ms free := by
  refine MetFree.of_bodyS (code := cc) (maxLocals := maxL) (ret := ret) hy ?_ ?_
  · intro args s m h hn
    obtain ⟨m9, meth, c, hn9, h1, h2, h3, h4, -, h5, h6, -⟩ := Cond.codeWith_spec (atoms_spec (ws := ws) h _ (by rw [hw]; exact List.mem_cons_self))
    cases hn.symm.trans hn9
    exact ⟨meth, c, h1, h2, h3, h4, h5, h6⟩
  · intro p e s m args below meth c s₁ B hml hP _
    have hh0 : s₁.heap = s.heap := by rw [B.state]; rfl
    obtain ⟨t, a1, o, b1, b2, b3⟩ := body p e s m args below meth c s₁ B hml hP s₁ hh0 (Stand.of_body B)
    exact ⟨t, o, a1, b1, b2, b3⟩
/-! ===== END ===== -/
end
section
/-! ===== BEGIN printed: names, fields, word lists, decode rows ===== -/
def RX0 : String := "ArrowField$Archer"
def TX0 : u_T := fun k => match k with
  | 0 => ("ArrowField$Archer", "draw", "I", false)
  | 1 => ("ArrowField$Archer", "steady", "I", false)
  | 2 => ("ArrowField$Archer", "sight", "I", false)
  | 3 => ("ArrowField$Archer", "nock", "I", false)
  | 4 => ("ArrowField$Archer", "creep", "F", false)
  | 5 => ("ArrowField$Archer", "quiver", "I", false)
  | 6 => ("ArrowField$Archer", "shotsEver", "I", false)
  | 7 => ("ArrowField$Archer", "scoresEver", "I", false)
  | 8 => ("ArrowField$Archer", "matchesWon", "I", false)
  | 9 => ("ArrowField$Archer", "endSum", "I", false)
  | 10 => ("ArrowField$Archer", "endShots", "I", false)
  | _ => ("ArrowField$Archer", "endTens", "I", false)
def tyX0 : Nat → FieldType := fun k => match k with
  | 0 => .int
  | 1 => .int
  | 2 => .int
  | 3 => .int
  | 4 => .float
  | 5 => .int
  | 6 => .int
  | 7 => .int
  | 8 => .int
  | 9 => .int
  | 10 => .int
  | _ => .int
abbrev wsX00 : List Cond := u_ws RX0 TX0 12
theorem nmX0 : ∀ a, a < 12 → ∀ b, b < 12 → a ≠ b → (TX0 a).2.1 ≠ (TX0 b).2.1 := by decide +kernel
theorem tyX0_ok : ∀ k, k < 12 → parseFieldDescriptor (TX0 k).2.2.1 = some (tyX0 k) := by decide +kernel
abbrev cX0_init : ByteArray := prog_2_method_1_code
def yX0_init : MethodName := ⟨RX0, "<init>", "()V"⟩
abbrev cX0_speedWith : ByteArray := prog_2_method_2_code
def yX0_speedWith : MethodName := ⟨RX0, "speedWith", "(LArrowField$Quiver;)D"⟩
abbrev cX0_count : ByteArray := prog_2_method_3_code
def yX0_count : MethodName := ⟨RX0, "count", "(I)V"⟩
abbrev cX0_forgetEnd : ByteArray := prog_2_method_4_code
def yX0_forgetEnd : MethodName := ⟨RX0, "forgetEnd", "()V"⟩
def RX1 : String := "ArrowField$Flight"
def TX1 : u_T := fun k => match k with
  | 0 => ("ArrowField$Flight", "h", "D", false)
  | _ => ("ArrowField$Flight", "v", "D", false)
def tyX1 : Nat → FieldType := fun k => match k with
  | 0 => .double
  | _ => .double
abbrev wsX10 : List Cond := u_ws RX1 TX1 2
theorem nmX1 : ∀ a, a < 2 → ∀ b, b < 2 → a ≠ b → (TX1 a).2.1 ≠ (TX1 b).2.1 := by decide +kernel
theorem tyX1_ok : ∀ k, k < 2 → parseFieldDescriptor (TX1 k).2.2.1 = some (tyX1 k) := by decide +kernel
abbrev cX1_init : ByteArray := prog_3_method_1_code
def yX1_init : MethodName := ⟨RX1, "<init>", "()V"⟩
abbrev cX1_fly : ByteArray := prog_3_method_2_code
def yX1_fly : MethodName := ⟨RX1, "fly", "(LArrowField$Archer;LArrowField$Quiver;III)V"⟩
abbrev cX1_shake : ByteArray := prog_3_method_3_code
def yX1_shake : MethodName := ⟨RX1, "shake", "(III)V"⟩
abbrev cX1_farness : ByteArray := prog_3_method_4_code
def yX1_farness : MethodName := ⟨RX1, "farness", "()D"⟩
abbrev cX1_worth : ByteArray := prog_3_method_5_code
def yX1_worth : MethodName := ⟨RX1, "worth", "(I)I"⟩
def RX2 : String := "ArrowField$Match"
def TX2 : u_T := fun k => match k with
  | 0 => ("ArrowField$Match", "on", "Z", false)
  | 1 => ("ArrowField$Match", "one", "I", false)
  | 2 => ("ArrowField$Match", "other", "I", false)
  | 3 => ("ArrowField$Match", "pointsOfOne", "I", false)
  | 4 => ("ArrowField$Match", "pointsOfOther", "I", false)
  | 5 => ("ArrowField$Match", "sumOfOne", "I", false)
  | 6 => ("ArrowField$Match", "sumOfOther", "I", false)
  | 7 => ("ArrowField$Match", "shotsOfSet", "I", false)
  | 8 => ("ArrowField$Match", "byLastArrows", "Z", false)
  | _ => ("ArrowField$Match", "lastOfOne", "D", false)
def tyX2 : Nat → FieldType := fun k => match k with
  | 0 => .boolean
  | 1 => .int
  | 2 => .int
  | 3 => .int
  | 4 => .int
  | 5 => .int
  | 6 => .int
  | 7 => .int
  | 8 => .boolean
  | _ => .double
abbrev wsX20 : List Cond := u_ws RX2 TX2 10
theorem nmX2 : ∀ a, a < 10 → ∀ b, b < 10 → a ≠ b → (TX2 a).2.1 ≠ (TX2 b).2.1 := by decide +kernel
theorem tyX2_ok : ∀ k, k < 10 → parseFieldDescriptor (TX2 k).2.2.1 = some (tyX2 k) := by decide +kernel
abbrev cX2_init : ByteArray := prog_4_method_1_code
def yX2_init : MethodName := ⟨RX2, "<init>", "()V"⟩
abbrev cX2_begin : ByteArray := prog_4_method_2_code
def yX2_begin : MethodName := ⟨RX2, "begin", "(II)V"⟩
abbrev cX2_turn : ByteArray := prog_4_method_3_code
def yX2_turn : MethodName := ⟨RX2, "turn", "()I"⟩
abbrev cX2_count : ByteArray := prog_4_method_4_code
def yX2_count : MethodName := ⟨RX2, "count", "(ID)I"⟩
abbrev cX2_isTurnOfOne : ByteArray := prog_4_method_5_code
def yX2_isTurnOfOne : MethodName := ⟨RX2, "isTurnOfOne", "()Z"⟩
abbrev cX2_beginSet : ByteArray := prog_4_method_6_code
def yX2_beginSet : MethodName := ⟨RX2, "beginSet", "()V"⟩
abbrev cX2_endSet : ByteArray := prog_4_method_7_code
def yX2_endSet : MethodName := ⟨RX2, "endSet", "()I"⟩
abbrev cX2_pointsFor : ByteArray := prog_4_method_8_code
def yX2_pointsFor : MethodName := ⟨RX2, "pointsFor", "(II)I"⟩
abbrev cX2_countLastArrow : ByteArray := prog_4_method_9_code
def yX2_countLastArrow : MethodName := ⟨RX2, "countLastArrow", "(D)I"⟩
def RX3 : String := "ArrowField$Quiver"
def TX3 : u_T := fun k => match k with
  | 0 => ("ArrowField$Quiver", "mass", "I", false)
  | 1 => ("ArrowField$Quiver", "spine", "I", false)
  | 2 => ("ArrowField$Quiver", "states", "[I", true)
  | 3 => ("ArrowField$Quiver", "h", "[D", true)
  | _ => ("ArrowField$Quiver", "v", "[D", true)
def tyX3 : Nat → FieldType := fun k => match k with
  | 0 => .int
  | 1 => .int
  | 2 => .array .int
  | 3 => .array .double
  | _ => .array .double
abbrev wsX30 : List Cond := u_ws RX3 TX3 5
theorem nmX3 : ∀ a, a < 5 → ∀ b, b < 5 → a ≠ b → (TX3 a).2.1 ≠ (TX3 b).2.1 := by decide +kernel
theorem tyX3_ok : ∀ k, k < 5 → parseFieldDescriptor (TX3 k).2.2.1 = some (tyX3 k) := by decide +kernel
abbrev cX3_init : ByteArray := prog_5_method_1_code
def yX3_init : MethodName := ⟨RX3, "<init>", "()V"⟩
abbrev cX3_setOf : ByteArray := prog_5_method_2_code
def yX3_setOf : MethodName := ⟨RX3, "setOf", "(I)I"⟩
abbrev cX3_bringBack : ByteArray := prog_5_method_3_code
def yX3_bringBack : MethodName := ⟨RX3, "bringBack", "(I)I"⟩
abbrev cX3_firstHitBy : ByteArray := prog_5_method_4_code
def yX3_firstHitBy : MethodName := ⟨RX3, "firstHitBy", "(LArrowField$Flight;)I"⟩
abbrev cX3_land : ByteArray := prog_5_method_5_code
def yX3_land : MethodName := ⟨RX3, "land", "(ILArrowField$Flight;I)V"⟩
def RX4 : String := "ArrowField"
def TX4 : u_T := fun k => match k with
  | 0 => ("ArrowField", "archers", "[LArrowField$Archer;", true)
  | 1 => ("ArrowField", "quivers", "[LArrowField$Quiver;", true)
  | 2 => ("ArrowField", "archerCount", "I", false)
  | 3 => ("ArrowField", "quiverCount", "I", false)
  | 4 => ("ArrowField", "distanceNow", "I", false)
  | 5 => ("ArrowField", "windNow", "I", false)
  | 6 => ("ArrowField", "faceNow", "I", false)
  | 7 => ("ArrowField", "closed", "Z", false)
  | 8 => ("ArrowField", "drawn", "I", false)
  | 9 => ("ArrowField", "shots", "I", false)
  | 10 => ("ArrowField", "splits", "I", false)
  | 11 => ("ArrowField", "refused", "I", false)
  | 12 => ("ArrowField", "current", "LArrowField$Match;", true)
  | 13 => ("ArrowField", "matchesBegun", "I", false)
  | 14 => ("ArrowField", "latestWinner", "I", false)
  | _ => ("ArrowField", "flight", "LArrowField$Flight;", true)
def tyX4 : Nat → FieldType := fun k => match k with
  | 0 => .array (.object "ArrowField$Archer")
  | 1 => .array (.object "ArrowField$Quiver")
  | 2 => .int
  | 3 => .int
  | 4 => .int
  | 5 => .int
  | 6 => .int
  | 7 => .boolean
  | 8 => .int
  | 9 => .int
  | 10 => .int
  | 11 => .int
  | 12 => .object "ArrowField$Match"
  | 13 => .int
  | 14 => .int
  | _ => .object "ArrowField$Flight"
abbrev wsX40 : List Cond := u_ws RX4 TX4 16
theorem nmX4 : ∀ a, a < 16 → ∀ b, b < 16 → a ≠ b → (TX4 a).2.1 ≠ (TX4 b).2.1 := by decide +kernel
theorem tyX4_ok : ∀ k, k < 16 → parseFieldDescriptor (TX4 k).2.2.1 = some (tyX4 k) := by decide +kernel
abbrev cX4_init : ByteArray := prog_1_method_1_code
def yX4_init : MethodName := ⟨RX4, "<init>", "()V"⟩
abbrev cX4_archer : ByteArray := prog_1_method_2_code
def yX4_archer : MethodName := ⟨RX4, "archer", "(II)I"⟩
abbrev cX4_quiver : ByteArray := prog_1_method_3_code
def yX4_quiver : MethodName := ⟨RX4, "quiver", "(II)I"⟩
abbrev cX4_give : ByteArray := prog_1_method_4_code
def yX4_give : MethodName := ⟨RX4, "give", "(II)I"⟩
abbrev cX4_tune : ByteArray := prog_1_method_5_code
def yX4_tune : MethodName := ⟨RX4, "tune", "(III)I"⟩
abbrev cX4_string : ByteArray := prog_1_method_6_code
def yX4_string : MethodName := ⟨RX4, "string", "(I)D"⟩
abbrev cX4_field : ByteArray := prog_1_method_7_code
def yX4_field : MethodName := ⟨RX4, "field", "(III)I"⟩
abbrev cX4_wind : ByteArray := prog_1_method_8_code
def yX4_wind : MethodName := ⟨RX4, "wind", "(I)I"⟩
abbrev cX4_shoot : ByteArray := prog_1_method_9_code
def yX4_shoot : MethodName := ⟨RX4, "shoot", "(II)I"⟩
abbrev cX4_pull : ByteArray := prog_1_method_10_code
def yX4_pull : MethodName := ⟨RX4, "pull", "()I"⟩
abbrev cX4_mend : ByteArray := prog_1_method_11_code
def yX4_mend : MethodName := ⟨RX4, "mend", "(I)I"⟩
abbrev cX4_match : ByteArray := prog_1_method_12_code
def yX4_match : MethodName := ⟨RX4, "match", "(II)I"⟩
abbrev cX4_breakOff : ByteArray := prog_1_method_13_code
def yX4_breakOff : MethodName := ⟨RX4, "breakOff", "()I"⟩
abbrev cX4_close : ByteArray := prog_1_method_14_code
def yX4_close : MethodName := ⟨RX4, "close", "(Z)Z"⟩
abbrev cX4_horn : ByteArray := prog_1_method_15_code
def yX4_horn : MethodName := ⟨RX4, "horn", "()I"⟩
abbrev cX4_ofArcher : ByteArray := prog_1_method_16_code
def yX4_ofArcher : MethodName := ⟨RX4, "ofArcher", "(II)I"⟩
abbrev cX4_speed : ByteArray := prog_1_method_17_code
def yX4_speed : MethodName := ⟨RX4, "speed", "(I)D"⟩
abbrev cX4_ofQuiver : ByteArray := prog_1_method_18_code
def yX4_ofQuiver : MethodName := ⟨RX4, "ofQuiver", "(II)I"⟩
abbrev cX4_hit : ByteArray := prog_1_method_19_code
def yX4_hit : MethodName := ⟨RX4, "hit", "(IIZ)D"⟩
abbrev cX4_many : ByteArray := prog_1_method_20_code
def yX4_many : MethodName := ⟨RX4, "many", "(I)I"⟩
abbrev cX4_ofMatch : ByteArray := prog_1_method_21_code
def yX4_ofMatch : MethodName := ⟨RX4, "ofMatch", "(I)I"⟩
abbrev cX4_winner : ByteArray := prog_1_method_22_code
def yX4_winner : MethodName := ⟨RX4, "winner", "()I"⟩
abbrev cX4_wouldHit : ByteArray := prog_1_method_23_code
def yX4_wouldHit : MethodName := ⟨RX4, "wouldHit", "(IIZ)D"⟩
abbrev cX4_mark : ByteArray := prog_1_method_24_code
def yX4_mark : MethodName := ⟨RX4, "mark", "(I)I"⟩
abbrev cX4_best : ByteArray := prog_1_method_25_code
def yX4_best : MethodName := ⟨RX4, "best", "(I)I"⟩
abbrev cX4_reach : ByteArray := prog_1_method_26_code
def yX4_reach : MethodName := ⟨RX4, "reach", "(I)I"⟩
abbrev cX4_wouldScore : ByteArray := prog_1_method_27_code
def yX4_wouldScore : MethodName := ⟨RX4, "wouldScore", "(I)I"⟩
abbrev cX4_digest : ByteArray := prog_1_method_28_code
def yX4_digest : MethodName := ⟨RX4, "digest", "()J"⟩
abbrev cX4_withArcher : ByteArray := prog_1_method_29_code
def yX4_withArcher : MethodName := ⟨RX4, "withArcher", "(JI)J"⟩
abbrev cX4_withQuiver : ByteArray := prog_1_method_30_code
def yX4_withQuiver : MethodName := ⟨RX4, "withQuiver", "(JI)J"⟩
abbrev cX4_needBetween : ByteArray := prog_1_method_31_code
def yX4_needBetween : MethodName := ⟨RX4, "needBetween", "(III)V"⟩
abbrev cX4_archerNumbered : ByteArray := prog_1_method_32_code
def yX4_archerNumbered : MethodName := ⟨RX4, "archerNumbered", "(I)LArrowField$Archer;"⟩
abbrev cX4_needQuiver : ByteArray := prog_1_method_33_code
def yX4_needQuiver : MethodName := ⟨RX4, "needQuiver", "(I)V"⟩
abbrev cX4_needArrow : ByteArray := prog_1_method_34_code
def yX4_needArrow : MethodName := ⟨RX4, "needArrow", "(I)V"⟩
abbrev cX4_quiverOf : ByteArray := prog_1_method_35_code
def yX4_quiverOf : MethodName := ⟨RX4, "quiverOf", "(LArrowField$Archer;)LArrowField$Quiver;"⟩
abbrev cX4_holderOf : ByteArray := prog_1_method_36_code
def yX4_holderOf : MethodName := ⟨RX4, "holderOf", "(I)I"⟩
abbrev cX4_stuckArrows : ByteArray := prog_1_method_37_code
def yX4_stuckArrows : MethodName := ⟨RX4, "stuckArrows", "()I"⟩
abbrev cX4_splitWhatIsHit : ByteArray := prog_1_method_38_code
def yX4_splitWhatIsHit : MethodName := ⟨RX4, "splitWhatIsHit", "()V"⟩
abbrev cX4_countForMatch : ByteArray := prog_1_method_39_code
def yX4_countForMatch : MethodName := ⟨RX4, "countForMatch", "(I)V"⟩
abbrev cX4_size : ByteArray := prog_1_method_40_code
def yX4_size : MethodName := ⟨RX4, "size", "(D)D"⟩
def RX5 : String := "ArrowFieldModel$Archer"
def TX5 : u_T := fun k => match k with
  | 0 => ("ArrowFieldModel$Archer", "draw", "I", false)
  | 1 => ("ArrowFieldModel$Archer", "steady", "I", false)
  | 2 => ("ArrowFieldModel$Archer", "sight", "I", false)
  | 3 => ("ArrowFieldModel$Archer", "nock", "I", false)
  | 4 => ("ArrowFieldModel$Archer", "creep", "F", false)
  | 5 => ("ArrowFieldModel$Archer", "quiver", "I", false)
  | 6 => ("ArrowFieldModel$Archer", "shots", "I", false)
  | 7 => ("ArrowFieldModel$Archer", "scores", "I", false)
  | 8 => ("ArrowFieldModel$Archer", "wins", "I", false)
  | 9 => ("ArrowFieldModel$Archer", "end", "I", false)
  | 10 => ("ArrowFieldModel$Archer", "arrows", "I", false)
  | _ => ("ArrowFieldModel$Archer", "tens", "I", false)
def tyX5 : Nat → FieldType := fun k => match k with
  | 0 => .int
  | 1 => .int
  | 2 => .int
  | 3 => .int
  | 4 => .float
  | 5 => .int
  | 6 => .int
  | 7 => .int
  | 8 => .int
  | 9 => .int
  | 10 => .int
  | _ => .int
abbrev wsX50 : List Cond := u_ws RX5 TX5 12
theorem nmX5 : ∀ a, a < 12 → ∀ b, b < 12 → a ≠ b → (TX5 a).2.1 ≠ (TX5 b).2.1 := by decide +kernel
theorem tyX5_ok : ∀ k, k < 12 → parseFieldDescriptor (TX5 k).2.2.1 = some (tyX5 k) := by decide +kernel
abbrev cX5_init : ByteArray := prog_8_method_1_code
def yX5_init : MethodName := ⟨RX5, "<init>", "()V"⟩
def RX6 : String := "ArrowFieldModel$Quiver"
def TX6 : u_T := fun k => match k with
  | 0 => ("ArrowFieldModel$Quiver", "mass", "I", false)
  | 1 => ("ArrowFieldModel$Quiver", "spine", "I", false)
  | 2 => ("ArrowFieldModel$Quiver", "where", "[I", true)
  | 3 => ("ArrowFieldModel$Quiver", "h", "[D", true)
  | _ => ("ArrowFieldModel$Quiver", "v", "[D", true)
def tyX6 : Nat → FieldType := fun k => match k with
  | 0 => .int
  | 1 => .int
  | 2 => .array .int
  | 3 => .array .double
  | _ => .array .double
abbrev wsX60 : List Cond := u_ws RX6 TX6 5
theorem nmX6 : ∀ a, a < 5 → ∀ b, b < 5 → a ≠ b → (TX6 a).2.1 ≠ (TX6 b).2.1 := by decide +kernel
theorem tyX6_ok : ∀ k, k < 5 → parseFieldDescriptor (TX6 k).2.2.1 = some (tyX6 k) := by decide +kernel
abbrev cX6_init : ByteArray := prog_9_method_1_code
def yX6_init : MethodName := ⟨RX6, "<init>", "()V"⟩
abbrev cX6_set : ByteArray := prog_9_method_2_code
def yX6_set : MethodName := ⟨RX6, "set", "(I)I"⟩
def RX7 : String := "ArrowFieldModel"
def TX7 : u_T := fun k => match k with
  | 0 => ("ArrowFieldModel", "thrown", "I", false)
  | 1 => ("ArrowFieldModel", "archers", "Ljava/util/ArrayList;", true)
  | 2 => ("ArrowFieldModel", "quivers", "Ljava/util/ArrayList;", true)
  | 3 => ("ArrowFieldModel", "distance", "I", false)
  | 4 => ("ArrowFieldModel", "wind", "I", false)
  | 5 => ("ArrowFieldModel", "face", "I", false)
  | 6 => ("ArrowFieldModel", "shots", "I", false)
  | 7 => ("ArrowFieldModel", "splits", "I", false)
  | 8 => ("ArrowFieldModel", "drawn", "I", false)
  | 9 => ("ArrowFieldModel", "began", "I", false)
  | 10 => ("ArrowFieldModel", "isClosed", "Z", false)
  | 11 => ("ArrowFieldModel", "refused", "I", false)
  | 12 => ("ArrowFieldModel", "winner", "I", false)
  | 13 => ("ArrowFieldModel", "party", "[I", true)
  | 14 => ("ArrowFieldModel", "points", "[I", true)
  | 15 => ("ArrowFieldModel", "sums", "[I", true)
  | 16 => ("ArrowFieldModel", "nearest", "D", false)
  | 17 => ("ArrowFieldModel", "turn", "I", false)
  | 18 => ("ArrowFieldModel", "isLast", "Z", false)
  | 19 => ("ArrowFieldModel", "h", "D", false)
  | 20 => ("ArrowFieldModel", "v", "D", false)
  | _ => ("ArrowFieldModel", "sum", "J", false)
def tyX7 : Nat → FieldType := fun k => match k with
  | 0 => .int
  | 1 => .object "java/util/ArrayList"
  | 2 => .object "java/util/ArrayList"
  | 3 => .int
  | 4 => .int
  | 5 => .int
  | 6 => .int
  | 7 => .int
  | 8 => .int
  | 9 => .int
  | 10 => .boolean
  | 11 => .int
  | 12 => .int
  | 13 => .array .int
  | 14 => .array .int
  | 15 => .array .int
  | 16 => .double
  | 17 => .int
  | 18 => .boolean
  | 19 => .double
  | 20 => .double
  | _ => .long
abbrev wsX70 : List Cond := u_ws RX7 TX7 22
theorem nmX7 : ∀ a, a < 22 → ∀ b, b < 22 → a ≠ b → (TX7 a).2.1 ≠ (TX7 b).2.1 := by decide +kernel
theorem tyX7_ok : ∀ k, k < 22 → parseFieldDescriptor (TX7 k).2.2.1 = some (tyX7 k) := by decide +kernel
abbrev cX7_init : ByteArray := prog_7_method_1_code
def yX7_init : MethodName := ⟨RX7, "<init>", "()V"⟩
abbrev cX7_thrown : ByteArray := prog_7_method_2_code
def yX7_thrown : MethodName := ⟨RX7, "thrown", "()I"⟩
abbrev cX7_refuse : ByteArray := prog_7_method_3_code
def yX7_refuse : MethodName := ⟨RX7, "refuse", "(I)I"⟩
abbrev cX7_is : ByteArray := prog_7_method_4_code
def yX7_is : MethodName := ⟨RX7, "is", "(III)Z"⟩
abbrev cX7_isArcher : ByteArray := prog_7_method_5_code
def yX7_isArcher : MethodName := ⟨RX7, "isArcher", "(I)Z"⟩
abbrev cX7_isQuiver : ByteArray := prog_7_method_6_code
def yX7_isQuiver : MethodName := ⟨RX7, "isQuiver", "(I)Z"⟩
abbrev cX7_isOn : ByteArray := prog_7_method_7_code
def yX7_isOn : MethodName := ⟨RX7, "isOn", "()Z"⟩
abbrev cX7_holder : ByteArray := prog_7_method_8_code
def yX7_holder : MethodName := ⟨RX7, "holder", "(I)I"⟩
abbrev cX7_archer : ByteArray := prog_7_method_9_code
def yX7_archer : MethodName := ⟨RX7, "archer", "(II)I"⟩
abbrev cX7_quiver : ByteArray := prog_7_method_10_code
def yX7_quiver : MethodName := ⟨RX7, "quiver", "(II)I"⟩
abbrev cX7_give : ByteArray := prog_7_method_11_code
def yX7_give : MethodName := ⟨RX7, "give", "(II)I"⟩
abbrev cX7_tune : ByteArray := prog_7_method_12_code
def yX7_tune : MethodName := ⟨RX7, "tune", "(III)I"⟩
abbrev cX7_string : ByteArray := prog_7_method_13_code
def yX7_string : MethodName := ⟨RX7, "string", "(I)D"⟩
abbrev cX7_stuck : ByteArray := prog_7_method_14_code
def yX7_stuck : MethodName := ⟨RX7, "stuck", "()I"⟩
abbrev cX7_field : ByteArray := prog_7_method_15_code
def yX7_field : MethodName := ⟨RX7, "field", "(III)I"⟩
abbrev cX7_wind : ByteArray := prog_7_method_16_code
def yX7_wind : MethodName := ⟨RX7, "wind", "(I)I"⟩
abbrev cX7_speed : ByteArray := prog_7_method_17_code
def yX7_speed : MethodName := ⟨RX7, "speed", "(LArrowFieldModel$Archer;LArrowFieldModel$Quiver;)D"⟩
abbrev cX7_fly : ByteArray := prog_7_method_18_code
def yX7_fly : MethodName := ⟨RX7, "fly", "(LArrowFieldModel$Archer;LArrowFieldModel$Quiver;II)V"⟩
abbrev cX7_score : ByteArray := prog_7_method_19_code
def yX7_score : MethodName := ⟨RX7, "score", "(D)I"⟩
abbrev cX7_split : ByteArray := prog_7_method_20_code
def yX7_split : MethodName := ⟨RX7, "split", "()V"⟩
abbrev cX7_canShoot : ByteArray := prog_7_method_21_code
def yX7_canShoot : MethodName := ⟨RX7, "canShoot", "(II)Z"⟩
abbrev cX7_shoot : ByteArray := prog_7_method_22_code
def yX7_shoot : MethodName := ⟨RX7, "shoot", "(II)I"⟩
abbrev cX7_count : ByteArray := prog_7_method_23_code
def yX7_count : MethodName := ⟨RX7, "count", "(ID)V"⟩
abbrev cX7_win : ByteArray := prog_7_method_24_code
def yX7_win : MethodName := ⟨RX7, "win", "(I)V"⟩
abbrev cX7_pull : ByteArray := prog_7_method_25_code
def yX7_pull : MethodName := ⟨RX7, "pull", "()I"⟩
abbrev cX7_mend : ByteArray := prog_7_method_26_code
def yX7_mend : MethodName := ⟨RX7, "mend", "(I)I"⟩
abbrev cX7_match : ByteArray := prog_7_method_27_code
def yX7_match : MethodName := ⟨RX7, "match", "(II)I"⟩
abbrev cX7_breakOff : ByteArray := prog_7_method_28_code
def yX7_breakOff : MethodName := ⟨RX7, "breakOff", "()I"⟩
abbrev cX7_close : ByteArray := prog_7_method_29_code
def yX7_close : MethodName := ⟨RX7, "close", "(Z)Z"⟩
abbrev cX7_horn : ByteArray := prog_7_method_30_code
def yX7_horn : MethodName := ⟨RX7, "horn", "()I"⟩
abbrev cX7_ofArcherNow : ByteArray := prog_7_method_31_code
def yX7_ofArcherNow : MethodName := ⟨RX7, "ofArcherNow", "(LArrowFieldModel$Archer;I)I"⟩
abbrev cX7_ofArcher : ByteArray := prog_7_method_32_code
def yX7_ofArcher : MethodName := ⟨RX7, "ofArcher", "(II)I"⟩
abbrev cX7_speedNow : ByteArray := prog_7_method_33_code
def yX7_speedNow : MethodName := ⟨RX7, "speedNow", "(LArrowFieldModel$Archer;)D"⟩
abbrev cX7_speed_ : ByteArray := prog_7_method_34_code
def yX7_speed_ : MethodName := ⟨RX7, "speed", "(I)D"⟩
abbrev cX7_ofQuiverNow : ByteArray := prog_7_method_35_code
def yX7_ofQuiverNow : MethodName := ⟨RX7, "ofQuiverNow", "(II)I"⟩
abbrev cX7_ofQuiver : ByteArray := prog_7_method_36_code
def yX7_ofQuiver : MethodName := ⟨RX7, "ofQuiver", "(II)I"⟩
abbrev cX7_hit : ByteArray := prog_7_method_37_code
def yX7_hit : MethodName := ⟨RX7, "hit", "(IIZ)D"⟩
abbrev cX7_manyNow : ByteArray := prog_7_method_38_code
def yX7_manyNow : MethodName := ⟨RX7, "manyNow", "(I)I"⟩
abbrev cX7_many : ByteArray := prog_7_method_39_code
def yX7_many : MethodName := ⟨RX7, "many", "(I)I"⟩
abbrev cX7_ofMatchNow : ByteArray := prog_7_method_40_code
def yX7_ofMatchNow : MethodName := ⟨RX7, "ofMatchNow", "(I)I"⟩
abbrev cX7_ofMatch : ByteArray := prog_7_method_41_code
def yX7_ofMatch : MethodName := ⟨RX7, "ofMatch", "(I)I"⟩
abbrev cX7_winner : ByteArray := prog_7_method_42_code
def yX7_winner : MethodName := ⟨RX7, "winner", "()I"⟩
abbrev cX7_isReady : ByteArray := prog_7_method_43_code
def yX7_isReady : MethodName := ⟨RX7, "isReady", "(I)Z"⟩
abbrev cX7_fly_ : ByteArray := prog_7_method_44_code
def yX7_fly_ : MethodName := ⟨RX7, "fly", "(III)V"⟩
abbrev cX7_wouldHit : ByteArray := prog_7_method_45_code
def yX7_wouldHit : MethodName := ⟨RX7, "wouldHit", "(IIZ)D"⟩
abbrev cX7_mark : ByteArray := prog_7_method_46_code
def yX7_mark : MethodName := ⟨RX7, "mark", "(I)I"⟩
abbrev cX7_bestNow : ByteArray := prog_7_method_47_code
def yX7_bestNow : MethodName := ⟨RX7, "bestNow", "(I)I"⟩
abbrev cX7_best : ByteArray := prog_7_method_48_code
def yX7_best : MethodName := ⟨RX7, "best", "(I)I"⟩
abbrev cX7_reach : ByteArray := prog_7_method_49_code
def yX7_reach : MethodName := ⟨RX7, "reach", "(I)I"⟩
abbrev cX7_wouldScore : ByteArray := prog_7_method_50_code
def yX7_wouldScore : MethodName := ⟨RX7, "wouldScore", "(I)I"⟩
abbrev cX7_add : ByteArray := prog_7_method_51_code
def yX7_add : MethodName := ⟨RX7, "add", "(J)V"⟩
abbrev cX7_digest : ByteArray := prog_7_method_52_code
def yX7_digest : MethodName := ⟨RX7, "digest", "()J"⟩
def RJx145de : String := "java/io/Serializable"
def TJx145de : u_T := fun k => match k with
  | _ => ("", "", "", false)
def tyJx145de : Nat → FieldType := fun k => match k with
  | _ => .int
abbrev wsJx145de0 : List Cond := u_ws RJx145de TJx145de 0
theorem nmJx145de : ∀ a, a < 0 → ∀ b, b < 0 → a ≠ b → (TJx145de a).2.1 ≠ (TJx145de b).2.1 := by decide +kernel
theorem tyJx145de_ok : ∀ k, k < 0 → parseFieldDescriptor (TJx145de k).2.2.1 = some (tyJx145de k) := by decide +kernel
def RJx8e188 : String := "java/lang/Cloneable"
def TJx8e188 : u_T := fun k => match k with
  | _ => ("", "", "", false)
def tyJx8e188 : Nat → FieldType := fun k => match k with
  | _ => .int
abbrev wsJx8e1880 : List Cond := u_ws RJx8e188 TJx8e188 0
theorem nmJx8e188 : ∀ a, a < 0 → ∀ b, b < 0 → a ≠ b → (TJx8e188 a).2.1 ≠ (TJx8e188 b).2.1 := by decide +kernel
theorem tyJx8e188_ok : ∀ k, k < 0 → parseFieldDescriptor (TJx8e188 k).2.2.1 = some (tyJx8e188 k) := by decide +kernel
def RJxb160c : String := "java/lang/Comparable"
def TJxb160c : u_T := fun k => match k with
  | _ => ("", "", "", false)
def tyJxb160c : Nat → FieldType := fun k => match k with
  | _ => .int
abbrev wsJxb160c0 : List Cond := u_ws RJxb160c TJxb160c 0
theorem nmJxb160c : ∀ a, a < 0 → ∀ b, b < 0 → a ≠ b → (TJxb160c a).2.1 ≠ (TJxb160c b).2.1 := by decide +kernel
theorem tyJxb160c_ok : ∀ k, k < 0 → parseFieldDescriptor (TJxb160c k).2.2.1 = some (tyJxb160c k) := by decide +kernel
def RJxe99ae : String := "java/lang/Double"
def TJxe99ae : u_T := fun k => match k with
  | _ => ("", "", "", false)
def tyJxe99ae : Nat → FieldType := fun k => match k with
  | _ => .int
abbrev wsJxe99ae0 : List Cond := u_ws RJxe99ae TJxe99ae 0
theorem nmJxe99ae : ∀ a, a < 0 → ∀ b, b < 0 → a ≠ b → (TJxe99ae a).2.1 ≠ (TJxe99ae b).2.1 := by decide +kernel
theorem tyJxe99ae_ok : ∀ k, k < 0 → parseFieldDescriptor (TJxe99ae k).2.2.1 = some (tyJxe99ae k) := by decide +kernel
def RJxf58ca : String := "java/lang/Float"
def TJxf58ca : u_T := fun k => match k with
  | _ => ("", "", "", false)
def tyJxf58ca : Nat → FieldType := fun k => match k with
  | _ => .int
abbrev wsJxf58ca0 : List Cond := u_ws RJxf58ca TJxf58ca 0
theorem nmJxf58ca : ∀ a, a < 0 → ∀ b, b < 0 → a ≠ b → (TJxf58ca a).2.1 ≠ (TJxf58ca b).2.1 := by decide +kernel
theorem tyJxf58ca_ok : ∀ k, k < 0 → parseFieldDescriptor (TJxf58ca k).2.2.1 = some (tyJxf58ca k) := by decide +kernel
def RJ6 : String := "java/lang/Integer"
def TJ6 : u_T := fun k => match k with
  | _ => ("", "", "", false)
def tyJ6 : Nat → FieldType := fun k => match k with
  | _ => .int
abbrev wsJ60 : List Cond := u_ws RJ6 TJ6 0
theorem nmJ6 : ∀ a, a < 0 → ∀ b, b < 0 → a ≠ b → (TJ6 a).2.1 ≠ (TJ6 b).2.1 := by decide +kernel
theorem tyJ6_ok : ∀ k, k < 0 → parseFieldDescriptor (TJ6 k).2.2.1 = some (tyJ6 k) := by decide +kernel
abbrev cJ6_bitCount_0f7a4 : ByteArray := prog_19_method_49_code
def yJ6_bitCount_0f7a4 : MethodName := ⟨RJ6, "bitCount", "(I)I"⟩
def RJxab1ab : String := "java/lang/Iterable"
def TJxab1ab : u_T := fun k => match k with
  | _ => ("", "", "", false)
def tyJxab1ab : Nat → FieldType := fun k => match k with
  | _ => .int
abbrev wsJxab1ab0 : List Cond := u_ws RJxab1ab TJxab1ab 0
theorem nmJxab1ab : ∀ a, a < 0 → ∀ b, b < 0 → a ≠ b → (TJxab1ab a).2.1 ≠ (TJxab1ab b).2.1 := by decide +kernel
theorem tyJxab1ab_ok : ∀ k, k < 0 → parseFieldDescriptor (TJxab1ab k).2.2.1 = some (tyJxab1ab k) := by decide +kernel
def RJ9 : String := "java/lang/Math"
def TJ9 : u_T := fun k => match k with
  | _ => ("", "", "", false)
def tyJ9 : Nat → FieldType := fun k => match k with
  | _ => .int
abbrev wsJ90 : List Cond := u_ws RJ9 TJ9 0
theorem nmJ9 : ∀ a, a < 0 → ∀ b, b < 0 → a ≠ b → (TJ9 a).2.1 ≠ (TJ9 b).2.1 := by decide +kernel
theorem tyJ9_ok : ∀ k, k < 0 → parseFieldDescriptor (TJ9 k).2.2.1 = some (tyJ9 k) := by decide +kernel
abbrev cJ9_abs_294c1 : ByteArray := prog_21_method_64_code
def yJ9_abs_294c1 : MethodName := ⟨RJ9, "abs", "(D)D"⟩
abbrev cJ9_max_7cf53 : ByteArray := prog_21_method_65_code
def yJ9_max_7cf53 : MethodName := ⟨RJ9, "max", "(II)I"⟩
abbrev cJ9_min_7cf53 : ByteArray := prog_21_method_69_code
def yJ9_min_7cf53 : MethodName := ⟨RJ9, "min", "(II)I"⟩
abbrev cJ9_min_e70c8 : ByteArray := prog_21_method_71_code
def yJ9_min_e70c8 : MethodName := ⟨RJ9, "min", "(FF)F"⟩
def RJxd2413 : String := "java/lang/Number"
def TJxd2413 : u_T := fun k => match k with
  | _ => ("", "", "", false)
def tyJxd2413 : Nat → FieldType := fun k => match k with
  | _ => .int
abbrev wsJxd24130 : List Cond := u_ws RJxd2413 TJxd2413 0
theorem nmJxd2413 : ∀ a, a < 0 → ∀ b, b < 0 → a ≠ b → (TJxd2413 a).2.1 ≠ (TJxd2413 b).2.1 := by decide +kernel
theorem tyJxd2413_ok : ∀ k, k < 0 → parseFieldDescriptor (TJxd2413 k).2.2.1 = some (tyJxd2413 k) := by decide +kernel
def RJ0 : String := "java/lang/String"
def TJ0 : u_T := fun k => match k with
  | _ => ("", "", "", false)
def tyJ0 : Nat → FieldType := fun k => match k with
  | _ => .int
abbrev wsJ00 : List Cond := u_ws RJ0 TJ0 0
theorem nmJ0 : ∀ a, a < 0 → ∀ b, b < 0 → a ≠ b → (TJ0 a).2.1 ≠ (TJ0 b).2.1 := by decide +kernel
theorem tyJ0_ok : ∀ k, k < 0 → parseFieldDescriptor (TJ0 k).2.2.1 = some (tyJ0 k) := by decide +kernel
def RJ10 : String := "java/lang/System"
def TJ10 : u_T := fun k => match k with
  | _ => ("", "", "", false)
def tyJ10 : Nat → FieldType := fun k => match k with
  | _ => .int
abbrev wsJ100 : List Cond := u_ws RJ10 TJ10 0
theorem nmJ10 : ∀ a, a < 0 → ∀ b, b < 0 → a ≠ b → (TJ10 a).2.1 ≠ (TJ10 b).2.1 := by decide +kernel
theorem tyJ10_ok : ∀ k, k < 0 → parseFieldDescriptor (TJ10 k).2.2.1 = some (tyJ10 k) := by decide +kernel
def RJxfd54e : String := "java/lang/constant/Constable"
def TJxfd54e : u_T := fun k => match k with
  | _ => ("", "", "", false)
def tyJxfd54e : Nat → FieldType := fun k => match k with
  | _ => .int
abbrev wsJxfd54e0 : List Cond := u_ws RJxfd54e TJxfd54e 0
theorem nmJxfd54e : ∀ a, a < 0 → ∀ b, b < 0 → a ≠ b → (TJxfd54e a).2.1 ≠ (TJxfd54e b).2.1 := by decide +kernel
theorem tyJxfd54e_ok : ∀ k, k < 0 → parseFieldDescriptor (TJxfd54e k).2.2.1 = some (tyJxfd54e k) := by decide +kernel
def RJx3cf43 : String := "java/lang/constant/ConstantDesc"
def TJx3cf43 : u_T := fun k => match k with
  | _ => ("", "", "", false)
def tyJx3cf43 : Nat → FieldType := fun k => match k with
  | _ => .int
abbrev wsJx3cf430 : List Cond := u_ws RJx3cf43 TJx3cf43 0
theorem nmJx3cf43 : ∀ a, a < 0 → ∀ b, b < 0 → a ≠ b → (TJx3cf43 a).2.1 ≠ (TJx3cf43 b).2.1 := by decide +kernel
theorem tyJx3cf43_ok : ∀ k, k < 0 → parseFieldDescriptor (TJx3cf43 k).2.2.1 = some (tyJx3cf43 k) := by decide +kernel
def RJxa1e45 : String := "java/util/AbstractCollection"
def TJxa1e45 : u_T := fun k => match k with
  | _ => ("", "", "", false)
def tyJxa1e45 : Nat → FieldType := fun k => match k with
  | _ => .int
abbrev wsJxa1e450 : List Cond := u_ws RJxa1e45 TJxa1e45 0
theorem nmJxa1e45 : ∀ a, a < 0 → ∀ b, b < 0 → a ≠ b → (TJxa1e45 a).2.1 ≠ (TJxa1e45 b).2.1 := by decide +kernel
theorem tyJxa1e45_ok : ∀ k, k < 0 → parseFieldDescriptor (TJxa1e45 k).2.2.1 = some (tyJxa1e45 k) := by decide +kernel
abbrev cJxa1e45_init_da8c8 : ByteArray := prog_29_method_1_code
def yJxa1e45_init_da8c8 : MethodName := ⟨RJxa1e45, "<init>", "()V"⟩
def RJxc12de : String := "java/util/AbstractList"
def TJxc12de : u_T := fun k => match k with
  | _ => ("", "", "", false)
def tyJxc12de : Nat → FieldType := fun k => match k with
  | _ => .int
abbrev wsJxc12de0 : List Cond := u_ws RJxc12de TJxc12de 0
theorem nmJxc12de : ∀ a, a < 0 → ∀ b, b < 0 → a ≠ b → (TJxc12de a).2.1 ≠ (TJxc12de b).2.1 := by decide +kernel
theorem tyJxc12de_ok : ∀ k, k < 0 → parseFieldDescriptor (TJxc12de k).2.2.1 = some (tyJxc12de k) := by decide +kernel
abbrev cJxc12de_init_da8c8 : ByteArray := prog_30_method_1_code
def yJxc12de_init_da8c8 : MethodName := ⟨RJxc12de, "<init>", "()V"⟩
def RJx35411 : String := "java/util/ArrayList$Itr"
def TJx35411 : u_T := fun k => match k with
  | 0 => ("java/util/ArrayList$Itr", "cursor", "I", false)
  | 1 => ("java/util/ArrayList$Itr", "lastRet", "I", false)
  | 2 => ("java/util/ArrayList$Itr", "expectedModCount", "I", false)
  | _ => ("java/util/ArrayList$Itr", "this$0", "Ljava/util/ArrayList;", true)
def tyJx35411 : Nat → FieldType := fun k => match k with
  | 0 => .int
  | 1 => .int
  | 2 => .int
  | _ => .object "java/util/ArrayList"
abbrev wsJx354110 : List Cond := u_ws RJx35411 TJx35411 4
theorem nmJx35411 : ∀ a, a < 4 → ∀ b, b < 4 → a ≠ b → (TJx35411 a).2.1 ≠ (TJx35411 b).2.1 := by decide +kernel
theorem tyJx35411_ok : ∀ k, k < 4 → parseFieldDescriptor (TJx35411 k).2.2.1 = some (tyJx35411 k) := by decide +kernel
abbrev cJx35411_init_45d68 : ByteArray := prog_32_method_1_code
def yJx35411_init_45d68 : MethodName := ⟨RJx35411, "<init>", "(Ljava/util/ArrayList;)V"⟩
abbrev cJx35411_hasNext_aae02 : ByteArray := prog_32_method_2_code
def yJx35411_hasNext_aae02 : MethodName := ⟨RJx35411, "hasNext", "()Z"⟩
abbrev cJx35411_next_0502b : ByteArray := prog_32_method_3_code
def yJx35411_next_0502b : MethodName := ⟨RJx35411, "next", "()Ljava/lang/Object;"⟩
abbrev cJx35411_checkForComodification_da8c8 : ByteArray := prog_32_method_6_code
def yJx35411_checkForComodification_da8c8 : MethodName := ⟨RJx35411, "checkForComodification", "()V"⟩
def RJx4a65c : String := "java/util/ArrayList"
def TJx4a65c : u_T := fun k => match k with
  | 0 => ("java/util/AbstractList", "modCount", "I", false)
  | 1 => ("java/util/ArrayList", "elementData", "[Ljava/lang/Object;", false)
  | _ => ("java/util/ArrayList", "size", "I", false)
def tyJx4a65c : Nat → FieldType := fun k => match k with
  | 0 => .int
  | 1 => .array (.object "java/lang/Object")
  | _ => .int
abbrev wsJx4a65c0 : List Cond := u_ws RJx4a65c TJx4a65c 3
theorem nmJx4a65c : ∀ a, a < 3 → ∀ b, b < 3 → a ≠ b → (TJx4a65c a).2.1 ≠ (TJx4a65c b).2.1 := by decide +kernel
theorem tyJx4a65c_ok : ∀ k, k < 3 → parseFieldDescriptor (TJx4a65c k).2.2.1 = some (tyJx4a65c k) := by decide +kernel
abbrev cJx4a65c_init_da8c8 : ByteArray := prog_31_method_2_code
def yJx4a65c_init_da8c8 : MethodName := ⟨RJx4a65c, "<init>", "()V"⟩
abbrev cJx4a65c_grow_92f84 : ByteArray := prog_31_method_6_code
def yJx4a65c_grow_92f84 : MethodName := ⟨RJx4a65c, "grow", "(I)[Ljava/lang/Object;"⟩
abbrev cJx4a65c_grow_d5877 : ByteArray := prog_31_method_7_code
def yJx4a65c_grow_d5877 : MethodName := ⟨RJx4a65c, "grow", "()[Ljava/lang/Object;"⟩
abbrev cJx4a65c_size_8abf5 : ByteArray := prog_31_method_8_code
def yJx4a65c_size_8abf5 : MethodName := ⟨RJx4a65c, "size", "()I"⟩
abbrev cJx4a65c_elementData_915e3 : ByteArray := prog_31_method_18_code
def yJx4a65c_elementData_915e3 : MethodName := ⟨RJx4a65c, "elementData", "(I)Ljava/lang/Object;"⟩
abbrev cJx4a65c_get_915e3 : ByteArray := prog_31_method_20_code
def yJx4a65c_get_915e3 : MethodName := ⟨RJx4a65c, "get", "(I)Ljava/lang/Object;"⟩
abbrev cJx4a65c_add_72be8 : ByteArray := prog_31_method_24_code
def yJx4a65c_add_72be8 : MethodName := ⟨RJx4a65c, "add", "(Ljava/lang/Object;[Ljava/lang/Object;I)V"⟩
abbrev cJx4a65c_add_9ea2d : ByteArray := prog_31_method_25_code
def yJx4a65c_add_9ea2d : MethodName := ⟨RJx4a65c, "add", "(Ljava/lang/Object;)Z"⟩
abbrev cJx4a65c_iterator_32c93 : ByteArray := prog_31_method_55_code
def yJx4a65c_iterator_32c93 : MethodName := ⟨RJx4a65c, "iterator", "()Ljava/util/Iterator;"⟩
def RJ7 : String := "java/util/Arrays"
def TJ7 : u_T := fun k => match k with
  | _ => ("", "", "", false)
def tyJ7 : Nat → FieldType := fun k => match k with
  | _ => .int
abbrev wsJ70 : List Cond := u_ws RJ7 TJ7 0
theorem nmJ7 : ∀ a, a < 0 → ∀ b, b < 0 → a ≠ b → (TJ7 a).2.1 ≠ (TJ7 b).2.1 := by decide +kernel
theorem tyJ7_ok : ∀ k, k < 0 → parseFieldDescriptor (TJ7 k).2.2.1 = some (tyJ7 k) := by decide +kernel
abbrev cJ7_copyOf_1904c : ByteArray := prog_33_method_119_code
def yJ7_copyOf_1904c : MethodName := ⟨RJ7, "copyOf", "([Ljava/lang/Object;I)[Ljava/lang/Object;"⟩
abbrev cJ7_copyOf_6403c : ByteArray := prog_33_method_120_code
def yJ7_copyOf_6403c : MethodName := ⟨RJ7, "copyOf", "([Ljava/lang/Object;ILjava/lang/Class;)[Ljava/lang/Object;"⟩
def RJx5ef63 : String := "java/util/Collection"
def TJx5ef63 : u_T := fun k => match k with
  | _ => ("", "", "", false)
def tyJx5ef63 : Nat → FieldType := fun k => match k with
  | _ => .int
abbrev wsJx5ef630 : List Cond := u_ws RJx5ef63 TJx5ef63 0
theorem nmJx5ef63 : ∀ a, a < 0 → ∀ b, b < 0 → a ≠ b → (TJx5ef63 a).2.1 ≠ (TJx5ef63 b).2.1 := by decide +kernel
theorem tyJx5ef63_ok : ∀ k, k < 0 → parseFieldDescriptor (TJx5ef63 k).2.2.1 = some (tyJx5ef63 k) := by decide +kernel
def RJx4d0d8 : String := "java/util/Iterator"
def TJx4d0d8 : u_T := fun k => match k with
  | _ => ("", "", "", false)
def tyJx4d0d8 : Nat → FieldType := fun k => match k with
  | _ => .int
abbrev wsJx4d0d80 : List Cond := u_ws RJx4d0d8 TJx4d0d8 0
theorem nmJx4d0d8 : ∀ a, a < 0 → ∀ b, b < 0 → a ≠ b → (TJx4d0d8 a).2.1 ≠ (TJx4d0d8 b).2.1 := by decide +kernel
theorem tyJx4d0d8_ok : ∀ k, k < 0 → parseFieldDescriptor (TJx4d0d8 k).2.2.1 = some (tyJx4d0d8 k) := by decide +kernel
def RJxbd725 : String := "java/util/List"
def TJxbd725 : u_T := fun k => match k with
  | _ => ("", "", "", false)
def tyJxbd725 : Nat → FieldType := fun k => match k with
  | _ => .int
abbrev wsJxbd7250 : List Cond := u_ws RJxbd725 TJxbd725 0
theorem nmJxbd725 : ∀ a, a < 0 → ∀ b, b < 0 → a ≠ b → (TJxbd725 a).2.1 ≠ (TJxbd725 b).2.1 := by decide +kernel
theorem tyJxbd725_ok : ∀ k, k < 0 → parseFieldDescriptor (TJxbd725 k).2.2.1 = some (tyJxbd725 k) := by decide +kernel
def RJ15 : String := "java/util/Objects"
def TJ15 : u_T := fun k => match k with
  | _ => ("", "", "", false)
def tyJ15 : Nat → FieldType := fun k => match k with
  | _ => .int
abbrev wsJ150 : List Cond := u_ws RJ15 TJ15 0
theorem nmJ15 : ∀ a, a < 0 → ∀ b, b < 0 → a ≠ b → (TJ15 a).2.1 ≠ (TJ15 b).2.1 := by decide +kernel
theorem tyJ15_ok : ∀ k, k < 0 → parseFieldDescriptor (TJ15 k).2.2.1 = some (tyJ15 k) := by decide +kernel
abbrev cJ15_checkIndex_7cf53 : ByteArray := prog_37_method_17_code
def yJ15_checkIndex_7cf53 : MethodName := ⟨RJ15, "checkIndex", "(II)I"⟩
def RJxf0a74 : String := "java/util/RandomAccess"
def TJxf0a74 : u_T := fun k => match k with
  | _ => ("", "", "", false)
def tyJxf0a74 : Nat → FieldType := fun k => match k with
  | _ => .int
abbrev wsJxf0a740 : List Cond := u_ws RJxf0a74 TJxf0a74 0
theorem nmJxf0a74 : ∀ a, a < 0 → ∀ b, b < 0 → a ≠ b → (TJxf0a74 a).2.1 ≠ (TJxf0a74 b).2.1 := by decide +kernel
theorem tyJxf0a74_ok : ∀ k, k < 0 → parseFieldDescriptor (TJxf0a74 k).2.2.1 = some (tyJxf0a74 k) := by decide +kernel
def RJxa66e6 : String := "java/util/SequencedCollection"
def TJxa66e6 : u_T := fun k => match k with
  | _ => ("", "", "", false)
def tyJxa66e6 : Nat → FieldType := fun k => match k with
  | _ => .int
abbrev wsJxa66e60 : List Cond := u_ws RJxa66e6 TJxa66e6 0
theorem nmJxa66e6 : ∀ a, a < 0 → ∀ b, b < 0 → a ≠ b → (TJxa66e6 a).2.1 ≠ (TJxa66e6 b).2.1 := by decide +kernel
theorem tyJxa66e6_ok : ∀ k, k < 0 → parseFieldDescriptor (TJxa66e6 k).2.2.1 = some (tyJxa66e6 k) := by decide +kernel
def RJ8 : String := "jdk/internal/util/ArraysSupport"
def TJ8 : u_T := fun k => match k with
  | _ => ("", "", "", false)
def tyJ8 : Nat → FieldType := fun k => match k with
  | _ => .int
abbrev wsJ80 : List Cond := u_ws RJ8 TJ8 0
theorem nmJ8 : ∀ a, a < 0 → ∀ b, b < 0 → a ≠ b → (TJ8 a).2.1 ≠ (TJ8 b).2.1 := by decide +kernel
theorem tyJ8_ok : ∀ k, k < 0 → parseFieldDescriptor (TJ8 k).2.2.1 = some (tyJ8 k) := by decide +kernel
abbrev cJ8_newLength_cabcc : ByteArray := prog_40_method_27_code
def yJ8_newLength_cabcc : MethodName := ⟨RJ8, "newLength", "(III)I"⟩
abbrev cJ8_hugeLength_7cf53 : ByteArray := prog_40_method_28_code
def yJ8_hugeLength_7cf53 : MethodName := ⟨RJ8, "hugeLength", "(II)I"⟩
def RJ3 : String := "jdk/internal/util/Preconditions"
def TJ3 : u_T := fun k => match k with
  | _ => ("", "", "", false)
def tyJ3 : Nat → FieldType := fun k => match k with
  | _ => .int
abbrev wsJ30 : List Cond := u_ws RJ3 TJ3 0
theorem nmJ3 : ∀ a, a < 0 → ∀ b, b < 0 → a ≠ b → (TJ3 a).2.1 ≠ (TJ3 b).2.1 := by decide +kernel
theorem tyJ3_ok : ∀ k, k < 0 → parseFieldDescriptor (TJ3 k).2.2.1 = some (tyJ3 k) := by decide +kernel
abbrev cJ3_checkIndex_8e157 : ByteArray := prog_41_method_11_code
def yJ3_checkIndex_8e157 : MethodName := ⟨RJ3, "checkIndex", "(IILjava/util/function/BiFunction;)I"⟩
def RL : String := "ArrowFieldLaw"
abbrev cL_archer : ByteArray := method_3_code
def yL_archer : MethodName := ⟨RL, "archer", "(LArrowField;II[J)I"⟩
abbrev cL_quiver : ByteArray := method_4_code
def yL_quiver : MethodName := ⟨RL, "quiver", "(LArrowField;II[J)I"⟩
abbrev cL_give : ByteArray := method_5_code
def yL_give : MethodName := ⟨RL, "give", "(LArrowField;II[J)I"⟩
abbrev cL_tune : ByteArray := method_6_code
def yL_tune : MethodName := ⟨RL, "tune", "(LArrowField;III[J)I"⟩
abbrev cL_string : ByteArray := method_7_code
def yL_string : MethodName := ⟨RL, "string", "(LArrowField;I[D)I"⟩
abbrev cL_field : ByteArray := method_8_code
def yL_field : MethodName := ⟨RL, "field", "(LArrowField;III[J)I"⟩
abbrev cL_wind : ByteArray := method_9_code
def yL_wind : MethodName := ⟨RL, "wind", "(LArrowField;I[J)I"⟩
abbrev cL_shoot : ByteArray := method_10_code
def yL_shoot : MethodName := ⟨RL, "shoot", "(LArrowField;II[J)I"⟩
abbrev cL_mend : ByteArray := method_11_code
def yL_mend : MethodName := ⟨RL, "mend", "(LArrowField;I[J)I"⟩
abbrev cL_match : ByteArray := method_12_code
def yL_match : MethodName := ⟨RL, "match", "(LArrowField;II[J)I"⟩
abbrev cL_breakOff : ByteArray := method_13_code
def yL_breakOff : MethodName := ⟨RL, "breakOff", "(LArrowField;[J)I"⟩
abbrev cL_ofArcher : ByteArray := method_14_code
def yL_ofArcher : MethodName := ⟨RL, "ofArcher", "(LArrowField;II[J)I"⟩
abbrev cL_speed : ByteArray := method_15_code
def yL_speed : MethodName := ⟨RL, "speed", "(LArrowField;I[D)I"⟩
abbrev cL_ofQuiver : ByteArray := method_16_code
def yL_ofQuiver : MethodName := ⟨RL, "ofQuiver", "(LArrowField;II[J)I"⟩
abbrev cL_hit : ByteArray := method_17_code
def yL_hit : MethodName := ⟨RL, "hit", "(LArrowField;IIZ[D)I"⟩
abbrev cL_many : ByteArray := method_18_code
def yL_many : MethodName := ⟨RL, "many", "(LArrowField;I[J)I"⟩
abbrev cL_ofMatch : ByteArray := method_19_code
def yL_ofMatch : MethodName := ⟨RL, "ofMatch", "(LArrowField;I[J)I"⟩
abbrev cL_wouldHit : ByteArray := method_20_code
def yL_wouldHit : MethodName := ⟨RL, "wouldHit", "(LArrowField;IIZ[D)I"⟩
abbrev cL_mark : ByteArray := method_21_code
def yL_mark : MethodName := ⟨RL, "mark", "(LArrowField;I[J)I"⟩
abbrev cL_best : ByteArray := method_22_code
def yL_best : MethodName := ⟨RL, "best", "(LArrowField;I[J)I"⟩
abbrev cL_reach : ByteArray := method_23_code
def yL_reach : MethodName := ⟨RL, "reach", "(LArrowField;I[J)I"⟩
abbrev cL_wouldScore : ByteArray := method_24_code
def yL_wouldScore : MethodName := ⟨RL, "wouldScore", "(LArrowField;I[J)I"⟩
abbrev cL_law : ByteArray := code
def yL_law : MethodName := ⟨RL, "law", "([I)Z"⟩
def wsX0_init : List Cond := .code yX0_init cX0_init 1 none :: ([.methodLink RX0 3 objectInit, .instanceMethod objectInit, .code objectInit ⟨#[0xb1]⟩ 1 none, .fieldLink RX0 9 "ArrowField$Archer" "quiver" "I"] ++ wsX00)
def wsX0_speedWith : List Cond := .code yX0_speedWith cX0_speedWith 2 (some .double) :: ([.fieldLink RX0 15 "ArrowField$Archer" "draw" "I", .constantDouble RX0 18 (4648488871632306176), .fieldLink RX0 20 "ArrowField$Quiver" "mass" "I", .constantDouble RX0 25 (4641240890982006784), .fieldLink RX0 27 "ArrowField$Archer" "creep" "F"] ++ wsX00 ++ wsX30)
def wsX0_count : List Cond := .code yX0_count cX0_count 3 none :: ([.fieldLink RX0 31 "ArrowField$Archer" "shotsEver" "I", .fieldLink RX0 34 "ArrowField$Archer" "scoresEver" "I", .fieldLink RX0 37 "ArrowField$Archer" "endShots" "I", .fieldLink RX0 40 "ArrowField$Archer" "endSum" "I", .fieldLink RX0 43 "ArrowField$Archer" "endTens" "I", .fieldLink RX0 27 "ArrowField$Archer" "creep" "F", .constantFloat RX0 46 (998244352), .constantFloat RX0 47 (1040187392)] ++ wsX00)
def wsX0_forgetEnd : List Cond := .code yX0_forgetEnd cX0_forgetEnd 1 none :: ([.fieldLink RX0 40 "ArrowField$Archer" "endSum" "I", .fieldLink RX0 37 "ArrowField$Archer" "endShots" "I", .fieldLink RX0 43 "ArrowField$Archer" "endTens" "I"] ++ wsX00)
def wsX1_init : List Cond := .code yX1_init cX1_init 1 none :: ([.methodLink RX1 3 objectInit, .instanceMethod objectInit, .code objectInit ⟨#[0xb1]⟩ 1 none])
def wsX1_fly : List Cond := .code yX1_fly cX1_fly 15 none :: ([.constantDouble RX1 15 (4647714815446351872), .fieldLink RX1 17 "ArrowField$Archer" "nock" "I", .constantDouble RX1 21 (4620693217682128896), .fieldLink RX1 23 "ArrowField$Quiver" "spine" "I", .fieldLink RX1 28 "ArrowField$Archer" "draw" "I", .constantDouble RX1 31 (4643211215818981376), .fieldLink RX1 33 "ArrowField$Flight" "h" "D", .fieldLink RX1 39 "ArrowField$Flight" "v" "D", .constantDouble RX1 42 (4625196817309499392), .constantDouble RX1 44 (4603804719079489536), .constantDouble RX1 46 (4634204016564240384), .methodLink RX1 9 yX0_speedWith, .instanceMethod yX0_speedWith, .selects RX0 yX0_speedWith yX0_speedWith, .initialized RX0, .code yX0_speedWith cX0_speedWith 2 (some .double), .fieldLink RX0 15 "ArrowField$Archer" "draw" "I", .constantDouble RX0 18 (4648488871632306176), .fieldLink RX0 20 "ArrowField$Quiver" "mass" "I", .constantDouble RX0 25 (4641240890982006784), .fieldLink RX0 27 "ArrowField$Archer" "creep" "F"] ++ wsX00 ++ wsX30 ++ wsX10)
def wsX1_shake : List Cond := .code yX1_shake cX1_shake 4 none :: ([.fieldLink RX1 33 "ArrowField$Flight" "h" "D", .constantDouble RX1 48 (4615063718147915776), .constantDouble RX1 50 (4661225614328463360), .fieldLink RX1 39 "ArrowField$Flight" "v" "D"] ++ wsX10)
def wsX1_farness : List Cond := .code yX1_farness cX1_farness 1 (some .double) :: ([.fieldLink RX1 33 "ArrowField$Flight" "h" "D", .fieldLink RX1 39 "ArrowField$Flight" "v" "D"] ++ wsX10)
def wsX1_worth : List Cond := .code yX1_worth cX1_worth 7 (some .int) :: ([.constantDouble RX1 46 (4634204016564240384), .constantDouble RX1 56 (4575657221408423936), .methodLink RX1 52 yX1_farness, .instanceMethod yX1_farness, .selects RX1 yX1_farness yX1_farness, .initialized RX1, .code yX1_farness cX1_farness 1 (some .double), .fieldLink RX1 33 "ArrowField$Flight" "h" "D", .fieldLink RX1 39 "ArrowField$Flight" "v" "D"] ++ wsX10)
def wsX2_init : List Cond := .code yX2_init cX2_init 1 none :: ([.methodLink RX2 3 objectInit, .instanceMethod objectInit, .code objectInit ⟨#[0xb1]⟩ 1 none])
def wsX2_beginSet : List Cond := .code yX2_beginSet cX2_beginSet 1 none :: ([.fieldLink RX2 42 "ArrowField$Match" "sumOfOne" "I", .fieldLink RX2 45 "ArrowField$Match" "sumOfOther" "I", .fieldLink RX2 48 "ArrowField$Match" "shotsOfSet" "I"] ++ wsX20)
def wsX2_begin : List Cond := .code yX2_begin cX2_begin 3 none :: ([.fieldLink RX2 9 "ArrowField$Match" "on" "Z", .fieldLink RX2 15 "ArrowField$Match" "one" "I", .fieldLink RX2 19 "ArrowField$Match" "other" "I", .fieldLink RX2 22 "ArrowField$Match" "pointsOfOne" "I", .fieldLink RX2 25 "ArrowField$Match" "pointsOfOther" "I", .fieldLink RX2 28 "ArrowField$Match" "byLastArrows" "Z", .methodLink RX2 31 yX2_beginSet, .instanceMethod yX2_beginSet, .selects RX2 yX2_beginSet yX2_beginSet, .initialized RX2, .code yX2_beginSet cX2_beginSet 1 none, .fieldLink RX2 42 "ArrowField$Match" "sumOfOne" "I", .fieldLink RX2 45 "ArrowField$Match" "sumOfOther" "I", .fieldLink RX2 48 "ArrowField$Match" "shotsOfSet" "I"] ++ wsX20)
def wsX2_isTurnOfOne : List Cond := .code yX2_isTurnOfOne cX2_isTurnOfOne 1 (some .boolean) :: ([.fieldLink RX2 48 "ArrowField$Match" "shotsOfSet" "I"] ++ wsX20)
def wsX2_turn : List Cond := .code yX2_turn cX2_turn 1 (some .int) :: ([.fieldLink RX2 15 "ArrowField$Match" "one" "I", .fieldLink RX2 19 "ArrowField$Match" "other" "I", .methodLink RX2 34 yX2_isTurnOfOne, .instanceMethod yX2_isTurnOfOne, .selects RX2 yX2_isTurnOfOne yX2_isTurnOfOne, .initialized RX2, .code yX2_isTurnOfOne cX2_isTurnOfOne 1 (some .boolean), .fieldLink RX2 48 "ArrowField$Match" "shotsOfSet" "I"] ++ wsX20)
def wsX2_countLastArrow : List Cond := .code yX2_countLastArrow cX2_countLastArrow 3 (some .int) :: ([.fieldLink RX2 59 "ArrowField$Match" "lastOfOne" "D", .fieldLink RX2 48 "ArrowField$Match" "shotsOfSet" "I", .fieldLink RX2 15 "ArrowField$Match" "one" "I", .fieldLink RX2 19 "ArrowField$Match" "other" "I", .methodLink RX2 34 yX2_isTurnOfOne, .instanceMethod yX2_isTurnOfOne, .selects RX2 yX2_isTurnOfOne yX2_isTurnOfOne, .initialized RX2, .code yX2_isTurnOfOne cX2_isTurnOfOne 1 (some .boolean)] ++ wsX20)
def wsX2_pointsFor : List Cond := .code yX2_pointsFor cX2_pointsFor 2 (some .int) :: ([])
def wsX2_endSet : List Cond := .code yX2_endSet cX2_endSet 3 (some .int) :: ([.fieldLink RX2 22 "ArrowField$Match" "pointsOfOne" "I", .fieldLink RX2 42 "ArrowField$Match" "sumOfOne" "I", .fieldLink RX2 45 "ArrowField$Match" "sumOfOther" "I", .fieldLink RX2 25 "ArrowField$Match" "pointsOfOther" "I", .fieldLink RX2 28 "ArrowField$Match" "byLastArrows" "Z", .fieldLink RX2 15 "ArrowField$Match" "one" "I", .fieldLink RX2 19 "ArrowField$Match" "other" "I", .methodLink RX2 55 yX2_pointsFor, .static yX2_pointsFor, .initialized RX2, .code yX2_pointsFor cX2_pointsFor 2 (some .int), .methodLink RX2 31 yX2_beginSet, .instanceMethod yX2_beginSet, .selects RX2 yX2_beginSet yX2_beginSet, .code yX2_beginSet cX2_beginSet 1 none, .fieldLink RX2 48 "ArrowField$Match" "shotsOfSet" "I"] ++ wsX20)
def wsX2_count_r1 : List Cond := [Cond.fieldLink RX2 28 "ArrowField$Match" "byLastArrows" "Z", Cond.fieldLink RX2 42 "ArrowField$Match" "sumOfOne" "I", Cond.fieldLink RX2 45 "ArrowField$Match" "sumOfOther" "I", Cond.fieldLink RX2 48 "ArrowField$Match" "shotsOfSet" "I", Cond.methodLink RX2 38 yX2_countLastArrow, Cond.instanceMethod yX2_countLastArrow, Cond.selects RX2 yX2_countLastArrow yX2_countLastArrow, Cond.initialized RX2, Cond.code yX2_countLastArrow cX2_countLastArrow 3 (some .int), Cond.fieldLink RX2 59 "ArrowField$Match" "lastOfOne" "D", Cond.fieldLink RX2 15 "ArrowField$Match" "one" "I", Cond.fieldLink RX2 19 "ArrowField$Match" "other" "I", Cond.methodLink RX2 34 yX2_isTurnOfOne, Cond.instanceMethod yX2_isTurnOfOne, Cond.selects RX2 yX2_isTurnOfOne yX2_isTurnOfOne, Cond.code yX2_isTurnOfOne cX2_isTurnOfOne 1 (some .boolean), Cond.methodLink RX2 51 yX2_endSet, Cond.instanceMethod yX2_endSet, Cond.selects RX2 yX2_endSet yX2_endSet, Cond.code yX2_endSet cX2_endSet 3 (some .int), Cond.fieldLink RX2 22 "ArrowField$Match" "pointsOfOne" "I", Cond.fieldLink RX2 25 "ArrowField$Match" "pointsOfOther" "I", Cond.methodLink RX2 55 yX2_pointsFor, Cond.static yX2_pointsFor]
def wsX2_count_r2 : List Cond := [Cond.code yX2_pointsFor cX2_pointsFor 2 (some .int), Cond.methodLink RX2 31 yX2_beginSet, Cond.instanceMethod yX2_beginSet, Cond.selects RX2 yX2_beginSet yX2_beginSet, Cond.code yX2_beginSet cX2_beginSet 1 none]
def wsX2_count : List Cond := .code yX2_count cX2_count 4 (some .int) :: ((wsX2_count_r1 ++ wsX2_count_r2) ++ wsX20)
def wsX3_init : List Cond := .code yX3_init cX3_init 1 none :: ([.methodLink RX3 3 objectInit, .instanceMethod objectInit, .code objectInit ⟨#[0xb1]⟩ 1 none, .arrayClass .int, .fieldLink RX3 9 "ArrowField$Quiver" "states" "[I", .arrayClass .double, .fieldLink RX3 15 "ArrowField$Quiver" "h" "[D", .fieldLink RX3 19 "ArrowField$Quiver" "v" "[D"] ++ wsX30)
def wsX3_setOf : List Cond := .code yX3_setOf cX3_setOf 4 (some .int) :: ([.fieldLink RX3 9 "ArrowField$Quiver" "states" "[I"] ++ wsX30)
def wsX3_bringBack : List Cond := .code yX3_bringBack cX3_bringBack 4 (some .int) :: ([.fieldLink RX3 9 "ArrowField$Quiver" "states" "[I"] ++ wsX30)
def wsX4_size : List Cond := .code yX4_size cX4_size 2 (some .double) :: ([])
def wsX3_firstHitBy : List Cond := .code yX3_firstHitBy cX3_firstHitBy 3 (some .int) :: ([.fieldLink RX3 9 "ArrowField$Quiver" "states" "[I", .fieldLink RX3 22 "ArrowField$Flight" "h" "D", .fieldLink RX3 15 "ArrowField$Quiver" "h" "[D", .constantDouble RX3 31 (4580160821035794432), .fieldLink RX3 33 "ArrowField$Flight" "v" "D", .fieldLink RX3 19 "ArrowField$Quiver" "v" "[D", .static yX4_size, .initialized RX4, .code yX4_size cX4_size 2 (some .double)] ++ wsX30 ++ wsX10)
def wsX3_land : List Cond := .code yX3_land cX3_land 4 none :: ([.fieldLink RX3 15 "ArrowField$Quiver" "h" "[D", .fieldLink RX3 22 "ArrowField$Flight" "h" "D", .fieldLink RX3 19 "ArrowField$Quiver" "v" "[D", .fieldLink RX3 33 "ArrowField$Flight" "v" "D", .fieldLink RX3 9 "ArrowField$Quiver" "states" "[I"] ++ wsX30 ++ wsX10)
def wsX4_init_r1 : List Cond := [Cond.methodLink RX4 1 objectInit, Cond.instanceMethod objectInit, Cond.code objectInit ⟨#[0xb1]⟩ 1 none, Cond.classLink RX4 9 RX0, Cond.fieldLink RX4 11 "ArrowField" "archers" "[LArrowField$Archer;", Cond.classLink RX4 15 RX3, Cond.fieldLink RX4 17 "ArrowField" "quivers" "[LArrowField$Quiver;", Cond.fieldLink RX4 21 "ArrowField" "distanceNow" "I", Cond.fieldLink RX4 25 "ArrowField" "faceNow" "I", Cond.classLink RX4 28 RX2, Cond.instantiable RX2 10, Cond.initialized RX2, Cond.fieldLink RX4 31 "ArrowField" "current" "LArrowField$Match;", Cond.fieldLink RX4 35 "ArrowField" "latestWinner" "I", Cond.classLink RX4 38 RX1, Cond.instantiable RX1 2, Cond.initialized RX1, Cond.fieldLink RX4 41 "ArrowField" "flight" "LArrowField$Flight;", Cond.instantiable RX0 12, Cond.initialized RX0, Cond.instantiable RX3 5, Cond.initialized RX3, Cond.instanceMethod yX2_init, Cond.code yX2_init cX2_init 1 none]
def wsX4_init_r2 : List Cond := [Cond.methodLink RX2 3 objectInit, Cond.instanceMethod yX1_init, Cond.code yX1_init cX1_init 1 none, Cond.methodLink RX1 3 objectInit, Cond.instanceMethod yX0_init, Cond.code yX0_init cX0_init 1 none, Cond.methodLink RX0 3 objectInit, Cond.fieldLink RX0 9 "ArrowField$Archer" "quiver" "I", Cond.instanceMethod yX3_init, Cond.code yX3_init cX3_init 1 none, Cond.methodLink RX3 3 objectInit, Cond.arrayClass .int, Cond.fieldLink RX3 9 "ArrowField$Quiver" "states" "[I", Cond.arrayClass .double, Cond.fieldLink RX3 15 "ArrowField$Quiver" "h" "[D", Cond.fieldLink RX3 19 "ArrowField$Quiver" "v" "[D"]
def wsX4_init : List Cond := .code yX4_init cX4_init 2 none :: ((wsX4_init_r1 ++ wsX4_init_r2) ++ wsX40 ++ wsX20 ++ wsX10 ++ wsX00 ++ wsX30)
def wsX4_needBetween : List Cond := .code yX4_needBetween cX4_needBetween 3 none :: ([.classLink RX4 176 "java/lang/IllegalArgumentException", .initialized "java/lang/IllegalArgumentException"] ++ (vx_atS RX4 180 "java/lang/IllegalArgumentException" ["java/lang/RuntimeException", "java/lang/Exception"]).filter goodWord)
def wsX4_archer : List Cond := .code yX4_archer cX4_archer 3 (some .int) :: ([.classLink RX4 54 "java/lang/IllegalStateException", .initialized "java/lang/IllegalStateException", .fieldLink RX4 51 "ArrowField" "archerCount" "I", .fieldLink RX4 11 "ArrowField" "archers" "[LArrowField$Archer;", .fieldLink RX4 61 "ArrowField$Archer" "draw" "I", .fieldLink RX4 64 "ArrowField$Archer" "steady" "I", .methodLink RX4 47 yX4_needBetween, .static yX4_needBetween, .initialized RX4, .code yX4_needBetween cX4_needBetween 3 none, .classLink RX4 176 "java/lang/IllegalArgumentException", .initialized "java/lang/IllegalArgumentException"] ++ wsX40 ++ wsX00 ++ (vx_atS RX4 58 "java/lang/IllegalStateException" ["java/lang/RuntimeException", "java/lang/Exception"]).filter goodWord ++ (vx_atS RX4 180 "java/lang/IllegalArgumentException" ["java/lang/RuntimeException", "java/lang/Exception"]).filter goodWord)
def wsX4_quiver : List Cond := .code yX4_quiver cX4_quiver 3 (some .int) :: ([.classLink RX4 54 "java/lang/IllegalStateException", .initialized "java/lang/IllegalStateException", .fieldLink RX4 67 "ArrowField" "quiverCount" "I", .fieldLink RX4 17 "ArrowField" "quivers" "[LArrowField$Quiver;", .fieldLink RX4 72 "ArrowField$Quiver" "mass" "I", .fieldLink RX4 75 "ArrowField$Quiver" "spine" "I", .methodLink RX4 47 yX4_needBetween, .static yX4_needBetween, .initialized RX4, .code yX4_needBetween cX4_needBetween 3 none, .classLink RX4 176 "java/lang/IllegalArgumentException", .initialized "java/lang/IllegalArgumentException"] ++ wsX40 ++ wsX30 ++ (vx_atS RX4 58 "java/lang/IllegalStateException" ["java/lang/RuntimeException", "java/lang/Exception"]).filter goodWord ++ (vx_atS RX4 180 "java/lang/IllegalArgumentException" ["java/lang/RuntimeException", "java/lang/Exception"]).filter goodWord)
def wsX4_archerNumbered : List Cond := .code yX4_archerNumbered cX4_archerNumbered 2 (some (.object "ArrowField$Archer")) :: ([.classLink RX4 304 "java/lang/IndexOutOfBoundsException", .initialized "java/lang/IndexOutOfBoundsException", .fieldLink RX4 51 "ArrowField" "archerCount" "I", .fieldLink RX4 11 "ArrowField" "archers" "[LArrowField$Archer;"] ++ wsX40 ++ (vx_atS RX4 308 "java/lang/IndexOutOfBoundsException" ["java/lang/RuntimeException", "java/lang/Exception"]).filter goodWord)
def wsX4_needQuiver : List Cond := .code yX4_needQuiver cX4_needQuiver 2 none :: ([.classLink RX4 304 "java/lang/IndexOutOfBoundsException", .initialized "java/lang/IndexOutOfBoundsException", .fieldLink RX4 67 "ArrowField" "quiverCount" "I"] ++ wsX40 ++ (vx_atS RX4 308 "java/lang/IndexOutOfBoundsException" ["java/lang/RuntimeException", "java/lang/Exception"]).filter goodWord)
def wsX4_holderOf : List Cond := .code yX4_holderOf cX4_holderOf 3 (some .int) :: ([.fieldLink RX4 51 "ArrowField" "archerCount" "I", .fieldLink RX4 11 "ArrowField" "archers" "[LArrowField$Archer;", .fieldLink RX4 96 "ArrowField$Archer" "quiver" "I"] ++ wsX40 ++ wsX00)
def wsX4_give : List Cond := .code yX4_give cX4_give 5 (some .int) :: ([.classLink RX4 54 "java/lang/IllegalStateException", .initialized "java/lang/IllegalStateException", .fieldLink RX4 31 "ArrowField" "current" "LArrowField$Match;", .fieldLink RX4 86 "ArrowField$Match" "on" "Z", .fieldLink RX4 11 "ArrowField" "archers" "[LArrowField$Archer;", .fieldLink RX4 96 "ArrowField$Archer" "quiver" "I", .methodLink RX4 78 yX4_archerNumbered, .instanceMethod yX4_archerNumbered, .selects RX4 yX4_archerNumbered yX4_archerNumbered, .initialized RX4, .code yX4_archerNumbered cX4_archerNumbered 2 (some (.object "ArrowField$Archer")), .classLink RX4 304 "java/lang/IndexOutOfBoundsException", .initialized "java/lang/IndexOutOfBoundsException", .fieldLink RX4 51 "ArrowField" "archerCount" "I", .methodLink RX4 82 yX4_needQuiver, .instanceMethod yX4_needQuiver, .selects RX4 yX4_needQuiver yX4_needQuiver, .code yX4_needQuiver cX4_needQuiver 2 none, .fieldLink RX4 67 "ArrowField" "quiverCount" "I", .methodLink RX4 92 yX4_holderOf, .instanceMethod yX4_holderOf, .selects RX4 yX4_holderOf yX4_holderOf, .code yX4_holderOf cX4_holderOf 3 (some .int)] ++ wsX40 ++ wsX20 ++ wsX00 ++ (vx_atS RX4 58 "java/lang/IllegalStateException" ["java/lang/RuntimeException", "java/lang/Exception"]).filter goodWord ++ (vx_atS RX4 308 "java/lang/IndexOutOfBoundsException" ["java/lang/RuntimeException", "java/lang/Exception"]).filter goodWord)
def wsX4_tune : List Cond := .code yX4_tune cX4_tune 6 (some .int) :: ([.fieldLink RX4 99 "ArrowField$Archer" "sight" "I", .fieldLink RX4 102 "ArrowField$Archer" "nock" "I", .methodLink RX4 78 yX4_archerNumbered, .instanceMethod yX4_archerNumbered, .selects RX4 yX4_archerNumbered yX4_archerNumbered, .initialized RX4, .code yX4_archerNumbered cX4_archerNumbered 2 (some (.object "ArrowField$Archer")), .classLink RX4 304 "java/lang/IndexOutOfBoundsException", .initialized "java/lang/IndexOutOfBoundsException", .fieldLink RX4 51 "ArrowField" "archerCount" "I", .fieldLink RX4 11 "ArrowField" "archers" "[LArrowField$Archer;", .methodLink RX4 47 yX4_needBetween, .static yX4_needBetween, .code yX4_needBetween cX4_needBetween 3 none, .classLink RX4 176 "java/lang/IllegalArgumentException", .initialized "java/lang/IllegalArgumentException"] ++ wsX00 ++ wsX40 ++ (vx_atS RX4 308 "java/lang/IndexOutOfBoundsException" ["java/lang/RuntimeException", "java/lang/Exception"]).filter goodWord ++ (vx_atS RX4 180 "java/lang/IllegalArgumentException" ["java/lang/RuntimeException", "java/lang/Exception"]).filter goodWord)
def wsX4_string : List Cond := .code yX4_string cX4_string 5 (some .double) :: ([.fieldLink RX4 105 "ArrowField$Archer" "creep" "F", .methodLink RX4 78 yX4_archerNumbered, .instanceMethod yX4_archerNumbered, .selects RX4 yX4_archerNumbered yX4_archerNumbered, .initialized RX4, .code yX4_archerNumbered cX4_archerNumbered 2 (some (.object "ArrowField$Archer")), .classLink RX4 304 "java/lang/IndexOutOfBoundsException", .initialized "java/lang/IndexOutOfBoundsException", .fieldLink RX4 51 "ArrowField" "archerCount" "I", .fieldLink RX4 11 "ArrowField" "archers" "[LArrowField$Archer;"] ++ wsX00 ++ wsX40 ++ (vx_atS RX4 308 "java/lang/IndexOutOfBoundsException" ["java/lang/RuntimeException", "java/lang/Exception"]).filter goodWord)
def wsJ6_bitCount_0f7a4 : List Cond := .code yJ6_bitCount_0f7a4 cJ6_bitCount_0f7a4 1 (some .int) :: ([.constant RJ6 265 (1431655765), .constant RJ6 266 (858993459), .constant RJ6 267 (252645135)])
def wsX4_stuckArrows : List Cond := .code yX4_stuckArrows cX4_stuckArrows 3 (some .int) :: ([.fieldLink RX4 67 "ArrowField" "quiverCount" "I", .fieldLink RX4 17 "ArrowField" "quivers" "[LArrowField$Quiver;", .methodLink RX4 223 yX3_setOf, .instanceMethod yX3_setOf, .selects RX3 yX3_setOf yX3_setOf, .initialized RX3, .code yX3_setOf cX3_setOf 4 (some .int), .fieldLink RX3 9 "ArrowField$Quiver" "states" "[I", .methodLink RX4 315 yJ6_bitCount_0f7a4, .static yJ6_bitCount_0f7a4, .initialized RJ6, .code yJ6_bitCount_0f7a4 cJ6_bitCount_0f7a4 1 (some .int), .constant RJ6 265 (1431655765), .constant RJ6 266 (858993459), .constant RJ6 267 (252645135)] ++ wsX40 ++ wsX30)
def wsX4_field_r1 : List Cond := [Cond.classLink RX4 54 "java/lang/IllegalStateException", Cond.initialized "java/lang/IllegalStateException", Cond.fieldLink RX4 21 "ArrowField" "distanceNow" "I", Cond.fieldLink RX4 115 "ArrowField" "windNow" "I", Cond.fieldLink RX4 25 "ArrowField" "faceNow" "I", Cond.methodLink RX4 47 yX4_needBetween, Cond.static yX4_needBetween, Cond.initialized RX4, Cond.code yX4_needBetween cX4_needBetween 3 none, Cond.classLink RX4 176 "java/lang/IllegalArgumentException", Cond.initialized "java/lang/IllegalArgumentException", Cond.methodLink RX4 109 yX4_stuckArrows, Cond.instanceMethod yX4_stuckArrows, Cond.selects RX4 yX4_stuckArrows yX4_stuckArrows, Cond.code yX4_stuckArrows cX4_stuckArrows 3 (some .int), Cond.fieldLink RX4 67 "ArrowField" "quiverCount" "I", Cond.fieldLink RX4 17 "ArrowField" "quivers" "[LArrowField$Quiver;", Cond.methodLink RX4 223 yX3_setOf, Cond.instanceMethod yX3_setOf, Cond.selects RX3 yX3_setOf yX3_setOf, Cond.initialized RX3, Cond.code yX3_setOf cX3_setOf 4 (some .int), Cond.fieldLink RX3 9 "ArrowField$Quiver" "states" "[I", Cond.methodLink RX4 315 yJ6_bitCount_0f7a4]
def wsX4_field_r2 : List Cond := [Cond.static yJ6_bitCount_0f7a4, Cond.initialized RJ6, Cond.code yJ6_bitCount_0f7a4 cJ6_bitCount_0f7a4 1 (some .int), Cond.constant RJ6 265 (1431655765), Cond.constant RJ6 266 (858993459), Cond.constant RJ6 267 (252645135)]
def wsX4_field : List Cond := .code yX4_field cX4_field 5 (some .int) :: ((wsX4_field_r1 ++ wsX4_field_r2) ++ wsX40 ++ wsX30 ++ (vx_atS RX4 58 "java/lang/IllegalStateException" ["java/lang/RuntimeException", "java/lang/Exception"]).filter goodWord ++ (vx_atS RX4 180 "java/lang/IllegalArgumentException" ["java/lang/RuntimeException", "java/lang/Exception"]).filter goodWord)
def wsX4_wind : List Cond := .code yX4_wind cX4_wind 3 (some .int) :: ([.fieldLink RX4 115 "ArrowField" "windNow" "I", .methodLink RX4 47 yX4_needBetween, .static yX4_needBetween, .initialized RX4, .code yX4_needBetween cX4_needBetween 3 none, .classLink RX4 176 "java/lang/IllegalArgumentException", .initialized "java/lang/IllegalArgumentException"] ++ wsX40 ++ (vx_atS RX4 180 "java/lang/IllegalArgumentException" ["java/lang/RuntimeException", "java/lang/Exception"]).filter goodWord)
def wsX4_needArrow : List Cond := .code yX4_needArrow cX4_needArrow 1 none :: ([.classLink RX4 304 "java/lang/IndexOutOfBoundsException", .initialized "java/lang/IndexOutOfBoundsException"] ++ (vx_atS RX4 308 "java/lang/IndexOutOfBoundsException" ["java/lang/RuntimeException", "java/lang/Exception"]).filter goodWord)
def wsX4_quiverOf : List Cond := .code yX4_quiverOf cX4_quiverOf 2 (some (.object "ArrowField$Quiver")) :: ([.classLink RX4 54 "java/lang/IllegalStateException", .initialized "java/lang/IllegalStateException", .fieldLink RX4 96 "ArrowField$Archer" "quiver" "I", .fieldLink RX4 17 "ArrowField" "quivers" "[LArrowField$Quiver;"] ++ wsX00 ++ wsX40 ++ (vx_atS RX4 58 "java/lang/IllegalStateException" ["java/lang/RuntimeException", "java/lang/Exception"]).filter goodWord)
def wsX4_splitWhatIsHit : List Cond := .code yX4_splitWhatIsHit cX4_splitWhatIsHit 3 none :: ([.fieldLink RX4 67 "ArrowField" "quiverCount" "I", .fieldLink RX4 17 "ArrowField" "quivers" "[LArrowField$Quiver;", .fieldLink RX4 41 "ArrowField" "flight" "LArrowField$Flight;", .fieldLink RX4 130 "ArrowField$Quiver" "states" "[I", .fieldLink RX4 233 "ArrowField" "splits" "I", .methodLink RX4 320 yX3_firstHitBy, .instanceMethod yX3_firstHitBy, .selects RX3 yX3_firstHitBy yX3_firstHitBy, .initialized RX3, .code yX3_firstHitBy cX3_firstHitBy 3 (some .int), .fieldLink RX3 9 "ArrowField$Quiver" "states" "[I", .fieldLink RX3 22 "ArrowField$Flight" "h" "D", .fieldLink RX3 15 "ArrowField$Quiver" "h" "[D", .constantDouble RX3 31 (4580160821035794432), .fieldLink RX3 33 "ArrowField$Flight" "v" "D", .fieldLink RX3 19 "ArrowField$Quiver" "v" "[D", .static yX4_size, .initialized RX4, .code yX4_size cX4_size 2 (some .double)] ++ wsX40 ++ wsX30 ++ wsX10)
def wsX4_countForMatch_r1 : List Cond := [Cond.fieldLink RX4 31 "ArrowField" "current" "LArrowField$Match;", Cond.fieldLink RX4 41 "ArrowField" "flight" "LArrowField$Flight;", Cond.fieldLink RX4 86 "ArrowField$Match" "on" "Z", Cond.fieldLink RX4 35 "ArrowField" "latestWinner" "I", Cond.fieldLink RX4 11 "ArrowField" "archers" "[LArrowField$Archer;", Cond.fieldLink RX4 207 "ArrowField$Archer" "matchesWon" "I", Cond.methodLink RX4 324 yX1_farness, Cond.instanceMethod yX1_farness, Cond.selects RX1 yX1_farness yX1_farness, Cond.initialized RX1, Cond.code yX1_farness cX1_farness 1 (some .double), Cond.fieldLink RX1 33 "ArrowField$Flight" "h" "D", Cond.fieldLink RX1 39 "ArrowField$Flight" "v" "D", Cond.methodLink RX4 328 yX2_count, Cond.instanceMethod yX2_count, Cond.selects RX2 yX2_count yX2_count, Cond.initialized RX2, Cond.code yX2_count cX2_count 4 (some .int), Cond.fieldLink RX2 28 "ArrowField$Match" "byLastArrows" "Z", Cond.fieldLink RX2 42 "ArrowField$Match" "sumOfOne" "I", Cond.fieldLink RX2 45 "ArrowField$Match" "sumOfOther" "I", Cond.fieldLink RX2 48 "ArrowField$Match" "shotsOfSet" "I", Cond.methodLink RX2 38 yX2_countLastArrow, Cond.instanceMethod yX2_countLastArrow]
def wsX4_countForMatch_r2 : List Cond := [Cond.selects RX2 yX2_countLastArrow yX2_countLastArrow, Cond.code yX2_countLastArrow cX2_countLastArrow 3 (some .int), Cond.fieldLink RX2 59 "ArrowField$Match" "lastOfOne" "D", Cond.fieldLink RX2 15 "ArrowField$Match" "one" "I", Cond.fieldLink RX2 19 "ArrowField$Match" "other" "I", Cond.methodLink RX2 34 yX2_isTurnOfOne, Cond.instanceMethod yX2_isTurnOfOne, Cond.selects RX2 yX2_isTurnOfOne yX2_isTurnOfOne, Cond.code yX2_isTurnOfOne cX2_isTurnOfOne 1 (some .boolean), Cond.methodLink RX2 51 yX2_endSet, Cond.instanceMethod yX2_endSet, Cond.selects RX2 yX2_endSet yX2_endSet, Cond.code yX2_endSet cX2_endSet 3 (some .int), Cond.fieldLink RX2 22 "ArrowField$Match" "pointsOfOne" "I", Cond.fieldLink RX2 25 "ArrowField$Match" "pointsOfOther" "I", Cond.methodLink RX2 55 yX2_pointsFor, Cond.static yX2_pointsFor, Cond.code yX2_pointsFor cX2_pointsFor 2 (some .int), Cond.methodLink RX2 31 yX2_beginSet, Cond.instanceMethod yX2_beginSet, Cond.selects RX2 yX2_beginSet yX2_beginSet, Cond.code yX2_beginSet cX2_beginSet 1 none]
def wsX4_countForMatch : List Cond := .code yX4_countForMatch cX4_countForMatch 3 none :: ((wsX4_countForMatch_r1 ++ wsX4_countForMatch_r2) ++ wsX40 ++ wsX20 ++ wsX00 ++ wsX10)
def wsX4_shoot_r1 : List Cond := [Cond.classLink RX4 54 "java/lang/IllegalStateException", Cond.initialized "java/lang/IllegalStateException", Cond.fieldLink RX4 121 "ArrowField" "closed" "Z", Cond.fieldLink RX4 130 "ArrowField$Quiver" "states" "[I", Cond.fieldLink RX4 31 "ArrowField" "current" "LArrowField$Match;", Cond.fieldLink RX4 86 "ArrowField$Match" "on" "Z", Cond.fieldLink RX4 41 "ArrowField" "flight" "LArrowField$Flight;", Cond.fieldLink RX4 99 "ArrowField$Archer" "sight" "I", Cond.fieldLink RX4 21 "ArrowField" "distanceNow" "I", Cond.fieldLink RX4 115 "ArrowField" "windNow" "I", Cond.fieldLink RX4 145 "ArrowField" "drawn" "I", Cond.fieldLink RX4 64 "ArrowField$Archer" "steady" "I", Cond.fieldLink RX4 25 "ArrowField" "faceNow" "I", Cond.fieldLink RX4 164 "ArrowField" "shots" "I", Cond.methodLink RX4 78 yX4_archerNumbered, Cond.instanceMethod yX4_archerNumbered, Cond.selects RX4 yX4_archerNumbered yX4_archerNumbered, Cond.initialized RX4, Cond.code yX4_archerNumbered cX4_archerNumbered 2 (some (.object "ArrowField$Archer")), Cond.classLink RX4 304 "java/lang/IndexOutOfBoundsException", Cond.initialized "java/lang/IndexOutOfBoundsException", Cond.fieldLink RX4 51 "ArrowField" "archerCount" "I", Cond.fieldLink RX4 11 "ArrowField" "archers" "[LArrowField$Archer;", Cond.methodLink RX4 118 yX4_needArrow]
def wsX4_shoot_r2 : List Cond := [Cond.static yX4_needArrow, Cond.code yX4_needArrow cX4_needArrow 1 none, Cond.methodLink RX4 126 yX4_quiverOf, Cond.instanceMethod yX4_quiverOf, Cond.selects RX4 yX4_quiverOf yX4_quiverOf, Cond.code yX4_quiverOf cX4_quiverOf 2 (some (.object "ArrowField$Quiver")), Cond.fieldLink RX4 96 "ArrowField$Archer" "quiver" "I", Cond.fieldLink RX4 17 "ArrowField" "quivers" "[LArrowField$Quiver;", Cond.methodLink RX4 136 yX2_turn, Cond.instanceMethod yX2_turn, Cond.selects RX2 yX2_turn yX2_turn, Cond.initialized RX2, Cond.code yX2_turn cX2_turn 1 (some .int), Cond.fieldLink RX2 15 "ArrowField$Match" "one" "I", Cond.fieldLink RX2 19 "ArrowField$Match" "other" "I", Cond.methodLink RX2 34 yX2_isTurnOfOne, Cond.instanceMethod yX2_isTurnOfOne, Cond.selects RX2 yX2_isTurnOfOne yX2_isTurnOfOne, Cond.code yX2_isTurnOfOne cX2_isTurnOfOne 1 (some .boolean), Cond.fieldLink RX2 48 "ArrowField$Match" "shotsOfSet" "I", Cond.methodLink RX4 141 yX1_fly, Cond.instanceMethod yX1_fly, Cond.selects RX1 yX1_fly yX1_fly, Cond.initialized RX1]
def wsX4_shoot_r3 : List Cond := [Cond.code yX1_fly cX1_fly 15 none, Cond.constantDouble RX1 15 (4647714815446351872), Cond.fieldLink RX1 17 "ArrowField$Archer" "nock" "I", Cond.constantDouble RX1 21 (4620693217682128896), Cond.fieldLink RX1 23 "ArrowField$Quiver" "spine" "I", Cond.fieldLink RX1 28 "ArrowField$Archer" "draw" "I", Cond.constantDouble RX1 31 (4643211215818981376), Cond.fieldLink RX1 33 "ArrowField$Flight" "h" "D", Cond.fieldLink RX1 39 "ArrowField$Flight" "v" "D", Cond.constantDouble RX1 42 (4625196817309499392), Cond.constantDouble RX1 44 (4603804719079489536), Cond.constantDouble RX1 46 (4634204016564240384), Cond.methodLink RX1 9 yX0_speedWith, Cond.instanceMethod yX0_speedWith, Cond.selects RX0 yX0_speedWith yX0_speedWith, Cond.initialized RX0, Cond.code yX0_speedWith cX0_speedWith 2 (some .double), Cond.fieldLink RX0 15 "ArrowField$Archer" "draw" "I", Cond.constantDouble RX0 18 (4648488871632306176), Cond.fieldLink RX0 20 "ArrowField$Quiver" "mass" "I", Cond.constantDouble RX0 25 (4641240890982006784), Cond.fieldLink RX0 27 "ArrowField$Archer" "creep" "F", Cond.methodLink RX4 148 yX1_shake, Cond.instanceMethod yX1_shake]
def wsX4_shoot_r4 : List Cond := [Cond.selects RX1 yX1_shake yX1_shake, Cond.code yX1_shake cX1_shake 4 none, Cond.constantDouble RX1 48 (4615063718147915776), Cond.constantDouble RX1 50 (4661225614328463360), Cond.methodLink RX4 151 yX4_splitWhatIsHit, Cond.instanceMethod yX4_splitWhatIsHit, Cond.selects RX4 yX4_splitWhatIsHit yX4_splitWhatIsHit, Cond.code yX4_splitWhatIsHit cX4_splitWhatIsHit 3 none, Cond.fieldLink RX4 67 "ArrowField" "quiverCount" "I", Cond.fieldLink RX4 233 "ArrowField" "splits" "I", Cond.methodLink RX4 320 yX3_firstHitBy, Cond.instanceMethod yX3_firstHitBy, Cond.selects RX3 yX3_firstHitBy yX3_firstHitBy, Cond.initialized RX3, Cond.code yX3_firstHitBy cX3_firstHitBy 3 (some .int), Cond.fieldLink RX3 9 "ArrowField$Quiver" "states" "[I", Cond.fieldLink RX3 22 "ArrowField$Flight" "h" "D", Cond.fieldLink RX3 15 "ArrowField$Quiver" "h" "[D", Cond.constantDouble RX3 31 (4580160821035794432), Cond.fieldLink RX3 33 "ArrowField$Flight" "v" "D", Cond.fieldLink RX3 19 "ArrowField$Quiver" "v" "[D", Cond.static yX4_size, Cond.code yX4_size cX4_size 2 (some .double), Cond.methodLink RX4 154 yX1_worth]
def wsX4_shoot_r5 : List Cond := [Cond.instanceMethod yX1_worth, Cond.selects RX1 yX1_worth yX1_worth, Cond.code yX1_worth cX1_worth 7 (some .int), Cond.constantDouble RX1 56 (4575657221408423936), Cond.methodLink RX1 52 yX1_farness, Cond.instanceMethod yX1_farness, Cond.selects RX1 yX1_farness yX1_farness, Cond.code yX1_farness cX1_farness 1 (some .double), Cond.methodLink RX4 157 yX3_land, Cond.instanceMethod yX3_land, Cond.selects RX3 yX3_land yX3_land, Cond.code yX3_land cX3_land 4 none, Cond.methodLink RX4 161 yX0_count, Cond.instanceMethod yX0_count, Cond.selects RX0 yX0_count yX0_count, Cond.code yX0_count cX0_count 3 none, Cond.fieldLink RX0 31 "ArrowField$Archer" "shotsEver" "I", Cond.fieldLink RX0 34 "ArrowField$Archer" "scoresEver" "I", Cond.fieldLink RX0 37 "ArrowField$Archer" "endShots" "I", Cond.fieldLink RX0 40 "ArrowField$Archer" "endSum" "I", Cond.fieldLink RX0 43 "ArrowField$Archer" "endTens" "I", Cond.constantFloat RX0 46 (998244352), Cond.constantFloat RX0 47 (1040187392), Cond.methodLink RX4 167 yX4_countForMatch]
def wsX4_shoot_r6 : List Cond := [Cond.instanceMethod yX4_countForMatch, Cond.selects RX4 yX4_countForMatch yX4_countForMatch, Cond.code yX4_countForMatch cX4_countForMatch 3 none, Cond.fieldLink RX4 35 "ArrowField" "latestWinner" "I", Cond.fieldLink RX4 207 "ArrowField$Archer" "matchesWon" "I", Cond.methodLink RX4 324 yX1_farness, Cond.methodLink RX4 328 yX2_count, Cond.instanceMethod yX2_count, Cond.selects RX2 yX2_count yX2_count, Cond.code yX2_count cX2_count 4 (some .int), Cond.fieldLink RX2 28 "ArrowField$Match" "byLastArrows" "Z", Cond.fieldLink RX2 42 "ArrowField$Match" "sumOfOne" "I", Cond.fieldLink RX2 45 "ArrowField$Match" "sumOfOther" "I", Cond.methodLink RX2 38 yX2_countLastArrow, Cond.instanceMethod yX2_countLastArrow, Cond.selects RX2 yX2_countLastArrow yX2_countLastArrow, Cond.code yX2_countLastArrow cX2_countLastArrow 3 (some .int), Cond.fieldLink RX2 59 "ArrowField$Match" "lastOfOne" "D", Cond.methodLink RX2 51 yX2_endSet, Cond.instanceMethod yX2_endSet, Cond.selects RX2 yX2_endSet yX2_endSet, Cond.code yX2_endSet cX2_endSet 3 (some .int), Cond.fieldLink RX2 22 "ArrowField$Match" "pointsOfOne" "I", Cond.fieldLink RX2 25 "ArrowField$Match" "pointsOfOther" "I"]
def wsX4_shoot_r7 : List Cond := [Cond.methodLink RX2 55 yX2_pointsFor, Cond.static yX2_pointsFor, Cond.code yX2_pointsFor cX2_pointsFor 2 (some .int), Cond.methodLink RX2 31 yX2_beginSet, Cond.instanceMethod yX2_beginSet, Cond.selects RX2 yX2_beginSet yX2_beginSet, Cond.code yX2_beginSet cX2_beginSet 1 none]
def wsX4_shoot : List Cond := .code yX4_shoot cX4_shoot 6 (some .int) :: ((wsX4_shoot_r1 ++ (wsX4_shoot_r2 ++ (wsX4_shoot_r3 ++ (wsX4_shoot_r4 ++ (wsX4_shoot_r5 ++ (wsX4_shoot_r6 ++ wsX4_shoot_r7)))))) ++ wsX40 ++ wsX30 ++ wsX20 ++ wsX00 ++ wsX10 ++ (vx_atS RX4 58 "java/lang/IllegalStateException" ["java/lang/RuntimeException", "java/lang/Exception"]).filter goodWord ++ (vx_atS RX4 308 "java/lang/IndexOutOfBoundsException" ["java/lang/RuntimeException", "java/lang/Exception"]).filter goodWord)
def wsX4_pull_r1 : List Cond := [Cond.fieldLink RX4 67 "ArrowField" "quiverCount" "I", Cond.fieldLink RX4 17 "ArrowField" "quivers" "[LArrowField$Quiver;", Cond.fieldLink RX4 51 "ArrowField" "archerCount" "I", Cond.fieldLink RX4 11 "ArrowField" "archers" "[LArrowField$Archer;", Cond.methodLink RX4 109 yX4_stuckArrows, Cond.instanceMethod yX4_stuckArrows, Cond.selects RX4 yX4_stuckArrows yX4_stuckArrows, Cond.initialized RX4, Cond.code yX4_stuckArrows cX4_stuckArrows 3 (some .int), Cond.methodLink RX4 223 yX3_setOf, Cond.instanceMethod yX3_setOf, Cond.selects RX3 yX3_setOf yX3_setOf, Cond.initialized RX3, Cond.code yX3_setOf cX3_setOf 4 (some .int), Cond.fieldLink RX3 9 "ArrowField$Quiver" "states" "[I", Cond.methodLink RX4 315 yJ6_bitCount_0f7a4, Cond.static yJ6_bitCount_0f7a4, Cond.initialized RJ6, Cond.code yJ6_bitCount_0f7a4 cJ6_bitCount_0f7a4 1 (some .int), Cond.constant RJ6 265 (1431655765), Cond.constant RJ6 266 (858993459), Cond.constant RJ6 267 (252645135), Cond.methodLink RX4 170 yX3_bringBack, Cond.instanceMethod yX3_bringBack]
def wsX4_pull_r2 : List Cond := [Cond.selects RX3 yX3_bringBack yX3_bringBack, Cond.code yX3_bringBack cX3_bringBack 4 (some .int), Cond.methodLink RX4 173 yX0_forgetEnd, Cond.instanceMethod yX0_forgetEnd, Cond.selects RX0 yX0_forgetEnd yX0_forgetEnd, Cond.initialized RX0, Cond.code yX0_forgetEnd cX0_forgetEnd 1 none, Cond.fieldLink RX0 40 "ArrowField$Archer" "endSum" "I", Cond.fieldLink RX0 37 "ArrowField$Archer" "endShots" "I", Cond.fieldLink RX0 43 "ArrowField$Archer" "endTens" "I"]
def wsX4_pull : List Cond := .code yX4_pull cX4_pull 3 (some .int) :: ((wsX4_pull_r1 ++ wsX4_pull_r2) ++ wsX40 ++ wsX30 ++ wsX00)
def wsX4_mend : List Cond := .code yX4_mend cX4_mend 2 (some .int) :: ([.fieldLink RX4 17 "ArrowField" "quivers" "[LArrowField$Quiver;", .methodLink RX4 82 yX4_needQuiver, .instanceMethod yX4_needQuiver, .selects RX4 yX4_needQuiver yX4_needQuiver, .initialized RX4, .code yX4_needQuiver cX4_needQuiver 2 none, .classLink RX4 304 "java/lang/IndexOutOfBoundsException", .initialized "java/lang/IndexOutOfBoundsException", .fieldLink RX4 67 "ArrowField" "quiverCount" "I", .methodLink RX4 170 yX3_bringBack, .instanceMethod yX3_bringBack, .selects RX3 yX3_bringBack yX3_bringBack, .initialized RX3, .code yX3_bringBack cX3_bringBack 4 (some .int), .fieldLink RX3 9 "ArrowField$Quiver" "states" "[I"] ++ wsX40 ++ wsX30 ++ (vx_atS RX4 308 "java/lang/IndexOutOfBoundsException" ["java/lang/RuntimeException", "java/lang/Exception"]).filter goodWord)
def wsX4_match_r1 : List Cond := [Cond.classLink RX4 176 "java/lang/IllegalArgumentException", Cond.initialized "java/lang/IllegalArgumentException", Cond.classLink RX4 54 "java/lang/IllegalStateException", Cond.initialized "java/lang/IllegalStateException", Cond.fieldLink RX4 31 "ArrowField" "current" "LArrowField$Match;", Cond.fieldLink RX4 86 "ArrowField$Match" "on" "Z", Cond.fieldLink RX4 96 "ArrowField$Archer" "quiver" "I", Cond.fieldLink RX4 187 "ArrowField" "matchesBegun" "I", Cond.methodLink RX4 78 yX4_archerNumbered, Cond.instanceMethod yX4_archerNumbered, Cond.selects RX4 yX4_archerNumbered yX4_archerNumbered, Cond.initialized RX4, Cond.code yX4_archerNumbered cX4_archerNumbered 2 (some (.object "ArrowField$Archer")), Cond.classLink RX4 304 "java/lang/IndexOutOfBoundsException", Cond.initialized "java/lang/IndexOutOfBoundsException", Cond.fieldLink RX4 51 "ArrowField" "archerCount" "I", Cond.fieldLink RX4 11 "ArrowField" "archers" "[LArrowField$Archer;", Cond.methodLink RX4 183 yX2_begin, Cond.instanceMethod yX2_begin, Cond.selects RX2 yX2_begin yX2_begin, Cond.initialized RX2, Cond.code yX2_begin cX2_begin 3 none, Cond.fieldLink RX2 9 "ArrowField$Match" "on" "Z", Cond.fieldLink RX2 15 "ArrowField$Match" "one" "I"]
def wsX4_match_r2 : List Cond := [Cond.fieldLink RX2 19 "ArrowField$Match" "other" "I", Cond.fieldLink RX2 22 "ArrowField$Match" "pointsOfOne" "I", Cond.fieldLink RX2 25 "ArrowField$Match" "pointsOfOther" "I", Cond.fieldLink RX2 28 "ArrowField$Match" "byLastArrows" "Z", Cond.methodLink RX2 31 yX2_beginSet, Cond.instanceMethod yX2_beginSet, Cond.selects RX2 yX2_beginSet yX2_beginSet, Cond.code yX2_beginSet cX2_beginSet 1 none, Cond.fieldLink RX2 42 "ArrowField$Match" "sumOfOne" "I", Cond.fieldLink RX2 45 "ArrowField$Match" "sumOfOther" "I", Cond.fieldLink RX2 48 "ArrowField$Match" "shotsOfSet" "I"]
def wsX4_match : List Cond := .code yX4_match cX4_match 5 (some .int) :: ((wsX4_match_r1 ++ wsX4_match_r2) ++ wsX40 ++ wsX20 ++ wsX00 ++ (vx_atS RX4 180 "java/lang/IllegalArgumentException" ["java/lang/RuntimeException", "java/lang/Exception"]).filter goodWord ++ (vx_atS RX4 58 "java/lang/IllegalStateException" ["java/lang/RuntimeException", "java/lang/Exception"]).filter goodWord ++ (vx_atS RX4 308 "java/lang/IndexOutOfBoundsException" ["java/lang/RuntimeException", "java/lang/Exception"]).filter goodWord)
def wsX4_breakOff : List Cond := .code yX4_breakOff cX4_breakOff 1 (some .int) :: ([.classLink RX4 54 "java/lang/IllegalStateException", .initialized "java/lang/IllegalStateException", .fieldLink RX4 31 "ArrowField" "current" "LArrowField$Match;", .fieldLink RX4 86 "ArrowField$Match" "on" "Z", .fieldLink RX4 192 "ArrowField$Match" "pointsOfOne" "I", .fieldLink RX4 195 "ArrowField$Match" "pointsOfOther" "I"] ++ wsX40 ++ wsX20 ++ (vx_atS RX4 58 "java/lang/IllegalStateException" ["java/lang/RuntimeException", "java/lang/Exception"]).filter goodWord)
def wsX4_close : List Cond := .code yX4_close cX4_close 3 (some .boolean) :: ([.fieldLink RX4 121 "ArrowField" "closed" "Z"] ++ wsX40)
def wsX4_horn : List Cond := .code yX4_horn cX4_horn 1 (some .int) :: ([.fieldLink RX4 198 "ArrowField" "refused" "I"] ++ wsX40)
def wsX4_ofArcher_r1 : List Cond := [Cond.fieldLink RX4 61 "ArrowField$Archer" "draw" "I", Cond.fieldLink RX4 64 "ArrowField$Archer" "steady" "I", Cond.fieldLink RX4 99 "ArrowField$Archer" "sight" "I", Cond.fieldLink RX4 102 "ArrowField$Archer" "nock" "I", Cond.fieldLink RX4 96 "ArrowField$Archer" "quiver" "I", Cond.fieldLink RX4 201 "ArrowField$Archer" "shotsEver" "I", Cond.fieldLink RX4 204 "ArrowField$Archer" "scoresEver" "I", Cond.fieldLink RX4 207 "ArrowField$Archer" "matchesWon" "I", Cond.fieldLink RX4 210 "ArrowField$Archer" "endSum" "I", Cond.fieldLink RX4 213 "ArrowField$Archer" "endShots" "I", Cond.fieldLink RX4 216 "ArrowField$Archer" "endTens" "I", Cond.methodLink RX4 78 yX4_archerNumbered, Cond.instanceMethod yX4_archerNumbered, Cond.selects RX4 yX4_archerNumbered yX4_archerNumbered, Cond.initialized RX4, Cond.code yX4_archerNumbered cX4_archerNumbered 2 (some (.object "ArrowField$Archer")), Cond.classLink RX4 304 "java/lang/IndexOutOfBoundsException", Cond.initialized "java/lang/IndexOutOfBoundsException", Cond.fieldLink RX4 51 "ArrowField" "archerCount" "I", Cond.fieldLink RX4 11 "ArrowField" "archers" "[LArrowField$Archer;", Cond.methodLink RX4 47 yX4_needBetween, Cond.static yX4_needBetween, Cond.code yX4_needBetween cX4_needBetween 3 none, Cond.classLink RX4 176 "java/lang/IllegalArgumentException"]
def wsX4_ofArcher_r2 : List Cond := [Cond.initialized "java/lang/IllegalArgumentException"]
def wsX4_ofArcher : List Cond := .code yX4_ofArcher cX4_ofArcher 4 (some .int) :: ((wsX4_ofArcher_r1 ++ wsX4_ofArcher_r2) ++ wsX00 ++ wsX40 ++ (vx_atS RX4 308 "java/lang/IndexOutOfBoundsException" ["java/lang/RuntimeException", "java/lang/Exception"]).filter goodWord ++ (vx_atS RX4 180 "java/lang/IllegalArgumentException" ["java/lang/RuntimeException", "java/lang/Exception"]).filter goodWord)
def wsX4_speed : List Cond := .code yX4_speed cX4_speed 3 (some .double) :: ([.fieldLink RX4 96 "ArrowField$Archer" "quiver" "I", .fieldLink RX4 17 "ArrowField" "quivers" "[LArrowField$Quiver;", .methodLink RX4 78 yX4_archerNumbered, .instanceMethod yX4_archerNumbered, .selects RX4 yX4_archerNumbered yX4_archerNumbered, .initialized RX4, .code yX4_archerNumbered cX4_archerNumbered 2 (some (.object "ArrowField$Archer")), .classLink RX4 304 "java/lang/IndexOutOfBoundsException", .initialized "java/lang/IndexOutOfBoundsException", .fieldLink RX4 51 "ArrowField" "archerCount" "I", .fieldLink RX4 11 "ArrowField" "archers" "[LArrowField$Archer;", .methodLink RX4 219 yX0_speedWith, .instanceMethod yX0_speedWith, .selects RX0 yX0_speedWith yX0_speedWith, .initialized RX0, .code yX0_speedWith cX0_speedWith 2 (some .double), .fieldLink RX0 15 "ArrowField$Archer" "draw" "I", .constantDouble RX0 18 (4648488871632306176), .fieldLink RX0 20 "ArrowField$Quiver" "mass" "I", .constantDouble RX0 25 (4641240890982006784), .fieldLink RX0 27 "ArrowField$Archer" "creep" "F"] ++ wsX00 ++ wsX40 ++ wsX30 ++ (vx_atS RX4 308 "java/lang/IndexOutOfBoundsException" ["java/lang/RuntimeException", "java/lang/Exception"]).filter goodWord)
def wsX4_ofQuiver_r1 : List Cond := [Cond.fieldLink RX4 17 "ArrowField" "quivers" "[LArrowField$Quiver;", Cond.fieldLink RX4 72 "ArrowField$Quiver" "mass" "I", Cond.fieldLink RX4 75 "ArrowField$Quiver" "spine" "I", Cond.methodLink RX4 82 yX4_needQuiver, Cond.instanceMethod yX4_needQuiver, Cond.selects RX4 yX4_needQuiver yX4_needQuiver, Cond.initialized RX4, Cond.code yX4_needQuiver cX4_needQuiver 2 none, Cond.classLink RX4 304 "java/lang/IndexOutOfBoundsException", Cond.initialized "java/lang/IndexOutOfBoundsException", Cond.fieldLink RX4 67 "ArrowField" "quiverCount" "I", Cond.methodLink RX4 47 yX4_needBetween, Cond.static yX4_needBetween, Cond.code yX4_needBetween cX4_needBetween 3 none, Cond.classLink RX4 176 "java/lang/IllegalArgumentException", Cond.initialized "java/lang/IllegalArgumentException", Cond.methodLink RX4 92 yX4_holderOf, Cond.instanceMethod yX4_holderOf, Cond.selects RX4 yX4_holderOf yX4_holderOf, Cond.code yX4_holderOf cX4_holderOf 3 (some .int), Cond.fieldLink RX4 51 "ArrowField" "archerCount" "I", Cond.fieldLink RX4 11 "ArrowField" "archers" "[LArrowField$Archer;", Cond.fieldLink RX4 96 "ArrowField$Archer" "quiver" "I", Cond.methodLink RX4 223 yX3_setOf]
def wsX4_ofQuiver_r2 : List Cond := [Cond.instanceMethod yX3_setOf, Cond.selects RX3 yX3_setOf yX3_setOf, Cond.initialized RX3, Cond.code yX3_setOf cX3_setOf 4 (some .int), Cond.fieldLink RX3 9 "ArrowField$Quiver" "states" "[I"]
def wsX4_ofQuiver : List Cond := .code yX4_ofQuiver cX4_ofQuiver 3 (some .int) :: ((wsX4_ofQuiver_r1 ++ wsX4_ofQuiver_r2) ++ wsX40 ++ wsX30 ++ wsX00 ++ (vx_atS RX4 308 "java/lang/IndexOutOfBoundsException" ["java/lang/RuntimeException", "java/lang/Exception"]).filter goodWord ++ (vx_atS RX4 180 "java/lang/IllegalArgumentException" ["java/lang/RuntimeException", "java/lang/Exception"]).filter goodWord)
def wsX4_hit : List Cond := .code yX4_hit cX4_hit 4 (some .double) :: ([.fieldLink RX4 17 "ArrowField" "quivers" "[LArrowField$Quiver;", .fieldLink RX4 226 "ArrowField$Quiver" "v" "[D", .fieldLink RX4 230 "ArrowField$Quiver" "h" "[D", .methodLink RX4 82 yX4_needQuiver, .instanceMethod yX4_needQuiver, .selects RX4 yX4_needQuiver yX4_needQuiver, .initialized RX4, .code yX4_needQuiver cX4_needQuiver 2 none, .classLink RX4 304 "java/lang/IndexOutOfBoundsException", .initialized "java/lang/IndexOutOfBoundsException", .fieldLink RX4 67 "ArrowField" "quiverCount" "I", .methodLink RX4 118 yX4_needArrow, .static yX4_needArrow, .code yX4_needArrow cX4_needArrow 1 none] ++ wsX40 ++ wsX30 ++ (vx_atS RX4 308 "java/lang/IndexOutOfBoundsException" ["java/lang/RuntimeException", "java/lang/Exception"]).filter goodWord)
def wsX4_many_r1 : List Cond := [Cond.fieldLink RX4 51 "ArrowField" "archerCount" "I", Cond.fieldLink RX4 67 "ArrowField" "quiverCount" "I", Cond.fieldLink RX4 21 "ArrowField" "distanceNow" "I", Cond.fieldLink RX4 115 "ArrowField" "windNow" "I", Cond.fieldLink RX4 25 "ArrowField" "faceNow" "I", Cond.fieldLink RX4 164 "ArrowField" "shots" "I", Cond.fieldLink RX4 233 "ArrowField" "splits" "I", Cond.fieldLink RX4 145 "ArrowField" "drawn" "I", Cond.fieldLink RX4 187 "ArrowField" "matchesBegun" "I", Cond.fieldLink RX4 121 "ArrowField" "closed" "Z", Cond.fieldLink RX4 198 "ArrowField" "refused" "I", Cond.methodLink RX4 47 yX4_needBetween, Cond.static yX4_needBetween, Cond.initialized RX4, Cond.code yX4_needBetween cX4_needBetween 3 none, Cond.classLink RX4 176 "java/lang/IllegalArgumentException", Cond.initialized "java/lang/IllegalArgumentException", Cond.methodLink RX4 109 yX4_stuckArrows, Cond.instanceMethod yX4_stuckArrows, Cond.selects RX4 yX4_stuckArrows yX4_stuckArrows, Cond.code yX4_stuckArrows cX4_stuckArrows 3 (some .int), Cond.fieldLink RX4 17 "ArrowField" "quivers" "[LArrowField$Quiver;", Cond.methodLink RX4 223 yX3_setOf, Cond.instanceMethod yX3_setOf]
def wsX4_many_r2 : List Cond := [Cond.selects RX3 yX3_setOf yX3_setOf, Cond.initialized RX3, Cond.code yX3_setOf cX3_setOf 4 (some .int), Cond.fieldLink RX3 9 "ArrowField$Quiver" "states" "[I", Cond.methodLink RX4 315 yJ6_bitCount_0f7a4, Cond.static yJ6_bitCount_0f7a4, Cond.initialized RJ6, Cond.code yJ6_bitCount_0f7a4 cJ6_bitCount_0f7a4 1 (some .int), Cond.constant RJ6 265 (1431655765), Cond.constant RJ6 266 (858993459), Cond.constant RJ6 267 (252645135)]
def wsX4_many : List Cond := .code yX4_many cX4_many 2 (some .int) :: ((wsX4_many_r1 ++ wsX4_many_r2) ++ wsX40 ++ wsX30 ++ (vx_atS RX4 180 "java/lang/IllegalArgumentException" ["java/lang/RuntimeException", "java/lang/Exception"]).filter goodWord)
def wsX4_ofMatch_r1 : List Cond := [Cond.fieldLink RX4 31 "ArrowField" "current" "LArrowField$Match;", Cond.fieldLink RX4 86 "ArrowField$Match" "on" "Z", Cond.fieldLink RX4 236 "ArrowField$Match" "one" "I", Cond.fieldLink RX4 239 "ArrowField$Match" "other" "I", Cond.fieldLink RX4 192 "ArrowField$Match" "pointsOfOne" "I", Cond.fieldLink RX4 195 "ArrowField$Match" "pointsOfOther" "I", Cond.fieldLink RX4 242 "ArrowField$Match" "sumOfOne" "I", Cond.fieldLink RX4 245 "ArrowField$Match" "sumOfOther" "I", Cond.fieldLink RX4 248 "ArrowField$Match" "byLastArrows" "Z", Cond.methodLink RX4 47 yX4_needBetween, Cond.static yX4_needBetween, Cond.initialized RX4, Cond.code yX4_needBetween cX4_needBetween 3 none, Cond.classLink RX4 176 "java/lang/IllegalArgumentException", Cond.initialized "java/lang/IllegalArgumentException", Cond.methodLink RX4 136 yX2_turn, Cond.instanceMethod yX2_turn, Cond.selects RX2 yX2_turn yX2_turn, Cond.initialized RX2, Cond.code yX2_turn cX2_turn 1 (some .int), Cond.fieldLink RX2 15 "ArrowField$Match" "one" "I", Cond.fieldLink RX2 19 "ArrowField$Match" "other" "I", Cond.methodLink RX2 34 yX2_isTurnOfOne, Cond.instanceMethod yX2_isTurnOfOne]
def wsX4_ofMatch_r2 : List Cond := [Cond.selects RX2 yX2_isTurnOfOne yX2_isTurnOfOne, Cond.code yX2_isTurnOfOne cX2_isTurnOfOne 1 (some .boolean), Cond.fieldLink RX2 48 "ArrowField$Match" "shotsOfSet" "I"]
def wsX4_ofMatch : List Cond := .code yX4_ofMatch cX4_ofMatch 2 (some .int) :: ((wsX4_ofMatch_r1 ++ wsX4_ofMatch_r2) ++ wsX40 ++ wsX20 ++ (vx_atS RX4 180 "java/lang/IllegalArgumentException" ["java/lang/RuntimeException", "java/lang/Exception"]).filter goodWord)
def wsX4_winner : List Cond := .code yX4_winner cX4_winner 1 (some .int) :: ([.fieldLink RX4 35 "ArrowField" "latestWinner" "I"] ++ wsX40)
def wsX4_wouldHit_r1 : List Cond := [Cond.fieldLink RX4 41 "ArrowField" "flight" "LArrowField$Flight;", Cond.fieldLink RX4 21 "ArrowField" "distanceNow" "I", Cond.fieldLink RX4 115 "ArrowField" "windNow" "I", Cond.fieldLink RX4 251 "ArrowField$Flight" "v" "D", Cond.fieldLink RX4 254 "ArrowField$Flight" "h" "D", Cond.methodLink RX4 78 yX4_archerNumbered, Cond.instanceMethod yX4_archerNumbered, Cond.selects RX4 yX4_archerNumbered yX4_archerNumbered, Cond.initialized RX4, Cond.code yX4_archerNumbered cX4_archerNumbered 2 (some (.object "ArrowField$Archer")), Cond.classLink RX4 304 "java/lang/IndexOutOfBoundsException", Cond.initialized "java/lang/IndexOutOfBoundsException", Cond.fieldLink RX4 51 "ArrowField" "archerCount" "I", Cond.fieldLink RX4 11 "ArrowField" "archers" "[LArrowField$Archer;", Cond.methodLink RX4 47 yX4_needBetween, Cond.static yX4_needBetween, Cond.code yX4_needBetween cX4_needBetween 3 none, Cond.classLink RX4 176 "java/lang/IllegalArgumentException", Cond.initialized "java/lang/IllegalArgumentException", Cond.methodLink RX4 126 yX4_quiverOf, Cond.instanceMethod yX4_quiverOf, Cond.selects RX4 yX4_quiverOf yX4_quiverOf, Cond.code yX4_quiverOf cX4_quiverOf 2 (some (.object "ArrowField$Quiver")), Cond.classLink RX4 54 "java/lang/IllegalStateException"]
def wsX4_wouldHit_r2 : List Cond := [Cond.initialized "java/lang/IllegalStateException", Cond.fieldLink RX4 96 "ArrowField$Archer" "quiver" "I", Cond.fieldLink RX4 17 "ArrowField" "quivers" "[LArrowField$Quiver;", Cond.methodLink RX4 141 yX1_fly, Cond.instanceMethod yX1_fly, Cond.selects RX1 yX1_fly yX1_fly, Cond.initialized RX1, Cond.code yX1_fly cX1_fly 15 none, Cond.constantDouble RX1 15 (4647714815446351872), Cond.fieldLink RX1 17 "ArrowField$Archer" "nock" "I", Cond.constantDouble RX1 21 (4620693217682128896), Cond.fieldLink RX1 23 "ArrowField$Quiver" "spine" "I", Cond.fieldLink RX1 28 "ArrowField$Archer" "draw" "I", Cond.constantDouble RX1 31 (4643211215818981376), Cond.fieldLink RX1 33 "ArrowField$Flight" "h" "D", Cond.fieldLink RX1 39 "ArrowField$Flight" "v" "D", Cond.constantDouble RX1 42 (4625196817309499392), Cond.constantDouble RX1 44 (4603804719079489536), Cond.constantDouble RX1 46 (4634204016564240384), Cond.methodLink RX1 9 yX0_speedWith, Cond.instanceMethod yX0_speedWith, Cond.selects RX0 yX0_speedWith yX0_speedWith, Cond.initialized RX0, Cond.code yX0_speedWith cX0_speedWith 2 (some .double)]
def wsX4_wouldHit_r3 : List Cond := [Cond.fieldLink RX0 15 "ArrowField$Archer" "draw" "I", Cond.constantDouble RX0 18 (4648488871632306176), Cond.fieldLink RX0 20 "ArrowField$Quiver" "mass" "I", Cond.constantDouble RX0 25 (4641240890982006784), Cond.fieldLink RX0 27 "ArrowField$Archer" "creep" "F"]
def wsX4_wouldHit : List Cond := .code yX4_wouldHit cX4_wouldHit 5 (some .double) :: ((wsX4_wouldHit_r1 ++ (wsX4_wouldHit_r2 ++ wsX4_wouldHit_r3)) ++ wsX40 ++ wsX10 ++ wsX00 ++ wsX30 ++ (vx_atS RX4 308 "java/lang/IndexOutOfBoundsException" ["java/lang/RuntimeException", "java/lang/Exception"]).filter goodWord ++ (vx_atS RX4 180 "java/lang/IllegalArgumentException" ["java/lang/RuntimeException", "java/lang/Exception"]).filter goodWord ++ (vx_atS RX4 58 "java/lang/IllegalStateException" ["java/lang/RuntimeException", "java/lang/Exception"]).filter goodWord)
def wsX4_mark_r1 : List Cond := [Cond.fieldLink RX4 41 "ArrowField" "flight" "LArrowField$Flight;", Cond.fieldLink RX4 21 "ArrowField" "distanceNow" "I", Cond.fieldLink RX4 115 "ArrowField" "windNow" "I", Cond.fieldLink RX4 251 "ArrowField$Flight" "v" "D", Cond.methodLink RX4 78 yX4_archerNumbered, Cond.instanceMethod yX4_archerNumbered, Cond.selects RX4 yX4_archerNumbered yX4_archerNumbered, Cond.initialized RX4, Cond.code yX4_archerNumbered cX4_archerNumbered 2 (some (.object "ArrowField$Archer")), Cond.classLink RX4 304 "java/lang/IndexOutOfBoundsException", Cond.initialized "java/lang/IndexOutOfBoundsException", Cond.fieldLink RX4 51 "ArrowField" "archerCount" "I", Cond.fieldLink RX4 11 "ArrowField" "archers" "[LArrowField$Archer;", Cond.methodLink RX4 126 yX4_quiverOf, Cond.instanceMethod yX4_quiverOf, Cond.selects RX4 yX4_quiverOf yX4_quiverOf, Cond.code yX4_quiverOf cX4_quiverOf 2 (some (.object "ArrowField$Quiver")), Cond.classLink RX4 54 "java/lang/IllegalStateException", Cond.initialized "java/lang/IllegalStateException", Cond.fieldLink RX4 96 "ArrowField$Archer" "quiver" "I", Cond.fieldLink RX4 17 "ArrowField" "quivers" "[LArrowField$Quiver;", Cond.methodLink RX4 141 yX1_fly, Cond.instanceMethod yX1_fly, Cond.selects RX1 yX1_fly yX1_fly]
def wsX4_mark_r2 : List Cond := [Cond.initialized RX1, Cond.code yX1_fly cX1_fly 15 none, Cond.constantDouble RX1 15 (4647714815446351872), Cond.fieldLink RX1 17 "ArrowField$Archer" "nock" "I", Cond.constantDouble RX1 21 (4620693217682128896), Cond.fieldLink RX1 23 "ArrowField$Quiver" "spine" "I", Cond.fieldLink RX1 28 "ArrowField$Archer" "draw" "I", Cond.constantDouble RX1 31 (4643211215818981376), Cond.fieldLink RX1 33 "ArrowField$Flight" "h" "D", Cond.fieldLink RX1 39 "ArrowField$Flight" "v" "D", Cond.constantDouble RX1 42 (4625196817309499392), Cond.constantDouble RX1 44 (4603804719079489536), Cond.constantDouble RX1 46 (4634204016564240384), Cond.methodLink RX1 9 yX0_speedWith, Cond.instanceMethod yX0_speedWith, Cond.selects RX0 yX0_speedWith yX0_speedWith, Cond.initialized RX0, Cond.code yX0_speedWith cX0_speedWith 2 (some .double), Cond.fieldLink RX0 15 "ArrowField$Archer" "draw" "I", Cond.constantDouble RX0 18 (4648488871632306176), Cond.fieldLink RX0 20 "ArrowField$Quiver" "mass" "I", Cond.constantDouble RX0 25 (4641240890982006784), Cond.fieldLink RX0 27 "ArrowField$Archer" "creep" "F", Cond.methodLink RX4 256 yX4_size]
def wsX4_mark_r3 : List Cond := [Cond.static yX4_size, Cond.code yX4_size cX4_size 2 (some .double)]
def wsX4_mark : List Cond := .code yX4_mark cX4_mark 10 (some .int) :: ((wsX4_mark_r1 ++ (wsX4_mark_r2 ++ wsX4_mark_r3)) ++ wsX40 ++ wsX10 ++ wsX00 ++ wsX30 ++ (vx_atS RX4 308 "java/lang/IndexOutOfBoundsException" ["java/lang/RuntimeException", "java/lang/Exception"]).filter goodWord ++ (vx_atS RX4 58 "java/lang/IllegalStateException" ["java/lang/RuntimeException", "java/lang/Exception"]).filter goodWord)
def wsX4_best_r1 : List Cond := [Cond.fieldLink RX4 67 "ArrowField" "quiverCount" "I", Cond.fieldLink RX4 41 "ArrowField" "flight" "LArrowField$Flight;", Cond.fieldLink RX4 17 "ArrowField" "quivers" "[LArrowField$Quiver;", Cond.fieldLink RX4 99 "ArrowField$Archer" "sight" "I", Cond.fieldLink RX4 21 "ArrowField" "distanceNow" "I", Cond.fieldLink RX4 115 "ArrowField" "windNow" "I", Cond.fieldLink RX4 254 "ArrowField$Flight" "h" "D", Cond.methodLink RX4 78 yX4_archerNumbered, Cond.instanceMethod yX4_archerNumbered, Cond.selects RX4 yX4_archerNumbered yX4_archerNumbered, Cond.initialized RX4, Cond.code yX4_archerNumbered cX4_archerNumbered 2 (some (.object "ArrowField$Archer")), Cond.classLink RX4 304 "java/lang/IndexOutOfBoundsException", Cond.initialized "java/lang/IndexOutOfBoundsException", Cond.fieldLink RX4 51 "ArrowField" "archerCount" "I", Cond.fieldLink RX4 11 "ArrowField" "archers" "[LArrowField$Archer;", Cond.methodLink RX4 92 yX4_holderOf, Cond.instanceMethod yX4_holderOf, Cond.selects RX4 yX4_holderOf yX4_holderOf, Cond.code yX4_holderOf cX4_holderOf 3 (some .int), Cond.fieldLink RX4 96 "ArrowField$Archer" "quiver" "I", Cond.methodLink RX4 141 yX1_fly, Cond.instanceMethod yX1_fly, Cond.selects RX1 yX1_fly yX1_fly]
def wsX4_best_r2 : List Cond := [Cond.initialized RX1, Cond.code yX1_fly cX1_fly 15 none, Cond.constantDouble RX1 15 (4647714815446351872), Cond.fieldLink RX1 17 "ArrowField$Archer" "nock" "I", Cond.constantDouble RX1 21 (4620693217682128896), Cond.fieldLink RX1 23 "ArrowField$Quiver" "spine" "I", Cond.fieldLink RX1 28 "ArrowField$Archer" "draw" "I", Cond.constantDouble RX1 31 (4643211215818981376), Cond.fieldLink RX1 33 "ArrowField$Flight" "h" "D", Cond.fieldLink RX1 39 "ArrowField$Flight" "v" "D", Cond.constantDouble RX1 42 (4625196817309499392), Cond.constantDouble RX1 44 (4603804719079489536), Cond.constantDouble RX1 46 (4634204016564240384), Cond.methodLink RX1 9 yX0_speedWith, Cond.instanceMethod yX0_speedWith, Cond.selects RX0 yX0_speedWith yX0_speedWith, Cond.initialized RX0, Cond.code yX0_speedWith cX0_speedWith 2 (some .double), Cond.fieldLink RX0 15 "ArrowField$Archer" "draw" "I", Cond.constantDouble RX0 18 (4648488871632306176), Cond.fieldLink RX0 20 "ArrowField$Quiver" "mass" "I", Cond.constantDouble RX0 25 (4641240890982006784), Cond.fieldLink RX0 27 "ArrowField$Archer" "creep" "F", Cond.methodLink RX4 256 yX4_size]
def wsX4_best_r3 : List Cond := [Cond.static yX4_size, Cond.code yX4_size cX4_size 2 (some .double)]
def wsX4_best : List Cond := .code yX4_best cX4_best 10 (some .int) :: ((wsX4_best_r1 ++ (wsX4_best_r2 ++ wsX4_best_r3)) ++ wsX40 ++ wsX00 ++ wsX10 ++ wsX30 ++ (vx_atS RX4 308 "java/lang/IndexOutOfBoundsException" ["java/lang/RuntimeException", "java/lang/Exception"]).filter goodWord)
def wsX4_reach_r1 : List Cond := [Cond.fieldLink RX4 41 "ArrowField" "flight" "LArrowField$Flight;", Cond.fieldLink RX4 115 "ArrowField" "windNow" "I", Cond.fieldLink RX4 251 "ArrowField$Flight" "v" "D", Cond.methodLink RX4 78 yX4_archerNumbered, Cond.instanceMethod yX4_archerNumbered, Cond.selects RX4 yX4_archerNumbered yX4_archerNumbered, Cond.initialized RX4, Cond.code yX4_archerNumbered cX4_archerNumbered 2 (some (.object "ArrowField$Archer")), Cond.classLink RX4 304 "java/lang/IndexOutOfBoundsException", Cond.initialized "java/lang/IndexOutOfBoundsException", Cond.fieldLink RX4 51 "ArrowField" "archerCount" "I", Cond.fieldLink RX4 11 "ArrowField" "archers" "[LArrowField$Archer;", Cond.methodLink RX4 126 yX4_quiverOf, Cond.instanceMethod yX4_quiverOf, Cond.selects RX4 yX4_quiverOf yX4_quiverOf, Cond.code yX4_quiverOf cX4_quiverOf 2 (some (.object "ArrowField$Quiver")), Cond.classLink RX4 54 "java/lang/IllegalStateException", Cond.initialized "java/lang/IllegalStateException", Cond.fieldLink RX4 96 "ArrowField$Archer" "quiver" "I", Cond.fieldLink RX4 17 "ArrowField" "quivers" "[LArrowField$Quiver;", Cond.methodLink RX4 141 yX1_fly, Cond.instanceMethod yX1_fly, Cond.selects RX1 yX1_fly yX1_fly, Cond.initialized RX1]
def wsX4_reach_r2 : List Cond := [Cond.code yX1_fly cX1_fly 15 none, Cond.constantDouble RX1 15 (4647714815446351872), Cond.fieldLink RX1 17 "ArrowField$Archer" "nock" "I", Cond.constantDouble RX1 21 (4620693217682128896), Cond.fieldLink RX1 23 "ArrowField$Quiver" "spine" "I", Cond.fieldLink RX1 28 "ArrowField$Archer" "draw" "I", Cond.constantDouble RX1 31 (4643211215818981376), Cond.fieldLink RX1 33 "ArrowField$Flight" "h" "D", Cond.fieldLink RX1 39 "ArrowField$Flight" "v" "D", Cond.constantDouble RX1 42 (4625196817309499392), Cond.constantDouble RX1 44 (4603804719079489536), Cond.constantDouble RX1 46 (4634204016564240384), Cond.methodLink RX1 9 yX0_speedWith, Cond.instanceMethod yX0_speedWith, Cond.selects RX0 yX0_speedWith yX0_speedWith, Cond.initialized RX0, Cond.code yX0_speedWith cX0_speedWith 2 (some .double), Cond.fieldLink RX0 15 "ArrowField$Archer" "draw" "I", Cond.constantDouble RX0 18 (4648488871632306176), Cond.fieldLink RX0 20 "ArrowField$Quiver" "mass" "I", Cond.constantDouble RX0 25 (4641240890982006784), Cond.fieldLink RX0 27 "ArrowField$Archer" "creep" "F"]
def wsX4_reach : List Cond := .code yX4_reach cX4_reach 5 (some .int) :: ((wsX4_reach_r1 ++ wsX4_reach_r2) ++ wsX40 ++ wsX10 ++ wsX00 ++ wsX30 ++ (vx_atS RX4 308 "java/lang/IndexOutOfBoundsException" ["java/lang/RuntimeException", "java/lang/Exception"]).filter goodWord ++ (vx_atS RX4 58 "java/lang/IllegalStateException" ["java/lang/RuntimeException", "java/lang/Exception"]).filter goodWord)
def wsX4_wouldScore_r1 : List Cond := [Cond.fieldLink RX4 41 "ArrowField" "flight" "LArrowField$Flight;", Cond.fieldLink RX4 99 "ArrowField$Archer" "sight" "I", Cond.fieldLink RX4 21 "ArrowField" "distanceNow" "I", Cond.fieldLink RX4 115 "ArrowField" "windNow" "I", Cond.fieldLink RX4 25 "ArrowField" "faceNow" "I", Cond.methodLink RX4 78 yX4_archerNumbered, Cond.instanceMethod yX4_archerNumbered, Cond.selects RX4 yX4_archerNumbered yX4_archerNumbered, Cond.initialized RX4, Cond.code yX4_archerNumbered cX4_archerNumbered 2 (some (.object "ArrowField$Archer")), Cond.classLink RX4 304 "java/lang/IndexOutOfBoundsException", Cond.initialized "java/lang/IndexOutOfBoundsException", Cond.fieldLink RX4 51 "ArrowField" "archerCount" "I", Cond.fieldLink RX4 11 "ArrowField" "archers" "[LArrowField$Archer;", Cond.methodLink RX4 126 yX4_quiverOf, Cond.instanceMethod yX4_quiverOf, Cond.selects RX4 yX4_quiverOf yX4_quiverOf, Cond.code yX4_quiverOf cX4_quiverOf 2 (some (.object "ArrowField$Quiver")), Cond.classLink RX4 54 "java/lang/IllegalStateException", Cond.initialized "java/lang/IllegalStateException", Cond.fieldLink RX4 96 "ArrowField$Archer" "quiver" "I", Cond.fieldLink RX4 17 "ArrowField" "quivers" "[LArrowField$Quiver;", Cond.methodLink RX4 141 yX1_fly, Cond.instanceMethod yX1_fly]
def wsX4_wouldScore_r2 : List Cond := [Cond.selects RX1 yX1_fly yX1_fly, Cond.initialized RX1, Cond.code yX1_fly cX1_fly 15 none, Cond.constantDouble RX1 15 (4647714815446351872), Cond.fieldLink RX1 17 "ArrowField$Archer" "nock" "I", Cond.constantDouble RX1 21 (4620693217682128896), Cond.fieldLink RX1 23 "ArrowField$Quiver" "spine" "I", Cond.fieldLink RX1 28 "ArrowField$Archer" "draw" "I", Cond.constantDouble RX1 31 (4643211215818981376), Cond.fieldLink RX1 33 "ArrowField$Flight" "h" "D", Cond.fieldLink RX1 39 "ArrowField$Flight" "v" "D", Cond.constantDouble RX1 42 (4625196817309499392), Cond.constantDouble RX1 44 (4603804719079489536), Cond.constantDouble RX1 46 (4634204016564240384), Cond.methodLink RX1 9 yX0_speedWith, Cond.instanceMethod yX0_speedWith, Cond.selects RX0 yX0_speedWith yX0_speedWith, Cond.initialized RX0, Cond.code yX0_speedWith cX0_speedWith 2 (some .double), Cond.fieldLink RX0 15 "ArrowField$Archer" "draw" "I", Cond.constantDouble RX0 18 (4648488871632306176), Cond.fieldLink RX0 20 "ArrowField$Quiver" "mass" "I", Cond.constantDouble RX0 25 (4641240890982006784), Cond.fieldLink RX0 27 "ArrowField$Archer" "creep" "F"]
def wsX4_wouldScore_r3 : List Cond := [Cond.methodLink RX4 154 yX1_worth, Cond.instanceMethod yX1_worth, Cond.selects RX1 yX1_worth yX1_worth, Cond.code yX1_worth cX1_worth 7 (some .int), Cond.constantDouble RX1 56 (4575657221408423936), Cond.methodLink RX1 52 yX1_farness, Cond.instanceMethod yX1_farness, Cond.selects RX1 yX1_farness yX1_farness, Cond.code yX1_farness cX1_farness 1 (some .double)]
def wsX4_wouldScore : List Cond := .code yX4_wouldScore cX4_wouldScore 3 (some .int) :: ((wsX4_wouldScore_r1 ++ (wsX4_wouldScore_r2 ++ wsX4_wouldScore_r3)) ++ wsX40 ++ wsX00 ++ wsX30 ++ wsX10 ++ (vx_atS RX4 308 "java/lang/IndexOutOfBoundsException" ["java/lang/RuntimeException", "java/lang/Exception"]).filter goodWord ++ (vx_atS RX4 58 "java/lang/IllegalStateException" ["java/lang/RuntimeException", "java/lang/Exception"]).filter goodWord)
def wsX4_withArcher_r1 : List Cond := [Cond.constantLong RX4 262 (31), Cond.constantDouble RX4 284 (4652218415073722368), Cond.methodLink RX4 280 yX4_ofArcher, Cond.instanceMethod yX4_ofArcher, Cond.selects RX4 yX4_ofArcher yX4_ofArcher, Cond.initialized RX4, Cond.code yX4_ofArcher cX4_ofArcher 4 (some .int), Cond.fieldLink RX4 61 "ArrowField$Archer" "draw" "I", Cond.fieldLink RX4 64 "ArrowField$Archer" "steady" "I", Cond.fieldLink RX4 99 "ArrowField$Archer" "sight" "I", Cond.fieldLink RX4 102 "ArrowField$Archer" "nock" "I", Cond.fieldLink RX4 96 "ArrowField$Archer" "quiver" "I", Cond.fieldLink RX4 201 "ArrowField$Archer" "shotsEver" "I", Cond.fieldLink RX4 204 "ArrowField$Archer" "scoresEver" "I", Cond.fieldLink RX4 207 "ArrowField$Archer" "matchesWon" "I", Cond.fieldLink RX4 210 "ArrowField$Archer" "endSum" "I", Cond.fieldLink RX4 213 "ArrowField$Archer" "endShots" "I", Cond.fieldLink RX4 216 "ArrowField$Archer" "endTens" "I", Cond.methodLink RX4 78 yX4_archerNumbered, Cond.instanceMethod yX4_archerNumbered, Cond.selects RX4 yX4_archerNumbered yX4_archerNumbered, Cond.code yX4_archerNumbered cX4_archerNumbered 2 (some (.object "ArrowField$Archer")), Cond.classLink RX4 304 "java/lang/IndexOutOfBoundsException", Cond.initialized "java/lang/IndexOutOfBoundsException"]
def wsX4_withArcher_r2 : List Cond := [Cond.fieldLink RX4 51 "ArrowField" "archerCount" "I", Cond.fieldLink RX4 11 "ArrowField" "archers" "[LArrowField$Archer;", Cond.methodLink RX4 47 yX4_needBetween, Cond.static yX4_needBetween, Cond.code yX4_needBetween cX4_needBetween 3 none, Cond.classLink RX4 176 "java/lang/IllegalArgumentException", Cond.initialized "java/lang/IllegalArgumentException", Cond.methodLink RX4 286 yX4_speed, Cond.instanceMethod yX4_speed, Cond.selects RX4 yX4_speed yX4_speed, Cond.code yX4_speed cX4_speed 3 (some .double), Cond.fieldLink RX4 17 "ArrowField" "quivers" "[LArrowField$Quiver;", Cond.methodLink RX4 219 yX0_speedWith, Cond.instanceMethod yX0_speedWith, Cond.selects RX0 yX0_speedWith yX0_speedWith, Cond.initialized RX0, Cond.code yX0_speedWith cX0_speedWith 2 (some .double), Cond.fieldLink RX0 15 "ArrowField$Archer" "draw" "I", Cond.constantDouble RX0 18 (4648488871632306176), Cond.fieldLink RX0 20 "ArrowField$Quiver" "mass" "I", Cond.constantDouble RX0 25 (4641240890982006784), Cond.fieldLink RX0 27 "ArrowField$Archer" "creep" "F", Cond.methodLink RX4 290 yX4_best, Cond.instanceMethod yX4_best]
def wsX4_withArcher_r3 : List Cond := [Cond.selects RX4 yX4_best yX4_best, Cond.code yX4_best cX4_best 10 (some .int), Cond.fieldLink RX4 67 "ArrowField" "quiverCount" "I", Cond.fieldLink RX4 41 "ArrowField" "flight" "LArrowField$Flight;", Cond.fieldLink RX4 21 "ArrowField" "distanceNow" "I", Cond.fieldLink RX4 115 "ArrowField" "windNow" "I", Cond.fieldLink RX4 254 "ArrowField$Flight" "h" "D", Cond.methodLink RX4 92 yX4_holderOf, Cond.instanceMethod yX4_holderOf, Cond.selects RX4 yX4_holderOf yX4_holderOf, Cond.code yX4_holderOf cX4_holderOf 3 (some .int), Cond.methodLink RX4 141 yX1_fly, Cond.instanceMethod yX1_fly, Cond.selects RX1 yX1_fly yX1_fly, Cond.initialized RX1, Cond.code yX1_fly cX1_fly 15 none, Cond.constantDouble RX1 15 (4647714815446351872), Cond.fieldLink RX1 17 "ArrowField$Archer" "nock" "I", Cond.constantDouble RX1 21 (4620693217682128896), Cond.fieldLink RX1 23 "ArrowField$Quiver" "spine" "I", Cond.fieldLink RX1 28 "ArrowField$Archer" "draw" "I", Cond.constantDouble RX1 31 (4643211215818981376), Cond.fieldLink RX1 33 "ArrowField$Flight" "h" "D", Cond.fieldLink RX1 39 "ArrowField$Flight" "v" "D"]
def wsX4_withArcher_r4 : List Cond := [Cond.constantDouble RX1 42 (4625196817309499392), Cond.constantDouble RX1 44 (4603804719079489536), Cond.constantDouble RX1 46 (4634204016564240384), Cond.methodLink RX1 9 yX0_speedWith, Cond.methodLink RX4 256 yX4_size, Cond.static yX4_size, Cond.code yX4_size cX4_size 2 (some .double)]
def wsX4_withArcher : List Cond := .code yX4_withArcher cX4_withArcher 7 (some .long) :: ((wsX4_withArcher_r1 ++ (wsX4_withArcher_r2 ++ (wsX4_withArcher_r3 ++ wsX4_withArcher_r4))) ++ wsX00 ++ wsX40 ++ wsX30 ++ wsX10 ++ (vx_atS RX4 308 "java/lang/IndexOutOfBoundsException" ["java/lang/RuntimeException", "java/lang/Exception"]).filter goodWord ++ (vx_atS RX4 180 "java/lang/IllegalArgumentException" ["java/lang/RuntimeException", "java/lang/Exception"]).filter goodWord)
def wsX4_withQuiver_r1 : List Cond := [Cond.constantLong RX4 262 (31), Cond.constantDouble RX4 296 (4661225614328463360), Cond.methodLink RX4 293 yX4_ofQuiver, Cond.instanceMethod yX4_ofQuiver, Cond.selects RX4 yX4_ofQuiver yX4_ofQuiver, Cond.initialized RX4, Cond.code yX4_ofQuiver cX4_ofQuiver 3 (some .int), Cond.fieldLink RX4 17 "ArrowField" "quivers" "[LArrowField$Quiver;", Cond.fieldLink RX4 72 "ArrowField$Quiver" "mass" "I", Cond.fieldLink RX4 75 "ArrowField$Quiver" "spine" "I", Cond.methodLink RX4 82 yX4_needQuiver, Cond.instanceMethod yX4_needQuiver, Cond.selects RX4 yX4_needQuiver yX4_needQuiver, Cond.code yX4_needQuiver cX4_needQuiver 2 none, Cond.classLink RX4 304 "java/lang/IndexOutOfBoundsException", Cond.initialized "java/lang/IndexOutOfBoundsException", Cond.fieldLink RX4 67 "ArrowField" "quiverCount" "I", Cond.methodLink RX4 47 yX4_needBetween, Cond.static yX4_needBetween, Cond.code yX4_needBetween cX4_needBetween 3 none, Cond.classLink RX4 176 "java/lang/IllegalArgumentException", Cond.initialized "java/lang/IllegalArgumentException", Cond.methodLink RX4 92 yX4_holderOf, Cond.instanceMethod yX4_holderOf]
def wsX4_withQuiver_r2 : List Cond := [Cond.selects RX4 yX4_holderOf yX4_holderOf, Cond.code yX4_holderOf cX4_holderOf 3 (some .int), Cond.fieldLink RX4 51 "ArrowField" "archerCount" "I", Cond.fieldLink RX4 11 "ArrowField" "archers" "[LArrowField$Archer;", Cond.fieldLink RX4 96 "ArrowField$Archer" "quiver" "I", Cond.methodLink RX4 223 yX3_setOf, Cond.instanceMethod yX3_setOf, Cond.selects RX3 yX3_setOf yX3_setOf, Cond.initialized RX3, Cond.code yX3_setOf cX3_setOf 4 (some .int), Cond.fieldLink RX3 9 "ArrowField$Quiver" "states" "[I", Cond.methodLink RX4 298 yX4_hit, Cond.instanceMethod yX4_hit, Cond.selects RX4 yX4_hit yX4_hit, Cond.code yX4_hit cX4_hit 4 (some .double), Cond.fieldLink RX4 226 "ArrowField$Quiver" "v" "[D", Cond.fieldLink RX4 230 "ArrowField$Quiver" "h" "[D", Cond.methodLink RX4 118 yX4_needArrow, Cond.static yX4_needArrow, Cond.code yX4_needArrow cX4_needArrow 1 none]
def wsX4_withQuiver : List Cond := .code yX4_withQuiver cX4_withQuiver 7 (some .long) :: ((wsX4_withQuiver_r1 ++ wsX4_withQuiver_r2) ++ wsX40 ++ wsX30 ++ wsX00 ++ (vx_atS RX4 308 "java/lang/IndexOutOfBoundsException" ["java/lang/RuntimeException", "java/lang/Exception"]).filter goodWord ++ (vx_atS RX4 180 "java/lang/IllegalArgumentException" ["java/lang/RuntimeException", "java/lang/Exception"]).filter goodWord)
def wsX4_digest_r1 : List Cond := [Cond.constantLong RX4 260 (58318), Cond.constantLong RX4 262 (31), Cond.fieldLink RX4 51 "ArrowField" "archerCount" "I", Cond.fieldLink RX4 67 "ArrowField" "quiverCount" "I", Cond.methodLink RX4 264 yX4_many, Cond.instanceMethod yX4_many, Cond.selects RX4 yX4_many yX4_many, Cond.initialized RX4, Cond.code yX4_many cX4_many 2 (some .int), Cond.fieldLink RX4 21 "ArrowField" "distanceNow" "I", Cond.fieldLink RX4 115 "ArrowField" "windNow" "I", Cond.fieldLink RX4 25 "ArrowField" "faceNow" "I", Cond.fieldLink RX4 164 "ArrowField" "shots" "I", Cond.fieldLink RX4 233 "ArrowField" "splits" "I", Cond.fieldLink RX4 145 "ArrowField" "drawn" "I", Cond.fieldLink RX4 187 "ArrowField" "matchesBegun" "I", Cond.fieldLink RX4 121 "ArrowField" "closed" "Z", Cond.fieldLink RX4 198 "ArrowField" "refused" "I", Cond.methodLink RX4 47 yX4_needBetween, Cond.static yX4_needBetween, Cond.code yX4_needBetween cX4_needBetween 3 none, Cond.classLink RX4 176 "java/lang/IllegalArgumentException", Cond.initialized "java/lang/IllegalArgumentException", Cond.methodLink RX4 109 yX4_stuckArrows]
def wsX4_digest_r2 : List Cond := [Cond.instanceMethod yX4_stuckArrows, Cond.selects RX4 yX4_stuckArrows yX4_stuckArrows, Cond.code yX4_stuckArrows cX4_stuckArrows 3 (some .int), Cond.fieldLink RX4 17 "ArrowField" "quivers" "[LArrowField$Quiver;", Cond.methodLink RX4 223 yX3_setOf, Cond.instanceMethod yX3_setOf, Cond.selects RX3 yX3_setOf yX3_setOf, Cond.initialized RX3, Cond.code yX3_setOf cX3_setOf 4 (some .int), Cond.fieldLink RX3 9 "ArrowField$Quiver" "states" "[I", Cond.methodLink RX4 315 yJ6_bitCount_0f7a4, Cond.static yJ6_bitCount_0f7a4, Cond.initialized RJ6, Cond.code yJ6_bitCount_0f7a4 cJ6_bitCount_0f7a4 1 (some .int), Cond.constant RJ6 265 (1431655765), Cond.constant RJ6 266 (858993459), Cond.constant RJ6 267 (252645135), Cond.methodLink RX4 267 yX4_ofMatch, Cond.instanceMethod yX4_ofMatch, Cond.selects RX4 yX4_ofMatch yX4_ofMatch, Cond.code yX4_ofMatch cX4_ofMatch 2 (some .int), Cond.fieldLink RX4 31 "ArrowField" "current" "LArrowField$Match;", Cond.fieldLink RX4 86 "ArrowField$Match" "on" "Z", Cond.fieldLink RX4 236 "ArrowField$Match" "one" "I"]
def wsX4_digest_r3 : List Cond := [Cond.fieldLink RX4 239 "ArrowField$Match" "other" "I", Cond.fieldLink RX4 192 "ArrowField$Match" "pointsOfOne" "I", Cond.fieldLink RX4 195 "ArrowField$Match" "pointsOfOther" "I", Cond.fieldLink RX4 242 "ArrowField$Match" "sumOfOne" "I", Cond.fieldLink RX4 245 "ArrowField$Match" "sumOfOther" "I", Cond.fieldLink RX4 248 "ArrowField$Match" "byLastArrows" "Z", Cond.methodLink RX4 136 yX2_turn, Cond.instanceMethod yX2_turn, Cond.selects RX2 yX2_turn yX2_turn, Cond.initialized RX2, Cond.code yX2_turn cX2_turn 1 (some .int), Cond.fieldLink RX2 15 "ArrowField$Match" "one" "I", Cond.fieldLink RX2 19 "ArrowField$Match" "other" "I", Cond.methodLink RX2 34 yX2_isTurnOfOne, Cond.instanceMethod yX2_isTurnOfOne, Cond.selects RX2 yX2_isTurnOfOne yX2_isTurnOfOne, Cond.code yX2_isTurnOfOne cX2_isTurnOfOne 1 (some .boolean), Cond.fieldLink RX2 48 "ArrowField$Match" "shotsOfSet" "I", Cond.methodLink RX4 270 yX4_winner, Cond.instanceMethod yX4_winner, Cond.selects RX4 yX4_winner yX4_winner, Cond.code yX4_winner cX4_winner 1 (some .int), Cond.fieldLink RX4 35 "ArrowField" "latestWinner" "I", Cond.methodLink RX4 273 yX4_withArcher]
def wsX4_digest_r4 : List Cond := [Cond.instanceMethod yX4_withArcher, Cond.selects RX4 yX4_withArcher yX4_withArcher, Cond.code yX4_withArcher cX4_withArcher 7 (some .long), Cond.constantDouble RX4 284 (4652218415073722368), Cond.methodLink RX4 280 yX4_ofArcher, Cond.instanceMethod yX4_ofArcher, Cond.selects RX4 yX4_ofArcher yX4_ofArcher, Cond.code yX4_ofArcher cX4_ofArcher 4 (some .int), Cond.fieldLink RX4 61 "ArrowField$Archer" "draw" "I", Cond.fieldLink RX4 64 "ArrowField$Archer" "steady" "I", Cond.fieldLink RX4 99 "ArrowField$Archer" "sight" "I", Cond.fieldLink RX4 102 "ArrowField$Archer" "nock" "I", Cond.fieldLink RX4 96 "ArrowField$Archer" "quiver" "I", Cond.fieldLink RX4 201 "ArrowField$Archer" "shotsEver" "I", Cond.fieldLink RX4 204 "ArrowField$Archer" "scoresEver" "I", Cond.fieldLink RX4 207 "ArrowField$Archer" "matchesWon" "I", Cond.fieldLink RX4 210 "ArrowField$Archer" "endSum" "I", Cond.fieldLink RX4 213 "ArrowField$Archer" "endShots" "I", Cond.fieldLink RX4 216 "ArrowField$Archer" "endTens" "I", Cond.methodLink RX4 78 yX4_archerNumbered, Cond.instanceMethod yX4_archerNumbered, Cond.selects RX4 yX4_archerNumbered yX4_archerNumbered, Cond.code yX4_archerNumbered cX4_archerNumbered 2 (some (.object "ArrowField$Archer")), Cond.classLink RX4 304 "java/lang/IndexOutOfBoundsException"]
def wsX4_digest_r5 : List Cond := [Cond.initialized "java/lang/IndexOutOfBoundsException", Cond.fieldLink RX4 11 "ArrowField" "archers" "[LArrowField$Archer;", Cond.methodLink RX4 286 yX4_speed, Cond.instanceMethod yX4_speed, Cond.selects RX4 yX4_speed yX4_speed, Cond.code yX4_speed cX4_speed 3 (some .double), Cond.methodLink RX4 219 yX0_speedWith, Cond.instanceMethod yX0_speedWith, Cond.selects RX0 yX0_speedWith yX0_speedWith, Cond.initialized RX0, Cond.code yX0_speedWith cX0_speedWith 2 (some .double), Cond.fieldLink RX0 15 "ArrowField$Archer" "draw" "I", Cond.constantDouble RX0 18 (4648488871632306176), Cond.fieldLink RX0 20 "ArrowField$Quiver" "mass" "I", Cond.constantDouble RX0 25 (4641240890982006784), Cond.fieldLink RX0 27 "ArrowField$Archer" "creep" "F", Cond.methodLink RX4 290 yX4_best, Cond.instanceMethod yX4_best, Cond.selects RX4 yX4_best yX4_best, Cond.code yX4_best cX4_best 10 (some .int), Cond.fieldLink RX4 41 "ArrowField" "flight" "LArrowField$Flight;", Cond.fieldLink RX4 254 "ArrowField$Flight" "h" "D", Cond.methodLink RX4 92 yX4_holderOf, Cond.instanceMethod yX4_holderOf]
def wsX4_digest_r6 : List Cond := [Cond.selects RX4 yX4_holderOf yX4_holderOf, Cond.code yX4_holderOf cX4_holderOf 3 (some .int), Cond.methodLink RX4 141 yX1_fly, Cond.instanceMethod yX1_fly, Cond.selects RX1 yX1_fly yX1_fly, Cond.initialized RX1, Cond.code yX1_fly cX1_fly 15 none, Cond.constantDouble RX1 15 (4647714815446351872), Cond.fieldLink RX1 17 "ArrowField$Archer" "nock" "I", Cond.constantDouble RX1 21 (4620693217682128896), Cond.fieldLink RX1 23 "ArrowField$Quiver" "spine" "I", Cond.fieldLink RX1 28 "ArrowField$Archer" "draw" "I", Cond.constantDouble RX1 31 (4643211215818981376), Cond.fieldLink RX1 33 "ArrowField$Flight" "h" "D", Cond.fieldLink RX1 39 "ArrowField$Flight" "v" "D", Cond.constantDouble RX1 42 (4625196817309499392), Cond.constantDouble RX1 44 (4603804719079489536), Cond.constantDouble RX1 46 (4634204016564240384), Cond.methodLink RX1 9 yX0_speedWith, Cond.methodLink RX4 256 yX4_size, Cond.static yX4_size, Cond.code yX4_size cX4_size 2 (some .double), Cond.methodLink RX4 277 yX4_withQuiver, Cond.instanceMethod yX4_withQuiver]
def wsX4_digest_r7 : List Cond := [Cond.selects RX4 yX4_withQuiver yX4_withQuiver, Cond.code yX4_withQuiver cX4_withQuiver 7 (some .long), Cond.constantDouble RX4 296 (4661225614328463360), Cond.methodLink RX4 293 yX4_ofQuiver, Cond.instanceMethod yX4_ofQuiver, Cond.selects RX4 yX4_ofQuiver yX4_ofQuiver, Cond.code yX4_ofQuiver cX4_ofQuiver 3 (some .int), Cond.fieldLink RX4 72 "ArrowField$Quiver" "mass" "I", Cond.fieldLink RX4 75 "ArrowField$Quiver" "spine" "I", Cond.methodLink RX4 82 yX4_needQuiver, Cond.instanceMethod yX4_needQuiver, Cond.selects RX4 yX4_needQuiver yX4_needQuiver, Cond.code yX4_needQuiver cX4_needQuiver 2 none, Cond.methodLink RX4 298 yX4_hit, Cond.instanceMethod yX4_hit, Cond.selects RX4 yX4_hit yX4_hit, Cond.code yX4_hit cX4_hit 4 (some .double), Cond.fieldLink RX4 226 "ArrowField$Quiver" "v" "[D", Cond.fieldLink RX4 230 "ArrowField$Quiver" "h" "[D", Cond.methodLink RX4 118 yX4_needArrow, Cond.static yX4_needArrow, Cond.code yX4_needArrow cX4_needArrow 1 none]
def wsX4_digest : List Cond := .code yX4_digest cX4_digest 4 (some .long) :: ((wsX4_digest_r1 ++ (wsX4_digest_r2 ++ (wsX4_digest_r3 ++ (wsX4_digest_r4 ++ (wsX4_digest_r5 ++ (wsX4_digest_r6 ++ wsX4_digest_r7)))))) ++ wsX40 ++ wsX30 ++ wsX20 ++ wsX00 ++ wsX10 ++ (vx_atS RX4 180 "java/lang/IllegalArgumentException" ["java/lang/RuntimeException", "java/lang/Exception"]).filter goodWord ++ (vx_atS RX4 308 "java/lang/IndexOutOfBoundsException" ["java/lang/RuntimeException", "java/lang/Exception"]).filter goodWord)
def wsX5_init : List Cond := .code yX5_init cX5_init 1 none :: ([.methodLink RX5 3 objectInit, .instanceMethod objectInit, .code objectInit ⟨#[0xb1]⟩ 1 none, .fieldLink RX5 9 "ArrowFieldModel$Archer" "quiver" "I"] ++ wsX50)
def wsX6_init : List Cond := .code yX6_init cX6_init 1 none :: ([.methodLink RX6 3 objectInit, .instanceMethod objectInit, .code objectInit ⟨#[0xb1]⟩ 1 none, .arrayClass .int, .fieldLink RX6 9 "ArrowFieldModel$Quiver" "where" "[I", .arrayClass .double, .fieldLink RX6 15 "ArrowFieldModel$Quiver" "h" "[D", .fieldLink RX6 19 "ArrowFieldModel$Quiver" "v" "[D"] ++ wsX60)
def wsX6_set : List Cond := .code yX6_set cX6_set 4 (some .int) :: ([.fieldLink RX6 9 "ArrowFieldModel$Quiver" "where" "[I"] ++ wsX60)
def wsJxa1e45_init_da8c8 : List Cond := .code yJxa1e45_init_da8c8 cJxa1e45_init_da8c8 1 none :: ([.methodLink RJxa1e45 1 objectInit, .instanceMethod objectInit, .code objectInit ⟨#[0xb1]⟩ 1 none])
def wsJxc12de_init_da8c8 : List Cond := .code yJxc12de_init_da8c8 cJxc12de_init_da8c8 1 none :: ([.fieldLink RJxc12de 7 "java/util/AbstractList" "modCount" "I", .methodLink RJxc12de 1 yJxa1e45_init_da8c8, .instanceMethod yJxa1e45_init_da8c8, .initialized RJxa1e45, .code yJxa1e45_init_da8c8 cJxa1e45_init_da8c8 1 none, .methodLink RJxa1e45 1 objectInit, .instanceMethod objectInit, .code objectInit ⟨#[0xb1]⟩ 1 none] ++ wsJx4a65c0)
def wsJx4a65c_init_da8c8 : List Cond := .code yJx4a65c_init_da8c8 cJx4a65c_init_da8c8 1 none :: ([.fieldLink RJx4a65c 39 "java/util/ArrayList" "DEFAULTCAPACITY_EMPTY_ELEMENTDATA" "[Ljava/lang/Object;", .fieldLink RJx4a65c 9 "java/util/ArrayList" "elementData" "[Ljava/lang/Object;", .methodLink RJx4a65c 1 yJxc12de_init_da8c8, .instanceMethod yJxc12de_init_da8c8, .initialized RJxc12de, .code yJxc12de_init_da8c8 cJxc12de_init_da8c8 1 none, .fieldLink RJxc12de 7 "java/util/AbstractList" "modCount" "I", .methodLink RJxc12de 1 yJxa1e45_init_da8c8, .instanceMethod yJxa1e45_init_da8c8, .initialized RJxa1e45, .code yJxa1e45_init_da8c8 cJxa1e45_init_da8c8 1 none, .methodLink RJxa1e45 1 objectInit, .instanceMethod objectInit, .code objectInit ⟨#[0xb1]⟩ 1 none] ++ wsJx4a65c0)
def wsX7_init_r1 : List Cond := [Cond.methodLink RX7 1 objectInit, Cond.instanceMethod objectInit, Cond.code objectInit ⟨#[0xb1]⟩ 1 none, Cond.classLink RX7 7 RJx4a65c, Cond.instantiable RJx4a65c 3, Cond.initialized RJx4a65c, Cond.fieldLink RX7 10 "ArrowFieldModel" "archers" "Ljava/util/ArrayList;", Cond.fieldLink RX7 16 "ArrowFieldModel" "quivers" "Ljava/util/ArrayList;", Cond.fieldLink RX7 19 "ArrowFieldModel" "distance" "I", Cond.fieldLink RX7 23 "ArrowFieldModel" "face" "I", Cond.fieldLink RX7 26 "ArrowFieldModel" "winner" "I", Cond.arrayClass .int, Cond.fieldLink RX7 29 "ArrowFieldModel" "party" "[I", Cond.fieldLink RX7 33 "ArrowFieldModel" "points" "[I", Cond.fieldLink RX7 36 "ArrowFieldModel" "sums" "[I", Cond.methodLink RX7 9 yJx4a65c_init_da8c8, Cond.instanceMethod yJx4a65c_init_da8c8, Cond.code yJx4a65c_init_da8c8 cJx4a65c_init_da8c8 1 none, Cond.fieldLink RJx4a65c 39 "java/util/ArrayList" "DEFAULTCAPACITY_EMPTY_ELEMENTDATA" "[Ljava/lang/Object;", Cond.fieldLink RJx4a65c 9 "java/util/ArrayList" "elementData" "[Ljava/lang/Object;", Cond.methodLink RJx4a65c 1 yJxc12de_init_da8c8, Cond.instanceMethod yJxc12de_init_da8c8, Cond.initialized RJxc12de, Cond.code yJxc12de_init_da8c8 cJxc12de_init_da8c8 1 none]
def wsX7_init_r2 : List Cond := [Cond.fieldLink RJxc12de 7 "java/util/AbstractList" "modCount" "I", Cond.methodLink RJxc12de 1 yJxa1e45_init_da8c8, Cond.instanceMethod yJxa1e45_init_da8c8, Cond.initialized RJxa1e45, Cond.code yJxa1e45_init_da8c8 cJxa1e45_init_da8c8 1 none, Cond.methodLink RJxa1e45 1 objectInit]
def wsX7_init : List Cond := .code yX7_init cX7_init 1 none :: ((wsX7_init_r1 ++ wsX7_init_r2) ++ wsJx4a65c0 ++ wsX70)
def wsX7_thrown : List Cond := .code yX7_thrown cX7_thrown 1 (some .int) :: ([.fieldLink RX7 39 "ArrowFieldModel" "thrown" "I"] ++ wsX70)
def wsX7_refuse : List Cond := .code yX7_refuse cX7_refuse 2 (some .int) :: ([.fieldLink RX7 39 "ArrowFieldModel" "thrown" "I"] ++ wsX70)
def wsX7_is : List Cond := .code yX7_is cX7_is 3 (some .boolean) :: ([])
def wsJx4a65c_size_8abf5 : List Cond := .code yJx4a65c_size_8abf5 cJx4a65c_size_8abf5 1 (some .int) :: ([.fieldLink RJx4a65c 48 "java/util/ArrayList" "size" "I"] ++ wsJx4a65c0)
def wsX7_isArcher : List Cond := .code yX7_isArcher cX7_isArcher 2 (some .boolean) :: ([.fieldLink RX7 10 "ArrowFieldModel" "archers" "Ljava/util/ArrayList;", .methodLink RX7 42 yJx4a65c_size_8abf5, .instanceMethod yJx4a65c_size_8abf5, .selects RJx4a65c yJx4a65c_size_8abf5 yJx4a65c_size_8abf5, .initialized RJx4a65c, .code yJx4a65c_size_8abf5 cJx4a65c_size_8abf5 1 (some .int), .fieldLink RJx4a65c 48 "java/util/ArrayList" "size" "I", .methodLink RX7 46 yX7_is, .static yX7_is, .initialized RX7, .code yX7_is cX7_is 3 (some .boolean)] ++ wsX70 ++ wsJx4a65c0)
def wsX7_isQuiver : List Cond := .code yX7_isQuiver cX7_isQuiver 2 (some .boolean) :: ([.fieldLink RX7 16 "ArrowFieldModel" "quivers" "Ljava/util/ArrayList;", .methodLink RX7 42 yJx4a65c_size_8abf5, .instanceMethod yJx4a65c_size_8abf5, .selects RJx4a65c yJx4a65c_size_8abf5 yJx4a65c_size_8abf5, .initialized RJx4a65c, .code yJx4a65c_size_8abf5 cJx4a65c_size_8abf5 1 (some .int), .fieldLink RJx4a65c 48 "java/util/ArrayList" "size" "I", .methodLink RX7 46 yX7_is, .static yX7_is, .initialized RX7, .code yX7_is cX7_is 3 (some .boolean)] ++ wsX70 ++ wsJx4a65c0)
def wsX7_isOn : List Cond := .code yX7_isOn cX7_isOn 1 (some .boolean) :: ([.fieldLink RX7 29 "ArrowFieldModel" "party" "[I"] ++ wsX70)
def wsJ3_checkIndex_8e157 : List Cond := .code yJ3_checkIndex_8e157 cJ3_checkIndex_8e157 3 (some .int) :: ([])
def wsJ15_checkIndex_7cf53 : List Cond := .code yJ15_checkIndex_7cf53 cJ15_checkIndex_7cf53 2 (some .int) :: ([.methodLink RJ15 105 yJ3_checkIndex_8e157, .static yJ3_checkIndex_8e157, .initialized RJ3, .code yJ3_checkIndex_8e157 cJ3_checkIndex_8e157 3 (some .int)])
def wsJx4a65c_elementData_915e3 : List Cond := .code yJx4a65c_elementData_915e3 cJx4a65c_elementData_915e3 2 (some (.object "java/lang/Object")) :: ([.fieldLink RJx4a65c 9 "java/util/ArrayList" "elementData" "[Ljava/lang/Object;"] ++ wsJx4a65c0)
def wsJx4a65c_get_915e3 : List Cond := .code yJx4a65c_get_915e3 cJx4a65c_get_915e3 2 (some (.object "java/lang/Object")) :: ([.fieldLink RJx4a65c 48 "java/util/ArrayList" "size" "I", .methodLink RJx4a65c 118 yJ15_checkIndex_7cf53, .static yJ15_checkIndex_7cf53, .initialized RJ15, .code yJ15_checkIndex_7cf53 cJ15_checkIndex_7cf53 2 (some .int), .methodLink RJ15 105 yJ3_checkIndex_8e157, .static yJ3_checkIndex_8e157, .initialized RJ3, .code yJ3_checkIndex_8e157 cJ3_checkIndex_8e157 3 (some .int), .methodLink RJx4a65c 123 yJx4a65c_elementData_915e3, .instanceMethod yJx4a65c_elementData_915e3, .selects RJx4a65c yJx4a65c_elementData_915e3 yJx4a65c_elementData_915e3, .initialized RJx4a65c, .code yJx4a65c_elementData_915e3 cJx4a65c_elementData_915e3 2 (some (.object "java/lang/Object")), .fieldLink RJx4a65c 9 "java/util/ArrayList" "elementData" "[Ljava/lang/Object;"] ++ wsJx4a65c0)
def wsX7_holder_r1 : List Cond := [Cond.fieldLink RX7 10 "ArrowFieldModel" "archers" "Ljava/util/ArrayList;", Cond.classLink RX7 54 "ArrowFieldModel$Archer", Cond.methodLink RX7 42 yJx4a65c_size_8abf5, Cond.instanceMethod yJx4a65c_size_8abf5, Cond.selects RJx4a65c yJx4a65c_size_8abf5 yJx4a65c_size_8abf5, Cond.initialized RJx4a65c, Cond.code yJx4a65c_size_8abf5 cJx4a65c_size_8abf5 1 (some .int), Cond.fieldLink RJx4a65c 48 "java/util/ArrayList" "size" "I", Cond.methodLink RX7 50 yJx4a65c_get_915e3, Cond.instanceMethod yJx4a65c_get_915e3, Cond.selects RJx4a65c yJx4a65c_get_915e3 yJx4a65c_get_915e3, Cond.code yJx4a65c_get_915e3 cJx4a65c_get_915e3 2 (some (.object "java/lang/Object")), Cond.methodLink RJx4a65c 118 yJ15_checkIndex_7cf53, Cond.static yJ15_checkIndex_7cf53, Cond.initialized RJ15, Cond.code yJ15_checkIndex_7cf53 cJ15_checkIndex_7cf53 2 (some .int), Cond.methodLink RJ15 105 yJ3_checkIndex_8e157, Cond.static yJ3_checkIndex_8e157, Cond.initialized RJ3, Cond.code yJ3_checkIndex_8e157 cJ3_checkIndex_8e157 3 (some .int), Cond.methodLink RJx4a65c 123 yJx4a65c_elementData_915e3, Cond.instanceMethod yJx4a65c_elementData_915e3, Cond.selects RJx4a65c yJx4a65c_elementData_915e3 yJx4a65c_elementData_915e3, Cond.code yJx4a65c_elementData_915e3 cJx4a65c_elementData_915e3 2 (some (.object "java/lang/Object"))]
def wsX7_holder_r2 : List Cond := [Cond.fieldLink RJx4a65c 9 "java/util/ArrayList" "elementData" "[Ljava/lang/Object;"]
def wsX7_holder : List Cond := .code yX7_holder cX7_holder 3 (some .int) :: ((wsX7_holder_r1 ++ wsX7_holder_r2) ++ wsX70 ++ wsX50 ++ wsJx4a65c0)
def wsJ8_hugeLength_7cf53 : List Cond := .code yJ8_hugeLength_7cf53 cJ8_hugeLength_7cf53 3 (some .int) :: ([.constant RJ8 200 (2147483639)])
def wsJ8_newLength_cabcc : List Cond := .code yJ8_newLength_cabcc cJ8_newLength_cabcc 4 (some .int) :: ([.methodLink RJ8 194 Lib.Math.max.name, .static Lib.Math.max.name, .initialized "java/lang/Math", .code Lib.Math.max.name Lib.Math.max.code 2 (some .int), .constant RJ8 200 (2147483639), .methodLink RJ8 201 yJ8_hugeLength_7cf53, .static yJ8_hugeLength_7cf53, .initialized RJ8, .code yJ8_hugeLength_7cf53 cJ8_hugeLength_7cf53 3 (some .int)])
def wsJ7_copyOf_6403c : List Cond := .code yJ7_copyOf_6403c cJ7_copyOf_6403c 4 (some (.array (.object "java/lang/Object"))) :: ([.classLink RJ7 110 "[Ljava/lang/Object;", .classLink RJ7 2 "java/lang/Object", .methodLink RJ7 304 Lib.Math.min.name, .static Lib.Math.min.name, .initialized "java/lang/Math", .code Lib.Math.min.name Lib.Math.min.code 2 (some .int), .methodLink RJ7 150 arraycopyName, .native arraycopyName, .static arraycopyName, .initialized "java/lang/System"])
def wsJ7_copyOf_1904c : List Cond := .code yJ7_copyOf_1904c cJ7_copyOf_1904c 2 (some (.array (.object "java/lang/Object"))) :: ([.methodLink RJ7 86 ⟨"java/lang/Object", "getClass", "()Ljava/lang/Class;"⟩, .selects "[Ljava/lang/Object;" ⟨"java/lang/Object", "getClass", "()Ljava/lang/Class;"⟩ ⟨"java/lang/Object", "getClass", "()Ljava/lang/Class;"⟩, .instanceMethod ⟨"java/lang/Object", "getClass", "()Ljava/lang/Class;"⟩, .native ⟨"java/lang/Object", "getClass", "()Ljava/lang/Class;"⟩, .methodLink RJ7 300 yJ7_copyOf_6403c, .static yJ7_copyOf_6403c, .initialized RJ7, .code yJ7_copyOf_6403c cJ7_copyOf_6403c 4 (some (.array (.object "java/lang/Object"))), .classLink RJ7 110 "[Ljava/lang/Object;", .classLink RJ7 2 "java/lang/Object", .methodLink RJ7 304 Lib.Math.min.name, .static Lib.Math.min.name, .initialized "java/lang/Math", .code Lib.Math.min.name Lib.Math.min.code 2 (some .int), .methodLink RJ7 150 arraycopyName, .native arraycopyName, .static arraycopyName, .initialized "java/lang/System"])
def wsJx4a65c_grow_92f84_r1 : List Cond := [Cond.fieldLink RJx4a65c 9 "java/util/ArrayList" "elementData" "[Ljava/lang/Object;", Cond.fieldLink RJx4a65c 39 "java/util/ArrayList" "DEFAULTCAPACITY_EMPTY_ELEMENTDATA" "[Ljava/lang/Object;", Cond.methodLink RJx4a65c 79 Lib.Math.max.name, Cond.static Lib.Math.max.name, Cond.initialized "java/lang/Math", Cond.code Lib.Math.max.name Lib.Math.max.code 2 (some .int), Cond.classLink RJx4a65c 7 "java/lang/Object", Cond.methodLink RJx4a65c 73 yJ8_newLength_cabcc, Cond.static yJ8_newLength_cabcc, Cond.initialized RJ8, Cond.code yJ8_newLength_cabcc cJ8_newLength_cabcc 4 (some .int), Cond.methodLink RJ8 194 Lib.Math.max.name, Cond.constant RJ8 200 (2147483639), Cond.methodLink RJ8 201 yJ8_hugeLength_7cf53, Cond.static yJ8_hugeLength_7cf53, Cond.code yJ8_hugeLength_7cf53 cJ8_hugeLength_7cf53 3 (some .int), Cond.methodLink RJx4a65c 66 yJ7_copyOf_1904c, Cond.static yJ7_copyOf_1904c, Cond.initialized RJ7, Cond.code yJ7_copyOf_1904c cJ7_copyOf_1904c 2 (some (.array (.object "java/lang/Object"))), Cond.methodLink RJ7 86 ⟨"java/lang/Object", "getClass", "()Ljava/lang/Class;"⟩, Cond.selects "[Ljava/lang/Object;" ⟨"java/lang/Object", "getClass", "()Ljava/lang/Class;"⟩ ⟨"java/lang/Object", "getClass", "()Ljava/lang/Class;"⟩, Cond.instanceMethod ⟨"java/lang/Object", "getClass", "()Ljava/lang/Class;"⟩, Cond.native ⟨"java/lang/Object", "getClass", "()Ljava/lang/Class;"⟩]
def wsJx4a65c_grow_92f84_r2 : List Cond := [Cond.methodLink RJ7 300 yJ7_copyOf_6403c, Cond.static yJ7_copyOf_6403c, Cond.code yJ7_copyOf_6403c cJ7_copyOf_6403c 4 (some (.array (.object "java/lang/Object"))), Cond.classLink RJ7 110 "[Ljava/lang/Object;", Cond.classLink RJ7 2 "java/lang/Object", Cond.methodLink RJ7 304 Lib.Math.min.name, Cond.static Lib.Math.min.name, Cond.code Lib.Math.min.name Lib.Math.min.code 2 (some .int), Cond.methodLink RJ7 150 arraycopyName, Cond.native arraycopyName, Cond.static arraycopyName, Cond.initialized "java/lang/System"]
def wsJx4a65c_grow_92f84 : List Cond := .code yJx4a65c_grow_92f84 cJx4a65c_grow_92f84 4 (some (.array (.object "java/lang/Object"))) :: ((wsJx4a65c_grow_92f84_r1 ++ wsJx4a65c_grow_92f84_r2) ++ wsJx4a65c0)
def wsJx4a65c_grow_d5877_r1 : List Cond := [Cond.fieldLink RJx4a65c 48 "java/util/ArrayList" "size" "I", Cond.methodLink RJx4a65c 69 yJx4a65c_grow_92f84, Cond.instanceMethod yJx4a65c_grow_92f84, Cond.selects RJx4a65c yJx4a65c_grow_92f84 yJx4a65c_grow_92f84, Cond.initialized RJx4a65c, Cond.code yJx4a65c_grow_92f84 cJx4a65c_grow_92f84 4 (some (.array (.object "java/lang/Object"))), Cond.fieldLink RJx4a65c 9 "java/util/ArrayList" "elementData" "[Ljava/lang/Object;", Cond.fieldLink RJx4a65c 39 "java/util/ArrayList" "DEFAULTCAPACITY_EMPTY_ELEMENTDATA" "[Ljava/lang/Object;", Cond.methodLink RJx4a65c 79 Lib.Math.max.name, Cond.static Lib.Math.max.name, Cond.initialized "java/lang/Math", Cond.code Lib.Math.max.name Lib.Math.max.code 2 (some .int), Cond.classLink RJx4a65c 7 "java/lang/Object", Cond.methodLink RJx4a65c 73 yJ8_newLength_cabcc, Cond.static yJ8_newLength_cabcc, Cond.initialized RJ8, Cond.code yJ8_newLength_cabcc cJ8_newLength_cabcc 4 (some .int), Cond.methodLink RJ8 194 Lib.Math.max.name, Cond.constant RJ8 200 (2147483639), Cond.methodLink RJ8 201 yJ8_hugeLength_7cf53, Cond.static yJ8_hugeLength_7cf53, Cond.code yJ8_hugeLength_7cf53 cJ8_hugeLength_7cf53 3 (some .int), Cond.methodLink RJx4a65c 66 yJ7_copyOf_1904c, Cond.static yJ7_copyOf_1904c]
def wsJx4a65c_grow_d5877_r2 : List Cond := [Cond.initialized RJ7, Cond.code yJ7_copyOf_1904c cJ7_copyOf_1904c 2 (some (.array (.object "java/lang/Object"))), Cond.methodLink RJ7 86 ⟨"java/lang/Object", "getClass", "()Ljava/lang/Class;"⟩, Cond.selects "[Ljava/lang/Object;" ⟨"java/lang/Object", "getClass", "()Ljava/lang/Class;"⟩ ⟨"java/lang/Object", "getClass", "()Ljava/lang/Class;"⟩, Cond.instanceMethod ⟨"java/lang/Object", "getClass", "()Ljava/lang/Class;"⟩, Cond.native ⟨"java/lang/Object", "getClass", "()Ljava/lang/Class;"⟩, Cond.methodLink RJ7 300 yJ7_copyOf_6403c, Cond.static yJ7_copyOf_6403c, Cond.code yJ7_copyOf_6403c cJ7_copyOf_6403c 4 (some (.array (.object "java/lang/Object"))), Cond.classLink RJ7 110 "[Ljava/lang/Object;", Cond.classLink RJ7 2 "java/lang/Object", Cond.methodLink RJ7 304 Lib.Math.min.name, Cond.static Lib.Math.min.name, Cond.code Lib.Math.min.name Lib.Math.min.code 2 (some .int), Cond.methodLink RJ7 150 arraycopyName, Cond.native arraycopyName, Cond.static arraycopyName, Cond.initialized "java/lang/System"]
def wsJx4a65c_grow_d5877 : List Cond := .code yJx4a65c_grow_d5877 cJx4a65c_grow_d5877 1 (some (.array (.object "java/lang/Object"))) :: ((wsJx4a65c_grow_d5877_r1 ++ wsJx4a65c_grow_d5877_r2) ++ wsJx4a65c0)
def wsJx4a65c_add_72be8_r1 : List Cond := [Cond.fieldLink RJx4a65c 48 "java/util/ArrayList" "size" "I", Cond.methodLink RJx4a65c 129 yJx4a65c_grow_d5877, Cond.instanceMethod yJx4a65c_grow_d5877, Cond.selects RJx4a65c yJx4a65c_grow_d5877 yJx4a65c_grow_d5877, Cond.initialized RJx4a65c, Cond.code yJx4a65c_grow_d5877 cJx4a65c_grow_d5877 1 (some (.array (.object "java/lang/Object"))), Cond.methodLink RJx4a65c 69 yJx4a65c_grow_92f84, Cond.instanceMethod yJx4a65c_grow_92f84, Cond.selects RJx4a65c yJx4a65c_grow_92f84 yJx4a65c_grow_92f84, Cond.code yJx4a65c_grow_92f84 cJx4a65c_grow_92f84 4 (some (.array (.object "java/lang/Object"))), Cond.fieldLink RJx4a65c 9 "java/util/ArrayList" "elementData" "[Ljava/lang/Object;", Cond.fieldLink RJx4a65c 39 "java/util/ArrayList" "DEFAULTCAPACITY_EMPTY_ELEMENTDATA" "[Ljava/lang/Object;", Cond.methodLink RJx4a65c 79 Lib.Math.max.name, Cond.static Lib.Math.max.name, Cond.initialized "java/lang/Math", Cond.code Lib.Math.max.name Lib.Math.max.code 2 (some .int), Cond.classLink RJx4a65c 7 "java/lang/Object", Cond.methodLink RJx4a65c 73 yJ8_newLength_cabcc, Cond.static yJ8_newLength_cabcc, Cond.initialized RJ8, Cond.code yJ8_newLength_cabcc cJ8_newLength_cabcc 4 (some .int), Cond.methodLink RJ8 194 Lib.Math.max.name, Cond.constant RJ8 200 (2147483639), Cond.methodLink RJ8 201 yJ8_hugeLength_7cf53]
def wsJx4a65c_add_72be8_r2 : List Cond := [Cond.static yJ8_hugeLength_7cf53, Cond.code yJ8_hugeLength_7cf53 cJ8_hugeLength_7cf53 3 (some .int), Cond.methodLink RJx4a65c 66 yJ7_copyOf_1904c, Cond.static yJ7_copyOf_1904c, Cond.initialized RJ7, Cond.code yJ7_copyOf_1904c cJ7_copyOf_1904c 2 (some (.array (.object "java/lang/Object"))), Cond.methodLink RJ7 86 ⟨"java/lang/Object", "getClass", "()Ljava/lang/Class;"⟩, Cond.selects "[Ljava/lang/Object;" ⟨"java/lang/Object", "getClass", "()Ljava/lang/Class;"⟩ ⟨"java/lang/Object", "getClass", "()Ljava/lang/Class;"⟩, Cond.instanceMethod ⟨"java/lang/Object", "getClass", "()Ljava/lang/Class;"⟩, Cond.native ⟨"java/lang/Object", "getClass", "()Ljava/lang/Class;"⟩, Cond.methodLink RJ7 300 yJ7_copyOf_6403c, Cond.static yJ7_copyOf_6403c, Cond.code yJ7_copyOf_6403c cJ7_copyOf_6403c 4 (some (.array (.object "java/lang/Object"))), Cond.classLink RJ7 110 "[Ljava/lang/Object;", Cond.classLink RJ7 2 "java/lang/Object", Cond.methodLink RJ7 304 Lib.Math.min.name, Cond.static Lib.Math.min.name, Cond.code Lib.Math.min.name Lib.Math.min.code 2 (some .int), Cond.methodLink RJ7 150 arraycopyName, Cond.native arraycopyName, Cond.static arraycopyName, Cond.initialized "java/lang/System"]
def wsJx4a65c_add_72be8 : List Cond := .code yJx4a65c_add_72be8 cJx4a65c_add_72be8 4 none :: ((wsJx4a65c_add_72be8_r1 ++ wsJx4a65c_add_72be8_r2) ++ wsJx4a65c0)
def wsJx4a65c_add_9ea2d_r1 : List Cond := [Cond.fieldLink RJx4a65c 63 "java/util/ArrayList" "modCount" "I", Cond.sameField "java/util/ArrayList" "java/util/AbstractList" "modCount" "I", Cond.fieldLink RJx4a65c 9 "java/util/ArrayList" "elementData" "[Ljava/lang/Object;", Cond.fieldLink RJx4a65c 48 "java/util/ArrayList" "size" "I", Cond.methodLink RJx4a65c 131 yJx4a65c_add_72be8, Cond.instanceMethod yJx4a65c_add_72be8, Cond.selects RJx4a65c yJx4a65c_add_72be8 yJx4a65c_add_72be8, Cond.initialized RJx4a65c, Cond.code yJx4a65c_add_72be8 cJx4a65c_add_72be8 4 none, Cond.methodLink RJx4a65c 129 yJx4a65c_grow_d5877, Cond.instanceMethod yJx4a65c_grow_d5877, Cond.selects RJx4a65c yJx4a65c_grow_d5877 yJx4a65c_grow_d5877, Cond.code yJx4a65c_grow_d5877 cJx4a65c_grow_d5877 1 (some (.array (.object "java/lang/Object"))), Cond.methodLink RJx4a65c 69 yJx4a65c_grow_92f84, Cond.instanceMethod yJx4a65c_grow_92f84, Cond.selects RJx4a65c yJx4a65c_grow_92f84 yJx4a65c_grow_92f84, Cond.code yJx4a65c_grow_92f84 cJx4a65c_grow_92f84 4 (some (.array (.object "java/lang/Object"))), Cond.fieldLink RJx4a65c 39 "java/util/ArrayList" "DEFAULTCAPACITY_EMPTY_ELEMENTDATA" "[Ljava/lang/Object;", Cond.methodLink RJx4a65c 79 Lib.Math.max.name, Cond.static Lib.Math.max.name, Cond.initialized "java/lang/Math", Cond.code Lib.Math.max.name Lib.Math.max.code 2 (some .int), Cond.classLink RJx4a65c 7 "java/lang/Object", Cond.methodLink RJx4a65c 73 yJ8_newLength_cabcc]
def wsJx4a65c_add_9ea2d_r2 : List Cond := [Cond.static yJ8_newLength_cabcc, Cond.initialized RJ8, Cond.code yJ8_newLength_cabcc cJ8_newLength_cabcc 4 (some .int), Cond.methodLink RJ8 194 Lib.Math.max.name, Cond.constant RJ8 200 (2147483639), Cond.methodLink RJ8 201 yJ8_hugeLength_7cf53, Cond.static yJ8_hugeLength_7cf53, Cond.code yJ8_hugeLength_7cf53 cJ8_hugeLength_7cf53 3 (some .int), Cond.methodLink RJx4a65c 66 yJ7_copyOf_1904c, Cond.static yJ7_copyOf_1904c, Cond.initialized RJ7, Cond.code yJ7_copyOf_1904c cJ7_copyOf_1904c 2 (some (.array (.object "java/lang/Object"))), Cond.methodLink RJ7 86 ⟨"java/lang/Object", "getClass", "()Ljava/lang/Class;"⟩, Cond.selects "[Ljava/lang/Object;" ⟨"java/lang/Object", "getClass", "()Ljava/lang/Class;"⟩ ⟨"java/lang/Object", "getClass", "()Ljava/lang/Class;"⟩, Cond.instanceMethod ⟨"java/lang/Object", "getClass", "()Ljava/lang/Class;"⟩, Cond.native ⟨"java/lang/Object", "getClass", "()Ljava/lang/Class;"⟩, Cond.methodLink RJ7 300 yJ7_copyOf_6403c, Cond.static yJ7_copyOf_6403c, Cond.code yJ7_copyOf_6403c cJ7_copyOf_6403c 4 (some (.array (.object "java/lang/Object"))), Cond.classLink RJ7 110 "[Ljava/lang/Object;", Cond.classLink RJ7 2 "java/lang/Object", Cond.methodLink RJ7 304 Lib.Math.min.name, Cond.static Lib.Math.min.name, Cond.code Lib.Math.min.name Lib.Math.min.code 2 (some .int)]
def wsJx4a65c_add_9ea2d_r3 : List Cond := [Cond.methodLink RJ7 150 arraycopyName, Cond.native arraycopyName, Cond.static arraycopyName, Cond.initialized "java/lang/System"]
def wsJx4a65c_add_9ea2d : List Cond := .code yJx4a65c_add_9ea2d cJx4a65c_add_9ea2d 2 (some .boolean) :: ((wsJx4a65c_add_9ea2d_r1 ++ (wsJx4a65c_add_9ea2d_r2 ++ wsJx4a65c_add_9ea2d_r3)) ++ wsJx4a65c0)
def wsX7_archer_r1 : List Cond := [Cond.fieldLink RX7 39 "ArrowFieldModel" "thrown" "I", Cond.fieldLink RX7 10 "ArrowFieldModel" "archers" "Ljava/util/ArrayList;", Cond.classLink RX7 54 RX5, Cond.instantiable RX5 12, Cond.initialized RX5, Cond.methodLink RX7 46 yX7_is, Cond.static yX7_is, Cond.initialized RX7, Cond.code yX7_is cX7_is 3 (some .boolean), Cond.methodLink RX7 59 yX7_refuse, Cond.instanceMethod yX7_refuse, Cond.selects RX7 yX7_refuse yX7_refuse, Cond.code yX7_refuse cX7_refuse 2 (some .int), Cond.methodLink RX7 42 yJx4a65c_size_8abf5, Cond.instanceMethod yJx4a65c_size_8abf5, Cond.selects RJx4a65c yJx4a65c_size_8abf5 yJx4a65c_size_8abf5, Cond.initialized RJx4a65c, Cond.code yJx4a65c_size_8abf5 cJx4a65c_size_8abf5 1 (some .int), Cond.fieldLink RJx4a65c 48 "java/util/ArrayList" "size" "I", Cond.instanceMethod yX5_init, Cond.code yX5_init cX5_init 1 none, Cond.methodLink RX5 3 objectInit, Cond.instanceMethod objectInit, Cond.code objectInit ⟨#[0xb1]⟩ 1 none]
def wsX7_archer_r2 : List Cond := [Cond.fieldLink RX5 9 "ArrowFieldModel$Archer" "quiver" "I", Cond.methodLink RX7 70 yJx4a65c_add_9ea2d, Cond.instanceMethod yJx4a65c_add_9ea2d, Cond.selects RJx4a65c yJx4a65c_add_9ea2d yJx4a65c_add_9ea2d, Cond.code yJx4a65c_add_9ea2d cJx4a65c_add_9ea2d 2 (some .boolean), Cond.fieldLink RJx4a65c 63 "java/util/ArrayList" "modCount" "I", Cond.sameField "java/util/ArrayList" "java/util/AbstractList" "modCount" "I", Cond.fieldLink RJx4a65c 9 "java/util/ArrayList" "elementData" "[Ljava/lang/Object;", Cond.methodLink RJx4a65c 131 yJx4a65c_add_72be8, Cond.instanceMethod yJx4a65c_add_72be8, Cond.selects RJx4a65c yJx4a65c_add_72be8 yJx4a65c_add_72be8, Cond.code yJx4a65c_add_72be8 cJx4a65c_add_72be8 4 none, Cond.methodLink RJx4a65c 129 yJx4a65c_grow_d5877, Cond.instanceMethod yJx4a65c_grow_d5877, Cond.selects RJx4a65c yJx4a65c_grow_d5877 yJx4a65c_grow_d5877, Cond.code yJx4a65c_grow_d5877 cJx4a65c_grow_d5877 1 (some (.array (.object "java/lang/Object"))), Cond.methodLink RJx4a65c 69 yJx4a65c_grow_92f84, Cond.instanceMethod yJx4a65c_grow_92f84, Cond.selects RJx4a65c yJx4a65c_grow_92f84 yJx4a65c_grow_92f84, Cond.code yJx4a65c_grow_92f84 cJx4a65c_grow_92f84 4 (some (.array (.object "java/lang/Object"))), Cond.fieldLink RJx4a65c 39 "java/util/ArrayList" "DEFAULTCAPACITY_EMPTY_ELEMENTDATA" "[Ljava/lang/Object;", Cond.methodLink RJx4a65c 79 Lib.Math.max.name, Cond.static Lib.Math.max.name, Cond.initialized "java/lang/Math"]
def wsX7_archer_r3 : List Cond := [Cond.code Lib.Math.max.name Lib.Math.max.code 2 (some .int), Cond.classLink RJx4a65c 7 "java/lang/Object", Cond.methodLink RJx4a65c 73 yJ8_newLength_cabcc, Cond.static yJ8_newLength_cabcc, Cond.initialized RJ8, Cond.code yJ8_newLength_cabcc cJ8_newLength_cabcc 4 (some .int), Cond.methodLink RJ8 194 Lib.Math.max.name, Cond.constant RJ8 200 (2147483639), Cond.methodLink RJ8 201 yJ8_hugeLength_7cf53, Cond.static yJ8_hugeLength_7cf53, Cond.code yJ8_hugeLength_7cf53 cJ8_hugeLength_7cf53 3 (some .int), Cond.methodLink RJx4a65c 66 yJ7_copyOf_1904c, Cond.static yJ7_copyOf_1904c, Cond.initialized RJ7, Cond.code yJ7_copyOf_1904c cJ7_copyOf_1904c 2 (some (.array (.object "java/lang/Object"))), Cond.methodLink RJ7 86 ⟨"java/lang/Object", "getClass", "()Ljava/lang/Class;"⟩, Cond.selects "[Ljava/lang/Object;" ⟨"java/lang/Object", "getClass", "()Ljava/lang/Class;"⟩ ⟨"java/lang/Object", "getClass", "()Ljava/lang/Class;"⟩, Cond.instanceMethod ⟨"java/lang/Object", "getClass", "()Ljava/lang/Class;"⟩, Cond.native ⟨"java/lang/Object", "getClass", "()Ljava/lang/Class;"⟩, Cond.methodLink RJ7 300 yJ7_copyOf_6403c, Cond.static yJ7_copyOf_6403c, Cond.code yJ7_copyOf_6403c cJ7_copyOf_6403c 4 (some (.array (.object "java/lang/Object"))), Cond.classLink RJ7 110 "[Ljava/lang/Object;", Cond.classLink RJ7 2 "java/lang/Object"]
def wsX7_archer_r4 : List Cond := [Cond.methodLink RJ7 304 Lib.Math.min.name, Cond.static Lib.Math.min.name, Cond.code Lib.Math.min.name Lib.Math.min.code 2 (some .int), Cond.methodLink RJ7 150 arraycopyName, Cond.native arraycopyName, Cond.static arraycopyName, Cond.initialized "java/lang/System"]
def wsX7_archer : List Cond := .code yX7_archer cX7_archer 4 (some .int) :: ((wsX7_archer_r1 ++ (wsX7_archer_r2 ++ (wsX7_archer_r3 ++ wsX7_archer_r4))) ++ wsX70 ++ wsX50 ++ wsJx4a65c0)
def wsX7_quiver_r1 : List Cond := [Cond.fieldLink RX7 39 "ArrowFieldModel" "thrown" "I", Cond.fieldLink RX7 16 "ArrowFieldModel" "quivers" "Ljava/util/ArrayList;", Cond.classLink RX7 74 RX6, Cond.instantiable RX6 5, Cond.initialized RX6, Cond.methodLink RX7 46 yX7_is, Cond.static yX7_is, Cond.initialized RX7, Cond.code yX7_is cX7_is 3 (some .boolean), Cond.methodLink RX7 59 yX7_refuse, Cond.instanceMethod yX7_refuse, Cond.selects RX7 yX7_refuse yX7_refuse, Cond.code yX7_refuse cX7_refuse 2 (some .int), Cond.methodLink RX7 42 yJx4a65c_size_8abf5, Cond.instanceMethod yJx4a65c_size_8abf5, Cond.selects RJx4a65c yJx4a65c_size_8abf5 yJx4a65c_size_8abf5, Cond.initialized RJx4a65c, Cond.code yJx4a65c_size_8abf5 cJx4a65c_size_8abf5 1 (some .int), Cond.fieldLink RJx4a65c 48 "java/util/ArrayList" "size" "I", Cond.instanceMethod yX6_init, Cond.code yX6_init cX6_init 1 none, Cond.methodLink RX6 3 objectInit, Cond.instanceMethod objectInit, Cond.code objectInit ⟨#[0xb1]⟩ 1 none]
def wsX7_quiver_r2 : List Cond := [Cond.arrayClass .int, Cond.fieldLink RX6 9 "ArrowFieldModel$Quiver" "where" "[I", Cond.arrayClass .double, Cond.fieldLink RX6 15 "ArrowFieldModel$Quiver" "h" "[D", Cond.fieldLink RX6 19 "ArrowFieldModel$Quiver" "v" "[D", Cond.methodLink RX7 70 yJx4a65c_add_9ea2d, Cond.instanceMethod yJx4a65c_add_9ea2d, Cond.selects RJx4a65c yJx4a65c_add_9ea2d yJx4a65c_add_9ea2d, Cond.code yJx4a65c_add_9ea2d cJx4a65c_add_9ea2d 2 (some .boolean), Cond.fieldLink RJx4a65c 63 "java/util/ArrayList" "modCount" "I", Cond.sameField "java/util/ArrayList" "java/util/AbstractList" "modCount" "I", Cond.fieldLink RJx4a65c 9 "java/util/ArrayList" "elementData" "[Ljava/lang/Object;", Cond.methodLink RJx4a65c 131 yJx4a65c_add_72be8, Cond.instanceMethod yJx4a65c_add_72be8, Cond.selects RJx4a65c yJx4a65c_add_72be8 yJx4a65c_add_72be8, Cond.code yJx4a65c_add_72be8 cJx4a65c_add_72be8 4 none, Cond.methodLink RJx4a65c 129 yJx4a65c_grow_d5877, Cond.instanceMethod yJx4a65c_grow_d5877, Cond.selects RJx4a65c yJx4a65c_grow_d5877 yJx4a65c_grow_d5877, Cond.code yJx4a65c_grow_d5877 cJx4a65c_grow_d5877 1 (some (.array (.object "java/lang/Object"))), Cond.methodLink RJx4a65c 69 yJx4a65c_grow_92f84, Cond.instanceMethod yJx4a65c_grow_92f84, Cond.selects RJx4a65c yJx4a65c_grow_92f84 yJx4a65c_grow_92f84, Cond.code yJx4a65c_grow_92f84 cJx4a65c_grow_92f84 4 (some (.array (.object "java/lang/Object")))]
def wsX7_quiver_r3 : List Cond := [Cond.fieldLink RJx4a65c 39 "java/util/ArrayList" "DEFAULTCAPACITY_EMPTY_ELEMENTDATA" "[Ljava/lang/Object;", Cond.methodLink RJx4a65c 79 Lib.Math.max.name, Cond.static Lib.Math.max.name, Cond.initialized "java/lang/Math", Cond.code Lib.Math.max.name Lib.Math.max.code 2 (some .int), Cond.classLink RJx4a65c 7 "java/lang/Object", Cond.methodLink RJx4a65c 73 yJ8_newLength_cabcc, Cond.static yJ8_newLength_cabcc, Cond.initialized RJ8, Cond.code yJ8_newLength_cabcc cJ8_newLength_cabcc 4 (some .int), Cond.methodLink RJ8 194 Lib.Math.max.name, Cond.constant RJ8 200 (2147483639), Cond.methodLink RJ8 201 yJ8_hugeLength_7cf53, Cond.static yJ8_hugeLength_7cf53, Cond.code yJ8_hugeLength_7cf53 cJ8_hugeLength_7cf53 3 (some .int), Cond.methodLink RJx4a65c 66 yJ7_copyOf_1904c, Cond.static yJ7_copyOf_1904c, Cond.initialized RJ7, Cond.code yJ7_copyOf_1904c cJ7_copyOf_1904c 2 (some (.array (.object "java/lang/Object"))), Cond.methodLink RJ7 86 ⟨"java/lang/Object", "getClass", "()Ljava/lang/Class;"⟩, Cond.selects "[Ljava/lang/Object;" ⟨"java/lang/Object", "getClass", "()Ljava/lang/Class;"⟩ ⟨"java/lang/Object", "getClass", "()Ljava/lang/Class;"⟩, Cond.instanceMethod ⟨"java/lang/Object", "getClass", "()Ljava/lang/Class;"⟩, Cond.native ⟨"java/lang/Object", "getClass", "()Ljava/lang/Class;"⟩, Cond.methodLink RJ7 300 yJ7_copyOf_6403c]
def wsX7_quiver_r4 : List Cond := [Cond.static yJ7_copyOf_6403c, Cond.code yJ7_copyOf_6403c cJ7_copyOf_6403c 4 (some (.array (.object "java/lang/Object"))), Cond.classLink RJ7 110 "[Ljava/lang/Object;", Cond.classLink RJ7 2 "java/lang/Object", Cond.methodLink RJ7 304 Lib.Math.min.name, Cond.static Lib.Math.min.name, Cond.code Lib.Math.min.name Lib.Math.min.code 2 (some .int), Cond.methodLink RJ7 150 arraycopyName, Cond.native arraycopyName, Cond.static arraycopyName, Cond.initialized "java/lang/System"]
def wsX7_quiver : List Cond := .code yX7_quiver cX7_quiver 4 (some .int) :: ((wsX7_quiver_r1 ++ (wsX7_quiver_r2 ++ (wsX7_quiver_r3 ++ wsX7_quiver_r4))) ++ wsX70 ++ wsX60 ++ wsJx4a65c0)
def wsX7_give_r1 : List Cond := [Cond.fieldLink RX7 39 "ArrowFieldModel" "thrown" "I", Cond.fieldLink RX7 10 "ArrowFieldModel" "archers" "Ljava/util/ArrayList;", Cond.classLink RX7 54 "ArrowFieldModel$Archer", Cond.methodLink RX7 83 yX7_isArcher, Cond.instanceMethod yX7_isArcher, Cond.selects RX7 yX7_isArcher yX7_isArcher, Cond.initialized RX7, Cond.code yX7_isArcher cX7_isArcher 2 (some .boolean), Cond.methodLink RX7 42 yJx4a65c_size_8abf5, Cond.instanceMethod yJx4a65c_size_8abf5, Cond.selects RJx4a65c yJx4a65c_size_8abf5 yJx4a65c_size_8abf5, Cond.initialized RJx4a65c, Cond.code yJx4a65c_size_8abf5 cJx4a65c_size_8abf5 1 (some .int), Cond.fieldLink RJx4a65c 48 "java/util/ArrayList" "size" "I", Cond.methodLink RX7 46 yX7_is, Cond.static yX7_is, Cond.code yX7_is cX7_is 3 (some .boolean), Cond.methodLink RX7 87 yX7_isQuiver, Cond.instanceMethod yX7_isQuiver, Cond.selects RX7 yX7_isQuiver yX7_isQuiver, Cond.code yX7_isQuiver cX7_isQuiver 2 (some .boolean), Cond.fieldLink RX7 16 "ArrowFieldModel" "quivers" "Ljava/util/ArrayList;", Cond.methodLink RX7 59 yX7_refuse, Cond.instanceMethod yX7_refuse]
def wsX7_give_r2 : List Cond := [Cond.selects RX7 yX7_refuse yX7_refuse, Cond.code yX7_refuse cX7_refuse 2 (some .int), Cond.methodLink RX7 90 yX7_isOn, Cond.instanceMethod yX7_isOn, Cond.selects RX7 yX7_isOn yX7_isOn, Cond.code yX7_isOn cX7_isOn 1 (some .boolean), Cond.fieldLink RX7 29 "ArrowFieldModel" "party" "[I", Cond.methodLink RX7 94 yX7_holder, Cond.instanceMethod yX7_holder, Cond.selects RX7 yX7_holder yX7_holder, Cond.code yX7_holder cX7_holder 3 (some .int), Cond.methodLink RX7 50 yJx4a65c_get_915e3, Cond.instanceMethod yJx4a65c_get_915e3, Cond.selects RJx4a65c yJx4a65c_get_915e3 yJx4a65c_get_915e3, Cond.code yJx4a65c_get_915e3 cJx4a65c_get_915e3 2 (some (.object "java/lang/Object")), Cond.methodLink RJx4a65c 118 yJ15_checkIndex_7cf53, Cond.static yJ15_checkIndex_7cf53, Cond.initialized RJ15, Cond.code yJ15_checkIndex_7cf53 cJ15_checkIndex_7cf53 2 (some .int), Cond.methodLink RJ15 105 yJ3_checkIndex_8e157, Cond.static yJ3_checkIndex_8e157, Cond.initialized RJ3, Cond.code yJ3_checkIndex_8e157 cJ3_checkIndex_8e157 3 (some .int), Cond.methodLink RJx4a65c 123 yJx4a65c_elementData_915e3]
def wsX7_give_r3 : List Cond := [Cond.instanceMethod yJx4a65c_elementData_915e3, Cond.selects RJx4a65c yJx4a65c_elementData_915e3 yJx4a65c_elementData_915e3, Cond.code yJx4a65c_elementData_915e3 cJx4a65c_elementData_915e3 2 (some (.object "java/lang/Object")), Cond.fieldLink RJx4a65c 9 "java/util/ArrayList" "elementData" "[Ljava/lang/Object;"]
def wsX7_give : List Cond := .code yX7_give cX7_give 4 (some .int) :: ((wsX7_give_r1 ++ (wsX7_give_r2 ++ wsX7_give_r3)) ++ wsX70 ++ wsX50 ++ wsJx4a65c0)
def wsX7_tune_r1 : List Cond := [Cond.fieldLink RX7 39 "ArrowFieldModel" "thrown" "I", Cond.fieldLink RX7 10 "ArrowFieldModel" "archers" "Ljava/util/ArrayList;", Cond.classLink RX7 54 "ArrowFieldModel$Archer", Cond.methodLink RX7 83 yX7_isArcher, Cond.instanceMethod yX7_isArcher, Cond.selects RX7 yX7_isArcher yX7_isArcher, Cond.initialized RX7, Cond.code yX7_isArcher cX7_isArcher 2 (some .boolean), Cond.methodLink RX7 42 yJx4a65c_size_8abf5, Cond.instanceMethod yJx4a65c_size_8abf5, Cond.selects RJx4a65c yJx4a65c_size_8abf5 yJx4a65c_size_8abf5, Cond.initialized RJx4a65c, Cond.code yJx4a65c_size_8abf5 cJx4a65c_size_8abf5 1 (some .int), Cond.fieldLink RJx4a65c 48 "java/util/ArrayList" "size" "I", Cond.methodLink RX7 46 yX7_is, Cond.static yX7_is, Cond.code yX7_is cX7_is 3 (some .boolean), Cond.methodLink RX7 59 yX7_refuse, Cond.instanceMethod yX7_refuse, Cond.selects RX7 yX7_refuse yX7_refuse, Cond.code yX7_refuse cX7_refuse 2 (some .int), Cond.methodLink RX7 50 yJx4a65c_get_915e3, Cond.instanceMethod yJx4a65c_get_915e3, Cond.selects RJx4a65c yJx4a65c_get_915e3 yJx4a65c_get_915e3]
def wsX7_tune_r2 : List Cond := [Cond.code yJx4a65c_get_915e3 cJx4a65c_get_915e3 2 (some (.object "java/lang/Object")), Cond.methodLink RJx4a65c 118 yJ15_checkIndex_7cf53, Cond.static yJ15_checkIndex_7cf53, Cond.initialized RJ15, Cond.code yJ15_checkIndex_7cf53 cJ15_checkIndex_7cf53 2 (some .int), Cond.methodLink RJ15 105 yJ3_checkIndex_8e157, Cond.static yJ3_checkIndex_8e157, Cond.initialized RJ3, Cond.code yJ3_checkIndex_8e157 cJ3_checkIndex_8e157 3 (some .int), Cond.methodLink RJx4a65c 123 yJx4a65c_elementData_915e3, Cond.instanceMethod yJx4a65c_elementData_915e3, Cond.selects RJx4a65c yJx4a65c_elementData_915e3 yJx4a65c_elementData_915e3, Cond.code yJx4a65c_elementData_915e3 cJx4a65c_elementData_915e3 2 (some (.object "java/lang/Object")), Cond.fieldLink RJx4a65c 9 "java/util/ArrayList" "elementData" "[Ljava/lang/Object;"]
def wsX7_tune : List Cond := .code yX7_tune cX7_tune 6 (some .int) :: ((wsX7_tune_r1 ++ wsX7_tune_r2) ++ wsX70 ++ wsX50 ++ wsJx4a65c0)
def wsX7_string_r1 : List Cond := [Cond.fieldLink RX7 39 "ArrowFieldModel" "thrown" "I", Cond.fieldLink RX7 10 "ArrowFieldModel" "archers" "Ljava/util/ArrayList;", Cond.classLink RX7 54 "ArrowFieldModel$Archer", Cond.methodLink RX7 83 yX7_isArcher, Cond.instanceMethod yX7_isArcher, Cond.selects RX7 yX7_isArcher yX7_isArcher, Cond.initialized RX7, Cond.code yX7_isArcher cX7_isArcher 2 (some .boolean), Cond.methodLink RX7 42 yJx4a65c_size_8abf5, Cond.instanceMethod yJx4a65c_size_8abf5, Cond.selects RJx4a65c yJx4a65c_size_8abf5 yJx4a65c_size_8abf5, Cond.initialized RJx4a65c, Cond.code yJx4a65c_size_8abf5 cJx4a65c_size_8abf5 1 (some .int), Cond.fieldLink RJx4a65c 48 "java/util/ArrayList" "size" "I", Cond.methodLink RX7 46 yX7_is, Cond.static yX7_is, Cond.code yX7_is cX7_is 3 (some .boolean), Cond.methodLink RX7 50 yJx4a65c_get_915e3, Cond.instanceMethod yJx4a65c_get_915e3, Cond.selects RJx4a65c yJx4a65c_get_915e3 yJx4a65c_get_915e3, Cond.code yJx4a65c_get_915e3 cJx4a65c_get_915e3 2 (some (.object "java/lang/Object")), Cond.methodLink RJx4a65c 118 yJ15_checkIndex_7cf53, Cond.static yJ15_checkIndex_7cf53, Cond.initialized RJ15]
def wsX7_string_r2 : List Cond := [Cond.code yJ15_checkIndex_7cf53 cJ15_checkIndex_7cf53 2 (some .int), Cond.methodLink RJ15 105 yJ3_checkIndex_8e157, Cond.static yJ3_checkIndex_8e157, Cond.initialized RJ3, Cond.code yJ3_checkIndex_8e157 cJ3_checkIndex_8e157 3 (some .int), Cond.methodLink RJx4a65c 123 yJx4a65c_elementData_915e3, Cond.instanceMethod yJx4a65c_elementData_915e3, Cond.selects RJx4a65c yJx4a65c_elementData_915e3 yJx4a65c_elementData_915e3, Cond.code yJx4a65c_elementData_915e3 cJx4a65c_elementData_915e3 2 (some (.object "java/lang/Object")), Cond.fieldLink RJx4a65c 9 "java/util/ArrayList" "elementData" "[Ljava/lang/Object;"]
def wsX7_string : List Cond := .code yX7_string cX7_string 4 (some .double) :: ((wsX7_string_r1 ++ wsX7_string_r2) ++ wsX70 ++ wsX50 ++ wsJx4a65c0)
def wsJx35411_init_45d68 : List Cond := .code yJx35411_init_45d68 cJx35411_init_45d68 2 none :: ([.fieldLink RJx35411 1 "java/util/ArrayList$Itr" "this$0" "Ljava/util/ArrayList;", .methodLink RJx35411 7 objectInit, .instanceMethod objectInit, .code objectInit ⟨#[0xb1]⟩ 1 none, .fieldLink RJx35411 13 "java/util/ArrayList$Itr" "lastRet" "I", .fieldLink RJx35411 17 "java/util/ArrayList" "modCount" "I", .sameField "java/util/ArrayList" "java/util/AbstractList" "modCount" "I", .fieldLink RJx35411 22 "java/util/ArrayList$Itr" "expectedModCount" "I"] ++ wsJx354110 ++ wsJx4a65c0)
def wsJx4a65c_iterator_32c93 : List Cond := .code yJx4a65c_iterator_32c93 cJx4a65c_iterator_32c93 1 (some (.object "java/util/Iterator")) :: ([.classLink RJx4a65c 267 RJx35411, .instantiable RJx35411 4, .initialized RJx35411, .methodLink RJx4a65c 269 yJx35411_init_45d68, .instanceMethod yJx35411_init_45d68, .code yJx35411_init_45d68 cJx35411_init_45d68 2 none, .fieldLink RJx35411 1 "java/util/ArrayList$Itr" "this$0" "Ljava/util/ArrayList;", .methodLink RJx35411 7 objectInit, .instanceMethod objectInit, .code objectInit ⟨#[0xb1]⟩ 1 none, .fieldLink RJx35411 13 "java/util/ArrayList$Itr" "lastRet" "I", .fieldLink RJx35411 17 "java/util/ArrayList" "modCount" "I", .sameField "java/util/ArrayList" "java/util/AbstractList" "modCount" "I", .fieldLink RJx35411 22 "java/util/ArrayList$Itr" "expectedModCount" "I"] ++ wsJx354110 ++ wsJx4a65c0)
def wsJx35411_hasNext_aae02 : List Cond := .code yJx35411_hasNext_aae02 cJx35411_hasNext_aae02 1 (some .boolean) :: ([.fieldLink RJx35411 25 "java/util/ArrayList$Itr" "cursor" "I", .fieldLink RJx35411 1 "java/util/ArrayList$Itr" "this$0" "Ljava/util/ArrayList;"] ++ wsJx354110 ++ wsJx4a65c0)
def wsJx35411_checkForComodification_da8c8 : List Cond := .code yJx35411_checkForComodification_da8c8 cJx35411_checkForComodification_da8c8 1 none :: ([.fieldLink RJx35411 1 "java/util/ArrayList$Itr" "this$0" "Ljava/util/ArrayList;", .fieldLink RJx35411 17 "java/util/ArrayList" "modCount" "I", .sameField "java/util/ArrayList" "java/util/AbstractList" "modCount" "I", .fieldLink RJx35411 22 "java/util/ArrayList$Itr" "expectedModCount" "I"] ++ wsJx354110 ++ wsJx4a65c0)
def wsJx35411_next_0502b : List Cond := .code yJx35411_next_0502b cJx35411_next_0502b 3 (some (.object "java/lang/Object")) :: ([.fieldLink RJx35411 25 "java/util/ArrayList$Itr" "cursor" "I", .fieldLink RJx35411 1 "java/util/ArrayList$Itr" "this$0" "Ljava/util/ArrayList;", .fieldLink RJx35411 37 "java/util/ArrayList" "elementData" "[Ljava/lang/Object;", .fieldLink RJx35411 13 "java/util/ArrayList$Itr" "lastRet" "I", .methodLink RJx35411 31 yJx35411_checkForComodification_da8c8, .instanceMethod yJx35411_checkForComodification_da8c8, .selects RJx35411 yJx35411_checkForComodification_da8c8 yJx35411_checkForComodification_da8c8, .initialized RJx35411, .code yJx35411_checkForComodification_da8c8 cJx35411_checkForComodification_da8c8 1 none, .fieldLink RJx35411 17 "java/util/ArrayList" "modCount" "I", .sameField "java/util/ArrayList" "java/util/AbstractList" "modCount" "I", .fieldLink RJx35411 22 "java/util/ArrayList$Itr" "expectedModCount" "I"] ++ wsJx354110 ++ wsJx4a65c0)
def wsX7_stuck_r1 : List Cond := [Cond.fieldLink RX7 16 "ArrowFieldModel" "quivers" "Ljava/util/ArrayList;", Cond.classLink RX7 74 "ArrowFieldModel$Quiver", Cond.methodLink RX7 107 yJx4a65c_iterator_32c93, Cond.instanceMethod yJx4a65c_iterator_32c93, Cond.selects RJx4a65c yJx4a65c_iterator_32c93 yJx4a65c_iterator_32c93, Cond.initialized RJx4a65c, Cond.code yJx4a65c_iterator_32c93 cJx4a65c_iterator_32c93 1 (some (.object "java/util/Iterator")), Cond.classLink RJx4a65c 267 RJx35411, Cond.instantiable RJx35411 4, Cond.initialized RJx35411, Cond.methodLink RJx4a65c 269 yJx35411_init_45d68, Cond.instanceMethod yJx35411_init_45d68, Cond.code yJx35411_init_45d68 cJx35411_init_45d68 2 none, Cond.fieldLink RJx35411 1 "java/util/ArrayList$Itr" "this$0" "Ljava/util/ArrayList;", Cond.methodLink RJx35411 7 objectInit, Cond.instanceMethod objectInit, Cond.code objectInit ⟨#[0xb1]⟩ 1 none, Cond.fieldLink RJx35411 13 "java/util/ArrayList$Itr" "lastRet" "I", Cond.fieldLink RJx35411 17 "java/util/ArrayList" "modCount" "I", Cond.sameField "java/util/ArrayList" "java/util/AbstractList" "modCount" "I", Cond.fieldLink RJx35411 22 "java/util/ArrayList$Itr" "expectedModCount" "I", Cond.methodLink RX7 111 ⟨"java/util/Iterator", "hasNext", "()Z"⟩, Cond.selects RJx35411 ⟨"java/util/Iterator", "hasNext", "()Z"⟩ yJx35411_hasNext_aae02, Cond.instanceMethod yJx35411_hasNext_aae02]
def wsX7_stuck_r2 : List Cond := [Cond.code yJx35411_hasNext_aae02 cJx35411_hasNext_aae02 1 (some .boolean), Cond.fieldLink RJx35411 25 "java/util/ArrayList$Itr" "cursor" "I", Cond.methodLink RX7 116 ⟨"java/util/Iterator", "next", "()Ljava/lang/Object;"⟩, Cond.selects RJx35411 ⟨"java/util/Iterator", "next", "()Ljava/lang/Object;"⟩ yJx35411_next_0502b, Cond.instanceMethod yJx35411_next_0502b, Cond.code yJx35411_next_0502b cJx35411_next_0502b 3 (some (.object "java/lang/Object")), Cond.fieldLink RJx35411 37 "java/util/ArrayList" "elementData" "[Ljava/lang/Object;", Cond.methodLink RJx35411 31 yJx35411_checkForComodification_da8c8, Cond.instanceMethod yJx35411_checkForComodification_da8c8, Cond.selects RJx35411 yJx35411_checkForComodification_da8c8 yJx35411_checkForComodification_da8c8, Cond.code yJx35411_checkForComodification_da8c8 cJx35411_checkForComodification_da8c8 1 none, Cond.methodLink RX7 120 yX6_set, Cond.instanceMethod yX6_set, Cond.selects RX6 yX6_set yX6_set, Cond.initialized RX6, Cond.code yX6_set cX6_set 4 (some .int), Cond.fieldLink RX6 9 "ArrowFieldModel$Quiver" "where" "[I", Cond.methodLink RX7 123 yJ6_bitCount_0f7a4, Cond.static yJ6_bitCount_0f7a4, Cond.initialized RJ6, Cond.code yJ6_bitCount_0f7a4 cJ6_bitCount_0f7a4 1 (some .int), Cond.constant RJ6 265 (1431655765), Cond.constant RJ6 266 (858993459), Cond.constant RJ6 267 (252645135)]
def wsX7_stuck : List Cond := .code yX7_stuck cX7_stuck 4 (some .int) :: ((wsX7_stuck_r1 ++ wsX7_stuck_r2) ++ wsX70 ++ wsJx354110 ++ wsJx4a65c0 ++ wsX60)
def wsX7_field_r1 : List Cond := [Cond.fieldLink RX7 39 "ArrowFieldModel" "thrown" "I", Cond.fieldLink RX7 19 "ArrowFieldModel" "distance" "I", Cond.fieldLink RX7 131 "ArrowFieldModel" "wind" "I", Cond.fieldLink RX7 23 "ArrowFieldModel" "face" "I", Cond.methodLink RX7 46 yX7_is, Cond.static yX7_is, Cond.initialized RX7, Cond.code yX7_is cX7_is 3 (some .boolean), Cond.methodLink RX7 59 yX7_refuse, Cond.instanceMethod yX7_refuse, Cond.selects RX7 yX7_refuse yX7_refuse, Cond.code yX7_refuse cX7_refuse 2 (some .int), Cond.methodLink RX7 128 yX7_stuck, Cond.instanceMethod yX7_stuck, Cond.selects RX7 yX7_stuck yX7_stuck, Cond.code yX7_stuck cX7_stuck 4 (some .int), Cond.fieldLink RX7 16 "ArrowFieldModel" "quivers" "Ljava/util/ArrayList;", Cond.classLink RX7 74 "ArrowFieldModel$Quiver", Cond.methodLink RX7 107 yJx4a65c_iterator_32c93, Cond.instanceMethod yJx4a65c_iterator_32c93, Cond.selects RJx4a65c yJx4a65c_iterator_32c93 yJx4a65c_iterator_32c93, Cond.initialized RJx4a65c, Cond.code yJx4a65c_iterator_32c93 cJx4a65c_iterator_32c93 1 (some (.object "java/util/Iterator")), Cond.classLink RJx4a65c 267 RJx35411]
def wsX7_field_r2 : List Cond := [Cond.instantiable RJx35411 4, Cond.initialized RJx35411, Cond.methodLink RJx4a65c 269 yJx35411_init_45d68, Cond.instanceMethod yJx35411_init_45d68, Cond.code yJx35411_init_45d68 cJx35411_init_45d68 2 none, Cond.fieldLink RJx35411 1 "java/util/ArrayList$Itr" "this$0" "Ljava/util/ArrayList;", Cond.methodLink RJx35411 7 objectInit, Cond.instanceMethod objectInit, Cond.code objectInit ⟨#[0xb1]⟩ 1 none, Cond.fieldLink RJx35411 13 "java/util/ArrayList$Itr" "lastRet" "I", Cond.fieldLink RJx35411 17 "java/util/ArrayList" "modCount" "I", Cond.sameField "java/util/ArrayList" "java/util/AbstractList" "modCount" "I", Cond.fieldLink RJx35411 22 "java/util/ArrayList$Itr" "expectedModCount" "I", Cond.methodLink RX7 111 ⟨"java/util/Iterator", "hasNext", "()Z"⟩, Cond.selects RJx35411 ⟨"java/util/Iterator", "hasNext", "()Z"⟩ yJx35411_hasNext_aae02, Cond.instanceMethod yJx35411_hasNext_aae02, Cond.code yJx35411_hasNext_aae02 cJx35411_hasNext_aae02 1 (some .boolean), Cond.fieldLink RJx35411 25 "java/util/ArrayList$Itr" "cursor" "I", Cond.methodLink RX7 116 ⟨"java/util/Iterator", "next", "()Ljava/lang/Object;"⟩, Cond.selects RJx35411 ⟨"java/util/Iterator", "next", "()Ljava/lang/Object;"⟩ yJx35411_next_0502b, Cond.instanceMethod yJx35411_next_0502b, Cond.code yJx35411_next_0502b cJx35411_next_0502b 3 (some (.object "java/lang/Object")), Cond.fieldLink RJx35411 37 "java/util/ArrayList" "elementData" "[Ljava/lang/Object;", Cond.methodLink RJx35411 31 yJx35411_checkForComodification_da8c8]
def wsX7_field_r3 : List Cond := [Cond.instanceMethod yJx35411_checkForComodification_da8c8, Cond.selects RJx35411 yJx35411_checkForComodification_da8c8 yJx35411_checkForComodification_da8c8, Cond.code yJx35411_checkForComodification_da8c8 cJx35411_checkForComodification_da8c8 1 none, Cond.methodLink RX7 120 yX6_set, Cond.instanceMethod yX6_set, Cond.selects RX6 yX6_set yX6_set, Cond.initialized RX6, Cond.code yX6_set cX6_set 4 (some .int), Cond.fieldLink RX6 9 "ArrowFieldModel$Quiver" "where" "[I", Cond.methodLink RX7 123 yJ6_bitCount_0f7a4, Cond.static yJ6_bitCount_0f7a4, Cond.initialized RJ6, Cond.code yJ6_bitCount_0f7a4 cJ6_bitCount_0f7a4 1 (some .int), Cond.constant RJ6 265 (1431655765), Cond.constant RJ6 266 (858993459), Cond.constant RJ6 267 (252645135)]
def wsX7_field : List Cond := .code yX7_field cX7_field 5 (some .int) :: ((wsX7_field_r1 ++ (wsX7_field_r2 ++ wsX7_field_r3)) ++ wsX70 ++ wsJx354110 ++ wsJx4a65c0 ++ wsX60)
def wsX7_wind : List Cond := .code yX7_wind cX7_wind 3 (some .int) :: ([.fieldLink RX7 39 "ArrowFieldModel" "thrown" "I", .fieldLink RX7 131 "ArrowFieldModel" "wind" "I", .methodLink RX7 46 yX7_is, .static yX7_is, .initialized RX7, .code yX7_is cX7_is 3 (some .boolean), .methodLink RX7 59 yX7_refuse, .instanceMethod yX7_refuse, .selects RX7 yX7_refuse yX7_refuse, .code yX7_refuse cX7_refuse 2 (some .int)] ++ wsX70)
def wsX7_speed : List Cond := .code yX7_speed cX7_speed 2 (some .double) :: ([.constantDouble RX7 134 (4648488871632306176), .constantDouble RX7 136 (4641240890982006784)] ++ wsX50 ++ wsX60)
def wsX7_fly : List Cond := .code yX7_fly cX7_fly 15 none :: ([.constantDouble RX7 142 (4647714815446351872), .constantDouble RX7 144 (4620693217682128896), .constantDouble RX7 146 (4643211215818981376), .fieldLink RX7 148 "ArrowFieldModel" "h" "D", .fieldLink RX7 152 "ArrowFieldModel" "v" "D", .constantDouble RX7 155 (4625196817309499392), .constantDouble RX7 157 (4603804719079489536), .fieldLink RX7 131 "ArrowFieldModel" "wind" "I", .constantDouble RX7 159 (4634204016564240384), .methodLink RX7 138 yX7_speed, .static yX7_speed, .initialized RX7, .code yX7_speed cX7_speed 2 (some .double), .constantDouble RX7 134 (4648488871632306176), .constantDouble RX7 136 (4641240890982006784)] ++ wsX50 ++ wsX60 ++ wsX70)
def wsX7_score : List Cond := .code yX7_score cX7_score 6 (some .int) :: ([.fieldLink RX7 23 "ArrowFieldModel" "face" "I", .constantDouble RX7 159 (4634204016564240384), .constantDouble RX7 161 (4575657221408423936)] ++ wsX70)
def wsJ9_abs_294c1 : List Cond := .code yJ9_abs_294c1 cJ9_abs_294c1 2 (some .double) :: ([.methodLink RJ9 79 ⟨"java/lang/Double", "doubleToRawLongBits", "(D)J"⟩, .native ⟨"java/lang/Double", "doubleToRawLongBits", "(D)J"⟩, .static ⟨"java/lang/Double", "doubleToRawLongBits", "(D)J"⟩, .initialized "java/lang/Double", .constantLong RJ9 135 (9223372036854775807), .methodLink RJ9 166 ⟨"java/lang/Double", "longBitsToDouble", "(J)D"⟩, .native ⟨"java/lang/Double", "longBitsToDouble", "(J)D"⟩, .static ⟨"java/lang/Double", "longBitsToDouble", "(J)D"⟩])
def wsX7_split_r1 : List Cond := [Cond.fieldLink RX7 16 "ArrowFieldModel" "quivers" "Ljava/util/ArrayList;", Cond.classLink RX7 74 "ArrowFieldModel$Quiver", Cond.fieldLink RX7 148 "ArrowFieldModel" "h" "D", Cond.constantDouble RX7 175 (4580160821035794432), Cond.fieldLink RX7 152 "ArrowFieldModel" "v" "D", Cond.fieldLink RX7 179 "ArrowFieldModel" "splits" "I", Cond.methodLink RX7 107 yJx4a65c_iterator_32c93, Cond.instanceMethod yJx4a65c_iterator_32c93, Cond.selects RJx4a65c yJx4a65c_iterator_32c93 yJx4a65c_iterator_32c93, Cond.initialized RJx4a65c, Cond.code yJx4a65c_iterator_32c93 cJx4a65c_iterator_32c93 1 (some (.object "java/util/Iterator")), Cond.classLink RJx4a65c 267 RJx35411, Cond.instantiable RJx35411 4, Cond.initialized RJx35411, Cond.methodLink RJx4a65c 269 yJx35411_init_45d68, Cond.instanceMethod yJx35411_init_45d68, Cond.code yJx35411_init_45d68 cJx35411_init_45d68 2 none, Cond.fieldLink RJx35411 1 "java/util/ArrayList$Itr" "this$0" "Ljava/util/ArrayList;", Cond.methodLink RJx35411 7 objectInit, Cond.instanceMethod objectInit, Cond.code objectInit ⟨#[0xb1]⟩ 1 none, Cond.fieldLink RJx35411 13 "java/util/ArrayList$Itr" "lastRet" "I", Cond.fieldLink RJx35411 17 "java/util/ArrayList" "modCount" "I", Cond.sameField "java/util/ArrayList" "java/util/AbstractList" "modCount" "I"]
def wsX7_split_r2 : List Cond := [Cond.fieldLink RJx35411 22 "java/util/ArrayList$Itr" "expectedModCount" "I", Cond.methodLink RX7 111 ⟨"java/util/Iterator", "hasNext", "()Z"⟩, Cond.selects RJx35411 ⟨"java/util/Iterator", "hasNext", "()Z"⟩ yJx35411_hasNext_aae02, Cond.instanceMethod yJx35411_hasNext_aae02, Cond.code yJx35411_hasNext_aae02 cJx35411_hasNext_aae02 1 (some .boolean), Cond.fieldLink RJx35411 25 "java/util/ArrayList$Itr" "cursor" "I", Cond.methodLink RX7 116 ⟨"java/util/Iterator", "next", "()Ljava/lang/Object;"⟩, Cond.selects RJx35411 ⟨"java/util/Iterator", "next", "()Ljava/lang/Object;"⟩ yJx35411_next_0502b, Cond.instanceMethod yJx35411_next_0502b, Cond.code yJx35411_next_0502b cJx35411_next_0502b 3 (some (.object "java/lang/Object")), Cond.fieldLink RJx35411 37 "java/util/ArrayList" "elementData" "[Ljava/lang/Object;", Cond.methodLink RJx35411 31 yJx35411_checkForComodification_da8c8, Cond.instanceMethod yJx35411_checkForComodification_da8c8, Cond.selects RJx35411 yJx35411_checkForComodification_da8c8 yJx35411_checkForComodification_da8c8, Cond.code yJx35411_checkForComodification_da8c8 cJx35411_checkForComodification_da8c8 1 none, Cond.methodLink RX7 169 yJ9_abs_294c1, Cond.static yJ9_abs_294c1, Cond.initialized RJ9, Cond.code yJ9_abs_294c1 cJ9_abs_294c1 2 (some .double), Cond.methodLink RJ9 79 ⟨"java/lang/Double", "doubleToRawLongBits", "(D)J"⟩, Cond.native ⟨"java/lang/Double", "doubleToRawLongBits", "(D)J"⟩, Cond.static ⟨"java/lang/Double", "doubleToRawLongBits", "(D)J"⟩, Cond.initialized "java/lang/Double", Cond.constantLong RJ9 135 (9223372036854775807)]
def wsX7_split_r3 : List Cond := [Cond.methodLink RJ9 166 ⟨"java/lang/Double", "longBitsToDouble", "(J)D"⟩, Cond.native ⟨"java/lang/Double", "longBitsToDouble", "(J)D"⟩, Cond.static ⟨"java/lang/Double", "longBitsToDouble", "(J)D"⟩]
def wsX7_split : List Cond := .code yX7_split cX7_split 4 none :: ((wsX7_split_r1 ++ (wsX7_split_r2 ++ wsX7_split_r3)) ++ wsX70 ++ wsX60 ++ wsJx354110 ++ wsJx4a65c0)
def wsX7_canShoot_r1 : List Cond := [Cond.fieldLink RX7 10 "ArrowFieldModel" "archers" "Ljava/util/ArrayList;", Cond.classLink RX7 54 "ArrowFieldModel$Archer", Cond.fieldLink RX7 182 "ArrowFieldModel" "isClosed" "Z", Cond.fieldLink RX7 29 "ArrowFieldModel" "party" "[I", Cond.fieldLink RX7 186 "ArrowFieldModel" "turn" "I", Cond.fieldLink RX7 16 "ArrowFieldModel" "quivers" "Ljava/util/ArrayList;", Cond.classLink RX7 74 "ArrowFieldModel$Quiver", Cond.methodLink RX7 50 yJx4a65c_get_915e3, Cond.instanceMethod yJx4a65c_get_915e3, Cond.selects RJx4a65c yJx4a65c_get_915e3 yJx4a65c_get_915e3, Cond.initialized RJx4a65c, Cond.code yJx4a65c_get_915e3 cJx4a65c_get_915e3 2 (some (.object "java/lang/Object")), Cond.fieldLink RJx4a65c 48 "java/util/ArrayList" "size" "I", Cond.methodLink RJx4a65c 118 yJ15_checkIndex_7cf53, Cond.static yJ15_checkIndex_7cf53, Cond.initialized RJ15, Cond.code yJ15_checkIndex_7cf53 cJ15_checkIndex_7cf53 2 (some .int), Cond.methodLink RJ15 105 yJ3_checkIndex_8e157, Cond.static yJ3_checkIndex_8e157, Cond.initialized RJ3, Cond.code yJ3_checkIndex_8e157 cJ3_checkIndex_8e157 3 (some .int), Cond.methodLink RJx4a65c 123 yJx4a65c_elementData_915e3, Cond.instanceMethod yJx4a65c_elementData_915e3, Cond.selects RJx4a65c yJx4a65c_elementData_915e3 yJx4a65c_elementData_915e3]
def wsX7_canShoot_r2 : List Cond := [Cond.code yJx4a65c_elementData_915e3 cJx4a65c_elementData_915e3 2 (some (.object "java/lang/Object")), Cond.fieldLink RJx4a65c 9 "java/util/ArrayList" "elementData" "[Ljava/lang/Object;", Cond.methodLink RX7 90 yX7_isOn, Cond.instanceMethod yX7_isOn, Cond.selects RX7 yX7_isOn yX7_isOn, Cond.initialized RX7, Cond.code yX7_isOn cX7_isOn 1 (some .boolean)]
def wsX7_canShoot : List Cond := .code yX7_canShoot cX7_canShoot 4 (some .boolean) :: ((wsX7_canShoot_r1 ++ wsX7_canShoot_r2) ++ wsX70 ++ wsX50 ++ wsX60 ++ wsJx4a65c0)
def wsJ9_min_e70c8 : List Cond := .code yJ9_min_e70c8 cJ9_min_e70c8 2 (some .float) :: ([.methodLink RJ9 68 ⟨"java/lang/Float", "floatToRawIntBits", "(F)I"⟩, .native ⟨"java/lang/Float", "floatToRawIntBits", "(F)I"⟩, .static ⟨"java/lang/Float", "floatToRawIntBits", "(F)I"⟩, .initialized "java/lang/Float", .fieldLink RJ9 170 "java/lang/Math" "negativeZeroFloatBits" "J"])
def wsX7_win : List Cond := .code yX7_win cX7_win 2 none :: ([.fieldLink RX7 29 "ArrowFieldModel" "party" "[I", .fieldLink RX7 26 "ArrowFieldModel" "winner" "I", .fieldLink RX7 10 "ArrowFieldModel" "archers" "Ljava/util/ArrayList;", .classLink RX7 54 "ArrowFieldModel$Archer", .methodLink RX7 50 yJx4a65c_get_915e3, .instanceMethod yJx4a65c_get_915e3, .selects RJx4a65c yJx4a65c_get_915e3 yJx4a65c_get_915e3, .initialized RJx4a65c, .code yJx4a65c_get_915e3 cJx4a65c_get_915e3 2 (some (.object "java/lang/Object")), .fieldLink RJx4a65c 48 "java/util/ArrayList" "size" "I", .methodLink RJx4a65c 118 yJ15_checkIndex_7cf53, .static yJ15_checkIndex_7cf53, .initialized RJ15, .code yJ15_checkIndex_7cf53 cJ15_checkIndex_7cf53 2 (some .int), .methodLink RJ15 105 yJ3_checkIndex_8e157, .static yJ3_checkIndex_8e157, .initialized RJ3, .code yJ3_checkIndex_8e157 cJ3_checkIndex_8e157 3 (some .int), .methodLink RJx4a65c 123 yJx4a65c_elementData_915e3, .instanceMethod yJx4a65c_elementData_915e3, .selects RJx4a65c yJx4a65c_elementData_915e3 yJx4a65c_elementData_915e3, .code yJx4a65c_elementData_915e3 cJx4a65c_elementData_915e3 2 (some (.object "java/lang/Object")), .fieldLink RJx4a65c 9 "java/util/ArrayList" "elementData" "[Ljava/lang/Object;"] ++ wsX70 ++ wsX50 ++ wsJx4a65c0)
def wsX7_count_r1 : List Cond := [Cond.fieldLink RX7 186 "ArrowFieldModel" "turn" "I", Cond.fieldLink RX7 237 "ArrowFieldModel" "isLast" "Z", Cond.fieldLink RX7 240 "ArrowFieldModel" "nearest" "D", Cond.fieldLink RX7 36 "ArrowFieldModel" "sums" "[I", Cond.fieldLink RX7 33 "ArrowFieldModel" "points" "[I", Cond.methodLink RX7 243 yX7_win, Cond.instanceMethod yX7_win, Cond.selects RX7 yX7_win yX7_win, Cond.initialized RX7, Cond.code yX7_win cX7_win 2 none, Cond.fieldLink RX7 29 "ArrowFieldModel" "party" "[I", Cond.fieldLink RX7 26 "ArrowFieldModel" "winner" "I", Cond.fieldLink RX7 10 "ArrowFieldModel" "archers" "Ljava/util/ArrayList;", Cond.classLink RX7 54 "ArrowFieldModel$Archer", Cond.methodLink RX7 50 yJx4a65c_get_915e3, Cond.instanceMethod yJx4a65c_get_915e3, Cond.selects RJx4a65c yJx4a65c_get_915e3 yJx4a65c_get_915e3, Cond.initialized RJx4a65c, Cond.code yJx4a65c_get_915e3 cJx4a65c_get_915e3 2 (some (.object "java/lang/Object")), Cond.fieldLink RJx4a65c 48 "java/util/ArrayList" "size" "I", Cond.methodLink RJx4a65c 118 yJ15_checkIndex_7cf53, Cond.static yJ15_checkIndex_7cf53, Cond.initialized RJ15, Cond.code yJ15_checkIndex_7cf53 cJ15_checkIndex_7cf53 2 (some .int)]
def wsX7_count_r2 : List Cond := [Cond.methodLink RJ15 105 yJ3_checkIndex_8e157, Cond.static yJ3_checkIndex_8e157, Cond.initialized RJ3, Cond.code yJ3_checkIndex_8e157 cJ3_checkIndex_8e157 3 (some .int), Cond.methodLink RJx4a65c 123 yJx4a65c_elementData_915e3, Cond.instanceMethod yJx4a65c_elementData_915e3, Cond.selects RJx4a65c yJx4a65c_elementData_915e3 yJx4a65c_elementData_915e3, Cond.code yJx4a65c_elementData_915e3 cJx4a65c_elementData_915e3 2 (some (.object "java/lang/Object")), Cond.fieldLink RJx4a65c 9 "java/util/ArrayList" "elementData" "[Ljava/lang/Object;"]
def wsX7_count : List Cond := .code yX7_count cX7_count 5 none :: ((wsX7_count_r1 ++ wsX7_count_r2) ++ wsX70 ++ wsX50 ++ wsJx4a65c0)
def wsX7_shoot_r1 : List Cond := [Cond.fieldLink RX7 39 "ArrowFieldModel" "thrown" "I", Cond.fieldLink RX7 10 "ArrowFieldModel" "archers" "Ljava/util/ArrayList;", Cond.classLink RX7 54 "ArrowFieldModel$Archer", Cond.fieldLink RX7 16 "ArrowFieldModel" "quivers" "Ljava/util/ArrayList;", Cond.classLink RX7 74 "ArrowFieldModel$Quiver", Cond.fieldLink RX7 19 "ArrowFieldModel" "distance" "I", Cond.fieldLink RX7 197 "ArrowFieldModel" "drawn" "I", Cond.fieldLink RX7 148 "ArrowFieldModel" "h" "D", Cond.constantDouble RX7 200 (4615063718147915776), Cond.constantDouble RX7 202 (4661225614328463360), Cond.fieldLink RX7 152 "ArrowFieldModel" "v" "D", Cond.constantFloat RX7 211 (1040187392), Cond.constantFloat RX7 212 (998244352), Cond.fieldLink RX7 232 "ArrowFieldModel" "shots" "I", Cond.methodLink RX7 83 yX7_isArcher, Cond.instanceMethod yX7_isArcher, Cond.selects RX7 yX7_isArcher yX7_isArcher, Cond.initialized RX7, Cond.code yX7_isArcher cX7_isArcher 2 (some .boolean), Cond.methodLink RX7 42 yJx4a65c_size_8abf5, Cond.instanceMethod yJx4a65c_size_8abf5, Cond.selects RJx4a65c yJx4a65c_size_8abf5 yJx4a65c_size_8abf5, Cond.initialized RJx4a65c, Cond.code yJx4a65c_size_8abf5 cJx4a65c_size_8abf5 1 (some .int)]
def wsX7_shoot_r2 : List Cond := [Cond.fieldLink RJx4a65c 48 "java/util/ArrayList" "size" "I", Cond.methodLink RX7 46 yX7_is, Cond.static yX7_is, Cond.code yX7_is cX7_is 3 (some .boolean), Cond.methodLink RX7 59 yX7_refuse, Cond.instanceMethod yX7_refuse, Cond.selects RX7 yX7_refuse yX7_refuse, Cond.code yX7_refuse cX7_refuse 2 (some .int), Cond.methodLink RX7 189 yX7_canShoot, Cond.instanceMethod yX7_canShoot, Cond.selects RX7 yX7_canShoot yX7_canShoot, Cond.code yX7_canShoot cX7_canShoot 4 (some .boolean), Cond.fieldLink RX7 182 "ArrowFieldModel" "isClosed" "Z", Cond.fieldLink RX7 29 "ArrowFieldModel" "party" "[I", Cond.fieldLink RX7 186 "ArrowFieldModel" "turn" "I", Cond.methodLink RX7 50 yJx4a65c_get_915e3, Cond.instanceMethod yJx4a65c_get_915e3, Cond.selects RJx4a65c yJx4a65c_get_915e3 yJx4a65c_get_915e3, Cond.code yJx4a65c_get_915e3 cJx4a65c_get_915e3 2 (some (.object "java/lang/Object")), Cond.methodLink RJx4a65c 118 yJ15_checkIndex_7cf53, Cond.static yJ15_checkIndex_7cf53, Cond.initialized RJ15, Cond.code yJ15_checkIndex_7cf53 cJ15_checkIndex_7cf53 2 (some .int), Cond.methodLink RJ15 105 yJ3_checkIndex_8e157]
def wsX7_shoot_r3 : List Cond := [Cond.static yJ3_checkIndex_8e157, Cond.initialized RJ3, Cond.code yJ3_checkIndex_8e157 cJ3_checkIndex_8e157 3 (some .int), Cond.methodLink RJx4a65c 123 yJx4a65c_elementData_915e3, Cond.instanceMethod yJx4a65c_elementData_915e3, Cond.selects RJx4a65c yJx4a65c_elementData_915e3 yJx4a65c_elementData_915e3, Cond.code yJx4a65c_elementData_915e3 cJx4a65c_elementData_915e3 2 (some (.object "java/lang/Object")), Cond.fieldLink RJx4a65c 9 "java/util/ArrayList" "elementData" "[Ljava/lang/Object;", Cond.methodLink RX7 90 yX7_isOn, Cond.instanceMethod yX7_isOn, Cond.selects RX7 yX7_isOn yX7_isOn, Cond.code yX7_isOn cX7_isOn 1 (some .boolean), Cond.methodLink RX7 193 yX7_fly, Cond.instanceMethod yX7_fly, Cond.selects RX7 yX7_fly yX7_fly, Cond.code yX7_fly cX7_fly 15 none, Cond.constantDouble RX7 142 (4647714815446351872), Cond.constantDouble RX7 144 (4620693217682128896), Cond.constantDouble RX7 146 (4643211215818981376), Cond.constantDouble RX7 155 (4625196817309499392), Cond.constantDouble RX7 157 (4603804719079489536), Cond.fieldLink RX7 131 "ArrowFieldModel" "wind" "I", Cond.constantDouble RX7 159 (4634204016564240384), Cond.methodLink RX7 138 yX7_speed]
def wsX7_shoot_r4 : List Cond := [Cond.static yX7_speed, Cond.code yX7_speed cX7_speed 2 (some .double), Cond.constantDouble RX7 134 (4648488871632306176), Cond.constantDouble RX7 136 (4641240890982006784), Cond.methodLink RX7 204 yX7_split, Cond.instanceMethod yX7_split, Cond.selects RX7 yX7_split yX7_split, Cond.code yX7_split cX7_split 4 none, Cond.constantDouble RX7 175 (4580160821035794432), Cond.fieldLink RX7 179 "ArrowFieldModel" "splits" "I", Cond.methodLink RX7 107 yJx4a65c_iterator_32c93, Cond.instanceMethod yJx4a65c_iterator_32c93, Cond.selects RJx4a65c yJx4a65c_iterator_32c93 yJx4a65c_iterator_32c93, Cond.code yJx4a65c_iterator_32c93 cJx4a65c_iterator_32c93 1 (some (.object "java/util/Iterator")), Cond.classLink RJx4a65c 267 RJx35411, Cond.instantiable RJx35411 4, Cond.initialized RJx35411, Cond.methodLink RJx4a65c 269 yJx35411_init_45d68, Cond.instanceMethod yJx35411_init_45d68, Cond.code yJx35411_init_45d68 cJx35411_init_45d68 2 none, Cond.fieldLink RJx35411 1 "java/util/ArrayList$Itr" "this$0" "Ljava/util/ArrayList;", Cond.methodLink RJx35411 7 objectInit, Cond.instanceMethod objectInit, Cond.code objectInit ⟨#[0xb1]⟩ 1 none]
def wsX7_shoot_r5 : List Cond := [Cond.fieldLink RJx35411 13 "java/util/ArrayList$Itr" "lastRet" "I", Cond.fieldLink RJx35411 17 "java/util/ArrayList" "modCount" "I", Cond.sameField "java/util/ArrayList" "java/util/AbstractList" "modCount" "I", Cond.fieldLink RJx35411 22 "java/util/ArrayList$Itr" "expectedModCount" "I", Cond.methodLink RX7 111 ⟨"java/util/Iterator", "hasNext", "()Z"⟩, Cond.selects RJx35411 ⟨"java/util/Iterator", "hasNext", "()Z"⟩ yJx35411_hasNext_aae02, Cond.instanceMethod yJx35411_hasNext_aae02, Cond.code yJx35411_hasNext_aae02 cJx35411_hasNext_aae02 1 (some .boolean), Cond.fieldLink RJx35411 25 "java/util/ArrayList$Itr" "cursor" "I", Cond.methodLink RX7 116 ⟨"java/util/Iterator", "next", "()Ljava/lang/Object;"⟩, Cond.selects RJx35411 ⟨"java/util/Iterator", "next", "()Ljava/lang/Object;"⟩ yJx35411_next_0502b, Cond.instanceMethod yJx35411_next_0502b, Cond.code yJx35411_next_0502b cJx35411_next_0502b 3 (some (.object "java/lang/Object")), Cond.fieldLink RJx35411 37 "java/util/ArrayList" "elementData" "[Ljava/lang/Object;", Cond.methodLink RJx35411 31 yJx35411_checkForComodification_da8c8, Cond.instanceMethod yJx35411_checkForComodification_da8c8, Cond.selects RJx35411 yJx35411_checkForComodification_da8c8 yJx35411_checkForComodification_da8c8, Cond.code yJx35411_checkForComodification_da8c8 cJx35411_checkForComodification_da8c8 1 none, Cond.methodLink RX7 169 yJ9_abs_294c1, Cond.static yJ9_abs_294c1, Cond.initialized RJ9, Cond.code yJ9_abs_294c1 cJ9_abs_294c1 2 (some .double), Cond.methodLink RJ9 79 ⟨"java/lang/Double", "doubleToRawLongBits", "(D)J"⟩, Cond.native ⟨"java/lang/Double", "doubleToRawLongBits", "(D)J"⟩]
def wsX7_shoot_r6 : List Cond := [Cond.static ⟨"java/lang/Double", "doubleToRawLongBits", "(D)J"⟩, Cond.initialized "java/lang/Double", Cond.constantLong RJ9 135 (9223372036854775807), Cond.methodLink RJ9 166 ⟨"java/lang/Double", "longBitsToDouble", "(J)D"⟩, Cond.native ⟨"java/lang/Double", "longBitsToDouble", "(J)D"⟩, Cond.static ⟨"java/lang/Double", "longBitsToDouble", "(J)D"⟩, Cond.methodLink RX7 207 yX7_score, Cond.instanceMethod yX7_score, Cond.selects RX7 yX7_score yX7_score, Cond.code yX7_score cX7_score 6 (some .int), Cond.fieldLink RX7 23 "ArrowFieldModel" "face" "I", Cond.constantDouble RX7 161 (4575657221408423936), Cond.methodLink RX7 213 yJ9_min_e70c8, Cond.static yJ9_min_e70c8, Cond.code yJ9_min_e70c8 cJ9_min_e70c8 2 (some .float), Cond.methodLink RJ9 68 ⟨"java/lang/Float", "floatToRawIntBits", "(F)I"⟩, Cond.native ⟨"java/lang/Float", "floatToRawIntBits", "(F)I"⟩, Cond.static ⟨"java/lang/Float", "floatToRawIntBits", "(F)I"⟩, Cond.initialized "java/lang/Float", Cond.fieldLink RJ9 170 "java/lang/Math" "negativeZeroFloatBits" "J", Cond.methodLink RX7 233 yX7_count, Cond.instanceMethod yX7_count, Cond.selects RX7 yX7_count yX7_count, Cond.code yX7_count cX7_count 5 none]
def wsX7_shoot_r7 : List Cond := [Cond.fieldLink RX7 237 "ArrowFieldModel" "isLast" "Z", Cond.fieldLink RX7 240 "ArrowFieldModel" "nearest" "D", Cond.fieldLink RX7 36 "ArrowFieldModel" "sums" "[I", Cond.fieldLink RX7 33 "ArrowFieldModel" "points" "[I", Cond.methodLink RX7 243 yX7_win, Cond.instanceMethod yX7_win, Cond.selects RX7 yX7_win yX7_win, Cond.code yX7_win cX7_win 2 none, Cond.fieldLink RX7 26 "ArrowFieldModel" "winner" "I"]
def wsX7_shoot : List Cond := .code yX7_shoot cX7_shoot 8 (some .int) :: ((wsX7_shoot_r1 ++ (wsX7_shoot_r2 ++ (wsX7_shoot_r3 ++ (wsX7_shoot_r4 ++ (wsX7_shoot_r5 ++ (wsX7_shoot_r6 ++ wsX7_shoot_r7)))))) ++ wsX70 ++ wsX50 ++ wsX60 ++ wsJx4a65c0 ++ wsJx354110)
def wsX7_pull_r1 : List Cond := [Cond.fieldLink RX7 39 "ArrowFieldModel" "thrown" "I", Cond.fieldLink RX7 16 "ArrowFieldModel" "quivers" "Ljava/util/ArrayList;", Cond.classLink RX7 74 "ArrowFieldModel$Quiver", Cond.fieldLink RX7 10 "ArrowFieldModel" "archers" "Ljava/util/ArrayList;", Cond.classLink RX7 54 "ArrowFieldModel$Archer", Cond.methodLink RX7 128 yX7_stuck, Cond.instanceMethod yX7_stuck, Cond.selects RX7 yX7_stuck yX7_stuck, Cond.initialized RX7, Cond.code yX7_stuck cX7_stuck 4 (some .int), Cond.methodLink RX7 107 yJx4a65c_iterator_32c93, Cond.instanceMethod yJx4a65c_iterator_32c93, Cond.selects RJx4a65c yJx4a65c_iterator_32c93 yJx4a65c_iterator_32c93, Cond.initialized RJx4a65c, Cond.code yJx4a65c_iterator_32c93 cJx4a65c_iterator_32c93 1 (some (.object "java/util/Iterator")), Cond.classLink RJx4a65c 267 RJx35411, Cond.instantiable RJx35411 4, Cond.initialized RJx35411, Cond.methodLink RJx4a65c 269 yJx35411_init_45d68, Cond.instanceMethod yJx35411_init_45d68, Cond.code yJx35411_init_45d68 cJx35411_init_45d68 2 none, Cond.fieldLink RJx35411 1 "java/util/ArrayList$Itr" "this$0" "Ljava/util/ArrayList;", Cond.methodLink RJx35411 7 objectInit, Cond.instanceMethod objectInit]
def wsX7_pull_r2 : List Cond := [Cond.code objectInit ⟨#[0xb1]⟩ 1 none, Cond.fieldLink RJx35411 13 "java/util/ArrayList$Itr" "lastRet" "I", Cond.fieldLink RJx35411 17 "java/util/ArrayList" "modCount" "I", Cond.sameField "java/util/ArrayList" "java/util/AbstractList" "modCount" "I", Cond.fieldLink RJx35411 22 "java/util/ArrayList$Itr" "expectedModCount" "I", Cond.methodLink RX7 111 ⟨"java/util/Iterator", "hasNext", "()Z"⟩, Cond.selects RJx35411 ⟨"java/util/Iterator", "hasNext", "()Z"⟩ yJx35411_hasNext_aae02, Cond.instanceMethod yJx35411_hasNext_aae02, Cond.code yJx35411_hasNext_aae02 cJx35411_hasNext_aae02 1 (some .boolean), Cond.fieldLink RJx35411 25 "java/util/ArrayList$Itr" "cursor" "I", Cond.methodLink RX7 116 ⟨"java/util/Iterator", "next", "()Ljava/lang/Object;"⟩, Cond.selects RJx35411 ⟨"java/util/Iterator", "next", "()Ljava/lang/Object;"⟩ yJx35411_next_0502b, Cond.instanceMethod yJx35411_next_0502b, Cond.code yJx35411_next_0502b cJx35411_next_0502b 3 (some (.object "java/lang/Object")), Cond.fieldLink RJx35411 37 "java/util/ArrayList" "elementData" "[Ljava/lang/Object;", Cond.methodLink RJx35411 31 yJx35411_checkForComodification_da8c8, Cond.instanceMethod yJx35411_checkForComodification_da8c8, Cond.selects RJx35411 yJx35411_checkForComodification_da8c8 yJx35411_checkForComodification_da8c8, Cond.code yJx35411_checkForComodification_da8c8 cJx35411_checkForComodification_da8c8 1 none, Cond.methodLink RX7 120 yX6_set, Cond.instanceMethod yX6_set, Cond.selects RX6 yX6_set yX6_set, Cond.initialized RX6, Cond.code yX6_set cX6_set 4 (some .int)]
def wsX7_pull_r3 : List Cond := [Cond.fieldLink RX6 9 "ArrowFieldModel$Quiver" "where" "[I", Cond.methodLink RX7 123 yJ6_bitCount_0f7a4, Cond.static yJ6_bitCount_0f7a4, Cond.initialized RJ6, Cond.code yJ6_bitCount_0f7a4 cJ6_bitCount_0f7a4 1 (some .int), Cond.constant RJ6 265 (1431655765), Cond.constant RJ6 266 (858993459), Cond.constant RJ6 267 (252645135)]
def wsX7_pull : List Cond := .code yX7_pull cX7_pull 5 (some .int) :: ((wsX7_pull_r1 ++ (wsX7_pull_r2 ++ wsX7_pull_r3)) ++ wsX70 ++ wsX60 ++ wsX50 ++ wsJx354110 ++ wsJx4a65c0)
def wsX7_mend_r1 : List Cond := [Cond.fieldLink RX7 39 "ArrowFieldModel" "thrown" "I", Cond.fieldLink RX7 16 "ArrowFieldModel" "quivers" "Ljava/util/ArrayList;", Cond.classLink RX7 74 "ArrowFieldModel$Quiver", Cond.methodLink RX7 87 yX7_isQuiver, Cond.instanceMethod yX7_isQuiver, Cond.selects RX7 yX7_isQuiver yX7_isQuiver, Cond.initialized RX7, Cond.code yX7_isQuiver cX7_isQuiver 2 (some .boolean), Cond.methodLink RX7 42 yJx4a65c_size_8abf5, Cond.instanceMethod yJx4a65c_size_8abf5, Cond.selects RJx4a65c yJx4a65c_size_8abf5 yJx4a65c_size_8abf5, Cond.initialized RJx4a65c, Cond.code yJx4a65c_size_8abf5 cJx4a65c_size_8abf5 1 (some .int), Cond.fieldLink RJx4a65c 48 "java/util/ArrayList" "size" "I", Cond.methodLink RX7 46 yX7_is, Cond.static yX7_is, Cond.code yX7_is cX7_is 3 (some .boolean), Cond.methodLink RX7 59 yX7_refuse, Cond.instanceMethod yX7_refuse, Cond.selects RX7 yX7_refuse yX7_refuse, Cond.code yX7_refuse cX7_refuse 2 (some .int), Cond.methodLink RX7 50 yJx4a65c_get_915e3, Cond.instanceMethod yJx4a65c_get_915e3, Cond.selects RJx4a65c yJx4a65c_get_915e3 yJx4a65c_get_915e3]
def wsX7_mend_r2 : List Cond := [Cond.code yJx4a65c_get_915e3 cJx4a65c_get_915e3 2 (some (.object "java/lang/Object")), Cond.methodLink RJx4a65c 118 yJ15_checkIndex_7cf53, Cond.static yJ15_checkIndex_7cf53, Cond.initialized RJ15, Cond.code yJ15_checkIndex_7cf53 cJ15_checkIndex_7cf53 2 (some .int), Cond.methodLink RJ15 105 yJ3_checkIndex_8e157, Cond.static yJ3_checkIndex_8e157, Cond.initialized RJ3, Cond.code yJ3_checkIndex_8e157 cJ3_checkIndex_8e157 3 (some .int), Cond.methodLink RJx4a65c 123 yJx4a65c_elementData_915e3, Cond.instanceMethod yJx4a65c_elementData_915e3, Cond.selects RJx4a65c yJx4a65c_elementData_915e3 yJx4a65c_elementData_915e3, Cond.code yJx4a65c_elementData_915e3 cJx4a65c_elementData_915e3 2 (some (.object "java/lang/Object")), Cond.fieldLink RJx4a65c 9 "java/util/ArrayList" "elementData" "[Ljava/lang/Object;", Cond.methodLink RX7 120 yX6_set, Cond.instanceMethod yX6_set, Cond.selects RX6 yX6_set yX6_set, Cond.initialized RX6, Cond.code yX6_set cX6_set 4 (some .int), Cond.fieldLink RX6 9 "ArrowFieldModel$Quiver" "where" "[I", Cond.methodLink RX7 123 yJ6_bitCount_0f7a4, Cond.static yJ6_bitCount_0f7a4, Cond.initialized RJ6, Cond.code yJ6_bitCount_0f7a4 cJ6_bitCount_0f7a4 1 (some .int)]
def wsX7_mend_r3 : List Cond := [Cond.constant RJ6 265 (1431655765), Cond.constant RJ6 266 (858993459), Cond.constant RJ6 267 (252645135)]
def wsX7_mend : List Cond := .code yX7_mend cX7_mend 5 (some .int) :: ((wsX7_mend_r1 ++ (wsX7_mend_r2 ++ wsX7_mend_r3)) ++ wsX70 ++ wsX60 ++ wsJx4a65c0)
def wsX7_match_r1 : List Cond := [Cond.fieldLink RX7 39 "ArrowFieldModel" "thrown" "I", Cond.fieldLink RX7 10 "ArrowFieldModel" "archers" "Ljava/util/ArrayList;", Cond.classLink RX7 54 "ArrowFieldModel$Archer", Cond.fieldLink RX7 29 "ArrowFieldModel" "party" "[I", Cond.fieldLink RX7 33 "ArrowFieldModel" "points" "[I", Cond.fieldLink RX7 36 "ArrowFieldModel" "sums" "[I", Cond.fieldLink RX7 186 "ArrowFieldModel" "turn" "I", Cond.fieldLink RX7 237 "ArrowFieldModel" "isLast" "Z", Cond.fieldLink RX7 250 "ArrowFieldModel" "began" "I", Cond.methodLink RX7 83 yX7_isArcher, Cond.instanceMethod yX7_isArcher, Cond.selects RX7 yX7_isArcher yX7_isArcher, Cond.initialized RX7, Cond.code yX7_isArcher cX7_isArcher 2 (some .boolean), Cond.methodLink RX7 42 yJx4a65c_size_8abf5, Cond.instanceMethod yJx4a65c_size_8abf5, Cond.selects RJx4a65c yJx4a65c_size_8abf5 yJx4a65c_size_8abf5, Cond.initialized RJx4a65c, Cond.code yJx4a65c_size_8abf5 cJx4a65c_size_8abf5 1 (some .int), Cond.fieldLink RJx4a65c 48 "java/util/ArrayList" "size" "I", Cond.methodLink RX7 46 yX7_is, Cond.static yX7_is, Cond.code yX7_is cX7_is 3 (some .boolean), Cond.methodLink RX7 59 yX7_refuse]
def wsX7_match_r2 : List Cond := [Cond.instanceMethod yX7_refuse, Cond.selects RX7 yX7_refuse yX7_refuse, Cond.code yX7_refuse cX7_refuse 2 (some .int), Cond.methodLink RX7 90 yX7_isOn, Cond.instanceMethod yX7_isOn, Cond.selects RX7 yX7_isOn yX7_isOn, Cond.code yX7_isOn cX7_isOn 1 (some .boolean), Cond.methodLink RX7 50 yJx4a65c_get_915e3, Cond.instanceMethod yJx4a65c_get_915e3, Cond.selects RJx4a65c yJx4a65c_get_915e3 yJx4a65c_get_915e3, Cond.code yJx4a65c_get_915e3 cJx4a65c_get_915e3 2 (some (.object "java/lang/Object")), Cond.methodLink RJx4a65c 118 yJ15_checkIndex_7cf53, Cond.static yJ15_checkIndex_7cf53, Cond.initialized RJ15, Cond.code yJ15_checkIndex_7cf53 cJ15_checkIndex_7cf53 2 (some .int), Cond.methodLink RJ15 105 yJ3_checkIndex_8e157, Cond.static yJ3_checkIndex_8e157, Cond.initialized RJ3, Cond.code yJ3_checkIndex_8e157 cJ3_checkIndex_8e157 3 (some .int), Cond.methodLink RJx4a65c 123 yJx4a65c_elementData_915e3, Cond.instanceMethod yJx4a65c_elementData_915e3, Cond.selects RJx4a65c yJx4a65c_elementData_915e3 yJx4a65c_elementData_915e3, Cond.code yJx4a65c_elementData_915e3 cJx4a65c_elementData_915e3 2 (some (.object "java/lang/Object")), Cond.fieldLink RJx4a65c 9 "java/util/ArrayList" "elementData" "[Ljava/lang/Object;"]
def wsX7_match : List Cond := .code yX7_match cX7_match 4 (some .int) :: ((wsX7_match_r1 ++ wsX7_match_r2) ++ wsX70 ++ wsX50 ++ wsJx4a65c0)
def wsX7_breakOff : List Cond := .code yX7_breakOff cX7_breakOff 1 (some .int) :: ([.fieldLink RX7 39 "ArrowFieldModel" "thrown" "I", .fieldLink RX7 29 "ArrowFieldModel" "party" "[I", .fieldLink RX7 33 "ArrowFieldModel" "points" "[I", .methodLink RX7 90 yX7_isOn, .instanceMethod yX7_isOn, .selects RX7 yX7_isOn yX7_isOn, .initialized RX7, .code yX7_isOn cX7_isOn 1 (some .boolean), .methodLink RX7 59 yX7_refuse, .instanceMethod yX7_refuse, .selects RX7 yX7_refuse yX7_refuse, .code yX7_refuse cX7_refuse 2 (some .int)] ++ wsX70)
def wsX7_close : List Cond := .code yX7_close cX7_close 3 (some .boolean) :: ([.fieldLink RX7 39 "ArrowFieldModel" "thrown" "I", .fieldLink RX7 182 "ArrowFieldModel" "isClosed" "Z"] ++ wsX70)
def wsX7_horn : List Cond := .code yX7_horn cX7_horn 1 (some .int) :: ([.fieldLink RX7 39 "ArrowFieldModel" "thrown" "I", .fieldLink RX7 253 "ArrowFieldModel" "refused" "I"] ++ wsX70)
def wsX7_ofArcherNow : List Cond := .code yX7_ofArcherNow cX7_ofArcherNow 3 (some .int) :: ([.arrayClass .int] ++ wsX50)
def wsX7_ofArcher_r1 : List Cond := [Cond.fieldLink RX7 39 "ArrowFieldModel" "thrown" "I", Cond.fieldLink RX7 10 "ArrowFieldModel" "archers" "Ljava/util/ArrayList;", Cond.classLink RX7 54 "ArrowFieldModel$Archer", Cond.methodLink RX7 83 yX7_isArcher, Cond.instanceMethod yX7_isArcher, Cond.selects RX7 yX7_isArcher yX7_isArcher, Cond.initialized RX7, Cond.code yX7_isArcher cX7_isArcher 2 (some .boolean), Cond.methodLink RX7 42 yJx4a65c_size_8abf5, Cond.instanceMethod yJx4a65c_size_8abf5, Cond.selects RJx4a65c yJx4a65c_size_8abf5 yJx4a65c_size_8abf5, Cond.initialized RJx4a65c, Cond.code yJx4a65c_size_8abf5 cJx4a65c_size_8abf5 1 (some .int), Cond.fieldLink RJx4a65c 48 "java/util/ArrayList" "size" "I", Cond.methodLink RX7 46 yX7_is, Cond.static yX7_is, Cond.code yX7_is cX7_is 3 (some .boolean), Cond.methodLink RX7 59 yX7_refuse, Cond.instanceMethod yX7_refuse, Cond.selects RX7 yX7_refuse yX7_refuse, Cond.code yX7_refuse cX7_refuse 2 (some .int), Cond.methodLink RX7 50 yJx4a65c_get_915e3, Cond.instanceMethod yJx4a65c_get_915e3, Cond.selects RJx4a65c yJx4a65c_get_915e3 yJx4a65c_get_915e3]
def wsX7_ofArcher_r2 : List Cond := [Cond.code yJx4a65c_get_915e3 cJx4a65c_get_915e3 2 (some (.object "java/lang/Object")), Cond.methodLink RJx4a65c 118 yJ15_checkIndex_7cf53, Cond.static yJ15_checkIndex_7cf53, Cond.initialized RJ15, Cond.code yJ15_checkIndex_7cf53 cJ15_checkIndex_7cf53 2 (some .int), Cond.methodLink RJ15 105 yJ3_checkIndex_8e157, Cond.static yJ3_checkIndex_8e157, Cond.initialized RJ3, Cond.code yJ3_checkIndex_8e157 cJ3_checkIndex_8e157 3 (some .int), Cond.methodLink RJx4a65c 123 yJx4a65c_elementData_915e3, Cond.instanceMethod yJx4a65c_elementData_915e3, Cond.selects RJx4a65c yJx4a65c_elementData_915e3 yJx4a65c_elementData_915e3, Cond.code yJx4a65c_elementData_915e3 cJx4a65c_elementData_915e3 2 (some (.object "java/lang/Object")), Cond.fieldLink RJx4a65c 9 "java/util/ArrayList" "elementData" "[Ljava/lang/Object;", Cond.methodLink RX7 256 yX7_ofArcherNow, Cond.static yX7_ofArcherNow, Cond.code yX7_ofArcherNow cX7_ofArcherNow 3 (some .int), Cond.arrayClass .int]
def wsX7_ofArcher : List Cond := .code yX7_ofArcher cX7_ofArcher 3 (some .int) :: ((wsX7_ofArcher_r1 ++ wsX7_ofArcher_r2) ++ wsX70 ++ wsJx4a65c0 ++ wsX50)
def wsX7_speedNow_r1 : List Cond := [Cond.fieldLink RX7 16 "ArrowFieldModel" "quivers" "Ljava/util/ArrayList;", Cond.classLink RX7 74 "ArrowFieldModel$Quiver", Cond.methodLink RX7 50 yJx4a65c_get_915e3, Cond.instanceMethod yJx4a65c_get_915e3, Cond.selects RJx4a65c yJx4a65c_get_915e3 yJx4a65c_get_915e3, Cond.initialized RJx4a65c, Cond.code yJx4a65c_get_915e3 cJx4a65c_get_915e3 2 (some (.object "java/lang/Object")), Cond.fieldLink RJx4a65c 48 "java/util/ArrayList" "size" "I", Cond.methodLink RJx4a65c 118 yJ15_checkIndex_7cf53, Cond.static yJ15_checkIndex_7cf53, Cond.initialized RJ15, Cond.code yJ15_checkIndex_7cf53 cJ15_checkIndex_7cf53 2 (some .int), Cond.methodLink RJ15 105 yJ3_checkIndex_8e157, Cond.static yJ3_checkIndex_8e157, Cond.initialized RJ3, Cond.code yJ3_checkIndex_8e157 cJ3_checkIndex_8e157 3 (some .int), Cond.methodLink RJx4a65c 123 yJx4a65c_elementData_915e3, Cond.instanceMethod yJx4a65c_elementData_915e3, Cond.selects RJx4a65c yJx4a65c_elementData_915e3 yJx4a65c_elementData_915e3, Cond.code yJx4a65c_elementData_915e3 cJx4a65c_elementData_915e3 2 (some (.object "java/lang/Object")), Cond.fieldLink RJx4a65c 9 "java/util/ArrayList" "elementData" "[Ljava/lang/Object;", Cond.methodLink RX7 138 yX7_speed, Cond.static yX7_speed, Cond.initialized RX7]
def wsX7_speedNow_r2 : List Cond := [Cond.code yX7_speed cX7_speed 2 (some .double), Cond.constantDouble RX7 134 (4648488871632306176), Cond.constantDouble RX7 136 (4641240890982006784)]
def wsX7_speedNow : List Cond := .code yX7_speedNow cX7_speedNow 2 (some .double) :: ((wsX7_speedNow_r1 ++ wsX7_speedNow_r2) ++ wsX50 ++ wsX70 ++ wsJx4a65c0 ++ wsX60)
def wsX7_speed__r1 : List Cond := [Cond.fieldLink RX7 39 "ArrowFieldModel" "thrown" "I", Cond.fieldLink RX7 10 "ArrowFieldModel" "archers" "Ljava/util/ArrayList;", Cond.classLink RX7 54 "ArrowFieldModel$Archer", Cond.methodLink RX7 83 yX7_isArcher, Cond.instanceMethod yX7_isArcher, Cond.selects RX7 yX7_isArcher yX7_isArcher, Cond.initialized RX7, Cond.code yX7_isArcher cX7_isArcher 2 (some .boolean), Cond.methodLink RX7 42 yJx4a65c_size_8abf5, Cond.instanceMethod yJx4a65c_size_8abf5, Cond.selects RJx4a65c yJx4a65c_size_8abf5 yJx4a65c_size_8abf5, Cond.initialized RJx4a65c, Cond.code yJx4a65c_size_8abf5 cJx4a65c_size_8abf5 1 (some .int), Cond.fieldLink RJx4a65c 48 "java/util/ArrayList" "size" "I", Cond.methodLink RX7 46 yX7_is, Cond.static yX7_is, Cond.code yX7_is cX7_is 3 (some .boolean), Cond.methodLink RX7 50 yJx4a65c_get_915e3, Cond.instanceMethod yJx4a65c_get_915e3, Cond.selects RJx4a65c yJx4a65c_get_915e3 yJx4a65c_get_915e3, Cond.code yJx4a65c_get_915e3 cJx4a65c_get_915e3 2 (some (.object "java/lang/Object")), Cond.methodLink RJx4a65c 118 yJ15_checkIndex_7cf53, Cond.static yJ15_checkIndex_7cf53, Cond.initialized RJ15]
def wsX7_speed__r2 : List Cond := [Cond.code yJ15_checkIndex_7cf53 cJ15_checkIndex_7cf53 2 (some .int), Cond.methodLink RJ15 105 yJ3_checkIndex_8e157, Cond.static yJ3_checkIndex_8e157, Cond.initialized RJ3, Cond.code yJ3_checkIndex_8e157 cJ3_checkIndex_8e157 3 (some .int), Cond.methodLink RJx4a65c 123 yJx4a65c_elementData_915e3, Cond.instanceMethod yJx4a65c_elementData_915e3, Cond.selects RJx4a65c yJx4a65c_elementData_915e3 yJx4a65c_elementData_915e3, Cond.code yJx4a65c_elementData_915e3 cJx4a65c_elementData_915e3 2 (some (.object "java/lang/Object")), Cond.fieldLink RJx4a65c 9 "java/util/ArrayList" "elementData" "[Ljava/lang/Object;", Cond.methodLink RX7 260 yX7_speedNow, Cond.instanceMethod yX7_speedNow, Cond.selects RX7 yX7_speedNow yX7_speedNow, Cond.code yX7_speedNow cX7_speedNow 2 (some .double), Cond.fieldLink RX7 16 "ArrowFieldModel" "quivers" "Ljava/util/ArrayList;", Cond.classLink RX7 74 "ArrowFieldModel$Quiver", Cond.methodLink RX7 138 yX7_speed, Cond.static yX7_speed, Cond.code yX7_speed cX7_speed 2 (some .double), Cond.constantDouble RX7 134 (4648488871632306176), Cond.constantDouble RX7 136 (4641240890982006784)]
def wsX7_speed_ : List Cond := .code yX7_speed_ cX7_speed_ 2 (some .double) :: ((wsX7_speed__r1 ++ wsX7_speed__r2) ++ wsX70 ++ wsJx4a65c0 ++ wsX50 ++ wsX60)
def wsX7_ofQuiverNow_r1 : List Cond := [Cond.fieldLink RX7 16 "ArrowFieldModel" "quivers" "Ljava/util/ArrayList;", Cond.classLink RX7 74 "ArrowFieldModel$Quiver", Cond.methodLink RX7 50 yJx4a65c_get_915e3, Cond.instanceMethod yJx4a65c_get_915e3, Cond.selects RJx4a65c yJx4a65c_get_915e3 yJx4a65c_get_915e3, Cond.initialized RJx4a65c, Cond.code yJx4a65c_get_915e3 cJx4a65c_get_915e3 2 (some (.object "java/lang/Object")), Cond.fieldLink RJx4a65c 48 "java/util/ArrayList" "size" "I", Cond.methodLink RJx4a65c 118 yJ15_checkIndex_7cf53, Cond.static yJ15_checkIndex_7cf53, Cond.initialized RJ15, Cond.code yJ15_checkIndex_7cf53 cJ15_checkIndex_7cf53 2 (some .int), Cond.methodLink RJ15 105 yJ3_checkIndex_8e157, Cond.static yJ3_checkIndex_8e157, Cond.initialized RJ3, Cond.code yJ3_checkIndex_8e157 cJ3_checkIndex_8e157 3 (some .int), Cond.methodLink RJx4a65c 123 yJx4a65c_elementData_915e3, Cond.instanceMethod yJx4a65c_elementData_915e3, Cond.selects RJx4a65c yJx4a65c_elementData_915e3 yJx4a65c_elementData_915e3, Cond.code yJx4a65c_elementData_915e3 cJx4a65c_elementData_915e3 2 (some (.object "java/lang/Object")), Cond.fieldLink RJx4a65c 9 "java/util/ArrayList" "elementData" "[Ljava/lang/Object;", Cond.methodLink RX7 94 yX7_holder, Cond.instanceMethod yX7_holder, Cond.selects RX7 yX7_holder yX7_holder]
def wsX7_ofQuiverNow_r2 : List Cond := [Cond.initialized RX7, Cond.code yX7_holder cX7_holder 3 (some .int), Cond.fieldLink RX7 10 "ArrowFieldModel" "archers" "Ljava/util/ArrayList;", Cond.classLink RX7 54 "ArrowFieldModel$Archer", Cond.methodLink RX7 42 yJx4a65c_size_8abf5, Cond.instanceMethod yJx4a65c_size_8abf5, Cond.selects RJx4a65c yJx4a65c_size_8abf5 yJx4a65c_size_8abf5, Cond.code yJx4a65c_size_8abf5 cJx4a65c_size_8abf5 1 (some .int), Cond.methodLink RX7 120 yX6_set, Cond.instanceMethod yX6_set, Cond.selects RX6 yX6_set yX6_set, Cond.initialized RX6, Cond.code yX6_set cX6_set 4 (some .int), Cond.fieldLink RX6 9 "ArrowFieldModel$Quiver" "where" "[I"]
def wsX7_ofQuiverNow : List Cond := .code yX7_ofQuiverNow cX7_ofQuiverNow 4 (some .int) :: ((wsX7_ofQuiverNow_r1 ++ wsX7_ofQuiverNow_r2) ++ wsX70 ++ wsX60 ++ wsJx4a65c0 ++ wsX50)
def wsX7_ofQuiver_r1 : List Cond := [Cond.fieldLink RX7 39 "ArrowFieldModel" "thrown" "I", Cond.methodLink RX7 87 yX7_isQuiver, Cond.instanceMethod yX7_isQuiver, Cond.selects RX7 yX7_isQuiver yX7_isQuiver, Cond.initialized RX7, Cond.code yX7_isQuiver cX7_isQuiver 2 (some .boolean), Cond.fieldLink RX7 16 "ArrowFieldModel" "quivers" "Ljava/util/ArrayList;", Cond.methodLink RX7 42 yJx4a65c_size_8abf5, Cond.instanceMethod yJx4a65c_size_8abf5, Cond.selects RJx4a65c yJx4a65c_size_8abf5 yJx4a65c_size_8abf5, Cond.initialized RJx4a65c, Cond.code yJx4a65c_size_8abf5 cJx4a65c_size_8abf5 1 (some .int), Cond.fieldLink RJx4a65c 48 "java/util/ArrayList" "size" "I", Cond.methodLink RX7 46 yX7_is, Cond.static yX7_is, Cond.code yX7_is cX7_is 3 (some .boolean), Cond.methodLink RX7 59 yX7_refuse, Cond.instanceMethod yX7_refuse, Cond.selects RX7 yX7_refuse yX7_refuse, Cond.code yX7_refuse cX7_refuse 2 (some .int), Cond.methodLink RX7 264 yX7_ofQuiverNow, Cond.instanceMethod yX7_ofQuiverNow, Cond.selects RX7 yX7_ofQuiverNow yX7_ofQuiverNow, Cond.code yX7_ofQuiverNow cX7_ofQuiverNow 4 (some .int)]
def wsX7_ofQuiver_r2 : List Cond := [Cond.classLink RX7 74 "ArrowFieldModel$Quiver", Cond.methodLink RX7 50 yJx4a65c_get_915e3, Cond.instanceMethod yJx4a65c_get_915e3, Cond.selects RJx4a65c yJx4a65c_get_915e3 yJx4a65c_get_915e3, Cond.code yJx4a65c_get_915e3 cJx4a65c_get_915e3 2 (some (.object "java/lang/Object")), Cond.methodLink RJx4a65c 118 yJ15_checkIndex_7cf53, Cond.static yJ15_checkIndex_7cf53, Cond.initialized RJ15, Cond.code yJ15_checkIndex_7cf53 cJ15_checkIndex_7cf53 2 (some .int), Cond.methodLink RJ15 105 yJ3_checkIndex_8e157, Cond.static yJ3_checkIndex_8e157, Cond.initialized RJ3, Cond.code yJ3_checkIndex_8e157 cJ3_checkIndex_8e157 3 (some .int), Cond.methodLink RJx4a65c 123 yJx4a65c_elementData_915e3, Cond.instanceMethod yJx4a65c_elementData_915e3, Cond.selects RJx4a65c yJx4a65c_elementData_915e3 yJx4a65c_elementData_915e3, Cond.code yJx4a65c_elementData_915e3 cJx4a65c_elementData_915e3 2 (some (.object "java/lang/Object")), Cond.fieldLink RJx4a65c 9 "java/util/ArrayList" "elementData" "[Ljava/lang/Object;", Cond.methodLink RX7 94 yX7_holder, Cond.instanceMethod yX7_holder, Cond.selects RX7 yX7_holder yX7_holder, Cond.code yX7_holder cX7_holder 3 (some .int), Cond.fieldLink RX7 10 "ArrowFieldModel" "archers" "Ljava/util/ArrayList;", Cond.classLink RX7 54 "ArrowFieldModel$Archer"]
def wsX7_ofQuiver_r3 : List Cond := [Cond.methodLink RX7 120 yX6_set, Cond.instanceMethod yX6_set, Cond.selects RX6 yX6_set yX6_set, Cond.initialized RX6, Cond.code yX6_set cX6_set 4 (some .int), Cond.fieldLink RX6 9 "ArrowFieldModel$Quiver" "where" "[I"]
def wsX7_ofQuiver : List Cond := .code yX7_ofQuiver cX7_ofQuiver 3 (some .int) :: ((wsX7_ofQuiver_r1 ++ (wsX7_ofQuiver_r2 ++ wsX7_ofQuiver_r3)) ++ wsX70 ++ wsJx4a65c0 ++ wsX60 ++ wsX50)
def wsX7_hit_r1 : List Cond := [Cond.fieldLink RX7 39 "ArrowFieldModel" "thrown" "I", Cond.fieldLink RX7 16 "ArrowFieldModel" "quivers" "Ljava/util/ArrayList;", Cond.classLink RX7 74 "ArrowFieldModel$Quiver", Cond.methodLink RX7 87 yX7_isQuiver, Cond.instanceMethod yX7_isQuiver, Cond.selects RX7 yX7_isQuiver yX7_isQuiver, Cond.initialized RX7, Cond.code yX7_isQuiver cX7_isQuiver 2 (some .boolean), Cond.methodLink RX7 42 yJx4a65c_size_8abf5, Cond.instanceMethod yJx4a65c_size_8abf5, Cond.selects RJx4a65c yJx4a65c_size_8abf5 yJx4a65c_size_8abf5, Cond.initialized RJx4a65c, Cond.code yJx4a65c_size_8abf5 cJx4a65c_size_8abf5 1 (some .int), Cond.fieldLink RJx4a65c 48 "java/util/ArrayList" "size" "I", Cond.methodLink RX7 46 yX7_is, Cond.static yX7_is, Cond.code yX7_is cX7_is 3 (some .boolean), Cond.methodLink RX7 50 yJx4a65c_get_915e3, Cond.instanceMethod yJx4a65c_get_915e3, Cond.selects RJx4a65c yJx4a65c_get_915e3 yJx4a65c_get_915e3, Cond.code yJx4a65c_get_915e3 cJx4a65c_get_915e3 2 (some (.object "java/lang/Object")), Cond.methodLink RJx4a65c 118 yJ15_checkIndex_7cf53, Cond.static yJ15_checkIndex_7cf53, Cond.initialized RJ15]
def wsX7_hit_r2 : List Cond := [Cond.code yJ15_checkIndex_7cf53 cJ15_checkIndex_7cf53 2 (some .int), Cond.methodLink RJ15 105 yJ3_checkIndex_8e157, Cond.static yJ3_checkIndex_8e157, Cond.initialized RJ3, Cond.code yJ3_checkIndex_8e157 cJ3_checkIndex_8e157 3 (some .int), Cond.methodLink RJx4a65c 123 yJx4a65c_elementData_915e3, Cond.instanceMethod yJx4a65c_elementData_915e3, Cond.selects RJx4a65c yJx4a65c_elementData_915e3 yJx4a65c_elementData_915e3, Cond.code yJx4a65c_elementData_915e3 cJx4a65c_elementData_915e3 2 (some (.object "java/lang/Object")), Cond.fieldLink RJx4a65c 9 "java/util/ArrayList" "elementData" "[Ljava/lang/Object;"]
def wsX7_hit : List Cond := .code yX7_hit cX7_hit 4 (some .double) :: ((wsX7_hit_r1 ++ wsX7_hit_r2) ++ wsX70 ++ wsX60 ++ wsJx4a65c0)
def wsX7_manyNow_r1 : List Cond := [Cond.arrayClass .int, Cond.fieldLink RX7 10 "ArrowFieldModel" "archers" "Ljava/util/ArrayList;", Cond.fieldLink RX7 16 "ArrowFieldModel" "quivers" "Ljava/util/ArrayList;", Cond.fieldLink RX7 19 "ArrowFieldModel" "distance" "I", Cond.fieldLink RX7 131 "ArrowFieldModel" "wind" "I", Cond.fieldLink RX7 23 "ArrowFieldModel" "face" "I", Cond.fieldLink RX7 232 "ArrowFieldModel" "shots" "I", Cond.fieldLink RX7 179 "ArrowFieldModel" "splits" "I", Cond.fieldLink RX7 197 "ArrowFieldModel" "drawn" "I", Cond.fieldLink RX7 250 "ArrowFieldModel" "began" "I", Cond.fieldLink RX7 182 "ArrowFieldModel" "isClosed" "Z", Cond.fieldLink RX7 253 "ArrowFieldModel" "refused" "I", Cond.methodLink RX7 42 yJx4a65c_size_8abf5, Cond.instanceMethod yJx4a65c_size_8abf5, Cond.selects RJx4a65c yJx4a65c_size_8abf5 yJx4a65c_size_8abf5, Cond.initialized RJx4a65c, Cond.code yJx4a65c_size_8abf5 cJx4a65c_size_8abf5 1 (some .int), Cond.fieldLink RJx4a65c 48 "java/util/ArrayList" "size" "I", Cond.methodLink RX7 128 yX7_stuck, Cond.instanceMethod yX7_stuck, Cond.selects RX7 yX7_stuck yX7_stuck, Cond.initialized RX7, Cond.code yX7_stuck cX7_stuck 4 (some .int), Cond.classLink RX7 74 "ArrowFieldModel$Quiver"]
def wsX7_manyNow_r2 : List Cond := [Cond.methodLink RX7 107 yJx4a65c_iterator_32c93, Cond.instanceMethod yJx4a65c_iterator_32c93, Cond.selects RJx4a65c yJx4a65c_iterator_32c93 yJx4a65c_iterator_32c93, Cond.code yJx4a65c_iterator_32c93 cJx4a65c_iterator_32c93 1 (some (.object "java/util/Iterator")), Cond.classLink RJx4a65c 267 RJx35411, Cond.instantiable RJx35411 4, Cond.initialized RJx35411, Cond.methodLink RJx4a65c 269 yJx35411_init_45d68, Cond.instanceMethod yJx35411_init_45d68, Cond.code yJx35411_init_45d68 cJx35411_init_45d68 2 none, Cond.fieldLink RJx35411 1 "java/util/ArrayList$Itr" "this$0" "Ljava/util/ArrayList;", Cond.methodLink RJx35411 7 objectInit, Cond.instanceMethod objectInit, Cond.code objectInit ⟨#[0xb1]⟩ 1 none, Cond.fieldLink RJx35411 13 "java/util/ArrayList$Itr" "lastRet" "I", Cond.fieldLink RJx35411 17 "java/util/ArrayList" "modCount" "I", Cond.sameField "java/util/ArrayList" "java/util/AbstractList" "modCount" "I", Cond.fieldLink RJx35411 22 "java/util/ArrayList$Itr" "expectedModCount" "I", Cond.methodLink RX7 111 ⟨"java/util/Iterator", "hasNext", "()Z"⟩, Cond.selects RJx35411 ⟨"java/util/Iterator", "hasNext", "()Z"⟩ yJx35411_hasNext_aae02, Cond.instanceMethod yJx35411_hasNext_aae02, Cond.code yJx35411_hasNext_aae02 cJx35411_hasNext_aae02 1 (some .boolean), Cond.fieldLink RJx35411 25 "java/util/ArrayList$Itr" "cursor" "I", Cond.methodLink RX7 116 ⟨"java/util/Iterator", "next", "()Ljava/lang/Object;"⟩]
def wsX7_manyNow_r3 : List Cond := [Cond.selects RJx35411 ⟨"java/util/Iterator", "next", "()Ljava/lang/Object;"⟩ yJx35411_next_0502b, Cond.instanceMethod yJx35411_next_0502b, Cond.code yJx35411_next_0502b cJx35411_next_0502b 3 (some (.object "java/lang/Object")), Cond.fieldLink RJx35411 37 "java/util/ArrayList" "elementData" "[Ljava/lang/Object;", Cond.methodLink RJx35411 31 yJx35411_checkForComodification_da8c8, Cond.instanceMethod yJx35411_checkForComodification_da8c8, Cond.selects RJx35411 yJx35411_checkForComodification_da8c8 yJx35411_checkForComodification_da8c8, Cond.code yJx35411_checkForComodification_da8c8 cJx35411_checkForComodification_da8c8 1 none, Cond.methodLink RX7 120 yX6_set, Cond.instanceMethod yX6_set, Cond.selects RX6 yX6_set yX6_set, Cond.initialized RX6, Cond.code yX6_set cX6_set 4 (some .int), Cond.fieldLink RX6 9 "ArrowFieldModel$Quiver" "where" "[I", Cond.methodLink RX7 123 yJ6_bitCount_0f7a4, Cond.static yJ6_bitCount_0f7a4, Cond.initialized RJ6, Cond.code yJ6_bitCount_0f7a4 cJ6_bitCount_0f7a4 1 (some .int), Cond.constant RJ6 265 (1431655765), Cond.constant RJ6 266 (858993459), Cond.constant RJ6 267 (252645135)]
def wsX7_manyNow : List Cond := .code yX7_manyNow cX7_manyNow 3 (some .int) :: ((wsX7_manyNow_r1 ++ (wsX7_manyNow_r2 ++ wsX7_manyNow_r3)) ++ wsX70 ++ wsJx4a65c0 ++ wsJx354110 ++ wsX60)
def wsX7_many_r1 : List Cond := [Cond.fieldLink RX7 39 "ArrowFieldModel" "thrown" "I", Cond.methodLink RX7 46 yX7_is, Cond.static yX7_is, Cond.initialized RX7, Cond.code yX7_is cX7_is 3 (some .boolean), Cond.methodLink RX7 268 yX7_manyNow, Cond.instanceMethod yX7_manyNow, Cond.selects RX7 yX7_manyNow yX7_manyNow, Cond.code yX7_manyNow cX7_manyNow 3 (some .int), Cond.arrayClass .int, Cond.fieldLink RX7 10 "ArrowFieldModel" "archers" "Ljava/util/ArrayList;", Cond.fieldLink RX7 16 "ArrowFieldModel" "quivers" "Ljava/util/ArrayList;", Cond.fieldLink RX7 19 "ArrowFieldModel" "distance" "I", Cond.fieldLink RX7 131 "ArrowFieldModel" "wind" "I", Cond.fieldLink RX7 23 "ArrowFieldModel" "face" "I", Cond.fieldLink RX7 232 "ArrowFieldModel" "shots" "I", Cond.fieldLink RX7 179 "ArrowFieldModel" "splits" "I", Cond.fieldLink RX7 197 "ArrowFieldModel" "drawn" "I", Cond.fieldLink RX7 250 "ArrowFieldModel" "began" "I", Cond.fieldLink RX7 182 "ArrowFieldModel" "isClosed" "Z", Cond.fieldLink RX7 253 "ArrowFieldModel" "refused" "I", Cond.methodLink RX7 42 yJx4a65c_size_8abf5, Cond.instanceMethod yJx4a65c_size_8abf5, Cond.selects RJx4a65c yJx4a65c_size_8abf5 yJx4a65c_size_8abf5]
def wsX7_many_r2 : List Cond := [Cond.initialized RJx4a65c, Cond.code yJx4a65c_size_8abf5 cJx4a65c_size_8abf5 1 (some .int), Cond.fieldLink RJx4a65c 48 "java/util/ArrayList" "size" "I", Cond.methodLink RX7 128 yX7_stuck, Cond.instanceMethod yX7_stuck, Cond.selects RX7 yX7_stuck yX7_stuck, Cond.code yX7_stuck cX7_stuck 4 (some .int), Cond.classLink RX7 74 "ArrowFieldModel$Quiver", Cond.methodLink RX7 107 yJx4a65c_iterator_32c93, Cond.instanceMethod yJx4a65c_iterator_32c93, Cond.selects RJx4a65c yJx4a65c_iterator_32c93 yJx4a65c_iterator_32c93, Cond.code yJx4a65c_iterator_32c93 cJx4a65c_iterator_32c93 1 (some (.object "java/util/Iterator")), Cond.classLink RJx4a65c 267 RJx35411, Cond.instantiable RJx35411 4, Cond.initialized RJx35411, Cond.methodLink RJx4a65c 269 yJx35411_init_45d68, Cond.instanceMethod yJx35411_init_45d68, Cond.code yJx35411_init_45d68 cJx35411_init_45d68 2 none, Cond.fieldLink RJx35411 1 "java/util/ArrayList$Itr" "this$0" "Ljava/util/ArrayList;", Cond.methodLink RJx35411 7 objectInit, Cond.instanceMethod objectInit, Cond.code objectInit ⟨#[0xb1]⟩ 1 none, Cond.fieldLink RJx35411 13 "java/util/ArrayList$Itr" "lastRet" "I", Cond.fieldLink RJx35411 17 "java/util/ArrayList" "modCount" "I"]
def wsX7_many_r3 : List Cond := [Cond.sameField "java/util/ArrayList" "java/util/AbstractList" "modCount" "I", Cond.fieldLink RJx35411 22 "java/util/ArrayList$Itr" "expectedModCount" "I", Cond.methodLink RX7 111 ⟨"java/util/Iterator", "hasNext", "()Z"⟩, Cond.selects RJx35411 ⟨"java/util/Iterator", "hasNext", "()Z"⟩ yJx35411_hasNext_aae02, Cond.instanceMethod yJx35411_hasNext_aae02, Cond.code yJx35411_hasNext_aae02 cJx35411_hasNext_aae02 1 (some .boolean), Cond.fieldLink RJx35411 25 "java/util/ArrayList$Itr" "cursor" "I", Cond.methodLink RX7 116 ⟨"java/util/Iterator", "next", "()Ljava/lang/Object;"⟩, Cond.selects RJx35411 ⟨"java/util/Iterator", "next", "()Ljava/lang/Object;"⟩ yJx35411_next_0502b, Cond.instanceMethod yJx35411_next_0502b, Cond.code yJx35411_next_0502b cJx35411_next_0502b 3 (some (.object "java/lang/Object")), Cond.fieldLink RJx35411 37 "java/util/ArrayList" "elementData" "[Ljava/lang/Object;", Cond.methodLink RJx35411 31 yJx35411_checkForComodification_da8c8, Cond.instanceMethod yJx35411_checkForComodification_da8c8, Cond.selects RJx35411 yJx35411_checkForComodification_da8c8 yJx35411_checkForComodification_da8c8, Cond.code yJx35411_checkForComodification_da8c8 cJx35411_checkForComodification_da8c8 1 none, Cond.methodLink RX7 120 yX6_set, Cond.instanceMethod yX6_set, Cond.selects RX6 yX6_set yX6_set, Cond.initialized RX6, Cond.code yX6_set cX6_set 4 (some .int), Cond.fieldLink RX6 9 "ArrowFieldModel$Quiver" "where" "[I", Cond.methodLink RX7 123 yJ6_bitCount_0f7a4, Cond.static yJ6_bitCount_0f7a4]
def wsX7_many_r4 : List Cond := [Cond.initialized RJ6, Cond.code yJ6_bitCount_0f7a4 cJ6_bitCount_0f7a4 1 (some .int), Cond.constant RJ6 265 (1431655765), Cond.constant RJ6 266 (858993459), Cond.constant RJ6 267 (252645135), Cond.methodLink RX7 59 yX7_refuse, Cond.instanceMethod yX7_refuse, Cond.selects RX7 yX7_refuse yX7_refuse, Cond.code yX7_refuse cX7_refuse 2 (some .int)]
def wsX7_many : List Cond := .code yX7_many cX7_many 2 (some .int) :: ((wsX7_many_r1 ++ (wsX7_many_r2 ++ (wsX7_many_r3 ++ wsX7_many_r4))) ++ wsX70 ++ wsJx4a65c0 ++ wsJx354110 ++ wsX60)
def wsX7_ofMatchNow : List Cond := .code yX7_ofMatchNow cX7_ofMatchNow 3 (some .int) :: ([.arrayClass .int, .fieldLink RX7 29 "ArrowFieldModel" "party" "[I", .fieldLink RX7 33 "ArrowFieldModel" "points" "[I", .fieldLink RX7 36 "ArrowFieldModel" "sums" "[I", .fieldLink RX7 186 "ArrowFieldModel" "turn" "I", .fieldLink RX7 237 "ArrowFieldModel" "isLast" "Z", .methodLink RX7 90 yX7_isOn, .instanceMethod yX7_isOn, .selects RX7 yX7_isOn yX7_isOn, .initialized RX7, .code yX7_isOn cX7_isOn 1 (some .boolean)] ++ wsX70)
def wsX7_ofMatch : List Cond := .code yX7_ofMatch cX7_ofMatch 2 (some .int) :: ([.fieldLink RX7 39 "ArrowFieldModel" "thrown" "I", .methodLink RX7 46 yX7_is, .static yX7_is, .initialized RX7, .code yX7_is cX7_is 3 (some .boolean), .methodLink RX7 271 yX7_ofMatchNow, .instanceMethod yX7_ofMatchNow, .selects RX7 yX7_ofMatchNow yX7_ofMatchNow, .code yX7_ofMatchNow cX7_ofMatchNow 3 (some .int), .arrayClass .int, .fieldLink RX7 29 "ArrowFieldModel" "party" "[I", .fieldLink RX7 33 "ArrowFieldModel" "points" "[I", .fieldLink RX7 36 "ArrowFieldModel" "sums" "[I", .fieldLink RX7 186 "ArrowFieldModel" "turn" "I", .fieldLink RX7 237 "ArrowFieldModel" "isLast" "Z", .methodLink RX7 90 yX7_isOn, .instanceMethod yX7_isOn, .selects RX7 yX7_isOn yX7_isOn, .code yX7_isOn cX7_isOn 1 (some .boolean), .methodLink RX7 59 yX7_refuse, .instanceMethod yX7_refuse, .selects RX7 yX7_refuse yX7_refuse, .code yX7_refuse cX7_refuse 2 (some .int)] ++ wsX70)
def wsX7_winner : List Cond := .code yX7_winner cX7_winner 1 (some .int) :: ([.fieldLink RX7 39 "ArrowFieldModel" "thrown" "I", .fieldLink RX7 26 "ArrowFieldModel" "winner" "I"] ++ wsX70)
def wsX7_isReady : List Cond := .code yX7_isReady cX7_isReady 2 (some .boolean) :: ([.fieldLink RX7 10 "ArrowFieldModel" "archers" "Ljava/util/ArrayList;", .classLink RX7 54 "ArrowFieldModel$Archer", .methodLink RX7 50 yJx4a65c_get_915e3, .instanceMethod yJx4a65c_get_915e3, .selects RJx4a65c yJx4a65c_get_915e3 yJx4a65c_get_915e3, .initialized RJx4a65c, .code yJx4a65c_get_915e3 cJx4a65c_get_915e3 2 (some (.object "java/lang/Object")), .fieldLink RJx4a65c 48 "java/util/ArrayList" "size" "I", .methodLink RJx4a65c 118 yJ15_checkIndex_7cf53, .static yJ15_checkIndex_7cf53, .initialized RJ15, .code yJ15_checkIndex_7cf53 cJ15_checkIndex_7cf53 2 (some .int), .methodLink RJ15 105 yJ3_checkIndex_8e157, .static yJ3_checkIndex_8e157, .initialized RJ3, .code yJ3_checkIndex_8e157 cJ3_checkIndex_8e157 3 (some .int), .methodLink RJx4a65c 123 yJx4a65c_elementData_915e3, .instanceMethod yJx4a65c_elementData_915e3, .selects RJx4a65c yJx4a65c_elementData_915e3 yJx4a65c_elementData_915e3, .code yJx4a65c_elementData_915e3 cJx4a65c_elementData_915e3 2 (some (.object "java/lang/Object")), .fieldLink RJx4a65c 9 "java/util/ArrayList" "elementData" "[Ljava/lang/Object;"] ++ wsX70 ++ wsX50 ++ wsJx4a65c0)
def wsX7_fly__r1 : List Cond := [Cond.fieldLink RX7 10 "ArrowFieldModel" "archers" "Ljava/util/ArrayList;", Cond.classLink RX7 54 "ArrowFieldModel$Archer", Cond.fieldLink RX7 16 "ArrowFieldModel" "quivers" "Ljava/util/ArrayList;", Cond.classLink RX7 74 "ArrowFieldModel$Quiver", Cond.methodLink RX7 50 yJx4a65c_get_915e3, Cond.instanceMethod yJx4a65c_get_915e3, Cond.selects RJx4a65c yJx4a65c_get_915e3 yJx4a65c_get_915e3, Cond.initialized RJx4a65c, Cond.code yJx4a65c_get_915e3 cJx4a65c_get_915e3 2 (some (.object "java/lang/Object")), Cond.fieldLink RJx4a65c 48 "java/util/ArrayList" "size" "I", Cond.methodLink RJx4a65c 118 yJ15_checkIndex_7cf53, Cond.static yJ15_checkIndex_7cf53, Cond.initialized RJ15, Cond.code yJ15_checkIndex_7cf53 cJ15_checkIndex_7cf53 2 (some .int), Cond.methodLink RJ15 105 yJ3_checkIndex_8e157, Cond.static yJ3_checkIndex_8e157, Cond.initialized RJ3, Cond.code yJ3_checkIndex_8e157 cJ3_checkIndex_8e157 3 (some .int), Cond.methodLink RJx4a65c 123 yJx4a65c_elementData_915e3, Cond.instanceMethod yJx4a65c_elementData_915e3, Cond.selects RJx4a65c yJx4a65c_elementData_915e3 yJx4a65c_elementData_915e3, Cond.code yJx4a65c_elementData_915e3 cJx4a65c_elementData_915e3 2 (some (.object "java/lang/Object")), Cond.fieldLink RJx4a65c 9 "java/util/ArrayList" "elementData" "[Ljava/lang/Object;", Cond.methodLink RX7 193 yX7_fly]
def wsX7_fly__r2 : List Cond := [Cond.instanceMethod yX7_fly, Cond.selects RX7 yX7_fly yX7_fly, Cond.initialized RX7, Cond.code yX7_fly cX7_fly 15 none, Cond.constantDouble RX7 142 (4647714815446351872), Cond.constantDouble RX7 144 (4620693217682128896), Cond.constantDouble RX7 146 (4643211215818981376), Cond.fieldLink RX7 148 "ArrowFieldModel" "h" "D", Cond.fieldLink RX7 152 "ArrowFieldModel" "v" "D", Cond.constantDouble RX7 155 (4625196817309499392), Cond.constantDouble RX7 157 (4603804719079489536), Cond.fieldLink RX7 131 "ArrowFieldModel" "wind" "I", Cond.constantDouble RX7 159 (4634204016564240384), Cond.methodLink RX7 138 yX7_speed, Cond.static yX7_speed, Cond.code yX7_speed cX7_speed 2 (some .double), Cond.constantDouble RX7 134 (4648488871632306176), Cond.constantDouble RX7 136 (4641240890982006784)]
def wsX7_fly_ : List Cond := .code yX7_fly_ cX7_fly_ 5 none :: ((wsX7_fly__r1 ++ wsX7_fly__r2) ++ wsX70 ++ wsX50 ++ wsJx4a65c0 ++ wsX60)
def wsX7_wouldHit_r1 : List Cond := [Cond.fieldLink RX7 39 "ArrowFieldModel" "thrown" "I", Cond.fieldLink RX7 19 "ArrowFieldModel" "distance" "I", Cond.fieldLink RX7 152 "ArrowFieldModel" "v" "D", Cond.fieldLink RX7 148 "ArrowFieldModel" "h" "D", Cond.methodLink RX7 83 yX7_isArcher, Cond.instanceMethod yX7_isArcher, Cond.selects RX7 yX7_isArcher yX7_isArcher, Cond.initialized RX7, Cond.code yX7_isArcher cX7_isArcher 2 (some .boolean), Cond.fieldLink RX7 10 "ArrowFieldModel" "archers" "Ljava/util/ArrayList;", Cond.methodLink RX7 42 yJx4a65c_size_8abf5, Cond.instanceMethod yJx4a65c_size_8abf5, Cond.selects RJx4a65c yJx4a65c_size_8abf5 yJx4a65c_size_8abf5, Cond.initialized RJx4a65c, Cond.code yJx4a65c_size_8abf5 cJx4a65c_size_8abf5 1 (some .int), Cond.fieldLink RJx4a65c 48 "java/util/ArrayList" "size" "I", Cond.methodLink RX7 46 yX7_is, Cond.static yX7_is, Cond.code yX7_is cX7_is 3 (some .boolean), Cond.methodLink RX7 274 yX7_isReady, Cond.instanceMethod yX7_isReady, Cond.selects RX7 yX7_isReady yX7_isReady, Cond.code yX7_isReady cX7_isReady 2 (some .boolean), Cond.classLink RX7 54 "ArrowFieldModel$Archer"]
def wsX7_wouldHit_r2 : List Cond := [Cond.methodLink RX7 50 yJx4a65c_get_915e3, Cond.instanceMethod yJx4a65c_get_915e3, Cond.selects RJx4a65c yJx4a65c_get_915e3 yJx4a65c_get_915e3, Cond.code yJx4a65c_get_915e3 cJx4a65c_get_915e3 2 (some (.object "java/lang/Object")), Cond.methodLink RJx4a65c 118 yJ15_checkIndex_7cf53, Cond.static yJ15_checkIndex_7cf53, Cond.initialized RJ15, Cond.code yJ15_checkIndex_7cf53 cJ15_checkIndex_7cf53 2 (some .int), Cond.methodLink RJ15 105 yJ3_checkIndex_8e157, Cond.static yJ3_checkIndex_8e157, Cond.initialized RJ3, Cond.code yJ3_checkIndex_8e157 cJ3_checkIndex_8e157 3 (some .int), Cond.methodLink RJx4a65c 123 yJx4a65c_elementData_915e3, Cond.instanceMethod yJx4a65c_elementData_915e3, Cond.selects RJx4a65c yJx4a65c_elementData_915e3 yJx4a65c_elementData_915e3, Cond.code yJx4a65c_elementData_915e3 cJx4a65c_elementData_915e3 2 (some (.object "java/lang/Object")), Cond.fieldLink RJx4a65c 9 "java/util/ArrayList" "elementData" "[Ljava/lang/Object;", Cond.methodLink RX7 277 yX7_fly_, Cond.instanceMethod yX7_fly_, Cond.selects RX7 yX7_fly_ yX7_fly_, Cond.code yX7_fly_ cX7_fly_ 5 none, Cond.fieldLink RX7 16 "ArrowFieldModel" "quivers" "Ljava/util/ArrayList;", Cond.classLink RX7 74 "ArrowFieldModel$Quiver", Cond.methodLink RX7 193 yX7_fly]
def wsX7_wouldHit_r3 : List Cond := [Cond.instanceMethod yX7_fly, Cond.selects RX7 yX7_fly yX7_fly, Cond.code yX7_fly cX7_fly 15 none, Cond.constantDouble RX7 142 (4647714815446351872), Cond.constantDouble RX7 144 (4620693217682128896), Cond.constantDouble RX7 146 (4643211215818981376), Cond.constantDouble RX7 155 (4625196817309499392), Cond.constantDouble RX7 157 (4603804719079489536), Cond.fieldLink RX7 131 "ArrowFieldModel" "wind" "I", Cond.constantDouble RX7 159 (4634204016564240384), Cond.methodLink RX7 138 yX7_speed, Cond.static yX7_speed, Cond.code yX7_speed cX7_speed 2 (some .double), Cond.constantDouble RX7 134 (4648488871632306176), Cond.constantDouble RX7 136 (4641240890982006784)]
def wsX7_wouldHit : List Cond := .code yX7_wouldHit cX7_wouldHit 4 (some .double) :: ((wsX7_wouldHit_r1 ++ (wsX7_wouldHit_r2 ++ wsX7_wouldHit_r3)) ++ wsX70 ++ wsJx4a65c0 ++ wsX50 ++ wsX60)
def wsX7_mark_r1 : List Cond := [Cond.fieldLink RX7 39 "ArrowFieldModel" "thrown" "I", Cond.fieldLink RX7 19 "ArrowFieldModel" "distance" "I", Cond.fieldLink RX7 152 "ArrowFieldModel" "v" "D", Cond.methodLink RX7 83 yX7_isArcher, Cond.instanceMethod yX7_isArcher, Cond.selects RX7 yX7_isArcher yX7_isArcher, Cond.initialized RX7, Cond.code yX7_isArcher cX7_isArcher 2 (some .boolean), Cond.fieldLink RX7 10 "ArrowFieldModel" "archers" "Ljava/util/ArrayList;", Cond.methodLink RX7 42 yJx4a65c_size_8abf5, Cond.instanceMethod yJx4a65c_size_8abf5, Cond.selects RJx4a65c yJx4a65c_size_8abf5 yJx4a65c_size_8abf5, Cond.initialized RJx4a65c, Cond.code yJx4a65c_size_8abf5 cJx4a65c_size_8abf5 1 (some .int), Cond.fieldLink RJx4a65c 48 "java/util/ArrayList" "size" "I", Cond.methodLink RX7 46 yX7_is, Cond.static yX7_is, Cond.code yX7_is cX7_is 3 (some .boolean), Cond.methodLink RX7 59 yX7_refuse, Cond.instanceMethod yX7_refuse, Cond.selects RX7 yX7_refuse yX7_refuse, Cond.code yX7_refuse cX7_refuse 2 (some .int), Cond.methodLink RX7 274 yX7_isReady, Cond.instanceMethod yX7_isReady]
def wsX7_mark_r2 : List Cond := [Cond.selects RX7 yX7_isReady yX7_isReady, Cond.code yX7_isReady cX7_isReady 2 (some .boolean), Cond.classLink RX7 54 "ArrowFieldModel$Archer", Cond.methodLink RX7 50 yJx4a65c_get_915e3, Cond.instanceMethod yJx4a65c_get_915e3, Cond.selects RJx4a65c yJx4a65c_get_915e3 yJx4a65c_get_915e3, Cond.code yJx4a65c_get_915e3 cJx4a65c_get_915e3 2 (some (.object "java/lang/Object")), Cond.methodLink RJx4a65c 118 yJ15_checkIndex_7cf53, Cond.static yJ15_checkIndex_7cf53, Cond.initialized RJ15, Cond.code yJ15_checkIndex_7cf53 cJ15_checkIndex_7cf53 2 (some .int), Cond.methodLink RJ15 105 yJ3_checkIndex_8e157, Cond.static yJ3_checkIndex_8e157, Cond.initialized RJ3, Cond.code yJ3_checkIndex_8e157 cJ3_checkIndex_8e157 3 (some .int), Cond.methodLink RJx4a65c 123 yJx4a65c_elementData_915e3, Cond.instanceMethod yJx4a65c_elementData_915e3, Cond.selects RJx4a65c yJx4a65c_elementData_915e3 yJx4a65c_elementData_915e3, Cond.code yJx4a65c_elementData_915e3 cJx4a65c_elementData_915e3 2 (some (.object "java/lang/Object")), Cond.fieldLink RJx4a65c 9 "java/util/ArrayList" "elementData" "[Ljava/lang/Object;", Cond.methodLink RX7 277 yX7_fly_, Cond.instanceMethod yX7_fly_, Cond.selects RX7 yX7_fly_ yX7_fly_, Cond.code yX7_fly_ cX7_fly_ 5 none]
def wsX7_mark_r3 : List Cond := [Cond.fieldLink RX7 16 "ArrowFieldModel" "quivers" "Ljava/util/ArrayList;", Cond.classLink RX7 74 "ArrowFieldModel$Quiver", Cond.methodLink RX7 193 yX7_fly, Cond.instanceMethod yX7_fly, Cond.selects RX7 yX7_fly yX7_fly, Cond.code yX7_fly cX7_fly 15 none, Cond.constantDouble RX7 142 (4647714815446351872), Cond.constantDouble RX7 144 (4620693217682128896), Cond.constantDouble RX7 146 (4643211215818981376), Cond.fieldLink RX7 148 "ArrowFieldModel" "h" "D", Cond.constantDouble RX7 155 (4625196817309499392), Cond.constantDouble RX7 157 (4603804719079489536), Cond.fieldLink RX7 131 "ArrowFieldModel" "wind" "I", Cond.constantDouble RX7 159 (4634204016564240384), Cond.methodLink RX7 138 yX7_speed, Cond.static yX7_speed, Cond.code yX7_speed cX7_speed 2 (some .double), Cond.constantDouble RX7 134 (4648488871632306176), Cond.constantDouble RX7 136 (4641240890982006784), Cond.methodLink RX7 169 yJ9_abs_294c1, Cond.static yJ9_abs_294c1, Cond.initialized RJ9, Cond.code yJ9_abs_294c1 cJ9_abs_294c1 2 (some .double), Cond.methodLink RJ9 79 ⟨"java/lang/Double", "doubleToRawLongBits", "(D)J"⟩]
def wsX7_mark_r4 : List Cond := [Cond.native ⟨"java/lang/Double", "doubleToRawLongBits", "(D)J"⟩, Cond.static ⟨"java/lang/Double", "doubleToRawLongBits", "(D)J"⟩, Cond.initialized "java/lang/Double", Cond.constantLong RJ9 135 (9223372036854775807), Cond.methodLink RJ9 166 ⟨"java/lang/Double", "longBitsToDouble", "(J)D"⟩, Cond.native ⟨"java/lang/Double", "longBitsToDouble", "(J)D"⟩, Cond.static ⟨"java/lang/Double", "longBitsToDouble", "(J)D"⟩]
def wsX7_mark : List Cond := .code yX7_mark cX7_mark 6 (some .int) :: ((wsX7_mark_r1 ++ (wsX7_mark_r2 ++ (wsX7_mark_r3 ++ wsX7_mark_r4))) ++ wsX70 ++ wsJx4a65c0 ++ wsX50 ++ wsX60)
def wsX7_bestNow_r1 : List Cond := [Cond.fieldLink RX7 16 "ArrowFieldModel" "quivers" "Ljava/util/ArrayList;", Cond.fieldLink RX7 10 "ArrowFieldModel" "archers" "Ljava/util/ArrayList;", Cond.classLink RX7 54 "ArrowFieldModel$Archer", Cond.classLink RX7 74 "ArrowFieldModel$Quiver", Cond.fieldLink RX7 19 "ArrowFieldModel" "distance" "I", Cond.fieldLink RX7 148 "ArrowFieldModel" "h" "D", Cond.methodLink RX7 42 yJx4a65c_size_8abf5, Cond.instanceMethod yJx4a65c_size_8abf5, Cond.selects RJx4a65c yJx4a65c_size_8abf5 yJx4a65c_size_8abf5, Cond.initialized RJx4a65c, Cond.code yJx4a65c_size_8abf5 cJx4a65c_size_8abf5 1 (some .int), Cond.fieldLink RJx4a65c 48 "java/util/ArrayList" "size" "I", Cond.methodLink RX7 94 yX7_holder, Cond.instanceMethod yX7_holder, Cond.selects RX7 yX7_holder yX7_holder, Cond.initialized RX7, Cond.code yX7_holder cX7_holder 3 (some .int), Cond.methodLink RX7 50 yJx4a65c_get_915e3, Cond.instanceMethod yJx4a65c_get_915e3, Cond.selects RJx4a65c yJx4a65c_get_915e3 yJx4a65c_get_915e3, Cond.code yJx4a65c_get_915e3 cJx4a65c_get_915e3 2 (some (.object "java/lang/Object")), Cond.methodLink RJx4a65c 118 yJ15_checkIndex_7cf53, Cond.static yJ15_checkIndex_7cf53, Cond.initialized RJ15]
def wsX7_bestNow_r2 : List Cond := [Cond.code yJ15_checkIndex_7cf53 cJ15_checkIndex_7cf53 2 (some .int), Cond.methodLink RJ15 105 yJ3_checkIndex_8e157, Cond.static yJ3_checkIndex_8e157, Cond.initialized RJ3, Cond.code yJ3_checkIndex_8e157 cJ3_checkIndex_8e157 3 (some .int), Cond.methodLink RJx4a65c 123 yJx4a65c_elementData_915e3, Cond.instanceMethod yJx4a65c_elementData_915e3, Cond.selects RJx4a65c yJx4a65c_elementData_915e3 yJx4a65c_elementData_915e3, Cond.code yJx4a65c_elementData_915e3 cJx4a65c_elementData_915e3 2 (some (.object "java/lang/Object")), Cond.fieldLink RJx4a65c 9 "java/util/ArrayList" "elementData" "[Ljava/lang/Object;", Cond.methodLink RX7 193 yX7_fly, Cond.instanceMethod yX7_fly, Cond.selects RX7 yX7_fly yX7_fly, Cond.code yX7_fly cX7_fly 15 none, Cond.constantDouble RX7 142 (4647714815446351872), Cond.constantDouble RX7 144 (4620693217682128896), Cond.constantDouble RX7 146 (4643211215818981376), Cond.fieldLink RX7 152 "ArrowFieldModel" "v" "D", Cond.constantDouble RX7 155 (4625196817309499392), Cond.constantDouble RX7 157 (4603804719079489536), Cond.fieldLink RX7 131 "ArrowFieldModel" "wind" "I", Cond.constantDouble RX7 159 (4634204016564240384), Cond.methodLink RX7 138 yX7_speed, Cond.static yX7_speed]
def wsX7_bestNow_r3 : List Cond := [Cond.code yX7_speed cX7_speed 2 (some .double), Cond.constantDouble RX7 134 (4648488871632306176), Cond.constantDouble RX7 136 (4641240890982006784), Cond.methodLink RX7 169 yJ9_abs_294c1, Cond.static yJ9_abs_294c1, Cond.initialized RJ9, Cond.code yJ9_abs_294c1 cJ9_abs_294c1 2 (some .double), Cond.methodLink RJ9 79 ⟨"java/lang/Double", "doubleToRawLongBits", "(D)J"⟩, Cond.native ⟨"java/lang/Double", "doubleToRawLongBits", "(D)J"⟩, Cond.static ⟨"java/lang/Double", "doubleToRawLongBits", "(D)J"⟩, Cond.initialized "java/lang/Double", Cond.constantLong RJ9 135 (9223372036854775807), Cond.methodLink RJ9 166 ⟨"java/lang/Double", "longBitsToDouble", "(J)D"⟩, Cond.native ⟨"java/lang/Double", "longBitsToDouble", "(J)D"⟩, Cond.static ⟨"java/lang/Double", "longBitsToDouble", "(J)D"⟩]
def wsX7_bestNow : List Cond := .code yX7_bestNow cX7_bestNow 7 (some .int) :: ((wsX7_bestNow_r1 ++ (wsX7_bestNow_r2 ++ wsX7_bestNow_r3)) ++ wsX70 ++ wsX50 ++ wsJx4a65c0 ++ wsX60)
def wsX7_best_r1 : List Cond := [Cond.fieldLink RX7 39 "ArrowFieldModel" "thrown" "I", Cond.methodLink RX7 83 yX7_isArcher, Cond.instanceMethod yX7_isArcher, Cond.selects RX7 yX7_isArcher yX7_isArcher, Cond.initialized RX7, Cond.code yX7_isArcher cX7_isArcher 2 (some .boolean), Cond.fieldLink RX7 10 "ArrowFieldModel" "archers" "Ljava/util/ArrayList;", Cond.methodLink RX7 42 yJx4a65c_size_8abf5, Cond.instanceMethod yJx4a65c_size_8abf5, Cond.selects RJx4a65c yJx4a65c_size_8abf5 yJx4a65c_size_8abf5, Cond.initialized RJx4a65c, Cond.code yJx4a65c_size_8abf5 cJx4a65c_size_8abf5 1 (some .int), Cond.fieldLink RJx4a65c 48 "java/util/ArrayList" "size" "I", Cond.methodLink RX7 46 yX7_is, Cond.static yX7_is, Cond.code yX7_is cX7_is 3 (some .boolean), Cond.methodLink RX7 280 yX7_bestNow, Cond.instanceMethod yX7_bestNow, Cond.selects RX7 yX7_bestNow yX7_bestNow, Cond.code yX7_bestNow cX7_bestNow 7 (some .int), Cond.fieldLink RX7 16 "ArrowFieldModel" "quivers" "Ljava/util/ArrayList;", Cond.classLink RX7 54 "ArrowFieldModel$Archer", Cond.classLink RX7 74 "ArrowFieldModel$Quiver", Cond.fieldLink RX7 19 "ArrowFieldModel" "distance" "I"]
def wsX7_best_r2 : List Cond := [Cond.fieldLink RX7 148 "ArrowFieldModel" "h" "D", Cond.methodLink RX7 94 yX7_holder, Cond.instanceMethod yX7_holder, Cond.selects RX7 yX7_holder yX7_holder, Cond.code yX7_holder cX7_holder 3 (some .int), Cond.methodLink RX7 50 yJx4a65c_get_915e3, Cond.instanceMethod yJx4a65c_get_915e3, Cond.selects RJx4a65c yJx4a65c_get_915e3 yJx4a65c_get_915e3, Cond.code yJx4a65c_get_915e3 cJx4a65c_get_915e3 2 (some (.object "java/lang/Object")), Cond.methodLink RJx4a65c 118 yJ15_checkIndex_7cf53, Cond.static yJ15_checkIndex_7cf53, Cond.initialized RJ15, Cond.code yJ15_checkIndex_7cf53 cJ15_checkIndex_7cf53 2 (some .int), Cond.methodLink RJ15 105 yJ3_checkIndex_8e157, Cond.static yJ3_checkIndex_8e157, Cond.initialized RJ3, Cond.code yJ3_checkIndex_8e157 cJ3_checkIndex_8e157 3 (some .int), Cond.methodLink RJx4a65c 123 yJx4a65c_elementData_915e3, Cond.instanceMethod yJx4a65c_elementData_915e3, Cond.selects RJx4a65c yJx4a65c_elementData_915e3 yJx4a65c_elementData_915e3, Cond.code yJx4a65c_elementData_915e3 cJx4a65c_elementData_915e3 2 (some (.object "java/lang/Object")), Cond.fieldLink RJx4a65c 9 "java/util/ArrayList" "elementData" "[Ljava/lang/Object;", Cond.methodLink RX7 193 yX7_fly, Cond.instanceMethod yX7_fly]
def wsX7_best_r3 : List Cond := [Cond.selects RX7 yX7_fly yX7_fly, Cond.code yX7_fly cX7_fly 15 none, Cond.constantDouble RX7 142 (4647714815446351872), Cond.constantDouble RX7 144 (4620693217682128896), Cond.constantDouble RX7 146 (4643211215818981376), Cond.fieldLink RX7 152 "ArrowFieldModel" "v" "D", Cond.constantDouble RX7 155 (4625196817309499392), Cond.constantDouble RX7 157 (4603804719079489536), Cond.fieldLink RX7 131 "ArrowFieldModel" "wind" "I", Cond.constantDouble RX7 159 (4634204016564240384), Cond.methodLink RX7 138 yX7_speed, Cond.static yX7_speed, Cond.code yX7_speed cX7_speed 2 (some .double), Cond.constantDouble RX7 134 (4648488871632306176), Cond.constantDouble RX7 136 (4641240890982006784), Cond.methodLink RX7 169 yJ9_abs_294c1, Cond.static yJ9_abs_294c1, Cond.initialized RJ9, Cond.code yJ9_abs_294c1 cJ9_abs_294c1 2 (some .double), Cond.methodLink RJ9 79 ⟨"java/lang/Double", "doubleToRawLongBits", "(D)J"⟩, Cond.native ⟨"java/lang/Double", "doubleToRawLongBits", "(D)J"⟩, Cond.static ⟨"java/lang/Double", "doubleToRawLongBits", "(D)J"⟩, Cond.initialized "java/lang/Double", Cond.constantLong RJ9 135 (9223372036854775807)]
def wsX7_best_r4 : List Cond := [Cond.methodLink RJ9 166 ⟨"java/lang/Double", "longBitsToDouble", "(J)D"⟩, Cond.native ⟨"java/lang/Double", "longBitsToDouble", "(J)D"⟩, Cond.static ⟨"java/lang/Double", "longBitsToDouble", "(J)D"⟩, Cond.methodLink RX7 59 yX7_refuse, Cond.instanceMethod yX7_refuse, Cond.selects RX7 yX7_refuse yX7_refuse, Cond.code yX7_refuse cX7_refuse 2 (some .int)]
def wsX7_best : List Cond := .code yX7_best cX7_best 2 (some .int) :: ((wsX7_best_r1 ++ (wsX7_best_r2 ++ (wsX7_best_r3 ++ wsX7_best_r4))) ++ wsX70 ++ wsJx4a65c0 ++ wsX50 ++ wsX60)
def wsX7_reach_r1 : List Cond := [Cond.fieldLink RX7 39 "ArrowFieldModel" "thrown" "I", Cond.fieldLink RX7 10 "ArrowFieldModel" "archers" "Ljava/util/ArrayList;", Cond.classLink RX7 54 "ArrowFieldModel$Archer", Cond.constantDouble RX7 283 (4638637247447433216), Cond.constantDouble RX7 142 (4647714815446351872), Cond.constantDouble RX7 144 (4620693217682128896), Cond.constantDouble RX7 155 (4625196817309499392), Cond.constantDouble RX7 146 (4643211215818981376), Cond.constantDouble RX7 157 (4603804719079489536), Cond.methodLink RX7 83 yX7_isArcher, Cond.instanceMethod yX7_isArcher, Cond.selects RX7 yX7_isArcher yX7_isArcher, Cond.initialized RX7, Cond.code yX7_isArcher cX7_isArcher 2 (some .boolean), Cond.methodLink RX7 42 yJx4a65c_size_8abf5, Cond.instanceMethod yJx4a65c_size_8abf5, Cond.selects RJx4a65c yJx4a65c_size_8abf5 yJx4a65c_size_8abf5, Cond.initialized RJx4a65c, Cond.code yJx4a65c_size_8abf5 cJx4a65c_size_8abf5 1 (some .int), Cond.fieldLink RJx4a65c 48 "java/util/ArrayList" "size" "I", Cond.methodLink RX7 46 yX7_is, Cond.static yX7_is, Cond.code yX7_is cX7_is 3 (some .boolean), Cond.methodLink RX7 59 yX7_refuse]
def wsX7_reach_r2 : List Cond := [Cond.instanceMethod yX7_refuse, Cond.selects RX7 yX7_refuse yX7_refuse, Cond.code yX7_refuse cX7_refuse 2 (some .int), Cond.methodLink RX7 274 yX7_isReady, Cond.instanceMethod yX7_isReady, Cond.selects RX7 yX7_isReady yX7_isReady, Cond.code yX7_isReady cX7_isReady 2 (some .boolean), Cond.methodLink RX7 50 yJx4a65c_get_915e3, Cond.instanceMethod yJx4a65c_get_915e3, Cond.selects RJx4a65c yJx4a65c_get_915e3 yJx4a65c_get_915e3, Cond.code yJx4a65c_get_915e3 cJx4a65c_get_915e3 2 (some (.object "java/lang/Object")), Cond.methodLink RJx4a65c 118 yJ15_checkIndex_7cf53, Cond.static yJ15_checkIndex_7cf53, Cond.initialized RJ15, Cond.code yJ15_checkIndex_7cf53 cJ15_checkIndex_7cf53 2 (some .int), Cond.methodLink RJ15 105 yJ3_checkIndex_8e157, Cond.static yJ3_checkIndex_8e157, Cond.initialized RJ3, Cond.code yJ3_checkIndex_8e157 cJ3_checkIndex_8e157 3 (some .int), Cond.methodLink RJx4a65c 123 yJx4a65c_elementData_915e3, Cond.instanceMethod yJx4a65c_elementData_915e3, Cond.selects RJx4a65c yJx4a65c_elementData_915e3 yJx4a65c_elementData_915e3, Cond.code yJx4a65c_elementData_915e3 cJx4a65c_elementData_915e3 2 (some (.object "java/lang/Object")), Cond.fieldLink RJx4a65c 9 "java/util/ArrayList" "elementData" "[Ljava/lang/Object;"]
def wsX7_reach_r3 : List Cond := [Cond.methodLink RX7 260 yX7_speedNow, Cond.instanceMethod yX7_speedNow, Cond.selects RX7 yX7_speedNow yX7_speedNow, Cond.code yX7_speedNow cX7_speedNow 2 (some .double), Cond.fieldLink RX7 16 "ArrowFieldModel" "quivers" "Ljava/util/ArrayList;", Cond.classLink RX7 74 "ArrowFieldModel$Quiver", Cond.methodLink RX7 138 yX7_speed, Cond.static yX7_speed, Cond.code yX7_speed cX7_speed 2 (some .double), Cond.constantDouble RX7 134 (4648488871632306176), Cond.constantDouble RX7 136 (4641240890982006784)]
def wsX7_reach : List Cond := .code yX7_reach cX7_reach 13 (some .int) :: ((wsX7_reach_r1 ++ (wsX7_reach_r2 ++ wsX7_reach_r3)) ++ wsX70 ++ wsX50 ++ wsJx4a65c0 ++ wsX60)
def wsX7_wouldScore_r1 : List Cond := [Cond.fieldLink RX7 39 "ArrowFieldModel" "thrown" "I", Cond.fieldLink RX7 10 "ArrowFieldModel" "archers" "Ljava/util/ArrayList;", Cond.classLink RX7 54 "ArrowFieldModel$Archer", Cond.fieldLink RX7 19 "ArrowFieldModel" "distance" "I", Cond.fieldLink RX7 148 "ArrowFieldModel" "h" "D", Cond.fieldLink RX7 152 "ArrowFieldModel" "v" "D", Cond.methodLink RX7 83 yX7_isArcher, Cond.instanceMethod yX7_isArcher, Cond.selects RX7 yX7_isArcher yX7_isArcher, Cond.initialized RX7, Cond.code yX7_isArcher cX7_isArcher 2 (some .boolean), Cond.methodLink RX7 42 yJx4a65c_size_8abf5, Cond.instanceMethod yJx4a65c_size_8abf5, Cond.selects RJx4a65c yJx4a65c_size_8abf5 yJx4a65c_size_8abf5, Cond.initialized RJx4a65c, Cond.code yJx4a65c_size_8abf5 cJx4a65c_size_8abf5 1 (some .int), Cond.fieldLink RJx4a65c 48 "java/util/ArrayList" "size" "I", Cond.methodLink RX7 46 yX7_is, Cond.static yX7_is, Cond.code yX7_is cX7_is 3 (some .boolean), Cond.methodLink RX7 59 yX7_refuse, Cond.instanceMethod yX7_refuse, Cond.selects RX7 yX7_refuse yX7_refuse, Cond.code yX7_refuse cX7_refuse 2 (some .int)]
def wsX7_wouldScore_r2 : List Cond := [Cond.methodLink RX7 274 yX7_isReady, Cond.instanceMethod yX7_isReady, Cond.selects RX7 yX7_isReady yX7_isReady, Cond.code yX7_isReady cX7_isReady 2 (some .boolean), Cond.methodLink RX7 50 yJx4a65c_get_915e3, Cond.instanceMethod yJx4a65c_get_915e3, Cond.selects RJx4a65c yJx4a65c_get_915e3 yJx4a65c_get_915e3, Cond.code yJx4a65c_get_915e3 cJx4a65c_get_915e3 2 (some (.object "java/lang/Object")), Cond.methodLink RJx4a65c 118 yJ15_checkIndex_7cf53, Cond.static yJ15_checkIndex_7cf53, Cond.initialized RJ15, Cond.code yJ15_checkIndex_7cf53 cJ15_checkIndex_7cf53 2 (some .int), Cond.methodLink RJ15 105 yJ3_checkIndex_8e157, Cond.static yJ3_checkIndex_8e157, Cond.initialized RJ3, Cond.code yJ3_checkIndex_8e157 cJ3_checkIndex_8e157 3 (some .int), Cond.methodLink RJx4a65c 123 yJx4a65c_elementData_915e3, Cond.instanceMethod yJx4a65c_elementData_915e3, Cond.selects RJx4a65c yJx4a65c_elementData_915e3 yJx4a65c_elementData_915e3, Cond.code yJx4a65c_elementData_915e3 cJx4a65c_elementData_915e3 2 (some (.object "java/lang/Object")), Cond.fieldLink RJx4a65c 9 "java/util/ArrayList" "elementData" "[Ljava/lang/Object;", Cond.methodLink RX7 277 yX7_fly_, Cond.instanceMethod yX7_fly_, Cond.selects RX7 yX7_fly_ yX7_fly_]
def wsX7_wouldScore_r3 : List Cond := [Cond.code yX7_fly_ cX7_fly_ 5 none, Cond.fieldLink RX7 16 "ArrowFieldModel" "quivers" "Ljava/util/ArrayList;", Cond.classLink RX7 74 "ArrowFieldModel$Quiver", Cond.methodLink RX7 193 yX7_fly, Cond.instanceMethod yX7_fly, Cond.selects RX7 yX7_fly yX7_fly, Cond.code yX7_fly cX7_fly 15 none, Cond.constantDouble RX7 142 (4647714815446351872), Cond.constantDouble RX7 144 (4620693217682128896), Cond.constantDouble RX7 146 (4643211215818981376), Cond.constantDouble RX7 155 (4625196817309499392), Cond.constantDouble RX7 157 (4603804719079489536), Cond.fieldLink RX7 131 "ArrowFieldModel" "wind" "I", Cond.constantDouble RX7 159 (4634204016564240384), Cond.methodLink RX7 138 yX7_speed, Cond.static yX7_speed, Cond.code yX7_speed cX7_speed 2 (some .double), Cond.constantDouble RX7 134 (4648488871632306176), Cond.constantDouble RX7 136 (4641240890982006784), Cond.methodLink RX7 207 yX7_score, Cond.instanceMethod yX7_score, Cond.selects RX7 yX7_score yX7_score, Cond.code yX7_score cX7_score 6 (some .int), Cond.fieldLink RX7 23 "ArrowFieldModel" "face" "I"]
def wsX7_wouldScore_r4 : List Cond := [Cond.constantDouble RX7 161 (4575657221408423936)]
def wsX7_wouldScore : List Cond := .code yX7_wouldScore cX7_wouldScore 2 (some .int) :: ((wsX7_wouldScore_r1 ++ (wsX7_wouldScore_r2 ++ (wsX7_wouldScore_r3 ++ wsX7_wouldScore_r4))) ++ wsX70 ++ wsX50 ++ wsJx4a65c0 ++ wsX60)
def wsX7_add : List Cond := .code yX7_add cX7_add 3 none :: ([.fieldLink RX7 285 "ArrowFieldModel" "sum" "J", .constantLong RX7 289 (31)] ++ wsX70)
def wsX7_digest_r1 : List Cond := [Cond.fieldLink RX7 39 "ArrowFieldModel" "thrown" "I", Cond.constantLong RX7 291 (58318), Cond.fieldLink RX7 285 "ArrowFieldModel" "sum" "J", Cond.fieldLink RX7 26 "ArrowFieldModel" "winner" "I", Cond.fieldLink RX7 10 "ArrowFieldModel" "archers" "Ljava/util/ArrayList;", Cond.classLink RX7 54 "ArrowFieldModel$Archer", Cond.constantDouble RX7 296 (4652218415073722368), Cond.fieldLink RX7 16 "ArrowFieldModel" "quivers" "Ljava/util/ArrayList;", Cond.constantDouble RX7 202 (4661225614328463360), Cond.classLink RX7 74 "ArrowFieldModel$Quiver", Cond.methodLink RX7 268 yX7_manyNow, Cond.instanceMethod yX7_manyNow, Cond.selects RX7 yX7_manyNow yX7_manyNow, Cond.initialized RX7, Cond.code yX7_manyNow cX7_manyNow 3 (some .int), Cond.arrayClass .int, Cond.fieldLink RX7 19 "ArrowFieldModel" "distance" "I", Cond.fieldLink RX7 131 "ArrowFieldModel" "wind" "I", Cond.fieldLink RX7 23 "ArrowFieldModel" "face" "I", Cond.fieldLink RX7 232 "ArrowFieldModel" "shots" "I", Cond.fieldLink RX7 179 "ArrowFieldModel" "splits" "I", Cond.fieldLink RX7 197 "ArrowFieldModel" "drawn" "I", Cond.fieldLink RX7 250 "ArrowFieldModel" "began" "I", Cond.fieldLink RX7 182 "ArrowFieldModel" "isClosed" "Z"]
def wsX7_digest_r2 : List Cond := [Cond.fieldLink RX7 253 "ArrowFieldModel" "refused" "I", Cond.methodLink RX7 42 yJx4a65c_size_8abf5, Cond.instanceMethod yJx4a65c_size_8abf5, Cond.selects RJx4a65c yJx4a65c_size_8abf5 yJx4a65c_size_8abf5, Cond.initialized RJx4a65c, Cond.code yJx4a65c_size_8abf5 cJx4a65c_size_8abf5 1 (some .int), Cond.fieldLink RJx4a65c 48 "java/util/ArrayList" "size" "I", Cond.methodLink RX7 128 yX7_stuck, Cond.instanceMethod yX7_stuck, Cond.selects RX7 yX7_stuck yX7_stuck, Cond.code yX7_stuck cX7_stuck 4 (some .int), Cond.methodLink RX7 107 yJx4a65c_iterator_32c93, Cond.instanceMethod yJx4a65c_iterator_32c93, Cond.selects RJx4a65c yJx4a65c_iterator_32c93 yJx4a65c_iterator_32c93, Cond.code yJx4a65c_iterator_32c93 cJx4a65c_iterator_32c93 1 (some (.object "java/util/Iterator")), Cond.classLink RJx4a65c 267 RJx35411, Cond.instantiable RJx35411 4, Cond.initialized RJx35411, Cond.methodLink RJx4a65c 269 yJx35411_init_45d68, Cond.instanceMethod yJx35411_init_45d68, Cond.code yJx35411_init_45d68 cJx35411_init_45d68 2 none, Cond.fieldLink RJx35411 1 "java/util/ArrayList$Itr" "this$0" "Ljava/util/ArrayList;", Cond.methodLink RJx35411 7 objectInit, Cond.instanceMethod objectInit]
def wsX7_digest_r3 : List Cond := [Cond.code objectInit ⟨#[0xb1]⟩ 1 none, Cond.fieldLink RJx35411 13 "java/util/ArrayList$Itr" "lastRet" "I", Cond.fieldLink RJx35411 17 "java/util/ArrayList" "modCount" "I", Cond.sameField "java/util/ArrayList" "java/util/AbstractList" "modCount" "I", Cond.fieldLink RJx35411 22 "java/util/ArrayList$Itr" "expectedModCount" "I", Cond.methodLink RX7 111 ⟨"java/util/Iterator", "hasNext", "()Z"⟩, Cond.selects RJx35411 ⟨"java/util/Iterator", "hasNext", "()Z"⟩ yJx35411_hasNext_aae02, Cond.instanceMethod yJx35411_hasNext_aae02, Cond.code yJx35411_hasNext_aae02 cJx35411_hasNext_aae02 1 (some .boolean), Cond.fieldLink RJx35411 25 "java/util/ArrayList$Itr" "cursor" "I", Cond.methodLink RX7 116 ⟨"java/util/Iterator", "next", "()Ljava/lang/Object;"⟩, Cond.selects RJx35411 ⟨"java/util/Iterator", "next", "()Ljava/lang/Object;"⟩ yJx35411_next_0502b, Cond.instanceMethod yJx35411_next_0502b, Cond.code yJx35411_next_0502b cJx35411_next_0502b 3 (some (.object "java/lang/Object")), Cond.fieldLink RJx35411 37 "java/util/ArrayList" "elementData" "[Ljava/lang/Object;", Cond.methodLink RJx35411 31 yJx35411_checkForComodification_da8c8, Cond.instanceMethod yJx35411_checkForComodification_da8c8, Cond.selects RJx35411 yJx35411_checkForComodification_da8c8 yJx35411_checkForComodification_da8c8, Cond.code yJx35411_checkForComodification_da8c8 cJx35411_checkForComodification_da8c8 1 none, Cond.methodLink RX7 120 yX6_set, Cond.instanceMethod yX6_set, Cond.selects RX6 yX6_set yX6_set, Cond.initialized RX6, Cond.code yX6_set cX6_set 4 (some .int)]
def wsX7_digest_r4 : List Cond := [Cond.fieldLink RX6 9 "ArrowFieldModel$Quiver" "where" "[I", Cond.methodLink RX7 123 yJ6_bitCount_0f7a4, Cond.static yJ6_bitCount_0f7a4, Cond.initialized RJ6, Cond.code yJ6_bitCount_0f7a4 cJ6_bitCount_0f7a4 1 (some .int), Cond.constant RJ6 265 (1431655765), Cond.constant RJ6 266 (858993459), Cond.constant RJ6 267 (252645135), Cond.methodLink RX7 293 yX7_add, Cond.instanceMethod yX7_add, Cond.selects RX7 yX7_add yX7_add, Cond.code yX7_add cX7_add 3 none, Cond.constantLong RX7 289 (31), Cond.methodLink RX7 271 yX7_ofMatchNow, Cond.instanceMethod yX7_ofMatchNow, Cond.selects RX7 yX7_ofMatchNow yX7_ofMatchNow, Cond.code yX7_ofMatchNow cX7_ofMatchNow 3 (some .int), Cond.fieldLink RX7 29 "ArrowFieldModel" "party" "[I", Cond.fieldLink RX7 33 "ArrowFieldModel" "points" "[I", Cond.fieldLink RX7 36 "ArrowFieldModel" "sums" "[I", Cond.fieldLink RX7 186 "ArrowFieldModel" "turn" "I", Cond.fieldLink RX7 237 "ArrowFieldModel" "isLast" "Z", Cond.methodLink RX7 90 yX7_isOn, Cond.instanceMethod yX7_isOn]
def wsX7_digest_r5 : List Cond := [Cond.selects RX7 yX7_isOn yX7_isOn, Cond.code yX7_isOn cX7_isOn 1 (some .boolean), Cond.methodLink RX7 50 yJx4a65c_get_915e3, Cond.instanceMethod yJx4a65c_get_915e3, Cond.selects RJx4a65c yJx4a65c_get_915e3 yJx4a65c_get_915e3, Cond.code yJx4a65c_get_915e3 cJx4a65c_get_915e3 2 (some (.object "java/lang/Object")), Cond.methodLink RJx4a65c 118 yJ15_checkIndex_7cf53, Cond.static yJ15_checkIndex_7cf53, Cond.initialized RJ15, Cond.code yJ15_checkIndex_7cf53 cJ15_checkIndex_7cf53 2 (some .int), Cond.methodLink RJ15 105 yJ3_checkIndex_8e157, Cond.static yJ3_checkIndex_8e157, Cond.initialized RJ3, Cond.code yJ3_checkIndex_8e157 cJ3_checkIndex_8e157 3 (some .int), Cond.methodLink RJx4a65c 123 yJx4a65c_elementData_915e3, Cond.instanceMethod yJx4a65c_elementData_915e3, Cond.selects RJx4a65c yJx4a65c_elementData_915e3 yJx4a65c_elementData_915e3, Cond.code yJx4a65c_elementData_915e3 cJx4a65c_elementData_915e3 2 (some (.object "java/lang/Object")), Cond.fieldLink RJx4a65c 9 "java/util/ArrayList" "elementData" "[Ljava/lang/Object;", Cond.methodLink RX7 256 yX7_ofArcherNow, Cond.static yX7_ofArcherNow, Cond.code yX7_ofArcherNow cX7_ofArcherNow 3 (some .int), Cond.methodLink RX7 260 yX7_speedNow, Cond.instanceMethod yX7_speedNow]
def wsX7_digest_r6 : List Cond := [Cond.selects RX7 yX7_speedNow yX7_speedNow, Cond.code yX7_speedNow cX7_speedNow 2 (some .double), Cond.methodLink RX7 138 yX7_speed, Cond.static yX7_speed, Cond.code yX7_speed cX7_speed 2 (some .double), Cond.constantDouble RX7 134 (4648488871632306176), Cond.constantDouble RX7 136 (4641240890982006784), Cond.methodLink RX7 280 yX7_bestNow, Cond.instanceMethod yX7_bestNow, Cond.selects RX7 yX7_bestNow yX7_bestNow, Cond.code yX7_bestNow cX7_bestNow 7 (some .int), Cond.fieldLink RX7 148 "ArrowFieldModel" "h" "D", Cond.methodLink RX7 94 yX7_holder, Cond.instanceMethod yX7_holder, Cond.selects RX7 yX7_holder yX7_holder, Cond.code yX7_holder cX7_holder 3 (some .int), Cond.methodLink RX7 193 yX7_fly, Cond.instanceMethod yX7_fly, Cond.selects RX7 yX7_fly yX7_fly, Cond.code yX7_fly cX7_fly 15 none, Cond.constantDouble RX7 142 (4647714815446351872), Cond.constantDouble RX7 144 (4620693217682128896), Cond.constantDouble RX7 146 (4643211215818981376), Cond.fieldLink RX7 152 "ArrowFieldModel" "v" "D"]
def wsX7_digest_r7 : List Cond := [Cond.constantDouble RX7 155 (4625196817309499392), Cond.constantDouble RX7 157 (4603804719079489536), Cond.constantDouble RX7 159 (4634204016564240384), Cond.methodLink RX7 169 yJ9_abs_294c1, Cond.static yJ9_abs_294c1, Cond.initialized RJ9, Cond.code yJ9_abs_294c1 cJ9_abs_294c1 2 (some .double), Cond.methodLink RJ9 79 ⟨"java/lang/Double", "doubleToRawLongBits", "(D)J"⟩, Cond.native ⟨"java/lang/Double", "doubleToRawLongBits", "(D)J"⟩, Cond.static ⟨"java/lang/Double", "doubleToRawLongBits", "(D)J"⟩, Cond.initialized "java/lang/Double", Cond.constantLong RJ9 135 (9223372036854775807), Cond.methodLink RJ9 166 ⟨"java/lang/Double", "longBitsToDouble", "(J)D"⟩, Cond.native ⟨"java/lang/Double", "longBitsToDouble", "(J)D"⟩, Cond.static ⟨"java/lang/Double", "longBitsToDouble", "(J)D"⟩, Cond.methodLink RX7 264 yX7_ofQuiverNow, Cond.instanceMethod yX7_ofQuiverNow, Cond.selects RX7 yX7_ofQuiverNow yX7_ofQuiverNow, Cond.code yX7_ofQuiverNow cX7_ofQuiverNow 4 (some .int)]
def wsX7_digest : List Cond := .code yX7_digest cX7_digest 3 (some .long) :: ((wsX7_digest_r1 ++ (wsX7_digest_r2 ++ (wsX7_digest_r3 ++ (wsX7_digest_r4 ++ (wsX7_digest_r5 ++ (wsX7_digest_r6 ++ wsX7_digest_r7)))))) ++ wsX70 ++ wsX60 ++ wsJx4a65c0 ++ wsJx354110 ++ wsX50)
def wsJ9_max_7cf53 : List Cond := .code yJ9_max_7cf53 cJ9_max_7cf53 2 (some .int) :: ([])
def wsJ9_min_7cf53 : List Cond := .code yJ9_min_7cf53 cJ9_min_7cf53 2 (some .int) :: ([])
def wsL_archer : List Cond := .codeWith yL_archer cL_archer 5 (some .int) [(0, 10, 13, 13), (0, 10, 17, 15)] :: ([.classLink RL 13 "java/lang/IllegalArgumentException", .classLink RL 15 "java/lang/IllegalStateException", .methodLink RL 7 yX4_archer, .instanceMethod yX4_archer, .selects RX4 yX4_archer yX4_archer, .initialized RX4, .code yX4_archer cX4_archer 3 (some .int), .classLink RX4 54 "java/lang/IllegalStateException", .initialized "java/lang/IllegalStateException", .fieldLink RX4 51 "ArrowField" "archerCount" "I", .fieldLink RX4 11 "ArrowField" "archers" "[LArrowField$Archer;", .fieldLink RX4 61 "ArrowField$Archer" "draw" "I", .fieldLink RX4 64 "ArrowField$Archer" "steady" "I", .methodLink RX4 47 yX4_needBetween, .static yX4_needBetween, .code yX4_needBetween cX4_needBetween 3 none, .classLink RX4 176 "java/lang/IllegalArgumentException", .initialized "java/lang/IllegalArgumentException"] ++ wsX40 ++ wsX00 ++ (vx_atS RX4 58 "java/lang/IllegalStateException" ["java/lang/RuntimeException", "java/lang/Exception"]).filter goodWord ++ (vx_atS RX4 180 "java/lang/IllegalArgumentException" ["java/lang/RuntimeException", "java/lang/Exception"]).filter goodWord)
def wsL_quiver : List Cond := .codeWith yL_quiver cL_quiver 5 (some .int) [(0, 10, 13, 13), (0, 10, 17, 15)] :: ([.classLink RL 13 "java/lang/IllegalArgumentException", .classLink RL 15 "java/lang/IllegalStateException", .methodLink RL 17 yX4_quiver, .instanceMethod yX4_quiver, .selects RX4 yX4_quiver yX4_quiver, .initialized RX4, .code yX4_quiver cX4_quiver 3 (some .int), .classLink RX4 54 "java/lang/IllegalStateException", .initialized "java/lang/IllegalStateException", .fieldLink RX4 67 "ArrowField" "quiverCount" "I", .fieldLink RX4 17 "ArrowField" "quivers" "[LArrowField$Quiver;", .fieldLink RX4 72 "ArrowField$Quiver" "mass" "I", .fieldLink RX4 75 "ArrowField$Quiver" "spine" "I", .methodLink RX4 47 yX4_needBetween, .static yX4_needBetween, .code yX4_needBetween cX4_needBetween 3 none, .classLink RX4 176 "java/lang/IllegalArgumentException", .initialized "java/lang/IllegalArgumentException"] ++ wsX40 ++ wsX30 ++ (vx_atS RX4 58 "java/lang/IllegalStateException" ["java/lang/RuntimeException", "java/lang/Exception"]).filter goodWord ++ (vx_atS RX4 180 "java/lang/IllegalArgumentException" ["java/lang/RuntimeException", "java/lang/Exception"]).filter goodWord)
def wsL_give_r1 : List Cond := [Cond.classLink RL 23 "java/lang/IndexOutOfBoundsException", Cond.classLink RL 15 "java/lang/IllegalStateException", Cond.methodLink RL 20 yX4_give, Cond.instanceMethod yX4_give, Cond.selects RX4 yX4_give yX4_give, Cond.initialized RX4, Cond.code yX4_give cX4_give 5 (some .int), Cond.classLink RX4 54 "java/lang/IllegalStateException", Cond.initialized "java/lang/IllegalStateException", Cond.fieldLink RX4 31 "ArrowField" "current" "LArrowField$Match;", Cond.fieldLink RX4 86 "ArrowField$Match" "on" "Z", Cond.fieldLink RX4 11 "ArrowField" "archers" "[LArrowField$Archer;", Cond.fieldLink RX4 96 "ArrowField$Archer" "quiver" "I", Cond.methodLink RX4 78 yX4_archerNumbered, Cond.instanceMethod yX4_archerNumbered, Cond.selects RX4 yX4_archerNumbered yX4_archerNumbered, Cond.code yX4_archerNumbered cX4_archerNumbered 2 (some (.object "ArrowField$Archer")), Cond.classLink RX4 304 "java/lang/IndexOutOfBoundsException", Cond.initialized "java/lang/IndexOutOfBoundsException", Cond.fieldLink RX4 51 "ArrowField" "archerCount" "I", Cond.methodLink RX4 82 yX4_needQuiver, Cond.instanceMethod yX4_needQuiver, Cond.selects RX4 yX4_needQuiver yX4_needQuiver, Cond.code yX4_needQuiver cX4_needQuiver 2 none]
def wsL_give_r2 : List Cond := [Cond.fieldLink RX4 67 "ArrowField" "quiverCount" "I", Cond.methodLink RX4 92 yX4_holderOf, Cond.instanceMethod yX4_holderOf, Cond.selects RX4 yX4_holderOf yX4_holderOf, Cond.code yX4_holderOf cX4_holderOf 3 (some .int)]
def wsL_give : List Cond := .codeWith yL_give cL_give 5 (some .int) [(0, 10, 13, 23), (0, 10, 17, 15)] :: ((wsL_give_r1 ++ wsL_give_r2) ++ wsX40 ++ wsX20 ++ wsX00 ++ (vx_atS RX4 58 "java/lang/IllegalStateException" ["java/lang/RuntimeException", "java/lang/Exception"]).filter goodWord ++ (vx_atS RX4 308 "java/lang/IndexOutOfBoundsException" ["java/lang/RuntimeException", "java/lang/Exception"]).filter goodWord)
def wsL_tune : List Cond := .codeWith yL_tune cL_tune 6 (some .int) [(0, 12, 15, 23), (0, 12, 19, 13)] :: ([.classLink RL 23 "java/lang/IndexOutOfBoundsException", .classLink RL 13 "java/lang/IllegalArgumentException", .methodLink RL 25 yX4_tune, .instanceMethod yX4_tune, .selects RX4 yX4_tune yX4_tune, .initialized RX4, .code yX4_tune cX4_tune 6 (some .int), .fieldLink RX4 99 "ArrowField$Archer" "sight" "I", .fieldLink RX4 102 "ArrowField$Archer" "nock" "I", .methodLink RX4 78 yX4_archerNumbered, .instanceMethod yX4_archerNumbered, .selects RX4 yX4_archerNumbered yX4_archerNumbered, .code yX4_archerNumbered cX4_archerNumbered 2 (some (.object "ArrowField$Archer")), .classLink RX4 304 "java/lang/IndexOutOfBoundsException", .initialized "java/lang/IndexOutOfBoundsException", .fieldLink RX4 51 "ArrowField" "archerCount" "I", .fieldLink RX4 11 "ArrowField" "archers" "[LArrowField$Archer;", .methodLink RX4 47 yX4_needBetween, .static yX4_needBetween, .code yX4_needBetween cX4_needBetween 3 none, .classLink RX4 176 "java/lang/IllegalArgumentException", .initialized "java/lang/IllegalArgumentException"] ++ wsX00 ++ wsX40 ++ (vx_atS RX4 308 "java/lang/IndexOutOfBoundsException" ["java/lang/RuntimeException", "java/lang/Exception"]).filter goodWord ++ (vx_atS RX4 180 "java/lang/IllegalArgumentException" ["java/lang/RuntimeException", "java/lang/Exception"]).filter goodWord)
def wsL_string : List Cond := .codeWith yL_string cL_string 4 (some .int) [(0, 8, 11, 23)] :: ([.classLink RL 23 "java/lang/IndexOutOfBoundsException", .methodLink RL 29 yX4_string, .instanceMethod yX4_string, .selects RX4 yX4_string yX4_string, .initialized RX4, .code yX4_string cX4_string 5 (some .double), .fieldLink RX4 105 "ArrowField$Archer" "creep" "F", .methodLink RX4 78 yX4_archerNumbered, .instanceMethod yX4_archerNumbered, .selects RX4 yX4_archerNumbered yX4_archerNumbered, .code yX4_archerNumbered cX4_archerNumbered 2 (some (.object "ArrowField$Archer")), .classLink RX4 304 "java/lang/IndexOutOfBoundsException", .initialized "java/lang/IndexOutOfBoundsException", .fieldLink RX4 51 "ArrowField" "archerCount" "I", .fieldLink RX4 11 "ArrowField" "archers" "[LArrowField$Archer;"] ++ wsX00 ++ wsX40 ++ (vx_atS RX4 308 "java/lang/IndexOutOfBoundsException" ["java/lang/RuntimeException", "java/lang/Exception"]).filter goodWord)
def wsL_field_r1 : List Cond := [Cond.classLink RL 13 "java/lang/IllegalArgumentException", Cond.classLink RL 15 "java/lang/IllegalStateException", Cond.methodLink RL 33 yX4_field, Cond.instanceMethod yX4_field, Cond.selects RX4 yX4_field yX4_field, Cond.initialized RX4, Cond.code yX4_field cX4_field 5 (some .int), Cond.classLink RX4 54 "java/lang/IllegalStateException", Cond.initialized "java/lang/IllegalStateException", Cond.fieldLink RX4 21 "ArrowField" "distanceNow" "I", Cond.fieldLink RX4 115 "ArrowField" "windNow" "I", Cond.fieldLink RX4 25 "ArrowField" "faceNow" "I", Cond.methodLink RX4 47 yX4_needBetween, Cond.static yX4_needBetween, Cond.code yX4_needBetween cX4_needBetween 3 none, Cond.classLink RX4 176 "java/lang/IllegalArgumentException", Cond.initialized "java/lang/IllegalArgumentException", Cond.methodLink RX4 109 yX4_stuckArrows, Cond.instanceMethod yX4_stuckArrows, Cond.selects RX4 yX4_stuckArrows yX4_stuckArrows, Cond.code yX4_stuckArrows cX4_stuckArrows 3 (some .int), Cond.fieldLink RX4 67 "ArrowField" "quiverCount" "I", Cond.fieldLink RX4 17 "ArrowField" "quivers" "[LArrowField$Quiver;", Cond.methodLink RX4 223 yX3_setOf]
def wsL_field_r2 : List Cond := [Cond.instanceMethod yX3_setOf, Cond.selects RX3 yX3_setOf yX3_setOf, Cond.initialized RX3, Cond.code yX3_setOf cX3_setOf 4 (some .int), Cond.fieldLink RX3 9 "ArrowField$Quiver" "states" "[I", Cond.methodLink RX4 315 yJ6_bitCount_0f7a4, Cond.static yJ6_bitCount_0f7a4, Cond.initialized RJ6, Cond.code yJ6_bitCount_0f7a4 cJ6_bitCount_0f7a4 1 (some .int), Cond.constant RJ6 265 (1431655765), Cond.constant RJ6 266 (858993459), Cond.constant RJ6 267 (252645135)]
def wsL_field : List Cond := .codeWith yL_field cL_field 6 (some .int) [(0, 12, 15, 13), (0, 12, 19, 15)] :: ((wsL_field_r1 ++ wsL_field_r2) ++ wsX40 ++ wsX30 ++ (vx_atS RX4 58 "java/lang/IllegalStateException" ["java/lang/RuntimeException", "java/lang/Exception"]).filter goodWord ++ (vx_atS RX4 180 "java/lang/IllegalArgumentException" ["java/lang/RuntimeException", "java/lang/Exception"]).filter goodWord)
def wsL_wind : List Cond := .codeWith yL_wind cL_wind 4 (some .int) [(0, 9, 12, 13)] :: ([.classLink RL 13 "java/lang/IllegalArgumentException", .methodLink RL 36 yX4_wind, .instanceMethod yX4_wind, .selects RX4 yX4_wind yX4_wind, .initialized RX4, .code yX4_wind cX4_wind 3 (some .int), .fieldLink RX4 115 "ArrowField" "windNow" "I", .methodLink RX4 47 yX4_needBetween, .static yX4_needBetween, .code yX4_needBetween cX4_needBetween 3 none, .classLink RX4 176 "java/lang/IllegalArgumentException", .initialized "java/lang/IllegalArgumentException"] ++ wsX40 ++ (vx_atS RX4 180 "java/lang/IllegalArgumentException" ["java/lang/RuntimeException", "java/lang/Exception"]).filter goodWord)
def wsL_shoot_r1 : List Cond := [Cond.classLink RL 23 "java/lang/IndexOutOfBoundsException", Cond.classLink RL 15 "java/lang/IllegalStateException", Cond.methodLink RL 40 yX4_shoot, Cond.instanceMethod yX4_shoot, Cond.selects RX4 yX4_shoot yX4_shoot, Cond.initialized RX4, Cond.code yX4_shoot cX4_shoot 6 (some .int), Cond.classLink RX4 54 "java/lang/IllegalStateException", Cond.initialized "java/lang/IllegalStateException", Cond.fieldLink RX4 121 "ArrowField" "closed" "Z", Cond.fieldLink RX4 130 "ArrowField$Quiver" "states" "[I", Cond.fieldLink RX4 31 "ArrowField" "current" "LArrowField$Match;", Cond.fieldLink RX4 86 "ArrowField$Match" "on" "Z", Cond.fieldLink RX4 41 "ArrowField" "flight" "LArrowField$Flight;", Cond.fieldLink RX4 99 "ArrowField$Archer" "sight" "I", Cond.fieldLink RX4 21 "ArrowField" "distanceNow" "I", Cond.fieldLink RX4 115 "ArrowField" "windNow" "I", Cond.fieldLink RX4 145 "ArrowField" "drawn" "I", Cond.fieldLink RX4 64 "ArrowField$Archer" "steady" "I", Cond.fieldLink RX4 25 "ArrowField" "faceNow" "I", Cond.fieldLink RX4 164 "ArrowField" "shots" "I", Cond.methodLink RX4 78 yX4_archerNumbered, Cond.instanceMethod yX4_archerNumbered, Cond.selects RX4 yX4_archerNumbered yX4_archerNumbered]
def wsL_shoot_r2 : List Cond := [Cond.code yX4_archerNumbered cX4_archerNumbered 2 (some (.object "ArrowField$Archer")), Cond.classLink RX4 304 "java/lang/IndexOutOfBoundsException", Cond.initialized "java/lang/IndexOutOfBoundsException", Cond.fieldLink RX4 51 "ArrowField" "archerCount" "I", Cond.fieldLink RX4 11 "ArrowField" "archers" "[LArrowField$Archer;", Cond.methodLink RX4 118 yX4_needArrow, Cond.static yX4_needArrow, Cond.code yX4_needArrow cX4_needArrow 1 none, Cond.methodLink RX4 126 yX4_quiverOf, Cond.instanceMethod yX4_quiverOf, Cond.selects RX4 yX4_quiverOf yX4_quiverOf, Cond.code yX4_quiverOf cX4_quiverOf 2 (some (.object "ArrowField$Quiver")), Cond.fieldLink RX4 96 "ArrowField$Archer" "quiver" "I", Cond.fieldLink RX4 17 "ArrowField" "quivers" "[LArrowField$Quiver;", Cond.methodLink RX4 136 yX2_turn, Cond.instanceMethod yX2_turn, Cond.selects RX2 yX2_turn yX2_turn, Cond.initialized RX2, Cond.code yX2_turn cX2_turn 1 (some .int), Cond.fieldLink RX2 15 "ArrowField$Match" "one" "I", Cond.fieldLink RX2 19 "ArrowField$Match" "other" "I", Cond.methodLink RX2 34 yX2_isTurnOfOne, Cond.instanceMethod yX2_isTurnOfOne, Cond.selects RX2 yX2_isTurnOfOne yX2_isTurnOfOne]
def wsL_shoot_r3 : List Cond := [Cond.code yX2_isTurnOfOne cX2_isTurnOfOne 1 (some .boolean), Cond.fieldLink RX2 48 "ArrowField$Match" "shotsOfSet" "I", Cond.methodLink RX4 141 yX1_fly, Cond.instanceMethod yX1_fly, Cond.selects RX1 yX1_fly yX1_fly, Cond.initialized RX1, Cond.code yX1_fly cX1_fly 15 none, Cond.constantDouble RX1 15 (4647714815446351872), Cond.fieldLink RX1 17 "ArrowField$Archer" "nock" "I", Cond.constantDouble RX1 21 (4620693217682128896), Cond.fieldLink RX1 23 "ArrowField$Quiver" "spine" "I", Cond.fieldLink RX1 28 "ArrowField$Archer" "draw" "I", Cond.constantDouble RX1 31 (4643211215818981376), Cond.fieldLink RX1 33 "ArrowField$Flight" "h" "D", Cond.fieldLink RX1 39 "ArrowField$Flight" "v" "D", Cond.constantDouble RX1 42 (4625196817309499392), Cond.constantDouble RX1 44 (4603804719079489536), Cond.constantDouble RX1 46 (4634204016564240384), Cond.methodLink RX1 9 yX0_speedWith, Cond.instanceMethod yX0_speedWith, Cond.selects RX0 yX0_speedWith yX0_speedWith, Cond.initialized RX0, Cond.code yX0_speedWith cX0_speedWith 2 (some .double), Cond.fieldLink RX0 15 "ArrowField$Archer" "draw" "I"]
def wsL_shoot_r4 : List Cond := [Cond.constantDouble RX0 18 (4648488871632306176), Cond.fieldLink RX0 20 "ArrowField$Quiver" "mass" "I", Cond.constantDouble RX0 25 (4641240890982006784), Cond.fieldLink RX0 27 "ArrowField$Archer" "creep" "F", Cond.methodLink RX4 148 yX1_shake, Cond.instanceMethod yX1_shake, Cond.selects RX1 yX1_shake yX1_shake, Cond.code yX1_shake cX1_shake 4 none, Cond.constantDouble RX1 48 (4615063718147915776), Cond.constantDouble RX1 50 (4661225614328463360), Cond.methodLink RX4 151 yX4_splitWhatIsHit, Cond.instanceMethod yX4_splitWhatIsHit, Cond.selects RX4 yX4_splitWhatIsHit yX4_splitWhatIsHit, Cond.code yX4_splitWhatIsHit cX4_splitWhatIsHit 3 none, Cond.fieldLink RX4 67 "ArrowField" "quiverCount" "I", Cond.fieldLink RX4 233 "ArrowField" "splits" "I", Cond.methodLink RX4 320 yX3_firstHitBy, Cond.instanceMethod yX3_firstHitBy, Cond.selects RX3 yX3_firstHitBy yX3_firstHitBy, Cond.initialized RX3, Cond.code yX3_firstHitBy cX3_firstHitBy 3 (some .int), Cond.fieldLink RX3 9 "ArrowField$Quiver" "states" "[I", Cond.fieldLink RX3 22 "ArrowField$Flight" "h" "D", Cond.fieldLink RX3 15 "ArrowField$Quiver" "h" "[D"]
def wsL_shoot_r5 : List Cond := [Cond.constantDouble RX3 31 (4580160821035794432), Cond.fieldLink RX3 33 "ArrowField$Flight" "v" "D", Cond.fieldLink RX3 19 "ArrowField$Quiver" "v" "[D", Cond.static yX4_size, Cond.code yX4_size cX4_size 2 (some .double), Cond.methodLink RX4 154 yX1_worth, Cond.instanceMethod yX1_worth, Cond.selects RX1 yX1_worth yX1_worth, Cond.code yX1_worth cX1_worth 7 (some .int), Cond.constantDouble RX1 56 (4575657221408423936), Cond.methodLink RX1 52 yX1_farness, Cond.instanceMethod yX1_farness, Cond.selects RX1 yX1_farness yX1_farness, Cond.code yX1_farness cX1_farness 1 (some .double), Cond.methodLink RX4 157 yX3_land, Cond.instanceMethod yX3_land, Cond.selects RX3 yX3_land yX3_land, Cond.code yX3_land cX3_land 4 none, Cond.methodLink RX4 161 yX0_count, Cond.instanceMethod yX0_count, Cond.selects RX0 yX0_count yX0_count, Cond.code yX0_count cX0_count 3 none, Cond.fieldLink RX0 31 "ArrowField$Archer" "shotsEver" "I", Cond.fieldLink RX0 34 "ArrowField$Archer" "scoresEver" "I"]
def wsL_shoot_r6 : List Cond := [Cond.fieldLink RX0 37 "ArrowField$Archer" "endShots" "I", Cond.fieldLink RX0 40 "ArrowField$Archer" "endSum" "I", Cond.fieldLink RX0 43 "ArrowField$Archer" "endTens" "I", Cond.constantFloat RX0 46 (998244352), Cond.constantFloat RX0 47 (1040187392), Cond.methodLink RX4 167 yX4_countForMatch, Cond.instanceMethod yX4_countForMatch, Cond.selects RX4 yX4_countForMatch yX4_countForMatch, Cond.code yX4_countForMatch cX4_countForMatch 3 none, Cond.fieldLink RX4 35 "ArrowField" "latestWinner" "I", Cond.fieldLink RX4 207 "ArrowField$Archer" "matchesWon" "I", Cond.methodLink RX4 324 yX1_farness, Cond.methodLink RX4 328 yX2_count, Cond.instanceMethod yX2_count, Cond.selects RX2 yX2_count yX2_count, Cond.code yX2_count cX2_count 4 (some .int), Cond.fieldLink RX2 28 "ArrowField$Match" "byLastArrows" "Z", Cond.fieldLink RX2 42 "ArrowField$Match" "sumOfOne" "I", Cond.fieldLink RX2 45 "ArrowField$Match" "sumOfOther" "I", Cond.methodLink RX2 38 yX2_countLastArrow, Cond.instanceMethod yX2_countLastArrow, Cond.selects RX2 yX2_countLastArrow yX2_countLastArrow, Cond.code yX2_countLastArrow cX2_countLastArrow 3 (some .int), Cond.fieldLink RX2 59 "ArrowField$Match" "lastOfOne" "D"]
def wsL_shoot_r7 : List Cond := [Cond.methodLink RX2 51 yX2_endSet, Cond.instanceMethod yX2_endSet, Cond.selects RX2 yX2_endSet yX2_endSet, Cond.code yX2_endSet cX2_endSet 3 (some .int), Cond.fieldLink RX2 22 "ArrowField$Match" "pointsOfOne" "I", Cond.fieldLink RX2 25 "ArrowField$Match" "pointsOfOther" "I", Cond.methodLink RX2 55 yX2_pointsFor, Cond.static yX2_pointsFor, Cond.code yX2_pointsFor cX2_pointsFor 2 (some .int), Cond.methodLink RX2 31 yX2_beginSet, Cond.instanceMethod yX2_beginSet, Cond.selects RX2 yX2_beginSet yX2_beginSet, Cond.code yX2_beginSet cX2_beginSet 1 none]
def wsL_shoot : List Cond := .codeWith yL_shoot cL_shoot 5 (some .int) [(0, 10, 13, 23), (0, 10, 17, 15)] :: ((wsL_shoot_r1 ++ (wsL_shoot_r2 ++ (wsL_shoot_r3 ++ (wsL_shoot_r4 ++ (wsL_shoot_r5 ++ (wsL_shoot_r6 ++ wsL_shoot_r7)))))) ++ wsX40 ++ wsX30 ++ wsX20 ++ wsX00 ++ wsX10 ++ (vx_atS RX4 58 "java/lang/IllegalStateException" ["java/lang/RuntimeException", "java/lang/Exception"]).filter goodWord ++ (vx_atS RX4 308 "java/lang/IndexOutOfBoundsException" ["java/lang/RuntimeException", "java/lang/Exception"]).filter goodWord)
def wsL_mend : List Cond := .codeWith yL_mend cL_mend 4 (some .int) [(0, 9, 12, 23)] :: ([.classLink RL 23 "java/lang/IndexOutOfBoundsException", .methodLink RL 43 yX4_mend, .instanceMethod yX4_mend, .selects RX4 yX4_mend yX4_mend, .initialized RX4, .code yX4_mend cX4_mend 2 (some .int), .fieldLink RX4 17 "ArrowField" "quivers" "[LArrowField$Quiver;", .methodLink RX4 82 yX4_needQuiver, .instanceMethod yX4_needQuiver, .selects RX4 yX4_needQuiver yX4_needQuiver, .code yX4_needQuiver cX4_needQuiver 2 none, .classLink RX4 304 "java/lang/IndexOutOfBoundsException", .initialized "java/lang/IndexOutOfBoundsException", .fieldLink RX4 67 "ArrowField" "quiverCount" "I", .methodLink RX4 170 yX3_bringBack, .instanceMethod yX3_bringBack, .selects RX3 yX3_bringBack yX3_bringBack, .initialized RX3, .code yX3_bringBack cX3_bringBack 4 (some .int), .fieldLink RX3 9 "ArrowField$Quiver" "states" "[I"] ++ wsX40 ++ wsX30 ++ (vx_atS RX4 308 "java/lang/IndexOutOfBoundsException" ["java/lang/RuntimeException", "java/lang/Exception"]).filter goodWord)
def wsL_match_r1 : List Cond := [Cond.classLink RL 23 "java/lang/IndexOutOfBoundsException", Cond.classLink RL 13 "java/lang/IllegalArgumentException", Cond.classLink RL 15 "java/lang/IllegalStateException", Cond.methodLink RL 46 yX4_match, Cond.instanceMethod yX4_match, Cond.selects RX4 yX4_match yX4_match, Cond.initialized RX4, Cond.code yX4_match cX4_match 5 (some .int), Cond.classLink RX4 176 "java/lang/IllegalArgumentException", Cond.initialized "java/lang/IllegalArgumentException", Cond.classLink RX4 54 "java/lang/IllegalStateException", Cond.initialized "java/lang/IllegalStateException", Cond.fieldLink RX4 31 "ArrowField" "current" "LArrowField$Match;", Cond.fieldLink RX4 86 "ArrowField$Match" "on" "Z", Cond.fieldLink RX4 96 "ArrowField$Archer" "quiver" "I", Cond.fieldLink RX4 187 "ArrowField" "matchesBegun" "I", Cond.methodLink RX4 78 yX4_archerNumbered, Cond.instanceMethod yX4_archerNumbered, Cond.selects RX4 yX4_archerNumbered yX4_archerNumbered, Cond.code yX4_archerNumbered cX4_archerNumbered 2 (some (.object "ArrowField$Archer")), Cond.classLink RX4 304 "java/lang/IndexOutOfBoundsException", Cond.initialized "java/lang/IndexOutOfBoundsException", Cond.fieldLink RX4 51 "ArrowField" "archerCount" "I", Cond.fieldLink RX4 11 "ArrowField" "archers" "[LArrowField$Archer;"]
def wsL_match_r2 : List Cond := [Cond.methodLink RX4 183 yX2_begin, Cond.instanceMethod yX2_begin, Cond.selects RX2 yX2_begin yX2_begin, Cond.initialized RX2, Cond.code yX2_begin cX2_begin 3 none, Cond.fieldLink RX2 9 "ArrowField$Match" "on" "Z", Cond.fieldLink RX2 15 "ArrowField$Match" "one" "I", Cond.fieldLink RX2 19 "ArrowField$Match" "other" "I", Cond.fieldLink RX2 22 "ArrowField$Match" "pointsOfOne" "I", Cond.fieldLink RX2 25 "ArrowField$Match" "pointsOfOther" "I", Cond.fieldLink RX2 28 "ArrowField$Match" "byLastArrows" "Z", Cond.methodLink RX2 31 yX2_beginSet, Cond.instanceMethod yX2_beginSet, Cond.selects RX2 yX2_beginSet yX2_beginSet, Cond.code yX2_beginSet cX2_beginSet 1 none, Cond.fieldLink RX2 42 "ArrowField$Match" "sumOfOne" "I", Cond.fieldLink RX2 45 "ArrowField$Match" "sumOfOther" "I", Cond.fieldLink RX2 48 "ArrowField$Match" "shotsOfSet" "I"]
def wsL_match : List Cond := .codeWith yL_match cL_match 5 (some .int) [(0, 10, 13, 23), (0, 10, 17, 13), (0, 10, 21, 15)] :: ((wsL_match_r1 ++ wsL_match_r2) ++ wsX40 ++ wsX20 ++ wsX00 ++ (vx_atS RX4 180 "java/lang/IllegalArgumentException" ["java/lang/RuntimeException", "java/lang/Exception"]).filter goodWord ++ (vx_atS RX4 58 "java/lang/IllegalStateException" ["java/lang/RuntimeException", "java/lang/Exception"]).filter goodWord ++ (vx_atS RX4 308 "java/lang/IndexOutOfBoundsException" ["java/lang/RuntimeException", "java/lang/Exception"]).filter goodWord)
def wsL_breakOff : List Cond := .codeWith yL_breakOff cL_breakOff 3 (some .int) [(0, 8, 11, 15)] :: ([.classLink RL 15 "java/lang/IllegalStateException", .methodLink RL 49 yX4_breakOff, .instanceMethod yX4_breakOff, .selects RX4 yX4_breakOff yX4_breakOff, .initialized RX4, .code yX4_breakOff cX4_breakOff 1 (some .int), .classLink RX4 54 "java/lang/IllegalStateException", .initialized "java/lang/IllegalStateException", .fieldLink RX4 31 "ArrowField" "current" "LArrowField$Match;", .fieldLink RX4 86 "ArrowField$Match" "on" "Z", .fieldLink RX4 192 "ArrowField$Match" "pointsOfOne" "I", .fieldLink RX4 195 "ArrowField$Match" "pointsOfOther" "I"] ++ wsX40 ++ wsX20 ++ (vx_atS RX4 58 "java/lang/IllegalStateException" ["java/lang/RuntimeException", "java/lang/Exception"]).filter goodWord)
def wsL_ofArcher_r1 : List Cond := [Cond.classLink RL 23 "java/lang/IndexOutOfBoundsException", Cond.classLink RL 13 "java/lang/IllegalArgumentException", Cond.methodLink RL 53 yX4_ofArcher, Cond.instanceMethod yX4_ofArcher, Cond.selects RX4 yX4_ofArcher yX4_ofArcher, Cond.initialized RX4, Cond.code yX4_ofArcher cX4_ofArcher 4 (some .int), Cond.fieldLink RX4 61 "ArrowField$Archer" "draw" "I", Cond.fieldLink RX4 64 "ArrowField$Archer" "steady" "I", Cond.fieldLink RX4 99 "ArrowField$Archer" "sight" "I", Cond.fieldLink RX4 102 "ArrowField$Archer" "nock" "I", Cond.fieldLink RX4 96 "ArrowField$Archer" "quiver" "I", Cond.fieldLink RX4 201 "ArrowField$Archer" "shotsEver" "I", Cond.fieldLink RX4 204 "ArrowField$Archer" "scoresEver" "I", Cond.fieldLink RX4 207 "ArrowField$Archer" "matchesWon" "I", Cond.fieldLink RX4 210 "ArrowField$Archer" "endSum" "I", Cond.fieldLink RX4 213 "ArrowField$Archer" "endShots" "I", Cond.fieldLink RX4 216 "ArrowField$Archer" "endTens" "I", Cond.methodLink RX4 78 yX4_archerNumbered, Cond.instanceMethod yX4_archerNumbered, Cond.selects RX4 yX4_archerNumbered yX4_archerNumbered, Cond.code yX4_archerNumbered cX4_archerNumbered 2 (some (.object "ArrowField$Archer")), Cond.classLink RX4 304 "java/lang/IndexOutOfBoundsException", Cond.initialized "java/lang/IndexOutOfBoundsException"]
def wsL_ofArcher_r2 : List Cond := [Cond.fieldLink RX4 51 "ArrowField" "archerCount" "I", Cond.fieldLink RX4 11 "ArrowField" "archers" "[LArrowField$Archer;", Cond.methodLink RX4 47 yX4_needBetween, Cond.static yX4_needBetween, Cond.code yX4_needBetween cX4_needBetween 3 none, Cond.classLink RX4 176 "java/lang/IllegalArgumentException", Cond.initialized "java/lang/IllegalArgumentException"]
def wsL_ofArcher : List Cond := .codeWith yL_ofArcher cL_ofArcher 5 (some .int) [(0, 10, 13, 23), (0, 10, 17, 13)] :: ((wsL_ofArcher_r1 ++ wsL_ofArcher_r2) ++ wsX00 ++ wsX40 ++ (vx_atS RX4 308 "java/lang/IndexOutOfBoundsException" ["java/lang/RuntimeException", "java/lang/Exception"]).filter goodWord ++ (vx_atS RX4 180 "java/lang/IllegalArgumentException" ["java/lang/RuntimeException", "java/lang/Exception"]).filter goodWord)
def wsL_speed_r1 : List Cond := [Cond.classLink RL 23 "java/lang/IndexOutOfBoundsException", Cond.methodLink RL 56 yX4_speed, Cond.instanceMethod yX4_speed, Cond.selects RX4 yX4_speed yX4_speed, Cond.initialized RX4, Cond.code yX4_speed cX4_speed 3 (some .double), Cond.fieldLink RX4 96 "ArrowField$Archer" "quiver" "I", Cond.fieldLink RX4 17 "ArrowField" "quivers" "[LArrowField$Quiver;", Cond.methodLink RX4 78 yX4_archerNumbered, Cond.instanceMethod yX4_archerNumbered, Cond.selects RX4 yX4_archerNumbered yX4_archerNumbered, Cond.code yX4_archerNumbered cX4_archerNumbered 2 (some (.object "ArrowField$Archer")), Cond.classLink RX4 304 "java/lang/IndexOutOfBoundsException", Cond.initialized "java/lang/IndexOutOfBoundsException", Cond.fieldLink RX4 51 "ArrowField" "archerCount" "I", Cond.fieldLink RX4 11 "ArrowField" "archers" "[LArrowField$Archer;", Cond.methodLink RX4 219 yX0_speedWith, Cond.instanceMethod yX0_speedWith, Cond.selects RX0 yX0_speedWith yX0_speedWith, Cond.initialized RX0, Cond.code yX0_speedWith cX0_speedWith 2 (some .double), Cond.fieldLink RX0 15 "ArrowField$Archer" "draw" "I", Cond.constantDouble RX0 18 (4648488871632306176), Cond.fieldLink RX0 20 "ArrowField$Quiver" "mass" "I"]
def wsL_speed_r2 : List Cond := [Cond.constantDouble RX0 25 (4641240890982006784), Cond.fieldLink RX0 27 "ArrowField$Archer" "creep" "F"]
def wsL_speed : List Cond := .codeWith yL_speed cL_speed 4 (some .int) [(0, 8, 11, 23)] :: ((wsL_speed_r1 ++ wsL_speed_r2) ++ wsX00 ++ wsX40 ++ wsX30 ++ (vx_atS RX4 308 "java/lang/IndexOutOfBoundsException" ["java/lang/RuntimeException", "java/lang/Exception"]).filter goodWord)
def wsL_ofQuiver_r1 : List Cond := [Cond.classLink RL 23 "java/lang/IndexOutOfBoundsException", Cond.classLink RL 13 "java/lang/IllegalArgumentException", Cond.methodLink RL 59 yX4_ofQuiver, Cond.instanceMethod yX4_ofQuiver, Cond.selects RX4 yX4_ofQuiver yX4_ofQuiver, Cond.initialized RX4, Cond.code yX4_ofQuiver cX4_ofQuiver 3 (some .int), Cond.fieldLink RX4 17 "ArrowField" "quivers" "[LArrowField$Quiver;", Cond.fieldLink RX4 72 "ArrowField$Quiver" "mass" "I", Cond.fieldLink RX4 75 "ArrowField$Quiver" "spine" "I", Cond.methodLink RX4 82 yX4_needQuiver, Cond.instanceMethod yX4_needQuiver, Cond.selects RX4 yX4_needQuiver yX4_needQuiver, Cond.code yX4_needQuiver cX4_needQuiver 2 none, Cond.classLink RX4 304 "java/lang/IndexOutOfBoundsException", Cond.initialized "java/lang/IndexOutOfBoundsException", Cond.fieldLink RX4 67 "ArrowField" "quiverCount" "I", Cond.methodLink RX4 47 yX4_needBetween, Cond.static yX4_needBetween, Cond.code yX4_needBetween cX4_needBetween 3 none, Cond.classLink RX4 176 "java/lang/IllegalArgumentException", Cond.initialized "java/lang/IllegalArgumentException", Cond.methodLink RX4 92 yX4_holderOf, Cond.instanceMethod yX4_holderOf]
def wsL_ofQuiver_r2 : List Cond := [Cond.selects RX4 yX4_holderOf yX4_holderOf, Cond.code yX4_holderOf cX4_holderOf 3 (some .int), Cond.fieldLink RX4 51 "ArrowField" "archerCount" "I", Cond.fieldLink RX4 11 "ArrowField" "archers" "[LArrowField$Archer;", Cond.fieldLink RX4 96 "ArrowField$Archer" "quiver" "I", Cond.methodLink RX4 223 yX3_setOf, Cond.instanceMethod yX3_setOf, Cond.selects RX3 yX3_setOf yX3_setOf, Cond.initialized RX3, Cond.code yX3_setOf cX3_setOf 4 (some .int), Cond.fieldLink RX3 9 "ArrowField$Quiver" "states" "[I"]
def wsL_ofQuiver : List Cond := .codeWith yL_ofQuiver cL_ofQuiver 5 (some .int) [(0, 10, 13, 23), (0, 10, 17, 13)] :: ((wsL_ofQuiver_r1 ++ wsL_ofQuiver_r2) ++ wsX40 ++ wsX30 ++ wsX00 ++ (vx_atS RX4 308 "java/lang/IndexOutOfBoundsException" ["java/lang/RuntimeException", "java/lang/Exception"]).filter goodWord ++ (vx_atS RX4 180 "java/lang/IllegalArgumentException" ["java/lang/RuntimeException", "java/lang/Exception"]).filter goodWord)
def wsL_hit : List Cond := .codeWith yL_hit cL_hit 6 (some .int) [(0, 11, 14, 23)] :: ([.classLink RL 23 "java/lang/IndexOutOfBoundsException", .methodLink RL 62 yX4_hit, .instanceMethod yX4_hit, .selects RX4 yX4_hit yX4_hit, .initialized RX4, .code yX4_hit cX4_hit 4 (some .double), .fieldLink RX4 17 "ArrowField" "quivers" "[LArrowField$Quiver;", .fieldLink RX4 226 "ArrowField$Quiver" "v" "[D", .fieldLink RX4 230 "ArrowField$Quiver" "h" "[D", .methodLink RX4 82 yX4_needQuiver, .instanceMethod yX4_needQuiver, .selects RX4 yX4_needQuiver yX4_needQuiver, .code yX4_needQuiver cX4_needQuiver 2 none, .classLink RX4 304 "java/lang/IndexOutOfBoundsException", .initialized "java/lang/IndexOutOfBoundsException", .fieldLink RX4 67 "ArrowField" "quiverCount" "I", .methodLink RX4 118 yX4_needArrow, .static yX4_needArrow, .code yX4_needArrow cX4_needArrow 1 none] ++ wsX40 ++ wsX30 ++ (vx_atS RX4 308 "java/lang/IndexOutOfBoundsException" ["java/lang/RuntimeException", "java/lang/Exception"]).filter goodWord)
def wsL_many_r1 : List Cond := [Cond.classLink RL 13 "java/lang/IllegalArgumentException", Cond.methodLink RL 66 yX4_many, Cond.instanceMethod yX4_many, Cond.selects RX4 yX4_many yX4_many, Cond.initialized RX4, Cond.code yX4_many cX4_many 2 (some .int), Cond.fieldLink RX4 51 "ArrowField" "archerCount" "I", Cond.fieldLink RX4 67 "ArrowField" "quiverCount" "I", Cond.fieldLink RX4 21 "ArrowField" "distanceNow" "I", Cond.fieldLink RX4 115 "ArrowField" "windNow" "I", Cond.fieldLink RX4 25 "ArrowField" "faceNow" "I", Cond.fieldLink RX4 164 "ArrowField" "shots" "I", Cond.fieldLink RX4 233 "ArrowField" "splits" "I", Cond.fieldLink RX4 145 "ArrowField" "drawn" "I", Cond.fieldLink RX4 187 "ArrowField" "matchesBegun" "I", Cond.fieldLink RX4 121 "ArrowField" "closed" "Z", Cond.fieldLink RX4 198 "ArrowField" "refused" "I", Cond.methodLink RX4 47 yX4_needBetween, Cond.static yX4_needBetween, Cond.code yX4_needBetween cX4_needBetween 3 none, Cond.classLink RX4 176 "java/lang/IllegalArgumentException", Cond.initialized "java/lang/IllegalArgumentException", Cond.methodLink RX4 109 yX4_stuckArrows, Cond.instanceMethod yX4_stuckArrows]
def wsL_many_r2 : List Cond := [Cond.selects RX4 yX4_stuckArrows yX4_stuckArrows, Cond.code yX4_stuckArrows cX4_stuckArrows 3 (some .int), Cond.fieldLink RX4 17 "ArrowField" "quivers" "[LArrowField$Quiver;", Cond.methodLink RX4 223 yX3_setOf, Cond.instanceMethod yX3_setOf, Cond.selects RX3 yX3_setOf yX3_setOf, Cond.initialized RX3, Cond.code yX3_setOf cX3_setOf 4 (some .int), Cond.fieldLink RX3 9 "ArrowField$Quiver" "states" "[I", Cond.methodLink RX4 315 yJ6_bitCount_0f7a4, Cond.static yJ6_bitCount_0f7a4, Cond.initialized RJ6, Cond.code yJ6_bitCount_0f7a4 cJ6_bitCount_0f7a4 1 (some .int), Cond.constant RJ6 265 (1431655765), Cond.constant RJ6 266 (858993459), Cond.constant RJ6 267 (252645135)]
def wsL_many : List Cond := .codeWith yL_many cL_many 4 (some .int) [(0, 9, 12, 13)] :: ((wsL_many_r1 ++ wsL_many_r2) ++ wsX40 ++ wsX30 ++ (vx_atS RX4 180 "java/lang/IllegalArgumentException" ["java/lang/RuntimeException", "java/lang/Exception"]).filter goodWord)
def wsL_ofMatch_r1 : List Cond := [Cond.classLink RL 13 "java/lang/IllegalArgumentException", Cond.methodLink RL 69 yX4_ofMatch, Cond.instanceMethod yX4_ofMatch, Cond.selects RX4 yX4_ofMatch yX4_ofMatch, Cond.initialized RX4, Cond.code yX4_ofMatch cX4_ofMatch 2 (some .int), Cond.fieldLink RX4 31 "ArrowField" "current" "LArrowField$Match;", Cond.fieldLink RX4 86 "ArrowField$Match" "on" "Z", Cond.fieldLink RX4 236 "ArrowField$Match" "one" "I", Cond.fieldLink RX4 239 "ArrowField$Match" "other" "I", Cond.fieldLink RX4 192 "ArrowField$Match" "pointsOfOne" "I", Cond.fieldLink RX4 195 "ArrowField$Match" "pointsOfOther" "I", Cond.fieldLink RX4 242 "ArrowField$Match" "sumOfOne" "I", Cond.fieldLink RX4 245 "ArrowField$Match" "sumOfOther" "I", Cond.fieldLink RX4 248 "ArrowField$Match" "byLastArrows" "Z", Cond.methodLink RX4 47 yX4_needBetween, Cond.static yX4_needBetween, Cond.code yX4_needBetween cX4_needBetween 3 none, Cond.classLink RX4 176 "java/lang/IllegalArgumentException", Cond.initialized "java/lang/IllegalArgumentException", Cond.methodLink RX4 136 yX2_turn, Cond.instanceMethod yX2_turn, Cond.selects RX2 yX2_turn yX2_turn, Cond.initialized RX2]
def wsL_ofMatch_r2 : List Cond := [Cond.code yX2_turn cX2_turn 1 (some .int), Cond.fieldLink RX2 15 "ArrowField$Match" "one" "I", Cond.fieldLink RX2 19 "ArrowField$Match" "other" "I", Cond.methodLink RX2 34 yX2_isTurnOfOne, Cond.instanceMethod yX2_isTurnOfOne, Cond.selects RX2 yX2_isTurnOfOne yX2_isTurnOfOne, Cond.code yX2_isTurnOfOne cX2_isTurnOfOne 1 (some .boolean), Cond.fieldLink RX2 48 "ArrowField$Match" "shotsOfSet" "I"]
def wsL_ofMatch : List Cond := .codeWith yL_ofMatch cL_ofMatch 4 (some .int) [(0, 9, 12, 13)] :: ((wsL_ofMatch_r1 ++ wsL_ofMatch_r2) ++ wsX40 ++ wsX20 ++ (vx_atS RX4 180 "java/lang/IllegalArgumentException" ["java/lang/RuntimeException", "java/lang/Exception"]).filter goodWord)
def wsL_wouldHit_r1 : List Cond := [Cond.classLink RL 23 "java/lang/IndexOutOfBoundsException", Cond.classLink RL 13 "java/lang/IllegalArgumentException", Cond.classLink RL 15 "java/lang/IllegalStateException", Cond.methodLink RL 72 yX4_wouldHit, Cond.instanceMethod yX4_wouldHit, Cond.selects RX4 yX4_wouldHit yX4_wouldHit, Cond.initialized RX4, Cond.code yX4_wouldHit cX4_wouldHit 5 (some .double), Cond.fieldLink RX4 41 "ArrowField" "flight" "LArrowField$Flight;", Cond.fieldLink RX4 21 "ArrowField" "distanceNow" "I", Cond.fieldLink RX4 115 "ArrowField" "windNow" "I", Cond.fieldLink RX4 251 "ArrowField$Flight" "v" "D", Cond.fieldLink RX4 254 "ArrowField$Flight" "h" "D", Cond.methodLink RX4 78 yX4_archerNumbered, Cond.instanceMethod yX4_archerNumbered, Cond.selects RX4 yX4_archerNumbered yX4_archerNumbered, Cond.code yX4_archerNumbered cX4_archerNumbered 2 (some (.object "ArrowField$Archer")), Cond.classLink RX4 304 "java/lang/IndexOutOfBoundsException", Cond.initialized "java/lang/IndexOutOfBoundsException", Cond.fieldLink RX4 51 "ArrowField" "archerCount" "I", Cond.fieldLink RX4 11 "ArrowField" "archers" "[LArrowField$Archer;", Cond.methodLink RX4 47 yX4_needBetween, Cond.static yX4_needBetween, Cond.code yX4_needBetween cX4_needBetween 3 none]
def wsL_wouldHit_r2 : List Cond := [Cond.classLink RX4 176 "java/lang/IllegalArgumentException", Cond.initialized "java/lang/IllegalArgumentException", Cond.methodLink RX4 126 yX4_quiverOf, Cond.instanceMethod yX4_quiverOf, Cond.selects RX4 yX4_quiverOf yX4_quiverOf, Cond.code yX4_quiverOf cX4_quiverOf 2 (some (.object "ArrowField$Quiver")), Cond.classLink RX4 54 "java/lang/IllegalStateException", Cond.initialized "java/lang/IllegalStateException", Cond.fieldLink RX4 96 "ArrowField$Archer" "quiver" "I", Cond.fieldLink RX4 17 "ArrowField" "quivers" "[LArrowField$Quiver;", Cond.methodLink RX4 141 yX1_fly, Cond.instanceMethod yX1_fly, Cond.selects RX1 yX1_fly yX1_fly, Cond.initialized RX1, Cond.code yX1_fly cX1_fly 15 none, Cond.constantDouble RX1 15 (4647714815446351872), Cond.fieldLink RX1 17 "ArrowField$Archer" "nock" "I", Cond.constantDouble RX1 21 (4620693217682128896), Cond.fieldLink RX1 23 "ArrowField$Quiver" "spine" "I", Cond.fieldLink RX1 28 "ArrowField$Archer" "draw" "I", Cond.constantDouble RX1 31 (4643211215818981376), Cond.fieldLink RX1 33 "ArrowField$Flight" "h" "D", Cond.fieldLink RX1 39 "ArrowField$Flight" "v" "D", Cond.constantDouble RX1 42 (4625196817309499392)]
def wsL_wouldHit_r3 : List Cond := [Cond.constantDouble RX1 44 (4603804719079489536), Cond.constantDouble RX1 46 (4634204016564240384), Cond.methodLink RX1 9 yX0_speedWith, Cond.instanceMethod yX0_speedWith, Cond.selects RX0 yX0_speedWith yX0_speedWith, Cond.initialized RX0, Cond.code yX0_speedWith cX0_speedWith 2 (some .double), Cond.fieldLink RX0 15 "ArrowField$Archer" "draw" "I", Cond.constantDouble RX0 18 (4648488871632306176), Cond.fieldLink RX0 20 "ArrowField$Quiver" "mass" "I", Cond.constantDouble RX0 25 (4641240890982006784), Cond.fieldLink RX0 27 "ArrowField$Archer" "creep" "F"]
def wsL_wouldHit : List Cond := .codeWith yL_wouldHit cL_wouldHit 6 (some .int) [(0, 11, 14, 23), (0, 11, 18, 13), (0, 11, 22, 15)] :: ((wsL_wouldHit_r1 ++ (wsL_wouldHit_r2 ++ wsL_wouldHit_r3)) ++ wsX40 ++ wsX10 ++ wsX00 ++ wsX30 ++ (vx_atS RX4 308 "java/lang/IndexOutOfBoundsException" ["java/lang/RuntimeException", "java/lang/Exception"]).filter goodWord ++ (vx_atS RX4 180 "java/lang/IllegalArgumentException" ["java/lang/RuntimeException", "java/lang/Exception"]).filter goodWord ++ (vx_atS RX4 58 "java/lang/IllegalStateException" ["java/lang/RuntimeException", "java/lang/Exception"]).filter goodWord)
def wsL_mark_r1 : List Cond := [Cond.classLink RL 23 "java/lang/IndexOutOfBoundsException", Cond.classLink RL 15 "java/lang/IllegalStateException", Cond.methodLink RL 75 yX4_mark, Cond.instanceMethod yX4_mark, Cond.selects RX4 yX4_mark yX4_mark, Cond.initialized RX4, Cond.code yX4_mark cX4_mark 10 (some .int), Cond.fieldLink RX4 41 "ArrowField" "flight" "LArrowField$Flight;", Cond.fieldLink RX4 21 "ArrowField" "distanceNow" "I", Cond.fieldLink RX4 115 "ArrowField" "windNow" "I", Cond.fieldLink RX4 251 "ArrowField$Flight" "v" "D", Cond.methodLink RX4 78 yX4_archerNumbered, Cond.instanceMethod yX4_archerNumbered, Cond.selects RX4 yX4_archerNumbered yX4_archerNumbered, Cond.code yX4_archerNumbered cX4_archerNumbered 2 (some (.object "ArrowField$Archer")), Cond.classLink RX4 304 "java/lang/IndexOutOfBoundsException", Cond.initialized "java/lang/IndexOutOfBoundsException", Cond.fieldLink RX4 51 "ArrowField" "archerCount" "I", Cond.fieldLink RX4 11 "ArrowField" "archers" "[LArrowField$Archer;", Cond.methodLink RX4 126 yX4_quiverOf, Cond.instanceMethod yX4_quiverOf, Cond.selects RX4 yX4_quiverOf yX4_quiverOf, Cond.code yX4_quiverOf cX4_quiverOf 2 (some (.object "ArrowField$Quiver")), Cond.classLink RX4 54 "java/lang/IllegalStateException"]
def wsL_mark_r2 : List Cond := [Cond.initialized "java/lang/IllegalStateException", Cond.fieldLink RX4 96 "ArrowField$Archer" "quiver" "I", Cond.fieldLink RX4 17 "ArrowField" "quivers" "[LArrowField$Quiver;", Cond.methodLink RX4 141 yX1_fly, Cond.instanceMethod yX1_fly, Cond.selects RX1 yX1_fly yX1_fly, Cond.initialized RX1, Cond.code yX1_fly cX1_fly 15 none, Cond.constantDouble RX1 15 (4647714815446351872), Cond.fieldLink RX1 17 "ArrowField$Archer" "nock" "I", Cond.constantDouble RX1 21 (4620693217682128896), Cond.fieldLink RX1 23 "ArrowField$Quiver" "spine" "I", Cond.fieldLink RX1 28 "ArrowField$Archer" "draw" "I", Cond.constantDouble RX1 31 (4643211215818981376), Cond.fieldLink RX1 33 "ArrowField$Flight" "h" "D", Cond.fieldLink RX1 39 "ArrowField$Flight" "v" "D", Cond.constantDouble RX1 42 (4625196817309499392), Cond.constantDouble RX1 44 (4603804719079489536), Cond.constantDouble RX1 46 (4634204016564240384), Cond.methodLink RX1 9 yX0_speedWith, Cond.instanceMethod yX0_speedWith, Cond.selects RX0 yX0_speedWith yX0_speedWith, Cond.initialized RX0, Cond.code yX0_speedWith cX0_speedWith 2 (some .double)]
def wsL_mark_r3 : List Cond := [Cond.fieldLink RX0 15 "ArrowField$Archer" "draw" "I", Cond.constantDouble RX0 18 (4648488871632306176), Cond.fieldLink RX0 20 "ArrowField$Quiver" "mass" "I", Cond.constantDouble RX0 25 (4641240890982006784), Cond.fieldLink RX0 27 "ArrowField$Archer" "creep" "F", Cond.methodLink RX4 256 yX4_size, Cond.static yX4_size, Cond.code yX4_size cX4_size 2 (some .double)]
def wsL_mark : List Cond := .codeWith yL_mark cL_mark 4 (some .int) [(0, 9, 12, 23), (0, 9, 15, 15)] :: ((wsL_mark_r1 ++ (wsL_mark_r2 ++ wsL_mark_r3)) ++ wsX40 ++ wsX10 ++ wsX00 ++ wsX30 ++ (vx_atS RX4 308 "java/lang/IndexOutOfBoundsException" ["java/lang/RuntimeException", "java/lang/Exception"]).filter goodWord ++ (vx_atS RX4 58 "java/lang/IllegalStateException" ["java/lang/RuntimeException", "java/lang/Exception"]).filter goodWord)
def wsL_best_r1 : List Cond := [Cond.classLink RL 23 "java/lang/IndexOutOfBoundsException", Cond.methodLink RL 78 yX4_best, Cond.instanceMethod yX4_best, Cond.selects RX4 yX4_best yX4_best, Cond.initialized RX4, Cond.code yX4_best cX4_best 10 (some .int), Cond.fieldLink RX4 67 "ArrowField" "quiverCount" "I", Cond.fieldLink RX4 41 "ArrowField" "flight" "LArrowField$Flight;", Cond.fieldLink RX4 17 "ArrowField" "quivers" "[LArrowField$Quiver;", Cond.fieldLink RX4 99 "ArrowField$Archer" "sight" "I", Cond.fieldLink RX4 21 "ArrowField" "distanceNow" "I", Cond.fieldLink RX4 115 "ArrowField" "windNow" "I", Cond.fieldLink RX4 254 "ArrowField$Flight" "h" "D", Cond.methodLink RX4 78 yX4_archerNumbered, Cond.instanceMethod yX4_archerNumbered, Cond.selects RX4 yX4_archerNumbered yX4_archerNumbered, Cond.code yX4_archerNumbered cX4_archerNumbered 2 (some (.object "ArrowField$Archer")), Cond.classLink RX4 304 "java/lang/IndexOutOfBoundsException", Cond.initialized "java/lang/IndexOutOfBoundsException", Cond.fieldLink RX4 51 "ArrowField" "archerCount" "I", Cond.fieldLink RX4 11 "ArrowField" "archers" "[LArrowField$Archer;", Cond.methodLink RX4 92 yX4_holderOf, Cond.instanceMethod yX4_holderOf, Cond.selects RX4 yX4_holderOf yX4_holderOf]
def wsL_best_r2 : List Cond := [Cond.code yX4_holderOf cX4_holderOf 3 (some .int), Cond.fieldLink RX4 96 "ArrowField$Archer" "quiver" "I", Cond.methodLink RX4 141 yX1_fly, Cond.instanceMethod yX1_fly, Cond.selects RX1 yX1_fly yX1_fly, Cond.initialized RX1, Cond.code yX1_fly cX1_fly 15 none, Cond.constantDouble RX1 15 (4647714815446351872), Cond.fieldLink RX1 17 "ArrowField$Archer" "nock" "I", Cond.constantDouble RX1 21 (4620693217682128896), Cond.fieldLink RX1 23 "ArrowField$Quiver" "spine" "I", Cond.fieldLink RX1 28 "ArrowField$Archer" "draw" "I", Cond.constantDouble RX1 31 (4643211215818981376), Cond.fieldLink RX1 33 "ArrowField$Flight" "h" "D", Cond.fieldLink RX1 39 "ArrowField$Flight" "v" "D", Cond.constantDouble RX1 42 (4625196817309499392), Cond.constantDouble RX1 44 (4603804719079489536), Cond.constantDouble RX1 46 (4634204016564240384), Cond.methodLink RX1 9 yX0_speedWith, Cond.instanceMethod yX0_speedWith, Cond.selects RX0 yX0_speedWith yX0_speedWith, Cond.initialized RX0, Cond.code yX0_speedWith cX0_speedWith 2 (some .double), Cond.fieldLink RX0 15 "ArrowField$Archer" "draw" "I"]
def wsL_best_r3 : List Cond := [Cond.constantDouble RX0 18 (4648488871632306176), Cond.fieldLink RX0 20 "ArrowField$Quiver" "mass" "I", Cond.constantDouble RX0 25 (4641240890982006784), Cond.fieldLink RX0 27 "ArrowField$Archer" "creep" "F", Cond.methodLink RX4 256 yX4_size, Cond.static yX4_size, Cond.code yX4_size cX4_size 2 (some .double)]
def wsL_best : List Cond := .codeWith yL_best cL_best 4 (some .int) [(0, 9, 12, 23)] :: ((wsL_best_r1 ++ (wsL_best_r2 ++ wsL_best_r3)) ++ wsX40 ++ wsX00 ++ wsX10 ++ wsX30 ++ (vx_atS RX4 308 "java/lang/IndexOutOfBoundsException" ["java/lang/RuntimeException", "java/lang/Exception"]).filter goodWord)
def wsL_reach_r1 : List Cond := [Cond.classLink RL 23 "java/lang/IndexOutOfBoundsException", Cond.classLink RL 15 "java/lang/IllegalStateException", Cond.methodLink RL 81 yX4_reach, Cond.instanceMethod yX4_reach, Cond.selects RX4 yX4_reach yX4_reach, Cond.initialized RX4, Cond.code yX4_reach cX4_reach 5 (some .int), Cond.fieldLink RX4 41 "ArrowField" "flight" "LArrowField$Flight;", Cond.fieldLink RX4 115 "ArrowField" "windNow" "I", Cond.fieldLink RX4 251 "ArrowField$Flight" "v" "D", Cond.methodLink RX4 78 yX4_archerNumbered, Cond.instanceMethod yX4_archerNumbered, Cond.selects RX4 yX4_archerNumbered yX4_archerNumbered, Cond.code yX4_archerNumbered cX4_archerNumbered 2 (some (.object "ArrowField$Archer")), Cond.classLink RX4 304 "java/lang/IndexOutOfBoundsException", Cond.initialized "java/lang/IndexOutOfBoundsException", Cond.fieldLink RX4 51 "ArrowField" "archerCount" "I", Cond.fieldLink RX4 11 "ArrowField" "archers" "[LArrowField$Archer;", Cond.methodLink RX4 126 yX4_quiverOf, Cond.instanceMethod yX4_quiverOf, Cond.selects RX4 yX4_quiverOf yX4_quiverOf, Cond.code yX4_quiverOf cX4_quiverOf 2 (some (.object "ArrowField$Quiver")), Cond.classLink RX4 54 "java/lang/IllegalStateException", Cond.initialized "java/lang/IllegalStateException"]
def wsL_reach_r2 : List Cond := [Cond.fieldLink RX4 96 "ArrowField$Archer" "quiver" "I", Cond.fieldLink RX4 17 "ArrowField" "quivers" "[LArrowField$Quiver;", Cond.methodLink RX4 141 yX1_fly, Cond.instanceMethod yX1_fly, Cond.selects RX1 yX1_fly yX1_fly, Cond.initialized RX1, Cond.code yX1_fly cX1_fly 15 none, Cond.constantDouble RX1 15 (4647714815446351872), Cond.fieldLink RX1 17 "ArrowField$Archer" "nock" "I", Cond.constantDouble RX1 21 (4620693217682128896), Cond.fieldLink RX1 23 "ArrowField$Quiver" "spine" "I", Cond.fieldLink RX1 28 "ArrowField$Archer" "draw" "I", Cond.constantDouble RX1 31 (4643211215818981376), Cond.fieldLink RX1 33 "ArrowField$Flight" "h" "D", Cond.fieldLink RX1 39 "ArrowField$Flight" "v" "D", Cond.constantDouble RX1 42 (4625196817309499392), Cond.constantDouble RX1 44 (4603804719079489536), Cond.constantDouble RX1 46 (4634204016564240384), Cond.methodLink RX1 9 yX0_speedWith, Cond.instanceMethod yX0_speedWith, Cond.selects RX0 yX0_speedWith yX0_speedWith, Cond.initialized RX0, Cond.code yX0_speedWith cX0_speedWith 2 (some .double), Cond.fieldLink RX0 15 "ArrowField$Archer" "draw" "I"]
def wsL_reach_r3 : List Cond := [Cond.constantDouble RX0 18 (4648488871632306176), Cond.fieldLink RX0 20 "ArrowField$Quiver" "mass" "I", Cond.constantDouble RX0 25 (4641240890982006784), Cond.fieldLink RX0 27 "ArrowField$Archer" "creep" "F"]
def wsL_reach : List Cond := .codeWith yL_reach cL_reach 4 (some .int) [(0, 9, 12, 23), (0, 9, 15, 15)] :: ((wsL_reach_r1 ++ (wsL_reach_r2 ++ wsL_reach_r3)) ++ wsX40 ++ wsX10 ++ wsX00 ++ wsX30 ++ (vx_atS RX4 308 "java/lang/IndexOutOfBoundsException" ["java/lang/RuntimeException", "java/lang/Exception"]).filter goodWord ++ (vx_atS RX4 58 "java/lang/IllegalStateException" ["java/lang/RuntimeException", "java/lang/Exception"]).filter goodWord)
def wsL_wouldScore_r1 : List Cond := [Cond.classLink RL 23 "java/lang/IndexOutOfBoundsException", Cond.classLink RL 15 "java/lang/IllegalStateException", Cond.methodLink RL 84 yX4_wouldScore, Cond.instanceMethod yX4_wouldScore, Cond.selects RX4 yX4_wouldScore yX4_wouldScore, Cond.initialized RX4, Cond.code yX4_wouldScore cX4_wouldScore 3 (some .int), Cond.fieldLink RX4 41 "ArrowField" "flight" "LArrowField$Flight;", Cond.fieldLink RX4 99 "ArrowField$Archer" "sight" "I", Cond.fieldLink RX4 21 "ArrowField" "distanceNow" "I", Cond.fieldLink RX4 115 "ArrowField" "windNow" "I", Cond.fieldLink RX4 25 "ArrowField" "faceNow" "I", Cond.methodLink RX4 78 yX4_archerNumbered, Cond.instanceMethod yX4_archerNumbered, Cond.selects RX4 yX4_archerNumbered yX4_archerNumbered, Cond.code yX4_archerNumbered cX4_archerNumbered 2 (some (.object "ArrowField$Archer")), Cond.classLink RX4 304 "java/lang/IndexOutOfBoundsException", Cond.initialized "java/lang/IndexOutOfBoundsException", Cond.fieldLink RX4 51 "ArrowField" "archerCount" "I", Cond.fieldLink RX4 11 "ArrowField" "archers" "[LArrowField$Archer;", Cond.methodLink RX4 126 yX4_quiverOf, Cond.instanceMethod yX4_quiverOf, Cond.selects RX4 yX4_quiverOf yX4_quiverOf, Cond.code yX4_quiverOf cX4_quiverOf 2 (some (.object "ArrowField$Quiver"))]
def wsL_wouldScore_r2 : List Cond := [Cond.classLink RX4 54 "java/lang/IllegalStateException", Cond.initialized "java/lang/IllegalStateException", Cond.fieldLink RX4 96 "ArrowField$Archer" "quiver" "I", Cond.fieldLink RX4 17 "ArrowField" "quivers" "[LArrowField$Quiver;", Cond.methodLink RX4 141 yX1_fly, Cond.instanceMethod yX1_fly, Cond.selects RX1 yX1_fly yX1_fly, Cond.initialized RX1, Cond.code yX1_fly cX1_fly 15 none, Cond.constantDouble RX1 15 (4647714815446351872), Cond.fieldLink RX1 17 "ArrowField$Archer" "nock" "I", Cond.constantDouble RX1 21 (4620693217682128896), Cond.fieldLink RX1 23 "ArrowField$Quiver" "spine" "I", Cond.fieldLink RX1 28 "ArrowField$Archer" "draw" "I", Cond.constantDouble RX1 31 (4643211215818981376), Cond.fieldLink RX1 33 "ArrowField$Flight" "h" "D", Cond.fieldLink RX1 39 "ArrowField$Flight" "v" "D", Cond.constantDouble RX1 42 (4625196817309499392), Cond.constantDouble RX1 44 (4603804719079489536), Cond.constantDouble RX1 46 (4634204016564240384), Cond.methodLink RX1 9 yX0_speedWith, Cond.instanceMethod yX0_speedWith, Cond.selects RX0 yX0_speedWith yX0_speedWith, Cond.initialized RX0]
def wsL_wouldScore_r3 : List Cond := [Cond.code yX0_speedWith cX0_speedWith 2 (some .double), Cond.fieldLink RX0 15 "ArrowField$Archer" "draw" "I", Cond.constantDouble RX0 18 (4648488871632306176), Cond.fieldLink RX0 20 "ArrowField$Quiver" "mass" "I", Cond.constantDouble RX0 25 (4641240890982006784), Cond.fieldLink RX0 27 "ArrowField$Archer" "creep" "F", Cond.methodLink RX4 154 yX1_worth, Cond.instanceMethod yX1_worth, Cond.selects RX1 yX1_worth yX1_worth, Cond.code yX1_worth cX1_worth 7 (some .int), Cond.constantDouble RX1 56 (4575657221408423936), Cond.methodLink RX1 52 yX1_farness, Cond.instanceMethod yX1_farness, Cond.selects RX1 yX1_farness yX1_farness, Cond.code yX1_farness cX1_farness 1 (some .double)]
def wsL_wouldScore : List Cond := .codeWith yL_wouldScore cL_wouldScore 4 (some .int) [(0, 9, 12, 23), (0, 9, 15, 15)] :: ((wsL_wouldScore_r1 ++ (wsL_wouldScore_r2 ++ wsL_wouldScore_r3)) ++ wsX40 ++ wsX00 ++ wsX30 ++ wsX10 ++ (vx_atS RX4 308 "java/lang/IndexOutOfBoundsException" ["java/lang/RuntimeException", "java/lang/Exception"]).filter goodWord ++ (vx_atS RX4 58 "java/lang/IllegalStateException" ["java/lang/RuntimeException", "java/lang/Exception"]).filter goodWord)
def wsL_law0_r1 : List Cond := [Cond.classLink RL 8 RX4, Cond.instantiable RX4 16, Cond.initialized RX4, Cond.classLink RL 88 RX7, Cond.instantiable RX7 22, Cond.initialized RX7, Cond.arrayClass .long, Cond.arrayClass .double, Cond.methodLink RL 87 yX4_init, Cond.instanceMethod yX4_init, Cond.code yX4_init cX4_init 2 none, Cond.methodLink RX4 1 objectInit, Cond.instanceMethod objectInit, Cond.code objectInit ⟨#[0xb1]⟩ 1 none, Cond.classLink RX4 9 RX0, Cond.fieldLink RX4 11 "ArrowField" "archers" "[LArrowField$Archer;", Cond.classLink RX4 15 RX3, Cond.fieldLink RX4 17 "ArrowField" "quivers" "[LArrowField$Quiver;", Cond.fieldLink RX4 21 "ArrowField" "distanceNow" "I", Cond.fieldLink RX4 25 "ArrowField" "faceNow" "I", Cond.classLink RX4 28 RX2, Cond.instantiable RX2 10, Cond.initialized RX2, Cond.fieldLink RX4 31 "ArrowField" "current" "LArrowField$Match;"]
def wsL_law0_r2 : List Cond := [Cond.fieldLink RX4 35 "ArrowField" "latestWinner" "I", Cond.classLink RX4 38 RX1, Cond.instantiable RX1 2, Cond.initialized RX1, Cond.fieldLink RX4 41 "ArrowField" "flight" "LArrowField$Flight;", Cond.instantiable RX0 12, Cond.initialized RX0, Cond.instantiable RX3 5, Cond.initialized RX3, Cond.instanceMethod yX2_init, Cond.code yX2_init cX2_init 1 none, Cond.methodLink RX2 3 objectInit, Cond.instanceMethod yX1_init, Cond.code yX1_init cX1_init 1 none, Cond.methodLink RX1 3 objectInit, Cond.instanceMethod yX0_init, Cond.code yX0_init cX0_init 1 none, Cond.methodLink RX0 3 objectInit, Cond.fieldLink RX0 9 "ArrowField$Archer" "quiver" "I", Cond.instanceMethod yX3_init, Cond.code yX3_init cX3_init 1 none, Cond.methodLink RX3 3 objectInit, Cond.arrayClass .int, Cond.fieldLink RX3 9 "ArrowField$Quiver" "states" "[I"]
def wsL_law0_r3 : List Cond := [Cond.fieldLink RX3 15 "ArrowField$Quiver" "h" "[D", Cond.fieldLink RX3 19 "ArrowField$Quiver" "v" "[D", Cond.methodLink RL 90 yX7_init, Cond.instanceMethod yX7_init, Cond.code yX7_init cX7_init 1 none, Cond.methodLink RX7 1 objectInit, Cond.classLink RX7 7 RJx4a65c, Cond.instantiable RJx4a65c 3, Cond.initialized RJx4a65c, Cond.fieldLink RX7 10 "ArrowFieldModel" "archers" "Ljava/util/ArrayList;", Cond.fieldLink RX7 16 "ArrowFieldModel" "quivers" "Ljava/util/ArrayList;", Cond.fieldLink RX7 19 "ArrowFieldModel" "distance" "I", Cond.fieldLink RX7 23 "ArrowFieldModel" "face" "I", Cond.fieldLink RX7 26 "ArrowFieldModel" "winner" "I", Cond.fieldLink RX7 29 "ArrowFieldModel" "party" "[I", Cond.fieldLink RX7 33 "ArrowFieldModel" "points" "[I", Cond.fieldLink RX7 36 "ArrowFieldModel" "sums" "[I", Cond.methodLink RX7 9 yJx4a65c_init_da8c8, Cond.instanceMethod yJx4a65c_init_da8c8, Cond.code yJx4a65c_init_da8c8 cJx4a65c_init_da8c8 1 none, Cond.fieldLink RJx4a65c 39 "java/util/ArrayList" "DEFAULTCAPACITY_EMPTY_ELEMENTDATA" "[Ljava/lang/Object;", Cond.fieldLink RJx4a65c 9 "java/util/ArrayList" "elementData" "[Ljava/lang/Object;", Cond.methodLink RJx4a65c 1 yJxc12de_init_da8c8, Cond.instanceMethod yJxc12de_init_da8c8]
def wsL_law0_r4 : List Cond := [Cond.initialized RJxc12de, Cond.code yJxc12de_init_da8c8 cJxc12de_init_da8c8 1 none, Cond.fieldLink RJxc12de 7 "java/util/AbstractList" "modCount" "I", Cond.methodLink RJxc12de 1 yJxa1e45_init_da8c8, Cond.instanceMethod yJxa1e45_init_da8c8, Cond.initialized RJxa1e45, Cond.code yJxa1e45_init_da8c8 cJxa1e45_init_da8c8 1 none, Cond.methodLink RJxa1e45 1 objectInit, Cond.methodLink RL 91 yL_archer, Cond.static yL_archer, Cond.initialized RL, Cond.codeWith yL_archer cL_archer 5 (some .int) [(0, 10, 13, 13), (0, 10, 17, 15)], Cond.classLink RL 13 "java/lang/IllegalArgumentException", Cond.classLink RL 15 "java/lang/IllegalStateException", Cond.methodLink RL 7 yX4_archer, Cond.instanceMethod yX4_archer, Cond.selects RX4 yX4_archer yX4_archer, Cond.code yX4_archer cX4_archer 3 (some .int), Cond.classLink RX4 54 "java/lang/IllegalStateException", Cond.initialized "java/lang/IllegalStateException", Cond.fieldLink RX4 51 "ArrowField" "archerCount" "I", Cond.fieldLink RX4 61 "ArrowField$Archer" "draw" "I", Cond.fieldLink RX4 64 "ArrowField$Archer" "steady" "I", Cond.methodLink RX4 47 yX4_needBetween]
def wsL_law0_r5 : List Cond := [Cond.static yX4_needBetween, Cond.code yX4_needBetween cX4_needBetween 3 none, Cond.classLink RX4 176 "java/lang/IllegalArgumentException", Cond.initialized "java/lang/IllegalArgumentException", Cond.methodLink RL 96 yX7_archer, Cond.instanceMethod yX7_archer, Cond.selects RX7 yX7_archer yX7_archer, Cond.code yX7_archer cX7_archer 4 (some .int), Cond.fieldLink RX7 39 "ArrowFieldModel" "thrown" "I", Cond.classLink RX7 54 RX5, Cond.instantiable RX5 12, Cond.initialized RX5, Cond.methodLink RX7 46 yX7_is, Cond.static yX7_is, Cond.code yX7_is cX7_is 3 (some .boolean), Cond.methodLink RX7 59 yX7_refuse, Cond.instanceMethod yX7_refuse, Cond.selects RX7 yX7_refuse yX7_refuse, Cond.code yX7_refuse cX7_refuse 2 (some .int), Cond.methodLink RX7 42 yJx4a65c_size_8abf5, Cond.instanceMethod yJx4a65c_size_8abf5, Cond.selects RJx4a65c yJx4a65c_size_8abf5 yJx4a65c_size_8abf5, Cond.code yJx4a65c_size_8abf5 cJx4a65c_size_8abf5 1 (some .int), Cond.fieldLink RJx4a65c 48 "java/util/ArrayList" "size" "I"]
def wsL_law0_r6 : List Cond := [Cond.instanceMethod yX5_init, Cond.code yX5_init cX5_init 1 none, Cond.methodLink RX5 3 objectInit, Cond.fieldLink RX5 9 "ArrowFieldModel$Archer" "quiver" "I", Cond.methodLink RX7 70 yJx4a65c_add_9ea2d, Cond.instanceMethod yJx4a65c_add_9ea2d, Cond.selects RJx4a65c yJx4a65c_add_9ea2d yJx4a65c_add_9ea2d, Cond.code yJx4a65c_add_9ea2d cJx4a65c_add_9ea2d 2 (some .boolean), Cond.fieldLink RJx4a65c 63 "java/util/ArrayList" "modCount" "I", Cond.sameField "java/util/ArrayList" "java/util/AbstractList" "modCount" "I", Cond.methodLink RJx4a65c 131 yJx4a65c_add_72be8, Cond.instanceMethod yJx4a65c_add_72be8, Cond.selects RJx4a65c yJx4a65c_add_72be8 yJx4a65c_add_72be8, Cond.code yJx4a65c_add_72be8 cJx4a65c_add_72be8 4 none, Cond.methodLink RJx4a65c 129 yJx4a65c_grow_d5877, Cond.instanceMethod yJx4a65c_grow_d5877, Cond.selects RJx4a65c yJx4a65c_grow_d5877 yJx4a65c_grow_d5877, Cond.code yJx4a65c_grow_d5877 cJx4a65c_grow_d5877 1 (some (.array (.object "java/lang/Object"))), Cond.methodLink RJx4a65c 69 yJx4a65c_grow_92f84, Cond.instanceMethod yJx4a65c_grow_92f84, Cond.selects RJx4a65c yJx4a65c_grow_92f84 yJx4a65c_grow_92f84, Cond.code yJx4a65c_grow_92f84 cJx4a65c_grow_92f84 4 (some (.array (.object "java/lang/Object"))), Cond.methodLink RJx4a65c 79 Lib.Math.max.name, Cond.static Lib.Math.max.name]
def wsL_law0_r7 : List Cond := [Cond.initialized "java/lang/Math", Cond.code Lib.Math.max.name Lib.Math.max.code 2 (some .int), Cond.classLink RJx4a65c 7 "java/lang/Object", Cond.methodLink RJx4a65c 73 yJ8_newLength_cabcc, Cond.static yJ8_newLength_cabcc, Cond.initialized RJ8, Cond.code yJ8_newLength_cabcc cJ8_newLength_cabcc 4 (some .int), Cond.methodLink RJ8 194 Lib.Math.max.name, Cond.constant RJ8 200 (2147483639), Cond.methodLink RJ8 201 yJ8_hugeLength_7cf53, Cond.static yJ8_hugeLength_7cf53, Cond.code yJ8_hugeLength_7cf53 cJ8_hugeLength_7cf53 3 (some .int), Cond.methodLink RJx4a65c 66 yJ7_copyOf_1904c, Cond.static yJ7_copyOf_1904c, Cond.initialized RJ7, Cond.code yJ7_copyOf_1904c cJ7_copyOf_1904c 2 (some (.array (.object "java/lang/Object"))), Cond.methodLink RJ7 86 ⟨"java/lang/Object", "getClass", "()Ljava/lang/Class;"⟩, Cond.selects "[Ljava/lang/Object;" ⟨"java/lang/Object", "getClass", "()Ljava/lang/Class;"⟩ ⟨"java/lang/Object", "getClass", "()Ljava/lang/Class;"⟩, Cond.instanceMethod ⟨"java/lang/Object", "getClass", "()Ljava/lang/Class;"⟩, Cond.native ⟨"java/lang/Object", "getClass", "()Ljava/lang/Class;"⟩, Cond.methodLink RJ7 300 yJ7_copyOf_6403c, Cond.static yJ7_copyOf_6403c, Cond.code yJ7_copyOf_6403c cJ7_copyOf_6403c 4 (some (.array (.object "java/lang/Object"))), Cond.classLink RJ7 110 "[Ljava/lang/Object;"]
def wsL_law0_r8 : List Cond := [Cond.classLink RJ7 2 "java/lang/Object", Cond.methodLink RJ7 304 Lib.Math.min.name, Cond.static Lib.Math.min.name, Cond.code Lib.Math.min.name Lib.Math.min.code 2 (some .int), Cond.methodLink RJ7 150 arraycopyName, Cond.native arraycopyName, Cond.static arraycopyName, Cond.initialized "java/lang/System", Cond.methodLink RL 97 yX7_thrown, Cond.instanceMethod yX7_thrown, Cond.selects RX7 yX7_thrown yX7_thrown, Cond.code yX7_thrown cX7_thrown 1 (some .int), Cond.methodLink RL 100 yL_quiver, Cond.static yL_quiver, Cond.codeWith yL_quiver cL_quiver 5 (some .int) [(0, 10, 13, 13), (0, 10, 17, 15)], Cond.methodLink RL 17 yX4_quiver, Cond.instanceMethod yX4_quiver, Cond.selects RX4 yX4_quiver yX4_quiver, Cond.code yX4_quiver cX4_quiver 3 (some .int), Cond.fieldLink RX4 67 "ArrowField" "quiverCount" "I", Cond.fieldLink RX4 72 "ArrowField$Quiver" "mass" "I", Cond.fieldLink RX4 75 "ArrowField$Quiver" "spine" "I", Cond.methodLink RL 102 yX7_quiver, Cond.instanceMethod yX7_quiver]
def wsL_law0_r9 : List Cond := [Cond.selects RX7 yX7_quiver yX7_quiver, Cond.code yX7_quiver cX7_quiver 4 (some .int), Cond.classLink RX7 74 RX6, Cond.instantiable RX6 5, Cond.initialized RX6, Cond.instanceMethod yX6_init, Cond.code yX6_init cX6_init 1 none, Cond.methodLink RX6 3 objectInit, Cond.fieldLink RX6 9 "ArrowFieldModel$Quiver" "where" "[I", Cond.fieldLink RX6 15 "ArrowFieldModel$Quiver" "h" "[D", Cond.fieldLink RX6 19 "ArrowFieldModel$Quiver" "v" "[D", Cond.methodLink RL 103 yL_give, Cond.static yL_give, Cond.codeWith yL_give cL_give 5 (some .int) [(0, 10, 13, 23), (0, 10, 17, 15)], Cond.classLink RL 23 "java/lang/IndexOutOfBoundsException", Cond.methodLink RL 20 yX4_give, Cond.instanceMethod yX4_give, Cond.selects RX4 yX4_give yX4_give, Cond.code yX4_give cX4_give 5 (some .int), Cond.fieldLink RX4 86 "ArrowField$Match" "on" "Z", Cond.fieldLink RX4 96 "ArrowField$Archer" "quiver" "I", Cond.methodLink RX4 78 yX4_archerNumbered, Cond.instanceMethod yX4_archerNumbered, Cond.selects RX4 yX4_archerNumbered yX4_archerNumbered]
def wsL_law0_r10 : List Cond := [Cond.code yX4_archerNumbered cX4_archerNumbered 2 (some (.object "ArrowField$Archer")), Cond.classLink RX4 304 "java/lang/IndexOutOfBoundsException", Cond.initialized "java/lang/IndexOutOfBoundsException", Cond.methodLink RX4 82 yX4_needQuiver, Cond.instanceMethod yX4_needQuiver, Cond.selects RX4 yX4_needQuiver yX4_needQuiver, Cond.code yX4_needQuiver cX4_needQuiver 2 none, Cond.methodLink RX4 92 yX4_holderOf, Cond.instanceMethod yX4_holderOf, Cond.selects RX4 yX4_holderOf yX4_holderOf, Cond.code yX4_holderOf cX4_holderOf 3 (some .int), Cond.methodLink RL 105 yX7_give, Cond.instanceMethod yX7_give, Cond.selects RX7 yX7_give yX7_give, Cond.code yX7_give cX7_give 4 (some .int), Cond.classLink RX7 54 "ArrowFieldModel$Archer", Cond.methodLink RX7 83 yX7_isArcher, Cond.instanceMethod yX7_isArcher, Cond.selects RX7 yX7_isArcher yX7_isArcher, Cond.code yX7_isArcher cX7_isArcher 2 (some .boolean), Cond.methodLink RX7 87 yX7_isQuiver, Cond.instanceMethod yX7_isQuiver, Cond.selects RX7 yX7_isQuiver yX7_isQuiver, Cond.code yX7_isQuiver cX7_isQuiver 2 (some .boolean)]
def wsL_law0_r11 : List Cond := [Cond.methodLink RX7 90 yX7_isOn, Cond.instanceMethod yX7_isOn, Cond.selects RX7 yX7_isOn yX7_isOn, Cond.code yX7_isOn cX7_isOn 1 (some .boolean), Cond.methodLink RX7 94 yX7_holder, Cond.instanceMethod yX7_holder, Cond.selects RX7 yX7_holder yX7_holder, Cond.code yX7_holder cX7_holder 3 (some .int), Cond.methodLink RX7 50 yJx4a65c_get_915e3, Cond.instanceMethod yJx4a65c_get_915e3, Cond.selects RJx4a65c yJx4a65c_get_915e3 yJx4a65c_get_915e3, Cond.code yJx4a65c_get_915e3 cJx4a65c_get_915e3 2 (some (.object "java/lang/Object")), Cond.methodLink RJx4a65c 118 yJ15_checkIndex_7cf53, Cond.static yJ15_checkIndex_7cf53, Cond.initialized RJ15, Cond.code yJ15_checkIndex_7cf53 cJ15_checkIndex_7cf53 2 (some .int), Cond.methodLink RJ15 105 yJ3_checkIndex_8e157, Cond.static yJ3_checkIndex_8e157, Cond.initialized RJ3, Cond.code yJ3_checkIndex_8e157 cJ3_checkIndex_8e157 3 (some .int), Cond.methodLink RJx4a65c 123 yJx4a65c_elementData_915e3, Cond.instanceMethod yJx4a65c_elementData_915e3, Cond.selects RJx4a65c yJx4a65c_elementData_915e3 yJx4a65c_elementData_915e3, Cond.code yJx4a65c_elementData_915e3 cJx4a65c_elementData_915e3 2 (some (.object "java/lang/Object"))]
def wsL_law0_r12 : List Cond := [Cond.methodLink RL 106 yL_tune, Cond.static yL_tune, Cond.codeWith yL_tune cL_tune 6 (some .int) [(0, 12, 15, 23), (0, 12, 19, 13)], Cond.methodLink RL 25 yX4_tune, Cond.instanceMethod yX4_tune, Cond.selects RX4 yX4_tune yX4_tune, Cond.code yX4_tune cX4_tune 6 (some .int), Cond.fieldLink RX4 99 "ArrowField$Archer" "sight" "I", Cond.fieldLink RX4 102 "ArrowField$Archer" "nock" "I", Cond.methodLink RL 109 yX7_tune, Cond.instanceMethod yX7_tune, Cond.selects RX7 yX7_tune yX7_tune, Cond.code yX7_tune cX7_tune 6 (some .int), Cond.methodLink RL 110 yL_string, Cond.static yL_string, Cond.codeWith yL_string cL_string 4 (some .int) [(0, 8, 11, 23)], Cond.methodLink RL 29 yX4_string, Cond.instanceMethod yX4_string, Cond.selects RX4 yX4_string yX4_string, Cond.code yX4_string cX4_string 5 (some .double), Cond.fieldLink RX4 105 "ArrowField$Archer" "creep" "F", Cond.methodLink RL 113 yX7_string, Cond.instanceMethod yX7_string, Cond.selects RX7 yX7_string yX7_string]
def wsL_law0_r13 : List Cond := [Cond.code yX7_string cX7_string 4 (some .double), Cond.methodLink RL 114 yL_field, Cond.static yL_field, Cond.codeWith yL_field cL_field 6 (some .int) [(0, 12, 15, 13), (0, 12, 19, 15)], Cond.methodLink RL 33 yX4_field, Cond.instanceMethod yX4_field, Cond.selects RX4 yX4_field yX4_field, Cond.code yX4_field cX4_field 5 (some .int), Cond.fieldLink RX4 115 "ArrowField" "windNow" "I", Cond.methodLink RX4 109 yX4_stuckArrows, Cond.instanceMethod yX4_stuckArrows, Cond.selects RX4 yX4_stuckArrows yX4_stuckArrows, Cond.code yX4_stuckArrows cX4_stuckArrows 3 (some .int), Cond.methodLink RX4 223 yX3_setOf, Cond.instanceMethod yX3_setOf, Cond.selects RX3 yX3_setOf yX3_setOf, Cond.code yX3_setOf cX3_setOf 4 (some .int), Cond.methodLink RX4 315 yJ6_bitCount_0f7a4, Cond.static yJ6_bitCount_0f7a4, Cond.initialized RJ6, Cond.code yJ6_bitCount_0f7a4 cJ6_bitCount_0f7a4 1 (some .int), Cond.constant RJ6 265 (1431655765), Cond.constant RJ6 266 (858993459), Cond.constant RJ6 267 (252645135)]
def wsL_law0_r14 : List Cond := [Cond.methodLink RL 116 yX7_field, Cond.instanceMethod yX7_field, Cond.selects RX7 yX7_field yX7_field, Cond.code yX7_field cX7_field 5 (some .int), Cond.fieldLink RX7 131 "ArrowFieldModel" "wind" "I", Cond.methodLink RX7 128 yX7_stuck, Cond.instanceMethod yX7_stuck, Cond.selects RX7 yX7_stuck yX7_stuck, Cond.code yX7_stuck cX7_stuck 4 (some .int), Cond.classLink RX7 74 "ArrowFieldModel$Quiver", Cond.methodLink RX7 107 yJx4a65c_iterator_32c93, Cond.instanceMethod yJx4a65c_iterator_32c93, Cond.selects RJx4a65c yJx4a65c_iterator_32c93 yJx4a65c_iterator_32c93, Cond.code yJx4a65c_iterator_32c93 cJx4a65c_iterator_32c93 1 (some (.object "java/util/Iterator")), Cond.classLink RJx4a65c 267 RJx35411, Cond.instantiable RJx35411 4, Cond.initialized RJx35411, Cond.methodLink RJx4a65c 269 yJx35411_init_45d68, Cond.instanceMethod yJx35411_init_45d68, Cond.code yJx35411_init_45d68 cJx35411_init_45d68 2 none, Cond.fieldLink RJx35411 1 "java/util/ArrayList$Itr" "this$0" "Ljava/util/ArrayList;", Cond.methodLink RJx35411 7 objectInit, Cond.fieldLink RJx35411 13 "java/util/ArrayList$Itr" "lastRet" "I", Cond.fieldLink RJx35411 17 "java/util/ArrayList" "modCount" "I"]
def wsL_law0_r15 : List Cond := [Cond.fieldLink RJx35411 22 "java/util/ArrayList$Itr" "expectedModCount" "I", Cond.methodLink RX7 111 ⟨"java/util/Iterator", "hasNext", "()Z"⟩, Cond.selects RJx35411 ⟨"java/util/Iterator", "hasNext", "()Z"⟩ yJx35411_hasNext_aae02, Cond.instanceMethod yJx35411_hasNext_aae02, Cond.code yJx35411_hasNext_aae02 cJx35411_hasNext_aae02 1 (some .boolean), Cond.fieldLink RJx35411 25 "java/util/ArrayList$Itr" "cursor" "I", Cond.methodLink RX7 116 ⟨"java/util/Iterator", "next", "()Ljava/lang/Object;"⟩, Cond.selects RJx35411 ⟨"java/util/Iterator", "next", "()Ljava/lang/Object;"⟩ yJx35411_next_0502b, Cond.instanceMethod yJx35411_next_0502b, Cond.code yJx35411_next_0502b cJx35411_next_0502b 3 (some (.object "java/lang/Object")), Cond.fieldLink RJx35411 37 "java/util/ArrayList" "elementData" "[Ljava/lang/Object;", Cond.methodLink RJx35411 31 yJx35411_checkForComodification_da8c8, Cond.instanceMethod yJx35411_checkForComodification_da8c8, Cond.selects RJx35411 yJx35411_checkForComodification_da8c8 yJx35411_checkForComodification_da8c8, Cond.code yJx35411_checkForComodification_da8c8 cJx35411_checkForComodification_da8c8 1 none, Cond.methodLink RX7 120 yX6_set, Cond.instanceMethod yX6_set, Cond.selects RX6 yX6_set yX6_set, Cond.code yX6_set cX6_set 4 (some .int), Cond.methodLink RX7 123 yJ6_bitCount_0f7a4, Cond.methodLink RL 117 yL_wind, Cond.static yL_wind, Cond.codeWith yL_wind cL_wind 4 (some .int) [(0, 9, 12, 13)], Cond.methodLink RL 36 yX4_wind]
def wsL_law0_r16 : List Cond := [Cond.instanceMethod yX4_wind, Cond.selects RX4 yX4_wind yX4_wind, Cond.code yX4_wind cX4_wind 3 (some .int), Cond.methodLink RL 120 yX7_wind, Cond.instanceMethod yX7_wind, Cond.selects RX7 yX7_wind yX7_wind, Cond.code yX7_wind cX7_wind 3 (some .int), Cond.methodLink RL 121 yL_shoot, Cond.static yL_shoot, Cond.codeWith yL_shoot cL_shoot 5 (some .int) [(0, 10, 13, 23), (0, 10, 17, 15)], Cond.methodLink RL 40 yX4_shoot, Cond.instanceMethod yX4_shoot, Cond.selects RX4 yX4_shoot yX4_shoot, Cond.code yX4_shoot cX4_shoot 6 (some .int), Cond.fieldLink RX4 121 "ArrowField" "closed" "Z", Cond.fieldLink RX4 130 "ArrowField$Quiver" "states" "[I", Cond.fieldLink RX4 145 "ArrowField" "drawn" "I", Cond.fieldLink RX4 164 "ArrowField" "shots" "I", Cond.methodLink RX4 118 yX4_needArrow, Cond.static yX4_needArrow, Cond.code yX4_needArrow cX4_needArrow 1 none, Cond.methodLink RX4 126 yX4_quiverOf, Cond.instanceMethod yX4_quiverOf, Cond.selects RX4 yX4_quiverOf yX4_quiverOf]
def wsL_law0_r17 : List Cond := [Cond.code yX4_quiverOf cX4_quiverOf 2 (some (.object "ArrowField$Quiver")), Cond.methodLink RX4 136 yX2_turn, Cond.instanceMethod yX2_turn, Cond.selects RX2 yX2_turn yX2_turn, Cond.code yX2_turn cX2_turn 1 (some .int), Cond.fieldLink RX2 15 "ArrowField$Match" "one" "I", Cond.fieldLink RX2 19 "ArrowField$Match" "other" "I", Cond.methodLink RX2 34 yX2_isTurnOfOne, Cond.instanceMethod yX2_isTurnOfOne, Cond.selects RX2 yX2_isTurnOfOne yX2_isTurnOfOne, Cond.code yX2_isTurnOfOne cX2_isTurnOfOne 1 (some .boolean), Cond.fieldLink RX2 48 "ArrowField$Match" "shotsOfSet" "I", Cond.methodLink RX4 141 yX1_fly, Cond.instanceMethod yX1_fly, Cond.selects RX1 yX1_fly yX1_fly, Cond.code yX1_fly cX1_fly 15 none, Cond.constantDouble RX1 15 (4647714815446351872), Cond.fieldLink RX1 17 "ArrowField$Archer" "nock" "I", Cond.constantDouble RX1 21 (4620693217682128896), Cond.fieldLink RX1 23 "ArrowField$Quiver" "spine" "I", Cond.fieldLink RX1 28 "ArrowField$Archer" "draw" "I", Cond.constantDouble RX1 31 (4643211215818981376), Cond.fieldLink RX1 33 "ArrowField$Flight" "h" "D", Cond.fieldLink RX1 39 "ArrowField$Flight" "v" "D"]
def wsL_law0_r18 : List Cond := [Cond.constantDouble RX1 42 (4625196817309499392), Cond.constantDouble RX1 44 (4603804719079489536), Cond.constantDouble RX1 46 (4634204016564240384), Cond.methodLink RX1 9 yX0_speedWith, Cond.instanceMethod yX0_speedWith, Cond.selects RX0 yX0_speedWith yX0_speedWith, Cond.code yX0_speedWith cX0_speedWith 2 (some .double), Cond.fieldLink RX0 15 "ArrowField$Archer" "draw" "I", Cond.constantDouble RX0 18 (4648488871632306176), Cond.fieldLink RX0 20 "ArrowField$Quiver" "mass" "I", Cond.constantDouble RX0 25 (4641240890982006784), Cond.fieldLink RX0 27 "ArrowField$Archer" "creep" "F", Cond.methodLink RX4 148 yX1_shake, Cond.instanceMethod yX1_shake, Cond.selects RX1 yX1_shake yX1_shake, Cond.code yX1_shake cX1_shake 4 none, Cond.constantDouble RX1 48 (4615063718147915776), Cond.constantDouble RX1 50 (4661225614328463360), Cond.methodLink RX4 151 yX4_splitWhatIsHit, Cond.instanceMethod yX4_splitWhatIsHit, Cond.selects RX4 yX4_splitWhatIsHit yX4_splitWhatIsHit, Cond.code yX4_splitWhatIsHit cX4_splitWhatIsHit 3 none, Cond.fieldLink RX4 233 "ArrowField" "splits" "I", Cond.methodLink RX4 320 yX3_firstHitBy]
def wsL_law0_r19 : List Cond := [Cond.instanceMethod yX3_firstHitBy, Cond.selects RX3 yX3_firstHitBy yX3_firstHitBy, Cond.code yX3_firstHitBy cX3_firstHitBy 3 (some .int), Cond.fieldLink RX3 22 "ArrowField$Flight" "h" "D", Cond.constantDouble RX3 31 (4580160821035794432), Cond.fieldLink RX3 33 "ArrowField$Flight" "v" "D", Cond.static yX4_size, Cond.code yX4_size cX4_size 2 (some .double), Cond.methodLink RX4 154 yX1_worth, Cond.instanceMethod yX1_worth, Cond.selects RX1 yX1_worth yX1_worth, Cond.code yX1_worth cX1_worth 7 (some .int), Cond.constantDouble RX1 56 (4575657221408423936), Cond.methodLink RX1 52 yX1_farness, Cond.instanceMethod yX1_farness, Cond.selects RX1 yX1_farness yX1_farness, Cond.code yX1_farness cX1_farness 1 (some .double), Cond.methodLink RX4 157 yX3_land, Cond.instanceMethod yX3_land, Cond.selects RX3 yX3_land yX3_land, Cond.code yX3_land cX3_land 4 none, Cond.methodLink RX4 161 yX0_count, Cond.instanceMethod yX0_count, Cond.selects RX0 yX0_count yX0_count]
def wsL_law0_r20 : List Cond := [Cond.code yX0_count cX0_count 3 none, Cond.fieldLink RX0 31 "ArrowField$Archer" "shotsEver" "I", Cond.fieldLink RX0 34 "ArrowField$Archer" "scoresEver" "I", Cond.fieldLink RX0 37 "ArrowField$Archer" "endShots" "I", Cond.fieldLink RX0 40 "ArrowField$Archer" "endSum" "I", Cond.fieldLink RX0 43 "ArrowField$Archer" "endTens" "I", Cond.constantFloat RX0 46 (998244352), Cond.constantFloat RX0 47 (1040187392), Cond.methodLink RX4 167 yX4_countForMatch, Cond.instanceMethod yX4_countForMatch, Cond.selects RX4 yX4_countForMatch yX4_countForMatch, Cond.code yX4_countForMatch cX4_countForMatch 3 none, Cond.fieldLink RX4 207 "ArrowField$Archer" "matchesWon" "I", Cond.methodLink RX4 324 yX1_farness, Cond.methodLink RX4 328 yX2_count, Cond.instanceMethod yX2_count, Cond.selects RX2 yX2_count yX2_count, Cond.code yX2_count cX2_count 4 (some .int), Cond.fieldLink RX2 28 "ArrowField$Match" "byLastArrows" "Z", Cond.fieldLink RX2 42 "ArrowField$Match" "sumOfOne" "I", Cond.fieldLink RX2 45 "ArrowField$Match" "sumOfOther" "I", Cond.methodLink RX2 38 yX2_countLastArrow, Cond.instanceMethod yX2_countLastArrow, Cond.selects RX2 yX2_countLastArrow yX2_countLastArrow]
def wsL_law0_r21 : List Cond := [Cond.code yX2_countLastArrow cX2_countLastArrow 3 (some .int), Cond.fieldLink RX2 59 "ArrowField$Match" "lastOfOne" "D", Cond.methodLink RX2 51 yX2_endSet, Cond.instanceMethod yX2_endSet, Cond.selects RX2 yX2_endSet yX2_endSet, Cond.code yX2_endSet cX2_endSet 3 (some .int), Cond.fieldLink RX2 22 "ArrowField$Match" "pointsOfOne" "I", Cond.fieldLink RX2 25 "ArrowField$Match" "pointsOfOther" "I", Cond.methodLink RX2 55 yX2_pointsFor, Cond.static yX2_pointsFor, Cond.code yX2_pointsFor cX2_pointsFor 2 (some .int), Cond.methodLink RX2 31 yX2_beginSet, Cond.instanceMethod yX2_beginSet, Cond.selects RX2 yX2_beginSet yX2_beginSet, Cond.code yX2_beginSet cX2_beginSet 1 none, Cond.methodLink RL 123 yX7_shoot, Cond.instanceMethod yX7_shoot, Cond.selects RX7 yX7_shoot yX7_shoot, Cond.code yX7_shoot cX7_shoot 8 (some .int), Cond.fieldLink RX7 197 "ArrowFieldModel" "drawn" "I", Cond.fieldLink RX7 148 "ArrowFieldModel" "h" "D", Cond.constantDouble RX7 200 (4615063718147915776), Cond.constantDouble RX7 202 (4661225614328463360), Cond.fieldLink RX7 152 "ArrowFieldModel" "v" "D"]
def wsL_law0_r22 : List Cond := [Cond.constantFloat RX7 211 (1040187392), Cond.constantFloat RX7 212 (998244352), Cond.fieldLink RX7 232 "ArrowFieldModel" "shots" "I", Cond.methodLink RX7 189 yX7_canShoot, Cond.instanceMethod yX7_canShoot, Cond.selects RX7 yX7_canShoot yX7_canShoot, Cond.code yX7_canShoot cX7_canShoot 4 (some .boolean), Cond.fieldLink RX7 182 "ArrowFieldModel" "isClosed" "Z", Cond.fieldLink RX7 186 "ArrowFieldModel" "turn" "I", Cond.methodLink RX7 193 yX7_fly, Cond.instanceMethod yX7_fly, Cond.selects RX7 yX7_fly yX7_fly, Cond.code yX7_fly cX7_fly 15 none, Cond.constantDouble RX7 142 (4647714815446351872), Cond.constantDouble RX7 144 (4620693217682128896), Cond.constantDouble RX7 146 (4643211215818981376), Cond.constantDouble RX7 155 (4625196817309499392), Cond.constantDouble RX7 157 (4603804719079489536), Cond.constantDouble RX7 159 (4634204016564240384), Cond.methodLink RX7 138 yX7_speed, Cond.static yX7_speed, Cond.code yX7_speed cX7_speed 2 (some .double), Cond.constantDouble RX7 134 (4648488871632306176), Cond.constantDouble RX7 136 (4641240890982006784)]
def wsL_law0_r23 : List Cond := [Cond.methodLink RX7 204 yX7_split, Cond.instanceMethod yX7_split, Cond.selects RX7 yX7_split yX7_split, Cond.code yX7_split cX7_split 4 none, Cond.constantDouble RX7 175 (4580160821035794432), Cond.fieldLink RX7 179 "ArrowFieldModel" "splits" "I", Cond.methodLink RX7 169 yJ9_abs_294c1, Cond.static yJ9_abs_294c1, Cond.initialized RJ9, Cond.code yJ9_abs_294c1 cJ9_abs_294c1 2 (some .double), Cond.methodLink RJ9 79 ⟨"java/lang/Double", "doubleToRawLongBits", "(D)J"⟩, Cond.native ⟨"java/lang/Double", "doubleToRawLongBits", "(D)J"⟩, Cond.static ⟨"java/lang/Double", "doubleToRawLongBits", "(D)J"⟩, Cond.initialized "java/lang/Double", Cond.constantLong RJ9 135 (9223372036854775807), Cond.methodLink RJ9 166 ⟨"java/lang/Double", "longBitsToDouble", "(J)D"⟩, Cond.native ⟨"java/lang/Double", "longBitsToDouble", "(J)D"⟩, Cond.static ⟨"java/lang/Double", "longBitsToDouble", "(J)D"⟩, Cond.methodLink RX7 207 yX7_score, Cond.instanceMethod yX7_score, Cond.selects RX7 yX7_score yX7_score, Cond.code yX7_score cX7_score 6 (some .int), Cond.constantDouble RX7 161 (4575657221408423936), Cond.methodLink RX7 213 yJ9_min_e70c8]
def wsL_law0_r24 : List Cond := [Cond.static yJ9_min_e70c8, Cond.code yJ9_min_e70c8 cJ9_min_e70c8 2 (some .float), Cond.methodLink RJ9 68 ⟨"java/lang/Float", "floatToRawIntBits", "(F)I"⟩, Cond.native ⟨"java/lang/Float", "floatToRawIntBits", "(F)I"⟩, Cond.static ⟨"java/lang/Float", "floatToRawIntBits", "(F)I"⟩, Cond.initialized "java/lang/Float", Cond.fieldLink RJ9 170 "java/lang/Math" "negativeZeroFloatBits" "J", Cond.methodLink RX7 233 yX7_count, Cond.instanceMethod yX7_count, Cond.selects RX7 yX7_count yX7_count, Cond.code yX7_count cX7_count 5 none, Cond.fieldLink RX7 237 "ArrowFieldModel" "isLast" "Z", Cond.fieldLink RX7 240 "ArrowFieldModel" "nearest" "D", Cond.methodLink RX7 243 yX7_win, Cond.instanceMethod yX7_win, Cond.selects RX7 yX7_win yX7_win, Cond.code yX7_win cX7_win 2 none, Cond.methodLink RL 124 yX4_pull, Cond.instanceMethod yX4_pull, Cond.selects RX4 yX4_pull yX4_pull, Cond.code yX4_pull cX4_pull 3 (some .int), Cond.methodLink RX4 170 yX3_bringBack, Cond.instanceMethod yX3_bringBack, Cond.selects RX3 yX3_bringBack yX3_bringBack]
def wsL_law0_r25 : List Cond := [Cond.code yX3_bringBack cX3_bringBack 4 (some .int), Cond.methodLink RX4 173 yX0_forgetEnd, Cond.instanceMethod yX0_forgetEnd, Cond.selects RX0 yX0_forgetEnd yX0_forgetEnd, Cond.code yX0_forgetEnd cX0_forgetEnd 1 none, Cond.methodLink RL 127 yX7_pull, Cond.instanceMethod yX7_pull, Cond.selects RX7 yX7_pull yX7_pull, Cond.code yX7_pull cX7_pull 5 (some .int), Cond.methodLink RL 128 yL_mend, Cond.static yL_mend, Cond.codeWith yL_mend cL_mend 4 (some .int) [(0, 9, 12, 23)], Cond.methodLink RL 43 yX4_mend, Cond.instanceMethod yX4_mend, Cond.selects RX4 yX4_mend yX4_mend, Cond.code yX4_mend cX4_mend 2 (some .int), Cond.methodLink RL 130 yX7_mend, Cond.instanceMethod yX7_mend, Cond.selects RX7 yX7_mend yX7_mend, Cond.code yX7_mend cX7_mend 5 (some .int), Cond.methodLink RL 131 yL_match, Cond.static yL_match, Cond.codeWith yL_match cL_match 5 (some .int) [(0, 10, 13, 23), (0, 10, 17, 13), (0, 10, 21, 15)], Cond.methodLink RL 46 yX4_match]
def wsL_law0_r26 : List Cond := [Cond.instanceMethod yX4_match, Cond.selects RX4 yX4_match yX4_match, Cond.code yX4_match cX4_match 5 (some .int), Cond.fieldLink RX4 187 "ArrowField" "matchesBegun" "I", Cond.methodLink RX4 183 yX2_begin, Cond.instanceMethod yX2_begin, Cond.selects RX2 yX2_begin yX2_begin, Cond.code yX2_begin cX2_begin 3 none, Cond.fieldLink RX2 9 "ArrowField$Match" "on" "Z", Cond.methodLink RL 133 yX7_match, Cond.instanceMethod yX7_match, Cond.selects RX7 yX7_match yX7_match, Cond.code yX7_match cX7_match 4 (some .int), Cond.fieldLink RX7 250 "ArrowFieldModel" "began" "I", Cond.methodLink RL 134 yL_breakOff, Cond.static yL_breakOff, Cond.codeWith yL_breakOff cL_breakOff 3 (some .int) [(0, 8, 11, 15)], Cond.methodLink RL 49 yX4_breakOff, Cond.instanceMethod yX4_breakOff, Cond.selects RX4 yX4_breakOff yX4_breakOff, Cond.code yX4_breakOff cX4_breakOff 1 (some .int), Cond.fieldLink RX4 192 "ArrowField$Match" "pointsOfOne" "I", Cond.fieldLink RX4 195 "ArrowField$Match" "pointsOfOther" "I", Cond.methodLink RL 137 yX7_breakOff]
def wsL_law0_r27 : List Cond := [Cond.instanceMethod yX7_breakOff, Cond.selects RX7 yX7_breakOff yX7_breakOff, Cond.code yX7_breakOff cX7_breakOff 1 (some .int), Cond.methodLink RL 138 yX4_close, Cond.instanceMethod yX4_close, Cond.selects RX4 yX4_close yX4_close, Cond.code yX4_close cX4_close 3 (some .boolean), Cond.methodLink RL 142 yX7_close, Cond.instanceMethod yX7_close, Cond.selects RX7 yX7_close yX7_close, Cond.code yX7_close cX7_close 3 (some .boolean), Cond.methodLink RL 143 yX4_horn, Cond.instanceMethod yX4_horn, Cond.selects RX4 yX4_horn yX4_horn, Cond.code yX4_horn cX4_horn 1 (some .int), Cond.fieldLink RX4 198 "ArrowField" "refused" "I", Cond.methodLink RL 146 yX7_horn, Cond.instanceMethod yX7_horn, Cond.selects RX7 yX7_horn yX7_horn, Cond.code yX7_horn cX7_horn 1 (some .int), Cond.fieldLink RX7 253 "ArrowFieldModel" "refused" "I", Cond.methodLink RL 147 yL_ofArcher, Cond.static yL_ofArcher, Cond.codeWith yL_ofArcher cL_ofArcher 5 (some .int) [(0, 10, 13, 23), (0, 10, 17, 13)]]
def wsL_law0_r28 : List Cond := [Cond.methodLink RL 53 yX4_ofArcher, Cond.instanceMethod yX4_ofArcher, Cond.selects RX4 yX4_ofArcher yX4_ofArcher, Cond.code yX4_ofArcher cX4_ofArcher 4 (some .int), Cond.fieldLink RX4 201 "ArrowField$Archer" "shotsEver" "I", Cond.fieldLink RX4 204 "ArrowField$Archer" "scoresEver" "I", Cond.fieldLink RX4 210 "ArrowField$Archer" "endSum" "I", Cond.fieldLink RX4 213 "ArrowField$Archer" "endShots" "I", Cond.fieldLink RX4 216 "ArrowField$Archer" "endTens" "I", Cond.methodLink RL 149 yX7_ofArcher, Cond.instanceMethod yX7_ofArcher, Cond.selects RX7 yX7_ofArcher yX7_ofArcher, Cond.code yX7_ofArcher cX7_ofArcher 3 (some .int), Cond.methodLink RX7 256 yX7_ofArcherNow, Cond.static yX7_ofArcherNow, Cond.code yX7_ofArcherNow cX7_ofArcherNow 3 (some .int), Cond.methodLink RL 150 yL_speed, Cond.static yL_speed, Cond.codeWith yL_speed cL_speed 4 (some .int) [(0, 8, 11, 23)], Cond.methodLink RL 56 yX4_speed, Cond.instanceMethod yX4_speed, Cond.selects RX4 yX4_speed yX4_speed, Cond.code yX4_speed cX4_speed 3 (some .double), Cond.methodLink RX4 219 yX0_speedWith]
def wsL_law0_r29 : List Cond := [Cond.methodLink RL 152 yX7_speed_, Cond.instanceMethod yX7_speed_, Cond.selects RX7 yX7_speed_ yX7_speed_, Cond.code yX7_speed_ cX7_speed_ 2 (some .double), Cond.methodLink RX7 260 yX7_speedNow, Cond.instanceMethod yX7_speedNow, Cond.selects RX7 yX7_speedNow yX7_speedNow, Cond.code yX7_speedNow cX7_speedNow 2 (some .double), Cond.methodLink RL 153 yL_ofQuiver, Cond.static yL_ofQuiver, Cond.codeWith yL_ofQuiver cL_ofQuiver 5 (some .int) [(0, 10, 13, 23), (0, 10, 17, 13)], Cond.methodLink RL 59 yX4_ofQuiver, Cond.instanceMethod yX4_ofQuiver, Cond.selects RX4 yX4_ofQuiver yX4_ofQuiver, Cond.code yX4_ofQuiver cX4_ofQuiver 3 (some .int), Cond.methodLink RL 155 yX7_ofQuiver, Cond.instanceMethod yX7_ofQuiver, Cond.selects RX7 yX7_ofQuiver yX7_ofQuiver, Cond.code yX7_ofQuiver cX7_ofQuiver 3 (some .int), Cond.methodLink RX7 264 yX7_ofQuiverNow, Cond.instanceMethod yX7_ofQuiverNow, Cond.selects RX7 yX7_ofQuiverNow yX7_ofQuiverNow, Cond.code yX7_ofQuiverNow cX7_ofQuiverNow 4 (some .int), Cond.methodLink RL 156 yL_hit]
def wsL_law0_r30 : List Cond := [Cond.static yL_hit, Cond.codeWith yL_hit cL_hit 6 (some .int) [(0, 11, 14, 23)], Cond.methodLink RL 62 yX4_hit, Cond.instanceMethod yX4_hit, Cond.selects RX4 yX4_hit yX4_hit, Cond.code yX4_hit cX4_hit 4 (some .double), Cond.fieldLink RX4 226 "ArrowField$Quiver" "v" "[D", Cond.fieldLink RX4 230 "ArrowField$Quiver" "h" "[D", Cond.methodLink RL 159 yX7_hit, Cond.instanceMethod yX7_hit, Cond.selects RX7 yX7_hit yX7_hit, Cond.code yX7_hit cX7_hit 4 (some .double), Cond.methodLink RL 160 yL_many, Cond.static yL_many, Cond.codeWith yL_many cL_many 4 (some .int) [(0, 9, 12, 13)], Cond.methodLink RL 66 yX4_many, Cond.instanceMethod yX4_many, Cond.selects RX4 yX4_many yX4_many, Cond.code yX4_many cX4_many 2 (some .int), Cond.methodLink RL 162 yX7_many, Cond.instanceMethod yX7_many, Cond.selects RX7 yX7_many yX7_many, Cond.code yX7_many cX7_many 2 (some .int), Cond.methodLink RX7 268 yX7_manyNow]
def wsL_law0_r31 : List Cond := [Cond.instanceMethod yX7_manyNow, Cond.selects RX7 yX7_manyNow yX7_manyNow, Cond.code yX7_manyNow cX7_manyNow 3 (some .int), Cond.methodLink RL 163 yL_ofMatch, Cond.static yL_ofMatch, Cond.codeWith yL_ofMatch cL_ofMatch 4 (some .int) [(0, 9, 12, 13)], Cond.methodLink RL 69 yX4_ofMatch, Cond.instanceMethod yX4_ofMatch, Cond.selects RX4 yX4_ofMatch yX4_ofMatch, Cond.code yX4_ofMatch cX4_ofMatch 2 (some .int), Cond.fieldLink RX4 236 "ArrowField$Match" "one" "I", Cond.fieldLink RX4 239 "ArrowField$Match" "other" "I", Cond.fieldLink RX4 242 "ArrowField$Match" "sumOfOne" "I", Cond.fieldLink RX4 245 "ArrowField$Match" "sumOfOther" "I", Cond.fieldLink RX4 248 "ArrowField$Match" "byLastArrows" "Z", Cond.methodLink RL 165 yX7_ofMatch, Cond.instanceMethod yX7_ofMatch, Cond.selects RX7 yX7_ofMatch yX7_ofMatch, Cond.code yX7_ofMatch cX7_ofMatch 2 (some .int), Cond.methodLink RX7 271 yX7_ofMatchNow, Cond.instanceMethod yX7_ofMatchNow, Cond.selects RX7 yX7_ofMatchNow yX7_ofMatchNow, Cond.code yX7_ofMatchNow cX7_ofMatchNow 3 (some .int), Cond.methodLink RL 166 yX4_winner]
def wsL_law0_r32 : List Cond := [Cond.instanceMethod yX4_winner, Cond.selects RX4 yX4_winner yX4_winner, Cond.code yX4_winner cX4_winner 1 (some .int), Cond.methodLink RL 169 yX7_winner, Cond.instanceMethod yX7_winner, Cond.selects RX7 yX7_winner yX7_winner, Cond.code yX7_winner cX7_winner 1 (some .int), Cond.methodLink RL 170 yL_wouldHit, Cond.static yL_wouldHit, Cond.codeWith yL_wouldHit cL_wouldHit 6 (some .int) [(0, 11, 14, 23), (0, 11, 18, 13), (0, 11, 22, 15)], Cond.methodLink RL 72 yX4_wouldHit, Cond.instanceMethod yX4_wouldHit, Cond.selects RX4 yX4_wouldHit yX4_wouldHit, Cond.code yX4_wouldHit cX4_wouldHit 5 (some .double), Cond.fieldLink RX4 251 "ArrowField$Flight" "v" "D", Cond.fieldLink RX4 254 "ArrowField$Flight" "h" "D", Cond.methodLink RL 172 yX7_wouldHit, Cond.instanceMethod yX7_wouldHit, Cond.selects RX7 yX7_wouldHit yX7_wouldHit, Cond.code yX7_wouldHit cX7_wouldHit 4 (some .double), Cond.methodLink RX7 274 yX7_isReady, Cond.instanceMethod yX7_isReady, Cond.selects RX7 yX7_isReady yX7_isReady, Cond.code yX7_isReady cX7_isReady 2 (some .boolean)]
def wsL_law0_r33 : List Cond := [Cond.methodLink RX7 277 yX7_fly_, Cond.instanceMethod yX7_fly_, Cond.selects RX7 yX7_fly_ yX7_fly_, Cond.code yX7_fly_ cX7_fly_ 5 none, Cond.methodLink RL 173 yL_mark, Cond.static yL_mark, Cond.codeWith yL_mark cL_mark 4 (some .int) [(0, 9, 12, 23), (0, 9, 15, 15)], Cond.methodLink RL 75 yX4_mark, Cond.instanceMethod yX4_mark, Cond.selects RX4 yX4_mark yX4_mark, Cond.code yX4_mark cX4_mark 10 (some .int), Cond.methodLink RX4 256 yX4_size, Cond.methodLink RL 175 yX7_mark, Cond.instanceMethod yX7_mark, Cond.selects RX7 yX7_mark yX7_mark, Cond.code yX7_mark cX7_mark 6 (some .int), Cond.methodLink RL 176 yL_best, Cond.static yL_best, Cond.codeWith yL_best cL_best 4 (some .int) [(0, 9, 12, 23)], Cond.methodLink RL 78 yX4_best, Cond.instanceMethod yX4_best, Cond.selects RX4 yX4_best yX4_best, Cond.code yX4_best cX4_best 10 (some .int), Cond.methodLink RL 178 yX7_best]
def wsL_law0_r34 : List Cond := [Cond.instanceMethod yX7_best, Cond.selects RX7 yX7_best yX7_best, Cond.code yX7_best cX7_best 2 (some .int), Cond.methodLink RX7 280 yX7_bestNow, Cond.instanceMethod yX7_bestNow, Cond.selects RX7 yX7_bestNow yX7_bestNow, Cond.code yX7_bestNow cX7_bestNow 7 (some .int), Cond.methodLink RL 179 yL_reach, Cond.static yL_reach, Cond.codeWith yL_reach cL_reach 4 (some .int) [(0, 9, 12, 23), (0, 9, 15, 15)], Cond.methodLink RL 81 yX4_reach, Cond.instanceMethod yX4_reach, Cond.selects RX4 yX4_reach yX4_reach, Cond.code yX4_reach cX4_reach 5 (some .int), Cond.methodLink RL 181 yX7_reach, Cond.instanceMethod yX7_reach, Cond.selects RX7 yX7_reach yX7_reach, Cond.code yX7_reach cX7_reach 13 (some .int), Cond.constantDouble RX7 283 (4638637247447433216), Cond.methodLink RL 182 yL_wouldScore, Cond.static yL_wouldScore, Cond.codeWith yL_wouldScore cL_wouldScore 4 (some .int) [(0, 9, 12, 23), (0, 9, 15, 15)], Cond.methodLink RL 84 yX4_wouldScore, Cond.instanceMethod yX4_wouldScore]
def wsL_law0_r35 : List Cond := [Cond.selects RX4 yX4_wouldScore yX4_wouldScore, Cond.code yX4_wouldScore cX4_wouldScore 3 (some .int), Cond.methodLink RL 184 yX7_wouldScore, Cond.instanceMethod yX7_wouldScore, Cond.selects RX7 yX7_wouldScore yX7_wouldScore, Cond.code yX7_wouldScore cX7_wouldScore 2 (some .int), Cond.methodLink RL 185 yX4_digest, Cond.instanceMethod yX4_digest, Cond.selects RX4 yX4_digest yX4_digest, Cond.code yX4_digest cX4_digest 4 (some .long), Cond.constantLong RX4 260 (58318), Cond.constantLong RX4 262 (31), Cond.methodLink RX4 264 yX4_many, Cond.methodLink RX4 267 yX4_ofMatch, Cond.methodLink RX4 270 yX4_winner, Cond.methodLink RX4 273 yX4_withArcher, Cond.instanceMethod yX4_withArcher, Cond.selects RX4 yX4_withArcher yX4_withArcher, Cond.code yX4_withArcher cX4_withArcher 7 (some .long), Cond.constantDouble RX4 284 (4652218415073722368), Cond.methodLink RX4 280 yX4_ofArcher, Cond.methodLink RX4 286 yX4_speed, Cond.methodLink RX4 290 yX4_best, Cond.methodLink RX4 277 yX4_withQuiver]
def wsL_law0_r36 : List Cond := [Cond.instanceMethod yX4_withQuiver, Cond.selects RX4 yX4_withQuiver yX4_withQuiver, Cond.code yX4_withQuiver cX4_withQuiver 7 (some .long), Cond.constantDouble RX4 296 (4661225614328463360), Cond.methodLink RX4 293 yX4_ofQuiver, Cond.methodLink RX4 298 yX4_hit, Cond.methodLink RL 189 yX7_digest, Cond.instanceMethod yX7_digest, Cond.selects RX7 yX7_digest yX7_digest, Cond.code yX7_digest cX7_digest 3 (some .long), Cond.constantLong RX7 291 (58318), Cond.fieldLink RX7 285 "ArrowFieldModel" "sum" "J", Cond.constantDouble RX7 296 (4652218415073722368), Cond.methodLink RX7 293 yX7_add, Cond.instanceMethod yX7_add, Cond.selects RX7 yX7_add yX7_add, Cond.code yX7_add cX7_add 3 none, Cond.constantLong RX7 289 (31)]
def wsL_law0 : List Cond := (wsL_law0_r1 ++ (wsL_law0_r2 ++ (wsL_law0_r3 ++ (wsL_law0_r4 ++ (wsL_law0_r5 ++ (wsL_law0_r6 ++ (wsL_law0_r7 ++ (wsL_law0_r8 ++ (wsL_law0_r9 ++ (wsL_law0_r10 ++ (wsL_law0_r11 ++ (wsL_law0_r12 ++ (wsL_law0_r13 ++ (wsL_law0_r14 ++ (wsL_law0_r15 ++ (wsL_law0_r16 ++ (wsL_law0_r17 ++ (wsL_law0_r18 ++ (wsL_law0_r19 ++ (wsL_law0_r20 ++ (wsL_law0_r21 ++ (wsL_law0_r22 ++ (wsL_law0_r23 ++ (wsL_law0_r24 ++ (wsL_law0_r25 ++ (wsL_law0_r26 ++ (wsL_law0_r27 ++ (wsL_law0_r28 ++ (wsL_law0_r29 ++ (wsL_law0_r30 ++ (wsL_law0_r31 ++ (wsL_law0_r32 ++ (wsL_law0_r33 ++ (wsL_law0_r34 ++ (wsL_law0_r35 ++ wsL_law0_r36))))))))))))))))))))))))))))))))))) ++ wsX40 ++ wsX70 ++ wsX20 ++ wsX10 ++ wsX00 ++ wsX30 ++ wsJx4a65c0 ++ wsX50 ++ wsX60 ++ wsJx354110 ++ ([] : List Cond)
def wsL_law : List Cond := wsL_law0 ++ (vx_atS RX4 58 "java/lang/IllegalStateException" ["java/lang/RuntimeException", "java/lang/Exception"]).filter goodWord ++ (vx_atS RX4 180 "java/lang/IllegalArgumentException" ["java/lang/RuntimeException", "java/lang/Exception"]).filter goodWord ++ (vx_atS RX4 308 "java/lang/IndexOutOfBoundsException" ["java/lang/RuntimeException", "java/lang/Exception"]).filter goodWord
abbrev vwCl : List vw_C := [(RJx35411, TJx35411, 4), (RJx4a65c, TJx4a65c, 3), (RX0, TX0, 12), (RX1, TX1, 2), (RX2, TX2, 10), (RX3, TX3, 5), (RX4, TX4, 16), (RX5, TX5, 12), (RX6, TX6, 5), (RX7, TX7, 22)]
end
section
/-! ===== the layer of this proof: an abstract heap (addresses to entries), the judgement Aw over it, a row an instruction ===== -/
abbrev mu : Type := Nat → Option va_E
def mp (μ : mu) (a : Nat) (e : va_E) : mu := fun b => if b = a then some e else μ b
theorem mp_s {μ : mu} {a : Nat} {e : va_E} : mp μ a e a = some e := if_pos rfl
theorem mp_n {μ : mu} {a b : Nat} {e : va_E} (h : b ≠ a) : mp μ a e b = μ b := if_neg h
theorem mp_k {μ : mu} {a b : Nat} {e x : va_E} (hb : μ b = some x) (h : b ≠ a) : mp μ a e b = some x := (mp_n h).trans hb
theorem mp_mp {μ : mu} {a : Nat} {e x : va_E} : mp (mp μ a e) a x = mp μ a x := by
  funext b
  unfold mp
  by_cases h : b = a
  · rw [if_pos h, if_pos h]
  · rw [if_neg h, if_neg h, if_neg h]
theorem mp_id {μ : mu} {a : Nat} {e : va_E} (h : μ a = some e) : mp μ a e = μ := by
  funext b
  unfold mp
  by_cases hb : b = a
  · rw [if_pos hb, hb, h]
  · rw [if_neg hb]
theorem mp_comm {μ : mu} {a b : Nat} {e x : va_E} (h : a ≠ b) : mp (mp μ a e) b x = mp (mp μ b x) a e := by
  funext q
  unfold mp
  by_cases h1 : q = b
  · rw [if_pos h1, if_neg (by rw [h1]; exact Ne.symm h), if_pos h1]
  · rw [if_neg h1]
    by_cases h2 : q = a
    · rw [if_pos h2, if_pos h2]
    · rw [if_neg h2, if_neg h2, if_neg h1]
/-- the heap holds the abstract heap; nothing of it is older than z0 -/
def mW (z0 : Nat) (D : va_G) (μ : mu) (H : Heap) : Prop := ∀ (a : Nat) (e : va_E), μ a = some e → va_at D vwCl (a, e) H ∧ z0 ≤ a
theorem mW.P {z0 : Nat} {D : va_G} {μ : mu} {H : Heap} (h : mW z0 D μ H) {a : Nat} {e : va_E} (ha : μ a = some e) : va_P D vwCl [(a, e)] H := by
  intro k q hk
  have hz : k < 1 := (List.getElem?_eq_some_iff.mp hk).1
  rw [show k = 0 by omega] at hk
  cases hk
  exact (h a e ha).1
theorem mW.lt {z0 : Nat} {D : va_G} {μ : mu} {H : Heap} (h : mW z0 D μ H) {a : Nat} {e : va_E} (ha : μ a = some e) : a < H.size := (h a e ha).1.lt
theorem mW.fresh {z0 : Nat} {D : va_G} {μ : mu} {H : Heap} (h : mW z0 D μ H) {a : Nat} (ha : H.size ≤ a) : μ a = none := by
  cases hm : μ a with
  | none => rfl
  | some e => exact absurd (h.lt hm) (Nat.not_lt.mpr ha)
theorem mW.put {z0 : Nat} {D : va_G} {μ : mu} {H H1 : Heap} (h : mW z0 D μ H) {a : Nat} {e : va_E} (he : va_at D vwCl (a, e) H1) (hz : z0 ≤ a) (oq : ∀ q : Nat, q ≠ a → H1[q]? = H[q]?) : mW z0 D (mp μ a e) H1 := by
  intro b x hb
  by_cases hba : b = a
  · subst hba
    rw [mp_s] at hb
    cases hb
    exact ⟨he, hz⟩
  · rw [mp_n hba] at hb
    exact ⟨(h b x hb).1.kept (oq b hba), (h b x hb).2⟩
theorem mW.new {z0 : Nat} {D : va_G} {μ : mu} {H H1 : Heap} (h : mW z0 D μ H) {e : va_E} (he : va_at D vwCl (H.size, e) H1) (hz : z0 ≤ H.size) (oq : ∀ q : Nat, q < H.size → H1[q]? = H[q]?) : mW z0 D (mp μ H.size e) H1 := by
  intro b x hb
  by_cases hba : b = H.size
  · subst hba
    rw [mp_s] at hb
    cases hb
    exact ⟨he, hz⟩
  · rw [mp_n hba] at hb
    exact ⟨(h b x hb).1.kept (oq b (h.lt hb)), (h b x hb).2⟩
theorem mW.drop {z0 : Nat} {D : va_G} {μ μ' : mu} {H : Heap} (h : mW z0 D μ H) (hs : ∀ (a : Nat) (e : va_E), μ' a = some e → μ a = some e) : mW z0 D μ' H := fun a e ha => h a e (hs a e ha)
/-- the start that all goes back to (the law's own): its tables are warm here, its heap is as it was -/
def EN (s0 s : State) : Prop := s0.WarmedH s.vm ∧ s0.heap.size ≤ s.heap.size ∧ ∀ a : Nat, a < s0.heap.size → s.heap[a]? = s0.heap[a]?
/-- locals -/
def lv_lk (lv : List (Nat × Value)) (i : Nat) : Option Value := (lv.find? (fun q => q.1 == i)).map (fun q => q.2)
theorem lv_lk_at {ls : Array Slot} {n : Nat} {lv : List (Nat × Value)} {i : Nat} {v : Value} (h : lv_has ls n lv) (hl : lv_lk lv i = some v) : ls[i]? = some (.val v) := by
  unfold lv_lk at hl
  cases hf : lv.find? (fun q => q.1 == i) with
  | none => rw [hf] at hl; cases hl
  | some q =>
    rw [hf] at hl
    have h1 : q ∈ lv := List.mem_of_find?_eq_some hf
    have h2 : (q.1 == i) = true := List.find?_some (p := fun q : Nat × Value => q.1 == i) hf
    have h3 : q.1 = i := by simpa using h2
    have h4 : q.2 = v := Option.some.inj hl
    rw [← h3, ← h4]
    exact h.2.2 q h1
def lv_s1 (lv : List (Nat × Value)) (i : Nat) (v : Value) : List (Nat × Value) := (i, v) :: lv.filter (fun q => !(q.1 == i) && !(q.1 + 1 == i && q.2.category == 2))
def lv_s2 (lv : List (Nat × Value)) (i : Nat) (v : Value) : List (Nat × Value) := (i, v) :: lv.filter (fun q => !(q.1 == i) && (!(q.1 == i + 1) && !(q.1 + 1 == i && q.2.category == 2)))
def lv_all (lv : List (Nat × Value)) : List (Nat × Value) → Prop
  | [] => True
  | q :: r => lv_lk lv q.1 = some q.2 ∧ lv_all lv r
theorem lv_all_has {ls : Array Slot} {n : Nat} {lv : List (Nat × Value)} (h : lv_has ls n lv) : ∀ lv' : List (Nat × Value), lv_all lv lv' → lv_has ls n lv' := by
  intro lv' ha
  refine ⟨h.1, h.2.1, ?_⟩
  induction lv' with
  | nil => intro q hq; cases hq
  | cons q r ih =>
    intro x hx
    rcases List.mem_cons.mp hx with e | e
    · rw [e]
      exact lv_lk_at h ha.1
    · exact ih ha.2 x e
/-- from every heap that holds μ, this frame comes to Q -/
def Aw (p : Program) (l : Launch) (e : Env) (R : Room) (s : State) (m : MethodId) (args : Array Value) (below : List Frame) (meth : Method) (c : Code) (Q : State → Prop) (z0 : Nat) (D : va_G) (nL : Nat) (μ : mu) (cells slots : Nat) (pc : Nat) (lv : List (Nat × Value)) (st : List Value) : Prop :=
  ∀ (H : Heap) (locs : List Loc) (ls : Array Slot), mW z0 D μ H → va_S (fun q => z0 ≤ q) s.heap H locs → lv_has ls nL lv → W p l e R s m args below meth c H locs cells slots Q (F0 m pc ls st)
/-- the frame's own facts -/
def Cx (p : Program) (s : State) (m : MethodId) (args : Array Value) (meth : Method) (c : Code) (cc : ByteArray) (own : String) (nL : Nat) (Ts : List Cond) (ret : Option FieldType) (z0 : Nat) (D : va_G) (tys : List (ClassId × FieldType)) : Prop :=
  p.tables.exec = Jvm.exec ∧ c.code = cc ∧ c.maxLocals = nL ∧ s.vm.findClass own = some m.cls ∧ (∀ w ∈ Ts, w.before args s = true) ∧ va_K D vwCl tys s ∧ z0 ≤ s.heap.size ∧ meth.locks = false ∧ meth.sig.returnType = ret
/-- a method's start, its ends -/
def mPc (s0 : State) (D : va_G) (tys : List (ClassId × FieldType)) (av : List Value) (μ : mu) : Array Value → State → Prop := va_Pc av (fun U => mW s0.heap.size D μ U.heap ∧ va_K D vwCl tys U ∧ EN s0 U)
def mQc (z0 : Nat) (D : va_G) (post : Option Value → mu → Prop) : Array Value → State → Outcome → State → Prop := fun _ st o t => (∃ (v : Option Value) (μ' : mu), o = .returned v ∧ post v μ' ∧ mW z0 D μ' t.heap) ∧ va_F (fun q => z0 ≤ q) st t
def mXc (z0 : Nat) (D : va_G) (px : String → mu → Prop) : String → State → State → Prop := fun E st t => (∃ μ' : mu, px E μ' ∧ mW z0 D μ' t.heap) ∧ va_F (fun q => z0 ≤ q) st t
/-- a contract of a method that returns -/
def Ct (l : Launch) (y : MethodName) (ws : List Cond) (rm : Room) (s0 : State) (D : va_G) (tys : List (ClassId × FieldType)) (av : List Value) (μ : mu) (mc ms : Nat) (post : Option Value → mu → Prop) : Prop :=
  Met l y ws rm (mPc s0 D tys av μ) (mQc s0.heap.size D post) mc ms (fun q => s0.heap.size ≤ q)
/-- .. that returns or throws -/
def Cy (l : Launch) (y : MethodName) (ws : List Cond) (rm : Room) (s0 : State) (D : va_G) (tys : List (ClassId × FieldType)) (av : List Value) (μ : mu) (mc ms : Nat) (post : Option Value → mu → Prop) (px : String → mu → Prop) : Prop :=
  vx_Met l y ws rm (mPc s0 D tys av μ) (mQc s0.heap.size D post) (mXc s0.heap.size D px) mc ms (fun q => s0.heap.size ≤ q)
abbrev rmOf (f n k lo : Nat) : Room := { frames := f, cells := n, slots := k, locals := lo }
theorem EN.heap {s0 s : State} (h : EN s0 s) {H : Heap} {locs : List Loc} (hS : va_S (fun q => s0.heap.size ≤ q) s.heap H locs) : s0.heap.size ≤ H.size ∧ ∀ a : Nat, a < s0.heap.size → H[a]? = s0.heap[a]? :=
  ⟨Nat.le_trans h.2.1 hS.1, fun a ha => (hS.2.1 a (Nat.lt_of_lt_of_le ha h.2.1) (Nat.not_le.mpr ha)).trans (h.2.2 a ha)⟩
theorem EN.to {s0 s U : State} (h : EN s0 s) {H : Heap} {locs : List Loc} (hS : va_S (fun q => s0.heap.size ≤ q) s.heap H locs) (hU : U.heap = H) (hW : s.WarmedH U.vm) : EN s0 U := by
  obtain ⟨h1, h2⟩ := h.heap hS
  exact ⟨State.WarmedH.trans h.1 hW, by rw [hU]; exact h1, fun a ha => by rw [hU]; exact h2 a ha⟩
theorem mPc.blind {s0 : State} {D : va_G} {tys : List (ClassId × FieldType)} {av : List Value} {μ : mu} : FrameBlind (mPc s0 D tys av μ) := fun a U g mk q => ⟨q.1, q.2.1, va_K.moved (u := U) (U := U.calling g mk a) (Vm.Alike.refl U.vm) q.2.2.1, q.2.2.2⟩
section ROWS
variable {p : Program} {l : Launch} {e : Env} {R : Room} {s : State} {m : MethodId} {args : Array Value} {below : List Frame} {meth : Method} {c : Code} {Q : State → Prop}
variable {z0 : Nat} {D : va_G} {nL : Nat} {μ : mu} {cells slots : Nat} {pc : Nat} {lv : List (Nat × Value)} {st : List Value} {cc : ByteArray} {own : String} {Ts : List Cond} {ret : Option FieldType} {tys : List (ClassId × FieldType)}
theorem aw_iconst (C : Cx p s m args meth c cc own nL Ts ret z0 D tys) {n : Int} {v : Int32} (hv : Int32.ofInt n = v) (hdg : decode cc pc = .ok (.iconst n, 1)) (k : Aw p l e R s m args below meth c Q z0 D nL μ cells slots (pc + 1) lv (.int v :: st)) : Aw p l e R s m args below meth c Q z0 D nL μ cells slots pc lv (st) := fun H locs ls h1 h2 h3 => lv_iconst C.1 C.2.1 hdg hv (k H locs ls h1 h2 h3)
theorem aw_bipush (C : Cx p s m args meth c cc own nL Ts ret z0 D tys) {n : Int} {v : Int32} (hv : (Int8.ofInt n).toInt32 = v) (hdg : decode cc pc = .ok (.bipush n, 2)) (k : Aw p l e R s m args below meth c Q z0 D nL μ cells slots (pc + 2) lv (.int v :: st)) : Aw p l e R s m args below meth c Q z0 D nL μ cells slots pc lv (st) := fun H locs ls h1 h2 h3 => lv_bipush C.1 C.2.1 hdg hv (k H locs ls h1 h2 h3)
theorem aw_sipush (C : Cx p s m args meth c cc own nL Ts ret z0 D tys) {n : Int} {v : Int32} (hv : (Int16.ofInt n).toInt32 = v) (hdg : decode cc pc = .ok (.sipush n, 3)) (k : Aw p l e R s m args below meth c Q z0 D nL μ cells slots (pc + 3) lv (.int v :: st)) : Aw p l e R s m args below meth c Q z0 D nL μ cells slots pc lv (st) := fun H locs ls h1 h2 h3 => lv_sipush C.1 C.2.1 hdg hv (k H locs ls h1 h2 h3)
theorem aw_lconst (C : Cx p s m args meth c cc own nL Ts ret z0 D tys) {n : Fin 2} {v : Int64} (hv : Int64.ofNat (n : Nat) = v) (hdg : decode cc pc = .ok (.lconst n, 1)) (k : Aw p l e R s m args below meth c Q z0 D nL μ cells slots (pc + 1) lv (.long v :: st)) : Aw p l e R s m args below meth c Q z0 D nL μ cells slots pc lv (st) := fun H locs ls h1 h2 h3 => lv_lconst C.1 C.2.1 hdg hv (k H locs ls h1 h2 h3)
theorem aw_dconst0 (C : Cx p s m args meth c cc own nL Ts ret z0 D tys)  (hdg : decode cc pc = .ok (.dconst 0, 1)) (k : Aw p l e R s m args below meth c Q z0 D nL μ cells slots (pc + 1) lv (.double FP.dconst0 :: st)) : Aw p l e R s m args below meth c Q z0 D nL μ cells slots pc lv (st) := fun H locs ls h1 h2 h3 => lv_dconst0 C.1 C.2.1 hdg (k H locs ls h1 h2 h3)
theorem aw_dconst1 (C : Cx p s m args meth c cc own nL Ts ret z0 D tys)  (hdg : decode cc pc = .ok (.dconst 1, 1)) (k : Aw p l e R s m args below meth c Q z0 D nL μ cells slots (pc + 1) lv (.double FP.dconst1 :: st)) : Aw p l e R s m args below meth c Q z0 D nL μ cells slots pc lv (st) := fun H locs ls h1 h2 h3 => lv_dconst1 C.1 C.2.1 hdg (k H locs ls h1 h2 h3)
theorem aw_fconst0 (C : Cx p s m args meth c cc own nL Ts ret z0 D tys)  (hdg : decode cc pc = .ok (.fconst 0, 1)) (k : Aw p l e R s m args below meth c Q z0 D nL μ cells slots (pc + 1) lv (.float FP.fconst0 :: st)) : Aw p l e R s m args below meth c Q z0 D nL μ cells slots pc lv (st) := fun H locs ls h1 h2 h3 => lv_fconst0 C.1 C.2.1 hdg (k H locs ls h1 h2 h3)
theorem aw_null (C : Cx p s m args meth c cc own nL Ts ret z0 D tys)  (hdg : decode cc pc = .ok (.aconst_null, 1)) (k : Aw p l e R s m args below meth c Q z0 D nL μ cells slots (pc + 1) lv (.null :: st)) : Aw p l e R s m args below meth c Q z0 D nL μ cells slots pc lv (st) := fun H locs ls h1 h2 h3 => lv_null C.1 C.2.1 hdg (k H locs ls h1 h2 h3)
theorem aw_iload_n (C : Cx p s m args meth c cc own nL Ts ret z0 D tys) {k : Fin 4} {x : Int32} (hdg : decode cc pc = .ok (.iload_n k, 1)) (hl : lv_lk lv (k : Nat) = some (.int x)) (kk : Aw p l e R s m args below meth c Q z0 D nL μ cells slots (pc + 1) lv (.int x :: st)) : Aw p l e R s m args below meth c Q z0 D nL μ cells slots pc lv st := fun H locs ls h1 h2 h3 => lv_iload_n C.1 C.2.1 hdg rfl (lv_lk_at h3 hl) (kk H locs ls h1 h2 h3)
theorem aw_iload (C : Cx p s m args meth c cc own nL Ts ret z0 D tys) {i : Nat} {x : Int32} (hdg : decode cc pc = .ok (.iload i, 2)) (hl : lv_lk lv i = some (.int x)) (kk : Aw p l e R s m args below meth c Q z0 D nL μ cells slots (pc + 2) lv (.int x :: st)) : Aw p l e R s m args below meth c Q z0 D nL μ cells slots pc lv st := fun H locs ls h1 h2 h3 => lv_iload C.1 C.2.1 hdg (lv_lk_at h3 hl) (kk H locs ls h1 h2 h3)
theorem aw_lload_n (C : Cx p s m args meth c cc own nL Ts ret z0 D tys) {k : Fin 4} {x : Int64} (hdg : decode cc pc = .ok (.lload_n k, 1)) (hl : lv_lk lv (k : Nat) = some (.long x)) (kk : Aw p l e R s m args below meth c Q z0 D nL μ cells slots (pc + 1) lv (.long x :: st)) : Aw p l e R s m args below meth c Q z0 D nL μ cells slots pc lv st := fun H locs ls h1 h2 h3 => lv_lload_n C.1 C.2.1 hdg rfl (lv_lk_at h3 hl) (kk H locs ls h1 h2 h3)
theorem aw_lload (C : Cx p s m args meth c cc own nL Ts ret z0 D tys) {i : Nat} {x : Int64} (hdg : decode cc pc = .ok (.lload i, 2)) (hl : lv_lk lv i = some (.long x)) (kk : Aw p l e R s m args below meth c Q z0 D nL μ cells slots (pc + 2) lv (.long x :: st)) : Aw p l e R s m args below meth c Q z0 D nL μ cells slots pc lv st := fun H locs ls h1 h2 h3 => lv_lload C.1 C.2.1 hdg (lv_lk_at h3 hl) (kk H locs ls h1 h2 h3)
theorem aw_dload_n (C : Cx p s m args meth c cc own nL Ts ret z0 D tys) {k : Fin 4} {x : UInt64} (hdg : decode cc pc = .ok (.dload_n k, 1)) (hl : lv_lk lv (k : Nat) = some (.double x)) (kk : Aw p l e R s m args below meth c Q z0 D nL μ cells slots (pc + 1) lv (.double x :: st)) : Aw p l e R s m args below meth c Q z0 D nL μ cells slots pc lv st := fun H locs ls h1 h2 h3 => lv_dload_n C.1 C.2.1 hdg rfl (lv_lk_at h3 hl) (kk H locs ls h1 h2 h3)
theorem aw_dload (C : Cx p s m args meth c cc own nL Ts ret z0 D tys) {i : Nat} {x : UInt64} (hdg : decode cc pc = .ok (.dload i, 2)) (hl : lv_lk lv i = some (.double x)) (kk : Aw p l e R s m args below meth c Q z0 D nL μ cells slots (pc + 2) lv (.double x :: st)) : Aw p l e R s m args below meth c Q z0 D nL μ cells slots pc lv st := fun H locs ls h1 h2 h3 => lv_dload C.1 C.2.1 hdg (lv_lk_at h3 hl) (kk H locs ls h1 h2 h3)
theorem aw_fload_n (C : Cx p s m args meth c cc own nL Ts ret z0 D tys) {k : Fin 4} {x : UInt32} (hdg : decode cc pc = .ok (.fload_n k, 1)) (hl : lv_lk lv (k : Nat) = some (.float x)) (kk : Aw p l e R s m args below meth c Q z0 D nL μ cells slots (pc + 1) lv (.float x :: st)) : Aw p l e R s m args below meth c Q z0 D nL μ cells slots pc lv st := fun H locs ls h1 h2 h3 => lv_fload_n C.1 C.2.1 hdg rfl (lv_lk_at h3 hl) (kk H locs ls h1 h2 h3)
theorem aw_fload (C : Cx p s m args meth c cc own nL Ts ret z0 D tys) {i : Nat} {x : UInt32} (hdg : decode cc pc = .ok (.fload i, 2)) (hl : lv_lk lv i = some (.float x)) (kk : Aw p l e R s m args below meth c Q z0 D nL μ cells slots (pc + 2) lv (.float x :: st)) : Aw p l e R s m args below meth c Q z0 D nL μ cells slots pc lv st := fun H locs ls h1 h2 h3 => lv_fload C.1 C.2.1 hdg (lv_lk_at h3 hl) (kk H locs ls h1 h2 h3)
theorem aw_aload_n (C : Cx p s m args meth c cc own nL Ts ret z0 D tys) {k : Fin 4} {x : Nat} (hdg : decode cc pc = .ok (.aload_n k, 1)) (hl : lv_lk lv (k : Nat) = some (.ref x)) (kk : Aw p l e R s m args below meth c Q z0 D nL μ cells slots (pc + 1) lv (.ref x :: st)) : Aw p l e R s m args below meth c Q z0 D nL μ cells slots pc lv st := fun H locs ls h1 h2 h3 => lv_aload_n C.1 C.2.1 hdg rfl (lv_lk_at h3 hl) (kk H locs ls h1 h2 h3)
theorem aw_aload (C : Cx p s m args meth c cc own nL Ts ret z0 D tys) {i : Nat} {x : Nat} (hdg : decode cc pc = .ok (.aload i, 2)) (hl : lv_lk lv i = some (.ref x)) (kk : Aw p l e R s m args below meth c Q z0 D nL μ cells slots (pc + 2) lv (.ref x :: st)) : Aw p l e R s m args below meth c Q z0 D nL μ cells slots pc lv st := fun H locs ls h1 h2 h3 => lv_aload C.1 C.2.1 hdg (lv_lk_at h3 hl) (kk H locs ls h1 h2 h3)
theorem aw_istore_n (C : Cx p s m args meth c cc own nL Ts ret z0 D tys) {k : Fin 4} {x : Int32} (hdg : decode cc pc = .ok (.istore_n k, 1)) (hn : (k : Nat) < nL) (kk : Aw p l e R s m args below meth c Q z0 D nL μ cells slots (pc + 1) (lv_s1 lv (k : Nat) (.int x)) st) : Aw p l e R s m args below meth c Q z0 D nL μ cells slots pc lv (.int x :: st) := fun H locs ls h1 h2 h3 => lv_istore_n C.1 C.2.1 hdg rfl h3 hn rfl (fun ls h3 => kk H locs ls h1 h2 h3)
theorem aw_istore (C : Cx p s m args meth c cc own nL Ts ret z0 D tys) {i : Nat} {x : Int32} (hdg : decode cc pc = .ok (.istore i, 2)) (hn : i < nL) (kk : Aw p l e R s m args below meth c Q z0 D nL μ cells slots (pc + 2) (lv_s1 lv i (.int x)) st) : Aw p l e R s m args below meth c Q z0 D nL μ cells slots pc lv (.int x :: st) := fun H locs ls h1 h2 h3 => lv_istore C.1 C.2.1 hdg h3 hn rfl (fun ls h3 => kk H locs ls h1 h2 h3)
theorem aw_lstore_n (C : Cx p s m args meth c cc own nL Ts ret z0 D tys) {k : Fin 4} {x : Int64} (hdg : decode cc pc = .ok (.lstore_n k, 1)) (hn : (k : Nat) + 1 < nL) (kk : Aw p l e R s m args below meth c Q z0 D nL μ cells slots (pc + 1) (lv_s2 lv (k : Nat) (.long x)) st) : Aw p l e R s m args below meth c Q z0 D nL μ cells slots pc lv (.long x :: st) := fun H locs ls h1 h2 h3 => lv_lstore_n C.1 C.2.1 hdg rfl h3 hn rfl (fun ls h3 => kk H locs ls h1 h2 h3)
theorem aw_lstore (C : Cx p s m args meth c cc own nL Ts ret z0 D tys) {i : Nat} {x : Int64} (hdg : decode cc pc = .ok (.lstore i, 2)) (hn : i + 1 < nL) (kk : Aw p l e R s m args below meth c Q z0 D nL μ cells slots (pc + 2) (lv_s2 lv i (.long x)) st) : Aw p l e R s m args below meth c Q z0 D nL μ cells slots pc lv (.long x :: st) := fun H locs ls h1 h2 h3 => lv_lstore C.1 C.2.1 hdg h3 hn rfl (fun ls h3 => kk H locs ls h1 h2 h3)
theorem aw_dstore_n (C : Cx p s m args meth c cc own nL Ts ret z0 D tys) {k : Fin 4} {x : UInt64} (hdg : decode cc pc = .ok (.dstore_n k, 1)) (hn : (k : Nat) + 1 < nL) (kk : Aw p l e R s m args below meth c Q z0 D nL μ cells slots (pc + 1) (lv_s2 lv (k : Nat) (.double x)) st) : Aw p l e R s m args below meth c Q z0 D nL μ cells slots pc lv (.double x :: st) := fun H locs ls h1 h2 h3 => lv_dstore_n C.1 C.2.1 hdg rfl h3 hn rfl (fun ls h3 => kk H locs ls h1 h2 h3)
theorem aw_dstore (C : Cx p s m args meth c cc own nL Ts ret z0 D tys) {i : Nat} {x : UInt64} (hdg : decode cc pc = .ok (.dstore i, 2)) (hn : i + 1 < nL) (kk : Aw p l e R s m args below meth c Q z0 D nL μ cells slots (pc + 2) (lv_s2 lv i (.double x)) st) : Aw p l e R s m args below meth c Q z0 D nL μ cells slots pc lv (.double x :: st) := fun H locs ls h1 h2 h3 => lv_dstore C.1 C.2.1 hdg h3 hn rfl (fun ls h3 => kk H locs ls h1 h2 h3)
theorem aw_fstore_n (C : Cx p s m args meth c cc own nL Ts ret z0 D tys) {k : Fin 4} {x : UInt32} (hdg : decode cc pc = .ok (.fstore_n k, 1)) (hn : (k : Nat) < nL) (kk : Aw p l e R s m args below meth c Q z0 D nL μ cells slots (pc + 1) (lv_s1 lv (k : Nat) (.float x)) st) : Aw p l e R s m args below meth c Q z0 D nL μ cells slots pc lv (.float x :: st) := fun H locs ls h1 h2 h3 => lv_fstore_n C.1 C.2.1 hdg rfl h3 hn rfl (fun ls h3 => kk H locs ls h1 h2 h3)
theorem aw_fstore (C : Cx p s m args meth c cc own nL Ts ret z0 D tys) {i : Nat} {x : UInt32} (hdg : decode cc pc = .ok (.fstore i, 2)) (hn : i < nL) (kk : Aw p l e R s m args below meth c Q z0 D nL μ cells slots (pc + 2) (lv_s1 lv i (.float x)) st) : Aw p l e R s m args below meth c Q z0 D nL μ cells slots pc lv (.float x :: st) := fun H locs ls h1 h2 h3 => lv_fstore C.1 C.2.1 hdg h3 hn rfl (fun ls h3 => kk H locs ls h1 h2 h3)
theorem aw_astore_n (C : Cx p s m args meth c cc own nL Ts ret z0 D tys) {k : Fin 4} {x : Nat} (hdg : decode cc pc = .ok (.astore_n k, 1)) (hn : (k : Nat) < nL) (kk : Aw p l e R s m args below meth c Q z0 D nL μ cells slots (pc + 1) (lv_s1 lv (k : Nat) (.ref x)) st) : Aw p l e R s m args below meth c Q z0 D nL μ cells slots pc lv (.ref x :: st) := fun H locs ls h1 h2 h3 => lv_astore_n C.1 C.2.1 hdg rfl h3 hn rfl (fun ls h3 => kk H locs ls h1 h2 h3)
theorem aw_astore (C : Cx p s m args meth c cc own nL Ts ret z0 D tys) {i : Nat} {x : Nat} (hdg : decode cc pc = .ok (.astore i, 2)) (hn : i < nL) (kk : Aw p l e R s m args below meth c Q z0 D nL μ cells slots (pc + 2) (lv_s1 lv i (.ref x)) st) : Aw p l e R s m args below meth c Q z0 D nL μ cells slots pc lv (.ref x :: st) := fun H locs ls h1 h2 h3 => lv_astore C.1 C.2.1 hdg h3 hn rfl (fun ls h3 => kk H locs ls h1 h2 h3)
theorem aw_iinc (C : Cx p s m args meth c cc own nL Ts ret z0 D tys) {i : Nat} {n : Int} {x : Int32} (hdg : decode cc pc = .ok (.iinc i n, 3)) (hl : lv_lk lv i = some (.int x)) (hn : i < nL) (kk : Aw p l e R s m args below meth c Q z0 D nL μ cells slots (pc + 3) (lv_s1 lv i (.int (x + Int32.ofInt n))) st) : Aw p l e R s m args below meth c Q z0 D nL μ cells slots pc lv st := by
  intro H locs ls h1 h2 h3
  have h4 : lv_has ls nL ((i, Value.int x) :: lv) := ⟨h3.1, h3.2.1, fun q hq => by
    rcases List.mem_cons.mp hq with e | e
    · rw [e]; exact lv_lk_at h3 hl
    · exact h3.2.2 q e⟩
  refine lv_iinc (k := 0) C.1 C.2.1 hdg h4 rfl rfl hn rfl (fun ls' h5 => kk H locs ls' h1 h2 ?_)
  refine ⟨h5.1, h5.2.1, fun q hq => h5.2.2 q ?_⟩
  unfold lv_s1 at hq
  simp only [List.filter_cons]
  rcases List.mem_cons.mp hq with e | e
  · rw [e]; exact List.mem_cons_self
  · refine List.mem_cons_of_mem _ ?_
    split
    · exact List.mem_cons_of_mem _ e
    · exact e
theorem aw_iadd (C : Cx p s m args meth c cc own nL Ts ret z0 D tys) {x : Int32} {y : Int32} (hdg : decode cc pc = .ok (.iadd, 1)) (k : Aw p l e R s m args below meth c Q z0 D nL μ cells slots (pc + 1) lv (.int (x + y) :: st)) : Aw p l e R s m args below meth c Q z0 D nL μ cells slots pc lv (.int y :: .int x :: st) := fun H locs ls h1 h2 h3 => lv_iadd C.1 C.2.1 hdg (k H locs ls h1 h2 h3)
theorem aw_isub (C : Cx p s m args meth c cc own nL Ts ret z0 D tys) {x : Int32} {y : Int32} (hdg : decode cc pc = .ok (.isub, 1)) (k : Aw p l e R s m args below meth c Q z0 D nL μ cells slots (pc + 1) lv (.int (x - y) :: st)) : Aw p l e R s m args below meth c Q z0 D nL μ cells slots pc lv (.int y :: .int x :: st) := fun H locs ls h1 h2 h3 => lv_isub C.1 C.2.1 hdg (k H locs ls h1 h2 h3)
theorem aw_imul (C : Cx p s m args meth c cc own nL Ts ret z0 D tys) {x : Int32} {y : Int32} (hdg : decode cc pc = .ok (.imul, 1)) (k : Aw p l e R s m args below meth c Q z0 D nL μ cells slots (pc + 1) lv (.int (x * y) :: st)) : Aw p l e R s m args below meth c Q z0 D nL μ cells slots pc lv (.int y :: .int x :: st) := fun H locs ls h1 h2 h3 => lv_imul C.1 C.2.1 hdg (k H locs ls h1 h2 h3)
theorem aw_idiv (C : Cx p s m args meth c cc own nL Ts ret z0 D tys) {x : Int32} {y : Int32} (hne : ¬ y = 0) (hdg : decode cc pc = .ok (.idiv, 1)) (k : Aw p l e R s m args below meth c Q z0 D nL μ cells slots (pc + 1) lv (.int (x / y) :: st)) : Aw p l e R s m args below meth c Q z0 D nL μ cells slots pc lv (.int y :: .int x :: st) := fun H locs ls h1 h2 h3 => lv_idiv C.1 C.2.1 hdg hne (k H locs ls h1 h2 h3)
theorem aw_irem (C : Cx p s m args meth c cc own nL Ts ret z0 D tys) {x : Int32} {y : Int32} (hne : ¬ y = 0) (hdg : decode cc pc = .ok (.irem, 1)) (k : Aw p l e R s m args below meth c Q z0 D nL μ cells slots (pc + 1) lv (.int (x - x / y * y) :: st)) : Aw p l e R s m args below meth c Q z0 D nL μ cells slots pc lv (.int y :: .int x :: st) := fun H locs ls h1 h2 h3 => lv_irem C.1 C.2.1 hdg hne (k H locs ls h1 h2 h3)
theorem aw_iand (C : Cx p s m args meth c cc own nL Ts ret z0 D tys) {x : Int32} {y : Int32} (hdg : decode cc pc = .ok (.iand, 1)) (k : Aw p l e R s m args below meth c Q z0 D nL μ cells slots (pc + 1) lv (.int (x &&& y) :: st)) : Aw p l e R s m args below meth c Q z0 D nL μ cells slots pc lv (.int y :: .int x :: st) := fun H locs ls h1 h2 h3 => lv_iand C.1 C.2.1 hdg (k H locs ls h1 h2 h3)
theorem aw_ior (C : Cx p s m args meth c cc own nL Ts ret z0 D tys) {x : Int32} {y : Int32} (hdg : decode cc pc = .ok (.ior, 1)) (k : Aw p l e R s m args below meth c Q z0 D nL μ cells slots (pc + 1) lv (.int (x ||| y) :: st)) : Aw p l e R s m args below meth c Q z0 D nL μ cells slots pc lv (.int y :: .int x :: st) := fun H locs ls h1 h2 h3 => lv_ior C.1 C.2.1 hdg (k H locs ls h1 h2 h3)
theorem aw_ishl (C : Cx p s m args meth c cc own nL Ts ret z0 D tys) {x : Int32} {y : Int32} (hdg : decode cc pc = .ok (.ishl, 1)) (k : Aw p l e R s m args below meth c Q z0 D nL μ cells slots (pc + 1) lv (.int (x <<< (y &&& 31)) :: st)) : Aw p l e R s m args below meth c Q z0 D nL μ cells slots pc lv (.int y :: .int x :: st) := fun H locs ls h1 h2 h3 => lv_ishl C.1 C.2.1 hdg (k H locs ls h1 h2 h3)
theorem aw_ishr (C : Cx p s m args meth c cc own nL Ts ret z0 D tys) {x : Int32} {y : Int32} (hdg : decode cc pc = .ok (.ishr, 1)) (k : Aw p l e R s m args below meth c Q z0 D nL μ cells slots (pc + 1) lv (.int (x >>> (y &&& 31)) :: st)) : Aw p l e R s m args below meth c Q z0 D nL μ cells slots pc lv (.int y :: .int x :: st) := fun H locs ls h1 h2 h3 => lv_ishr C.1 C.2.1 hdg (k H locs ls h1 h2 h3)
theorem aw_ladd (C : Cx p s m args meth c cc own nL Ts ret z0 D tys) {x : Int64} {y : Int64} (hdg : decode cc pc = .ok (.ladd, 1)) (k : Aw p l e R s m args below meth c Q z0 D nL μ cells slots (pc + 1) lv (.long (x + y) :: st)) : Aw p l e R s m args below meth c Q z0 D nL μ cells slots pc lv (.long y :: .long x :: st) := fun H locs ls h1 h2 h3 => lv_ladd C.1 C.2.1 hdg (k H locs ls h1 h2 h3)
theorem aw_lmul (C : Cx p s m args meth c cc own nL Ts ret z0 D tys) {x : Int64} {y : Int64} (hdg : decode cc pc = .ok (.lmul, 1)) (k : Aw p l e R s m args below meth c Q z0 D nL μ cells slots (pc + 1) lv (.long (x * y) :: st)) : Aw p l e R s m args below meth c Q z0 D nL μ cells slots pc lv (.long y :: .long x :: st) := fun H locs ls h1 h2 h3 => lv_lmul C.1 C.2.1 hdg (k H locs ls h1 h2 h3)
theorem aw_land (C : Cx p s m args meth c cc own nL Ts ret z0 D tys) {x : Int64} {y : Int64} (hdg : decode cc pc = .ok (.land, 1)) (k : Aw p l e R s m args below meth c Q z0 D nL μ cells slots (pc + 1) lv (.long (x &&& y) :: st)) : Aw p l e R s m args below meth c Q z0 D nL μ cells slots pc lv (.long y :: .long x :: st) := fun H locs ls h1 h2 h3 => lv_land C.1 C.2.1 hdg (k H locs ls h1 h2 h3)
theorem aw_dadd (C : Cx p s m args meth c cc own nL Ts ret z0 D tys) {x : UInt64} {y : UInt64} (hne : vf_n64 (FP.dadd x y)) (hdg : decode cc pc = .ok (.dadd, 1)) (k : Aw p l e R s m args below meth c Q z0 D nL μ cells slots (pc + 1) lv (.double (FP.dadd x y) :: st)) : Aw p l e R s m args below meth c Q z0 D nL μ cells slots pc lv (.double y :: .double x :: st) := fun H locs ls h1 h2 h3 => lv_dadd C.1 C.2.1 hdg hne (k H locs ls h1 h2 h3)
theorem aw_dsub (C : Cx p s m args meth c cc own nL Ts ret z0 D tys) {x : UInt64} {y : UInt64} (hne : vf_n64 (FP.dsub x y)) (hdg : decode cc pc = .ok (.dsub, 1)) (k : Aw p l e R s m args below meth c Q z0 D nL μ cells slots (pc + 1) lv (.double (FP.dsub x y) :: st)) : Aw p l e R s m args below meth c Q z0 D nL μ cells slots pc lv (.double y :: .double x :: st) := fun H locs ls h1 h2 h3 => lv_dsub C.1 C.2.1 hdg hne (k H locs ls h1 h2 h3)
theorem aw_dmul (C : Cx p s m args meth c cc own nL Ts ret z0 D tys) {x : UInt64} {y : UInt64} (hne : vf_n64 (FP.dmul x y)) (hdg : decode cc pc = .ok (.dmul, 1)) (k : Aw p l e R s m args below meth c Q z0 D nL μ cells slots (pc + 1) lv (.double (FP.dmul x y) :: st)) : Aw p l e R s m args below meth c Q z0 D nL μ cells slots pc lv (.double y :: .double x :: st) := fun H locs ls h1 h2 h3 => lv_dmul C.1 C.2.1 hdg hne (k H locs ls h1 h2 h3)
theorem aw_ddiv (C : Cx p s m args meth c cc own nL Ts ret z0 D tys) {x : UInt64} {y : UInt64} (hne : vf_n64 (FP.ddiv x y)) (hdg : decode cc pc = .ok (.ddiv, 1)) (k : Aw p l e R s m args below meth c Q z0 D nL μ cells slots (pc + 1) lv (.double (FP.ddiv x y) :: st)) : Aw p l e R s m args below meth c Q z0 D nL μ cells slots pc lv (.double y :: .double x :: st) := fun H locs ls h1 h2 h3 => lv_ddiv C.1 C.2.1 hdg hne (k H locs ls h1 h2 h3)
theorem aw_fadd (C : Cx p s m args meth c cc own nL Ts ret z0 D tys) {x : UInt32} {y : UInt32} (hne : vf_n32 (FP.fadd x y)) (hdg : decode cc pc = .ok (.fadd, 1)) (k : Aw p l e R s m args below meth c Q z0 D nL μ cells slots (pc + 1) lv (.float (FP.fadd x y) :: st)) : Aw p l e R s m args below meth c Q z0 D nL μ cells slots pc lv (.float y :: .float x :: st) := fun H locs ls h1 h2 h3 => lv_fadd C.1 C.2.1 hdg hne (k H locs ls h1 h2 h3)
theorem aw_dneg (C : Cx p s m args meth c cc own nL Ts ret z0 D tys) {x : UInt64} (hdg : decode cc pc = .ok (.dneg, 1)) (k : Aw p l e R s m args below meth c Q z0 D nL μ cells slots (pc + 1) lv (.double (FP.dneg x) :: st)) : Aw p l e R s m args below meth c Q z0 D nL μ cells slots pc lv (.double x :: st) := fun H locs ls h1 h2 h3 => lv_dneg C.1 C.2.1 hdg (k H locs ls h1 h2 h3)
theorem aw_i2l (C : Cx p s m args meth c cc own nL Ts ret z0 D tys) {x : Int32} (hdg : decode cc pc = .ok (.i2l, 1)) (k : Aw p l e R s m args below meth c Q z0 D nL μ cells slots (pc + 1) lv (.long x.toInt64 :: st)) : Aw p l e R s m args below meth c Q z0 D nL μ cells slots pc lv (.int x :: st) := fun H locs ls h1 h2 h3 => lv_i2l C.1 C.2.1 hdg rfl (k H locs ls h1 h2 h3)
theorem aw_i2d (C : Cx p s m args meth c cc own nL Ts ret z0 D tys) {x : Int32} (hdg : decode cc pc = .ok (.i2d, 1)) (k : Aw p l e R s m args below meth c Q z0 D nL μ cells slots (pc + 1) lv (.double (FP.i2d x) :: st)) : Aw p l e R s m args below meth c Q z0 D nL μ cells slots pc lv (.int x :: st) := fun H locs ls h1 h2 h3 => lv_i2d C.1 C.2.1 hdg (k H locs ls h1 h2 h3)
theorem aw_d2l (C : Cx p s m args meth c cc own nL Ts ret z0 D tys) {x : UInt64} (hdg : decode cc pc = .ok (.d2l, 1)) (k : Aw p l e R s m args below meth c Q z0 D nL μ cells slots (pc + 1) lv (.long (FP.d2l x) :: st)) : Aw p l e R s m args below meth c Q z0 D nL μ cells slots pc lv (.double x :: st) := fun H locs ls h1 h2 h3 => lv_d2l C.1 C.2.1 hdg (k H locs ls h1 h2 h3)
theorem aw_f2d (C : Cx p s m args meth c cc own nL Ts ret z0 D tys) {x : UInt32} (hne : vf_n64 (FP.f2d x)) (hdg : decode cc pc = .ok (.f2d, 1)) (k : Aw p l e R s m args below meth c Q z0 D nL μ cells slots (pc + 1) lv (.double (FP.f2d x) :: st)) : Aw p l e R s m args below meth c Q z0 D nL μ cells slots pc lv (.float x :: st) := fun H locs ls h1 h2 h3 => lv_f2d C.1 C.2.1 hdg hne (k H locs ls h1 h2 h3)
theorem aw_dcmp (C : Cx p s m args meth c cc own nL Ts ret z0 D tys) {x y : UInt64} {op : CmpOp} (hdg : decode cc pc = .ok (.dcmp op, 1)) (k : Aw p l e R s m args below meth c Q z0 D nL μ cells slots (pc + 1) lv (.int (Op.cmpValue (FP.dcmp x y) op) :: st)) : Aw p l e R s m args below meth c Q z0 D nL μ cells slots pc lv (.double y :: .double x :: st) := fun H locs ls h1 h2 h3 => lv_dcmp C.1 C.2.1 hdg (k H locs ls h1 h2 h3)
theorem aw_fcmp (C : Cx p s m args meth c cc own nL Ts ret z0 D tys) {x y : UInt32} {op : CmpOp} (hdg : decode cc pc = .ok (.fcmp op, 1)) (k : Aw p l e R s m args below meth c Q z0 D nL μ cells slots (pc + 1) lv (.int (Op.cmpValue (FP.fcmp x y) op) :: st)) : Aw p l e R s m args below meth c Q z0 D nL μ cells slots pc lv (.float y :: .float x :: st) := fun H locs ls h1 h2 h3 => lv_fcmp C.1 C.2.1 hdg (k H locs ls h1 h2 h3)
theorem aw_dup (C : Cx p s m args meth c cc own nL Ts ret z0 D tys) {v : Value} (hv : v.category = 1) (hdg : decode cc pc = .ok (.dup, 1)) (k : Aw p l e R s m args below meth c Q z0 D nL μ cells slots (pc + 1) lv (v :: v :: st)) : Aw p l e R s m args below meth c Q z0 D nL μ cells slots pc lv (v :: st) := fun H locs ls h1 h2 h3 => lv_dup C.1 C.2.1 hdg hv (k H locs ls h1 h2 h3)
theorem aw_pop (C : Cx p s m args meth c cc own nL Ts ret z0 D tys) {v : Value} (hv : v.category = 1) (hdg : decode cc pc = .ok (.pop, 1)) (k : Aw p l e R s m args below meth c Q z0 D nL μ cells slots (pc + 1) lv (st)) : Aw p l e R s m args below meth c Q z0 D nL μ cells slots pc lv (v :: st) := fun H locs ls h1 h2 h3 => lv_pop C.1 C.2.1 hdg hv (k H locs ls h1 h2 h3)
theorem aw_dup_x1 (C : Cx p s m args meth c cc own nL Ts ret z0 D tys) {v u : Value} (hv : v.category = 1) (hu : u.category = 1) (hdg : decode cc pc = .ok (.dup_x1, 1)) (k : Aw p l e R s m args below meth c Q z0 D nL μ cells slots (pc + 1) lv (v :: u :: v :: st)) : Aw p l e R s m args below meth c Q z0 D nL μ cells slots pc lv (v :: u :: st) := fun H locs ls h1 h2 h3 => lv_dup_x1 C.1 C.2.1 hdg hv hu (k H locs ls h1 h2 h3)
theorem aw_dup2 (C : Cx p s m args meth c cc own nL Ts ret z0 D tys) {v u : Value} (hv : v.category = 1) (hu : u.category = 1) (hdg : decode cc pc = .ok (.dup2, 1)) (k : Aw p l e R s m args below meth c Q z0 D nL μ cells slots (pc + 1) lv (v :: u :: v :: u :: st)) : Aw p l e R s m args below meth c Q z0 D nL μ cells slots pc lv (v :: u :: st) := fun H locs ls h1 h2 h3 => lv_dup2_11 C.1 C.2.1 hdg hv hu (k H locs ls h1 h2 h3)
theorem aw_ldc (C : Cx p s m args meth c cc own nL Ts ret z0 D tys) {index : Nat} {v : Int32} (hc : Cond.constant own index v ∈ Ts) (hdg : decode cc pc = .ok (.ldc index, 2)) (k : Aw p l e R s m args below meth c Q z0 D nL μ cells slots (pc + 2) lv (.int v :: st)) : Aw p l e R s m args below meth c Q z0 D nL μ cells slots pc lv (st) := fun H locs ls h1 h2 h3 => lv_ldc C.1 C.2.1 C.2.2.2.1 (C.2.2.2.2.1 _ hc) hdg (k H locs ls h1 h2 h3)
theorem aw_ldcf (C : Cx p s m args meth c cc own nL Ts ret z0 D tys) {index : Nat} {v : UInt32} (hc : Cond.constantFloat own index v ∈ Ts) (hdg : decode cc pc = .ok (.ldc index, 2)) (k : Aw p l e R s m args below meth c Q z0 D nL μ cells slots (pc + 2) lv (.float v :: st)) : Aw p l e R s m args below meth c Q z0 D nL μ cells slots pc lv (st) := fun H locs ls h1 h2 h3 => lv_ldcf C.1 C.2.1 C.2.2.2.1 (C.2.2.2.2.1 _ hc) hdg (k H locs ls h1 h2 h3)
theorem aw_ldc2d (C : Cx p s m args meth c cc own nL Ts ret z0 D tys) {index : Nat} {v : UInt64} (hc : Cond.constantDouble own index v ∈ Ts) (hdg : decode cc pc = .ok (.ldc2_w index, 3)) (k : Aw p l e R s m args below meth c Q z0 D nL μ cells slots (pc + 3) lv (.double v :: st)) : Aw p l e R s m args below meth c Q z0 D nL μ cells slots pc lv (st) := fun H locs ls h1 h2 h3 => lv_ldc2d C.1 C.2.1 C.2.2.2.1 (C.2.2.2.2.1 _ hc) hdg (k H locs ls h1 h2 h3)
theorem aw_ldc2 (C : Cx p s m args meth c cc own nL Ts ret z0 D tys) {index : Nat} {v : Int64} (hc : Cond.constantLong own index v ∈ Ts) (hdg : decode cc pc = .ok (.ldc2_w index, 3)) (k : Aw p l e R s m args below meth c Q z0 D nL μ cells slots (pc + 3) lv (.long v :: st)) : Aw p l e R s m args below meth c Q z0 D nL μ cells slots pc lv (st) := fun H locs ls h1 h2 h3 => lv_ldc2 C.1 C.2.1 C.2.2.2.1 (C.2.2.2.2.1 _ hc) hdg (k H locs ls h1 h2 h3)
theorem aw_if_eq (C : Cx p s m args meth c cc own nL Ts ret z0 D tys) {x : Int32} {off : Int} {tgt : Nat} (hdg : decode cc pc = .ok (.ifCond .eq off, 3)) (ht : (pc : Int) + off = (tgt : Int)) (kt : x = 0 → Aw p l e R s m args below meth c Q z0 D nL μ cells slots tgt lv st) (kf : ¬ x = 0 → Aw p l e R s m args below meth c Q z0 D nL μ cells slots (pc + 3) lv st) : Aw p l e R s m args below meth c Q z0 D nL μ cells slots pc lv (.int x :: st) := fun H locs ls h1 h2 h3 => lv_if_eq C.1 C.2.1 hdg ht (fun q => kt q H locs ls h1 h2 h3) (fun q => kf q H locs ls h1 h2 h3)
theorem aw_icmp_eq (C : Cx p s m args meth c cc own nL Ts ret z0 D tys) {x y : Int32} {off : Int} {tgt : Nat} (hdg : decode cc pc = .ok (.if_icmp .eq off, 3)) (ht : (pc : Int) + off = (tgt : Int)) (kt : x = y → Aw p l e R s m args below meth c Q z0 D nL μ cells slots tgt lv st) (kf : ¬ x = y → Aw p l e R s m args below meth c Q z0 D nL μ cells slots (pc + 3) lv st) : Aw p l e R s m args below meth c Q z0 D nL μ cells slots pc lv (.int y :: .int x :: st) := fun H locs ls h1 h2 h3 => lv_icmp_eq C.1 C.2.1 hdg ht (fun q => kt q H locs ls h1 h2 h3) (fun q => kf q H locs ls h1 h2 h3)
theorem aw_if_ne (C : Cx p s m args meth c cc own nL Ts ret z0 D tys) {x : Int32} {off : Int} {tgt : Nat} (hdg : decode cc pc = .ok (.ifCond .ne off, 3)) (ht : (pc : Int) + off = (tgt : Int)) (kt : ¬ x = 0 → Aw p l e R s m args below meth c Q z0 D nL μ cells slots tgt lv st) (kf : x = 0 → Aw p l e R s m args below meth c Q z0 D nL μ cells slots (pc + 3) lv st) : Aw p l e R s m args below meth c Q z0 D nL μ cells slots pc lv (.int x :: st) := fun H locs ls h1 h2 h3 => lv_if_ne C.1 C.2.1 hdg ht (fun q => kt q H locs ls h1 h2 h3) (fun q => kf q H locs ls h1 h2 h3)
theorem aw_icmp_ne (C : Cx p s m args meth c cc own nL Ts ret z0 D tys) {x y : Int32} {off : Int} {tgt : Nat} (hdg : decode cc pc = .ok (.if_icmp .ne off, 3)) (ht : (pc : Int) + off = (tgt : Int)) (kt : ¬ x = y → Aw p l e R s m args below meth c Q z0 D nL μ cells slots tgt lv st) (kf : x = y → Aw p l e R s m args below meth c Q z0 D nL μ cells slots (pc + 3) lv st) : Aw p l e R s m args below meth c Q z0 D nL μ cells slots pc lv (.int y :: .int x :: st) := fun H locs ls h1 h2 h3 => lv_icmp_ne C.1 C.2.1 hdg ht (fun q => kt q H locs ls h1 h2 h3) (fun q => kf q H locs ls h1 h2 h3)
theorem aw_if_lt (C : Cx p s m args meth c cc own nL Ts ret z0 D tys) {x : Int32} {off : Int} {tgt : Nat} (hdg : decode cc pc = .ok (.ifCond .lt off, 3)) (ht : (pc : Int) + off = (tgt : Int)) (kt : x < 0 → Aw p l e R s m args below meth c Q z0 D nL μ cells slots tgt lv st) (kf : ¬ x < 0 → Aw p l e R s m args below meth c Q z0 D nL μ cells slots (pc + 3) lv st) : Aw p l e R s m args below meth c Q z0 D nL μ cells slots pc lv (.int x :: st) := fun H locs ls h1 h2 h3 => lv_if_lt C.1 C.2.1 hdg ht (fun q => kt q H locs ls h1 h2 h3) (fun q => kf q H locs ls h1 h2 h3)
theorem aw_icmp_lt (C : Cx p s m args meth c cc own nL Ts ret z0 D tys) {x y : Int32} {off : Int} {tgt : Nat} (hdg : decode cc pc = .ok (.if_icmp .lt off, 3)) (ht : (pc : Int) + off = (tgt : Int)) (kt : x < y → Aw p l e R s m args below meth c Q z0 D nL μ cells slots tgt lv st) (kf : ¬ x < y → Aw p l e R s m args below meth c Q z0 D nL μ cells slots (pc + 3) lv st) : Aw p l e R s m args below meth c Q z0 D nL μ cells slots pc lv (.int y :: .int x :: st) := fun H locs ls h1 h2 h3 => lv_icmp_lt C.1 C.2.1 hdg ht (fun q => kt q H locs ls h1 h2 h3) (fun q => kf q H locs ls h1 h2 h3)
theorem aw_if_ge (C : Cx p s m args meth c cc own nL Ts ret z0 D tys) {x : Int32} {off : Int} {tgt : Nat} (hdg : decode cc pc = .ok (.ifCond .ge off, 3)) (ht : (pc : Int) + off = (tgt : Int)) (kt : 0 ≤ x → Aw p l e R s m args below meth c Q z0 D nL μ cells slots tgt lv st) (kf : ¬ 0 ≤ x → Aw p l e R s m args below meth c Q z0 D nL μ cells slots (pc + 3) lv st) : Aw p l e R s m args below meth c Q z0 D nL μ cells slots pc lv (.int x :: st) := fun H locs ls h1 h2 h3 => lv_if_ge C.1 C.2.1 hdg ht (fun q => kt q H locs ls h1 h2 h3) (fun q => kf q H locs ls h1 h2 h3)
theorem aw_icmp_ge (C : Cx p s m args meth c cc own nL Ts ret z0 D tys) {x y : Int32} {off : Int} {tgt : Nat} (hdg : decode cc pc = .ok (.if_icmp .ge off, 3)) (ht : (pc : Int) + off = (tgt : Int)) (kt : y ≤ x → Aw p l e R s m args below meth c Q z0 D nL μ cells slots tgt lv st) (kf : ¬ y ≤ x → Aw p l e R s m args below meth c Q z0 D nL μ cells slots (pc + 3) lv st) : Aw p l e R s m args below meth c Q z0 D nL μ cells slots pc lv (.int y :: .int x :: st) := fun H locs ls h1 h2 h3 => lv_icmp_ge C.1 C.2.1 hdg ht (fun q => kt q H locs ls h1 h2 h3) (fun q => kf q H locs ls h1 h2 h3)
theorem aw_if_gt (C : Cx p s m args meth c cc own nL Ts ret z0 D tys) {x : Int32} {off : Int} {tgt : Nat} (hdg : decode cc pc = .ok (.ifCond .gt off, 3)) (ht : (pc : Int) + off = (tgt : Int)) (kt : 0 < x → Aw p l e R s m args below meth c Q z0 D nL μ cells slots tgt lv st) (kf : ¬ 0 < x → Aw p l e R s m args below meth c Q z0 D nL μ cells slots (pc + 3) lv st) : Aw p l e R s m args below meth c Q z0 D nL μ cells slots pc lv (.int x :: st) := fun H locs ls h1 h2 h3 => lv_if_gt C.1 C.2.1 hdg ht (fun q => kt q H locs ls h1 h2 h3) (fun q => kf q H locs ls h1 h2 h3)
theorem aw_icmp_gt (C : Cx p s m args meth c cc own nL Ts ret z0 D tys) {x y : Int32} {off : Int} {tgt : Nat} (hdg : decode cc pc = .ok (.if_icmp .gt off, 3)) (ht : (pc : Int) + off = (tgt : Int)) (kt : y < x → Aw p l e R s m args below meth c Q z0 D nL μ cells slots tgt lv st) (kf : ¬ y < x → Aw p l e R s m args below meth c Q z0 D nL μ cells slots (pc + 3) lv st) : Aw p l e R s m args below meth c Q z0 D nL μ cells slots pc lv (.int y :: .int x :: st) := fun H locs ls h1 h2 h3 => lv_icmp_gt C.1 C.2.1 hdg ht (fun q => kt q H locs ls h1 h2 h3) (fun q => kf q H locs ls h1 h2 h3)
theorem aw_if_le (C : Cx p s m args meth c cc own nL Ts ret z0 D tys) {x : Int32} {off : Int} {tgt : Nat} (hdg : decode cc pc = .ok (.ifCond .le off, 3)) (ht : (pc : Int) + off = (tgt : Int)) (kt : x ≤ 0 → Aw p l e R s m args below meth c Q z0 D nL μ cells slots tgt lv st) (kf : ¬ x ≤ 0 → Aw p l e R s m args below meth c Q z0 D nL μ cells slots (pc + 3) lv st) : Aw p l e R s m args below meth c Q z0 D nL μ cells slots pc lv (.int x :: st) := fun H locs ls h1 h2 h3 => lv_if_le C.1 C.2.1 hdg ht (fun q => kt q H locs ls h1 h2 h3) (fun q => kf q H locs ls h1 h2 h3)
theorem aw_icmp_le (C : Cx p s m args meth c cc own nL Ts ret z0 D tys) {x y : Int32} {off : Int} {tgt : Nat} (hdg : decode cc pc = .ok (.if_icmp .le off, 3)) (ht : (pc : Int) + off = (tgt : Int)) (kt : x ≤ y → Aw p l e R s m args below meth c Q z0 D nL μ cells slots tgt lv st) (kf : ¬ x ≤ y → Aw p l e R s m args below meth c Q z0 D nL μ cells slots (pc + 3) lv st) : Aw p l e R s m args below meth c Q z0 D nL μ cells slots pc lv (.int y :: .int x :: st) := fun H locs ls h1 h2 h3 => lv_icmp_le C.1 C.2.1 hdg ht (fun q => kt q H locs ls h1 h2 h3) (fun q => kf q H locs ls h1 h2 h3)
theorem aw_goto (C : Cx p s m args meth c cc own nL Ts ret z0 D tys) {off : Int} {tgt : Nat} (hdg : decode cc pc = .ok (.goto off, 3)) (ht : (pc : Int) + off = (tgt : Int)) (k : Aw p l e R s m args below meth c Q z0 D nL μ cells slots tgt lv st) : Aw p l e R s m args below meth c Q z0 D nL μ cells slots pc lv st := fun H locs ls h1 h2 h3 => lv_goto C.1 C.2.1 hdg ht (k H locs ls h1 h2 h3)
theorem aw_lv {lv' : List (Nat × Value)} (ha : lv_all lv lv') (k : Aw p l e R s m args below meth c Q z0 D nL μ cells slots pc lv' st) : Aw p l e R s m args below meth c Q z0 D nL μ cells slots pc lv st := fun H locs ls h1 h2 h3 => k H locs ls h1 h2 (lv_all_has h3 lv' ha)
theorem aw_widen {n k : Nat} (h1 : cells ≤ n) (h2 : slots ≤ k) (kk : Aw p l e R s m args below meth c Q z0 D nL μ n k pc lv st) : Aw p l e R s m args below meth c Q z0 D nL μ cells slots pc lv st := fun H locs ls a b d => W.widen h1 h2 (kk H locs ls a b d)
theorem aw_drop {μ' : mu} (hs : ∀ (a : Nat) (e : va_E), μ' a = some e → μ a = some e) (kk : Aw p l e R s m args below meth c Q z0 D nL μ' cells slots pc lv st) : Aw p l e R s m args below meth c Q z0 D nL μ cells slots pc lv st := fun H locs ls a b d => kk H locs ls (a.drop hs) b d
theorem aw_mu {μ' : mu} (hs : μ = μ') (kk : Aw p l e R s m args below meth c Q z0 D nL μ' cells slots pc lv st) : Aw p l e R s m args below meth c Q z0 D nL μ cells slots pc lv st := by rw [hs]; exact kk
theorem aw_tableIn (C : Cx p s m args meth c cc own nL Ts ret z0 D tys) {dflt lo hi : Int} {offs : Array Int} {len : Nat} {x : Int32} {off : Int} {tgt : Nat} (hdg : decode cc pc = .ok (.tableswitch dflt lo hi offs, len)) (q1 : ¬ x.toInt < lo) (q2 : ¬ hi < x.toInt) (ho : offs[(x.toInt - lo).toNat]? = some off) (ht : (pc : Int) + off = (tgt : Int)) (k : Aw p l e R s m args below meth c Q z0 D nL μ cells slots tgt lv st) : Aw p l e R s m args below meth c Q z0 D nL μ cells slots pc lv (.int x :: st) := fun H locs ls h1 h2 h3 => lv_tableIn C.1 C.2.1 hdg q1 q2 ho ht (k H locs ls h1 h2 h3)
theorem aw_tableOut (C : Cx p s m args meth c cc own nL Ts ret z0 D tys) {dflt lo hi : Int} {offs : Array Int} {len : Nat} {x : Int32} {tgt : Nat} (hdg : decode cc pc = .ok (.tableswitch dflt lo hi offs, len)) (q1 : x.toInt < lo ∨ hi < x.toInt) (ht : (pc : Int) + dflt = (tgt : Int)) (k : Aw p l e R s m args below meth c Q z0 D nL μ cells slots tgt lv st) : Aw p l e R s m args below meth c Q z0 D nL μ cells slots pc lv (.int x :: st) := fun H locs ls h1 h2 h3 => lv_tableOut C.1 C.2.1 hdg q1 ht (k H locs ls h1 h2 h3)
/-- a field's link: its class among the words, its place, the link itself -/
def FL (Ts : List Cond) (own : String) (index ci : Nat) (ref Cn : String) (T : u_T) (N k : Nat) : Prop := (∀ w ∈ u_ws Cn T N, w ∈ Ts) ∧ vwCl[ci]? = some (Cn, T, N) ∧ k < N ∧ Cond.fieldLink own index ref (T k).2.1 (T k).2.2.1 ∈ Ts ∧ ((T k).1 = ref ∨ Cond.sameField ref (T k).1 (T k).2.1 (T k).2.2.1 ∈ Ts)
/-- .. by a nest mate -/
def FN (s0 : State) (Ts : List Cond) (own : String) (index ci : Nat) (ref Cn : String) (T : u_T) (N k : Nat) (host : String) : Prop := (∀ w ∈ u_ws Cn T N, w ∈ Ts) ∧ vwCl[ci]? = some (Cn, T, N) ∧ k < N ∧ va_Nw (.fieldLinkNest own index ref (T k).2.1 (T k).2.2.1 host) s0 ∧ (T k).1 = ref
/-- a class's fields: their types, their names apart -/
def FT (T : u_T) (N : Nat) : Prop := (∃ ty0 : Nat → FieldType, ∀ k, k < N → parseFieldDescriptor (T k).2.2.1 = some (ty0 k)) ∧ ∀ a, a < N → ∀ b, b < N → a ≠ b → (T a).2.1 ≠ (T b).2.1
theorem FL.same {own ref Cn : String} {index ci N k : Nat} {T : u_T} (h : FL Ts own index ci ref Cn T N k) (hts : ∀ w ∈ Ts, w.before args s = true) : ∀ x, s.fieldFound? (T k).1 (T k).2.1 (T k).2.2.1 = some x → s.fieldFound? ref (T k).2.1 (T k).2.2.1 = some x := by
  intro x hx
  rcases h.2.2.2.2 with e | e
  · rw [← e]; exact hx
  · exact u_same (hts _ e) x hx
theorem aw_get (C : Cx p s m args meth c cc own nL Ts ret z0 D tys) {ref Cn : String} {index ci N k a : Nat} {T : u_T} {fs : List Value} {v : Value} (hF : FL Ts own index ci ref Cn T N k) (hm : μ a = some (.inr (ci, fs))) (hv : fs[k]? = some v) (hdg : decode cc pc = .ok (.getfield index, 3)) (kk : Aw p l e R s m args below meth c Q z0 D nL μ cells slots (pc + 3) lv (v :: st)) : Aw p l e R s m args below meth c Q z0 D nL μ cells slots pc lv (.ref a :: st) := fun H locs ls h1 h2 h3 =>
  va_get C.1 C.2.1 C.2.2.2.2.1 hF.1 C.2.2.2.1 C.2.2.2.2.2.1 (h1.P hm) 0 rfl hF.2.1 k hF.2.2.1 (C.2.2.2.2.1 _ hF.2.2.2.1) (hF.same C.2.2.2.2.1) hv hdg (kk H locs ls h1 h2 h3)
theorem aw_getN (C : Cx p s m args meth c cc own nL Ts ret z0 D tys) {s0 : State} (hE : EN s0 s) {ref Cn host : String} {index ci N k a : Nat} {T : u_T} {fs : List Value} {v : Value} (hF : FN s0 Ts own index ci ref Cn T N k host) (hm : μ a = some (.inr (ci, fs))) (hv : fs[k]? = some v) (hdg : decode cc pc = .ok (.getfield index, 3)) (kk : Aw p l e R s m args below meth c Q z0 D nL μ cells slots (pc + 3) lv (v :: st)) : Aw p l e R s m args below meth c Q z0 D nL μ cells slots pc lv (.ref a :: st) := fun H locs ls h1 h2 h3 =>
  va_getN (host := host) C.1 C.2.1 C.2.2.2.2.1 hF.1 C.2.2.2.1 C.2.2.2.2.2.1 (h1.P hm) 0 rfl hF.2.1 k hF.2.2.1 (va_Nw.use rfl (va_Nw.warmF hE.1 hF.2.2.2.1)) (fun x hx => by rw [← hF.2.2.2.2]; exact hx) hv hdg (kk H locs ls h1 h2 h3)
theorem aw_put (C : Cx p s m args meth c cc own nL Ts ret z0 D tys) {ref Cn : String} {index ci N k a : Nat} {T : u_T} {fs : List Value} {v : Value} {ty : FieldType} (hF : FL Ts own index ci ref Cn T N k) (hT : FT T N) (hfin : (T k).2.2.2 = false) (hd : parseFieldDescriptor (T k).2.2.1 = some ty) (hn : narrow ty v = v) (hfit : fits ty v = true) (hm : μ a = some (.inr (ci, fs))) (hl : k < fs.length) (hdg : decode cc pc = .ok (.putfield index, 3))
    (kk : Aw p l e R s m args below meth c Q z0 D nL (mp μ a (.inr (ci, fs.set k v))) cells slots (pc + 3) lv st) : Aw p l e R s m args below meth c Q z0 D nL μ cells slots pc lv (v :: .ref a :: st) := by
  intro H locs ls h1 h2 h3
  obtain ⟨⟨ty0, hty⟩, hnm⟩ := hT
  have hap := va_apart (own := own) C.2.2.2.2.1 hF.1 ty0 hty hnm C.2.2.2.2.2.1 hF.2.1
  obtain ⟨⟨r, g1, cell, q1, q2, q3, q4⟩, hza⟩ := h1 a _ hm
  have hr : r = (Cn, T, N) := Option.some.inj (g1.symm.trans hF.2.1)
  subst hr
  obtain ⟨hS, hfc, kC, hkC, hkind⟩ := C.2.2.2.2.2.1.1 ci _ hF.2.1
  obtain ⟨cf, kf, fi, f, hi, hsl⟩ := hS k hF.2.2.1
  have hlay := C.2.2.2.2.1 _ (hF.1 _ (u_in_lay hF.2.2.1))
  unfold u_lay at hlay
  rw [if_neg (by rw [hfin]; decide)] at hlay
  have hst := (u_facts hfc hkC (u_lays C.2.2.2.2.1 hF.1 hF.2.2.1) hi).1
  have h6 := u_store hfc hkC hkind hlay hi hd hn hfit
  refine W.putK C.1 C.2.1 (f := f) ⟨C.2.2.2.1, C.2.2.2.2.1 _ hF.2.2.2.1, ⟨_, _, _, hF.same C.2.2.2.2.1 _ hi⟩, hst⟩ (by rw [q2]; exact h6) q1 q3 (by rw [hsl]; exact k2_hasslot (q4 k hF.2.2.1)) rfl rfl hdg fun H' e1 e2 e3 => ?_
  rw [hsl] at e1 ⊢
  exact kk H' _ ls (h1.put ⟨_, hF.2.1, t_OB.to (V := updV (vp_V fs) k v) ⟨_, e1, q2, q3, t_set q4 hap hF.2.2.1 v⟩ (fun j _ => vp_updV_set hl v j)⟩ hza e3) (h2.put e2 e3 hza) h3
theorem aw_putN (C : Cx p s m args meth c cc own nL Ts ret z0 D tys) {s0 : State} (hE : EN s0 s) {ref Cn host : String} {index ci N k a : Nat} {T : u_T} {fs : List Value} {v : Value} {ty : FieldType} (hF : FN s0 Ts own index ci ref Cn T N k host) (hT : FT T N) (hfin : (T k).2.2.2 = false) (hd : parseFieldDescriptor (T k).2.2.1 = some ty) (hn : narrow ty v = v) (hfit : fits ty v = true) (hm : μ a = some (.inr (ci, fs))) (hl : k < fs.length) (hdg : decode cc pc = .ok (.putfield index, 3))
    (kk : Aw p l e R s m args below meth c Q z0 D nL (mp μ a (.inr (ci, fs.set k v))) cells slots (pc + 3) lv st) : Aw p l e R s m args below meth c Q z0 D nL μ cells slots pc lv (v :: .ref a :: st) := by
  intro H locs ls h1 h2 h3
  obtain ⟨⟨ty0, hty⟩, hnm⟩ := hT
  have hap := va_apart (own := own) C.2.2.2.2.1 hF.1 ty0 hty hnm C.2.2.2.2.2.1 hF.2.1
  obtain ⟨⟨r, g1, cell, q1, q2, q3, q4⟩, hza⟩ := h1 a _ hm
  have hr : r = (Cn, T, N) := Option.some.inj (g1.symm.trans hF.2.1)
  subst hr
  obtain ⟨hS, hfc, kC, hkC, hkind⟩ := C.2.2.2.2.2.1.1 ci _ hF.2.1
  obtain ⟨cf, kf, fi, f, hi, hsl⟩ := hS k hF.2.2.1
  have hlay := C.2.2.2.2.1 _ (hF.1 _ (u_in_lay hF.2.2.1))
  unfold u_lay at hlay
  rw [if_neg (by rw [hfin]; decide)] at hlay
  have hst := (u_facts hfc hkC (u_lays C.2.2.2.2.1 hF.1 hF.2.2.1) hi).1
  have h6 := u_store hfc hkC hkind hlay hi hd hn hfit
  refine va_WputK C.1 C.2.1 (f := f) C.2.2.2.1 (va_Nw.use rfl (va_Nw.warmF hE.1 hF.2.2.2.1)) (by rw [← hF.2.2.2.2]; exact hi) hst (by rw [q2]; exact h6) q1 q3 (by rw [hsl]; exact k2_hasslot (q4 k hF.2.2.1)) rfl rfl hdg fun H' e1 e2 e3 => ?_
  rw [hsl] at e1 ⊢
  exact kk H' _ ls (h1.put ⟨_, hF.2.1, t_OB.to (V := updV (vp_V fs) k v) ⟨_, e1, q2, q3, t_set q4 hap hF.2.2.1 v⟩ (fun j _ => vp_updV_set hl v j)⟩ hza e3) (h2.put e2 e3 hza) h3
/-- a final field, in the constructor -/
theorem aw_putF (C : Cx p s m args meth c cc own nL Ts ret z0 D tys) {Cn : String} {index ci N k a : Nat} {T : u_T} {fs : List Value} {v : Value} {ty : FieldType} (hF : FL Ts own index ci own Cn T N k) (hT : FT T N) (hfin : (T k).2.2.2 = true) (hdecl : (T k).1 = own) (hin2 : meth.name = "<init>") (hd : parseFieldDescriptor (T k).2.2.1 = some ty) (hn : narrow ty v = v) (hfit : fits ty v = true) (hm : μ a = some (.inr (ci, fs))) (hl : k < fs.length) (hdg : decode cc pc = .ok (.putfield index, 3))
    (kk : Aw p l e R s m args below meth c Q z0 D nL (mp μ a (.inr (ci, fs.set k v))) cells slots (pc + 3) lv st) : Aw p l e R s m args below meth c Q z0 D nL μ cells slots pc lv (v :: .ref a :: st) := by
  intro H locs ls h1 h2 h3
  obtain ⟨⟨ty0, hty⟩, hnm⟩ := hT
  have hap := va_apart (own := own) C.2.2.2.2.1 hF.1 ty0 hty hnm C.2.2.2.2.2.1 hF.2.1
  obtain ⟨⟨r, g1, cell, q1, q2, q3, q4⟩, hza⟩ := h1 a _ hm
  have hr : r = (Cn, T, N) := Option.some.inj (g1.symm.trans hF.2.1)
  subst hr
  obtain ⟨hS, hfc, kC, hkC, hkind⟩ := C.2.2.2.2.2.1.1 ci _ hF.2.1
  obtain ⟨cf, kf, fi, f, hi, hsl⟩ := hS k hF.2.2.1
  have hlay := C.2.2.2.2.1 _ (hF.1 _ (u_in_lay hF.2.2.1))
  unfold u_lay at hlay
  rw [if_pos hfin] at hlay
  have hst := (u_facts hfc hkC (u_lays C.2.2.2.2.1 hF.1 hF.2.2.1) hi).1
  have hcf : m.cls = cf := by
    obtain ⟨_, _, c', _, _, _, -, -, hf', -, -, -, hown2, -⟩ := Cond.laysFinal_spec hlay
    have e1 : c' = cf := by have := hi.symm.trans hf'; simp at this; exact this.1.symm
    rw [hdecl] at hown2
    rw [← e1]; exact Option.some.inj (C.2.2.2.1.symm.trans hown2)
  have h6 := u_fits hfc hkC hkind (Or.inr hlay) hi hd hn hfit
  refine W.putFinK C.1 C.2.1 C.2.2.2.1 (C.2.2.2.2.1 _ hF.2.2.2.1) (hF.same C.2.2.2.2.1 _ hi) hst hcf hin2 (by rw [q2]; exact h6) q1 q3 (by rw [hsl]; exact k2_hasslot (q4 k hF.2.2.1)) rfl rfl hdg fun H' e1 e2 e3 => ?_
  rw [hsl] at e1 ⊢
  exact kk H' _ ls (h1.put ⟨_, hF.2.1, t_OB.to (V := updV (vp_V fs) k v) ⟨_, e1, q2, q3, t_set q4 hap hF.2.2.1 v⟩ (fun j _ => vp_updV_set hl v j)⟩ hza e3) (h2.put e2 e3 hza) h3
/-- arrays -/
abbrev eI (g : Nat → ClassId) (n : Nat) (f : Nat → Int32) : va_E := .inl (g 0, n, .inl f)
abbrev eD (g : Nat → ClassId) (n : Nat) (f : Nat → UInt64) : va_E := .inl (g 1, n, .inr (.inr (.inr (.inl f))))
abbrev eJ (g : Nat → ClassId) (n : Nat) (f : Nat → Int64) : va_E := .inl (g 2, n, .inr (.inl f))
abbrev eQ (cA : ClassId) (n : Nat) (f : Nat → Option Nat) : va_E := .inl (cA, n, .inr (.inr (.inr (.inr f))))
abbrev tyL (g : Nat → ClassId) : List (ClassId × FieldType) := [(g 0, .int), (g 1, .double), (g 2, .long), (g 3, .object "ArrowField$Archer"), (g 4, .object "ArrowField$Quiver"), (g 5, .object "java/lang/Object")]
theorem aw_iald {g : Nat → ClassId} (C : Cx p s m args meth c cc own nL Ts ret z0 D (tyL g)) {a n : Nat} {f : Nat → Int32} {i v : Int32} (hm : μ a = some (eI g n f)) (hin : vp_in i n) (hv : f i.toNatClampNeg = v) (hdg : decode cc pc = .ok (.iaload, 1)) (kk : Aw p l e R s m args below meth c Q z0 D nL μ cells slots (pc + 1) lv (.int v :: st)) : Aw p l e R s m args below meth c Q z0 D nL μ cells slots pc lv (.int i :: .ref a :: st) := by
  subst hv
  exact fun H locs ls h1 h2 h3 => va_iald C.1 C.2.1 C.2.2.2.2.2.1 (h1.P hm) 0 0 rfl rfl hin hdg (kk H locs ls h1 h2 h3)
theorem aw_dald {g : Nat → ClassId} (C : Cx p s m args meth c cc own nL Ts ret z0 D (tyL g)) {a n : Nat} {f : Nat → UInt64} {i : Int32} {v : UInt64} (hm : μ a = some (eD g n f)) (hin : vp_in i n) (hv : f i.toNatClampNeg = v) (hdg : decode cc pc = .ok (.daload, 1)) (kk : Aw p l e R s m args below meth c Q z0 D nL μ cells slots (pc + 1) lv (.double v :: st)) : Aw p l e R s m args below meth c Q z0 D nL μ cells slots pc lv (.int i :: .ref a :: st) := by
  subst hv
  exact fun H locs ls h1 h2 h3 => va_dald C.1 C.2.1 C.2.2.2.2.2.1 (h1.P hm) 0 1 rfl rfl hin hdg (kk H locs ls h1 h2 h3)
theorem aw_lald {g : Nat → ClassId} (C : Cx p s m args meth c cc own nL Ts ret z0 D (tyL g)) {a n : Nat} {f : Nat → Int64} {i : Int32} {v : Int64} (hm : μ a = some (eJ g n f)) (hin : vp_in i n) (hv : f i.toNatClampNeg = v) (hdg : decode cc pc = .ok (.laload, 1)) (kk : Aw p l e R s m args below meth c Q z0 D nL μ cells slots (pc + 1) lv (.long v :: st)) : Aw p l e R s m args below meth c Q z0 D nL μ cells slots pc lv (.int i :: .ref a :: st) := by
  subst hv
  exact fun H locs ls h1 h2 h3 => va_lald C.1 C.2.1 C.2.2.2.2.2.1 (h1.P hm) 0 2 rfl rfl hin hdg (kk H locs ls h1 h2 h3)
theorem aw_aald (C : Cx p s m args meth c cc own nL Ts ret z0 D tys) {a n t0 : Nat} {cA : ClassId} {En : String} {f : Nat → Option Nat} {i : Int32} {v : Nat} (ht : tys[t0]? = some (cA, .object En)) (hm : μ a = some (eQ cA n f)) (hin : vp_in i n) (hv : f i.toNatClampNeg = some v) (hdg : decode cc pc = .ok (.aaload, 1)) (kk : Aw p l e R s m args below meth c Q z0 D nL μ cells slots (pc + 1) lv (.ref v :: st)) : Aw p l e R s m args below meth c Q z0 D nL μ cells slots pc lv (.int i :: .ref a :: st) := fun H locs ls h1 h2 h3 =>
  va_aldq C.1 C.2.1 C.2.2.2.2.2.1 (h1.P hm) 0 t0 rfl ht hin hdg (by rw [hv]; exact kk H locs ls h1 h2 h3)
theorem aw_alen (C : Cx p s m args meth c cc own nL Ts ret z0 D tys) {a t0 : Nat} {cA : ClassId} {x : vp_A} {ty : FieldType} {v : Int32} (ht : tys[t0]? = some (cA, ty)) (hm : μ a = some (.inl (cA, x))) (hv : Int32.ofNat x.1 = v) (hdg : decode cc pc = .ok (.arraylength, 1)) (kk : Aw p l e R s m args below meth c Q z0 D nL μ cells slots (pc + 1) lv (.int v :: st)) : Aw p l e R s m args below meth c Q z0 D nL μ cells slots pc lv (.ref a :: st) := fun H locs ls h1 h2 h3 =>
  va_alen C.1 C.2.1 C.2.2.2.2.2.1 (h1.P hm) 0 t0 rfl ht hv hdg (kk H locs ls h1 h2 h3)
theorem aw_iast {g : Nat → ClassId} (C : Cx p s m args meth c cc own nL Ts ret z0 D (tyL g)) {a n : Nat} {f : Nat → Int32} {i x : Int32} (hm : μ a = some (eI g n f)) (hin : vp_in i n) (hdg : decode cc pc = .ok (.iastore, 1)) (kk : Aw p l e R s m args below meth c Q z0 D nL (mp μ a (eI g n (upd f i.toNatClampNeg x))) cells slots (pc + 1) lv st) : Aw p l e R s m args below meth c Q z0 D nL μ cells slots pc lv (.int x :: .int i :: .ref a :: st) := by
  intro H locs ls h1 h2 h3
  refine W.iast C.1 C.2.1 (h1 a _ hm).1 ((C.2.2.2.2.2.1.2 0 _ rfl).1 n (fun j => .int (f j))) (fun q => by cases q) (by show ¬ (i < 0 ∨ (arrV _ _ _).slots.size ≤ _); rw [arrV_size]; exact hin) rfl rfl hdg fun H1 e1 z oq => ?_
  refine kk H1 _ ls (h1.put ?_ (h1 a _ hm).2 oq) (h2.put z oq (h1 a _ hm).2) h3
  show H1[a]? = some (vp_cell _ _)
  rw [e1]
  rw [vp_cell_i, vp_cell_i, arrV_store]
  congr 2
  funext q
  by_cases hq : q = i.toNatClampNeg
  · subst hq
    simp [updV, upd]
  · simp [updV, upd, hq]
theorem aw_dast {g : Nat → ClassId} (C : Cx p s m args meth c cc own nL Ts ret z0 D (tyL g)) {a n : Nat} {f : Nat → UInt64} {i : Int32} {x : UInt64} (hm : μ a = some (eD g n f)) (hin : vp_in i n) (hdg : decode cc pc = .ok (.dastore, 1)) (kk : Aw p l e R s m args below meth c Q z0 D nL (mp μ a (eD g n (vf_upd f i.toNatClampNeg x))) cells slots (pc + 1) lv st) : Aw p l e R s m args below meth c Q z0 D nL μ cells slots pc lv (.double x :: .int i :: .ref a :: st) := by
  intro H locs ls h1 h2 h3
  refine W.dast C.1 C.2.1 (h1 a _ hm).1 ((C.2.2.2.2.2.1.2 1 _ rfl).1 n (fun j => .double (f j))) (fun q => by cases q) (by show ¬ (i < 0 ∨ (arrV _ _ _).slots.size ≤ _); rw [arrV_size]; exact hin) rfl rfl hdg fun H1 e1 z oq => ?_
  refine kk H1 _ ls (h1.put ?_ (h1 a _ hm).2 oq) (h2.put z oq (h1 a _ hm).2) h3
  show H1[a]? = some (vp_cell _ _)
  rw [e1]
  rw [vp_cell_d, vp_cell_d, arrV_store]
  congr 2
  funext q
  by_cases hq : q = i.toNatClampNeg
  · subst hq
    simp [updV, vf_upd]
  · simp [updV, vf_upd, hq]
theorem aw_last {g : Nat → ClassId} (C : Cx p s m args meth c cc own nL Ts ret z0 D (tyL g)) {a n : Nat} {f : Nat → Int64} {i : Int32} {x : Int64} (hm : μ a = some (eJ g n f)) (hin : vp_in i n) (hdg : decode cc pc = .ok (.lastore, 1)) (kk : Aw p l e R s m args below meth c Q z0 D nL (mp μ a (eJ g n (vp_updL f i.toNatClampNeg x))) cells slots (pc + 1) lv st) : Aw p l e R s m args below meth c Q z0 D nL μ cells slots pc lv (.long x :: .int i :: .ref a :: st) := by
  intro H locs ls h1 h2 h3
  refine W.last C.1 C.2.1 (h1 a _ hm).1 ((C.2.2.2.2.2.1.2 2 _ rfl).1 n (fun j => .long (f j))) (fun q => by cases q) (by show ¬ (i < 0 ∨ (arrV _ _ _).slots.size ≤ _); rw [arrV_size]; exact hin) rfl rfl hdg fun H1 e1 z oq => ?_
  refine kk H1 _ ls (h1.put ?_ (h1 a _ hm).2 oq) (h2.put z oq (h1 a _ hm).2) h3
  show H1[a]? = some (vp_cell _ _)
  rw [e1]
  rw [vp_cell_l, vp_cell_l, arrV_store]
  congr 2
  funext q
  by_cases hq : q = i.toNatClampNeg
  · subst hq
    simp [updV, vp_updL]
  · simp [updV, vp_updL, hq]
/-- a reference into an array: its class can be cast to the element's -/
theorem aw_aast (C : Cx p s m args meth c cc own nL Ts ret z0 D tys) {a n t0 ci v : Nat} {cA : ClassId} {En : String} {r : vw_C} {f : Nat → Option Nat} {vs : List Value} {i : Int32} (ht : tys[t0]? = some (cA, .object En)) (hca : va_Nw (.castable r.1 En) s) (hc : vwCl[ci]? = some r) (hm : μ a = some (eQ cA n f)) (hv : μ v = some (.inr (ci, vs))) (hin : vp_in i n) (hdg : decode cc pc = .ok (.aastore, 1)) (kk : Aw p l e R s m args below meth c Q z0 D nL (mp μ a (eQ cA n (va_up f i.toNatClampNeg (some v)))) cells slots (pc + 1) lv st) : Aw p l e R s m args below meth c Q z0 D nL μ cells slots pc lv (.ref v :: .int i :: .ref a :: st) := by
  intro H locs ls h1 h2 h3
  have hlt : i.toNatClampNeg < n := Nat.not_le.mp fun q => hin (Or.inr q)
  have h0 : ¬ i < 0 := fun q => hin (Or.inl q)
  obtain ⟨r', hr', cellV, g1, g2, g3, -⟩ := (h1 v _ hv).1
  have hcls := (C.2.2.2.2.2.1.1 ci r hc).2
  obtain ⟨kA, comp, k1, k2, k3, -⟩ := (C.2.2.2.2.2.1.2 t0 _ ht).2
  obtain ⟨kE, hkE, -⟩ := Vm.findClass_spec k3
  obtain ⟨c0, t1, f1, f2, f3⟩ := Cond.castable_spec (va_Nw.use (A := args) rfl hca)
  cases hcls.1.symm.trans f1
  cases k3.symm.trans f2
  obtain ⟨kC, hkC, -⟩ := hcls.2
  refine W.aast C.1 C.2.1 (h1 a _ hm).1 (fun q h => by cases h) (fun h => by cases h) k1 k2 rfl hkE ⟨h0, by show _ < (arrV _ _ _).slots.size; rw [arrV_size]; exact hlt⟩ g1 (fun q h => by rw [g3] at h; cases h) (by rw [g2]; exact hkC) (by rw [g2]; exact f3) rfl rfl hdg fun H1 e1 z oq => ?_
  refine kk H1 _ ls (h1.put ?_ (h1 a _ hm).2 oq) (h2.put z oq (h1 a _ hm).2) h3
  show H1[a]? = some (vp_cell _ _)
  rw [e1]
  rw [vp_cell_q, vp_cell_q, arrV_store]
  congr 2
  funext q
  by_cases hq : q = i.toNatClampNeg
  · subst hq
    simp [updV, va_up, va_rf]
  · simp [updV, va_up, hq]
/-- new objects, new arrays -/
theorem aw_new (C : Cx p s m args meth c cc own nL Ts ret z0 D tys) {Cn : String} {index ci N : Nat} {T : u_T} {fs : List Value} (hin : ∀ w ∈ u_ws Cn T N, w ∈ Ts) (ty : Nat → FieldType) (hty : ∀ k, k < N → parseFieldDescriptor (T k).2.2.1 = some (ty k)) (hcl : Cond.classLink own index Cn ∈ Ts) (hinst : Cond.instantiable Cn N ∈ Ts) (hini : Cond.initialized Cn ∈ Ts) (hc : vwCl[ci]? = some (Cn, T, N)) (hfs : ∀ j, j < N → defaultValue (ty j) = vp_V fs j) (hcells : cells + 1 ≤ R.cells) (hslots : slots + N ≤ R.slots) (hdg : decode cc pc = .ok (.new index, 3))
    (kk : ∀ a : Nat, z0 ≤ a → μ a = none → Aw p l e R s m args below meth c Q z0 D nL (mp μ a (.inr (ci, fs))) (cells + 1) (slots + N) (pc + 3) lv (.ref a :: st)) : Aw p l e R s m args below meth c Q z0 D nL μ cells slots pc lv st := by
  intro H locs ls h1 h2 h3
  have hKn := C.2.2.2.2.2.1.1 ci _ hc
  refine W.newcK C.1 C.2.1 C.2.2.2.1 (C.2.2.2.2.1 _ hcl) (C.2.2.2.2.1 _ hinst) (C.2.2.2.2.1 _ hini) rfl hdg hcells hslots hKn.2.1 rfl fun H1 kC hkC e1 z1 o1 => ?_
  have hz : z0 ≤ H.size := Nat.le_trans C.2.2.2.2.2.2.1 h2.1
  refine kk H.size hz (h1.fresh (Nat.le_refl _)) H1 locs ls (h1.new ⟨_, hc, (u_born ty C.2.2.2.2.1 hin hKn hkC e1 hty).to hfs⟩ hz o1) ⟨Nat.le_trans h2.1 (by omega), fun x g1 g2 => (o1 x (Nat.lt_of_lt_of_le g1 h2.1)).trans (h2.2.1 x g1 g2), h2.2.2⟩ h3
theorem aw_newa (C : Cx p s m args meth c cc own nL Ts ret z0 D tys) {atype : ArrayType} {cA : ClassId} {ty : FieldType} {t0 N : Nat} {n : Int32} {a0 : vp_A} (harr : Cond.arrayClass (newarray.typeOf atype) ∈ Ts) (hty : newarray.typeOf atype = ty) (ht : tys[t0]? = some (cA, ty)) (hra : ∀ c2, va_RA s c2 ty ↔ s.vm.findClass ("[" ++ ty.toString) = some c2) (ha : vp_cell cA a0 = arrV cA N (fun _ => defaultValue ty)) (hn : ¬ n < 0) (hN : n.toNatClampNeg = N) (hbytes : N * componentBytes ty ≤ 536870912) (hcells : cells + 1 ≤ R.cells) (hslots : slots + N ≤ R.slots) (hdg : decode cc pc = .ok (.newarray atype, 2))
    (kk : ∀ a : Nat, z0 ≤ a → μ a = none → Aw p l e R s m args below meth c Q z0 D nL (mp μ a (.inl (cA, a0))) (cells + 1) (slots + N) (pc + 2) lv (.ref a :: st)) : Aw p l e R s m args below meth c Q z0 D nL μ cells slots pc lv (.int n :: st) := by
  subst hty
  intro H locs ls h1 h2 h3
  refine va_newaK C.1 C.2.1 (C.2.2.2.2.1 _ harr) rfl hdg rfl hn hN hbytes hcells hslots rfl fun H1 cB e1 z1 o1 hAr hNm => ?_
  have hcB : cB = cA := by
    have h5 := (hra cA).mp (C.2.2.2.2.2.1.2 t0 _ ht).2
    exact Option.some.inj (hNm.symm.trans h5)
  subst hcB
  have hz : z0 ≤ H.size := Nat.le_trans C.2.2.2.2.2.2.1 h2.1
  refine kk H.size hz (h1.fresh (Nat.le_refl _)) H1 locs ls (h1.new ?_ hz o1) ⟨Nat.le_trans h2.1 (by omega), fun x g1 g2 => (o1 x (Nat.lt_of_lt_of_le g1 h2.1)).trans (h2.2.1 x g1 g2), h2.2.2⟩ h3
  show H1[H.size]? = some (vp_cell _ _)
  rw [ha]
  exact e1
theorem aw_newq (C : Cx p s m args meth c cc own nL Ts ret z0 D tys) {En : String} {index t0 N : Nat} {cA : ClassId} {n : Int32} (hcl : Cond.classLink own index En ∈ Ts) (hover : va_AO En s) (ht : tys[t0]? = some (cA, .object En)) (hn : ¬ n < 0) (hN : n.toNatClampNeg = N) (hbytes : N * 4 ≤ 536870912) (hcells : cells + 1 ≤ R.cells) (hslots : slots + N ≤ R.slots) (hdg : decode cc pc = .ok (.anewarray index, 3))
    (kk : ∀ a : Nat, z0 ≤ a → μ a = none → Aw p l e R s m args below meth c Q z0 D nL (mp μ a (eQ cA N (fun _ => none))) (cells + 1) (slots + N) (pc + 3) lv (.ref a :: st)) : Aw p l e R s m args below meth c Q z0 D nL μ cells slots pc lv (.int n :: st) := by
  subst hN
  intro H locs ls h1 h2 h3
  refine W.anew C.1 C.2.1 C.2.2.2.1 (C.2.2.2.2.1 _ hcl) (va_AO.use hover) rfl hdg rfl hn hbytes hcells hslots fun cB kA comp f1 f2 f3 f4 => ?_
  have hcB : cB = cA := by
    obtain ⟨kA', comp', g1, g2, g3, g4⟩ := (C.2.2.2.2.2.1.2 t0 _ ht).2
    exact Option.some.inj (f1.symm.trans g4)
  subst hcB
  generalize hH1 : H.push ({ cls := cB, slots := Array.replicate n.toNatClampNeg .null, vm := .none } : Cell) = H1
  have z1 : H1.size = H.size + 1 := by rw [← hH1, Array.size_push]
  have e1 : H1[H.size]? = some (arrV cB n.toNatClampNeg (fun _ => .null)) := by rw [← hH1, Array.getElem?_push_size, ← arrV_new]
  have o1 : ∀ q : Nat, q < H.size → H1[q]? = H[q]? := fun q hq => by rw [← hH1, Array.getElem?_push, if_neg (Nat.ne_of_lt hq)]
  have hz : z0 ≤ H.size := Nat.le_trans C.2.2.2.2.2.2.1 h2.1
  refine kk H.size hz (h1.fresh (Nat.le_refl _)) H1 locs ls (h1.new ?_ hz o1) ⟨Nat.le_trans h2.1 (by omega), fun x g1 g2 => (o1 x (Nat.lt_of_lt_of_le g1 h2.1)).trans (h2.2.1 x g1 g2), h2.2.2⟩ h3
  show H1[H.size]? = some (vp_cell _ _)
  rw [vp_cell_q]
  exact e1
theorem aw_cast (C : Cx p s m args meth c cc own nL Ts ret z0 D tys) {nm : String} {index ci a : Nat} {q : vw_C} {fs : List Value} (hcl : Cond.classLink own index nm ∈ Ts) (hca : va_Nw (.castable q.1 nm) s) (hc : vwCl[ci]? = some q) (hm : μ a = some (.inr (ci, fs))) (hdg : decode cc pc = .ok (.checkcast index, 3)) (kk : Aw p l e R s m args below meth c Q z0 D nL μ cells slots (pc + 3) lv (.ref a :: st)) : Aw p l e R s m args below meth c Q z0 D nL μ cells slots pc lv (.ref a :: st) := fun H locs ls h1 h2 h3 =>
  va_castY C.1 C.2.1 C.2.2.2.1 (C.2.2.2.2.1 _ hcl) hca (va_recv C.2.2.2.2.2.1 (h1.P hm) hc (q0 := 0) rfl) hdg (kk H locs ls h1 h2 h3)
theorem aw_objInit (C : Cx p s m args meth c cc own nL Ts ret z0 D tys) {index a : Nat} (h1 : Cond.methodLink own index objectInit ∈ Ts) (h2 : Cond.instanceMethod objectInit ∈ Ts) (h3 : Cond.code objectInit ⟨#[0xb1]⟩ 1 none ∈ Ts) (hfr : 1 ≤ R.frames) (hlo : (st.map fun v => v.category).sum + 12 ≤ R.locals) (hdg : decode cc pc = .ok (.invokespecial index, 3)) (kk : Aw p l e R s m args below meth c Q z0 D nL μ cells slots (pc + 3) lv st) : Aw p l e R s m args below meth c Q z0 D nL μ cells slots pc lv (.ref a :: st) := fun H locs ls g1 g2 g3 =>
  W.objInit C.1 C.2.1 C.2.2.2.1 (C.2.2.2.2.1 _ h1) (C.2.2.2.2.1 _ h2) (C.2.2.2.2.1 _ h3) rfl (by rw [C.2.2.1]; exact g3.1) rfl hdg hfr (by have : 2 * (F0 m pc ls (.ref a :: st)).monitorRoom = 0 := rfl; omega) (kk H locs ls g1 g2 g3)
/-! ===== calls ===== -/
theorem m_call {H : Heap} {locs : List Loc} {ls : Array Slot} {mc ms : Nat} {st0 rest : List Value} {a' : Array Value} {post : Option Value → mu → Prop} (hr : va_Run p l e R s m args below meth c H locs cells slots mc ms (F0 m pc ls st0) rest (mQc z0 D post a') (fun q => z0 ≤ q)) (hS : va_S (fun q => z0 ≤ q) s.heap H locs)
    (kk : ∀ (v : Option Value) (μ' : mu) (H1 : Heap) (locs1 : List Loc), post v μ' → mW z0 D μ' H1 → va_S (fun q => z0 ≤ q) s.heap H1 locs1 → W p l e R s m args below meth c H1 locs1 (cells + mc) (slots + ms) Q (F0 m (pc + 3) ls (v.toList ++ rest))) : W p l e R s m args below meth c H locs cells slots Q (F0 m pc ls st0) := by
  intro T hT X
  obtain ⟨v, st₀, t, T', L, h0, X', hL, e1, e2, ⟨⟨v', μ', hv, hp, hw⟩, hF⟩, stt⟩ := hr T hT X
  cases hv
  obtain ⟨k1, k2, k3⟩ := vx_keep h0 e1 hS (fun _ _ h => h) (fun _ h => h) hL hF
  obtain ⟨t2, a1, b1⟩ := kk v μ' T'.heap (locs ++ L) hp (by rw [e1]; exact hw) k3 T' rfl X'
  exact ⟨t2, stt t2 a1, b1⟩
theorem m_call5 {H : Heap} {locs : List Loc} {ls : Array Slot} {mc ms : Nat} {st0 rest : List Value} {a' : Array Value} {post : Option Value → mu → Prop} (hr : va_Run5 p l e R s m args below meth c H locs cells slots mc ms (F0 m pc ls st0) rest (mQc z0 D post a') (fun q => z0 ≤ q)) (hS : va_S (fun q => z0 ≤ q) s.heap H locs)
    (kk : ∀ (v : Option Value) (μ' : mu) (H1 : Heap) (locs1 : List Loc), post v μ' → mW z0 D μ' H1 → va_S (fun q => z0 ≤ q) s.heap H1 locs1 → W p l e R s m args below meth c H1 locs1 (cells + mc) (slots + ms) Q (F0 m (pc + 5) ls (v.toList ++ rest))) : W p l e R s m args below meth c H locs cells slots Q (F0 m pc ls st0) := by
  intro T hT X
  obtain ⟨v, st₀, t, T', L, h0, X', hL, e1, e2, ⟨⟨v', μ', hv, hp, hw⟩, hF⟩, stt⟩ := hr T hT X
  cases hv
  obtain ⟨k1, k2, k3⟩ := vx_keep h0 e1 hS (fun _ _ h => h) (fun _ h => h) hL hF
  obtain ⟨t2, a1, b1⟩ := kk v μ' T'.heap (locs ++ L) hp (by rw [e1]; exact hw) k3 T' rfl X'
  exact ⟨t2, stt t2 a1, b1⟩
theorem m_xcall {H : Heap} {locs : List Loc} {ls : Array Slot} {mc ms : Nat} {st0 rest : List Value} {a' : Array Value} {post : Option Value → mu → Prop} {px : String → mu → Prop} (hr : vx_Run p l e R s m args below meth c H locs cells slots mc ms (F0 m pc ls st0) rest (mQc z0 D post a') (mXc z0 D px) (fun q => z0 ≤ q)) (hS : va_S (fun q => z0 ≤ q) s.heap H locs)
    (kx : ∀ (E : String) (ce : Cell) (q9 : Addr) (μ' : mu) (H1 : Heap) (locs1 : List Loc), px E μ' → mW z0 D μ' H1 → va_S (fun q => z0 ≤ q) s.heap H1 locs1 → H1[q9]? = some ce → ce.vm = .none → s.vm.findClass E = some ce.cls → vx_W p l e R s m args below meth c H1 locs1 (cells + mc) (slots + ms) Q (F0 m pc ls rest) q9)
    (kk : ∀ (v : Option Value) (μ' : mu) (H1 : Heap) (locs1 : List Loc), post v μ' → mW z0 D μ' H1 → va_S (fun q => z0 ≤ q) s.heap H1 locs1 → W p l e R s m args below meth c H1 locs1 (cells + mc) (slots + ms) Q (F0 m (pc + 3) ls (v.toList ++ rest))) : W p l e R s m args below meth c H locs cells slots Q (F0 m pc ls st0) := by
  intro T hT X
  rcases hr T hT X with ⟨v, st₀, t, T', L, h0, X', hL, e1, e2, ⟨⟨v', μ', hv, hp, hw⟩, hF⟩, stt⟩ | ⟨q, st₀, t, T', L, E, ce, h0, X', hL, e1, e2, ⟨⟨μ', hp, hw⟩, hF⟩, hce, hcv, hcl, stt⟩
  · cases hv
    obtain ⟨k1, k2, k3⟩ := vx_keep h0 e1 hS (fun _ _ h => h) (fun _ h => h) hL hF
    obtain ⟨t2, a1, b1⟩ := kk v μ' T'.heap (locs ++ L) hp (by rw [e1]; exact hw) k3 T' rfl X'
    exact ⟨t2, stt t2 a1, b1⟩
  · obtain ⟨k1, k2, k3⟩ := vx_keep h0 e1 hS (fun _ _ h => h) (fun _ h => h) hL hF
    obtain ⟨t2, a1, b1⟩ := kx E ce q μ' T'.heap (locs ++ L) hp (by rw [e1]; exact hw) k3 (by rw [e1]; exact hce) hcv hcl T' rfl X'
    exact ⟨t2, stt.trans a1, b1⟩
end ROWS
section CALLS
variable {p : Program} {l : Launch} {e : Env} {R : Room} {s s0 : State} {m : MethodId} {args : Array Value} {below : List Frame} {meth : Method} {c : Code} {Q : State → Prop}
variable {D : va_G} {nL : Nat} {μ : mu} {cells slots : Nat} {pc : Nat} {lv : List (Nat × Value)} {st rest As : List Value} {cc : ByteArray} {own : String} {Ts ws ws' : List Cond} {ret rt : Option FieldType} {tys : List (ClassId × FieldType)}
variable {y : MethodName} {rm : Room} {mc ms n index maxL : Nat} {bytes : ByteArray} {post : Option Value → mu → Prop} {px : String → mu → Prop}
theorem m_pre {H : Heap} {locs : List Loc} (C : Cx p s m args meth c cc own nL Ts ret s0.heap.size D tys) (hE : EN s0 s) {av : List Value} (h1 : mW s0.heap.size D μ H) (h2 : va_S (fun q => s0.heap.size ≤ q) s.heap H locs) : ∀ U : State, U.heap = H → s.WarmedH U.vm → mPc s0 D tys av μ av.toArray U := fun U hU hW =>
  ⟨rfl, by rw [hU]; exact h1, va_K.moved hW.alike C.2.2.2.2.2.1, hE.to h2 hU hW⟩
theorem aw_callV (C : Cx p s m args meth c cc own nL Ts ret s0.heap.size D tys) (hE : EN s0 s) {b ci : Nat} {q : vw_C} {fs : List Value}
    (hM : Ct l y ws rm s0 D tys (.ref b :: As) μ mc ms post) (hG : GoodIn Ts (wsV own index q.1 y ws)) (hw : ws = Cond.code y bytes maxL rt :: ws') (hrm : rm.cells = mc ∧ rm.slots = ms) (hd : y.cls = q.1 ∧ y.cls ≠ "java/lang/invoke/MethodHandle" ∧ y.cls ≠ "java/lang/invoke/VarHandle" ∧ (parseMethodDescriptor y.desc).map (fun d => d.parameters.length) = some n) (hR : rm.frames + 1 ≤ R.frames ∧ 8 + (maxL + 11) + rm.locals ≤ R.locals)
    (hn : As.length = n) (hc : vwCl[ci]? = some q) (hm : μ b = some (.inr (ci, fs))) (hst : st = As.reverse ++ .ref b :: rest) (hcat : (rest.map fun v => v.category).sum ≤ 8) (hdg : decode cc pc = .ok (.invokevirtual index, 3)) (hf : cells + mc ≤ R.cells ∧ slots + ms ≤ R.slots)
    (kk : ∀ (v : Option Value) (μ' : mu), post v μ' → Aw p l e R s m args below meth c Q s0.heap.size D nL μ' (cells + mc) (slots + ms) (pc + 3) lv (v.toList ++ rest)) : Aw p l e R s m args below meth c Q s0.heap.size D nL μ cells slots pc lv st := by
  subst hst
  exact fun H locs ls h1 h2 h3 => m_call (va_runV ⟨C.1, C.2.1, C.2.2.1, C.2.2.2.1, C.2.2.2.2.1⟩ hM (cwV n C.2.2.2.2.1 hG hw hrm.1 hrm.2 hd hR) ⟨mPc.blind, va_recv C.2.2.2.2.2.1 (h1.P hm) hc (q0 := 0) rfl, m_pre C hE h1 h2⟩ rfl hn h3.1 rfl (lv_room hcat) hdg hf) h2 (fun v μ' H1 locs1 hp hw h4 => kk v μ' hp H1 locs1 ls hw h4 h3)
theorem aw_callS (C : Cx p s m args meth c cc own nL Ts ret s0.heap.size D tys) (hE : EN s0 s)
    (hM : Ct l y ws rm s0 D tys As μ mc ms post) (hG : GoodIn Ts (va_wsS own index y ws)) (hw : ws = Cond.code y bytes maxL rt :: ws') (hrm : rm.cells = mc ∧ rm.slots = ms) (hd : y.cls ≠ "java/lang/invoke/MethodHandle" ∧ y.cls ≠ "java/lang/invoke/VarHandle" ∧ (parseMethodDescriptor y.desc).map (fun d => d.parameters.length) = some n) (hR : rm.frames + 1 ≤ R.frames ∧ 8 + (maxL + 11) + rm.locals ≤ R.locals)
    (hn : As.length = n) (hst : st = As.reverse ++ rest) (hcat : (rest.map fun v => v.category).sum ≤ 8) (hdg : decode cc pc = .ok (.invokestatic index, 3)) (hf : cells + mc ≤ R.cells ∧ slots + ms ≤ R.slots)
    (kk : ∀ (v : Option Value) (μ' : mu), post v μ' → Aw p l e R s m args below meth c Q s0.heap.size D nL μ' (cells + mc) (slots + ms) (pc + 3) lv (v.toList ++ rest)) : Aw p l e R s m args below meth c Q s0.heap.size D nL μ cells slots pc lv st := by
  subst hst
  exact fun H locs ls h1 h2 h3 => m_call (va_runS ⟨C.1, C.2.1, C.2.2.1, C.2.2.2.1, C.2.2.2.2.1⟩ hM (va_cwS n C.2.2.2.2.1 hG hw hrm.1 hrm.2 hd hR) ⟨mPc.blind, m_pre C hE h1 h2⟩ rfl hn h3.1 rfl (lv_room hcat) hdg hf) h2 (fun v μ' H1 locs1 hp hw h4 => kk v μ' hp H1 locs1 ls hw h4 h3)
theorem aw_callI (C : Cx p s m args meth c cc own nL Ts ret s0.heap.size D tys) (hE : EN s0 s) {b : Nat}
    (hM : Ct l y ws rm s0 D tys (.ref b :: As) μ mc ms post) (hG : GoodIn Ts ws) (hini : Cond.initialized y.cls ∈ Ts) (hlk : Cond.methodLink own index y ∈ Ts) (hins : Cond.instanceMethod y ∈ Ts) (hy1 : y.name = "<init>") (hw : ws = Cond.code y bytes maxL none :: ws') (hrm : rm.cells = mc ∧ rm.slots = ms) (hd : y.cls ≠ "java/lang/invoke/MethodHandle" ∧ y.cls ≠ "java/lang/invoke/VarHandle" ∧ (parseMethodDescriptor y.desc).map (fun d => d.parameters.length) = some n) (hR : rm.frames + 1 ≤ R.frames ∧ 8 + (maxL + 11) + rm.locals ≤ R.locals)
    (hn : As.length = n) (hst : st = As.reverse ++ .ref b :: rest) (hcat : (rest.map fun v => v.category).sum ≤ 8) (hdg : decode cc pc = .ok (.invokespecial index, 3)) (hf : cells + mc ≤ R.cells ∧ slots + ms ≤ R.slots)
    (kk : ∀ (v : Option Value) (μ' : mu), post v μ' → Aw p l e R s m args below meth c Q s0.heap.size D nL μ' (cells + mc) (slots + ms) (pc + 3) lv (v.toList ++ rest)) : Aw p l e R s m args below meth c Q s0.heap.size D nL μ cells slots pc lv st := by
  subst hst
  exact fun H locs ls h1 h2 h3 => m_call (va_runI ⟨C.1, C.2.1, C.2.2.1, C.2.2.2.1, C.2.2.2.2.1⟩ hM (cwI n C.2.2.2.2.1 hG hw hrm.1 hrm.2 (C.2.2.2.2.1 _ hini) (C.2.2.2.2.1 _ hlk) (C.2.2.2.2.1 _ hins) hy1 hd hR) ⟨mPc.blind, m_pre C hE h1 h2⟩ rfl hn h3.1 rfl (lv_room hcat) hdg hf) h2 (fun v μ' H1 locs1 hp hw h4 => kk v μ' hp H1 locs1 ls hw h4 h3)
/-- a nest mate's private constructor, its private static method -/
theorem aw_callIN (C : Cx p s m args meth c cc own nL Ts ret s0.heap.size D tys) (hE : EN s0 s) {b : Nat} {host : String}
    (hM : Ct l y ws rm s0 D tys (.ref b :: As) μ mc ms post) (hG : GoodIn Ts ws) (hini : Cond.initialized y.cls ∈ Ts) (hlk : va_Nw (.methodLinkNest own index y host) s0) (hins : Cond.instanceMethod y ∈ Ts) (hy1 : y.name = "<init>") (hw : ws = Cond.code y bytes maxL none :: ws') (hrm : rm.cells = mc ∧ rm.slots = ms) (hd : y.cls ≠ "java/lang/invoke/MethodHandle" ∧ y.cls ≠ "java/lang/invoke/VarHandle" ∧ (parseMethodDescriptor y.desc).map (fun d => d.parameters.length) = some n) (hR : rm.frames + 1 ≤ R.frames ∧ 8 + (maxL + 11) + rm.locals ≤ R.locals)
    (hn : As.length = n) (hst : st = As.reverse ++ .ref b :: rest) (hcat : (rest.map fun v => v.category).sum ≤ 8) (hdg : decode cc pc = .ok (.invokespecial index, 3)) (hf : cells + mc ≤ R.cells ∧ slots + ms ≤ R.slots)
    (kk : ∀ (v : Option Value) (μ' : mu), post v μ' → Aw p l e R s m args below meth c Q s0.heap.size D nL μ' (cells + mc) (slots + ms) (pc + 3) lv (v.toList ++ rest)) : Aw p l e R s m args below meth c Q s0.heap.size D nL μ cells slots pc lv st := by
  subst hst
  exact fun H locs ls h1 h2 h3 => m_call (va_runIN ⟨C.1, C.2.1, C.2.2.1, C.2.2.2.1, C.2.2.2.2.1⟩ hM ⟨va_cnB n C.2.2.2.2.1 hG hw hrm.1 hrm.2 (va_Nw.warmM hE.1 hlk) (C.2.2.2.2.1 _ hini) hd hR, hy1, C.2.2.2.2.1 _ hins⟩ ⟨mPc.blind, m_pre C hE h1 h2⟩ rfl hn h3.1 rfl (lv_room hcat) hdg hf) h2 (fun v μ' H1 locs1 hp hw h4 => kk v μ' hp H1 locs1 ls hw h4 h3)
theorem aw_callSN (C : Cx p s m args meth c cc own nL Ts ret s0.heap.size D tys) (hE : EN s0 s) {host : String}
    (hM : Ct l y ws rm s0 D tys As μ mc ms post) (hG : GoodIn Ts ws) (hini : Cond.initialized y.cls ∈ Ts) (hlk : va_Nw (.methodLinkNest own index y host) s0) (hins : Cond.static y ∈ Ts) (hw : ws = Cond.code y bytes maxL rt :: ws') (hrm : rm.cells = mc ∧ rm.slots = ms) (hd : y.cls ≠ "java/lang/invoke/MethodHandle" ∧ y.cls ≠ "java/lang/invoke/VarHandle" ∧ (parseMethodDescriptor y.desc).map (fun d => d.parameters.length) = some n) (hR : rm.frames + 1 ≤ R.frames ∧ 8 + (maxL + 11) + rm.locals ≤ R.locals)
    (hn : As.length = n) (hst : st = As.reverse ++ rest) (hcat : (rest.map fun v => v.category).sum ≤ 8) (hdg : decode cc pc = .ok (.invokestatic index, 3)) (hf : cells + mc ≤ R.cells ∧ slots + ms ≤ R.slots)
    (kk : ∀ (v : Option Value) (μ' : mu), post v μ' → Aw p l e R s m args below meth c Q s0.heap.size D nL μ' (cells + mc) (slots + ms) (pc + 3) lv (v.toList ++ rest)) : Aw p l e R s m args below meth c Q s0.heap.size D nL μ cells slots pc lv st := by
  subst hst
  exact fun H locs ls h1 h2 h3 => m_call (va_runSN ⟨C.1, C.2.1, C.2.2.1, C.2.2.2.1, C.2.2.2.2.1⟩ hM ⟨va_cnB n C.2.2.2.2.1 hG hw hrm.1 hrm.2 (va_Nw.warmM hE.1 hlk) (C.2.2.2.2.1 _ hini) hd hR, C.2.2.2.2.1 _ hins, trivial⟩ ⟨mPc.blind, m_pre C hE h1 h2⟩ rfl hn h3.1 rfl (lv_room hcat) hdg hf) h2 (fun v μ' H1 locs1 hp hw h4 => kk v μ' hp H1 locs1 ls hw h4 h3)
/-- by an interface -/
theorem aw_callF (C : Cx p s m args meth c cc own nL Ts ret s0.heap.size D tys) (hE : EN s0 s) {b ci count : Nat} {q : vw_C} {fs : List Value} {x : MethodName}
    (hM : Ct l y ws rm s0 D tys (.ref b :: As) μ mc ms post) (hG : GoodIn Ts (va_wsF own index q.1 x y ws)) (hFw : va_Fw q.1 x y s) (hw : ws = Cond.code y bytes maxL rt :: ws') (hrm : rm.cells = mc ∧ rm.slots = ms) (hd : x.cls ≠ "java/lang/invoke/MethodHandle" ∧ x.cls ≠ "java/lang/invoke/VarHandle" ∧ (parseMethodDescriptor x.desc).map (fun d => d.parameters.length) = some n) (hR : rm.frames + 1 ≤ R.frames ∧ 8 + (maxL + 11) + rm.locals ≤ R.locals)
    (hn : As.length = n) (hc : vwCl[ci]? = some q) (hm : μ b = some (.inr (ci, fs))) (hst : st = As.reverse ++ .ref b :: rest) (hcat : (rest.map fun v => v.category).sum ≤ 8) (hdg : decode cc pc = .ok (.invokeinterface index count, 5)) (hf : cells + mc ≤ R.cells ∧ slots + ms ≤ R.slots)
    (kk : ∀ (v : Option Value) (μ' : mu), post v μ' → Aw p l e R s m args below meth c Q s0.heap.size D nL μ' (cells + mc) (slots + ms) (pc + 5) lv (v.toList ++ rest)) : Aw p l e R s m args below meth c Q s0.heap.size D nL μ cells slots pc lv st := by
  subst hst
  exact fun H locs ls h1 h2 h3 => m_call5 (va_runF (C.2.2.2.2.2.1.1 ci _ hc).2 ⟨C.1, C.2.1, C.2.2.1, C.2.2.2.1, C.2.2.2.2.1⟩ hM (va_cwF n C.2.2.2.2.1 hG hw hrm.1 hrm.2 hFw hd hR) ⟨mPc.blind, va_recv C.2.2.2.2.2.1 (h1.P hm) hc (q0 := 0) rfl, m_pre C hE h1 h2⟩ rfl hn h3.1 rfl (lv_room hcat) hdg hf) h2 (fun v μ' H1 locs1 hp hw h4 => kk v μ' hp H1 locs1 ls hw h4 h3)
/-- of methods that may throw: out of here -/
theorem ax_callV {mc0 ms0 : Nat} {post0 : Option Value → mu → Prop} {px0 : String → mu → Prop} (C : Cx p s m args meth c cc own nL Ts ret s0.heap.size D tys) (hE : EN s0 s) (hnt : ∀ x ∈ c.exceptionTable.toList, False) {b ci : Nat} {q : vw_C} {fs : List Value}
    (hM : Cy l y ws rm s0 D tys (.ref b :: As) μ mc ms post px) (hG : GoodIn Ts (wsV own index q.1 y ws)) (hw : ws = Cond.code y bytes maxL rt :: ws') (hrm : rm.cells = mc ∧ rm.slots = ms) (hd : y.cls = q.1 ∧ y.cls ≠ "java/lang/invoke/MethodHandle" ∧ y.cls ≠ "java/lang/invoke/VarHandle" ∧ (parseMethodDescriptor y.desc).map (fun d => d.parameters.length) = some n) (hR : rm.frames + 1 ≤ R.frames ∧ 8 + (maxL + 11) + rm.locals ≤ R.locals)
    (hn : As.length = n) (hc : vwCl[ci]? = some q) (hm : μ b = some (.inr (ci, fs))) (hst : st = As.reverse ++ .ref b :: rest) (hcat : (rest.map fun v => v.category).sum ≤ 8) (hdg : decode cc pc = .ok (.invokevirtual index, 3)) (hf : cells + mc ≤ R.cells ∧ slots + ms ≤ R.slots) (hf0 : cells + mc ≤ mc0 ∧ slots + ms ≤ ms0)
    (hpx : ∀ (E : String) (μ' : mu), px E μ' → px0 E μ')
    (kk : ∀ (v : Option Value) (μ' : mu), post v μ' → Aw p l e R s m args below meth c (vx_MQ below (mQc s0.heap.size D post0) (mXc s0.heap.size D px0) args s mc0 ms0 (fun q => s0.heap.size ≤ q)) s0.heap.size D nL μ' (cells + mc) (slots + ms) (pc + 3) lv (v.toList ++ rest)) : Aw p l e R s m args below meth c (vx_MQ below (mQc s0.heap.size D post0) (mXc s0.heap.size D px0) args s mc0 ms0 (fun q => s0.heap.size ≤ q)) s0.heap.size D nL μ cells slots pc lv st := by
  subst hst
  exact fun H locs ls h1 h2 h3 => m_xcall (vx_runV ⟨C.1, C.2.1, C.2.2.1, C.2.2.2.1, C.2.2.2.2.1⟩ hM (cwV n C.2.2.2.2.1 hG hw hrm.1 hrm.2 hd hR) ⟨mPc.blind, va_recv C.2.2.2.2.2.1 (h1.P hm) hc (q0 := 0) rfl, m_pre C hE h1 h2⟩ rfl hn h3.1 rfl (lv_room hcat) hdg hf) h2
    (fun E ce q9 μ' H1 locs1 hp hw h4 g1 g2 g3 => vx_out (fun x hx => (hnt x hx).elim) C.2.2.2.2.2.2.2.1 g1 g2 g3 (fun t ht hvm => ⟨⟨μ', hpx E μ' hp, by rw [ht]; exact hw⟩, h4.F ht⟩) h4.2.2 hf0.1 hf0.2)
    (fun v μ' H1 locs1 hp hw h4 => kk v μ' hp H1 locs1 ls hw h4 h3)
theorem ax_callS {mc0 ms0 : Nat} {post0 : Option Value → mu → Prop} {px0 : String → mu → Prop} (C : Cx p s m args meth c cc own nL Ts ret s0.heap.size D tys) (hE : EN s0 s) (hnt : ∀ x ∈ c.exceptionTable.toList, False)
    (hM : Cy l y ws rm s0 D tys As μ mc ms post px) (hG : GoodIn Ts (va_wsS own index y ws)) (hw : ws = Cond.code y bytes maxL rt :: ws') (hrm : rm.cells = mc ∧ rm.slots = ms) (hd : y.cls ≠ "java/lang/invoke/MethodHandle" ∧ y.cls ≠ "java/lang/invoke/VarHandle" ∧ (parseMethodDescriptor y.desc).map (fun d => d.parameters.length) = some n) (hR : rm.frames + 1 ≤ R.frames ∧ 8 + (maxL + 11) + rm.locals ≤ R.locals)
    (hn : As.length = n) (hst : st = As.reverse ++ rest) (hcat : (rest.map fun v => v.category).sum ≤ 8) (hdg : decode cc pc = .ok (.invokestatic index, 3)) (hf : cells + mc ≤ R.cells ∧ slots + ms ≤ R.slots) (hf0 : cells + mc ≤ mc0 ∧ slots + ms ≤ ms0)
    (hpx : ∀ (E : String) (μ' : mu), px E μ' → px0 E μ')
    (kk : ∀ (v : Option Value) (μ' : mu), post v μ' → Aw p l e R s m args below meth c (vx_MQ below (mQc s0.heap.size D post0) (mXc s0.heap.size D px0) args s mc0 ms0 (fun q => s0.heap.size ≤ q)) s0.heap.size D nL μ' (cells + mc) (slots + ms) (pc + 3) lv (v.toList ++ rest)) : Aw p l e R s m args below meth c (vx_MQ below (mQc s0.heap.size D post0) (mXc s0.heap.size D px0) args s mc0 ms0 (fun q => s0.heap.size ≤ q)) s0.heap.size D nL μ cells slots pc lv st := by
  subst hst
  exact fun H locs ls h1 h2 h3 => m_xcall (vx_runS ⟨C.1, C.2.1, C.2.2.1, C.2.2.2.1, C.2.2.2.2.1⟩ hM (va_cwS n C.2.2.2.2.1 hG hw hrm.1 hrm.2 hd hR) ⟨mPc.blind, m_pre C hE h1 h2⟩ rfl hn h3.1 rfl (lv_room hcat) hdg hf) h2
    (fun E ce q9 μ' H1 locs1 hp hw h4 g1 g2 g3 => vx_out (fun x hx => (hnt x hx).elim) C.2.2.2.2.2.2.2.1 g1 g2 g3 (fun t ht hvm => ⟨⟨μ', hpx E μ' hp, by rw [ht]; exact hw⟩, h4.F ht⟩) h4.2.2 hf0.1 hf0.2)
    (fun v μ' H1 locs1 hp hw h4 => kk v μ' hp H1 locs1 ls hw h4 h3)
/-! ===== ends ===== -/
def Ends (Q : State → Prop) (below : List Frame) (args : Array Value) (s : State) (z0 : Nat) (D : va_G) (post : Option Value → mu → Prop) (mc ms : Nat) : Prop := ∀ t : State, MQ below (mQc z0 D post) args s mc ms (fun q => z0 ≤ q) t → Q t
theorem Ends.rf {z0 : Nat} : Ends (MQ below (mQc z0 D post) args s mc ms (fun q => z0 ≤ q)) below args s z0 D post mc ms := fun _ h => h
theorem Ends.vx {z0 : Nat} : Ends (vx_MQ below (mQc z0 D post) (mXc z0 D px) args s mc ms (fun q => z0 ≤ q)) below args s z0 D post mc ms := fun t ⟨o, b1, b2, b3, b4⟩ => ⟨o, b1, b2, Or.inl ⟨b3, b4⟩⟩
theorem W.ends {z0 : Nat} {H : Heap} {locs : List Loc} {g : JFrame} (hQ : Ends Q below args s z0 D post mc ms) (h1 : cells ≤ mc) (h2 : slots ≤ ms) (k : W p l e R s m args below meth c H locs mc ms (MQ below (mQc z0 D post) args s mc ms (fun q => z0 ≤ q)) g) : W p l e R s m args below meth c H locs cells slots Q g := by
  refine W.widen h1 h2 ?_
  intro T hT X
  obtain ⟨t, a, b⟩ := k T hT X
  exact ⟨t, a, hQ t b⟩
theorem aw_iret {z0 : Nat} (C : Cx p s m args meth c cc own nL Ts (some .int) z0 D tys) (hQ : Ends Q below args s z0 D post mc ms) {v : Int32} (hp : post (some (.int v)) μ) (h1 : cells ≤ mc) (h2 : slots ≤ ms) (hdg : decode cc pc = .ok (.ireturn, 1)) : Aw p l e R s m args below meth c Q z0 D nL μ cells slots pc lv [.int v] := fun H locs ls g1 g2 g3 =>
  W.ends hQ h1 h2 (W.iret C.1 C.2.1 C.2.2.2.2.2.2.2.2 (fun t ht hW => ⟨⟨_, μ, rfl, hp, by rw [ht]; exact g1⟩, g2.F ht⟩) g2.2.2 hdg C.2.2.2.2.2.2.2.1)
theorem aw_zret {z0 : Nat} {ty : FieldType} (C : Cx p s m args meth c cc own nL Ts (some ty) z0 D tys) (hQ : Ends Q below args s z0 D post mc ms) {v : Int32} (hn : narrow ty (.int v) = .int v) (hp : post (some (.int v)) μ) (h1 : cells ≤ mc) (h2 : slots ≤ ms) (hdg : decode cc pc = .ok (.ireturn, 1)) : Aw p l e R s m args below meth c Q z0 D nL μ cells slots pc lv [.int v] := fun H locs ls g1 g2 g3 =>
  W.ends hQ h1 h2 (W.zret C.1 C.2.1 C.2.2.2.2.2.2.2.2 hn (fun t ht hW => ⟨⟨_, μ, rfl, hp, by rw [ht]; exact g1⟩, g2.F ht⟩) g2.2.2 hdg C.2.2.2.2.2.2.2.1)
theorem aw_dret {z0 : Nat} (C : Cx p s m args meth c cc own nL Ts (some .double) z0 D tys) (hQ : Ends Q below args s z0 D post mc ms) {v : UInt64} (hp : post (some (.double v)) μ) (h1 : cells ≤ mc) (h2 : slots ≤ ms) (hdg : decode cc pc = .ok (.dreturn, 1)) : Aw p l e R s m args below meth c Q z0 D nL μ cells slots pc lv [.double v] := fun H locs ls g1 g2 g3 =>
  W.ends hQ h1 h2 (W.dret C.1 C.2.1 C.2.2.2.2.2.2.2.2 (fun t ht hW => ⟨⟨_, μ, rfl, hp, by rw [ht]; exact g1⟩, g2.F ht⟩) g2.2.2 hdg C.2.2.2.2.2.2.2.1)
theorem aw_fret {z0 : Nat} (C : Cx p s m args meth c cc own nL Ts (some .float) z0 D tys) (hQ : Ends Q below args s z0 D post mc ms) {v : UInt32} (hp : post (some (.float v)) μ) (h1 : cells ≤ mc) (h2 : slots ≤ ms) (hdg : decode cc pc = .ok (.freturn, 1)) : Aw p l e R s m args below meth c Q z0 D nL μ cells slots pc lv [.float v] := fun H locs ls g1 g2 g3 =>
  W.ends hQ h1 h2 (W.fret C.1 C.2.1 C.2.2.2.2.2.2.2.2 (fun t ht hW => ⟨⟨_, μ, rfl, hp, by rw [ht]; exact g1⟩, g2.F ht⟩) g2.2.2 hdg C.2.2.2.2.2.2.2.1)
theorem aw_lret {z0 : Nat} (C : Cx p s m args meth c cc own nL Ts (some .long) z0 D tys) (hQ : Ends Q below args s z0 D post mc ms) {v : Int64} (hp : post (some (.long v)) μ) (h1 : cells ≤ mc) (h2 : slots ≤ ms) (hdg : decode cc pc = .ok (.lreturn, 1)) : Aw p l e R s m args below meth c Q z0 D nL μ cells slots pc lv [.long v] := fun H locs ls g1 g2 g3 =>
  W.ends hQ h1 h2 (W.lret C.1 C.2.1 C.2.2.2.2.2.2.2.2 (fun t ht hW => ⟨⟨_, μ, rfl, hp, by rw [ht]; exact g1⟩, g2.F ht⟩) g2.2.2 hdg C.2.2.2.2.2.2.2.1)
theorem aw_aret {z0 : Nat} {rt9 : FieldType} (C : Cx p s m args meth c cc own nL Ts (some rt9) z0 D tys) (hrt : (∃ n, rt9 = .object n) ∨ ∃ t, rt9 = .array t) (hQ : Ends Q below args s z0 D post mc ms) {v : Nat} (hp : post (some (.ref v)) μ) (h1 : cells ≤ mc) (h2 : slots ≤ ms) (hdg : decode cc pc = .ok (.areturn, 1)) : Aw p l e R s m args below meth c Q z0 D nL μ cells slots pc lv [.ref v] := fun H locs ls g1 g2 g3 =>
  W.ends hQ h1 h2 (W.aret C.1 C.2.1 C.2.2.2.2.2.2.2.2 hrt (Or.inr ⟨v, rfl⟩) (fun t ht hW => ⟨⟨_, μ, rfl, hp, by rw [ht]; exact g1⟩, g2.F ht⟩) g2.2.2 hdg C.2.2.2.2.2.2.2.1)
theorem aw_vret {z0 : Nat} (C : Cx p s m args meth c cc own nL Ts none z0 D tys) (hQ : Ends Q below args s z0 D post mc ms) (hp : post none μ) (h1 : cells ≤ mc) (h2 : slots ≤ ms) (hdg : decode cc pc = .ok (.return_, 1)) : Aw p l e R s m args below meth c Q z0 D nL μ cells slots pc lv [] := fun H locs ls g1 g2 g3 =>
  W.ends hQ h1 h2 (W.vret C.1 C.2.1 C.2.2.2.2.2.2.2.2 (fun t ht hW => ⟨⟨_, μ, rfl, hp, by rw [ht]; exact g1⟩, g2.F ht⟩) g2.2.2 hdg C.2.2.2.2.2.2.2.1)
/-! ===== starts ===== -/
theorem Ct.of {av : List Value} {f n0 k0 lo : Nat} (hy : plainName y.cls = true) (hw : ws = Cond.code y cc maxL ret :: ws') (ho : y.cls = own) (hmax : (lg_sl av).length ≤ maxL)
    (body : ∀ (p : Program) (e : Env) (s : State) (m : MethodId) (args : Array Value) (below : List Frame) (meth : Method) (c : Code), Cx p s m args meth c cc own maxL ws ret s0.heap.size D tys → EN s0 s → meth.name = y.name → Aw p l e (rmOf f n0 k0 lo) s m args below meth c (MQ below (mQc s0.heap.size D post) args s n0 k0 (fun q => s0.heap.size ≤ q)) s0.heap.size D maxL μ 0 0 0 (lv_args 0 av) []) : Ct l y ws (rmOf f n0 k0 lo) s0 D tys av μ n0 k0 post := by
  refine Met.ofW (cc := cc) (maxL := maxL) (ret := ret) hy hw ?_
  intro p e s m args below meth c s₁ B hml hv
  obtain ⟨rfl, hW, hK, hE⟩ := hv
  have hts := atoms_spec (ws := ws) B.pre
  have hown : s.vm.findClass own = some m.cls := by rw [← ho]; exact findClass_of_methodNamed B.named
  have hl := lv_entry av (n := maxL) hmax
  rw [lg_entry_eq]
  exact body p e s m _ below meth c ⟨B.exec, B.bytes, hml, hown, hts, hK, hE.2.1, B.notSynchronized, B.returns⟩ hE (name_of_methodNamed B.named B.method).1 s.heap [] _ hW va_S.rf hl
theorem Cy.of {av : List Value} {f n0 k0 lo : Nat} (hy : plainName y.cls = true) (hw : ws = Cond.code y cc maxL ret :: ws') (ho : y.cls = own) (hmax : (lg_sl av).length ≤ maxL)
    (body : ∀ (p : Program) (e : Env) (s : State) (m : MethodId) (args : Array Value) (below : List Frame) (meth : Method) (c : Code), Cx p s m args meth c cc own maxL ws ret s0.heap.size D tys → EN s0 s → (∀ x ∈ c.exceptionTable.toList, False) → Aw p l e (rmOf f n0 k0 lo) s m args below meth c (vx_MQ below (mQc s0.heap.size D post) (mXc s0.heap.size D px) args s n0 k0 (fun q => s0.heap.size ≤ q)) s0.heap.size D maxL μ 0 0 0 (lv_args 0 av) []) : Cy l y ws (rmOf f n0 k0 lo) s0 D tys av μ n0 k0 post px := by
  refine vx_ofW (cc := cc) (maxL := maxL) (ret := ret) hy hw ?_
  intro p e s m args below meth c s₁ B hml hnt hv
  obtain ⟨rfl, hW, hK, hE⟩ := hv
  have hts := atoms_spec (ws := ws) B.pre
  have hown : s.vm.findClass own = some m.cls := by rw [← ho]; exact findClass_of_methodNamed B.named
  have hl := lv_entry av (n := maxL) hmax
  rw [lg_entry_eq]
  exact body p e s m _ below meth c ⟨B.exec, B.bytes, hml, hown, hts, hK, hE.2.1, B.notSynchronized, B.returns⟩ hE hnt s.heap [] _ hW va_S.rf hl
/-! ===== throwing ===== -/
/-- the two statics of Throwable that a new exception reads -/
def TZ (s0 : State) : Prop := vx_Zq Bundle.tN "UNASSIGNED_STACK" Bundle.steD (fun q => s0.heap.size ≤ q) s0 s0.heap ∧ vx_Zq Bundle.tN "SUPPRESSED_SENTINEL" Bundle.listD (fun q => s0.heap.size ≤ q) s0 s0.heap
theorem TZ.at {s : State} (h : TZ s0) (hE : EN s0 s) : vx_Zq Bundle.tN "UNASSIGNED_STACK" Bundle.steD (fun q => s0.heap.size ≤ q) s s.heap ∧ vx_Zq Bundle.tN "SUPPRESSED_SENTINEL" Bundle.listD (fun q => s0.heap.size ≤ q) s s.heap :=
  ⟨vx_Zq.moved hE.1.alike (h.1.kept (fun a ha _ => hE.2.2 a ha)), vx_Zq.moved hE.1.alike (h.2.kept (fun a ha _ => hE.2.2 a ha))⟩
abbrev xN : List String := ["java/lang/RuntimeException", "java/lang/Exception"]
theorem aw_throw {mc0 ms0 : Nat} {post0 : Option Value → mu → Prop} {px0 : String → mu → Prop} (C : Cx p s m args meth c cc own nL Ts ret s0.heap.size D tys) (hE : EN s0 s) (hnt : ∀ x ∈ c.exceptionTable.toList, False) (hl : l.stackTraces = false) (hZ : TZ s0) {cls text : String} {ik is ic : Nat} (hfit : Bundle.fit cls = true) (hk : Cond.classLink own ik cls ∈ Ts) (hini : Cond.initialized cls ∈ Ts) (hstr : ∃ sa, vk_R own is text sa s0)
    (hg : ∀ w ∈ (vx_atS own ic cls xN).filter goodWord, w ∈ Ts) (hb : ∀ w ∈ (vx_atS own ic cls xN).filter (fun w => !goodWord w), w ∈ [Cond.castable cls cls]) (hca : va_Nw (.castable cls cls) s0) (hok : ∀ w ∈ Cond.classLink own ik cls :: Cond.initialized cls :: vx_atS own ic cls xN, vx_ot w = true)
    (d0 : decode cc pc = .ok (.new ik, 3)) (d3 : decode cc (pc + 3) = .ok (.dup, 1)) (d4 : decode cc (pc + 4) = .ok (.ldc is, 2)) (d6 : decode cc (pc + 6) = .ok (.invokespecial ic, 3)) (d9 : decode cc (pc + 9) = .ok (.athrow, 1))
    (hRf : 5 < R.frames) (hRl : (st.map fun v => v.category).sum + 82 ≤ R.locals) (hRc : cells + 1 ≤ R.cells) (hRs : slots + 6 ≤ R.slots) (hc : cells + 1 ≤ mc0) (hs : slots + 6 ≤ ms0) (hpx : px0 cls μ) :
    Aw p l e R s m args below meth c (vx_MQ below (mQc s0.heap.size D post0) (mXc s0.heap.size D px0) args s mc0 ms0 (fun q => s0.heap.size ≤ q)) s0.heap.size D nL μ cells slots pc lv st := by
  intro H locs ls h1 h2 h3
  obtain ⟨sa, hsa⟩ := hstr
  obtain ⟨z1, z2⟩ := hZ.at hE
  refine vx_throwS C.1 C.2.1 hl C.2.2.2.1 hfit (by decide +kernel) (C.2.2.2.2.1 _ hk) (C.2.2.2.2.1 _ hini) (vk_R.warm hE.1 hsa) (names := xN) (vx_hat (fun w hw => C.2.2.2.2.1 _ (hg w hw)) hb (vx_c (va_Nw.use rfl (va_Nw.warmC hE.1 hca)) vx_n)) hok z1 z2 h2 (by rw [C.2.2.1]; exact h3.1) d0 d3 d4 d6 d9 (fun x hx => (hnt x hx).elim) hRf (by simp only [xN, List.length_cons, List.length_nil]; omega) hRc hRs C.2.2.2.2.2.2.2.1 (fun t hvm hz hq => ?_) h2.2.2 hc hs
  have hW : mW s0.heap.size D μ t.heap := fun a x ha => ⟨(h1 a x ha).1.kept (hq a (h1.lt ha)), (h1 a x ha).2⟩
  exact ⟨⟨μ, hpx, hW⟩, Nat.le_trans h2.1 hz, fun q g1 g2 => (hq q (Nat.lt_of_lt_of_le g1 h2.1)).trans (h2.2.1 q g1 g2)⟩
end CALLS
end
