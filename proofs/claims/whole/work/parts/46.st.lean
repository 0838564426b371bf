/-! ===== the law: what its start gives ===== -/
theorem st_self {s : State} {C : String} {c : ClassId} (h : s.vm.findClass C = some c) : va_Nw (.castable C C) s := by
  have e : s.vm.assignable c c = true := by
    show s.vm.assignableAux (255 + 1) c c = true
    rw [Vm.assignableAux]
    simp only [beq_self_eq_true, Bool.true_or]
  unfold va_Nw
  simp only [Cond.before, Cond.holds, Cond.value, h, e]
  rfl
theorem st_nw {s : State} {args : Array Value} (hts : ∀ w ∈ lw_tbl, w.before args s = true) : ∀ w ∈ nwL, va_Nw w s := by
  obtain ⟨cRX0, iRX0, kRX0⟩ := u_known (C := RX0) (T := TX0) (N := 12) (n := 12) hts in_wsX00 (hts (.instantiable RX0 12) (List.mem_of_getElem? (i := 140) (by decide +kernel)))
  obtain ⟨cRX3, iRX3, kRX3⟩ := u_known (C := RX3) (T := TX3) (N := 5) (n := 5) hts in_wsX30 (hts (.instantiable RX3 5) (List.mem_of_getElem? (i := 192) (by decide +kernel)))
  obtain ⟨cRX5, iRX5, kRX5⟩ := u_known (C := RX5) (T := TX5) (N := 12) (n := 12) hts in_wsX50 (hts (.instantiable RX5 12) (List.mem_of_getElem? (i := 835) (by decide +kernel)))
  obtain ⟨cRX6, iRX6, kRX6⟩ := u_known (C := RX6) (T := TX6) (N := 5) (n := 5) hts in_wsX60 (hts (.instantiable RX6 5) (List.mem_of_getElem? (i := 943) (by decide +kernel)))
  exact List.forall_mem_cons.mpr ⟨va_Nw.of rfl (hts _ (List.mem_of_getElem? (i := 735) (by decide +kernel))), List.forall_mem_cons.mpr ⟨va_Nw.of rfl (hts _ (List.mem_of_getElem? (i := 840) (by decide +kernel))), List.forall_mem_cons.mpr ⟨va_Nw.of rfl (hts _ (List.mem_of_getElem? (i := 841) (by decide +kernel))), List.forall_mem_cons.mpr ⟨va_Nw.of rfl (hts _ (List.mem_of_getElem? (i := 842) (by decide +kernel))), List.forall_mem_cons.mpr ⟨va_Nw.of rfl (hts _ (List.mem_of_getElem? (i := 843) (by decide +kernel))), List.forall_mem_cons.mpr ⟨va_Nw.of rfl (hts _ (List.mem_of_getElem? (i := 844) (by decide +kernel))), List.forall_mem_cons.mpr ⟨va_Nw.of rfl (hts _ (List.mem_of_getElem? (i := 846) (by decide +kernel))), List.forall_mem_cons.mpr ⟨va_Nw.of rfl (hts _ (List.mem_of_getElem? (i := 847) (by decide +kernel))), List.forall_mem_cons.mpr ⟨va_Nw.of rfl (hts _ (List.mem_of_getElem? (i := 848) (by decide +kernel))), List.forall_mem_cons.mpr ⟨va_Nw.of rfl (hts _ (List.mem_of_getElem? (i := 849) (by decide +kernel))), List.forall_mem_cons.mpr ⟨va_Nw.of rfl (hts _ (List.mem_of_getElem? (i := 850) (by decide +kernel))), List.forall_mem_cons.mpr ⟨va_Nw.of rfl (hts _ (List.mem_of_getElem? (i := 851) (by decide +kernel))), List.forall_mem_cons.mpr ⟨va_Nw.of rfl (hts _ (List.mem_of_getElem? (i := 852) (by decide +kernel))), List.forall_mem_cons.mpr ⟨va_Nw.of rfl (hts _ (List.mem_of_getElem? (i := 948) (by decide +kernel))), List.forall_mem_cons.mpr ⟨va_Nw.of rfl (hts _ (List.mem_of_getElem? (i := 949) (by decide +kernel))), List.forall_mem_cons.mpr ⟨va_Nw.of rfl (hts _ (List.mem_of_getElem? (i := 951) (by decide +kernel))), List.forall_mem_cons.mpr ⟨va_Nw.of rfl (hts _ (List.mem_of_getElem? (i := 953) (by decide +kernel))), List.forall_mem_cons.mpr ⟨va_Nw.of rfl (hts _ (List.mem_of_getElem? (i := 955) (by decide +kernel))), List.forall_mem_cons.mpr ⟨va_Nw.of rfl (hts _ (List.mem_of_getElem? (i := 80) (by decide +kernel))), List.forall_mem_cons.mpr ⟨va_Nw.of rfl (hts _ (List.mem_of_getElem? (i := 125) (by decide +kernel))), List.forall_mem_cons.mpr ⟨va_Nw.of rfl (hts _ (List.mem_of_getElem? (i := 141) (by decide +kernel))), List.forall_mem_cons.mpr ⟨va_Nw.of rfl (hts _ (List.mem_of_getElem? (i := 193) (by decide +kernel))), List.forall_mem_cons.mpr ⟨va_Nw.of rfl (hts _ (List.mem_of_getElem? (i := 584) (by decide +kernel))), List.forall_mem_cons.mpr ⟨va_Nw.of rfl (hts _ (List.mem_of_getElem? (i := 836) (by decide +kernel))), List.forall_mem_cons.mpr ⟨va_Nw.of rfl (hts _ (List.mem_of_getElem? (i := 944) (by decide +kernel))), List.forall_mem_cons.mpr ⟨va_Nw.of rfl (hts _ (List.mem_of_getElem? (i := 415) (by decide +kernel))), List.forall_mem_cons.mpr ⟨va_Nw.of rfl (hts _ (List.mem_of_getElem? (i := 495) (by decide +kernel))), List.forall_mem_cons.mpr ⟨va_Nw.of rfl (hts _ (List.mem_of_getElem? (i := 322) (by decide +kernel))), List.forall_mem_cons.mpr ⟨va_Nw.of rfl (hts _ (List.mem_of_getElem? (i := 1261) (by decide +kernel))), List.forall_mem_cons.mpr ⟨va_Nw.of rfl (hts _ (List.mem_of_getElem? (i := 1262) (by decide +kernel))), List.forall_mem_cons.mpr ⟨st_self kRX0.2.1, List.forall_mem_cons.mpr ⟨st_self kRX3.2.1, List.forall_mem_cons.mpr ⟨st_self kRX5.2.1, List.forall_mem_cons.mpr ⟨st_self kRX6.2.1, List.forall_mem_cons.mpr ⟨va_Nw.of rfl (hts _ (List.mem_of_getElem? (i := 1044) (by decide +kernel))), List.forall_mem_cons.mpr ⟨va_Nw.of rfl (hts _ (List.mem_of_getElem? (i := 324) (by decide +kernel))), List.forall_mem_cons.mpr ⟨va_Nw.of rfl (hts _ (List.mem_of_getElem? (i := 326) (by decide +kernel))), List.forall_mem_cons.mpr ⟨va_Nw.of rfl (hts _ (List.mem_of_getElem? (i := 328) (by decide +kernel))), fun _ h => absurd h List.not_mem_nil⟩⟩⟩⟩⟩⟩⟩⟩⟩⟩⟩⟩⟩⟩⟩⟩⟩⟩⟩⟩⟩⟩⟩⟩⟩⟩⟩⟩⟩⟩⟩⟩⟩⟩⟩⟩⟩⟩
theorem st_arrO {s : State} {args : Array Value} {n : String} (h : (Cond.arrayOver (.object n)).before args s = true) : ∃ cA, ArrOfT s cA (.object n) ∧ va_RA s cA (.object n) := by
  obtain ⟨comp, c, k, h1, h2, h3, h4, h5⟩ := Cond.arrayOver_spec h
  exact ⟨c, fun N z => ⟨(fun q e => by cases e), k, h3, comp, h4⟩, k, comp, h3, h4, h1, h5⟩
theorem st_arrP {s : State} {args : Array Value} {ty : FieldType} (h : (Cond.arrayClass ty).before args s = true) : ∃ cA, ArrOfT s cA ty ∧ s.vm.findClass ("[" ++ ty.toString) = some cA := by
  obtain ⟨c, k, comp, h1, h2, h3⟩ := Cond.arrayClass_spec h
  exact ⟨c, fun N z => ⟨(fun q e => by cases e), k, h2, comp, h3⟩, h1⟩
section STA
variable {s : State} {args : Array Value}
theorem st_K (hts : ∀ w ∈ lw_tbl, w.before args s = true) : ∃ (D : va_G) (g : Nat → ClassId), va_K D vwCl (tyL g) s := by
  obtain ⟨c0, i0, k0⟩ := u_known (C := RJx35411) (T := TJx35411) (N := 4) (n := 4) hts in_wsJx354110 (hts (.instantiable RJx35411 4) (List.mem_of_getElem? (i := 1022) (by decide +kernel)))
  obtain ⟨c1, i1, k1⟩ := u_known (C := RJx4a65c) (T := TJx4a65c) (N := 3) (n := 3) hts in_wsJx4a65c0 (hts (.instantiable RJx4a65c 3) (List.mem_of_getElem? (i := 720) (by decide +kernel)))
  obtain ⟨c2, i2, k2⟩ := u_known (C := RX0) (T := TX0) (N := 12) (n := 12) hts in_wsX00 (hts (.instantiable RX0 12) (List.mem_of_getElem? (i := 140) (by decide +kernel)))
  obtain ⟨c3, i3, k3⟩ := u_known (C := RX1) (T := TX1) (N := 2) (n := 2) hts in_wsX10 (hts (.instantiable RX1 2) (List.mem_of_getElem? (i := 124) (by decide +kernel)))
  obtain ⟨c4, i4, k4⟩ := u_known (C := RX2) (T := TX2) (N := 10) (n := 10) hts in_wsX20 (hts (.instantiable RX2 10) (List.mem_of_getElem? (i := 79) (by decide +kernel)))
  obtain ⟨c5, i5, k5⟩ := u_known (C := RX3) (T := TX3) (N := 5) (n := 5) hts in_wsX30 (hts (.instantiable RX3 5) (List.mem_of_getElem? (i := 192) (by decide +kernel)))
  obtain ⟨c6, i6, k6⟩ := u_known (C := RX4) (T := TX4) (N := 16) (n := 16) hts in_wsX40 (hts (.instantiable RX4 16) (List.mem_of_getElem? (i := 67) (by decide +kernel)))
  obtain ⟨c7, i7, k7⟩ := u_known (C := RX5) (T := TX5) (N := 12) (n := 12) hts in_wsX50 (hts (.instantiable RX5 12) (List.mem_of_getElem? (i := 835) (by decide +kernel)))
  obtain ⟨c8, i8, k8⟩ := u_known (C := RX6) (T := TX6) (N := 5) (n := 5) hts in_wsX60 (hts (.instantiable RX6 5) (List.mem_of_getElem? (i := 943) (by decide +kernel)))
  obtain ⟨c9, i9, k9⟩ := u_known (C := RX7) (T := TX7) (N := 22) (n := 22) hts in_wsX70 (hts (.instantiable RX7 22) (List.mem_of_getElem? (i := 714) (by decide +kernel)))
  obtain ⟨a0, x0, y0⟩ := st_arrP (hts (.arrayClass .int) (List.mem_of_getElem? (i := 218) (by decide +kernel)))
  obtain ⟨a1, x1, y1⟩ := st_arrP (hts (.arrayClass .double) (List.mem_of_getElem? (i := 219) (by decide +kernel)))
  obtain ⟨a2, x2, y2⟩ := st_arrP (hts (.arrayClass .long) (List.mem_of_getElem? (i := 1250) (by decide +kernel)))
  obtain ⟨a3, x3, y3⟩ := st_arrO (hts (.arrayOver (.object "ArrowField$Archer")) (List.mem_of_getElem? (i := 75) (by decide +kernel)))
  obtain ⟨a4, x4, y4⟩ := st_arrO (hts (.arrayOver (.object "ArrowField$Quiver")) (List.mem_of_getElem? (i := 77) (by decide +kernel)))
  obtain ⟨a5, x5, y5⟩ := st_arrO (hts (.arrayOver (.object "java/lang/Object")) (List.mem_of_getElem? (i := 928) (by decide +kernel)))
  refine ⟨(fun k => if k = 0 then c0 else if k = 1 then c1 else if k = 2 then c2 else if k = 3 then c3 else if k = 4 then c4 else if k = 5 then c5 else if k = 6 then c6 else if k = 7 then c7 else if k = 8 then c8 else c9, fun k => if k = 0 then i0 else if k = 1 then i1 else if k = 2 then i2 else if k = 3 then i3 else if k = 4 then i4 else if k = 5 then i5 else if k = 6 then i6 else if k = 7 then i7 else if k = 8 then i8 else i9), fun k => if k = 0 then a0 else if k = 1 then a1 else if k = 2 then a2 else if k = 3 then a3 else if k = 4 then a4 else a5, ?_, ?_⟩
  · intro k q hq
    match k, hq with
    | 0, hq => cases hq; exact k0
    | 1, hq => cases hq; exact k1
    | 2, hq => cases hq; exact k2
    | 3, hq => cases hq; exact k3
    | 4, hq => cases hq; exact k4
    | 5, hq => cases hq; exact k5
    | 6, hq => cases hq; exact k6
    | 7, hq => cases hq; exact k7
    | 8, hq => cases hq; exact k8
    | 9, hq => cases hq; exact k9
    | k + 10, hq => cases hq
  · intro k q hq
    match k, hq with
    | 0, hq => cases hq; exact ⟨x0, y0⟩
    | 1, hq => cases hq; exact ⟨x1, y1⟩
    | 2, hq => cases hq; exact ⟨x2, y2⟩
    | 3, hq => cases hq; exact ⟨x3, y3⟩
    | 4, hq => cases hq; exact ⟨x4, y4⟩
    | 5, hq => cases hq; exact ⟨x5, y5⟩
    | k + 6, hq => cases hq
theorem st_TZ (hts : ∀ w ∈ lw_tbl, w.before args s = true) (hgv : (Jvm.Cond.and given_1 narrow_1).before args s = true) : TZ s := by
  have hs := flat_of_before _ hgv
  exact ⟨vx_Zqof (hts (.laysStatic "java/lang/Throwable" "UNASSIGNED_STACK" "[Ljava/lang/StackTraceElement;") (List.mem_of_getElem? (i := 347) (by decide +kernel))) (hts (.initialized "java/lang/Throwable") (List.mem_of_getElem? (i := 47) (by decide +kernel))) (hs (.isRef (.static "java/lang/Throwable" "UNASSIGNED_STACK" "[Ljava/lang/StackTraceElement;")) (by decide +kernel)) (fun a h => Nat.not_le.mpr h), vx_Zqof (hts (.laysStatic "java/lang/Throwable" "SUPPRESSED_SENTINEL" "Ljava/util/List;") (List.mem_of_getElem? (i := 349) (by decide +kernel))) (hts (.initialized "java/lang/Throwable") (List.mem_of_getElem? (i := 47) (by decide +kernel))) (hs (.isRef (.static "java/lang/Throwable" "SUPPRESSED_SENTINEL" "Ljava/util/List;")) (by decide +kernel)) (fun a h => Nat.not_le.mpr h)⟩
theorem st_str {k : Nat} {tx : String} (h1 : (Cond.stringRef RX4 k tx).before args s = true) (h2 : (Cond.exactly (.string RX4 k) "java/lang/String").before args s = true) : ∃ sa, vk_R RX4 k tx sa s := by
  obtain ⟨a, c, cell, k9, e1, -⟩ := Cond.exactly_spec h2
  exact ⟨a, vk_R.of h1 e1⟩
theorem st_strs (hts : ∀ w ∈ lw_tbl, w.before args s = true) (hgv : (Jvm.Cond.and given_1 narrow_1).before args s = true) : ∀ q ∈ stL, ∃ sa, vk_R RX4 q.1 q.2 sa s := by
  have hs := flat_of_before _ hgv
  exact List.forall_mem_cons.mpr ⟨st_str (hts (.stringRef RX4 56 "there are 6 archers") (List.mem_of_getElem? (i := 502) (by decide +kernel))) (hs (.exactly (.string RX4 56) "java/lang/String") (by decide +kernel)), List.forall_mem_cons.mpr ⟨st_str (hts (.stringRef RX4 70 "there are 6 quivers") (List.mem_of_getElem? (i := 516) (by decide +kernel))) (hs (.exactly (.string RX4 70) "java/lang/String") (by decide +kernel)), List.forall_mem_cons.mpr ⟨st_str (hts (.stringRef RX4 90 "a match is on") (List.mem_of_getElem? (i := 525) (by decide +kernel))) (hs (.exactly (.string RX4 90) "java/lang/String") (by decide +kernel)), List.forall_mem_cons.mpr ⟨st_str (hts (.stringRef RX4 113 "an arrow is stuck") (List.mem_of_getElem? (i := 547) (by decide +kernel))) (hs (.exactly (.string RX4 113) "java/lang/String") (by decide +kernel)), List.forall_mem_cons.mpr ⟨st_str (hts (.stringRef RX4 124 "the field is closed") (List.mem_of_getElem? (i := 562) (by decide +kernel))) (hs (.exactly (.string RX4 124) "java/lang/String") (by decide +kernel)), List.forall_mem_cons.mpr ⟨st_str (hts (.stringRef RX4 134 "the arrow is not here") (List.mem_of_getElem? (i := 568) (by decide +kernel))) (hs (.exactly (.string RX4 134) "java/lang/String") (by decide +kernel)), List.forall_mem_cons.mpr ⟨st_str (hts (.stringRef RX4 139 "a match is on, and it is another one's turn") (List.mem_of_getElem? (i := 569) (by decide +kernel))) (hs (.exactly (.string RX4 139) "java/lang/String") (by decide +kernel)), List.forall_mem_cons.mpr ⟨st_str (hts (.stringRef RX4 178 "nobody shoots a match alone") (List.mem_of_getElem? (i := 643) (by decide +kernel))) (hs (.exactly (.string RX4 178) "java/lang/String") (by decide +kernel)), List.forall_mem_cons.mpr ⟨st_str (hts (.stringRef RX4 181 "an archer has no quiver") (List.mem_of_getElem? (i := 644) (by decide +kernel))) (hs (.exactly (.string RX4 181) "java/lang/String") (by decide +kernel)), List.forall_mem_cons.mpr ⟨st_str (hts (.stringRef RX4 190 "no match is on") (List.mem_of_getElem? (i := 656) (by decide +kernel))) (hs (.exactly (.string RX4 190) "java/lang/String") (by decide +kernel)), List.forall_mem_cons.mpr ⟨st_str (hts (.stringRef RX4 302 "a number is out of its range") (List.mem_of_getElem? (i := 361) (by decide +kernel))) (hs (.exactly (.string RX4 302) "java/lang/String") (by decide +kernel)), List.forall_mem_cons.mpr ⟨st_str (hts (.stringRef RX4 306 "there is no such archer") (List.mem_of_getElem? (i := 422) (by decide +kernel))) (hs (.exactly (.string RX4 306) "java/lang/String") (by decide +kernel)), List.forall_mem_cons.mpr ⟨st_str (hts (.stringRef RX4 309 "there is no such quiver") (List.mem_of_getElem? (i := 474) (by decide +kernel))) (hs (.exactly (.string RX4 309) "java/lang/String") (by decide +kernel)), List.forall_mem_cons.mpr ⟨st_str (hts (.stringRef RX4 311 "there is no such arrow") (List.mem_of_getElem? (i := 483) (by decide +kernel))) (hs (.exactly (.string RX4 311) "java/lang/String") (by decide +kernel)), List.forall_mem_cons.mpr ⟨st_str (hts (.stringRef RX4 313 "the archer has no quiver") (List.mem_of_getElem? (i := 567) (by decide +kernel))) (hs (.exactly (.string RX4 313) "java/lang/String") (by decide +kernel)), fun _ h => absurd h List.not_mem_nil⟩⟩⟩⟩⟩⟩⟩⟩⟩⟩⟩⟩⟩⟩⟩
theorem st_LB (hts : ∀ w ∈ lw_tbl, w.before args s = true) (hgv : (Jvm.Cond.and given_1 narrow_1).before args s = true) : LB s := by
  have hs := flat_of_before _ hgv
  exact ⟨⟨st_nw hts, st_TZ hts hgv, st_strs hts hgv, ⟨va_AO.of (hts (.arrayOver (.object "ArrowField$Archer")) (List.mem_of_getElem? (i := 75) (by decide +kernel))), va_AO.of (hts (.arrayOver (.object "ArrowField$Quiver")) (List.mem_of_getElem? (i := 77) (by decide +kernel))), va_AO.of (hts (.arrayOver (.object "java/lang/Object")) (List.mem_of_getElem? (i := 928) (by decide +kernel)))⟩, va_Fw.of (hts (.declares ⟨"java/util/Iterator", "hasNext", "()Z"⟩) (List.mem_of_getElem? (i := 1043) (by decide +kernel))) (hts (.interfaceMethod "java/util/Iterator" "java/util/Iterator" "hasNext" "()Z") (List.mem_of_getElem? (i := 1042) (by decide +kernel))) (hts (.publicMethod yJx35411_hasNext_aae02) (List.mem_of_getElem? (i := 1048) (by decide +kernel))) (hts (.unhidden RJx35411 "hasNext" "()Z") (List.mem_of_getElem? (i := 1046) (by decide +kernel))) (hts (.castable RJx35411 "java/util/Iterator") (List.mem_of_getElem? (i := 1044) (by decide +kernel))), va_Fw.of (hts (.declares ⟨"java/util/Iterator", "next", "()Ljava/lang/Object;"⟩) (List.mem_of_getElem? (i := 1053) (by decide +kernel))) (hts (.interfaceMethod "java/util/Iterator" "java/util/Iterator" "next" "()Ljava/lang/Object;") (List.mem_of_getElem? (i := 1052) (by decide +kernel))) (hts (.publicMethod yJx35411_next_0502b) (List.mem_of_getElem? (i := 1057) (by decide +kernel))) (hts (.unhidden RJx35411 "next" "()Ljava/lang/Object;") (List.mem_of_getElem? (i := 1055) (by decide +kernel))) (hts (.castable RJx35411 "java/util/Iterator") (List.mem_of_getElem? (i := 1044) (by decide +kernel)))⟩, va_Nc.of (hs (.not (.castable ISE IAE)) (by decide +kernel)), va_Nc.of (hs (.not (.castable ISE IOB)) (by decide +kernel)), va_Nc.of (hs (.not (.castable IAE IOB)) (by decide +kernel))⟩
theorem st_BL (g : Nat → ClassId) (hts : ∀ w ∈ lw_tbl, w.before args s = true) (hgv : (Jvm.Cond.and given_1 narrow_1).before args s = true) : ∃ e0, BL s g e0 := by
  have hs := flat_of_before _ hgv
  have h1 := hs (.exactly (.static "java/util/ArrayList" "DEFAULTCAPACITY_EMPTY_ELEMENTDATA" "[Ljava/lang/Object;") "[Ljava/lang/Object;") (by decide +kernel)
  obtain ⟨a, c, cell, k, e1, e2, e3, e4, e5, e6, -⟩ := Cond.exactly_spec h1
  have h2 := hs (.arrayOf (.static "java/util/ArrayList" "DEFAULTCAPACITY_EMPTY_ELEMENTDATA" "[Ljava/lang/Object;") (.object "java/lang/Object")) (by decide +kernel)
  obtain ⟨g1, g2⟩ := Cond.arrayOf_spec h2 e1 e3
  have h3 := hs (.eq (.length (.static "java/util/ArrayList" "DEFAULTCAPACITY_EMPTY_ELEMENTDATA" "[Ljava/lang/Object;")) (.int 0)) (by decide +kernel)
  have key : ∀ t : Term, t.eval args s none [] s = some (.ref a) → (Cond.eq (.length t) (.int 0)).before args s = true → cell.slots.size = 0 := by
    intro t f1 h4
    simp only [Cond.before, Cond.holds, Cond.value, Term.eval, f1] at h4
    cases hA : s.arrayAt? a with
    | none => simp [hA] at h4
    | some cell2 =>
      obtain ⟨hc2, -⟩ := State.arrayAt?_spec hA
      rw [e3] at hc2
      cases hc2
      by_cases hlt : cell.slots.size < 2 ^ 31
      · simp [hA, hlt] at h4
        exact nI_inj (a := cell.slots.size) (b := 0) hlt (by decide) h4
      · simp [hA, hlt] at h4
  have hz := key _ e1 h3
  exact ⟨a, va_Zref (hts (.laysStatic "java/util/ArrayList" "DEFAULTCAPACITY_EMPTY_ELEMENTDATA" "[Ljava/lang/Object;") (List.mem_of_getElem? (i := 732) (by decide +kernel))) (hts (.initialized "java/util/ArrayList") (List.mem_of_getElem? (i := 46) (by decide +kernel))) e1 (fun a h => Nat.not_le.mpr h), cell, e3, g1, hz⟩
end STA
