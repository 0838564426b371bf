/-! ===== ArrowFieldModel: who wins, what is counted ===== -/
section KM4
variable {l : Launch} {s0 : State} {D : va_G} {g : Nat → ClassId}
set_option maxRecDepth 100000 in
set_option maxHeartbeats 4000000 in
theorem k_X7_win (B : Base s0) {μ : mu} {K : Nat → Nat → Nat} {e0 : Nat} {S : SS} {X : XS} (hM : RM g K e0 S X μ) (hI : Iv S) {i u : Nat} (hi : i < S.nA) (hu : u < 2) (hp : X.pa u = nI i) : Ct l yX7_win wsX7_win (rmOf 3 0 0 120) s0 D (tyL g) [.ref (K 0 0), .int (nI u)] μ 0 0 (fun v9 μ' => v9 = none ∧ RM g K e0 ((S.wc (upd S.c 14 (nI i))).wA (fu S.A i (upd (S.A i) 8 (S.A i 8 + 1)))) (X.wpa (upd (upd X.pa 0 (-1)) 1 (-1))) μ' ∧ FrM K S.nA S.nQ μ μ') := by
  refine Ct.of (cc := cX7_win) (own := RX7) (maxL := 2) (ret := none) (by decide) rfl rfl (Nat.le_of_ble_eq_true rfl) ?_
  intro p e s m args below meth c Q C hE hnm hQe
  have in_RX7 : ∀ w ∈ u_ws RX7 TX7 22, w ∈ wsX7_win := by decide +kernel
  have in_RX5 : ∀ w ∈ u_ws RX5 TX5 12, w ∈ wsX7_win := by decide +kernel
  have f29 : FL wsX7_win RX7 29 9 "ArrowFieldModel" RX7 TX7 22 13 := ⟨in_RX7, rfl, by decide, by decide +kernel, Or.inl rfl⟩
  have f26 : FL wsX7_win RX7 26 9 "ArrowFieldModel" RX7 TX7 22 12 := ⟨in_RX7, rfl, by decide, by decide +kernel, Or.inl rfl⟩
  have f10 : FL wsX7_win RX7 10 9 "ArrowFieldModel" RX7 TX7 22 1 := ⟨in_RX7, rfl, by decide, by decide +kernel, Or.inl rfl⟩
  have f247 : FN s0 wsX7_win RX7 247 7 "ArrowFieldModel$Archer" RX5 TX5 12 8 "ArrowFieldModel" := ⟨in_RX5, rfl, by decide, B.fnRX7_247, rfl⟩
  refine aw_aload_n C dX7_win_0 rfl ?_
  refine aw_aload_n C dX7_win_1 rfl ?_
  refine aw_get C f29 hM.mo rfl dX7_win_2 ?_
  refine aw_iload_n C dX7_win_5 rfl ?_
  refine aw_ialdE C (v := nI i) hM.pa rfl ⟨hu, by decide⟩ hp dX7_win_6 ?_
  refine aw_putE C f26 ftX7 (ty := .int) (by decide +kernel) rfl rfl hM.mo (Nat.le_of_ble_eq_true rfl) (fs' := [.int X.th, .ref (K 1 0), .ref (K 2 0), .int (S.c 4), .int (S.c 5), .int (S.c 6), .int (S.c 9), .int (S.c 10), .int (S.c 8), .int (S.c 13), .int (S.c 7), .int (S.c 11), .int (nI i), .ref (K 3 0), .ref (K 4 0), .ref (K 5 0), .double X.ne, .int (nI X.T), .int X.il, .double X.h, .double X.v, .long X.sm]) rfl dX7_win_7 ?_
  refine aw_re (P := fun μ1 => RM g K e0 (S.wc (upd S.c 14 (nI i))) X μ1 ∧ FrM K S.nA S.nQ μ μ1) ⟨hM.setMo (upd S.c 14 (nI i)) X rfl rfl rfl, (FrM.rf : FrM K S.nA S.nQ μ μ).mpw (m0 (by decide))⟩ (fun μ1 hq => ?_)
  obtain ⟨hM1, hF1⟩ := hq
  refine aw_aload_n C dX7_win_10 rfl ?_
  refine aw_get C f10 hM1.mo rfl dX7_win_11 ?_
  refine aw_aload_n C dX7_win_14 rfl ?_
  refine aw_get C f26 hM1.mo rfl dX7_win_15 ?_
  refine aw_eqi (y := nI i) rfl ?_
  refine aw_callV (n := 1) C hE (ci := 1) (q := (RJx4a65c, TJx4a65c, 3)) (k_getA B hM1 hI hi) gX7_win_Jx4a65c_get_915e3 rfl ⟨rfl, rfl⟩ (by decide +kernel) ⟨by decide, by decide⟩ rfl rfl hM1.aL rfl (Nat.le_of_ble_eq_true rfl) dX7_win_18 ⟨by decide, by decide⟩ (fun v μ' hp => ?_)
  obtain ⟨rfl, hm9⟩ := hp
  replace hm9 := hm9.symm
  subst hm9
  refine aw_st (st' := [.ref (K 8 i)]) rfl ?_
  refine aw_cast C (ci := 7) (by decide +kernel) (va_Nw.warmC hE.1 B.caXa) rfl (hM1.xa hi) dX7_win_21 ?_
  refine aw_dup C rfl dX7_win_24 ?_
  refine aw_getN C hE f247 (hM1.xa hi) rfl dX7_win_25 ?_
  refine aw_iconst C (v := 1) (by decide) dX7_win_28 ?_
  refine aw_iadd C dX7_win_29 ?_
  refine aw_putNE C hE f247 ftX5 (ty := .int) (by decide +kernel) rfl rfl (hM1.xa hi) (Nat.le_of_ble_eq_true rfl) (fs' := [.int ((S.wc (upd S.c 14 (nI i))).A i 0), .int ((S.wc (upd S.c 14 (nI i))).A i 1), .int ((S.wc (upd S.c 14 (nI i))).A i 2), .int ((S.wc (upd S.c 14 (nI i))).A i 3), .float ((S.wc (upd S.c 14 (nI i))).cr i), .int ((S.wc (upd S.c 14 (nI i))).A i 5), .int ((S.wc (upd S.c 14 (nI i))).A i 6), .int ((S.wc (upd S.c 14 (nI i))).A i 7), .int (((S.wc (upd S.c 14 (nI i))).A i 8) + 1), .int ((S.wc (upd S.c 14 (nI i))).A i 9), .int ((S.wc (upd S.c 14 (nI i))).A i 10), .int ((S.wc (upd S.c 14 (nI i))).A i 11)]) rfl dX7_win_30 ?_
  refine aw_re (P := fun μ1 => RM g K e0 ((S.wc (upd S.c 14 (nI i))).wA (fu (S.wc (upd S.c 14 (nI i))).A i (upd ((S.wc (upd S.c 14 (nI i))).A i) 8 (((S.wc (upd S.c 14 (nI i))).A i 8) + 1)))) X μ1 ∧ FrM K S.nA S.nQ μ μ1) ⟨hM1.setXA hi (upd ((S.wc (upd S.c 14 (nI i))).A i) 8 (((S.wc (upd S.c 14 (nI i))).A i 8) + 1)), hF1.mpw (m8 hi)⟩ (fun μ2 hq => ?_)
  obtain ⟨hM2, hF2⟩ := hq
  refine aw_aload_n C dX7_win_33 rfl ?_
  refine aw_get C f29 hM2.mo rfl dX7_win_34 ?_
  refine aw_iconst C (v := 0) (by decide) dX7_win_37 ?_
  refine aw_iconst C (v := (-1)) (by decide) dX7_win_38 ?_
  refine aw_iastE C hM2.pa (by decide : (0 : Int32) = nI 0) ⟨by decide, by decide⟩ dX7_win_39 ?_
  refine aw_re (P := fun μ1 => RM g K e0 ((S.wc (upd S.c 14 (nI i))).wA (fu (S.wc (upd S.c 14 (nI i))).A i (upd ((S.wc (upd S.c 14 (nI i))).A i) 8 (((S.wc (upd S.c 14 (nI i))).A i 8) + 1)))) (X.wpa (upd X.pa 0 (-1))) μ1 ∧ FrM K S.nA S.nQ μ μ1) ⟨hM2.setPa (upd X.pa 0 (-1)), hF2.mpw (m0 (by decide))⟩ (fun μ3 hq => ?_)
  obtain ⟨hM3, hF3⟩ := hq
  refine aw_aload_n C dX7_win_40 rfl ?_
  refine aw_get C f29 hM3.mo rfl dX7_win_41 ?_
  refine aw_iconst C (v := 1) (by decide) dX7_win_44 ?_
  refine aw_iconst C (v := (-1)) (by decide) dX7_win_45 ?_
  refine aw_iastE C hM3.pa (by decide : (1 : Int32) = nI 1) ⟨by decide, by decide⟩ dX7_win_46 ?_
  refine aw_re (P := fun μ1 => RM g K e0 ((S.wc (upd S.c 14 (nI i))).wA (fu (S.wc (upd S.c 14 (nI i))).A i (upd ((S.wc (upd S.c 14 (nI i))).A i) 8 (((S.wc (upd S.c 14 (nI i))).A i 8) + 1)))) ((X.wpa (upd X.pa 0 (-1))).wpa (upd ((X.wpa (upd X.pa 0 (-1))).pa) 1 (-1))) μ1 ∧ FrM K S.nA S.nQ μ μ1) ⟨hM3.setPa (upd ((X.wpa (upd X.pa 0 (-1))).pa) 1 (-1)), hF3.mpw (m0 (by decide))⟩ (fun μ4 hq => ?_)
  obtain ⟨hM4, hF4⟩ := hq
  refine aw_vret C hQe ?_ (by omega) (by omega) dX7_win_47
  exact ⟨rfl, hM4, hF4⟩
set_option maxRecDepth 100000 in
set_option maxHeartbeats 4000000 in
theorem k_X7_count (B : Base s0) {μ : mu} {K : Nat → Nat → Nat} {e0 : Nat} {S : SS} {X : XS} (hM : RM g K e0 S X μ) (hI : Iv S) {b : Nat} (hR : MR S X b) {sc : Int32} {d : UInt64} (hd : Nn d) (h0 : ¬ S.t 0 = 0) (hb : b < 2 ^ 30) : Ct l yX7_count wsX7_count (rmOf 4 0 0 170) s0 D (tyL g) [.ref (K 0 0), .int sc, .double d] μ 0 0 (fun v9 μ' => v9 = none ∧ (∃ X' : XS, RM g K e0 (cmS S sc d) X' μ' ∧ MR (cmS S sc d) X' (b + 1) ∧ X'.th = X.th) ∧ FrM K S.nA S.nQ μ μ') := by
  refine Ct.of (cc := cX7_count) (own := RX7) (maxL := 5) (ret := none) (by decide) rfl rfl (Nat.le_of_ble_eq_true rfl) ?_
  intro p e s m args below meth c Q C hE hnm hQe
  have in_RX7 : ∀ w ∈ u_ws RX7 TX7 22, w ∈ wsX7_count := by decide +kernel
  have f186 : FL wsX7_count RX7 186 9 "ArrowFieldModel" RX7 TX7 22 17 := ⟨in_RX7, rfl, by decide, by decide +kernel, Or.inl rfl⟩
  have f237 : FL wsX7_count RX7 237 9 "ArrowFieldModel" RX7 TX7 22 18 := ⟨in_RX7, rfl, by decide, by decide +kernel, Or.inl rfl⟩
  have f36 : FL wsX7_count RX7 36 9 "ArrowFieldModel" RX7 TX7 22 15 := ⟨in_RX7, rfl, by decide, by decide +kernel, Or.inl rfl⟩
  have f33 : FL wsX7_count RX7 33 9 "ArrowFieldModel" RX7 TX7 22 14 := ⟨in_RX7, rfl, by decide, by decide +kernel, Or.inl rfl⟩
  have f240 : FL wsX7_count RX7 240 9 "ArrowFieldModel" RX7 TX7 22 16 := ⟨in_RX7, rfl, by decide, by decide +kernel, Or.inl rfl⟩
  have hT2 : X.T < 2 ^ 30 := by have := hR.1; omega
  have hT3 : X.T + 1 < 2 ^ 31 := by omega
  obtain ⟨p0, p1, o0, o1, u0, u1, il, -, h5⟩ := hR.2.2 h0
  obtain ⟨-, k, i, j, hk4, hk, hi, h1, hj, h2, hij, h8⟩ := hI.on h0
  have hA6 := hI.A6
  refine aw_aload_n C dX7_count_0 rfl ?_
  refine aw_get C f186 hM.mo rfl dX7_count_1 ?_
  refine aw_iconst C (v := 2) (by decide) dX7_count_4 ?_
  refine aw_irem C (by decide) dX7_count_5 ?_
  refine aw_eqi (y := nI (X.T % 2)) (pk_rem (d := 2) (by omega) (by decide) (by decide)) ?_
  refine aw_istore C dX7_count_6 (by decide) ?_
  refine aw_aload_n C dX7_count_8 rfl ?_
  refine aw_dup C rfl dX7_count_9 ?_
  refine aw_get C f186 hM.mo rfl dX7_count_10 ?_
  refine aw_iconst C (v := 1) (by decide) dX7_count_13 ?_
  refine aw_iadd C dX7_count_14 ?_
  refine aw_eqi (y := nI (X.T + 1)) (nI_1 _) ?_
  refine aw_putE C f186 ftX7 (ty := .int) (by decide +kernel) rfl rfl hM.mo (Nat.le_of_ble_eq_true rfl) (fs' := [.int X.th, .ref (K 1 0), .ref (K 2 0), .int (S.c 4), .int (S.c 5), .int (S.c 6), .int (S.c 9), .int (S.c 10), .int (S.c 8), .int (S.c 13), .int (S.c 7), .int (S.c 11), .int (S.c 14), .ref (K 3 0), .ref (K 4 0), .ref (K 5 0), .double X.ne, .int (nI (X.T + 1)), .int X.il, .double X.h, .double X.v, .long X.sm]) rfl dX7_count_15 ?_
  refine aw_re (P := fun μ1 => RM g K e0 S (X.wT (X.T + 1)) μ1 ∧ FrM K S.nA S.nQ μ μ1) ⟨hM.setX (X.wT (X.T + 1)) rfl rfl rfl, (FrM.rf : FrM K S.nA S.nQ μ μ).mpw (m0 (by decide))⟩ (fun μ1 hq => ?_)
  obtain ⟨hM1, hF1⟩ := hq
  refine aw_aload_n C dX7_count_18 rfl ?_
  refine aw_get C f237 hM1.mo rfl dX7_count_19 ?_
  refine aw_eqi (y := X.il) rfl ?_
  refine aw_if_eq C (tgt := 66) dX7_count_22 (by decide) (fun c_22 => ?_) (fun c_22 => ?_)
  · refine aw_aload_n C dX7_count_66 rfl ?_
    refine aw_get C f36 hM1.mo rfl dX7_count_67 ?_
    refine aw_iload C dX7_count_70 rfl ?_
    refine aw_dup2 C rfl rfl dX7_count_72 ?_
    refine aw_ialdE C hM1.su rfl ⟨by omega, by decide⟩ rfl dX7_count_73 ?_
    refine aw_iload_n C dX7_count_74 rfl ?_
    refine aw_iadd C dX7_count_75 ?_
    refine aw_iastE C hM1.su rfl ⟨by omega, by decide⟩ dX7_count_76 ?_
    refine aw_re (P := fun μ1 => RM g K e0 S ((X.wT (X.T + 1)).wsu (upd X.su (X.T % 2) ((X.su (X.T % 2)) + sc))) μ1 ∧ FrM K S.nA S.nQ μ μ1) ⟨hM1.setSu (upd X.su (X.T % 2) ((X.su (X.T % 2)) + sc)), hF1.mpw (m0 (by decide))⟩ (fun μ2 hq => ?_)
    obtain ⟨hM2, hF2⟩ := hq
    have q8 : S.t 8 = 0 := il.symm.trans c_22
    obtain ⟨su9, hs9⟩ : ∃ f, f = upd X.su (X.T % 2) (X.su (X.T % 2) + sc) := ⟨_, rfl⟩
    obtain ⟨e5, e6⟩ := su_ok (sc := sc) hI hR h0 q8
    rw [← hs9] at e5 e6
    have hM9 : RM g K e0 S ((X.wT (X.T + 1)).wsu su9) μ2 := by rw [hs9]; exact hM2
    obtain ⟨a5, ha5⟩ : ∃ z, z = ptF (ctS S.t sc (ix (S.t 7)) 5) (ctS S.t sc (ix (S.t 7)) 6) := ⟨_, rfl⟩
    obtain ⟨a6, ha6⟩ : ∃ z, z = ptF (ctS S.t sc (ix (S.t 7)) 6) (ctS S.t sc (ix (S.t 7)) 5) := ⟨_, rfl⟩
    obtain ⟨s5, hs5⟩ : ∃ z, z = ctS S.t sc (ix (S.t 7)) 5 := ⟨_, rfl⟩
    obtain ⟨s6, hs6⟩ : ∃ z, z = ctS S.t sc (ix (S.t 7)) 6 := ⟨_, rfl⟩
    obtain ⟨v8, hv8⟩ : ∃ z, z = v8F S sc := ⟨_, rfl⟩
    have hq3 : S.t 3 + a5 = q3F S sc := by rw [ha5]
    have hq4 : S.t 4 + a6 = q4F S sc := by rw [ha6]
    have v801 : v8 = 0 ∨ v8 = 1 := by rw [hv8]; exact v8_01
    have e5s := e5
    have e6s := e6
    rw [← hs5] at e5 ha5 ha6
    rw [← hs6] at e6 ha5 ha6
    refine aw_aload_n C dX7_count_77 rfl ?_
    refine aw_get C f186 hM9.mo rfl dX7_count_78 ?_
    refine aw_iconst C (v := 4) (by decide) dX7_count_81 ?_
    refine aw_irem C (by decide) dX7_count_82 ?_
    refine aw_eqi (y := nI ((X.T + 1) % 4)) (pk_rem (d := 4) hT3 (by decide) (by decide)) ?_
    refine aw_if_eq C (tgt := 87) dX7_count_83 (by decide) (fun c_83 => ?_) (fun c_83 => ?_)
    · have j133 : Aw p l e (rmOf 4 0 0 170) s m args below meth c Q s0.heap.size D 5 μ2 0 0 133 [(0, .ref (K 0 0)), (1, .int sc), (2, .double d), (4, .int (nI (X.T % 2)))] [.int a5, .int (S.t 3), .int 0, .ref (K 4 0)] := by
        refine aw_iadd C dX7_count_133 ?_
        refine aw_iastE C hM9.po (by decide : (0 : Int32) = nI 0) ⟨by decide, by decide⟩ dX7_count_134 ?_
        refine aw_re (P := fun μ1 => RM g K e0 S (((X.wT (X.T + 1)).wpo (upd X.po 0 ((S.t 3) + a5))).wsu su9) μ1 ∧ FrM K S.nA S.nQ μ μ1) ⟨hM9.setPo (upd X.po 0 ((S.t 3) + a5)), hF2.mpw (m0 (by decide))⟩ (fun μ3 hq => ?_)
        obtain ⟨hM3, hF3⟩ := hq
        have j181 : Aw p l e (rmOf 4 0 0 170) s m args below meth c Q s0.heap.size D 5 μ3 0 0 181 [(0, .ref (K 0 0)), (1, .int sc), (2, .double d), (4, .int (nI (X.T % 2)))] [.int a6, .int (S.t 4), .int 1, .ref (K 4 0)] := by
          refine aw_iadd C dX7_count_181 ?_
          refine aw_iastE C hM3.po (by decide : (1 : Int32) = nI 1) ⟨by decide, by decide⟩ dX7_count_182 ?_
          refine aw_re (P := fun μ1 => RM g K e0 S (((X.wT (X.T + 1)).wpo (upd (upd X.po 0 ((S.t 3) + a5)) 1 ((S.t 4) + a6))).wsu su9) μ1 ∧ FrM K S.nA S.nQ μ μ1) ⟨hM3.setPo (upd (upd X.po 0 ((S.t 3) + a5)) 1 ((S.t 4) + a6)), hF3.mpw (m0 (by decide))⟩ (fun μ4 hq => ?_)
          obtain ⟨hM4, hF4⟩ := hq
          refine aw_aload_n C dX7_count_183 rfl ?_
          refine aw_get C f36 hM4.mo rfl dX7_count_184 ?_
          refine aw_iconst C (v := 0) (by decide) dX7_count_187 ?_
          refine aw_iconst C (v := 0) (by decide) dX7_count_188 ?_
          refine aw_iastE C hM4.su (by decide : (0 : Int32) = nI 0) ⟨by decide, by decide⟩ dX7_count_189 ?_
          refine aw_re (P := fun μ1 => RM g K e0 S (((X.wT (X.T + 1)).wpo (upd (upd X.po 0 ((S.t 3) + a5)) 1 ((S.t 4) + a6))).wsu (upd su9 0 0)) μ1 ∧ FrM K S.nA S.nQ μ μ1) ⟨hM4.setSu (upd su9 0 0), hF4.mpw (m0 (by decide))⟩ (fun μ5 hq => ?_)
          obtain ⟨hM5, hF5⟩ := hq
          refine aw_aload_n C dX7_count_190 rfl ?_
          refine aw_get C f36 hM5.mo rfl dX7_count_191 ?_
          refine aw_iconst C (v := 1) (by decide) dX7_count_194 ?_
          refine aw_iconst C (v := 0) (by decide) dX7_count_195 ?_
          refine aw_iastE C hM5.su (by decide : (1 : Int32) = nI 1) ⟨by decide, by decide⟩ dX7_count_196 ?_
          refine aw_re (P := fun μ1 => RM g K e0 S (((X.wT (X.T + 1)).wpo (upd (upd X.po 0 ((S.t 3) + a5)) 1 ((S.t 4) + a6))).wsu (upd (upd su9 0 0) 1 0)) μ1 ∧ FrM K S.nA S.nQ μ μ1) ⟨hM5.setSu (upd (upd su9 0 0) 1 0), hF5.mpw (m0 (by decide))⟩ (fun μ6 hq => ?_)
          obtain ⟨hM6, hF6⟩ := hq
          have j223 : Aw p l e (rmOf 4 0 0 170) s m args below meth c Q s0.heap.size D 5 μ6 0 0 223 [(0, .ref (K 0 0)), (1, .int sc), (2, .double d), (4, .int (nI (X.T % 2)))] [.int v8, .ref (K 0 0)] := by
            refine aw_putE C f237 ftX7 (ty := .boolean) (by decide +kernel) (b01 v801) (b01_fits v801) hM6.mo (Nat.le_of_ble_eq_true rfl) (fs' := [.int X.th, .ref (K 1 0), .ref (K 2 0), .int (S.c 4), .int (S.c 5), .int (S.c 6), .int (S.c 9), .int (S.c 10), .int (S.c 8), .int (S.c 13), .int (S.c 7), .int (S.c 11), .int (S.c 14), .ref (K 3 0), .ref (K 4 0), .ref (K 5 0), .double X.ne, .int (nI (X.T + 1)), .int v8, .double X.h, .double X.v, .long X.sm]) rfl dX7_count_223 ?_
            refine aw_re (P := fun μ1 => RM g K e0 S ((((X.wT (X.T + 1)).wil v8).wpo (upd (upd X.po 0 ((S.t 3) + a5)) 1 ((S.t 4) + a6))).wsu (upd (upd su9 0 0) 1 0)) μ1 ∧ FrM K S.nA S.nQ μ μ1) ⟨hM6.setX ((((X.wT (X.T + 1)).wil v8).wpo (upd (upd X.po 0 ((S.t 3) + a5)) 1 ((S.t 4) + a6))).wsu (upd (upd su9 0 0) 1 0)) rfl rfl rfl, hF6.mpw (m0 (by decide))⟩ (fun μ7 hq => ?_)
            obtain ⟨hM7, hF7⟩ := hq
            refine aw_aload_n C dX7_count_226 rfl ?_
            refine aw_get C f237 hM7.mo rfl dX7_count_227 ?_
            refine aw_eqi (y := v8) rfl ?_
            refine aw_if_eq C (tgt := 234) dX7_count_230 (by decide) (fun c_230 => ?_) (fun c_230 => ?_)
            · refine aw_aload_n C dX7_count_234 rfl ?_
              refine aw_get C f33 hM7.mo rfl dX7_count_235 ?_
              refine aw_iconst C (v := 0) (by decide) dX7_count_238 ?_
              refine aw_ialdE C (v := S.t 3 + a5) hM7.po (by decide : (0 : Int32) = nI 0) ⟨by decide, by decide⟩ rfl dX7_count_239 ?_
              refine aw_iconst C (v := 4) (by decide) dX7_count_240 ?_
              refine aw_icmp_lt C (tgt := 252) dX7_count_241 (by decide) (fun c_241 => ?_) (fun c_241 => ?_)
              · refine aw_aload_n C dX7_count_252 rfl ?_
                refine aw_get C f33 hM7.mo rfl dX7_count_253 ?_
                refine aw_iconst C (v := 1) (by decide) dX7_count_256 ?_
                refine aw_ialdE C (v := S.t 4 + a6) hM7.po (by decide : (1 : Int32) = nI 1) ⟨by decide, by decide⟩ rfl dX7_count_257 ?_
                refine aw_iconst C (v := 4) (by decide) dX7_count_258 ?_
                refine aw_icmp_lt C (tgt := 267) dX7_count_259 (by decide) (fun c_259 => ?_) (fun c_259 => ?_)
                · refine aw_vret C hQe ?_ (by omega) (by omega) dX7_count_267
                  have q4 : (X.T + 1) % 4 = 0 := nI_inj (b := 0) (by omega) (by decide) c_83
                  have er := (cm_E0 (sc := sc) (d := d) hI hR h0 q8 q4).2
                  have hv : v8F S sc = 0 := by rw [← hv8]; exact c_230
                  rw [hq3] at c_241
                  rw [hq4] at c_259
                  have er2 : cmR S sc d = -1 := by
                    rw [er, if_pos c_241, if_pos c_259]
                  obtain ⟨ec, em⟩ := cm_E (sc := sc) (d := d) hI hR h0 q8 q4 er2 (X' := (((X.wT (X.T + 1)).wil v8).wpo (upd (upd X.po 0 ((S.t 3) + a5)) 1 ((S.t 4) + a6))).wsu (upd (upd su9 0 0) 1 0)) rfl rfl ⟨hq3, hq4⟩ ⟨rfl, rfl⟩ hv8
                  exact ⟨rfl, ⟨(((X.wT (X.T + 1)).wil v8).wpo (upd (upd X.po 0 ((S.t 3) + a5)) 1 ((S.t 4) + a6))).wsu (upd (upd su9 0 0) 1 0), by rw [ec]; exact (hM7.wt _), em, rfl⟩, hF7⟩
                · refine aw_aload_n C dX7_count_262 rfl ?_
                  refine aw_iconst C (v := 1) (by decide) dX7_count_263 ?_
                  refine aw_eqi (y := nI 1) rfl ?_
                  refine aw_callV (n := 1) C hE (ci := 9) (q := (RX7, TX7, 22)) (k_X7_win (i := j) (u := 1) B hM7 hI hj (by decide) (p1.trans h2)) gX7_count_X7_win rfl ⟨rfl, rfl⟩ (by decide +kernel) ⟨by decide, by decide⟩ rfl rfl hM7.mo rfl (Nat.le_of_ble_eq_true rfl) dX7_count_264 ⟨by decide, by decide⟩ (fun v μ' hp => ?_)
                  obtain ⟨rfl, hM8, hG8⟩ := hp
                  have hF8 : FrM K S.nA S.nQ μ _ := hF7.tr hG8
                  refine aw_st (st' := []) rfl ?_
                  refine aw_vret C hQe ?_ (by omega) (by omega) dX7_count_267
                  have q4 : (X.T + 1) % 4 = 0 := nI_inj (b := 0) (by omega) (by decide) c_83
                  have er := (cm_E0 (sc := sc) (d := d) hI hR h0 q8 q4).2
                  have hv : v8F S sc = 0 := by rw [← hv8]; exact c_230
                  rw [hq3] at c_241
                  rw [hq4] at c_259
                  have er2 : cmR S sc d = nI j := by
                    rw [er, if_pos c_241, if_neg c_259]
                    exact h2
                  have ec := cm_F (sc := sc) (d := d) hI hR h0 q8 q4 (i := j) (by omega) er2
                  exact ⟨rfl, ⟨((((X.wT (X.T + 1)).wil v8).wpa (upd (upd X.pa 0 (-1)) 1 (-1))).wpo (upd (upd X.po 0 ((S.t 3) + a5)) 1 ((S.t 4) + a6))).wsu (upd (upd su9 0 0) 1 0), by rw [ec, cmW_eq (by omega)]; exact hM8.wt _, by rw [ec]; exact MR_win (by omega) (Nat.succ_le_succ hR.1) rfl, rfl⟩, hF8⟩
              · refine aw_aload_n C dX7_count_244 rfl ?_
                refine aw_iconst C (v := 0) (by decide) dX7_count_245 ?_
                refine aw_eqi (y := nI 0) rfl ?_
                refine aw_callV (n := 1) C hE (ci := 9) (q := (RX7, TX7, 22)) (k_X7_win (i := i) (u := 0) B hM7 hI hi (by decide) (p0.trans h1)) gX7_count_X7_win rfl ⟨rfl, rfl⟩ (by decide +kernel) ⟨by decide, by decide⟩ rfl rfl hM7.mo rfl (Nat.le_of_ble_eq_true rfl) dX7_count_246 ⟨by decide, by decide⟩ (fun v μ' hp => ?_)
                obtain ⟨rfl, hM8, hG8⟩ := hp
                have hF8 : FrM K S.nA S.nQ μ _ := hF7.tr hG8
                refine aw_st (st' := []) rfl ?_
                refine aw_goto C (tgt := 267) dX7_count_249 (by decide) ?_
                refine aw_vret C hQe ?_ (by omega) (by omega) dX7_count_267
                have q4 : (X.T + 1) % 4 = 0 := nI_inj (b := 0) (by omega) (by decide) c_83
                have er := (cm_E0 (sc := sc) (d := d) hI hR h0 q8 q4).2
                have hv : v8F S sc = 0 := by rw [← hv8]; exact c_230
                rw [hq3] at c_241
                have er2 : cmR S sc d = nI i := by
                  rw [er, if_neg c_241, if_pos (Classical.byContradiction fun q => by unfold v8F at hv; rw [if_neg c_241, if_neg q] at hv; exact absurd hv (by decide))]
                  exact h1
                have ec := cm_F (sc := sc) (d := d) hI hR h0 q8 q4 (i := i) (by omega) er2
                exact ⟨rfl, ⟨((((X.wT (X.T + 1)).wil v8).wpa (upd (upd X.pa 0 (-1)) 1 (-1))).wpo (upd (upd X.po 0 ((S.t 3) + a5)) 1 ((S.t 4) + a6))).wsu (upd (upd su9 0 0) 1 0), by rw [ec, cmW_eq (by omega)]; exact hM8.wt _, by rw [ec]; exact MR_win (by omega) (Nat.succ_le_succ hR.1) rfl, rfl⟩, hF8⟩
            · refine aw_vret C hQe ?_ (by omega) (by omega) dX7_count_233
              have q4 : (X.T + 1) % 4 = 0 := nI_inj (b := 0) (by omega) (by decide) c_83
              have er := (cm_E0 (sc := sc) (d := d) hI hR h0 q8 q4).2
              have hv : ¬ v8F S sc = 0 := by rw [← hv8]; exact c_230
              have er2 : cmR S sc d = -1 := by
                rw [er]
                unfold v8F at hv
                by_cases a : q3F S sc < 4
                · rw [if_pos a] at hv; exact absurd rfl hv
                · rw [if_neg a] at hv ⊢
                  by_cases b9 : q4F S sc < 4
                  · rw [if_pos b9] at hv; exact absurd rfl hv
                  · rw [if_neg b9]
              obtain ⟨ec, em⟩ := cm_E (sc := sc) (d := d) hI hR h0 q8 q4 er2 (X' := (((X.wT (X.T + 1)).wil v8).wpo (upd (upd X.po 0 ((S.t 3) + a5)) 1 ((S.t 4) + a6))).wsu (upd (upd su9 0 0) 1 0)) rfl rfl ⟨hq3, hq4⟩ ⟨rfl, rfl⟩ hv8
              exact ⟨rfl, ⟨(((X.wT (X.T + 1)).wil v8).wpo (upd (upd X.po 0 ((S.t 3) + a5)) 1 ((S.t 4) + a6))).wsu (upd (upd su9 0 0) 1 0), by rw [ec]; exact (hM7.wt _), em, rfl⟩, hF7⟩
          refine aw_aload_n C dX7_count_197 rfl ?_
          refine aw_aload_n C dX7_count_198 rfl ?_
          refine aw_get C f33 hM6.mo rfl dX7_count_199 ?_
          refine aw_iconst C (v := 0) (by decide) dX7_count_202 ?_
          refine aw_ialdE C (v := S.t 3 + a5) hM6.po (by decide : (0 : Int32) = nI 0) ⟨by decide, by decide⟩ rfl dX7_count_203 ?_
          refine aw_iconst C (v := 4) (by decide) dX7_count_204 ?_
          refine aw_icmp_lt C (tgt := 222) dX7_count_205 (by decide) (fun c_205 => ?_) (fun c_205 => ?_)
          · refine aw_iconst C (v := 0) (by decide) dX7_count_222 ?_
            refine aw_eqi (y := v8) (by rw [hv8]; unfold v8F; rw [← hq3, ← hq4]; rw [if_pos c_205]) ?_
            refine aw_lv (lv' := [(0, .ref (K 0 0)), (1, .int sc), (2, .double d), (4, .int (nI (X.T % 2)))]) ⟨rfl, rfl, rfl, rfl, trivial⟩ ?_
            exact j223
          · refine aw_aload_n C dX7_count_208 rfl ?_
            refine aw_get C f33 hM6.mo rfl dX7_count_209 ?_
            refine aw_iconst C (v := 1) (by decide) dX7_count_212 ?_
            refine aw_ialdE C (v := S.t 4 + a6) hM6.po (by decide : (1 : Int32) = nI 1) ⟨by decide, by decide⟩ rfl dX7_count_213 ?_
            refine aw_iconst C (v := 4) (by decide) dX7_count_214 ?_
            refine aw_icmp_lt C (tgt := 222) dX7_count_215 (by decide) (fun c_215 => ?_) (fun c_215 => ?_)
            · refine aw_iconst C (v := 0) (by decide) dX7_count_222 ?_
              refine aw_eqi (y := v8) (by rw [hv8]; unfold v8F; rw [← hq3, ← hq4]; rw [if_neg c_205, if_pos c_215]) ?_
              refine aw_lv (lv' := [(0, .ref (K 0 0)), (1, .int sc), (2, .double d), (4, .int (nI (X.T % 2)))]) ⟨rfl, rfl, rfl, rfl, trivial⟩ ?_
              exact j223
            · refine aw_iconst C (v := 1) (by decide) dX7_count_218 ?_
              refine aw_goto C (tgt := 223) dX7_count_219 (by decide) ?_
              refine aw_eqi (y := v8) (by rw [hv8]; unfold v8F; rw [← hq3, ← hq4]; rw [if_neg c_205, if_neg c_215]) ?_
              refine aw_lv (lv' := [(0, .ref (K 0 0)), (1, .int sc), (2, .double d), (4, .int (nI (X.T % 2)))]) ⟨rfl, rfl, rfl, rfl, trivial⟩ ?_
              exact j223
        refine aw_aload_n C dX7_count_135 rfl ?_
        refine aw_get C f33 hM3.mo rfl dX7_count_136 ?_
        refine aw_iconst C (v := 1) (by decide) dX7_count_139 ?_
        refine aw_dup2 C rfl rfl dX7_count_140 ?_
        refine aw_ialdE C (v := S.t 4) hM3.po (by decide : (1 : Int32) = nI 1) ⟨by decide, by decide⟩ o1 dX7_count_141 ?_
        refine aw_aload_n C dX7_count_142 rfl ?_
        refine aw_get C f36 hM3.mo rfl dX7_count_143 ?_
        refine aw_iconst C (v := 1) (by decide) dX7_count_146 ?_
        refine aw_ialdE C (v := s6) hM3.su (by decide : (1 : Int32) = nI 1) ⟨by decide, by decide⟩ e6 dX7_count_147 ?_
        refine aw_aload_n C dX7_count_148 rfl ?_
        refine aw_get C f36 hM3.mo rfl dX7_count_149 ?_
        refine aw_iconst C (v := 0) (by decide) dX7_count_152 ?_
        refine aw_ialdE C (v := s5) hM3.su (by decide : (0 : Int32) = nI 0) ⟨by decide, by decide⟩ e5 dX7_count_153 ?_
        refine aw_icmp_le C (tgt := 161) dX7_count_154 (by decide) (fun c_154 => ?_) (fun c_154 => ?_)
        · refine aw_aload_n C dX7_count_161 rfl ?_
          refine aw_get C f36 hM3.mo rfl dX7_count_162 ?_
          refine aw_iconst C (v := 0) (by decide) dX7_count_165 ?_
          refine aw_ialdE C (v := s5) hM3.su (by decide : (0 : Int32) = nI 0) ⟨by decide, by decide⟩ e5 dX7_count_166 ?_
          refine aw_aload_n C dX7_count_167 rfl ?_
          refine aw_get C f36 hM3.mo rfl dX7_count_168 ?_
          refine aw_iconst C (v := 1) (by decide) dX7_count_171 ?_
          refine aw_ialdE C (v := s6) hM3.su (by decide : (1 : Int32) = nI 1) ⟨by decide, by decide⟩ e6 dX7_count_172 ?_
          refine aw_icmp_ne C (tgt := 180) dX7_count_173 (by decide) (fun c_173 => ?_) (fun c_173 => ?_)
          · refine aw_iconst C (v := 0) (by decide) dX7_count_180 ?_
            refine aw_eqi (y := a6) (by rw [ha6]; unfold ptF; rw [if_neg (fun q => c_173 q.symm), if_neg (Int32.not_lt.mpr c_154)]) ?_
            refine aw_lv (lv' := [(0, .ref (K 0 0)), (1, .int sc), (2, .double d), (4, .int (nI (X.T % 2)))]) ⟨rfl, rfl, rfl, rfl, trivial⟩ ?_
            exact j181
          · refine aw_iconst C (v := 1) (by decide) dX7_count_176 ?_
            refine aw_goto C (tgt := 181) dX7_count_177 (by decide) ?_
            refine aw_eqi (y := a6) (by rw [ha6]; unfold ptF; rw [if_pos c_173.symm]) ?_
            refine aw_lv (lv' := [(0, .ref (K 0 0)), (1, .int sc), (2, .double d), (4, .int (nI (X.T % 2)))]) ⟨rfl, rfl, rfl, rfl, trivial⟩ ?_
            exact j181
        · refine aw_iconst C (v := 2) (by decide) dX7_count_157 ?_
          refine aw_goto C (tgt := 181) dX7_count_158 (by decide) ?_
          refine aw_eqi (y := a6) (by rw [ha6]; unfold ptF; rw [if_neg (fun q => by rw [q] at c_154; exact c_154 (Int32.le_refl _)), if_pos (Int32.not_le.mp c_154)]) ?_
          refine aw_lv (lv' := [(0, .ref (K 0 0)), (1, .int sc), (2, .double d), (4, .int (nI (X.T % 2)))]) ⟨rfl, rfl, rfl, rfl, trivial⟩ ?_
          exact j181
      refine aw_aload_n C dX7_count_87 rfl ?_
      refine aw_get C f33 hM9.mo rfl dX7_count_88 ?_
      refine aw_iconst C (v := 0) (by decide) dX7_count_91 ?_
      refine aw_dup2 C rfl rfl dX7_count_92 ?_
      refine aw_ialdE C (v := S.t 3) hM9.po (by decide : (0 : Int32) = nI 0) ⟨by decide, by decide⟩ o0 dX7_count_93 ?_
      refine aw_aload_n C dX7_count_94 rfl ?_
      refine aw_get C f36 hM9.mo rfl dX7_count_95 ?_
      refine aw_iconst C (v := 0) (by decide) dX7_count_98 ?_
      refine aw_ialdE C (v := s5) hM9.su (by decide : (0 : Int32) = nI 0) ⟨by decide, by decide⟩ e5 dX7_count_99 ?_
      refine aw_aload_n C dX7_count_100 rfl ?_
      refine aw_get C f36 hM9.mo rfl dX7_count_101 ?_
      refine aw_iconst C (v := 1) (by decide) dX7_count_104 ?_
      refine aw_ialdE C (v := s6) hM9.su (by decide : (1 : Int32) = nI 1) ⟨by decide, by decide⟩ e6 dX7_count_105 ?_
      refine aw_icmp_le C (tgt := 113) dX7_count_106 (by decide) (fun c_106 => ?_) (fun c_106 => ?_)
      · refine aw_aload_n C dX7_count_113 rfl ?_
        refine aw_get C f36 hM9.mo rfl dX7_count_114 ?_
        refine aw_iconst C (v := 0) (by decide) dX7_count_117 ?_
        refine aw_ialdE C (v := s5) hM9.su (by decide : (0 : Int32) = nI 0) ⟨by decide, by decide⟩ e5 dX7_count_118 ?_
        refine aw_aload_n C dX7_count_119 rfl ?_
        refine aw_get C f36 hM9.mo rfl dX7_count_120 ?_
        refine aw_iconst C (v := 1) (by decide) dX7_count_123 ?_
        refine aw_ialdE C (v := s6) hM9.su (by decide : (1 : Int32) = nI 1) ⟨by decide, by decide⟩ e6 dX7_count_124 ?_
        refine aw_icmp_ne C (tgt := 132) dX7_count_125 (by decide) (fun c_125 => ?_) (fun c_125 => ?_)
        · refine aw_iconst C (v := 0) (by decide) dX7_count_132 ?_
          refine aw_eqi (y := a5) (by rw [ha5]; unfold ptF; rw [if_neg c_125, if_neg (Int32.not_lt.mpr c_106)]) ?_
          refine aw_lv (lv' := [(0, .ref (K 0 0)), (1, .int sc), (2, .double d), (4, .int (nI (X.T % 2)))]) ⟨rfl, rfl, rfl, rfl, trivial⟩ ?_
          exact j133
        · refine aw_iconst C (v := 1) (by decide) dX7_count_128 ?_
          refine aw_goto C (tgt := 133) dX7_count_129 (by decide) ?_
          refine aw_eqi (y := a5) (by rw [ha5]; unfold ptF; rw [if_pos c_125]) ?_
          refine aw_lv (lv' := [(0, .ref (K 0 0)), (1, .int sc), (2, .double d), (4, .int (nI (X.T % 2)))]) ⟨rfl, rfl, rfl, rfl, trivial⟩ ?_
          exact j133
      · refine aw_iconst C (v := 2) (by decide) dX7_count_109 ?_
        refine aw_goto C (tgt := 133) dX7_count_110 (by decide) ?_
        refine aw_eqi (y := a5) (by rw [ha5]; unfold ptF; rw [if_neg (fun q => by rw [q] at c_106; exact c_106 (Int32.le_refl _)), if_pos (Int32.not_le.mp c_106)]) ?_
        refine aw_lv (lv' := [(0, .ref (K 0 0)), (1, .int sc), (2, .double d), (4, .int (nI (X.T % 2)))]) ⟨rfl, rfl, rfl, rfl, trivial⟩ ?_
        exact j133
    · refine aw_vret C hQe ?_ (by omega) (by omega) dX7_count_86
      have q4 : ¬ (X.T + 1) % 4 = 0 := fun q => c_83 (by rw [q]; rfl)
      obtain ⟨ec, em⟩ := cm_D (sc := sc) (d := d) hI hR h0 q8 q4 e5s e6s
      exact ⟨rfl, ⟨(X.wT (X.T + 1)).wsu su9, by rw [ec]; exact (hM9.wt _), em, rfl⟩, hF2⟩
  · have q8 : ¬ S.t 8 = 0 := fun q => c_22 (il.trans q)
    refine aw_iload C dX7_count_25 rfl ?_
    refine aw_if_ne C (tgt := 38) dX7_count_27 (by decide) (fun c_27 => ?_) (fun c_27 => ?_)
    · have hw : X.T % 2 = 1 := by rcases (show X.T % 2 = 0 ∨ X.T % 2 = 1 by omega) with q | q; exact absurd (show nI (X.T % 2) = 0 by rw [q]; rfl) c_27; exact q
      have hne : X.ne = S.la := (h5 q8).2 hw
      have hln : Nn X.ne := by rw [hne]; exact hI.2.2.2.2.2.2.2.2.1.nn (by decide)
      refine aw_dload_n C dX7_count_38 rfl ?_
      refine aw_aload_n C dX7_count_39 rfl ?_
      refine aw_get C f240 hM1.mo rfl dX7_count_40 ?_
      refine aw_dcmp C dX7_count_43 ?_
      refine aw_if_eq C (tgt := 65) dX7_count_44 (by decide) (fun c_44 => ?_) (fun c_44 => ?_)
      · refine aw_vret C hQe ?_ (by omega) (by omega) dX7_count_65
        have he : dk d = dk S.la := by rw [← hne]; exact (kv_eq0 hd hln .l).mp c_44
        obtain ⟨ec, em⟩ := cm_B (sc := sc) (d := d) hI hR h0 q8 hw he
        exact ⟨rfl, ⟨X.wT (X.T + 1), by rw [ec]; exact (hM1.wt _), em, rfl⟩, hF1⟩
      · refine aw_aload_n C dX7_count_47 rfl ?_
        refine aw_aload_n C dX7_count_48 rfl ?_
        refine aw_get C f240 hM1.mo rfl dX7_count_49 ?_
        refine aw_dload_n C dX7_count_52 rfl ?_
        refine aw_dcmp C dX7_count_53 ?_
        refine aw_if_ge C (tgt := 61) dX7_count_54 (by decide) (fun c_54 => ?_) (fun c_54 => ?_)
        · refine aw_iconst C (v := 1) (by decide) dX7_count_61 ?_
          refine aw_eqi (y := nI 1) rfl ?_
          refine aw_callV (n := 1) C hE (ci := 9) (q := (RX7, TX7, 22)) (k_X7_win (i := j) (u := 1) B hM1 hI hj (by decide) (p1.trans h2)) gX7_count_X7_win rfl ⟨rfl, rfl⟩ (by decide +kernel) ⟨by decide, by decide⟩ rfl rfl hM1.mo rfl (Nat.le_of_ble_eq_true rfl) dX7_count_62 ⟨by decide, by decide⟩ (fun v μ' hp => ?_)
          obtain ⟨rfl, hM2, hG2⟩ := hp
          have hF2 : FrM K S.nA S.nQ μ _ := hF1.tr hG2
          refine aw_st (st' := []) rfl ?_
          refine aw_vret C hQe ?_ (by omega) (by omega) dX7_count_65
          have he : ¬ dk d = dk S.la := by rw [← hne]; exact fun q => c_44 ((kv_eq0 hd hln .l).mpr q)
          have ec := cm_C (sc := sc) (d := d) hI hR h0 q8 hw he (i := j) (by omega) (by rw [if_neg (fun q => by have z := (kv_ge0 hln hd .g).mp c_54; rw [hne] at z; omega)]; exact h2)
          exact ⟨rfl, ⟨(X.wT (X.T + 1)).wpa (upd (upd X.pa 0 (-1)) 1 (-1)), by rw [ec, cmW_eq (by omega)]; exact hM2.wt _, by rw [ec]; exact MR_win (by omega) (Nat.succ_le_succ hR.1) rfl, rfl⟩, hF2⟩
        · refine aw_iconst C (v := 0) (by decide) dX7_count_57 ?_
          refine aw_goto C (tgt := 62) dX7_count_58 (by decide) ?_
          refine aw_eqi (y := nI 0) rfl ?_
          refine aw_callV (n := 1) C hE (ci := 9) (q := (RX7, TX7, 22)) (k_X7_win (i := i) (u := 0) B hM1 hI hi (by decide) (p0.trans h1)) gX7_count_X7_win rfl ⟨rfl, rfl⟩ (by decide +kernel) ⟨by decide, by decide⟩ rfl rfl hM1.mo rfl (Nat.le_of_ble_eq_true rfl) dX7_count_62 ⟨by decide, by decide⟩ (fun v μ' hp => ?_)
          obtain ⟨rfl, hM2, hG2⟩ := hp
          have hF2 : FrM K S.nA S.nQ μ _ := hF1.tr hG2
          refine aw_st (st' := []) rfl ?_
          refine aw_vret C hQe ?_ (by omega) (by omega) dX7_count_65
          have he : ¬ dk d = dk S.la := by rw [← hne]; exact fun q => c_44 ((kv_eq0 hd hln .l).mpr q)
          have ec := cm_C (sc := sc) (d := d) hI hR h0 q8 hw he (i := i) (by omega) (by rw [if_pos (by have z := Int.not_le.mp (fun y => c_54 ((kv_ge0 hln hd .g).mpr y)); rw [hne] at z; exact z)]; exact h1)
          exact ⟨rfl, ⟨(X.wT (X.T + 1)).wpa (upd (upd X.pa 0 (-1)) 1 (-1)), by rw [ec, cmW_eq (by omega)]; exact hM2.wt _, by rw [ec]; exact MR_win (by omega) (Nat.succ_le_succ hR.1) rfl, rfl⟩, hF2⟩
    · have hw : X.T % 2 = 0 := nI_inj (b := 0) (by omega) (by decide) c_27
      refine aw_aload_n C dX7_count_30 rfl ?_
      refine aw_dload_n C dX7_count_31 rfl ?_
      refine aw_putE C f240 ftX7 (ty := .double) (by decide +kernel) rfl rfl hM1.mo (Nat.le_of_ble_eq_true rfl) (fs' := [.int X.th, .ref (K 1 0), .ref (K 2 0), .int (S.c 4), .int (S.c 5), .int (S.c 6), .int (S.c 9), .int (S.c 10), .int (S.c 8), .int (S.c 13), .int (S.c 7), .int (S.c 11), .int (S.c 14), .ref (K 3 0), .ref (K 4 0), .ref (K 5 0), .double d, .int (nI (X.T + 1)), .int X.il, .double X.h, .double X.v, .long X.sm]) rfl dX7_count_32 ?_
      refine aw_re (P := fun μ1 => RM g K e0 S ((X.wT (X.T + 1)).wne d) μ1 ∧ FrM K S.nA S.nQ μ μ1) ⟨hM1.setX ((X.wT (X.T + 1)).wne d) rfl rfl rfl, hF1.mpw (m0 (by decide))⟩ (fun μ2 hq => ?_)
      obtain ⟨hM2, hF2⟩ := hq
      refine aw_goto C (tgt := 65) dX7_count_35 (by decide) ?_
      refine aw_vret C hQe ?_ (by omega) (by omega) dX7_count_65
      obtain ⟨ec, em⟩ := cm_A (sc := sc) (d := d) hI hR h0 q8 hw
      exact ⟨rfl, ⟨(X.wT (X.T + 1)).wne d, by rw [ec]; exact ((hM2.wt _).wla _), em, rfl⟩, hF2⟩
end KM4
